abbrev rm_X10_branch : Room := { frames := 5, cells := 0, slots := 0, locals := 110 }
def sp_X10_branch (a0 : Int32) (S : gSt) : Int32 × gSt := gB (sp_X10_fetch S) (fun r1 S1 => (if 2 ≤ a0 then (if 4 ≤ a0 then (if 6 ≤ a0 then (if ((S1.1 5) &&& 2) = 0 then (if (a0 &&& 1) = 1 then (2, S1) else (if 128 ≤ r1 then gL (sI S1 6 (((S1.1 6) + (r1 - 256)) &&& 65535)) (fun S2 => (if ((S2.1 6) ^^^ (S1.1 6)) ≤ 255 then (3, S2) else (4, S2))) else gL (sI S1 6 (((S1.1 6) + r1) &&& 65535)) (fun S3 => (if ((S3.1 6) ^^^ (S1.1 6)) ≤ 255 then (3, S3) else (4, S3))))) else (if (a0 &&& 1) = 1 then (if 128 ≤ r1 then gL (sI S1 6 (((S1.1 6) + (r1 - 256)) &&& 65535)) (fun S4 => (if ((S4.1 6) ^^^ (S1.1 6)) ≤ 255 then (3, S4) else (4, S4))) else gL (sI S1 6 (((S1.1 6) + r1) &&& 65535)) (fun S5 => (if ((S5.1 6) ^^^ (S1.1 6)) ≤ 255 then (3, S5) else (4, S5)))) else (2, S1))) else (if ((S1.1 5) &&& 1) = 0 then (if (a0 &&& 1) = 1 then (2, S1) else (if 128 ≤ r1 then gL (sI S1 6 (((S1.1 6) + (r1 - 256)) &&& 65535)) (fun S6 => (if ((S6.1 6) ^^^ (S1.1 6)) ≤ 255 then (3, S6) else (4, S6))) else gL (sI S1 6 (((S1.1 6) + r1) &&& 65535)) (fun S7 => (if ((S7.1 6) ^^^ (S1.1 6)) ≤ 255 then (3, S7) else (4, S7))))) else (if (a0 &&& 1) = 1 then (if 128 ≤ r1 then gL (sI S1 6 (((S1.1 6) + (r1 - 256)) &&& 65535)) (fun S8 => (if ((S8.1 6) ^^^ (S1.1 6)) ≤ 255 then (3, S8) else (4, S8))) else gL (sI S1 6 (((S1.1 6) + r1) &&& 65535)) (fun S9 => (if ((S9.1 6) ^^^ (S1.1 6)) ≤ 255 then (3, S9) else (4, S9)))) else (2, S1)))) else (if ((S1.1 5) &&& 64) = 0 then (if (a0 &&& 1) = 1 then (2, S1) else (if 128 ≤ r1 then gL (sI S1 6 (((S1.1 6) + (r1 - 256)) &&& 65535)) (fun S10 => (if ((S10.1 6) ^^^ (S1.1 6)) ≤ 255 then (3, S10) else (4, S10))) else gL (sI S1 6 (((S1.1 6) + r1) &&& 65535)) (fun S11 => (if ((S11.1 6) ^^^ (S1.1 6)) ≤ 255 then (3, S11) else (4, S11))))) else (if (a0 &&& 1) = 1 then (if 128 ≤ r1 then gL (sI S1 6 (((S1.1 6) + (r1 - 256)) &&& 65535)) (fun S12 => (if ((S12.1 6) ^^^ (S1.1 6)) ≤ 255 then (3, S12) else (4, S12))) else gL (sI S1 6 (((S1.1 6) + r1) &&& 65535)) (fun S13 => (if ((S13.1 6) ^^^ (S1.1 6)) ≤ 255 then (3, S13) else (4, S13)))) else (2, S1)))) else (if ((S1.1 5) &&& 128) = 0 then (if (a0 &&& 1) = 1 then (2, S1) else (if 128 ≤ r1 then gL (sI S1 6 (((S1.1 6) + (r1 - 256)) &&& 65535)) (fun S14 => (if ((S14.1 6) ^^^ (S1.1 6)) ≤ 255 then (3, S14) else (4, S14))) else gL (sI S1 6 (((S1.1 6) + r1) &&& 65535)) (fun S15 => (if ((S15.1 6) ^^^ (S1.1 6)) ≤ 255 then (3, S15) else (4, S15))))) else (if (a0 &&& 1) = 1 then (if 128 ≤ r1 then gL (sI S1 6 (((S1.1 6) + (r1 - 256)) &&& 65535)) (fun S16 => (if ((S16.1 6) ^^^ (S1.1 6)) ≤ 255 then (3, S16) else (4, S16))) else gL (sI S1 6 (((S1.1 6) + r1) &&& 65535)) (fun S17 => (if ((S17.1 6) ^^^ (S1.1 6)) ≤ 255 then (3, S17) else (4, S17)))) else (2, S1)))))
def ok_X10_branch (a0 : Int32) (S : gSt) : Prop := (ok_X10_fetch S ∧ ∀ (r1 : Int32) (S1 : gSt), r1 = (sp_X10_fetch S).1 → S1 = (sp_X10_fetch S).2 → ((2 ≤ a0 → ((4 ≤ a0 → ((6 ≤ a0 → ((((S1.1 5) &&& 2) = 0 → (((a0 &&& 1) = 1 → True) ∧ (¬ (a0 &&& 1) = 1 → ((128 ≤ r1 → ∀ S2 : gSt, S2 = sI S1 6 (((S1.1 6) + (r1 - 256)) &&& 65535) → ((((S2.1 6) ^^^ (S1.1 6)) ≤ 255 → True) ∧ (¬ ((S2.1 6) ^^^ (S1.1 6)) ≤ 255 → True))) ∧ (¬ 128 ≤ r1 → ∀ S3 : gSt, S3 = sI S1 6 (((S1.1 6) + r1) &&& 65535) → ((((S3.1 6) ^^^ (S1.1 6)) ≤ 255 → True) ∧ (¬ ((S3.1 6) ^^^ (S1.1 6)) ≤ 255 → True))))))) ∧ (¬ ((S1.1 5) &&& 2) = 0 → (((a0 &&& 1) = 1 → ((128 ≤ r1 → ∀ S4 : gSt, S4 = sI S1 6 (((S1.1 6) + (r1 - 256)) &&& 65535) → ((((S4.1 6) ^^^ (S1.1 6)) ≤ 255 → True) ∧ (¬ ((S4.1 6) ^^^ (S1.1 6)) ≤ 255 → True))) ∧ (¬ 128 ≤ r1 → ∀ S5 : gSt, S5 = sI S1 6 (((S1.1 6) + r1) &&& 65535) → ((((S5.1 6) ^^^ (S1.1 6)) ≤ 255 → True) ∧ (¬ ((S5.1 6) ^^^ (S1.1 6)) ≤ 255 → True))))) ∧ (¬ (a0 &&& 1) = 1 → True))))) ∧ (¬ 6 ≤ a0 → ((((S1.1 5) &&& 1) = 0 → (((a0 &&& 1) = 1 → True) ∧ (¬ (a0 &&& 1) = 1 → ((128 ≤ r1 → ∀ S6 : gSt, S6 = sI S1 6 (((S1.1 6) + (r1 - 256)) &&& 65535) → ((((S6.1 6) ^^^ (S1.1 6)) ≤ 255 → True) ∧ (¬ ((S6.1 6) ^^^ (S1.1 6)) ≤ 255 → True))) ∧ (¬ 128 ≤ r1 → ∀ S7 : gSt, S7 = sI S1 6 (((S1.1 6) + r1) &&& 65535) → ((((S7.1 6) ^^^ (S1.1 6)) ≤ 255 → True) ∧ (¬ ((S7.1 6) ^^^ (S1.1 6)) ≤ 255 → True))))))) ∧ (¬ ((S1.1 5) &&& 1) = 0 → (((a0 &&& 1) = 1 → ((128 ≤ r1 → ∀ S8 : gSt, S8 = sI S1 6 (((S1.1 6) + (r1 - 256)) &&& 65535) → ((((S8.1 6) ^^^ (S1.1 6)) ≤ 255 → True) ∧ (¬ ((S8.1 6) ^^^ (S1.1 6)) ≤ 255 → True))) ∧ (¬ 128 ≤ r1 → ∀ S9 : gSt, S9 = sI S1 6 (((S1.1 6) + r1) &&& 65535) → ((((S9.1 6) ^^^ (S1.1 6)) ≤ 255 → True) ∧ (¬ ((S9.1 6) ^^^ (S1.1 6)) ≤ 255 → True))))) ∧ (¬ (a0 &&& 1) = 1 → True))))))) ∧ (¬ 4 ≤ a0 → ((((S1.1 5) &&& 64) = 0 → (((a0 &&& 1) = 1 → True) ∧ (¬ (a0 &&& 1) = 1 → ((128 ≤ r1 → ∀ S10 : gSt, S10 = sI S1 6 (((S1.1 6) + (r1 - 256)) &&& 65535) → ((((S10.1 6) ^^^ (S1.1 6)) ≤ 255 → True) ∧ (¬ ((S10.1 6) ^^^ (S1.1 6)) ≤ 255 → True))) ∧ (¬ 128 ≤ r1 → ∀ S11 : gSt, S11 = sI S1 6 (((S1.1 6) + r1) &&& 65535) → ((((S11.1 6) ^^^ (S1.1 6)) ≤ 255 → True) ∧ (¬ ((S11.1 6) ^^^ (S1.1 6)) ≤ 255 → True))))))) ∧ (¬ ((S1.1 5) &&& 64) = 0 → (((a0 &&& 1) = 1 → ((128 ≤ r1 → ∀ S12 : gSt, S12 = sI S1 6 (((S1.1 6) + (r1 - 256)) &&& 65535) → ((((S12.1 6) ^^^ (S1.1 6)) ≤ 255 → True) ∧ (¬ ((S12.1 6) ^^^ (S1.1 6)) ≤ 255 → True))) ∧ (¬ 128 ≤ r1 → ∀ S13 : gSt, S13 = sI S1 6 (((S1.1 6) + r1) &&& 65535) → ((((S13.1 6) ^^^ (S1.1 6)) ≤ 255 → True) ∧ (¬ ((S13.1 6) ^^^ (S1.1 6)) ≤ 255 → True))))) ∧ (¬ (a0 &&& 1) = 1 → True))))))) ∧ (¬ 2 ≤ a0 → ((((S1.1 5) &&& 128) = 0 → (((a0 &&& 1) = 1 → True) ∧ (¬ (a0 &&& 1) = 1 → ((128 ≤ r1 → ∀ S14 : gSt, S14 = sI S1 6 (((S1.1 6) + (r1 - 256)) &&& 65535) → ((((S14.1 6) ^^^ (S1.1 6)) ≤ 255 → True) ∧ (¬ ((S14.1 6) ^^^ (S1.1 6)) ≤ 255 → True))) ∧ (¬ 128 ≤ r1 → ∀ S15 : gSt, S15 = sI S1 6 (((S1.1 6) + r1) &&& 65535) → ((((S15.1 6) ^^^ (S1.1 6)) ≤ 255 → True) ∧ (¬ ((S15.1 6) ^^^ (S1.1 6)) ≤ 255 → True))))))) ∧ (¬ ((S1.1 5) &&& 128) = 0 → (((a0 &&& 1) = 1 → ((128 ≤ r1 → ∀ S16 : gSt, S16 = sI S1 6 (((S1.1 6) + (r1 - 256)) &&& 65535) → ((((S16.1 6) ^^^ (S1.1 6)) ≤ 255 → True) ∧ (¬ ((S16.1 6) ^^^ (S1.1 6)) ≤ 255 → True))) ∧ (¬ 128 ≤ r1 → ∀ S17 : gSt, S17 = sI S1 6 (((S1.1 6) + r1) &&& 65535) → ((((S17.1 6) ^^^ (S1.1 6)) ≤ 255 → True) ∧ (¬ ((S17.1 6) ^^^ (S1.1 6)) ≤ 255 → True))))) ∧ (¬ (a0 &&& 1) = 1 → True)))))))
set_option maxRecDepth 100000 in
set_option maxHeartbeats 4000000 in
theorem c_X10_branch (l : Launch) (η : gE) (a0 : Int32) (S : gSt) (ho : ok_X10_branch a0 S) : gMet l yX10_branch cX10_branch 5 (some .int) rm_X10_branch (oM η) [.ref (η.1 0), .int a0] S (oI (sp_X10_branch a0 S).1) (sp_X10_branch a0 S).2 := by
  refine gMet_of (X := sp_X10_branch a0 S) (lv := [(0, .ref (η.1 0)), (1, .int a0)]) oI zM_ok (by decide +kernel) (Nat.le_of_ble_eq_true rfl) rfl (fun κ hc => ?_)
  have hc : gC (oM η) κ cX10_branch 5 RX10 (some .int) rm_X10_branch := hc
  unfold sp_X10_branch
  unfold ok_X10_branch at ho
  refine g_aload_n (i := 0) hc 0 dX10_branch_0 rfl rfl ?_
  refine g_callVI hc 0 [] (fun l => c_X10_fetch l η S ho.1) wtM_128 ge_X10_fetch rfl ⟨rfl, rfl⟩ ⟨Nat.le_of_ble_eq_true rfl, Nat.le_of_ble_eq_true rfl⟩ rfl rfl rfl (Nat.le_of_ble_eq_true rfl) dX10_branch_1 (fun r1 S1 e1 f1 => ?_)
  have ho := ho.2 r1 S1 e1 f1
  refine g_istore_n (i := 2) (lv' := [(2, .int r1), (0, .ref (η.1 0)), (1, .int a0)]) hc dX10_branch_4 rfl (by decide) rfl ?_
  refine g_iload_n (i := 1) hc 2 dX10_branch_5 rfl rfl ?_
  refine g_iconst (v := 2) hc dX10_branch_6 (by decide) ?_
  refine g_icmpge (tgt := 16) hc dX10_branch_7 rfl (fun c_7 => ?_) (fun c_7 => ?_)
  · have ho := ho.1 c_7
    refine g_iload_n (i := 1) hc 2 dX10_branch_16 rfl rfl ?_
    refine g_iconst (v := 4) hc dX10_branch_17 (by decide) ?_
    refine g_icmpge (tgt := 26) hc dX10_branch_18 rfl (fun c_18 => ?_) (fun c_18 => ?_)
    · have ho := ho.1 c_18
      refine g_iload_n (i := 1) hc 2 dX10_branch_26 rfl rfl ?_
      refine g_bipush (v := 6) hc dX10_branch_27 (by decide) ?_
      refine g_icmpge (tgt := 36) hc dX10_branch_29 rfl (fun c_29 => ?_) (fun c_29 => ?_)
      · have ho := ho.1 c_29
        refine g_iconst (v := 2) hc dX10_branch_36 (by decide) ?_
        refine g_istore_n (i := 3) (lv' := [(3, .int 2), (2, .int r1), (0, .ref (η.1 0)), (1, .int a0)]) hc dX10_branch_37 rfl (by decide) rfl ?_
        refine g_aload_n (i := 0) hc 2 dX10_branch_38 rfl rfl ?_
        refine gf_M_0_p hc wtM_138 dX10_branch_39 ?_
        refine g_iload_n (i := 3) hc 0 dX10_branch_42 rfl rfl ?_
        refine g_iand hc dX10_branch_43 ?_
        refine g_ifeq (tgt := 51) hc dX10_branch_44 rfl (fun c_44 => ?_) (fun c_44 => ?_)
        · have ho := ho.1 c_44
          refine g_iconst (v := 0) hc dX10_branch_51 (by decide) ?_
          refine g_iload_n (i := 1) hc 3 dX10_branch_52 rfl rfl ?_
          refine g_iconst (v := 1) hc dX10_branch_53 (by decide) ?_
          refine g_iand hc dX10_branch_54 ?_
          refine g_iconst (v := 1) hc dX10_branch_55 (by decide) ?_
          refine g_icmpne (tgt := 63) hc dX10_branch_56 rfl (fun c_56 => ?_) (fun c_56 => ?_)
          · have ho := ho.1 c_56
            refine g_iconst (v := 1) hc dX10_branch_59 (by decide) ?_
            refine g_goto (tgt := 64) hc dX10_branch_60 rfl ?_
            refine g_icmpeq_f (tgt := 69) hc dX10_branch_64 rfl (by decide) ?_
            refine g_iconst (v := 2) hc dX10_branch_67 (by decide) ?_
            exact g_iret hc dX10_branch_68
          · have ho := ho.2 c_56
            refine g_iconst (v := 0) hc dX10_branch_63 (by decide) ?_
            refine g_icmpeq_t (tgt := 69) hc dX10_branch_64 rfl (by decide) ?_
            refine g_aload_n (i := 0) hc 2 dX10_branch_69 rfl rfl ?_
            refine gf_M_0_pc hc wtM_124 dX10_branch_70 ?_
            refine g_istore (i := 4) (lv' := [(4, .int (S1.1 6)), (3, .int 2), (2, .int r1), (0, .ref (η.1 0)), (1, .int a0)]) hc dX10_branch_73 (by decide) rfl ?_
            refine g_aload_n (i := 0) hc 3 dX10_branch_75 rfl rfl ?_
            refine g_aload_n (i := 0) hc 3 dX10_branch_76 rfl rfl ?_
            refine gf_M_0_pc hc wtM_124 dX10_branch_77 ?_
            refine g_iload_n (i := 2) hc 2 dX10_branch_80 rfl rfl ?_
            refine g_sipush (v := 128) hc dX10_branch_81 (by decide) ?_
            refine g_icmpge (tgt := 91) hc dX10_branch_84 rfl (fun c_84 => ?_) (fun c_84 => ?_)
            · have ho := ho.1 c_84
              refine g_iload_n (i := 2) hc 2 dX10_branch_91 rfl rfl ?_
              refine g_sipush (v := 256) hc dX10_branch_92 (by decide) ?_
              refine g_isub hc dX10_branch_95 ?_
              refine g_iadd hc dX10_branch_96 ?_
              refine g_ldc (v := 65535) hc wtM_112 dX10_branch_97 ?_
              refine g_iand hc dX10_branch_99 ?_
              refine pf_M_0_pc (v := (((S1.1 6) + (r1 - 256)) &&& 65535)) hc wtM_124 dX10_branch_100 (fun S2 f2 => ?_)
              have ho := ho S2 f2
              refine g_aload_n (i := 0) hc 3 dX10_branch_103 rfl rfl ?_
              refine gf_M_0_pc hc wtM_124 dX10_branch_104 ?_
              refine g_iload (i := 4) hc 0 dX10_branch_107 rfl ?_
              refine g_ixor hc dX10_branch_109 ?_
              refine g_sipush (v := 255) hc dX10_branch_110 (by decide) ?_
              refine g_icmple (tgt := 120) hc dX10_branch_113 rfl (fun c_113 => ?_) (fun c_113 => ?_)
              · have ho := ho.1 c_113
                refine g_iconst (v := 3) hc dX10_branch_120 (by decide) ?_
                exact g_iret hc dX10_branch_121
              · have ho := ho.2 c_113
                refine g_iconst (v := 4) hc dX10_branch_116 (by decide) ?_
                refine g_goto (tgt := 121) hc dX10_branch_117 rfl ?_
                exact g_iret hc dX10_branch_121
            · have ho := ho.2 c_84
              refine g_iload_n (i := 2) hc 2 dX10_branch_87 rfl rfl ?_
              refine g_goto (tgt := 96) hc dX10_branch_88 rfl ?_
              refine g_iadd hc dX10_branch_96 ?_
              refine g_ldc (v := 65535) hc wtM_112 dX10_branch_97 ?_
              refine g_iand hc dX10_branch_99 ?_
              refine pf_M_0_pc (v := (((S1.1 6) + r1) &&& 65535)) hc wtM_124 dX10_branch_100 (fun S3 f3 => ?_)
              have ho := ho S3 f3
              refine g_aload_n (i := 0) hc 3 dX10_branch_103 rfl rfl ?_
              refine gf_M_0_pc hc wtM_124 dX10_branch_104 ?_
              refine g_iload (i := 4) hc 0 dX10_branch_107 rfl ?_
              refine g_ixor hc dX10_branch_109 ?_
              refine g_sipush (v := 255) hc dX10_branch_110 (by decide) ?_
              refine g_icmple (tgt := 120) hc dX10_branch_113 rfl (fun c_113 => ?_) (fun c_113 => ?_)
              · have ho := ho.1 c_113
                refine g_iconst (v := 3) hc dX10_branch_120 (by decide) ?_
                exact g_iret hc dX10_branch_121
              · have ho := ho.2 c_113
                refine g_iconst (v := 4) hc dX10_branch_116 (by decide) ?_
                refine g_goto (tgt := 121) hc dX10_branch_117 rfl ?_
                exact g_iret hc dX10_branch_121
        · have ho := ho.2 c_44
          refine g_iconst (v := 1) hc dX10_branch_47 (by decide) ?_
          refine g_goto (tgt := 52) hc dX10_branch_48 rfl ?_
          refine g_iload_n (i := 1) hc 3 dX10_branch_52 rfl rfl ?_
          refine g_iconst (v := 1) hc dX10_branch_53 (by decide) ?_
          refine g_iand hc dX10_branch_54 ?_
          refine g_iconst (v := 1) hc dX10_branch_55 (by decide) ?_
          refine g_icmpne (tgt := 63) hc dX10_branch_56 rfl (fun c_56 => ?_) (fun c_56 => ?_)
          · have ho := ho.1 c_56
            refine g_iconst (v := 1) hc dX10_branch_59 (by decide) ?_
            refine g_goto (tgt := 64) hc dX10_branch_60 rfl ?_
            refine g_icmpeq_t (tgt := 69) hc dX10_branch_64 rfl (by decide) ?_
            refine g_aload_n (i := 0) hc 2 dX10_branch_69 rfl rfl ?_
            refine gf_M_0_pc hc wtM_124 dX10_branch_70 ?_
            refine g_istore (i := 4) (lv' := [(4, .int (S1.1 6)), (3, .int 2), (2, .int r1), (0, .ref (η.1 0)), (1, .int a0)]) hc dX10_branch_73 (by decide) rfl ?_
            refine g_aload_n (i := 0) hc 3 dX10_branch_75 rfl rfl ?_
            refine g_aload_n (i := 0) hc 3 dX10_branch_76 rfl rfl ?_
            refine gf_M_0_pc hc wtM_124 dX10_branch_77 ?_
            refine g_iload_n (i := 2) hc 2 dX10_branch_80 rfl rfl ?_
            refine g_sipush (v := 128) hc dX10_branch_81 (by decide) ?_
            refine g_icmpge (tgt := 91) hc dX10_branch_84 rfl (fun c_84 => ?_) (fun c_84 => ?_)
            · have ho := ho.1 c_84
              refine g_iload_n (i := 2) hc 2 dX10_branch_91 rfl rfl ?_
              refine g_sipush (v := 256) hc dX10_branch_92 (by decide) ?_
              refine g_isub hc dX10_branch_95 ?_
              refine g_iadd hc dX10_branch_96 ?_
              refine g_ldc (v := 65535) hc wtM_112 dX10_branch_97 ?_
              refine g_iand hc dX10_branch_99 ?_
              refine pf_M_0_pc (v := (((S1.1 6) + (r1 - 256)) &&& 65535)) hc wtM_124 dX10_branch_100 (fun S4 f4 => ?_)
              have ho := ho S4 f4
              refine g_aload_n (i := 0) hc 3 dX10_branch_103 rfl rfl ?_
              refine gf_M_0_pc hc wtM_124 dX10_branch_104 ?_
              refine g_iload (i := 4) hc 0 dX10_branch_107 rfl ?_
              refine g_ixor hc dX10_branch_109 ?_
              refine g_sipush (v := 255) hc dX10_branch_110 (by decide) ?_
              refine g_icmple (tgt := 120) hc dX10_branch_113 rfl (fun c_113 => ?_) (fun c_113 => ?_)
              · have ho := ho.1 c_113
                refine g_iconst (v := 3) hc dX10_branch_120 (by decide) ?_
                exact g_iret hc dX10_branch_121
              · have ho := ho.2 c_113
                refine g_iconst (v := 4) hc dX10_branch_116 (by decide) ?_
                refine g_goto (tgt := 121) hc dX10_branch_117 rfl ?_
                exact g_iret hc dX10_branch_121
            · have ho := ho.2 c_84
              refine g_iload_n (i := 2) hc 2 dX10_branch_87 rfl rfl ?_
              refine g_goto (tgt := 96) hc dX10_branch_88 rfl ?_
              refine g_iadd hc dX10_branch_96 ?_
              refine g_ldc (v := 65535) hc wtM_112 dX10_branch_97 ?_
              refine g_iand hc dX10_branch_99 ?_
              refine pf_M_0_pc (v := (((S1.1 6) + r1) &&& 65535)) hc wtM_124 dX10_branch_100 (fun S5 f5 => ?_)
              have ho := ho S5 f5
              refine g_aload_n (i := 0) hc 3 dX10_branch_103 rfl rfl ?_
              refine gf_M_0_pc hc wtM_124 dX10_branch_104 ?_
              refine g_iload (i := 4) hc 0 dX10_branch_107 rfl ?_
              refine g_ixor hc dX10_branch_109 ?_
              refine g_sipush (v := 255) hc dX10_branch_110 (by decide) ?_
              refine g_icmple (tgt := 120) hc dX10_branch_113 rfl (fun c_113 => ?_) (fun c_113 => ?_)
              · have ho := ho.1 c_113
                refine g_iconst (v := 3) hc dX10_branch_120 (by decide) ?_
                exact g_iret hc dX10_branch_121
              · have ho := ho.2 c_113
                refine g_iconst (v := 4) hc dX10_branch_116 (by decide) ?_
                refine g_goto (tgt := 121) hc dX10_branch_117 rfl ?_
                exact g_iret hc dX10_branch_121
          · have ho := ho.2 c_56
            refine g_iconst (v := 0) hc dX10_branch_63 (by decide) ?_
            refine g_icmpeq_f (tgt := 69) hc dX10_branch_64 rfl (by decide) ?_
            refine g_iconst (v := 2) hc dX10_branch_67 (by decide) ?_
            exact g_iret hc dX10_branch_68
      · have ho := ho.2 c_29
        refine g_iconst (v := 1) hc dX10_branch_32 (by decide) ?_
        refine g_goto (tgt := 37) hc dX10_branch_33 rfl ?_
        refine g_istore_n (i := 3) (lv' := [(3, .int 1), (2, .int r1), (0, .ref (η.1 0)), (1, .int a0)]) hc dX10_branch_37 rfl (by decide) rfl ?_
        refine g_aload_n (i := 0) hc 2 dX10_branch_38 rfl rfl ?_
        refine gf_M_0_p hc wtM_138 dX10_branch_39 ?_
        refine g_iload_n (i := 3) hc 0 dX10_branch_42 rfl rfl ?_
        refine g_iand hc dX10_branch_43 ?_
        refine g_ifeq (tgt := 51) hc dX10_branch_44 rfl (fun c_44 => ?_) (fun c_44 => ?_)
        · have ho := ho.1 c_44
          refine g_iconst (v := 0) hc dX10_branch_51 (by decide) ?_
          refine g_iload_n (i := 1) hc 3 dX10_branch_52 rfl rfl ?_
          refine g_iconst (v := 1) hc dX10_branch_53 (by decide) ?_
          refine g_iand hc dX10_branch_54 ?_
          refine g_iconst (v := 1) hc dX10_branch_55 (by decide) ?_
          refine g_icmpne (tgt := 63) hc dX10_branch_56 rfl (fun c_56 => ?_) (fun c_56 => ?_)
          · have ho := ho.1 c_56
            refine g_iconst (v := 1) hc dX10_branch_59 (by decide) ?_
            refine g_goto (tgt := 64) hc dX10_branch_60 rfl ?_
            refine g_icmpeq_f (tgt := 69) hc dX10_branch_64 rfl (by decide) ?_
            refine g_iconst (v := 2) hc dX10_branch_67 (by decide) ?_
            exact g_iret hc dX10_branch_68
          · have ho := ho.2 c_56
            refine g_iconst (v := 0) hc dX10_branch_63 (by decide) ?_
            refine g_icmpeq_t (tgt := 69) hc dX10_branch_64 rfl (by decide) ?_
            refine g_aload_n (i := 0) hc 2 dX10_branch_69 rfl rfl ?_
            refine gf_M_0_pc hc wtM_124 dX10_branch_70 ?_
            refine g_istore (i := 4) (lv' := [(4, .int (S1.1 6)), (3, .int 1), (2, .int r1), (0, .ref (η.1 0)), (1, .int a0)]) hc dX10_branch_73 (by decide) rfl ?_
            refine g_aload_n (i := 0) hc 3 dX10_branch_75 rfl rfl ?_
            refine g_aload_n (i := 0) hc 3 dX10_branch_76 rfl rfl ?_
            refine gf_M_0_pc hc wtM_124 dX10_branch_77 ?_
            refine g_iload_n (i := 2) hc 2 dX10_branch_80 rfl rfl ?_
            refine g_sipush (v := 128) hc dX10_branch_81 (by decide) ?_
            refine g_icmpge (tgt := 91) hc dX10_branch_84 rfl (fun c_84 => ?_) (fun c_84 => ?_)
            · have ho := ho.1 c_84
              refine g_iload_n (i := 2) hc 2 dX10_branch_91 rfl rfl ?_
              refine g_sipush (v := 256) hc dX10_branch_92 (by decide) ?_
              refine g_isub hc dX10_branch_95 ?_
              refine g_iadd hc dX10_branch_96 ?_
              refine g_ldc (v := 65535) hc wtM_112 dX10_branch_97 ?_
              refine g_iand hc dX10_branch_99 ?_
              refine pf_M_0_pc (v := (((S1.1 6) + (r1 - 256)) &&& 65535)) hc wtM_124 dX10_branch_100 (fun S6 f6 => ?_)
              have ho := ho S6 f6
              refine g_aload_n (i := 0) hc 3 dX10_branch_103 rfl rfl ?_
              refine gf_M_0_pc hc wtM_124 dX10_branch_104 ?_
              refine g_iload (i := 4) hc 0 dX10_branch_107 rfl ?_
              refine g_ixor hc dX10_branch_109 ?_
              refine g_sipush (v := 255) hc dX10_branch_110 (by decide) ?_
              refine g_icmple (tgt := 120) hc dX10_branch_113 rfl (fun c_113 => ?_) (fun c_113 => ?_)
              · have ho := ho.1 c_113
                refine g_iconst (v := 3) hc dX10_branch_120 (by decide) ?_
                exact g_iret hc dX10_branch_121
              · have ho := ho.2 c_113
                refine g_iconst (v := 4) hc dX10_branch_116 (by decide) ?_
                refine g_goto (tgt := 121) hc dX10_branch_117 rfl ?_
                exact g_iret hc dX10_branch_121
            · have ho := ho.2 c_84
              refine g_iload_n (i := 2) hc 2 dX10_branch_87 rfl rfl ?_
              refine g_goto (tgt := 96) hc dX10_branch_88 rfl ?_
              refine g_iadd hc dX10_branch_96 ?_
              refine g_ldc (v := 65535) hc wtM_112 dX10_branch_97 ?_
              refine g_iand hc dX10_branch_99 ?_
              refine pf_M_0_pc (v := (((S1.1 6) + r1) &&& 65535)) hc wtM_124 dX10_branch_100 (fun S7 f7 => ?_)
              have ho := ho S7 f7
              refine g_aload_n (i := 0) hc 3 dX10_branch_103 rfl rfl ?_
              refine gf_M_0_pc hc wtM_124 dX10_branch_104 ?_
              refine g_iload (i := 4) hc 0 dX10_branch_107 rfl ?_
              refine g_ixor hc dX10_branch_109 ?_
              refine g_sipush (v := 255) hc dX10_branch_110 (by decide) ?_
              refine g_icmple (tgt := 120) hc dX10_branch_113 rfl (fun c_113 => ?_) (fun c_113 => ?_)
              · have ho := ho.1 c_113
                refine g_iconst (v := 3) hc dX10_branch_120 (by decide) ?_
                exact g_iret hc dX10_branch_121
              · have ho := ho.2 c_113
                refine g_iconst (v := 4) hc dX10_branch_116 (by decide) ?_
                refine g_goto (tgt := 121) hc dX10_branch_117 rfl ?_
                exact g_iret hc dX10_branch_121
        · have ho := ho.2 c_44
          refine g_iconst (v := 1) hc dX10_branch_47 (by decide) ?_
          refine g_goto (tgt := 52) hc dX10_branch_48 rfl ?_
          refine g_iload_n (i := 1) hc 3 dX10_branch_52 rfl rfl ?_
          refine g_iconst (v := 1) hc dX10_branch_53 (by decide) ?_
          refine g_iand hc dX10_branch_54 ?_
          refine g_iconst (v := 1) hc dX10_branch_55 (by decide) ?_
          refine g_icmpne (tgt := 63) hc dX10_branch_56 rfl (fun c_56 => ?_) (fun c_56 => ?_)
          · have ho := ho.1 c_56
            refine g_iconst (v := 1) hc dX10_branch_59 (by decide) ?_
            refine g_goto (tgt := 64) hc dX10_branch_60 rfl ?_
            refine g_icmpeq_t (tgt := 69) hc dX10_branch_64 rfl (by decide) ?_
            refine g_aload_n (i := 0) hc 2 dX10_branch_69 rfl rfl ?_
            refine gf_M_0_pc hc wtM_124 dX10_branch_70 ?_
            refine g_istore (i := 4) (lv' := [(4, .int (S1.1 6)), (3, .int 1), (2, .int r1), (0, .ref (η.1 0)), (1, .int a0)]) hc dX10_branch_73 (by decide) rfl ?_
            refine g_aload_n (i := 0) hc 3 dX10_branch_75 rfl rfl ?_
            refine g_aload_n (i := 0) hc 3 dX10_branch_76 rfl rfl ?_
            refine gf_M_0_pc hc wtM_124 dX10_branch_77 ?_
            refine g_iload_n (i := 2) hc 2 dX10_branch_80 rfl rfl ?_
            refine g_sipush (v := 128) hc dX10_branch_81 (by decide) ?_
            refine g_icmpge (tgt := 91) hc dX10_branch_84 rfl (fun c_84 => ?_) (fun c_84 => ?_)
            · have ho := ho.1 c_84
              refine g_iload_n (i := 2) hc 2 dX10_branch_91 rfl rfl ?_
              refine g_sipush (v := 256) hc dX10_branch_92 (by decide) ?_
              refine g_isub hc dX10_branch_95 ?_
              refine g_iadd hc dX10_branch_96 ?_
              refine g_ldc (v := 65535) hc wtM_112 dX10_branch_97 ?_
              refine g_iand hc dX10_branch_99 ?_
              refine pf_M_0_pc (v := (((S1.1 6) + (r1 - 256)) &&& 65535)) hc wtM_124 dX10_branch_100 (fun S8 f8 => ?_)
              have ho := ho S8 f8
              refine g_aload_n (i := 0) hc 3 dX10_branch_103 rfl rfl ?_
              refine gf_M_0_pc hc wtM_124 dX10_branch_104 ?_
              refine g_iload (i := 4) hc 0 dX10_branch_107 rfl ?_
              refine g_ixor hc dX10_branch_109 ?_
              refine g_sipush (v := 255) hc dX10_branch_110 (by decide) ?_
              refine g_icmple (tgt := 120) hc dX10_branch_113 rfl (fun c_113 => ?_) (fun c_113 => ?_)
              · have ho := ho.1 c_113
                refine g_iconst (v := 3) hc dX10_branch_120 (by decide) ?_
                exact g_iret hc dX10_branch_121
              · have ho := ho.2 c_113
                refine g_iconst (v := 4) hc dX10_branch_116 (by decide) ?_
                refine g_goto (tgt := 121) hc dX10_branch_117 rfl ?_
                exact g_iret hc dX10_branch_121
            · have ho := ho.2 c_84
              refine g_iload_n (i := 2) hc 2 dX10_branch_87 rfl rfl ?_
              refine g_goto (tgt := 96) hc dX10_branch_88 rfl ?_
              refine g_iadd hc dX10_branch_96 ?_
              refine g_ldc (v := 65535) hc wtM_112 dX10_branch_97 ?_
              refine g_iand hc dX10_branch_99 ?_
              refine pf_M_0_pc (v := (((S1.1 6) + r1) &&& 65535)) hc wtM_124 dX10_branch_100 (fun S9 f9 => ?_)
              have ho := ho S9 f9
              refine g_aload_n (i := 0) hc 3 dX10_branch_103 rfl rfl ?_
              refine gf_M_0_pc hc wtM_124 dX10_branch_104 ?_
              refine g_iload (i := 4) hc 0 dX10_branch_107 rfl ?_
              refine g_ixor hc dX10_branch_109 ?_
              refine g_sipush (v := 255) hc dX10_branch_110 (by decide) ?_
              refine g_icmple (tgt := 120) hc dX10_branch_113 rfl (fun c_113 => ?_) (fun c_113 => ?_)
              · have ho := ho.1 c_113
                refine g_iconst (v := 3) hc dX10_branch_120 (by decide) ?_
                exact g_iret hc dX10_branch_121
              · have ho := ho.2 c_113
                refine g_iconst (v := 4) hc dX10_branch_116 (by decide) ?_
                refine g_goto (tgt := 121) hc dX10_branch_117 rfl ?_
                exact g_iret hc dX10_branch_121
          · have ho := ho.2 c_56
            refine g_iconst (v := 0) hc dX10_branch_63 (by decide) ?_
            refine g_icmpeq_f (tgt := 69) hc dX10_branch_64 rfl (by decide) ?_
            refine g_iconst (v := 2) hc dX10_branch_67 (by decide) ?_
            exact g_iret hc dX10_branch_68
    · have ho := ho.2 c_18
      refine g_bipush (v := 64) hc dX10_branch_21 (by decide) ?_
      refine g_goto (tgt := 37) hc dX10_branch_23 rfl ?_
      refine g_istore_n (i := 3) (lv' := [(3, .int 64), (2, .int r1), (0, .ref (η.1 0)), (1, .int a0)]) hc dX10_branch_37 rfl (by decide) rfl ?_
      refine g_aload_n (i := 0) hc 2 dX10_branch_38 rfl rfl ?_
      refine gf_M_0_p hc wtM_138 dX10_branch_39 ?_
      refine g_iload_n (i := 3) hc 0 dX10_branch_42 rfl rfl ?_
      refine g_iand hc dX10_branch_43 ?_
      refine g_ifeq (tgt := 51) hc dX10_branch_44 rfl (fun c_44 => ?_) (fun c_44 => ?_)
      · have ho := ho.1 c_44
        refine g_iconst (v := 0) hc dX10_branch_51 (by decide) ?_
        refine g_iload_n (i := 1) hc 3 dX10_branch_52 rfl rfl ?_
        refine g_iconst (v := 1) hc dX10_branch_53 (by decide) ?_
        refine g_iand hc dX10_branch_54 ?_
        refine g_iconst (v := 1) hc dX10_branch_55 (by decide) ?_
        refine g_icmpne (tgt := 63) hc dX10_branch_56 rfl (fun c_56 => ?_) (fun c_56 => ?_)
        · have ho := ho.1 c_56
          refine g_iconst (v := 1) hc dX10_branch_59 (by decide) ?_
          refine g_goto (tgt := 64) hc dX10_branch_60 rfl ?_
          refine g_icmpeq_f (tgt := 69) hc dX10_branch_64 rfl (by decide) ?_
          refine g_iconst (v := 2) hc dX10_branch_67 (by decide) ?_
          exact g_iret hc dX10_branch_68
        · have ho := ho.2 c_56
          refine g_iconst (v := 0) hc dX10_branch_63 (by decide) ?_
          refine g_icmpeq_t (tgt := 69) hc dX10_branch_64 rfl (by decide) ?_
          refine g_aload_n (i := 0) hc 2 dX10_branch_69 rfl rfl ?_
          refine gf_M_0_pc hc wtM_124 dX10_branch_70 ?_
          refine g_istore (i := 4) (lv' := [(4, .int (S1.1 6)), (3, .int 64), (2, .int r1), (0, .ref (η.1 0)), (1, .int a0)]) hc dX10_branch_73 (by decide) rfl ?_
          refine g_aload_n (i := 0) hc 3 dX10_branch_75 rfl rfl ?_
          refine g_aload_n (i := 0) hc 3 dX10_branch_76 rfl rfl ?_
          refine gf_M_0_pc hc wtM_124 dX10_branch_77 ?_
          refine g_iload_n (i := 2) hc 2 dX10_branch_80 rfl rfl ?_
          refine g_sipush (v := 128) hc dX10_branch_81 (by decide) ?_
          refine g_icmpge (tgt := 91) hc dX10_branch_84 rfl (fun c_84 => ?_) (fun c_84 => ?_)
          · have ho := ho.1 c_84
            refine g_iload_n (i := 2) hc 2 dX10_branch_91 rfl rfl ?_
            refine g_sipush (v := 256) hc dX10_branch_92 (by decide) ?_
            refine g_isub hc dX10_branch_95 ?_
            refine g_iadd hc dX10_branch_96 ?_
            refine g_ldc (v := 65535) hc wtM_112 dX10_branch_97 ?_
            refine g_iand hc dX10_branch_99 ?_
            refine pf_M_0_pc (v := (((S1.1 6) + (r1 - 256)) &&& 65535)) hc wtM_124 dX10_branch_100 (fun S10 f10 => ?_)
            have ho := ho S10 f10
            refine g_aload_n (i := 0) hc 3 dX10_branch_103 rfl rfl ?_
            refine gf_M_0_pc hc wtM_124 dX10_branch_104 ?_
            refine g_iload (i := 4) hc 0 dX10_branch_107 rfl ?_
            refine g_ixor hc dX10_branch_109 ?_
            refine g_sipush (v := 255) hc dX10_branch_110 (by decide) ?_
            refine g_icmple (tgt := 120) hc dX10_branch_113 rfl (fun c_113 => ?_) (fun c_113 => ?_)
            · have ho := ho.1 c_113
              refine g_iconst (v := 3) hc dX10_branch_120 (by decide) ?_
              exact g_iret hc dX10_branch_121
            · have ho := ho.2 c_113
              refine g_iconst (v := 4) hc dX10_branch_116 (by decide) ?_
              refine g_goto (tgt := 121) hc dX10_branch_117 rfl ?_
              exact g_iret hc dX10_branch_121
          · have ho := ho.2 c_84
            refine g_iload_n (i := 2) hc 2 dX10_branch_87 rfl rfl ?_
            refine g_goto (tgt := 96) hc dX10_branch_88 rfl ?_
            refine g_iadd hc dX10_branch_96 ?_
            refine g_ldc (v := 65535) hc wtM_112 dX10_branch_97 ?_
            refine g_iand hc dX10_branch_99 ?_
            refine pf_M_0_pc (v := (((S1.1 6) + r1) &&& 65535)) hc wtM_124 dX10_branch_100 (fun S11 f11 => ?_)
            have ho := ho S11 f11
            refine g_aload_n (i := 0) hc 3 dX10_branch_103 rfl rfl ?_
            refine gf_M_0_pc hc wtM_124 dX10_branch_104 ?_
            refine g_iload (i := 4) hc 0 dX10_branch_107 rfl ?_
            refine g_ixor hc dX10_branch_109 ?_
            refine g_sipush (v := 255) hc dX10_branch_110 (by decide) ?_
            refine g_icmple (tgt := 120) hc dX10_branch_113 rfl (fun c_113 => ?_) (fun c_113 => ?_)
            · have ho := ho.1 c_113
              refine g_iconst (v := 3) hc dX10_branch_120 (by decide) ?_
              exact g_iret hc dX10_branch_121
            · have ho := ho.2 c_113
              refine g_iconst (v := 4) hc dX10_branch_116 (by decide) ?_
              refine g_goto (tgt := 121) hc dX10_branch_117 rfl ?_
              exact g_iret hc dX10_branch_121
      · have ho := ho.2 c_44
        refine g_iconst (v := 1) hc dX10_branch_47 (by decide) ?_
        refine g_goto (tgt := 52) hc dX10_branch_48 rfl ?_
        refine g_iload_n (i := 1) hc 3 dX10_branch_52 rfl rfl ?_
        refine g_iconst (v := 1) hc dX10_branch_53 (by decide) ?_
        refine g_iand hc dX10_branch_54 ?_
        refine g_iconst (v := 1) hc dX10_branch_55 (by decide) ?_
        refine g_icmpne (tgt := 63) hc dX10_branch_56 rfl (fun c_56 => ?_) (fun c_56 => ?_)
        · have ho := ho.1 c_56
          refine g_iconst (v := 1) hc dX10_branch_59 (by decide) ?_
          refine g_goto (tgt := 64) hc dX10_branch_60 rfl ?_
          refine g_icmpeq_t (tgt := 69) hc dX10_branch_64 rfl (by decide) ?_
          refine g_aload_n (i := 0) hc 2 dX10_branch_69 rfl rfl ?_
          refine gf_M_0_pc hc wtM_124 dX10_branch_70 ?_
          refine g_istore (i := 4) (lv' := [(4, .int (S1.1 6)), (3, .int 64), (2, .int r1), (0, .ref (η.1 0)), (1, .int a0)]) hc dX10_branch_73 (by decide) rfl ?_
          refine g_aload_n (i := 0) hc 3 dX10_branch_75 rfl rfl ?_
          refine g_aload_n (i := 0) hc 3 dX10_branch_76 rfl rfl ?_
          refine gf_M_0_pc hc wtM_124 dX10_branch_77 ?_
          refine g_iload_n (i := 2) hc 2 dX10_branch_80 rfl rfl ?_
          refine g_sipush (v := 128) hc dX10_branch_81 (by decide) ?_
          refine g_icmpge (tgt := 91) hc dX10_branch_84 rfl (fun c_84 => ?_) (fun c_84 => ?_)
          · have ho := ho.1 c_84
            refine g_iload_n (i := 2) hc 2 dX10_branch_91 rfl rfl ?_
            refine g_sipush (v := 256) hc dX10_branch_92 (by decide) ?_
            refine g_isub hc dX10_branch_95 ?_
            refine g_iadd hc dX10_branch_96 ?_
            refine g_ldc (v := 65535) hc wtM_112 dX10_branch_97 ?_
            refine g_iand hc dX10_branch_99 ?_
            refine pf_M_0_pc (v := (((S1.1 6) + (r1 - 256)) &&& 65535)) hc wtM_124 dX10_branch_100 (fun S12 f12 => ?_)
            have ho := ho S12 f12
            refine g_aload_n (i := 0) hc 3 dX10_branch_103 rfl rfl ?_
            refine gf_M_0_pc hc wtM_124 dX10_branch_104 ?_
            refine g_iload (i := 4) hc 0 dX10_branch_107 rfl ?_
            refine g_ixor hc dX10_branch_109 ?_
            refine g_sipush (v := 255) hc dX10_branch_110 (by decide) ?_
            refine g_icmple (tgt := 120) hc dX10_branch_113 rfl (fun c_113 => ?_) (fun c_113 => ?_)
            · have ho := ho.1 c_113
              refine g_iconst (v := 3) hc dX10_branch_120 (by decide) ?_
              exact g_iret hc dX10_branch_121
            · have ho := ho.2 c_113
              refine g_iconst (v := 4) hc dX10_branch_116 (by decide) ?_
              refine g_goto (tgt := 121) hc dX10_branch_117 rfl ?_
              exact g_iret hc dX10_branch_121
          · have ho := ho.2 c_84
            refine g_iload_n (i := 2) hc 2 dX10_branch_87 rfl rfl ?_
            refine g_goto (tgt := 96) hc dX10_branch_88 rfl ?_
            refine g_iadd hc dX10_branch_96 ?_
            refine g_ldc (v := 65535) hc wtM_112 dX10_branch_97 ?_
            refine g_iand hc dX10_branch_99 ?_
            refine pf_M_0_pc (v := (((S1.1 6) + r1) &&& 65535)) hc wtM_124 dX10_branch_100 (fun S13 f13 => ?_)
            have ho := ho S13 f13
            refine g_aload_n (i := 0) hc 3 dX10_branch_103 rfl rfl ?_
            refine gf_M_0_pc hc wtM_124 dX10_branch_104 ?_
            refine g_iload (i := 4) hc 0 dX10_branch_107 rfl ?_
            refine g_ixor hc dX10_branch_109 ?_
            refine g_sipush (v := 255) hc dX10_branch_110 (by decide) ?_
            refine g_icmple (tgt := 120) hc dX10_branch_113 rfl (fun c_113 => ?_) (fun c_113 => ?_)
            · have ho := ho.1 c_113
              refine g_iconst (v := 3) hc dX10_branch_120 (by decide) ?_
              exact g_iret hc dX10_branch_121
            · have ho := ho.2 c_113
              refine g_iconst (v := 4) hc dX10_branch_116 (by decide) ?_
              refine g_goto (tgt := 121) hc dX10_branch_117 rfl ?_
              exact g_iret hc dX10_branch_121
        · have ho := ho.2 c_56
          refine g_iconst (v := 0) hc dX10_branch_63 (by decide) ?_
          refine g_icmpeq_f (tgt := 69) hc dX10_branch_64 rfl (by decide) ?_
          refine g_iconst (v := 2) hc dX10_branch_67 (by decide) ?_
          exact g_iret hc dX10_branch_68
  · have ho := ho.2 c_7
    refine g_sipush (v := 128) hc dX10_branch_10 (by decide) ?_
    refine g_goto (tgt := 37) hc dX10_branch_13 rfl ?_
    refine g_istore_n (i := 3) (lv' := [(3, .int 128), (2, .int r1), (0, .ref (η.1 0)), (1, .int a0)]) hc dX10_branch_37 rfl (by decide) rfl ?_
    refine g_aload_n (i := 0) hc 2 dX10_branch_38 rfl rfl ?_
    refine gf_M_0_p hc wtM_138 dX10_branch_39 ?_
    refine g_iload_n (i := 3) hc 0 dX10_branch_42 rfl rfl ?_
    refine g_iand hc dX10_branch_43 ?_
    refine g_ifeq (tgt := 51) hc dX10_branch_44 rfl (fun c_44 => ?_) (fun c_44 => ?_)
    · have ho := ho.1 c_44
      refine g_iconst (v := 0) hc dX10_branch_51 (by decide) ?_
      refine g_iload_n (i := 1) hc 3 dX10_branch_52 rfl rfl ?_
      refine g_iconst (v := 1) hc dX10_branch_53 (by decide) ?_
      refine g_iand hc dX10_branch_54 ?_
      refine g_iconst (v := 1) hc dX10_branch_55 (by decide) ?_
      refine g_icmpne (tgt := 63) hc dX10_branch_56 rfl (fun c_56 => ?_) (fun c_56 => ?_)
      · have ho := ho.1 c_56
        refine g_iconst (v := 1) hc dX10_branch_59 (by decide) ?_
        refine g_goto (tgt := 64) hc dX10_branch_60 rfl ?_
        refine g_icmpeq_f (tgt := 69) hc dX10_branch_64 rfl (by decide) ?_
        refine g_iconst (v := 2) hc dX10_branch_67 (by decide) ?_
        exact g_iret hc dX10_branch_68
      · have ho := ho.2 c_56
        refine g_iconst (v := 0) hc dX10_branch_63 (by decide) ?_
        refine g_icmpeq_t (tgt := 69) hc dX10_branch_64 rfl (by decide) ?_
        refine g_aload_n (i := 0) hc 2 dX10_branch_69 rfl rfl ?_
        refine gf_M_0_pc hc wtM_124 dX10_branch_70 ?_
        refine g_istore (i := 4) (lv' := [(4, .int (S1.1 6)), (3, .int 128), (2, .int r1), (0, .ref (η.1 0)), (1, .int a0)]) hc dX10_branch_73 (by decide) rfl ?_
        refine g_aload_n (i := 0) hc 3 dX10_branch_75 rfl rfl ?_
        refine g_aload_n (i := 0) hc 3 dX10_branch_76 rfl rfl ?_
        refine gf_M_0_pc hc wtM_124 dX10_branch_77 ?_
        refine g_iload_n (i := 2) hc 2 dX10_branch_80 rfl rfl ?_
        refine g_sipush (v := 128) hc dX10_branch_81 (by decide) ?_
        refine g_icmpge (tgt := 91) hc dX10_branch_84 rfl (fun c_84 => ?_) (fun c_84 => ?_)
        · have ho := ho.1 c_84
          refine g_iload_n (i := 2) hc 2 dX10_branch_91 rfl rfl ?_
          refine g_sipush (v := 256) hc dX10_branch_92 (by decide) ?_
          refine g_isub hc dX10_branch_95 ?_
          refine g_iadd hc dX10_branch_96 ?_
          refine g_ldc (v := 65535) hc wtM_112 dX10_branch_97 ?_
          refine g_iand hc dX10_branch_99 ?_
          refine pf_M_0_pc (v := (((S1.1 6) + (r1 - 256)) &&& 65535)) hc wtM_124 dX10_branch_100 (fun S14 f14 => ?_)
          have ho := ho S14 f14
          refine g_aload_n (i := 0) hc 3 dX10_branch_103 rfl rfl ?_
          refine gf_M_0_pc hc wtM_124 dX10_branch_104 ?_
          refine g_iload (i := 4) hc 0 dX10_branch_107 rfl ?_
          refine g_ixor hc dX10_branch_109 ?_
          refine g_sipush (v := 255) hc dX10_branch_110 (by decide) ?_
          refine g_icmple (tgt := 120) hc dX10_branch_113 rfl (fun c_113 => ?_) (fun c_113 => ?_)
          · have ho := ho.1 c_113
            refine g_iconst (v := 3) hc dX10_branch_120 (by decide) ?_
            exact g_iret hc dX10_branch_121
          · have ho := ho.2 c_113
            refine g_iconst (v := 4) hc dX10_branch_116 (by decide) ?_
            refine g_goto (tgt := 121) hc dX10_branch_117 rfl ?_
            exact g_iret hc dX10_branch_121
        · have ho := ho.2 c_84
          refine g_iload_n (i := 2) hc 2 dX10_branch_87 rfl rfl ?_
          refine g_goto (tgt := 96) hc dX10_branch_88 rfl ?_
          refine g_iadd hc dX10_branch_96 ?_
          refine g_ldc (v := 65535) hc wtM_112 dX10_branch_97 ?_
          refine g_iand hc dX10_branch_99 ?_
          refine pf_M_0_pc (v := (((S1.1 6) + r1) &&& 65535)) hc wtM_124 dX10_branch_100 (fun S15 f15 => ?_)
          have ho := ho S15 f15
          refine g_aload_n (i := 0) hc 3 dX10_branch_103 rfl rfl ?_
          refine gf_M_0_pc hc wtM_124 dX10_branch_104 ?_
          refine g_iload (i := 4) hc 0 dX10_branch_107 rfl ?_
          refine g_ixor hc dX10_branch_109 ?_
          refine g_sipush (v := 255) hc dX10_branch_110 (by decide) ?_
          refine g_icmple (tgt := 120) hc dX10_branch_113 rfl (fun c_113 => ?_) (fun c_113 => ?_)
          · have ho := ho.1 c_113
            refine g_iconst (v := 3) hc dX10_branch_120 (by decide) ?_
            exact g_iret hc dX10_branch_121
          · have ho := ho.2 c_113
            refine g_iconst (v := 4) hc dX10_branch_116 (by decide) ?_
            refine g_goto (tgt := 121) hc dX10_branch_117 rfl ?_
            exact g_iret hc dX10_branch_121
    · have ho := ho.2 c_44
      refine g_iconst (v := 1) hc dX10_branch_47 (by decide) ?_
      refine g_goto (tgt := 52) hc dX10_branch_48 rfl ?_
      refine g_iload_n (i := 1) hc 3 dX10_branch_52 rfl rfl ?_
      refine g_iconst (v := 1) hc dX10_branch_53 (by decide) ?_
      refine g_iand hc dX10_branch_54 ?_
      refine g_iconst (v := 1) hc dX10_branch_55 (by decide) ?_
      refine g_icmpne (tgt := 63) hc dX10_branch_56 rfl (fun c_56 => ?_) (fun c_56 => ?_)
      · have ho := ho.1 c_56
        refine g_iconst (v := 1) hc dX10_branch_59 (by decide) ?_
        refine g_goto (tgt := 64) hc dX10_branch_60 rfl ?_
        refine g_icmpeq_t (tgt := 69) hc dX10_branch_64 rfl (by decide) ?_
        refine g_aload_n (i := 0) hc 2 dX10_branch_69 rfl rfl ?_
        refine gf_M_0_pc hc wtM_124 dX10_branch_70 ?_
        refine g_istore (i := 4) (lv' := [(4, .int (S1.1 6)), (3, .int 128), (2, .int r1), (0, .ref (η.1 0)), (1, .int a0)]) hc dX10_branch_73 (by decide) rfl ?_
        refine g_aload_n (i := 0) hc 3 dX10_branch_75 rfl rfl ?_
        refine g_aload_n (i := 0) hc 3 dX10_branch_76 rfl rfl ?_
        refine gf_M_0_pc hc wtM_124 dX10_branch_77 ?_
        refine g_iload_n (i := 2) hc 2 dX10_branch_80 rfl rfl ?_
        refine g_sipush (v := 128) hc dX10_branch_81 (by decide) ?_
        refine g_icmpge (tgt := 91) hc dX10_branch_84 rfl (fun c_84 => ?_) (fun c_84 => ?_)
        · have ho := ho.1 c_84
          refine g_iload_n (i := 2) hc 2 dX10_branch_91 rfl rfl ?_
          refine g_sipush (v := 256) hc dX10_branch_92 (by decide) ?_
          refine g_isub hc dX10_branch_95 ?_
          refine g_iadd hc dX10_branch_96 ?_
          refine g_ldc (v := 65535) hc wtM_112 dX10_branch_97 ?_
          refine g_iand hc dX10_branch_99 ?_
          refine pf_M_0_pc (v := (((S1.1 6) + (r1 - 256)) &&& 65535)) hc wtM_124 dX10_branch_100 (fun S16 f16 => ?_)
          have ho := ho S16 f16
          refine g_aload_n (i := 0) hc 3 dX10_branch_103 rfl rfl ?_
          refine gf_M_0_pc hc wtM_124 dX10_branch_104 ?_
          refine g_iload (i := 4) hc 0 dX10_branch_107 rfl ?_
          refine g_ixor hc dX10_branch_109 ?_
          refine g_sipush (v := 255) hc dX10_branch_110 (by decide) ?_
          refine g_icmple (tgt := 120) hc dX10_branch_113 rfl (fun c_113 => ?_) (fun c_113 => ?_)
          · have ho := ho.1 c_113
            refine g_iconst (v := 3) hc dX10_branch_120 (by decide) ?_
            exact g_iret hc dX10_branch_121
          · have ho := ho.2 c_113
            refine g_iconst (v := 4) hc dX10_branch_116 (by decide) ?_
            refine g_goto (tgt := 121) hc dX10_branch_117 rfl ?_
            exact g_iret hc dX10_branch_121
        · have ho := ho.2 c_84
          refine g_iload_n (i := 2) hc 2 dX10_branch_87 rfl rfl ?_
          refine g_goto (tgt := 96) hc dX10_branch_88 rfl ?_
          refine g_iadd hc dX10_branch_96 ?_
          refine g_ldc (v := 65535) hc wtM_112 dX10_branch_97 ?_
          refine g_iand hc dX10_branch_99 ?_
          refine pf_M_0_pc (v := (((S1.1 6) + r1) &&& 65535)) hc wtM_124 dX10_branch_100 (fun S17 f17 => ?_)
          have ho := ho S17 f17
          refine g_aload_n (i := 0) hc 3 dX10_branch_103 rfl rfl ?_
          refine gf_M_0_pc hc wtM_124 dX10_branch_104 ?_
          refine g_iload (i := 4) hc 0 dX10_branch_107 rfl ?_
          refine g_ixor hc dX10_branch_109 ?_
          refine g_sipush (v := 255) hc dX10_branch_110 (by decide) ?_
          refine g_icmple (tgt := 120) hc dX10_branch_113 rfl (fun c_113 => ?_) (fun c_113 => ?_)
          · have ho := ho.1 c_113
            refine g_iconst (v := 3) hc dX10_branch_120 (by decide) ?_
            exact g_iret hc dX10_branch_121
          · have ho := ho.2 c_113
            refine g_iconst (v := 4) hc dX10_branch_116 (by decide) ?_
            refine g_goto (tgt := 121) hc dX10_branch_117 rfl ?_
            exact g_iret hc dX10_branch_121
      · have ho := ho.2 c_56
        refine g_iconst (v := 0) hc dX10_branch_63 (by decide) ?_
        refine g_icmpeq_f (tgt := 69) hc dX10_branch_64 rfl (by decide) ?_
        refine g_iconst (v := 2) hc dX10_branch_67 (by decide) ?_
        exact g_iret hc dX10_branch_68

abbrev rm_X10_stacked : Room := { frames := 2, cells := 0, slots := 0, locals := 43 }
def sp_X10_stacked (a0 : Int32) (S : gSt) : Int32 × gSt := (if a0 = 0 then gB (sp_X10_push ((S.1 5) ||| 16) S) (fun (_ : Unit) S1 => (3, S1)) else (if a0 = 1 then gB (sp_X10_pull S) (fun r2 S2 => gL (sI S2 5 ((r2 &&& (-17)) ||| 32)) (fun S3 => (4, S3))) else (if a0 = 2 then gB (sp_X10_push (S.1 1) S) (fun (_ : Unit) S4 => (3, S4)) else (if a0 = 3 then gB (sp_X10_pull S) (fun r5 S5 => gB (sp_X10_shown r5 S5) (fun r6 S6 => gL (sI S6 1 r6) (fun S7 => (4, S7)))) else (if a0 = 4 then gB (sp_X10_shown (((S.1 3) - 1) &&& 255) S) (fun r8 S8 => gL (sI S8 3 r8) (fun S9 => (2, S9))) else (if a0 = 5 then gB (sp_X10_shown (S.1 1) S) (fun r10 S10 => gL (sI S10 3 r10) (fun S11 => (2, S11))) else (if a0 = 6 then gB (sp_X10_shown (((S.1 3) + 1) &&& 255) S) (fun r12 S12 => gL (sI S12 3 r12) (fun S13 => (2, S13))) else gB (sp_X10_shown (((S.1 2) + 1) &&& 255) S) (fun r14 S14 => gL (sI S14 2 r14) (fun S15 => (2, S15))))))))))
def ok_X10_stacked (a0 : Int32) (S : gSt) : Prop := ((a0 = 0 → (ok_X10_push ((S.1 5) ||| 16) S ∧ ∀ (r1 : Unit) (S1 : gSt), r1 = (sp_X10_push ((S.1 5) ||| 16) S).1 → S1 = (sp_X10_push ((S.1 5) ||| 16) S).2 → True)) ∧ (¬ a0 = 0 → ((a0 = 1 → (ok_X10_pull S ∧ ∀ (r2 : Int32) (S2 : gSt), r2 = (sp_X10_pull S).1 → S2 = (sp_X10_pull S).2 → ∀ S3 : gSt, S3 = sI S2 5 ((r2 &&& (-17)) ||| 32) → True)) ∧ (¬ a0 = 1 → ((a0 = 2 → (ok_X10_push (S.1 1) S ∧ ∀ (r4 : Unit) (S4 : gSt), r4 = (sp_X10_push (S.1 1) S).1 → S4 = (sp_X10_push (S.1 1) S).2 → True)) ∧ (¬ a0 = 2 → ((a0 = 3 → (ok_X10_pull S ∧ ∀ (r5 : Int32) (S5 : gSt), r5 = (sp_X10_pull S).1 → S5 = (sp_X10_pull S).2 → (ok_X10_shown r5 S5 ∧ ∀ (r6 : Int32) (S6 : gSt), r6 = (sp_X10_shown r5 S5).1 → S6 = (sp_X10_shown r5 S5).2 → ∀ S7 : gSt, S7 = sI S6 1 r6 → True))) ∧ (¬ a0 = 3 → ((a0 = 4 → (ok_X10_shown (((S.1 3) - 1) &&& 255) S ∧ ∀ (r8 : Int32) (S8 : gSt), r8 = (sp_X10_shown (((S.1 3) - 1) &&& 255) S).1 → S8 = (sp_X10_shown (((S.1 3) - 1) &&& 255) S).2 → ∀ S9 : gSt, S9 = sI S8 3 r8 → True)) ∧ (¬ a0 = 4 → ((a0 = 5 → (ok_X10_shown (S.1 1) S ∧ ∀ (r10 : Int32) (S10 : gSt), r10 = (sp_X10_shown (S.1 1) S).1 → S10 = (sp_X10_shown (S.1 1) S).2 → ∀ S11 : gSt, S11 = sI S10 3 r10 → True)) ∧ (¬ a0 = 5 → ((a0 = 6 → (ok_X10_shown (((S.1 3) + 1) &&& 255) S ∧ ∀ (r12 : Int32) (S12 : gSt), r12 = (sp_X10_shown (((S.1 3) + 1) &&& 255) S).1 → S12 = (sp_X10_shown (((S.1 3) + 1) &&& 255) S).2 → ∀ S13 : gSt, S13 = sI S12 3 r12 → True)) ∧ (¬ a0 = 6 → (ok_X10_shown (((S.1 2) + 1) &&& 255) S ∧ ∀ (r14 : Int32) (S14 : gSt), r14 = (sp_X10_shown (((S.1 2) + 1) &&& 255) S).1 → S14 = (sp_X10_shown (((S.1 2) + 1) &&& 255) S).2 → ∀ S15 : gSt, S15 = sI S14 2 r14 → True)))))))))))))))
set_option maxRecDepth 100000 in
set_option maxHeartbeats 4000000 in
theorem c_X10_stacked (l : Launch) (η : gE) (a0 : Int32) (S : gSt) (ho : ok_X10_stacked a0 S) : gMet l yX10_stacked cX10_stacked 2 (some .int) rm_X10_stacked (oM η) [.ref (η.1 0), .int a0] S (oI (sp_X10_stacked a0 S).1) (sp_X10_stacked a0 S).2 := by
  refine gMet_of (X := sp_X10_stacked a0 S) (lv := [(0, .ref (η.1 0)), (1, .int a0)]) oI zM_ok (by decide +kernel) (Nat.le_of_ble_eq_true rfl) rfl (fun κ hc => ?_)
  have hc : gC (oM η) κ cX10_stacked 2 RX10 (some .int) rm_X10_stacked := hc
  unfold sp_X10_stacked
  unfold ok_X10_stacked at ho
  refine g_iload_n (i := 1) hc 1 dX10_stacked_0 rfl rfl ?_
  refine g_tsw (tgt := 44) hc 0 dX10_stacked_1 ⟨by decide, by decide, rfl⟩ rfl (fun c_1_0 => ?_) (fun c_1_0 => ?_)
  · have ho := ho.1 c_1_0
    refine g_aload_n (i := 0) hc 0 dX10_stacked_44 rfl rfl ?_
    refine g_aload_n (i := 0) hc 0 dX10_stacked_45 rfl rfl ?_
    refine gf_M_0_p hc wtM_138 dX10_stacked_46 ?_
    refine g_bipush (v := 16) hc dX10_stacked_49 (by decide) ?_
    refine g_ior hc dX10_stacked_51 ?_
    refine g_callVV hc 0 [.int ((S.1 5) ||| 16)] (fun l => c_X10_push l η ((S.1 5) ||| 16) S ho.1) wtM_133 ge_X10_push rfl ⟨rfl, rfl⟩ ⟨Nat.le_of_ble_eq_true rfl, Nat.le_of_ble_eq_true rfl⟩ rfl rfl rfl (Nat.le_of_ble_eq_true rfl) dX10_stacked_52 (fun r1 S1 e1 f1 => ?_)
    have ho := ho.2 r1 S1 e1 f1
    refine g_iconst (v := 3) hc dX10_stacked_55 (by decide) ?_
    exact g_iret hc dX10_stacked_56
  have ho := ho.2 c_1_0
  refine g_tsw (tgt := 57) hc 1 dX10_stacked_1 ⟨by decide, by decide, rfl⟩ rfl (fun c_1_1 => ?_) (fun c_1_1 => ?_)
  · have ho := ho.1 c_1_1
    refine g_aload_n (i := 0) hc 0 dX10_stacked_57 rfl rfl ?_
    refine g_aload_n (i := 0) hc 0 dX10_stacked_58 rfl rfl ?_
    refine g_callVI hc 0 [] (fun l => c_X10_pull l η S ho.1) wtM_137 ge_X10_pull rfl ⟨rfl, rfl⟩ ⟨Nat.le_of_ble_eq_true rfl, Nat.le_of_ble_eq_true rfl⟩ rfl rfl rfl (Nat.le_of_ble_eq_true rfl) dX10_stacked_59 (fun r2 S2 e2 f2 => ?_)
    have ho := ho.2 r2 S2 e2 f2
    refine g_bipush (v := (-17)) hc dX10_stacked_62 (by decide) ?_
    refine g_iand hc dX10_stacked_64 ?_
    refine g_bipush (v := 32) hc dX10_stacked_65 (by decide) ?_
    refine g_ior hc dX10_stacked_67 ?_
    refine pf_M_0_p (v := ((r2 &&& (-17)) ||| 32)) hc wtM_138 dX10_stacked_68 (fun S3 f3 => ?_)
    have ho := ho S3 f3
    refine g_iconst (v := 4) hc dX10_stacked_71 (by decide) ?_
    exact g_iret hc dX10_stacked_72
  have ho := ho.2 c_1_1
  refine g_tsw (tgt := 73) hc 2 dX10_stacked_1 ⟨by decide, by decide, rfl⟩ rfl (fun c_1_2 => ?_) (fun c_1_2 => ?_)
  · have ho := ho.1 c_1_2
    refine g_aload_n (i := 0) hc 0 dX10_stacked_73 rfl rfl ?_
    refine g_aload_n (i := 0) hc 0 dX10_stacked_74 rfl rfl ?_
    refine gf_M_0_a hc wtM_170 dX10_stacked_75 ?_
    refine g_callVV hc 0 [.int (S.1 1)] (fun l => c_X10_push l η (S.1 1) S ho.1) wtM_133 ge_X10_push rfl ⟨rfl, rfl⟩ ⟨Nat.le_of_ble_eq_true rfl, Nat.le_of_ble_eq_true rfl⟩ rfl rfl rfl (Nat.le_of_ble_eq_true rfl) dX10_stacked_78 (fun r4 S4 e4 f4 => ?_)
    have ho := ho.2 r4 S4 e4 f4
    refine g_iconst (v := 3) hc dX10_stacked_81 (by decide) ?_
    exact g_iret hc dX10_stacked_82
  have ho := ho.2 c_1_2
  refine g_tsw (tgt := 83) hc 3 dX10_stacked_1 ⟨by decide, by decide, rfl⟩ rfl (fun c_1_3 => ?_) (fun c_1_3 => ?_)
  · have ho := ho.1 c_1_3
    refine g_aload_n (i := 0) hc 0 dX10_stacked_83 rfl rfl ?_
    refine g_aload_n (i := 0) hc 0 dX10_stacked_84 rfl rfl ?_
    refine g_aload_n (i := 0) hc 0 dX10_stacked_85 rfl rfl ?_
    refine g_callVI hc 0 [] (fun l => c_X10_pull l η S ho.1) wtM_137 ge_X10_pull rfl ⟨rfl, rfl⟩ ⟨Nat.le_of_ble_eq_true rfl, Nat.le_of_ble_eq_true rfl⟩ rfl rfl rfl (Nat.le_of_ble_eq_true rfl) dX10_stacked_86 (fun r5 S5 e5 f5 => ?_)
    have ho := ho.2 r5 S5 e5 f5
    refine g_callVI hc 0 [.int r5] (fun l => c_X10_shown l η r5 S5 ho.1) wtM_169 ge_X10_shown rfl ⟨rfl, rfl⟩ ⟨Nat.le_of_ble_eq_true rfl, Nat.le_of_ble_eq_true rfl⟩ rfl rfl rfl (Nat.le_of_ble_eq_true rfl) dX10_stacked_89 (fun r6 S6 e6 f6 => ?_)
    have ho := ho.2 r6 S6 e6 f6
    refine pf_M_0_a (v := r6) hc wtM_170 dX10_stacked_92 (fun S7 f7 => ?_)
    have ho := ho S7 f7
    refine g_iconst (v := 4) hc dX10_stacked_95 (by decide) ?_
    exact g_iret hc dX10_stacked_96
  have ho := ho.2 c_1_3
  refine g_tsw (tgt := 97) hc 4 dX10_stacked_1 ⟨by decide, by decide, rfl⟩ rfl (fun c_1_4 => ?_) (fun c_1_4 => ?_)
  · have ho := ho.1 c_1_4
    refine g_aload_n (i := 0) hc 0 dX10_stacked_97 rfl rfl ?_
    refine g_aload_n (i := 0) hc 0 dX10_stacked_98 rfl rfl ?_
    refine g_aload_n (i := 0) hc 0 dX10_stacked_99 rfl rfl ?_
    refine gf_M_0_y hc wtM_153 dX10_stacked_100 ?_
    refine g_iconst (v := 1) hc dX10_stacked_103 (by decide) ?_
    refine g_isub hc dX10_stacked_104 ?_
    refine g_sipush (v := 255) hc dX10_stacked_105 (by decide) ?_
    refine g_iand hc dX10_stacked_108 ?_
    refine g_callVI hc 0 [.int (((S.1 3) - 1) &&& 255)] (fun l => c_X10_shown l η (((S.1 3) - 1) &&& 255) S ho.1) wtM_169 ge_X10_shown rfl ⟨rfl, rfl⟩ ⟨Nat.le_of_ble_eq_true rfl, Nat.le_of_ble_eq_true rfl⟩ rfl rfl rfl (Nat.le_of_ble_eq_true rfl) dX10_stacked_109 (fun r8 S8 e8 f8 => ?_)
    have ho := ho.2 r8 S8 e8 f8
    refine pf_M_0_y (v := r8) hc wtM_153 dX10_stacked_112 (fun S9 f9 => ?_)
    have ho := ho S9 f9
    refine g_iconst (v := 2) hc dX10_stacked_115 (by decide) ?_
    exact g_iret hc dX10_stacked_116
  have ho := ho.2 c_1_4
  refine g_tsw (tgt := 117) hc 5 dX10_stacked_1 ⟨by decide, by decide, rfl⟩ rfl (fun c_1_5 => ?_) (fun c_1_5 => ?_)
  · have ho := ho.1 c_1_5
    refine g_aload_n (i := 0) hc 0 dX10_stacked_117 rfl rfl ?_
    refine g_aload_n (i := 0) hc 0 dX10_stacked_118 rfl rfl ?_
    refine g_aload_n (i := 0) hc 0 dX10_stacked_119 rfl rfl ?_
    refine gf_M_0_a hc wtM_170 dX10_stacked_120 ?_
    refine g_callVI hc 0 [.int (S.1 1)] (fun l => c_X10_shown l η (S.1 1) S ho.1) wtM_169 ge_X10_shown rfl ⟨rfl, rfl⟩ ⟨Nat.le_of_ble_eq_true rfl, Nat.le_of_ble_eq_true rfl⟩ rfl rfl rfl (Nat.le_of_ble_eq_true rfl) dX10_stacked_123 (fun r10 S10 e10 f10 => ?_)
    have ho := ho.2 r10 S10 e10 f10
    refine pf_M_0_y (v := r10) hc wtM_153 dX10_stacked_126 (fun S11 f11 => ?_)
    have ho := ho S11 f11
    refine g_iconst (v := 2) hc dX10_stacked_129 (by decide) ?_
    exact g_iret hc dX10_stacked_130
  have ho := ho.2 c_1_5
  refine g_tsw (tgt := 131) hc 6 dX10_stacked_1 ⟨by decide, by decide, rfl⟩ rfl (fun c_1_6 => ?_) (fun c_1_6 => ?_)
  · have ho := ho.1 c_1_6
    refine g_aload_n (i := 0) hc 0 dX10_stacked_131 rfl rfl ?_
    refine g_aload_n (i := 0) hc 0 dX10_stacked_132 rfl rfl ?_
    refine g_aload_n (i := 0) hc 0 dX10_stacked_133 rfl rfl ?_
    refine gf_M_0_y hc wtM_153 dX10_stacked_134 ?_
    refine g_iconst (v := 1) hc dX10_stacked_137 (by decide) ?_
    refine g_iadd hc dX10_stacked_138 ?_
    refine g_sipush (v := 255) hc dX10_stacked_139 (by decide) ?_
    refine g_iand hc dX10_stacked_142 ?_
    refine g_callVI hc 0 [.int (((S.1 3) + 1) &&& 255)] (fun l => c_X10_shown l η (((S.1 3) + 1) &&& 255) S ho.1) wtM_169 ge_X10_shown rfl ⟨rfl, rfl⟩ ⟨Nat.le_of_ble_eq_true rfl, Nat.le_of_ble_eq_true rfl⟩ rfl rfl rfl (Nat.le_of_ble_eq_true rfl) dX10_stacked_143 (fun r12 S12 e12 f12 => ?_)
    have ho := ho.2 r12 S12 e12 f12
    refine pf_M_0_y (v := r12) hc wtM_153 dX10_stacked_146 (fun S13 f13 => ?_)
    have ho := ho S13 f13
    refine g_iconst (v := 2) hc dX10_stacked_149 (by decide) ?_
    exact g_iret hc dX10_stacked_150
  have ho := ho.2 c_1_6
  refine g_tswd (tgt := 151) hc dX10_stacked_1 (by have := lv_neT c_1_0 (a := 0) (by decide); have := lv_neT c_1_1 (a := 1) (by decide); have := lv_neT c_1_2 (a := 2) (by decide); have := lv_neT c_1_3 (a := 3) (by decide); have := lv_neT c_1_4 (a := 4) (by decide); have := lv_neT c_1_5 (a := 5) (by decide); have := lv_neT c_1_6 (a := 6) (by decide); omega) rfl ?_
  refine g_aload_n (i := 0) hc 0 dX10_stacked_151 rfl rfl ?_
  refine g_aload_n (i := 0) hc 0 dX10_stacked_152 rfl rfl ?_
  refine g_aload_n (i := 0) hc 0 dX10_stacked_153 rfl rfl ?_
  refine gf_M_0_x hc wtM_152 dX10_stacked_154 ?_
  refine g_iconst (v := 1) hc dX10_stacked_157 (by decide) ?_
  refine g_iadd hc dX10_stacked_158 ?_
  refine g_sipush (v := 255) hc dX10_stacked_159 (by decide) ?_
  refine g_iand hc dX10_stacked_162 ?_
  refine g_callVI hc 0 [.int (((S.1 2) + 1) &&& 255)] (fun l => c_X10_shown l η (((S.1 2) + 1) &&& 255) S ho.1) wtM_169 ge_X10_shown rfl ⟨rfl, rfl⟩ ⟨Nat.le_of_ble_eq_true rfl, Nat.le_of_ble_eq_true rfl⟩ rfl rfl rfl (Nat.le_of_ble_eq_true rfl) dX10_stacked_163 (fun r14 S14 e14 f14 => ?_)
  have ho := ho.2 r14 S14 e14 f14
  refine pf_M_0_x (v := r14) hc wtM_152 dX10_stacked_166 (fun S15 f15 => ?_)
  have ho := ho S15 f15
  refine g_iconst (v := 2) hc dX10_stacked_169 (by decide) ?_
  exact g_iret hc dX10_stacked_170

abbrev rm_X10_flagged : Room := { frames := 2, cells := 0, slots := 0, locals := 43 }
def sp_X10_flagged (a0 : Int32) (S : gSt) : Int32 × gSt := (if a0 = 0 then (if a0 = 1 then gB (sp_X10_flag 1 true S) (fun (_ : Unit) S1 => (2, S1)) else gB (sp_X10_flag 1 false S) (fun (_ : Unit) S2 => (2, S2))) else (if a0 = 1 then (if a0 = 1 then gB (sp_X10_flag 1 true S) (fun (_ : Unit) S3 => (2, S3)) else gB (sp_X10_flag 1 false S) (fun (_ : Unit) S4 => (2, S4))) else (if a0 = 2 then (if a0 = 3 then gB (sp_X10_flag 4 true S) (fun (_ : Unit) S5 => (2, S5)) else gB (sp_X10_flag 4 false S) (fun (_ : Unit) S6 => (2, S6))) else (if a0 = 3 then (if a0 = 3 then gB (sp_X10_flag 4 true S) (fun (_ : Unit) S7 => (2, S7)) else gB (sp_X10_flag 4 false S) (fun (_ : Unit) S8 => (2, S8))) else (if a0 = 4 then gB (sp_X10_shown (S.1 3) S) (fun r9 S9 => gL (sI S9 1 r9) (fun S10 => (2, S10))) else (if a0 = 5 then gB (sp_X10_flag 64 false S) (fun (_ : Unit) S11 => (2, S11)) else (if a0 = 7 then gB (sp_X10_flag 8 true S) (fun (_ : Unit) S12 => (2, S12)) else gB (sp_X10_flag 8 false S) (fun (_ : Unit) S13 => (2, S13)))))))))
def ok_X10_flagged (a0 : Int32) (S : gSt) : Prop := ((a0 = 0 → ((a0 = 1 → (ok_X10_flag 1 true S ∧ ∀ (r1 : Unit) (S1 : gSt), r1 = (sp_X10_flag 1 true S).1 → S1 = (sp_X10_flag 1 true S).2 → True)) ∧ (¬ a0 = 1 → (ok_X10_flag 1 false S ∧ ∀ (r2 : Unit) (S2 : gSt), r2 = (sp_X10_flag 1 false S).1 → S2 = (sp_X10_flag 1 false S).2 → True)))) ∧ (¬ a0 = 0 → ((a0 = 1 → ((a0 = 1 → (ok_X10_flag 1 true S ∧ ∀ (r3 : Unit) (S3 : gSt), r3 = (sp_X10_flag 1 true S).1 → S3 = (sp_X10_flag 1 true S).2 → True)) ∧ (¬ a0 = 1 → (ok_X10_flag 1 false S ∧ ∀ (r4 : Unit) (S4 : gSt), r4 = (sp_X10_flag 1 false S).1 → S4 = (sp_X10_flag 1 false S).2 → True)))) ∧ (¬ a0 = 1 → ((a0 = 2 → ((a0 = 3 → (ok_X10_flag 4 true S ∧ ∀ (r5 : Unit) (S5 : gSt), r5 = (sp_X10_flag 4 true S).1 → S5 = (sp_X10_flag 4 true S).2 → True)) ∧ (¬ a0 = 3 → (ok_X10_flag 4 false S ∧ ∀ (r6 : Unit) (S6 : gSt), r6 = (sp_X10_flag 4 false S).1 → S6 = (sp_X10_flag 4 false S).2 → True)))) ∧ (¬ a0 = 2 → ((a0 = 3 → ((a0 = 3 → (ok_X10_flag 4 true S ∧ ∀ (r7 : Unit) (S7 : gSt), r7 = (sp_X10_flag 4 true S).1 → S7 = (sp_X10_flag 4 true S).2 → True)) ∧ (¬ a0 = 3 → (ok_X10_flag 4 false S ∧ ∀ (r8 : Unit) (S8 : gSt), r8 = (sp_X10_flag 4 false S).1 → S8 = (sp_X10_flag 4 false S).2 → True)))) ∧ (¬ a0 = 3 → ((a0 = 4 → (ok_X10_shown (S.1 3) S ∧ ∀ (r9 : Int32) (S9 : gSt), r9 = (sp_X10_shown (S.1 3) S).1 → S9 = (sp_X10_shown (S.1 3) S).2 → ∀ S10 : gSt, S10 = sI S9 1 r9 → True)) ∧ (¬ a0 = 4 → ((a0 = 5 → (ok_X10_flag 64 false S ∧ ∀ (r11 : Unit) (S11 : gSt), r11 = (sp_X10_flag 64 false S).1 → S11 = (sp_X10_flag 64 false S).2 → True)) ∧ (¬ a0 = 5 → ((a0 = 7 → (ok_X10_flag 8 true S ∧ ∀ (r12 : Unit) (S12 : gSt), r12 = (sp_X10_flag 8 true S).1 → S12 = (sp_X10_flag 8 true S).2 → True)) ∧ (¬ a0 = 7 → (ok_X10_flag 8 false S ∧ ∀ (r13 : Unit) (S13 : gSt), r13 = (sp_X10_flag 8 false S).1 → S13 = (sp_X10_flag 8 false S).2 → True)))))))))))))))
set_option maxRecDepth 100000 in
set_option maxHeartbeats 4000000 in
theorem c_X10_flagged (l : Launch) (η : gE) (a0 : Int32) (S : gSt) (ho : ok_X10_flagged a0 S) : gMet l yX10_flagged cX10_flagged 2 (some .int) rm_X10_flagged (oM η) [.ref (η.1 0), .int a0] S (oI (sp_X10_flagged a0 S).1) (sp_X10_flagged a0 S).2 := by
  refine gMet_of (X := sp_X10_flagged a0 S) (lv := [(0, .ref (η.1 0)), (1, .int a0)]) oI zM_ok (by decide +kernel) (Nat.le_of_ble_eq_true rfl) rfl (fun κ hc => ?_)
  have hc : gC (oM η) κ cX10_flagged 2 RX10 (some .int) rm_X10_flagged := hc
  unfold sp_X10_flagged
  unfold ok_X10_flagged at ho
  refine g_iload_n (i := 1) hc 1 dX10_flagged_0 rfl rfl ?_
  refine g_tsw (tgt := 40) hc 0 dX10_flagged_1 ⟨by decide, by decide, rfl⟩ rfl (fun c_1_0 => ?_) (fun c_1_0 => ?_)
  · have ho := ho.1 c_1_0
    refine g_aload_n (i := 0) hc 0 dX10_flagged_40 rfl rfl ?_
    refine g_iconst (v := 1) hc dX10_flagged_41 (by decide) ?_
    refine g_iload_n (i := 1) hc 1 dX10_flagged_42 rfl rfl ?_
    refine g_iconst (v := 1) hc dX10_flagged_43 (by decide) ?_
    refine g_icmpne (tgt := 51) hc dX10_flagged_44 rfl (fun c_44 => ?_) (fun c_44 => ?_)
    · have ho := ho.1 c_44
      refine g_iconst (v := 1) hc dX10_flagged_47 (by decide) ?_
      refine g_goto (tgt := 52) hc dX10_flagged_48 rfl ?_
      refine g_callVV hc 0 [.int 1, .int (bI true)] (fun l => c_X10_flag l η 1 true S ho.1) wtM_142 ge_X10_flag rfl ⟨rfl, rfl⟩ ⟨Nat.le_of_ble_eq_true rfl, Nat.le_of_ble_eq_true rfl⟩ rfl rfl rfl (Nat.le_of_ble_eq_true rfl) dX10_flagged_52 (fun r1 S1 e1 f1 => ?_)
      have ho := ho.2 r1 S1 e1 f1
      refine g_goto (tgt := 118) hc dX10_flagged_55 rfl ?_
      refine g_iconst (v := 2) hc dX10_flagged_118 (by decide) ?_
      exact g_iret hc dX10_flagged_119
    · have ho := ho.2 c_44
      refine g_iconst (v := 0) hc dX10_flagged_51 (by decide) ?_
      refine g_callVV hc 0 [.int 1, .int (bI false)] (fun l => c_X10_flag l η 1 false S ho.1) wtM_142 ge_X10_flag rfl ⟨rfl, rfl⟩ ⟨Nat.le_of_ble_eq_true rfl, Nat.le_of_ble_eq_true rfl⟩ rfl rfl rfl (Nat.le_of_ble_eq_true rfl) dX10_flagged_52 (fun r2 S2 e2 f2 => ?_)
      have ho := ho.2 r2 S2 e2 f2
      refine g_goto (tgt := 118) hc dX10_flagged_55 rfl ?_
      refine g_iconst (v := 2) hc dX10_flagged_118 (by decide) ?_
      exact g_iret hc dX10_flagged_119
  have ho := ho.2 c_1_0
  refine g_tsw (tgt := 40) hc 1 dX10_flagged_1 ⟨by decide, by decide, rfl⟩ rfl (fun c_1_1 => ?_) (fun c_1_1 => ?_)
  · have ho := ho.1 c_1_1
    refine g_aload_n (i := 0) hc 0 dX10_flagged_40 rfl rfl ?_
    refine g_iconst (v := 1) hc dX10_flagged_41 (by decide) ?_
    refine g_iload_n (i := 1) hc 1 dX10_flagged_42 rfl rfl ?_
    refine g_iconst (v := 1) hc dX10_flagged_43 (by decide) ?_
    refine g_icmpne (tgt := 51) hc dX10_flagged_44 rfl (fun c_44 => ?_) (fun c_44 => ?_)
    · have ho := ho.1 c_44
      refine g_iconst (v := 1) hc dX10_flagged_47 (by decide) ?_
      refine g_goto (tgt := 52) hc dX10_flagged_48 rfl ?_
      refine g_callVV hc 0 [.int 1, .int (bI true)] (fun l => c_X10_flag l η 1 true S ho.1) wtM_142 ge_X10_flag rfl ⟨rfl, rfl⟩ ⟨Nat.le_of_ble_eq_true rfl, Nat.le_of_ble_eq_true rfl⟩ rfl rfl rfl (Nat.le_of_ble_eq_true rfl) dX10_flagged_52 (fun r3 S3 e3 f3 => ?_)
      have ho := ho.2 r3 S3 e3 f3
      refine g_goto (tgt := 118) hc dX10_flagged_55 rfl ?_
      refine g_iconst (v := 2) hc dX10_flagged_118 (by decide) ?_
      exact g_iret hc dX10_flagged_119
    · have ho := ho.2 c_44
      refine g_iconst (v := 0) hc dX10_flagged_51 (by decide) ?_
      refine g_callVV hc 0 [.int 1, .int (bI false)] (fun l => c_X10_flag l η 1 false S ho.1) wtM_142 ge_X10_flag rfl ⟨rfl, rfl⟩ ⟨Nat.le_of_ble_eq_true rfl, Nat.le_of_ble_eq_true rfl⟩ rfl rfl rfl (Nat.le_of_ble_eq_true rfl) dX10_flagged_52 (fun r4 S4 e4 f4 => ?_)
      have ho := ho.2 r4 S4 e4 f4
      refine g_goto (tgt := 118) hc dX10_flagged_55 rfl ?_
      refine g_iconst (v := 2) hc dX10_flagged_118 (by decide) ?_
      exact g_iret hc dX10_flagged_119
  have ho := ho.2 c_1_1
  refine g_tsw (tgt := 58) hc 2 dX10_flagged_1 ⟨by decide, by decide, rfl⟩ rfl (fun c_1_2 => ?_) (fun c_1_2 => ?_)
  · have ho := ho.1 c_1_2
    refine g_aload_n (i := 0) hc 0 dX10_flagged_58 rfl rfl ?_
    refine g_iconst (v := 4) hc dX10_flagged_59 (by decide) ?_
    refine g_iload_n (i := 1) hc 1 dX10_flagged_60 rfl rfl ?_
    refine g_iconst (v := 3) hc dX10_flagged_61 (by decide) ?_
    refine g_icmpne (tgt := 69) hc dX10_flagged_62 rfl (fun c_62 => ?_) (fun c_62 => ?_)
    · have ho := ho.1 c_62
      refine g_iconst (v := 1) hc dX10_flagged_65 (by decide) ?_
      refine g_goto (tgt := 70) hc dX10_flagged_66 rfl ?_
      refine g_callVV hc 0 [.int 4, .int (bI true)] (fun l => c_X10_flag l η 4 true S ho.1) wtM_142 ge_X10_flag rfl ⟨rfl, rfl⟩ ⟨Nat.le_of_ble_eq_true rfl, Nat.le_of_ble_eq_true rfl⟩ rfl rfl rfl (Nat.le_of_ble_eq_true rfl) dX10_flagged_70 (fun r5 S5 e5 f5 => ?_)
      have ho := ho.2 r5 S5 e5 f5
      refine g_goto (tgt := 118) hc dX10_flagged_73 rfl ?_
      refine g_iconst (v := 2) hc dX10_flagged_118 (by decide) ?_
      exact g_iret hc dX10_flagged_119
    · have ho := ho.2 c_62
      refine g_iconst (v := 0) hc dX10_flagged_69 (by decide) ?_
      refine g_callVV hc 0 [.int 4, .int (bI false)] (fun l => c_X10_flag l η 4 false S ho.1) wtM_142 ge_X10_flag rfl ⟨rfl, rfl⟩ ⟨Nat.le_of_ble_eq_true rfl, Nat.le_of_ble_eq_true rfl⟩ rfl rfl rfl (Nat.le_of_ble_eq_true rfl) dX10_flagged_70 (fun r6 S6 e6 f6 => ?_)
      have ho := ho.2 r6 S6 e6 f6
      refine g_goto (tgt := 118) hc dX10_flagged_73 rfl ?_
      refine g_iconst (v := 2) hc dX10_flagged_118 (by decide) ?_
      exact g_iret hc dX10_flagged_119
  have ho := ho.2 c_1_2
  refine g_tsw (tgt := 58) hc 3 dX10_flagged_1 ⟨by decide, by decide, rfl⟩ rfl (fun c_1_3 => ?_) (fun c_1_3 => ?_)
  · have ho := ho.1 c_1_3
    refine g_aload_n (i := 0) hc 0 dX10_flagged_58 rfl rfl ?_
    refine g_iconst (v := 4) hc dX10_flagged_59 (by decide) ?_
    refine g_iload_n (i := 1) hc 1 dX10_flagged_60 rfl rfl ?_
    refine g_iconst (v := 3) hc dX10_flagged_61 (by decide) ?_
    refine g_icmpne (tgt := 69) hc dX10_flagged_62 rfl (fun c_62 => ?_) (fun c_62 => ?_)
    · have ho := ho.1 c_62
      refine g_iconst (v := 1) hc dX10_flagged_65 (by decide) ?_
      refine g_goto (tgt := 70) hc dX10_flagged_66 rfl ?_
      refine g_callVV hc 0 [.int 4, .int (bI true)] (fun l => c_X10_flag l η 4 true S ho.1) wtM_142 ge_X10_flag rfl ⟨rfl, rfl⟩ ⟨Nat.le_of_ble_eq_true rfl, Nat.le_of_ble_eq_true rfl⟩ rfl rfl rfl (Nat.le_of_ble_eq_true rfl) dX10_flagged_70 (fun r7 S7 e7 f7 => ?_)
      have ho := ho.2 r7 S7 e7 f7
      refine g_goto (tgt := 118) hc dX10_flagged_73 rfl ?_
      refine g_iconst (v := 2) hc dX10_flagged_118 (by decide) ?_
      exact g_iret hc dX10_flagged_119
    · have ho := ho.2 c_62
      refine g_iconst (v := 0) hc dX10_flagged_69 (by decide) ?_
      refine g_callVV hc 0 [.int 4, .int (bI false)] (fun l => c_X10_flag l η 4 false S ho.1) wtM_142 ge_X10_flag rfl ⟨rfl, rfl⟩ ⟨Nat.le_of_ble_eq_true rfl, Nat.le_of_ble_eq_true rfl⟩ rfl rfl rfl (Nat.le_of_ble_eq_true rfl) dX10_flagged_70 (fun r8 S8 e8 f8 => ?_)
      have ho := ho.2 r8 S8 e8 f8
      refine g_goto (tgt := 118) hc dX10_flagged_73 rfl ?_
      refine g_iconst (v := 2) hc dX10_flagged_118 (by decide) ?_
      exact g_iret hc dX10_flagged_119
  have ho := ho.2 c_1_3
  refine g_tsw (tgt := 76) hc 4 dX10_flagged_1 ⟨by decide, by decide, rfl⟩ rfl (fun c_1_4 => ?_) (fun c_1_4 => ?_)
  · have ho := ho.1 c_1_4
    refine g_aload_n (i := 0) hc 0 dX10_flagged_76 rfl rfl ?_
    refine g_aload_n (i := 0) hc 0 dX10_flagged_77 rfl rfl ?_
    refine g_aload_n (i := 0) hc 0 dX10_flagged_78 rfl rfl ?_
    refine gf_M_0_y hc wtM_153 dX10_flagged_79 ?_
    refine g_callVI hc 0 [.int (S.1 3)] (fun l => c_X10_shown l η (S.1 3) S ho.1) wtM_169 ge_X10_shown rfl ⟨rfl, rfl⟩ ⟨Nat.le_of_ble_eq_true rfl, Nat.le_of_ble_eq_true rfl⟩ rfl rfl rfl (Nat.le_of_ble_eq_true rfl) dX10_flagged_82 (fun r9 S9 e9 f9 => ?_)
    have ho := ho.2 r9 S9 e9 f9
    refine pf_M_0_a (v := r9) hc wtM_170 dX10_flagged_85 (fun S10 f10 => ?_)
    have ho := ho S10 f10
    refine g_goto (tgt := 118) hc dX10_flagged_88 rfl ?_
    refine g_iconst (v := 2) hc dX10_flagged_118 (by decide) ?_
    exact g_iret hc dX10_flagged_119
  have ho := ho.2 c_1_4
  refine g_tsw (tgt := 91) hc 5 dX10_flagged_1 ⟨by decide, by decide, rfl⟩ rfl (fun c_1_5 => ?_) (fun c_1_5 => ?_)
  · have ho := ho.1 c_1_5
    refine g_aload_n (i := 0) hc 0 dX10_flagged_91 rfl rfl ?_
    refine g_bipush (v := 64) hc dX10_flagged_92 (by decide) ?_
    refine g_iconst (v := 0) hc dX10_flagged_94 (by decide) ?_
    refine g_callVV hc 0 [.int 64, .int (bI false)] (fun l => c_X10_flag l η 64 false S ho.1) wtM_142 ge_X10_flag rfl ⟨rfl, rfl⟩ ⟨Nat.le_of_ble_eq_true rfl, Nat.le_of_ble_eq_true rfl⟩ rfl rfl rfl (Nat.le_of_ble_eq_true rfl) dX10_flagged_95 (fun r11 S11 e11 f11 => ?_)
    have ho := ho.2 r11 S11 e11 f11
    refine g_goto (tgt := 118) hc dX10_flagged_98 rfl ?_
    refine g_iconst (v := 2) hc dX10_flagged_118 (by decide) ?_
    exact g_iret hc dX10_flagged_119
  have ho := ho.2 c_1_5
  refine g_tswd (tgt := 101) hc dX10_flagged_1 (by have := lv_neT c_1_0 (a := 0) (by decide); have := lv_neT c_1_1 (a := 1) (by decide); have := lv_neT c_1_2 (a := 2) (by decide); have := lv_neT c_1_3 (a := 3) (by decide); have := lv_neT c_1_4 (a := 4) (by decide); have := lv_neT c_1_5 (a := 5) (by decide); omega) rfl ?_
  refine g_aload_n (i := 0) hc 0 dX10_flagged_101 rfl rfl ?_
  refine g_bipush (v := 8) hc dX10_flagged_102 (by decide) ?_
  refine g_iload_n (i := 1) hc 1 dX10_flagged_104 rfl rfl ?_
  refine g_bipush (v := 7) hc dX10_flagged_105 (by decide) ?_
  refine g_icmpne (tgt := 114) hc dX10_flagged_107 rfl (fun c_107 => ?_) (fun c_107 => ?_)
  · have ho := ho.1 c_107
    refine g_iconst (v := 1) hc dX10_flagged_110 (by decide) ?_
    refine g_goto (tgt := 115) hc dX10_flagged_111 rfl ?_
    refine g_callVV hc 0 [.int 8, .int (bI true)] (fun l => c_X10_flag l η 8 true S ho.1) wtM_142 ge_X10_flag rfl ⟨rfl, rfl⟩ ⟨Nat.le_of_ble_eq_true rfl, Nat.le_of_ble_eq_true rfl⟩ rfl rfl rfl (Nat.le_of_ble_eq_true rfl) dX10_flagged_115 (fun r12 S12 e12 f12 => ?_)
    have ho := ho.2 r12 S12 e12 f12
    refine g_iconst (v := 2) hc dX10_flagged_118 (by decide) ?_
    exact g_iret hc dX10_flagged_119
  · have ho := ho.2 c_107
    refine g_iconst (v := 0) hc dX10_flagged_114 (by decide) ?_
    refine g_callVV hc 0 [.int 8, .int (bI false)] (fun l => c_X10_flag l η 8 false S ho.1) wtM_142 ge_X10_flag rfl ⟨rfl, rfl⟩ ⟨Nat.le_of_ble_eq_true rfl, Nat.le_of_ble_eq_true rfl⟩ rfl rfl rfl (Nat.le_of_ble_eq_true rfl) dX10_flagged_115 (fun r13 S13 e13 f13 => ?_)
    have ho := ho.2 r13 S13 e13 f13
    refine g_iconst (v := 2) hc dX10_flagged_118 (by decide) ?_
    exact g_iret hc dX10_flagged_119

abbrev rm_X10_called : Room := { frames := 6, cells := 0, slots := 0, locals := 133 }
def jn_X10_called_84 (x1 : Int32) (S : gSt) : Int32 × gSt := gB (sp_X10_pullWord S) (fun r8 S8 => gL (sI S8 6 r8) (fun S9 => (if x1 = 3 then gL (sI S9 6 (((S9.1 6) + 1) &&& 65535)) (fun S10 => (6, S10)) else (6, S9))))
def ok_jn_X10_called_84 (x1 : Int32) (S : gSt) : Prop := (ok_X10_pullWord S ∧ ∀ (r8 : Int32) (S8 : gSt), r8 = (sp_X10_pullWord S).1 → S8 = (sp_X10_pullWord S).2 → ∀ S9 : gSt, S9 = sI S8 6 r8 → ((x1 = 3 → ∀ S10 : gSt, S10 = sI S9 6 (((S9.1 6) + 1) &&& 65535) → True) ∧ (¬ x1 = 3 → True)))
def sp_X10_called (a0 : Int32) (S : gSt) : Int32 × gSt := (if a0 = 0 then gL (sI S 6 (((S.1 6) + 1) &&& 65535)) (fun S1 => gB (sp_X10_interrupt 65534 ((S1.1 5) ||| 16) S1) (fun (_ : Unit) S2 => (7, S2))) else (if a0 = 1 then gB (sp_X10_fetchWord S) (fun r3 S3 => gB (sp_X10_pushWord (((S3.1 6) - 1) &&& 65535) S3) (fun (_ : Unit) S4 => gL (sI S4 6 r3) (fun S5 => (6, S5)))) else (if a0 = 2 then gB (sp_X10_pull S) (fun r6 S6 => gL (sI S6 5 ((r6 &&& (-17)) ||| 32)) (fun S7 => jn_X10_called_84 a0 S7)) else jn_X10_called_84 a0 S)))
def ok_X10_called (a0 : Int32) (S : gSt) : Prop := ((a0 = 0 → ∀ S1 : gSt, S1 = sI S 6 (((S.1 6) + 1) &&& 65535) → (ok_X10_interrupt 65534 ((S1.1 5) ||| 16) S1 ∧ ∀ (r2 : Unit) (S2 : gSt), r2 = (sp_X10_interrupt 65534 ((S1.1 5) ||| 16) S1).1 → S2 = (sp_X10_interrupt 65534 ((S1.1 5) ||| 16) S1).2 → True)) ∧ (¬ a0 = 0 → ((a0 = 1 → (ok_X10_fetchWord S ∧ ∀ (r3 : Int32) (S3 : gSt), r3 = (sp_X10_fetchWord S).1 → S3 = (sp_X10_fetchWord S).2 → (ok_X10_pushWord (((S3.1 6) - 1) &&& 65535) S3 ∧ ∀ (r4 : Unit) (S4 : gSt), r4 = (sp_X10_pushWord (((S3.1 6) - 1) &&& 65535) S3).1 → S4 = (sp_X10_pushWord (((S3.1 6) - 1) &&& 65535) S3).2 → ∀ S5 : gSt, S5 = sI S4 6 r3 → True))) ∧ (¬ a0 = 1 → ((a0 = 2 → (ok_X10_pull S ∧ ∀ (r6 : Int32) (S6 : gSt), r6 = (sp_X10_pull S).1 → S6 = (sp_X10_pull S).2 → ∀ S7 : gSt, S7 = sI S6 5 ((r6 &&& (-17)) ||| 32) → ok_jn_X10_called_84 a0 S7)) ∧ (¬ a0 = 2 → ok_jn_X10_called_84 a0 S))))))
set_option maxRecDepth 100000 in
set_option maxHeartbeats 4000000 in
theorem g_jn_X10_called_84 {η : gE} {κ : gK} (hc : gC (oM η) κ cX10_called 3 RX10 (some .int) rm_X10_called) (x1 : Int32) (S : gSt) (ho : ok_jn_X10_called_84 x1 S) : gG (oM η) κ 3 oI 84 [(0, .ref (η.1 0)), (1, .int x1)] [] S (jn_X10_called_84 x1 S) := by
  unfold jn_X10_called_84
  unfold ok_jn_X10_called_84 at ho
  refine g_aload_n (i := 0) hc 0 dX10_called_84 rfl rfl ?_
  refine g_aload_n (i := 0) hc 0 dX10_called_85 rfl rfl ?_
  refine g_callVI hc 0 [] (fun l => c_X10_pullWord l η S ho.1) wtM_218 ge_X10_pullWord rfl ⟨rfl, rfl⟩ ⟨Nat.le_of_ble_eq_true rfl, Nat.le_of_ble_eq_true rfl⟩ rfl rfl rfl (Nat.le_of_ble_eq_true rfl) dX10_called_86 (fun r8 S8 e8 f8 => ?_)
  have ho := ho.2 r8 S8 e8 f8
  refine pf_M_0_pc (v := r8) hc wtM_124 dX10_called_89 (fun S9 f9 => ?_)
  have ho := ho S9 f9
  refine g_iload_n (i := 1) hc 1 dX10_called_92 rfl rfl ?_
  refine g_iconst (v := 3) hc dX10_called_93 (by decide) ?_
  refine g_icmpne (tgt := 110) hc dX10_called_94 rfl (fun c_94 => ?_) (fun c_94 => ?_)
  · have ho := ho.1 c_94
    refine g_aload_n (i := 0) hc 0 dX10_called_97 rfl rfl ?_
    refine g_aload_n (i := 0) hc 0 dX10_called_98 rfl rfl ?_
    refine gf_M_0_pc hc wtM_124 dX10_called_99 ?_
    refine g_iconst (v := 1) hc dX10_called_102 (by decide) ?_
    refine g_iadd hc dX10_called_103 ?_
    refine g_ldc (v := 65535) hc wtM_112 dX10_called_104 ?_
    refine g_iand hc dX10_called_106 ?_
    refine pf_M_0_pc (v := (((S9.1 6) + 1) &&& 65535)) hc wtM_124 dX10_called_107 (fun S10 f10 => ?_)
    have ho := ho S10 f10
    refine g_bipush (v := 6) hc dX10_called_110 (by decide) ?_
    exact g_iret hc dX10_called_112
  · have ho := ho.2 c_94
    refine g_bipush (v := 6) hc dX10_called_110 (by decide) ?_
    exact g_iret hc dX10_called_112
set_option maxRecDepth 100000 in
set_option maxHeartbeats 4000000 in
theorem c_X10_called (l : Launch) (η : gE) (a0 : Int32) (S : gSt) (ho : ok_X10_called a0 S) : gMet l yX10_called cX10_called 3 (some .int) rm_X10_called (oM η) [.ref (η.1 0), .int a0] S (oI (sp_X10_called a0 S).1) (sp_X10_called a0 S).2 := by
  refine gMet_of (X := sp_X10_called a0 S) (lv := [(0, .ref (η.1 0)), (1, .int a0)]) oI zM_ok (by decide +kernel) (Nat.le_of_ble_eq_true rfl) rfl (fun κ hc => ?_)
  have hc : gC (oM η) κ cX10_called 3 RX10 (some .int) rm_X10_called := hc
  unfold sp_X10_called
  unfold ok_X10_called at ho
  refine g_iload_n (i := 1) hc 1 dX10_called_0 rfl rfl ?_
  refine g_ifne (tgt := 34) hc dX10_called_1 rfl (fun c_1 => ?_) (fun c_1 => ?_)
  · have ho := ho.1 c_1
    refine g_aload_n (i := 0) hc 0 dX10_called_4 rfl rfl ?_
    refine g_aload_n (i := 0) hc 0 dX10_called_5 rfl rfl ?_
    refine gf_M_0_pc hc wtM_124 dX10_called_6 ?_
    refine g_iconst (v := 1) hc dX10_called_9 (by decide) ?_
    refine g_iadd hc dX10_called_10 ?_
    refine g_ldc (v := 65535) hc wtM_112 dX10_called_11 ?_
    refine g_iand hc dX10_called_13 ?_
    refine pf_M_0_pc (v := (((S.1 6) + 1) &&& 65535)) hc wtM_124 dX10_called_14 (fun S1 f1 => ?_)
    have ho := ho S1 f1
    refine g_aload_n (i := 0) hc 0 dX10_called_17 rfl rfl ?_
    refine g_ldcw (v := 65534) hc wtM_210 dX10_called_18 ?_
    refine g_aload_n (i := 0) hc 0 dX10_called_21 rfl rfl ?_
    refine gf_M_0_p hc wtM_138 dX10_called_22 ?_
    refine g_bipush (v := 16) hc dX10_called_25 (by decide) ?_
    refine g_ior hc dX10_called_27 ?_
    refine g_callVV hc 0 [.int 65534, .int ((S1.1 5) ||| 16)] (fun l => c_X10_interrupt l η 65534 ((S1.1 5) ||| 16) S1 ho.1) wtM_214 ge_X10_interrupt rfl ⟨rfl, rfl⟩ ⟨Nat.le_of_ble_eq_true rfl, Nat.le_of_ble_eq_true rfl⟩ rfl rfl rfl (Nat.le_of_ble_eq_true rfl) dX10_called_28 (fun r2 S2 e2 f2 => ?_)
    have ho := ho.2 r2 S2 e2 f2
    refine g_bipush (v := 7) hc dX10_called_31 (by decide) ?_
    exact g_iret hc dX10_called_33
  · have ho := ho.2 c_1
    refine g_iload_n (i := 1) hc 1 dX10_called_34 rfl rfl ?_
    refine g_iconst (v := 1) hc dX10_called_35 (by decide) ?_
    refine g_icmpne (tgt := 65) hc dX10_called_36 rfl (fun c_36 => ?_) (fun c_36 => ?_)
    · have ho := ho.1 c_36
      refine g_aload_n (i := 0) hc 0 dX10_called_39 rfl rfl ?_
      refine g_callVI hc 0 [] (fun l => c_X10_fetchWord l η S ho.1) wtM_157 ge_X10_fetchWord rfl ⟨rfl, rfl⟩ ⟨Nat.le_of_ble_eq_true rfl, Nat.le_of_ble_eq_true rfl⟩ rfl rfl rfl (Nat.le_of_ble_eq_true rfl) dX10_called_40 (fun r3 S3 e3 f3 => ?_)
      have ho := ho.2 r3 S3 e3 f3
      refine g_istore_n (i := 2) (lv' := [(2, .int r3), (0, .ref (η.1 0)), (1, .int a0)]) hc dX10_called_43 rfl (by decide) rfl ?_
      refine g_aload_n (i := 0) hc 1 dX10_called_44 rfl rfl ?_
      refine g_aload_n (i := 0) hc 1 dX10_called_45 rfl rfl ?_
      refine gf_M_0_pc hc wtM_124 dX10_called_46 ?_
      refine g_iconst (v := 1) hc dX10_called_49 (by decide) ?_
      refine g_isub hc dX10_called_50 ?_
      refine g_ldc (v := 65535) hc wtM_112 dX10_called_51 ?_
      refine g_iand hc dX10_called_53 ?_
      refine g_callVV hc 0 [.int (((S3.1 6) - 1) &&& 65535)] (fun l => c_X10_pushWord l η (((S3.1 6) - 1) &&& 65535) S3 ho.1) wtM_146 ge_X10_pushWord rfl ⟨rfl, rfl⟩ ⟨Nat.le_of_ble_eq_true rfl, Nat.le_of_ble_eq_true rfl⟩ rfl rfl rfl (Nat.le_of_ble_eq_true rfl) dX10_called_54 (fun r4 S4 e4 f4 => ?_)
      have ho := ho.2 r4 S4 e4 f4
      refine g_aload_n (i := 0) hc 1 dX10_called_57 rfl rfl ?_
      refine g_iload_n (i := 2) hc 0 dX10_called_58 rfl rfl ?_
      refine pf_M_0_pc (v := r3) hc wtM_124 dX10_called_59 (fun S5 f5 => ?_)
      have ho := ho S5 f5
      refine g_bipush (v := 6) hc dX10_called_62 (by decide) ?_
      exact g_iret hc dX10_called_64
    · have ho := ho.2 c_36
      refine g_iload_n (i := 1) hc 1 dX10_called_65 rfl rfl ?_
      refine g_iconst (v := 2) hc dX10_called_66 (by decide) ?_
      refine g_icmpne (tgt := 84) hc dX10_called_67 rfl (fun c_67 => ?_) (fun c_67 => ?_)
      · have ho := ho.1 c_67
        refine g_aload_n (i := 0) hc 0 dX10_called_70 rfl rfl ?_
        refine g_aload_n (i := 0) hc 0 dX10_called_71 rfl rfl ?_
        refine g_callVI hc 0 [] (fun l => c_X10_pull l η S ho.1) wtM_137 ge_X10_pull rfl ⟨rfl, rfl⟩ ⟨Nat.le_of_ble_eq_true rfl, Nat.le_of_ble_eq_true rfl⟩ rfl rfl rfl (Nat.le_of_ble_eq_true rfl) dX10_called_72 (fun r6 S6 e6 f6 => ?_)
        have ho := ho.2 r6 S6 e6 f6
        refine g_bipush (v := (-17)) hc dX10_called_75 (by decide) ?_
        refine g_iand hc dX10_called_77 ?_
        refine g_bipush (v := 32) hc dX10_called_78 (by decide) ?_
        refine g_ior hc dX10_called_80 ?_
        refine pf_M_0_p (v := ((r6 &&& (-17)) ||| 32)) hc wtM_138 dX10_called_81 (fun S7 f7 => ?_)
        have ho := ho S7 f7
        exact g_lv [0, 1] rfl (g_jn_X10_called_84 hc _ _ ho)
      · have ho := ho.2 c_67
        exact g_lv [0, 1] rfl (g_jn_X10_called_84 hc _ _ ho)

abbrev rm_X10_jump : Room := { frames := 6, cells := 0, slots := 0, locals := 131 }
def sp_X10_jump (a0 : Bool) (S : gSt) : Int32 × gSt := gB (sp_X10_fetchWord S) (fun r1 S1 => (if (bI a0) = 0 then gL (sI S1 6 r1) (fun S2 => (3, S2)) else gB (sp_X10_get r1 S1) (fun r3 S3 => gB (sp_X10_get ((r1 &&& 65280) ||| ((r1 + 1) &&& 255)) S3) (fun r4 S4 => gL (sI S4 6 (r3 ||| (r4 <<< ((8 : Int32) &&& (31 : Int32))))) (fun S5 => (5, S5))))))
def ok_X10_jump (a0 : Bool) (S : gSt) : Prop := (ok_X10_fetchWord S ∧ ∀ (r1 : Int32) (S1 : gSt), r1 = (sp_X10_fetchWord S).1 → S1 = (sp_X10_fetchWord S).2 → (((bI a0) = 0 → ∀ S2 : gSt, S2 = sI S1 6 r1 → True) ∧ (¬ (bI a0) = 0 → (ok_X10_get r1 S1 ∧ ∀ (r3 : Int32) (S3 : gSt), r3 = (sp_X10_get r1 S1).1 → S3 = (sp_X10_get r1 S1).2 → (ok_X10_get ((r1 &&& 65280) ||| ((r1 + 1) &&& 255)) S3 ∧ ∀ (r4 : Int32) (S4 : gSt), r4 = (sp_X10_get ((r1 &&& 65280) ||| ((r1 + 1) &&& 255)) S3).1 → S4 = (sp_X10_get ((r1 &&& 65280) ||| ((r1 + 1) &&& 255)) S3).2 → ∀ S5 : gSt, S5 = sI S4 6 (r3 ||| (r4 <<< ((8 : Int32) &&& (31 : Int32)))) → True)))))
set_option maxRecDepth 100000 in
set_option maxHeartbeats 4000000 in
theorem c_X10_jump (l : Launch) (η : gE) (a0 : Bool) (S : gSt) (ho : ok_X10_jump a0 S) : gMet l yX10_jump cX10_jump 4 (some .int) rm_X10_jump (oM η) [.ref (η.1 0), .int (bI a0)] S (oI (sp_X10_jump a0 S).1) (sp_X10_jump a0 S).2 := by
  refine gMet_of (X := sp_X10_jump a0 S) (lv := [(0, .ref (η.1 0)), (1, .int (bI a0))]) oI zM_ok (by decide +kernel) (Nat.le_of_ble_eq_true rfl) rfl (fun κ hc => ?_)
  have hc : gC (oM η) κ cX10_jump 4 RX10 (some .int) rm_X10_jump := hc
  unfold sp_X10_jump
  unfold ok_X10_jump at ho
  refine g_aload_n (i := 0) hc 0 dX10_jump_0 rfl rfl ?_
  refine g_callVI hc 0 [] (fun l => c_X10_fetchWord l η S ho.1) wtM_157 ge_X10_fetchWord rfl ⟨rfl, rfl⟩ ⟨Nat.le_of_ble_eq_true rfl, Nat.le_of_ble_eq_true rfl⟩ rfl rfl rfl (Nat.le_of_ble_eq_true rfl) dX10_jump_1 (fun r1 S1 e1 f1 => ?_)
  have ho := ho.2 r1 S1 e1 f1
  refine g_istore_n (i := 2) (lv' := [(2, .int r1), (0, .ref (η.1 0)), (1, .int (bI a0))]) hc dX10_jump_4 rfl (by decide) rfl ?_
  refine g_iload_n (i := 1) hc 2 dX10_jump_5 rfl rfl ?_
  refine g_ifne (tgt := 16) hc dX10_jump_6 rfl (fun c_6 => ?_) (fun c_6 => ?_)
  · have ho := ho.1 c_6
    refine g_aload_n (i := 0) hc 1 dX10_jump_9 rfl rfl ?_
    refine g_iload_n (i := 2) hc 0 dX10_jump_10 rfl rfl ?_
    refine pf_M_0_pc (v := r1) hc wtM_124 dX10_jump_11 (fun S2 f2 => ?_)
    have ho := ho S2 f2
    refine g_iconst (v := 3) hc dX10_jump_14 (by decide) ?_
    exact g_iret hc dX10_jump_15
  · have ho := ho.2 c_6
    refine g_aload_n (i := 0) hc 1 dX10_jump_16 rfl rfl ?_
    refine g_iload_n (i := 2) hc 0 dX10_jump_17 rfl rfl ?_
    refine g_callVI hc 0 [.int r1] (fun l => c_X10_get l η r1 S1 ho.1) wtM_80 ge_X10_get rfl ⟨rfl, rfl⟩ ⟨Nat.le_of_ble_eq_true rfl, Nat.le_of_ble_eq_true rfl⟩ rfl rfl rfl (Nat.le_of_ble_eq_true rfl) dX10_jump_18 (fun r3 S3 e3 f3 => ?_)
    have ho := ho.2 r3 S3 e3 f3
    refine g_istore_n (i := 3) (lv' := [(3, .int r3), (2, .int r1), (0, .ref (η.1 0)), (1, .int (bI a0))]) hc dX10_jump_21 rfl (by decide) rfl ?_
    refine g_aload_n (i := 0) hc 2 dX10_jump_22 rfl rfl ?_
    refine g_iload_n (i := 3) hc 0 dX10_jump_23 rfl rfl ?_
    refine g_aload_n (i := 0) hc 2 dX10_jump_24 rfl rfl ?_
    refine g_iload_n (i := 2) hc 1 dX10_jump_25 rfl rfl ?_
    refine g_ldcw (v := 65280) hc wtM_219 dX10_jump_26 ?_
    refine g_iand hc dX10_jump_29 ?_
    refine g_iload_n (i := 2) hc 1 dX10_jump_30 rfl rfl ?_
    refine g_iconst (v := 1) hc dX10_jump_31 (by decide) ?_
    refine g_iadd hc dX10_jump_32 ?_
    refine g_sipush (v := 255) hc dX10_jump_33 (by decide) ?_
    refine g_iand hc dX10_jump_36 ?_
    refine g_ior hc dX10_jump_37 ?_
    refine g_callVI hc 0 [.int ((r1 &&& 65280) ||| ((r1 + 1) &&& 255))] (fun l => c_X10_get l η ((r1 &&& 65280) ||| ((r1 + 1) &&& 255)) S3 ho.1) wtM_80 ge_X10_get rfl ⟨rfl, rfl⟩ ⟨Nat.le_of_ble_eq_true rfl, Nat.le_of_ble_eq_true rfl⟩ rfl rfl rfl (Nat.le_of_ble_eq_true rfl) dX10_jump_38 (fun r4 S4 e4 f4 => ?_)
    have ho := ho.2 r4 S4 e4 f4
    refine g_bipush (v := 8) hc dX10_jump_41 (by decide) ?_
    refine g_ishl hc dX10_jump_43 ?_
    refine g_ior hc dX10_jump_44 ?_
    refine pf_M_0_pc (v := (r3 ||| (r4 <<< ((8 : Int32) &&& (31 : Int32))))) hc wtM_124 dX10_jump_45 (fun S5 f5 => ?_)
    have ho := ho S5 f5
    refine g_iconst (v := 5) hc dX10_jump_48 (by decide) ?_
    exact g_iret hc dX10_jump_49

abbrev rm_X10_listed : Room := { frames := 7, cells := 0, slots := 0, locals := 158 }
def jn_X10_listed_119 (x2 : Int32) (S : gSt) : Int32 × gSt := gB (sp_X10_cyclesOf x2 S) (fun r9 S9 => (if (bI (S9.2.1 2)) = 0 then ((r9 + 0), S9) else ((r9 + 1), S9)))
def ok_jn_X10_listed_119 (x2 : Int32) (S : gSt) : Prop := (ok_X10_cyclesOf x2 S ∧ ∀ (r9 : Int32) (S9 : gSt), r9 = (sp_X10_cyclesOf x2 S).1 → S9 = (sp_X10_cyclesOf x2 S).2 → (((bI (S9.2.1 2)) = 0 → True) ∧ (¬ (bI (S9.2.1 2)) = 0 → True)))
def jn_X10_listed_91 (x1 : Int32) (x2 : Int32) (x4 : Int32) (S : gSt) : Int32 × gSt := (if x1 ≤ 5 then jn_X10_listed_119 x2 S else (if x1 = 6 then gB (sp_X10_compare (S.1 3) x4 S) (fun (_ : Unit) S10 => jn_X10_listed_119 x2 S10) else gB (sp_X10_compare (S.1 2) x4 S) (fun (_ : Unit) S11 => jn_X10_listed_119 x2 S11)))
def ok_jn_X10_listed_91 (x1 : Int32) (x2 : Int32) (x4 : Int32) (S : gSt) : Prop := ((x1 ≤ 5 → ok_jn_X10_listed_119 x2 S) ∧ (¬ x1 ≤ 5 → ((x1 = 6 → (ok_X10_compare (S.1 3) x4 S ∧ ∀ (r10 : Unit) (S10 : gSt), r10 = (sp_X10_compare (S.1 3) x4 S).1 → S10 = (sp_X10_compare (S.1 3) x4 S).2 → ok_jn_X10_listed_119 x2 S10)) ∧ (¬ x1 = 6 → (ok_X10_compare (S.1 2) x4 S ∧ ∀ (r11 : Unit) (S11 : gSt), r11 = (sp_X10_compare (S.1 2) x4 S).1 → S11 = (sp_X10_compare (S.1 2) x4 S).2 → ok_jn_X10_listed_119 x2 S11)))))
def jn_X10_listed_76 (x1 : Int32) (x2 : Int32) (x4 : Int32) (S : gSt) : Int32 × gSt := (if x1 = 5 then gB (sp_X10_shown x4 S) (fun r7 S7 => gL (sI S7 3 r7) (fun S8 => jn_X10_listed_91 x1 x2 x4 S8)) else jn_X10_listed_91 x1 x2 x4 S)
def ok_jn_X10_listed_76 (x1 : Int32) (x2 : Int32) (x4 : Int32) (S : gSt) : Prop := ((x1 = 5 → (ok_X10_shown x4 S ∧ ∀ (r7 : Int32) (S7 : gSt), r7 = (sp_X10_shown x4 S).1 → S7 = (sp_X10_shown x4 S).2 → ∀ S8 : gSt, S8 = sI S7 3 r7 → ok_jn_X10_listed_91 x1 x2 x4 S8)) ∧ (¬ x1 = 5 → ok_jn_X10_listed_91 x1 x2 x4 S))
def sp_X10_listed (a0 : Int32) (a1 : Int32) (S : gSt) : Int32 × gSt := gB (sp_X10_addressed a1 S) (fun r1 S1 => (if a0 = 4 then gB (sp_X10_put r1 (S1.1 3) S1) (fun (_ : Unit) S2 => gB (sp_X10_cyclesOf a1 S2) (fun r3 S3 => (r3, S3))) else gB (sp_X10_get r1 S1) (fun r4 S4 => (if a0 = 1 then (if ((S4.1 1) &&& r4) = 0 then gB (sp_X10_flag 2 true S4) (fun (_ : Unit) S5 => gL (sI S5 5 (((S5.1 5) &&& (-193)) ||| (r4 &&& 192))) (fun S6 => jn_X10_listed_76 a0 a1 r4 S6)) else gB (sp_X10_flag 2 false S4) (fun (_ : Unit) S12 => gL (sI S12 5 (((S12.1 5) &&& (-193)) ||| (r4 &&& 192))) (fun S13 => jn_X10_listed_76 a0 a1 r4 S13))) else jn_X10_listed_76 a0 a1 r4 S4))))
def ok_X10_listed (a0 : Int32) (a1 : Int32) (S : gSt) : Prop := (ok_X10_addressed a1 S ∧ ∀ (r1 : Int32) (S1 : gSt), r1 = (sp_X10_addressed a1 S).1 → S1 = (sp_X10_addressed a1 S).2 → ((a0 = 4 → (ok_X10_put r1 (S1.1 3) S1 ∧ ∀ (r2 : Unit) (S2 : gSt), r2 = (sp_X10_put r1 (S1.1 3) S1).1 → S2 = (sp_X10_put r1 (S1.1 3) S1).2 → (ok_X10_cyclesOf a1 S2 ∧ ∀ (r3 : Int32) (S3 : gSt), r3 = (sp_X10_cyclesOf a1 S2).1 → S3 = (sp_X10_cyclesOf a1 S2).2 → True))) ∧ (¬ a0 = 4 → (ok_X10_get r1 S1 ∧ ∀ (r4 : Int32) (S4 : gSt), r4 = (sp_X10_get r1 S1).1 → S4 = (sp_X10_get r1 S1).2 → ((a0 = 1 → ((((S4.1 1) &&& r4) = 0 → (ok_X10_flag 2 true S4 ∧ ∀ (r5 : Unit) (S5 : gSt), r5 = (sp_X10_flag 2 true S4).1 → S5 = (sp_X10_flag 2 true S4).2 → ∀ S6 : gSt, S6 = sI S5 5 (((S5.1 5) &&& (-193)) ||| (r4 &&& 192)) → ok_jn_X10_listed_76 a0 a1 r4 S6)) ∧ (¬ ((S4.1 1) &&& r4) = 0 → (ok_X10_flag 2 false S4 ∧ ∀ (r12 : Unit) (S12 : gSt), r12 = (sp_X10_flag 2 false S4).1 → S12 = (sp_X10_flag 2 false S4).2 → ∀ S13 : gSt, S13 = sI S12 5 (((S12.1 5) &&& (-193)) ||| (r4 &&& 192)) → ok_jn_X10_listed_76 a0 a1 r4 S13)))) ∧ (¬ a0 = 1 → ok_jn_X10_listed_76 a0 a1 r4 S4))))))
set_option maxRecDepth 100000 in
set_option maxHeartbeats 4000000 in
theorem g_jn_X10_listed_119 {η : gE} {κ : gK} (hc : gC (oM η) κ cX10_listed 5 RX10 (some .int) rm_X10_listed) (x2 : Int32) (S : gSt) (ho : ok_jn_X10_listed_119 x2 S) : gG (oM η) κ 5 oI 119 [(0, .ref (η.1 0)), (2, .int x2)] [] S (jn_X10_listed_119 x2 S) := by
  unfold jn_X10_listed_119
  unfold ok_jn_X10_listed_119 at ho
  refine g_iload_n (i := 2) hc 1 dX10_listed_119 rfl rfl ?_
  refine g_callSI hc [.int x2] (fun l => c_X10_cyclesOf l η x2 S ho.1) wtM_181 ge_X10_cyclesOf rfl ⟨rfl, rfl⟩ ⟨Nat.le_of_ble_eq_true rfl, Nat.le_of_ble_eq_true rfl⟩ rfl (Nat.le_of_ble_eq_true rfl) dX10_listed_120 (fun r9 S9 e9 f9 => ?_)
  have ho := ho.2 r9 S9 e9 f9
  refine g_aload_n (i := 0) hc 0 dX10_listed_123 rfl rfl ?_
  refine gf_M_0_crossed hc wtM_151 dX10_listed_124 ?_
  refine g_ifeq (tgt := 134) hc dX10_listed_127 rfl (fun c_127 => ?_) (fun c_127 => ?_)
  · have ho := ho.1 c_127
    refine g_iconst (v := 0) hc dX10_listed_134 (by decide) ?_
    refine g_iadd hc dX10_listed_135 ?_
    exact g_iret hc dX10_listed_136
  · have ho := ho.2 c_127
    refine g_iconst (v := 1) hc dX10_listed_130 (by decide) ?_
    refine g_goto (tgt := 135) hc dX10_listed_131 rfl ?_
    refine g_iadd hc dX10_listed_135 ?_
    exact g_iret hc dX10_listed_136
set_option maxRecDepth 100000 in
set_option maxHeartbeats 4000000 in
theorem g_jn_X10_listed_91 {η : gE} {κ : gK} (hc : gC (oM η) κ cX10_listed 5 RX10 (some .int) rm_X10_listed) (x1 : Int32) (x2 : Int32) (x4 : Int32) (S : gSt) (ho : ok_jn_X10_listed_91 x1 x2 x4 S) : gG (oM η) κ 5 oI 91 [(0, .ref (η.1 0)), (1, .int x1), (2, .int x2), (4, .int x4)] [] S (jn_X10_listed_91 x1 x2 x4 S) := by
  unfold jn_X10_listed_91
  unfold ok_jn_X10_listed_91 at ho
  refine g_iload_n (i := 1) hc 1 dX10_listed_91 rfl rfl ?_
  refine g_iconst (v := 5) hc dX10_listed_92 (by decide) ?_
  refine g_icmple (tgt := 119) hc dX10_listed_93 rfl (fun c_93 => ?_) (fun c_93 => ?_)
  · have ho := ho.1 c_93
    exact g_lv [0, 2] rfl (g_jn_X10_listed_119 hc _ _ ho)
  · have ho := ho.2 c_93
    refine g_aload_n (i := 0) hc 0 dX10_listed_96 rfl rfl ?_
    refine g_iload_n (i := 1) hc 1 dX10_listed_97 rfl rfl ?_
    refine g_bipush (v := 6) hc dX10_listed_98 (by decide) ?_
    refine g_icmpne (tgt := 110) hc dX10_listed_100 rfl (fun c_100 => ?_) (fun c_100 => ?_)
    · have ho := ho.1 c_100
      refine g_aload_n (i := 0) hc 0 dX10_listed_103 rfl rfl ?_
      refine gf_M_0_y hc wtM_153 dX10_listed_104 ?_
      refine g_goto (tgt := 114) hc dX10_listed_107 rfl ?_
      refine g_iload (i := 4) hc 3 dX10_listed_114 rfl ?_
      refine g_callVV hc 0 [.int (S.1 3), .int x4] (fun l => c_X10_compare l η (S.1 3) x4 S ho.1) wtM_189 ge_X10_compare rfl ⟨rfl, rfl⟩ ⟨Nat.le_of_ble_eq_true rfl, Nat.le_of_ble_eq_true rfl⟩ rfl rfl rfl (Nat.le_of_ble_eq_true rfl) dX10_listed_116 (fun r10 S10 e10 f10 => ?_)
      have ho := ho.2 r10 S10 e10 f10
      exact g_lv [0, 2] rfl (g_jn_X10_listed_119 hc _ _ ho)
    · have ho := ho.2 c_100
      refine g_aload_n (i := 0) hc 0 dX10_listed_110 rfl rfl ?_
      refine gf_M_0_x hc wtM_152 dX10_listed_111 ?_
      refine g_iload (i := 4) hc 3 dX10_listed_114 rfl ?_
      refine g_callVV hc 0 [.int (S.1 2), .int x4] (fun l => c_X10_compare l η (S.1 2) x4 S ho.1) wtM_189 ge_X10_compare rfl ⟨rfl, rfl⟩ ⟨Nat.le_of_ble_eq_true rfl, Nat.le_of_ble_eq_true rfl⟩ rfl rfl rfl (Nat.le_of_ble_eq_true rfl) dX10_listed_116 (fun r11 S11 e11 f11 => ?_)
      have ho := ho.2 r11 S11 e11 f11
      exact g_lv [0, 2] rfl (g_jn_X10_listed_119 hc _ _ ho)
set_option maxRecDepth 100000 in
set_option maxHeartbeats 4000000 in
theorem g_jn_X10_listed_76 {η : gE} {κ : gK} (hc : gC (oM η) κ cX10_listed 5 RX10 (some .int) rm_X10_listed) (x1 : Int32) (x2 : Int32) (x4 : Int32) (S : gSt) (ho : ok_jn_X10_listed_76 x1 x2 x4 S) : gG (oM η) κ 5 oI 76 [(0, .ref (η.1 0)), (1, .int x1), (2, .int x2), (4, .int x4)] [] S (jn_X10_listed_76 x1 x2 x4 S) := by
  unfold jn_X10_listed_76
  unfold ok_jn_X10_listed_76 at ho
  refine g_iload_n (i := 1) hc 1 dX10_listed_76 rfl rfl ?_
  refine g_iconst (v := 5) hc dX10_listed_77 (by decide) ?_
  refine g_icmpne (tgt := 91) hc dX10_listed_78 rfl (fun c_78 => ?_) (fun c_78 => ?_)
  · have ho := ho.1 c_78
    refine g_aload_n (i := 0) hc 0 dX10_listed_81 rfl rfl ?_
    refine g_aload_n (i := 0) hc 0 dX10_listed_82 rfl rfl ?_
    refine g_iload (i := 4) hc 3 dX10_listed_83 rfl ?_
    refine g_callVI hc 0 [.int x4] (fun l => c_X10_shown l η x4 S ho.1) wtM_169 ge_X10_shown rfl ⟨rfl, rfl⟩ ⟨Nat.le_of_ble_eq_true rfl, Nat.le_of_ble_eq_true rfl⟩ rfl rfl rfl (Nat.le_of_ble_eq_true rfl) dX10_listed_85 (fun r7 S7 e7 f7 => ?_)
    have ho := ho.2 r7 S7 e7 f7
    refine pf_M_0_y (v := r7) hc wtM_153 dX10_listed_88 (fun S8 f8 => ?_)
    have ho := ho S8 f8
    exact g_lv [0, 1, 2, 3] rfl (g_jn_X10_listed_91 hc _ _ _ _ ho)
  · have ho := ho.2 c_78
    exact g_lv [0, 1, 2, 3] rfl (g_jn_X10_listed_91 hc _ _ _ _ ho)
set_option maxRecDepth 100000 in
set_option maxHeartbeats 4000000 in
theorem c_X10_listed (l : Launch) (η : gE) (a0 : Int32) (a1 : Int32) (S : gSt) (ho : ok_X10_listed a0 a1 S) : gMet l yX10_listed cX10_listed 5 (some .int) rm_X10_listed (oM η) [.ref (η.1 0), .int a0, .int a1] S (oI (sp_X10_listed a0 a1 S).1) (sp_X10_listed a0 a1 S).2 := by
  refine gMet_of (X := sp_X10_listed a0 a1 S) (lv := [(0, .ref (η.1 0)), (1, .int a0), (2, .int a1)]) oI zM_ok (by decide +kernel) (Nat.le_of_ble_eq_true rfl) rfl (fun κ hc => ?_)
  have hc : gC (oM η) κ cX10_listed 5 RX10 (some .int) rm_X10_listed := hc
  unfold sp_X10_listed
  unfold ok_X10_listed at ho
  refine g_aload_n (i := 0) hc 0 dX10_listed_0 rfl rfl ?_
  refine g_iload_n (i := 2) hc 2 dX10_listed_1 rfl rfl ?_
  refine g_callVI hc 0 [.int a1] (fun l => c_X10_addressed l η a1 S ho.1) wtM_174 ge_X10_addressed rfl ⟨rfl, rfl⟩ ⟨Nat.le_of_ble_eq_true rfl, Nat.le_of_ble_eq_true rfl⟩ rfl rfl rfl (Nat.le_of_ble_eq_true rfl) dX10_listed_2 (fun r1 S1 e1 f1 => ?_)
  have ho := ho.2 r1 S1 e1 f1
  refine g_istore_n (i := 3) (lv' := [(3, .int r1), (0, .ref (η.1 0)), (1, .int a0), (2, .int a1)]) hc dX10_listed_5 rfl (by decide) rfl ?_
  refine g_iload_n (i := 1) hc 2 dX10_listed_6 rfl rfl ?_
  refine g_iconst (v := 4) hc dX10_listed_7 (by decide) ?_
  refine g_icmpne (tgt := 25) hc dX10_listed_8 rfl (fun c_8 => ?_) (fun c_8 => ?_)
  · have ho := ho.1 c_8
    refine g_aload_n (i := 0) hc 1 dX10_listed_11 rfl rfl ?_
    refine g_iload_n (i := 3) hc 0 dX10_listed_12 rfl rfl ?_
    refine g_aload_n (i := 0) hc 1 dX10_listed_13 rfl rfl ?_
    refine gf_M_0_y hc wtM_153 dX10_listed_14 ?_
    refine g_callVV hc 0 [.int r1, .int (S1.1 3)] (fun l => c_X10_put l η r1 (S1.1 3) S1 ho.1) wtM_178 ge_X10_put rfl ⟨rfl, rfl⟩ ⟨Nat.le_of_ble_eq_true rfl, Nat.le_of_ble_eq_true rfl⟩ rfl rfl rfl (Nat.le_of_ble_eq_true rfl) dX10_listed_17 (fun r2 S2 e2 f2 => ?_)
    have ho := ho.2 r2 S2 e2 f2
    refine g_iload_n (i := 2) hc 3 dX10_listed_20 rfl rfl ?_
    refine g_callSI hc [.int a1] (fun l => c_X10_cyclesOf l η a1 S2 ho.1) wtM_181 ge_X10_cyclesOf rfl ⟨rfl, rfl⟩ ⟨Nat.le_of_ble_eq_true rfl, Nat.le_of_ble_eq_true rfl⟩ rfl (Nat.le_of_ble_eq_true rfl) dX10_listed_21 (fun r3 S3 e3 f3 => ?_)
    have ho := ho.2 r3 S3 e3 f3
    exact g_iret hc dX10_listed_24
  · have ho := ho.2 c_8
    refine g_aload_n (i := 0) hc 1 dX10_listed_25 rfl rfl ?_
    refine g_iload_n (i := 3) hc 0 dX10_listed_26 rfl rfl ?_
    refine g_callVI hc 0 [.int r1] (fun l => c_X10_get l η r1 S1 ho.1) wtM_80 ge_X10_get rfl ⟨rfl, rfl⟩ ⟨Nat.le_of_ble_eq_true rfl, Nat.le_of_ble_eq_true rfl⟩ rfl rfl rfl (Nat.le_of_ble_eq_true rfl) dX10_listed_27 (fun r4 S4 e4 f4 => ?_)
    have ho := ho.2 r4 S4 e4 f4
    refine g_istore (i := 4) (lv' := [(4, .int r4), (3, .int r1), (0, .ref (η.1 0)), (1, .int a0), (2, .int a1)]) hc dX10_listed_30 (by decide) rfl ?_
    refine g_iload_n (i := 1) hc 3 dX10_listed_32 rfl rfl ?_
    refine g_iconst (v := 1) hc dX10_listed_33 (by decide) ?_
    refine g_icmpne (tgt := 76) hc dX10_listed_34 rfl (fun c_34 => ?_) (fun c_34 => ?_)
    · have ho := ho.1 c_34
      refine g_aload_n (i := 0) hc 2 dX10_listed_37 rfl rfl ?_
      refine g_iconst (v := 2) hc dX10_listed_38 (by decide) ?_
      refine g_aload_n (i := 0) hc 2 dX10_listed_39 rfl rfl ?_
      refine gf_M_0_a hc wtM_170 dX10_listed_40 ?_
      refine g_iload (i := 4) hc 0 dX10_listed_43 rfl ?_
      refine g_iand hc dX10_listed_45 ?_
      refine g_ifne (tgt := 53) hc dX10_listed_46 rfl (fun c_46 => ?_) (fun c_46 => ?_)
      · have ho := ho.1 c_46
        refine g_iconst (v := 1) hc dX10_listed_49 (by decide) ?_
        refine g_goto (tgt := 54) hc dX10_listed_50 rfl ?_
        refine g_callVV hc 0 [.int 2, .int (bI true)] (fun l => c_X10_flag l η 2 true S4 ho.1) wtM_142 ge_X10_flag rfl ⟨rfl, rfl⟩ ⟨Nat.le_of_ble_eq_true rfl, Nat.le_of_ble_eq_true rfl⟩ rfl rfl rfl (Nat.le_of_ble_eq_true rfl) dX10_listed_54 (fun r5 S5 e5 f5 => ?_)
        have ho := ho.2 r5 S5 e5 f5
        refine g_aload_n (i := 0) hc 2 dX10_listed_57 rfl rfl ?_
        refine g_aload_n (i := 0) hc 2 dX10_listed_58 rfl rfl ?_
        refine gf_M_0_p hc wtM_138 dX10_listed_59 ?_
        refine g_sipush (v := (-193)) hc dX10_listed_62 (by decide) ?_
        refine g_iand hc dX10_listed_65 ?_
        refine g_iload (i := 4) hc 0 dX10_listed_66 rfl ?_
        refine g_sipush (v := 192) hc dX10_listed_68 (by decide) ?_
        refine g_iand hc dX10_listed_71 ?_
        refine g_ior hc dX10_listed_72 ?_
        refine pf_M_0_p (v := (((S5.1 5) &&& (-193)) ||| (r4 &&& 192))) hc wtM_138 dX10_listed_73 (fun S6 f6 => ?_)
        have ho := ho S6 f6
        exact g_lv [2, 3, 4, 0] rfl (g_jn_X10_listed_76 hc _ _ _ _ ho)
      · have ho := ho.2 c_46
        refine g_iconst (v := 0) hc dX10_listed_53 (by decide) ?_
        refine g_callVV hc 0 [.int 2, .int (bI false)] (fun l => c_X10_flag l η 2 false S4 ho.1) wtM_142 ge_X10_flag rfl ⟨rfl, rfl⟩ ⟨Nat.le_of_ble_eq_true rfl, Nat.le_of_ble_eq_true rfl⟩ rfl rfl rfl (Nat.le_of_ble_eq_true rfl) dX10_listed_54 (fun r12 S12 e12 f12 => ?_)
        have ho := ho.2 r12 S12 e12 f12
        refine g_aload_n (i := 0) hc 2 dX10_listed_57 rfl rfl ?_
        refine g_aload_n (i := 0) hc 2 dX10_listed_58 rfl rfl ?_
        refine gf_M_0_p hc wtM_138 dX10_listed_59 ?_
        refine g_sipush (v := (-193)) hc dX10_listed_62 (by decide) ?_
        refine g_iand hc dX10_listed_65 ?_
        refine g_iload (i := 4) hc 0 dX10_listed_66 rfl ?_
        refine g_sipush (v := 192) hc dX10_listed_68 (by decide) ?_
        refine g_iand hc dX10_listed_71 ?_
        refine g_ior hc dX10_listed_72 ?_
        refine pf_M_0_p (v := (((S12.1 5) &&& (-193)) ||| (r4 &&& 192))) hc wtM_138 dX10_listed_73 (fun S13 f13 => ?_)
        have ho := ho S13 f13
        exact g_lv [2, 3, 4, 0] rfl (g_jn_X10_listed_76 hc _ _ _ _ ho)
    · have ho := ho.2 c_34
      exact g_lv [2, 3, 4, 0] rfl (g_jn_X10_listed_76 hc _ _ _ _ ho)

abbrev rm_X10_doZero : Room := { frames := 8, cells := 0, slots := 0, locals := 182 }
def jn_X10_doZero_116 (x1 : Int32) (x2 : Int32) (S : gSt) : Int32 × gSt := (if x2 = 0 then gB (sp_X10_listed x1 1 S) (fun r13 S13 => (r13, S13)) else (if x2 = 1 then gB (sp_X10_listed x1 2 S) (fun r14 S14 => (r14, S14)) else (if x2 = 3 then gB (sp_X10_listed x1 5 S) (fun r15 S15 => (r15, S15)) else (if x2 = 5 then gB (sp_X10_listed x1 3 S) (fun r16 S16 => (r16, S16)) else gB (sp_X10_listed x1 6 S) (fun r17 S17 => (r17, S17))))))
def ok_jn_X10_doZero_116 (x1 : Int32) (x2 : Int32) (S : gSt) : Prop := ((x2 = 0 → (ok_X10_listed x1 1 S ∧ ∀ (r13 : Int32) (S13 : gSt), r13 = (sp_X10_listed x1 1 S).1 → S13 = (sp_X10_listed x1 1 S).2 → True)) ∧ (¬ x2 = 0 → ((x2 = 1 → (ok_X10_listed x1 2 S ∧ ∀ (r14 : Int32) (S14 : gSt), r14 = (sp_X10_listed x1 2 S).1 → S14 = (sp_X10_listed x1 2 S).2 → True)) ∧ (¬ x2 = 1 → ((x2 = 3 → (ok_X10_listed x1 5 S ∧ ∀ (r15 : Int32) (S15 : gSt), r15 = (sp_X10_listed x1 5 S).1 → S15 = (sp_X10_listed x1 5 S).2 → True)) ∧ (¬ x2 = 3 → ((x2 = 5 → (ok_X10_listed x1 3 S ∧ ∀ (r16 : Int32) (S16 : gSt), r16 = (sp_X10_listed x1 3 S).1 → S16 = (sp_X10_listed x1 3 S).2 → True)) ∧ (¬ x2 = 5 → (ok_X10_listed x1 6 S ∧ ∀ (r17 : Int32) (S17 : gSt), r17 = (sp_X10_listed x1 6 S).1 → S17 = (sp_X10_listed x1 6 S).2 → True)))))))))
def jn_X10_doZero_106 (x1 : Int32) (x2 : Int32) (S : gSt) : Int32 × gSt := (if x1 = 1 then jn_X10_doZero_116 x1 x2 S else (if x1 ≤ 3 then ((-1), S) else jn_X10_doZero_116 x1 x2 S))
def ok_jn_X10_doZero_106 (x1 : Int32) (x2 : Int32) (S : gSt) : Prop := ((x1 = 1 → ok_jn_X10_doZero_116 x1 x2 S) ∧ (¬ x1 = 1 → ((x1 ≤ 3 → True) ∧ (¬ x1 ≤ 3 → ok_jn_X10_doZero_116 x1 x2 S))))
def jn_X10_doZero_139 (x1 : Int32) (x2 : Int32) (S : gSt) : Int32 × gSt := (if x2 = 0 then gB (sp_X10_listed x1 1 S) (fun r18 S18 => (r18, S18)) else (if x2 = 1 then gB (sp_X10_listed x1 2 S) (fun r19 S19 => (r19, S19)) else (if x2 = 3 then gB (sp_X10_listed x1 5 S) (fun r20 S20 => (r20, S20)) else (if x2 = 5 then gB (sp_X10_listed x1 3 S) (fun r21 S21 => (r21, S21)) else gB (sp_X10_listed x1 6 S) (fun r22 S22 => (r22, S22))))))
def ok_jn_X10_doZero_139 (x1 : Int32) (x2 : Int32) (S : gSt) : Prop := ((x2 = 0 → (ok_X10_listed x1 1 S ∧ ∀ (r18 : Int32) (S18 : gSt), r18 = (sp_X10_listed x1 1 S).1 → S18 = (sp_X10_listed x1 1 S).2 → True)) ∧ (¬ x2 = 0 → ((x2 = 1 → (ok_X10_listed x1 2 S ∧ ∀ (r19 : Int32) (S19 : gSt), r19 = (sp_X10_listed x1 2 S).1 → S19 = (sp_X10_listed x1 2 S).2 → True)) ∧ (¬ x2 = 1 → ((x2 = 3 → (ok_X10_listed x1 5 S ∧ ∀ (r20 : Int32) (S20 : gSt), r20 = (sp_X10_listed x1 5 S).1 → S20 = (sp_X10_listed x1 5 S).2 → True)) ∧ (¬ x2 = 3 → ((x2 = 5 → (ok_X10_listed x1 3 S ∧ ∀ (r21 : Int32) (S21 : gSt), r21 = (sp_X10_listed x1 3 S).1 → S21 = (sp_X10_listed x1 3 S).2 → True)) ∧ (¬ x2 = 5 → (ok_X10_listed x1 6 S ∧ ∀ (r22 : Int32) (S22 : gSt), r22 = (sp_X10_listed x1 6 S).1 → S22 = (sp_X10_listed x1 6 S).2 → True)))))))))
def jn_X10_doZero_79 (x1 : Int32) (x2 : Int32) (S : gSt) : Int32 × gSt := (if x2 = 0 then (if x1 ≤ 4 then ((-1), S) else (if x2 = 0 then gB (sp_X10_listed x1 1 S) (fun r8 S8 => (r8, S8)) else (if x2 = 1 then gB (sp_X10_listed x1 2 S) (fun r9 S9 => (r9, S9)) else (if x2 = 3 then gB (sp_X10_listed x1 5 S) (fun r10 S10 => (r10, S10)) else (if x2 = 5 then gB (sp_X10_listed x1 3 S) (fun r11 S11 => (r11, S11)) else gB (sp_X10_listed x1 6 S) (fun r12 S12 => (r12, S12))))))) else (if x2 = 1 then jn_X10_doZero_106 x1 x2 S else (if x2 = 3 then jn_X10_doZero_106 x1 x2 S else (if x2 = 5 then (if x1 = 4 then jn_X10_doZero_139 x1 x2 S else (if x1 = 5 then jn_X10_doZero_139 x1 x2 S else ((-1), S))) else (if x1 = 5 then (if x2 = 0 then gB (sp_X10_listed x1 1 S) (fun r23 S23 => (r23, S23)) else (if x2 = 1 then gB (sp_X10_listed x1 2 S) (fun r24 S24 => (r24, S24)) else (if x2 = 3 then gB (sp_X10_listed x1 5 S) (fun r25 S25 => (r25, S25)) else (if x2 = 5 then gB (sp_X10_listed x1 3 S) (fun r26 S26 => (r26, S26)) else gB (sp_X10_listed x1 6 S) (fun r27 S27 => (r27, S27)))))) else ((-1), S))))))
def ok_jn_X10_doZero_79 (x1 : Int32) (x2 : Int32) (S : gSt) : Prop := ((x2 = 0 → ((x1 ≤ 4 → True) ∧ (¬ x1 ≤ 4 → ((x2 = 0 → (ok_X10_listed x1 1 S ∧ ∀ (r8 : Int32) (S8 : gSt), r8 = (sp_X10_listed x1 1 S).1 → S8 = (sp_X10_listed x1 1 S).2 → True)) ∧ (¬ x2 = 0 → ((x2 = 1 → (ok_X10_listed x1 2 S ∧ ∀ (r9 : Int32) (S9 : gSt), r9 = (sp_X10_listed x1 2 S).1 → S9 = (sp_X10_listed x1 2 S).2 → True)) ∧ (¬ x2 = 1 → ((x2 = 3 → (ok_X10_listed x1 5 S ∧ ∀ (r10 : Int32) (S10 : gSt), r10 = (sp_X10_listed x1 5 S).1 → S10 = (sp_X10_listed x1 5 S).2 → True)) ∧ (¬ x2 = 3 → ((x2 = 5 → (ok_X10_listed x1 3 S ∧ ∀ (r11 : Int32) (S11 : gSt), r11 = (sp_X10_listed x1 3 S).1 → S11 = (sp_X10_listed x1 3 S).2 → True)) ∧ (¬ x2 = 5 → (ok_X10_listed x1 6 S ∧ ∀ (r12 : Int32) (S12 : gSt), r12 = (sp_X10_listed x1 6 S).1 → S12 = (sp_X10_listed x1 6 S).2 → True)))))))))))) ∧ (¬ x2 = 0 → ((x2 = 1 → ok_jn_X10_doZero_106 x1 x2 S) ∧ (¬ x2 = 1 → ((x2 = 3 → ok_jn_X10_doZero_106 x1 x2 S) ∧ (¬ x2 = 3 → ((x2 = 5 → ((x1 = 4 → ok_jn_X10_doZero_139 x1 x2 S) ∧ (¬ x1 = 4 → ((x1 = 5 → ok_jn_X10_doZero_139 x1 x2 S) ∧ (¬ x1 = 5 → True))))) ∧ (¬ x2 = 5 → ((x1 = 5 → ((x2 = 0 → (ok_X10_listed x1 1 S ∧ ∀ (r23 : Int32) (S23 : gSt), r23 = (sp_X10_listed x1 1 S).1 → S23 = (sp_X10_listed x1 1 S).2 → True)) ∧ (¬ x2 = 0 → ((x2 = 1 → (ok_X10_listed x1 2 S ∧ ∀ (r24 : Int32) (S24 : gSt), r24 = (sp_X10_listed x1 2 S).1 → S24 = (sp_X10_listed x1 2 S).2 → True)) ∧ (¬ x2 = 1 → ((x2 = 3 → (ok_X10_listed x1 5 S ∧ ∀ (r25 : Int32) (S25 : gSt), r25 = (sp_X10_listed x1 5 S).1 → S25 = (sp_X10_listed x1 5 S).2 → True)) ∧ (¬ x2 = 3 → ((x2 = 5 → (ok_X10_listed x1 3 S ∧ ∀ (r26 : Int32) (S26 : gSt), r26 = (sp_X10_listed x1 3 S).1 → S26 = (sp_X10_listed x1 3 S).2 → True)) ∧ (¬ x2 = 5 → (ok_X10_listed x1 6 S ∧ ∀ (r27 : Int32) (S27 : gSt), r27 = (sp_X10_listed x1 6 S).1 → S27 = (sp_X10_listed x1 6 S).2 → True)))))))))) ∧ (¬ x1 = 5 → True))))))))))
def jn_X10_doZero_49 (x1 : Int32) (x2 : Int32) (S : gSt) : Int32 × gSt := (if x2 = 3 then (if x1 = 2 then (if x1 = 3 then gB (sp_X10_jump true S) (fun r4 S4 => (r4, S4)) else gB (sp_X10_jump false S) (fun r5 S5 => (r5, S5))) else (if x1 = 3 then (if x1 = 3 then gB (sp_X10_jump true S) (fun r6 S6 => (r6, S6)) else gB (sp_X10_jump false S) (fun r7 S7 => (r7, S7))) else jn_X10_doZero_79 x1 x2 S)) else jn_X10_doZero_79 x1 x2 S)
def ok_jn_X10_doZero_49 (x1 : Int32) (x2 : Int32) (S : gSt) : Prop := ((x2 = 3 → ((x1 = 2 → ((x1 = 3 → (ok_X10_jump true S ∧ ∀ (r4 : Int32) (S4 : gSt), r4 = (sp_X10_jump true S).1 → S4 = (sp_X10_jump true S).2 → True)) ∧ (¬ x1 = 3 → (ok_X10_jump false S ∧ ∀ (r5 : Int32) (S5 : gSt), r5 = (sp_X10_jump false S).1 → S5 = (sp_X10_jump false S).2 → True)))) ∧ (¬ x1 = 2 → ((x1 = 3 → ((x1 = 3 → (ok_X10_jump true S ∧ ∀ (r6 : Int32) (S6 : gSt), r6 = (sp_X10_jump true S).1 → S6 = (sp_X10_jump true S).2 → True)) ∧ (¬ x1 = 3 → (ok_X10_jump false S ∧ ∀ (r7 : Int32) (S7 : gSt), r7 = (sp_X10_jump false S).1 → S7 = (sp_X10_jump false S).2 → True)))) ∧ (¬ x1 = 3 → ok_jn_X10_doZero_79 x1 x2 S))))) ∧ (¬ x2 = 3 → ok_jn_X10_doZero_79 x1 x2 S))
def sp_X10_doZero (a0 : Int32) (a1 : Int32) (S : gSt) : Int32 × gSt := (if a1 = 4 then gB (sp_X10_branch a0 S) (fun r1 S1 => (r1, S1)) else (if a1 = 2 then gB (sp_X10_stacked a0 S) (fun r2 S2 => (r2, S2)) else (if a1 = 6 then gB (sp_X10_flagged a0 S) (fun r3 S3 => (r3, S3)) else (if a1 = 0 then (if 4 ≤ a0 then jn_X10_doZero_49 a0 a1 S else gB (sp_X10_called a0 S) (fun r28 S28 => (r28, S28))) else jn_X10_doZero_49 a0 a1 S))))
def ok_X10_doZero (a0 : Int32) (a1 : Int32) (S : gSt) : Prop := ((a1 = 4 → (ok_X10_branch a0 S ∧ ∀ (r1 : Int32) (S1 : gSt), r1 = (sp_X10_branch a0 S).1 → S1 = (sp_X10_branch a0 S).2 → True)) ∧ (¬ a1 = 4 → ((a1 = 2 → (ok_X10_stacked a0 S ∧ ∀ (r2 : Int32) (S2 : gSt), r2 = (sp_X10_stacked a0 S).1 → S2 = (sp_X10_stacked a0 S).2 → True)) ∧ (¬ a1 = 2 → ((a1 = 6 → (ok_X10_flagged a0 S ∧ ∀ (r3 : Int32) (S3 : gSt), r3 = (sp_X10_flagged a0 S).1 → S3 = (sp_X10_flagged a0 S).2 → True)) ∧ (¬ a1 = 6 → ((a1 = 0 → ((4 ≤ a0 → ok_jn_X10_doZero_49 a0 a1 S) ∧ (¬ 4 ≤ a0 → (ok_X10_called a0 S ∧ ∀ (r28 : Int32) (S28 : gSt), r28 = (sp_X10_called a0 S).1 → S28 = (sp_X10_called a0 S).2 → True)))) ∧ (¬ a1 = 0 → ok_jn_X10_doZero_49 a0 a1 S))))))))
set_option maxRecDepth 100000 in
set_option maxHeartbeats 4000000 in
theorem g_jn_X10_doZero_116 {η : gE} {κ : gK} (hc : gC (oM η) κ cX10_doZero 4 RX10 (some .int) rm_X10_doZero) (x1 : Int32) (x2 : Int32) (S : gSt) (ho : ok_jn_X10_doZero_116 x1 x2 S) : gG (oM η) κ 4 oI 116 [(0, .ref (η.1 0)), (1, .int x1), (2, .int x2)] [] S (jn_X10_doZero_116 x1 x2 S) := by
  unfold jn_X10_doZero_116
  unfold ok_jn_X10_doZero_116 at ho
  refine g_iconst (v := 1) hc dX10_doZero_116 (by decide) ?_
  refine g_goto (tgt := 157) hc dX10_doZero_117 rfl ?_
  refine g_istore_n (i := 3) (lv' := [(3, .int 1), (0, .ref (η.1 0)), (1, .int x1), (2, .int x2)]) hc dX10_doZero_157 rfl (by decide) rfl ?_
  refine g_iload_n (i := 3) hc 0 dX10_doZero_158 rfl rfl ?_
  refine g_ifne_f (tgt := 164) hc dX10_doZero_159 rfl (by decide) ?_
  refine g_aload_n (i := 0) hc 1 dX10_doZero_164 rfl rfl ?_
  refine g_iload_n (i := 1) hc 2 dX10_doZero_165 rfl rfl ?_
  refine g_iload_n (i := 2) hc 3 dX10_doZero_166 rfl rfl ?_
  refine g_ifne (tgt := 174) hc dX10_doZero_167 rfl (fun c_167 => ?_) (fun c_167 => ?_)
  · have ho := ho.1 c_167
    refine g_iconst (v := 1) hc dX10_doZero_170 (by decide) ?_
    refine g_goto (tgt := 203) hc dX10_doZero_171 rfl ?_
    refine g_callVI hc 0 [.int x1, .int 1] (fun l => c_X10_listed l η x1 1 S ho.1) wtM_239 ge_X10_listed rfl ⟨rfl, rfl⟩ ⟨Nat.le_of_ble_eq_true rfl, Nat.le_of_ble_eq_true rfl⟩ rfl rfl rfl (Nat.le_of_ble_eq_true rfl) dX10_doZero_203 (fun r13 S13 e13 f13 => ?_)
    have ho := ho.2 r13 S13 e13 f13
    exact g_iret hc dX10_doZero_206
  · have ho := ho.2 c_167
    refine g_iload_n (i := 2) hc 3 dX10_doZero_174 rfl rfl ?_
    refine g_iconst (v := 1) hc dX10_doZero_175 (by decide) ?_
    refine g_icmpne (tgt := 183) hc dX10_doZero_176 rfl (fun c_176 => ?_) (fun c_176 => ?_)
    · have ho := ho.1 c_176
      refine g_iconst (v := 2) hc dX10_doZero_179 (by decide) ?_
      refine g_goto (tgt := 203) hc dX10_doZero_180 rfl ?_
      refine g_callVI hc 0 [.int x1, .int 2] (fun l => c_X10_listed l η x1 2 S ho.1) wtM_239 ge_X10_listed rfl ⟨rfl, rfl⟩ ⟨Nat.le_of_ble_eq_true rfl, Nat.le_of_ble_eq_true rfl⟩ rfl rfl rfl (Nat.le_of_ble_eq_true rfl) dX10_doZero_203 (fun r14 S14 e14 f14 => ?_)
      have ho := ho.2 r14 S14 e14 f14
      exact g_iret hc dX10_doZero_206
    · have ho := ho.2 c_176
      refine g_iload_n (i := 2) hc 3 dX10_doZero_183 rfl rfl ?_
      refine g_iconst (v := 3) hc dX10_doZero_184 (by decide) ?_
      refine g_icmpne (tgt := 192) hc dX10_doZero_185 rfl (fun c_185 => ?_) (fun c_185 => ?_)
      · have ho := ho.1 c_185
        refine g_iconst (v := 5) hc dX10_doZero_188 (by decide) ?_
        refine g_goto (tgt := 203) hc dX10_doZero_189 rfl ?_
        refine g_callVI hc 0 [.int x1, .int 5] (fun l => c_X10_listed l η x1 5 S ho.1) wtM_239 ge_X10_listed rfl ⟨rfl, rfl⟩ ⟨Nat.le_of_ble_eq_true rfl, Nat.le_of_ble_eq_true rfl⟩ rfl rfl rfl (Nat.le_of_ble_eq_true rfl) dX10_doZero_203 (fun r15 S15 e15 f15 => ?_)
        have ho := ho.2 r15 S15 e15 f15
        exact g_iret hc dX10_doZero_206
      · have ho := ho.2 c_185
        refine g_iload_n (i := 2) hc 3 dX10_doZero_192 rfl rfl ?_
        refine g_iconst (v := 5) hc dX10_doZero_193 (by decide) ?_
        refine g_icmpne (tgt := 201) hc dX10_doZero_194 rfl (fun c_194 => ?_) (fun c_194 => ?_)
        · have ho := ho.1 c_194
          refine g_iconst (v := 3) hc dX10_doZero_197 (by decide) ?_
          refine g_goto (tgt := 203) hc dX10_doZero_198 rfl ?_
          refine g_callVI hc 0 [.int x1, .int 3] (fun l => c_X10_listed l η x1 3 S ho.1) wtM_239 ge_X10_listed rfl ⟨rfl, rfl⟩ ⟨Nat.le_of_ble_eq_true rfl, Nat.le_of_ble_eq_true rfl⟩ rfl rfl rfl (Nat.le_of_ble_eq_true rfl) dX10_doZero_203 (fun r16 S16 e16 f16 => ?_)
          have ho := ho.2 r16 S16 e16 f16
          exact g_iret hc dX10_doZero_206
        · have ho := ho.2 c_194
          refine g_bipush (v := 6) hc dX10_doZero_201 (by decide) ?_
          refine g_callVI hc 0 [.int x1, .int 6] (fun l => c_X10_listed l η x1 6 S ho.1) wtM_239 ge_X10_listed rfl ⟨rfl, rfl⟩ ⟨Nat.le_of_ble_eq_true rfl, Nat.le_of_ble_eq_true rfl⟩ rfl rfl rfl (Nat.le_of_ble_eq_true rfl) dX10_doZero_203 (fun r17 S17 e17 f17 => ?_)
          have ho := ho.2 r17 S17 e17 f17
          exact g_iret hc dX10_doZero_206
set_option maxRecDepth 100000 in
set_option maxHeartbeats 4000000 in
theorem g_jn_X10_doZero_106 {η : gE} {κ : gK} (hc : gC (oM η) κ cX10_doZero 4 RX10 (some .int) rm_X10_doZero) (x1 : Int32) (x2 : Int32) (S : gSt) (ho : ok_jn_X10_doZero_106 x1 x2 S) : gG (oM η) κ 4 oI 106 [(0, .ref (η.1 0)), (1, .int x1), (2, .int x2)] [] S (jn_X10_doZero_106 x1 x2 S) := by
  unfold jn_X10_doZero_106
  unfold ok_jn_X10_doZero_106 at ho
  refine g_iload_n (i := 1) hc 1 dX10_doZero_106 rfl rfl ?_
  refine g_iconst (v := 1) hc dX10_doZero_107 (by decide) ?_
  refine g_icmpeq (tgt := 116) hc dX10_doZero_108 rfl (fun c_108 => ?_) (fun c_108 => ?_)
  · have ho := ho.1 c_108
    exact g_lv [0, 1, 2] rfl (g_jn_X10_doZero_116 hc _ _ _ ho)
  · have ho := ho.2 c_108
    refine g_iload_n (i := 1) hc 1 dX10_doZero_111 rfl rfl ?_
    refine g_iconst (v := 3) hc dX10_doZero_112 (by decide) ?_
    refine g_icmple (tgt := 120) hc dX10_doZero_113 rfl (fun c_113 => ?_) (fun c_113 => ?_)
    · have ho := ho.1 c_113
      refine g_iconst (v := 0) hc dX10_doZero_120 (by decide) ?_
      refine g_goto (tgt := 157) hc dX10_doZero_121 rfl ?_
      refine g_istore_n (i := 3) (lv' := [(3, .int 0), (0, .ref (η.1 0)), (1, .int x1), (2, .int x2)]) hc dX10_doZero_157 rfl (by decide) rfl ?_
      refine g_iload_n (i := 3) hc 0 dX10_doZero_158 rfl rfl ?_
      refine g_ifne_t (tgt := 164) hc dX10_doZero_159 rfl (by decide) ?_
      refine g_iconst (v := (-1)) hc dX10_doZero_162 (by decide) ?_
      exact g_iret hc dX10_doZero_163
    · have ho := ho.2 c_113
      exact g_lv [0, 1, 2] rfl (g_jn_X10_doZero_116 hc _ _ _ ho)
set_option maxRecDepth 100000 in
set_option maxHeartbeats 4000000 in
theorem g_jn_X10_doZero_139 {η : gE} {κ : gK} (hc : gC (oM η) κ cX10_doZero 4 RX10 (some .int) rm_X10_doZero) (x1 : Int32) (x2 : Int32) (S : gSt) (ho : ok_jn_X10_doZero_139 x1 x2 S) : gG (oM η) κ 4 oI 139 [(0, .ref (η.1 0)), (1, .int x1), (2, .int x2)] [] S (jn_X10_doZero_139 x1 x2 S) := by
  unfold jn_X10_doZero_139
  unfold ok_jn_X10_doZero_139 at ho
  refine g_iconst (v := 1) hc dX10_doZero_139 (by decide) ?_
  refine g_goto (tgt := 157) hc dX10_doZero_140 rfl ?_
  refine g_istore_n (i := 3) (lv' := [(3, .int 1), (0, .ref (η.1 0)), (1, .int x1), (2, .int x2)]) hc dX10_doZero_157 rfl (by decide) rfl ?_
  refine g_iload_n (i := 3) hc 0 dX10_doZero_158 rfl rfl ?_
  refine g_ifne_f (tgt := 164) hc dX10_doZero_159 rfl (by decide) ?_
  refine g_aload_n (i := 0) hc 1 dX10_doZero_164 rfl rfl ?_
  refine g_iload_n (i := 1) hc 2 dX10_doZero_165 rfl rfl ?_
  refine g_iload_n (i := 2) hc 3 dX10_doZero_166 rfl rfl ?_
  refine g_ifne (tgt := 174) hc dX10_doZero_167 rfl (fun c_167 => ?_) (fun c_167 => ?_)
  · have ho := ho.1 c_167
    refine g_iconst (v := 1) hc dX10_doZero_170 (by decide) ?_
    refine g_goto (tgt := 203) hc dX10_doZero_171 rfl ?_
    refine g_callVI hc 0 [.int x1, .int 1] (fun l => c_X10_listed l η x1 1 S ho.1) wtM_239 ge_X10_listed rfl ⟨rfl, rfl⟩ ⟨Nat.le_of_ble_eq_true rfl, Nat.le_of_ble_eq_true rfl⟩ rfl rfl rfl (Nat.le_of_ble_eq_true rfl) dX10_doZero_203 (fun r18 S18 e18 f18 => ?_)
    have ho := ho.2 r18 S18 e18 f18
    exact g_iret hc dX10_doZero_206
  · have ho := ho.2 c_167
    refine g_iload_n (i := 2) hc 3 dX10_doZero_174 rfl rfl ?_
    refine g_iconst (v := 1) hc dX10_doZero_175 (by decide) ?_
    refine g_icmpne (tgt := 183) hc dX10_doZero_176 rfl (fun c_176 => ?_) (fun c_176 => ?_)
    · have ho := ho.1 c_176
      refine g_iconst (v := 2) hc dX10_doZero_179 (by decide) ?_
      refine g_goto (tgt := 203) hc dX10_doZero_180 rfl ?_
      refine g_callVI hc 0 [.int x1, .int 2] (fun l => c_X10_listed l η x1 2 S ho.1) wtM_239 ge_X10_listed rfl ⟨rfl, rfl⟩ ⟨Nat.le_of_ble_eq_true rfl, Nat.le_of_ble_eq_true rfl⟩ rfl rfl rfl (Nat.le_of_ble_eq_true rfl) dX10_doZero_203 (fun r19 S19 e19 f19 => ?_)
      have ho := ho.2 r19 S19 e19 f19
      exact g_iret hc dX10_doZero_206
    · have ho := ho.2 c_176
      refine g_iload_n (i := 2) hc 3 dX10_doZero_183 rfl rfl ?_
      refine g_iconst (v := 3) hc dX10_doZero_184 (by decide) ?_
      refine g_icmpne (tgt := 192) hc dX10_doZero_185 rfl (fun c_185 => ?_) (fun c_185 => ?_)
      · have ho := ho.1 c_185
        refine g_iconst (v := 5) hc dX10_doZero_188 (by decide) ?_
        refine g_goto (tgt := 203) hc dX10_doZero_189 rfl ?_
        refine g_callVI hc 0 [.int x1, .int 5] (fun l => c_X10_listed l η x1 5 S ho.1) wtM_239 ge_X10_listed rfl ⟨rfl, rfl⟩ ⟨Nat.le_of_ble_eq_true rfl, Nat.le_of_ble_eq_true rfl⟩ rfl rfl rfl (Nat.le_of_ble_eq_true rfl) dX10_doZero_203 (fun r20 S20 e20 f20 => ?_)
        have ho := ho.2 r20 S20 e20 f20
        exact g_iret hc dX10_doZero_206
      · have ho := ho.2 c_185
        refine g_iload_n (i := 2) hc 3 dX10_doZero_192 rfl rfl ?_
        refine g_iconst (v := 5) hc dX10_doZero_193 (by decide) ?_
        refine g_icmpne (tgt := 201) hc dX10_doZero_194 rfl (fun c_194 => ?_) (fun c_194 => ?_)
        · have ho := ho.1 c_194
          refine g_iconst (v := 3) hc dX10_doZero_197 (by decide) ?_
          refine g_goto (tgt := 203) hc dX10_doZero_198 rfl ?_
          refine g_callVI hc 0 [.int x1, .int 3] (fun l => c_X10_listed l η x1 3 S ho.1) wtM_239 ge_X10_listed rfl ⟨rfl, rfl⟩ ⟨Nat.le_of_ble_eq_true rfl, Nat.le_of_ble_eq_true rfl⟩ rfl rfl rfl (Nat.le_of_ble_eq_true rfl) dX10_doZero_203 (fun r21 S21 e21 f21 => ?_)
          have ho := ho.2 r21 S21 e21 f21
          exact g_iret hc dX10_doZero_206
        · have ho := ho.2 c_194
          refine g_bipush (v := 6) hc dX10_doZero_201 (by decide) ?_
          refine g_callVI hc 0 [.int x1, .int 6] (fun l => c_X10_listed l η x1 6 S ho.1) wtM_239 ge_X10_listed rfl ⟨rfl, rfl⟩ ⟨Nat.le_of_ble_eq_true rfl, Nat.le_of_ble_eq_true rfl⟩ rfl rfl rfl (Nat.le_of_ble_eq_true rfl) dX10_doZero_203 (fun r22 S22 e22 f22 => ?_)
          have ho := ho.2 r22 S22 e22 f22
          exact g_iret hc dX10_doZero_206
set_option maxRecDepth 100000 in
set_option maxHeartbeats 4000000 in
theorem g_jn_X10_doZero_79 {η : gE} {κ : gK} (hc : gC (oM η) κ cX10_doZero 4 RX10 (some .int) rm_X10_doZero) (x1 : Int32) (x2 : Int32) (S : gSt) (ho : ok_jn_X10_doZero_79 x1 x2 S) : gG (oM η) κ 4 oI 79 [(0, .ref (η.1 0)), (1, .int x1), (2, .int x2)] [] S (jn_X10_doZero_79 x1 x2 S) := by
  unfold jn_X10_doZero_79
  unfold ok_jn_X10_doZero_79 at ho
  refine g_iload_n (i := 2) hc 2 dX10_doZero_79 rfl rfl ?_
  refine g_ifne (tgt := 96) hc dX10_doZero_80 rfl (fun c_80 => ?_) (fun c_80 => ?_)
  · have ho := ho.1 c_80
    refine g_iload_n (i := 1) hc 1 dX10_doZero_83 rfl rfl ?_
    refine g_iconst (v := 4) hc dX10_doZero_84 (by decide) ?_
    refine g_icmple (tgt := 92) hc dX10_doZero_85 rfl (fun c_85 => ?_) (fun c_85 => ?_)
    · have ho := ho.1 c_85
      refine g_iconst (v := 0) hc dX10_doZero_92 (by decide) ?_
      refine g_goto (tgt := 157) hc dX10_doZero_93 rfl ?_
      refine g_istore_n (i := 3) (lv' := [(3, .int 0), (0, .ref (η.1 0)), (1, .int x1), (2, .int x2)]) hc dX10_doZero_157 rfl (by decide) rfl ?_
      refine g_iload_n (i := 3) hc 0 dX10_doZero_158 rfl rfl ?_
      refine g_ifne_t (tgt := 164) hc dX10_doZero_159 rfl (by decide) ?_
      refine g_iconst (v := (-1)) hc dX10_doZero_162 (by decide) ?_
      exact g_iret hc dX10_doZero_163
    · have ho := ho.2 c_85
      refine g_iconst (v := 1) hc dX10_doZero_88 (by decide) ?_
      refine g_goto (tgt := 157) hc dX10_doZero_89 rfl ?_
      refine g_istore_n (i := 3) (lv' := [(3, .int 1), (0, .ref (η.1 0)), (1, .int x1), (2, .int x2)]) hc dX10_doZero_157 rfl (by decide) rfl ?_
      refine g_iload_n (i := 3) hc 0 dX10_doZero_158 rfl rfl ?_
      refine g_ifne_f (tgt := 164) hc dX10_doZero_159 rfl (by decide) ?_
      refine g_aload_n (i := 0) hc 1 dX10_doZero_164 rfl rfl ?_
      refine g_iload_n (i := 1) hc 2 dX10_doZero_165 rfl rfl ?_
      refine g_iload_n (i := 2) hc 3 dX10_doZero_166 rfl rfl ?_
      refine g_ifne (tgt := 174) hc dX10_doZero_167 rfl (fun c_167 => ?_) (fun c_167 => ?_)
      · have ho := ho.1 c_167
        refine g_iconst (v := 1) hc dX10_doZero_170 (by decide) ?_
        refine g_goto (tgt := 203) hc dX10_doZero_171 rfl ?_
        refine g_callVI hc 0 [.int x1, .int 1] (fun l => c_X10_listed l η x1 1 S ho.1) wtM_239 ge_X10_listed rfl ⟨rfl, rfl⟩ ⟨Nat.le_of_ble_eq_true rfl, Nat.le_of_ble_eq_true rfl⟩ rfl rfl rfl (Nat.le_of_ble_eq_true rfl) dX10_doZero_203 (fun r8 S8 e8 f8 => ?_)
        have ho := ho.2 r8 S8 e8 f8
        exact g_iret hc dX10_doZero_206
      · have ho := ho.2 c_167
        refine g_iload_n (i := 2) hc 3 dX10_doZero_174 rfl rfl ?_
        refine g_iconst (v := 1) hc dX10_doZero_175 (by decide) ?_
        refine g_icmpne (tgt := 183) hc dX10_doZero_176 rfl (fun c_176 => ?_) (fun c_176 => ?_)
        · have ho := ho.1 c_176
          refine g_iconst (v := 2) hc dX10_doZero_179 (by decide) ?_
          refine g_goto (tgt := 203) hc dX10_doZero_180 rfl ?_
          refine g_callVI hc 0 [.int x1, .int 2] (fun l => c_X10_listed l η x1 2 S ho.1) wtM_239 ge_X10_listed rfl ⟨rfl, rfl⟩ ⟨Nat.le_of_ble_eq_true rfl, Nat.le_of_ble_eq_true rfl⟩ rfl rfl rfl (Nat.le_of_ble_eq_true rfl) dX10_doZero_203 (fun r9 S9 e9 f9 => ?_)
          have ho := ho.2 r9 S9 e9 f9
          exact g_iret hc dX10_doZero_206
        · have ho := ho.2 c_176
          refine g_iload_n (i := 2) hc 3 dX10_doZero_183 rfl rfl ?_
          refine g_iconst (v := 3) hc dX10_doZero_184 (by decide) ?_
          refine g_icmpne (tgt := 192) hc dX10_doZero_185 rfl (fun c_185 => ?_) (fun c_185 => ?_)
          · have ho := ho.1 c_185
            refine g_iconst (v := 5) hc dX10_doZero_188 (by decide) ?_
            refine g_goto (tgt := 203) hc dX10_doZero_189 rfl ?_
            refine g_callVI hc 0 [.int x1, .int 5] (fun l => c_X10_listed l η x1 5 S ho.1) wtM_239 ge_X10_listed rfl ⟨rfl, rfl⟩ ⟨Nat.le_of_ble_eq_true rfl, Nat.le_of_ble_eq_true rfl⟩ rfl rfl rfl (Nat.le_of_ble_eq_true rfl) dX10_doZero_203 (fun r10 S10 e10 f10 => ?_)
            have ho := ho.2 r10 S10 e10 f10
            exact g_iret hc dX10_doZero_206
          · have ho := ho.2 c_185
            refine g_iload_n (i := 2) hc 3 dX10_doZero_192 rfl rfl ?_
            refine g_iconst (v := 5) hc dX10_doZero_193 (by decide) ?_
            refine g_icmpne (tgt := 201) hc dX10_doZero_194 rfl (fun c_194 => ?_) (fun c_194 => ?_)
            · have ho := ho.1 c_194
              refine g_iconst (v := 3) hc dX10_doZero_197 (by decide) ?_
              refine g_goto (tgt := 203) hc dX10_doZero_198 rfl ?_
              refine g_callVI hc 0 [.int x1, .int 3] (fun l => c_X10_listed l η x1 3 S ho.1) wtM_239 ge_X10_listed rfl ⟨rfl, rfl⟩ ⟨Nat.le_of_ble_eq_true rfl, Nat.le_of_ble_eq_true rfl⟩ rfl rfl rfl (Nat.le_of_ble_eq_true rfl) dX10_doZero_203 (fun r11 S11 e11 f11 => ?_)
              have ho := ho.2 r11 S11 e11 f11
              exact g_iret hc dX10_doZero_206
            · have ho := ho.2 c_194
              refine g_bipush (v := 6) hc dX10_doZero_201 (by decide) ?_
              refine g_callVI hc 0 [.int x1, .int 6] (fun l => c_X10_listed l η x1 6 S ho.1) wtM_239 ge_X10_listed rfl ⟨rfl, rfl⟩ ⟨Nat.le_of_ble_eq_true rfl, Nat.le_of_ble_eq_true rfl⟩ rfl rfl rfl (Nat.le_of_ble_eq_true rfl) dX10_doZero_203 (fun r12 S12 e12 f12 => ?_)
              have ho := ho.2 r12 S12 e12 f12
              exact g_iret hc dX10_doZero_206
  · have ho := ho.2 c_80
    refine g_iload_n (i := 2) hc 2 dX10_doZero_96 rfl rfl ?_
    refine g_iconst (v := 1) hc dX10_doZero_97 (by decide) ?_
    refine g_icmpeq (tgt := 106) hc dX10_doZero_98 rfl (fun c_98 => ?_) (fun c_98 => ?_)
    · have ho := ho.1 c_98
      exact g_lv [0, 1, 2] rfl (g_jn_X10_doZero_106 hc _ _ _ ho)
    · have ho := ho.2 c_98
      refine g_iload_n (i := 2) hc 2 dX10_doZero_101 rfl rfl ?_
      refine g_iconst (v := 3) hc dX10_doZero_102 (by decide) ?_
      refine g_icmpne (tgt := 124) hc dX10_doZero_103 rfl (fun c_103 => ?_) (fun c_103 => ?_)
      · have ho := ho.1 c_103
        exact g_lv [0, 1, 2] rfl (g_jn_X10_doZero_106 hc _ _ _ ho)
      · have ho := ho.2 c_103
        refine g_iload_n (i := 2) hc 2 dX10_doZero_124 rfl rfl ?_
        refine g_iconst (v := 5) hc dX10_doZero_125 (by decide) ?_
        refine g_icmpne (tgt := 147) hc dX10_doZero_126 rfl (fun c_126 => ?_) (fun c_126 => ?_)
        · have ho := ho.1 c_126
          refine g_iload_n (i := 1) hc 1 dX10_doZero_129 rfl rfl ?_
          refine g_iconst (v := 4) hc dX10_doZero_130 (by decide) ?_
          refine g_icmpeq (tgt := 139) hc dX10_doZero_131 rfl (fun c_131 => ?_) (fun c_131 => ?_)
          · have ho := ho.1 c_131
            exact g_lv [0, 1, 2] rfl (g_jn_X10_doZero_139 hc _ _ _ ho)
          · have ho := ho.2 c_131
            refine g_iload_n (i := 1) hc 1 dX10_doZero_134 rfl rfl ?_
            refine g_iconst (v := 5) hc dX10_doZero_135 (by decide) ?_
            refine g_icmpne (tgt := 143) hc dX10_doZero_136 rfl (fun c_136 => ?_) (fun c_136 => ?_)
            · have ho := ho.1 c_136
              exact g_lv [0, 1, 2] rfl (g_jn_X10_doZero_139 hc _ _ _ ho)
            · have ho := ho.2 c_136
              refine g_iconst (v := 0) hc dX10_doZero_143 (by decide) ?_
              refine g_goto (tgt := 157) hc dX10_doZero_144 rfl ?_
              refine g_istore_n (i := 3) (lv' := [(3, .int 0), (0, .ref (η.1 0)), (1, .int x1), (2, .int x2)]) hc dX10_doZero_157 rfl (by decide) rfl ?_
              refine g_iload_n (i := 3) hc 0 dX10_doZero_158 rfl rfl ?_
              refine g_ifne_t (tgt := 164) hc dX10_doZero_159 rfl (by decide) ?_
              refine g_iconst (v := (-1)) hc dX10_doZero_162 (by decide) ?_
              exact g_iret hc dX10_doZero_163
        · have ho := ho.2 c_126
          refine g_iload_n (i := 1) hc 1 dX10_doZero_147 rfl rfl ?_
          refine g_iconst (v := 5) hc dX10_doZero_148 (by decide) ?_
          refine g_icmpne (tgt := 156) hc dX10_doZero_149 rfl (fun c_149 => ?_) (fun c_149 => ?_)
          · have ho := ho.1 c_149
            refine g_iconst (v := 1) hc dX10_doZero_152 (by decide) ?_
            refine g_goto (tgt := 157) hc dX10_doZero_153 rfl ?_
            refine g_istore_n (i := 3) (lv' := [(3, .int 1), (0, .ref (η.1 0)), (1, .int x1), (2, .int x2)]) hc dX10_doZero_157 rfl (by decide) rfl ?_
            refine g_iload_n (i := 3) hc 0 dX10_doZero_158 rfl rfl ?_
            refine g_ifne_f (tgt := 164) hc dX10_doZero_159 rfl (by decide) ?_
            refine g_aload_n (i := 0) hc 1 dX10_doZero_164 rfl rfl ?_
            refine g_iload_n (i := 1) hc 2 dX10_doZero_165 rfl rfl ?_
            refine g_iload_n (i := 2) hc 3 dX10_doZero_166 rfl rfl ?_
            refine g_ifne (tgt := 174) hc dX10_doZero_167 rfl (fun c_167 => ?_) (fun c_167 => ?_)
            · have ho := ho.1 c_167
              refine g_iconst (v := 1) hc dX10_doZero_170 (by decide) ?_
              refine g_goto (tgt := 203) hc dX10_doZero_171 rfl ?_
              refine g_callVI hc 0 [.int x1, .int 1] (fun l => c_X10_listed l η x1 1 S ho.1) wtM_239 ge_X10_listed rfl ⟨rfl, rfl⟩ ⟨Nat.le_of_ble_eq_true rfl, Nat.le_of_ble_eq_true rfl⟩ rfl rfl rfl (Nat.le_of_ble_eq_true rfl) dX10_doZero_203 (fun r23 S23 e23 f23 => ?_)
              have ho := ho.2 r23 S23 e23 f23
              exact g_iret hc dX10_doZero_206
            · have ho := ho.2 c_167
              refine g_iload_n (i := 2) hc 3 dX10_doZero_174 rfl rfl ?_
              refine g_iconst (v := 1) hc dX10_doZero_175 (by decide) ?_
              refine g_icmpne (tgt := 183) hc dX10_doZero_176 rfl (fun c_176 => ?_) (fun c_176 => ?_)
              · have ho := ho.1 c_176
                refine g_iconst (v := 2) hc dX10_doZero_179 (by decide) ?_
                refine g_goto (tgt := 203) hc dX10_doZero_180 rfl ?_
                refine g_callVI hc 0 [.int x1, .int 2] (fun l => c_X10_listed l η x1 2 S ho.1) wtM_239 ge_X10_listed rfl ⟨rfl, rfl⟩ ⟨Nat.le_of_ble_eq_true rfl, Nat.le_of_ble_eq_true rfl⟩ rfl rfl rfl (Nat.le_of_ble_eq_true rfl) dX10_doZero_203 (fun r24 S24 e24 f24 => ?_)
                have ho := ho.2 r24 S24 e24 f24
                exact g_iret hc dX10_doZero_206
              · have ho := ho.2 c_176
                refine g_iload_n (i := 2) hc 3 dX10_doZero_183 rfl rfl ?_
                refine g_iconst (v := 3) hc dX10_doZero_184 (by decide) ?_
                refine g_icmpne (tgt := 192) hc dX10_doZero_185 rfl (fun c_185 => ?_) (fun c_185 => ?_)
                · have ho := ho.1 c_185
                  refine g_iconst (v := 5) hc dX10_doZero_188 (by decide) ?_
                  refine g_goto (tgt := 203) hc dX10_doZero_189 rfl ?_
                  refine g_callVI hc 0 [.int x1, .int 5] (fun l => c_X10_listed l η x1 5 S ho.1) wtM_239 ge_X10_listed rfl ⟨rfl, rfl⟩ ⟨Nat.le_of_ble_eq_true rfl, Nat.le_of_ble_eq_true rfl⟩ rfl rfl rfl (Nat.le_of_ble_eq_true rfl) dX10_doZero_203 (fun r25 S25 e25 f25 => ?_)
                  have ho := ho.2 r25 S25 e25 f25
                  exact g_iret hc dX10_doZero_206
                · have ho := ho.2 c_185
                  refine g_iload_n (i := 2) hc 3 dX10_doZero_192 rfl rfl ?_
                  refine g_iconst (v := 5) hc dX10_doZero_193 (by decide) ?_
                  refine g_icmpne (tgt := 201) hc dX10_doZero_194 rfl (fun c_194 => ?_) (fun c_194 => ?_)
                  · have ho := ho.1 c_194
                    refine g_iconst (v := 3) hc dX10_doZero_197 (by decide) ?_
                    refine g_goto (tgt := 203) hc dX10_doZero_198 rfl ?_
                    refine g_callVI hc 0 [.int x1, .int 3] (fun l => c_X10_listed l η x1 3 S ho.1) wtM_239 ge_X10_listed rfl ⟨rfl, rfl⟩ ⟨Nat.le_of_ble_eq_true rfl, Nat.le_of_ble_eq_true rfl⟩ rfl rfl rfl (Nat.le_of_ble_eq_true rfl) dX10_doZero_203 (fun r26 S26 e26 f26 => ?_)
                    have ho := ho.2 r26 S26 e26 f26
                    exact g_iret hc dX10_doZero_206
                  · have ho := ho.2 c_194
                    refine g_bipush (v := 6) hc dX10_doZero_201 (by decide) ?_
                    refine g_callVI hc 0 [.int x1, .int 6] (fun l => c_X10_listed l η x1 6 S ho.1) wtM_239 ge_X10_listed rfl ⟨rfl, rfl⟩ ⟨Nat.le_of_ble_eq_true rfl, Nat.le_of_ble_eq_true rfl⟩ rfl rfl rfl (Nat.le_of_ble_eq_true rfl) dX10_doZero_203 (fun r27 S27 e27 f27 => ?_)
                    have ho := ho.2 r27 S27 e27 f27
                    exact g_iret hc dX10_doZero_206
          · have ho := ho.2 c_149
            refine g_iconst (v := 0) hc dX10_doZero_156 (by decide) ?_
            refine g_istore_n (i := 3) (lv' := [(3, .int 0), (0, .ref (η.1 0)), (1, .int x1), (2, .int x2)]) hc dX10_doZero_157 rfl (by decide) rfl ?_
            refine g_iload_n (i := 3) hc 0 dX10_doZero_158 rfl rfl ?_
            refine g_ifne_t (tgt := 164) hc dX10_doZero_159 rfl (by decide) ?_
            refine g_iconst (v := (-1)) hc dX10_doZero_162 (by decide) ?_
            exact g_iret hc dX10_doZero_163
set_option maxRecDepth 100000 in
set_option maxHeartbeats 4000000 in
theorem g_jn_X10_doZero_49 {η : gE} {κ : gK} (hc : gC (oM η) κ cX10_doZero 4 RX10 (some .int) rm_X10_doZero) (x1 : Int32) (x2 : Int32) (S : gSt) (ho : ok_jn_X10_doZero_49 x1 x2 S) : gG (oM η) κ 4 oI 49 [(0, .ref (η.1 0)), (1, .int x1), (2, .int x2)] [] S (jn_X10_doZero_49 x1 x2 S) := by
  unfold jn_X10_doZero_49
  unfold ok_jn_X10_doZero_49 at ho
  refine g_iload_n (i := 2) hc 2 dX10_doZero_49 rfl rfl ?_
  refine g_iconst (v := 3) hc dX10_doZero_50 (by decide) ?_
  refine g_icmpne (tgt := 79) hc dX10_doZero_51 rfl (fun c_51 => ?_) (fun c_51 => ?_)
  · have ho := ho.1 c_51
    refine g_iload_n (i := 1) hc 1 dX10_doZero_54 rfl rfl ?_
    refine g_iconst (v := 2) hc dX10_doZero_55 (by decide) ?_
    refine g_icmpeq (tgt := 64) hc dX10_doZero_56 rfl (fun c_56 => ?_) (fun c_56 => ?_)
    · have ho := ho.1 c_56
      refine g_aload_n (i := 0) hc 0 dX10_doZero_64 rfl rfl ?_
      refine g_iload_n (i := 1) hc 1 dX10_doZero_65 rfl rfl ?_
      refine g_iconst (v := 3) hc dX10_doZero_66 (by decide) ?_
      refine g_icmpne (tgt := 74) hc dX10_doZero_67 rfl (fun c_67 => ?_) (fun c_67 => ?_)
      · have ho := ho.1 c_67
        refine g_iconst (v := 1) hc dX10_doZero_70 (by decide) ?_
        refine g_goto (tgt := 75) hc dX10_doZero_71 rfl ?_
        refine g_callVI hc 0 [.int (bI true)] (fun l => c_X10_jump l η true S ho.1) wtM_235 ge_X10_jump rfl ⟨rfl, rfl⟩ ⟨Nat.le_of_ble_eq_true rfl, Nat.le_of_ble_eq_true rfl⟩ rfl rfl rfl (Nat.le_of_ble_eq_true rfl) dX10_doZero_75 (fun r4 S4 e4 f4 => ?_)
        have ho := ho.2 r4 S4 e4 f4
        exact g_iret hc dX10_doZero_78
      · have ho := ho.2 c_67
        refine g_iconst (v := 0) hc dX10_doZero_74 (by decide) ?_
        refine g_callVI hc 0 [.int (bI false)] (fun l => c_X10_jump l η false S ho.1) wtM_235 ge_X10_jump rfl ⟨rfl, rfl⟩ ⟨Nat.le_of_ble_eq_true rfl, Nat.le_of_ble_eq_true rfl⟩ rfl rfl rfl (Nat.le_of_ble_eq_true rfl) dX10_doZero_75 (fun r5 S5 e5 f5 => ?_)
        have ho := ho.2 r5 S5 e5 f5
        exact g_iret hc dX10_doZero_78
    · have ho := ho.2 c_56
      refine g_iload_n (i := 1) hc 1 dX10_doZero_59 rfl rfl ?_
      refine g_iconst (v := 3) hc dX10_doZero_60 (by decide) ?_
      refine g_icmpne (tgt := 79) hc dX10_doZero_61 rfl (fun c_61 => ?_) (fun c_61 => ?_)
      · have ho := ho.1 c_61
        refine g_aload_n (i := 0) hc 0 dX10_doZero_64 rfl rfl ?_
        refine g_iload_n (i := 1) hc 1 dX10_doZero_65 rfl rfl ?_
        refine g_iconst (v := 3) hc dX10_doZero_66 (by decide) ?_
        refine g_icmpne (tgt := 74) hc dX10_doZero_67 rfl (fun c_67 => ?_) (fun c_67 => ?_)
        · have ho := ho.1 c_67
          refine g_iconst (v := 1) hc dX10_doZero_70 (by decide) ?_
          refine g_goto (tgt := 75) hc dX10_doZero_71 rfl ?_
          refine g_callVI hc 0 [.int (bI true)] (fun l => c_X10_jump l η true S ho.1) wtM_235 ge_X10_jump rfl ⟨rfl, rfl⟩ ⟨Nat.le_of_ble_eq_true rfl, Nat.le_of_ble_eq_true rfl⟩ rfl rfl rfl (Nat.le_of_ble_eq_true rfl) dX10_doZero_75 (fun r6 S6 e6 f6 => ?_)
          have ho := ho.2 r6 S6 e6 f6
          exact g_iret hc dX10_doZero_78
        · have ho := ho.2 c_67
          refine g_iconst (v := 0) hc dX10_doZero_74 (by decide) ?_
          refine g_callVI hc 0 [.int (bI false)] (fun l => c_X10_jump l η false S ho.1) wtM_235 ge_X10_jump rfl ⟨rfl, rfl⟩ ⟨Nat.le_of_ble_eq_true rfl, Nat.le_of_ble_eq_true rfl⟩ rfl rfl rfl (Nat.le_of_ble_eq_true rfl) dX10_doZero_75 (fun r7 S7 e7 f7 => ?_)
          have ho := ho.2 r7 S7 e7 f7
          exact g_iret hc dX10_doZero_78
      · have ho := ho.2 c_61
        exact g_lv [0, 1, 2] rfl (g_jn_X10_doZero_79 hc _ _ _ ho)
  · have ho := ho.2 c_51
    exact g_lv [0, 1, 2] rfl (g_jn_X10_doZero_79 hc _ _ _ ho)
set_option maxRecDepth 100000 in
set_option maxHeartbeats 4000000 in
theorem c_X10_doZero (l : Launch) (η : gE) (a0 : Int32) (a1 : Int32) (S : gSt) (ho : ok_X10_doZero a0 a1 S) : gMet l yX10_doZero cX10_doZero 4 (some .int) rm_X10_doZero (oM η) [.ref (η.1 0), .int a0, .int a1] S (oI (sp_X10_doZero a0 a1 S).1) (sp_X10_doZero a0 a1 S).2 := by
  refine gMet_of (X := sp_X10_doZero a0 a1 S) (lv := [(0, .ref (η.1 0)), (1, .int a0), (2, .int a1)]) oI zM_ok (by decide +kernel) (Nat.le_of_ble_eq_true rfl) rfl (fun κ hc => ?_)
  have hc : gC (oM η) κ cX10_doZero 4 RX10 (some .int) rm_X10_doZero := hc
  unfold sp_X10_doZero
  unfold ok_X10_doZero at ho
  refine g_iload_n (i := 2) hc 2 dX10_doZero_0 rfl rfl ?_
  refine g_iconst (v := 4) hc dX10_doZero_1 (by decide) ?_
  refine g_icmpne (tgt := 11) hc dX10_doZero_2 rfl (fun c_2 => ?_) (fun c_2 => ?_)
  · have ho := ho.1 c_2
    refine g_aload_n (i := 0) hc 0 dX10_doZero_5 rfl rfl ?_
    refine g_iload_n (i := 1) hc 1 dX10_doZero_6 rfl rfl ?_
    refine g_callVI hc 0 [.int a0] (fun l => c_X10_branch l η a0 S ho.1) wtM_223 ge_X10_branch rfl ⟨rfl, rfl⟩ ⟨Nat.le_of_ble_eq_true rfl, Nat.le_of_ble_eq_true rfl⟩ rfl rfl rfl (Nat.le_of_ble_eq_true rfl) dX10_doZero_7 (fun r1 S1 e1 f1 => ?_)
    have ho := ho.2 r1 S1 e1 f1
    exact g_iret hc dX10_doZero_10
  · have ho := ho.2 c_2
    refine g_iload_n (i := 2) hc 2 dX10_doZero_11 rfl rfl ?_
    refine g_iconst (v := 2) hc dX10_doZero_12 (by decide) ?_
    refine g_icmpne (tgt := 22) hc dX10_doZero_13 rfl (fun c_13 => ?_) (fun c_13 => ?_)
    · have ho := ho.1 c_13
      refine g_aload_n (i := 0) hc 0 dX10_doZero_16 rfl rfl ?_
      refine g_iload_n (i := 1) hc 1 dX10_doZero_17 rfl rfl ?_
      refine g_callVI hc 0 [.int a0] (fun l => c_X10_stacked l η a0 S ho.1) wtM_227 ge_X10_stacked rfl ⟨rfl, rfl⟩ ⟨Nat.le_of_ble_eq_true rfl, Nat.le_of_ble_eq_true rfl⟩ rfl rfl rfl (Nat.le_of_ble_eq_true rfl) dX10_doZero_18 (fun r2 S2 e2 f2 => ?_)
      have ho := ho.2 r2 S2 e2 f2
      exact g_iret hc dX10_doZero_21
    · have ho := ho.2 c_13
      refine g_iload_n (i := 2) hc 2 dX10_doZero_22 rfl rfl ?_
      refine g_bipush (v := 6) hc dX10_doZero_23 (by decide) ?_
      refine g_icmpne (tgt := 34) hc dX10_doZero_25 rfl (fun c_25 => ?_) (fun c_25 => ?_)
      · have ho := ho.1 c_25
        refine g_aload_n (i := 0) hc 0 dX10_doZero_28 rfl rfl ?_
        refine g_iload_n (i := 1) hc 1 dX10_doZero_29 rfl rfl ?_
        refine g_callVI hc 0 [.int a0] (fun l => c_X10_flagged l η a0 S ho.1) wtM_231 ge_X10_flagged rfl ⟨rfl, rfl⟩ ⟨Nat.le_of_ble_eq_true rfl, Nat.le_of_ble_eq_true rfl⟩ rfl rfl rfl (Nat.le_of_ble_eq_true rfl) dX10_doZero_30 (fun r3 S3 e3 f3 => ?_)
        have ho := ho.2 r3 S3 e3 f3
        exact g_iret hc dX10_doZero_33
      · have ho := ho.2 c_25
        refine g_iload_n (i := 2) hc 2 dX10_doZero_34 rfl rfl ?_
        refine g_ifne (tgt := 49) hc dX10_doZero_35 rfl (fun c_35 => ?_) (fun c_35 => ?_)
        · have ho := ho.1 c_35
          refine g_iload_n (i := 1) hc 1 dX10_doZero_38 rfl rfl ?_
          refine g_iconst (v := 4) hc dX10_doZero_39 (by decide) ?_
          refine g_icmpge (tgt := 49) hc dX10_doZero_40 rfl (fun c_40 => ?_) (fun c_40 => ?_)
          · have ho := ho.1 c_40
            exact g_lv [0, 1, 2] rfl (g_jn_X10_doZero_49 hc _ _ _ ho)
          · have ho := ho.2 c_40
            refine g_aload_n (i := 0) hc 0 dX10_doZero_43 rfl rfl ?_
            refine g_iload_n (i := 1) hc 1 dX10_doZero_44 rfl rfl ?_
            refine g_callVI hc 0 [.int a0] (fun l => c_X10_called l η a0 S ho.1) wtM_243 ge_X10_called rfl ⟨rfl, rfl⟩ ⟨Nat.le_of_ble_eq_true rfl, Nat.le_of_ble_eq_true rfl⟩ rfl rfl rfl (Nat.le_of_ble_eq_true rfl) dX10_doZero_45 (fun r28 S28 e28 f28 => ?_)
            have ho := ho.2 r28 S28 e28 f28
            exact g_iret hc dX10_doZero_48
        · have ho := ho.2 c_35
          exact g_lv [0, 1, 2] rfl (g_jn_X10_doZero_49 hc _ _ _ ho)

abbrev rm_X10_perform : Room := { frames := 9, cells := 0, slots := 0, locals := 206 }
def jn_X10_perform_134 (x1 : Int32) (x2 : Int32) (x3 : Int32) (x4 : Int32) (x5 : Int32) (S : gSt) : Int32 × gSt := (if (x2 &&& 3) = 0 then gB (sp_X10_doZero x3 x4 S) (fun r4 S4 => (if r4 ≤ 0 then gL (sI S4 6 x1) (fun S5 => (2, S5)) else (r4, S4))) else (if x5 ≤ 0 then gL (sI S 6 x1) (fun S6 => (2, S6)) else (x5, S)))
def ok_jn_X10_perform_134 (x1 : Int32) (x2 : Int32) (x3 : Int32) (x4 : Int32) (x5 : Int32) (S : gSt) : Prop := (((x2 &&& 3) = 0 → (ok_X10_doZero x3 x4 S ∧ ∀ (r4 : Int32) (S4 : gSt), r4 = (sp_X10_doZero x3 x4 S).1 → S4 = (sp_X10_doZero x3 x4 S).2 → ((r4 ≤ 0 → ∀ S5 : gSt, S5 = sI S4 6 x1 → True) ∧ (¬ r4 ≤ 0 → True)))) ∧ (¬ (x2 &&& 3) = 0 → ((x5 ≤ 0 → ∀ S6 : gSt, S6 = sI S 6 x1 → True) ∧ (¬ x5 ≤ 0 → True))))
def jn_X10_perform_118 (x1 : Int32) (x2 : Int32) (x3 : Int32) (x4 : Int32) (x5 : Int32) (S : gSt) : Int32 × gSt := (if (x2 &&& 3) = 2 then gB (sp_X10_doTwo x3 x4 S) (fun r3 S3 => jn_X10_perform_134 x1 x2 x3 x4 r3 S3) else jn_X10_perform_134 x1 x2 x3 x4 x5 S)
def ok_jn_X10_perform_118 (x1 : Int32) (x2 : Int32) (x3 : Int32) (x4 : Int32) (x5 : Int32) (S : gSt) : Prop := (((x2 &&& 3) = 2 → (ok_X10_doTwo x3 x4 S ∧ ∀ (r3 : Int32) (S3 : gSt), r3 = (sp_X10_doTwo x3 x4 S).1 → S3 = (sp_X10_doTwo x3 x4 S).2 → ok_jn_X10_perform_134 x1 x2 x3 x4 r3 S3)) ∧ (¬ (x2 &&& 3) = 2 → ok_jn_X10_perform_134 x1 x2 x3 x4 x5 S))
def jn_X10_perform_66  (S : gSt) : Int32 × gSt := gB (sp_X10_fetch S) (fun r2 S2 => (if (r2 &&& 3) = 1 then (if r2 = 137 then jn_X10_perform_118 (S.1 6) r2 (r2 >>> ((5 : Int32) &&& (31 : Int32))) ((r2 >>> ((2 : Int32) &&& (31 : Int32))) &&& 7) (-1) S2 else gB (sp_X10_modeOne ((r2 >>> ((2 : Int32) &&& (31 : Int32))) &&& 7) S2) (fun r7 S7 => gB (sp_X10_arithmetic (r2 >>> ((5 : Int32) &&& (31 : Int32))) r7 S7) (fun r8 S8 => jn_X10_perform_118 (S.1 6) r2 (r2 >>> ((5 : Int32) &&& (31 : Int32))) ((r2 >>> ((2 : Int32) &&& (31 : Int32))) &&& 7) r8 S8))) else jn_X10_perform_118 (S.1 6) r2 (r2 >>> ((5 : Int32) &&& (31 : Int32))) ((r2 >>> ((2 : Int32) &&& (31 : Int32))) &&& 7) (-1) S2))
def ok_jn_X10_perform_66  (S : gSt) : Prop := (ok_X10_fetch S ∧ ∀ (r2 : Int32) (S2 : gSt), r2 = (sp_X10_fetch S).1 → S2 = (sp_X10_fetch S).2 → (((r2 &&& 3) = 1 → ((r2 = 137 → ok_jn_X10_perform_118 (S.1 6) r2 (r2 >>> ((5 : Int32) &&& (31 : Int32))) ((r2 >>> ((2 : Int32) &&& (31 : Int32))) &&& 7) (-1) S2) ∧ (¬ r2 = 137 → (ok_X10_modeOne ((r2 >>> ((2 : Int32) &&& (31 : Int32))) &&& 7) S2 ∧ ∀ (r7 : Int32) (S7 : gSt), r7 = (sp_X10_modeOne ((r2 >>> ((2 : Int32) &&& (31 : Int32))) &&& 7) S2).1 → S7 = (sp_X10_modeOne ((r2 >>> ((2 : Int32) &&& (31 : Int32))) &&& 7) S2).2 → (ok_X10_arithmetic (r2 >>> ((5 : Int32) &&& (31 : Int32))) r7 S7 ∧ ∀ (r8 : Int32) (S8 : gSt), r8 = (sp_X10_arithmetic (r2 >>> ((5 : Int32) &&& (31 : Int32))) r7 S7).1 → S8 = (sp_X10_arithmetic (r2 >>> ((5 : Int32) &&& (31 : Int32))) r7 S7).2 → ok_jn_X10_perform_118 (S.1 6) r2 (r2 >>> ((5 : Int32) &&& (31 : Int32))) ((r2 >>> ((2 : Int32) &&& (31 : Int32))) &&& 7) r8 S8))))) ∧ (¬ (r2 &&& 3) = 1 → ok_jn_X10_perform_118 (S.1 6) r2 (r2 >>> ((5 : Int32) &&& (31 : Int32))) ((r2 >>> ((2 : Int32) &&& (31 : Int32))) &&& 7) (-1) S2)))
def sp_X10_perform  (S : gSt) : Int32 × gSt := gL (sZ S 2 false) (fun S1 => (if (bI (S1.2.1 1)) = 0 then (if ((S1.1 31) ||| (S1.1 29)) = 0 then jn_X10_perform_66  S1 else (if ((S1.1 5) &&& 4) = 0 then gB (sp_X10_interrupt 65534 (S1.1 5) S1) (fun (_ : Unit) S9 => (7, S9)) else jn_X10_perform_66  S1)) else gL (sZ S1 1 false) (fun S10 => gB (sp_X10_interrupt 65530 (S10.1 5) S10) (fun (_ : Unit) S11 => (7, S11)))))
def ok_X10_perform  (S : gSt) : Prop := ∀ S1 : gSt, S1 = sZ S 2 false → (((bI (S1.2.1 1)) = 0 → ((((S1.1 31) ||| (S1.1 29)) = 0 → ok_jn_X10_perform_66  S1) ∧ (¬ ((S1.1 31) ||| (S1.1 29)) = 0 → ((((S1.1 5) &&& 4) = 0 → (ok_X10_interrupt 65534 (S1.1 5) S1 ∧ ∀ (r9 : Unit) (S9 : gSt), r9 = (sp_X10_interrupt 65534 (S1.1 5) S1).1 → S9 = (sp_X10_interrupt 65534 (S1.1 5) S1).2 → True)) ∧ (¬ ((S1.1 5) &&& 4) = 0 → ok_jn_X10_perform_66  S1))))) ∧ (¬ (bI (S1.2.1 1)) = 0 → ∀ S10 : gSt, S10 = sZ S1 1 false → (ok_X10_interrupt 65530 (S10.1 5) S10 ∧ ∀ (r11 : Unit) (S11 : gSt), r11 = (sp_X10_interrupt 65530 (S10.1 5) S10).1 → S11 = (sp_X10_interrupt 65530 (S10.1 5) S10).2 → True)))
set_option maxRecDepth 100000 in
set_option maxHeartbeats 4000000 in
theorem g_jn_X10_perform_134 {η : gE} {κ : gK} (hc : gC (oM η) κ cX10_perform 6 RX10 (some .int) rm_X10_perform) (x1 : Int32) (x2 : Int32) (x3 : Int32) (x4 : Int32) (x5 : Int32) (S : gSt) (ho : ok_jn_X10_perform_134 x1 x2 x3 x4 x5 S) : gG (oM η) κ 6 oI 134 [(0, .ref (η.1 0)), (1, .int x1), (2, .int x2), (3, .int x3), (4, .int x4), (5, .int x5)] [] S (jn_X10_perform_134 x1 x2 x3 x4 x5 S) := by
  unfold jn_X10_perform_134
  unfold ok_jn_X10_perform_134 at ho
  refine g_iload_n (i := 2) hc 2 dX10_perform_134 rfl rfl ?_
  refine g_iconst (v := 3) hc dX10_perform_135 (by decide) ?_
  refine g_iand hc dX10_perform_136 ?_
  refine g_ifne (tgt := 149) hc dX10_perform_137 rfl (fun c_137 => ?_) (fun c_137 => ?_)
  · have ho := ho.1 c_137
    refine g_aload_n (i := 0) hc 0 dX10_perform_140 rfl rfl ?_
    refine g_iload_n (i := 3) hc 3 dX10_perform_141 rfl rfl ?_
    refine g_iload (i := 4) hc 4 dX10_perform_142 rfl ?_
    refine g_callVI hc 0 [.int x3, .int x4] (fun l => c_X10_doZero l η x3 x4 S ho.1) wtM_251 ge_X10_doZero rfl ⟨rfl, rfl⟩ ⟨Nat.le_of_ble_eq_true rfl, Nat.le_of_ble_eq_true rfl⟩ rfl rfl rfl (Nat.le_of_ble_eq_true rfl) dX10_perform_144 (fun r4 S4 e4 f4 => ?_)
    have ho := ho.2 r4 S4 e4 f4
    refine g_istore (i := 5) (lv' := [(5, .int r4), (0, .ref (η.1 0)), (1, .int x1), (2, .int x2), (3, .int x3), (4, .int x4)]) hc dX10_perform_147 (by decide) rfl ?_
    refine g_iload (i := 5) hc 0 dX10_perform_149 rfl ?_
    refine g_ifle (tgt := 157) hc dX10_perform_151 rfl (fun c_151 => ?_) (fun c_151 => ?_)
    · have ho := ho.1 c_151
      refine g_aload_n (i := 0) hc 1 dX10_perform_157 rfl rfl ?_
      refine g_iload_n (i := 1) hc 2 dX10_perform_158 rfl rfl ?_
      refine pf_M_0_pc (v := x1) hc wtM_124 dX10_perform_159 (fun S5 f5 => ?_)
      have ho := ho S5 f5
      refine g_iconst (v := 2) hc dX10_perform_162 (by decide) ?_
      exact g_iret hc dX10_perform_163
    · have ho := ho.2 c_151
      refine g_iload (i := 5) hc 0 dX10_perform_154 rfl ?_
      exact g_iret hc dX10_perform_156
  · have ho := ho.2 c_137
    refine g_iload (i := 5) hc 5 dX10_perform_149 rfl ?_
    refine g_ifle (tgt := 157) hc dX10_perform_151 rfl (fun c_151 => ?_) (fun c_151 => ?_)
    · have ho := ho.1 c_151
      refine g_aload_n (i := 0) hc 0 dX10_perform_157 rfl rfl ?_
      refine g_iload_n (i := 1) hc 1 dX10_perform_158 rfl rfl ?_
      refine pf_M_0_pc (v := x1) hc wtM_124 dX10_perform_159 (fun S6 f6 => ?_)
      have ho := ho S6 f6
      refine g_iconst (v := 2) hc dX10_perform_162 (by decide) ?_
      exact g_iret hc dX10_perform_163
    · have ho := ho.2 c_151
      refine g_iload (i := 5) hc 5 dX10_perform_154 rfl ?_
      exact g_iret hc dX10_perform_156
set_option maxRecDepth 100000 in
set_option maxHeartbeats 4000000 in
theorem g_jn_X10_perform_118 {η : gE} {κ : gK} (hc : gC (oM η) κ cX10_perform 6 RX10 (some .int) rm_X10_perform) (x1 : Int32) (x2 : Int32) (x3 : Int32) (x4 : Int32) (x5 : Int32) (S : gSt) (ho : ok_jn_X10_perform_118 x1 x2 x3 x4 x5 S) : gG (oM η) κ 6 oI 118 [(0, .ref (η.1 0)), (1, .int x1), (2, .int x2), (3, .int x3), (4, .int x4), (5, .int x5)] [] S (jn_X10_perform_118 x1 x2 x3 x4 x5 S) := by
  unfold jn_X10_perform_118
  unfold ok_jn_X10_perform_118 at ho
  refine g_iload_n (i := 2) hc 2 dX10_perform_118 rfl rfl ?_
  refine g_iconst (v := 3) hc dX10_perform_119 (by decide) ?_
  refine g_iand hc dX10_perform_120 ?_
  refine g_iconst (v := 2) hc dX10_perform_121 (by decide) ?_
  refine g_icmpne (tgt := 134) hc dX10_perform_122 rfl (fun c_122 => ?_) (fun c_122 => ?_)
  · have ho := ho.1 c_122
    refine g_aload_n (i := 0) hc 0 dX10_perform_125 rfl rfl ?_
    refine g_iload_n (i := 3) hc 3 dX10_perform_126 rfl rfl ?_
    refine g_iload (i := 4) hc 4 dX10_perform_127 rfl ?_
    refine g_callVI hc 0 [.int x3, .int x4] (fun l => c_X10_doTwo l η x3 x4 S ho.1) wtM_247 ge_X10_doTwo rfl ⟨rfl, rfl⟩ ⟨Nat.le_of_ble_eq_true rfl, Nat.le_of_ble_eq_true rfl⟩ rfl rfl rfl (Nat.le_of_ble_eq_true rfl) dX10_perform_129 (fun r3 S3 e3 f3 => ?_)
    have ho := ho.2 r3 S3 e3 f3
    refine g_istore (i := 5) (lv' := [(5, .int r3), (0, .ref (η.1 0)), (1, .int x1), (2, .int x2), (3, .int x3), (4, .int x4)]) hc dX10_perform_132 (by decide) rfl ?_
    exact g_lv [1, 2, 3, 4, 5, 0] rfl (g_jn_X10_perform_134 hc _ _ _ _ _ _ ho)
  · have ho := ho.2 c_122
    exact g_lv [0, 1, 2, 3, 4, 5] rfl (g_jn_X10_perform_134 hc _ _ _ _ _ _ ho)
set_option maxRecDepth 100000 in
set_option maxHeartbeats 4000000 in
theorem g_jn_X10_perform_66 {η : gE} {κ : gK} (hc : gC (oM η) κ cX10_perform 6 RX10 (some .int) rm_X10_perform)  (S : gSt) (ho : ok_jn_X10_perform_66  S) : gG (oM η) κ 6 oI 66 [(0, .ref (η.1 0))] [] S (jn_X10_perform_66  S) := by
  unfold jn_X10_perform_66
  unfold ok_jn_X10_perform_66 at ho
  refine g_aload_n (i := 0) hc 0 dX10_perform_66 rfl rfl ?_
  refine gf_M_0_pc hc wtM_124 dX10_perform_67 ?_
  refine g_istore_n (i := 1) (lv' := [(1, .int (S.1 6)), (0, .ref (η.1 0))]) hc dX10_perform_70 rfl (by decide) rfl ?_
  refine g_aload_n (i := 0) hc 1 dX10_perform_71 rfl rfl ?_
  refine g_callVI hc 0 [] (fun l => c_X10_fetch l η S ho.1) wtM_128 ge_X10_fetch rfl ⟨rfl, rfl⟩ ⟨Nat.le_of_ble_eq_true rfl, Nat.le_of_ble_eq_true rfl⟩ rfl rfl rfl (Nat.le_of_ble_eq_true rfl) dX10_perform_72 (fun r2 S2 e2 f2 => ?_)
  have ho := ho.2 r2 S2 e2 f2
  refine g_istore_n (i := 2) (lv' := [(2, .int r2), (1, .int (S.1 6)), (0, .ref (η.1 0))]) hc dX10_perform_75 rfl (by decide) rfl ?_
  refine g_iload_n (i := 2) hc 0 dX10_perform_76 rfl rfl ?_
  refine g_iconst (v := 5) hc dX10_perform_77 (by decide) ?_
  refine g_ishr hc dX10_perform_78 ?_
  refine g_istore_n (i := 3) (lv' := [(3, .int (r2 >>> ((5 : Int32) &&& (31 : Int32)))), (2, .int r2), (1, .int (S.1 6)), (0, .ref (η.1 0))]) hc dX10_perform_79 rfl (by decide) rfl ?_
  refine g_iload_n (i := 2) hc 1 dX10_perform_80 rfl rfl ?_
  refine g_iconst (v := 2) hc dX10_perform_81 (by decide) ?_
  refine g_ishr hc dX10_perform_82 ?_
  refine g_bipush (v := 7) hc dX10_perform_83 (by decide) ?_
  refine g_iand hc dX10_perform_85 ?_
  refine g_istore (i := 4) (lv' := [(4, .int ((r2 >>> ((2 : Int32) &&& (31 : Int32))) &&& 7)), (3, .int (r2 >>> ((5 : Int32) &&& (31 : Int32)))), (2, .int r2), (1, .int (S.1 6)), (0, .ref (η.1 0))]) hc dX10_perform_86 (by decide) rfl ?_
  refine g_iconst (v := (-1)) hc dX10_perform_88 (by decide) ?_
  refine g_istore (i := 5) (lv' := [(5, .int (-1)), (4, .int ((r2 >>> ((2 : Int32) &&& (31 : Int32))) &&& 7)), (3, .int (r2 >>> ((5 : Int32) &&& (31 : Int32)))), (2, .int r2), (1, .int (S.1 6)), (0, .ref (η.1 0))]) hc dX10_perform_89 (by decide) rfl ?_
  refine g_iload_n (i := 2) hc 3 dX10_perform_91 rfl rfl ?_
  refine g_iconst (v := 3) hc dX10_perform_92 (by decide) ?_
  refine g_iand hc dX10_perform_93 ?_
  refine g_iconst (v := 1) hc dX10_perform_94 (by decide) ?_
  refine g_icmpne (tgt := 118) hc dX10_perform_95 rfl (fun c_95 => ?_) (fun c_95 => ?_)
  · have ho := ho.1 c_95
    refine g_iload_n (i := 2) hc 3 dX10_perform_98 rfl rfl ?_
    refine g_sipush (v := 137) hc dX10_perform_99 (by decide) ?_
    refine g_icmpeq (tgt := 118) hc dX10_perform_102 rfl (fun c_102 => ?_) (fun c_102 => ?_)
    · have ho := ho.1 c_102
      exact g_lv [5, 4, 3, 2, 1, 0] rfl (g_jn_X10_perform_118 hc _ _ _ _ _ _ ho)
    · have ho := ho.2 c_102
      refine g_aload_n (i := 0) hc 5 dX10_perform_105 rfl rfl ?_
      refine g_iload_n (i := 3) hc 2 dX10_perform_106 rfl rfl ?_
      refine g_aload_n (i := 0) hc 5 dX10_perform_107 rfl rfl ?_
      refine g_iload (i := 4) hc 1 dX10_perform_108 rfl ?_
      refine g_callVI hc 0 [.int ((r2 >>> ((2 : Int32) &&& (31 : Int32))) &&& 7)] (fun l => c_X10_modeOne l η ((r2 >>> ((2 : Int32) &&& (31 : Int32))) &&& 7) S2 ho.1) wtM_255 ge_X10_modeOne rfl ⟨rfl, rfl⟩ ⟨Nat.le_of_ble_eq_true rfl, Nat.le_of_ble_eq_true rfl⟩ rfl rfl rfl (Nat.le_of_ble_eq_true rfl) dX10_perform_110 (fun r7 S7 e7 f7 => ?_)
      have ho := ho.2 r7 S7 e7 f7
      refine g_callVI hc 0 [.int (r2 >>> ((5 : Int32) &&& (31 : Int32))), .int r7] (fun l => c_X10_arithmetic l η (r2 >>> ((5 : Int32) &&& (31 : Int32))) r7 S7 ho.1) wtM_259 ge_X10_arithmetic rfl ⟨rfl, rfl⟩ ⟨Nat.le_of_ble_eq_true rfl, Nat.le_of_ble_eq_true rfl⟩ rfl rfl rfl (Nat.le_of_ble_eq_true rfl) dX10_perform_113 (fun r8 S8 e8 f8 => ?_)
      have ho := ho.2 r8 S8 e8 f8
      refine g_istore (i := 5) (lv' := [(5, .int r8), (4, .int ((r2 >>> ((2 : Int32) &&& (31 : Int32))) &&& 7)), (3, .int (r2 >>> ((5 : Int32) &&& (31 : Int32)))), (2, .int r2), (1, .int (S.1 6)), (0, .ref (η.1 0))]) hc dX10_perform_116 (by decide) rfl ?_
      exact g_lv [5, 4, 3, 2, 1, 0] rfl (g_jn_X10_perform_118 hc _ _ _ _ _ _ ho)
  · have ho := ho.2 c_95
    exact g_lv [5, 4, 3, 2, 1, 0] rfl (g_jn_X10_perform_118 hc _ _ _ _ _ _ ho)
set_option maxRecDepth 100000 in
set_option maxHeartbeats 4000000 in
theorem c_X10_perform (l : Launch) (η : gE)  (S : gSt) (ho : ok_X10_perform S) : gMet l yX10_perform cX10_perform 6 (some .int) rm_X10_perform (oM η) [.ref (η.1 0)] S (oI (sp_X10_perform S).1) (sp_X10_perform S).2 := by
  refine gMet_of (X := sp_X10_perform S) (lv := [(0, .ref (η.1 0))]) oI zM_ok (by decide +kernel) (Nat.le_of_ble_eq_true rfl) rfl (fun κ hc => ?_)
  have hc : gC (oM η) κ cX10_perform 6 RX10 (some .int) rm_X10_perform := hc
  unfold sp_X10_perform
  unfold ok_X10_perform at ho
  refine g_aload_n (i := 0) hc 0 dX10_perform_0 rfl rfl ?_
  refine g_iconst (v := 0) hc dX10_perform_1 (by decide) ?_
  refine pf_M_0_crossed (v := false) hc wtM_151 dX10_perform_2 (fun S1 f1 => ?_)
  have ho := ho S1 f1
  refine g_aload_n (i := 0) hc 0 dX10_perform_5 rfl rfl ?_
  refine gf_M_0_nmi hc wtM_47 dX10_perform_6 ?_
  refine g_ifeq (tgt := 31) hc dX10_perform_9 rfl (fun c_9 => ?_) (fun c_9 => ?_)
  · have ho := ho.1 c_9
    refine g_aload_n (i := 0) hc 0 dX10_perform_31 rfl rfl ?_
    refine gf_M_0_frameLine hc wtM_56 dX10_perform_32 ?_
    refine g_aload_n (i := 0) hc 0 dX10_perform_35 rfl rfl ?_
    refine gf_M_0_cartridgeLine hc wtM_16 dX10_perform_36 ?_
    refine g_ior hc dX10_perform_39 ?_
    refine g_ifeq (tgt := 66) hc dX10_perform_40 rfl (fun c_40 => ?_) (fun c_40 => ?_)
    · have ho := ho.1 c_40
      exact g_lv [0] rfl (g_jn_X10_perform_66 hc  _ ho)
    · have ho := ho.2 c_40
      refine g_aload_n (i := 0) hc 0 dX10_perform_43 rfl rfl ?_
      refine gf_M_0_p hc wtM_138 dX10_perform_44 ?_
      refine g_iconst (v := 4) hc dX10_perform_47 (by decide) ?_
      refine g_iand hc dX10_perform_48 ?_
      refine g_ifne (tgt := 66) hc dX10_perform_49 rfl (fun c_49 => ?_) (fun c_49 => ?_)
      · have ho := ho.1 c_49
        refine g_aload_n (i := 0) hc 0 dX10_perform_52 rfl rfl ?_
        refine g_ldcw (v := 65534) hc wtM_210 dX10_perform_53 ?_
        refine g_aload_n (i := 0) hc 0 dX10_perform_56 rfl rfl ?_
        refine gf_M_0_p hc wtM_138 dX10_perform_57 ?_
        refine g_callVV hc 0 [.int 65534, .int (S1.1 5)] (fun l => c_X10_interrupt l η 65534 (S1.1 5) S1 ho.1) wtM_214 ge_X10_interrupt rfl ⟨rfl, rfl⟩ ⟨Nat.le_of_ble_eq_true rfl, Nat.le_of_ble_eq_true rfl⟩ rfl rfl rfl (Nat.le_of_ble_eq_true rfl) dX10_perform_60 (fun r9 S9 e9 f9 => ?_)
        have ho := ho.2 r9 S9 e9 f9
        refine g_bipush (v := 7) hc dX10_perform_63 (by decide) ?_
        exact g_iret hc dX10_perform_65
      · have ho := ho.2 c_49
        exact g_lv [0] rfl (g_jn_X10_perform_66 hc  _ ho)
  · have ho := ho.2 c_9
    refine g_aload_n (i := 0) hc 0 dX10_perform_12 rfl rfl ?_
    refine g_iconst (v := 0) hc dX10_perform_13 (by decide) ?_
    refine pf_M_0_nmi (v := false) hc wtM_47 dX10_perform_14 (fun S10 f10 => ?_)
    have ho := ho S10 f10
    refine g_aload_n (i := 0) hc 0 dX10_perform_17 rfl rfl ?_
    refine g_ldcw (v := 65530) hc wtM_260 dX10_perform_18 ?_
    refine g_aload_n (i := 0) hc 0 dX10_perform_21 rfl rfl ?_
    refine gf_M_0_p hc wtM_138 dX10_perform_22 ?_
    refine g_callVV hc 0 [.int 65530, .int (S10.1 5)] (fun l => c_X10_interrupt l η 65530 (S10.1 5) S10 ho.1) wtM_214 ge_X10_interrupt rfl ⟨rfl, rfl⟩ ⟨Nat.le_of_ble_eq_true rfl, Nat.le_of_ble_eq_true rfl⟩ rfl rfl rfl (Nat.le_of_ble_eq_true rfl) dX10_perform_25 (fun r11 S11 e11 f11 => ?_)
    have ho := ho.2 r11 S11 e11 f11
    refine g_bipush (v := 7) hc dX10_perform_28 (by decide) ?_
    exact g_iret hc dX10_perform_30

abbrev rm_X10_oneStep : Room := { frames := 10, cells := 0, slots := 0, locals := 231 }
def sp_X10_oneStep  (S : gSt) : Int32 × gSt := gL (sI S 7 0) (fun S1 => gB (sp_X10_perform S1) (fun r2 S2 => gL (sI S2 7 ((S2.1 7) + r2)) (fun S3 => gB (sp_X10_elapse (S3.1 7) S3) (fun (_ : Unit) S4 => ((S4.1 7), S4)))))
def ok_X10_oneStep  (S : gSt) : Prop := ∀ S1 : gSt, S1 = sI S 7 0 → (ok_X10_perform S1 ∧ ∀ (r2 : Int32) (S2 : gSt), r2 = (sp_X10_perform S1).1 → S2 = (sp_X10_perform S1).2 → ∀ S3 : gSt, S3 = sI S2 7 ((S2.1 7) + r2) → (ok_X10_elapse (S3.1 7) S3 ∧ ∀ (r4 : Unit) (S4 : gSt), r4 = (sp_X10_elapse (S3.1 7) S3).1 → S4 = (sp_X10_elapse (S3.1 7) S3).2 → True))
set_option maxRecDepth 100000 in
set_option maxHeartbeats 4000000 in
theorem c_X10_oneStep (l : Launch) (η : gE)  (S : gSt) (ho : ok_X10_oneStep S) : gMet l yX10_oneStep cX10_oneStep 2 (some .int) rm_X10_oneStep (oM η) [.ref (η.1 0)] S (oI (sp_X10_oneStep S).1) (sp_X10_oneStep S).2 := by
  refine gMet_of (X := sp_X10_oneStep S) (lv := [(0, .ref (η.1 0))]) oI zM_ok (by decide +kernel) (Nat.le_of_ble_eq_true rfl) rfl (fun κ hc => ?_)
  have hc : gC (oM η) κ cX10_oneStep 2 RX10 (some .int) rm_X10_oneStep := hc
  unfold sp_X10_oneStep
  unfold ok_X10_oneStep at ho
  refine g_aload_n (i := 0) hc 0 dX10_oneStep_0 rfl rfl ?_
  refine g_iconst (v := 0) hc dX10_oneStep_1 (by decide) ?_
  refine pf_M_0_spent (v := 0) hc wtM_75 dX10_oneStep_2 (fun S1 f1 => ?_)
  have ho := ho S1 f1
  refine g_aload_n (i := 0) hc 0 dX10_oneStep_5 rfl rfl ?_
  refine g_callVI hc 0 [] (fun l => c_X10_perform l η S1 ho.1) wtM_264 ge_X10_perform rfl ⟨rfl, rfl⟩ ⟨Nat.le_of_ble_eq_true rfl, Nat.le_of_ble_eq_true rfl⟩ rfl rfl rfl (Nat.le_of_ble_eq_true rfl) dX10_oneStep_6 (fun r2 S2 e2 f2 => ?_)
  have ho := ho.2 r2 S2 e2 f2
  refine g_istore_n (i := 1) (lv' := [(1, .int r2), (0, .ref (η.1 0))]) hc dX10_oneStep_9 rfl (by decide) rfl ?_
  refine g_aload_n (i := 0) hc 1 dX10_oneStep_10 rfl rfl ?_
  refine g_dup hc dX10_oneStep_11 rfl ?_
  refine gf_M_0_spent hc wtM_75 dX10_oneStep_12 ?_
  refine g_iload_n (i := 1) hc 0 dX10_oneStep_15 rfl rfl ?_
  refine g_iadd hc dX10_oneStep_16 ?_
  refine pf_M_0_spent (v := ((S2.1 7) + r2)) hc wtM_75 dX10_oneStep_17 (fun S3 f3 => ?_)
  have ho := ho S3 f3
  refine g_aload_n (i := 0) hc 1 dX10_oneStep_20 rfl rfl ?_
  refine g_aload_n (i := 0) hc 1 dX10_oneStep_21 rfl rfl ?_
  refine gf_M_0_spent hc wtM_75 dX10_oneStep_22 ?_
  refine g_callVV hc 0 [.int (S3.1 7)] (fun l => c_X10_elapse l η (S3.1 7) S3 ho.1) wtM_268 ge_X10_elapse rfl ⟨rfl, rfl⟩ ⟨Nat.le_of_ble_eq_true rfl, Nat.le_of_ble_eq_true rfl⟩ rfl rfl rfl (Nat.le_of_ble_eq_true rfl) dX10_oneStep_25 (fun r4 S4 e4 f4 => ?_)
  have ho := ho.2 r4 S4 e4 f4
  refine g_aload_n (i := 0) hc 1 dX10_oneStep_28 rfl rfl ?_
  refine gf_M_0_spent hc wtM_75 dX10_oneStep_29 ?_
  exact g_iret hc dX10_oneStep_32

abbrev rm_X10_step : Room := { frames := 11, cells := 0, slots := 0, locals := 252 }
def sp_X10_step  (S : gSt) : Int32 × gSt := gL (sI S 0 0) (fun S1 => gB (sp_X10_oneStep S1) (fun r2 S2 => (r2, S2)))
def ok_X10_step  (S : gSt) : Prop := ∀ S1 : gSt, S1 = sI S 0 0 → (ok_X10_oneStep S1 ∧ ∀ (r2 : Int32) (S2 : gSt), r2 = (sp_X10_oneStep S1).1 → S2 = (sp_X10_oneStep S1).2 → True)
set_option maxRecDepth 100000 in
set_option maxHeartbeats 4000000 in
theorem c_X10_step (l : Launch) (η : gE)  (S : gSt) (ho : ok_X10_step S) : gMet l yX10_step cX10_step 1 (some .int) rm_X10_step (oM η) [.ref (η.1 0)] S (oI (sp_X10_step S).1) (sp_X10_step S).2 := by
  refine gMet_of (X := sp_X10_step S) (lv := [(0, .ref (η.1 0))]) oI zM_ok (by decide +kernel) (Nat.le_of_ble_eq_true rfl) rfl (fun κ hc => ?_)
  have hc : gC (oM η) κ cX10_step 1 RX10 (some .int) rm_X10_step := hc
  unfold sp_X10_step
  unfold ok_X10_step at ho
  refine g_aload_n (i := 0) hc 0 dX10_step_0 rfl rfl ?_
  refine g_iconst (v := 0) hc dX10_step_1 (by decide) ?_
  refine pf_M_0_code (v := 0) hc wtM_0 dX10_step_2 (fun S1 f1 => ?_)
  have ho := ho S1 f1
  refine g_aload_n (i := 0) hc 0 dX10_step_5 rfl rfl ?_
  refine g_callVI hc 0 [] (fun l => c_X10_oneStep l η S1 ho.1) wtM_272 ge_X10_oneStep rfl ⟨rfl, rfl⟩ ⟨Nat.le_of_ble_eq_true rfl, Nat.le_of_ble_eq_true rfl⟩ rfl rfl rfl (Nat.le_of_ble_eq_true rfl) dX10_step_6 (fun r2 S2 e2 f2 => ?_)
  have ho := ho.2 r2 S2 e2 f2
  exact g_iret hc dX10_step_9

abbrev rm_X10_run : Room := { frames := 11, cells := 0, slots := 0, locals := 252 }
def lp_X10_run_22 : Nat → Int32 → Int32 → Int32 → gSt → Int32 × gSt
  | 0, _, _, _, S => (0, S)
  | n + 1, x1, x2, x3, S => (if x1 ≤ x3 then (x2, S) else gB (sp_X10_oneStep S) (fun r2 S2 => lp_X10_run_22 n x1 (x2 + r2) (x3 + 1) S2))
def ok_lp_X10_run_22 : Nat → Int32 → Int32 → Int32 → gSt → Prop
  | 0, _, _, _, _ => True
  | n + 1, x1, x2, x3, S => ((x1 ≤ x3 → True) ∧ (¬ x1 ≤ x3 → (ok_X10_oneStep S ∧ ∀ (r2 : Int32) (S2 : gSt), r2 = (sp_X10_oneStep S).1 → S2 = (sp_X10_oneStep S).2 → ok_lp_X10_run_22 n x1 (x2 + r2) (x3 + 1) S2)))
def sp_X10_run (a0 : Int32) (S : gSt) : Int32 × gSt := gL (sI S 0 0) (fun S1 => (if a0 < 0 then ((-1), S1) else (if a0 ≤ 200 then lp_X10_run_22 (a0.toNatClampNeg + 1) a0 0 0 S1 else ((-1), S1))))
def ok_X10_run (a0 : Int32) (S : gSt) : Prop := ∀ S1 : gSt, S1 = sI S 0 0 → ((a0 < 0 → True) ∧ (¬ a0 < 0 → ((a0 ≤ 200 → ok_lp_X10_run_22 (a0.toNatClampNeg + 1) a0 0 0 S1) ∧ (¬ a0 ≤ 200 → True))))
set_option maxRecDepth 100000 in
set_option maxHeartbeats 4000000 in
theorem g_lp_X10_run_22 {η : gE} {κ : gK} (hc : gC (oM η) κ cX10_run 4 RX10 (some .int) rm_X10_run) : ∀ (n : Nat) (x1 : Int32) (x2 : Int32) (x3 : Int32) (S : gSt), gJ x1 x3 n → ok_lp_X10_run_22 n x1 x2 x3 S → gG (oM η) κ 4 oI 22 [(0, .ref (η.1 0)), (1, .int x1), (2, .int x2), (3, .int x3)] [] S (lp_X10_run_22 n x1 x2 x3 S) := by
  intro n
  induction n with
  | zero => exact fun _ _ _ _ h _ => gJ_0 h
  | succ n ih =>
    intro x1 x2 x3 S hJ ho
    rw [lp_X10_run_22]
    rw [ok_lp_X10_run_22] at ho
    refine g_iload_n (i := 3) hc 3 dX10_run_22 rfl rfl ?_
    refine g_iload_n (i := 1) hc 1 dX10_run_23 rfl rfl ?_
    refine g_icmpge (tgt := 40) hc dX10_run_24 rfl (fun c_24 => ?_) (fun c_24 => ?_)
    · have ho := ho.1 c_24
      refine g_iload_n (i := 2) hc 2 dX10_run_40 rfl rfl ?_
      exact g_iret hc dX10_run_41
    · have ho := ho.2 c_24
      refine g_iload_n (i := 2) hc 2 dX10_run_27 rfl rfl ?_
      refine g_aload_n (i := 0) hc 0 dX10_run_28 rfl rfl ?_
      refine g_callVI hc 0 [] (fun l => c_X10_oneStep l η S ho.1) wtM_272 ge_X10_oneStep rfl ⟨rfl, rfl⟩ ⟨Nat.le_of_ble_eq_true rfl, Nat.le_of_ble_eq_true rfl⟩ rfl rfl rfl (Nat.le_of_ble_eq_true rfl) dX10_run_29 (fun r2 S2 e2 f2 => ?_)
      have ho := ho.2 r2 S2 e2 f2
      refine g_iadd hc dX10_run_32 ?_
      refine g_istore_n (i := 2) (lv' := [(2, .int (x2 + r2)), (0, .ref (η.1 0)), (1, .int x1), (3, .int x3)]) hc dX10_run_33 rfl (by decide) rfl ?_
      refine g_iinc (i := 3) (v := 1) (lv' := [(3, .int (x3 + 1)), (2, .int (x2 + r2)), (0, .ref (η.1 0)), (1, .int x1)]) hc 3 dX10_run_34 rfl (by decide) (by decide) rfl ?_
      refine g_goto (tgt := 22) hc dX10_run_37 rfl ?_
      exact g_lv [2, 3, 1, 0] rfl (ih _ _ _ _ (gJ_s hJ c_24) ho)
set_option maxRecDepth 100000 in
set_option maxHeartbeats 4000000 in
theorem c_X10_run (l : Launch) (η : gE) (a0 : Int32) (S : gSt) (ho : ok_X10_run a0 S) : gMet l yX10_run cX10_run 4 (some .int) rm_X10_run (oM η) [.ref (η.1 0), .int a0] S (oI (sp_X10_run a0 S).1) (sp_X10_run a0 S).2 := by
  refine gMet_of (X := sp_X10_run a0 S) (lv := [(0, .ref (η.1 0)), (1, .int a0)]) oI zM_ok (by decide +kernel) (Nat.le_of_ble_eq_true rfl) rfl (fun κ hc => ?_)
  have hc : gC (oM η) κ cX10_run 4 RX10 (some .int) rm_X10_run := hc
  unfold sp_X10_run
  unfold ok_X10_run at ho
  refine g_aload_n (i := 0) hc 0 dX10_run_0 rfl rfl ?_
  refine g_iconst (v := 0) hc dX10_run_1 (by decide) ?_
  refine pf_M_0_code (v := 0) hc wtM_0 dX10_run_2 (fun S1 f1 => ?_)
  have ho := ho S1 f1
  refine g_iload_n (i := 1) hc 1 dX10_run_5 rfl rfl ?_
  refine g_iflt (tgt := 16) hc dX10_run_6 rfl (fun c_6 => ?_) (fun c_6 => ?_)
  · have ho := ho.1 c_6
    refine g_iconst (v := (-1)) hc dX10_run_16 (by decide) ?_
    exact g_iret hc dX10_run_17
  · have ho := ho.2 c_6
    refine g_iload_n (i := 1) hc 1 dX10_run_9 rfl rfl ?_
    refine g_sipush (v := 200) hc dX10_run_10 (by decide) ?_
    refine g_icmple (tgt := 18) hc dX10_run_13 rfl (fun c_13 => ?_) (fun c_13 => ?_)
    · have ho := ho.1 c_13
      refine g_iconst (v := 0) hc dX10_run_18 (by decide) ?_
      refine g_istore_n (i := 2) (lv' := [(2, .int 0), (0, .ref (η.1 0)), (1, .int a0)]) hc dX10_run_19 rfl (by decide) rfl ?_
      refine g_iconst (v := 0) hc dX10_run_20 (by decide) ?_
      refine g_istore_n (i := 3) (lv' := [(3, .int 0), (2, .int 0), (0, .ref (η.1 0)), (1, .int a0)]) hc dX10_run_21 rfl (by decide) rfl ?_
      exact g_lv [2, 3, 1, 0] rfl (g_lp_X10_run_22 hc (a0.toNatClampNeg + 1) _ _ _ _ (gJ_v _) ho)
    · have ho := ho.2 c_13
      refine g_iconst (v := (-1)) hc dX10_run_16 (by decide) ?_
      exact g_iret hc dX10_run_17
