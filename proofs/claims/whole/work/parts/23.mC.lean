abbrev rm_X10_addressed : Room := { frames := 6, cells := 0, slots := 0, locals := 131 }
def sp_X10_addressed (a0 : Int32) (S : gSt) : Int32 × gSt := (if a0 = 1 then gL (sI S 6 (((S.1 6) + 1) &&& 65535)) (fun S1 => ((((S1.1 6) + 65535) &&& 65535), S1)) else (if a0 = 2 then gB (sp_X10_fetch S) (fun r2 S2 => (r2, S2)) else (if a0 = 3 then gB (sp_X10_fetch S) (fun r3 S3 => (((r3 + (S3.1 2)) &&& 255), S3)) else (if a0 = 4 then gB (sp_X10_fetch S) (fun r4 S4 => (((r4 + (S4.1 3)) &&& 255), S4)) else (if a0 = 5 then gB (sp_X10_fetchWord S) (fun r5 S5 => (r5, S5)) else (if a0 = 6 then gB (sp_X10_fetchWord S) (fun r6 S6 => gB (sp_X10_indexed r6 (S6.1 2) S6) (fun r7 S7 => (r7, S7))) else (if a0 = 7 then gB (sp_X10_fetchWord S) (fun r8 S8 => gB (sp_X10_indexed r8 (S8.1 3) S8) (fun r9 S9 => (r9, S9))) else (if a0 = 8 then gB (sp_X10_fetch S) (fun r10 S10 => gB (sp_X10_pointed ((r10 + (S10.1 2)) &&& 255) S10) (fun r11 S11 => (r11, S11))) else gB (sp_X10_fetch S) (fun r12 S12 => gB (sp_X10_pointed r12 S12) (fun r13 S13 => gB (sp_X10_indexed r13 (S13.1 3) S13) (fun r14 S14 => (r14, S14))))))))))))
def ok_X10_addressed (a0 : Int32) (S : gSt) : Prop := ((a0 = 1 → ∀ S1 : gSt, S1 = sI S 6 (((S.1 6) + 1) &&& 65535) → True) ∧ (¬ a0 = 1 → ((a0 = 2 → (ok_X10_fetch S ∧ ∀ (r2 : Int32) (S2 : gSt), r2 = (sp_X10_fetch S).1 → S2 = (sp_X10_fetch S).2 → True)) ∧ (¬ a0 = 2 → ((a0 = 3 → (ok_X10_fetch S ∧ ∀ (r3 : Int32) (S3 : gSt), r3 = (sp_X10_fetch S).1 → S3 = (sp_X10_fetch S).2 → True)) ∧ (¬ a0 = 3 → ((a0 = 4 → (ok_X10_fetch S ∧ ∀ (r4 : Int32) (S4 : gSt), r4 = (sp_X10_fetch S).1 → S4 = (sp_X10_fetch S).2 → True)) ∧ (¬ a0 = 4 → ((a0 = 5 → (ok_X10_fetchWord S ∧ ∀ (r5 : Int32) (S5 : gSt), r5 = (sp_X10_fetchWord S).1 → S5 = (sp_X10_fetchWord S).2 → True)) ∧ (¬ a0 = 5 → ((a0 = 6 → (ok_X10_fetchWord S ∧ ∀ (r6 : Int32) (S6 : gSt), r6 = (sp_X10_fetchWord S).1 → S6 = (sp_X10_fetchWord S).2 → (ok_X10_indexed r6 (S6.1 2) S6 ∧ ∀ (r7 : Int32) (S7 : gSt), r7 = (sp_X10_indexed r6 (S6.1 2) S6).1 → S7 = (sp_X10_indexed r6 (S6.1 2) S6).2 → True))) ∧ (¬ a0 = 6 → ((a0 = 7 → (ok_X10_fetchWord S ∧ ∀ (r8 : Int32) (S8 : gSt), r8 = (sp_X10_fetchWord S).1 → S8 = (sp_X10_fetchWord S).2 → (ok_X10_indexed r8 (S8.1 3) S8 ∧ ∀ (r9 : Int32) (S9 : gSt), r9 = (sp_X10_indexed r8 (S8.1 3) S8).1 → S9 = (sp_X10_indexed r8 (S8.1 3) S8).2 → True))) ∧ (¬ a0 = 7 → ((a0 = 8 → (ok_X10_fetch S ∧ ∀ (r10 : Int32) (S10 : gSt), r10 = (sp_X10_fetch S).1 → S10 = (sp_X10_fetch S).2 → (ok_X10_pointed ((r10 + (S10.1 2)) &&& 255) S10 ∧ ∀ (r11 : Int32) (S11 : gSt), r11 = (sp_X10_pointed ((r10 + (S10.1 2)) &&& 255) S10).1 → S11 = (sp_X10_pointed ((r10 + (S10.1 2)) &&& 255) S10).2 → True))) ∧ (¬ a0 = 8 → (ok_X10_fetch S ∧ ∀ (r12 : Int32) (S12 : gSt), r12 = (sp_X10_fetch S).1 → S12 = (sp_X10_fetch S).2 → (ok_X10_pointed r12 S12 ∧ ∀ (r13 : Int32) (S13 : gSt), r13 = (sp_X10_pointed r12 S12).1 → S13 = (sp_X10_pointed r12 S12).2 → (ok_X10_indexed r13 (S13.1 3) S13 ∧ ∀ (r14 : Int32) (S14 : gSt), r14 = (sp_X10_indexed r13 (S13.1 3) S13).1 → S14 = (sp_X10_indexed r13 (S13.1 3) S13).2 → True)))))))))))))))))))
set_option maxRecDepth 100000 in
set_option maxHeartbeats 4000000 in
theorem c_X10_addressed (l : Launch) (η : gE) (a0 : Int32) (S : gSt) (ho : ok_X10_addressed a0 S) : gMet l yX10_addressed cX10_addressed 2 (some .int) rm_X10_addressed (oM η) [.ref (η.1 0), .int a0] S (oI (sp_X10_addressed a0 S).1) (sp_X10_addressed a0 S).2 := by
  refine gMet_of (X := sp_X10_addressed a0 S) (lv := [(0, .ref (η.1 0)), (1, .int a0)]) oI zM_ok (by decide +kernel) (Nat.le_of_ble_eq_true rfl) rfl (fun κ hc => ?_)
  have hc : gC (oM η) κ cX10_addressed 2 RX10 (some .int) rm_X10_addressed := hc
  unfold sp_X10_addressed
  unfold ok_X10_addressed at ho
  refine g_iload_n (i := 1) hc 1 dX10_addressed_0 rfl rfl ?_
  refine g_tsw (tgt := 48) hc 1 dX10_addressed_1 ⟨by decide, by decide, rfl⟩ rfl (fun c_1_1 => ?_) (fun c_1_1 => ?_)
  · have ho := ho.1 c_1_1
    refine g_aload_n (i := 0) hc 0 dX10_addressed_48 rfl rfl ?_
    refine g_aload_n (i := 0) hc 0 dX10_addressed_49 rfl rfl ?_
    refine gf_M_0_pc hc wtM_124 dX10_addressed_50 ?_
    refine g_iconst (v := 1) hc dX10_addressed_53 (by decide) ?_
    refine g_iadd hc dX10_addressed_54 ?_
    refine g_ldc (v := 65535) hc wtM_112 dX10_addressed_55 ?_
    refine g_iand hc dX10_addressed_57 ?_
    refine pf_M_0_pc (v := (((S.1 6) + 1) &&& 65535)) hc wtM_124 dX10_addressed_58 (fun S1 f1 => ?_)
    have ho := ho S1 f1
    refine g_aload_n (i := 0) hc 0 dX10_addressed_61 rfl rfl ?_
    refine gf_M_0_pc hc wtM_124 dX10_addressed_62 ?_
    refine g_ldc (v := 65535) hc wtM_112 dX10_addressed_65 ?_
    refine g_iadd hc dX10_addressed_67 ?_
    refine g_ldc (v := 65535) hc wtM_112 dX10_addressed_68 ?_
    refine g_iand hc dX10_addressed_70 ?_
    exact g_iret hc dX10_addressed_71
  have ho := ho.2 c_1_1
  refine g_tsw (tgt := 72) hc 2 dX10_addressed_1 ⟨by decide, by decide, rfl⟩ rfl (fun c_1_2 => ?_) (fun c_1_2 => ?_)
  · have ho := ho.1 c_1_2
    refine g_aload_n (i := 0) hc 0 dX10_addressed_72 rfl rfl ?_
    refine g_callVI hc 0 [] (fun l => c_X10_fetch l η S ho.1) wtM_128 ge_X10_fetch rfl ⟨rfl, rfl⟩ ⟨Nat.le_of_ble_eq_true rfl, Nat.le_of_ble_eq_true rfl⟩ rfl rfl rfl (Nat.le_of_ble_eq_true rfl) dX10_addressed_73 (fun r2 S2 e2 f2 => ?_)
    have ho := ho.2 r2 S2 e2 f2
    exact g_iret hc dX10_addressed_76
  have ho := ho.2 c_1_2
  refine g_tsw (tgt := 77) hc 3 dX10_addressed_1 ⟨by decide, by decide, rfl⟩ rfl (fun c_1_3 => ?_) (fun c_1_3 => ?_)
  · have ho := ho.1 c_1_3
    refine g_aload_n (i := 0) hc 0 dX10_addressed_77 rfl rfl ?_
    refine g_callVI hc 0 [] (fun l => c_X10_fetch l η S ho.1) wtM_128 ge_X10_fetch rfl ⟨rfl, rfl⟩ ⟨Nat.le_of_ble_eq_true rfl, Nat.le_of_ble_eq_true rfl⟩ rfl rfl rfl (Nat.le_of_ble_eq_true rfl) dX10_addressed_78 (fun r3 S3 e3 f3 => ?_)
    have ho := ho.2 r3 S3 e3 f3
    refine g_aload_n (i := 0) hc 0 dX10_addressed_81 rfl rfl ?_
    refine gf_M_0_x hc wtM_152 dX10_addressed_82 ?_
    refine g_iadd hc dX10_addressed_85 ?_
    refine g_sipush (v := 255) hc dX10_addressed_86 (by decide) ?_
    refine g_iand hc dX10_addressed_89 ?_
    exact g_iret hc dX10_addressed_90
  have ho := ho.2 c_1_3
  refine g_tsw (tgt := 91) hc 4 dX10_addressed_1 ⟨by decide, by decide, rfl⟩ rfl (fun c_1_4 => ?_) (fun c_1_4 => ?_)
  · have ho := ho.1 c_1_4
    refine g_aload_n (i := 0) hc 0 dX10_addressed_91 rfl rfl ?_
    refine g_callVI hc 0 [] (fun l => c_X10_fetch l η S ho.1) wtM_128 ge_X10_fetch rfl ⟨rfl, rfl⟩ ⟨Nat.le_of_ble_eq_true rfl, Nat.le_of_ble_eq_true rfl⟩ rfl rfl rfl (Nat.le_of_ble_eq_true rfl) dX10_addressed_92 (fun r4 S4 e4 f4 => ?_)
    have ho := ho.2 r4 S4 e4 f4
    refine g_aload_n (i := 0) hc 0 dX10_addressed_95 rfl rfl ?_
    refine gf_M_0_y hc wtM_153 dX10_addressed_96 ?_
    refine g_iadd hc dX10_addressed_99 ?_
    refine g_sipush (v := 255) hc dX10_addressed_100 (by decide) ?_
    refine g_iand hc dX10_addressed_103 ?_
    exact g_iret hc dX10_addressed_104
  have ho := ho.2 c_1_4
  refine g_tsw (tgt := 105) hc 5 dX10_addressed_1 ⟨by decide, by decide, rfl⟩ rfl (fun c_1_5 => ?_) (fun c_1_5 => ?_)
  · have ho := ho.1 c_1_5
    refine g_aload_n (i := 0) hc 0 dX10_addressed_105 rfl rfl ?_
    refine g_callVI hc 0 [] (fun l => c_X10_fetchWord l η S ho.1) wtM_157 ge_X10_fetchWord rfl ⟨rfl, rfl⟩ ⟨Nat.le_of_ble_eq_true rfl, Nat.le_of_ble_eq_true rfl⟩ rfl rfl rfl (Nat.le_of_ble_eq_true rfl) dX10_addressed_106 (fun r5 S5 e5 f5 => ?_)
    have ho := ho.2 r5 S5 e5 f5
    exact g_iret hc dX10_addressed_109
  have ho := ho.2 c_1_5
  refine g_tsw (tgt := 110) hc 6 dX10_addressed_1 ⟨by decide, by decide, rfl⟩ rfl (fun c_1_6 => ?_) (fun c_1_6 => ?_)
  · have ho := ho.1 c_1_6
    refine g_aload_n (i := 0) hc 0 dX10_addressed_110 rfl rfl ?_
    refine g_aload_n (i := 0) hc 0 dX10_addressed_111 rfl rfl ?_
    refine g_callVI hc 0 [] (fun l => c_X10_fetchWord l η S ho.1) wtM_157 ge_X10_fetchWord rfl ⟨rfl, rfl⟩ ⟨Nat.le_of_ble_eq_true rfl, Nat.le_of_ble_eq_true rfl⟩ rfl rfl rfl (Nat.le_of_ble_eq_true rfl) dX10_addressed_112 (fun r6 S6 e6 f6 => ?_)
    have ho := ho.2 r6 S6 e6 f6
    refine g_aload_n (i := 0) hc 0 dX10_addressed_115 rfl rfl ?_
    refine gf_M_0_x hc wtM_152 dX10_addressed_116 ?_
    refine g_callVI hc 0 [.int r6, .int (S6.1 2)] (fun l => c_X10_indexed l η r6 (S6.1 2) S6 ho.1) wtM_161 ge_X10_indexed rfl ⟨rfl, rfl⟩ ⟨Nat.le_of_ble_eq_true rfl, Nat.le_of_ble_eq_true rfl⟩ rfl rfl rfl (Nat.le_of_ble_eq_true rfl) dX10_addressed_119 (fun r7 S7 e7 f7 => ?_)
    have ho := ho.2 r7 S7 e7 f7
    exact g_iret hc dX10_addressed_122
  have ho := ho.2 c_1_6
  refine g_tsw (tgt := 123) hc 7 dX10_addressed_1 ⟨by decide, by decide, rfl⟩ rfl (fun c_1_7 => ?_) (fun c_1_7 => ?_)
  · have ho := ho.1 c_1_7
    refine g_aload_n (i := 0) hc 0 dX10_addressed_123 rfl rfl ?_
    refine g_aload_n (i := 0) hc 0 dX10_addressed_124 rfl rfl ?_
    refine g_callVI hc 0 [] (fun l => c_X10_fetchWord l η S ho.1) wtM_157 ge_X10_fetchWord rfl ⟨rfl, rfl⟩ ⟨Nat.le_of_ble_eq_true rfl, Nat.le_of_ble_eq_true rfl⟩ rfl rfl rfl (Nat.le_of_ble_eq_true rfl) dX10_addressed_125 (fun r8 S8 e8 f8 => ?_)
    have ho := ho.2 r8 S8 e8 f8
    refine g_aload_n (i := 0) hc 0 dX10_addressed_128 rfl rfl ?_
    refine gf_M_0_y hc wtM_153 dX10_addressed_129 ?_
    refine g_callVI hc 0 [.int r8, .int (S8.1 3)] (fun l => c_X10_indexed l η r8 (S8.1 3) S8 ho.1) wtM_161 ge_X10_indexed rfl ⟨rfl, rfl⟩ ⟨Nat.le_of_ble_eq_true rfl, Nat.le_of_ble_eq_true rfl⟩ rfl rfl rfl (Nat.le_of_ble_eq_true rfl) dX10_addressed_132 (fun r9 S9 e9 f9 => ?_)
    have ho := ho.2 r9 S9 e9 f9
    exact g_iret hc dX10_addressed_135
  have ho := ho.2 c_1_7
  refine g_tsw (tgt := 136) hc 8 dX10_addressed_1 ⟨by decide, by decide, rfl⟩ rfl (fun c_1_8 => ?_) (fun c_1_8 => ?_)
  · have ho := ho.1 c_1_8
    refine g_aload_n (i := 0) hc 0 dX10_addressed_136 rfl rfl ?_
    refine g_aload_n (i := 0) hc 0 dX10_addressed_137 rfl rfl ?_
    refine g_callVI hc 0 [] (fun l => c_X10_fetch l η S ho.1) wtM_128 ge_X10_fetch rfl ⟨rfl, rfl⟩ ⟨Nat.le_of_ble_eq_true rfl, Nat.le_of_ble_eq_true rfl⟩ rfl rfl rfl (Nat.le_of_ble_eq_true rfl) dX10_addressed_138 (fun r10 S10 e10 f10 => ?_)
    have ho := ho.2 r10 S10 e10 f10
    refine g_aload_n (i := 0) hc 0 dX10_addressed_141 rfl rfl ?_
    refine gf_M_0_x hc wtM_152 dX10_addressed_142 ?_
    refine g_iadd hc dX10_addressed_145 ?_
    refine g_sipush (v := 255) hc dX10_addressed_146 (by decide) ?_
    refine g_iand hc dX10_addressed_149 ?_
    refine g_callVI hc 0 [.int ((r10 + (S10.1 2)) &&& 255)] (fun l => c_X10_pointed l η ((r10 + (S10.1 2)) &&& 255) S10 ho.1) wtM_165 ge_X10_pointed rfl ⟨rfl, rfl⟩ ⟨Nat.le_of_ble_eq_true rfl, Nat.le_of_ble_eq_true rfl⟩ rfl rfl rfl (Nat.le_of_ble_eq_true rfl) dX10_addressed_150 (fun r11 S11 e11 f11 => ?_)
    have ho := ho.2 r11 S11 e11 f11
    exact g_iret hc dX10_addressed_153
  have ho := ho.2 c_1_8
  refine g_tswd (tgt := 154) hc dX10_addressed_1 (by have := lv_neT c_1_1 (a := 1) (by decide); have := lv_neT c_1_2 (a := 2) (by decide); have := lv_neT c_1_3 (a := 3) (by decide); have := lv_neT c_1_4 (a := 4) (by decide); have := lv_neT c_1_5 (a := 5) (by decide); have := lv_neT c_1_6 (a := 6) (by decide); have := lv_neT c_1_7 (a := 7) (by decide); have := lv_neT c_1_8 (a := 8) (by decide); omega) rfl ?_
  refine g_aload_n (i := 0) hc 0 dX10_addressed_154 rfl rfl ?_
  refine g_aload_n (i := 0) hc 0 dX10_addressed_155 rfl rfl ?_
  refine g_aload_n (i := 0) hc 0 dX10_addressed_156 rfl rfl ?_
  refine g_callVI hc 0 [] (fun l => c_X10_fetch l η S ho.1) wtM_128 ge_X10_fetch rfl ⟨rfl, rfl⟩ ⟨Nat.le_of_ble_eq_true rfl, Nat.le_of_ble_eq_true rfl⟩ rfl rfl rfl (Nat.le_of_ble_eq_true rfl) dX10_addressed_157 (fun r12 S12 e12 f12 => ?_)
  have ho := ho.2 r12 S12 e12 f12
  refine g_callVI hc 0 [.int r12] (fun l => c_X10_pointed l η r12 S12 ho.1) wtM_165 ge_X10_pointed rfl ⟨rfl, rfl⟩ ⟨Nat.le_of_ble_eq_true rfl, Nat.le_of_ble_eq_true rfl⟩ rfl rfl rfl (Nat.le_of_ble_eq_true rfl) dX10_addressed_160 (fun r13 S13 e13 f13 => ?_)
  have ho := ho.2 r13 S13 e13 f13
  refine g_aload_n (i := 0) hc 0 dX10_addressed_163 rfl rfl ?_
  refine gf_M_0_y hc wtM_153 dX10_addressed_164 ?_
  refine g_callVI hc 0 [.int r13, .int (S13.1 3)] (fun l => c_X10_indexed l η r13 (S13.1 3) S13 ho.1) wtM_161 ge_X10_indexed rfl ⟨rfl, rfl⟩ ⟨Nat.le_of_ble_eq_true rfl, Nat.le_of_ble_eq_true rfl⟩ rfl rfl rfl (Nat.le_of_ble_eq_true rfl) dX10_addressed_167 (fun r14 S14 e14 f14 => ?_)
  have ho := ho.2 r14 S14 e14 f14
  exact g_iret hc dX10_addressed_170

abbrev rm_X10_cyclesOf : Room := { frames := 0, cells := 0, slots := 0, locals := 0 }
def sp_X10_cyclesOf (a0 : Int32) (S : gSt) : Int32 × gSt := (if a0 = 1 then (2, S) else (if a0 = 2 then (3, S) else (if a0 = 3 then (4, S) else (if a0 = 4 then (4, S) else (if a0 = 5 then (4, S) else (if a0 = 6 then (4, S) else (if a0 = 7 then (4, S) else (if a0 = 8 then (6, S) else (if a0 = 9 then (5, S) else (4, S))))))))))
def ok_X10_cyclesOf (a0 : Int32) (S : gSt) : Prop := ((a0 = 1 → True) ∧ (¬ a0 = 1 → ((a0 = 2 → True) ∧ (¬ a0 = 2 → ((a0 = 3 → True) ∧ (¬ a0 = 3 → ((a0 = 4 → True) ∧ (¬ a0 = 4 → ((a0 = 5 → True) ∧ (¬ a0 = 5 → ((a0 = 6 → True) ∧ (¬ a0 = 6 → ((a0 = 7 → True) ∧ (¬ a0 = 7 → ((a0 = 8 → True) ∧ (¬ a0 = 8 → ((a0 = 9 → True) ∧ (¬ a0 = 9 → True))))))))))))))))))
set_option maxRecDepth 100000 in
set_option maxHeartbeats 4000000 in
theorem c_X10_cyclesOf (l : Launch) (η : gE) (a0 : Int32) (S : gSt) (ho : ok_X10_cyclesOf a0 S) : gMet l yX10_cyclesOf cX10_cyclesOf 1 (some .int) rm_X10_cyclesOf (oM η) [.int a0] S (oI (sp_X10_cyclesOf a0 S).1) (sp_X10_cyclesOf a0 S).2 := by
  refine gMet_of (X := sp_X10_cyclesOf a0 S) (lv := [(0, .int a0)]) oI zM_ok (by decide +kernel) (Nat.le_of_ble_eq_true rfl) rfl (fun κ hc => ?_)
  have hc : gC (oM η) κ cX10_cyclesOf 1 RX10 (some .int) rm_X10_cyclesOf := hc
  unfold sp_X10_cyclesOf
  unfold ok_X10_cyclesOf at ho
  refine g_iload_n (i := 0) hc 0 dX10_cyclesOf_0 rfl rfl ?_
  refine g_tsw (tgt := 52) hc 1 dX10_cyclesOf_1 ⟨by decide, by decide, rfl⟩ rfl (fun c_1_1 => ?_) (fun c_1_1 => ?_)
  · have ho := ho.1 c_1_1
    refine g_iconst (v := 2) hc dX10_cyclesOf_52 (by decide) ?_
    exact g_iret hc dX10_cyclesOf_53
  have ho := ho.2 c_1_1
  refine g_tsw (tgt := 54) hc 2 dX10_cyclesOf_1 ⟨by decide, by decide, rfl⟩ rfl (fun c_1_2 => ?_) (fun c_1_2 => ?_)
  · have ho := ho.1 c_1_2
    refine g_iconst (v := 3) hc dX10_cyclesOf_54 (by decide) ?_
    exact g_iret hc dX10_cyclesOf_55
  have ho := ho.2 c_1_2
  refine g_tsw (tgt := 61) hc 3 dX10_cyclesOf_1 ⟨by decide, by decide, rfl⟩ rfl (fun c_1_3 => ?_) (fun c_1_3 => ?_)
  · have ho := ho.1 c_1_3
    refine g_iconst (v := 4) hc dX10_cyclesOf_61 (by decide) ?_
    exact g_iret hc dX10_cyclesOf_62
  have ho := ho.2 c_1_3
  refine g_tsw (tgt := 61) hc 4 dX10_cyclesOf_1 ⟨by decide, by decide, rfl⟩ rfl (fun c_1_4 => ?_) (fun c_1_4 => ?_)
  · have ho := ho.1 c_1_4
    refine g_iconst (v := 4) hc dX10_cyclesOf_61 (by decide) ?_
    exact g_iret hc dX10_cyclesOf_62
  have ho := ho.2 c_1_4
  refine g_tsw (tgt := 61) hc 5 dX10_cyclesOf_1 ⟨by decide, by decide, rfl⟩ rfl (fun c_1_5 => ?_) (fun c_1_5 => ?_)
  · have ho := ho.1 c_1_5
    refine g_iconst (v := 4) hc dX10_cyclesOf_61 (by decide) ?_
    exact g_iret hc dX10_cyclesOf_62
  have ho := ho.2 c_1_5
  refine g_tsw (tgt := 61) hc 6 dX10_cyclesOf_1 ⟨by decide, by decide, rfl⟩ rfl (fun c_1_6 => ?_) (fun c_1_6 => ?_)
  · have ho := ho.1 c_1_6
    refine g_iconst (v := 4) hc dX10_cyclesOf_61 (by decide) ?_
    exact g_iret hc dX10_cyclesOf_62
  have ho := ho.2 c_1_6
  refine g_tsw (tgt := 61) hc 7 dX10_cyclesOf_1 ⟨by decide, by decide, rfl⟩ rfl (fun c_1_7 => ?_) (fun c_1_7 => ?_)
  · have ho := ho.1 c_1_7
    refine g_iconst (v := 4) hc dX10_cyclesOf_61 (by decide) ?_
    exact g_iret hc dX10_cyclesOf_62
  have ho := ho.2 c_1_7
  refine g_tsw (tgt := 56) hc 8 dX10_cyclesOf_1 ⟨by decide, by decide, rfl⟩ rfl (fun c_1_8 => ?_) (fun c_1_8 => ?_)
  · have ho := ho.1 c_1_8
    refine g_bipush (v := 6) hc dX10_cyclesOf_56 (by decide) ?_
    exact g_iret hc dX10_cyclesOf_58
  have ho := ho.2 c_1_8
  refine g_tsw (tgt := 59) hc 9 dX10_cyclesOf_1 ⟨by decide, by decide, rfl⟩ rfl (fun c_1_9 => ?_) (fun c_1_9 => ?_)
  · have ho := ho.1 c_1_9
    refine g_iconst (v := 5) hc dX10_cyclesOf_59 (by decide) ?_
    exact g_iret hc dX10_cyclesOf_60
  have ho := ho.2 c_1_9
  refine g_tswd (tgt := 61) hc dX10_cyclesOf_1 (by have := lv_neT c_1_1 (a := 1) (by decide); have := lv_neT c_1_2 (a := 2) (by decide); have := lv_neT c_1_3 (a := 3) (by decide); have := lv_neT c_1_4 (a := 4) (by decide); have := lv_neT c_1_5 (a := 5) (by decide); have := lv_neT c_1_6 (a := 6) (by decide); have := lv_neT c_1_7 (a := 7) (by decide); have := lv_neT c_1_8 (a := 8) (by decide); have := lv_neT c_1_9 (a := 9) (by decide); omega) rfl ?_
  refine g_iconst (v := 4) hc dX10_cyclesOf_61 (by decide) ?_
  exact g_iret hc dX10_cyclesOf_62

abbrev rm_X10_modeOne : Room := { frames := 0, cells := 0, slots := 0, locals := 0 }
def sp_X10_modeOne (a0 : Int32) (S : gSt) : Int32 × gSt := (if a0 = 0 then (8, S) else (if a0 = 1 then (2, S) else (if a0 = 2 then (1, S) else (if a0 = 3 then (5, S) else (if a0 = 4 then (9, S) else (if a0 = 5 then (3, S) else (if a0 = 6 then (7, S) else (6, S))))))))
def ok_X10_modeOne (a0 : Int32) (S : gSt) : Prop := ((a0 = 0 → True) ∧ (¬ a0 = 0 → ((a0 = 1 → True) ∧ (¬ a0 = 1 → ((a0 = 2 → True) ∧ (¬ a0 = 2 → ((a0 = 3 → True) ∧ (¬ a0 = 3 → ((a0 = 4 → True) ∧ (¬ a0 = 4 → ((a0 = 5 → True) ∧ (¬ a0 = 5 → ((a0 = 6 → True) ∧ (¬ a0 = 6 → True))))))))))))))
set_option maxRecDepth 100000 in
set_option maxHeartbeats 4000000 in
theorem c_X10_modeOne (l : Launch) (η : gE) (a0 : Int32) (S : gSt) (ho : ok_X10_modeOne a0 S) : gMet l yX10_modeOne cX10_modeOne 2 (some .int) rm_X10_modeOne (oM η) [.ref (η.1 0), .int a0] S (oI (sp_X10_modeOne a0 S).1) (sp_X10_modeOne a0 S).2 := by
  refine gMet_of (X := sp_X10_modeOne a0 S) (lv := [(0, .ref (η.1 0)), (1, .int a0)]) oI zM_ok (by decide +kernel) (Nat.le_of_ble_eq_true rfl) rfl (fun κ hc => ?_)
  have hc : gC (oM η) κ cX10_modeOne 2 RX10 (some .int) rm_X10_modeOne := hc
  unfold sp_X10_modeOne
  unfold ok_X10_modeOne at ho
  refine g_iload_n (i := 1) hc 1 dX10_modeOne_0 rfl rfl ?_
  refine g_ifne (tgt := 9) hc dX10_modeOne_1 rfl (fun c_1 => ?_) (fun c_1 => ?_)
  · have ho := ho.1 c_1
    refine g_bipush (v := 8) hc dX10_modeOne_4 (by decide) ?_
    refine g_goto (tgt := 68) hc dX10_modeOne_6 rfl ?_
    exact g_iret hc dX10_modeOne_68
  · have ho := ho.2 c_1
    refine g_iload_n (i := 1) hc 1 dX10_modeOne_9 rfl rfl ?_
    refine g_iconst (v := 1) hc dX10_modeOne_10 (by decide) ?_
    refine g_icmpne (tgt := 18) hc dX10_modeOne_11 rfl (fun c_11 => ?_) (fun c_11 => ?_)
    · have ho := ho.1 c_11
      refine g_iconst (v := 2) hc dX10_modeOne_14 (by decide) ?_
      refine g_goto (tgt := 68) hc dX10_modeOne_15 rfl ?_
      exact g_iret hc dX10_modeOne_68
    · have ho := ho.2 c_11
      refine g_iload_n (i := 1) hc 1 dX10_modeOne_18 rfl rfl ?_
      refine g_iconst (v := 2) hc dX10_modeOne_19 (by decide) ?_
      refine g_icmpne (tgt := 27) hc dX10_modeOne_20 rfl (fun c_20 => ?_) (fun c_20 => ?_)
      · have ho := ho.1 c_20
        refine g_iconst (v := 1) hc dX10_modeOne_23 (by decide) ?_
        refine g_goto (tgt := 68) hc dX10_modeOne_24 rfl ?_
        exact g_iret hc dX10_modeOne_68
      · have ho := ho.2 c_20
        refine g_iload_n (i := 1) hc 1 dX10_modeOne_27 rfl rfl ?_
        refine g_iconst (v := 3) hc dX10_modeOne_28 (by decide) ?_
        refine g_icmpne (tgt := 36) hc dX10_modeOne_29 rfl (fun c_29 => ?_) (fun c_29 => ?_)
        · have ho := ho.1 c_29
          refine g_iconst (v := 5) hc dX10_modeOne_32 (by decide) ?_
          refine g_goto (tgt := 68) hc dX10_modeOne_33 rfl ?_
          exact g_iret hc dX10_modeOne_68
        · have ho := ho.2 c_29
          refine g_iload_n (i := 1) hc 1 dX10_modeOne_36 rfl rfl ?_
          refine g_iconst (v := 4) hc dX10_modeOne_37 (by decide) ?_
          refine g_icmpne (tgt := 46) hc dX10_modeOne_38 rfl (fun c_38 => ?_) (fun c_38 => ?_)
          · have ho := ho.1 c_38
            refine g_bipush (v := 9) hc dX10_modeOne_41 (by decide) ?_
            refine g_goto (tgt := 68) hc dX10_modeOne_43 rfl ?_
            exact g_iret hc dX10_modeOne_68
          · have ho := ho.2 c_38
            refine g_iload_n (i := 1) hc 1 dX10_modeOne_46 rfl rfl ?_
            refine g_iconst (v := 5) hc dX10_modeOne_47 (by decide) ?_
            refine g_icmpne (tgt := 55) hc dX10_modeOne_48 rfl (fun c_48 => ?_) (fun c_48 => ?_)
            · have ho := ho.1 c_48
              refine g_iconst (v := 3) hc dX10_modeOne_51 (by decide) ?_
              refine g_goto (tgt := 68) hc dX10_modeOne_52 rfl ?_
              exact g_iret hc dX10_modeOne_68
            · have ho := ho.2 c_48
              refine g_iload_n (i := 1) hc 1 dX10_modeOne_55 rfl rfl ?_
              refine g_bipush (v := 6) hc dX10_modeOne_56 (by decide) ?_
              refine g_icmpne (tgt := 66) hc dX10_modeOne_58 rfl (fun c_58 => ?_) (fun c_58 => ?_)
              · have ho := ho.1 c_58
                refine g_bipush (v := 7) hc dX10_modeOne_61 (by decide) ?_
                refine g_goto (tgt := 68) hc dX10_modeOne_63 rfl ?_
                exact g_iret hc dX10_modeOne_68
              · have ho := ho.2 c_58
                refine g_bipush (v := 6) hc dX10_modeOne_66 (by decide) ?_
                exact g_iret hc dX10_modeOne_68

abbrev rm_X10_compare : Room := { frames := 2, cells := 0, slots := 0, locals := 43 }
def sp_X10_compare (a0 : Int32) (a1 : Int32) (S : gSt) : Unit × gSt := (if a0 < a1 then gB (sp_X10_flag 1 false S) (fun (_ : Unit) S1 => gB (sp_X10_shown ((a0 - a1) &&& 255) S1) (fun r2 S2 => ((), S2))) else gB (sp_X10_flag 1 true S) (fun (_ : Unit) S3 => gB (sp_X10_shown ((a0 - a1) &&& 255) S3) (fun r4 S4 => ((), S4))))
def ok_X10_compare (a0 : Int32) (a1 : Int32) (S : gSt) : Prop := ((a0 < a1 → (ok_X10_flag 1 false S ∧ ∀ (r1 : Unit) (S1 : gSt), r1 = (sp_X10_flag 1 false S).1 → S1 = (sp_X10_flag 1 false S).2 → (ok_X10_shown ((a0 - a1) &&& 255) S1 ∧ ∀ (r2 : Int32) (S2 : gSt), r2 = (sp_X10_shown ((a0 - a1) &&& 255) S1).1 → S2 = (sp_X10_shown ((a0 - a1) &&& 255) S1).2 → True))) ∧ (¬ a0 < a1 → (ok_X10_flag 1 true S ∧ ∀ (r3 : Unit) (S3 : gSt), r3 = (sp_X10_flag 1 true S).1 → S3 = (sp_X10_flag 1 true S).2 → (ok_X10_shown ((a0 - a1) &&& 255) S3 ∧ ∀ (r4 : Int32) (S4 : gSt), r4 = (sp_X10_shown ((a0 - a1) &&& 255) S3).1 → S4 = (sp_X10_shown ((a0 - a1) &&& 255) S3).2 → True))))
set_option maxRecDepth 100000 in
set_option maxHeartbeats 4000000 in
theorem c_X10_compare (l : Launch) (η : gE) (a0 : Int32) (a1 : Int32) (S : gSt) (ho : ok_X10_compare a0 a1 S) : gMet l yX10_compare cX10_compare 3 none rm_X10_compare (oM η) [.ref (η.1 0), .int a0, .int a1] S (oV (sp_X10_compare a0 a1 S).1) (sp_X10_compare a0 a1 S).2 := by
  refine gMet_of (X := sp_X10_compare a0 a1 S) (lv := [(0, .ref (η.1 0)), (1, .int a0), (2, .int a1)]) oV zM_ok (by decide +kernel) (Nat.le_of_ble_eq_true rfl) rfl (fun κ hc => ?_)
  have hc : gC (oM η) κ cX10_compare 3 RX10 none rm_X10_compare := hc
  unfold sp_X10_compare
  unfold ok_X10_compare at ho
  refine g_aload_n (i := 0) hc 0 dX10_compare_0 rfl rfl ?_
  refine g_iconst (v := 1) hc dX10_compare_1 (by decide) ?_
  refine g_iload_n (i := 1) hc 1 dX10_compare_2 rfl rfl ?_
  refine g_iload_n (i := 2) hc 2 dX10_compare_3 rfl rfl ?_
  refine g_icmplt (tgt := 11) hc dX10_compare_4 rfl (fun c_4 => ?_) (fun c_4 => ?_)
  · have ho := ho.1 c_4
    refine g_iconst (v := 0) hc dX10_compare_11 (by decide) ?_
    refine g_callVV hc 0 [.int 1, .int (bI false)] (fun l => c_X10_flag l η 1 false S ho.1) wtM_142 ge_X10_flag rfl ⟨rfl, rfl⟩ ⟨Nat.le_of_ble_eq_true rfl, Nat.le_of_ble_eq_true rfl⟩ rfl rfl rfl (Nat.le_of_ble_eq_true rfl) dX10_compare_12 (fun r1 S1 e1 f1 => ?_)
    have ho := ho.2 r1 S1 e1 f1
    refine g_aload_n (i := 0) hc 0 dX10_compare_15 rfl rfl ?_
    refine g_iload_n (i := 1) hc 1 dX10_compare_16 rfl rfl ?_
    refine g_iload_n (i := 2) hc 2 dX10_compare_17 rfl rfl ?_
    refine g_isub hc dX10_compare_18 ?_
    refine g_sipush (v := 255) hc dX10_compare_19 (by decide) ?_
    refine g_iand hc dX10_compare_22 ?_
    refine g_callVI hc 0 [.int ((a0 - a1) &&& 255)] (fun l => c_X10_shown l η ((a0 - a1) &&& 255) S1 ho.1) wtM_169 ge_X10_shown rfl ⟨rfl, rfl⟩ ⟨Nat.le_of_ble_eq_true rfl, Nat.le_of_ble_eq_true rfl⟩ rfl rfl rfl (Nat.le_of_ble_eq_true rfl) dX10_compare_23 (fun r2 S2 e2 f2 => ?_)
    have ho := ho.2 r2 S2 e2 f2
    refine g_pop hc dX10_compare_26 rfl ?_
    exact g_vret hc dX10_compare_27
  · have ho := ho.2 c_4
    refine g_iconst (v := 1) hc dX10_compare_7 (by decide) ?_
    refine g_goto (tgt := 12) hc dX10_compare_8 rfl ?_
    refine g_callVV hc 0 [.int 1, .int (bI true)] (fun l => c_X10_flag l η 1 true S ho.1) wtM_142 ge_X10_flag rfl ⟨rfl, rfl⟩ ⟨Nat.le_of_ble_eq_true rfl, Nat.le_of_ble_eq_true rfl⟩ rfl rfl rfl (Nat.le_of_ble_eq_true rfl) dX10_compare_12 (fun r3 S3 e3 f3 => ?_)
    have ho := ho.2 r3 S3 e3 f3
    refine g_aload_n (i := 0) hc 0 dX10_compare_15 rfl rfl ?_
    refine g_iload_n (i := 1) hc 1 dX10_compare_16 rfl rfl ?_
    refine g_iload_n (i := 2) hc 2 dX10_compare_17 rfl rfl ?_
    refine g_isub hc dX10_compare_18 ?_
    refine g_sipush (v := 255) hc dX10_compare_19 (by decide) ?_
    refine g_iand hc dX10_compare_22 ?_
    refine g_callVI hc 0 [.int ((a0 - a1) &&& 255)] (fun l => c_X10_shown l η ((a0 - a1) &&& 255) S3 ho.1) wtM_169 ge_X10_shown rfl ⟨rfl, rfl⟩ ⟨Nat.le_of_ble_eq_true rfl, Nat.le_of_ble_eq_true rfl⟩ rfl rfl rfl (Nat.le_of_ble_eq_true rfl) dX10_compare_23 (fun r4 S4 e4 f4 => ?_)
    have ho := ho.2 r4 S4 e4 f4
    refine g_pop hc dX10_compare_26 rfl ?_
    exact g_vret hc dX10_compare_27

abbrev rm_X10_add : Room := { frames := 2, cells := 0, slots := 0, locals := 43 }
def sp_X10_add (a0 : Int32) (S : gSt) : Unit × gSt := (if (((S.1 1) + a0) + ((S.1 5) &&& 1)) ≤ 255 then gB (sp_X10_flag 1 false S) (fun (_ : Unit) S1 => (if (((((S1.1 1) ^^^ a0) ^^^ (-1)) &&& ((S1.1 1) ^^^ (((S.1 1) + a0) + ((S.1 5) &&& 1)))) &&& 128) = 0 then gB (sp_X10_flag 64 false S1) (fun (_ : Unit) S2 => gB (sp_X10_shown ((((S.1 1) + a0) + ((S.1 5) &&& 1)) &&& 255) S2) (fun r3 S3 => gL (sI S3 1 r3) (fun S4 => ((), S4)))) else gB (sp_X10_flag 64 true S1) (fun (_ : Unit) S5 => gB (sp_X10_shown ((((S.1 1) + a0) + ((S.1 5) &&& 1)) &&& 255) S5) (fun r6 S6 => gL (sI S6 1 r6) (fun S7 => ((), S7)))))) else gB (sp_X10_flag 1 true S) (fun (_ : Unit) S8 => (if (((((S8.1 1) ^^^ a0) ^^^ (-1)) &&& ((S8.1 1) ^^^ (((S.1 1) + a0) + ((S.1 5) &&& 1)))) &&& 128) = 0 then gB (sp_X10_flag 64 false S8) (fun (_ : Unit) S9 => gB (sp_X10_shown ((((S.1 1) + a0) + ((S.1 5) &&& 1)) &&& 255) S9) (fun r10 S10 => gL (sI S10 1 r10) (fun S11 => ((), S11)))) else gB (sp_X10_flag 64 true S8) (fun (_ : Unit) S12 => gB (sp_X10_shown ((((S.1 1) + a0) + ((S.1 5) &&& 1)) &&& 255) S12) (fun r13 S13 => gL (sI S13 1 r13) (fun S14 => ((), S14)))))))
def ok_X10_add (a0 : Int32) (S : gSt) : Prop := (((((S.1 1) + a0) + ((S.1 5) &&& 1)) ≤ 255 → (ok_X10_flag 1 false S ∧ ∀ (r1 : Unit) (S1 : gSt), r1 = (sp_X10_flag 1 false S).1 → S1 = (sp_X10_flag 1 false S).2 → (((((((S1.1 1) ^^^ a0) ^^^ (-1)) &&& ((S1.1 1) ^^^ (((S.1 1) + a0) + ((S.1 5) &&& 1)))) &&& 128) = 0 → (ok_X10_flag 64 false S1 ∧ ∀ (r2 : Unit) (S2 : gSt), r2 = (sp_X10_flag 64 false S1).1 → S2 = (sp_X10_flag 64 false S1).2 → (ok_X10_shown ((((S.1 1) + a0) + ((S.1 5) &&& 1)) &&& 255) S2 ∧ ∀ (r3 : Int32) (S3 : gSt), r3 = (sp_X10_shown ((((S.1 1) + a0) + ((S.1 5) &&& 1)) &&& 255) S2).1 → S3 = (sp_X10_shown ((((S.1 1) + a0) + ((S.1 5) &&& 1)) &&& 255) S2).2 → ∀ S4 : gSt, S4 = sI S3 1 r3 → True))) ∧ (¬ (((((S1.1 1) ^^^ a0) ^^^ (-1)) &&& ((S1.1 1) ^^^ (((S.1 1) + a0) + ((S.1 5) &&& 1)))) &&& 128) = 0 → (ok_X10_flag 64 true S1 ∧ ∀ (r5 : Unit) (S5 : gSt), r5 = (sp_X10_flag 64 true S1).1 → S5 = (sp_X10_flag 64 true S1).2 → (ok_X10_shown ((((S.1 1) + a0) + ((S.1 5) &&& 1)) &&& 255) S5 ∧ ∀ (r6 : Int32) (S6 : gSt), r6 = (sp_X10_shown ((((S.1 1) + a0) + ((S.1 5) &&& 1)) &&& 255) S5).1 → S6 = (sp_X10_shown ((((S.1 1) + a0) + ((S.1 5) &&& 1)) &&& 255) S5).2 → ∀ S7 : gSt, S7 = sI S6 1 r6 → True)))))) ∧ (¬ (((S.1 1) + a0) + ((S.1 5) &&& 1)) ≤ 255 → (ok_X10_flag 1 true S ∧ ∀ (r8 : Unit) (S8 : gSt), r8 = (sp_X10_flag 1 true S).1 → S8 = (sp_X10_flag 1 true S).2 → (((((((S8.1 1) ^^^ a0) ^^^ (-1)) &&& ((S8.1 1) ^^^ (((S.1 1) + a0) + ((S.1 5) &&& 1)))) &&& 128) = 0 → (ok_X10_flag 64 false S8 ∧ ∀ (r9 : Unit) (S9 : gSt), r9 = (sp_X10_flag 64 false S8).1 → S9 = (sp_X10_flag 64 false S8).2 → (ok_X10_shown ((((S.1 1) + a0) + ((S.1 5) &&& 1)) &&& 255) S9 ∧ ∀ (r10 : Int32) (S10 : gSt), r10 = (sp_X10_shown ((((S.1 1) + a0) + ((S.1 5) &&& 1)) &&& 255) S9).1 → S10 = (sp_X10_shown ((((S.1 1) + a0) + ((S.1 5) &&& 1)) &&& 255) S9).2 → ∀ S11 : gSt, S11 = sI S10 1 r10 → True))) ∧ (¬ (((((S8.1 1) ^^^ a0) ^^^ (-1)) &&& ((S8.1 1) ^^^ (((S.1 1) + a0) + ((S.1 5) &&& 1)))) &&& 128) = 0 → (ok_X10_flag 64 true S8 ∧ ∀ (r12 : Unit) (S12 : gSt), r12 = (sp_X10_flag 64 true S8).1 → S12 = (sp_X10_flag 64 true S8).2 → (ok_X10_shown ((((S.1 1) + a0) + ((S.1 5) &&& 1)) &&& 255) S12 ∧ ∀ (r13 : Int32) (S13 : gSt), r13 = (sp_X10_shown ((((S.1 1) + a0) + ((S.1 5) &&& 1)) &&& 255) S12).1 → S13 = (sp_X10_shown ((((S.1 1) + a0) + ((S.1 5) &&& 1)) &&& 255) S12).2 → ∀ S14 : gSt, S14 = sI S13 1 r13 → True)))))))
set_option maxRecDepth 100000 in
set_option maxHeartbeats 4000000 in
theorem c_X10_add (l : Launch) (η : gE) (a0 : Int32) (S : gSt) (ho : ok_X10_add a0 S) : gMet l yX10_add cX10_add 3 none rm_X10_add (oM η) [.ref (η.1 0), .int a0] S (oV (sp_X10_add a0 S).1) (sp_X10_add a0 S).2 := by
  refine gMet_of (X := sp_X10_add a0 S) (lv := [(0, .ref (η.1 0)), (1, .int a0)]) oV zM_ok (by decide +kernel) (Nat.le_of_ble_eq_true rfl) rfl (fun κ hc => ?_)
  have hc : gC (oM η) κ cX10_add 3 RX10 none rm_X10_add := hc
  unfold sp_X10_add
  unfold ok_X10_add at ho
  refine g_aload_n (i := 0) hc 0 dX10_add_0 rfl rfl ?_
  refine gf_M_0_a hc wtM_170 dX10_add_1 ?_
  refine g_iload_n (i := 1) hc 1 dX10_add_4 rfl rfl ?_
  refine g_iadd hc dX10_add_5 ?_
  refine g_aload_n (i := 0) hc 0 dX10_add_6 rfl rfl ?_
  refine gf_M_0_p hc wtM_138 dX10_add_7 ?_
  refine g_iconst (v := 1) hc dX10_add_10 (by decide) ?_
  refine g_iand hc dX10_add_11 ?_
  refine g_iadd hc dX10_add_12 ?_
  refine g_istore_n (i := 2) (lv' := [(2, .int (((S.1 1) + a0) + ((S.1 5) &&& 1))), (0, .ref (η.1 0)), (1, .int a0)]) hc dX10_add_13 rfl (by decide) rfl ?_
  refine g_aload_n (i := 0) hc 1 dX10_add_14 rfl rfl ?_
  refine g_iconst (v := 1) hc dX10_add_15 (by decide) ?_
  refine g_iload_n (i := 2) hc 0 dX10_add_16 rfl rfl ?_
  refine g_sipush (v := 255) hc dX10_add_17 (by decide) ?_
  refine g_icmple (tgt := 27) hc dX10_add_20 rfl (fun c_20 => ?_) (fun c_20 => ?_)
  · have ho := ho.1 c_20
    refine g_iconst (v := 0) hc dX10_add_27 (by decide) ?_
    refine g_callVV hc 0 [.int 1, .int (bI false)] (fun l => c_X10_flag l η 1 false S ho.1) wtM_142 ge_X10_flag rfl ⟨rfl, rfl⟩ ⟨Nat.le_of_ble_eq_true rfl, Nat.le_of_ble_eq_true rfl⟩ rfl rfl rfl (Nat.le_of_ble_eq_true rfl) dX10_add_28 (fun r1 S1 e1 f1 => ?_)
    have ho := ho.2 r1 S1 e1 f1
    refine g_aload_n (i := 0) hc 1 dX10_add_31 rfl rfl ?_
    refine g_bipush (v := 64) hc dX10_add_32 (by decide) ?_
    refine g_aload_n (i := 0) hc 1 dX10_add_34 rfl rfl ?_
    refine gf_M_0_a hc wtM_170 dX10_add_35 ?_
    refine g_iload_n (i := 1) hc 2 dX10_add_38 rfl rfl ?_
    refine g_ixor hc dX10_add_39 ?_
    refine g_iconst (v := (-1)) hc dX10_add_40 (by decide) ?_
    refine g_ixor hc dX10_add_41 ?_
    refine g_aload_n (i := 0) hc 1 dX10_add_42 rfl rfl ?_
    refine gf_M_0_a hc wtM_170 dX10_add_43 ?_
    refine g_iload_n (i := 2) hc 0 dX10_add_46 rfl rfl ?_
    refine g_ixor hc dX10_add_47 ?_
    refine g_iand hc dX10_add_48 ?_
    refine g_sipush (v := 128) hc dX10_add_49 (by decide) ?_
    refine g_iand hc dX10_add_52 ?_
    refine g_ifeq (tgt := 60) hc dX10_add_53 rfl (fun c_53 => ?_) (fun c_53 => ?_)
    · have ho := ho.1 c_53
      refine g_iconst (v := 0) hc dX10_add_60 (by decide) ?_
      refine g_callVV hc 0 [.int 64, .int (bI false)] (fun l => c_X10_flag l η 64 false S1 ho.1) wtM_142 ge_X10_flag rfl ⟨rfl, rfl⟩ ⟨Nat.le_of_ble_eq_true rfl, Nat.le_of_ble_eq_true rfl⟩ rfl rfl rfl (Nat.le_of_ble_eq_true rfl) dX10_add_61 (fun r2 S2 e2 f2 => ?_)
      have ho := ho.2 r2 S2 e2 f2
      refine g_aload_n (i := 0) hc 1 dX10_add_64 rfl rfl ?_
      refine g_aload_n (i := 0) hc 1 dX10_add_65 rfl rfl ?_
      refine g_iload_n (i := 2) hc 0 dX10_add_66 rfl rfl ?_
      refine g_sipush (v := 255) hc dX10_add_67 (by decide) ?_
      refine g_iand hc dX10_add_70 ?_
      refine g_callVI hc 0 [.int ((((S.1 1) + a0) + ((S.1 5) &&& 1)) &&& 255)] (fun l => c_X10_shown l η ((((S.1 1) + a0) + ((S.1 5) &&& 1)) &&& 255) S2 ho.1) wtM_169 ge_X10_shown rfl ⟨rfl, rfl⟩ ⟨Nat.le_of_ble_eq_true rfl, Nat.le_of_ble_eq_true rfl⟩ rfl rfl rfl (Nat.le_of_ble_eq_true rfl) dX10_add_71 (fun r3 S3 e3 f3 => ?_)
      have ho := ho.2 r3 S3 e3 f3
      refine pf_M_0_a (v := r3) hc wtM_170 dX10_add_74 (fun S4 f4 => ?_)
      have ho := ho S4 f4
      exact g_vret hc dX10_add_77
    · have ho := ho.2 c_53
      refine g_iconst (v := 1) hc dX10_add_56 (by decide) ?_
      refine g_goto (tgt := 61) hc dX10_add_57 rfl ?_
      refine g_callVV hc 0 [.int 64, .int (bI true)] (fun l => c_X10_flag l η 64 true S1 ho.1) wtM_142 ge_X10_flag rfl ⟨rfl, rfl⟩ ⟨Nat.le_of_ble_eq_true rfl, Nat.le_of_ble_eq_true rfl⟩ rfl rfl rfl (Nat.le_of_ble_eq_true rfl) dX10_add_61 (fun r5 S5 e5 f5 => ?_)
      have ho := ho.2 r5 S5 e5 f5
      refine g_aload_n (i := 0) hc 1 dX10_add_64 rfl rfl ?_
      refine g_aload_n (i := 0) hc 1 dX10_add_65 rfl rfl ?_
      refine g_iload_n (i := 2) hc 0 dX10_add_66 rfl rfl ?_
      refine g_sipush (v := 255) hc dX10_add_67 (by decide) ?_
      refine g_iand hc dX10_add_70 ?_
      refine g_callVI hc 0 [.int ((((S.1 1) + a0) + ((S.1 5) &&& 1)) &&& 255)] (fun l => c_X10_shown l η ((((S.1 1) + a0) + ((S.1 5) &&& 1)) &&& 255) S5 ho.1) wtM_169 ge_X10_shown rfl ⟨rfl, rfl⟩ ⟨Nat.le_of_ble_eq_true rfl, Nat.le_of_ble_eq_true rfl⟩ rfl rfl rfl (Nat.le_of_ble_eq_true rfl) dX10_add_71 (fun r6 S6 e6 f6 => ?_)
      have ho := ho.2 r6 S6 e6 f6
      refine pf_M_0_a (v := r6) hc wtM_170 dX10_add_74 (fun S7 f7 => ?_)
      have ho := ho S7 f7
      exact g_vret hc dX10_add_77
  · have ho := ho.2 c_20
    refine g_iconst (v := 1) hc dX10_add_23 (by decide) ?_
    refine g_goto (tgt := 28) hc dX10_add_24 rfl ?_
    refine g_callVV hc 0 [.int 1, .int (bI true)] (fun l => c_X10_flag l η 1 true S ho.1) wtM_142 ge_X10_flag rfl ⟨rfl, rfl⟩ ⟨Nat.le_of_ble_eq_true rfl, Nat.le_of_ble_eq_true rfl⟩ rfl rfl rfl (Nat.le_of_ble_eq_true rfl) dX10_add_28 (fun r8 S8 e8 f8 => ?_)
    have ho := ho.2 r8 S8 e8 f8
    refine g_aload_n (i := 0) hc 1 dX10_add_31 rfl rfl ?_
    refine g_bipush (v := 64) hc dX10_add_32 (by decide) ?_
    refine g_aload_n (i := 0) hc 1 dX10_add_34 rfl rfl ?_
    refine gf_M_0_a hc wtM_170 dX10_add_35 ?_
    refine g_iload_n (i := 1) hc 2 dX10_add_38 rfl rfl ?_
    refine g_ixor hc dX10_add_39 ?_
    refine g_iconst (v := (-1)) hc dX10_add_40 (by decide) ?_
    refine g_ixor hc dX10_add_41 ?_
    refine g_aload_n (i := 0) hc 1 dX10_add_42 rfl rfl ?_
    refine gf_M_0_a hc wtM_170 dX10_add_43 ?_
    refine g_iload_n (i := 2) hc 0 dX10_add_46 rfl rfl ?_
    refine g_ixor hc dX10_add_47 ?_
    refine g_iand hc dX10_add_48 ?_
    refine g_sipush (v := 128) hc dX10_add_49 (by decide) ?_
    refine g_iand hc dX10_add_52 ?_
    refine g_ifeq (tgt := 60) hc dX10_add_53 rfl (fun c_53 => ?_) (fun c_53 => ?_)
    · have ho := ho.1 c_53
      refine g_iconst (v := 0) hc dX10_add_60 (by decide) ?_
      refine g_callVV hc 0 [.int 64, .int (bI false)] (fun l => c_X10_flag l η 64 false S8 ho.1) wtM_142 ge_X10_flag rfl ⟨rfl, rfl⟩ ⟨Nat.le_of_ble_eq_true rfl, Nat.le_of_ble_eq_true rfl⟩ rfl rfl rfl (Nat.le_of_ble_eq_true rfl) dX10_add_61 (fun r9 S9 e9 f9 => ?_)
      have ho := ho.2 r9 S9 e9 f9
      refine g_aload_n (i := 0) hc 1 dX10_add_64 rfl rfl ?_
      refine g_aload_n (i := 0) hc 1 dX10_add_65 rfl rfl ?_
      refine g_iload_n (i := 2) hc 0 dX10_add_66 rfl rfl ?_
      refine g_sipush (v := 255) hc dX10_add_67 (by decide) ?_
      refine g_iand hc dX10_add_70 ?_
      refine g_callVI hc 0 [.int ((((S.1 1) + a0) + ((S.1 5) &&& 1)) &&& 255)] (fun l => c_X10_shown l η ((((S.1 1) + a0) + ((S.1 5) &&& 1)) &&& 255) S9 ho.1) wtM_169 ge_X10_shown rfl ⟨rfl, rfl⟩ ⟨Nat.le_of_ble_eq_true rfl, Nat.le_of_ble_eq_true rfl⟩ rfl rfl rfl (Nat.le_of_ble_eq_true rfl) dX10_add_71 (fun r10 S10 e10 f10 => ?_)
      have ho := ho.2 r10 S10 e10 f10
      refine pf_M_0_a (v := r10) hc wtM_170 dX10_add_74 (fun S11 f11 => ?_)
      have ho := ho S11 f11
      exact g_vret hc dX10_add_77
    · have ho := ho.2 c_53
      refine g_iconst (v := 1) hc dX10_add_56 (by decide) ?_
      refine g_goto (tgt := 61) hc dX10_add_57 rfl ?_
      refine g_callVV hc 0 [.int 64, .int (bI true)] (fun l => c_X10_flag l η 64 true S8 ho.1) wtM_142 ge_X10_flag rfl ⟨rfl, rfl⟩ ⟨Nat.le_of_ble_eq_true rfl, Nat.le_of_ble_eq_true rfl⟩ rfl rfl rfl (Nat.le_of_ble_eq_true rfl) dX10_add_61 (fun r12 S12 e12 f12 => ?_)
      have ho := ho.2 r12 S12 e12 f12
      refine g_aload_n (i := 0) hc 1 dX10_add_64 rfl rfl ?_
      refine g_aload_n (i := 0) hc 1 dX10_add_65 rfl rfl ?_
      refine g_iload_n (i := 2) hc 0 dX10_add_66 rfl rfl ?_
      refine g_sipush (v := 255) hc dX10_add_67 (by decide) ?_
      refine g_iand hc dX10_add_70 ?_
      refine g_callVI hc 0 [.int ((((S.1 1) + a0) + ((S.1 5) &&& 1)) &&& 255)] (fun l => c_X10_shown l η ((((S.1 1) + a0) + ((S.1 5) &&& 1)) &&& 255) S12 ho.1) wtM_169 ge_X10_shown rfl ⟨rfl, rfl⟩ ⟨Nat.le_of_ble_eq_true rfl, Nat.le_of_ble_eq_true rfl⟩ rfl rfl rfl (Nat.le_of_ble_eq_true rfl) dX10_add_71 (fun r13 S13 e13 f13 => ?_)
      have ho := ho.2 r13 S13 e13 f13
      refine pf_M_0_a (v := r13) hc wtM_170 dX10_add_74 (fun S14 f14 => ?_)
      have ho := ho S14 f14
      exact g_vret hc dX10_add_77

abbrev rm_X10_arithmetic : Room := { frames := 7, cells := 0, slots := 0, locals := 158 }
def jn_X10_arithmetic_38 (x2 : Int32) (S : gSt) : Int32 × gSt := gB (sp_X10_cyclesOf x2 S) (fun r3 S3 => ((r3 + 1), S3))
def ok_jn_X10_arithmetic_38 (x2 : Int32) (S : gSt) : Prop := (ok_X10_cyclesOf x2 S ∧ ∀ (r3 : Int32) (S3 : gSt), r3 = (sp_X10_cyclesOf x2 S).1 → S3 = (sp_X10_cyclesOf x2 S).2 → True)
def jn_X10_arithmetic_211 (x2 : Int32) (S : gSt) : Int32 × gSt := gB (sp_X10_cyclesOf x2 S) (fun r8 S8 => (if (bI (S8.2.1 2)) = 0 then ((r8 + 0), S8) else ((r8 + 1), S8)))
def ok_jn_X10_arithmetic_211 (x2 : Int32) (S : gSt) : Prop := (ok_X10_cyclesOf x2 S ∧ ∀ (r8 : Int32) (S8 : gSt), r8 = (sp_X10_cyclesOf x2 S).1 → S8 = (sp_X10_cyclesOf x2 S).2 → (((bI (S8.2.1 2)) = 0 → True) ∧ (¬ (bI (S8.2.1 2)) = 0 → True)))
def sp_X10_arithmetic (a0 : Int32) (a1 : Int32) (S : gSt) : Int32 × gSt := gB (sp_X10_addressed a1 S) (fun r1 S1 => (if a0 = 4 then gB (sp_X10_put r1 (S1.1 1) S1) (fun (_ : Unit) S2 => (if a1 = 6 then jn_X10_arithmetic_38 a1 S2 else (if a1 = 7 then jn_X10_arithmetic_38 a1 S2 else (if a1 = 9 then jn_X10_arithmetic_38 a1 S2 else gB (sp_X10_cyclesOf a1 S2) (fun r4 S4 => ((r4 + 0), S4)))))) else gB (sp_X10_get r1 S1) (fun r5 S5 => (if a0 = 0 then gB (sp_X10_shown ((S5.1 1) ||| r5) S5) (fun r6 S6 => gL (sI S6 1 r6) (fun S7 => jn_X10_arithmetic_211 a1 S7)) else (if a0 = 1 then gB (sp_X10_shown ((S5.1 1) &&& r5) S5) (fun r9 S9 => gL (sI S9 1 r9) (fun S10 => jn_X10_arithmetic_211 a1 S10)) else (if a0 = 2 then gB (sp_X10_shown ((S5.1 1) ^^^ r5) S5) (fun r11 S11 => gL (sI S11 1 r11) (fun S12 => jn_X10_arithmetic_211 a1 S12)) else (if a0 = 3 then gB (sp_X10_add r5 S5) (fun (_ : Unit) S13 => jn_X10_arithmetic_211 a1 S13) else (if a0 = 4 then gB (sp_X10_add (r5 ^^^ 255) S5) (fun (_ : Unit) S14 => jn_X10_arithmetic_211 a1 S14) else (if a0 = 5 then gB (sp_X10_shown r5 S5) (fun r15 S15 => gL (sI S15 1 r15) (fun S16 => jn_X10_arithmetic_211 a1 S16)) else (if a0 = 6 then gB (sp_X10_compare (S5.1 1) r5 S5) (fun (_ : Unit) S17 => jn_X10_arithmetic_211 a1 S17) else gB (sp_X10_add (r5 ^^^ 255) S5) (fun (_ : Unit) S18 => jn_X10_arithmetic_211 a1 S18)))))))))))
def ok_X10_arithmetic (a0 : Int32) (a1 : Int32) (S : gSt) : Prop := (ok_X10_addressed a1 S ∧ ∀ (r1 : Int32) (S1 : gSt), r1 = (sp_X10_addressed a1 S).1 → S1 = (sp_X10_addressed a1 S).2 → ((a0 = 4 → (ok_X10_put r1 (S1.1 1) S1 ∧ ∀ (r2 : Unit) (S2 : gSt), r2 = (sp_X10_put r1 (S1.1 1) S1).1 → S2 = (sp_X10_put r1 (S1.1 1) S1).2 → ((a1 = 6 → ok_jn_X10_arithmetic_38 a1 S2) ∧ (¬ a1 = 6 → ((a1 = 7 → ok_jn_X10_arithmetic_38 a1 S2) ∧ (¬ a1 = 7 → ((a1 = 9 → ok_jn_X10_arithmetic_38 a1 S2) ∧ (¬ a1 = 9 → (ok_X10_cyclesOf a1 S2 ∧ ∀ (r4 : Int32) (S4 : gSt), r4 = (sp_X10_cyclesOf a1 S2).1 → S4 = (sp_X10_cyclesOf a1 S2).2 → True))))))))) ∧ (¬ a0 = 4 → (ok_X10_get r1 S1 ∧ ∀ (r5 : Int32) (S5 : gSt), r5 = (sp_X10_get r1 S1).1 → S5 = (sp_X10_get r1 S1).2 → ((a0 = 0 → (ok_X10_shown ((S5.1 1) ||| r5) S5 ∧ ∀ (r6 : Int32) (S6 : gSt), r6 = (sp_X10_shown ((S5.1 1) ||| r5) S5).1 → S6 = (sp_X10_shown ((S5.1 1) ||| r5) S5).2 → ∀ S7 : gSt, S7 = sI S6 1 r6 → ok_jn_X10_arithmetic_211 a1 S7)) ∧ (¬ a0 = 0 → ((a0 = 1 → (ok_X10_shown ((S5.1 1) &&& r5) S5 ∧ ∀ (r9 : Int32) (S9 : gSt), r9 = (sp_X10_shown ((S5.1 1) &&& r5) S5).1 → S9 = (sp_X10_shown ((S5.1 1) &&& r5) S5).2 → ∀ S10 : gSt, S10 = sI S9 1 r9 → ok_jn_X10_arithmetic_211 a1 S10)) ∧ (¬ a0 = 1 → ((a0 = 2 → (ok_X10_shown ((S5.1 1) ^^^ r5) S5 ∧ ∀ (r11 : Int32) (S11 : gSt), r11 = (sp_X10_shown ((S5.1 1) ^^^ r5) S5).1 → S11 = (sp_X10_shown ((S5.1 1) ^^^ r5) S5).2 → ∀ S12 : gSt, S12 = sI S11 1 r11 → ok_jn_X10_arithmetic_211 a1 S12)) ∧ (¬ a0 = 2 → ((a0 = 3 → (ok_X10_add r5 S5 ∧ ∀ (r13 : Unit) (S13 : gSt), r13 = (sp_X10_add r5 S5).1 → S13 = (sp_X10_add r5 S5).2 → ok_jn_X10_arithmetic_211 a1 S13)) ∧ (¬ a0 = 3 → ((a0 = 4 → (ok_X10_add (r5 ^^^ 255) S5 ∧ ∀ (r14 : Unit) (S14 : gSt), r14 = (sp_X10_add (r5 ^^^ 255) S5).1 → S14 = (sp_X10_add (r5 ^^^ 255) S5).2 → ok_jn_X10_arithmetic_211 a1 S14)) ∧ (¬ a0 = 4 → ((a0 = 5 → (ok_X10_shown r5 S5 ∧ ∀ (r15 : Int32) (S15 : gSt), r15 = (sp_X10_shown r5 S5).1 → S15 = (sp_X10_shown r5 S5).2 → ∀ S16 : gSt, S16 = sI S15 1 r15 → ok_jn_X10_arithmetic_211 a1 S16)) ∧ (¬ a0 = 5 → ((a0 = 6 → (ok_X10_compare (S5.1 1) r5 S5 ∧ ∀ (r17 : Unit) (S17 : gSt), r17 = (sp_X10_compare (S5.1 1) r5 S5).1 → S17 = (sp_X10_compare (S5.1 1) r5 S5).2 → ok_jn_X10_arithmetic_211 a1 S17)) ∧ (¬ a0 = 6 → (ok_X10_add (r5 ^^^ 255) S5 ∧ ∀ (r18 : Unit) (S18 : gSt), r18 = (sp_X10_add (r5 ^^^ 255) S5).1 → S18 = (sp_X10_add (r5 ^^^ 255) S5).2 → ok_jn_X10_arithmetic_211 a1 S18)))))))))))))))))))
set_option maxRecDepth 100000 in
set_option maxHeartbeats 4000000 in
theorem g_jn_X10_arithmetic_38 {η : gE} {κ : gK} (hc : gC (oM η) κ cX10_arithmetic 5 RX10 (some .int) rm_X10_arithmetic) (x2 : Int32) (S : gSt) (ho : ok_jn_X10_arithmetic_38 x2 S) : gG (oM η) κ 5 oI 38 [(2, .int x2)] [] S (jn_X10_arithmetic_38 x2 S) := by
  unfold jn_X10_arithmetic_38
  unfold ok_jn_X10_arithmetic_38 at ho
  refine g_iconst (v := 1) hc dX10_arithmetic_38 (by decide) ?_
  refine g_goto (tgt := 43) hc dX10_arithmetic_39 rfl ?_
  refine g_istore (i := 4) (lv' := [(4, .int 1), (2, .int x2)]) hc dX10_arithmetic_43 (by decide) rfl ?_
  refine g_iload_n (i := 2) hc 1 dX10_arithmetic_45 rfl rfl ?_
  refine g_callSI hc [.int x2] (fun l => c_X10_cyclesOf l η x2 S ho.1) wtM_181 ge_X10_cyclesOf rfl ⟨rfl, rfl⟩ ⟨Nat.le_of_ble_eq_true rfl, Nat.le_of_ble_eq_true rfl⟩ rfl (Nat.le_of_ble_eq_true rfl) dX10_arithmetic_46 (fun r3 S3 e3 f3 => ?_)
  have ho := ho.2 r3 S3 e3 f3
  refine g_iload (i := 4) hc 0 dX10_arithmetic_49 rfl ?_
  refine g_ifeq_f (tgt := 58) hc dX10_arithmetic_51 rfl (by decide) ?_
  refine g_iconst (v := 1) hc dX10_arithmetic_54 (by decide) ?_
  refine g_goto (tgt := 59) hc dX10_arithmetic_55 rfl ?_
  refine g_iadd hc dX10_arithmetic_59 ?_
  exact g_iret hc dX10_arithmetic_60
set_option maxRecDepth 100000 in
set_option maxHeartbeats 4000000 in
theorem g_jn_X10_arithmetic_211 {η : gE} {κ : gK} (hc : gC (oM η) κ cX10_arithmetic 5 RX10 (some .int) rm_X10_arithmetic) (x2 : Int32) (S : gSt) (ho : ok_jn_X10_arithmetic_211 x2 S) : gG (oM η) κ 5 oI 211 [(0, .ref (η.1 0)), (2, .int x2)] [] S (jn_X10_arithmetic_211 x2 S) := by
  unfold jn_X10_arithmetic_211
  unfold ok_jn_X10_arithmetic_211 at ho
  refine g_iload_n (i := 2) hc 1 dX10_arithmetic_211 rfl rfl ?_
  refine g_callSI hc [.int x2] (fun l => c_X10_cyclesOf l η x2 S ho.1) wtM_181 ge_X10_cyclesOf rfl ⟨rfl, rfl⟩ ⟨Nat.le_of_ble_eq_true rfl, Nat.le_of_ble_eq_true rfl⟩ rfl (Nat.le_of_ble_eq_true rfl) dX10_arithmetic_212 (fun r8 S8 e8 f8 => ?_)
  have ho := ho.2 r8 S8 e8 f8
  refine g_aload_n (i := 0) hc 0 dX10_arithmetic_215 rfl rfl ?_
  refine gf_M_0_crossed hc wtM_151 dX10_arithmetic_216 ?_
  refine g_ifeq (tgt := 226) hc dX10_arithmetic_219 rfl (fun c_219 => ?_) (fun c_219 => ?_)
  · have ho := ho.1 c_219
    refine g_iconst (v := 0) hc dX10_arithmetic_226 (by decide) ?_
    refine g_iadd hc dX10_arithmetic_227 ?_
    exact g_iret hc dX10_arithmetic_228
  · have ho := ho.2 c_219
    refine g_iconst (v := 1) hc dX10_arithmetic_222 (by decide) ?_
    refine g_goto (tgt := 227) hc dX10_arithmetic_223 rfl ?_
    refine g_iadd hc dX10_arithmetic_227 ?_
    exact g_iret hc dX10_arithmetic_228
set_option maxRecDepth 100000 in
set_option maxHeartbeats 4000000 in
theorem c_X10_arithmetic (l : Launch) (η : gE) (a0 : Int32) (a1 : Int32) (S : gSt) (ho : ok_X10_arithmetic a0 a1 S) : gMet l yX10_arithmetic cX10_arithmetic 5 (some .int) rm_X10_arithmetic (oM η) [.ref (η.1 0), .int a0, .int a1] S (oI (sp_X10_arithmetic a0 a1 S).1) (sp_X10_arithmetic a0 a1 S).2 := by
  refine gMet_of (X := sp_X10_arithmetic a0 a1 S) (lv := [(0, .ref (η.1 0)), (1, .int a0), (2, .int a1)]) oI zM_ok (by decide +kernel) (Nat.le_of_ble_eq_true rfl) rfl (fun κ hc => ?_)
  have hc : gC (oM η) κ cX10_arithmetic 5 RX10 (some .int) rm_X10_arithmetic := hc
  unfold sp_X10_arithmetic
  unfold ok_X10_arithmetic at ho
  refine g_aload_n (i := 0) hc 0 dX10_arithmetic_0 rfl rfl ?_
  refine g_iload_n (i := 2) hc 2 dX10_arithmetic_1 rfl rfl ?_
  refine g_callVI hc 0 [.int a1] (fun l => c_X10_addressed l η a1 S ho.1) wtM_174 ge_X10_addressed rfl ⟨rfl, rfl⟩ ⟨Nat.le_of_ble_eq_true rfl, Nat.le_of_ble_eq_true rfl⟩ rfl rfl rfl (Nat.le_of_ble_eq_true rfl) dX10_arithmetic_2 (fun r1 S1 e1 f1 => ?_)
  have ho := ho.2 r1 S1 e1 f1
  refine g_istore_n (i := 3) (lv' := [(3, .int r1), (0, .ref (η.1 0)), (1, .int a0), (2, .int a1)]) hc dX10_arithmetic_5 rfl (by decide) rfl ?_
  refine g_iload_n (i := 1) hc 2 dX10_arithmetic_6 rfl rfl ?_
  refine g_iconst (v := 4) hc dX10_arithmetic_7 (by decide) ?_
  refine g_icmpne (tgt := 61) hc dX10_arithmetic_8 rfl (fun c_8 => ?_) (fun c_8 => ?_)
  · have ho := ho.1 c_8
    refine g_aload_n (i := 0) hc 1 dX10_arithmetic_11 rfl rfl ?_
    refine g_iload_n (i := 3) hc 0 dX10_arithmetic_12 rfl rfl ?_
    refine g_aload_n (i := 0) hc 1 dX10_arithmetic_13 rfl rfl ?_
    refine gf_M_0_a hc wtM_170 dX10_arithmetic_14 ?_
    refine g_callVV hc 0 [.int r1, .int (S1.1 1)] (fun l => c_X10_put l η r1 (S1.1 1) S1 ho.1) wtM_178 ge_X10_put rfl ⟨rfl, rfl⟩ ⟨Nat.le_of_ble_eq_true rfl, Nat.le_of_ble_eq_true rfl⟩ rfl rfl rfl (Nat.le_of_ble_eq_true rfl) dX10_arithmetic_17 (fun r2 S2 e2 f2 => ?_)
    have ho := ho.2 r2 S2 e2 f2
    refine g_iload_n (i := 2) hc 3 dX10_arithmetic_20 rfl rfl ?_
    refine g_bipush (v := 6) hc dX10_arithmetic_21 (by decide) ?_
    refine g_icmpeq (tgt := 38) hc dX10_arithmetic_23 rfl (fun c_23 => ?_) (fun c_23 => ?_)
    · have ho := ho.1 c_23
      exact g_lv [3] rfl (g_jn_X10_arithmetic_38 hc _ _ ho)
    · have ho := ho.2 c_23
      refine g_iload_n (i := 2) hc 3 dX10_arithmetic_26 rfl rfl ?_
      refine g_bipush (v := 7) hc dX10_arithmetic_27 (by decide) ?_
      refine g_icmpeq (tgt := 38) hc dX10_arithmetic_29 rfl (fun c_29 => ?_) (fun c_29 => ?_)
      · have ho := ho.1 c_29
        exact g_lv [3] rfl (g_jn_X10_arithmetic_38 hc _ _ ho)
      · have ho := ho.2 c_29
        refine g_iload_n (i := 2) hc 3 dX10_arithmetic_32 rfl rfl ?_
        refine g_bipush (v := 9) hc dX10_arithmetic_33 (by decide) ?_
        refine g_icmpne (tgt := 42) hc dX10_arithmetic_35 rfl (fun c_35 => ?_) (fun c_35 => ?_)
        · have ho := ho.1 c_35
          exact g_lv [3] rfl (g_jn_X10_arithmetic_38 hc _ _ ho)
        · have ho := ho.2 c_35
          refine g_iconst (v := 0) hc dX10_arithmetic_42 (by decide) ?_
          refine g_istore (i := 4) (lv' := [(4, .int 0), (3, .int r1), (0, .ref (η.1 0)), (1, .int a0), (2, .int a1)]) hc dX10_arithmetic_43 (by decide) rfl ?_
          refine g_iload_n (i := 2) hc 4 dX10_arithmetic_45 rfl rfl ?_
          refine g_callSI hc [.int a1] (fun l => c_X10_cyclesOf l η a1 S2 ho.1) wtM_181 ge_X10_cyclesOf rfl ⟨rfl, rfl⟩ ⟨Nat.le_of_ble_eq_true rfl, Nat.le_of_ble_eq_true rfl⟩ rfl (Nat.le_of_ble_eq_true rfl) dX10_arithmetic_46 (fun r4 S4 e4 f4 => ?_)
          have ho := ho.2 r4 S4 e4 f4
          refine g_iload (i := 4) hc 0 dX10_arithmetic_49 rfl ?_
          refine g_ifeq_t (tgt := 58) hc dX10_arithmetic_51 rfl (by decide) ?_
          refine g_iconst (v := 0) hc dX10_arithmetic_58 (by decide) ?_
          refine g_iadd hc dX10_arithmetic_59 ?_
          exact g_iret hc dX10_arithmetic_60
  · have ho := ho.2 c_8
    refine g_aload_n (i := 0) hc 1 dX10_arithmetic_61 rfl rfl ?_
    refine g_iload_n (i := 3) hc 0 dX10_arithmetic_62 rfl rfl ?_
    refine g_callVI hc 0 [.int r1] (fun l => c_X10_get l η r1 S1 ho.1) wtM_80 ge_X10_get rfl ⟨rfl, rfl⟩ ⟨Nat.le_of_ble_eq_true rfl, Nat.le_of_ble_eq_true rfl⟩ rfl rfl rfl (Nat.le_of_ble_eq_true rfl) dX10_arithmetic_63 (fun r5 S5 e5 f5 => ?_)
    have ho := ho.2 r5 S5 e5 f5
    refine g_istore (i := 4) (lv' := [(4, .int r5), (3, .int r1), (0, .ref (η.1 0)), (1, .int a0), (2, .int a1)]) hc dX10_arithmetic_66 (by decide) rfl ?_
    refine g_iload_n (i := 1) hc 3 dX10_arithmetic_68 rfl rfl ?_
    refine g_tsw (tgt := 112) hc 0 dX10_arithmetic_69 ⟨by decide, by decide, rfl⟩ rfl (fun c_69_0 => ?_) (fun c_69_0 => ?_)
    · have ho := ho.1 c_69_0
      refine g_aload_n (i := 0) hc 2 dX10_arithmetic_112 rfl rfl ?_
      refine g_aload_n (i := 0) hc 2 dX10_arithmetic_113 rfl rfl ?_
      refine g_aload_n (i := 0) hc 2 dX10_arithmetic_114 rfl rfl ?_
      refine gf_M_0_a hc wtM_170 dX10_arithmetic_115 ?_
      refine g_iload (i := 4) hc 0 dX10_arithmetic_118 rfl ?_
      refine g_ior hc dX10_arithmetic_120 ?_
      refine g_callVI hc 0 [.int ((S5.1 1) ||| r5)] (fun l => c_X10_shown l η ((S5.1 1) ||| r5) S5 ho.1) wtM_169 ge_X10_shown rfl ⟨rfl, rfl⟩ ⟨Nat.le_of_ble_eq_true rfl, Nat.le_of_ble_eq_true rfl⟩ rfl rfl rfl (Nat.le_of_ble_eq_true rfl) dX10_arithmetic_121 (fun r6 S6 e6 f6 => ?_)
      have ho := ho.2 r6 S6 e6 f6
      refine pf_M_0_a (v := r6) hc wtM_170 dX10_arithmetic_124 (fun S7 f7 => ?_)
      have ho := ho S7 f7
      refine g_goto (tgt := 211) hc dX10_arithmetic_127 rfl ?_
      exact g_lv [2, 4] rfl (g_jn_X10_arithmetic_211 hc _ _ ho)
    have ho := ho.2 c_69_0
    refine g_tsw (tgt := 130) hc 1 dX10_arithmetic_69 ⟨by decide, by decide, rfl⟩ rfl (fun c_69_1 => ?_) (fun c_69_1 => ?_)
    · have ho := ho.1 c_69_1
      refine g_aload_n (i := 0) hc 2 dX10_arithmetic_130 rfl rfl ?_
      refine g_aload_n (i := 0) hc 2 dX10_arithmetic_131 rfl rfl ?_
      refine g_aload_n (i := 0) hc 2 dX10_arithmetic_132 rfl rfl ?_
      refine gf_M_0_a hc wtM_170 dX10_arithmetic_133 ?_
      refine g_iload (i := 4) hc 0 dX10_arithmetic_136 rfl ?_
      refine g_iand hc dX10_arithmetic_138 ?_
      refine g_callVI hc 0 [.int ((S5.1 1) &&& r5)] (fun l => c_X10_shown l η ((S5.1 1) &&& r5) S5 ho.1) wtM_169 ge_X10_shown rfl ⟨rfl, rfl⟩ ⟨Nat.le_of_ble_eq_true rfl, Nat.le_of_ble_eq_true rfl⟩ rfl rfl rfl (Nat.le_of_ble_eq_true rfl) dX10_arithmetic_139 (fun r9 S9 e9 f9 => ?_)
      have ho := ho.2 r9 S9 e9 f9
      refine pf_M_0_a (v := r9) hc wtM_170 dX10_arithmetic_142 (fun S10 f10 => ?_)
      have ho := ho S10 f10
      refine g_goto (tgt := 211) hc dX10_arithmetic_145 rfl ?_
      exact g_lv [2, 4] rfl (g_jn_X10_arithmetic_211 hc _ _ ho)
    have ho := ho.2 c_69_1
    refine g_tsw (tgt := 148) hc 2 dX10_arithmetic_69 ⟨by decide, by decide, rfl⟩ rfl (fun c_69_2 => ?_) (fun c_69_2 => ?_)
    · have ho := ho.1 c_69_2
      refine g_aload_n (i := 0) hc 2 dX10_arithmetic_148 rfl rfl ?_
      refine g_aload_n (i := 0) hc 2 dX10_arithmetic_149 rfl rfl ?_
      refine g_aload_n (i := 0) hc 2 dX10_arithmetic_150 rfl rfl ?_
      refine gf_M_0_a hc wtM_170 dX10_arithmetic_151 ?_
      refine g_iload (i := 4) hc 0 dX10_arithmetic_154 rfl ?_
      refine g_ixor hc dX10_arithmetic_156 ?_
      refine g_callVI hc 0 [.int ((S5.1 1) ^^^ r5)] (fun l => c_X10_shown l η ((S5.1 1) ^^^ r5) S5 ho.1) wtM_169 ge_X10_shown rfl ⟨rfl, rfl⟩ ⟨Nat.le_of_ble_eq_true rfl, Nat.le_of_ble_eq_true rfl⟩ rfl rfl rfl (Nat.le_of_ble_eq_true rfl) dX10_arithmetic_157 (fun r11 S11 e11 f11 => ?_)
      have ho := ho.2 r11 S11 e11 f11
      refine pf_M_0_a (v := r11) hc wtM_170 dX10_arithmetic_160 (fun S12 f12 => ?_)
      have ho := ho S12 f12
      refine g_goto (tgt := 211) hc dX10_arithmetic_163 rfl ?_
      exact g_lv [2, 4] rfl (g_jn_X10_arithmetic_211 hc _ _ ho)
    have ho := ho.2 c_69_2
    refine g_tsw (tgt := 166) hc 3 dX10_arithmetic_69 ⟨by decide, by decide, rfl⟩ rfl (fun c_69_3 => ?_) (fun c_69_3 => ?_)
    · have ho := ho.1 c_69_3
      refine g_aload_n (i := 0) hc 2 dX10_arithmetic_166 rfl rfl ?_
      refine g_iload (i := 4) hc 0 dX10_arithmetic_167 rfl ?_
      refine g_callVV hc 0 [.int r5] (fun l => c_X10_add l η r5 S5 ho.1) wtM_185 ge_X10_add rfl ⟨rfl, rfl⟩ ⟨Nat.le_of_ble_eq_true rfl, Nat.le_of_ble_eq_true rfl⟩ rfl rfl rfl (Nat.le_of_ble_eq_true rfl) dX10_arithmetic_169 (fun r13 S13 e13 f13 => ?_)
      have ho := ho.2 r13 S13 e13 f13
      refine g_goto (tgt := 211) hc dX10_arithmetic_172 rfl ?_
      exact g_lv [2, 4] rfl (g_jn_X10_arithmetic_211 hc _ _ ho)
    have ho := ho.2 c_69_3
    refine g_tsw (tgt := 201) hc 4 dX10_arithmetic_69 ⟨by decide, by decide, rfl⟩ rfl (fun c_69_4 => ?_) (fun c_69_4 => ?_)
    · have ho := ho.1 c_69_4
      refine g_aload_n (i := 0) hc 2 dX10_arithmetic_201 rfl rfl ?_
      refine g_iload (i := 4) hc 0 dX10_arithmetic_202 rfl ?_
      refine g_sipush (v := 255) hc dX10_arithmetic_204 (by decide) ?_
      refine g_ixor hc dX10_arithmetic_207 ?_
      refine g_callVV hc 0 [.int (r5 ^^^ 255)] (fun l => c_X10_add l η (r5 ^^^ 255) S5 ho.1) wtM_185 ge_X10_add rfl ⟨rfl, rfl⟩ ⟨Nat.le_of_ble_eq_true rfl, Nat.le_of_ble_eq_true rfl⟩ rfl rfl rfl (Nat.le_of_ble_eq_true rfl) dX10_arithmetic_208 (fun r14 S14 e14 f14 => ?_)
      have ho := ho.2 r14 S14 e14 f14
      exact g_lv [2, 4] rfl (g_jn_X10_arithmetic_211 hc _ _ ho)
    have ho := ho.2 c_69_4
    refine g_tsw (tgt := 175) hc 5 dX10_arithmetic_69 ⟨by decide, by decide, rfl⟩ rfl (fun c_69_5 => ?_) (fun c_69_5 => ?_)
    · have ho := ho.1 c_69_5
      refine g_aload_n (i := 0) hc 2 dX10_arithmetic_175 rfl rfl ?_
      refine g_aload_n (i := 0) hc 2 dX10_arithmetic_176 rfl rfl ?_
      refine g_iload (i := 4) hc 0 dX10_arithmetic_177 rfl ?_
      refine g_callVI hc 0 [.int r5] (fun l => c_X10_shown l η r5 S5 ho.1) wtM_169 ge_X10_shown rfl ⟨rfl, rfl⟩ ⟨Nat.le_of_ble_eq_true rfl, Nat.le_of_ble_eq_true rfl⟩ rfl rfl rfl (Nat.le_of_ble_eq_true rfl) dX10_arithmetic_179 (fun r15 S15 e15 f15 => ?_)
      have ho := ho.2 r15 S15 e15 f15
      refine pf_M_0_a (v := r15) hc wtM_170 dX10_arithmetic_182 (fun S16 f16 => ?_)
      have ho := ho S16 f16
      refine g_goto (tgt := 211) hc dX10_arithmetic_185 rfl ?_
      exact g_lv [2, 4] rfl (g_jn_X10_arithmetic_211 hc _ _ ho)
    have ho := ho.2 c_69_5
    refine g_tsw (tgt := 188) hc 6 dX10_arithmetic_69 ⟨by decide, by decide, rfl⟩ rfl (fun c_69_6 => ?_) (fun c_69_6 => ?_)
    · have ho := ho.1 c_69_6
      refine g_aload_n (i := 0) hc 2 dX10_arithmetic_188 rfl rfl ?_
      refine g_aload_n (i := 0) hc 2 dX10_arithmetic_189 rfl rfl ?_
      refine gf_M_0_a hc wtM_170 dX10_arithmetic_190 ?_
      refine g_iload (i := 4) hc 0 dX10_arithmetic_193 rfl ?_
      refine g_callVV hc 0 [.int (S5.1 1), .int r5] (fun l => c_X10_compare l η (S5.1 1) r5 S5 ho.1) wtM_189 ge_X10_compare rfl ⟨rfl, rfl⟩ ⟨Nat.le_of_ble_eq_true rfl, Nat.le_of_ble_eq_true rfl⟩ rfl rfl rfl (Nat.le_of_ble_eq_true rfl) dX10_arithmetic_195 (fun r17 S17 e17 f17 => ?_)
      have ho := ho.2 r17 S17 e17 f17
      refine g_goto (tgt := 211) hc dX10_arithmetic_198 rfl ?_
      exact g_lv [2, 4] rfl (g_jn_X10_arithmetic_211 hc _ _ ho)
    have ho := ho.2 c_69_6
    refine g_tswd (tgt := 201) hc dX10_arithmetic_69 (by have := lv_neT c_69_0 (a := 0) (by decide); have := lv_neT c_69_1 (a := 1) (by decide); have := lv_neT c_69_2 (a := 2) (by decide); have := lv_neT c_69_3 (a := 3) (by decide); have := lv_neT c_69_4 (a := 4) (by decide); have := lv_neT c_69_5 (a := 5) (by decide); have := lv_neT c_69_6 (a := 6) (by decide); omega) rfl ?_
    refine g_aload_n (i := 0) hc 2 dX10_arithmetic_201 rfl rfl ?_
    refine g_iload (i := 4) hc 0 dX10_arithmetic_202 rfl ?_
    refine g_sipush (v := 255) hc dX10_arithmetic_204 (by decide) ?_
    refine g_ixor hc dX10_arithmetic_207 ?_
    refine g_callVV hc 0 [.int (r5 ^^^ 255)] (fun l => c_X10_add l η (r5 ^^^ 255) S5 ho.1) wtM_185 ge_X10_add rfl ⟨rfl, rfl⟩ ⟨Nat.le_of_ble_eq_true rfl, Nat.le_of_ble_eq_true rfl⟩ rfl rfl rfl (Nat.le_of_ble_eq_true rfl) dX10_arithmetic_208 (fun r18 S18 e18 f18 => ?_)
    have ho := ho.2 r18 S18 e18 f18
    exact g_lv [2, 4] rfl (g_jn_X10_arithmetic_211 hc _ _ ho)

abbrev rm_X10_changed : Room := { frames := 2, cells := 0, slots := 0, locals := 43 }
def sp_X10_changed (a0 : Int32) (a1 : Int32) (S : gSt) : Int32 × gSt := (if a0 ≤ 5 then (if 2 ≤ a0 then (if (a1 &&& 1) = 0 then gB (sp_X10_flag 1 false S) (fun (_ : Unit) S1 => (if 2 ≤ a0 then (if a0 = 3 then gB (sp_X10_shown ((a1 >>> ((1 : Int32) &&& (31 : Int32))) ||| (((S.1 5) &&& 1) <<< ((7 : Int32) &&& (31 : Int32)))) S1) (fun r2 S2 => (r2, S2)) else gB (sp_X10_shown ((a1 >>> ((1 : Int32) &&& (31 : Int32))) ||| 0) S1) (fun r3 S3 => (r3, S3))) else (if a0 = 1 then gB (sp_X10_shown (((a1 <<< ((1 : Int32) &&& (31 : Int32))) &&& 255) ||| ((S.1 5) &&& 1)) S1) (fun r4 S4 => (r4, S4)) else gB (sp_X10_shown (((a1 <<< ((1 : Int32) &&& (31 : Int32))) &&& 255) ||| 0) S1) (fun r5 S5 => (r5, S5))))) else gB (sp_X10_flag 1 true S) (fun (_ : Unit) S6 => (if 2 ≤ a0 then (if a0 = 3 then gB (sp_X10_shown ((a1 >>> ((1 : Int32) &&& (31 : Int32))) ||| (((S.1 5) &&& 1) <<< ((7 : Int32) &&& (31 : Int32)))) S6) (fun r7 S7 => (r7, S7)) else gB (sp_X10_shown ((a1 >>> ((1 : Int32) &&& (31 : Int32))) ||| 0) S6) (fun r8 S8 => (r8, S8))) else (if a0 = 1 then gB (sp_X10_shown (((a1 <<< ((1 : Int32) &&& (31 : Int32))) &&& 255) ||| ((S.1 5) &&& 1)) S6) (fun r9 S9 => (r9, S9)) else gB (sp_X10_shown (((a1 <<< ((1 : Int32) &&& (31 : Int32))) &&& 255) ||| 0) S6) (fun r10 S10 => (r10, S10)))))) else (if (a1 &&& 128) = 0 then gB (sp_X10_flag 1 false S) (fun (_ : Unit) S11 => (if 2 ≤ a0 then (if a0 = 3 then gB (sp_X10_shown ((a1 >>> ((1 : Int32) &&& (31 : Int32))) ||| (((S.1 5) &&& 1) <<< ((7 : Int32) &&& (31 : Int32)))) S11) (fun r12 S12 => (r12, S12)) else gB (sp_X10_shown ((a1 >>> ((1 : Int32) &&& (31 : Int32))) ||| 0) S11) (fun r13 S13 => (r13, S13))) else (if a0 = 1 then gB (sp_X10_shown (((a1 <<< ((1 : Int32) &&& (31 : Int32))) &&& 255) ||| ((S.1 5) &&& 1)) S11) (fun r14 S14 => (r14, S14)) else gB (sp_X10_shown (((a1 <<< ((1 : Int32) &&& (31 : Int32))) &&& 255) ||| 0) S11) (fun r15 S15 => (r15, S15))))) else gB (sp_X10_flag 1 true S) (fun (_ : Unit) S16 => (if 2 ≤ a0 then (if a0 = 3 then gB (sp_X10_shown ((a1 >>> ((1 : Int32) &&& (31 : Int32))) ||| (((S.1 5) &&& 1) <<< ((7 : Int32) &&& (31 : Int32)))) S16) (fun r17 S17 => (r17, S17)) else gB (sp_X10_shown ((a1 >>> ((1 : Int32) &&& (31 : Int32))) ||| 0) S16) (fun r18 S18 => (r18, S18))) else (if a0 = 1 then gB (sp_X10_shown (((a1 <<< ((1 : Int32) &&& (31 : Int32))) &&& 255) ||| ((S.1 5) &&& 1)) S16) (fun r19 S19 => (r19, S19)) else gB (sp_X10_shown (((a1 <<< ((1 : Int32) &&& (31 : Int32))) &&& 255) ||| 0) S16) (fun r20 S20 => (r20, S20))))))) else (if a0 = 6 then gB (sp_X10_shown ((a1 + 255) &&& 255) S) (fun r21 S21 => (r21, S21)) else gB (sp_X10_shown ((a1 + 1) &&& 255) S) (fun r22 S22 => (r22, S22))))
def ok_X10_changed (a0 : Int32) (a1 : Int32) (S : gSt) : Prop := ((a0 ≤ 5 → ((2 ≤ a0 → (((a1 &&& 1) = 0 → (ok_X10_flag 1 false S ∧ ∀ (r1 : Unit) (S1 : gSt), r1 = (sp_X10_flag 1 false S).1 → S1 = (sp_X10_flag 1 false S).2 → ((2 ≤ a0 → ((a0 = 3 → (ok_X10_shown ((a1 >>> ((1 : Int32) &&& (31 : Int32))) ||| (((S.1 5) &&& 1) <<< ((7 : Int32) &&& (31 : Int32)))) S1 ∧ ∀ (r2 : Int32) (S2 : gSt), r2 = (sp_X10_shown ((a1 >>> ((1 : Int32) &&& (31 : Int32))) ||| (((S.1 5) &&& 1) <<< ((7 : Int32) &&& (31 : Int32)))) S1).1 → S2 = (sp_X10_shown ((a1 >>> ((1 : Int32) &&& (31 : Int32))) ||| (((S.1 5) &&& 1) <<< ((7 : Int32) &&& (31 : Int32)))) S1).2 → True)) ∧ (¬ a0 = 3 → (ok_X10_shown ((a1 >>> ((1 : Int32) &&& (31 : Int32))) ||| 0) S1 ∧ ∀ (r3 : Int32) (S3 : gSt), r3 = (sp_X10_shown ((a1 >>> ((1 : Int32) &&& (31 : Int32))) ||| 0) S1).1 → S3 = (sp_X10_shown ((a1 >>> ((1 : Int32) &&& (31 : Int32))) ||| 0) S1).2 → True)))) ∧ (¬ 2 ≤ a0 → ((a0 = 1 → (ok_X10_shown (((a1 <<< ((1 : Int32) &&& (31 : Int32))) &&& 255) ||| ((S.1 5) &&& 1)) S1 ∧ ∀ (r4 : Int32) (S4 : gSt), r4 = (sp_X10_shown (((a1 <<< ((1 : Int32) &&& (31 : Int32))) &&& 255) ||| ((S.1 5) &&& 1)) S1).1 → S4 = (sp_X10_shown (((a1 <<< ((1 : Int32) &&& (31 : Int32))) &&& 255) ||| ((S.1 5) &&& 1)) S1).2 → True)) ∧ (¬ a0 = 1 → (ok_X10_shown (((a1 <<< ((1 : Int32) &&& (31 : Int32))) &&& 255) ||| 0) S1 ∧ ∀ (r5 : Int32) (S5 : gSt), r5 = (sp_X10_shown (((a1 <<< ((1 : Int32) &&& (31 : Int32))) &&& 255) ||| 0) S1).1 → S5 = (sp_X10_shown (((a1 <<< ((1 : Int32) &&& (31 : Int32))) &&& 255) ||| 0) S1).2 → True))))))) ∧ (¬ (a1 &&& 1) = 0 → (ok_X10_flag 1 true S ∧ ∀ (r6 : Unit) (S6 : gSt), r6 = (sp_X10_flag 1 true S).1 → S6 = (sp_X10_flag 1 true S).2 → ((2 ≤ a0 → ((a0 = 3 → (ok_X10_shown ((a1 >>> ((1 : Int32) &&& (31 : Int32))) ||| (((S.1 5) &&& 1) <<< ((7 : Int32) &&& (31 : Int32)))) S6 ∧ ∀ (r7 : Int32) (S7 : gSt), r7 = (sp_X10_shown ((a1 >>> ((1 : Int32) &&& (31 : Int32))) ||| (((S.1 5) &&& 1) <<< ((7 : Int32) &&& (31 : Int32)))) S6).1 → S7 = (sp_X10_shown ((a1 >>> ((1 : Int32) &&& (31 : Int32))) ||| (((S.1 5) &&& 1) <<< ((7 : Int32) &&& (31 : Int32)))) S6).2 → True)) ∧ (¬ a0 = 3 → (ok_X10_shown ((a1 >>> ((1 : Int32) &&& (31 : Int32))) ||| 0) S6 ∧ ∀ (r8 : Int32) (S8 : gSt), r8 = (sp_X10_shown ((a1 >>> ((1 : Int32) &&& (31 : Int32))) ||| 0) S6).1 → S8 = (sp_X10_shown ((a1 >>> ((1 : Int32) &&& (31 : Int32))) ||| 0) S6).2 → True)))) ∧ (¬ 2 ≤ a0 → ((a0 = 1 → (ok_X10_shown (((a1 <<< ((1 : Int32) &&& (31 : Int32))) &&& 255) ||| ((S.1 5) &&& 1)) S6 ∧ ∀ (r9 : Int32) (S9 : gSt), r9 = (sp_X10_shown (((a1 <<< ((1 : Int32) &&& (31 : Int32))) &&& 255) ||| ((S.1 5) &&& 1)) S6).1 → S9 = (sp_X10_shown (((a1 <<< ((1 : Int32) &&& (31 : Int32))) &&& 255) ||| ((S.1 5) &&& 1)) S6).2 → True)) ∧ (¬ a0 = 1 → (ok_X10_shown (((a1 <<< ((1 : Int32) &&& (31 : Int32))) &&& 255) ||| 0) S6 ∧ ∀ (r10 : Int32) (S10 : gSt), r10 = (sp_X10_shown (((a1 <<< ((1 : Int32) &&& (31 : Int32))) &&& 255) ||| 0) S6).1 → S10 = (sp_X10_shown (((a1 <<< ((1 : Int32) &&& (31 : Int32))) &&& 255) ||| 0) S6).2 → True))))))))) ∧ (¬ 2 ≤ a0 → (((a1 &&& 128) = 0 → (ok_X10_flag 1 false S ∧ ∀ (r11 : Unit) (S11 : gSt), r11 = (sp_X10_flag 1 false S).1 → S11 = (sp_X10_flag 1 false S).2 → ((2 ≤ a0 → ((a0 = 3 → (ok_X10_shown ((a1 >>> ((1 : Int32) &&& (31 : Int32))) ||| (((S.1 5) &&& 1) <<< ((7 : Int32) &&& (31 : Int32)))) S11 ∧ ∀ (r12 : Int32) (S12 : gSt), r12 = (sp_X10_shown ((a1 >>> ((1 : Int32) &&& (31 : Int32))) ||| (((S.1 5) &&& 1) <<< ((7 : Int32) &&& (31 : Int32)))) S11).1 → S12 = (sp_X10_shown ((a1 >>> ((1 : Int32) &&& (31 : Int32))) ||| (((S.1 5) &&& 1) <<< ((7 : Int32) &&& (31 : Int32)))) S11).2 → True)) ∧ (¬ a0 = 3 → (ok_X10_shown ((a1 >>> ((1 : Int32) &&& (31 : Int32))) ||| 0) S11 ∧ ∀ (r13 : Int32) (S13 : gSt), r13 = (sp_X10_shown ((a1 >>> ((1 : Int32) &&& (31 : Int32))) ||| 0) S11).1 → S13 = (sp_X10_shown ((a1 >>> ((1 : Int32) &&& (31 : Int32))) ||| 0) S11).2 → True)))) ∧ (¬ 2 ≤ a0 → ((a0 = 1 → (ok_X10_shown (((a1 <<< ((1 : Int32) &&& (31 : Int32))) &&& 255) ||| ((S.1 5) &&& 1)) S11 ∧ ∀ (r14 : Int32) (S14 : gSt), r14 = (sp_X10_shown (((a1 <<< ((1 : Int32) &&& (31 : Int32))) &&& 255) ||| ((S.1 5) &&& 1)) S11).1 → S14 = (sp_X10_shown (((a1 <<< ((1 : Int32) &&& (31 : Int32))) &&& 255) ||| ((S.1 5) &&& 1)) S11).2 → True)) ∧ (¬ a0 = 1 → (ok_X10_shown (((a1 <<< ((1 : Int32) &&& (31 : Int32))) &&& 255) ||| 0) S11 ∧ ∀ (r15 : Int32) (S15 : gSt), r15 = (sp_X10_shown (((a1 <<< ((1 : Int32) &&& (31 : Int32))) &&& 255) ||| 0) S11).1 → S15 = (sp_X10_shown (((a1 <<< ((1 : Int32) &&& (31 : Int32))) &&& 255) ||| 0) S11).2 → True))))))) ∧ (¬ (a1 &&& 128) = 0 → (ok_X10_flag 1 true S ∧ ∀ (r16 : Unit) (S16 : gSt), r16 = (sp_X10_flag 1 true S).1 → S16 = (sp_X10_flag 1 true S).2 → ((2 ≤ a0 → ((a0 = 3 → (ok_X10_shown ((a1 >>> ((1 : Int32) &&& (31 : Int32))) ||| (((S.1 5) &&& 1) <<< ((7 : Int32) &&& (31 : Int32)))) S16 ∧ ∀ (r17 : Int32) (S17 : gSt), r17 = (sp_X10_shown ((a1 >>> ((1 : Int32) &&& (31 : Int32))) ||| (((S.1 5) &&& 1) <<< ((7 : Int32) &&& (31 : Int32)))) S16).1 → S17 = (sp_X10_shown ((a1 >>> ((1 : Int32) &&& (31 : Int32))) ||| (((S.1 5) &&& 1) <<< ((7 : Int32) &&& (31 : Int32)))) S16).2 → True)) ∧ (¬ a0 = 3 → (ok_X10_shown ((a1 >>> ((1 : Int32) &&& (31 : Int32))) ||| 0) S16 ∧ ∀ (r18 : Int32) (S18 : gSt), r18 = (sp_X10_shown ((a1 >>> ((1 : Int32) &&& (31 : Int32))) ||| 0) S16).1 → S18 = (sp_X10_shown ((a1 >>> ((1 : Int32) &&& (31 : Int32))) ||| 0) S16).2 → True)))) ∧ (¬ 2 ≤ a0 → ((a0 = 1 → (ok_X10_shown (((a1 <<< ((1 : Int32) &&& (31 : Int32))) &&& 255) ||| ((S.1 5) &&& 1)) S16 ∧ ∀ (r19 : Int32) (S19 : gSt), r19 = (sp_X10_shown (((a1 <<< ((1 : Int32) &&& (31 : Int32))) &&& 255) ||| ((S.1 5) &&& 1)) S16).1 → S19 = (sp_X10_shown (((a1 <<< ((1 : Int32) &&& (31 : Int32))) &&& 255) ||| ((S.1 5) &&& 1)) S16).2 → True)) ∧ (¬ a0 = 1 → (ok_X10_shown (((a1 <<< ((1 : Int32) &&& (31 : Int32))) &&& 255) ||| 0) S16 ∧ ∀ (r20 : Int32) (S20 : gSt), r20 = (sp_X10_shown (((a1 <<< ((1 : Int32) &&& (31 : Int32))) &&& 255) ||| 0) S16).1 → S20 = (sp_X10_shown (((a1 <<< ((1 : Int32) &&& (31 : Int32))) &&& 255) ||| 0) S16).2 → True))))))))))) ∧ (¬ a0 ≤ 5 → ((a0 = 6 → (ok_X10_shown ((a1 + 255) &&& 255) S ∧ ∀ (r21 : Int32) (S21 : gSt), r21 = (sp_X10_shown ((a1 + 255) &&& 255) S).1 → S21 = (sp_X10_shown ((a1 + 255) &&& 255) S).2 → True)) ∧ (¬ a0 = 6 → (ok_X10_shown ((a1 + 1) &&& 255) S ∧ ∀ (r22 : Int32) (S22 : gSt), r22 = (sp_X10_shown ((a1 + 1) &&& 255) S).1 → S22 = (sp_X10_shown ((a1 + 1) &&& 255) S).2 → True)))))
set_option maxRecDepth 100000 in
set_option maxHeartbeats 4000000 in
theorem c_X10_changed (l : Launch) (η : gE) (a0 : Int32) (a1 : Int32) (S : gSt) (ho : ok_X10_changed a0 a1 S) : gMet l yX10_changed cX10_changed 4 (some .int) rm_X10_changed (oM η) [.ref (η.1 0), .int a0, .int a1] S (oI (sp_X10_changed a0 a1 S).1) (sp_X10_changed a0 a1 S).2 := by
  refine gMet_of (X := sp_X10_changed a0 a1 S) (lv := [(0, .ref (η.1 0)), (1, .int a0), (2, .int a1)]) oI zM_ok (by decide +kernel) (Nat.le_of_ble_eq_true rfl) rfl (fun κ hc => ?_)
  have hc : gC (oM η) κ cX10_changed 4 RX10 (some .int) rm_X10_changed := hc
  unfold sp_X10_changed
  unfold ok_X10_changed at ho
  refine g_aload_n (i := 0) hc 0 dX10_changed_0 rfl rfl ?_
  refine gf_M_0_p hc wtM_138 dX10_changed_1 ?_
  refine g_iconst (v := 1) hc dX10_changed_4 (by decide) ?_
  refine g_iand hc dX10_changed_5 ?_
  refine g_istore_n (i := 3) (lv' := [(3, .int ((S.1 5) &&& 1)), (0, .ref (η.1 0)), (1, .int a0), (2, .int a1)]) hc dX10_changed_6 rfl (by decide) rfl ?_
  refine g_iload_n (i := 1) hc 2 dX10_changed_7 rfl rfl ?_
  refine g_iconst (v := 5) hc dX10_changed_8 (by decide) ?_
  refine g_icmple (tgt := 36) hc dX10_changed_9 rfl (fun c_9 => ?_) (fun c_9 => ?_)
  · have ho := ho.1 c_9
    refine g_aload_n (i := 0) hc 1 dX10_changed_36 rfl rfl ?_
    refine g_iconst (v := 1) hc dX10_changed_37 (by decide) ?_
    refine g_iload_n (i := 2) hc 3 dX10_changed_38 rfl rfl ?_
    refine g_iload_n (i := 1) hc 2 dX10_changed_39 rfl rfl ?_
    refine g_iconst (v := 2) hc dX10_changed_40 (by decide) ?_
    refine g_icmpge (tgt := 50) hc dX10_changed_41 rfl (fun c_41 => ?_) (fun c_41 => ?_)
    · have ho := ho.1 c_41
      refine g_iconst (v := 1) hc dX10_changed_50 (by decide) ?_
      refine g_iand hc dX10_changed_51 ?_
      refine g_ifeq (tgt := 59) hc dX10_changed_52 rfl (fun c_52 => ?_) (fun c_52 => ?_)
      · have ho := ho.1 c_52
        refine g_iconst (v := 0) hc dX10_changed_59 (by decide) ?_
        refine g_callVV hc 0 [.int 1, .int (bI false)] (fun l => c_X10_flag l η 1 false S ho.1) wtM_142 ge_X10_flag rfl ⟨rfl, rfl⟩ ⟨Nat.le_of_ble_eq_true rfl, Nat.le_of_ble_eq_true rfl⟩ rfl rfl rfl (Nat.le_of_ble_eq_true rfl) dX10_changed_60 (fun r1 S1 e1 f1 => ?_)
        have ho := ho.2 r1 S1 e1 f1
        refine g_iload_n (i := 1) hc 2 dX10_changed_63 rfl rfl ?_
        refine g_iconst (v := 2) hc dX10_changed_64 (by decide) ?_
        refine g_icmpge (tgt := 91) hc dX10_changed_65 rfl (fun c_65 => ?_) (fun c_65 => ?_)
        · have ho := ho.1 c_65
          refine g_aload_n (i := 0) hc 1 dX10_changed_91 rfl rfl ?_
          refine g_iload_n (i := 2) hc 3 dX10_changed_92 rfl rfl ?_
          refine g_iconst (v := 1) hc dX10_changed_93 (by decide) ?_
          refine g_ishr hc dX10_changed_94 ?_
          refine g_iload_n (i := 1) hc 2 dX10_changed_95 rfl rfl ?_
          refine g_iconst (v := 3) hc dX10_changed_96 (by decide) ?_
          refine g_icmpne (tgt := 107) hc dX10_changed_97 rfl (fun c_97 => ?_) (fun c_97 => ?_)
          · have ho := ho.1 c_97
            refine g_iload_n (i := 3) hc 0 dX10_changed_100 rfl rfl ?_
            refine g_bipush (v := 7) hc dX10_changed_101 (by decide) ?_
            refine g_ishl hc dX10_changed_103 ?_
            refine g_goto (tgt := 108) hc dX10_changed_104 rfl ?_
            refine g_ior hc dX10_changed_108 ?_
            refine g_callVI hc 0 [.int ((a1 >>> ((1 : Int32) &&& (31 : Int32))) ||| (((S.1 5) &&& 1) <<< ((7 : Int32) &&& (31 : Int32))))] (fun l => c_X10_shown l η ((a1 >>> ((1 : Int32) &&& (31 : Int32))) ||| (((S.1 5) &&& 1) <<< ((7 : Int32) &&& (31 : Int32)))) S1 ho.1) wtM_169 ge_X10_shown rfl ⟨rfl, rfl⟩ ⟨Nat.le_of_ble_eq_true rfl, Nat.le_of_ble_eq_true rfl⟩ rfl rfl rfl (Nat.le_of_ble_eq_true rfl) dX10_changed_109 (fun r2 S2 e2 f2 => ?_)
            have ho := ho.2 r2 S2 e2 f2
            exact g_iret hc dX10_changed_112
          · have ho := ho.2 c_97
            refine g_iconst (v := 0) hc dX10_changed_107 (by decide) ?_
            refine g_ior hc dX10_changed_108 ?_
            refine g_callVI hc 0 [.int ((a1 >>> ((1 : Int32) &&& (31 : Int32))) ||| 0)] (fun l => c_X10_shown l η ((a1 >>> ((1 : Int32) &&& (31 : Int32))) ||| 0) S1 ho.1) wtM_169 ge_X10_shown rfl ⟨rfl, rfl⟩ ⟨Nat.le_of_ble_eq_true rfl, Nat.le_of_ble_eq_true rfl⟩ rfl rfl rfl (Nat.le_of_ble_eq_true rfl) dX10_changed_109 (fun r3 S3 e3 f3 => ?_)
            have ho := ho.2 r3 S3 e3 f3
            exact g_iret hc dX10_changed_112
        · have ho := ho.2 c_65
          refine g_aload_n (i := 0) hc 1 dX10_changed_68 rfl rfl ?_
          refine g_iload_n (i := 2) hc 3 dX10_changed_69 rfl rfl ?_
          refine g_iconst (v := 1) hc dX10_changed_70 (by decide) ?_
          refine g_ishl hc dX10_changed_71 ?_
          refine g_sipush (v := 255) hc dX10_changed_72 (by decide) ?_
          refine g_iand hc dX10_changed_75 ?_
          refine g_iload_n (i := 1) hc 2 dX10_changed_76 rfl rfl ?_
          refine g_iconst (v := 1) hc dX10_changed_77 (by decide) ?_
          refine g_icmpne (tgt := 85) hc dX10_changed_78 rfl (fun c_78 => ?_) (fun c_78 => ?_)
          · have ho := ho.1 c_78
            refine g_iload_n (i := 3) hc 0 dX10_changed_81 rfl rfl ?_
            refine g_goto (tgt := 86) hc dX10_changed_82 rfl ?_
            refine g_ior hc dX10_changed_86 ?_
            refine g_callVI hc 0 [.int (((a1 <<< ((1 : Int32) &&& (31 : Int32))) &&& 255) ||| ((S.1 5) &&& 1))] (fun l => c_X10_shown l η (((a1 <<< ((1 : Int32) &&& (31 : Int32))) &&& 255) ||| ((S.1 5) &&& 1)) S1 ho.1) wtM_169 ge_X10_shown rfl ⟨rfl, rfl⟩ ⟨Nat.le_of_ble_eq_true rfl, Nat.le_of_ble_eq_true rfl⟩ rfl rfl rfl (Nat.le_of_ble_eq_true rfl) dX10_changed_87 (fun r4 S4 e4 f4 => ?_)
            have ho := ho.2 r4 S4 e4 f4
            exact g_iret hc dX10_changed_90
          · have ho := ho.2 c_78
            refine g_iconst (v := 0) hc dX10_changed_85 (by decide) ?_
            refine g_ior hc dX10_changed_86 ?_
            refine g_callVI hc 0 [.int (((a1 <<< ((1 : Int32) &&& (31 : Int32))) &&& 255) ||| 0)] (fun l => c_X10_shown l η (((a1 <<< ((1 : Int32) &&& (31 : Int32))) &&& 255) ||| 0) S1 ho.1) wtM_169 ge_X10_shown rfl ⟨rfl, rfl⟩ ⟨Nat.le_of_ble_eq_true rfl, Nat.le_of_ble_eq_true rfl⟩ rfl rfl rfl (Nat.le_of_ble_eq_true rfl) dX10_changed_87 (fun r5 S5 e5 f5 => ?_)
            have ho := ho.2 r5 S5 e5 f5
            exact g_iret hc dX10_changed_90
      · have ho := ho.2 c_52
        refine g_iconst (v := 1) hc dX10_changed_55 (by decide) ?_
        refine g_goto (tgt := 60) hc dX10_changed_56 rfl ?_
        refine g_callVV hc 0 [.int 1, .int (bI true)] (fun l => c_X10_flag l η 1 true S ho.1) wtM_142 ge_X10_flag rfl ⟨rfl, rfl⟩ ⟨Nat.le_of_ble_eq_true rfl, Nat.le_of_ble_eq_true rfl⟩ rfl rfl rfl (Nat.le_of_ble_eq_true rfl) dX10_changed_60 (fun r6 S6 e6 f6 => ?_)
        have ho := ho.2 r6 S6 e6 f6
        refine g_iload_n (i := 1) hc 2 dX10_changed_63 rfl rfl ?_
        refine g_iconst (v := 2) hc dX10_changed_64 (by decide) ?_
        refine g_icmpge (tgt := 91) hc dX10_changed_65 rfl (fun c_65 => ?_) (fun c_65 => ?_)
        · have ho := ho.1 c_65
          refine g_aload_n (i := 0) hc 1 dX10_changed_91 rfl rfl ?_
          refine g_iload_n (i := 2) hc 3 dX10_changed_92 rfl rfl ?_
          refine g_iconst (v := 1) hc dX10_changed_93 (by decide) ?_
          refine g_ishr hc dX10_changed_94 ?_
          refine g_iload_n (i := 1) hc 2 dX10_changed_95 rfl rfl ?_
          refine g_iconst (v := 3) hc dX10_changed_96 (by decide) ?_
          refine g_icmpne (tgt := 107) hc dX10_changed_97 rfl (fun c_97 => ?_) (fun c_97 => ?_)
          · have ho := ho.1 c_97
            refine g_iload_n (i := 3) hc 0 dX10_changed_100 rfl rfl ?_
            refine g_bipush (v := 7) hc dX10_changed_101 (by decide) ?_
            refine g_ishl hc dX10_changed_103 ?_
            refine g_goto (tgt := 108) hc dX10_changed_104 rfl ?_
            refine g_ior hc dX10_changed_108 ?_
            refine g_callVI hc 0 [.int ((a1 >>> ((1 : Int32) &&& (31 : Int32))) ||| (((S.1 5) &&& 1) <<< ((7 : Int32) &&& (31 : Int32))))] (fun l => c_X10_shown l η ((a1 >>> ((1 : Int32) &&& (31 : Int32))) ||| (((S.1 5) &&& 1) <<< ((7 : Int32) &&& (31 : Int32)))) S6 ho.1) wtM_169 ge_X10_shown rfl ⟨rfl, rfl⟩ ⟨Nat.le_of_ble_eq_true rfl, Nat.le_of_ble_eq_true rfl⟩ rfl rfl rfl (Nat.le_of_ble_eq_true rfl) dX10_changed_109 (fun r7 S7 e7 f7 => ?_)
            have ho := ho.2 r7 S7 e7 f7
            exact g_iret hc dX10_changed_112
          · have ho := ho.2 c_97
            refine g_iconst (v := 0) hc dX10_changed_107 (by decide) ?_
            refine g_ior hc dX10_changed_108 ?_
            refine g_callVI hc 0 [.int ((a1 >>> ((1 : Int32) &&& (31 : Int32))) ||| 0)] (fun l => c_X10_shown l η ((a1 >>> ((1 : Int32) &&& (31 : Int32))) ||| 0) S6 ho.1) wtM_169 ge_X10_shown rfl ⟨rfl, rfl⟩ ⟨Nat.le_of_ble_eq_true rfl, Nat.le_of_ble_eq_true rfl⟩ rfl rfl rfl (Nat.le_of_ble_eq_true rfl) dX10_changed_109 (fun r8 S8 e8 f8 => ?_)
            have ho := ho.2 r8 S8 e8 f8
            exact g_iret hc dX10_changed_112
        · have ho := ho.2 c_65
          refine g_aload_n (i := 0) hc 1 dX10_changed_68 rfl rfl ?_
          refine g_iload_n (i := 2) hc 3 dX10_changed_69 rfl rfl ?_
          refine g_iconst (v := 1) hc dX10_changed_70 (by decide) ?_
          refine g_ishl hc dX10_changed_71 ?_
          refine g_sipush (v := 255) hc dX10_changed_72 (by decide) ?_
          refine g_iand hc dX10_changed_75 ?_
          refine g_iload_n (i := 1) hc 2 dX10_changed_76 rfl rfl ?_
          refine g_iconst (v := 1) hc dX10_changed_77 (by decide) ?_
          refine g_icmpne (tgt := 85) hc dX10_changed_78 rfl (fun c_78 => ?_) (fun c_78 => ?_)
          · have ho := ho.1 c_78
            refine g_iload_n (i := 3) hc 0 dX10_changed_81 rfl rfl ?_
            refine g_goto (tgt := 86) hc dX10_changed_82 rfl ?_
            refine g_ior hc dX10_changed_86 ?_
            refine g_callVI hc 0 [.int (((a1 <<< ((1 : Int32) &&& (31 : Int32))) &&& 255) ||| ((S.1 5) &&& 1))] (fun l => c_X10_shown l η (((a1 <<< ((1 : Int32) &&& (31 : Int32))) &&& 255) ||| ((S.1 5) &&& 1)) S6 ho.1) wtM_169 ge_X10_shown rfl ⟨rfl, rfl⟩ ⟨Nat.le_of_ble_eq_true rfl, Nat.le_of_ble_eq_true rfl⟩ rfl rfl rfl (Nat.le_of_ble_eq_true rfl) dX10_changed_87 (fun r9 S9 e9 f9 => ?_)
            have ho := ho.2 r9 S9 e9 f9
            exact g_iret hc dX10_changed_90
          · have ho := ho.2 c_78
            refine g_iconst (v := 0) hc dX10_changed_85 (by decide) ?_
            refine g_ior hc dX10_changed_86 ?_
            refine g_callVI hc 0 [.int (((a1 <<< ((1 : Int32) &&& (31 : Int32))) &&& 255) ||| 0)] (fun l => c_X10_shown l η (((a1 <<< ((1 : Int32) &&& (31 : Int32))) &&& 255) ||| 0) S6 ho.1) wtM_169 ge_X10_shown rfl ⟨rfl, rfl⟩ ⟨Nat.le_of_ble_eq_true rfl, Nat.le_of_ble_eq_true rfl⟩ rfl rfl rfl (Nat.le_of_ble_eq_true rfl) dX10_changed_87 (fun r10 S10 e10 f10 => ?_)
            have ho := ho.2 r10 S10 e10 f10
            exact g_iret hc dX10_changed_90
    · have ho := ho.2 c_41
      refine g_sipush (v := 128) hc dX10_changed_44 (by decide) ?_
      refine g_goto (tgt := 51) hc dX10_changed_47 rfl ?_
      refine g_iand hc dX10_changed_51 ?_
      refine g_ifeq (tgt := 59) hc dX10_changed_52 rfl (fun c_52 => ?_) (fun c_52 => ?_)
      · have ho := ho.1 c_52
        refine g_iconst (v := 0) hc dX10_changed_59 (by decide) ?_
        refine g_callVV hc 0 [.int 1, .int (bI false)] (fun l => c_X10_flag l η 1 false S ho.1) wtM_142 ge_X10_flag rfl ⟨rfl, rfl⟩ ⟨Nat.le_of_ble_eq_true rfl, Nat.le_of_ble_eq_true rfl⟩ rfl rfl rfl (Nat.le_of_ble_eq_true rfl) dX10_changed_60 (fun r11 S11 e11 f11 => ?_)
        have ho := ho.2 r11 S11 e11 f11
        refine g_iload_n (i := 1) hc 2 dX10_changed_63 rfl rfl ?_
        refine g_iconst (v := 2) hc dX10_changed_64 (by decide) ?_
        refine g_icmpge (tgt := 91) hc dX10_changed_65 rfl (fun c_65 => ?_) (fun c_65 => ?_)
        · have ho := ho.1 c_65
          refine g_aload_n (i := 0) hc 1 dX10_changed_91 rfl rfl ?_
          refine g_iload_n (i := 2) hc 3 dX10_changed_92 rfl rfl ?_
          refine g_iconst (v := 1) hc dX10_changed_93 (by decide) ?_
          refine g_ishr hc dX10_changed_94 ?_
          refine g_iload_n (i := 1) hc 2 dX10_changed_95 rfl rfl ?_
          refine g_iconst (v := 3) hc dX10_changed_96 (by decide) ?_
          refine g_icmpne (tgt := 107) hc dX10_changed_97 rfl (fun c_97 => ?_) (fun c_97 => ?_)
          · have ho := ho.1 c_97
            refine g_iload_n (i := 3) hc 0 dX10_changed_100 rfl rfl ?_
            refine g_bipush (v := 7) hc dX10_changed_101 (by decide) ?_
            refine g_ishl hc dX10_changed_103 ?_
            refine g_goto (tgt := 108) hc dX10_changed_104 rfl ?_
            refine g_ior hc dX10_changed_108 ?_
            refine g_callVI hc 0 [.int ((a1 >>> ((1 : Int32) &&& (31 : Int32))) ||| (((S.1 5) &&& 1) <<< ((7 : Int32) &&& (31 : Int32))))] (fun l => c_X10_shown l η ((a1 >>> ((1 : Int32) &&& (31 : Int32))) ||| (((S.1 5) &&& 1) <<< ((7 : Int32) &&& (31 : Int32)))) S11 ho.1) wtM_169 ge_X10_shown rfl ⟨rfl, rfl⟩ ⟨Nat.le_of_ble_eq_true rfl, Nat.le_of_ble_eq_true rfl⟩ rfl rfl rfl (Nat.le_of_ble_eq_true rfl) dX10_changed_109 (fun r12 S12 e12 f12 => ?_)
            have ho := ho.2 r12 S12 e12 f12
            exact g_iret hc dX10_changed_112
          · have ho := ho.2 c_97
            refine g_iconst (v := 0) hc dX10_changed_107 (by decide) ?_
            refine g_ior hc dX10_changed_108 ?_
            refine g_callVI hc 0 [.int ((a1 >>> ((1 : Int32) &&& (31 : Int32))) ||| 0)] (fun l => c_X10_shown l η ((a1 >>> ((1 : Int32) &&& (31 : Int32))) ||| 0) S11 ho.1) wtM_169 ge_X10_shown rfl ⟨rfl, rfl⟩ ⟨Nat.le_of_ble_eq_true rfl, Nat.le_of_ble_eq_true rfl⟩ rfl rfl rfl (Nat.le_of_ble_eq_true rfl) dX10_changed_109 (fun r13 S13 e13 f13 => ?_)
            have ho := ho.2 r13 S13 e13 f13
            exact g_iret hc dX10_changed_112
        · have ho := ho.2 c_65
          refine g_aload_n (i := 0) hc 1 dX10_changed_68 rfl rfl ?_
          refine g_iload_n (i := 2) hc 3 dX10_changed_69 rfl rfl ?_
          refine g_iconst (v := 1) hc dX10_changed_70 (by decide) ?_
          refine g_ishl hc dX10_changed_71 ?_
          refine g_sipush (v := 255) hc dX10_changed_72 (by decide) ?_
          refine g_iand hc dX10_changed_75 ?_
          refine g_iload_n (i := 1) hc 2 dX10_changed_76 rfl rfl ?_
          refine g_iconst (v := 1) hc dX10_changed_77 (by decide) ?_
          refine g_icmpne (tgt := 85) hc dX10_changed_78 rfl (fun c_78 => ?_) (fun c_78 => ?_)
          · have ho := ho.1 c_78
            refine g_iload_n (i := 3) hc 0 dX10_changed_81 rfl rfl ?_
            refine g_goto (tgt := 86) hc dX10_changed_82 rfl ?_
            refine g_ior hc dX10_changed_86 ?_
            refine g_callVI hc 0 [.int (((a1 <<< ((1 : Int32) &&& (31 : Int32))) &&& 255) ||| ((S.1 5) &&& 1))] (fun l => c_X10_shown l η (((a1 <<< ((1 : Int32) &&& (31 : Int32))) &&& 255) ||| ((S.1 5) &&& 1)) S11 ho.1) wtM_169 ge_X10_shown rfl ⟨rfl, rfl⟩ ⟨Nat.le_of_ble_eq_true rfl, Nat.le_of_ble_eq_true rfl⟩ rfl rfl rfl (Nat.le_of_ble_eq_true rfl) dX10_changed_87 (fun r14 S14 e14 f14 => ?_)
            have ho := ho.2 r14 S14 e14 f14
            exact g_iret hc dX10_changed_90
          · have ho := ho.2 c_78
            refine g_iconst (v := 0) hc dX10_changed_85 (by decide) ?_
            refine g_ior hc dX10_changed_86 ?_
            refine g_callVI hc 0 [.int (((a1 <<< ((1 : Int32) &&& (31 : Int32))) &&& 255) ||| 0)] (fun l => c_X10_shown l η (((a1 <<< ((1 : Int32) &&& (31 : Int32))) &&& 255) ||| 0) S11 ho.1) wtM_169 ge_X10_shown rfl ⟨rfl, rfl⟩ ⟨Nat.le_of_ble_eq_true rfl, Nat.le_of_ble_eq_true rfl⟩ rfl rfl rfl (Nat.le_of_ble_eq_true rfl) dX10_changed_87 (fun r15 S15 e15 f15 => ?_)
            have ho := ho.2 r15 S15 e15 f15
            exact g_iret hc dX10_changed_90
      · have ho := ho.2 c_52
        refine g_iconst (v := 1) hc dX10_changed_55 (by decide) ?_
        refine g_goto (tgt := 60) hc dX10_changed_56 rfl ?_
        refine g_callVV hc 0 [.int 1, .int (bI true)] (fun l => c_X10_flag l η 1 true S ho.1) wtM_142 ge_X10_flag rfl ⟨rfl, rfl⟩ ⟨Nat.le_of_ble_eq_true rfl, Nat.le_of_ble_eq_true rfl⟩ rfl rfl rfl (Nat.le_of_ble_eq_true rfl) dX10_changed_60 (fun r16 S16 e16 f16 => ?_)
        have ho := ho.2 r16 S16 e16 f16
        refine g_iload_n (i := 1) hc 2 dX10_changed_63 rfl rfl ?_
        refine g_iconst (v := 2) hc dX10_changed_64 (by decide) ?_
        refine g_icmpge (tgt := 91) hc dX10_changed_65 rfl (fun c_65 => ?_) (fun c_65 => ?_)
        · have ho := ho.1 c_65
          refine g_aload_n (i := 0) hc 1 dX10_changed_91 rfl rfl ?_
          refine g_iload_n (i := 2) hc 3 dX10_changed_92 rfl rfl ?_
          refine g_iconst (v := 1) hc dX10_changed_93 (by decide) ?_
          refine g_ishr hc dX10_changed_94 ?_
          refine g_iload_n (i := 1) hc 2 dX10_changed_95 rfl rfl ?_
          refine g_iconst (v := 3) hc dX10_changed_96 (by decide) ?_
          refine g_icmpne (tgt := 107) hc dX10_changed_97 rfl (fun c_97 => ?_) (fun c_97 => ?_)
          · have ho := ho.1 c_97
            refine g_iload_n (i := 3) hc 0 dX10_changed_100 rfl rfl ?_
            refine g_bipush (v := 7) hc dX10_changed_101 (by decide) ?_
            refine g_ishl hc dX10_changed_103 ?_
            refine g_goto (tgt := 108) hc dX10_changed_104 rfl ?_
            refine g_ior hc dX10_changed_108 ?_
            refine g_callVI hc 0 [.int ((a1 >>> ((1 : Int32) &&& (31 : Int32))) ||| (((S.1 5) &&& 1) <<< ((7 : Int32) &&& (31 : Int32))))] (fun l => c_X10_shown l η ((a1 >>> ((1 : Int32) &&& (31 : Int32))) ||| (((S.1 5) &&& 1) <<< ((7 : Int32) &&& (31 : Int32)))) S16 ho.1) wtM_169 ge_X10_shown rfl ⟨rfl, rfl⟩ ⟨Nat.le_of_ble_eq_true rfl, Nat.le_of_ble_eq_true rfl⟩ rfl rfl rfl (Nat.le_of_ble_eq_true rfl) dX10_changed_109 (fun r17 S17 e17 f17 => ?_)
            have ho := ho.2 r17 S17 e17 f17
            exact g_iret hc dX10_changed_112
          · have ho := ho.2 c_97
            refine g_iconst (v := 0) hc dX10_changed_107 (by decide) ?_
            refine g_ior hc dX10_changed_108 ?_
            refine g_callVI hc 0 [.int ((a1 >>> ((1 : Int32) &&& (31 : Int32))) ||| 0)] (fun l => c_X10_shown l η ((a1 >>> ((1 : Int32) &&& (31 : Int32))) ||| 0) S16 ho.1) wtM_169 ge_X10_shown rfl ⟨rfl, rfl⟩ ⟨Nat.le_of_ble_eq_true rfl, Nat.le_of_ble_eq_true rfl⟩ rfl rfl rfl (Nat.le_of_ble_eq_true rfl) dX10_changed_109 (fun r18 S18 e18 f18 => ?_)
            have ho := ho.2 r18 S18 e18 f18
            exact g_iret hc dX10_changed_112
        · have ho := ho.2 c_65
          refine g_aload_n (i := 0) hc 1 dX10_changed_68 rfl rfl ?_
          refine g_iload_n (i := 2) hc 3 dX10_changed_69 rfl rfl ?_
          refine g_iconst (v := 1) hc dX10_changed_70 (by decide) ?_
          refine g_ishl hc dX10_changed_71 ?_
          refine g_sipush (v := 255) hc dX10_changed_72 (by decide) ?_
          refine g_iand hc dX10_changed_75 ?_
          refine g_iload_n (i := 1) hc 2 dX10_changed_76 rfl rfl ?_
          refine g_iconst (v := 1) hc dX10_changed_77 (by decide) ?_
          refine g_icmpne (tgt := 85) hc dX10_changed_78 rfl (fun c_78 => ?_) (fun c_78 => ?_)
          · have ho := ho.1 c_78
            refine g_iload_n (i := 3) hc 0 dX10_changed_81 rfl rfl ?_
            refine g_goto (tgt := 86) hc dX10_changed_82 rfl ?_
            refine g_ior hc dX10_changed_86 ?_
            refine g_callVI hc 0 [.int (((a1 <<< ((1 : Int32) &&& (31 : Int32))) &&& 255) ||| ((S.1 5) &&& 1))] (fun l => c_X10_shown l η (((a1 <<< ((1 : Int32) &&& (31 : Int32))) &&& 255) ||| ((S.1 5) &&& 1)) S16 ho.1) wtM_169 ge_X10_shown rfl ⟨rfl, rfl⟩ ⟨Nat.le_of_ble_eq_true rfl, Nat.le_of_ble_eq_true rfl⟩ rfl rfl rfl (Nat.le_of_ble_eq_true rfl) dX10_changed_87 (fun r19 S19 e19 f19 => ?_)
            have ho := ho.2 r19 S19 e19 f19
            exact g_iret hc dX10_changed_90
          · have ho := ho.2 c_78
            refine g_iconst (v := 0) hc dX10_changed_85 (by decide) ?_
            refine g_ior hc dX10_changed_86 ?_
            refine g_callVI hc 0 [.int (((a1 <<< ((1 : Int32) &&& (31 : Int32))) &&& 255) ||| 0)] (fun l => c_X10_shown l η (((a1 <<< ((1 : Int32) &&& (31 : Int32))) &&& 255) ||| 0) S16 ho.1) wtM_169 ge_X10_shown rfl ⟨rfl, rfl⟩ ⟨Nat.le_of_ble_eq_true rfl, Nat.le_of_ble_eq_true rfl⟩ rfl rfl rfl (Nat.le_of_ble_eq_true rfl) dX10_changed_87 (fun r20 S20 e20 f20 => ?_)
            have ho := ho.2 r20 S20 e20 f20
            exact g_iret hc dX10_changed_90
  · have ho := ho.2 c_9
    refine g_aload_n (i := 0) hc 1 dX10_changed_12 rfl rfl ?_
    refine g_iload_n (i := 2) hc 3 dX10_changed_13 rfl rfl ?_
    refine g_iload_n (i := 1) hc 2 dX10_changed_14 rfl rfl ?_
    refine g_bipush (v := 6) hc dX10_changed_15 (by decide) ?_
    refine g_icmpne (tgt := 26) hc dX10_changed_17 rfl (fun c_17 => ?_) (fun c_17 => ?_)
    · have ho := ho.1 c_17
      refine g_sipush (v := 255) hc dX10_changed_20 (by decide) ?_
      refine g_goto (tgt := 27) hc dX10_changed_23 rfl ?_
      refine g_iadd hc dX10_changed_27 ?_
      refine g_sipush (v := 255) hc dX10_changed_28 (by decide) ?_
      refine g_iand hc dX10_changed_31 ?_
      refine g_callVI hc 0 [.int ((a1 + 255) &&& 255)] (fun l => c_X10_shown l η ((a1 + 255) &&& 255) S ho.1) wtM_169 ge_X10_shown rfl ⟨rfl, rfl⟩ ⟨Nat.le_of_ble_eq_true rfl, Nat.le_of_ble_eq_true rfl⟩ rfl rfl rfl (Nat.le_of_ble_eq_true rfl) dX10_changed_32 (fun r21 S21 e21 f21 => ?_)
      have ho := ho.2 r21 S21 e21 f21
      exact g_iret hc dX10_changed_35
    · have ho := ho.2 c_17
      refine g_iconst (v := 1) hc dX10_changed_26 (by decide) ?_
      refine g_iadd hc dX10_changed_27 ?_
      refine g_sipush (v := 255) hc dX10_changed_28 (by decide) ?_
      refine g_iand hc dX10_changed_31 ?_
      refine g_callVI hc 0 [.int ((a1 + 1) &&& 255)] (fun l => c_X10_shown l η ((a1 + 1) &&& 255) S ho.1) wtM_169 ge_X10_shown rfl ⟨rfl, rfl⟩ ⟨Nat.le_of_ble_eq_true rfl, Nat.le_of_ble_eq_true rfl⟩ rfl rfl rfl (Nat.le_of_ble_eq_true rfl) dX10_changed_32 (fun r22 S22 e22 f22 => ?_)
      have ho := ho.2 r22 S22 e22 f22
      exact g_iret hc dX10_changed_35

abbrev rm_X10_change : Room := { frames := 7, cells := 0, slots := 0, locals := 158 }
def sp_X10_change (a0 : Int32) (a1 : Int32) (S : gSt) : Int32 × gSt := (if a1 = 0 then gB (sp_X10_changed a0 (S.1 1) S) (fun r1 S1 => gL (sI S1 1 r1) (fun S2 => (2, S2))) else gB (sp_X10_addressed a1 S) (fun r3 S3 => gB (sp_X10_get r3 S3) (fun r4 S4 => gB (sp_X10_changed a0 r4 S4) (fun r5 S5 => gB (sp_X10_put r3 r5 S5) (fun (_ : Unit) S6 => (if a1 = 2 then (5, S6) else (if a1 = 6 then (7, S6) else (6, S6))))))))
def ok_X10_change (a0 : Int32) (a1 : Int32) (S : gSt) : Prop := ((a1 = 0 → (ok_X10_changed a0 (S.1 1) S ∧ ∀ (r1 : Int32) (S1 : gSt), r1 = (sp_X10_changed a0 (S.1 1) S).1 → S1 = (sp_X10_changed a0 (S.1 1) S).2 → ∀ S2 : gSt, S2 = sI S1 1 r1 → True)) ∧ (¬ a1 = 0 → (ok_X10_addressed a1 S ∧ ∀ (r3 : Int32) (S3 : gSt), r3 = (sp_X10_addressed a1 S).1 → S3 = (sp_X10_addressed a1 S).2 → (ok_X10_get r3 S3 ∧ ∀ (r4 : Int32) (S4 : gSt), r4 = (sp_X10_get r3 S3).1 → S4 = (sp_X10_get r3 S3).2 → (ok_X10_changed a0 r4 S4 ∧ ∀ (r5 : Int32) (S5 : gSt), r5 = (sp_X10_changed a0 r4 S4).1 → S5 = (sp_X10_changed a0 r4 S4).2 → (ok_X10_put r3 r5 S5 ∧ ∀ (r6 : Unit) (S6 : gSt), r6 = (sp_X10_put r3 r5 S5).1 → S6 = (sp_X10_put r3 r5 S5).2 → ((a1 = 2 → True) ∧ (¬ a1 = 2 → ((a1 = 6 → True) ∧ (¬ a1 = 6 → True))))))))))
set_option maxRecDepth 100000 in
set_option maxHeartbeats 4000000 in
theorem c_X10_change (l : Launch) (η : gE) (a0 : Int32) (a1 : Int32) (S : gSt) (ho : ok_X10_change a0 a1 S) : gMet l yX10_change cX10_change 5 (some .int) rm_X10_change (oM η) [.ref (η.1 0), .int a0, .int a1] S (oI (sp_X10_change a0 a1 S).1) (sp_X10_change a0 a1 S).2 := by
  refine gMet_of (X := sp_X10_change a0 a1 S) (lv := [(0, .ref (η.1 0)), (1, .int a0), (2, .int a1)]) oI zM_ok (by decide +kernel) (Nat.le_of_ble_eq_true rfl) rfl (fun κ hc => ?_)
  have hc : gC (oM η) κ cX10_change 5 RX10 (some .int) rm_X10_change := hc
  unfold sp_X10_change
  unfold ok_X10_change at ho
  refine g_iload_n (i := 2) hc 2 dX10_change_0 rfl rfl ?_
  refine g_ifne (tgt := 19) hc dX10_change_1 rfl (fun c_1 => ?_) (fun c_1 => ?_)
  · have ho := ho.1 c_1
    refine g_aload_n (i := 0) hc 0 dX10_change_4 rfl rfl ?_
    refine g_aload_n (i := 0) hc 0 dX10_change_5 rfl rfl ?_
    refine g_iload_n (i := 1) hc 1 dX10_change_6 rfl rfl ?_
    refine g_aload_n (i := 0) hc 0 dX10_change_7 rfl rfl ?_
    refine gf_M_0_a hc wtM_170 dX10_change_8 ?_
    refine g_callVI hc 0 [.int a0, .int (S.1 1)] (fun l => c_X10_changed l η a0 (S.1 1) S ho.1) wtM_193 ge_X10_changed rfl ⟨rfl, rfl⟩ ⟨Nat.le_of_ble_eq_true rfl, Nat.le_of_ble_eq_true rfl⟩ rfl rfl rfl (Nat.le_of_ble_eq_true rfl) dX10_change_11 (fun r1 S1 e1 f1 => ?_)
    have ho := ho.2 r1 S1 e1 f1
    refine pf_M_0_a (v := r1) hc wtM_170 dX10_change_14 (fun S2 f2 => ?_)
    have ho := ho S2 f2
    refine g_iconst (v := 2) hc dX10_change_17 (by decide) ?_
    exact g_iret hc dX10_change_18
  · have ho := ho.2 c_1
    refine g_aload_n (i := 0) hc 0 dX10_change_19 rfl rfl ?_
    refine g_iload_n (i := 2) hc 2 dX10_change_20 rfl rfl ?_
    refine g_callVI hc 0 [.int a1] (fun l => c_X10_addressed l η a1 S ho.1) wtM_174 ge_X10_addressed rfl ⟨rfl, rfl⟩ ⟨Nat.le_of_ble_eq_true rfl, Nat.le_of_ble_eq_true rfl⟩ rfl rfl rfl (Nat.le_of_ble_eq_true rfl) dX10_change_21 (fun r3 S3 e3 f3 => ?_)
    have ho := ho.2 r3 S3 e3 f3
    refine g_istore_n (i := 3) (lv' := [(3, .int r3), (0, .ref (η.1 0)), (1, .int a0), (2, .int a1)]) hc dX10_change_24 rfl (by decide) rfl ?_
    refine g_aload_n (i := 0) hc 1 dX10_change_25 rfl rfl ?_
    refine g_iload_n (i := 3) hc 0 dX10_change_26 rfl rfl ?_
    refine g_callVI hc 0 [.int r3] (fun l => c_X10_get l η r3 S3 ho.1) wtM_80 ge_X10_get rfl ⟨rfl, rfl⟩ ⟨Nat.le_of_ble_eq_true rfl, Nat.le_of_ble_eq_true rfl⟩ rfl rfl rfl (Nat.le_of_ble_eq_true rfl) dX10_change_27 (fun r4 S4 e4 f4 => ?_)
    have ho := ho.2 r4 S4 e4 f4
    refine g_istore (i := 4) (lv' := [(4, .int r4), (3, .int r3), (0, .ref (η.1 0)), (1, .int a0), (2, .int a1)]) hc dX10_change_30 (by decide) rfl ?_
    refine g_aload_n (i := 0) hc 2 dX10_change_32 rfl rfl ?_
    refine g_iload_n (i := 3) hc 1 dX10_change_33 rfl rfl ?_
    refine g_aload_n (i := 0) hc 2 dX10_change_34 rfl rfl ?_
    refine g_iload_n (i := 1) hc 3 dX10_change_35 rfl rfl ?_
    refine g_iload (i := 4) hc 0 dX10_change_36 rfl ?_
    refine g_callVI hc 0 [.int a0, .int r4] (fun l => c_X10_changed l η a0 r4 S4 ho.1) wtM_193 ge_X10_changed rfl ⟨rfl, rfl⟩ ⟨Nat.le_of_ble_eq_true rfl, Nat.le_of_ble_eq_true rfl⟩ rfl rfl rfl (Nat.le_of_ble_eq_true rfl) dX10_change_38 (fun r5 S5 e5 f5 => ?_)
    have ho := ho.2 r5 S5 e5 f5
    refine g_callVV hc 0 [.int r3, .int r5] (fun l => c_X10_put l η r3 r5 S5 ho.1) wtM_178 ge_X10_put rfl ⟨rfl, rfl⟩ ⟨Nat.le_of_ble_eq_true rfl, Nat.le_of_ble_eq_true rfl⟩ rfl rfl rfl (Nat.le_of_ble_eq_true rfl) dX10_change_41 (fun r6 S6 e6 f6 => ?_)
    have ho := ho.2 r6 S6 e6 f6
    refine g_iload_n (i := 2) hc 4 dX10_change_44 rfl rfl ?_
    refine g_iconst (v := 2) hc dX10_change_45 (by decide) ?_
    refine g_icmpne (tgt := 53) hc dX10_change_46 rfl (fun c_46 => ?_) (fun c_46 => ?_)
    · have ho := ho.1 c_46
      refine g_iconst (v := 5) hc dX10_change_49 (by decide) ?_
      refine g_goto (tgt := 66) hc dX10_change_50 rfl ?_
      exact g_iret hc dX10_change_66
    · have ho := ho.2 c_46
      refine g_iload_n (i := 2) hc 4 dX10_change_53 rfl rfl ?_
      refine g_bipush (v := 6) hc dX10_change_54 (by decide) ?_
      refine g_icmpne (tgt := 64) hc dX10_change_56 rfl (fun c_56 => ?_) (fun c_56 => ?_)
      · have ho := ho.1 c_56
        refine g_bipush (v := 7) hc dX10_change_59 (by decide) ?_
        refine g_goto (tgt := 66) hc dX10_change_61 rfl ?_
        exact g_iret hc dX10_change_66
      · have ho := ho.2 c_56
        refine g_bipush (v := 6) hc dX10_change_64 (by decide) ?_
        exact g_iret hc dX10_change_66

abbrev rm_X10_loadX : Room := { frames := 7, cells := 0, slots := 0, locals := 152 }
def sp_X10_loadX (a0 : Int32) (S : gSt) : Int32 × gSt := gB (sp_X10_addressed a0 S) (fun r1 S1 => gB (sp_X10_get r1 S1) (fun r2 S2 => gB (sp_X10_shown r2 S2) (fun r3 S3 => gL (sI S3 2 r3) (fun S4 => gB (sp_X10_cyclesOf a0 S4) (fun r5 S5 => (if (bI (S5.2.1 2)) = 0 then ((r5 + 0), S5) else ((r5 + 1), S5)))))))
def ok_X10_loadX (a0 : Int32) (S : gSt) : Prop := (ok_X10_addressed a0 S ∧ ∀ (r1 : Int32) (S1 : gSt), r1 = (sp_X10_addressed a0 S).1 → S1 = (sp_X10_addressed a0 S).2 → (ok_X10_get r1 S1 ∧ ∀ (r2 : Int32) (S2 : gSt), r2 = (sp_X10_get r1 S1).1 → S2 = (sp_X10_get r1 S1).2 → (ok_X10_shown r2 S2 ∧ ∀ (r3 : Int32) (S3 : gSt), r3 = (sp_X10_shown r2 S2).1 → S3 = (sp_X10_shown r2 S2).2 → ∀ S4 : gSt, S4 = sI S3 2 r3 → (ok_X10_cyclesOf a0 S4 ∧ ∀ (r5 : Int32) (S5 : gSt), r5 = (sp_X10_cyclesOf a0 S4).1 → S5 = (sp_X10_cyclesOf a0 S4).2 → (((bI (S5.2.1 2)) = 0 → True) ∧ (¬ (bI (S5.2.1 2)) = 0 → True))))))
set_option maxRecDepth 100000 in
set_option maxHeartbeats 4000000 in
theorem c_X10_loadX (l : Launch) (η : gE) (a0 : Int32) (S : gSt) (ho : ok_X10_loadX a0 S) : gMet l yX10_loadX cX10_loadX 3 (some .int) rm_X10_loadX (oM η) [.ref (η.1 0), .int a0] S (oI (sp_X10_loadX a0 S).1) (sp_X10_loadX a0 S).2 := by
  refine gMet_of (X := sp_X10_loadX a0 S) (lv := [(0, .ref (η.1 0)), (1, .int a0)]) oI zM_ok (by decide +kernel) (Nat.le_of_ble_eq_true rfl) rfl (fun κ hc => ?_)
  have hc : gC (oM η) κ cX10_loadX 3 RX10 (some .int) rm_X10_loadX := hc
  unfold sp_X10_loadX
  unfold ok_X10_loadX at ho
  refine g_aload_n (i := 0) hc 0 dX10_loadX_0 rfl rfl ?_
  refine g_iload_n (i := 1) hc 1 dX10_loadX_1 rfl rfl ?_
  refine g_callVI hc 0 [.int a0] (fun l => c_X10_addressed l η a0 S ho.1) wtM_174 ge_X10_addressed rfl ⟨rfl, rfl⟩ ⟨Nat.le_of_ble_eq_true rfl, Nat.le_of_ble_eq_true rfl⟩ rfl rfl rfl (Nat.le_of_ble_eq_true rfl) dX10_loadX_2 (fun r1 S1 e1 f1 => ?_)
  have ho := ho.2 r1 S1 e1 f1
  refine g_istore_n (i := 2) (lv' := [(2, .int r1), (0, .ref (η.1 0)), (1, .int a0)]) hc dX10_loadX_5 rfl (by decide) rfl ?_
  refine g_aload_n (i := 0) hc 1 dX10_loadX_6 rfl rfl ?_
  refine g_aload_n (i := 0) hc 1 dX10_loadX_7 rfl rfl ?_
  refine g_aload_n (i := 0) hc 1 dX10_loadX_8 rfl rfl ?_
  refine g_iload_n (i := 2) hc 0 dX10_loadX_9 rfl rfl ?_
  refine g_callVI hc 0 [.int r1] (fun l => c_X10_get l η r1 S1 ho.1) wtM_80 ge_X10_get rfl ⟨rfl, rfl⟩ ⟨Nat.le_of_ble_eq_true rfl, Nat.le_of_ble_eq_true rfl⟩ rfl rfl rfl (Nat.le_of_ble_eq_true rfl) dX10_loadX_10 (fun r2 S2 e2 f2 => ?_)
  have ho := ho.2 r2 S2 e2 f2
  refine g_callVI hc 0 [.int r2] (fun l => c_X10_shown l η r2 S2 ho.1) wtM_169 ge_X10_shown rfl ⟨rfl, rfl⟩ ⟨Nat.le_of_ble_eq_true rfl, Nat.le_of_ble_eq_true rfl⟩ rfl rfl rfl (Nat.le_of_ble_eq_true rfl) dX10_loadX_13 (fun r3 S3 e3 f3 => ?_)
  have ho := ho.2 r3 S3 e3 f3
  refine pf_M_0_x (v := r3) hc wtM_152 dX10_loadX_16 (fun S4 f4 => ?_)
  have ho := ho S4 f4
  refine g_iload_n (i := 1) hc 2 dX10_loadX_19 rfl rfl ?_
  refine g_callSI hc [.int a0] (fun l => c_X10_cyclesOf l η a0 S4 ho.1) wtM_181 ge_X10_cyclesOf rfl ⟨rfl, rfl⟩ ⟨Nat.le_of_ble_eq_true rfl, Nat.le_of_ble_eq_true rfl⟩ rfl (Nat.le_of_ble_eq_true rfl) dX10_loadX_20 (fun r5 S5 e5 f5 => ?_)
  have ho := ho.2 r5 S5 e5 f5
  refine g_aload_n (i := 0) hc 1 dX10_loadX_23 rfl rfl ?_
  refine gf_M_0_crossed hc wtM_151 dX10_loadX_24 ?_
  refine g_ifeq (tgt := 34) hc dX10_loadX_27 rfl (fun c_27 => ?_) (fun c_27 => ?_)
  · have ho := ho.1 c_27
    refine g_iconst (v := 0) hc dX10_loadX_34 (by decide) ?_
    refine g_iadd hc dX10_loadX_35 ?_
    exact g_iret hc dX10_loadX_36
  · have ho := ho.2 c_27
    refine g_iconst (v := 1) hc dX10_loadX_30 (by decide) ?_
    refine g_goto (tgt := 35) hc dX10_loadX_31 rfl ?_
    refine g_iadd hc dX10_loadX_35 ?_
    exact g_iret hc dX10_loadX_36

abbrev rm_X10_moved : Room := { frames := 2, cells := 0, slots := 0, locals := 43 }
def jn_X10_moved_34 (x1 : Int32) (S : gSt) : Int32 × gSt := (if x1 = 6 then gB (sp_X10_shown (((S.1 2) - 1) &&& 255) S) (fun r5 S5 => gL (sI S5 2 r5) (fun S6 => (2, S6))) else (2, S))
def ok_jn_X10_moved_34 (x1 : Int32) (S : gSt) : Prop := ((x1 = 6 → (ok_X10_shown (((S.1 2) - 1) &&& 255) S ∧ ∀ (r5 : Int32) (S5 : gSt), r5 = (sp_X10_shown (((S.1 2) - 1) &&& 255) S).1 → S5 = (sp_X10_shown (((S.1 2) - 1) &&& 255) S).2 → ∀ S6 : gSt, S6 = sI S5 2 r5 → True)) ∧ (¬ x1 = 6 → True))
def jn_X10_moved_17 (x1 : Int32) (S : gSt) : Int32 × gSt := (if x1 = 5 then gB (sp_X10_shown (S.1 1) S) (fun r3 S3 => gL (sI S3 2 r3) (fun S4 => jn_X10_moved_34 x1 S4)) else jn_X10_moved_34 x1 S)
def ok_jn_X10_moved_17 (x1 : Int32) (S : gSt) : Prop := ((x1 = 5 → (ok_X10_shown (S.1 1) S ∧ ∀ (r3 : Int32) (S3 : gSt), r3 = (sp_X10_shown (S.1 1) S).1 → S3 = (sp_X10_shown (S.1 1) S).2 → ∀ S4 : gSt, S4 = sI S3 2 r3 → ok_jn_X10_moved_34 x1 S4)) ∧ (¬ x1 = 5 → ok_jn_X10_moved_34 x1 S))
def sp_X10_moved (a0 : Int32) (S : gSt) : Int32 × gSt := (if a0 = 4 then gB (sp_X10_shown (S.1 2) S) (fun r1 S1 => gL (sI S1 1 r1) (fun S2 => jn_X10_moved_17 a0 S2)) else jn_X10_moved_17 a0 S)
def ok_X10_moved (a0 : Int32) (S : gSt) : Prop := ((a0 = 4 → (ok_X10_shown (S.1 2) S ∧ ∀ (r1 : Int32) (S1 : gSt), r1 = (sp_X10_shown (S.1 2) S).1 → S1 = (sp_X10_shown (S.1 2) S).2 → ∀ S2 : gSt, S2 = sI S1 1 r1 → ok_jn_X10_moved_17 a0 S2)) ∧ (¬ a0 = 4 → ok_jn_X10_moved_17 a0 S))
set_option maxRecDepth 100000 in
set_option maxHeartbeats 4000000 in
theorem g_jn_X10_moved_34 {η : gE} {κ : gK} (hc : gC (oM η) κ cX10_moved 2 RX10 (some .int) rm_X10_moved) (x1 : Int32) (S : gSt) (ho : ok_jn_X10_moved_34 x1 S) : gG (oM η) κ 2 oI 34 [(0, .ref (η.1 0)), (1, .int x1)] [] S (jn_X10_moved_34 x1 S) := by
  unfold jn_X10_moved_34
  unfold ok_jn_X10_moved_34 at ho
  refine g_iload_n (i := 1) hc 1 dX10_moved_34 rfl rfl ?_
  refine g_bipush (v := 6) hc dX10_moved_35 (by decide) ?_
  refine g_icmpne (tgt := 58) hc dX10_moved_37 rfl (fun c_37 => ?_) (fun c_37 => ?_)
  · have ho := ho.1 c_37
    refine g_aload_n (i := 0) hc 0 dX10_moved_40 rfl rfl ?_
    refine g_aload_n (i := 0) hc 0 dX10_moved_41 rfl rfl ?_
    refine g_aload_n (i := 0) hc 0 dX10_moved_42 rfl rfl ?_
    refine gf_M_0_x hc wtM_152 dX10_moved_43 ?_
    refine g_iconst (v := 1) hc dX10_moved_46 (by decide) ?_
    refine g_isub hc dX10_moved_47 ?_
    refine g_sipush (v := 255) hc dX10_moved_48 (by decide) ?_
    refine g_iand hc dX10_moved_51 ?_
    refine g_callVI hc 0 [.int (((S.1 2) - 1) &&& 255)] (fun l => c_X10_shown l η (((S.1 2) - 1) &&& 255) S ho.1) wtM_169 ge_X10_shown rfl ⟨rfl, rfl⟩ ⟨Nat.le_of_ble_eq_true rfl, Nat.le_of_ble_eq_true rfl⟩ rfl rfl rfl (Nat.le_of_ble_eq_true rfl) dX10_moved_52 (fun r5 S5 e5 f5 => ?_)
    have ho := ho.2 r5 S5 e5 f5
    refine pf_M_0_x (v := r5) hc wtM_152 dX10_moved_55 (fun S6 f6 => ?_)
    have ho := ho S6 f6
    refine g_iconst (v := 2) hc dX10_moved_58 (by decide) ?_
    exact g_iret hc dX10_moved_59
  · have ho := ho.2 c_37
    refine g_iconst (v := 2) hc dX10_moved_58 (by decide) ?_
    exact g_iret hc dX10_moved_59
set_option maxRecDepth 100000 in
set_option maxHeartbeats 4000000 in
theorem g_jn_X10_moved_17 {η : gE} {κ : gK} (hc : gC (oM η) κ cX10_moved 2 RX10 (some .int) rm_X10_moved) (x1 : Int32) (S : gSt) (ho : ok_jn_X10_moved_17 x1 S) : gG (oM η) κ 2 oI 17 [(0, .ref (η.1 0)), (1, .int x1)] [] S (jn_X10_moved_17 x1 S) := by
  unfold jn_X10_moved_17
  unfold ok_jn_X10_moved_17 at ho
  refine g_iload_n (i := 1) hc 1 dX10_moved_17 rfl rfl ?_
  refine g_iconst (v := 5) hc dX10_moved_18 (by decide) ?_
  refine g_icmpne (tgt := 34) hc dX10_moved_19 rfl (fun c_19 => ?_) (fun c_19 => ?_)
  · have ho := ho.1 c_19
    refine g_aload_n (i := 0) hc 0 dX10_moved_22 rfl rfl ?_
    refine g_aload_n (i := 0) hc 0 dX10_moved_23 rfl rfl ?_
    refine g_aload_n (i := 0) hc 0 dX10_moved_24 rfl rfl ?_
    refine gf_M_0_a hc wtM_170 dX10_moved_25 ?_
    refine g_callVI hc 0 [.int (S.1 1)] (fun l => c_X10_shown l η (S.1 1) S ho.1) wtM_169 ge_X10_shown rfl ⟨rfl, rfl⟩ ⟨Nat.le_of_ble_eq_true rfl, Nat.le_of_ble_eq_true rfl⟩ rfl rfl rfl (Nat.le_of_ble_eq_true rfl) dX10_moved_28 (fun r3 S3 e3 f3 => ?_)
    have ho := ho.2 r3 S3 e3 f3
    refine pf_M_0_x (v := r3) hc wtM_152 dX10_moved_31 (fun S4 f4 => ?_)
    have ho := ho S4 f4
    exact g_lv [0, 1] rfl (g_jn_X10_moved_34 hc _ _ ho)
  · have ho := ho.2 c_19
    exact g_lv [0, 1] rfl (g_jn_X10_moved_34 hc _ _ ho)
set_option maxRecDepth 100000 in
set_option maxHeartbeats 4000000 in
theorem c_X10_moved (l : Launch) (η : gE) (a0 : Int32) (S : gSt) (ho : ok_X10_moved a0 S) : gMet l yX10_moved cX10_moved 2 (some .int) rm_X10_moved (oM η) [.ref (η.1 0), .int a0] S (oI (sp_X10_moved a0 S).1) (sp_X10_moved a0 S).2 := by
  refine gMet_of (X := sp_X10_moved a0 S) (lv := [(0, .ref (η.1 0)), (1, .int a0)]) oI zM_ok (by decide +kernel) (Nat.le_of_ble_eq_true rfl) rfl (fun κ hc => ?_)
  have hc : gC (oM η) κ cX10_moved 2 RX10 (some .int) rm_X10_moved := hc
  unfold sp_X10_moved
  unfold ok_X10_moved at ho
  refine g_iload_n (i := 1) hc 1 dX10_moved_0 rfl rfl ?_
  refine g_iconst (v := 4) hc dX10_moved_1 (by decide) ?_
  refine g_icmpne (tgt := 17) hc dX10_moved_2 rfl (fun c_2 => ?_) (fun c_2 => ?_)
  · have ho := ho.1 c_2
    refine g_aload_n (i := 0) hc 0 dX10_moved_5 rfl rfl ?_
    refine g_aload_n (i := 0) hc 0 dX10_moved_6 rfl rfl ?_
    refine g_aload_n (i := 0) hc 0 dX10_moved_7 rfl rfl ?_
    refine gf_M_0_x hc wtM_152 dX10_moved_8 ?_
    refine g_callVI hc 0 [.int (S.1 2)] (fun l => c_X10_shown l η (S.1 2) S ho.1) wtM_169 ge_X10_shown rfl ⟨rfl, rfl⟩ ⟨Nat.le_of_ble_eq_true rfl, Nat.le_of_ble_eq_true rfl⟩ rfl rfl rfl (Nat.le_of_ble_eq_true rfl) dX10_moved_11 (fun r1 S1 e1 f1 => ?_)
    have ho := ho.2 r1 S1 e1 f1
    refine pf_M_0_a (v := r1) hc wtM_170 dX10_moved_14 (fun S2 f2 => ?_)
    have ho := ho S2 f2
    exact g_lv [0, 1] rfl (g_jn_X10_moved_17 hc _ _ ho)
  · have ho := ho.2 c_2
    exact g_lv [0, 1] rfl (g_jn_X10_moved_17 hc _ _ ho)

abbrev rm_X10_stackPointer : Room := { frames := 2, cells := 0, slots := 0, locals := 43 }
def sp_X10_stackPointer (a0 : Int32) (S : gSt) : Int32 × gSt := (if a0 = 4 then gL (sI S 4 (S.1 2)) (fun S1 => (2, S1)) else gB (sp_X10_shown (S.1 4) S) (fun r2 S2 => gL (sI S2 2 r2) (fun S3 => (2, S3))))
def ok_X10_stackPointer (a0 : Int32) (S : gSt) : Prop := ((a0 = 4 → ∀ S1 : gSt, S1 = sI S 4 (S.1 2) → True) ∧ (¬ a0 = 4 → (ok_X10_shown (S.1 4) S ∧ ∀ (r2 : Int32) (S2 : gSt), r2 = (sp_X10_shown (S.1 4) S).1 → S2 = (sp_X10_shown (S.1 4) S).2 → ∀ S3 : gSt, S3 = sI S2 2 r2 → True)))
set_option maxRecDepth 100000 in
set_option maxHeartbeats 4000000 in
theorem c_X10_stackPointer (l : Launch) (η : gE) (a0 : Int32) (S : gSt) (ho : ok_X10_stackPointer a0 S) : gMet l yX10_stackPointer cX10_stackPointer 2 (some .int) rm_X10_stackPointer (oM η) [.ref (η.1 0), .int a0] S (oI (sp_X10_stackPointer a0 S).1) (sp_X10_stackPointer a0 S).2 := by
  refine gMet_of (X := sp_X10_stackPointer a0 S) (lv := [(0, .ref (η.1 0)), (1, .int a0)]) oI zM_ok (by decide +kernel) (Nat.le_of_ble_eq_true rfl) rfl (fun κ hc => ?_)
  have hc : gC (oM η) κ cX10_stackPointer 2 RX10 (some .int) rm_X10_stackPointer := hc
  unfold sp_X10_stackPointer
  unfold ok_X10_stackPointer at ho
  refine g_iload_n (i := 1) hc 1 dX10_stackPointer_0 rfl rfl ?_
  refine g_iconst (v := 4) hc dX10_stackPointer_1 (by decide) ?_
  refine g_icmpne (tgt := 16) hc dX10_stackPointer_2 rfl (fun c_2 => ?_) (fun c_2 => ?_)
  · have ho := ho.1 c_2
    refine g_aload_n (i := 0) hc 0 dX10_stackPointer_5 rfl rfl ?_
    refine g_aload_n (i := 0) hc 0 dX10_stackPointer_6 rfl rfl ?_
    refine gf_M_0_x hc wtM_152 dX10_stackPointer_7 ?_
    refine pf_M_0_s (v := (S.1 2)) hc wtM_129 dX10_stackPointer_10 (fun S1 f1 => ?_)
    have ho := ho S1 f1
    refine g_goto (tgt := 28) hc dX10_stackPointer_13 rfl ?_
    refine g_iconst (v := 2) hc dX10_stackPointer_28 (by decide) ?_
    exact g_iret hc dX10_stackPointer_29
  · have ho := ho.2 c_2
    refine g_aload_n (i := 0) hc 0 dX10_stackPointer_16 rfl rfl ?_
    refine g_aload_n (i := 0) hc 0 dX10_stackPointer_17 rfl rfl ?_
    refine g_aload_n (i := 0) hc 0 dX10_stackPointer_18 rfl rfl ?_
    refine gf_M_0_s hc wtM_129 dX10_stackPointer_19 ?_
    refine g_callVI hc 0 [.int (S.1 4)] (fun l => c_X10_shown l η (S.1 4) S ho.1) wtM_169 ge_X10_shown rfl ⟨rfl, rfl⟩ ⟨Nat.le_of_ble_eq_true rfl, Nat.le_of_ble_eq_true rfl⟩ rfl rfl rfl (Nat.le_of_ble_eq_true rfl) dX10_stackPointer_22 (fun r2 S2 e2 f2 => ?_)
    have ho := ho.2 r2 S2 e2 f2
    refine pf_M_0_x (v := r2) hc wtM_152 dX10_stackPointer_25 (fun S3 f3 => ?_)
    have ho := ho S3 f3
    refine g_iconst (v := 2) hc dX10_stackPointer_28 (by decide) ?_
    exact g_iret hc dX10_stackPointer_29

abbrev rm_X10_doTwo : Room := { frames := 8, cells := 0, slots := 0, locals := 182 }
def jn_X10_doTwo_162 (x1 : Int32) (x4 : Int32) (S : gSt) : Int32 × gSt := (if x1 = 4 then gB (sp_X10_addressed x4 S) (fun r4 S4 => gB (sp_X10_put r4 (S4.1 2) S4) (fun (_ : Unit) S5 => gB (sp_X10_cyclesOf x4 S5) (fun r6 S6 => (r6, S6)))) else gB (sp_X10_change x1 x4 S) (fun r7 S7 => (r7, S7)))
def ok_jn_X10_doTwo_162 (x1 : Int32) (x4 : Int32) (S : gSt) : Prop := ((x1 = 4 → (ok_X10_addressed x4 S ∧ ∀ (r4 : Int32) (S4 : gSt), r4 = (sp_X10_addressed x4 S).1 → S4 = (sp_X10_addressed x4 S).2 → (ok_X10_put r4 (S4.1 2) S4 ∧ ∀ (r5 : Unit) (S5 : gSt), r5 = (sp_X10_put r4 (S4.1 2) S4).1 → S5 = (sp_X10_put r4 (S4.1 2) S4).2 → (ok_X10_cyclesOf x4 S5 ∧ ∀ (r6 : Int32) (S6 : gSt), r6 = (sp_X10_cyclesOf x4 S5).1 → S6 = (sp_X10_cyclesOf x4 S5).2 → True)))) ∧ (¬ x1 = 4 → (ok_X10_change x1 x4 S ∧ ∀ (r7 : Int32) (S7 : gSt), r7 = (sp_X10_change x1 x4 S).1 → S7 = (sp_X10_change x1 x4 S).2 → True)))
def jn_X10_doTwo_68 (x1 : Int32) (x2 : Int32) (x3 : Int32) (S : gSt) : Int32 × gSt := (if x2 = 6 then gB (sp_X10_stackPointer x1 S) (fun r2 S2 => (r2, S2)) else (if x2 = 1 then (if x1 = 5 then gB (sp_X10_loadX 2 S) (fun r3 S3 => (r3, S3)) else (if x1 = 4 then (if x2 = 7 then ((-1), S) else jn_X10_doTwo_162 x1 2 S) else jn_X10_doTwo_162 x1 2 S)) else (if x2 = 2 then (if x1 = 5 then gB (sp_X10_loadX 0 S) (fun r8 S8 => (r8, S8)) else (if x1 = 4 then (if x2 = 7 then ((-1), S) else jn_X10_doTwo_162 x1 0 S) else jn_X10_doTwo_162 x1 0 S)) else (if x2 = 3 then (if x1 = 5 then gB (sp_X10_loadX 5 S) (fun r9 S9 => (r9, S9)) else (if x1 = 4 then (if x2 = 7 then ((-1), S) else jn_X10_doTwo_162 x1 5 S) else jn_X10_doTwo_162 x1 5 S)) else (if x2 = 5 then (if x3 = 0 then (if x1 = 5 then gB (sp_X10_loadX 3 S) (fun r10 S10 => (r10, S10)) else (if x1 = 4 then (if x2 = 7 then ((-1), S) else jn_X10_doTwo_162 x1 3 S) else jn_X10_doTwo_162 x1 3 S)) else (if x1 = 5 then gB (sp_X10_loadX 4 S) (fun r11 S11 => (r11, S11)) else (if x1 = 4 then (if x2 = 7 then ((-1), S) else jn_X10_doTwo_162 x1 4 S) else jn_X10_doTwo_162 x1 4 S))) else (if x3 = 0 then (if x1 = 5 then gB (sp_X10_loadX 6 S) (fun r12 S12 => (r12, S12)) else (if x1 = 4 then (if x2 = 7 then ((-1), S) else jn_X10_doTwo_162 x1 6 S) else jn_X10_doTwo_162 x1 6 S)) else (if x1 = 5 then gB (sp_X10_loadX 7 S) (fun r13 S13 => (r13, S13)) else (if x1 = 4 then (if x2 = 7 then ((-1), S) else jn_X10_doTwo_162 x1 7 S) else jn_X10_doTwo_162 x1 7 S))))))))
def ok_jn_X10_doTwo_68 (x1 : Int32) (x2 : Int32) (x3 : Int32) (S : gSt) : Prop := ((x2 = 6 → (ok_X10_stackPointer x1 S ∧ ∀ (r2 : Int32) (S2 : gSt), r2 = (sp_X10_stackPointer x1 S).1 → S2 = (sp_X10_stackPointer x1 S).2 → True)) ∧ (¬ x2 = 6 → ((x2 = 1 → ((x1 = 5 → (ok_X10_loadX 2 S ∧ ∀ (r3 : Int32) (S3 : gSt), r3 = (sp_X10_loadX 2 S).1 → S3 = (sp_X10_loadX 2 S).2 → True)) ∧ (¬ x1 = 5 → ((x1 = 4 → ((x2 = 7 → True) ∧ (¬ x2 = 7 → ok_jn_X10_doTwo_162 x1 2 S))) ∧ (¬ x1 = 4 → ok_jn_X10_doTwo_162 x1 2 S))))) ∧ (¬ x2 = 1 → ((x2 = 2 → ((x1 = 5 → (ok_X10_loadX 0 S ∧ ∀ (r8 : Int32) (S8 : gSt), r8 = (sp_X10_loadX 0 S).1 → S8 = (sp_X10_loadX 0 S).2 → True)) ∧ (¬ x1 = 5 → ((x1 = 4 → ((x2 = 7 → True) ∧ (¬ x2 = 7 → ok_jn_X10_doTwo_162 x1 0 S))) ∧ (¬ x1 = 4 → ok_jn_X10_doTwo_162 x1 0 S))))) ∧ (¬ x2 = 2 → ((x2 = 3 → ((x1 = 5 → (ok_X10_loadX 5 S ∧ ∀ (r9 : Int32) (S9 : gSt), r9 = (sp_X10_loadX 5 S).1 → S9 = (sp_X10_loadX 5 S).2 → True)) ∧ (¬ x1 = 5 → ((x1 = 4 → ((x2 = 7 → True) ∧ (¬ x2 = 7 → ok_jn_X10_doTwo_162 x1 5 S))) ∧ (¬ x1 = 4 → ok_jn_X10_doTwo_162 x1 5 S))))) ∧ (¬ x2 = 3 → ((x2 = 5 → ((x3 = 0 → ((x1 = 5 → (ok_X10_loadX 3 S ∧ ∀ (r10 : Int32) (S10 : gSt), r10 = (sp_X10_loadX 3 S).1 → S10 = (sp_X10_loadX 3 S).2 → True)) ∧ (¬ x1 = 5 → ((x1 = 4 → ((x2 = 7 → True) ∧ (¬ x2 = 7 → ok_jn_X10_doTwo_162 x1 3 S))) ∧ (¬ x1 = 4 → ok_jn_X10_doTwo_162 x1 3 S))))) ∧ (¬ x3 = 0 → ((x1 = 5 → (ok_X10_loadX 4 S ∧ ∀ (r11 : Int32) (S11 : gSt), r11 = (sp_X10_loadX 4 S).1 → S11 = (sp_X10_loadX 4 S).2 → True)) ∧ (¬ x1 = 5 → ((x1 = 4 → ((x2 = 7 → True) ∧ (¬ x2 = 7 → ok_jn_X10_doTwo_162 x1 4 S))) ∧ (¬ x1 = 4 → ok_jn_X10_doTwo_162 x1 4 S))))))) ∧ (¬ x2 = 5 → ((x3 = 0 → ((x1 = 5 → (ok_X10_loadX 6 S ∧ ∀ (r12 : Int32) (S12 : gSt), r12 = (sp_X10_loadX 6 S).1 → S12 = (sp_X10_loadX 6 S).2 → True)) ∧ (¬ x1 = 5 → ((x1 = 4 → ((x2 = 7 → True) ∧ (¬ x2 = 7 → ok_jn_X10_doTwo_162 x1 6 S))) ∧ (¬ x1 = 4 → ok_jn_X10_doTwo_162 x1 6 S))))) ∧ (¬ x3 = 0 → ((x1 = 5 → (ok_X10_loadX 7 S ∧ ∀ (r13 : Int32) (S13 : gSt), r13 = (sp_X10_loadX 7 S).1 → S13 = (sp_X10_loadX 7 S).2 → True)) ∧ (¬ x1 = 5 → ((x1 = 4 → ((x2 = 7 → True) ∧ (¬ x2 = 7 → ok_jn_X10_doTwo_162 x1 7 S))) ∧ (¬ x1 = 4 → ok_jn_X10_doTwo_162 x1 7 S))))))))))))))))
def jn_X10_doTwo_51 (x1 : Int32) (x2 : Int32) (x3 : Int32) (S : gSt) : Int32 × gSt := (if x2 = 4 then ((-1), S) else (if x2 = 6 then (if x3 = 0 then ((-1), S) else jn_X10_doTwo_68 x1 x2 x3 S) else jn_X10_doTwo_68 x1 x2 x3 S))
def ok_jn_X10_doTwo_51 (x1 : Int32) (x2 : Int32) (x3 : Int32) (S : gSt) : Prop := ((x2 = 4 → True) ∧ (¬ x2 = 4 → ((x2 = 6 → ((x3 = 0 → True) ∧ (¬ x3 = 0 → ok_jn_X10_doTwo_68 x1 x2 x3 S))) ∧ (¬ x2 = 6 → ok_jn_X10_doTwo_68 x1 x2 x3 S))))
def jn_X10_doTwo_10 (x1 : Int32) (x2 : Int32) (S : gSt) : Int32 × gSt := (if x2 = 0 then (if x1 = 5 then gB (sp_X10_loadX 1 S) (fun r1 S1 => (r1, S1)) else ((-1), S)) else (if x2 = 2 then (if x1 ≤ 3 then jn_X10_doTwo_51 x1 x2 1 S else gB (sp_X10_moved x1 S) (fun r14 S14 => (r14, S14))) else jn_X10_doTwo_51 x1 x2 1 S))
def ok_jn_X10_doTwo_10 (x1 : Int32) (x2 : Int32) (S : gSt) : Prop := ((x2 = 0 → ((x1 = 5 → (ok_X10_loadX 1 S ∧ ∀ (r1 : Int32) (S1 : gSt), r1 = (sp_X10_loadX 1 S).1 → S1 = (sp_X10_loadX 1 S).2 → True)) ∧ (¬ x1 = 5 → True))) ∧ (¬ x2 = 0 → ((x2 = 2 → ((x1 ≤ 3 → ok_jn_X10_doTwo_51 x1 x2 1 S) ∧ (¬ x1 ≤ 3 → (ok_X10_moved x1 S ∧ ∀ (r14 : Int32) (S14 : gSt), r14 = (sp_X10_moved x1 S).1 → S14 = (sp_X10_moved x1 S).2 → True)))) ∧ (¬ x2 = 2 → ok_jn_X10_doTwo_51 x1 x2 1 S))))
def sp_X10_doTwo (a0 : Int32) (a1 : Int32) (S : gSt) : Int32 × gSt := (if a0 = 4 then jn_X10_doTwo_10 a0 a1 S else (if a0 = 5 then jn_X10_doTwo_10 a0 a1 S else (if a1 = 0 then (if a0 = 5 then gB (sp_X10_loadX 1 S) (fun r15 S15 => (r15, S15)) else ((-1), S)) else (if a1 = 2 then (if a0 ≤ 3 then jn_X10_doTwo_51 a0 a1 0 S else gB (sp_X10_moved a0 S) (fun r16 S16 => (r16, S16))) else jn_X10_doTwo_51 a0 a1 0 S))))
def ok_X10_doTwo (a0 : Int32) (a1 : Int32) (S : gSt) : Prop := ((a0 = 4 → ok_jn_X10_doTwo_10 a0 a1 S) ∧ (¬ a0 = 4 → ((a0 = 5 → ok_jn_X10_doTwo_10 a0 a1 S) ∧ (¬ a0 = 5 → ((a1 = 0 → ((a0 = 5 → (ok_X10_loadX 1 S ∧ ∀ (r15 : Int32) (S15 : gSt), r15 = (sp_X10_loadX 1 S).1 → S15 = (sp_X10_loadX 1 S).2 → True)) ∧ (¬ a0 = 5 → True))) ∧ (¬ a1 = 0 → ((a1 = 2 → ((a0 ≤ 3 → ok_jn_X10_doTwo_51 a0 a1 0 S) ∧ (¬ a0 ≤ 3 → (ok_X10_moved a0 S ∧ ∀ (r16 : Int32) (S16 : gSt), r16 = (sp_X10_moved a0 S).1 → S16 = (sp_X10_moved a0 S).2 → True)))) ∧ (¬ a1 = 2 → ok_jn_X10_doTwo_51 a0 a1 0 S))))))))
set_option maxRecDepth 100000 in
set_option maxHeartbeats 4000000 in
theorem g_jn_X10_doTwo_162 {η : gE} {κ : gK} (hc : gC (oM η) κ cX10_doTwo 5 RX10 (some .int) rm_X10_doTwo) (x1 : Int32) (x4 : Int32) (S : gSt) (ho : ok_jn_X10_doTwo_162 x1 x4 S) : gG (oM η) κ 5 oI 162 [(0, .ref (η.1 0)), (1, .int x1), (4, .int x4)] [] S (jn_X10_doTwo_162 x1 x4 S) := by
  unfold jn_X10_doTwo_162
  unfold ok_jn_X10_doTwo_162 at ho
  refine g_iload_n (i := 1) hc 1 dX10_doTwo_162 rfl rfl ?_
  refine g_iconst (v := 4) hc dX10_doTwo_163 (by decide) ?_
  refine g_icmpeq (tgt := 175) hc dX10_doTwo_164 rfl (fun c_164 => ?_) (fun c_164 => ?_)
  · have ho := ho.1 c_164
    refine g_aload_n (i := 0) hc 0 dX10_doTwo_175 rfl rfl ?_
    refine g_aload_n (i := 0) hc 0 dX10_doTwo_176 rfl rfl ?_
    refine g_iload (i := 4) hc 2 dX10_doTwo_177 rfl ?_
    refine g_callVI hc 0 [.int x4] (fun l => c_X10_addressed l η x4 S ho.1) wtM_174 ge_X10_addressed rfl ⟨rfl, rfl⟩ ⟨Nat.le_of_ble_eq_true rfl, Nat.le_of_ble_eq_true rfl⟩ rfl rfl rfl (Nat.le_of_ble_eq_true rfl) dX10_doTwo_179 (fun r4 S4 e4 f4 => ?_)
    have ho := ho.2 r4 S4 e4 f4
    refine g_aload_n (i := 0) hc 0 dX10_doTwo_182 rfl rfl ?_
    refine gf_M_0_x hc wtM_152 dX10_doTwo_183 ?_
    refine g_callVV hc 0 [.int r4, .int (S4.1 2)] (fun l => c_X10_put l η r4 (S4.1 2) S4 ho.1) wtM_178 ge_X10_put rfl ⟨rfl, rfl⟩ ⟨Nat.le_of_ble_eq_true rfl, Nat.le_of_ble_eq_true rfl⟩ rfl rfl rfl (Nat.le_of_ble_eq_true rfl) dX10_doTwo_186 (fun r5 S5 e5 f5 => ?_)
    have ho := ho.2 r5 S5 e5 f5
    refine g_iload (i := 4) hc 2 dX10_doTwo_189 rfl ?_
    refine g_callSI hc [.int x4] (fun l => c_X10_cyclesOf l η x4 S5 ho.1) wtM_181 ge_X10_cyclesOf rfl ⟨rfl, rfl⟩ ⟨Nat.le_of_ble_eq_true rfl, Nat.le_of_ble_eq_true rfl⟩ rfl (Nat.le_of_ble_eq_true rfl) dX10_doTwo_191 (fun r6 S6 e6 f6 => ?_)
    have ho := ho.2 r6 S6 e6 f6
    exact g_iret hc dX10_doTwo_194
  · have ho := ho.2 c_164
    refine g_aload_n (i := 0) hc 0 dX10_doTwo_167 rfl rfl ?_
    refine g_iload_n (i := 1) hc 1 dX10_doTwo_168 rfl rfl ?_
    refine g_iload (i := 4) hc 2 dX10_doTwo_169 rfl ?_
    refine g_callVI hc 0 [.int x1, .int x4] (fun l => c_X10_change l η x1 x4 S ho.1) wtM_205 ge_X10_change rfl ⟨rfl, rfl⟩ ⟨Nat.le_of_ble_eq_true rfl, Nat.le_of_ble_eq_true rfl⟩ rfl rfl rfl (Nat.le_of_ble_eq_true rfl) dX10_doTwo_171 (fun r7 S7 e7 f7 => ?_)
    have ho := ho.2 r7 S7 e7 f7
    exact g_iret hc dX10_doTwo_174
set_option maxRecDepth 100000 in
set_option maxHeartbeats 4000000 in
theorem g_jn_X10_doTwo_68 {η : gE} {κ : gK} (hc : gC (oM η) κ cX10_doTwo 5 RX10 (some .int) rm_X10_doTwo) (x1 : Int32) (x2 : Int32) (x3 : Int32) (S : gSt) (ho : ok_jn_X10_doTwo_68 x1 x2 x3 S) : gG (oM η) κ 5 oI 68 [(0, .ref (η.1 0)), (1, .int x1), (2, .int x2), (3, .int x3)] [] S (jn_X10_doTwo_68 x1 x2 x3 S) := by
  unfold jn_X10_doTwo_68
  unfold ok_jn_X10_doTwo_68 at ho
  refine g_iload_n (i := 2) hc 2 dX10_doTwo_68 rfl rfl ?_
  refine g_bipush (v := 6) hc dX10_doTwo_69 (by decide) ?_
  refine g_icmpne (tgt := 80) hc dX10_doTwo_71 rfl (fun c_71 => ?_) (fun c_71 => ?_)
  · have ho := ho.1 c_71
    refine g_aload_n (i := 0) hc 0 dX10_doTwo_74 rfl rfl ?_
    refine g_iload_n (i := 1) hc 1 dX10_doTwo_75 rfl rfl ?_
    refine g_callVI hc 0 [.int x1] (fun l => c_X10_stackPointer l η x1 S ho.1) wtM_201 ge_X10_stackPointer rfl ⟨rfl, rfl⟩ ⟨Nat.le_of_ble_eq_true rfl, Nat.le_of_ble_eq_true rfl⟩ rfl rfl rfl (Nat.le_of_ble_eq_true rfl) dX10_doTwo_76 (fun r2 S2 e2 f2 => ?_)
    have ho := ho.2 r2 S2 e2 f2
    exact g_iret hc dX10_doTwo_79
  · have ho := ho.2 c_71
    refine g_iload_n (i := 2) hc 2 dX10_doTwo_80 rfl rfl ?_
    refine g_iconst (v := 1) hc dX10_doTwo_81 (by decide) ?_
    refine g_icmpne (tgt := 89) hc dX10_doTwo_82 rfl (fun c_82 => ?_) (fun c_82 => ?_)
    · have ho := ho.1 c_82
      refine g_iconst (v := 2) hc dX10_doTwo_85 (by decide) ?_
      refine g_goto (tgt := 135) hc dX10_doTwo_86 rfl ?_
      refine g_istore (i := 4) (lv' := [(4, .int 2), (0, .ref (η.1 0)), (1, .int x1), (2, .int x2), (3, .int x3)]) hc dX10_doTwo_135 (by decide) rfl ?_
      refine g_iload_n (i := 1) hc 2 dX10_doTwo_137 rfl rfl ?_
      refine g_iconst (v := 5) hc dX10_doTwo_138 (by decide) ?_
      refine g_icmpne (tgt := 149) hc dX10_doTwo_139 rfl (fun c_139 => ?_) (fun c_139 => ?_)
      · have ho := ho.1 c_139
        refine g_aload_n (i := 0) hc 1 dX10_doTwo_142 rfl rfl ?_
        refine g_iload (i := 4) hc 0 dX10_doTwo_143 rfl ?_
        refine g_callVI hc 0 [.int 2] (fun l => c_X10_loadX l η 2 S ho.1) wtM_197 ge_X10_loadX rfl ⟨rfl, rfl⟩ ⟨Nat.le_of_ble_eq_true rfl, Nat.le_of_ble_eq_true rfl⟩ rfl rfl rfl (Nat.le_of_ble_eq_true rfl) dX10_doTwo_145 (fun r3 S3 e3 f3 => ?_)
        have ho := ho.2 r3 S3 e3 f3
        exact g_iret hc dX10_doTwo_148
      · have ho := ho.2 c_139
        refine g_iload_n (i := 1) hc 2 dX10_doTwo_149 rfl rfl ?_
        refine g_iconst (v := 4) hc dX10_doTwo_150 (by decide) ?_
        refine g_icmpne (tgt := 162) hc dX10_doTwo_151 rfl (fun c_151 => ?_) (fun c_151 => ?_)
        · have ho := ho.1 c_151
          refine g_iload_n (i := 2) hc 3 dX10_doTwo_154 rfl rfl ?_
          refine g_bipush (v := 7) hc dX10_doTwo_155 (by decide) ?_
          refine g_icmpne (tgt := 162) hc dX10_doTwo_157 rfl (fun c_157 => ?_) (fun c_157 => ?_)
          · have ho := ho.1 c_157
            refine g_iconst (v := (-1)) hc dX10_doTwo_160 (by decide) ?_
            exact g_iret hc dX10_doTwo_161
          · have ho := ho.2 c_157
            exact g_lv [1, 2, 0] rfl (g_jn_X10_doTwo_162 hc _ _ _ ho)
        · have ho := ho.2 c_151
          exact g_lv [1, 2, 0] rfl (g_jn_X10_doTwo_162 hc _ _ _ ho)
    · have ho := ho.2 c_82
      refine g_iload_n (i := 2) hc 2 dX10_doTwo_89 rfl rfl ?_
      refine g_iconst (v := 2) hc dX10_doTwo_90 (by decide) ?_
      refine g_icmpne (tgt := 98) hc dX10_doTwo_91 rfl (fun c_91 => ?_) (fun c_91 => ?_)
      · have ho := ho.1 c_91
        refine g_iconst (v := 0) hc dX10_doTwo_94 (by decide) ?_
        refine g_goto (tgt := 135) hc dX10_doTwo_95 rfl ?_
        refine g_istore (i := 4) (lv' := [(4, .int 0), (0, .ref (η.1 0)), (1, .int x1), (2, .int x2), (3, .int x3)]) hc dX10_doTwo_135 (by decide) rfl ?_
        refine g_iload_n (i := 1) hc 2 dX10_doTwo_137 rfl rfl ?_
        refine g_iconst (v := 5) hc dX10_doTwo_138 (by decide) ?_
        refine g_icmpne (tgt := 149) hc dX10_doTwo_139 rfl (fun c_139 => ?_) (fun c_139 => ?_)
        · have ho := ho.1 c_139
          refine g_aload_n (i := 0) hc 1 dX10_doTwo_142 rfl rfl ?_
          refine g_iload (i := 4) hc 0 dX10_doTwo_143 rfl ?_
          refine g_callVI hc 0 [.int 0] (fun l => c_X10_loadX l η 0 S ho.1) wtM_197 ge_X10_loadX rfl ⟨rfl, rfl⟩ ⟨Nat.le_of_ble_eq_true rfl, Nat.le_of_ble_eq_true rfl⟩ rfl rfl rfl (Nat.le_of_ble_eq_true rfl) dX10_doTwo_145 (fun r8 S8 e8 f8 => ?_)
          have ho := ho.2 r8 S8 e8 f8
          exact g_iret hc dX10_doTwo_148
        · have ho := ho.2 c_139
          refine g_iload_n (i := 1) hc 2 dX10_doTwo_149 rfl rfl ?_
          refine g_iconst (v := 4) hc dX10_doTwo_150 (by decide) ?_
          refine g_icmpne (tgt := 162) hc dX10_doTwo_151 rfl (fun c_151 => ?_) (fun c_151 => ?_)
          · have ho := ho.1 c_151
            refine g_iload_n (i := 2) hc 3 dX10_doTwo_154 rfl rfl ?_
            refine g_bipush (v := 7) hc dX10_doTwo_155 (by decide) ?_
            refine g_icmpne (tgt := 162) hc dX10_doTwo_157 rfl (fun c_157 => ?_) (fun c_157 => ?_)
            · have ho := ho.1 c_157
              refine g_iconst (v := (-1)) hc dX10_doTwo_160 (by decide) ?_
              exact g_iret hc dX10_doTwo_161
            · have ho := ho.2 c_157
              exact g_lv [1, 2, 0] rfl (g_jn_X10_doTwo_162 hc _ _ _ ho)
          · have ho := ho.2 c_151
            exact g_lv [1, 2, 0] rfl (g_jn_X10_doTwo_162 hc _ _ _ ho)
      · have ho := ho.2 c_91
        refine g_iload_n (i := 2) hc 2 dX10_doTwo_98 rfl rfl ?_
        refine g_iconst (v := 3) hc dX10_doTwo_99 (by decide) ?_
        refine g_icmpne (tgt := 107) hc dX10_doTwo_100 rfl (fun c_100 => ?_) (fun c_100 => ?_)
        · have ho := ho.1 c_100
          refine g_iconst (v := 5) hc dX10_doTwo_103 (by decide) ?_
          refine g_goto (tgt := 135) hc dX10_doTwo_104 rfl ?_
          refine g_istore (i := 4) (lv' := [(4, .int 5), (0, .ref (η.1 0)), (1, .int x1), (2, .int x2), (3, .int x3)]) hc dX10_doTwo_135 (by decide) rfl ?_
          refine g_iload_n (i := 1) hc 2 dX10_doTwo_137 rfl rfl ?_
          refine g_iconst (v := 5) hc dX10_doTwo_138 (by decide) ?_
          refine g_icmpne (tgt := 149) hc dX10_doTwo_139 rfl (fun c_139 => ?_) (fun c_139 => ?_)
          · have ho := ho.1 c_139
            refine g_aload_n (i := 0) hc 1 dX10_doTwo_142 rfl rfl ?_
            refine g_iload (i := 4) hc 0 dX10_doTwo_143 rfl ?_
            refine g_callVI hc 0 [.int 5] (fun l => c_X10_loadX l η 5 S ho.1) wtM_197 ge_X10_loadX rfl ⟨rfl, rfl⟩ ⟨Nat.le_of_ble_eq_true rfl, Nat.le_of_ble_eq_true rfl⟩ rfl rfl rfl (Nat.le_of_ble_eq_true rfl) dX10_doTwo_145 (fun r9 S9 e9 f9 => ?_)
            have ho := ho.2 r9 S9 e9 f9
            exact g_iret hc dX10_doTwo_148
          · have ho := ho.2 c_139
            refine g_iload_n (i := 1) hc 2 dX10_doTwo_149 rfl rfl ?_
            refine g_iconst (v := 4) hc dX10_doTwo_150 (by decide) ?_
            refine g_icmpne (tgt := 162) hc dX10_doTwo_151 rfl (fun c_151 => ?_) (fun c_151 => ?_)
            · have ho := ho.1 c_151
              refine g_iload_n (i := 2) hc 3 dX10_doTwo_154 rfl rfl ?_
              refine g_bipush (v := 7) hc dX10_doTwo_155 (by decide) ?_
              refine g_icmpne (tgt := 162) hc dX10_doTwo_157 rfl (fun c_157 => ?_) (fun c_157 => ?_)
              · have ho := ho.1 c_157
                refine g_iconst (v := (-1)) hc dX10_doTwo_160 (by decide) ?_
                exact g_iret hc dX10_doTwo_161
              · have ho := ho.2 c_157
                exact g_lv [1, 2, 0] rfl (g_jn_X10_doTwo_162 hc _ _ _ ho)
            · have ho := ho.2 c_151
              exact g_lv [1, 2, 0] rfl (g_jn_X10_doTwo_162 hc _ _ _ ho)
        · have ho := ho.2 c_100
          refine g_iload_n (i := 2) hc 2 dX10_doTwo_107 rfl rfl ?_
          refine g_iconst (v := 5) hc dX10_doTwo_108 (by decide) ?_
          refine g_icmpne (tgt := 124) hc dX10_doTwo_109 rfl (fun c_109 => ?_) (fun c_109 => ?_)
          · have ho := ho.1 c_109
            refine g_iload_n (i := 3) hc 3 dX10_doTwo_112 rfl rfl ?_
            refine g_ifeq (tgt := 120) hc dX10_doTwo_113 rfl (fun c_113 => ?_) (fun c_113 => ?_)
            · have ho := ho.1 c_113
              refine g_iconst (v := 3) hc dX10_doTwo_120 (by decide) ?_
              refine g_goto (tgt := 135) hc dX10_doTwo_121 rfl ?_
              refine g_istore (i := 4) (lv' := [(4, .int 3), (0, .ref (η.1 0)), (1, .int x1), (2, .int x2), (3, .int x3)]) hc dX10_doTwo_135 (by decide) rfl ?_
              refine g_iload_n (i := 1) hc 2 dX10_doTwo_137 rfl rfl ?_
              refine g_iconst (v := 5) hc dX10_doTwo_138 (by decide) ?_
              refine g_icmpne (tgt := 149) hc dX10_doTwo_139 rfl (fun c_139 => ?_) (fun c_139 => ?_)
              · have ho := ho.1 c_139
                refine g_aload_n (i := 0) hc 1 dX10_doTwo_142 rfl rfl ?_
                refine g_iload (i := 4) hc 0 dX10_doTwo_143 rfl ?_
                refine g_callVI hc 0 [.int 3] (fun l => c_X10_loadX l η 3 S ho.1) wtM_197 ge_X10_loadX rfl ⟨rfl, rfl⟩ ⟨Nat.le_of_ble_eq_true rfl, Nat.le_of_ble_eq_true rfl⟩ rfl rfl rfl (Nat.le_of_ble_eq_true rfl) dX10_doTwo_145 (fun r10 S10 e10 f10 => ?_)
                have ho := ho.2 r10 S10 e10 f10
                exact g_iret hc dX10_doTwo_148
              · have ho := ho.2 c_139
                refine g_iload_n (i := 1) hc 2 dX10_doTwo_149 rfl rfl ?_
                refine g_iconst (v := 4) hc dX10_doTwo_150 (by decide) ?_
                refine g_icmpne (tgt := 162) hc dX10_doTwo_151 rfl (fun c_151 => ?_) (fun c_151 => ?_)
                · have ho := ho.1 c_151
                  refine g_iload_n (i := 2) hc 3 dX10_doTwo_154 rfl rfl ?_
                  refine g_bipush (v := 7) hc dX10_doTwo_155 (by decide) ?_
                  refine g_icmpne (tgt := 162) hc dX10_doTwo_157 rfl (fun c_157 => ?_) (fun c_157 => ?_)
                  · have ho := ho.1 c_157
                    refine g_iconst (v := (-1)) hc dX10_doTwo_160 (by decide) ?_
                    exact g_iret hc dX10_doTwo_161
                  · have ho := ho.2 c_157
                    exact g_lv [1, 2, 0] rfl (g_jn_X10_doTwo_162 hc _ _ _ ho)
                · have ho := ho.2 c_151
                  exact g_lv [1, 2, 0] rfl (g_jn_X10_doTwo_162 hc _ _ _ ho)
            · have ho := ho.2 c_113
              refine g_iconst (v := 4) hc dX10_doTwo_116 (by decide) ?_
              refine g_goto (tgt := 135) hc dX10_doTwo_117 rfl ?_
              refine g_istore (i := 4) (lv' := [(4, .int 4), (0, .ref (η.1 0)), (1, .int x1), (2, .int x2), (3, .int x3)]) hc dX10_doTwo_135 (by decide) rfl ?_
              refine g_iload_n (i := 1) hc 2 dX10_doTwo_137 rfl rfl ?_
              refine g_iconst (v := 5) hc dX10_doTwo_138 (by decide) ?_
              refine g_icmpne (tgt := 149) hc dX10_doTwo_139 rfl (fun c_139 => ?_) (fun c_139 => ?_)
              · have ho := ho.1 c_139
                refine g_aload_n (i := 0) hc 1 dX10_doTwo_142 rfl rfl ?_
                refine g_iload (i := 4) hc 0 dX10_doTwo_143 rfl ?_
                refine g_callVI hc 0 [.int 4] (fun l => c_X10_loadX l η 4 S ho.1) wtM_197 ge_X10_loadX rfl ⟨rfl, rfl⟩ ⟨Nat.le_of_ble_eq_true rfl, Nat.le_of_ble_eq_true rfl⟩ rfl rfl rfl (Nat.le_of_ble_eq_true rfl) dX10_doTwo_145 (fun r11 S11 e11 f11 => ?_)
                have ho := ho.2 r11 S11 e11 f11
                exact g_iret hc dX10_doTwo_148
              · have ho := ho.2 c_139
                refine g_iload_n (i := 1) hc 2 dX10_doTwo_149 rfl rfl ?_
                refine g_iconst (v := 4) hc dX10_doTwo_150 (by decide) ?_
                refine g_icmpne (tgt := 162) hc dX10_doTwo_151 rfl (fun c_151 => ?_) (fun c_151 => ?_)
                · have ho := ho.1 c_151
                  refine g_iload_n (i := 2) hc 3 dX10_doTwo_154 rfl rfl ?_
                  refine g_bipush (v := 7) hc dX10_doTwo_155 (by decide) ?_
                  refine g_icmpne (tgt := 162) hc dX10_doTwo_157 rfl (fun c_157 => ?_) (fun c_157 => ?_)
                  · have ho := ho.1 c_157
                    refine g_iconst (v := (-1)) hc dX10_doTwo_160 (by decide) ?_
                    exact g_iret hc dX10_doTwo_161
                  · have ho := ho.2 c_157
                    exact g_lv [1, 2, 0] rfl (g_jn_X10_doTwo_162 hc _ _ _ ho)
                · have ho := ho.2 c_151
                  exact g_lv [1, 2, 0] rfl (g_jn_X10_doTwo_162 hc _ _ _ ho)
          · have ho := ho.2 c_109
            refine g_iload_n (i := 3) hc 3 dX10_doTwo_124 rfl rfl ?_
            refine g_ifeq (tgt := 133) hc dX10_doTwo_125 rfl (fun c_125 => ?_) (fun c_125 => ?_)
            · have ho := ho.1 c_125
              refine g_bipush (v := 6) hc dX10_doTwo_133 (by decide) ?_
              refine g_istore (i := 4) (lv' := [(4, .int 6), (0, .ref (η.1 0)), (1, .int x1), (2, .int x2), (3, .int x3)]) hc dX10_doTwo_135 (by decide) rfl ?_
              refine g_iload_n (i := 1) hc 2 dX10_doTwo_137 rfl rfl ?_
              refine g_iconst (v := 5) hc dX10_doTwo_138 (by decide) ?_
              refine g_icmpne (tgt := 149) hc dX10_doTwo_139 rfl (fun c_139 => ?_) (fun c_139 => ?_)
              · have ho := ho.1 c_139
                refine g_aload_n (i := 0) hc 1 dX10_doTwo_142 rfl rfl ?_
                refine g_iload (i := 4) hc 0 dX10_doTwo_143 rfl ?_
                refine g_callVI hc 0 [.int 6] (fun l => c_X10_loadX l η 6 S ho.1) wtM_197 ge_X10_loadX rfl ⟨rfl, rfl⟩ ⟨Nat.le_of_ble_eq_true rfl, Nat.le_of_ble_eq_true rfl⟩ rfl rfl rfl (Nat.le_of_ble_eq_true rfl) dX10_doTwo_145 (fun r12 S12 e12 f12 => ?_)
                have ho := ho.2 r12 S12 e12 f12
                exact g_iret hc dX10_doTwo_148
              · have ho := ho.2 c_139
                refine g_iload_n (i := 1) hc 2 dX10_doTwo_149 rfl rfl ?_
                refine g_iconst (v := 4) hc dX10_doTwo_150 (by decide) ?_
                refine g_icmpne (tgt := 162) hc dX10_doTwo_151 rfl (fun c_151 => ?_) (fun c_151 => ?_)
                · have ho := ho.1 c_151
                  refine g_iload_n (i := 2) hc 3 dX10_doTwo_154 rfl rfl ?_
                  refine g_bipush (v := 7) hc dX10_doTwo_155 (by decide) ?_
                  refine g_icmpne (tgt := 162) hc dX10_doTwo_157 rfl (fun c_157 => ?_) (fun c_157 => ?_)
                  · have ho := ho.1 c_157
                    refine g_iconst (v := (-1)) hc dX10_doTwo_160 (by decide) ?_
                    exact g_iret hc dX10_doTwo_161
                  · have ho := ho.2 c_157
                    exact g_lv [1, 2, 0] rfl (g_jn_X10_doTwo_162 hc _ _ _ ho)
                · have ho := ho.2 c_151
                  exact g_lv [1, 2, 0] rfl (g_jn_X10_doTwo_162 hc _ _ _ ho)
            · have ho := ho.2 c_125
              refine g_bipush (v := 7) hc dX10_doTwo_128 (by decide) ?_
              refine g_goto (tgt := 135) hc dX10_doTwo_130 rfl ?_
              refine g_istore (i := 4) (lv' := [(4, .int 7), (0, .ref (η.1 0)), (1, .int x1), (2, .int x2), (3, .int x3)]) hc dX10_doTwo_135 (by decide) rfl ?_
              refine g_iload_n (i := 1) hc 2 dX10_doTwo_137 rfl rfl ?_
              refine g_iconst (v := 5) hc dX10_doTwo_138 (by decide) ?_
              refine g_icmpne (tgt := 149) hc dX10_doTwo_139 rfl (fun c_139 => ?_) (fun c_139 => ?_)
              · have ho := ho.1 c_139
                refine g_aload_n (i := 0) hc 1 dX10_doTwo_142 rfl rfl ?_
                refine g_iload (i := 4) hc 0 dX10_doTwo_143 rfl ?_
                refine g_callVI hc 0 [.int 7] (fun l => c_X10_loadX l η 7 S ho.1) wtM_197 ge_X10_loadX rfl ⟨rfl, rfl⟩ ⟨Nat.le_of_ble_eq_true rfl, Nat.le_of_ble_eq_true rfl⟩ rfl rfl rfl (Nat.le_of_ble_eq_true rfl) dX10_doTwo_145 (fun r13 S13 e13 f13 => ?_)
                have ho := ho.2 r13 S13 e13 f13
                exact g_iret hc dX10_doTwo_148
              · have ho := ho.2 c_139
                refine g_iload_n (i := 1) hc 2 dX10_doTwo_149 rfl rfl ?_
                refine g_iconst (v := 4) hc dX10_doTwo_150 (by decide) ?_
                refine g_icmpne (tgt := 162) hc dX10_doTwo_151 rfl (fun c_151 => ?_) (fun c_151 => ?_)
                · have ho := ho.1 c_151
                  refine g_iload_n (i := 2) hc 3 dX10_doTwo_154 rfl rfl ?_
                  refine g_bipush (v := 7) hc dX10_doTwo_155 (by decide) ?_
                  refine g_icmpne (tgt := 162) hc dX10_doTwo_157 rfl (fun c_157 => ?_) (fun c_157 => ?_)
                  · have ho := ho.1 c_157
                    refine g_iconst (v := (-1)) hc dX10_doTwo_160 (by decide) ?_
                    exact g_iret hc dX10_doTwo_161
                  · have ho := ho.2 c_157
                    exact g_lv [1, 2, 0] rfl (g_jn_X10_doTwo_162 hc _ _ _ ho)
                · have ho := ho.2 c_151
                  exact g_lv [1, 2, 0] rfl (g_jn_X10_doTwo_162 hc _ _ _ ho)
set_option maxRecDepth 100000 in
set_option maxHeartbeats 4000000 in
theorem g_jn_X10_doTwo_51 {η : gE} {κ : gK} (hc : gC (oM η) κ cX10_doTwo 5 RX10 (some .int) rm_X10_doTwo) (x1 : Int32) (x2 : Int32) (x3 : Int32) (S : gSt) (ho : ok_jn_X10_doTwo_51 x1 x2 x3 S) : gG (oM η) κ 5 oI 51 [(0, .ref (η.1 0)), (1, .int x1), (2, .int x2), (3, .int x3)] [] S (jn_X10_doTwo_51 x1 x2 x3 S) := by
  unfold jn_X10_doTwo_51
  unfold ok_jn_X10_doTwo_51 at ho
  refine g_iload_n (i := 2) hc 2 dX10_doTwo_51 rfl rfl ?_
  refine g_iconst (v := 4) hc dX10_doTwo_52 (by decide) ?_
  refine g_icmpeq (tgt := 66) hc dX10_doTwo_53 rfl (fun c_53 => ?_) (fun c_53 => ?_)
  · have ho := ho.1 c_53
    refine g_iconst (v := (-1)) hc dX10_doTwo_66 (by decide) ?_
    exact g_iret hc dX10_doTwo_67
  · have ho := ho.2 c_53
    refine g_iload_n (i := 2) hc 2 dX10_doTwo_56 rfl rfl ?_
    refine g_bipush (v := 6) hc dX10_doTwo_57 (by decide) ?_
    refine g_icmpne (tgt := 68) hc dX10_doTwo_59 rfl (fun c_59 => ?_) (fun c_59 => ?_)
    · have ho := ho.1 c_59
      refine g_iload_n (i := 3) hc 3 dX10_doTwo_62 rfl rfl ?_
      refine g_ifne (tgt := 68) hc dX10_doTwo_63 rfl (fun c_63 => ?_) (fun c_63 => ?_)
      · have ho := ho.1 c_63
        refine g_iconst (v := (-1)) hc dX10_doTwo_66 (by decide) ?_
        exact g_iret hc dX10_doTwo_67
      · have ho := ho.2 c_63
        exact g_lv [0, 1, 2, 3] rfl (g_jn_X10_doTwo_68 hc _ _ _ _ ho)
    · have ho := ho.2 c_59
      exact g_lv [0, 1, 2, 3] rfl (g_jn_X10_doTwo_68 hc _ _ _ _ ho)
set_option maxRecDepth 100000 in
set_option maxHeartbeats 4000000 in
theorem g_jn_X10_doTwo_10 {η : gE} {κ : gK} (hc : gC (oM η) κ cX10_doTwo 5 RX10 (some .int) rm_X10_doTwo) (x1 : Int32) (x2 : Int32) (S : gSt) (ho : ok_jn_X10_doTwo_10 x1 x2 S) : gG (oM η) κ 5 oI 10 [(0, .ref (η.1 0)), (1, .int x1), (2, .int x2)] [] S (jn_X10_doTwo_10 x1 x2 S) := by
  unfold jn_X10_doTwo_10
  unfold ok_jn_X10_doTwo_10 at ho
  refine g_iconst (v := 1) hc dX10_doTwo_10 (by decide) ?_
  refine g_goto (tgt := 15) hc dX10_doTwo_11 rfl ?_
  refine g_istore_n (i := 3) (lv' := [(3, .int 1), (0, .ref (η.1 0)), (1, .int x1), (2, .int x2)]) hc dX10_doTwo_15 rfl (by decide) rfl ?_
  refine g_iload_n (i := 2) hc 3 dX10_doTwo_16 rfl rfl ?_
  refine g_ifne (tgt := 35) hc dX10_doTwo_17 rfl (fun c_17 => ?_) (fun c_17 => ?_)
  · have ho := ho.1 c_17
    refine g_iload_n (i := 1) hc 2 dX10_doTwo_20 rfl rfl ?_
    refine g_iconst (v := 5) hc dX10_doTwo_21 (by decide) ?_
    refine g_icmpne (tgt := 33) hc dX10_doTwo_22 rfl (fun c_22 => ?_) (fun c_22 => ?_)
    · have ho := ho.1 c_22
      refine g_aload_n (i := 0) hc 1 dX10_doTwo_25 rfl rfl ?_
      refine g_iconst (v := 1) hc dX10_doTwo_26 (by decide) ?_
      refine g_callVI hc 0 [.int 1] (fun l => c_X10_loadX l η 1 S ho.1) wtM_197 ge_X10_loadX rfl ⟨rfl, rfl⟩ ⟨Nat.le_of_ble_eq_true rfl, Nat.le_of_ble_eq_true rfl⟩ rfl rfl rfl (Nat.le_of_ble_eq_true rfl) dX10_doTwo_27 (fun r1 S1 e1 f1 => ?_)
      have ho := ho.2 r1 S1 e1 f1
      refine g_goto (tgt := 34) hc dX10_doTwo_30 rfl ?_
      exact g_iret hc dX10_doTwo_34
    · have ho := ho.2 c_22
      refine g_iconst (v := (-1)) hc dX10_doTwo_33 (by decide) ?_
      exact g_iret hc dX10_doTwo_34
  · have ho := ho.2 c_17
    refine g_iload_n (i := 2) hc 3 dX10_doTwo_35 rfl rfl ?_
    refine g_iconst (v := 2) hc dX10_doTwo_36 (by decide) ?_
    refine g_icmpne (tgt := 51) hc dX10_doTwo_37 rfl (fun c_37 => ?_) (fun c_37 => ?_)
    · have ho := ho.1 c_37
      refine g_iload_n (i := 1) hc 2 dX10_doTwo_40 rfl rfl ?_
      refine g_iconst (v := 3) hc dX10_doTwo_41 (by decide) ?_
      refine g_icmple (tgt := 51) hc dX10_doTwo_42 rfl (fun c_42 => ?_) (fun c_42 => ?_)
      · have ho := ho.1 c_42
        exact g_lv [1, 2, 3, 0] rfl (g_jn_X10_doTwo_51 hc _ _ _ _ ho)
      · have ho := ho.2 c_42
        refine g_aload_n (i := 0) hc 1 dX10_doTwo_45 rfl rfl ?_
        refine g_iload_n (i := 1) hc 2 dX10_doTwo_46 rfl rfl ?_
        refine g_callVI hc 0 [.int x1] (fun l => c_X10_moved l η x1 S ho.1) wtM_209 ge_X10_moved rfl ⟨rfl, rfl⟩ ⟨Nat.le_of_ble_eq_true rfl, Nat.le_of_ble_eq_true rfl⟩ rfl rfl rfl (Nat.le_of_ble_eq_true rfl) dX10_doTwo_47 (fun r14 S14 e14 f14 => ?_)
        have ho := ho.2 r14 S14 e14 f14
        exact g_iret hc dX10_doTwo_50
    · have ho := ho.2 c_37
      exact g_lv [1, 2, 3, 0] rfl (g_jn_X10_doTwo_51 hc _ _ _ _ ho)
set_option maxRecDepth 100000 in
set_option maxHeartbeats 4000000 in
theorem c_X10_doTwo (l : Launch) (η : gE) (a0 : Int32) (a1 : Int32) (S : gSt) (ho : ok_X10_doTwo a0 a1 S) : gMet l yX10_doTwo cX10_doTwo 5 (some .int) rm_X10_doTwo (oM η) [.ref (η.1 0), .int a0, .int a1] S (oI (sp_X10_doTwo a0 a1 S).1) (sp_X10_doTwo a0 a1 S).2 := by
  refine gMet_of (X := sp_X10_doTwo a0 a1 S) (lv := [(0, .ref (η.1 0)), (1, .int a0), (2, .int a1)]) oI zM_ok (by decide +kernel) (Nat.le_of_ble_eq_true rfl) rfl (fun κ hc => ?_)
  have hc : gC (oM η) κ cX10_doTwo 5 RX10 (some .int) rm_X10_doTwo := hc
  unfold sp_X10_doTwo
  unfold ok_X10_doTwo at ho
  refine g_iload_n (i := 1) hc 1 dX10_doTwo_0 rfl rfl ?_
  refine g_iconst (v := 4) hc dX10_doTwo_1 (by decide) ?_
  refine g_icmpeq (tgt := 10) hc dX10_doTwo_2 rfl (fun c_2 => ?_) (fun c_2 => ?_)
  · have ho := ho.1 c_2
    exact g_lv [0, 1, 2] rfl (g_jn_X10_doTwo_10 hc _ _ _ ho)
  · have ho := ho.2 c_2
    refine g_iload_n (i := 1) hc 1 dX10_doTwo_5 rfl rfl ?_
    refine g_iconst (v := 5) hc dX10_doTwo_6 (by decide) ?_
    refine g_icmpne (tgt := 14) hc dX10_doTwo_7 rfl (fun c_7 => ?_) (fun c_7 => ?_)
    · have ho := ho.1 c_7
      exact g_lv [0, 1, 2] rfl (g_jn_X10_doTwo_10 hc _ _ _ ho)
    · have ho := ho.2 c_7
      refine g_iconst (v := 0) hc dX10_doTwo_14 (by decide) ?_
      refine g_istore_n (i := 3) (lv' := [(3, .int 0), (0, .ref (η.1 0)), (1, .int a0), (2, .int a1)]) hc dX10_doTwo_15 rfl (by decide) rfl ?_
      refine g_iload_n (i := 2) hc 3 dX10_doTwo_16 rfl rfl ?_
      refine g_ifne (tgt := 35) hc dX10_doTwo_17 rfl (fun c_17 => ?_) (fun c_17 => ?_)
      · have ho := ho.1 c_17
        refine g_iload_n (i := 1) hc 2 dX10_doTwo_20 rfl rfl ?_
        refine g_iconst (v := 5) hc dX10_doTwo_21 (by decide) ?_
        refine g_icmpne (tgt := 33) hc dX10_doTwo_22 rfl (fun c_22 => ?_) (fun c_22 => ?_)
        · have ho := ho.1 c_22
          refine g_aload_n (i := 0) hc 1 dX10_doTwo_25 rfl rfl ?_
          refine g_iconst (v := 1) hc dX10_doTwo_26 (by decide) ?_
          refine g_callVI hc 0 [.int 1] (fun l => c_X10_loadX l η 1 S ho.1) wtM_197 ge_X10_loadX rfl ⟨rfl, rfl⟩ ⟨Nat.le_of_ble_eq_true rfl, Nat.le_of_ble_eq_true rfl⟩ rfl rfl rfl (Nat.le_of_ble_eq_true rfl) dX10_doTwo_27 (fun r15 S15 e15 f15 => ?_)
          have ho := ho.2 r15 S15 e15 f15
          refine g_goto (tgt := 34) hc dX10_doTwo_30 rfl ?_
          exact g_iret hc dX10_doTwo_34
        · have ho := ho.2 c_22
          refine g_iconst (v := (-1)) hc dX10_doTwo_33 (by decide) ?_
          exact g_iret hc dX10_doTwo_34
      · have ho := ho.2 c_17
        refine g_iload_n (i := 2) hc 3 dX10_doTwo_35 rfl rfl ?_
        refine g_iconst (v := 2) hc dX10_doTwo_36 (by decide) ?_
        refine g_icmpne (tgt := 51) hc dX10_doTwo_37 rfl (fun c_37 => ?_) (fun c_37 => ?_)
        · have ho := ho.1 c_37
          refine g_iload_n (i := 1) hc 2 dX10_doTwo_40 rfl rfl ?_
          refine g_iconst (v := 3) hc dX10_doTwo_41 (by decide) ?_
          refine g_icmple (tgt := 51) hc dX10_doTwo_42 rfl (fun c_42 => ?_) (fun c_42 => ?_)
          · have ho := ho.1 c_42
            exact g_lv [1, 2, 3, 0] rfl (g_jn_X10_doTwo_51 hc _ _ _ _ ho)
          · have ho := ho.2 c_42
            refine g_aload_n (i := 0) hc 1 dX10_doTwo_45 rfl rfl ?_
            refine g_iload_n (i := 1) hc 2 dX10_doTwo_46 rfl rfl ?_
            refine g_callVI hc 0 [.int a0] (fun l => c_X10_moved l η a0 S ho.1) wtM_209 ge_X10_moved rfl ⟨rfl, rfl⟩ ⟨Nat.le_of_ble_eq_true rfl, Nat.le_of_ble_eq_true rfl⟩ rfl rfl rfl (Nat.le_of_ble_eq_true rfl) dX10_doTwo_47 (fun r16 S16 e16 f16 => ?_)
            have ho := ho.2 r16 S16 e16 f16
            exact g_iret hc dX10_doTwo_50
        · have ho := ho.2 c_37
          exact g_lv [1, 2, 3, 0] rfl (g_jn_X10_doTwo_51 hc _ _ _ _ ho)
