abbrev rm_X10_thrown : Room := { frames := 0, cells := 0, slots := 0, locals := 0 }
def sp_X10_thrown  (S : gSt) : Int32 × gSt := ((S.1 0), S)
def ok_X10_thrown  (S : gSt) : Prop := True
set_option maxRecDepth 100000 in
set_option maxHeartbeats 4000000 in
theorem c_X10_thrown (l : Launch) (η : gE)  (S : gSt) (ho : ok_X10_thrown S) : gMet l yX10_thrown cX10_thrown 1 (some .int) rm_X10_thrown (oM η) [.ref (η.1 0)] S (oI (sp_X10_thrown S).1) (sp_X10_thrown S).2 := by
  refine gMet_of (X := sp_X10_thrown S) (lv := [(0, .ref (η.1 0))]) oI zM_ok (by decide +kernel) (Nat.le_of_ble_eq_true rfl) rfl (fun κ hc => ?_)
  have hc : gC (oM η) κ cX10_thrown 1 RX10 (some .int) rm_X10_thrown := hc
  unfold sp_X10_thrown
  unfold ok_X10_thrown at ho
  refine g_aload_n (i := 0) hc 0 dX10_thrown_0 rfl rfl ?_
  refine gf_M_0_code hc wtM_0 dX10_thrown_1 ?_
  exact g_iret hc dX10_thrown_4

abbrev rm_X10_fail : Room := { frames := 0, cells := 0, slots := 0, locals := 0 }
def sp_X10_fail  (S : gSt) : Int32 × gSt := gL (sI S 0 1) (fun S1 => (0, S1))
def ok_X10_fail  (S : gSt) : Prop := ∀ S1 : gSt, S1 = sI S 0 1 → True
set_option maxRecDepth 100000 in
set_option maxHeartbeats 4000000 in
theorem c_X10_fail (l : Launch) (η : gE)  (S : gSt) (ho : ok_X10_fail S) : gMet l yX10_fail cX10_fail 1 (some .int) rm_X10_fail (oM η) [.ref (η.1 0)] S (oI (sp_X10_fail S).1) (sp_X10_fail S).2 := by
  refine gMet_of (X := sp_X10_fail S) (lv := [(0, .ref (η.1 0))]) oI zM_ok (by decide +kernel) (Nat.le_of_ble_eq_true rfl) rfl (fun κ hc => ?_)
  have hc : gC (oM η) κ cX10_fail 1 RX10 (some .int) rm_X10_fail := hc
  unfold sp_X10_fail
  unfold ok_X10_fail at ho
  refine g_aload_n (i := 0) hc 0 dX10_fail_0 rfl rfl ?_
  refine g_iconst (v := 1) hc dX10_fail_1 (by decide) ?_
  refine pf_M_0_code (v := 1) hc wtM_0 dX10_fail_2 (fun S1 f1 => ?_)
  have ho := ho S1 f1
  refine g_iconst (v := 0) hc dX10_fail_5 (by decide) ?_
  exact g_iret hc dX10_fail_6

abbrev rm_X10_rom : Room := { frames := 0, cells := 0, slots := 0, locals := 0 }
def sp_X10_rom (a0 : Int32) (a1 : Int32) (S : gSt) : Unit × gSt := (if a0 < 0 then gL (sI S 0 1) (fun S1 => (if (S1.1 0) = 0 then gL (aP S1 3 a0 (a1 &&& 255)) (fun S2 => ((), S2)) else ((), S1))) else (if a0 ≤ 511 then gL (sI S 0 0) (fun S3 => (if (S3.1 0) = 0 then gL (aP S3 3 a0 (a1 &&& 255)) (fun S4 => ((), S4)) else ((), S3))) else gL (sI S 0 1) (fun S5 => (if (S5.1 0) = 0 then gL (aP S5 3 a0 (a1 &&& 255)) (fun S6 => ((), S6)) else ((), S5)))))
def ok_X10_rom (a0 : Int32) (a1 : Int32) (S : gSt) : Prop := ((a0 < 0 → ∀ S1 : gSt, S1 = sI S 0 1 → (((S1.1 0) = 0 → (vp_in a0 512 ∧ ∀ S2 : gSt, S2 = aP S1 3 a0 (a1 &&& 255) → True)) ∧ (¬ (S1.1 0) = 0 → True))) ∧ (¬ a0 < 0 → ((a0 ≤ 511 → ∀ S3 : gSt, S3 = sI S 0 0 → (((S3.1 0) = 0 → (vp_in a0 512 ∧ ∀ S4 : gSt, S4 = aP S3 3 a0 (a1 &&& 255) → True)) ∧ (¬ (S3.1 0) = 0 → True))) ∧ (¬ a0 ≤ 511 → ∀ S5 : gSt, S5 = sI S 0 1 → (((S5.1 0) = 0 → (vp_in a0 512 ∧ ∀ S6 : gSt, S6 = aP S5 3 a0 (a1 &&& 255) → True)) ∧ (¬ (S5.1 0) = 0 → True))))))
set_option maxRecDepth 100000 in
set_option maxHeartbeats 4000000 in
theorem c_X10_rom (l : Launch) (η : gE) (a0 : Int32) (a1 : Int32) (S : gSt) (ho : ok_X10_rom a0 a1 S) : gMet l yX10_rom cX10_rom 3 none rm_X10_rom (oM η) [.ref (η.1 0), .int a0, .int a1] S (oV (sp_X10_rom a0 a1 S).1) (sp_X10_rom a0 a1 S).2 := by
  refine gMet_of (X := sp_X10_rom a0 a1 S) (lv := [(0, .ref (η.1 0)), (1, .int a0), (2, .int a1)]) oV zM_ok (by decide +kernel) (Nat.le_of_ble_eq_true rfl) rfl (fun κ hc => ?_)
  have hc : gC (oM η) κ cX10_rom 3 RX10 none rm_X10_rom := hc
  unfold sp_X10_rom
  unfold ok_X10_rom at ho
  refine g_aload_n (i := 0) hc 0 dX10_rom_0 rfl rfl ?_
  refine g_iload_n (i := 1) hc 1 dX10_rom_1 rfl rfl ?_
  refine g_iflt (tgt := 12) hc dX10_rom_2 rfl (fun c_2 => ?_) (fun c_2 => ?_)
  · have ho := ho.1 c_2
    refine g_iconst (v := 1) hc dX10_rom_12 (by decide) ?_
    refine g_goto (tgt := 17) hc dX10_rom_13 rfl ?_
    refine pf_M_0_code (v := 1) hc wtM_0 dX10_rom_17 (fun S1 f1 => ?_)
    have ho := ho S1 f1
    refine g_aload_n (i := 0) hc 0 dX10_rom_20 rfl rfl ?_
    refine gf_M_0_code hc wtM_0 dX10_rom_21 ?_
    refine g_ifne (tgt := 38) hc dX10_rom_24 rfl (fun c_24 => ?_) (fun c_24 => ?_)
    · have ho := ho.1 c_24
      refine g_aload_n (i := 0) hc 0 dX10_rom_27 rfl rfl ?_
      refine gf_M_0_prg hc wtM_1 dX10_rom_28 ?_
      refine g_iload_n (i := 1) hc 1 dX10_rom_31 rfl rfl ?_
      refine g_iload_n (i := 2) hc 2 dX10_rom_32 rfl rfl ?_
      refine g_sipush (v := 255) hc dX10_rom_33 (by decide) ?_
      refine g_iand hc dX10_rom_36 ?_
      refine as_M_3 hc ho.1 dX10_rom_37 (fun S2 f2 => ?_)
      have ho := ho.2
      have ho := ho S2 f2
      exact g_vret hc dX10_rom_38
    · have ho := ho.2 c_24
      exact g_vret hc dX10_rom_38
  · have ho := ho.2 c_2
    refine g_iload_n (i := 1) hc 1 dX10_rom_5 rfl rfl ?_
    refine g_sipush (v := 511) hc dX10_rom_6 (by decide) ?_
    refine g_icmple (tgt := 16) hc dX10_rom_9 rfl (fun c_9 => ?_) (fun c_9 => ?_)
    · have ho := ho.1 c_9
      refine g_iconst (v := 0) hc dX10_rom_16 (by decide) ?_
      refine pf_M_0_code (v := 0) hc wtM_0 dX10_rom_17 (fun S3 f3 => ?_)
      have ho := ho S3 f3
      refine g_aload_n (i := 0) hc 0 dX10_rom_20 rfl rfl ?_
      refine gf_M_0_code hc wtM_0 dX10_rom_21 ?_
      refine g_ifne (tgt := 38) hc dX10_rom_24 rfl (fun c_24 => ?_) (fun c_24 => ?_)
      · have ho := ho.1 c_24
        refine g_aload_n (i := 0) hc 0 dX10_rom_27 rfl rfl ?_
        refine gf_M_0_prg hc wtM_1 dX10_rom_28 ?_
        refine g_iload_n (i := 1) hc 1 dX10_rom_31 rfl rfl ?_
        refine g_iload_n (i := 2) hc 2 dX10_rom_32 rfl rfl ?_
        refine g_sipush (v := 255) hc dX10_rom_33 (by decide) ?_
        refine g_iand hc dX10_rom_36 ?_
        refine as_M_3 hc ho.1 dX10_rom_37 (fun S4 f4 => ?_)
        have ho := ho.2
        have ho := ho S4 f4
        exact g_vret hc dX10_rom_38
      · have ho := ho.2 c_24
        exact g_vret hc dX10_rom_38
    · have ho := ho.2 c_9
      refine g_iconst (v := 1) hc dX10_rom_12 (by decide) ?_
      refine g_goto (tgt := 17) hc dX10_rom_13 rfl ?_
      refine pf_M_0_code (v := 1) hc wtM_0 dX10_rom_17 (fun S5 f5 => ?_)
      have ho := ho S5 f5
      refine g_aload_n (i := 0) hc 0 dX10_rom_20 rfl rfl ?_
      refine gf_M_0_code hc wtM_0 dX10_rom_21 ?_
      refine g_ifne (tgt := 38) hc dX10_rom_24 rfl (fun c_24 => ?_) (fun c_24 => ?_)
      · have ho := ho.1 c_24
        refine g_aload_n (i := 0) hc 0 dX10_rom_27 rfl rfl ?_
        refine gf_M_0_prg hc wtM_1 dX10_rom_28 ?_
        refine g_iload_n (i := 1) hc 1 dX10_rom_31 rfl rfl ?_
        refine g_iload_n (i := 2) hc 2 dX10_rom_32 rfl rfl ?_
        refine g_sipush (v := 255) hc dX10_rom_33 (by decide) ?_
        refine g_iand hc dX10_rom_36 ?_
        refine as_M_3 hc ho.1 dX10_rom_37 (fun S6 f6 => ?_)
        have ho := ho.2
        have ho := ho S6 f6
        exact g_vret hc dX10_rom_38
      · have ho := ho.2 c_24
        exact g_vret hc dX10_rom_38

abbrev rm_X10_chr : Room := { frames := 0, cells := 0, slots := 0, locals := 0 }
def sp_X10_chr (a0 : Int32) (a1 : Int32) (S : gSt) : Unit × gSt := (if a0 < 0 then gL (sI S 0 1) (fun S1 => (if (S1.1 0) = 0 then gL (aP S1 4 a0 (a1 &&& 255)) (fun S2 => ((), S2)) else ((), S1))) else (if a0 ≤ 127 then gL (sI S 0 0) (fun S3 => (if (S3.1 0) = 0 then gL (aP S3 4 a0 (a1 &&& 255)) (fun S4 => ((), S4)) else ((), S3))) else gL (sI S 0 1) (fun S5 => (if (S5.1 0) = 0 then gL (aP S5 4 a0 (a1 &&& 255)) (fun S6 => ((), S6)) else ((), S5)))))
def ok_X10_chr (a0 : Int32) (a1 : Int32) (S : gSt) : Prop := ((a0 < 0 → ∀ S1 : gSt, S1 = sI S 0 1 → (((S1.1 0) = 0 → (vp_in a0 128 ∧ ∀ S2 : gSt, S2 = aP S1 4 a0 (a1 &&& 255) → True)) ∧ (¬ (S1.1 0) = 0 → True))) ∧ (¬ a0 < 0 → ((a0 ≤ 127 → ∀ S3 : gSt, S3 = sI S 0 0 → (((S3.1 0) = 0 → (vp_in a0 128 ∧ ∀ S4 : gSt, S4 = aP S3 4 a0 (a1 &&& 255) → True)) ∧ (¬ (S3.1 0) = 0 → True))) ∧ (¬ a0 ≤ 127 → ∀ S5 : gSt, S5 = sI S 0 1 → (((S5.1 0) = 0 → (vp_in a0 128 ∧ ∀ S6 : gSt, S6 = aP S5 4 a0 (a1 &&& 255) → True)) ∧ (¬ (S5.1 0) = 0 → True))))))
set_option maxRecDepth 100000 in
set_option maxHeartbeats 4000000 in
theorem c_X10_chr (l : Launch) (η : gE) (a0 : Int32) (a1 : Int32) (S : gSt) (ho : ok_X10_chr a0 a1 S) : gMet l yX10_chr cX10_chr 3 none rm_X10_chr (oM η) [.ref (η.1 0), .int a0, .int a1] S (oV (sp_X10_chr a0 a1 S).1) (sp_X10_chr a0 a1 S).2 := by
  refine gMet_of (X := sp_X10_chr a0 a1 S) (lv := [(0, .ref (η.1 0)), (1, .int a0), (2, .int a1)]) oV zM_ok (by decide +kernel) (Nat.le_of_ble_eq_true rfl) rfl (fun κ hc => ?_)
  have hc : gC (oM η) κ cX10_chr 3 RX10 none rm_X10_chr := hc
  unfold sp_X10_chr
  unfold ok_X10_chr at ho
  refine g_aload_n (i := 0) hc 0 dX10_chr_0 rfl rfl ?_
  refine g_iload_n (i := 1) hc 1 dX10_chr_1 rfl rfl ?_
  refine g_iflt (tgt := 11) hc dX10_chr_2 rfl (fun c_2 => ?_) (fun c_2 => ?_)
  · have ho := ho.1 c_2
    refine g_iconst (v := 1) hc dX10_chr_11 (by decide) ?_
    refine g_goto (tgt := 16) hc dX10_chr_12 rfl ?_
    refine pf_M_0_code (v := 1) hc wtM_0 dX10_chr_16 (fun S1 f1 => ?_)
    have ho := ho S1 f1
    refine g_aload_n (i := 0) hc 0 dX10_chr_19 rfl rfl ?_
    refine gf_M_0_code hc wtM_0 dX10_chr_20 ?_
    refine g_ifne (tgt := 37) hc dX10_chr_23 rfl (fun c_23 => ?_) (fun c_23 => ?_)
    · have ho := ho.1 c_23
      refine g_aload_n (i := 0) hc 0 dX10_chr_26 rfl rfl ?_
      refine gf_M_0_patterns hc wtM_2 dX10_chr_27 ?_
      refine g_iload_n (i := 1) hc 1 dX10_chr_30 rfl rfl ?_
      refine g_iload_n (i := 2) hc 2 dX10_chr_31 rfl rfl ?_
      refine g_sipush (v := 255) hc dX10_chr_32 (by decide) ?_
      refine g_iand hc dX10_chr_35 ?_
      refine as_M_4 hc ho.1 dX10_chr_36 (fun S2 f2 => ?_)
      have ho := ho.2
      have ho := ho S2 f2
      exact g_vret hc dX10_chr_37
    · have ho := ho.2 c_23
      exact g_vret hc dX10_chr_37
  · have ho := ho.2 c_2
    refine g_iload_n (i := 1) hc 1 dX10_chr_5 rfl rfl ?_
    refine g_bipush (v := 127) hc dX10_chr_6 (by decide) ?_
    refine g_icmple (tgt := 15) hc dX10_chr_8 rfl (fun c_8 => ?_) (fun c_8 => ?_)
    · have ho := ho.1 c_8
      refine g_iconst (v := 0) hc dX10_chr_15 (by decide) ?_
      refine pf_M_0_code (v := 0) hc wtM_0 dX10_chr_16 (fun S3 f3 => ?_)
      have ho := ho S3 f3
      refine g_aload_n (i := 0) hc 0 dX10_chr_19 rfl rfl ?_
      refine gf_M_0_code hc wtM_0 dX10_chr_20 ?_
      refine g_ifne (tgt := 37) hc dX10_chr_23 rfl (fun c_23 => ?_) (fun c_23 => ?_)
      · have ho := ho.1 c_23
        refine g_aload_n (i := 0) hc 0 dX10_chr_26 rfl rfl ?_
        refine gf_M_0_patterns hc wtM_2 dX10_chr_27 ?_
        refine g_iload_n (i := 1) hc 1 dX10_chr_30 rfl rfl ?_
        refine g_iload_n (i := 2) hc 2 dX10_chr_31 rfl rfl ?_
        refine g_sipush (v := 255) hc dX10_chr_32 (by decide) ?_
        refine g_iand hc dX10_chr_35 ?_
        refine as_M_4 hc ho.1 dX10_chr_36 (fun S4 f4 => ?_)
        have ho := ho.2
        have ho := ho S4 f4
        exact g_vret hc dX10_chr_37
      · have ho := ho.2 c_23
        exact g_vret hc dX10_chr_37
    · have ho := ho.2 c_8
      refine g_iconst (v := 1) hc dX10_chr_11 (by decide) ?_
      refine g_goto (tgt := 16) hc dX10_chr_12 rfl ?_
      refine pf_M_0_code (v := 1) hc wtM_0 dX10_chr_16 (fun S5 f5 => ?_)
      have ho := ho S5 f5
      refine g_aload_n (i := 0) hc 0 dX10_chr_19 rfl rfl ?_
      refine gf_M_0_code hc wtM_0 dX10_chr_20 ?_
      refine g_ifne (tgt := 37) hc dX10_chr_23 rfl (fun c_23 => ?_) (fun c_23 => ?_)
      · have ho := ho.1 c_23
        refine g_aload_n (i := 0) hc 0 dX10_chr_26 rfl rfl ?_
        refine gf_M_0_patterns hc wtM_2 dX10_chr_27 ?_
        refine g_iload_n (i := 1) hc 1 dX10_chr_30 rfl rfl ?_
        refine g_iload_n (i := 2) hc 2 dX10_chr_31 rfl rfl ?_
        refine g_sipush (v := 255) hc dX10_chr_32 (by decide) ?_
        refine g_iand hc dX10_chr_35 ?_
        refine as_M_4 hc ho.1 dX10_chr_36 (fun S6 f6 => ?_)
        have ho := ho.2
        have ho := ho S6 f6
        exact g_vret hc dX10_chr_37
      · have ho := ho.2 c_23
        exact g_vret hc dX10_chr_37

abbrev rm_X10_prgBank : Room := { frames := 0, cells := 0, slots := 0, locals := 0 }
def sp_X10_prgBank (a0 : Int32) (S : gSt) : Int32 × gSt := (if (bI (S.2.1 0)) = 0 then (if 2 ≤ (((S.1 22) >>> ((2 : Int32) &&& (31 : Int32))) &&& 3) then (if (((S.1 22) >>> ((2 : Int32) &&& (31 : Int32))) &&& 3) = 2 then (if 2 ≤ a0 then ((((2 * ((S.1 25) &&& 3)) + a0) - 2), S) else (a0, S)) else (if 2 ≤ a0 then ((4 + a0), S) else (((2 * ((S.1 25) &&& 3)) + a0), S))) else (((4 * (((S.1 25) >>> ((1 : Int32) &&& (31 : Int32))) &&& 1)) + a0), S)) else (if ((S.1 26) &&& 64) = 0 then (if a0 = 1 then (((aG S 8 7) &&& 7), S) else (if a0 = 3 then ((7 &&& 7), S) else (if a0 = 0 then (((aG S 8 6) &&& 7), S) else ((6 &&& 7), S)))) else (if a0 = 1 then (((aG S 8 7) &&& 7), S) else (if a0 = 3 then ((7 &&& 7), S) else (if a0 = 0 then ((6 &&& 7), S) else (((aG S 8 6) &&& 7), S))))))
def ok_X10_prgBank (a0 : Int32) (S : gSt) : Prop := (((bI (S.2.1 0)) = 0 → ((2 ≤ (((S.1 22) >>> ((2 : Int32) &&& (31 : Int32))) &&& 3) → (((((S.1 22) >>> ((2 : Int32) &&& (31 : Int32))) &&& 3) = 2 → ((2 ≤ a0 → True) ∧ (¬ 2 ≤ a0 → True))) ∧ (¬ (((S.1 22) >>> ((2 : Int32) &&& (31 : Int32))) &&& 3) = 2 → ((2 ≤ a0 → True) ∧ (¬ 2 ≤ a0 → True))))) ∧ (¬ 2 ≤ (((S.1 22) >>> ((2 : Int32) &&& (31 : Int32))) &&& 3) → True))) ∧ (¬ (bI (S.2.1 0)) = 0 → ((((S.1 26) &&& 64) = 0 → ((a0 = 1 → True) ∧ (¬ a0 = 1 → ((a0 = 3 → True) ∧ (¬ a0 = 3 → ((a0 = 0 → True) ∧ (¬ a0 = 0 → True))))))) ∧ (¬ ((S.1 26) &&& 64) = 0 → ((a0 = 1 → True) ∧ (¬ a0 = 1 → ((a0 = 3 → True) ∧ (¬ a0 = 3 → ((a0 = 0 → True) ∧ (¬ a0 = 0 → True))))))))))
set_option maxRecDepth 100000 in
set_option maxHeartbeats 4000000 in
theorem c_X10_prgBank (l : Launch) (η : gE) (a0 : Int32) (S : gSt) (ho : ok_X10_prgBank a0 S) : gMet l yX10_prgBank cX10_prgBank 5 (some .int) rm_X10_prgBank (oM η) [.ref (η.1 0), .int a0] S (oI (sp_X10_prgBank a0 S).1) (sp_X10_prgBank a0 S).2 := by
  refine gMet_of (X := sp_X10_prgBank a0 S) (lv := [(0, .ref (η.1 0)), (1, .int a0)]) oI zM_ok (by decide +kernel) (Nat.le_of_ble_eq_true rfl) rfl (fun κ hc => ?_)
  have hc : gC (oM η) κ cX10_prgBank 5 RX10 (some .int) rm_X10_prgBank := hc
  unfold sp_X10_prgBank
  unfold ok_X10_prgBank at ho
  refine g_iconst (v := 2) hc dX10_prgBank_0 (by decide) ?_
  refine g_aload_n (i := 0) hc 0 dX10_prgBank_1 rfl rfl ?_
  refine gf_M_0_bank hc wtM_3 dX10_prgBank_2 ?_
  refine g_iconst (v := 3) hc dX10_prgBank_5 (by decide) ?_
  refine g_iand hc dX10_prgBank_6 ?_
  refine g_imul hc dX10_prgBank_7 ?_
  refine g_istore_n (i := 2) (lv' := [(2, .int (2 * ((S.1 25) &&& 3))), (0, .ref (η.1 0)), (1, .int a0)]) hc dX10_prgBank_8 rfl (by decide) rfl ?_
  refine g_aload_n (i := 0) hc 1 dX10_prgBank_9 rfl rfl ?_
  refine gf_M_0_mmc3 hc wtM_4 dX10_prgBank_10 ?_
  refine g_ifeq (tgt := 90) hc dX10_prgBank_13 rfl (fun c_13 => ?_) (fun c_13 => ?_)
  · have ho := ho.1 c_13
    refine g_aload_n (i := 0) hc 1 dX10_prgBank_90 rfl rfl ?_
    refine gf_M_0_control hc wtM_5 dX10_prgBank_91 ?_
    refine g_iconst (v := 2) hc dX10_prgBank_94 (by decide) ?_
    refine g_ishr hc dX10_prgBank_95 ?_
    refine g_iconst (v := 3) hc dX10_prgBank_96 (by decide) ?_
    refine g_iand hc dX10_prgBank_97 ?_
    refine g_istore_n (i := 3) (lv' := [(3, .int (((S.1 22) >>> ((2 : Int32) &&& (31 : Int32))) &&& 3)), (2, .int (2 * ((S.1 25) &&& 3))), (0, .ref (η.1 0)), (1, .int a0)]) hc dX10_prgBank_98 rfl (by decide) rfl ?_
    refine g_iload_n (i := 3) hc 0 dX10_prgBank_99 rfl rfl ?_
    refine g_iconst (v := 2) hc dX10_prgBank_100 (by decide) ?_
    refine g_icmpge (tgt := 117) hc dX10_prgBank_101 rfl (fun c_101 => ?_) (fun c_101 => ?_)
    · have ho := ho.1 c_101
      refine g_iload_n (i := 3) hc 0 dX10_prgBank_117 rfl rfl ?_
      refine g_iconst (v := 2) hc dX10_prgBank_118 (by decide) ?_
      refine g_icmpne (tgt := 137) hc dX10_prgBank_119 rfl (fun c_119 => ?_) (fun c_119 => ?_)
      · have ho := ho.1 c_119
        refine g_iload_n (i := 1) hc 3 dX10_prgBank_122 rfl rfl ?_
        refine g_iconst (v := 2) hc dX10_prgBank_123 (by decide) ?_
        refine g_icmpge (tgt := 131) hc dX10_prgBank_124 rfl (fun c_124 => ?_) (fun c_124 => ?_)
        · have ho := ho.1 c_124
          refine g_iload_n (i := 2) hc 1 dX10_prgBank_131 rfl rfl ?_
          refine g_iload_n (i := 1) hc 3 dX10_prgBank_132 rfl rfl ?_
          refine g_iadd hc dX10_prgBank_133 ?_
          refine g_iconst (v := 2) hc dX10_prgBank_134 (by decide) ?_
          refine g_isub hc dX10_prgBank_135 ?_
          exact g_iret hc dX10_prgBank_136
        · have ho := ho.2 c_124
          refine g_iload_n (i := 1) hc 3 dX10_prgBank_127 rfl rfl ?_
          refine g_goto (tgt := 136) hc dX10_prgBank_128 rfl ?_
          exact g_iret hc dX10_prgBank_136
      · have ho := ho.2 c_119
        refine g_iload_n (i := 1) hc 3 dX10_prgBank_137 rfl rfl ?_
        refine g_iconst (v := 2) hc dX10_prgBank_138 (by decide) ?_
        refine g_icmpge (tgt := 148) hc dX10_prgBank_139 rfl (fun c_139 => ?_) (fun c_139 => ?_)
        · have ho := ho.1 c_139
          refine g_iconst (v := 4) hc dX10_prgBank_148 (by decide) ?_
          refine g_iload_n (i := 1) hc 3 dX10_prgBank_149 rfl rfl ?_
          refine g_iadd hc dX10_prgBank_150 ?_
          exact g_iret hc dX10_prgBank_151
        · have ho := ho.2 c_139
          refine g_iload_n (i := 2) hc 1 dX10_prgBank_142 rfl rfl ?_
          refine g_iload_n (i := 1) hc 3 dX10_prgBank_143 rfl rfl ?_
          refine g_iadd hc dX10_prgBank_144 ?_
          refine g_goto (tgt := 151) hc dX10_prgBank_145 rfl ?_
          exact g_iret hc dX10_prgBank_151
    · have ho := ho.2 c_101
      refine g_iconst (v := 4) hc dX10_prgBank_104 (by decide) ?_
      refine g_aload_n (i := 0) hc 2 dX10_prgBank_105 rfl rfl ?_
      refine gf_M_0_bank hc wtM_3 dX10_prgBank_106 ?_
      refine g_iconst (v := 1) hc dX10_prgBank_109 (by decide) ?_
      refine g_ishr hc dX10_prgBank_110 ?_
      refine g_iconst (v := 1) hc dX10_prgBank_111 (by decide) ?_
      refine g_iand hc dX10_prgBank_112 ?_
      refine g_imul hc dX10_prgBank_113 ?_
      refine g_iload_n (i := 1) hc 3 dX10_prgBank_114 rfl rfl ?_
      refine g_iadd hc dX10_prgBank_115 ?_
      exact g_iret hc dX10_prgBank_116
  · have ho := ho.2 c_13
    refine g_aload_n (i := 0) hc 1 dX10_prgBank_16 rfl rfl ?_
    refine gf_M_0_select hc wtM_6 dX10_prgBank_17 ?_
    refine g_bipush (v := 64) hc dX10_prgBank_20 (by decide) ?_
    refine g_iand hc dX10_prgBank_22 ?_
    refine g_ifeq (tgt := 30) hc dX10_prgBank_23 rfl (fun c_23 => ?_) (fun c_23 => ?_)
    · have ho := ho.1 c_23
      refine g_iconst (v := 0) hc dX10_prgBank_30 (by decide) ?_
      refine g_istore_n (i := 3) (lv' := [(3, .int 0), (2, .int (2 * ((S.1 25) &&& 3))), (0, .ref (η.1 0)), (1, .int a0)]) hc dX10_prgBank_31 rfl (by decide) rfl ?_
      refine g_iload_n (i := 1) hc 3 dX10_prgBank_32 rfl rfl ?_
      refine g_iconst (v := 1) hc dX10_prgBank_33 (by decide) ?_
      refine g_icmpne (tgt := 47) hc dX10_prgBank_34 rfl (fun c_34 => ?_) (fun c_34 => ?_)
      · have ho := ho.1 c_34
        refine g_aload_n (i := 0) hc 2 dX10_prgBank_37 rfl rfl ?_
        refine gf_M_0_r hc wtM_7 dX10_prgBank_38 ?_
        refine g_bipush (v := 7) hc dX10_prgBank_41 (by decide) ?_
        refine al_M_8 hc (vp_in_iff.mpr (by decide)) dX10_prgBank_43 ?_
        refine g_goto (tgt := 82) hc dX10_prgBank_44 rfl ?_
        refine g_istore (i := 4) (lv' := [(4, .int (aG S 8 7)), (3, .int 0), (2, .int (2 * ((S.1 25) &&& 3))), (0, .ref (η.1 0)), (1, .int a0)]) hc dX10_prgBank_82 (by decide) rfl ?_
        refine g_iload (i := 4) hc 0 dX10_prgBank_84 rfl ?_
        refine g_bipush (v := 7) hc dX10_prgBank_86 (by decide) ?_
        refine g_iand hc dX10_prgBank_88 ?_
        exact g_iret hc dX10_prgBank_89
      · have ho := ho.2 c_34
        refine g_iload_n (i := 1) hc 3 dX10_prgBank_47 rfl rfl ?_
        refine g_iconst (v := 3) hc dX10_prgBank_48 (by decide) ?_
        refine g_icmpne (tgt := 57) hc dX10_prgBank_49 rfl (fun c_49 => ?_) (fun c_49 => ?_)
        · have ho := ho.1 c_49
          refine g_bipush (v := 7) hc dX10_prgBank_52 (by decide) ?_
          refine g_goto (tgt := 82) hc dX10_prgBank_54 rfl ?_
          refine g_istore (i := 4) (lv' := [(4, .int 7), (3, .int 0), (2, .int (2 * ((S.1 25) &&& 3))), (0, .ref (η.1 0)), (1, .int a0)]) hc dX10_prgBank_82 (by decide) rfl ?_
          refine g_iload (i := 4) hc 0 dX10_prgBank_84 rfl ?_
          refine g_bipush (v := 7) hc dX10_prgBank_86 (by decide) ?_
          refine g_iand hc dX10_prgBank_88 ?_
          exact g_iret hc dX10_prgBank_89
        · have ho := ho.2 c_49
          refine g_iload_n (i := 1) hc 3 dX10_prgBank_57 rfl rfl ?_
          refine g_ifne (tgt := 65) hc dX10_prgBank_58 rfl (fun c_58 => ?_) (fun c_58 => ?_)
          · have ho := ho.1 c_58
            refine g_iconst (v := 1) hc dX10_prgBank_61 (by decide) ?_
            refine g_goto (tgt := 66) hc dX10_prgBank_62 rfl ?_
            refine g_iload_n (i := 3) hc 0 dX10_prgBank_66 rfl rfl ?_
            refine g_icmpeq_f (tgt := 80) hc dX10_prgBank_67 rfl (by decide) ?_
            refine g_aload_n (i := 0) hc 2 dX10_prgBank_70 rfl rfl ?_
            refine gf_M_0_r hc wtM_7 dX10_prgBank_71 ?_
            refine g_bipush (v := 6) hc dX10_prgBank_74 (by decide) ?_
            refine al_M_8 hc (vp_in_iff.mpr (by decide)) dX10_prgBank_76 ?_
            refine g_goto (tgt := 82) hc dX10_prgBank_77 rfl ?_
            refine g_istore (i := 4) (lv' := [(4, .int (aG S 8 6)), (3, .int 0), (2, .int (2 * ((S.1 25) &&& 3))), (0, .ref (η.1 0)), (1, .int a0)]) hc dX10_prgBank_82 (by decide) rfl ?_
            refine g_iload (i := 4) hc 0 dX10_prgBank_84 rfl ?_
            refine g_bipush (v := 7) hc dX10_prgBank_86 (by decide) ?_
            refine g_iand hc dX10_prgBank_88 ?_
            exact g_iret hc dX10_prgBank_89
          · have ho := ho.2 c_58
            refine g_iconst (v := 0) hc dX10_prgBank_65 (by decide) ?_
            refine g_iload_n (i := 3) hc 0 dX10_prgBank_66 rfl rfl ?_
            refine g_icmpeq_t (tgt := 80) hc dX10_prgBank_67 rfl (by decide) ?_
            refine g_bipush (v := 6) hc dX10_prgBank_80 (by decide) ?_
            refine g_istore (i := 4) (lv' := [(4, .int 6), (3, .int 0), (2, .int (2 * ((S.1 25) &&& 3))), (0, .ref (η.1 0)), (1, .int a0)]) hc dX10_prgBank_82 (by decide) rfl ?_
            refine g_iload (i := 4) hc 0 dX10_prgBank_84 rfl ?_
            refine g_bipush (v := 7) hc dX10_prgBank_86 (by decide) ?_
            refine g_iand hc dX10_prgBank_88 ?_
            exact g_iret hc dX10_prgBank_89
    · have ho := ho.2 c_23
      refine g_iconst (v := 1) hc dX10_prgBank_26 (by decide) ?_
      refine g_goto (tgt := 31) hc dX10_prgBank_27 rfl ?_
      refine g_istore_n (i := 3) (lv' := [(3, .int 1), (2, .int (2 * ((S.1 25) &&& 3))), (0, .ref (η.1 0)), (1, .int a0)]) hc dX10_prgBank_31 rfl (by decide) rfl ?_
      refine g_iload_n (i := 1) hc 3 dX10_prgBank_32 rfl rfl ?_
      refine g_iconst (v := 1) hc dX10_prgBank_33 (by decide) ?_
      refine g_icmpne (tgt := 47) hc dX10_prgBank_34 rfl (fun c_34 => ?_) (fun c_34 => ?_)
      · have ho := ho.1 c_34
        refine g_aload_n (i := 0) hc 2 dX10_prgBank_37 rfl rfl ?_
        refine gf_M_0_r hc wtM_7 dX10_prgBank_38 ?_
        refine g_bipush (v := 7) hc dX10_prgBank_41 (by decide) ?_
        refine al_M_8 hc (vp_in_iff.mpr (by decide)) dX10_prgBank_43 ?_
        refine g_goto (tgt := 82) hc dX10_prgBank_44 rfl ?_
        refine g_istore (i := 4) (lv' := [(4, .int (aG S 8 7)), (3, .int 1), (2, .int (2 * ((S.1 25) &&& 3))), (0, .ref (η.1 0)), (1, .int a0)]) hc dX10_prgBank_82 (by decide) rfl ?_
        refine g_iload (i := 4) hc 0 dX10_prgBank_84 rfl ?_
        refine g_bipush (v := 7) hc dX10_prgBank_86 (by decide) ?_
        refine g_iand hc dX10_prgBank_88 ?_
        exact g_iret hc dX10_prgBank_89
      · have ho := ho.2 c_34
        refine g_iload_n (i := 1) hc 3 dX10_prgBank_47 rfl rfl ?_
        refine g_iconst (v := 3) hc dX10_prgBank_48 (by decide) ?_
        refine g_icmpne (tgt := 57) hc dX10_prgBank_49 rfl (fun c_49 => ?_) (fun c_49 => ?_)
        · have ho := ho.1 c_49
          refine g_bipush (v := 7) hc dX10_prgBank_52 (by decide) ?_
          refine g_goto (tgt := 82) hc dX10_prgBank_54 rfl ?_
          refine g_istore (i := 4) (lv' := [(4, .int 7), (3, .int 1), (2, .int (2 * ((S.1 25) &&& 3))), (0, .ref (η.1 0)), (1, .int a0)]) hc dX10_prgBank_82 (by decide) rfl ?_
          refine g_iload (i := 4) hc 0 dX10_prgBank_84 rfl ?_
          refine g_bipush (v := 7) hc dX10_prgBank_86 (by decide) ?_
          refine g_iand hc dX10_prgBank_88 ?_
          exact g_iret hc dX10_prgBank_89
        · have ho := ho.2 c_49
          refine g_iload_n (i := 1) hc 3 dX10_prgBank_57 rfl rfl ?_
          refine g_ifne (tgt := 65) hc dX10_prgBank_58 rfl (fun c_58 => ?_) (fun c_58 => ?_)
          · have ho := ho.1 c_58
            refine g_iconst (v := 1) hc dX10_prgBank_61 (by decide) ?_
            refine g_goto (tgt := 66) hc dX10_prgBank_62 rfl ?_
            refine g_iload_n (i := 3) hc 0 dX10_prgBank_66 rfl rfl ?_
            refine g_icmpeq_t (tgt := 80) hc dX10_prgBank_67 rfl (by decide) ?_
            refine g_bipush (v := 6) hc dX10_prgBank_80 (by decide) ?_
            refine g_istore (i := 4) (lv' := [(4, .int 6), (3, .int 1), (2, .int (2 * ((S.1 25) &&& 3))), (0, .ref (η.1 0)), (1, .int a0)]) hc dX10_prgBank_82 (by decide) rfl ?_
            refine g_iload (i := 4) hc 0 dX10_prgBank_84 rfl ?_
            refine g_bipush (v := 7) hc dX10_prgBank_86 (by decide) ?_
            refine g_iand hc dX10_prgBank_88 ?_
            exact g_iret hc dX10_prgBank_89
          · have ho := ho.2 c_58
            refine g_iconst (v := 0) hc dX10_prgBank_65 (by decide) ?_
            refine g_iload_n (i := 3) hc 0 dX10_prgBank_66 rfl rfl ?_
            refine g_icmpeq_f (tgt := 80) hc dX10_prgBank_67 rfl (by decide) ?_
            refine g_aload_n (i := 0) hc 2 dX10_prgBank_70 rfl rfl ?_
            refine gf_M_0_r hc wtM_7 dX10_prgBank_71 ?_
            refine g_bipush (v := 6) hc dX10_prgBank_74 (by decide) ?_
            refine al_M_8 hc (vp_in_iff.mpr (by decide)) dX10_prgBank_76 ?_
            refine g_goto (tgt := 82) hc dX10_prgBank_77 rfl ?_
            refine g_istore (i := 4) (lv' := [(4, .int (aG S 8 6)), (3, .int 1), (2, .int (2 * ((S.1 25) &&& 3))), (0, .ref (η.1 0)), (1, .int a0)]) hc dX10_prgBank_82 (by decide) rfl ?_
            refine g_iload (i := 4) hc 0 dX10_prgBank_84 rfl ?_
            refine g_bipush (v := 7) hc dX10_prgBank_86 (by decide) ?_
            refine g_iand hc dX10_prgBank_88 ?_
            exact g_iret hc dX10_prgBank_89

abbrev rm_X10_chrBank : Room := { frames := 0, cells := 0, slots := 0, locals := 0 }
def sp_X10_chrBank (a0 : Int32) (S : gSt) : Int32 × gSt := (if (bI (S.2.1 0)) = 0 then (if ((S.1 22) &&& 16) = 0 then (a0, S) else (if 4 ≤ a0 then (((4 * ((S.1 24) &&& 1)) + (a0 &&& 3)), S) else (((4 * ((S.1 23) &&& 1)) + (a0 &&& 3)), S))) else (if ((S.1 26) &&& 128) = 0 then (if 4 ≤ a0 then (((aG S 8 (a0 - 2)) &&& 7), S) else (((((aG S 8 (a0 / 2)) &&& 254) ||| (a0 &&& 1)) &&& 7), S)) else (if 4 ≤ (a0 ^^^ 4) then (((aG S 8 ((a0 ^^^ 4) - 2)) &&& 7), S) else (((((aG S 8 ((a0 ^^^ 4) / 2)) &&& 254) ||| ((a0 ^^^ 4) &&& 1)) &&& 7), S))))
def ok_X10_chrBank (a0 : Int32) (S : gSt) : Prop := (((bI (S.2.1 0)) = 0 → ((((S.1 22) &&& 16) = 0 → True) ∧ (¬ ((S.1 22) &&& 16) = 0 → ((4 ≤ a0 → True) ∧ (¬ 4 ≤ a0 → True))))) ∧ (¬ (bI (S.2.1 0)) = 0 → ((((S.1 26) &&& 128) = 0 → ((4 ≤ a0 → (vp_in (a0 - 2) 8 ∧ True)) ∧ (¬ 4 ≤ a0 → (vp_in (a0 / 2) 8 ∧ True)))) ∧ (¬ ((S.1 26) &&& 128) = 0 → ((4 ≤ (a0 ^^^ 4) → (vp_in ((a0 ^^^ 4) - 2) 8 ∧ True)) ∧ (¬ 4 ≤ (a0 ^^^ 4) → (vp_in ((a0 ^^^ 4) / 2) 8 ∧ True)))))))
set_option maxRecDepth 100000 in
set_option maxHeartbeats 4000000 in
theorem c_X10_chrBank (l : Launch) (η : gE) (a0 : Int32) (S : gSt) (ho : ok_X10_chrBank a0 S) : gMet l yX10_chrBank cX10_chrBank 4 (some .int) rm_X10_chrBank (oM η) [.ref (η.1 0), .int a0] S (oI (sp_X10_chrBank a0 S).1) (sp_X10_chrBank a0 S).2 := by
  refine gMet_of (X := sp_X10_chrBank a0 S) (lv := [(0, .ref (η.1 0)), (1, .int a0)]) oI zM_ok (by decide +kernel) (Nat.le_of_ble_eq_true rfl) rfl (fun κ hc => ?_)
  have hc : gC (oM η) κ cX10_chrBank 4 RX10 (some .int) rm_X10_chrBank := hc
  unfold sp_X10_chrBank
  unfold ok_X10_chrBank at ho
  refine g_aload_n (i := 0) hc 0 dX10_chrBank_0 rfl rfl ?_
  refine gf_M_0_mmc3 hc wtM_4 dX10_chrBank_1 ?_
  refine g_ifne (tgt := 44) hc dX10_chrBank_4 rfl (fun c_4 => ?_) (fun c_4 => ?_)
  · have ho := ho.1 c_4
    refine g_aload_n (i := 0) hc 0 dX10_chrBank_7 rfl rfl ?_
    refine gf_M_0_control hc wtM_5 dX10_chrBank_8 ?_
    refine g_bipush (v := 16) hc dX10_chrBank_11 (by decide) ?_
    refine g_iand hc dX10_chrBank_13 ?_
    refine g_ifne (tgt := 19) hc dX10_chrBank_14 rfl (fun c_14 => ?_) (fun c_14 => ?_)
    · have ho := ho.1 c_14
      refine g_iload_n (i := 1) hc 1 dX10_chrBank_17 rfl rfl ?_
      exact g_iret hc dX10_chrBank_18
    · have ho := ho.2 c_14
      refine g_iconst (v := 4) hc dX10_chrBank_19 (by decide) ?_
      refine g_iload_n (i := 1) hc 1 dX10_chrBank_20 rfl rfl ?_
      refine g_iconst (v := 4) hc dX10_chrBank_21 (by decide) ?_
      refine g_icmpge (tgt := 32) hc dX10_chrBank_22 rfl (fun c_22 => ?_) (fun c_22 => ?_)
      · have ho := ho.1 c_22
        refine g_aload_n (i := 0) hc 0 dX10_chrBank_32 rfl rfl ?_
        refine gf_M_0_other hc wtM_8 dX10_chrBank_33 ?_
        refine g_iconst (v := 1) hc dX10_chrBank_36 (by decide) ?_
        refine g_iand hc dX10_chrBank_37 ?_
        refine g_imul hc dX10_chrBank_38 ?_
        refine g_iload_n (i := 1) hc 1 dX10_chrBank_39 rfl rfl ?_
        refine g_iconst (v := 3) hc dX10_chrBank_40 (by decide) ?_
        refine g_iand hc dX10_chrBank_41 ?_
        refine g_iadd hc dX10_chrBank_42 ?_
        exact g_iret hc dX10_chrBank_43
      · have ho := ho.2 c_22
        refine g_aload_n (i := 0) hc 0 dX10_chrBank_25 rfl rfl ?_
        refine gf_M_0_first hc wtM_9 dX10_chrBank_26 ?_
        refine g_goto (tgt := 36) hc dX10_chrBank_29 rfl ?_
        refine g_iconst (v := 1) hc dX10_chrBank_36 (by decide) ?_
        refine g_iand hc dX10_chrBank_37 ?_
        refine g_imul hc dX10_chrBank_38 ?_
        refine g_iload_n (i := 1) hc 1 dX10_chrBank_39 rfl rfl ?_
        refine g_iconst (v := 3) hc dX10_chrBank_40 (by decide) ?_
        refine g_iand hc dX10_chrBank_41 ?_
        refine g_iadd hc dX10_chrBank_42 ?_
        exact g_iret hc dX10_chrBank_43
  · have ho := ho.2 c_4
    refine g_aload_n (i := 0) hc 0 dX10_chrBank_44 rfl rfl ?_
    refine gf_M_0_select hc wtM_6 dX10_chrBank_45 ?_
    refine g_sipush (v := 128) hc dX10_chrBank_48 (by decide) ?_
    refine g_iand hc dX10_chrBank_51 ?_
    refine g_ifeq (tgt := 61) hc dX10_chrBank_52 rfl (fun c_52 => ?_) (fun c_52 => ?_)
    · have ho := ho.1 c_52
      refine g_iload_n (i := 1) hc 1 dX10_chrBank_61 rfl rfl ?_
      refine g_istore_n (i := 2) (lv' := [(2, .int a0), (0, .ref (η.1 0)), (1, .int a0)]) hc dX10_chrBank_62 rfl (by decide) rfl ?_
      refine g_iload_n (i := 2) hc 0 dX10_chrBank_63 rfl rfl ?_
      refine g_iconst (v := 4) hc dX10_chrBank_64 (by decide) ?_
      refine g_icmpge (tgt := 87) hc dX10_chrBank_65 rfl (fun c_65 => ?_) (fun c_65 => ?_)
      · have ho := ho.1 c_65
        refine g_aload_n (i := 0) hc 1 dX10_chrBank_87 rfl rfl ?_
        refine gf_M_0_r hc wtM_7 dX10_chrBank_88 ?_
        refine g_iload_n (i := 2) hc 0 dX10_chrBank_91 rfl rfl ?_
        refine g_iconst (v := 2) hc dX10_chrBank_92 (by decide) ?_
        refine g_isub hc dX10_chrBank_93 ?_
        refine al_M_8 hc ho.1 dX10_chrBank_94 ?_
        have ho := ho.2
        refine g_istore_n (i := 3) (lv' := [(3, .int (aG S 8 (a0 - 2))), (2, .int a0), (0, .ref (η.1 0)), (1, .int a0)]) hc dX10_chrBank_95 rfl (by decide) rfl ?_
        refine g_iload_n (i := 3) hc 0 dX10_chrBank_96 rfl rfl ?_
        refine g_bipush (v := 7) hc dX10_chrBank_97 (by decide) ?_
        refine g_iand hc dX10_chrBank_99 ?_
        exact g_iret hc dX10_chrBank_100
      · have ho := ho.2 c_65
        refine g_aload_n (i := 0) hc 1 dX10_chrBank_68 rfl rfl ?_
        refine gf_M_0_r hc wtM_7 dX10_chrBank_69 ?_
        refine g_iload_n (i := 2) hc 0 dX10_chrBank_72 rfl rfl ?_
        refine g_iconst (v := 2) hc dX10_chrBank_73 (by decide) ?_
        refine g_idiv hc dX10_chrBank_74 (by decide) ?_
        refine al_M_8 hc ho.1 dX10_chrBank_75 ?_
        have ho := ho.2
        refine g_sipush (v := 254) hc dX10_chrBank_76 (by decide) ?_
        refine g_iand hc dX10_chrBank_79 ?_
        refine g_iload_n (i := 2) hc 0 dX10_chrBank_80 rfl rfl ?_
        refine g_iconst (v := 1) hc dX10_chrBank_81 (by decide) ?_
        refine g_iand hc dX10_chrBank_82 ?_
        refine g_ior hc dX10_chrBank_83 ?_
        refine g_goto (tgt := 95) hc dX10_chrBank_84 rfl ?_
        refine g_istore_n (i := 3) (lv' := [(3, .int (((aG S 8 (a0 / 2)) &&& 254) ||| (a0 &&& 1))), (2, .int a0), (0, .ref (η.1 0)), (1, .int a0)]) hc dX10_chrBank_95 rfl (by decide) rfl ?_
        refine g_iload_n (i := 3) hc 0 dX10_chrBank_96 rfl rfl ?_
        refine g_bipush (v := 7) hc dX10_chrBank_97 (by decide) ?_
        refine g_iand hc dX10_chrBank_99 ?_
        exact g_iret hc dX10_chrBank_100
    · have ho := ho.2 c_52
      refine g_iload_n (i := 1) hc 1 dX10_chrBank_55 rfl rfl ?_
      refine g_iconst (v := 4) hc dX10_chrBank_56 (by decide) ?_
      refine g_ixor hc dX10_chrBank_57 ?_
      refine g_goto (tgt := 62) hc dX10_chrBank_58 rfl ?_
      refine g_istore_n (i := 2) (lv' := [(2, .int (a0 ^^^ 4)), (0, .ref (η.1 0)), (1, .int a0)]) hc dX10_chrBank_62 rfl (by decide) rfl ?_
      refine g_iload_n (i := 2) hc 0 dX10_chrBank_63 rfl rfl ?_
      refine g_iconst (v := 4) hc dX10_chrBank_64 (by decide) ?_
      refine g_icmpge (tgt := 87) hc dX10_chrBank_65 rfl (fun c_65 => ?_) (fun c_65 => ?_)
      · have ho := ho.1 c_65
        refine g_aload_n (i := 0) hc 1 dX10_chrBank_87 rfl rfl ?_
        refine gf_M_0_r hc wtM_7 dX10_chrBank_88 ?_
        refine g_iload_n (i := 2) hc 0 dX10_chrBank_91 rfl rfl ?_
        refine g_iconst (v := 2) hc dX10_chrBank_92 (by decide) ?_
        refine g_isub hc dX10_chrBank_93 ?_
        refine al_M_8 hc ho.1 dX10_chrBank_94 ?_
        have ho := ho.2
        refine g_istore_n (i := 3) (lv' := [(3, .int (aG S 8 ((a0 ^^^ 4) - 2))), (2, .int (a0 ^^^ 4)), (0, .ref (η.1 0)), (1, .int a0)]) hc dX10_chrBank_95 rfl (by decide) rfl ?_
        refine g_iload_n (i := 3) hc 0 dX10_chrBank_96 rfl rfl ?_
        refine g_bipush (v := 7) hc dX10_chrBank_97 (by decide) ?_
        refine g_iand hc dX10_chrBank_99 ?_
        exact g_iret hc dX10_chrBank_100
      · have ho := ho.2 c_65
        refine g_aload_n (i := 0) hc 1 dX10_chrBank_68 rfl rfl ?_
        refine gf_M_0_r hc wtM_7 dX10_chrBank_69 ?_
        refine g_iload_n (i := 2) hc 0 dX10_chrBank_72 rfl rfl ?_
        refine g_iconst (v := 2) hc dX10_chrBank_73 (by decide) ?_
        refine g_idiv hc dX10_chrBank_74 (by decide) ?_
        refine al_M_8 hc ho.1 dX10_chrBank_75 ?_
        have ho := ho.2
        refine g_sipush (v := 254) hc dX10_chrBank_76 (by decide) ?_
        refine g_iand hc dX10_chrBank_79 ?_
        refine g_iload_n (i := 2) hc 0 dX10_chrBank_80 rfl rfl ?_
        refine g_iconst (v := 1) hc dX10_chrBank_81 (by decide) ?_
        refine g_iand hc dX10_chrBank_82 ?_
        refine g_ior hc dX10_chrBank_83 ?_
        refine g_goto (tgt := 95) hc dX10_chrBank_84 rfl ?_
        refine g_istore_n (i := 3) (lv' := [(3, .int (((aG S 8 ((a0 ^^^ 4) / 2)) &&& 254) ||| ((a0 ^^^ 4) &&& 1))), (2, .int (a0 ^^^ 4)), (0, .ref (η.1 0)), (1, .int a0)]) hc dX10_chrBank_95 rfl (by decide) rfl ?_
        refine g_iload_n (i := 3) hc 0 dX10_chrBank_96 rfl rfl ?_
        refine g_bipush (v := 7) hc dX10_chrBank_97 (by decide) ?_
        refine g_iand hc dX10_chrBank_99 ?_
        exact g_iret hc dX10_chrBank_100

abbrev rm_X10_writeOne : Room := { frames := 0, cells := 0, slots := 0, locals := 0 }
def sp_X10_writeOne (a0 : Int32) (a1 : Int32) (S : gSt) : Unit × gSt := (if (a1 &&& 128) = 0 then gL (sI S 21 ((S.1 21) ||| ((a1 &&& 1) <<< ((S.1 20) &&& (31 : Int32))))) (fun S1 => gL (sI S1 20 ((S1.1 20) + 1)) (fun S2 => (if 5 ≤ (S2.1 20) then (if ((a0 >>> ((13 : Int32) &&& (31 : Int32))) &&& 3) = 0 then gL (sI S2 22 (S2.1 21)) (fun S3 => gL (sI S3 19 ((S3.1 21) &&& 3)) (fun S4 => gL (sI S4 20 0) (fun S5 => gL (sI S5 21 0) (fun S6 => ((), S6))))) else (if ((a0 >>> ((13 : Int32) &&& (31 : Int32))) &&& 3) = 1 then gL (sI S2 23 (S2.1 21)) (fun S7 => gL (sI S7 20 0) (fun S8 => gL (sI S8 21 0) (fun S9 => ((), S9)))) else (if ((a0 >>> ((13 : Int32) &&& (31 : Int32))) &&& 3) = 2 then gL (sI S2 24 (S2.1 21)) (fun S10 => gL (sI S10 20 0) (fun S11 => gL (sI S11 21 0) (fun S12 => ((), S12)))) else gL (sI S2 25 (S2.1 21)) (fun S13 => gL (sI S13 20 0) (fun S14 => gL (sI S14 21 0) (fun S15 => ((), S15))))))) else ((), S2)))) else gL (sI S 20 0) (fun S16 => gL (sI S16 21 0) (fun S17 => gL (sI S17 22 ((S17.1 22) ||| 12)) (fun S18 => ((), S18)))))
def ok_X10_writeOne (a0 : Int32) (a1 : Int32) (S : gSt) : Prop := (((a1 &&& 128) = 0 → ∀ S1 : gSt, S1 = sI S 21 ((S.1 21) ||| ((a1 &&& 1) <<< ((S.1 20) &&& (31 : Int32)))) → ∀ S2 : gSt, S2 = sI S1 20 ((S1.1 20) + 1) → ((5 ≤ (S2.1 20) → ((((a0 >>> ((13 : Int32) &&& (31 : Int32))) &&& 3) = 0 → ∀ S3 : gSt, S3 = sI S2 22 (S2.1 21) → ∀ S4 : gSt, S4 = sI S3 19 ((S3.1 21) &&& 3) → ∀ S5 : gSt, S5 = sI S4 20 0 → ∀ S6 : gSt, S6 = sI S5 21 0 → True) ∧ (¬ ((a0 >>> ((13 : Int32) &&& (31 : Int32))) &&& 3) = 0 → ((((a0 >>> ((13 : Int32) &&& (31 : Int32))) &&& 3) = 1 → ∀ S7 : gSt, S7 = sI S2 23 (S2.1 21) → ∀ S8 : gSt, S8 = sI S7 20 0 → ∀ S9 : gSt, S9 = sI S8 21 0 → True) ∧ (¬ ((a0 >>> ((13 : Int32) &&& (31 : Int32))) &&& 3) = 1 → ((((a0 >>> ((13 : Int32) &&& (31 : Int32))) &&& 3) = 2 → ∀ S10 : gSt, S10 = sI S2 24 (S2.1 21) → ∀ S11 : gSt, S11 = sI S10 20 0 → ∀ S12 : gSt, S12 = sI S11 21 0 → True) ∧ (¬ ((a0 >>> ((13 : Int32) &&& (31 : Int32))) &&& 3) = 2 → ∀ S13 : gSt, S13 = sI S2 25 (S2.1 21) → ∀ S14 : gSt, S14 = sI S13 20 0 → ∀ S15 : gSt, S15 = sI S14 21 0 → True))))))) ∧ (¬ 5 ≤ (S2.1 20) → True))) ∧ (¬ (a1 &&& 128) = 0 → ∀ S16 : gSt, S16 = sI S 20 0 → ∀ S17 : gSt, S17 = sI S16 21 0 → ∀ S18 : gSt, S18 = sI S17 22 ((S17.1 22) ||| 12) → True))
set_option maxRecDepth 100000 in
set_option maxHeartbeats 4000000 in
theorem c_X10_writeOne (l : Launch) (η : gE) (a0 : Int32) (a1 : Int32) (S : gSt) (ho : ok_X10_writeOne a0 a1 S) : gMet l yX10_writeOne cX10_writeOne 3 none rm_X10_writeOne (oM η) [.ref (η.1 0), .int a0, .int a1] S (oV (sp_X10_writeOne a0 a1 S).1) (sp_X10_writeOne a0 a1 S).2 := by
  refine gMet_of (X := sp_X10_writeOne a0 a1 S) (lv := [(0, .ref (η.1 0)), (1, .int a0), (2, .int a1)]) oV zM_ok (by decide +kernel) (Nat.le_of_ble_eq_true rfl) rfl (fun κ hc => ?_)
  have hc : gC (oM η) κ cX10_writeOne 3 RX10 none rm_X10_writeOne := hc
  unfold sp_X10_writeOne
  unfold ok_X10_writeOne at ho
  refine g_iload_n (i := 2) hc 2 dX10_writeOne_0 rfl rfl ?_
  refine g_sipush (v := 128) hc dX10_writeOne_1 (by decide) ?_
  refine g_iand hc dX10_writeOne_4 ?_
  refine g_ifeq (tgt := 30) hc dX10_writeOne_5 rfl (fun c_5 => ?_) (fun c_5 => ?_)
  · have ho := ho.1 c_5
    refine g_aload_n (i := 0) hc 0 dX10_writeOne_30 rfl rfl ?_
    refine g_dup hc dX10_writeOne_31 rfl ?_
    refine gf_M_0_shift hc wtM_10 dX10_writeOne_32 ?_
    refine g_iload_n (i := 2) hc 2 dX10_writeOne_35 rfl rfl ?_
    refine g_iconst (v := 1) hc dX10_writeOne_36 (by decide) ?_
    refine g_iand hc dX10_writeOne_37 ?_
    refine g_aload_n (i := 0) hc 0 dX10_writeOne_38 rfl rfl ?_
    refine gf_M_0_shifted hc wtM_11 dX10_writeOne_39 ?_
    refine g_ishl hc dX10_writeOne_42 ?_
    refine g_ior hc dX10_writeOne_43 ?_
    refine pf_M_0_shift (v := ((S.1 21) ||| ((a1 &&& 1) <<< ((S.1 20) &&& (31 : Int32))))) hc wtM_10 dX10_writeOne_44 (fun S1 f1 => ?_)
    have ho := ho S1 f1
    refine g_aload_n (i := 0) hc 0 dX10_writeOne_47 rfl rfl ?_
    refine g_dup hc dX10_writeOne_48 rfl ?_
    refine gf_M_0_shifted hc wtM_11 dX10_writeOne_49 ?_
    refine g_iconst (v := 1) hc dX10_writeOne_52 (by decide) ?_
    refine g_iadd hc dX10_writeOne_53 ?_
    refine pf_M_0_shifted (v := ((S1.1 20) + 1)) hc wtM_11 dX10_writeOne_54 (fun S2 f2 => ?_)
    have ho := ho S2 f2
    refine g_aload_n (i := 0) hc 0 dX10_writeOne_57 rfl rfl ?_
    refine gf_M_0_shifted hc wtM_11 dX10_writeOne_58 ?_
    refine g_iconst (v := 5) hc dX10_writeOne_61 (by decide) ?_
    refine g_icmpge (tgt := 66) hc dX10_writeOne_62 rfl (fun c_62 => ?_) (fun c_62 => ?_)
    · have ho := ho.1 c_62
      refine g_iload_n (i := 1) hc 1 dX10_writeOne_66 rfl rfl ?_
      refine g_bipush (v := 13) hc dX10_writeOne_67 (by decide) ?_
      refine g_ishr hc dX10_writeOne_69 ?_
      refine g_iconst (v := 3) hc dX10_writeOne_70 (by decide) ?_
      refine g_iand hc dX10_writeOne_71 ?_
      refine g_tsw (tgt := 100) hc 0 dX10_writeOne_72 ⟨by decide, by decide, rfl⟩ rfl (fun c_72_0 => ?_) (fun c_72_0 => ?_)
      · have ho := ho.1 c_72_0
        refine g_aload_n (i := 0) hc 0 dX10_writeOne_100 rfl rfl ?_
        refine g_aload_n (i := 0) hc 0 dX10_writeOne_101 rfl rfl ?_
        refine gf_M_0_shift hc wtM_10 dX10_writeOne_102 ?_
        refine pf_M_0_control (v := (S2.1 21)) hc wtM_5 dX10_writeOne_105 (fun S3 f3 => ?_)
        have ho := ho S3 f3
        refine g_aload_n (i := 0) hc 0 dX10_writeOne_108 rfl rfl ?_
        refine g_aload_n (i := 0) hc 0 dX10_writeOne_109 rfl rfl ?_
        refine gf_M_0_shift hc wtM_10 dX10_writeOne_110 ?_
        refine g_iconst (v := 3) hc dX10_writeOne_113 (by decide) ?_
        refine g_iand hc dX10_writeOne_114 ?_
        refine pf_M_0_mirroring (v := ((S3.1 21) &&& 3)) hc wtM_12 dX10_writeOne_115 (fun S4 f4 => ?_)
        have ho := ho S4 f4
        refine g_goto (tgt := 151) hc dX10_writeOne_118 rfl ?_
        refine g_aload_n (i := 0) hc 0 dX10_writeOne_151 rfl rfl ?_
        refine g_iconst (v := 0) hc dX10_writeOne_152 (by decide) ?_
        refine pf_M_0_shifted (v := 0) hc wtM_11 dX10_writeOne_153 (fun S5 f5 => ?_)
        have ho := ho S5 f5
        refine g_aload_n (i := 0) hc 0 dX10_writeOne_156 rfl rfl ?_
        refine g_iconst (v := 0) hc dX10_writeOne_157 (by decide) ?_
        refine pf_M_0_shift (v := 0) hc wtM_10 dX10_writeOne_158 (fun S6 f6 => ?_)
        have ho := ho S6 f6
        exact g_vret hc dX10_writeOne_161
      have ho := ho.2 c_72_0
      refine g_tsw (tgt := 121) hc 1 dX10_writeOne_72 ⟨by decide, by decide, rfl⟩ rfl (fun c_72_1 => ?_) (fun c_72_1 => ?_)
      · have ho := ho.1 c_72_1
        refine g_aload_n (i := 0) hc 0 dX10_writeOne_121 rfl rfl ?_
        refine g_aload_n (i := 0) hc 0 dX10_writeOne_122 rfl rfl ?_
        refine gf_M_0_shift hc wtM_10 dX10_writeOne_123 ?_
        refine pf_M_0_first (v := (S2.1 21)) hc wtM_9 dX10_writeOne_126 (fun S7 f7 => ?_)
        have ho := ho S7 f7
        refine g_goto (tgt := 151) hc dX10_writeOne_129 rfl ?_
        refine g_aload_n (i := 0) hc 0 dX10_writeOne_151 rfl rfl ?_
        refine g_iconst (v := 0) hc dX10_writeOne_152 (by decide) ?_
        refine pf_M_0_shifted (v := 0) hc wtM_11 dX10_writeOne_153 (fun S8 f8 => ?_)
        have ho := ho S8 f8
        refine g_aload_n (i := 0) hc 0 dX10_writeOne_156 rfl rfl ?_
        refine g_iconst (v := 0) hc dX10_writeOne_157 (by decide) ?_
        refine pf_M_0_shift (v := 0) hc wtM_10 dX10_writeOne_158 (fun S9 f9 => ?_)
        have ho := ho S9 f9
        exact g_vret hc dX10_writeOne_161
      have ho := ho.2 c_72_1
      refine g_tsw (tgt := 132) hc 2 dX10_writeOne_72 ⟨by decide, by decide, rfl⟩ rfl (fun c_72_2 => ?_) (fun c_72_2 => ?_)
      · have ho := ho.1 c_72_2
        refine g_aload_n (i := 0) hc 0 dX10_writeOne_132 rfl rfl ?_
        refine g_aload_n (i := 0) hc 0 dX10_writeOne_133 rfl rfl ?_
        refine gf_M_0_shift hc wtM_10 dX10_writeOne_134 ?_
        refine pf_M_0_other (v := (S2.1 21)) hc wtM_8 dX10_writeOne_137 (fun S10 f10 => ?_)
        have ho := ho S10 f10
        refine g_goto (tgt := 151) hc dX10_writeOne_140 rfl ?_
        refine g_aload_n (i := 0) hc 0 dX10_writeOne_151 rfl rfl ?_
        refine g_iconst (v := 0) hc dX10_writeOne_152 (by decide) ?_
        refine pf_M_0_shifted (v := 0) hc wtM_11 dX10_writeOne_153 (fun S11 f11 => ?_)
        have ho := ho S11 f11
        refine g_aload_n (i := 0) hc 0 dX10_writeOne_156 rfl rfl ?_
        refine g_iconst (v := 0) hc dX10_writeOne_157 (by decide) ?_
        refine pf_M_0_shift (v := 0) hc wtM_10 dX10_writeOne_158 (fun S12 f12 => ?_)
        have ho := ho S12 f12
        exact g_vret hc dX10_writeOne_161
      have ho := ho.2 c_72_2
      refine g_tswd (tgt := 143) hc dX10_writeOne_72 (by have := lv_neT c_72_0 (a := 0) (by decide); have := lv_neT c_72_1 (a := 1) (by decide); have := lv_neT c_72_2 (a := 2) (by decide); omega) rfl ?_
      refine g_aload_n (i := 0) hc 0 dX10_writeOne_143 rfl rfl ?_
      refine g_aload_n (i := 0) hc 0 dX10_writeOne_144 rfl rfl ?_
      refine gf_M_0_shift hc wtM_10 dX10_writeOne_145 ?_
      refine pf_M_0_bank (v := (S2.1 21)) hc wtM_3 dX10_writeOne_148 (fun S13 f13 => ?_)
      have ho := ho S13 f13
      refine g_aload_n (i := 0) hc 0 dX10_writeOne_151 rfl rfl ?_
      refine g_iconst (v := 0) hc dX10_writeOne_152 (by decide) ?_
      refine pf_M_0_shifted (v := 0) hc wtM_11 dX10_writeOne_153 (fun S14 f14 => ?_)
      have ho := ho S14 f14
      refine g_aload_n (i := 0) hc 0 dX10_writeOne_156 rfl rfl ?_
      refine g_iconst (v := 0) hc dX10_writeOne_157 (by decide) ?_
      refine pf_M_0_shift (v := 0) hc wtM_10 dX10_writeOne_158 (fun S15 f15 => ?_)
      have ho := ho S15 f15
      exact g_vret hc dX10_writeOne_161
    · have ho := ho.2 c_62
      exact g_vret hc dX10_writeOne_65
  · have ho := ho.2 c_5
    refine g_aload_n (i := 0) hc 0 dX10_writeOne_8 rfl rfl ?_
    refine g_iconst (v := 0) hc dX10_writeOne_9 (by decide) ?_
    refine pf_M_0_shifted (v := 0) hc wtM_11 dX10_writeOne_10 (fun S16 f16 => ?_)
    have ho := ho S16 f16
    refine g_aload_n (i := 0) hc 0 dX10_writeOne_13 rfl rfl ?_
    refine g_iconst (v := 0) hc dX10_writeOne_14 (by decide) ?_
    refine pf_M_0_shift (v := 0) hc wtM_10 dX10_writeOne_15 (fun S17 f17 => ?_)
    have ho := ho S17 f17
    refine g_aload_n (i := 0) hc 0 dX10_writeOne_18 rfl rfl ?_
    refine g_dup hc dX10_writeOne_19 rfl ?_
    refine gf_M_0_control hc wtM_5 dX10_writeOne_20 ?_
    refine g_bipush (v := 12) hc dX10_writeOne_23 (by decide) ?_
    refine g_ior hc dX10_writeOne_25 ?_
    refine pf_M_0_control (v := ((S17.1 22) ||| 12)) hc wtM_5 dX10_writeOne_26 (fun S18 f18 => ?_)
    have ho := ho S18 f18
    exact g_vret hc dX10_writeOne_29

abbrev rm_X10_writeThree : Room := { frames := 0, cells := 0, slots := 0, locals := 0 }
def sp_X10_writeThree (a0 : Int32) (a1 : Int32) (S : gSt) : Unit × gSt := (if (a0 &&& 1) = 1 then (if ((a0 >>> ((13 : Int32) &&& (31 : Int32))) &&& 3) = 0 then gL (aP S 8 ((S.1 26) &&& 7) a1) (fun S1 => ((), S1)) else (if ((a0 >>> ((13 : Int32) &&& (31 : Int32))) &&& 3) = 1 then ((), S) else (if ((a0 >>> ((13 : Int32) &&& (31 : Int32))) &&& 3) = 2 then gL (sI S 28 0) (fun S2 => ((), S2)) else gL (sZ S 3 true) (fun S3 => ((), S3))))) else (if ((a0 >>> ((13 : Int32) &&& (31 : Int32))) &&& 3) = 0 then gL (sI S 26 a1) (fun S4 => ((), S4)) else (if ((a0 >>> ((13 : Int32) &&& (31 : Int32))) &&& 3) = 1 then gL (sI S 19 (2 + (a1 &&& 1))) (fun S5 => ((), S5)) else (if ((a0 >>> ((13 : Int32) &&& (31 : Int32))) &&& 3) = 2 then gL (sI S 27 a1) (fun S6 => ((), S6)) else gL (sZ S 3 false) (fun S7 => gL (sI S7 29 0) (fun S8 => ((), S8)))))))
def ok_X10_writeThree (a0 : Int32) (a1 : Int32) (S : gSt) : Prop := (((a0 &&& 1) = 1 → ((((a0 >>> ((13 : Int32) &&& (31 : Int32))) &&& 3) = 0 → ∀ S1 : gSt, S1 = aP S 8 ((S.1 26) &&& 7) a1 → True) ∧ (¬ ((a0 >>> ((13 : Int32) &&& (31 : Int32))) &&& 3) = 0 → ((((a0 >>> ((13 : Int32) &&& (31 : Int32))) &&& 3) = 1 → True) ∧ (¬ ((a0 >>> ((13 : Int32) &&& (31 : Int32))) &&& 3) = 1 → ((((a0 >>> ((13 : Int32) &&& (31 : Int32))) &&& 3) = 2 → ∀ S2 : gSt, S2 = sI S 28 0 → True) ∧ (¬ ((a0 >>> ((13 : Int32) &&& (31 : Int32))) &&& 3) = 2 → ∀ S3 : gSt, S3 = sZ S 3 true → True))))))) ∧ (¬ (a0 &&& 1) = 1 → ((((a0 >>> ((13 : Int32) &&& (31 : Int32))) &&& 3) = 0 → ∀ S4 : gSt, S4 = sI S 26 a1 → True) ∧ (¬ ((a0 >>> ((13 : Int32) &&& (31 : Int32))) &&& 3) = 0 → ((((a0 >>> ((13 : Int32) &&& (31 : Int32))) &&& 3) = 1 → ∀ S5 : gSt, S5 = sI S 19 (2 + (a1 &&& 1)) → True) ∧ (¬ ((a0 >>> ((13 : Int32) &&& (31 : Int32))) &&& 3) = 1 → ((((a0 >>> ((13 : Int32) &&& (31 : Int32))) &&& 3) = 2 → ∀ S6 : gSt, S6 = sI S 27 a1 → True) ∧ (¬ ((a0 >>> ((13 : Int32) &&& (31 : Int32))) &&& 3) = 2 → ∀ S7 : gSt, S7 = sZ S 3 false → ∀ S8 : gSt, S8 = sI S7 29 0 → True))))))))
set_option maxRecDepth 100000 in
set_option maxHeartbeats 4000000 in
theorem c_X10_writeThree (l : Launch) (η : gE) (a0 : Int32) (a1 : Int32) (S : gSt) (ho : ok_X10_writeThree a0 a1 S) : gMet l yX10_writeThree cX10_writeThree 4 none rm_X10_writeThree (oM η) [.ref (η.1 0), .int a0, .int a1] S (oV (sp_X10_writeThree a0 a1 S).1) (sp_X10_writeThree a0 a1 S).2 := by
  refine gMet_of (X := sp_X10_writeThree a0 a1 S) (lv := [(0, .ref (η.1 0)), (1, .int a0), (2, .int a1)]) oV zM_ok (by decide +kernel) (Nat.le_of_ble_eq_true rfl) rfl (fun κ hc => ?_)
  have hc : gC (oM η) κ cX10_writeThree 4 RX10 none rm_X10_writeThree := hc
  unfold sp_X10_writeThree
  unfold ok_X10_writeThree at ho
  refine g_iload_n (i := 1) hc 1 dX10_writeThree_0 rfl rfl ?_
  refine g_iconst (v := 1) hc dX10_writeThree_1 (by decide) ?_
  refine g_iand hc dX10_writeThree_2 ?_
  refine g_iconst (v := 1) hc dX10_writeThree_3 (by decide) ?_
  refine g_icmpne (tgt := 11) hc dX10_writeThree_4 rfl (fun c_4 => ?_) (fun c_4 => ?_)
  · have ho := ho.1 c_4
    refine g_iconst (v := 1) hc dX10_writeThree_7 (by decide) ?_
    refine g_goto (tgt := 12) hc dX10_writeThree_8 rfl ?_
    refine g_istore_n (i := 3) (lv' := [(3, .int 1), (0, .ref (η.1 0)), (1, .int a0), (2, .int a1)]) hc dX10_writeThree_12 rfl (by decide) rfl ?_
    refine g_iload_n (i := 1) hc 2 dX10_writeThree_13 rfl rfl ?_
    refine g_bipush (v := 13) hc dX10_writeThree_14 (by decide) ?_
    refine g_ishr hc dX10_writeThree_16 ?_
    refine g_iconst (v := 3) hc dX10_writeThree_17 (by decide) ?_
    refine g_iand hc dX10_writeThree_18 ?_
    refine g_tsw (tgt := 44) hc 0 dX10_writeThree_19 ⟨by decide, by decide, rfl⟩ rfl (fun c_19_0 => ?_) (fun c_19_0 => ?_)
    · have ho := ho.1 c_19_0
      refine g_iload_n (i := 3) hc 0 dX10_writeThree_44 rfl rfl ?_
      refine g_ifeq_f (tgt := 64) hc dX10_writeThree_45 rfl (by decide) ?_
      refine g_aload_n (i := 0) hc 1 dX10_writeThree_48 rfl rfl ?_
      refine gf_M_0_r hc wtM_7 dX10_writeThree_49 ?_
      refine g_aload_n (i := 0) hc 1 dX10_writeThree_52 rfl rfl ?_
      refine gf_M_0_select hc wtM_6 dX10_writeThree_53 ?_
      refine g_bipush (v := 7) hc dX10_writeThree_56 (by decide) ?_
      refine g_iand hc dX10_writeThree_58 ?_
      refine g_iload_n (i := 2) hc 3 dX10_writeThree_59 rfl rfl ?_
      refine as_M_8 hc (pk_andIn _ 3 (by decide) (by decide)) dX10_writeThree_60 (fun S1 f1 => ?_)
      have ho := ho S1 f1
      refine g_goto (tgt := 122) hc dX10_writeThree_61 rfl ?_
      exact g_vret hc dX10_writeThree_122
    have ho := ho.2 c_19_0
    refine g_tsw (tgt := 72) hc 1 dX10_writeThree_19 ⟨by decide, by decide, rfl⟩ rfl (fun c_19_1 => ?_) (fun c_19_1 => ?_)
    · have ho := ho.1 c_19_1
      refine g_iload_n (i := 3) hc 0 dX10_writeThree_72 rfl rfl ?_
      refine g_ifne_f (tgt := 122) hc dX10_writeThree_73 rfl (by decide) ?_
      exact g_vret hc dX10_writeThree_122
    have ho := ho.2 c_19_1
    refine g_tsw (tgt := 88) hc 2 dX10_writeThree_19 ⟨by decide, by decide, rfl⟩ rfl (fun c_19_2 => ?_) (fun c_19_2 => ?_)
    · have ho := ho.1 c_19_2
      refine g_iload_n (i := 3) hc 0 dX10_writeThree_88 rfl rfl ?_
      refine g_ifeq_f (tgt := 100) hc dX10_writeThree_89 rfl (by decide) ?_
      refine g_aload_n (i := 0) hc 1 dX10_writeThree_92 rfl rfl ?_
      refine g_iconst (v := 0) hc dX10_writeThree_93 (by decide) ?_
      refine pf_M_0_counter (v := 0) hc wtM_13 dX10_writeThree_94 (fun S2 f2 => ?_)
      have ho := ho S2 f2
      refine g_goto (tgt := 122) hc dX10_writeThree_97 rfl ?_
      exact g_vret hc dX10_writeThree_122
    have ho := ho.2 c_19_2
    refine g_tswd (tgt := 108) hc dX10_writeThree_19 (by have := lv_neT c_19_0 (a := 0) (by decide); have := lv_neT c_19_1 (a := 1) (by decide); have := lv_neT c_19_2 (a := 2) (by decide); omega) rfl ?_
    refine g_aload_n (i := 0) hc 1 dX10_writeThree_108 rfl rfl ?_
    refine g_iload_n (i := 3) hc 0 dX10_writeThree_109 rfl rfl ?_
    refine pf_M_0_counts (v := true) hc wtM_14 dX10_writeThree_110 (fun S3 f3 => ?_)
    have ho := ho S3 f3
    refine g_iload_n (i := 3) hc 0 dX10_writeThree_113 rfl rfl ?_
    refine g_ifne_f (tgt := 122) hc dX10_writeThree_114 rfl (by decide) ?_
    exact g_vret hc dX10_writeThree_122
  · have ho := ho.2 c_4
    refine g_iconst (v := 0) hc dX10_writeThree_11 (by decide) ?_
    refine g_istore_n (i := 3) (lv' := [(3, .int 0), (0, .ref (η.1 0)), (1, .int a0), (2, .int a1)]) hc dX10_writeThree_12 rfl (by decide) rfl ?_
    refine g_iload_n (i := 1) hc 2 dX10_writeThree_13 rfl rfl ?_
    refine g_bipush (v := 13) hc dX10_writeThree_14 (by decide) ?_
    refine g_ishr hc dX10_writeThree_16 ?_
    refine g_iconst (v := 3) hc dX10_writeThree_17 (by decide) ?_
    refine g_iand hc dX10_writeThree_18 ?_
    refine g_tsw (tgt := 44) hc 0 dX10_writeThree_19 ⟨by decide, by decide, rfl⟩ rfl (fun c_19_0 => ?_) (fun c_19_0 => ?_)
    · have ho := ho.1 c_19_0
      refine g_iload_n (i := 3) hc 0 dX10_writeThree_44 rfl rfl ?_
      refine g_ifeq_t (tgt := 64) hc dX10_writeThree_45 rfl (by decide) ?_
      refine g_aload_n (i := 0) hc 1 dX10_writeThree_64 rfl rfl ?_
      refine g_iload_n (i := 2) hc 3 dX10_writeThree_65 rfl rfl ?_
      refine pf_M_0_select (v := a1) hc wtM_6 dX10_writeThree_66 (fun S4 f4 => ?_)
      have ho := ho S4 f4
      refine g_goto (tgt := 122) hc dX10_writeThree_69 rfl ?_
      exact g_vret hc dX10_writeThree_122
    have ho := ho.2 c_19_0
    refine g_tsw (tgt := 72) hc 1 dX10_writeThree_19 ⟨by decide, by decide, rfl⟩ rfl (fun c_19_1 => ?_) (fun c_19_1 => ?_)
    · have ho := ho.1 c_19_1
      refine g_iload_n (i := 3) hc 0 dX10_writeThree_72 rfl rfl ?_
      refine g_ifne_t (tgt := 122) hc dX10_writeThree_73 rfl (by decide) ?_
      refine g_aload_n (i := 0) hc 1 dX10_writeThree_76 rfl rfl ?_
      refine g_iconst (v := 2) hc dX10_writeThree_77 (by decide) ?_
      refine g_iload_n (i := 2) hc 3 dX10_writeThree_78 rfl rfl ?_
      refine g_iconst (v := 1) hc dX10_writeThree_79 (by decide) ?_
      refine g_iand hc dX10_writeThree_80 ?_
      refine g_iadd hc dX10_writeThree_81 ?_
      refine pf_M_0_mirroring (v := (2 + (a1 &&& 1))) hc wtM_12 dX10_writeThree_82 (fun S5 f5 => ?_)
      have ho := ho S5 f5
      refine g_goto (tgt := 122) hc dX10_writeThree_85 rfl ?_
      exact g_vret hc dX10_writeThree_122
    have ho := ho.2 c_19_1
    refine g_tsw (tgt := 88) hc 2 dX10_writeThree_19 ⟨by decide, by decide, rfl⟩ rfl (fun c_19_2 => ?_) (fun c_19_2 => ?_)
    · have ho := ho.1 c_19_2
      refine g_iload_n (i := 3) hc 0 dX10_writeThree_88 rfl rfl ?_
      refine g_ifeq_t (tgt := 100) hc dX10_writeThree_89 rfl (by decide) ?_
      refine g_aload_n (i := 0) hc 1 dX10_writeThree_100 rfl rfl ?_
      refine g_iload_n (i := 2) hc 3 dX10_writeThree_101 rfl rfl ?_
      refine pf_M_0_latch (v := a1) hc wtM_15 dX10_writeThree_102 (fun S6 f6 => ?_)
      have ho := ho S6 f6
      refine g_goto (tgt := 122) hc dX10_writeThree_105 rfl ?_
      exact g_vret hc dX10_writeThree_122
    have ho := ho.2 c_19_2
    refine g_tswd (tgt := 108) hc dX10_writeThree_19 (by have := lv_neT c_19_0 (a := 0) (by decide); have := lv_neT c_19_1 (a := 1) (by decide); have := lv_neT c_19_2 (a := 2) (by decide); omega) rfl ?_
    refine g_aload_n (i := 0) hc 1 dX10_writeThree_108 rfl rfl ?_
    refine g_iload_n (i := 3) hc 0 dX10_writeThree_109 rfl rfl ?_
    refine pf_M_0_counts (v := false) hc wtM_14 dX10_writeThree_110 (fun S7 f7 => ?_)
    have ho := ho S7 f7
    refine g_iload_n (i := 3) hc 0 dX10_writeThree_113 rfl rfl ?_
    refine g_ifne_t (tgt := 122) hc dX10_writeThree_114 rfl (by decide) ?_
    refine g_aload_n (i := 0) hc 1 dX10_writeThree_117 rfl rfl ?_
    refine g_iconst (v := 0) hc dX10_writeThree_118 (by decide) ?_
    refine pf_M_0_cartridgeLine (v := 0) hc wtM_16 dX10_writeThree_119 (fun S8 f8 => ?_)
    have ho := ho S8 f8
    exact g_vret hc dX10_writeThree_122

abbrev rm_X10_tellLine : Room := { frames := 0, cells := 0, slots := 0, locals := 0 }
def sp_X10_tellLine  (S : gSt) : Unit × gSt := (if (bI (S.2.1 0)) = 0 then ((), S) else (if (S.1 28) = 0 then gL (sI S 28 (S.1 27)) (fun S1 => (if (S1.1 28) = 0 then (if (bI (S1.2.1 3)) = 0 then ((), S1) else gL (sI S1 29 1) (fun S2 => ((), S2))) else ((), S1))) else gL (sI S 28 ((S.1 28) - 1)) (fun S3 => (if (S3.1 28) = 0 then (if (bI (S3.2.1 3)) = 0 then ((), S3) else gL (sI S3 29 1) (fun S4 => ((), S4))) else ((), S3)))))
def ok_X10_tellLine  (S : gSt) : Prop := (((bI (S.2.1 0)) = 0 → True) ∧ (¬ (bI (S.2.1 0)) = 0 → (((S.1 28) = 0 → ∀ S1 : gSt, S1 = sI S 28 (S.1 27) → (((S1.1 28) = 0 → (((bI (S1.2.1 3)) = 0 → True) ∧ (¬ (bI (S1.2.1 3)) = 0 → ∀ S2 : gSt, S2 = sI S1 29 1 → True))) ∧ (¬ (S1.1 28) = 0 → True))) ∧ (¬ (S.1 28) = 0 → ∀ S3 : gSt, S3 = sI S 28 ((S.1 28) - 1) → (((S3.1 28) = 0 → (((bI (S3.2.1 3)) = 0 → True) ∧ (¬ (bI (S3.2.1 3)) = 0 → ∀ S4 : gSt, S4 = sI S3 29 1 → True))) ∧ (¬ (S3.1 28) = 0 → True))))))
set_option maxRecDepth 100000 in
set_option maxHeartbeats 4000000 in
theorem c_X10_tellLine (l : Launch) (η : gE)  (S : gSt) (ho : ok_X10_tellLine S) : gMet l yX10_tellLine cX10_tellLine 1 none rm_X10_tellLine (oM η) [.ref (η.1 0)] S (oV (sp_X10_tellLine S).1) (sp_X10_tellLine S).2 := by
  refine gMet_of (X := sp_X10_tellLine S) (lv := [(0, .ref (η.1 0))]) oV zM_ok (by decide +kernel) (Nat.le_of_ble_eq_true rfl) rfl (fun κ hc => ?_)
  have hc : gC (oM η) κ cX10_tellLine 1 RX10 none rm_X10_tellLine := hc
  unfold sp_X10_tellLine
  unfold ok_X10_tellLine at ho
  refine g_aload_n (i := 0) hc 0 dX10_tellLine_0 rfl rfl ?_
  refine gf_M_0_mmc3 hc wtM_4 dX10_tellLine_1 ?_
  refine g_ifne (tgt := 8) hc dX10_tellLine_4 rfl (fun c_4 => ?_) (fun c_4 => ?_)
  · have ho := ho.1 c_4
    exact g_vret hc dX10_tellLine_7
  · have ho := ho.2 c_4
    refine g_aload_n (i := 0) hc 0 dX10_tellLine_8 rfl rfl ?_
    refine g_aload_n (i := 0) hc 0 dX10_tellLine_9 rfl rfl ?_
    refine gf_M_0_counter hc wtM_13 dX10_tellLine_10 ?_
    refine g_ifne (tgt := 23) hc dX10_tellLine_13 rfl (fun c_13 => ?_) (fun c_13 => ?_)
    · have ho := ho.1 c_13
      refine g_aload_n (i := 0) hc 0 dX10_tellLine_16 rfl rfl ?_
      refine gf_M_0_latch hc wtM_15 dX10_tellLine_17 ?_
      refine g_goto (tgt := 29) hc dX10_tellLine_20 rfl ?_
      refine pf_M_0_counter (v := (S.1 27)) hc wtM_13 dX10_tellLine_29 (fun S1 f1 => ?_)
      have ho := ho S1 f1
      refine g_aload_n (i := 0) hc 0 dX10_tellLine_32 rfl rfl ?_
      refine gf_M_0_counter hc wtM_13 dX10_tellLine_33 ?_
      refine g_ifne (tgt := 51) hc dX10_tellLine_36 rfl (fun c_36 => ?_) (fun c_36 => ?_)
      · have ho := ho.1 c_36
        refine g_aload_n (i := 0) hc 0 dX10_tellLine_39 rfl rfl ?_
        refine gf_M_0_counts hc wtM_14 dX10_tellLine_40 ?_
        refine g_ifeq (tgt := 51) hc dX10_tellLine_43 rfl (fun c_43 => ?_) (fun c_43 => ?_)
        · have ho := ho.1 c_43
          exact g_vret hc dX10_tellLine_51
        · have ho := ho.2 c_43
          refine g_aload_n (i := 0) hc 0 dX10_tellLine_46 rfl rfl ?_
          refine g_iconst (v := 1) hc dX10_tellLine_47 (by decide) ?_
          refine pf_M_0_cartridgeLine (v := 1) hc wtM_16 dX10_tellLine_48 (fun S2 f2 => ?_)
          have ho := ho S2 f2
          exact g_vret hc dX10_tellLine_51
      · have ho := ho.2 c_36
        exact g_vret hc dX10_tellLine_51
    · have ho := ho.2 c_13
      refine g_aload_n (i := 0) hc 0 dX10_tellLine_23 rfl rfl ?_
      refine gf_M_0_counter hc wtM_13 dX10_tellLine_24 ?_
      refine g_iconst (v := 1) hc dX10_tellLine_27 (by decide) ?_
      refine g_isub hc dX10_tellLine_28 ?_
      refine pf_M_0_counter (v := ((S.1 28) - 1)) hc wtM_13 dX10_tellLine_29 (fun S3 f3 => ?_)
      have ho := ho S3 f3
      refine g_aload_n (i := 0) hc 0 dX10_tellLine_32 rfl rfl ?_
      refine gf_M_0_counter hc wtM_13 dX10_tellLine_33 ?_
      refine g_ifne (tgt := 51) hc dX10_tellLine_36 rfl (fun c_36 => ?_) (fun c_36 => ?_)
      · have ho := ho.1 c_36
        refine g_aload_n (i := 0) hc 0 dX10_tellLine_39 rfl rfl ?_
        refine gf_M_0_counts hc wtM_14 dX10_tellLine_40 ?_
        refine g_ifeq (tgt := 51) hc dX10_tellLine_43 rfl (fun c_43 => ?_) (fun c_43 => ?_)
        · have ho := ho.1 c_43
          exact g_vret hc dX10_tellLine_51
        · have ho := ho.2 c_43
          refine g_aload_n (i := 0) hc 0 dX10_tellLine_46 rfl rfl ?_
          refine g_iconst (v := 1) hc dX10_tellLine_47 (by decide) ?_
          refine pf_M_0_cartridgeLine (v := 1) hc wtM_16 dX10_tellLine_48 (fun S4 f4 => ?_)
          have ho := ho S4 f4
          exact g_vret hc dX10_tellLine_51
      · have ho := ho.2 c_36
        exact g_vret hc dX10_tellLine_51

abbrev rm_X10_tablePlace : Room := { frames := 0, cells := 0, slots := 0, locals := 0 }
def sp_X10_tablePlace (a0 : Int32) (S : gSt) : Int32 × gSt := (if (S.1 19) = 0 then (((1024 * 0) + (a0 &&& 1023)), S) else (if (S.1 19) = 1 then (((1024 * 1) + (a0 &&& 1023)), S) else (if (S.1 19) = 2 then (((1024 * ((a0 >>> ((10 : Int32) &&& (31 : Int32))) &&& 1)) + (a0 &&& 1023)), S) else (((1024 * ((a0 >>> ((11 : Int32) &&& (31 : Int32))) &&& 1)) + (a0 &&& 1023)), S))))
def ok_X10_tablePlace (a0 : Int32) (S : gSt) : Prop := (((S.1 19) = 0 → True) ∧ (¬ (S.1 19) = 0 → (((S.1 19) = 1 → True) ∧ (¬ (S.1 19) = 1 → (((S.1 19) = 2 → True) ∧ (¬ (S.1 19) = 2 → True))))))
set_option maxRecDepth 100000 in
set_option maxHeartbeats 4000000 in
theorem c_X10_tablePlace (l : Launch) (η : gE) (a0 : Int32) (S : gSt) (ho : ok_X10_tablePlace a0 S) : gMet l yX10_tablePlace cX10_tablePlace 3 (some .int) rm_X10_tablePlace (oM η) [.ref (η.1 0), .int a0] S (oI (sp_X10_tablePlace a0 S).1) (sp_X10_tablePlace a0 S).2 := by
  refine gMet_of (X := sp_X10_tablePlace a0 S) (lv := [(0, .ref (η.1 0)), (1, .int a0)]) oI zM_ok (by decide +kernel) (Nat.le_of_ble_eq_true rfl) rfl (fun κ hc => ?_)
  have hc : gC (oM η) κ cX10_tablePlace 3 RX10 (some .int) rm_X10_tablePlace := hc
  unfold sp_X10_tablePlace
  unfold ok_X10_tablePlace at ho
  refine g_aload_n (i := 0) hc 0 dX10_tablePlace_0 rfl rfl ?_
  refine gf_M_0_mirroring hc wtM_12 dX10_tablePlace_1 ?_
  refine g_ifne (tgt := 11) hc dX10_tablePlace_4 rfl (fun c_4 => ?_) (fun c_4 => ?_)
  · have ho := ho.1 c_4
    refine g_iconst (v := 0) hc dX10_tablePlace_7 (by decide) ?_
    refine g_goto (tgt := 46) hc dX10_tablePlace_8 rfl ?_
    refine g_istore_n (i := 2) (lv' := [(2, .int 0), (0, .ref (η.1 0)), (1, .int a0)]) hc dX10_tablePlace_46 rfl (by decide) rfl ?_
    refine g_sipush (v := 1024) hc dX10_tablePlace_47 (by decide) ?_
    refine g_iload_n (i := 2) hc 0 dX10_tablePlace_50 rfl rfl ?_
    refine g_imul hc dX10_tablePlace_51 ?_
    refine g_iload_n (i := 1) hc 2 dX10_tablePlace_52 rfl rfl ?_
    refine g_sipush (v := 1023) hc dX10_tablePlace_53 (by decide) ?_
    refine g_iand hc dX10_tablePlace_56 ?_
    refine g_iadd hc dX10_tablePlace_57 ?_
    exact g_iret hc dX10_tablePlace_58
  · have ho := ho.2 c_4
    refine g_aload_n (i := 0) hc 0 dX10_tablePlace_11 rfl rfl ?_
    refine gf_M_0_mirroring hc wtM_12 dX10_tablePlace_12 ?_
    refine g_iconst (v := 1) hc dX10_tablePlace_15 (by decide) ?_
    refine g_icmpne (tgt := 23) hc dX10_tablePlace_16 rfl (fun c_16 => ?_) (fun c_16 => ?_)
    · have ho := ho.1 c_16
      refine g_iconst (v := 1) hc dX10_tablePlace_19 (by decide) ?_
      refine g_goto (tgt := 46) hc dX10_tablePlace_20 rfl ?_
      refine g_istore_n (i := 2) (lv' := [(2, .int 1), (0, .ref (η.1 0)), (1, .int a0)]) hc dX10_tablePlace_46 rfl (by decide) rfl ?_
      refine g_sipush (v := 1024) hc dX10_tablePlace_47 (by decide) ?_
      refine g_iload_n (i := 2) hc 0 dX10_tablePlace_50 rfl rfl ?_
      refine g_imul hc dX10_tablePlace_51 ?_
      refine g_iload_n (i := 1) hc 2 dX10_tablePlace_52 rfl rfl ?_
      refine g_sipush (v := 1023) hc dX10_tablePlace_53 (by decide) ?_
      refine g_iand hc dX10_tablePlace_56 ?_
      refine g_iadd hc dX10_tablePlace_57 ?_
      exact g_iret hc dX10_tablePlace_58
    · have ho := ho.2 c_16
      refine g_aload_n (i := 0) hc 0 dX10_tablePlace_23 rfl rfl ?_
      refine gf_M_0_mirroring hc wtM_12 dX10_tablePlace_24 ?_
      refine g_iconst (v := 2) hc dX10_tablePlace_27 (by decide) ?_
      refine g_icmpne (tgt := 40) hc dX10_tablePlace_28 rfl (fun c_28 => ?_) (fun c_28 => ?_)
      · have ho := ho.1 c_28
        refine g_iload_n (i := 1) hc 1 dX10_tablePlace_31 rfl rfl ?_
        refine g_bipush (v := 10) hc dX10_tablePlace_32 (by decide) ?_
        refine g_ishr hc dX10_tablePlace_34 ?_
        refine g_iconst (v := 1) hc dX10_tablePlace_35 (by decide) ?_
        refine g_iand hc dX10_tablePlace_36 ?_
        refine g_goto (tgt := 46) hc dX10_tablePlace_37 rfl ?_
        refine g_istore_n (i := 2) (lv' := [(2, .int ((a0 >>> ((10 : Int32) &&& (31 : Int32))) &&& 1)), (0, .ref (η.1 0)), (1, .int a0)]) hc dX10_tablePlace_46 rfl (by decide) rfl ?_
        refine g_sipush (v := 1024) hc dX10_tablePlace_47 (by decide) ?_
        refine g_iload_n (i := 2) hc 0 dX10_tablePlace_50 rfl rfl ?_
        refine g_imul hc dX10_tablePlace_51 ?_
        refine g_iload_n (i := 1) hc 2 dX10_tablePlace_52 rfl rfl ?_
        refine g_sipush (v := 1023) hc dX10_tablePlace_53 (by decide) ?_
        refine g_iand hc dX10_tablePlace_56 ?_
        refine g_iadd hc dX10_tablePlace_57 ?_
        exact g_iret hc dX10_tablePlace_58
      · have ho := ho.2 c_28
        refine g_iload_n (i := 1) hc 1 dX10_tablePlace_40 rfl rfl ?_
        refine g_bipush (v := 11) hc dX10_tablePlace_41 (by decide) ?_
        refine g_ishr hc dX10_tablePlace_43 ?_
        refine g_iconst (v := 1) hc dX10_tablePlace_44 (by decide) ?_
        refine g_iand hc dX10_tablePlace_45 ?_
        refine g_istore_n (i := 2) (lv' := [(2, .int ((a0 >>> ((11 : Int32) &&& (31 : Int32))) &&& 1)), (0, .ref (η.1 0)), (1, .int a0)]) hc dX10_tablePlace_46 rfl (by decide) rfl ?_
        refine g_sipush (v := 1024) hc dX10_tablePlace_47 (by decide) ?_
        refine g_iload_n (i := 2) hc 0 dX10_tablePlace_50 rfl rfl ?_
        refine g_imul hc dX10_tablePlace_51 ?_
        refine g_iload_n (i := 1) hc 2 dX10_tablePlace_52 rfl rfl ?_
        refine g_sipush (v := 1023) hc dX10_tablePlace_53 (by decide) ?_
        refine g_iand hc dX10_tablePlace_56 ?_
        refine g_iadd hc dX10_tablePlace_57 ?_
        exact g_iret hc dX10_tablePlace_58

abbrev rm_X10_palettePlace : Room := { frames := 0, cells := 0, slots := 0, locals := 0 }
def sp_X10_palettePlace (a0 : Int32) (S : gSt) : Int32 × gSt := (if ((a0 &&& 31) &&& 19) = 16 then (((a0 &&& 31) - 16), S) else ((a0 &&& 31), S))
def ok_X10_palettePlace (a0 : Int32) (S : gSt) : Prop := ((((a0 &&& 31) &&& 19) = 16 → True) ∧ (¬ ((a0 &&& 31) &&& 19) = 16 → True))
set_option maxRecDepth 100000 in
set_option maxHeartbeats 4000000 in
theorem c_X10_palettePlace (l : Launch) (η : gE) (a0 : Int32) (S : gSt) (ho : ok_X10_palettePlace a0 S) : gMet l yX10_palettePlace cX10_palettePlace 2 (some .int) rm_X10_palettePlace (oM η) [.int a0] S (oI (sp_X10_palettePlace a0 S).1) (sp_X10_palettePlace a0 S).2 := by
  refine gMet_of (X := sp_X10_palettePlace a0 S) (lv := [(0, .int a0)]) oI zM_ok (by decide +kernel) (Nat.le_of_ble_eq_true rfl) rfl (fun κ hc => ?_)
  have hc : gC (oM η) κ cX10_palettePlace 2 RX10 (some .int) rm_X10_palettePlace := hc
  unfold sp_X10_palettePlace
  unfold ok_X10_palettePlace at ho
  refine g_iload_n (i := 0) hc 0 dX10_palettePlace_0 rfl rfl ?_
  refine g_bipush (v := 31) hc dX10_palettePlace_1 (by decide) ?_
  refine g_iand hc dX10_palettePlace_3 ?_
  refine g_istore_n (i := 1) (lv' := [(1, .int (a0 &&& 31)), (0, .int a0)]) hc dX10_palettePlace_4 rfl (by decide) rfl ?_
  refine g_iload_n (i := 1) hc 0 dX10_palettePlace_5 rfl rfl ?_
  refine g_bipush (v := 19) hc dX10_palettePlace_6 (by decide) ?_
  refine g_iand hc dX10_palettePlace_8 ?_
  refine g_bipush (v := 16) hc dX10_palettePlace_9 (by decide) ?_
  refine g_icmpne (tgt := 21) hc dX10_palettePlace_11 rfl (fun c_11 => ?_) (fun c_11 => ?_)
  · have ho := ho.1 c_11
    refine g_iload_n (i := 1) hc 0 dX10_palettePlace_14 rfl rfl ?_
    refine g_bipush (v := 16) hc dX10_palettePlace_15 (by decide) ?_
    refine g_isub hc dX10_palettePlace_17 ?_
    refine g_goto (tgt := 22) hc dX10_palettePlace_18 rfl ?_
    exact g_iret hc dX10_palettePlace_22
  · have ho := ho.2 c_11
    refine g_iload_n (i := 1) hc 0 dX10_palettePlace_21 rfl rfl ?_
    exact g_iret hc dX10_palettePlace_22

abbrev rm_X10_seen : Room := { frames := 1, cells := 0, slots := 0, locals := 23 }
def sp_X10_seen (a0 : Int32) (S : gSt) : Int32 × gSt := (if 8192 ≤ (a0 &&& 16383) then (if 16128 ≤ (a0 &&& 16383) then gB (sp_X10_palettePlace (a0 &&& 16383) S) (fun r1 S1 => ((aG S1 7 r1), S1)) else gB (sp_X10_tablePlace (a0 &&& 16383) S) (fun r2 S2 => ((aG S2 6 r2), S2))) else gB (sp_X10_chrBank ((a0 &&& 16383) >>> ((10 : Int32) &&& (31 : Int32))) S) (fun r3 S3 => ((aG S3 4 ((16 * r3) + ((a0 &&& 16383) &&& 15))), S3)))
def ok_X10_seen (a0 : Int32) (S : gSt) : Prop := ((8192 ≤ (a0 &&& 16383) → ((16128 ≤ (a0 &&& 16383) → (ok_X10_palettePlace (a0 &&& 16383) S ∧ ∀ (r1 : Int32) (S1 : gSt), r1 = (sp_X10_palettePlace (a0 &&& 16383) S).1 → S1 = (sp_X10_palettePlace (a0 &&& 16383) S).2 → (vp_in r1 32 ∧ True))) ∧ (¬ 16128 ≤ (a0 &&& 16383) → (ok_X10_tablePlace (a0 &&& 16383) S ∧ ∀ (r2 : Int32) (S2 : gSt), r2 = (sp_X10_tablePlace (a0 &&& 16383) S).1 → S2 = (sp_X10_tablePlace (a0 &&& 16383) S).2 → (vp_in r2 2048 ∧ True))))) ∧ (¬ 8192 ≤ (a0 &&& 16383) → (ok_X10_chrBank ((a0 &&& 16383) >>> ((10 : Int32) &&& (31 : Int32))) S ∧ ∀ (r3 : Int32) (S3 : gSt), r3 = (sp_X10_chrBank ((a0 &&& 16383) >>> ((10 : Int32) &&& (31 : Int32))) S).1 → S3 = (sp_X10_chrBank ((a0 &&& 16383) >>> ((10 : Int32) &&& (31 : Int32))) S).2 → (vp_in ((16 * r3) + ((a0 &&& 16383) &&& 15)) 128 ∧ True))))
set_option maxRecDepth 100000 in
set_option maxHeartbeats 4000000 in
theorem c_X10_seen (l : Launch) (η : gE) (a0 : Int32) (S : gSt) (ho : ok_X10_seen a0 S) : gMet l yX10_seen cX10_seen 3 (some .int) rm_X10_seen (oM η) [.ref (η.1 0), .int a0] S (oI (sp_X10_seen a0 S).1) (sp_X10_seen a0 S).2 := by
  refine gMet_of (X := sp_X10_seen a0 S) (lv := [(0, .ref (η.1 0)), (1, .int a0)]) oI zM_ok (by decide +kernel) (Nat.le_of_ble_eq_true rfl) rfl (fun κ hc => ?_)
  have hc : gC (oM η) κ cX10_seen 3 RX10 (some .int) rm_X10_seen := hc
  unfold sp_X10_seen
  unfold ok_X10_seen at ho
  refine g_iload_n (i := 1) hc 1 dX10_seen_0 rfl rfl ?_
  refine g_sipush (v := 16383) hc dX10_seen_1 (by decide) ?_
  refine g_iand hc dX10_seen_4 ?_
  refine g_istore_n (i := 2) (lv' := [(2, .int (a0 &&& 16383)), (0, .ref (η.1 0)), (1, .int a0)]) hc dX10_seen_5 rfl (by decide) rfl ?_
  refine g_iload_n (i := 2) hc 0 dX10_seen_6 rfl rfl ?_
  refine g_sipush (v := 8192) hc dX10_seen_7 (by decide) ?_
  refine g_icmpge (tgt := 35) hc dX10_seen_10 rfl (fun c_10 => ?_) (fun c_10 => ?_)
  · have ho := ho.1 c_10
    refine g_iload_n (i := 2) hc 0 dX10_seen_35 rfl rfl ?_
    refine g_sipush (v := 16128) hc dX10_seen_36 (by decide) ?_
    refine g_icmpge (tgt := 55) hc dX10_seen_39 rfl (fun c_39 => ?_) (fun c_39 => ?_)
    · have ho := ho.1 c_39
      refine g_aload_n (i := 0) hc 1 dX10_seen_55 rfl rfl ?_
      refine gf_M_0_palette hc wtM_17 dX10_seen_56 ?_
      refine g_iload_n (i := 2) hc 0 dX10_seen_59 rfl rfl ?_
      refine g_callSI hc [.int (a0 &&& 16383)] (fun l => c_X10_palettePlace l η (a0 &&& 16383) S ho.1) wtM_21 ge_X10_palettePlace rfl ⟨rfl, rfl⟩ ⟨Nat.le_of_ble_eq_true rfl, Nat.le_of_ble_eq_true rfl⟩ rfl (Nat.le_of_ble_eq_true rfl) dX10_seen_60 (fun r1 S1 e1 f1 => ?_)
      have ho := ho.2 r1 S1 e1 f1
      refine al_M_7 hc ho.1 dX10_seen_63 ?_
      have ho := ho.2
      exact g_iret hc dX10_seen_64
    · have ho := ho.2 c_39
      refine g_aload_n (i := 0) hc 1 dX10_seen_42 rfl rfl ?_
      refine gf_M_0_tables hc wtM_22 dX10_seen_43 ?_
      refine g_aload_n (i := 0) hc 1 dX10_seen_46 rfl rfl ?_
      refine g_iload_n (i := 2) hc 0 dX10_seen_47 rfl rfl ?_
      refine g_callVI hc 0 [.int (a0 &&& 16383)] (fun l => c_X10_tablePlace l η (a0 &&& 16383) S ho.1) wtM_26 ge_X10_tablePlace rfl ⟨rfl, rfl⟩ ⟨Nat.le_of_ble_eq_true rfl, Nat.le_of_ble_eq_true rfl⟩ rfl rfl rfl (Nat.le_of_ble_eq_true rfl) dX10_seen_48 (fun r2 S2 e2 f2 => ?_)
      have ho := ho.2 r2 S2 e2 f2
      refine al_M_6 hc ho.1 dX10_seen_51 ?_
      have ho := ho.2
      refine g_goto (tgt := 64) hc dX10_seen_52 rfl ?_
      exact g_iret hc dX10_seen_64
  · have ho := ho.2 c_10
    refine g_aload_n (i := 0) hc 1 dX10_seen_13 rfl rfl ?_
    refine gf_M_0_patterns hc wtM_2 dX10_seen_14 ?_
    refine g_bipush (v := 16) hc dX10_seen_17 (by decide) ?_
    refine g_aload_n (i := 0) hc 1 dX10_seen_19 rfl rfl ?_
    refine g_iload_n (i := 2) hc 0 dX10_seen_20 rfl rfl ?_
    refine g_bipush (v := 10) hc dX10_seen_21 (by decide) ?_
    refine g_ishr hc dX10_seen_23 ?_
    refine g_callVI hc 0 [.int ((a0 &&& 16383) >>> ((10 : Int32) &&& (31 : Int32)))] (fun l => c_X10_chrBank l η ((a0 &&& 16383) >>> ((10 : Int32) &&& (31 : Int32))) S ho.1) wtM_30 ge_X10_chrBank rfl ⟨rfl, rfl⟩ ⟨Nat.le_of_ble_eq_true rfl, Nat.le_of_ble_eq_true rfl⟩ rfl rfl rfl (Nat.le_of_ble_eq_true rfl) dX10_seen_24 (fun r3 S3 e3 f3 => ?_)
    have ho := ho.2 r3 S3 e3 f3
    refine g_imul hc dX10_seen_27 ?_
    refine g_iload_n (i := 2) hc 0 dX10_seen_28 rfl rfl ?_
    refine g_bipush (v := 15) hc dX10_seen_29 (by decide) ?_
    refine g_iand hc dX10_seen_31 ?_
    refine g_iadd hc dX10_seen_32 ?_
    refine al_M_4 hc ho.1 dX10_seen_33 ?_
    have ho := ho.2
    exact g_iret hc dX10_seen_34

abbrev rm_X10_keep : Room := { frames := 1, cells := 0, slots := 0, locals := 22 }
def sp_X10_keep (a0 : Int32) (a1 : Int32) (S : gSt) : Unit × gSt := (if (a0 &&& 16383) < 16128 then (if (a0 &&& 16383) < 8192 then ((), S) else gB (sp_X10_tablePlace (a0 &&& 16383) S) (fun r1 S1 => gL (aP S1 6 r1 a1) (fun S2 => ((), S2)))) else gB (sp_X10_palettePlace (a0 &&& 16383) S) (fun r3 S3 => gL (aP S3 7 r3 a1) (fun S4 => ((), S4))))
def ok_X10_keep (a0 : Int32) (a1 : Int32) (S : gSt) : Prop := (((a0 &&& 16383) < 16128 → (((a0 &&& 16383) < 8192 → True) ∧ (¬ (a0 &&& 16383) < 8192 → (ok_X10_tablePlace (a0 &&& 16383) S ∧ ∀ (r1 : Int32) (S1 : gSt), r1 = (sp_X10_tablePlace (a0 &&& 16383) S).1 → S1 = (sp_X10_tablePlace (a0 &&& 16383) S).2 → (vp_in r1 2048 ∧ ∀ S2 : gSt, S2 = aP S1 6 r1 a1 → True))))) ∧ (¬ (a0 &&& 16383) < 16128 → (ok_X10_palettePlace (a0 &&& 16383) S ∧ ∀ (r3 : Int32) (S3 : gSt), r3 = (sp_X10_palettePlace (a0 &&& 16383) S).1 → S3 = (sp_X10_palettePlace (a0 &&& 16383) S).2 → (vp_in r3 32 ∧ ∀ S4 : gSt, S4 = aP S3 7 r3 a1 → True))))
set_option maxRecDepth 100000 in
set_option maxHeartbeats 4000000 in
theorem c_X10_keep (l : Launch) (η : gE) (a0 : Int32) (a1 : Int32) (S : gSt) (ho : ok_X10_keep a0 a1 S) : gMet l yX10_keep cX10_keep 4 none rm_X10_keep (oM η) [.ref (η.1 0), .int a0, .int a1] S (oV (sp_X10_keep a0 a1 S).1) (sp_X10_keep a0 a1 S).2 := by
  refine gMet_of (X := sp_X10_keep a0 a1 S) (lv := [(0, .ref (η.1 0)), (1, .int a0), (2, .int a1)]) oV zM_ok (by decide +kernel) (Nat.le_of_ble_eq_true rfl) rfl (fun κ hc => ?_)
  have hc : gC (oM η) κ cX10_keep 4 RX10 none rm_X10_keep := hc
  unfold sp_X10_keep
  unfold ok_X10_keep at ho
  refine g_iload_n (i := 1) hc 1 dX10_keep_0 rfl rfl ?_
  refine g_sipush (v := 16383) hc dX10_keep_1 (by decide) ?_
  refine g_iand hc dX10_keep_4 ?_
  refine g_istore_n (i := 3) (lv' := [(3, .int (a0 &&& 16383)), (0, .ref (η.1 0)), (1, .int a0), (2, .int a1)]) hc dX10_keep_5 rfl (by decide) rfl ?_
  refine g_iload_n (i := 3) hc 0 dX10_keep_6 rfl rfl ?_
  refine g_sipush (v := 16128) hc dX10_keep_7 (by decide) ?_
  refine g_icmplt (tgt := 26) hc dX10_keep_10 rfl (fun c_10 => ?_) (fun c_10 => ?_)
  · have ho := ho.1 c_10
    refine g_iload_n (i := 3) hc 0 dX10_keep_26 rfl rfl ?_
    refine g_sipush (v := 8192) hc dX10_keep_27 (by decide) ?_
    refine g_icmplt (tgt := 44) hc dX10_keep_30 rfl (fun c_30 => ?_) (fun c_30 => ?_)
    · have ho := ho.1 c_30
      exact g_vret hc dX10_keep_44
    · have ho := ho.2 c_30
      refine g_aload_n (i := 0) hc 1 dX10_keep_33 rfl rfl ?_
      refine gf_M_0_tables hc wtM_22 dX10_keep_34 ?_
      refine g_aload_n (i := 0) hc 1 dX10_keep_37 rfl rfl ?_
      refine g_iload_n (i := 3) hc 0 dX10_keep_38 rfl rfl ?_
      refine g_callVI hc 0 [.int (a0 &&& 16383)] (fun l => c_X10_tablePlace l η (a0 &&& 16383) S ho.1) wtM_26 ge_X10_tablePlace rfl ⟨rfl, rfl⟩ ⟨Nat.le_of_ble_eq_true rfl, Nat.le_of_ble_eq_true rfl⟩ rfl rfl rfl (Nat.le_of_ble_eq_true rfl) dX10_keep_39 (fun r1 S1 e1 f1 => ?_)
      have ho := ho.2 r1 S1 e1 f1
      refine g_iload_n (i := 2) hc 3 dX10_keep_42 rfl rfl ?_
      refine as_M_6 hc ho.1 dX10_keep_43 (fun S2 f2 => ?_)
      have ho := ho.2
      have ho := ho S2 f2
      exact g_vret hc dX10_keep_44
  · have ho := ho.2 c_10
    refine g_aload_n (i := 0) hc 1 dX10_keep_13 rfl rfl ?_
    refine gf_M_0_palette hc wtM_17 dX10_keep_14 ?_
    refine g_iload_n (i := 3) hc 0 dX10_keep_17 rfl rfl ?_
    refine g_callSI hc [.int (a0 &&& 16383)] (fun l => c_X10_palettePlace l η (a0 &&& 16383) S ho.1) wtM_21 ge_X10_palettePlace rfl ⟨rfl, rfl⟩ ⟨Nat.le_of_ble_eq_true rfl, Nat.le_of_ble_eq_true rfl⟩ rfl (Nat.le_of_ble_eq_true rfl) dX10_keep_18 (fun r3 S3 e3 f3 => ?_)
    have ho := ho.2 r3 S3 e3 f3
    refine g_iload_n (i := 2) hc 3 dX10_keep_21 rfl rfl ?_
    refine as_M_7 hc ho.1 dX10_keep_22 (fun S4 f4 => ?_)
    have ho := ho.2
    have ho := ho S4 f4
    refine g_goto (tgt := 44) hc dX10_keep_23 rfl ?_
    exact g_vret hc dX10_keep_44

abbrev rm_X10_goOn : Room := { frames := 0, cells := 0, slots := 0, locals := 0 }
def sp_X10_goOn  (S : gSt) : Unit × gSt := (if ((S.1 8) &&& 4) = 0 then gL (sI S 12 (((S.1 12) + 1) &&& 32767)) (fun S1 => ((), S1)) else gL (sI S 12 (((S.1 12) + 32) &&& 32767)) (fun S2 => ((), S2)))
def ok_X10_goOn  (S : gSt) : Prop := ((((S.1 8) &&& 4) = 0 → ∀ S1 : gSt, S1 = sI S 12 (((S.1 12) + 1) &&& 32767) → True) ∧ (¬ ((S.1 8) &&& 4) = 0 → ∀ S2 : gSt, S2 = sI S 12 (((S.1 12) + 32) &&& 32767) → True))
set_option maxRecDepth 100000 in
set_option maxHeartbeats 4000000 in
theorem c_X10_goOn (l : Launch) (η : gE)  (S : gSt) (ho : ok_X10_goOn S) : gMet l yX10_goOn cX10_goOn 1 none rm_X10_goOn (oM η) [.ref (η.1 0)] S (oV (sp_X10_goOn S).1) (sp_X10_goOn S).2 := by
  refine gMet_of (X := sp_X10_goOn S) (lv := [(0, .ref (η.1 0))]) oV zM_ok (by decide +kernel) (Nat.le_of_ble_eq_true rfl) rfl (fun κ hc => ?_)
  have hc : gC (oM η) κ cX10_goOn 1 RX10 none rm_X10_goOn := hc
  unfold sp_X10_goOn
  unfold ok_X10_goOn at ho
  refine g_aload_n (i := 0) hc 0 dX10_goOn_0 rfl rfl ?_
  refine g_aload_n (i := 0) hc 0 dX10_goOn_1 rfl rfl ?_
  refine gf_M_0_vram hc wtM_31 dX10_goOn_2 ?_
  refine g_aload_n (i := 0) hc 0 dX10_goOn_5 rfl rfl ?_
  refine gf_M_0_ctrl hc wtM_32 dX10_goOn_6 ?_
  refine g_iconst (v := 4) hc dX10_goOn_9 (by decide) ?_
  refine g_iand hc dX10_goOn_10 ?_
  refine g_ifeq (tgt := 19) hc dX10_goOn_11 rfl (fun c_11 => ?_) (fun c_11 => ?_)
  · have ho := ho.1 c_11
    refine g_iconst (v := 1) hc dX10_goOn_19 (by decide) ?_
    refine g_iadd hc dX10_goOn_20 ?_
    refine g_sipush (v := 32767) hc dX10_goOn_21 (by decide) ?_
    refine g_iand hc dX10_goOn_24 ?_
    refine pf_M_0_vram (v := (((S.1 12) + 1) &&& 32767)) hc wtM_31 dX10_goOn_25 (fun S1 f1 => ?_)
    have ho := ho S1 f1
    exact g_vret hc dX10_goOn_28
  · have ho := ho.2 c_11
    refine g_bipush (v := 32) hc dX10_goOn_14 (by decide) ?_
    refine g_goto (tgt := 20) hc dX10_goOn_16 rfl ?_
    refine g_iadd hc dX10_goOn_20 ?_
    refine g_sipush (v := 32767) hc dX10_goOn_21 (by decide) ?_
    refine g_iand hc dX10_goOn_24 ?_
    refine pf_M_0_vram (v := (((S.1 12) + 32) &&& 32767)) hc wtM_31 dX10_goOn_25 (fun S2 f2 => ?_)
    have ho := ho S2 f2
    exact g_vret hc dX10_goOn_28

abbrev rm_X10_readPicture : Room := { frames := 2, cells := 0, slots := 0, locals := 45 }
def sp_X10_readPicture (a0 : Int32) (S : gSt) : Int32 × gSt := (if a0 = 2 then gL (sI S 10 0) (fun S1 => gL (sI S1 15 0) (fun S2 => (((S.1 10) <<< ((7 : Int32) &&& (31 : Int32))), S2))) else (if a0 = 4 then ((aG S 5 (S.1 11)), S) else (if a0 = 7 then (if ((S.1 12) &&& 16383) < 16128 then gB (sp_X10_seen (S.1 12) S) (fun r3 S3 => gL (sI S3 16 r3) (fun S4 => gB (sp_X10_goOn S4) (fun (_ : Unit) S5 => ((S.1 16), S5)))) else gB (sp_X10_seen (S.1 12) S) (fun r6 S6 => gB (sp_X10_tablePlace ((S6.1 12) &&& 16383) S6) (fun r7 S7 => gL (sI S7 16 (aG S7 6 r7)) (fun S8 => gB (sp_X10_goOn S8) (fun (_ : Unit) S9 => (r6, S9)))))) else (0, S))))
def ok_X10_readPicture (a0 : Int32) (S : gSt) : Prop := ((a0 = 2 → ∀ S1 : gSt, S1 = sI S 10 0 → ∀ S2 : gSt, S2 = sI S1 15 0 → True) ∧ (¬ a0 = 2 → ((a0 = 4 → (vp_in (S.1 11) 256 ∧ True)) ∧ (¬ a0 = 4 → ((a0 = 7 → ((((S.1 12) &&& 16383) < 16128 → (ok_X10_seen (S.1 12) S ∧ ∀ (r3 : Int32) (S3 : gSt), r3 = (sp_X10_seen (S.1 12) S).1 → S3 = (sp_X10_seen (S.1 12) S).2 → ∀ S4 : gSt, S4 = sI S3 16 r3 → (ok_X10_goOn S4 ∧ ∀ (r5 : Unit) (S5 : gSt), r5 = (sp_X10_goOn S4).1 → S5 = (sp_X10_goOn S4).2 → True))) ∧ (¬ ((S.1 12) &&& 16383) < 16128 → (ok_X10_seen (S.1 12) S ∧ ∀ (r6 : Int32) (S6 : gSt), r6 = (sp_X10_seen (S.1 12) S).1 → S6 = (sp_X10_seen (S.1 12) S).2 → (ok_X10_tablePlace ((S6.1 12) &&& 16383) S6 ∧ ∀ (r7 : Int32) (S7 : gSt), r7 = (sp_X10_tablePlace ((S6.1 12) &&& 16383) S6).1 → S7 = (sp_X10_tablePlace ((S6.1 12) &&& 16383) S6).2 → (vp_in r7 2048 ∧ ∀ S8 : gSt, S8 = sI S7 16 (aG S7 6 r7) → (ok_X10_goOn S8 ∧ ∀ (r9 : Unit) (S9 : gSt), r9 = (sp_X10_goOn S8).1 → S9 = (sp_X10_goOn S8).2 → True))))))) ∧ (¬ a0 = 7 → True))))))
set_option maxRecDepth 100000 in
set_option maxHeartbeats 4000000 in
theorem c_X10_readPicture (l : Launch) (η : gE) (a0 : Int32) (S : gSt) (ho : ok_X10_readPicture a0 S) : gMet l yX10_readPicture cX10_readPicture 4 (some .int) rm_X10_readPicture (oM η) [.ref (η.1 0), .int a0] S (oI (sp_X10_readPicture a0 S).1) (sp_X10_readPicture a0 S).2 := by
  refine gMet_of (X := sp_X10_readPicture a0 S) (lv := [(0, .ref (η.1 0)), (1, .int a0)]) oI zM_ok (by decide +kernel) (Nat.le_of_ble_eq_true rfl) rfl (fun κ hc => ?_)
  have hc : gC (oM η) κ cX10_readPicture 4 RX10 (some .int) rm_X10_readPicture := hc
  unfold sp_X10_readPicture
  unfold ok_X10_readPicture at ho
  refine g_iconst (v := 0) hc dX10_readPicture_0 (by decide) ?_
  refine g_istore_n (i := 2) (lv' := [(2, .int 0), (0, .ref (η.1 0)), (1, .int a0)]) hc dX10_readPicture_1 rfl (by decide) rfl ?_
  refine g_iload_n (i := 1) hc 2 dX10_readPicture_2 rfl rfl ?_
  refine g_iconst (v := 2) hc dX10_readPicture_3 (by decide) ?_
  refine g_icmpne (tgt := 28) hc dX10_readPicture_4 rfl (fun c_4 => ?_) (fun c_4 => ?_)
  · have ho := ho.1 c_4
    refine g_aload_n (i := 0) hc 1 dX10_readPicture_7 rfl rfl ?_
    refine gf_M_0_vblank hc wtM_33 dX10_readPicture_8 ?_
    refine g_bipush (v := 7) hc dX10_readPicture_11 (by decide) ?_
    refine g_ishl hc dX10_readPicture_13 ?_
    refine g_istore_n (i := 2) (lv' := [(2, .int ((S.1 10) <<< ((7 : Int32) &&& (31 : Int32)))), (0, .ref (η.1 0)), (1, .int a0)]) hc dX10_readPicture_14 rfl (by decide) rfl ?_
    refine g_aload_n (i := 0) hc 1 dX10_readPicture_15 rfl rfl ?_
    refine g_iconst (v := 0) hc dX10_readPicture_16 (by decide) ?_
    refine pf_M_0_vblank (v := 0) hc wtM_33 dX10_readPicture_17 (fun S1 f1 => ?_)
    have ho := ho S1 f1
    refine g_aload_n (i := 0) hc 1 dX10_readPicture_20 rfl rfl ?_
    refine g_iconst (v := 0) hc dX10_readPicture_21 (by decide) ?_
    refine pf_M_0_second (v := 0) hc wtM_34 dX10_readPicture_22 (fun S2 f2 => ?_)
    have ho := ho S2 f2
    refine g_goto (tgt := 132) hc dX10_readPicture_25 rfl ?_
    refine g_iload_n (i := 2) hc 0 dX10_readPicture_132 rfl rfl ?_
    exact g_iret hc dX10_readPicture_133
  · have ho := ho.2 c_4
    refine g_iload_n (i := 1) hc 2 dX10_readPicture_28 rfl rfl ?_
    refine g_iconst (v := 4) hc dX10_readPicture_29 (by decide) ?_
    refine g_icmpne (tgt := 46) hc dX10_readPicture_30 rfl (fun c_30 => ?_) (fun c_30 => ?_)
    · have ho := ho.1 c_30
      refine g_aload_n (i := 0) hc 1 dX10_readPicture_33 rfl rfl ?_
      refine gf_M_0_sprites hc wtM_35 dX10_readPicture_34 ?_
      refine g_aload_n (i := 0) hc 1 dX10_readPicture_37 rfl rfl ?_
      refine gf_M_0_oamAddress hc wtM_36 dX10_readPicture_38 ?_
      refine al_M_5 hc ho.1 dX10_readPicture_41 ?_
      have ho := ho.2
      refine g_istore_n (i := 2) (lv' := [(2, .int (aG S 5 (S.1 11))), (0, .ref (η.1 0)), (1, .int a0)]) hc dX10_readPicture_42 rfl (by decide) rfl ?_
      refine g_goto (tgt := 132) hc dX10_readPicture_43 rfl ?_
      refine g_iload_n (i := 2) hc 0 dX10_readPicture_132 rfl rfl ?_
      exact g_iret hc dX10_readPicture_133
    · have ho := ho.2 c_30
      refine g_iload_n (i := 1) hc 2 dX10_readPicture_46 rfl rfl ?_
      refine g_bipush (v := 7) hc dX10_readPicture_47 (by decide) ?_
      refine g_icmpne (tgt := 132) hc dX10_readPicture_49 rfl (fun c_49 => ?_) (fun c_49 => ?_)
      · have ho := ho.1 c_49
        refine g_aload_n (i := 0) hc 1 dX10_readPicture_52 rfl rfl ?_
        refine gf_M_0_vram hc wtM_31 dX10_readPicture_53 ?_
        refine g_sipush (v := 16383) hc dX10_readPicture_56 (by decide) ?_
        refine g_iand hc dX10_readPicture_59 ?_
        refine g_sipush (v := 16128) hc dX10_readPicture_60 (by decide) ?_
        refine g_icmplt (tgt := 70) hc dX10_readPicture_63 rfl (fun c_63 => ?_) (fun c_63 => ?_)
        · have ho := ho.1 c_63
          refine g_iconst (v := 0) hc dX10_readPicture_70 (by decide) ?_
          refine g_istore_n (i := 3) (lv' := [(3, .int 0), (2, .int 0), (0, .ref (η.1 0)), (1, .int a0)]) hc dX10_readPicture_71 rfl (by decide) rfl ?_
          refine g_iload_n (i := 3) hc 0 dX10_readPicture_72 rfl rfl ?_
          refine g_ifeq_t (tgt := 87) hc dX10_readPicture_73 rfl (by decide) ?_
          refine g_aload_n (i := 0) hc 2 dX10_readPicture_87 rfl rfl ?_
          refine gf_M_0_buffer hc wtM_37 dX10_readPicture_88 ?_
          refine g_istore_n (i := 2) (lv' := [(2, .int (S.1 16)), (3, .int 0), (0, .ref (η.1 0)), (1, .int a0)]) hc dX10_readPicture_91 rfl (by decide) rfl ?_
          refine g_aload_n (i := 0) hc 2 dX10_readPicture_92 rfl rfl ?_
          refine g_iload_n (i := 3) hc 1 dX10_readPicture_93 rfl rfl ?_
          refine g_ifeq_t (tgt := 117) hc dX10_readPicture_94 rfl (by decide) ?_
          refine g_aload_n (i := 0) hc 2 dX10_readPicture_117 rfl rfl ?_
          refine g_aload_n (i := 0) hc 2 dX10_readPicture_118 rfl rfl ?_
          refine gf_M_0_vram hc wtM_31 dX10_readPicture_119 ?_
          refine g_callVI hc 0 [.int (S.1 12)] (fun l => c_X10_seen l η (S.1 12) S ho.1) wtM_41 ge_X10_seen rfl ⟨rfl, rfl⟩ ⟨Nat.le_of_ble_eq_true rfl, Nat.le_of_ble_eq_true rfl⟩ rfl rfl rfl (Nat.le_of_ble_eq_true rfl) dX10_readPicture_122 (fun r3 S3 e3 f3 => ?_)
          have ho := ho.2 r3 S3 e3 f3
          refine pf_M_0_buffer (v := r3) hc wtM_37 dX10_readPicture_125 (fun S4 f4 => ?_)
          have ho := ho S4 f4
          refine g_aload_n (i := 0) hc 2 dX10_readPicture_128 rfl rfl ?_
          refine g_callVV hc 0 [] (fun l => c_X10_goOn l η S4 ho.1) wtM_45 ge_X10_goOn rfl ⟨rfl, rfl⟩ ⟨Nat.le_of_ble_eq_true rfl, Nat.le_of_ble_eq_true rfl⟩ rfl rfl rfl (Nat.le_of_ble_eq_true rfl) dX10_readPicture_129 (fun r5 S5 e5 f5 => ?_)
          have ho := ho.2 r5 S5 e5 f5
          refine g_iload_n (i := 2) hc 0 dX10_readPicture_132 rfl rfl ?_
          exact g_iret hc dX10_readPicture_133
        · have ho := ho.2 c_63
          refine g_iconst (v := 1) hc dX10_readPicture_66 (by decide) ?_
          refine g_goto (tgt := 71) hc dX10_readPicture_67 rfl ?_
          refine g_istore_n (i := 3) (lv' := [(3, .int 1), (2, .int 0), (0, .ref (η.1 0)), (1, .int a0)]) hc dX10_readPicture_71 rfl (by decide) rfl ?_
          refine g_iload_n (i := 3) hc 0 dX10_readPicture_72 rfl rfl ?_
          refine g_ifeq_f (tgt := 87) hc dX10_readPicture_73 rfl (by decide) ?_
          refine g_aload_n (i := 0) hc 2 dX10_readPicture_76 rfl rfl ?_
          refine g_aload_n (i := 0) hc 2 dX10_readPicture_77 rfl rfl ?_
          refine gf_M_0_vram hc wtM_31 dX10_readPicture_78 ?_
          refine g_callVI hc 0 [.int (S.1 12)] (fun l => c_X10_seen l η (S.1 12) S ho.1) wtM_41 ge_X10_seen rfl ⟨rfl, rfl⟩ ⟨Nat.le_of_ble_eq_true rfl, Nat.le_of_ble_eq_true rfl⟩ rfl rfl rfl (Nat.le_of_ble_eq_true rfl) dX10_readPicture_81 (fun r6 S6 e6 f6 => ?_)
          have ho := ho.2 r6 S6 e6 f6
          refine g_goto (tgt := 91) hc dX10_readPicture_84 rfl ?_
          refine g_istore_n (i := 2) (lv' := [(2, .int r6), (3, .int 1), (0, .ref (η.1 0)), (1, .int a0)]) hc dX10_readPicture_91 rfl (by decide) rfl ?_
          refine g_aload_n (i := 0) hc 2 dX10_readPicture_92 rfl rfl ?_
          refine g_iload_n (i := 3) hc 1 dX10_readPicture_93 rfl rfl ?_
          refine g_ifeq_f (tgt := 117) hc dX10_readPicture_94 rfl (by decide) ?_
          refine g_aload_n (i := 0) hc 2 dX10_readPicture_97 rfl rfl ?_
          refine gf_M_0_tables hc wtM_22 dX10_readPicture_98 ?_
          refine g_aload_n (i := 0) hc 2 dX10_readPicture_101 rfl rfl ?_
          refine g_aload_n (i := 0) hc 2 dX10_readPicture_102 rfl rfl ?_
          refine gf_M_0_vram hc wtM_31 dX10_readPicture_103 ?_
          refine g_sipush (v := 16383) hc dX10_readPicture_106 (by decide) ?_
          refine g_iand hc dX10_readPicture_109 ?_
          refine g_callVI hc 0 [.int ((S6.1 12) &&& 16383)] (fun l => c_X10_tablePlace l η ((S6.1 12) &&& 16383) S6 ho.1) wtM_26 ge_X10_tablePlace rfl ⟨rfl, rfl⟩ ⟨Nat.le_of_ble_eq_true rfl, Nat.le_of_ble_eq_true rfl⟩ rfl rfl rfl (Nat.le_of_ble_eq_true rfl) dX10_readPicture_110 (fun r7 S7 e7 f7 => ?_)
          have ho := ho.2 r7 S7 e7 f7
          refine al_M_6 hc ho.1 dX10_readPicture_113 ?_
          have ho := ho.2
          refine g_goto (tgt := 125) hc dX10_readPicture_114 rfl ?_
          refine pf_M_0_buffer (v := (aG S7 6 r7)) hc wtM_37 dX10_readPicture_125 (fun S8 f8 => ?_)
          have ho := ho S8 f8
          refine g_aload_n (i := 0) hc 2 dX10_readPicture_128 rfl rfl ?_
          refine g_callVV hc 0 [] (fun l => c_X10_goOn l η S8 ho.1) wtM_45 ge_X10_goOn rfl ⟨rfl, rfl⟩ ⟨Nat.le_of_ble_eq_true rfl, Nat.le_of_ble_eq_true rfl⟩ rfl rfl rfl (Nat.le_of_ble_eq_true rfl) dX10_readPicture_129 (fun r9 S9 e9 f9 => ?_)
          have ho := ho.2 r9 S9 e9 f9
          refine g_iload_n (i := 2) hc 0 dX10_readPicture_132 rfl rfl ?_
          exact g_iret hc dX10_readPicture_133
      · have ho := ho.2 c_49
        refine g_iload_n (i := 2) hc 0 dX10_readPicture_132 rfl rfl ?_
        exact g_iret hc dX10_readPicture_133

abbrev rm_X10_writePicture : Room := { frames := 2, cells := 0, slots := 0, locals := 45 }
def jn_X10_writePicture_76 (x2 : Int32) (S : gSt) : Unit × gSt := gL (sI S 8 x2) (fun S1 => gL (sI S1 13 (((S1.1 13) &&& (-3073)) ||| ((x2 &&& 3) <<< ((10 : Int32) &&& (31 : Int32))))) (fun S2 => ((), S2)))
def ok_jn_X10_writePicture_76 (x2 : Int32) (S : gSt) : Prop := ∀ S1 : gSt, S1 = sI S 8 x2 → ∀ S2 : gSt, S2 = sI S1 13 (((S1.1 13) &&& (-3073)) ||| ((x2 &&& 3) <<< ((10 : Int32) &&& (31 : Int32)))) → True
def sp_X10_writePicture (a0 : Int32) (a1 : Int32) (S : gSt) : Unit × gSt := (if a0 = 0 then (if (S.1 10) = 1 then (if ((a1 &&& ((S.1 8) ^^^ (-1))) &&& 128) = 0 then jn_X10_writePicture_76 a1 S else gL (sZ S 1 true) (fun S3 => jn_X10_writePicture_76 a1 S3)) else jn_X10_writePicture_76 a1 S) else (if a0 = 1 then gL (sI S 9 a1) (fun S4 => ((), S4)) else (if a0 = 2 then ((), S) else (if a0 = 3 then gL (sI S 11 a1) (fun S5 => ((), S5)) else (if a0 = 4 then gL (aP S 5 (S.1 11) a1) (fun S6 => gL (sI S6 11 (((S6.1 11) + 1) &&& 255)) (fun S7 => ((), S7))) else (if a0 = 5 then (if (S.1 15) = 0 then gL (sI S 13 (((S.1 13) &&& (-32)) ||| (a1 >>> ((3 : Int32) &&& (31 : Int32))))) (fun S8 => gL (sI S8 14 (a1 &&& 7)) (fun S9 => gL (sI S9 15 (1 - (S9.1 15))) (fun S10 => ((), S10)))) else gL (sI S 13 (((((S.1 13) &&& (-29665)) &&& 32767) ||| ((a1 &&& 7) <<< ((12 : Int32) &&& (31 : Int32)))) ||| ((a1 >>> ((3 : Int32) &&& (31 : Int32))) <<< ((5 : Int32) &&& (31 : Int32))))) (fun S11 => gL (sI S11 15 (1 - (S11.1 15))) (fun S12 => ((), S12)))) else (if a0 = 6 then (if (S.1 15) = 0 then gL (sI S 13 (((S.1 13) &&& 255) ||| ((a1 &&& 63) <<< ((8 : Int32) &&& (31 : Int32))))) (fun S13 => gL (sI S13 15 (1 - (S13.1 15))) (fun S14 => ((), S14))) else gL (sI S 13 (((S.1 13) &&& (-256)) ||| a1)) (fun S15 => gL (sI S15 12 (S15.1 13)) (fun S16 => gL (sI S16 15 (1 - (S16.1 15))) (fun S17 => ((), S17))))) else (if a0 = 7 then gB (sp_X10_keep (S.1 12) a1 S) (fun (_ : Unit) S18 => gB (sp_X10_goOn S18) (fun (_ : Unit) S19 => ((), S19))) else ((), S)))))))))
def ok_X10_writePicture (a0 : Int32) (a1 : Int32) (S : gSt) : Prop := ((a0 = 0 → (((S.1 10) = 1 → ((((a1 &&& ((S.1 8) ^^^ (-1))) &&& 128) = 0 → ok_jn_X10_writePicture_76 a1 S) ∧ (¬ ((a1 &&& ((S.1 8) ^^^ (-1))) &&& 128) = 0 → ∀ S3 : gSt, S3 = sZ S 1 true → ok_jn_X10_writePicture_76 a1 S3))) ∧ (¬ (S.1 10) = 1 → ok_jn_X10_writePicture_76 a1 S))) ∧ (¬ a0 = 0 → ((a0 = 1 → ∀ S4 : gSt, S4 = sI S 9 a1 → True) ∧ (¬ a0 = 1 → ((a0 = 2 → True) ∧ (¬ a0 = 2 → ((a0 = 3 → ∀ S5 : gSt, S5 = sI S 11 a1 → True) ∧ (¬ a0 = 3 → ((a0 = 4 → (vp_in (S.1 11) 256 ∧ ∀ S6 : gSt, S6 = aP S 5 (S.1 11) a1 → ∀ S7 : gSt, S7 = sI S6 11 (((S6.1 11) + 1) &&& 255) → True)) ∧ (¬ a0 = 4 → ((a0 = 5 → (((S.1 15) = 0 → ∀ S8 : gSt, S8 = sI S 13 (((S.1 13) &&& (-32)) ||| (a1 >>> ((3 : Int32) &&& (31 : Int32)))) → ∀ S9 : gSt, S9 = sI S8 14 (a1 &&& 7) → ∀ S10 : gSt, S10 = sI S9 15 (1 - (S9.1 15)) → True) ∧ (¬ (S.1 15) = 0 → ∀ S11 : gSt, S11 = sI S 13 (((((S.1 13) &&& (-29665)) &&& 32767) ||| ((a1 &&& 7) <<< ((12 : Int32) &&& (31 : Int32)))) ||| ((a1 >>> ((3 : Int32) &&& (31 : Int32))) <<< ((5 : Int32) &&& (31 : Int32)))) → ∀ S12 : gSt, S12 = sI S11 15 (1 - (S11.1 15)) → True))) ∧ (¬ a0 = 5 → ((a0 = 6 → (((S.1 15) = 0 → ∀ S13 : gSt, S13 = sI S 13 (((S.1 13) &&& 255) ||| ((a1 &&& 63) <<< ((8 : Int32) &&& (31 : Int32)))) → ∀ S14 : gSt, S14 = sI S13 15 (1 - (S13.1 15)) → True) ∧ (¬ (S.1 15) = 0 → ∀ S15 : gSt, S15 = sI S 13 (((S.1 13) &&& (-256)) ||| a1) → ∀ S16 : gSt, S16 = sI S15 12 (S15.1 13) → ∀ S17 : gSt, S17 = sI S16 15 (1 - (S16.1 15)) → True))) ∧ (¬ a0 = 6 → ((a0 = 7 → (ok_X10_keep (S.1 12) a1 S ∧ ∀ (r18 : Unit) (S18 : gSt), r18 = (sp_X10_keep (S.1 12) a1 S).1 → S18 = (sp_X10_keep (S.1 12) a1 S).2 → (ok_X10_goOn S18 ∧ ∀ (r19 : Unit) (S19 : gSt), r19 = (sp_X10_goOn S18).1 → S19 = (sp_X10_goOn S18).2 → True))) ∧ (¬ a0 = 7 → True))))))))))))))))
set_option maxRecDepth 100000 in
set_option maxHeartbeats 4000000 in
theorem g_jn_X10_writePicture_76 {η : gE} {κ : gK} (hc : gC (oM η) κ cX10_writePicture 3 RX10 none rm_X10_writePicture) (x2 : Int32) (S : gSt) (ho : ok_jn_X10_writePicture_76 x2 S) : gG (oM η) κ 3 oV 76 [(0, .ref (η.1 0)), (2, .int x2)] [] S (jn_X10_writePicture_76 x2 S) := by
  unfold jn_X10_writePicture_76
  unfold ok_jn_X10_writePicture_76 at ho
  refine g_aload_n (i := 0) hc 0 dX10_writePicture_76 rfl rfl ?_
  refine g_iload_n (i := 2) hc 1 dX10_writePicture_77 rfl rfl ?_
  refine pf_M_0_ctrl (v := x2) hc wtM_32 dX10_writePicture_78 (fun S1 f1 => ?_)
  have ho := ho S1 f1
  refine g_aload_n (i := 0) hc 0 dX10_writePicture_81 rfl rfl ?_
  refine g_aload_n (i := 0) hc 0 dX10_writePicture_82 rfl rfl ?_
  refine gf_M_0_temporary hc wtM_46 dX10_writePicture_83 ?_
  refine g_sipush (v := (-3073)) hc dX10_writePicture_86 (by decide) ?_
  refine g_iand hc dX10_writePicture_89 ?_
  refine g_iload_n (i := 2) hc 1 dX10_writePicture_90 rfl rfl ?_
  refine g_iconst (v := 3) hc dX10_writePicture_91 (by decide) ?_
  refine g_iand hc dX10_writePicture_92 ?_
  refine g_bipush (v := 10) hc dX10_writePicture_93 (by decide) ?_
  refine g_ishl hc dX10_writePicture_95 ?_
  refine g_ior hc dX10_writePicture_96 ?_
  refine pf_M_0_temporary (v := (((S1.1 13) &&& (-3073)) ||| ((x2 &&& 3) <<< ((10 : Int32) &&& (31 : Int32))))) hc wtM_46 dX10_writePicture_97 (fun S2 f2 => ?_)
  have ho := ho S2 f2
  refine g_goto (tgt := 303) hc dX10_writePicture_100 rfl ?_
  exact g_vret hc dX10_writePicture_303
set_option maxRecDepth 100000 in
set_option maxHeartbeats 4000000 in
theorem c_X10_writePicture (l : Launch) (η : gE) (a0 : Int32) (a1 : Int32) (S : gSt) (ho : ok_X10_writePicture a0 a1 S) : gMet l yX10_writePicture cX10_writePicture 3 none rm_X10_writePicture (oM η) [.ref (η.1 0), .int a0, .int a1] S (oV (sp_X10_writePicture a0 a1 S).1) (sp_X10_writePicture a0 a1 S).2 := by
  refine gMet_of (X := sp_X10_writePicture a0 a1 S) (lv := [(0, .ref (η.1 0)), (1, .int a0), (2, .int a1)]) oV zM_ok (by decide +kernel) (Nat.le_of_ble_eq_true rfl) rfl (fun κ hc => ?_)
  have hc : gC (oM η) κ cX10_writePicture 3 RX10 none rm_X10_writePicture := hc
  unfold sp_X10_writePicture
  unfold ok_X10_writePicture at ho
  refine g_iload_n (i := 1) hc 1 dX10_writePicture_0 rfl rfl ?_
  refine g_tsw (tgt := 48) hc 0 dX10_writePicture_1 ⟨by decide, by decide, rfl⟩ rfl (fun c_1_0 => ?_) (fun c_1_0 => ?_)
  · have ho := ho.1 c_1_0
    refine g_aload_n (i := 0) hc 0 dX10_writePicture_48 rfl rfl ?_
    refine gf_M_0_vblank hc wtM_33 dX10_writePicture_49 ?_
    refine g_iconst (v := 1) hc dX10_writePicture_52 (by decide) ?_
    refine g_icmpne (tgt := 76) hc dX10_writePicture_53 rfl (fun c_53 => ?_) (fun c_53 => ?_)
    · have ho := ho.1 c_53
      refine g_iload_n (i := 2) hc 2 dX10_writePicture_56 rfl rfl ?_
      refine g_aload_n (i := 0) hc 0 dX10_writePicture_57 rfl rfl ?_
      refine gf_M_0_ctrl hc wtM_32 dX10_writePicture_58 ?_
      refine g_iconst (v := (-1)) hc dX10_writePicture_61 (by decide) ?_
      refine g_ixor hc dX10_writePicture_62 ?_
      refine g_iand hc dX10_writePicture_63 ?_
      refine g_sipush (v := 128) hc dX10_writePicture_64 (by decide) ?_
      refine g_iand hc dX10_writePicture_67 ?_
      refine g_ifeq (tgt := 76) hc dX10_writePicture_68 rfl (fun c_68 => ?_) (fun c_68 => ?_)
      · have ho := ho.1 c_68
        exact g_lv [0, 2] rfl (g_jn_X10_writePicture_76 hc _ _ ho)
      · have ho := ho.2 c_68
        refine g_aload_n (i := 0) hc 0 dX10_writePicture_71 rfl rfl ?_
        refine g_iconst (v := 1) hc dX10_writePicture_72 (by decide) ?_
        refine pf_M_0_nmi (v := true) hc wtM_47 dX10_writePicture_73 (fun S3 f3 => ?_)
        have ho := ho S3 f3
        exact g_lv [0, 2] rfl (g_jn_X10_writePicture_76 hc _ _ ho)
    · have ho := ho.2 c_53
      exact g_lv [0, 2] rfl (g_jn_X10_writePicture_76 hc _ _ ho)
  have ho := ho.2 c_1_0
  refine g_tsw (tgt := 103) hc 1 dX10_writePicture_1 ⟨by decide, by decide, rfl⟩ rfl (fun c_1_1 => ?_) (fun c_1_1 => ?_)
  · have ho := ho.1 c_1_1
    refine g_aload_n (i := 0) hc 0 dX10_writePicture_103 rfl rfl ?_
    refine g_iload_n (i := 2) hc 2 dX10_writePicture_104 rfl rfl ?_
    refine pf_M_0_mask (v := a1) hc wtM_48 dX10_writePicture_105 (fun S4 f4 => ?_)
    have ho := ho S4 f4
    refine g_goto (tgt := 303) hc dX10_writePicture_108 rfl ?_
    exact g_vret hc dX10_writePicture_303
  have ho := ho.2 c_1_1
  refine g_tsw (tgt := 303) hc 2 dX10_writePicture_1 ⟨by decide, by decide, rfl⟩ rfl (fun c_1_2 => ?_) (fun c_1_2 => ?_)
  · have ho := ho.1 c_1_2
    exact g_vret hc dX10_writePicture_303
  have ho := ho.2 c_1_2
  refine g_tsw (tgt := 111) hc 3 dX10_writePicture_1 ⟨by decide, by decide, rfl⟩ rfl (fun c_1_3 => ?_) (fun c_1_3 => ?_)
  · have ho := ho.1 c_1_3
    refine g_aload_n (i := 0) hc 0 dX10_writePicture_111 rfl rfl ?_
    refine g_iload_n (i := 2) hc 2 dX10_writePicture_112 rfl rfl ?_
    refine pf_M_0_oamAddress (v := a1) hc wtM_36 dX10_writePicture_113 (fun S5 f5 => ?_)
    have ho := ho S5 f5
    refine g_goto (tgt := 303) hc dX10_writePicture_116 rfl ?_
    exact g_vret hc dX10_writePicture_303
  have ho := ho.2 c_1_3
  refine g_tsw (tgt := 119) hc 4 dX10_writePicture_1 ⟨by decide, by decide, rfl⟩ rfl (fun c_1_4 => ?_) (fun c_1_4 => ?_)
  · have ho := ho.1 c_1_4
    refine g_aload_n (i := 0) hc 0 dX10_writePicture_119 rfl rfl ?_
    refine gf_M_0_sprites hc wtM_35 dX10_writePicture_120 ?_
    refine g_aload_n (i := 0) hc 0 dX10_writePicture_123 rfl rfl ?_
    refine gf_M_0_oamAddress hc wtM_36 dX10_writePicture_124 ?_
    refine g_iload_n (i := 2) hc 2 dX10_writePicture_127 rfl rfl ?_
    refine as_M_5 hc ho.1 dX10_writePicture_128 (fun S6 f6 => ?_)
    have ho := ho.2
    have ho := ho S6 f6
    refine g_aload_n (i := 0) hc 0 dX10_writePicture_129 rfl rfl ?_
    refine g_aload_n (i := 0) hc 0 dX10_writePicture_130 rfl rfl ?_
    refine gf_M_0_oamAddress hc wtM_36 dX10_writePicture_131 ?_
    refine g_iconst (v := 1) hc dX10_writePicture_134 (by decide) ?_
    refine g_iadd hc dX10_writePicture_135 ?_
    refine g_sipush (v := 255) hc dX10_writePicture_136 (by decide) ?_
    refine g_iand hc dX10_writePicture_139 ?_
    refine pf_M_0_oamAddress (v := (((S6.1 11) + 1) &&& 255)) hc wtM_36 dX10_writePicture_140 (fun S7 f7 => ?_)
    have ho := ho S7 f7
    refine g_goto (tgt := 303) hc dX10_writePicture_143 rfl ?_
    exact g_vret hc dX10_writePicture_303
  have ho := ho.2 c_1_4
  refine g_tsw (tgt := 146) hc 5 dX10_writePicture_1 ⟨by decide, by decide, rfl⟩ rfl (fun c_1_5 => ?_) (fun c_1_5 => ?_)
  · have ho := ho.1 c_1_5
    refine g_aload_n (i := 0) hc 0 dX10_writePicture_146 rfl rfl ?_
    refine gf_M_0_second hc wtM_34 dX10_writePicture_147 ?_
    refine g_ifne (tgt := 179) hc dX10_writePicture_150 rfl (fun c_150 => ?_) (fun c_150 => ?_)
    · have ho := ho.1 c_150
      refine g_aload_n (i := 0) hc 0 dX10_writePicture_153 rfl rfl ?_
      refine g_aload_n (i := 0) hc 0 dX10_writePicture_154 rfl rfl ?_
      refine gf_M_0_temporary hc wtM_46 dX10_writePicture_155 ?_
      refine g_bipush (v := (-32)) hc dX10_writePicture_158 (by decide) ?_
      refine g_iand hc dX10_writePicture_160 ?_
      refine g_iload_n (i := 2) hc 2 dX10_writePicture_161 rfl rfl ?_
      refine g_iconst (v := 3) hc dX10_writePicture_162 (by decide) ?_
      refine g_ishr hc dX10_writePicture_163 ?_
      refine g_ior hc dX10_writePicture_164 ?_
      refine pf_M_0_temporary (v := (((S.1 13) &&& (-32)) ||| (a1 >>> ((3 : Int32) &&& (31 : Int32))))) hc wtM_46 dX10_writePicture_165 (fun S8 f8 => ?_)
      have ho := ho S8 f8
      refine g_aload_n (i := 0) hc 0 dX10_writePicture_168 rfl rfl ?_
      refine g_iload_n (i := 2) hc 2 dX10_writePicture_169 rfl rfl ?_
      refine g_bipush (v := 7) hc dX10_writePicture_170 (by decide) ?_
      refine g_iand hc dX10_writePicture_172 ?_
      refine pf_M_0_fine (v := (a1 &&& 7)) hc wtM_49 dX10_writePicture_173 (fun S9 f9 => ?_)
      have ho := ho S9 f9
      refine g_goto (tgt := 209) hc dX10_writePicture_176 rfl ?_
      refine g_aload_n (i := 0) hc 0 dX10_writePicture_209 rfl rfl ?_
      refine g_iconst (v := 1) hc dX10_writePicture_210 (by decide) ?_
      refine g_aload_n (i := 0) hc 0 dX10_writePicture_211 rfl rfl ?_
      refine gf_M_0_second hc wtM_34 dX10_writePicture_212 ?_
      refine g_isub hc dX10_writePicture_215 ?_
      refine pf_M_0_second (v := (1 - (S9.1 15))) hc wtM_34 dX10_writePicture_216 (fun S10 f10 => ?_)
      have ho := ho S10 f10
      refine g_goto (tgt := 303) hc dX10_writePicture_219 rfl ?_
      exact g_vret hc dX10_writePicture_303
    · have ho := ho.2 c_150
      refine g_aload_n (i := 0) hc 0 dX10_writePicture_179 rfl rfl ?_
      refine g_aload_n (i := 0) hc 0 dX10_writePicture_180 rfl rfl ?_
      refine gf_M_0_temporary hc wtM_46 dX10_writePicture_181 ?_
      refine g_sipush (v := (-29665)) hc dX10_writePicture_184 (by decide) ?_
      refine g_iand hc dX10_writePicture_187 ?_
      refine g_sipush (v := 32767) hc dX10_writePicture_188 (by decide) ?_
      refine g_iand hc dX10_writePicture_191 ?_
      refine g_iload_n (i := 2) hc 2 dX10_writePicture_192 rfl rfl ?_
      refine g_bipush (v := 7) hc dX10_writePicture_193 (by decide) ?_
      refine g_iand hc dX10_writePicture_195 ?_
      refine g_bipush (v := 12) hc dX10_writePicture_196 (by decide) ?_
      refine g_ishl hc dX10_writePicture_198 ?_
      refine g_ior hc dX10_writePicture_199 ?_
      refine g_iload_n (i := 2) hc 2 dX10_writePicture_200 rfl rfl ?_
      refine g_iconst (v := 3) hc dX10_writePicture_201 (by decide) ?_
      refine g_ishr hc dX10_writePicture_202 ?_
      refine g_iconst (v := 5) hc dX10_writePicture_203 (by decide) ?_
      refine g_ishl hc dX10_writePicture_204 ?_
      refine g_ior hc dX10_writePicture_205 ?_
      refine pf_M_0_temporary (v := (((((S.1 13) &&& (-29665)) &&& 32767) ||| ((a1 &&& 7) <<< ((12 : Int32) &&& (31 : Int32)))) ||| ((a1 >>> ((3 : Int32) &&& (31 : Int32))) <<< ((5 : Int32) &&& (31 : Int32))))) hc wtM_46 dX10_writePicture_206 (fun S11 f11 => ?_)
      have ho := ho S11 f11
      refine g_aload_n (i := 0) hc 0 dX10_writePicture_209 rfl rfl ?_
      refine g_iconst (v := 1) hc dX10_writePicture_210 (by decide) ?_
      refine g_aload_n (i := 0) hc 0 dX10_writePicture_211 rfl rfl ?_
      refine gf_M_0_second hc wtM_34 dX10_writePicture_212 ?_
      refine g_isub hc dX10_writePicture_215 ?_
      refine pf_M_0_second (v := (1 - (S11.1 15))) hc wtM_34 dX10_writePicture_216 (fun S12 f12 => ?_)
      have ho := ho S12 f12
      refine g_goto (tgt := 303) hc dX10_writePicture_219 rfl ?_
      exact g_vret hc dX10_writePicture_303
  have ho := ho.2 c_1_5
  refine g_tsw (tgt := 222) hc 6 dX10_writePicture_1 ⟨by decide, by decide, rfl⟩ rfl (fun c_1_6 => ?_) (fun c_1_6 => ?_)
  · have ho := ho.1 c_1_6
    refine g_aload_n (i := 0) hc 0 dX10_writePicture_222 rfl rfl ?_
    refine gf_M_0_second hc wtM_34 dX10_writePicture_223 ?_
    refine g_ifne (tgt := 252) hc dX10_writePicture_226 rfl (fun c_226 => ?_) (fun c_226 => ?_)
    · have ho := ho.1 c_226
      refine g_aload_n (i := 0) hc 0 dX10_writePicture_229 rfl rfl ?_
      refine g_aload_n (i := 0) hc 0 dX10_writePicture_230 rfl rfl ?_
      refine gf_M_0_temporary hc wtM_46 dX10_writePicture_231 ?_
      refine g_sipush (v := 255) hc dX10_writePicture_234 (by decide) ?_
      refine g_iand hc dX10_writePicture_237 ?_
      refine g_iload_n (i := 2) hc 2 dX10_writePicture_238 rfl rfl ?_
      refine g_bipush (v := 63) hc dX10_writePicture_239 (by decide) ?_
      refine g_iand hc dX10_writePicture_241 ?_
      refine g_bipush (v := 8) hc dX10_writePicture_242 (by decide) ?_
      refine g_ishl hc dX10_writePicture_244 ?_
      refine g_ior hc dX10_writePicture_245 ?_
      refine pf_M_0_temporary (v := (((S.1 13) &&& 255) ||| ((a1 &&& 63) <<< ((8 : Int32) &&& (31 : Int32))))) hc wtM_46 dX10_writePicture_246 (fun S13 f13 => ?_)
      have ho := ho S13 f13
      refine g_goto (tgt := 274) hc dX10_writePicture_249 rfl ?_
      refine g_aload_n (i := 0) hc 0 dX10_writePicture_274 rfl rfl ?_
      refine g_iconst (v := 1) hc dX10_writePicture_275 (by decide) ?_
      refine g_aload_n (i := 0) hc 0 dX10_writePicture_276 rfl rfl ?_
      refine gf_M_0_second hc wtM_34 dX10_writePicture_277 ?_
      refine g_isub hc dX10_writePicture_280 ?_
      refine pf_M_0_second (v := (1 - (S13.1 15))) hc wtM_34 dX10_writePicture_281 (fun S14 f14 => ?_)
      have ho := ho S14 f14
      refine g_goto (tgt := 303) hc dX10_writePicture_284 rfl ?_
      exact g_vret hc dX10_writePicture_303
    · have ho := ho.2 c_226
      refine g_aload_n (i := 0) hc 0 dX10_writePicture_252 rfl rfl ?_
      refine g_aload_n (i := 0) hc 0 dX10_writePicture_253 rfl rfl ?_
      refine gf_M_0_temporary hc wtM_46 dX10_writePicture_254 ?_
      refine g_sipush (v := (-256)) hc dX10_writePicture_257 (by decide) ?_
      refine g_iand hc dX10_writePicture_260 ?_
      refine g_iload_n (i := 2) hc 2 dX10_writePicture_261 rfl rfl ?_
      refine g_ior hc dX10_writePicture_262 ?_
      refine pf_M_0_temporary (v := (((S.1 13) &&& (-256)) ||| a1)) hc wtM_46 dX10_writePicture_263 (fun S15 f15 => ?_)
      have ho := ho S15 f15
      refine g_aload_n (i := 0) hc 0 dX10_writePicture_266 rfl rfl ?_
      refine g_aload_n (i := 0) hc 0 dX10_writePicture_267 rfl rfl ?_
      refine gf_M_0_temporary hc wtM_46 dX10_writePicture_268 ?_
      refine pf_M_0_vram (v := (S15.1 13)) hc wtM_31 dX10_writePicture_271 (fun S16 f16 => ?_)
      have ho := ho S16 f16
      refine g_aload_n (i := 0) hc 0 dX10_writePicture_274 rfl rfl ?_
      refine g_iconst (v := 1) hc dX10_writePicture_275 (by decide) ?_
      refine g_aload_n (i := 0) hc 0 dX10_writePicture_276 rfl rfl ?_
      refine gf_M_0_second hc wtM_34 dX10_writePicture_277 ?_
      refine g_isub hc dX10_writePicture_280 ?_
      refine pf_M_0_second (v := (1 - (S16.1 15))) hc wtM_34 dX10_writePicture_281 (fun S17 f17 => ?_)
      have ho := ho S17 f17
      refine g_goto (tgt := 303) hc dX10_writePicture_284 rfl ?_
      exact g_vret hc dX10_writePicture_303
  have ho := ho.2 c_1_6
  refine g_tsw (tgt := 287) hc 7 dX10_writePicture_1 ⟨by decide, by decide, rfl⟩ rfl (fun c_1_7 => ?_) (fun c_1_7 => ?_)
  · have ho := ho.1 c_1_7
    refine g_aload_n (i := 0) hc 0 dX10_writePicture_287 rfl rfl ?_
    refine g_aload_n (i := 0) hc 0 dX10_writePicture_288 rfl rfl ?_
    refine gf_M_0_vram hc wtM_31 dX10_writePicture_289 ?_
    refine g_iload_n (i := 2) hc 2 dX10_writePicture_292 rfl rfl ?_
    refine g_callVV hc 0 [.int (S.1 12), .int a1] (fun l => c_X10_keep l η (S.1 12) a1 S ho.1) wtM_53 ge_X10_keep rfl ⟨rfl, rfl⟩ ⟨Nat.le_of_ble_eq_true rfl, Nat.le_of_ble_eq_true rfl⟩ rfl rfl rfl (Nat.le_of_ble_eq_true rfl) dX10_writePicture_293 (fun r18 S18 e18 f18 => ?_)
    have ho := ho.2 r18 S18 e18 f18
    refine g_aload_n (i := 0) hc 0 dX10_writePicture_296 rfl rfl ?_
    refine g_callVV hc 0 [] (fun l => c_X10_goOn l η S18 ho.1) wtM_45 ge_X10_goOn rfl ⟨rfl, rfl⟩ ⟨Nat.le_of_ble_eq_true rfl, Nat.le_of_ble_eq_true rfl⟩ rfl rfl rfl (Nat.le_of_ble_eq_true rfl) dX10_writePicture_297 (fun r19 S19 e19 f19 => ?_)
    have ho := ho.2 r19 S19 e19 f19
    refine g_goto (tgt := 303) hc dX10_writePicture_300 rfl ?_
    exact g_vret hc dX10_writePicture_303
  have ho := ho.2 c_1_7
  refine g_tswd (tgt := 303) hc dX10_writePicture_1 (by have := lv_neT c_1_0 (a := 0) (by decide); have := lv_neT c_1_1 (a := 1) (by decide); have := lv_neT c_1_2 (a := 2) (by decide); have := lv_neT c_1_3 (a := 3) (by decide); have := lv_neT c_1_4 (a := 4) (by decide); have := lv_neT c_1_5 (a := 5) (by decide); have := lv_neT c_1_6 (a := 6) (by decide); have := lv_neT c_1_7 (a := 7) (by decide); omega) rfl ?_
  exact g_vret hc dX10_writePicture_303

abbrev rm_X10_lengthOf : Room := { frames := 0, cells := 0, slots := 0, locals := 0 }
def sp_X10_lengthOf (a0 : Int32) (S : gSt) : Int32 × gSt := (if a0 = 0 then (10, S) else (if a0 = 1 then (254, S) else (if a0 = 2 then (20, S) else (if a0 = 3 then ((a0 - 1), S) else (if a0 = 4 then (40, S) else (if a0 = 5 then ((a0 - 1), S) else (if a0 = 6 then (80, S) else (if a0 = 7 then ((a0 - 1), S) else (if a0 = 8 then (160, S) else (if a0 = 9 then ((a0 - 1), S) else (if a0 = 10 then (60, S) else (if a0 = 11 then ((a0 - 1), S) else (if a0 = 12 then (14, S) else (if a0 = 13 then ((a0 - 1), S) else (if a0 = 14 then (26, S) else (if a0 = 15 then ((a0 - 1), S) else (if a0 = 16 then (12, S) else (if a0 = 17 then ((a0 - 1), S) else (if a0 = 18 then (24, S) else (if a0 = 19 then ((a0 - 1), S) else (if a0 = 20 then (48, S) else (if a0 = 21 then ((a0 - 1), S) else (if a0 = 22 then (96, S) else (if a0 = 23 then ((a0 - 1), S) else (if a0 = 24 then (192, S) else (if a0 = 25 then ((a0 - 1), S) else (if a0 = 26 then (72, S) else (if a0 = 27 then ((a0 - 1), S) else (if a0 = 28 then (16, S) else (if a0 = 29 then ((a0 - 1), S) else (if a0 = 30 then (32, S) else ((a0 - 1), S))))))))))))))))))))))))))))))))
def ok_X10_lengthOf (a0 : Int32) (S : gSt) : Prop := ((a0 = 0 → True) ∧ (¬ a0 = 0 → ((a0 = 1 → True) ∧ (¬ a0 = 1 → ((a0 = 2 → True) ∧ (¬ a0 = 2 → ((a0 = 3 → True) ∧ (¬ a0 = 3 → ((a0 = 4 → True) ∧ (¬ a0 = 4 → ((a0 = 5 → True) ∧ (¬ a0 = 5 → ((a0 = 6 → True) ∧ (¬ a0 = 6 → ((a0 = 7 → True) ∧ (¬ a0 = 7 → ((a0 = 8 → True) ∧ (¬ a0 = 8 → ((a0 = 9 → True) ∧ (¬ a0 = 9 → ((a0 = 10 → True) ∧ (¬ a0 = 10 → ((a0 = 11 → True) ∧ (¬ a0 = 11 → ((a0 = 12 → True) ∧ (¬ a0 = 12 → ((a0 = 13 → True) ∧ (¬ a0 = 13 → ((a0 = 14 → True) ∧ (¬ a0 = 14 → ((a0 = 15 → True) ∧ (¬ a0 = 15 → ((a0 = 16 → True) ∧ (¬ a0 = 16 → ((a0 = 17 → True) ∧ (¬ a0 = 17 → ((a0 = 18 → True) ∧ (¬ a0 = 18 → ((a0 = 19 → True) ∧ (¬ a0 = 19 → ((a0 = 20 → True) ∧ (¬ a0 = 20 → ((a0 = 21 → True) ∧ (¬ a0 = 21 → ((a0 = 22 → True) ∧ (¬ a0 = 22 → ((a0 = 23 → True) ∧ (¬ a0 = 23 → ((a0 = 24 → True) ∧ (¬ a0 = 24 → ((a0 = 25 → True) ∧ (¬ a0 = 25 → ((a0 = 26 → True) ∧ (¬ a0 = 26 → ((a0 = 27 → True) ∧ (¬ a0 = 27 → ((a0 = 28 → True) ∧ (¬ a0 = 28 → ((a0 = 29 → True) ∧ (¬ a0 = 29 → ((a0 = 30 → True) ∧ (¬ a0 = 30 → True))))))))))))))))))))))))))))))))))))))))))))))))))))))))))))))
set_option maxRecDepth 100000 in
set_option maxHeartbeats 4000000 in
theorem c_X10_lengthOf (l : Launch) (η : gE) (a0 : Int32) (S : gSt) (ho : ok_X10_lengthOf a0 S) : gMet l yX10_lengthOf cX10_lengthOf 1 (some .int) rm_X10_lengthOf (oM η) [.int a0] S (oI (sp_X10_lengthOf a0 S).1) (sp_X10_lengthOf a0 S).2 := by
  refine gMet_of (X := sp_X10_lengthOf a0 S) (lv := [(0, .int a0)]) oI zM_ok (by decide +kernel) (Nat.le_of_ble_eq_true rfl) rfl (fun κ hc => ?_)
  have hc : gC (oM η) κ cX10_lengthOf 1 RX10 (some .int) rm_X10_lengthOf := hc
  unfold sp_X10_lengthOf
  unfold ok_X10_lengthOf at ho
  refine g_iload_n (i := 0) hc 0 dX10_lengthOf_0 rfl rfl ?_
  refine g_tsw (tgt := 140) hc 0 dX10_lengthOf_1 ⟨by decide, by decide, rfl⟩ rfl (fun c_1_0 => ?_) (fun c_1_0 => ?_)
  · have ho := ho.1 c_1_0
    refine g_bipush (v := 10) hc dX10_lengthOf_140 (by decide) ?_
    exact g_iret hc dX10_lengthOf_142
  have ho := ho.2 c_1_0
  refine g_tsw (tgt := 143) hc 1 dX10_lengthOf_1 ⟨by decide, by decide, rfl⟩ rfl (fun c_1_1 => ?_) (fun c_1_1 => ?_)
  · have ho := ho.1 c_1_1
    refine g_sipush (v := 254) hc dX10_lengthOf_143 (by decide) ?_
    exact g_iret hc dX10_lengthOf_146
  have ho := ho.2 c_1_1
  refine g_tsw (tgt := 147) hc 2 dX10_lengthOf_1 ⟨by decide, by decide, rfl⟩ rfl (fun c_1_2 => ?_) (fun c_1_2 => ?_)
  · have ho := ho.1 c_1_2
    refine g_bipush (v := 20) hc dX10_lengthOf_147 (by decide) ?_
    exact g_iret hc dX10_lengthOf_149
  have ho := ho.2 c_1_2
  refine g_tsw (tgt := 194) hc 3 dX10_lengthOf_1 ⟨by decide, by decide, rfl⟩ rfl (fun c_1_3 => ?_) (fun c_1_3 => ?_)
  · have ho := ho.1 c_1_3
    refine g_iload_n (i := 0) hc 0 dX10_lengthOf_194 rfl rfl ?_
    refine g_iconst (v := 1) hc dX10_lengthOf_195 (by decide) ?_
    refine g_isub hc dX10_lengthOf_196 ?_
    exact g_iret hc dX10_lengthOf_197
  have ho := ho.2 c_1_3
  refine g_tsw (tgt := 150) hc 4 dX10_lengthOf_1 ⟨by decide, by decide, rfl⟩ rfl (fun c_1_4 => ?_) (fun c_1_4 => ?_)
  · have ho := ho.1 c_1_4
    refine g_bipush (v := 40) hc dX10_lengthOf_150 (by decide) ?_
    exact g_iret hc dX10_lengthOf_152
  have ho := ho.2 c_1_4
  refine g_tsw (tgt := 194) hc 5 dX10_lengthOf_1 ⟨by decide, by decide, rfl⟩ rfl (fun c_1_5 => ?_) (fun c_1_5 => ?_)
  · have ho := ho.1 c_1_5
    refine g_iload_n (i := 0) hc 0 dX10_lengthOf_194 rfl rfl ?_
    refine g_iconst (v := 1) hc dX10_lengthOf_195 (by decide) ?_
    refine g_isub hc dX10_lengthOf_196 ?_
    exact g_iret hc dX10_lengthOf_197
  have ho := ho.2 c_1_5
  refine g_tsw (tgt := 153) hc 6 dX10_lengthOf_1 ⟨by decide, by decide, rfl⟩ rfl (fun c_1_6 => ?_) (fun c_1_6 => ?_)
  · have ho := ho.1 c_1_6
    refine g_bipush (v := 80) hc dX10_lengthOf_153 (by decide) ?_
    exact g_iret hc dX10_lengthOf_155
  have ho := ho.2 c_1_6
  refine g_tsw (tgt := 194) hc 7 dX10_lengthOf_1 ⟨by decide, by decide, rfl⟩ rfl (fun c_1_7 => ?_) (fun c_1_7 => ?_)
  · have ho := ho.1 c_1_7
    refine g_iload_n (i := 0) hc 0 dX10_lengthOf_194 rfl rfl ?_
    refine g_iconst (v := 1) hc dX10_lengthOf_195 (by decide) ?_
    refine g_isub hc dX10_lengthOf_196 ?_
    exact g_iret hc dX10_lengthOf_197
  have ho := ho.2 c_1_7
  refine g_tsw (tgt := 156) hc 8 dX10_lengthOf_1 ⟨by decide, by decide, rfl⟩ rfl (fun c_1_8 => ?_) (fun c_1_8 => ?_)
  · have ho := ho.1 c_1_8
    refine g_sipush (v := 160) hc dX10_lengthOf_156 (by decide) ?_
    exact g_iret hc dX10_lengthOf_159
  have ho := ho.2 c_1_8
  refine g_tsw (tgt := 194) hc 9 dX10_lengthOf_1 ⟨by decide, by decide, rfl⟩ rfl (fun c_1_9 => ?_) (fun c_1_9 => ?_)
  · have ho := ho.1 c_1_9
    refine g_iload_n (i := 0) hc 0 dX10_lengthOf_194 rfl rfl ?_
    refine g_iconst (v := 1) hc dX10_lengthOf_195 (by decide) ?_
    refine g_isub hc dX10_lengthOf_196 ?_
    exact g_iret hc dX10_lengthOf_197
  have ho := ho.2 c_1_9
  refine g_tsw (tgt := 160) hc 10 dX10_lengthOf_1 ⟨by decide, by decide, rfl⟩ rfl (fun c_1_10 => ?_) (fun c_1_10 => ?_)
  · have ho := ho.1 c_1_10
    refine g_bipush (v := 60) hc dX10_lengthOf_160 (by decide) ?_
    exact g_iret hc dX10_lengthOf_162
  have ho := ho.2 c_1_10
  refine g_tsw (tgt := 194) hc 11 dX10_lengthOf_1 ⟨by decide, by decide, rfl⟩ rfl (fun c_1_11 => ?_) (fun c_1_11 => ?_)
  · have ho := ho.1 c_1_11
    refine g_iload_n (i := 0) hc 0 dX10_lengthOf_194 rfl rfl ?_
    refine g_iconst (v := 1) hc dX10_lengthOf_195 (by decide) ?_
    refine g_isub hc dX10_lengthOf_196 ?_
    exact g_iret hc dX10_lengthOf_197
  have ho := ho.2 c_1_11
  refine g_tsw (tgt := 163) hc 12 dX10_lengthOf_1 ⟨by decide, by decide, rfl⟩ rfl (fun c_1_12 => ?_) (fun c_1_12 => ?_)
  · have ho := ho.1 c_1_12
    refine g_bipush (v := 14) hc dX10_lengthOf_163 (by decide) ?_
    exact g_iret hc dX10_lengthOf_165
  have ho := ho.2 c_1_12
  refine g_tsw (tgt := 194) hc 13 dX10_lengthOf_1 ⟨by decide, by decide, rfl⟩ rfl (fun c_1_13 => ?_) (fun c_1_13 => ?_)
  · have ho := ho.1 c_1_13
    refine g_iload_n (i := 0) hc 0 dX10_lengthOf_194 rfl rfl ?_
    refine g_iconst (v := 1) hc dX10_lengthOf_195 (by decide) ?_
    refine g_isub hc dX10_lengthOf_196 ?_
    exact g_iret hc dX10_lengthOf_197
  have ho := ho.2 c_1_13
  refine g_tsw (tgt := 166) hc 14 dX10_lengthOf_1 ⟨by decide, by decide, rfl⟩ rfl (fun c_1_14 => ?_) (fun c_1_14 => ?_)
  · have ho := ho.1 c_1_14
    refine g_bipush (v := 26) hc dX10_lengthOf_166 (by decide) ?_
    exact g_iret hc dX10_lengthOf_168
  have ho := ho.2 c_1_14
  refine g_tsw (tgt := 194) hc 15 dX10_lengthOf_1 ⟨by decide, by decide, rfl⟩ rfl (fun c_1_15 => ?_) (fun c_1_15 => ?_)
  · have ho := ho.1 c_1_15
    refine g_iload_n (i := 0) hc 0 dX10_lengthOf_194 rfl rfl ?_
    refine g_iconst (v := 1) hc dX10_lengthOf_195 (by decide) ?_
    refine g_isub hc dX10_lengthOf_196 ?_
    exact g_iret hc dX10_lengthOf_197
  have ho := ho.2 c_1_15
  refine g_tsw (tgt := 169) hc 16 dX10_lengthOf_1 ⟨by decide, by decide, rfl⟩ rfl (fun c_1_16 => ?_) (fun c_1_16 => ?_)
  · have ho := ho.1 c_1_16
    refine g_bipush (v := 12) hc dX10_lengthOf_169 (by decide) ?_
    exact g_iret hc dX10_lengthOf_171
  have ho := ho.2 c_1_16
  refine g_tsw (tgt := 194) hc 17 dX10_lengthOf_1 ⟨by decide, by decide, rfl⟩ rfl (fun c_1_17 => ?_) (fun c_1_17 => ?_)
  · have ho := ho.1 c_1_17
    refine g_iload_n (i := 0) hc 0 dX10_lengthOf_194 rfl rfl ?_
    refine g_iconst (v := 1) hc dX10_lengthOf_195 (by decide) ?_
    refine g_isub hc dX10_lengthOf_196 ?_
    exact g_iret hc dX10_lengthOf_197
  have ho := ho.2 c_1_17
  refine g_tsw (tgt := 172) hc 18 dX10_lengthOf_1 ⟨by decide, by decide, rfl⟩ rfl (fun c_1_18 => ?_) (fun c_1_18 => ?_)
  · have ho := ho.1 c_1_18
    refine g_bipush (v := 24) hc dX10_lengthOf_172 (by decide) ?_
    exact g_iret hc dX10_lengthOf_174
  have ho := ho.2 c_1_18
  refine g_tsw (tgt := 194) hc 19 dX10_lengthOf_1 ⟨by decide, by decide, rfl⟩ rfl (fun c_1_19 => ?_) (fun c_1_19 => ?_)
  · have ho := ho.1 c_1_19
    refine g_iload_n (i := 0) hc 0 dX10_lengthOf_194 rfl rfl ?_
    refine g_iconst (v := 1) hc dX10_lengthOf_195 (by decide) ?_
    refine g_isub hc dX10_lengthOf_196 ?_
    exact g_iret hc dX10_lengthOf_197
  have ho := ho.2 c_1_19
  refine g_tsw (tgt := 175) hc 20 dX10_lengthOf_1 ⟨by decide, by decide, rfl⟩ rfl (fun c_1_20 => ?_) (fun c_1_20 => ?_)
  · have ho := ho.1 c_1_20
    refine g_bipush (v := 48) hc dX10_lengthOf_175 (by decide) ?_
    exact g_iret hc dX10_lengthOf_177
  have ho := ho.2 c_1_20
  refine g_tsw (tgt := 194) hc 21 dX10_lengthOf_1 ⟨by decide, by decide, rfl⟩ rfl (fun c_1_21 => ?_) (fun c_1_21 => ?_)
  · have ho := ho.1 c_1_21
    refine g_iload_n (i := 0) hc 0 dX10_lengthOf_194 rfl rfl ?_
    refine g_iconst (v := 1) hc dX10_lengthOf_195 (by decide) ?_
    refine g_isub hc dX10_lengthOf_196 ?_
    exact g_iret hc dX10_lengthOf_197
  have ho := ho.2 c_1_21
  refine g_tsw (tgt := 178) hc 22 dX10_lengthOf_1 ⟨by decide, by decide, rfl⟩ rfl (fun c_1_22 => ?_) (fun c_1_22 => ?_)
  · have ho := ho.1 c_1_22
    refine g_bipush (v := 96) hc dX10_lengthOf_178 (by decide) ?_
    exact g_iret hc dX10_lengthOf_180
  have ho := ho.2 c_1_22
  refine g_tsw (tgt := 194) hc 23 dX10_lengthOf_1 ⟨by decide, by decide, rfl⟩ rfl (fun c_1_23 => ?_) (fun c_1_23 => ?_)
  · have ho := ho.1 c_1_23
    refine g_iload_n (i := 0) hc 0 dX10_lengthOf_194 rfl rfl ?_
    refine g_iconst (v := 1) hc dX10_lengthOf_195 (by decide) ?_
    refine g_isub hc dX10_lengthOf_196 ?_
    exact g_iret hc dX10_lengthOf_197
  have ho := ho.2 c_1_23
  refine g_tsw (tgt := 181) hc 24 dX10_lengthOf_1 ⟨by decide, by decide, rfl⟩ rfl (fun c_1_24 => ?_) (fun c_1_24 => ?_)
  · have ho := ho.1 c_1_24
    refine g_sipush (v := 192) hc dX10_lengthOf_181 (by decide) ?_
    exact g_iret hc dX10_lengthOf_184
  have ho := ho.2 c_1_24
  refine g_tsw (tgt := 194) hc 25 dX10_lengthOf_1 ⟨by decide, by decide, rfl⟩ rfl (fun c_1_25 => ?_) (fun c_1_25 => ?_)
  · have ho := ho.1 c_1_25
    refine g_iload_n (i := 0) hc 0 dX10_lengthOf_194 rfl rfl ?_
    refine g_iconst (v := 1) hc dX10_lengthOf_195 (by decide) ?_
    refine g_isub hc dX10_lengthOf_196 ?_
    exact g_iret hc dX10_lengthOf_197
  have ho := ho.2 c_1_25
  refine g_tsw (tgt := 185) hc 26 dX10_lengthOf_1 ⟨by decide, by decide, rfl⟩ rfl (fun c_1_26 => ?_) (fun c_1_26 => ?_)
  · have ho := ho.1 c_1_26
    refine g_bipush (v := 72) hc dX10_lengthOf_185 (by decide) ?_
    exact g_iret hc dX10_lengthOf_187
  have ho := ho.2 c_1_26
  refine g_tsw (tgt := 194) hc 27 dX10_lengthOf_1 ⟨by decide, by decide, rfl⟩ rfl (fun c_1_27 => ?_) (fun c_1_27 => ?_)
  · have ho := ho.1 c_1_27
    refine g_iload_n (i := 0) hc 0 dX10_lengthOf_194 rfl rfl ?_
    refine g_iconst (v := 1) hc dX10_lengthOf_195 (by decide) ?_
    refine g_isub hc dX10_lengthOf_196 ?_
    exact g_iret hc dX10_lengthOf_197
  have ho := ho.2 c_1_27
  refine g_tsw (tgt := 188) hc 28 dX10_lengthOf_1 ⟨by decide, by decide, rfl⟩ rfl (fun c_1_28 => ?_) (fun c_1_28 => ?_)
  · have ho := ho.1 c_1_28
    refine g_bipush (v := 16) hc dX10_lengthOf_188 (by decide) ?_
    exact g_iret hc dX10_lengthOf_190
  have ho := ho.2 c_1_28
  refine g_tsw (tgt := 194) hc 29 dX10_lengthOf_1 ⟨by decide, by decide, rfl⟩ rfl (fun c_1_29 => ?_) (fun c_1_29 => ?_)
  · have ho := ho.1 c_1_29
    refine g_iload_n (i := 0) hc 0 dX10_lengthOf_194 rfl rfl ?_
    refine g_iconst (v := 1) hc dX10_lengthOf_195 (by decide) ?_
    refine g_isub hc dX10_lengthOf_196 ?_
    exact g_iret hc dX10_lengthOf_197
  have ho := ho.2 c_1_29
  refine g_tsw (tgt := 191) hc 30 dX10_lengthOf_1 ⟨by decide, by decide, rfl⟩ rfl (fun c_1_30 => ?_) (fun c_1_30 => ?_)
  · have ho := ho.1 c_1_30
    refine g_bipush (v := 32) hc dX10_lengthOf_191 (by decide) ?_
    exact g_iret hc dX10_lengthOf_193
  have ho := ho.2 c_1_30
  refine g_tswd (tgt := 194) hc dX10_lengthOf_1 (by have := lv_neT c_1_0 (a := 0) (by decide); have := lv_neT c_1_1 (a := 1) (by decide); have := lv_neT c_1_2 (a := 2) (by decide); have := lv_neT c_1_3 (a := 3) (by decide); have := lv_neT c_1_4 (a := 4) (by decide); have := lv_neT c_1_5 (a := 5) (by decide); have := lv_neT c_1_6 (a := 6) (by decide); have := lv_neT c_1_7 (a := 7) (by decide); have := lv_neT c_1_8 (a := 8) (by decide); have := lv_neT c_1_9 (a := 9) (by decide); have := lv_neT c_1_10 (a := 10) (by decide); have := lv_neT c_1_11 (a := 11) (by decide); have := lv_neT c_1_12 (a := 12) (by decide); have := lv_neT c_1_13 (a := 13) (by decide); have := lv_neT c_1_14 (a := 14) (by decide); have := lv_neT c_1_15 (a := 15) (by decide); have := lv_neT c_1_16 (a := 16) (by decide); have := lv_neT c_1_17 (a := 17) (by decide); have := lv_neT c_1_18 (a := 18) (by decide); have := lv_neT c_1_19 (a := 19) (by decide); have := lv_neT c_1_20 (a := 20) (by decide); have := lv_neT c_1_21 (a := 21) (by decide); have := lv_neT c_1_22 (a := 22) (by decide); have := lv_neT c_1_23 (a := 23) (by decide); have := lv_neT c_1_24 (a := 24) (by decide); have := lv_neT c_1_25 (a := 25) (by decide); have := lv_neT c_1_26 (a := 26) (by decide); have := lv_neT c_1_27 (a := 27) (by decide); have := lv_neT c_1_28 (a := 28) (by decide); have := lv_neT c_1_29 (a := 29) (by decide); have := lv_neT c_1_30 (a := 30) (by decide); omega) rfl ?_
  refine g_iload_n (i := 0) hc 0 dX10_lengthOf_194 rfl rfl ?_
  refine g_iconst (v := 1) hc dX10_lengthOf_195 (by decide) ?_
  refine g_isub hc dX10_lengthOf_196 ?_
  exact g_iret hc dX10_lengthOf_197
