abbrev rm_X10_reset : Room := { frames := 5, cells := 0, slots := 0, locals := 111 }
def lp_X10_reset_63 : Nat → Int32 → gSt → Unit × gSt
  | 0, _, S => ((), S)
  | n + 1, x1, S => (if 4 ≤ x1 then gL (sI S 31 0) (fun S11 => gL (sI S11 20 0) (fun S12 => gL (sI S12 21 0) (fun S13 => ((), S13)))) else gL (aP S 9 x1 0) (fun S14 => lp_X10_reset_63 n (x1 + 1) S14))
def ok_lp_X10_reset_63 : Nat → Int32 → gSt → Prop
  | 0, _, _ => True
  | n + 1, x1, S => ((4 ≤ x1 → ∀ S11 : gSt, S11 = sI S 31 0 → ∀ S12 : gSt, S12 = sI S11 20 0 → ∀ S13 : gSt, S13 = sI S12 21 0 → True) ∧ (¬ 4 ≤ x1 → ∀ S14 : gSt, S14 = aP S 9 x1 0 → ok_lp_X10_reset_63 n (x1 + 1) S14))
def sp_X10_reset  (S : gSt) : Unit × gSt := gL (sI S 0 0) (fun S1 => gL (sI S1 4 (((S1.1 4) - 3) &&& 255)) (fun S2 => gB (sp_X10_flag 4 true S2) (fun (_ : Unit) S3 => gB (sp_X10_word 65532 S3) (fun r4 S4 => gL (sI S4 6 r4) (fun S5 => gL (sI S5 8 0) (fun S6 => gL (sI S6 9 0) (fun S7 => gL (sI S7 15 0) (fun S8 => gL (sZ S8 1 false) (fun S9 => gL (sI S9 30 0) (fun S10 => lp_X10_reset_63 5 0 S10))))))))))
def ok_X10_reset  (S : gSt) : Prop := ∀ S1 : gSt, S1 = sI S 0 0 → ∀ S2 : gSt, S2 = sI S1 4 (((S1.1 4) - 3) &&& 255) → (ok_X10_flag 4 true S2 ∧ ∀ (r3 : Unit) (S3 : gSt), r3 = (sp_X10_flag 4 true S2).1 → S3 = (sp_X10_flag 4 true S2).2 → (ok_X10_word 65532 S3 ∧ ∀ (r4 : Int32) (S4 : gSt), r4 = (sp_X10_word 65532 S3).1 → S4 = (sp_X10_word 65532 S3).2 → ∀ S5 : gSt, S5 = sI S4 6 r4 → ∀ S6 : gSt, S6 = sI S5 8 0 → ∀ S7 : gSt, S7 = sI S6 9 0 → ∀ S8 : gSt, S8 = sI S7 15 0 → ∀ S9 : gSt, S9 = sZ S8 1 false → ∀ S10 : gSt, S10 = sI S9 30 0 → ok_lp_X10_reset_63 5 0 S10))
set_option maxRecDepth 100000 in
set_option maxHeartbeats 4000000 in
theorem g_lp_X10_reset_63 {η : gE} {κ : gK} (hc : gC (oM η) κ cX10_reset 2 RX10 none rm_X10_reset) : ∀ (n : Nat) (x1 : Int32) (S : gSt), gJ 4 x1 n → ok_lp_X10_reset_63 n x1 S → gG (oM η) κ 2 oV 63 [(0, .ref (η.1 0)), (1, .int x1)] [] S (lp_X10_reset_63 n x1 S) := by
  intro n
  induction n with
  | zero => exact fun _ _ h _ => gJ_0 h
  | succ n ih =>
    intro x1 S hJ ho
    rw [lp_X10_reset_63]
    rw [ok_lp_X10_reset_63] at ho
    refine g_iload_n (i := 1) hc 1 dX10_reset_63 rfl rfl ?_
    refine g_iconst (v := 4) hc dX10_reset_64 (by decide) ?_
    refine g_icmpge (tgt := 81) hc dX10_reset_65 rfl (fun c_65 => ?_) (fun c_65 => ?_)
    · have ho := ho.1 c_65
      refine g_aload_n (i := 0) hc 0 dX10_reset_81 rfl rfl ?_
      refine g_iconst (v := 0) hc dX10_reset_82 (by decide) ?_
      refine pf_M_0_frameLine (v := 0) hc wtM_56 dX10_reset_83 (fun S11 f11 => ?_)
      have ho := ho S11 f11
      refine g_aload_n (i := 0) hc 0 dX10_reset_86 rfl rfl ?_
      refine g_iconst (v := 0) hc dX10_reset_87 (by decide) ?_
      refine pf_M_0_shifted (v := 0) hc wtM_11 dX10_reset_88 (fun S12 f12 => ?_)
      have ho := ho S12 f12
      refine g_aload_n (i := 0) hc 0 dX10_reset_91 rfl rfl ?_
      refine g_iconst (v := 0) hc dX10_reset_92 (by decide) ?_
      refine pf_M_0_shift (v := 0) hc wtM_10 dX10_reset_93 (fun S13 f13 => ?_)
      have ho := ho S13 f13
      exact g_vret hc dX10_reset_96
    · have ho := ho.2 c_65
      refine g_aload_n (i := 0) hc 0 dX10_reset_68 rfl rfl ?_
      refine gf_M_0_lengths hc wtM_54 dX10_reset_69 ?_
      refine g_iload_n (i := 1) hc 1 dX10_reset_72 rfl rfl ?_
      refine g_iconst (v := 0) hc dX10_reset_73 (by decide) ?_
      refine as_M_9 hc (gJ_in hJ c_65 rfl) dX10_reset_74 (fun S14 f14 => ?_)
      have ho := ho S14 f14
      refine g_iinc (i := 1) (v := 1) (lv' := [(1, .int (x1 + 1)), (0, .ref (η.1 0))]) hc 1 dX10_reset_75 rfl (by decide) (by decide) rfl ?_
      refine g_goto (tgt := 63) hc dX10_reset_78 rfl ?_
      exact g_lv [1, 0] rfl (ih _ _ (gJ_s hJ c_65) ho)
set_option maxRecDepth 100000 in
set_option maxHeartbeats 4000000 in
theorem c_X10_reset (l : Launch) (η : gE)  (S : gSt) (ho : ok_X10_reset S) : gMet l yX10_reset cX10_reset 2 none rm_X10_reset (oM η) [.ref (η.1 0)] S (oV (sp_X10_reset S).1) (sp_X10_reset S).2 := by
  refine gMet_of (X := sp_X10_reset S) (lv := [(0, .ref (η.1 0))]) oV zM_ok (by decide +kernel) (Nat.le_of_ble_eq_true rfl) rfl (fun κ hc => ?_)
  have hc : gC (oM η) κ cX10_reset 2 RX10 none rm_X10_reset := hc
  unfold sp_X10_reset
  unfold ok_X10_reset at ho
  refine g_aload_n (i := 0) hc 0 dX10_reset_0 rfl rfl ?_
  refine g_iconst (v := 0) hc dX10_reset_1 (by decide) ?_
  refine pf_M_0_code (v := 0) hc wtM_0 dX10_reset_2 (fun S1 f1 => ?_)
  have ho := ho S1 f1
  refine g_aload_n (i := 0) hc 0 dX10_reset_5 rfl rfl ?_
  refine g_aload_n (i := 0) hc 0 dX10_reset_6 rfl rfl ?_
  refine gf_M_0_s hc wtM_129 dX10_reset_7 ?_
  refine g_iconst (v := 3) hc dX10_reset_10 (by decide) ?_
  refine g_isub hc dX10_reset_11 ?_
  refine g_sipush (v := 255) hc dX10_reset_12 (by decide) ?_
  refine g_iand hc dX10_reset_15 ?_
  refine pf_M_0_s (v := (((S1.1 4) - 3) &&& 255)) hc wtM_129 dX10_reset_16 (fun S2 f2 => ?_)
  have ho := ho S2 f2
  refine g_aload_n (i := 0) hc 0 dX10_reset_19 rfl rfl ?_
  refine g_iconst (v := 4) hc dX10_reset_20 (by decide) ?_
  refine g_iconst (v := 1) hc dX10_reset_21 (by decide) ?_
  refine g_callVV hc 0 [.int 4, .int (bI true)] (fun l => c_X10_flag l η 4 true S2 ho.1) wtM_142 ge_X10_flag rfl ⟨rfl, rfl⟩ ⟨Nat.le_of_ble_eq_true rfl, Nat.le_of_ble_eq_true rfl⟩ rfl rfl rfl (Nat.le_of_ble_eq_true rfl) dX10_reset_22 (fun r3 S3 e3 f3 => ?_)
  have ho := ho.2 r3 S3 e3 f3
  refine g_aload_n (i := 0) hc 0 dX10_reset_25 rfl rfl ?_
  refine g_aload_n (i := 0) hc 0 dX10_reset_26 rfl rfl ?_
  refine g_ldcw (v := 65532) hc wtM_273 dX10_reset_27 ?_
  refine g_callVI hc 0 [.int 65532] (fun l => c_X10_word l η 65532 S3 ho.1) wtM_150 ge_X10_word rfl ⟨rfl, rfl⟩ ⟨Nat.le_of_ble_eq_true rfl, Nat.le_of_ble_eq_true rfl⟩ rfl rfl rfl (Nat.le_of_ble_eq_true rfl) dX10_reset_30 (fun r4 S4 e4 f4 => ?_)
  have ho := ho.2 r4 S4 e4 f4
  refine pf_M_0_pc (v := r4) hc wtM_124 dX10_reset_33 (fun S5 f5 => ?_)
  have ho := ho S5 f5
  refine g_aload_n (i := 0) hc 0 dX10_reset_36 rfl rfl ?_
  refine g_iconst (v := 0) hc dX10_reset_37 (by decide) ?_
  refine pf_M_0_ctrl (v := 0) hc wtM_32 dX10_reset_38 (fun S6 f6 => ?_)
  have ho := ho S6 f6
  refine g_aload_n (i := 0) hc 0 dX10_reset_41 rfl rfl ?_
  refine g_iconst (v := 0) hc dX10_reset_42 (by decide) ?_
  refine pf_M_0_mask (v := 0) hc wtM_48 dX10_reset_43 (fun S7 f7 => ?_)
  have ho := ho S7 f7
  refine g_aload_n (i := 0) hc 0 dX10_reset_46 rfl rfl ?_
  refine g_iconst (v := 0) hc dX10_reset_47 (by decide) ?_
  refine pf_M_0_second (v := 0) hc wtM_34 dX10_reset_48 (fun S8 f8 => ?_)
  have ho := ho S8 f8
  refine g_aload_n (i := 0) hc 0 dX10_reset_51 rfl rfl ?_
  refine g_iconst (v := 0) hc dX10_reset_52 (by decide) ?_
  refine pf_M_0_nmi (v := false) hc wtM_47 dX10_reset_53 (fun S9 f9 => ?_)
  have ho := ho S9 f9
  refine g_aload_n (i := 0) hc 0 dX10_reset_56 rfl rfl ?_
  refine g_iconst (v := 0) hc dX10_reset_57 (by decide) ?_
  refine pf_M_0_enabled (v := 0) hc wtM_89 dX10_reset_58 (fun S10 f10 => ?_)
  have ho := ho S10 f10
  refine g_iconst (v := 0) hc dX10_reset_61 (by decide) ?_
  refine g_istore_n (i := 1) (lv' := [(1, .int 0), (0, .ref (η.1 0))]) hc dX10_reset_62 rfl (by decide) rfl ?_
  exact g_lv [1, 0] rfl (g_lp_X10_reset_63 hc 5 _ _ (gJ_i (by decide) (by decide)) ho)

abbrev rm_X10_pass : Room := { frames := 3, cells := 0, slots := 0, locals := 64 }
def sp_X10_pass (a0 : Int32) (S : gSt) : Bool × gSt := gL (sI S 0 0) (fun S1 => (if a0 < 0 then (false, S1) else (if a0 ≤ 30000 then gB (sp_X10_elapse a0 S1) (fun (_ : Unit) S2 => (true, S2)) else (false, S1))))
def ok_X10_pass (a0 : Int32) (S : gSt) : Prop := ∀ S1 : gSt, S1 = sI S 0 0 → ((a0 < 0 → True) ∧ (¬ a0 < 0 → ((a0 ≤ 30000 → (ok_X10_elapse a0 S1 ∧ ∀ (r2 : Unit) (S2 : gSt), r2 = (sp_X10_elapse a0 S1).1 → S2 = (sp_X10_elapse a0 S1).2 → True)) ∧ (¬ a0 ≤ 30000 → True))))
set_option maxRecDepth 100000 in
set_option maxHeartbeats 4000000 in
theorem c_X10_pass (l : Launch) (η : gE) (a0 : Int32) (S : gSt) (ho : ok_X10_pass a0 S) : gMet l yX10_pass cX10_pass 2 (some .boolean) rm_X10_pass (oM η) [.ref (η.1 0), .int a0] S (oZ (sp_X10_pass a0 S).1) (sp_X10_pass a0 S).2 := by
  refine gMet_of (X := sp_X10_pass a0 S) (lv := [(0, .ref (η.1 0)), (1, .int a0)]) oZ zM_ok (by decide +kernel) (Nat.le_of_ble_eq_true rfl) rfl (fun κ hc => ?_)
  have hc : gC (oM η) κ cX10_pass 2 RX10 (some .boolean) rm_X10_pass := hc
  unfold sp_X10_pass
  unfold ok_X10_pass at ho
  refine g_aload_n (i := 0) hc 0 dX10_pass_0 rfl rfl ?_
  refine g_iconst (v := 0) hc dX10_pass_1 (by decide) ?_
  refine pf_M_0_code (v := 0) hc wtM_0 dX10_pass_2 (fun S1 f1 => ?_)
  have ho := ho S1 f1
  refine g_iload_n (i := 1) hc 1 dX10_pass_5 rfl rfl ?_
  refine g_iflt (tgt := 16) hc dX10_pass_6 rfl (fun c_6 => ?_) (fun c_6 => ?_)
  · have ho := ho.1 c_6
    refine g_iconst (v := 0) hc dX10_pass_16 (by decide) ?_
    exact g_zret (b := false) hc rfl dX10_pass_17
  · have ho := ho.2 c_6
    refine g_iload_n (i := 1) hc 1 dX10_pass_9 rfl rfl ?_
    refine g_sipush (v := 30000) hc dX10_pass_10 (by decide) ?_
    refine g_icmple (tgt := 18) hc dX10_pass_13 rfl (fun c_13 => ?_) (fun c_13 => ?_)
    · have ho := ho.1 c_13
      refine g_aload_n (i := 0) hc 0 dX10_pass_18 rfl rfl ?_
      refine g_iload_n (i := 1) hc 1 dX10_pass_19 rfl rfl ?_
      refine g_callVV hc 0 [.int a0] (fun l => c_X10_elapse l η a0 S1 ho.1) wtM_268 ge_X10_elapse rfl ⟨rfl, rfl⟩ ⟨Nat.le_of_ble_eq_true rfl, Nat.le_of_ble_eq_true rfl⟩ rfl rfl rfl (Nat.le_of_ble_eq_true rfl) dX10_pass_20 (fun r2 S2 e2 f2 => ?_)
      have ho := ho.2 r2 S2 e2 f2
      refine g_iconst (v := 1) hc dX10_pass_23 (by decide) ?_
      exact g_zret (b := true) hc rfl dX10_pass_24
    · have ho := ho.2 c_13
      refine g_iconst (v := 0) hc dX10_pass_16 (by decide) ?_
      exact g_zret (b := false) hc rfl dX10_pass_17

abbrev rm_X10_read : Room := { frames := 4, cells := 0, slots := 0, locals := 89 }
def sp_X10_read (a0 : Int32) (S : gSt) : Int32 × gSt := gL (sI S 0 0) (fun S1 => gB (sp_X10_get (a0 &&& 65535) S1) (fun r2 S2 => (r2, S2)))
def ok_X10_read (a0 : Int32) (S : gSt) : Prop := ∀ S1 : gSt, S1 = sI S 0 0 → (ok_X10_get (a0 &&& 65535) S1 ∧ ∀ (r2 : Int32) (S2 : gSt), r2 = (sp_X10_get (a0 &&& 65535) S1).1 → S2 = (sp_X10_get (a0 &&& 65535) S1).2 → True)
set_option maxRecDepth 100000 in
set_option maxHeartbeats 4000000 in
theorem c_X10_read (l : Launch) (η : gE) (a0 : Int32) (S : gSt) (ho : ok_X10_read a0 S) : gMet l yX10_read cX10_read 2 (some .int) rm_X10_read (oM η) [.ref (η.1 0), .int a0] S (oI (sp_X10_read a0 S).1) (sp_X10_read a0 S).2 := by
  refine gMet_of (X := sp_X10_read a0 S) (lv := [(0, .ref (η.1 0)), (1, .int a0)]) oI zM_ok (by decide +kernel) (Nat.le_of_ble_eq_true rfl) rfl (fun κ hc => ?_)
  have hc : gC (oM η) κ cX10_read 2 RX10 (some .int) rm_X10_read := hc
  unfold sp_X10_read
  unfold ok_X10_read at ho
  refine g_aload_n (i := 0) hc 0 dX10_read_0 rfl rfl ?_
  refine g_iconst (v := 0) hc dX10_read_1 (by decide) ?_
  refine pf_M_0_code (v := 0) hc wtM_0 dX10_read_2 (fun S1 f1 => ?_)
  have ho := ho S1 f1
  refine g_aload_n (i := 0) hc 0 dX10_read_5 rfl rfl ?_
  refine g_iload_n (i := 1) hc 1 dX10_read_6 rfl rfl ?_
  refine g_ldc (v := 65535) hc wtM_112 dX10_read_7 ?_
  refine g_iand hc dX10_read_9 ?_
  refine g_callVI hc 0 [.int (a0 &&& 65535)] (fun l => c_X10_get l η (a0 &&& 65535) S1 ho.1) wtM_80 ge_X10_get rfl ⟨rfl, rfl⟩ ⟨Nat.le_of_ble_eq_true rfl, Nat.le_of_ble_eq_true rfl⟩ rfl rfl rfl (Nat.le_of_ble_eq_true rfl) dX10_read_10 (fun r2 S2 e2 f2 => ?_)
  have ho := ho.2 r2 S2 e2 f2
  exact g_iret hc dX10_read_13

abbrev rm_X10_write : Room := { frames := 7, cells := 0, slots := 0, locals := 158 }
def sp_X10_write (a0 : Int32) (a1 : Int32) (S : gSt) : Unit × gSt := gL (sI S 0 0) (fun S1 => gL (sI S1 7 0) (fun S2 => gB (sp_X10_put (a0 &&& 65535) (a1 &&& 255) S2) (fun (_ : Unit) S3 => gB (sp_X10_elapse (S3.1 7) S3) (fun (_ : Unit) S4 => ((), S4)))))
def ok_X10_write (a0 : Int32) (a1 : Int32) (S : gSt) : Prop := ∀ S1 : gSt, S1 = sI S 0 0 → ∀ S2 : gSt, S2 = sI S1 7 0 → (ok_X10_put (a0 &&& 65535) (a1 &&& 255) S2 ∧ ∀ (r3 : Unit) (S3 : gSt), r3 = (sp_X10_put (a0 &&& 65535) (a1 &&& 255) S2).1 → S3 = (sp_X10_put (a0 &&& 65535) (a1 &&& 255) S2).2 → (ok_X10_elapse (S3.1 7) S3 ∧ ∀ (r4 : Unit) (S4 : gSt), r4 = (sp_X10_elapse (S3.1 7) S3).1 → S4 = (sp_X10_elapse (S3.1 7) S3).2 → True))
set_option maxRecDepth 100000 in
set_option maxHeartbeats 4000000 in
theorem c_X10_write (l : Launch) (η : gE) (a0 : Int32) (a1 : Int32) (S : gSt) (ho : ok_X10_write a0 a1 S) : gMet l yX10_write cX10_write 3 none rm_X10_write (oM η) [.ref (η.1 0), .int a0, .int a1] S (oV (sp_X10_write a0 a1 S).1) (sp_X10_write a0 a1 S).2 := by
  refine gMet_of (X := sp_X10_write a0 a1 S) (lv := [(0, .ref (η.1 0)), (1, .int a0), (2, .int a1)]) oV zM_ok (by decide +kernel) (Nat.le_of_ble_eq_true rfl) rfl (fun κ hc => ?_)
  have hc : gC (oM η) κ cX10_write 3 RX10 none rm_X10_write := hc
  unfold sp_X10_write
  unfold ok_X10_write at ho
  refine g_aload_n (i := 0) hc 0 dX10_write_0 rfl rfl ?_
  refine g_iconst (v := 0) hc dX10_write_1 (by decide) ?_
  refine pf_M_0_code (v := 0) hc wtM_0 dX10_write_2 (fun S1 f1 => ?_)
  have ho := ho S1 f1
  refine g_aload_n (i := 0) hc 0 dX10_write_5 rfl rfl ?_
  refine g_iconst (v := 0) hc dX10_write_6 (by decide) ?_
  refine pf_M_0_spent (v := 0) hc wtM_75 dX10_write_7 (fun S2 f2 => ?_)
  have ho := ho S2 f2
  refine g_aload_n (i := 0) hc 0 dX10_write_10 rfl rfl ?_
  refine g_iload_n (i := 1) hc 1 dX10_write_11 rfl rfl ?_
  refine g_ldc (v := 65535) hc wtM_112 dX10_write_12 ?_
  refine g_iand hc dX10_write_14 ?_
  refine g_iload_n (i := 2) hc 2 dX10_write_15 rfl rfl ?_
  refine g_sipush (v := 255) hc dX10_write_16 (by decide) ?_
  refine g_iand hc dX10_write_19 ?_
  refine g_callVV hc 0 [.int (a0 &&& 65535), .int (a1 &&& 255)] (fun l => c_X10_put l η (a0 &&& 65535) (a1 &&& 255) S2 ho.1) wtM_178 ge_X10_put rfl ⟨rfl, rfl⟩ ⟨Nat.le_of_ble_eq_true rfl, Nat.le_of_ble_eq_true rfl⟩ rfl rfl rfl (Nat.le_of_ble_eq_true rfl) dX10_write_20 (fun r3 S3 e3 f3 => ?_)
  have ho := ho.2 r3 S3 e3 f3
  refine g_aload_n (i := 0) hc 0 dX10_write_23 rfl rfl ?_
  refine g_aload_n (i := 0) hc 0 dX10_write_24 rfl rfl ?_
  refine gf_M_0_spent hc wtM_75 dX10_write_25 ?_
  refine g_callVV hc 0 [.int (S3.1 7)] (fun l => c_X10_elapse l η (S3.1 7) S3 ho.1) wtM_268 ge_X10_elapse rfl ⟨rfl, rfl⟩ ⟨Nat.le_of_ble_eq_true rfl, Nat.le_of_ble_eq_true rfl⟩ rfl rfl rfl (Nat.le_of_ble_eq_true rfl) dX10_write_28 (fun r4 S4 e4 f4 => ?_)
  have ho := ho.2 r4 S4 e4 f4
  exact g_vret hc dX10_write_31

abbrev rm_X10_pad : Room := { frames := 0, cells := 0, slots := 0, locals := 0 }
def sp_X10_pad (a0 : Int32) (a1 : Int32) (S : gSt) : Unit × gSt := (if a0 = 0 then gL (sI S 0 0) (fun S1 => (if (S1.1 0) = 0 then gL (aP S1 11 a0 (a1 &&& 255)) (fun S2 => ((), S2)) else ((), S1))) else (if a0 = 1 then gL (sI S 0 0) (fun S3 => (if (S3.1 0) = 0 then gL (aP S3 11 a0 (a1 &&& 255)) (fun S4 => ((), S4)) else ((), S3))) else gL (sI S 0 1) (fun S5 => (if (S5.1 0) = 0 then gL (aP S5 11 a0 (a1 &&& 255)) (fun S6 => ((), S6)) else ((), S5)))))
def ok_X10_pad (a0 : Int32) (a1 : Int32) (S : gSt) : Prop := ((a0 = 0 → ∀ S1 : gSt, S1 = sI S 0 0 → (((S1.1 0) = 0 → (vp_in a0 2 ∧ ∀ S2 : gSt, S2 = aP S1 11 a0 (a1 &&& 255) → True)) ∧ (¬ (S1.1 0) = 0 → True))) ∧ (¬ a0 = 0 → ((a0 = 1 → ∀ S3 : gSt, S3 = sI S 0 0 → (((S3.1 0) = 0 → (vp_in a0 2 ∧ ∀ S4 : gSt, S4 = aP S3 11 a0 (a1 &&& 255) → True)) ∧ (¬ (S3.1 0) = 0 → True))) ∧ (¬ a0 = 1 → ∀ S5 : gSt, S5 = sI S 0 1 → (((S5.1 0) = 0 → (vp_in a0 2 ∧ ∀ S6 : gSt, S6 = aP S5 11 a0 (a1 &&& 255) → True)) ∧ (¬ (S5.1 0) = 0 → True))))))
set_option maxRecDepth 100000 in
set_option maxHeartbeats 4000000 in
theorem c_X10_pad (l : Launch) (η : gE) (a0 : Int32) (a1 : Int32) (S : gSt) (ho : ok_X10_pad a0 a1 S) : gMet l yX10_pad cX10_pad 3 none rm_X10_pad (oM η) [.ref (η.1 0), .int a0, .int a1] S (oV (sp_X10_pad a0 a1 S).1) (sp_X10_pad a0 a1 S).2 := by
  refine gMet_of (X := sp_X10_pad a0 a1 S) (lv := [(0, .ref (η.1 0)), (1, .int a0), (2, .int a1)]) oV zM_ok (by decide +kernel) (Nat.le_of_ble_eq_true rfl) rfl (fun κ hc => ?_)
  have hc : gC (oM η) κ cX10_pad 3 RX10 none rm_X10_pad := hc
  unfold sp_X10_pad
  unfold ok_X10_pad at ho
  refine g_aload_n (i := 0) hc 0 dX10_pad_0 rfl rfl ?_
  refine g_iload_n (i := 1) hc 1 dX10_pad_1 rfl rfl ?_
  refine g_ifeq (tgt := 10) hc dX10_pad_2 rfl (fun c_2 => ?_) (fun c_2 => ?_)
  · have ho := ho.1 c_2
    refine g_iconst (v := 0) hc dX10_pad_10 (by decide) ?_
    refine g_goto (tgt := 15) hc dX10_pad_11 rfl ?_
    refine pf_M_0_code (v := 0) hc wtM_0 dX10_pad_15 (fun S1 f1 => ?_)
    have ho := ho S1 f1
    refine g_aload_n (i := 0) hc 0 dX10_pad_18 rfl rfl ?_
    refine gf_M_0_code hc wtM_0 dX10_pad_19 ?_
    refine g_ifne (tgt := 36) hc dX10_pad_22 rfl (fun c_22 => ?_) (fun c_22 => ?_)
    · have ho := ho.1 c_22
      refine g_aload_n (i := 0) hc 0 dX10_pad_25 rfl rfl ?_
      refine gf_M_0_buttons hc wtM_58 dX10_pad_26 ?_
      refine g_iload_n (i := 1) hc 1 dX10_pad_29 rfl rfl ?_
      refine g_iload_n (i := 2) hc 2 dX10_pad_30 rfl rfl ?_
      refine g_sipush (v := 255) hc dX10_pad_31 (by decide) ?_
      refine g_iand hc dX10_pad_34 ?_
      refine as_M_11 hc ho.1 dX10_pad_35 (fun S2 f2 => ?_)
      have ho := ho.2
      have ho := ho S2 f2
      exact g_vret hc dX10_pad_36
    · have ho := ho.2 c_22
      exact g_vret hc dX10_pad_36
  · have ho := ho.2 c_2
    refine g_iload_n (i := 1) hc 1 dX10_pad_5 rfl rfl ?_
    refine g_iconst (v := 1) hc dX10_pad_6 (by decide) ?_
    refine g_icmpne (tgt := 14) hc dX10_pad_7 rfl (fun c_7 => ?_) (fun c_7 => ?_)
    · have ho := ho.1 c_7
      refine g_iconst (v := 0) hc dX10_pad_10 (by decide) ?_
      refine g_goto (tgt := 15) hc dX10_pad_11 rfl ?_
      refine pf_M_0_code (v := 0) hc wtM_0 dX10_pad_15 (fun S3 f3 => ?_)
      have ho := ho S3 f3
      refine g_aload_n (i := 0) hc 0 dX10_pad_18 rfl rfl ?_
      refine gf_M_0_code hc wtM_0 dX10_pad_19 ?_
      refine g_ifne (tgt := 36) hc dX10_pad_22 rfl (fun c_22 => ?_) (fun c_22 => ?_)
      · have ho := ho.1 c_22
        refine g_aload_n (i := 0) hc 0 dX10_pad_25 rfl rfl ?_
        refine gf_M_0_buttons hc wtM_58 dX10_pad_26 ?_
        refine g_iload_n (i := 1) hc 1 dX10_pad_29 rfl rfl ?_
        refine g_iload_n (i := 2) hc 2 dX10_pad_30 rfl rfl ?_
        refine g_sipush (v := 255) hc dX10_pad_31 (by decide) ?_
        refine g_iand hc dX10_pad_34 ?_
        refine as_M_11 hc ho.1 dX10_pad_35 (fun S4 f4 => ?_)
        have ho := ho.2
        have ho := ho S4 f4
        exact g_vret hc dX10_pad_36
      · have ho := ho.2 c_22
        exact g_vret hc dX10_pad_36
    · have ho := ho.2 c_7
      refine g_iconst (v := 1) hc dX10_pad_14 (by decide) ?_
      refine pf_M_0_code (v := 1) hc wtM_0 dX10_pad_15 (fun S5 f5 => ?_)
      have ho := ho S5 f5
      refine g_aload_n (i := 0) hc 0 dX10_pad_18 rfl rfl ?_
      refine gf_M_0_code hc wtM_0 dX10_pad_19 ?_
      refine g_ifne (tgt := 36) hc dX10_pad_22 rfl (fun c_22 => ?_) (fun c_22 => ?_)
      · have ho := ho.1 c_22
        refine g_aload_n (i := 0) hc 0 dX10_pad_25 rfl rfl ?_
        refine gf_M_0_buttons hc wtM_58 dX10_pad_26 ?_
        refine g_iload_n (i := 1) hc 1 dX10_pad_29 rfl rfl ?_
        refine g_iload_n (i := 2) hc 2 dX10_pad_30 rfl rfl ?_
        refine g_sipush (v := 255) hc dX10_pad_31 (by decide) ?_
        refine g_iand hc dX10_pad_34 ?_
        refine as_M_11 hc ho.1 dX10_pad_35 (fun S6 f6 => ?_)
        have ho := ho.2
        have ho := ho S6 f6
        exact g_vret hc dX10_pad_36
      · have ho := ho.2 c_22
        exact g_vret hc dX10_pad_36

abbrev rm_X10_core : Room := { frames := 1, cells := 0, slots := 0, locals := 20 }
def sp_X10_core (a0 : Int32) (S : gSt) : Int32 × gSt := gL (sI S 0 0) (fun S1 => (if a0 = 0 then ((S1.1 1), S1) else (if a0 = 1 then ((S1.1 2), S1) else (if a0 = 2 then ((S1.1 3), S1) else (if a0 = 3 then ((S1.1 4), S1) else (if a0 = 4 then ((S1.1 5), S1) else (if a0 = 5 then ((S1.1 6), S1) else (if a0 = 6 then ((((S1.2.2.1 0) &&& 65535)).toInt32, S1) else (if a0 = 7 then (if (bI (S1.2.1 1)) = 0 then (0, S1) else (1, S1)) else (if a0 = 8 then (((S1.1 31) + (2 * (S1.1 29))), S1) else gB (sp_X10_fail S1) (fun r2 S2 => (r2, S2))))))))))))
def ok_X10_core (a0 : Int32) (S : gSt) : Prop := ∀ S1 : gSt, S1 = sI S 0 0 → ((a0 = 0 → True) ∧ (¬ a0 = 0 → ((a0 = 1 → True) ∧ (¬ a0 = 1 → ((a0 = 2 → True) ∧ (¬ a0 = 2 → ((a0 = 3 → True) ∧ (¬ a0 = 3 → ((a0 = 4 → True) ∧ (¬ a0 = 4 → ((a0 = 5 → True) ∧ (¬ a0 = 5 → ((a0 = 6 → True) ∧ (¬ a0 = 6 → ((a0 = 7 → (((bI (S1.2.1 1)) = 0 → True) ∧ (¬ (bI (S1.2.1 1)) = 0 → True))) ∧ (¬ a0 = 7 → ((a0 = 8 → True) ∧ (¬ a0 = 8 → (ok_X10_fail S1 ∧ ∀ (r2 : Int32) (S2 : gSt), r2 = (sp_X10_fail S1).1 → S2 = (sp_X10_fail S1).2 → True)))))))))))))))))))
set_option maxRecDepth 100000 in
set_option maxHeartbeats 4000000 in
theorem c_X10_core (l : Launch) (η : gE) (a0 : Int32) (S : gSt) (ho : ok_X10_core a0 S) : gMet l yX10_core cX10_core 2 (some .int) rm_X10_core (oM η) [.ref (η.1 0), .int a0] S (oI (sp_X10_core a0 S).1) (sp_X10_core a0 S).2 := by
  refine gMet_of (X := sp_X10_core a0 S) (lv := [(0, .ref (η.1 0)), (1, .int a0)]) oI zM_ok (by decide +kernel) (Nat.le_of_ble_eq_true rfl) rfl (fun κ hc => ?_)
  have hc : gC (oM η) κ cX10_core 2 RX10 (some .int) rm_X10_core := hc
  unfold sp_X10_core
  unfold ok_X10_core at ho
  refine g_aload_n (i := 0) hc 0 dX10_core_0 rfl rfl ?_
  refine g_iconst (v := 0) hc dX10_core_1 (by decide) ?_
  refine pf_M_0_code (v := 0) hc wtM_0 dX10_core_2 (fun S1 f1 => ?_)
  have ho := ho S1 f1
  refine g_iload_n (i := 1) hc 1 dX10_core_5 rfl rfl ?_
  refine g_tsw (tgt := 56) hc 0 dX10_core_6 ⟨by decide, by decide, rfl⟩ rfl (fun c_6_0 => ?_) (fun c_6_0 => ?_)
  · have ho := ho.1 c_6_0
    refine g_aload_n (i := 0) hc 0 dX10_core_56 rfl rfl ?_
    refine gf_M_0_a hc wtM_170 dX10_core_57 ?_
    exact g_iret hc dX10_core_60
  have ho := ho.2 c_6_0
  refine g_tsw (tgt := 61) hc 1 dX10_core_6 ⟨by decide, by decide, rfl⟩ rfl (fun c_6_1 => ?_) (fun c_6_1 => ?_)
  · have ho := ho.1 c_6_1
    refine g_aload_n (i := 0) hc 0 dX10_core_61 rfl rfl ?_
    refine gf_M_0_x hc wtM_152 dX10_core_62 ?_
    exact g_iret hc dX10_core_65
  have ho := ho.2 c_6_1
  refine g_tsw (tgt := 66) hc 2 dX10_core_6 ⟨by decide, by decide, rfl⟩ rfl (fun c_6_2 => ?_) (fun c_6_2 => ?_)
  · have ho := ho.1 c_6_2
    refine g_aload_n (i := 0) hc 0 dX10_core_66 rfl rfl ?_
    refine gf_M_0_y hc wtM_153 dX10_core_67 ?_
    exact g_iret hc dX10_core_70
  have ho := ho.2 c_6_2
  refine g_tsw (tgt := 71) hc 3 dX10_core_6 ⟨by decide, by decide, rfl⟩ rfl (fun c_6_3 => ?_) (fun c_6_3 => ?_)
  · have ho := ho.1 c_6_3
    refine g_aload_n (i := 0) hc 0 dX10_core_71 rfl rfl ?_
    refine gf_M_0_s hc wtM_129 dX10_core_72 ?_
    exact g_iret hc dX10_core_75
  have ho := ho.2 c_6_3
  refine g_tsw (tgt := 76) hc 4 dX10_core_6 ⟨by decide, by decide, rfl⟩ rfl (fun c_6_4 => ?_) (fun c_6_4 => ?_)
  · have ho := ho.1 c_6_4
    refine g_aload_n (i := 0) hc 0 dX10_core_76 rfl rfl ?_
    refine gf_M_0_p hc wtM_138 dX10_core_77 ?_
    exact g_iret hc dX10_core_80
  have ho := ho.2 c_6_4
  refine g_tsw (tgt := 81) hc 5 dX10_core_6 ⟨by decide, by decide, rfl⟩ rfl (fun c_6_5 => ?_) (fun c_6_5 => ?_)
  · have ho := ho.1 c_6_5
    refine g_aload_n (i := 0) hc 0 dX10_core_81 rfl rfl ?_
    refine gf_M_0_pc hc wtM_124 dX10_core_82 ?_
    exact g_iret hc dX10_core_85
  have ho := ho.2 c_6_5
  refine g_tsw (tgt := 86) hc 6 dX10_core_6 ⟨by decide, by decide, rfl⟩ rfl (fun c_6_6 => ?_) (fun c_6_6 => ?_)
  · have ho := ho.1 c_6_6
    refine g_aload_n (i := 0) hc 0 dX10_core_86 rfl rfl ?_
    refine gf_M_0_gone hc wtM_76 dX10_core_87 ?_
    refine g_ldc2 (v := 65535) hc wtM_274 dX10_core_90 ?_
    refine g_land hc dX10_core_93 ?_
    refine g_l2i hc dX10_core_94 ?_
    exact g_iret hc dX10_core_95
  have ho := ho.2 c_6_6
  refine g_tsw (tgt := 96) hc 7 dX10_core_6 ⟨by decide, by decide, rfl⟩ rfl (fun c_6_7 => ?_) (fun c_6_7 => ?_)
  · have ho := ho.1 c_6_7
    refine g_aload_n (i := 0) hc 0 dX10_core_96 rfl rfl ?_
    refine gf_M_0_nmi hc wtM_47 dX10_core_97 ?_
    refine g_ifeq (tgt := 107) hc dX10_core_100 rfl (fun c_100 => ?_) (fun c_100 => ?_)
    · have ho := ho.1 c_100
      refine g_iconst (v := 0) hc dX10_core_107 (by decide) ?_
      exact g_iret hc dX10_core_108
    · have ho := ho.2 c_100
      refine g_iconst (v := 1) hc dX10_core_103 (by decide) ?_
      refine g_goto (tgt := 108) hc dX10_core_104 rfl ?_
      exact g_iret hc dX10_core_108
  have ho := ho.2 c_6_7
  refine g_tsw (tgt := 109) hc 8 dX10_core_6 ⟨by decide, by decide, rfl⟩ rfl (fun c_6_8 => ?_) (fun c_6_8 => ?_)
  · have ho := ho.1 c_6_8
    refine g_aload_n (i := 0) hc 0 dX10_core_109 rfl rfl ?_
    refine gf_M_0_frameLine hc wtM_56 dX10_core_110 ?_
    refine g_iconst (v := 2) hc dX10_core_113 (by decide) ?_
    refine g_aload_n (i := 0) hc 0 dX10_core_114 rfl rfl ?_
    refine gf_M_0_cartridgeLine hc wtM_16 dX10_core_115 ?_
    refine g_imul hc dX10_core_118 ?_
    refine g_iadd hc dX10_core_119 ?_
    exact g_iret hc dX10_core_120
  have ho := ho.2 c_6_8
  refine g_tswd (tgt := 121) hc dX10_core_6 (by have := lv_neT c_6_0 (a := 0) (by decide); have := lv_neT c_6_1 (a := 1) (by decide); have := lv_neT c_6_2 (a := 2) (by decide); have := lv_neT c_6_3 (a := 3) (by decide); have := lv_neT c_6_4 (a := 4) (by decide); have := lv_neT c_6_5 (a := 5) (by decide); have := lv_neT c_6_6 (a := 6) (by decide); have := lv_neT c_6_7 (a := 7) (by decide); have := lv_neT c_6_8 (a := 8) (by decide); omega) rfl ?_
  refine g_aload_n (i := 0) hc 0 dX10_core_121 rfl rfl ?_
  refine g_callVI hc 0 [] (fun l => c_X10_fail l η S1 ho.1) wtM_278 ge_X10_fail rfl ⟨rfl, rfl⟩ ⟨Nat.le_of_ble_eq_true rfl, Nat.le_of_ble_eq_true rfl⟩ rfl rfl rfl (Nat.le_of_ble_eq_true rfl) dX10_core_122 (fun r2 S2 e2 f2 => ?_)
  have ho := ho.2 r2 S2 e2 f2
  exact g_iret hc dX10_core_125

abbrev rm_X10_picture : Room := { frames := 1, cells := 0, slots := 0, locals := 20 }
def sp_X10_picture (a0 : Int32) (S : gSt) : Int32 × gSt := gL (sI S 0 0) (fun S1 => (if a0 = 0 then ((S1.1 12), S1) else (if a0 = 1 then ((S1.1 13), S1) else (if a0 = 2 then ((S1.1 14), S1) else (if a0 = 3 then ((S1.1 15), S1) else (if a0 = 4 then ((S1.1 8), S1) else (if a0 = 5 then ((S1.1 9), S1) else (if a0 = 6 then ((S1.1 10), S1) else (if a0 = 7 then ((S1.1 11), S1) else (if a0 = 8 then ((S1.1 17), S1) else (if a0 = 9 then ((S1.1 18), S1) else (if a0 = 10 then ((S1.1 16), S1) else gB (sp_X10_fail S1) (fun r2 S2 => (r2, S2))))))))))))))
def ok_X10_picture (a0 : Int32) (S : gSt) : Prop := ∀ S1 : gSt, S1 = sI S 0 0 → ((a0 = 0 → True) ∧ (¬ a0 = 0 → ((a0 = 1 → True) ∧ (¬ a0 = 1 → ((a0 = 2 → True) ∧ (¬ a0 = 2 → ((a0 = 3 → True) ∧ (¬ a0 = 3 → ((a0 = 4 → True) ∧ (¬ a0 = 4 → ((a0 = 5 → True) ∧ (¬ a0 = 5 → ((a0 = 6 → True) ∧ (¬ a0 = 6 → ((a0 = 7 → True) ∧ (¬ a0 = 7 → ((a0 = 8 → True) ∧ (¬ a0 = 8 → ((a0 = 9 → True) ∧ (¬ a0 = 9 → ((a0 = 10 → True) ∧ (¬ a0 = 10 → (ok_X10_fail S1 ∧ ∀ (r2 : Int32) (S2 : gSt), r2 = (sp_X10_fail S1).1 → S2 = (sp_X10_fail S1).2 → True)))))))))))))))))))))))
set_option maxRecDepth 100000 in
set_option maxHeartbeats 4000000 in
theorem c_X10_picture (l : Launch) (η : gE) (a0 : Int32) (S : gSt) (ho : ok_X10_picture a0 S) : gMet l yX10_picture cX10_picture 2 (some .int) rm_X10_picture (oM η) [.ref (η.1 0), .int a0] S (oI (sp_X10_picture a0 S).1) (sp_X10_picture a0 S).2 := by
  refine gMet_of (X := sp_X10_picture a0 S) (lv := [(0, .ref (η.1 0)), (1, .int a0)]) oI zM_ok (by decide +kernel) (Nat.le_of_ble_eq_true rfl) rfl (fun κ hc => ?_)
  have hc : gC (oM η) κ cX10_picture 2 RX10 (some .int) rm_X10_picture := hc
  unfold sp_X10_picture
  unfold ok_X10_picture at ho
  refine g_aload_n (i := 0) hc 0 dX10_picture_0 rfl rfl ?_
  refine g_iconst (v := 0) hc dX10_picture_1 (by decide) ?_
  refine pf_M_0_code (v := 0) hc wtM_0 dX10_picture_2 (fun S1 f1 => ?_)
  have ho := ho S1 f1
  refine g_iload_n (i := 1) hc 1 dX10_picture_5 rfl rfl ?_
  refine g_tsw (tgt := 64) hc 0 dX10_picture_6 ⟨by decide, by decide, rfl⟩ rfl (fun c_6_0 => ?_) (fun c_6_0 => ?_)
  · have ho := ho.1 c_6_0
    refine g_aload_n (i := 0) hc 0 dX10_picture_64 rfl rfl ?_
    refine gf_M_0_vram hc wtM_31 dX10_picture_65 ?_
    exact g_iret hc dX10_picture_68
  have ho := ho.2 c_6_0
  refine g_tsw (tgt := 69) hc 1 dX10_picture_6 ⟨by decide, by decide, rfl⟩ rfl (fun c_6_1 => ?_) (fun c_6_1 => ?_)
  · have ho := ho.1 c_6_1
    refine g_aload_n (i := 0) hc 0 dX10_picture_69 rfl rfl ?_
    refine gf_M_0_temporary hc wtM_46 dX10_picture_70 ?_
    exact g_iret hc dX10_picture_73
  have ho := ho.2 c_6_1
  refine g_tsw (tgt := 74) hc 2 dX10_picture_6 ⟨by decide, by decide, rfl⟩ rfl (fun c_6_2 => ?_) (fun c_6_2 => ?_)
  · have ho := ho.1 c_6_2
    refine g_aload_n (i := 0) hc 0 dX10_picture_74 rfl rfl ?_
    refine gf_M_0_fine hc wtM_49 dX10_picture_75 ?_
    exact g_iret hc dX10_picture_78
  have ho := ho.2 c_6_2
  refine g_tsw (tgt := 79) hc 3 dX10_picture_6 ⟨by decide, by decide, rfl⟩ rfl (fun c_6_3 => ?_) (fun c_6_3 => ?_)
  · have ho := ho.1 c_6_3
    refine g_aload_n (i := 0) hc 0 dX10_picture_79 rfl rfl ?_
    refine gf_M_0_second hc wtM_34 dX10_picture_80 ?_
    exact g_iret hc dX10_picture_83
  have ho := ho.2 c_6_3
  refine g_tsw (tgt := 84) hc 4 dX10_picture_6 ⟨by decide, by decide, rfl⟩ rfl (fun c_6_4 => ?_) (fun c_6_4 => ?_)
  · have ho := ho.1 c_6_4
    refine g_aload_n (i := 0) hc 0 dX10_picture_84 rfl rfl ?_
    refine gf_M_0_ctrl hc wtM_32 dX10_picture_85 ?_
    exact g_iret hc dX10_picture_88
  have ho := ho.2 c_6_4
  refine g_tsw (tgt := 89) hc 5 dX10_picture_6 ⟨by decide, by decide, rfl⟩ rfl (fun c_6_5 => ?_) (fun c_6_5 => ?_)
  · have ho := ho.1 c_6_5
    refine g_aload_n (i := 0) hc 0 dX10_picture_89 rfl rfl ?_
    refine gf_M_0_mask hc wtM_48 dX10_picture_90 ?_
    exact g_iret hc dX10_picture_93
  have ho := ho.2 c_6_5
  refine g_tsw (tgt := 94) hc 6 dX10_picture_6 ⟨by decide, by decide, rfl⟩ rfl (fun c_6_6 => ?_) (fun c_6_6 => ?_)
  · have ho := ho.1 c_6_6
    refine g_aload_n (i := 0) hc 0 dX10_picture_94 rfl rfl ?_
    refine gf_M_0_vblank hc wtM_33 dX10_picture_95 ?_
    exact g_iret hc dX10_picture_98
  have ho := ho.2 c_6_6
  refine g_tsw (tgt := 99) hc 7 dX10_picture_6 ⟨by decide, by decide, rfl⟩ rfl (fun c_6_7 => ?_) (fun c_6_7 => ?_)
  · have ho := ho.1 c_6_7
    refine g_aload_n (i := 0) hc 0 dX10_picture_99 rfl rfl ?_
    refine gf_M_0_oamAddress hc wtM_36 dX10_picture_100 ?_
    exact g_iret hc dX10_picture_103
  have ho := ho.2 c_6_7
  refine g_tsw (tgt := 104) hc 8 dX10_picture_6 ⟨by decide, by decide, rfl⟩ rfl (fun c_6_8 => ?_) (fun c_6_8 => ?_)
  · have ho := ho.1 c_6_8
    refine g_aload_n (i := 0) hc 0 dX10_picture_104 rfl rfl ?_
    refine gf_M_0_line hc wtM_115 dX10_picture_105 ?_
    exact g_iret hc dX10_picture_108
  have ho := ho.2 c_6_8
  refine g_tsw (tgt := 109) hc 9 dX10_picture_6 ⟨by decide, by decide, rfl⟩ rfl (fun c_6_9 => ?_) (fun c_6_9 => ?_)
  · have ho := ho.1 c_6_9
    refine g_aload_n (i := 0) hc 0 dX10_picture_109 rfl rfl ?_
    refine gf_M_0_dot hc wtM_114 dX10_picture_110 ?_
    exact g_iret hc dX10_picture_113
  have ho := ho.2 c_6_9
  refine g_tsw (tgt := 114) hc 10 dX10_picture_6 ⟨by decide, by decide, rfl⟩ rfl (fun c_6_10 => ?_) (fun c_6_10 => ?_)
  · have ho := ho.1 c_6_10
    refine g_aload_n (i := 0) hc 0 dX10_picture_114 rfl rfl ?_
    refine gf_M_0_buffer hc wtM_37 dX10_picture_115 ?_
    exact g_iret hc dX10_picture_118
  have ho := ho.2 c_6_10
  refine g_tswd (tgt := 119) hc dX10_picture_6 (by have := lv_neT c_6_0 (a := 0) (by decide); have := lv_neT c_6_1 (a := 1) (by decide); have := lv_neT c_6_2 (a := 2) (by decide); have := lv_neT c_6_3 (a := 3) (by decide); have := lv_neT c_6_4 (a := 4) (by decide); have := lv_neT c_6_5 (a := 5) (by decide); have := lv_neT c_6_6 (a := 6) (by decide); have := lv_neT c_6_7 (a := 7) (by decide); have := lv_neT c_6_8 (a := 8) (by decide); have := lv_neT c_6_9 (a := 9) (by decide); have := lv_neT c_6_10 (a := 10) (by decide); omega) rfl ?_
  refine g_aload_n (i := 0) hc 0 dX10_picture_119 rfl rfl ?_
  refine g_callVI hc 0 [] (fun l => c_X10_fail l η S1 ho.1) wtM_278 ge_X10_fail rfl ⟨rfl, rfl⟩ ⟨Nat.le_of_ble_eq_true rfl, Nat.le_of_ble_eq_true rfl⟩ rfl rfl rfl (Nat.le_of_ble_eq_true rfl) dX10_picture_120 (fun r2 S2 e2 f2 => ?_)
  have ho := ho.2 r2 S2 e2 f2
  exact g_iret hc dX10_picture_123

abbrev rm_X10_memory : Room := { frames := 2, cells := 0, slots := 0, locals := 45 }
def sp_X10_memory (a0 : Int32) (S : gSt) : Int32 × gSt := gL (sI S 0 0) (fun S1 => gB (sp_X10_seen a0 S1) (fun r2 S2 => (r2, S2)))
def ok_X10_memory (a0 : Int32) (S : gSt) : Prop := ∀ S1 : gSt, S1 = sI S 0 0 → (ok_X10_seen a0 S1 ∧ ∀ (r2 : Int32) (S2 : gSt), r2 = (sp_X10_seen a0 S1).1 → S2 = (sp_X10_seen a0 S1).2 → True)
set_option maxRecDepth 100000 in
set_option maxHeartbeats 4000000 in
theorem c_X10_memory (l : Launch) (η : gE) (a0 : Int32) (S : gSt) (ho : ok_X10_memory a0 S) : gMet l yX10_memory cX10_memory 2 (some .int) rm_X10_memory (oM η) [.ref (η.1 0), .int a0] S (oI (sp_X10_memory a0 S).1) (sp_X10_memory a0 S).2 := by
  refine gMet_of (X := sp_X10_memory a0 S) (lv := [(0, .ref (η.1 0)), (1, .int a0)]) oI zM_ok (by decide +kernel) (Nat.le_of_ble_eq_true rfl) rfl (fun κ hc => ?_)
  have hc : gC (oM η) κ cX10_memory 2 RX10 (some .int) rm_X10_memory := hc
  unfold sp_X10_memory
  unfold ok_X10_memory at ho
  refine g_aload_n (i := 0) hc 0 dX10_memory_0 rfl rfl ?_
  refine g_iconst (v := 0) hc dX10_memory_1 (by decide) ?_
  refine pf_M_0_code (v := 0) hc wtM_0 dX10_memory_2 (fun S1 f1 => ?_)
  have ho := ho S1 f1
  refine g_aload_n (i := 0) hc 0 dX10_memory_5 rfl rfl ?_
  refine g_iload_n (i := 1) hc 1 dX10_memory_6 rfl rfl ?_
  refine g_callVI hc 0 [.int a0] (fun l => c_X10_seen l η a0 S1 ho.1) wtM_41 ge_X10_seen rfl ⟨rfl, rfl⟩ ⟨Nat.le_of_ble_eq_true rfl, Nat.le_of_ble_eq_true rfl⟩ rfl rfl rfl (Nat.le_of_ble_eq_true rfl) dX10_memory_7 (fun r2 S2 e2 f2 => ?_)
  have ho := ho.2 r2 S2 e2 f2
  exact g_iret hc dX10_memory_10

abbrev rm_X10_oam : Room := { frames := 1, cells := 0, slots := 0, locals := 20 }
def sp_X10_oam (a0 : Int32) (S : gSt) : Int32 × gSt := gL (sI S 0 0) (fun S1 => (if a0 < 0 then gB (sp_X10_fail S1) (fun r2 S2 => (r2, S2)) else (if 255 < a0 then gB (sp_X10_fail S1) (fun r3 S3 => (r3, S3)) else ((aG S1 5 a0), S1))))
def ok_X10_oam (a0 : Int32) (S : gSt) : Prop := ∀ S1 : gSt, S1 = sI S 0 0 → ((a0 < 0 → (ok_X10_fail S1 ∧ ∀ (r2 : Int32) (S2 : gSt), r2 = (sp_X10_fail S1).1 → S2 = (sp_X10_fail S1).2 → True)) ∧ (¬ a0 < 0 → ((255 < a0 → (ok_X10_fail S1 ∧ ∀ (r3 : Int32) (S3 : gSt), r3 = (sp_X10_fail S1).1 → S3 = (sp_X10_fail S1).2 → True)) ∧ (¬ 255 < a0 → (vp_in a0 256 ∧ True)))))
set_option maxRecDepth 100000 in
set_option maxHeartbeats 4000000 in
theorem c_X10_oam (l : Launch) (η : gE) (a0 : Int32) (S : gSt) (ho : ok_X10_oam a0 S) : gMet l yX10_oam cX10_oam 2 (some .int) rm_X10_oam (oM η) [.ref (η.1 0), .int a0] S (oI (sp_X10_oam a0 S).1) (sp_X10_oam a0 S).2 := by
  refine gMet_of (X := sp_X10_oam a0 S) (lv := [(0, .ref (η.1 0)), (1, .int a0)]) oI zM_ok (by decide +kernel) (Nat.le_of_ble_eq_true rfl) rfl (fun κ hc => ?_)
  have hc : gC (oM η) κ cX10_oam 2 RX10 (some .int) rm_X10_oam := hc
  unfold sp_X10_oam
  unfold ok_X10_oam at ho
  refine g_aload_n (i := 0) hc 0 dX10_oam_0 rfl rfl ?_
  refine g_iconst (v := 0) hc dX10_oam_1 (by decide) ?_
  refine pf_M_0_code (v := 0) hc wtM_0 dX10_oam_2 (fun S1 f1 => ?_)
  have ho := ho S1 f1
  refine g_iload_n (i := 1) hc 1 dX10_oam_5 rfl rfl ?_
  refine g_iflt (tgt := 25) hc dX10_oam_6 rfl (fun c_6 => ?_) (fun c_6 => ?_)
  · have ho := ho.1 c_6
    refine g_aload_n (i := 0) hc 0 dX10_oam_25 rfl rfl ?_
    refine g_callVI hc 0 [] (fun l => c_X10_fail l η S1 ho.1) wtM_278 ge_X10_fail rfl ⟨rfl, rfl⟩ ⟨Nat.le_of_ble_eq_true rfl, Nat.le_of_ble_eq_true rfl⟩ rfl rfl rfl (Nat.le_of_ble_eq_true rfl) dX10_oam_26 (fun r2 S2 e2 f2 => ?_)
    have ho := ho.2 r2 S2 e2 f2
    exact g_iret hc dX10_oam_29
  · have ho := ho.2 c_6
    refine g_iload_n (i := 1) hc 1 dX10_oam_9 rfl rfl ?_
    refine g_sipush (v := 255) hc dX10_oam_10 (by decide) ?_
    refine g_icmpgt (tgt := 25) hc dX10_oam_13 rfl (fun c_13 => ?_) (fun c_13 => ?_)
    · have ho := ho.1 c_13
      refine g_aload_n (i := 0) hc 0 dX10_oam_25 rfl rfl ?_
      refine g_callVI hc 0 [] (fun l => c_X10_fail l η S1 ho.1) wtM_278 ge_X10_fail rfl ⟨rfl, rfl⟩ ⟨Nat.le_of_ble_eq_true rfl, Nat.le_of_ble_eq_true rfl⟩ rfl rfl rfl (Nat.le_of_ble_eq_true rfl) dX10_oam_26 (fun r3 S3 e3 f3 => ?_)
      have ho := ho.2 r3 S3 e3 f3
      exact g_iret hc dX10_oam_29
    · have ho := ho.2 c_13
      refine g_aload_n (i := 0) hc 0 dX10_oam_16 rfl rfl ?_
      refine gf_M_0_sprites hc wtM_35 dX10_oam_17 ?_
      refine g_iload_n (i := 1) hc 1 dX10_oam_20 rfl rfl ?_
      refine al_M_5 hc ho.1 dX10_oam_21 ?_
      have ho := ho.2
      refine g_goto (tgt := 29) hc dX10_oam_22 rfl ?_
      exact g_iret hc dX10_oam_29

abbrev rm_X10_cartridge : Room := { frames := 1, cells := 0, slots := 0, locals := 24 }
def sp_X10_cartridge (a0 : Int32) (S : gSt) : Int32 × gSt := gL (sI S 0 0) (fun S1 => (if a0 < 0 then gB (sp_X10_fail S1) (fun r2 S2 => (r2, S2)) else (if a0 ≤ 13 then (if 4 ≤ a0 then (if 12 ≤ a0 then (if a0 = 12 then ((S1.1 19), S1) else ((S1.1 28), S1)) else gB (sp_X10_chrBank (a0 - 4) S1) (fun r3 S3 => (r3, S3))) else gB (sp_X10_prgBank a0 S1) (fun r4 S4 => (r4, S4))) else gB (sp_X10_fail S1) (fun r5 S5 => (r5, S5)))))
def ok_X10_cartridge (a0 : Int32) (S : gSt) : Prop := ∀ S1 : gSt, S1 = sI S 0 0 → ((a0 < 0 → (ok_X10_fail S1 ∧ ∀ (r2 : Int32) (S2 : gSt), r2 = (sp_X10_fail S1).1 → S2 = (sp_X10_fail S1).2 → True)) ∧ (¬ a0 < 0 → ((a0 ≤ 13 → ((4 ≤ a0 → ((12 ≤ a0 → ((a0 = 12 → True) ∧ (¬ a0 = 12 → True))) ∧ (¬ 12 ≤ a0 → (ok_X10_chrBank (a0 - 4) S1 ∧ ∀ (r3 : Int32) (S3 : gSt), r3 = (sp_X10_chrBank (a0 - 4) S1).1 → S3 = (sp_X10_chrBank (a0 - 4) S1).2 → True)))) ∧ (¬ 4 ≤ a0 → (ok_X10_prgBank a0 S1 ∧ ∀ (r4 : Int32) (S4 : gSt), r4 = (sp_X10_prgBank a0 S1).1 → S4 = (sp_X10_prgBank a0 S1).2 → True)))) ∧ (¬ a0 ≤ 13 → (ok_X10_fail S1 ∧ ∀ (r5 : Int32) (S5 : gSt), r5 = (sp_X10_fail S1).1 → S5 = (sp_X10_fail S1).2 → True)))))
set_option maxRecDepth 100000 in
set_option maxHeartbeats 4000000 in
theorem c_X10_cartridge (l : Launch) (η : gE) (a0 : Int32) (S : gSt) (ho : ok_X10_cartridge a0 S) : gMet l yX10_cartridge cX10_cartridge 2 (some .int) rm_X10_cartridge (oM η) [.ref (η.1 0), .int a0] S (oI (sp_X10_cartridge a0 S).1) (sp_X10_cartridge a0 S).2 := by
  refine gMet_of (X := sp_X10_cartridge a0 S) (lv := [(0, .ref (η.1 0)), (1, .int a0)]) oI zM_ok (by decide +kernel) (Nat.le_of_ble_eq_true rfl) rfl (fun κ hc => ?_)
  have hc : gC (oM η) κ cX10_cartridge 2 RX10 (some .int) rm_X10_cartridge := hc
  unfold sp_X10_cartridge
  unfold ok_X10_cartridge at ho
  refine g_aload_n (i := 0) hc 0 dX10_cartridge_0 rfl rfl ?_
  refine g_iconst (v := 0) hc dX10_cartridge_1 (by decide) ?_
  refine pf_M_0_code (v := 0) hc wtM_0 dX10_cartridge_2 (fun S1 f1 => ?_)
  have ho := ho S1 f1
  refine g_iload_n (i := 1) hc 1 dX10_cartridge_5 rfl rfl ?_
  refine g_iflt (tgt := 15) hc dX10_cartridge_6 rfl (fun c_6 => ?_) (fun c_6 => ?_)
  · have ho := ho.1 c_6
    refine g_aload_n (i := 0) hc 0 dX10_cartridge_15 rfl rfl ?_
    refine g_callVI hc 0 [] (fun l => c_X10_fail l η S1 ho.1) wtM_278 ge_X10_fail rfl ⟨rfl, rfl⟩ ⟨Nat.le_of_ble_eq_true rfl, Nat.le_of_ble_eq_true rfl⟩ rfl rfl rfl (Nat.le_of_ble_eq_true rfl) dX10_cartridge_16 (fun r2 S2 e2 f2 => ?_)
    have ho := ho.2 r2 S2 e2 f2
    exact g_iret hc dX10_cartridge_19
  · have ho := ho.2 c_6
    refine g_iload_n (i := 1) hc 1 dX10_cartridge_9 rfl rfl ?_
    refine g_bipush (v := 13) hc dX10_cartridge_10 (by decide) ?_
    refine g_icmple (tgt := 20) hc dX10_cartridge_12 rfl (fun c_12 => ?_) (fun c_12 => ?_)
    · have ho := ho.1 c_12
      refine g_iload_n (i := 1) hc 1 dX10_cartridge_20 rfl rfl ?_
      refine g_iconst (v := 4) hc dX10_cartridge_21 (by decide) ?_
      refine g_icmpge (tgt := 31) hc dX10_cartridge_22 rfl (fun c_22 => ?_) (fun c_22 => ?_)
      · have ho := ho.1 c_22
        refine g_iload_n (i := 1) hc 1 dX10_cartridge_31 rfl rfl ?_
        refine g_bipush (v := 12) hc dX10_cartridge_32 (by decide) ?_
        refine g_icmpge (tgt := 47) hc dX10_cartridge_34 rfl (fun c_34 => ?_) (fun c_34 => ?_)
        · have ho := ho.1 c_34
          refine g_iload_n (i := 1) hc 1 dX10_cartridge_47 rfl rfl ?_
          refine g_bipush (v := 12) hc dX10_cartridge_48 (by decide) ?_
          refine g_icmpne (tgt := 60) hc dX10_cartridge_50 rfl (fun c_50 => ?_) (fun c_50 => ?_)
          · have ho := ho.1 c_50
            refine g_aload_n (i := 0) hc 0 dX10_cartridge_53 rfl rfl ?_
            refine gf_M_0_mirroring hc wtM_12 dX10_cartridge_54 ?_
            refine g_goto (tgt := 64) hc dX10_cartridge_57 rfl ?_
            exact g_iret hc dX10_cartridge_64
          · have ho := ho.2 c_50
            refine g_aload_n (i := 0) hc 0 dX10_cartridge_60 rfl rfl ?_
            refine gf_M_0_counter hc wtM_13 dX10_cartridge_61 ?_
            exact g_iret hc dX10_cartridge_64
        · have ho := ho.2 c_34
          refine g_aload_n (i := 0) hc 0 dX10_cartridge_37 rfl rfl ?_
          refine g_iload_n (i := 1) hc 1 dX10_cartridge_38 rfl rfl ?_
          refine g_iconst (v := 4) hc dX10_cartridge_39 (by decide) ?_
          refine g_isub hc dX10_cartridge_40 ?_
          refine g_callVI hc 0 [.int (a0 - 4)] (fun l => c_X10_chrBank l η (a0 - 4) S1 ho.1) wtM_30 ge_X10_chrBank rfl ⟨rfl, rfl⟩ ⟨Nat.le_of_ble_eq_true rfl, Nat.le_of_ble_eq_true rfl⟩ rfl rfl rfl (Nat.le_of_ble_eq_true rfl) dX10_cartridge_41 (fun r3 S3 e3 f3 => ?_)
          have ho := ho.2 r3 S3 e3 f3
          refine g_goto (tgt := 64) hc dX10_cartridge_44 rfl ?_
          exact g_iret hc dX10_cartridge_64
      · have ho := ho.2 c_22
        refine g_aload_n (i := 0) hc 0 dX10_cartridge_25 rfl rfl ?_
        refine g_iload_n (i := 1) hc 1 dX10_cartridge_26 rfl rfl ?_
        refine g_callVI hc 0 [.int a0] (fun l => c_X10_prgBank l η a0 S1 ho.1) wtM_65 ge_X10_prgBank rfl ⟨rfl, rfl⟩ ⟨Nat.le_of_ble_eq_true rfl, Nat.le_of_ble_eq_true rfl⟩ rfl rfl rfl (Nat.le_of_ble_eq_true rfl) dX10_cartridge_27 (fun r4 S4 e4 f4 => ?_)
        have ho := ho.2 r4 S4 e4 f4
        exact g_iret hc dX10_cartridge_30
    · have ho := ho.2 c_12
      refine g_aload_n (i := 0) hc 0 dX10_cartridge_15 rfl rfl ?_
      refine g_callVI hc 0 [] (fun l => c_X10_fail l η S1 ho.1) wtM_278 ge_X10_fail rfl ⟨rfl, rfl⟩ ⟨Nat.le_of_ble_eq_true rfl, Nat.le_of_ble_eq_true rfl⟩ rfl rfl rfl (Nat.le_of_ble_eq_true rfl) dX10_cartridge_16 (fun r5 S5 e5 f5 => ?_)
      have ho := ho.2 r5 S5 e5 f5
      exact g_iret hc dX10_cartridge_19

abbrev rm_X10_sound : Room := { frames := 1, cells := 0, slots := 0, locals := 20 }
def sp_X10_sound (a0 : Int32) (S : gSt) : Int32 × gSt := gL (sI S 0 0) (fun S1 => (if a0 < 0 then gB (sp_X10_fail S1) (fun r2 S2 => (r2, S2)) else (if a0 ≤ 4 then (if 4 ≤ a0 then ((S1.1 32), S1) else ((aG S1 9 a0), S1)) else gB (sp_X10_fail S1) (fun r3 S3 => (r3, S3)))))
def ok_X10_sound (a0 : Int32) (S : gSt) : Prop := ∀ S1 : gSt, S1 = sI S 0 0 → ((a0 < 0 → (ok_X10_fail S1 ∧ ∀ (r2 : Int32) (S2 : gSt), r2 = (sp_X10_fail S1).1 → S2 = (sp_X10_fail S1).2 → True)) ∧ (¬ a0 < 0 → ((a0 ≤ 4 → ((4 ≤ a0 → True) ∧ (¬ 4 ≤ a0 → (vp_in a0 4 ∧ True)))) ∧ (¬ a0 ≤ 4 → (ok_X10_fail S1 ∧ ∀ (r3 : Int32) (S3 : gSt), r3 = (sp_X10_fail S1).1 → S3 = (sp_X10_fail S1).2 → True)))))
set_option maxRecDepth 100000 in
set_option maxHeartbeats 4000000 in
theorem c_X10_sound (l : Launch) (η : gE) (a0 : Int32) (S : gSt) (ho : ok_X10_sound a0 S) : gMet l yX10_sound cX10_sound 2 (some .int) rm_X10_sound (oM η) [.ref (η.1 0), .int a0] S (oI (sp_X10_sound a0 S).1) (sp_X10_sound a0 S).2 := by
  refine gMet_of (X := sp_X10_sound a0 S) (lv := [(0, .ref (η.1 0)), (1, .int a0)]) oI zM_ok (by decide +kernel) (Nat.le_of_ble_eq_true rfl) rfl (fun κ hc => ?_)
  have hc : gC (oM η) κ cX10_sound 2 RX10 (some .int) rm_X10_sound := hc
  unfold sp_X10_sound
  unfold ok_X10_sound at ho
  refine g_aload_n (i := 0) hc 0 dX10_sound_0 rfl rfl ?_
  refine g_iconst (v := 0) hc dX10_sound_1 (by decide) ?_
  refine pf_M_0_code (v := 0) hc wtM_0 dX10_sound_2 (fun S1 f1 => ?_)
  have ho := ho S1 f1
  refine g_iload_n (i := 1) hc 1 dX10_sound_5 rfl rfl ?_
  refine g_iflt (tgt := 14) hc dX10_sound_6 rfl (fun c_6 => ?_) (fun c_6 => ?_)
  · have ho := ho.1 c_6
    refine g_aload_n (i := 0) hc 0 dX10_sound_14 rfl rfl ?_
    refine g_callVI hc 0 [] (fun l => c_X10_fail l η S1 ho.1) wtM_278 ge_X10_fail rfl ⟨rfl, rfl⟩ ⟨Nat.le_of_ble_eq_true rfl, Nat.le_of_ble_eq_true rfl⟩ rfl rfl rfl (Nat.le_of_ble_eq_true rfl) dX10_sound_15 (fun r2 S2 e2 f2 => ?_)
    have ho := ho.2 r2 S2 e2 f2
    exact g_iret hc dX10_sound_18
  · have ho := ho.2 c_6
    refine g_iload_n (i := 1) hc 1 dX10_sound_9 rfl rfl ?_
    refine g_iconst (v := 4) hc dX10_sound_10 (by decide) ?_
    refine g_icmple (tgt := 19) hc dX10_sound_11 rfl (fun c_11 => ?_) (fun c_11 => ?_)
    · have ho := ho.1 c_11
      refine g_iload_n (i := 1) hc 1 dX10_sound_19 rfl rfl ?_
      refine g_iconst (v := 4) hc dX10_sound_20 (by decide) ?_
      refine g_icmpge (tgt := 33) hc dX10_sound_21 rfl (fun c_21 => ?_) (fun c_21 => ?_)
      · have ho := ho.1 c_21
        refine g_aload_n (i := 0) hc 0 dX10_sound_33 rfl rfl ?_
        refine gf_M_0_frame hc wtM_92 dX10_sound_34 ?_
        exact g_iret hc dX10_sound_37
      · have ho := ho.2 c_21
        refine g_aload_n (i := 0) hc 0 dX10_sound_24 rfl rfl ?_
        refine gf_M_0_lengths hc wtM_54 dX10_sound_25 ?_
        refine g_iload_n (i := 1) hc 1 dX10_sound_28 rfl rfl ?_
        refine al_M_9 hc ho.1 dX10_sound_29 ?_
        have ho := ho.2
        refine g_goto (tgt := 37) hc dX10_sound_30 rfl ?_
        exact g_iret hc dX10_sound_37
    · have ho := ho.2 c_11
      refine g_aload_n (i := 0) hc 0 dX10_sound_14 rfl rfl ?_
      refine g_callVI hc 0 [] (fun l => c_X10_fail l η S1 ho.1) wtM_278 ge_X10_fail rfl ⟨rfl, rfl⟩ ⟨Nat.le_of_ble_eq_true rfl, Nat.le_of_ble_eq_true rfl⟩ rfl rfl rfl (Nat.le_of_ble_eq_true rfl) dX10_sound_15 (fun r3 S3 e3 f3 => ?_)
      have ho := ho.2 r3 S3 e3 f3
      exact g_iret hc dX10_sound_18
