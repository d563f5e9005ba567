abbrev rm_X10_count : Room := { frames := 0, cells := 0, slots := 0, locals := 0 }
def lp_X10_count_2 : Nat → Int32 → gSt → Unit × gSt
  | 0, _, S => ((), S)
  | n + 1, x1, S => (if 4 ≤ x1 then ((), S) else (if (aG S 9 x1) ≤ 0 then lp_X10_count_2 n (x1 + 1) S else (if (aG S 10 x1) = 0 then gL (aP S 9 x1 ((aG S 9 x1) - 1)) (fun S1 => lp_X10_count_2 n (x1 + 1) S1) else lp_X10_count_2 n (x1 + 1) S)))
def ok_lp_X10_count_2 : Nat → Int32 → gSt → Prop
  | 0, _, _ => True
  | n + 1, x1, S => ((4 ≤ x1 → True) ∧ (¬ 4 ≤ x1 → (((aG S 9 x1) ≤ 0 → ok_lp_X10_count_2 n (x1 + 1) S) ∧ (¬ (aG S 9 x1) ≤ 0 → (((aG S 10 x1) = 0 → ∀ S1 : gSt, S1 = aP S 9 x1 ((aG S 9 x1) - 1) → ok_lp_X10_count_2 n (x1 + 1) S1) ∧ (¬ (aG S 10 x1) = 0 → ok_lp_X10_count_2 n (x1 + 1) S))))))
def sp_X10_count  (S : gSt) : Unit × gSt := lp_X10_count_2 5 0 S
def ok_X10_count  (S : gSt) : Prop := ok_lp_X10_count_2 5 0 S
set_option maxRecDepth 100000 in
set_option maxHeartbeats 4000000 in
theorem g_lp_X10_count_2 {η : gE} {κ : gK} (hc : gC (oM η) κ cX10_count 2 RX10 none rm_X10_count) : ∀ (n : Nat) (x1 : Int32) (S : gSt), gJ 4 x1 n → ok_lp_X10_count_2 n x1 S → gG (oM η) κ 2 oV 2 [(0, .ref (η.1 0)), (1, .int x1)] [] S (lp_X10_count_2 n x1 S) := by
  intro n
  induction n with
  | zero => exact fun _ _ h _ => gJ_0 h
  | succ n ih =>
    intro x1 S hJ ho
    rw [lp_X10_count_2]
    rw [ok_lp_X10_count_2] at ho
    refine g_iload_n (i := 1) hc 1 dX10_count_2 rfl rfl ?_
    refine g_iconst (v := 4) hc dX10_count_3 (by decide) ?_
    refine g_icmpge (tgt := 41) hc dX10_count_4 rfl (fun c_4 => ?_) (fun c_4 => ?_)
    · have ho := ho.1 c_4
      exact g_vret hc dX10_count_41
    · have ho := ho.2 c_4
      refine g_aload_n (i := 0) hc 0 dX10_count_7 rfl rfl ?_
      refine gf_M_0_lengths hc wtM_54 dX10_count_8 ?_
      refine g_iload_n (i := 1) hc 1 dX10_count_11 rfl rfl ?_
      refine al_M_9 hc (gJ_in hJ c_4 rfl) dX10_count_12 ?_
      refine g_ifle (tgt := 35) hc dX10_count_13 rfl (fun c_13 => ?_) (fun c_13 => ?_)
      · have ho := ho.1 c_13
        refine g_iinc (i := 1) (v := 1) (lv' := [(1, .int (x1 + 1)), (0, .ref (η.1 0))]) hc 1 dX10_count_35 rfl (by decide) (by decide) rfl ?_
        refine g_goto (tgt := 2) hc dX10_count_38 rfl ?_
        exact g_lv [1, 0] rfl (ih _ _ (gJ_s hJ c_4) ho)
      · have ho := ho.2 c_13
        refine g_aload_n (i := 0) hc 0 dX10_count_16 rfl rfl ?_
        refine gf_M_0_halts hc wtM_55 dX10_count_17 ?_
        refine g_iload_n (i := 1) hc 1 dX10_count_20 rfl rfl ?_
        refine al_M_10 hc (gJ_in hJ c_4 rfl) dX10_count_21 ?_
        refine g_ifne (tgt := 35) hc dX10_count_22 rfl (fun c_22 => ?_) (fun c_22 => ?_)
        · have ho := ho.1 c_22
          refine g_aload_n (i := 0) hc 0 dX10_count_25 rfl rfl ?_
          refine gf_M_0_lengths hc wtM_54 dX10_count_26 ?_
          refine g_iload_n (i := 1) hc 1 dX10_count_29 rfl rfl ?_
          refine g_dup2 hc dX10_count_30 rfl rfl ?_
          refine al_M_9 hc (gJ_in hJ c_4 rfl) dX10_count_31 ?_
          refine g_iconst (v := 1) hc dX10_count_32 (by decide) ?_
          refine g_isub hc dX10_count_33 ?_
          refine as_M_9 hc (gJ_in hJ c_4 rfl) dX10_count_34 (fun S1 f1 => ?_)
          have ho := ho S1 f1
          refine g_iinc (i := 1) (v := 1) (lv' := [(1, .int (x1 + 1)), (0, .ref (η.1 0))]) hc 1 dX10_count_35 rfl (by decide) (by decide) rfl ?_
          refine g_goto (tgt := 2) hc dX10_count_38 rfl ?_
          exact g_lv [1, 0] rfl (ih _ _ (gJ_s hJ c_4) ho)
        · have ho := ho.2 c_22
          refine g_iinc (i := 1) (v := 1) (lv' := [(1, .int (x1 + 1)), (0, .ref (η.1 0))]) hc 1 dX10_count_35 rfl (by decide) (by decide) rfl ?_
          refine g_goto (tgt := 2) hc dX10_count_38 rfl ?_
          exact g_lv [1, 0] rfl (ih _ _ (gJ_s hJ c_4) ho)
set_option maxRecDepth 100000 in
set_option maxHeartbeats 4000000 in
theorem c_X10_count (l : Launch) (η : gE)  (S : gSt) (ho : ok_X10_count S) : gMet l yX10_count cX10_count 2 none rm_X10_count (oM η) [.ref (η.1 0)] S (oV (sp_X10_count S).1) (sp_X10_count S).2 := by
  refine gMet_of (X := sp_X10_count S) (lv := [(0, .ref (η.1 0))]) oV zM_ok (by decide +kernel) (Nat.le_of_ble_eq_true rfl) rfl (fun κ hc => ?_)
  have hc : gC (oM η) κ cX10_count 2 RX10 none rm_X10_count := hc
  unfold sp_X10_count
  unfold ok_X10_count at ho
  refine g_iconst (v := 0) hc dX10_count_0 (by decide) ?_
  refine g_istore_n (i := 1) (lv' := [(1, .int 0), (0, .ref (η.1 0))]) hc dX10_count_1 rfl (by decide) rfl ?_
  exact g_lv [1, 0] rfl (g_lp_X10_count_2 hc 5 _ _ (gJ_i (by decide) (by decide)) ho)

abbrev rm_X10_readSound : Room := { frames := 0, cells := 0, slots := 0, locals := 0 }
def lp_X10_readSound_16 : Nat → Int32 → Int32 → Int32 → gSt → Int32 × gSt
  | 0, _, _, _, S => (0, S)
  | n + 1, x1, x2, x3, S => (if 4 ≤ x3 then gL (sI S 31 0) (fun S1 => (x2, S1)) else (if (aG S 9 x3) ≤ 0 then lp_X10_readSound_16 n x1 (x2 ||| 0) (x3 + 1) S else lp_X10_readSound_16 n x1 (x2 ||| ((1 : Int32) <<< (x3 &&& (31 : Int32)))) (x3 + 1) S))
def ok_lp_X10_readSound_16 : Nat → Int32 → Int32 → Int32 → gSt → Prop
  | 0, _, _, _, _ => True
  | n + 1, x1, x2, x3, S => ((4 ≤ x3 → ∀ S1 : gSt, S1 = sI S 31 0 → True) ∧ (¬ 4 ≤ x3 → (((aG S 9 x3) ≤ 0 → ok_lp_X10_readSound_16 n x1 (x2 ||| 0) (x3 + 1) S) ∧ (¬ (aG S 9 x3) ≤ 0 → ok_lp_X10_readSound_16 n x1 (x2 ||| ((1 : Int32) <<< (x3 &&& (31 : Int32)))) (x3 + 1) S))))
def sp_X10_readSound (a0 : Int32) (S : gSt) : Int32 × gSt := (if a0 = 21 then lp_X10_readSound_16 5 a0 ((S.1 31) <<< ((6 : Int32) &&& (31 : Int32))) 0 S else (if 22 ≤ a0 then (if (S.1 33) = 1 then (((aG S 11 (a0 - 22)) &&& 1), S) else gL (aP S 12 (a0 - 22) (((aG S 12 (a0 - 22)) >>> ((1 : Int32) &&& (31 : Int32))) ||| 128)) (fun S2 => (((aG S 12 (a0 - 22)) &&& 1), S2))) else (0, S)))
def ok_X10_readSound (a0 : Int32) (S : gSt) : Prop := ((a0 = 21 → ok_lp_X10_readSound_16 5 a0 ((S.1 31) <<< ((6 : Int32) &&& (31 : Int32))) 0 S) ∧ (¬ a0 = 21 → ((22 ≤ a0 → (((S.1 33) = 1 → (vp_in (a0 - 22) 2 ∧ True)) ∧ (¬ (S.1 33) = 1 → (vp_in (a0 - 22) 2 ∧ (vp_in (a0 - 22) 2 ∧ (vp_in (a0 - 22) 2 ∧ ∀ S2 : gSt, S2 = aP S 12 (a0 - 22) (((aG S 12 (a0 - 22)) >>> ((1 : Int32) &&& (31 : Int32))) ||| 128) → True)))))) ∧ (¬ 22 ≤ a0 → True))))
set_option maxRecDepth 100000 in
set_option maxHeartbeats 4000000 in
theorem g_lp_X10_readSound_16 {η : gE} {κ : gK} (hc : gC (oM η) κ cX10_readSound 4 RX10 (some .int) rm_X10_readSound) : ∀ (n : Nat) (x1 : Int32) (x2 : Int32) (x3 : Int32) (S : gSt), gJ 4 x3 n → ok_lp_X10_readSound_16 n x1 x2 x3 S → gG (oM η) κ 4 oI 16 [(0, .ref (η.1 0)), (1, .int x1), (2, .int x2), (3, .int x3)] [] S (lp_X10_readSound_16 n x1 x2 x3 S) := by
  intro n
  induction n with
  | zero => exact fun _ _ _ _ h _ => gJ_0 h
  | succ n ih =>
    intro x1 x2 x3 S hJ ho
    rw [lp_X10_readSound_16]
    rw [ok_lp_X10_readSound_16] at ho
    refine g_iload_n (i := 3) hc 3 dX10_readSound_16 rfl rfl ?_
    refine g_iconst (v := 4) hc dX10_readSound_17 (by decide) ?_
    refine g_icmpge (tgt := 46) hc dX10_readSound_18 rfl (fun c_18 => ?_) (fun c_18 => ?_)
    · have ho := ho.1 c_18
      refine g_aload_n (i := 0) hc 0 dX10_readSound_46 rfl rfl ?_
      refine g_iconst (v := 0) hc dX10_readSound_47 (by decide) ?_
      refine pf_M_0_frameLine (v := 0) hc wtM_56 dX10_readSound_48 (fun S1 f1 => ?_)
      have ho := ho S1 f1
      refine g_iload_n (i := 2) hc 2 dX10_readSound_51 rfl rfl ?_
      exact g_iret hc dX10_readSound_52
    · have ho := ho.2 c_18
      refine g_iload_n (i := 2) hc 2 dX10_readSound_21 rfl rfl ?_
      refine g_aload_n (i := 0) hc 0 dX10_readSound_22 rfl rfl ?_
      refine gf_M_0_lengths hc wtM_54 dX10_readSound_23 ?_
      refine g_iload_n (i := 3) hc 3 dX10_readSound_26 rfl rfl ?_
      refine al_M_9 hc (gJ_in hJ c_18 rfl) dX10_readSound_27 ?_
      refine g_ifle (tgt := 37) hc dX10_readSound_28 rfl (fun c_28 => ?_) (fun c_28 => ?_)
      · have ho := ho.1 c_28
        refine g_iconst (v := 0) hc dX10_readSound_37 (by decide) ?_
        refine g_ior hc dX10_readSound_38 ?_
        refine g_istore_n (i := 2) (lv' := [(2, .int (x2 ||| 0)), (0, .ref (η.1 0)), (1, .int x1), (3, .int x3)]) hc dX10_readSound_39 rfl (by decide) rfl ?_
        refine g_iinc (i := 3) (v := 1) (lv' := [(3, .int (x3 + 1)), (2, .int (x2 ||| 0)), (0, .ref (η.1 0)), (1, .int x1)]) hc 3 dX10_readSound_40 rfl (by decide) (by decide) rfl ?_
        refine g_goto (tgt := 16) hc dX10_readSound_43 rfl ?_
        exact g_lv [2, 3, 1, 0] rfl (ih _ _ _ _ (gJ_s hJ c_18) ho)
      · have ho := ho.2 c_28
        refine g_iconst (v := 1) hc dX10_readSound_31 (by decide) ?_
        refine g_iload_n (i := 3) hc 3 dX10_readSound_32 rfl rfl ?_
        refine g_ishl hc dX10_readSound_33 ?_
        refine g_goto (tgt := 38) hc dX10_readSound_34 rfl ?_
        refine g_ior hc dX10_readSound_38 ?_
        refine g_istore_n (i := 2) (lv' := [(2, .int (x2 ||| ((1 : Int32) <<< (x3 &&& (31 : Int32))))), (0, .ref (η.1 0)), (1, .int x1), (3, .int x3)]) hc dX10_readSound_39 rfl (by decide) rfl ?_
        refine g_iinc (i := 3) (v := 1) (lv' := [(3, .int (x3 + 1)), (2, .int (x2 ||| ((1 : Int32) <<< (x3 &&& (31 : Int32))))), (0, .ref (η.1 0)), (1, .int x1)]) hc 3 dX10_readSound_40 rfl (by decide) (by decide) rfl ?_
        refine g_goto (tgt := 16) hc dX10_readSound_43 rfl ?_
        exact g_lv [2, 3, 1, 0] rfl (ih _ _ _ _ (gJ_s hJ c_18) ho)
set_option maxRecDepth 100000 in
set_option maxHeartbeats 4000000 in
theorem c_X10_readSound (l : Launch) (η : gE) (a0 : Int32) (S : gSt) (ho : ok_X10_readSound a0 S) : gMet l yX10_readSound cX10_readSound 4 (some .int) rm_X10_readSound (oM η) [.ref (η.1 0), .int a0] S (oI (sp_X10_readSound a0 S).1) (sp_X10_readSound a0 S).2 := by
  refine gMet_of (X := sp_X10_readSound a0 S) (lv := [(0, .ref (η.1 0)), (1, .int a0)]) oI zM_ok (by decide +kernel) (Nat.le_of_ble_eq_true rfl) rfl (fun κ hc => ?_)
  have hc : gC (oM η) κ cX10_readSound 4 RX10 (some .int) rm_X10_readSound := hc
  unfold sp_X10_readSound
  unfold ok_X10_readSound at ho
  refine g_iload_n (i := 1) hc 1 dX10_readSound_0 rfl rfl ?_
  refine g_bipush (v := 21) hc dX10_readSound_1 (by decide) ?_
  refine g_icmpne (tgt := 53) hc dX10_readSound_3 rfl (fun c_3 => ?_) (fun c_3 => ?_)
  · have ho := ho.1 c_3
    refine g_aload_n (i := 0) hc 0 dX10_readSound_6 rfl rfl ?_
    refine gf_M_0_frameLine hc wtM_56 dX10_readSound_7 ?_
    refine g_bipush (v := 6) hc dX10_readSound_10 (by decide) ?_
    refine g_ishl hc dX10_readSound_12 ?_
    refine g_istore_n (i := 2) (lv' := [(2, .int ((S.1 31) <<< ((6 : Int32) &&& (31 : Int32)))), (0, .ref (η.1 0)), (1, .int a0)]) hc dX10_readSound_13 rfl (by decide) rfl ?_
    refine g_iconst (v := 0) hc dX10_readSound_14 (by decide) ?_
    refine g_istore_n (i := 3) (lv' := [(3, .int 0), (2, .int ((S.1 31) <<< ((6 : Int32) &&& (31 : Int32)))), (0, .ref (η.1 0)), (1, .int a0)]) hc dX10_readSound_15 rfl (by decide) rfl ?_
    exact g_lv [2, 3, 1, 0] rfl (g_lp_X10_readSound_16 hc 5 _ _ _ _ (gJ_i (by decide) (by decide)) ho)
  · have ho := ho.2 c_3
    refine g_iload_n (i := 1) hc 1 dX10_readSound_53 rfl rfl ?_
    refine g_bipush (v := 22) hc dX10_readSound_54 (by decide) ?_
    refine g_icmpge (tgt := 61) hc dX10_readSound_56 rfl (fun c_56 => ?_) (fun c_56 => ?_)
    · have ho := ho.1 c_56
      refine g_iload_n (i := 1) hc 1 dX10_readSound_61 rfl rfl ?_
      refine g_bipush (v := 22) hc dX10_readSound_62 (by decide) ?_
      refine g_isub hc dX10_readSound_64 ?_
      refine g_istore_n (i := 2) (lv' := [(2, .int (a0 - 22)), (0, .ref (η.1 0)), (1, .int a0)]) hc dX10_readSound_65 rfl (by decide) rfl ?_
      refine g_aload_n (i := 0) hc 1 dX10_readSound_66 rfl rfl ?_
      refine gf_M_0_strobe hc wtM_57 dX10_readSound_67 ?_
      refine g_iconst (v := 1) hc dX10_readSound_70 (by decide) ?_
      refine g_icmpne (tgt := 83) hc dX10_readSound_71 rfl (fun c_71 => ?_) (fun c_71 => ?_)
      · have ho := ho.1 c_71
        refine g_aload_n (i := 0) hc 1 dX10_readSound_74 rfl rfl ?_
        refine gf_M_0_buttons hc wtM_58 dX10_readSound_75 ?_
        refine g_iload_n (i := 2) hc 0 dX10_readSound_78 rfl rfl ?_
        refine al_M_11 hc ho.1 dX10_readSound_79 ?_
        have ho := ho.2
        refine g_iconst (v := 1) hc dX10_readSound_80 (by decide) ?_
        refine g_iand hc dX10_readSound_81 ?_
        exact g_iret hc dX10_readSound_82
      · have ho := ho.2 c_71
        refine g_aload_n (i := 0) hc 1 dX10_readSound_83 rfl rfl ?_
        refine gf_M_0_taken hc wtM_59 dX10_readSound_84 ?_
        refine g_iload_n (i := 2) hc 0 dX10_readSound_87 rfl rfl ?_
        refine al_M_12 hc ho.1 dX10_readSound_88 ?_
        have ho := ho.2
        refine g_iconst (v := 1) hc dX10_readSound_89 (by decide) ?_
        refine g_iand hc dX10_readSound_90 ?_
        refine g_istore_n (i := 3) (lv' := [(3, .int ((aG S 12 (a0 - 22)) &&& 1)), (2, .int (a0 - 22)), (0, .ref (η.1 0)), (1, .int a0)]) hc dX10_readSound_91 rfl (by decide) rfl ?_
        refine g_aload_n (i := 0) hc 2 dX10_readSound_92 rfl rfl ?_
        refine gf_M_0_taken hc wtM_59 dX10_readSound_93 ?_
        refine g_iload_n (i := 2) hc 1 dX10_readSound_96 rfl rfl ?_
        refine g_aload_n (i := 0) hc 2 dX10_readSound_97 rfl rfl ?_
        refine gf_M_0_taken hc wtM_59 dX10_readSound_98 ?_
        refine g_iload_n (i := 2) hc 1 dX10_readSound_101 rfl rfl ?_
        refine al_M_12 hc ho.1 dX10_readSound_102 ?_
        have ho := ho.2
        refine g_iconst (v := 1) hc dX10_readSound_103 (by decide) ?_
        refine g_ishr hc dX10_readSound_104 ?_
        refine g_sipush (v := 128) hc dX10_readSound_105 (by decide) ?_
        refine g_ior hc dX10_readSound_108 ?_
        refine as_M_12 hc ho.1 dX10_readSound_109 (fun S2 f2 => ?_)
        have ho := ho.2
        have ho := ho S2 f2
        refine g_iload_n (i := 3) hc 0 dX10_readSound_110 rfl rfl ?_
        exact g_iret hc dX10_readSound_111
    · have ho := ho.2 c_56
      refine g_iconst (v := 0) hc dX10_readSound_59 (by decide) ?_
      exact g_iret hc dX10_readSound_60

abbrev rm_X10_get : Room := { frames := 3, cells := 0, slots := 0, locals := 68 }
def sp_X10_get (a0 : Int32) (S : gSt) : Int32 × gSt := (if 8192 ≤ a0 then (if 16384 ≤ a0 then (if 16408 ≤ a0 then (if a0 < 32768 then (if a0 < 24576 then (0, S) else ((aG S 2 (a0 &&& 255)), S)) else gB (sp_X10_prgBank ((a0 >>> ((13 : Int32) &&& (31 : Int32))) &&& 3) S) (fun r1 S1 => ((aG S1 3 ((64 * r1) + (a0 &&& 63))), S1))) else gB (sp_X10_readSound (a0 - 16384) S) (fun r2 S2 => (r2, S2))) else gB (sp_X10_readPicture (a0 &&& 7) S) (fun r3 S3 => (r3, S3))) else ((aG S 1 (a0 &&& 2047)), S))
def ok_X10_get (a0 : Int32) (S : gSt) : Prop := ((8192 ≤ a0 → ((16384 ≤ a0 → ((16408 ≤ a0 → ((a0 < 32768 → ((a0 < 24576 → True) ∧ (¬ a0 < 24576 → True))) ∧ (¬ a0 < 32768 → (ok_X10_prgBank ((a0 >>> ((13 : Int32) &&& (31 : Int32))) &&& 3) S ∧ ∀ (r1 : Int32) (S1 : gSt), r1 = (sp_X10_prgBank ((a0 >>> ((13 : Int32) &&& (31 : Int32))) &&& 3) S).1 → S1 = (sp_X10_prgBank ((a0 >>> ((13 : Int32) &&& (31 : Int32))) &&& 3) S).2 → (vp_in ((64 * r1) + (a0 &&& 63)) 512 ∧ True))))) ∧ (¬ 16408 ≤ a0 → (ok_X10_readSound (a0 - 16384) S ∧ ∀ (r2 : Int32) (S2 : gSt), r2 = (sp_X10_readSound (a0 - 16384) S).1 → S2 = (sp_X10_readSound (a0 - 16384) S).2 → True)))) ∧ (¬ 16384 ≤ a0 → (ok_X10_readPicture (a0 &&& 7) S ∧ ∀ (r3 : Int32) (S3 : gSt), r3 = (sp_X10_readPicture (a0 &&& 7) S).1 → S3 = (sp_X10_readPicture (a0 &&& 7) S).2 → True)))) ∧ (¬ 8192 ≤ a0 → True))
set_option maxRecDepth 100000 in
set_option maxHeartbeats 4000000 in
theorem c_X10_get (l : Launch) (η : gE) (a0 : Int32) (S : gSt) (ho : ok_X10_get a0 S) : gMet l yX10_get cX10_get 2 (some .int) rm_X10_get (oM η) [.ref (η.1 0), .int a0] S (oI (sp_X10_get a0 S).1) (sp_X10_get a0 S).2 := by
  refine gMet_of (X := sp_X10_get a0 S) (lv := [(0, .ref (η.1 0)), (1, .int a0)]) oI zM_ok (by decide +kernel) (Nat.le_of_ble_eq_true rfl) rfl (fun κ hc => ?_)
  have hc : gC (oM η) κ cX10_get 2 RX10 (some .int) rm_X10_get := hc
  unfold sp_X10_get
  unfold ok_X10_get at ho
  refine g_iload_n (i := 1) hc 1 dX10_get_0 rfl rfl ?_
  refine g_sipush (v := 8192) hc dX10_get_1 (by decide) ?_
  refine g_icmpge (tgt := 18) hc dX10_get_4 rfl (fun c_4 => ?_) (fun c_4 => ?_)
  · have ho := ho.1 c_4
    refine g_iload_n (i := 1) hc 1 dX10_get_18 rfl rfl ?_
    refine g_sipush (v := 16384) hc dX10_get_19 (by decide) ?_
    refine g_icmpge (tgt := 34) hc dX10_get_22 rfl (fun c_22 => ?_) (fun c_22 => ?_)
    · have ho := ho.1 c_22
      refine g_iload_n (i := 1) hc 1 dX10_get_34 rfl rfl ?_
      refine g_sipush (v := 16408) hc dX10_get_35 (by decide) ?_
      refine g_icmpge (tgt := 51) hc dX10_get_38 rfl (fun c_38 => ?_) (fun c_38 => ?_)
      · have ho := ho.1 c_38
        refine g_iload_n (i := 1) hc 1 dX10_get_51 rfl rfl ?_
        refine g_ldc (v := 32768) hc wtM_60 dX10_get_52 ?_
        refine g_icmplt (tgt := 81) hc dX10_get_54 rfl (fun c_54 => ?_) (fun c_54 => ?_)
        · have ho := ho.1 c_54
          refine g_iload_n (i := 1) hc 1 dX10_get_81 rfl rfl ?_
          refine g_sipush (v := 24576) hc dX10_get_82 (by decide) ?_
          refine g_icmplt (tgt := 101) hc dX10_get_85 rfl (fun c_85 => ?_) (fun c_85 => ?_)
          · have ho := ho.1 c_85
            refine g_iconst (v := 0) hc dX10_get_101 (by decide) ?_
            exact g_iret hc dX10_get_102
          · have ho := ho.2 c_85
            refine g_aload_n (i := 0) hc 0 dX10_get_88 rfl rfl ?_
            refine gf_M_0_own hc wtM_61 dX10_get_89 ?_
            refine g_iload_n (i := 1) hc 1 dX10_get_92 rfl rfl ?_
            refine g_sipush (v := 255) hc dX10_get_93 (by decide) ?_
            refine g_iand hc dX10_get_96 ?_
            refine al_M_2 hc (pk_andIn _ 8 (by decide) (by decide)) dX10_get_97 ?_
            refine g_goto (tgt := 102) hc dX10_get_98 rfl ?_
            exact g_iret hc dX10_get_102
        · have ho := ho.2 c_54
          refine g_aload_n (i := 0) hc 0 dX10_get_57 rfl rfl ?_
          refine gf_M_0_prg hc wtM_1 dX10_get_58 ?_
          refine g_bipush (v := 64) hc dX10_get_61 (by decide) ?_
          refine g_aload_n (i := 0) hc 0 dX10_get_63 rfl rfl ?_
          refine g_iload_n (i := 1) hc 1 dX10_get_64 rfl rfl ?_
          refine g_bipush (v := 13) hc dX10_get_65 (by decide) ?_
          refine g_ishr hc dX10_get_67 ?_
          refine g_iconst (v := 3) hc dX10_get_68 (by decide) ?_
          refine g_iand hc dX10_get_69 ?_
          refine g_callVI hc 0 [.int ((a0 >>> ((13 : Int32) &&& (31 : Int32))) &&& 3)] (fun l => c_X10_prgBank l η ((a0 >>> ((13 : Int32) &&& (31 : Int32))) &&& 3) S ho.1) wtM_65 ge_X10_prgBank rfl ⟨rfl, rfl⟩ ⟨Nat.le_of_ble_eq_true rfl, Nat.le_of_ble_eq_true rfl⟩ rfl rfl rfl (Nat.le_of_ble_eq_true rfl) dX10_get_70 (fun r1 S1 e1 f1 => ?_)
          have ho := ho.2 r1 S1 e1 f1
          refine g_imul hc dX10_get_73 ?_
          refine g_iload_n (i := 1) hc 1 dX10_get_74 rfl rfl ?_
          refine g_bipush (v := 63) hc dX10_get_75 (by decide) ?_
          refine g_iand hc dX10_get_77 ?_
          refine g_iadd hc dX10_get_78 ?_
          refine al_M_3 hc ho.1 dX10_get_79 ?_
          have ho := ho.2
          exact g_iret hc dX10_get_80
      · have ho := ho.2 c_38
        refine g_aload_n (i := 0) hc 0 dX10_get_41 rfl rfl ?_
        refine g_iload_n (i := 1) hc 1 dX10_get_42 rfl rfl ?_
        refine g_sipush (v := 16384) hc dX10_get_43 (by decide) ?_
        refine g_isub hc dX10_get_46 ?_
        refine g_callVI hc 0 [.int (a0 - 16384)] (fun l => c_X10_readSound l η (a0 - 16384) S ho.1) wtM_69 ge_X10_readSound rfl ⟨rfl, rfl⟩ ⟨Nat.le_of_ble_eq_true rfl, Nat.le_of_ble_eq_true rfl⟩ rfl rfl rfl (Nat.le_of_ble_eq_true rfl) dX10_get_47 (fun r2 S2 e2 f2 => ?_)
        have ho := ho.2 r2 S2 e2 f2
        exact g_iret hc dX10_get_50
    · have ho := ho.2 c_22
      refine g_aload_n (i := 0) hc 0 dX10_get_25 rfl rfl ?_
      refine g_iload_n (i := 1) hc 1 dX10_get_26 rfl rfl ?_
      refine g_bipush (v := 7) hc dX10_get_27 (by decide) ?_
      refine g_iand hc dX10_get_29 ?_
      refine g_callVI hc 0 [.int (a0 &&& 7)] (fun l => c_X10_readPicture l η (a0 &&& 7) S ho.1) wtM_73 ge_X10_readPicture rfl ⟨rfl, rfl⟩ ⟨Nat.le_of_ble_eq_true rfl, Nat.le_of_ble_eq_true rfl⟩ rfl rfl rfl (Nat.le_of_ble_eq_true rfl) dX10_get_30 (fun r3 S3 e3 f3 => ?_)
      have ho := ho.2 r3 S3 e3 f3
      exact g_iret hc dX10_get_33
  · have ho := ho.2 c_4
    refine g_aload_n (i := 0) hc 0 dX10_get_7 rfl rfl ?_
    refine gf_M_0_ram hc wtM_74 dX10_get_8 ?_
    refine g_iload_n (i := 1) hc 1 dX10_get_11 rfl rfl ?_
    refine g_sipush (v := 2047) hc dX10_get_12 (by decide) ?_
    refine g_iand hc dX10_get_15 ?_
    refine al_M_1 hc (pk_andIn _ 11 (by decide) (by decide)) dX10_get_16 ?_
    exact g_iret hc dX10_get_17

abbrev rm_X10_dma : Room := { frames := 4, cells := 0, slots := 0, locals := 89 }
def lp_X10_dma_2 : Nat → Int32 → Int32 → gSt → Unit × gSt
  | 0, _, _, S => ((), S)
  | n + 1, x1, x2, S => (if 256 ≤ x2 then gL (sI S 7 ((S.1 7) + (513 + (((S.2.2.1 0) &&& 1)).toInt32))) (fun S1 => ((), S1)) else gB (sp_X10_get ((256 * x1) + x2) S) (fun r2 S2 => gB (sp_X10_writePicture 4 r2 S2) (fun (_ : Unit) S3 => lp_X10_dma_2 n x1 (x2 + 1) S3)))
def ok_lp_X10_dma_2 : Nat → Int32 → Int32 → gSt → Prop
  | 0, _, _, _ => True
  | n + 1, x1, x2, S => ((256 ≤ x2 → ∀ S1 : gSt, S1 = sI S 7 ((S.1 7) + (513 + (((S.2.2.1 0) &&& 1)).toInt32)) → True) ∧ (¬ 256 ≤ x2 → (ok_X10_get ((256 * x1) + x2) S ∧ ∀ (r2 : Int32) (S2 : gSt), r2 = (sp_X10_get ((256 * x1) + x2) S).1 → S2 = (sp_X10_get ((256 * x1) + x2) S).2 → (ok_X10_writePicture 4 r2 S2 ∧ ∀ (r3 : Unit) (S3 : gSt), r3 = (sp_X10_writePicture 4 r2 S2).1 → S3 = (sp_X10_writePicture 4 r2 S2).2 → ok_lp_X10_dma_2 n x1 (x2 + 1) S3))))
def sp_X10_dma (a0 : Int32) (S : gSt) : Unit × gSt := lp_X10_dma_2 257 a0 0 S
def ok_X10_dma (a0 : Int32) (S : gSt) : Prop := ok_lp_X10_dma_2 257 a0 0 S
set_option maxRecDepth 100000 in
set_option maxHeartbeats 4000000 in
theorem g_lp_X10_dma_2 {η : gE} {κ : gK} (hc : gC (oM η) κ cX10_dma 4 RX10 none rm_X10_dma) : ∀ (n : Nat) (x1 : Int32) (x2 : Int32) (S : gSt), gJ 256 x2 n → ok_lp_X10_dma_2 n x1 x2 S → gG (oM η) κ 4 oV 2 [(0, .ref (η.1 0)), (1, .int x1), (2, .int x2)] [] S (lp_X10_dma_2 n x1 x2 S) := by
  intro n
  induction n with
  | zero => exact fun _ _ _ h _ => gJ_0 h
  | succ n ih =>
    intro x1 x2 S hJ ho
    rw [lp_X10_dma_2]
    rw [ok_lp_X10_dma_2] at ho
    refine g_iload_n (i := 2) hc 2 dX10_dma_2 rfl rfl ?_
    refine g_sipush (v := 256) hc dX10_dma_3 (by decide) ?_
    refine g_icmpge (tgt := 33) hc dX10_dma_6 rfl (fun c_6 => ?_) (fun c_6 => ?_)
    · have ho := ho.1 c_6
      refine g_aload_n (i := 0) hc 0 dX10_dma_33 rfl rfl ?_
      refine g_dup hc dX10_dma_34 rfl ?_
      refine gf_M_0_spent hc wtM_75 dX10_dma_35 ?_
      refine g_sipush (v := 513) hc dX10_dma_38 (by decide) ?_
      refine g_aload_n (i := 0) hc 0 dX10_dma_41 rfl rfl ?_
      refine gf_M_0_gone hc wtM_76 dX10_dma_42 ?_
      refine g_lconst (v := 1) hc dX10_dma_45 rfl ?_
      refine g_land hc dX10_dma_46 ?_
      refine g_l2i hc dX10_dma_47 ?_
      refine g_iadd hc dX10_dma_48 ?_
      refine g_iadd hc dX10_dma_49 ?_
      refine pf_M_0_spent (v := ((S.1 7) + (513 + (((S.2.2.1 0) &&& 1)).toInt32))) hc wtM_75 dX10_dma_50 (fun S1 f1 => ?_)
      have ho := ho S1 f1
      exact g_vret hc dX10_dma_53
    · have ho := ho.2 c_6
      refine g_aload_n (i := 0) hc 0 dX10_dma_9 rfl rfl ?_
      refine g_sipush (v := 256) hc dX10_dma_10 (by decide) ?_
      refine g_iload_n (i := 1) hc 1 dX10_dma_13 rfl rfl ?_
      refine g_imul hc dX10_dma_14 ?_
      refine g_iload_n (i := 2) hc 2 dX10_dma_15 rfl rfl ?_
      refine g_iadd hc dX10_dma_16 ?_
      refine g_callVI hc 0 [.int ((256 * x1) + x2)] (fun l => c_X10_get l η ((256 * x1) + x2) S ho.1) wtM_80 ge_X10_get rfl ⟨rfl, rfl⟩ ⟨Nat.le_of_ble_eq_true rfl, Nat.le_of_ble_eq_true rfl⟩ rfl rfl rfl (Nat.le_of_ble_eq_true rfl) dX10_dma_17 (fun r2 S2 e2 f2 => ?_)
      have ho := ho.2 r2 S2 e2 f2
      refine g_istore_n (i := 3) (lv' := [(3, .int r2), (0, .ref (η.1 0)), (1, .int x1), (2, .int x2)]) hc dX10_dma_20 rfl (by decide) rfl ?_
      refine g_aload_n (i := 0) hc 1 dX10_dma_21 rfl rfl ?_
      refine g_iconst (v := 4) hc dX10_dma_22 (by decide) ?_
      refine g_iload_n (i := 3) hc 0 dX10_dma_23 rfl rfl ?_
      refine g_callVV hc 0 [.int 4, .int r2] (fun l => c_X10_writePicture l η 4 r2 S2 ho.1) wtM_84 ge_X10_writePicture rfl ⟨rfl, rfl⟩ ⟨Nat.le_of_ble_eq_true rfl, Nat.le_of_ble_eq_true rfl⟩ rfl rfl rfl (Nat.le_of_ble_eq_true rfl) dX10_dma_24 (fun r3 S3 e3 f3 => ?_)
      have ho := ho.2 r3 S3 e3 f3
      refine g_iinc (i := 2) (v := 1) (lv' := [(2, .int (x2 + 1)), (3, .int r2), (0, .ref (η.1 0)), (1, .int x1)]) hc 3 dX10_dma_27 rfl (by decide) (by decide) rfl ?_
      refine g_goto (tgt := 2) hc dX10_dma_30 rfl ?_
      exact g_lv [2, 3, 0] rfl (ih _ _ _ (gJ_s hJ c_6) ho)
set_option maxRecDepth 100000 in
set_option maxHeartbeats 4000000 in
theorem c_X10_dma (l : Launch) (η : gE) (a0 : Int32) (S : gSt) (ho : ok_X10_dma a0 S) : gMet l yX10_dma cX10_dma 4 none rm_X10_dma (oM η) [.ref (η.1 0), .int a0] S (oV (sp_X10_dma a0 S).1) (sp_X10_dma a0 S).2 := by
  refine gMet_of (X := sp_X10_dma a0 S) (lv := [(0, .ref (η.1 0)), (1, .int a0)]) oV zM_ok (by decide +kernel) (Nat.le_of_ble_eq_true rfl) rfl (fun κ hc => ?_)
  have hc : gC (oM η) κ cX10_dma 4 RX10 none rm_X10_dma := hc
  unfold sp_X10_dma
  unfold ok_X10_dma at ho
  refine g_iconst (v := 0) hc dX10_dma_0 (by decide) ?_
  refine g_istore_n (i := 2) (lv' := [(2, .int 0), (0, .ref (η.1 0)), (1, .int a0)]) hc dX10_dma_1 rfl (by decide) rfl ?_
  exact g_lv [1, 2, 0] rfl (g_lp_X10_dma_2 hc 257 _ _ _ (gJ_i (by decide) (by decide)) ho)

abbrev rm_X10_writeSound : Room := { frames := 5, cells := 0, slots := 0, locals := 112 }
def lp_X10_writeSound_110 : Nat → Int32 → Int32 → Int32 → Int32 → gSt → Unit × gSt
  | 0, _, _, _, _, S => ((), S)
  | n + 1, x1, x2, x3, x4, S => (if 4 ≤ x4 then ((), S) else (if ((x2 >>> (x4 &&& (31 : Int32))) &&& 1) = 0 then gL (aP S 9 x4 0) (fun S3 => lp_X10_writeSound_110 n x1 x2 x3 (x4 + 1) S3) else gL (aP S 9 x4 (aG S 9 x4)) (fun S4 => lp_X10_writeSound_110 n x1 x2 x3 (x4 + 1) S4)))
def ok_lp_X10_writeSound_110 : Nat → Int32 → Int32 → Int32 → Int32 → gSt → Prop
  | 0, _, _, _, _, _ => True
  | n + 1, x1, x2, x3, x4, S => ((4 ≤ x4 → True) ∧ (¬ 4 ≤ x4 → ((((x2 >>> (x4 &&& (31 : Int32))) &&& 1) = 0 → ∀ S3 : gSt, S3 = aP S 9 x4 0 → ok_lp_X10_writeSound_110 n x1 x2 x3 (x4 + 1) S3) ∧ (¬ ((x2 >>> (x4 &&& (31 : Int32))) &&& 1) = 0 → ∀ S4 : gSt, S4 = aP S 9 x4 (aG S 9 x4) → ok_lp_X10_writeSound_110 n x1 x2 x3 (x4 + 1) S4))))
def lp_X10_writeSound_161 : Nat → Int32 → Int32 → Int32 → Int32 → gSt → Unit × gSt
  | 0, _, _, _, _, S => ((), S)
  | n + 1, x1, x2, x3, x4, S => (if 2 ≤ x4 then gL (sI S 33 (x2 &&& 1)) (fun S5 => ((), S5)) else (if (S.1 33) = 1 then (if (x2 &&& 1) = 0 then gL (aP S 12 x4 (aG S 11 x4)) (fun S6 => lp_X10_writeSound_161 n x1 x2 x3 (x4 + 1) S6) else gL (aP S 12 x4 (aG S 12 x4)) (fun S7 => lp_X10_writeSound_161 n x1 x2 x3 (x4 + 1) S7)) else gL (aP S 12 x4 (aG S 12 x4)) (fun S8 => lp_X10_writeSound_161 n x1 x2 x3 (x4 + 1) S8)))
def ok_lp_X10_writeSound_161 : Nat → Int32 → Int32 → Int32 → Int32 → gSt → Prop
  | 0, _, _, _, _, _ => True
  | n + 1, x1, x2, x3, x4, S => ((2 ≤ x4 → ∀ S5 : gSt, S5 = sI S 33 (x2 &&& 1) → True) ∧ (¬ 2 ≤ x4 → (((S.1 33) = 1 → (((x2 &&& 1) = 0 → ∀ S6 : gSt, S6 = aP S 12 x4 (aG S 11 x4) → ok_lp_X10_writeSound_161 n x1 x2 x3 (x4 + 1) S6) ∧ (¬ (x2 &&& 1) = 0 → ∀ S7 : gSt, S7 = aP S 12 x4 (aG S 12 x4) → ok_lp_X10_writeSound_161 n x1 x2 x3 (x4 + 1) S7))) ∧ (¬ (S.1 33) = 1 → ∀ S8 : gSt, S8 = aP S 12 x4 (aG S 12 x4) → ok_lp_X10_writeSound_161 n x1 x2 x3 (x4 + 1) S8))))
def jn_X10_writeSound_45 (x1 : Int32) (x2 : Int32) (x3 : Int32) (S : gSt) : Unit × gSt := (if (x1 &&& 3) = 3 then (if (((S.1 30) >>> (x3 &&& (31 : Int32))) &&& 1) = 1 then gB (sp_X10_lengthOf (x2 >>> ((3 : Int32) &&& (31 : Int32))) S) (fun r40 S40 => gL (aP S40 9 x3 r40) (fun S41 => ((), S41))) else ((), S)) else ((), S))
def ok_jn_X10_writeSound_45 (x1 : Int32) (x2 : Int32) (x3 : Int32) (S : gSt) : Prop := (((x1 &&& 3) = 3 → (((((S.1 30) >>> (x3 &&& (31 : Int32))) &&& 1) = 1 → (ok_X10_lengthOf (x2 >>> ((3 : Int32) &&& (31 : Int32))) S ∧ ∀ (r40 : Int32) (S40 : gSt), r40 = (sp_X10_lengthOf (x2 >>> ((3 : Int32) &&& (31 : Int32))) S).1 → S40 = (sp_X10_lengthOf (x2 >>> ((3 : Int32) &&& (31 : Int32))) S).2 → (vp_in x3 4 ∧ ∀ S41 : gSt, S41 = aP S40 9 x3 r40 → True))) ∧ (¬ (((S.1 30) >>> (x3 &&& (31 : Int32))) &&& 1) = 1 → True))) ∧ (¬ (x1 &&& 3) = 3 → True))
def sp_X10_writeSound (a0 : Int32) (a1 : Int32) (S : gSt) : Unit × gSt := (if 16 ≤ a0 then (if a0 = 20 then gB (sp_X10_dma a1 S) (fun (_ : Unit) S1 => ((), S1)) else (if a0 = 21 then gL (sI S 30 (a1 &&& 15)) (fun S2 => lp_X10_writeSound_110 5 a0 a1 (a0 >>> ((2 : Int32) &&& (31 : Int32))) 0 S2) else (if a0 = 22 then lp_X10_writeSound_161 3 a0 a1 (a0 >>> ((2 : Int32) &&& (31 : Int32))) 0 S else (if a0 = 23 then (if (a1 &&& 128) = 0 then gL (sZ S 4 false) (fun S9 => (if (a1 &&& 64) = 0 then gL (sZ S9 5 false) (fun S10 => (if (bI (S10.2.1 5)) = 0 then gL (sI S10 31 (S10.1 31)) (fun S11 => gL (sI S11 32 0) (fun S12 => (if (bI (S12.2.1 4)) = 0 then ((), S12) else gB (sp_X10_count S12) (fun (_ : Unit) S13 => ((), S13))))) else gL (sI S10 31 0) (fun S14 => gL (sI S14 32 0) (fun S15 => (if (bI (S15.2.1 4)) = 0 then ((), S15) else gB (sp_X10_count S15) (fun (_ : Unit) S16 => ((), S16))))))) else gL (sZ S9 5 true) (fun S17 => (if (bI (S17.2.1 5)) = 0 then gL (sI S17 31 (S17.1 31)) (fun S18 => gL (sI S18 32 0) (fun S19 => (if (bI (S19.2.1 4)) = 0 then ((), S19) else gB (sp_X10_count S19) (fun (_ : Unit) S20 => ((), S20))))) else gL (sI S17 31 0) (fun S21 => gL (sI S21 32 0) (fun S22 => (if (bI (S22.2.1 4)) = 0 then ((), S22) else gB (sp_X10_count S22) (fun (_ : Unit) S23 => ((), S23))))))))) else gL (sZ S 4 true) (fun S24 => (if (a1 &&& 64) = 0 then gL (sZ S24 5 false) (fun S25 => (if (bI (S25.2.1 5)) = 0 then gL (sI S25 31 (S25.1 31)) (fun S26 => gL (sI S26 32 0) (fun S27 => (if (bI (S27.2.1 4)) = 0 then ((), S27) else gB (sp_X10_count S27) (fun (_ : Unit) S28 => ((), S28))))) else gL (sI S25 31 0) (fun S29 => gL (sI S29 32 0) (fun S30 => (if (bI (S30.2.1 4)) = 0 then ((), S30) else gB (sp_X10_count S30) (fun (_ : Unit) S31 => ((), S31))))))) else gL (sZ S24 5 true) (fun S32 => (if (bI (S32.2.1 5)) = 0 then gL (sI S32 31 (S32.1 31)) (fun S33 => gL (sI S33 32 0) (fun S34 => (if (bI (S34.2.1 4)) = 0 then ((), S34) else gB (sp_X10_count S34) (fun (_ : Unit) S35 => ((), S35))))) else gL (sI S32 31 0) (fun S36 => gL (sI S36 32 0) (fun S37 => (if (bI (S37.2.1 4)) = 0 then ((), S37) else gB (sp_X10_count S37) (fun (_ : Unit) S38 => ((), S38)))))))))) else ((), S))))) else (if (a0 &&& 3) = 0 then (if (a0 >>> ((2 : Int32) &&& (31 : Int32))) = 2 then (if (a1 &&& 128) = 0 then gL (aP S 10 (a0 >>> ((2 : Int32) &&& (31 : Int32))) 0) (fun S39 => jn_X10_writeSound_45 a0 a1 (a0 >>> ((2 : Int32) &&& (31 : Int32))) S39) else gL (aP S 10 (a0 >>> ((2 : Int32) &&& (31 : Int32))) 1) (fun S42 => jn_X10_writeSound_45 a0 a1 (a0 >>> ((2 : Int32) &&& (31 : Int32))) S42)) else (if (a1 &&& 32) = 0 then gL (aP S 10 (a0 >>> ((2 : Int32) &&& (31 : Int32))) 0) (fun S43 => jn_X10_writeSound_45 a0 a1 (a0 >>> ((2 : Int32) &&& (31 : Int32))) S43) else gL (aP S 10 (a0 >>> ((2 : Int32) &&& (31 : Int32))) 1) (fun S44 => jn_X10_writeSound_45 a0 a1 (a0 >>> ((2 : Int32) &&& (31 : Int32))) S44))) else jn_X10_writeSound_45 a0 a1 (a0 >>> ((2 : Int32) &&& (31 : Int32))) S))
def ok_X10_writeSound (a0 : Int32) (a1 : Int32) (S : gSt) : Prop := ((16 ≤ a0 → ((a0 = 20 → (ok_X10_dma a1 S ∧ ∀ (r1 : Unit) (S1 : gSt), r1 = (sp_X10_dma a1 S).1 → S1 = (sp_X10_dma a1 S).2 → True)) ∧ (¬ a0 = 20 → ((a0 = 21 → ∀ S2 : gSt, S2 = sI S 30 (a1 &&& 15) → ok_lp_X10_writeSound_110 5 a0 a1 (a0 >>> ((2 : Int32) &&& (31 : Int32))) 0 S2) ∧ (¬ a0 = 21 → ((a0 = 22 → ok_lp_X10_writeSound_161 3 a0 a1 (a0 >>> ((2 : Int32) &&& (31 : Int32))) 0 S) ∧ (¬ a0 = 22 → ((a0 = 23 → (((a1 &&& 128) = 0 → ∀ S9 : gSt, S9 = sZ S 4 false → (((a1 &&& 64) = 0 → ∀ S10 : gSt, S10 = sZ S9 5 false → (((bI (S10.2.1 5)) = 0 → ∀ S11 : gSt, S11 = sI S10 31 (S10.1 31) → ∀ S12 : gSt, S12 = sI S11 32 0 → (((bI (S12.2.1 4)) = 0 → True) ∧ (¬ (bI (S12.2.1 4)) = 0 → (ok_X10_count S12 ∧ ∀ (r13 : Unit) (S13 : gSt), r13 = (sp_X10_count S12).1 → S13 = (sp_X10_count S12).2 → True)))) ∧ (¬ (bI (S10.2.1 5)) = 0 → ∀ S14 : gSt, S14 = sI S10 31 0 → ∀ S15 : gSt, S15 = sI S14 32 0 → (((bI (S15.2.1 4)) = 0 → True) ∧ (¬ (bI (S15.2.1 4)) = 0 → (ok_X10_count S15 ∧ ∀ (r16 : Unit) (S16 : gSt), r16 = (sp_X10_count S15).1 → S16 = (sp_X10_count S15).2 → True)))))) ∧ (¬ (a1 &&& 64) = 0 → ∀ S17 : gSt, S17 = sZ S9 5 true → (((bI (S17.2.1 5)) = 0 → ∀ S18 : gSt, S18 = sI S17 31 (S17.1 31) → ∀ S19 : gSt, S19 = sI S18 32 0 → (((bI (S19.2.1 4)) = 0 → True) ∧ (¬ (bI (S19.2.1 4)) = 0 → (ok_X10_count S19 ∧ ∀ (r20 : Unit) (S20 : gSt), r20 = (sp_X10_count S19).1 → S20 = (sp_X10_count S19).2 → True)))) ∧ (¬ (bI (S17.2.1 5)) = 0 → ∀ S21 : gSt, S21 = sI S17 31 0 → ∀ S22 : gSt, S22 = sI S21 32 0 → (((bI (S22.2.1 4)) = 0 → True) ∧ (¬ (bI (S22.2.1 4)) = 0 → (ok_X10_count S22 ∧ ∀ (r23 : Unit) (S23 : gSt), r23 = (sp_X10_count S22).1 → S23 = (sp_X10_count S22).2 → True)))))))) ∧ (¬ (a1 &&& 128) = 0 → ∀ S24 : gSt, S24 = sZ S 4 true → (((a1 &&& 64) = 0 → ∀ S25 : gSt, S25 = sZ S24 5 false → (((bI (S25.2.1 5)) = 0 → ∀ S26 : gSt, S26 = sI S25 31 (S25.1 31) → ∀ S27 : gSt, S27 = sI S26 32 0 → (((bI (S27.2.1 4)) = 0 → True) ∧ (¬ (bI (S27.2.1 4)) = 0 → (ok_X10_count S27 ∧ ∀ (r28 : Unit) (S28 : gSt), r28 = (sp_X10_count S27).1 → S28 = (sp_X10_count S27).2 → True)))) ∧ (¬ (bI (S25.2.1 5)) = 0 → ∀ S29 : gSt, S29 = sI S25 31 0 → ∀ S30 : gSt, S30 = sI S29 32 0 → (((bI (S30.2.1 4)) = 0 → True) ∧ (¬ (bI (S30.2.1 4)) = 0 → (ok_X10_count S30 ∧ ∀ (r31 : Unit) (S31 : gSt), r31 = (sp_X10_count S30).1 → S31 = (sp_X10_count S30).2 → True)))))) ∧ (¬ (a1 &&& 64) = 0 → ∀ S32 : gSt, S32 = sZ S24 5 true → (((bI (S32.2.1 5)) = 0 → ∀ S33 : gSt, S33 = sI S32 31 (S32.1 31) → ∀ S34 : gSt, S34 = sI S33 32 0 → (((bI (S34.2.1 4)) = 0 → True) ∧ (¬ (bI (S34.2.1 4)) = 0 → (ok_X10_count S34 ∧ ∀ (r35 : Unit) (S35 : gSt), r35 = (sp_X10_count S34).1 → S35 = (sp_X10_count S34).2 → True)))) ∧ (¬ (bI (S32.2.1 5)) = 0 → ∀ S36 : gSt, S36 = sI S32 31 0 → ∀ S37 : gSt, S37 = sI S36 32 0 → (((bI (S37.2.1 4)) = 0 → True) ∧ (¬ (bI (S37.2.1 4)) = 0 → (ok_X10_count S37 ∧ ∀ (r38 : Unit) (S38 : gSt), r38 = (sp_X10_count S37).1 → S38 = (sp_X10_count S37).2 → True)))))))))) ∧ (¬ a0 = 23 → True))))))))) ∧ (¬ 16 ≤ a0 → (((a0 &&& 3) = 0 → (((a0 >>> ((2 : Int32) &&& (31 : Int32))) = 2 → (((a1 &&& 128) = 0 → (vp_in (a0 >>> ((2 : Int32) &&& (31 : Int32))) 4 ∧ ∀ S39 : gSt, S39 = aP S 10 (a0 >>> ((2 : Int32) &&& (31 : Int32))) 0 → ok_jn_X10_writeSound_45 a0 a1 (a0 >>> ((2 : Int32) &&& (31 : Int32))) S39)) ∧ (¬ (a1 &&& 128) = 0 → (vp_in (a0 >>> ((2 : Int32) &&& (31 : Int32))) 4 ∧ ∀ S42 : gSt, S42 = aP S 10 (a0 >>> ((2 : Int32) &&& (31 : Int32))) 1 → ok_jn_X10_writeSound_45 a0 a1 (a0 >>> ((2 : Int32) &&& (31 : Int32))) S42)))) ∧ (¬ (a0 >>> ((2 : Int32) &&& (31 : Int32))) = 2 → (((a1 &&& 32) = 0 → (vp_in (a0 >>> ((2 : Int32) &&& (31 : Int32))) 4 ∧ ∀ S43 : gSt, S43 = aP S 10 (a0 >>> ((2 : Int32) &&& (31 : Int32))) 0 → ok_jn_X10_writeSound_45 a0 a1 (a0 >>> ((2 : Int32) &&& (31 : Int32))) S43)) ∧ (¬ (a1 &&& 32) = 0 → (vp_in (a0 >>> ((2 : Int32) &&& (31 : Int32))) 4 ∧ ∀ S44 : gSt, S44 = aP S 10 (a0 >>> ((2 : Int32) &&& (31 : Int32))) 1 → ok_jn_X10_writeSound_45 a0 a1 (a0 >>> ((2 : Int32) &&& (31 : Int32))) S44)))))) ∧ (¬ (a0 &&& 3) = 0 → ok_jn_X10_writeSound_45 a0 a1 (a0 >>> ((2 : Int32) &&& (31 : Int32))) S))))
set_option maxRecDepth 100000 in
set_option maxHeartbeats 4000000 in
theorem g_lp_X10_writeSound_110 {η : gE} {κ : gK} (hc : gC (oM η) κ cX10_writeSound 5 RX10 none rm_X10_writeSound) : ∀ (n : Nat) (x1 : Int32) (x2 : Int32) (x3 : Int32) (x4 : Int32) (S : gSt), gJ 4 x4 n → ok_lp_X10_writeSound_110 n x1 x2 x3 x4 S → gG (oM η) κ 5 oV 110 [(0, .ref (η.1 0)), (1, .int x1), (2, .int x2), (3, .int x3), (4, .int x4)] [] S (lp_X10_writeSound_110 n x1 x2 x3 x4 S) := by
  intro n
  induction n with
  | zero => exact fun _ _ _ _ _ h _ => gJ_0 h
  | succ n ih =>
    intro x1 x2 x3 x4 S hJ ho
    rw [lp_X10_writeSound_110]
    rw [ok_lp_X10_writeSound_110] at ho
    refine g_iload (i := 4) hc 4 dX10_writeSound_110 rfl ?_
    refine g_iconst (v := 4) hc dX10_writeSound_112 (by decide) ?_
    refine g_icmpge (tgt := 149) hc dX10_writeSound_113 rfl (fun c_113 => ?_) (fun c_113 => ?_)
    · have ho := ho.1 c_113
      refine g_goto (tgt := 295) hc dX10_writeSound_149 rfl ?_
      exact g_vret hc dX10_writeSound_295
    · have ho := ho.2 c_113
      refine g_aload_n (i := 0) hc 0 dX10_writeSound_116 rfl rfl ?_
      refine gf_M_0_lengths hc wtM_54 dX10_writeSound_117 ?_
      refine g_iload (i := 4) hc 4 dX10_writeSound_120 rfl ?_
      refine g_iload_n (i := 2) hc 2 dX10_writeSound_122 rfl rfl ?_
      refine g_iload (i := 4) hc 4 dX10_writeSound_123 rfl ?_
      refine g_ishr hc dX10_writeSound_125 ?_
      refine g_iconst (v := 1) hc dX10_writeSound_126 (by decide) ?_
      refine g_iand hc dX10_writeSound_127 ?_
      refine g_ifne (tgt := 135) hc dX10_writeSound_128 rfl (fun c_128 => ?_) (fun c_128 => ?_)
      · have ho := ho.1 c_128
        refine g_iconst (v := 0) hc dX10_writeSound_131 (by decide) ?_
        refine g_goto (tgt := 142) hc dX10_writeSound_132 rfl ?_
        refine as_M_9 hc (gJ_in hJ c_113 rfl) dX10_writeSound_142 (fun S3 f3 => ?_)
        have ho := ho S3 f3
        refine g_iinc (i := 4) (v := 1) (lv' := [(4, .int (x4 + 1)), (0, .ref (η.1 0)), (1, .int x1), (2, .int x2), (3, .int x3)]) hc 4 dX10_writeSound_143 rfl (by decide) (by decide) rfl ?_
        refine g_goto (tgt := 110) hc dX10_writeSound_146 rfl ?_
        exact g_lv [1, 2, 3, 4, 0] rfl (ih _ _ _ _ _ (gJ_s hJ c_113) ho)
      · have ho := ho.2 c_128
        refine g_aload_n (i := 0) hc 0 dX10_writeSound_135 rfl rfl ?_
        refine gf_M_0_lengths hc wtM_54 dX10_writeSound_136 ?_
        refine g_iload (i := 4) hc 4 dX10_writeSound_139 rfl ?_
        refine al_M_9 hc (gJ_in hJ c_113 rfl) dX10_writeSound_141 ?_
        refine as_M_9 hc (gJ_in hJ c_113 rfl) dX10_writeSound_142 (fun S4 f4 => ?_)
        have ho := ho S4 f4
        refine g_iinc (i := 4) (v := 1) (lv' := [(4, .int (x4 + 1)), (0, .ref (η.1 0)), (1, .int x1), (2, .int x2), (3, .int x3)]) hc 4 dX10_writeSound_143 rfl (by decide) (by decide) rfl ?_
        refine g_goto (tgt := 110) hc dX10_writeSound_146 rfl ?_
        exact g_lv [1, 2, 3, 4, 0] rfl (ih _ _ _ _ _ (gJ_s hJ c_113) ho)
set_option maxRecDepth 100000 in
set_option maxHeartbeats 4000000 in
theorem g_lp_X10_writeSound_161 {η : gE} {κ : gK} (hc : gC (oM η) κ cX10_writeSound 5 RX10 none rm_X10_writeSound) : ∀ (n : Nat) (x1 : Int32) (x2 : Int32) (x3 : Int32) (x4 : Int32) (S : gSt), gJ 2 x4 n → ok_lp_X10_writeSound_161 n x1 x2 x3 x4 S → gG (oM η) κ 5 oV 161 [(0, .ref (η.1 0)), (1, .int x1), (2, .int x2), (3, .int x3), (4, .int x4)] [] S (lp_X10_writeSound_161 n x1 x2 x3 x4 S) := by
  intro n
  induction n with
  | zero => exact fun _ _ _ _ _ h _ => gJ_0 h
  | succ n ih =>
    intro x1 x2 x3 x4 S hJ ho
    rw [lp_X10_writeSound_161]
    rw [ok_lp_X10_writeSound_161] at ho
    refine g_iload (i := 4) hc 4 dX10_writeSound_161 rfl ?_
    refine g_iconst (v := 2) hc dX10_writeSound_163 (by decide) ?_
    refine g_icmpge (tgt := 211) hc dX10_writeSound_164 rfl (fun c_164 => ?_) (fun c_164 => ?_)
    · have ho := ho.1 c_164
      refine g_aload_n (i := 0) hc 0 dX10_writeSound_211 rfl rfl ?_
      refine g_iload_n (i := 2) hc 2 dX10_writeSound_212 rfl rfl ?_
      refine g_iconst (v := 1) hc dX10_writeSound_213 (by decide) ?_
      refine g_iand hc dX10_writeSound_214 ?_
      refine pf_M_0_strobe (v := (x2 &&& 1)) hc wtM_57 dX10_writeSound_215 (fun S5 f5 => ?_)
      have ho := ho S5 f5
      refine g_goto (tgt := 295) hc dX10_writeSound_218 rfl ?_
      exact g_vret hc dX10_writeSound_295
    · have ho := ho.2 c_164
      refine g_aload_n (i := 0) hc 0 dX10_writeSound_167 rfl rfl ?_
      refine gf_M_0_taken hc wtM_59 dX10_writeSound_168 ?_
      refine g_iload (i := 4) hc 4 dX10_writeSound_171 rfl ?_
      refine g_aload_n (i := 0) hc 0 dX10_writeSound_173 rfl rfl ?_
      refine gf_M_0_strobe hc wtM_57 dX10_writeSound_174 ?_
      refine g_iconst (v := 1) hc dX10_writeSound_177 (by decide) ?_
      refine g_icmpne (tgt := 197) hc dX10_writeSound_178 rfl (fun c_178 => ?_) (fun c_178 => ?_)
      · have ho := ho.1 c_178
        refine g_iload_n (i := 2) hc 2 dX10_writeSound_181 rfl rfl ?_
        refine g_iconst (v := 1) hc dX10_writeSound_182 (by decide) ?_
        refine g_iand hc dX10_writeSound_183 ?_
        refine g_ifne (tgt := 197) hc dX10_writeSound_184 rfl (fun c_184 => ?_) (fun c_184 => ?_)
        · have ho := ho.1 c_184
          refine g_aload_n (i := 0) hc 0 dX10_writeSound_187 rfl rfl ?_
          refine gf_M_0_buttons hc wtM_58 dX10_writeSound_188 ?_
          refine g_iload (i := 4) hc 4 dX10_writeSound_191 rfl ?_
          refine al_M_11 hc (gJ_in hJ c_164 rfl) dX10_writeSound_193 ?_
          refine g_goto (tgt := 204) hc dX10_writeSound_194 rfl ?_
          refine as_M_12 hc (gJ_in hJ c_164 rfl) dX10_writeSound_204 (fun S6 f6 => ?_)
          have ho := ho S6 f6
          refine g_iinc (i := 4) (v := 1) (lv' := [(4, .int (x4 + 1)), (0, .ref (η.1 0)), (1, .int x1), (2, .int x2), (3, .int x3)]) hc 4 dX10_writeSound_205 rfl (by decide) (by decide) rfl ?_
          refine g_goto (tgt := 161) hc dX10_writeSound_208 rfl ?_
          exact g_lv [1, 2, 3, 4, 0] rfl (ih _ _ _ _ _ (gJ_s hJ c_164) ho)
        · have ho := ho.2 c_184
          refine g_aload_n (i := 0) hc 0 dX10_writeSound_197 rfl rfl ?_
          refine gf_M_0_taken hc wtM_59 dX10_writeSound_198 ?_
          refine g_iload (i := 4) hc 4 dX10_writeSound_201 rfl ?_
          refine al_M_12 hc (gJ_in hJ c_164 rfl) dX10_writeSound_203 ?_
          refine as_M_12 hc (gJ_in hJ c_164 rfl) dX10_writeSound_204 (fun S7 f7 => ?_)
          have ho := ho S7 f7
          refine g_iinc (i := 4) (v := 1) (lv' := [(4, .int (x4 + 1)), (0, .ref (η.1 0)), (1, .int x1), (2, .int x2), (3, .int x3)]) hc 4 dX10_writeSound_205 rfl (by decide) (by decide) rfl ?_
          refine g_goto (tgt := 161) hc dX10_writeSound_208 rfl ?_
          exact g_lv [1, 2, 3, 4, 0] rfl (ih _ _ _ _ _ (gJ_s hJ c_164) ho)
      · have ho := ho.2 c_178
        refine g_aload_n (i := 0) hc 0 dX10_writeSound_197 rfl rfl ?_
        refine gf_M_0_taken hc wtM_59 dX10_writeSound_198 ?_
        refine g_iload (i := 4) hc 4 dX10_writeSound_201 rfl ?_
        refine al_M_12 hc (gJ_in hJ c_164 rfl) dX10_writeSound_203 ?_
        refine as_M_12 hc (gJ_in hJ c_164 rfl) dX10_writeSound_204 (fun S8 f8 => ?_)
        have ho := ho S8 f8
        refine g_iinc (i := 4) (v := 1) (lv' := [(4, .int (x4 + 1)), (0, .ref (η.1 0)), (1, .int x1), (2, .int x2), (3, .int x3)]) hc 4 dX10_writeSound_205 rfl (by decide) (by decide) rfl ?_
        refine g_goto (tgt := 161) hc dX10_writeSound_208 rfl ?_
        exact g_lv [1, 2, 3, 4, 0] rfl (ih _ _ _ _ _ (gJ_s hJ c_164) ho)
set_option maxRecDepth 100000 in
set_option maxHeartbeats 4000000 in
theorem g_jn_X10_writeSound_45 {η : gE} {κ : gK} (hc : gC (oM η) κ cX10_writeSound 5 RX10 none rm_X10_writeSound) (x1 : Int32) (x2 : Int32) (x3 : Int32) (S : gSt) (ho : ok_jn_X10_writeSound_45 x1 x2 x3 S) : gG (oM η) κ 5 oV 45 [(0, .ref (η.1 0)), (1, .int x1), (2, .int x2), (3, .int x3)] [] S (jn_X10_writeSound_45 x1 x2 x3 S) := by
  unfold jn_X10_writeSound_45
  unfold ok_jn_X10_writeSound_45 at ho
  refine g_iload_n (i := 1) hc 1 dX10_writeSound_45 rfl rfl ?_
  refine g_iconst (v := 3) hc dX10_writeSound_46 (by decide) ?_
  refine g_iand hc dX10_writeSound_47 ?_
  refine g_iconst (v := 3) hc dX10_writeSound_48 (by decide) ?_
  refine g_icmpne (tgt := 295) hc dX10_writeSound_49 rfl (fun c_49 => ?_) (fun c_49 => ?_)
  · have ho := ho.1 c_49
    refine g_aload_n (i := 0) hc 0 dX10_writeSound_52 rfl rfl ?_
    refine gf_M_0_enabled hc wtM_89 dX10_writeSound_53 ?_
    refine g_iload_n (i := 3) hc 3 dX10_writeSound_56 rfl rfl ?_
    refine g_ishr hc dX10_writeSound_57 ?_
    refine g_iconst (v := 1) hc dX10_writeSound_58 (by decide) ?_
    refine g_iand hc dX10_writeSound_59 ?_
    refine g_iconst (v := 1) hc dX10_writeSound_60 (by decide) ?_
    refine g_icmpne (tgt := 295) hc dX10_writeSound_61 rfl (fun c_61 => ?_) (fun c_61 => ?_)
    · have ho := ho.1 c_61
      refine g_aload_n (i := 0) hc 0 dX10_writeSound_64 rfl rfl ?_
      refine gf_M_0_lengths hc wtM_54 dX10_writeSound_65 ?_
      refine g_iload_n (i := 3) hc 3 dX10_writeSound_68 rfl rfl ?_
      refine g_iload_n (i := 2) hc 2 dX10_writeSound_69 rfl rfl ?_
      refine g_iconst (v := 3) hc dX10_writeSound_70 (by decide) ?_
      refine g_ishr hc dX10_writeSound_71 ?_
      refine g_callSI hc [.int (x2 >>> ((3 : Int32) &&& (31 : Int32)))] (fun l => c_X10_lengthOf l η (x2 >>> ((3 : Int32) &&& (31 : Int32))) S ho.1) wtM_99 ge_X10_lengthOf rfl ⟨rfl, rfl⟩ ⟨Nat.le_of_ble_eq_true rfl, Nat.le_of_ble_eq_true rfl⟩ rfl (Nat.le_of_ble_eq_true rfl) dX10_writeSound_72 (fun r40 S40 e40 f40 => ?_)
      have ho := ho.2 r40 S40 e40 f40
      refine as_M_9 hc ho.1 dX10_writeSound_75 (fun S41 f41 => ?_)
      have ho := ho.2
      have ho := ho S41 f41
      refine g_goto (tgt := 295) hc dX10_writeSound_76 rfl ?_
      exact g_vret hc dX10_writeSound_295
    · have ho := ho.2 c_61
      exact g_vret hc dX10_writeSound_295
  · have ho := ho.2 c_49
    exact g_vret hc dX10_writeSound_295
set_option maxRecDepth 100000 in
set_option maxHeartbeats 4000000 in
theorem c_X10_writeSound (l : Launch) (η : gE) (a0 : Int32) (a1 : Int32) (S : gSt) (ho : ok_X10_writeSound a0 a1 S) : gMet l yX10_writeSound cX10_writeSound 5 none rm_X10_writeSound (oM η) [.ref (η.1 0), .int a0, .int a1] S (oV (sp_X10_writeSound a0 a1 S).1) (sp_X10_writeSound a0 a1 S).2 := by
  refine gMet_of (X := sp_X10_writeSound a0 a1 S) (lv := [(0, .ref (η.1 0)), (1, .int a0), (2, .int a1)]) oV zM_ok (by decide +kernel) (Nat.le_of_ble_eq_true rfl) rfl (fun κ hc => ?_)
  have hc : gC (oM η) κ cX10_writeSound 5 RX10 none rm_X10_writeSound := hc
  unfold sp_X10_writeSound
  unfold ok_X10_writeSound at ho
  refine g_iload_n (i := 1) hc 1 dX10_writeSound_0 rfl rfl ?_
  refine g_iconst (v := 2) hc dX10_writeSound_1 (by decide) ?_
  refine g_ishr hc dX10_writeSound_2 ?_
  refine g_istore_n (i := 3) (lv' := [(3, .int (a0 >>> ((2 : Int32) &&& (31 : Int32)))), (0, .ref (η.1 0)), (1, .int a0), (2, .int a1)]) hc dX10_writeSound_3 rfl (by decide) rfl ?_
  refine g_iload_n (i := 1) hc 2 dX10_writeSound_4 rfl rfl ?_
  refine g_bipush (v := 16) hc dX10_writeSound_5 (by decide) ?_
  refine g_icmpge (tgt := 79) hc dX10_writeSound_7 rfl (fun c_7 => ?_) (fun c_7 => ?_)
  · have ho := ho.1 c_7
    refine g_iload_n (i := 1) hc 2 dX10_writeSound_79 rfl rfl ?_
    refine g_bipush (v := 20) hc dX10_writeSound_80 (by decide) ?_
    refine g_icmpne (tgt := 93) hc dX10_writeSound_82 rfl (fun c_82 => ?_) (fun c_82 => ?_)
    · have ho := ho.1 c_82
      refine g_aload_n (i := 0) hc 1 dX10_writeSound_85 rfl rfl ?_
      refine g_iload_n (i := 2) hc 3 dX10_writeSound_86 rfl rfl ?_
      refine g_callVV hc 0 [.int a1] (fun l => c_X10_dma l η a1 S ho.1) wtM_88 ge_X10_dma rfl ⟨rfl, rfl⟩ ⟨Nat.le_of_ble_eq_true rfl, Nat.le_of_ble_eq_true rfl⟩ rfl rfl rfl (Nat.le_of_ble_eq_true rfl) dX10_writeSound_87 (fun r1 S1 e1 f1 => ?_)
      have ho := ho.2 r1 S1 e1 f1
      refine g_goto (tgt := 295) hc dX10_writeSound_90 rfl ?_
      exact g_vret hc dX10_writeSound_295
    · have ho := ho.2 c_82
      refine g_iload_n (i := 1) hc 2 dX10_writeSound_93 rfl rfl ?_
      refine g_bipush (v := 21) hc dX10_writeSound_94 (by decide) ?_
      refine g_icmpne (tgt := 152) hc dX10_writeSound_96 rfl (fun c_96 => ?_) (fun c_96 => ?_)
      · have ho := ho.1 c_96
        refine g_aload_n (i := 0) hc 1 dX10_writeSound_99 rfl rfl ?_
        refine g_iload_n (i := 2) hc 3 dX10_writeSound_100 rfl rfl ?_
        refine g_bipush (v := 15) hc dX10_writeSound_101 (by decide) ?_
        refine g_iand hc dX10_writeSound_103 ?_
        refine pf_M_0_enabled (v := (a1 &&& 15)) hc wtM_89 dX10_writeSound_104 (fun S2 f2 => ?_)
        have ho := ho S2 f2
        refine g_iconst (v := 0) hc dX10_writeSound_107 (by decide) ?_
        refine g_istore (i := 4) (lv' := [(4, .int 0), (3, .int (a0 >>> ((2 : Int32) &&& (31 : Int32)))), (0, .ref (η.1 0)), (1, .int a0), (2, .int a1)]) hc dX10_writeSound_108 (by decide) rfl ?_
        exact g_lv [2, 3, 4, 1, 0] rfl (g_lp_X10_writeSound_110 hc 5 _ _ _ _ _ (gJ_i (by decide) (by decide)) ho)
      · have ho := ho.2 c_96
        refine g_iload_n (i := 1) hc 2 dX10_writeSound_152 rfl rfl ?_
        refine g_bipush (v := 22) hc dX10_writeSound_153 (by decide) ?_
        refine g_icmpne (tgt := 221) hc dX10_writeSound_155 rfl (fun c_155 => ?_) (fun c_155 => ?_)
        · have ho := ho.1 c_155
          refine g_iconst (v := 0) hc dX10_writeSound_158 (by decide) ?_
          refine g_istore (i := 4) (lv' := [(4, .int 0), (3, .int (a0 >>> ((2 : Int32) &&& (31 : Int32)))), (0, .ref (η.1 0)), (1, .int a0), (2, .int a1)]) hc dX10_writeSound_159 (by decide) rfl ?_
          exact g_lv [2, 3, 4, 1, 0] rfl (g_lp_X10_writeSound_161 hc 3 _ _ _ _ _ (gJ_i (by decide) (by decide)) ho)
        · have ho := ho.2 c_155
          refine g_iload_n (i := 1) hc 2 dX10_writeSound_221 rfl rfl ?_
          refine g_bipush (v := 23) hc dX10_writeSound_222 (by decide) ?_
          refine g_icmpne (tgt := 295) hc dX10_writeSound_224 rfl (fun c_224 => ?_) (fun c_224 => ?_)
          · have ho := ho.1 c_224
            refine g_aload_n (i := 0) hc 1 dX10_writeSound_227 rfl rfl ?_
            refine g_iload_n (i := 2) hc 3 dX10_writeSound_228 rfl rfl ?_
            refine g_sipush (v := 128) hc dX10_writeSound_229 (by decide) ?_
            refine g_iand hc dX10_writeSound_232 ?_
            refine g_ifeq (tgt := 240) hc dX10_writeSound_233 rfl (fun c_233 => ?_) (fun c_233 => ?_)
            · have ho := ho.1 c_233
              refine g_iconst (v := 0) hc dX10_writeSound_240 (by decide) ?_
              refine pf_M_0_isLong (v := false) hc wtM_90 dX10_writeSound_241 (fun S9 f9 => ?_)
              have ho := ho S9 f9
              refine g_aload_n (i := 0) hc 1 dX10_writeSound_244 rfl rfl ?_
              refine g_iload_n (i := 2) hc 3 dX10_writeSound_245 rfl rfl ?_
              refine g_bipush (v := 64) hc dX10_writeSound_246 (by decide) ?_
              refine g_iand hc dX10_writeSound_248 ?_
              refine g_ifeq (tgt := 256) hc dX10_writeSound_249 rfl (fun c_249 => ?_) (fun c_249 => ?_)
              · have ho := ho.1 c_249
                refine g_iconst (v := 0) hc dX10_writeSound_256 (by decide) ?_
                refine pf_M_0_quiet (v := false) hc wtM_91 dX10_writeSound_257 (fun S10 f10 => ?_)
                have ho := ho S10 f10
                refine g_aload_n (i := 0) hc 1 dX10_writeSound_260 rfl rfl ?_
                refine g_aload_n (i := 0) hc 1 dX10_writeSound_261 rfl rfl ?_
                refine gf_M_0_quiet hc wtM_91 dX10_writeSound_262 ?_
                refine g_ifeq (tgt := 272) hc dX10_writeSound_265 rfl (fun c_265 => ?_) (fun c_265 => ?_)
                · have ho := ho.1 c_265
                  refine g_aload_n (i := 0) hc 1 dX10_writeSound_272 rfl rfl ?_
                  refine gf_M_0_frameLine hc wtM_56 dX10_writeSound_273 ?_
                  refine pf_M_0_frameLine (v := (S10.1 31)) hc wtM_56 dX10_writeSound_276 (fun S11 f11 => ?_)
                  have ho := ho S11 f11
                  refine g_aload_n (i := 0) hc 1 dX10_writeSound_279 rfl rfl ?_
                  refine g_iconst (v := 0) hc dX10_writeSound_280 (by decide) ?_
                  refine pf_M_0_frame (v := 0) hc wtM_92 dX10_writeSound_281 (fun S12 f12 => ?_)
                  have ho := ho S12 f12
                  refine g_aload_n (i := 0) hc 1 dX10_writeSound_284 rfl rfl ?_
                  refine gf_M_0_isLong hc wtM_90 dX10_writeSound_285 ?_
                  refine g_ifeq (tgt := 295) hc dX10_writeSound_288 rfl (fun c_288 => ?_) (fun c_288 => ?_)
                  · have ho := ho.1 c_288
                    exact g_vret hc dX10_writeSound_295
                  · have ho := ho.2 c_288
                    refine g_aload_n (i := 0) hc 1 dX10_writeSound_291 rfl rfl ?_
                    refine g_callVV hc 0 [] (fun l => c_X10_count l η S12 ho.1) wtM_96 ge_X10_count rfl ⟨rfl, rfl⟩ ⟨Nat.le_of_ble_eq_true rfl, Nat.le_of_ble_eq_true rfl⟩ rfl rfl rfl (Nat.le_of_ble_eq_true rfl) dX10_writeSound_292 (fun r13 S13 e13 f13 => ?_)
                    have ho := ho.2 r13 S13 e13 f13
                    exact g_vret hc dX10_writeSound_295
                · have ho := ho.2 c_265
                  refine g_iconst (v := 0) hc dX10_writeSound_268 (by decide) ?_
                  refine g_goto (tgt := 276) hc dX10_writeSound_269 rfl ?_
                  refine pf_M_0_frameLine (v := 0) hc wtM_56 dX10_writeSound_276 (fun S14 f14 => ?_)
                  have ho := ho S14 f14
                  refine g_aload_n (i := 0) hc 1 dX10_writeSound_279 rfl rfl ?_
                  refine g_iconst (v := 0) hc dX10_writeSound_280 (by decide) ?_
                  refine pf_M_0_frame (v := 0) hc wtM_92 dX10_writeSound_281 (fun S15 f15 => ?_)
                  have ho := ho S15 f15
                  refine g_aload_n (i := 0) hc 1 dX10_writeSound_284 rfl rfl ?_
                  refine gf_M_0_isLong hc wtM_90 dX10_writeSound_285 ?_
                  refine g_ifeq (tgt := 295) hc dX10_writeSound_288 rfl (fun c_288 => ?_) (fun c_288 => ?_)
                  · have ho := ho.1 c_288
                    exact g_vret hc dX10_writeSound_295
                  · have ho := ho.2 c_288
                    refine g_aload_n (i := 0) hc 1 dX10_writeSound_291 rfl rfl ?_
                    refine g_callVV hc 0 [] (fun l => c_X10_count l η S15 ho.1) wtM_96 ge_X10_count rfl ⟨rfl, rfl⟩ ⟨Nat.le_of_ble_eq_true rfl, Nat.le_of_ble_eq_true rfl⟩ rfl rfl rfl (Nat.le_of_ble_eq_true rfl) dX10_writeSound_292 (fun r16 S16 e16 f16 => ?_)
                    have ho := ho.2 r16 S16 e16 f16
                    exact g_vret hc dX10_writeSound_295
              · have ho := ho.2 c_249
                refine g_iconst (v := 1) hc dX10_writeSound_252 (by decide) ?_
                refine g_goto (tgt := 257) hc dX10_writeSound_253 rfl ?_
                refine pf_M_0_quiet (v := true) hc wtM_91 dX10_writeSound_257 (fun S17 f17 => ?_)
                have ho := ho S17 f17
                refine g_aload_n (i := 0) hc 1 dX10_writeSound_260 rfl rfl ?_
                refine g_aload_n (i := 0) hc 1 dX10_writeSound_261 rfl rfl ?_
                refine gf_M_0_quiet hc wtM_91 dX10_writeSound_262 ?_
                refine g_ifeq (tgt := 272) hc dX10_writeSound_265 rfl (fun c_265 => ?_) (fun c_265 => ?_)
                · have ho := ho.1 c_265
                  refine g_aload_n (i := 0) hc 1 dX10_writeSound_272 rfl rfl ?_
                  refine gf_M_0_frameLine hc wtM_56 dX10_writeSound_273 ?_
                  refine pf_M_0_frameLine (v := (S17.1 31)) hc wtM_56 dX10_writeSound_276 (fun S18 f18 => ?_)
                  have ho := ho S18 f18
                  refine g_aload_n (i := 0) hc 1 dX10_writeSound_279 rfl rfl ?_
                  refine g_iconst (v := 0) hc dX10_writeSound_280 (by decide) ?_
                  refine pf_M_0_frame (v := 0) hc wtM_92 dX10_writeSound_281 (fun S19 f19 => ?_)
                  have ho := ho S19 f19
                  refine g_aload_n (i := 0) hc 1 dX10_writeSound_284 rfl rfl ?_
                  refine gf_M_0_isLong hc wtM_90 dX10_writeSound_285 ?_
                  refine g_ifeq (tgt := 295) hc dX10_writeSound_288 rfl (fun c_288 => ?_) (fun c_288 => ?_)
                  · have ho := ho.1 c_288
                    exact g_vret hc dX10_writeSound_295
                  · have ho := ho.2 c_288
                    refine g_aload_n (i := 0) hc 1 dX10_writeSound_291 rfl rfl ?_
                    refine g_callVV hc 0 [] (fun l => c_X10_count l η S19 ho.1) wtM_96 ge_X10_count rfl ⟨rfl, rfl⟩ ⟨Nat.le_of_ble_eq_true rfl, Nat.le_of_ble_eq_true rfl⟩ rfl rfl rfl (Nat.le_of_ble_eq_true rfl) dX10_writeSound_292 (fun r20 S20 e20 f20 => ?_)
                    have ho := ho.2 r20 S20 e20 f20
                    exact g_vret hc dX10_writeSound_295
                · have ho := ho.2 c_265
                  refine g_iconst (v := 0) hc dX10_writeSound_268 (by decide) ?_
                  refine g_goto (tgt := 276) hc dX10_writeSound_269 rfl ?_
                  refine pf_M_0_frameLine (v := 0) hc wtM_56 dX10_writeSound_276 (fun S21 f21 => ?_)
                  have ho := ho S21 f21
                  refine g_aload_n (i := 0) hc 1 dX10_writeSound_279 rfl rfl ?_
                  refine g_iconst (v := 0) hc dX10_writeSound_280 (by decide) ?_
                  refine pf_M_0_frame (v := 0) hc wtM_92 dX10_writeSound_281 (fun S22 f22 => ?_)
                  have ho := ho S22 f22
                  refine g_aload_n (i := 0) hc 1 dX10_writeSound_284 rfl rfl ?_
                  refine gf_M_0_isLong hc wtM_90 dX10_writeSound_285 ?_
                  refine g_ifeq (tgt := 295) hc dX10_writeSound_288 rfl (fun c_288 => ?_) (fun c_288 => ?_)
                  · have ho := ho.1 c_288
                    exact g_vret hc dX10_writeSound_295
                  · have ho := ho.2 c_288
                    refine g_aload_n (i := 0) hc 1 dX10_writeSound_291 rfl rfl ?_
                    refine g_callVV hc 0 [] (fun l => c_X10_count l η S22 ho.1) wtM_96 ge_X10_count rfl ⟨rfl, rfl⟩ ⟨Nat.le_of_ble_eq_true rfl, Nat.le_of_ble_eq_true rfl⟩ rfl rfl rfl (Nat.le_of_ble_eq_true rfl) dX10_writeSound_292 (fun r23 S23 e23 f23 => ?_)
                    have ho := ho.2 r23 S23 e23 f23
                    exact g_vret hc dX10_writeSound_295
            · have ho := ho.2 c_233
              refine g_iconst (v := 1) hc dX10_writeSound_236 (by decide) ?_
              refine g_goto (tgt := 241) hc dX10_writeSound_237 rfl ?_
              refine pf_M_0_isLong (v := true) hc wtM_90 dX10_writeSound_241 (fun S24 f24 => ?_)
              have ho := ho S24 f24
              refine g_aload_n (i := 0) hc 1 dX10_writeSound_244 rfl rfl ?_
              refine g_iload_n (i := 2) hc 3 dX10_writeSound_245 rfl rfl ?_
              refine g_bipush (v := 64) hc dX10_writeSound_246 (by decide) ?_
              refine g_iand hc dX10_writeSound_248 ?_
              refine g_ifeq (tgt := 256) hc dX10_writeSound_249 rfl (fun c_249 => ?_) (fun c_249 => ?_)
              · have ho := ho.1 c_249
                refine g_iconst (v := 0) hc dX10_writeSound_256 (by decide) ?_
                refine pf_M_0_quiet (v := false) hc wtM_91 dX10_writeSound_257 (fun S25 f25 => ?_)
                have ho := ho S25 f25
                refine g_aload_n (i := 0) hc 1 dX10_writeSound_260 rfl rfl ?_
                refine g_aload_n (i := 0) hc 1 dX10_writeSound_261 rfl rfl ?_
                refine gf_M_0_quiet hc wtM_91 dX10_writeSound_262 ?_
                refine g_ifeq (tgt := 272) hc dX10_writeSound_265 rfl (fun c_265 => ?_) (fun c_265 => ?_)
                · have ho := ho.1 c_265
                  refine g_aload_n (i := 0) hc 1 dX10_writeSound_272 rfl rfl ?_
                  refine gf_M_0_frameLine hc wtM_56 dX10_writeSound_273 ?_
                  refine pf_M_0_frameLine (v := (S25.1 31)) hc wtM_56 dX10_writeSound_276 (fun S26 f26 => ?_)
                  have ho := ho S26 f26
                  refine g_aload_n (i := 0) hc 1 dX10_writeSound_279 rfl rfl ?_
                  refine g_iconst (v := 0) hc dX10_writeSound_280 (by decide) ?_
                  refine pf_M_0_frame (v := 0) hc wtM_92 dX10_writeSound_281 (fun S27 f27 => ?_)
                  have ho := ho S27 f27
                  refine g_aload_n (i := 0) hc 1 dX10_writeSound_284 rfl rfl ?_
                  refine gf_M_0_isLong hc wtM_90 dX10_writeSound_285 ?_
                  refine g_ifeq (tgt := 295) hc dX10_writeSound_288 rfl (fun c_288 => ?_) (fun c_288 => ?_)
                  · have ho := ho.1 c_288
                    exact g_vret hc dX10_writeSound_295
                  · have ho := ho.2 c_288
                    refine g_aload_n (i := 0) hc 1 dX10_writeSound_291 rfl rfl ?_
                    refine g_callVV hc 0 [] (fun l => c_X10_count l η S27 ho.1) wtM_96 ge_X10_count rfl ⟨rfl, rfl⟩ ⟨Nat.le_of_ble_eq_true rfl, Nat.le_of_ble_eq_true rfl⟩ rfl rfl rfl (Nat.le_of_ble_eq_true rfl) dX10_writeSound_292 (fun r28 S28 e28 f28 => ?_)
                    have ho := ho.2 r28 S28 e28 f28
                    exact g_vret hc dX10_writeSound_295
                · have ho := ho.2 c_265
                  refine g_iconst (v := 0) hc dX10_writeSound_268 (by decide) ?_
                  refine g_goto (tgt := 276) hc dX10_writeSound_269 rfl ?_
                  refine pf_M_0_frameLine (v := 0) hc wtM_56 dX10_writeSound_276 (fun S29 f29 => ?_)
                  have ho := ho S29 f29
                  refine g_aload_n (i := 0) hc 1 dX10_writeSound_279 rfl rfl ?_
                  refine g_iconst (v := 0) hc dX10_writeSound_280 (by decide) ?_
                  refine pf_M_0_frame (v := 0) hc wtM_92 dX10_writeSound_281 (fun S30 f30 => ?_)
                  have ho := ho S30 f30
                  refine g_aload_n (i := 0) hc 1 dX10_writeSound_284 rfl rfl ?_
                  refine gf_M_0_isLong hc wtM_90 dX10_writeSound_285 ?_
                  refine g_ifeq (tgt := 295) hc dX10_writeSound_288 rfl (fun c_288 => ?_) (fun c_288 => ?_)
                  · have ho := ho.1 c_288
                    exact g_vret hc dX10_writeSound_295
                  · have ho := ho.2 c_288
                    refine g_aload_n (i := 0) hc 1 dX10_writeSound_291 rfl rfl ?_
                    refine g_callVV hc 0 [] (fun l => c_X10_count l η S30 ho.1) wtM_96 ge_X10_count rfl ⟨rfl, rfl⟩ ⟨Nat.le_of_ble_eq_true rfl, Nat.le_of_ble_eq_true rfl⟩ rfl rfl rfl (Nat.le_of_ble_eq_true rfl) dX10_writeSound_292 (fun r31 S31 e31 f31 => ?_)
                    have ho := ho.2 r31 S31 e31 f31
                    exact g_vret hc dX10_writeSound_295
              · have ho := ho.2 c_249
                refine g_iconst (v := 1) hc dX10_writeSound_252 (by decide) ?_
                refine g_goto (tgt := 257) hc dX10_writeSound_253 rfl ?_
                refine pf_M_0_quiet (v := true) hc wtM_91 dX10_writeSound_257 (fun S32 f32 => ?_)
                have ho := ho S32 f32
                refine g_aload_n (i := 0) hc 1 dX10_writeSound_260 rfl rfl ?_
                refine g_aload_n (i := 0) hc 1 dX10_writeSound_261 rfl rfl ?_
                refine gf_M_0_quiet hc wtM_91 dX10_writeSound_262 ?_
                refine g_ifeq (tgt := 272) hc dX10_writeSound_265 rfl (fun c_265 => ?_) (fun c_265 => ?_)
                · have ho := ho.1 c_265
                  refine g_aload_n (i := 0) hc 1 dX10_writeSound_272 rfl rfl ?_
                  refine gf_M_0_frameLine hc wtM_56 dX10_writeSound_273 ?_
                  refine pf_M_0_frameLine (v := (S32.1 31)) hc wtM_56 dX10_writeSound_276 (fun S33 f33 => ?_)
                  have ho := ho S33 f33
                  refine g_aload_n (i := 0) hc 1 dX10_writeSound_279 rfl rfl ?_
                  refine g_iconst (v := 0) hc dX10_writeSound_280 (by decide) ?_
                  refine pf_M_0_frame (v := 0) hc wtM_92 dX10_writeSound_281 (fun S34 f34 => ?_)
                  have ho := ho S34 f34
                  refine g_aload_n (i := 0) hc 1 dX10_writeSound_284 rfl rfl ?_
                  refine gf_M_0_isLong hc wtM_90 dX10_writeSound_285 ?_
                  refine g_ifeq (tgt := 295) hc dX10_writeSound_288 rfl (fun c_288 => ?_) (fun c_288 => ?_)
                  · have ho := ho.1 c_288
                    exact g_vret hc dX10_writeSound_295
                  · have ho := ho.2 c_288
                    refine g_aload_n (i := 0) hc 1 dX10_writeSound_291 rfl rfl ?_
                    refine g_callVV hc 0 [] (fun l => c_X10_count l η S34 ho.1) wtM_96 ge_X10_count rfl ⟨rfl, rfl⟩ ⟨Nat.le_of_ble_eq_true rfl, Nat.le_of_ble_eq_true rfl⟩ rfl rfl rfl (Nat.le_of_ble_eq_true rfl) dX10_writeSound_292 (fun r35 S35 e35 f35 => ?_)
                    have ho := ho.2 r35 S35 e35 f35
                    exact g_vret hc dX10_writeSound_295
                · have ho := ho.2 c_265
                  refine g_iconst (v := 0) hc dX10_writeSound_268 (by decide) ?_
                  refine g_goto (tgt := 276) hc dX10_writeSound_269 rfl ?_
                  refine pf_M_0_frameLine (v := 0) hc wtM_56 dX10_writeSound_276 (fun S36 f36 => ?_)
                  have ho := ho S36 f36
                  refine g_aload_n (i := 0) hc 1 dX10_writeSound_279 rfl rfl ?_
                  refine g_iconst (v := 0) hc dX10_writeSound_280 (by decide) ?_
                  refine pf_M_0_frame (v := 0) hc wtM_92 dX10_writeSound_281 (fun S37 f37 => ?_)
                  have ho := ho S37 f37
                  refine g_aload_n (i := 0) hc 1 dX10_writeSound_284 rfl rfl ?_
                  refine gf_M_0_isLong hc wtM_90 dX10_writeSound_285 ?_
                  refine g_ifeq (tgt := 295) hc dX10_writeSound_288 rfl (fun c_288 => ?_) (fun c_288 => ?_)
                  · have ho := ho.1 c_288
                    exact g_vret hc dX10_writeSound_295
                  · have ho := ho.2 c_288
                    refine g_aload_n (i := 0) hc 1 dX10_writeSound_291 rfl rfl ?_
                    refine g_callVV hc 0 [] (fun l => c_X10_count l η S37 ho.1) wtM_96 ge_X10_count rfl ⟨rfl, rfl⟩ ⟨Nat.le_of_ble_eq_true rfl, Nat.le_of_ble_eq_true rfl⟩ rfl rfl rfl (Nat.le_of_ble_eq_true rfl) dX10_writeSound_292 (fun r38 S38 e38 f38 => ?_)
                    have ho := ho.2 r38 S38 e38 f38
                    exact g_vret hc dX10_writeSound_295
          · have ho := ho.2 c_224
            exact g_vret hc dX10_writeSound_295
  · have ho := ho.2 c_7
    refine g_iload_n (i := 1) hc 2 dX10_writeSound_10 rfl rfl ?_
    refine g_iconst (v := 3) hc dX10_writeSound_11 (by decide) ?_
    refine g_iand hc dX10_writeSound_12 ?_
    refine g_ifne (tgt := 45) hc dX10_writeSound_13 rfl (fun c_13 => ?_) (fun c_13 => ?_)
    · have ho := ho.1 c_13
      refine g_aload_n (i := 0) hc 1 dX10_writeSound_16 rfl rfl ?_
      refine gf_M_0_halts hc wtM_55 dX10_writeSound_17 ?_
      refine g_iload_n (i := 3) hc 0 dX10_writeSound_20 rfl rfl ?_
      refine g_iload_n (i := 2) hc 3 dX10_writeSound_21 rfl rfl ?_
      refine g_iload_n (i := 3) hc 0 dX10_writeSound_22 rfl rfl ?_
      refine g_iconst (v := 2) hc dX10_writeSound_23 (by decide) ?_
      refine g_icmpne (tgt := 33) hc dX10_writeSound_24 rfl (fun c_24 => ?_) (fun c_24 => ?_)
      · have ho := ho.1 c_24
        refine g_sipush (v := 128) hc dX10_writeSound_27 (by decide) ?_
        refine g_goto (tgt := 35) hc dX10_writeSound_30 rfl ?_
        refine g_iand hc dX10_writeSound_35 ?_
        refine g_ifeq (tgt := 43) hc dX10_writeSound_36 rfl (fun c_36 => ?_) (fun c_36 => ?_)
        · have ho := ho.1 c_36
          refine g_iconst (v := 0) hc dX10_writeSound_43 (by decide) ?_
          refine as_M_10 hc ho.1 rfl dX10_writeSound_44 (fun S39 f39 => ?_)
          have ho := ho.2
          have ho := ho S39 f39
          exact g_lv [1, 2, 3, 0] rfl (g_jn_X10_writeSound_45 hc _ _ _ _ ho)
        · have ho := ho.2 c_36
          refine g_iconst (v := 1) hc dX10_writeSound_39 (by decide) ?_
          refine g_goto (tgt := 44) hc dX10_writeSound_40 rfl ?_
          refine as_M_10 hc ho.1 rfl dX10_writeSound_44 (fun S42 f42 => ?_)
          have ho := ho.2
          have ho := ho S42 f42
          exact g_lv [1, 2, 3, 0] rfl (g_jn_X10_writeSound_45 hc _ _ _ _ ho)
      · have ho := ho.2 c_24
        refine g_bipush (v := 32) hc dX10_writeSound_33 (by decide) ?_
        refine g_iand hc dX10_writeSound_35 ?_
        refine g_ifeq (tgt := 43) hc dX10_writeSound_36 rfl (fun c_36 => ?_) (fun c_36 => ?_)
        · have ho := ho.1 c_36
          refine g_iconst (v := 0) hc dX10_writeSound_43 (by decide) ?_
          refine as_M_10 hc ho.1 rfl dX10_writeSound_44 (fun S43 f43 => ?_)
          have ho := ho.2
          have ho := ho S43 f43
          exact g_lv [1, 2, 3, 0] rfl (g_jn_X10_writeSound_45 hc _ _ _ _ ho)
        · have ho := ho.2 c_36
          refine g_iconst (v := 1) hc dX10_writeSound_39 (by decide) ?_
          refine g_goto (tgt := 44) hc dX10_writeSound_40 rfl ?_
          refine as_M_10 hc ho.1 rfl dX10_writeSound_44 (fun S44 f44 => ?_)
          have ho := ho.2
          have ho := ho S44 f44
          exact g_lv [1, 2, 3, 0] rfl (g_jn_X10_writeSound_45 hc _ _ _ _ ho)
    · have ho := ho.2 c_13
      exact g_lv [1, 2, 3, 0] rfl (g_jn_X10_writeSound_45 hc _ _ _ _ ho)

abbrev rm_X10_put : Room := { frames := 6, cells := 0, slots := 0, locals := 136 }
def jn_X10_put_82 (x1 : Int32) (x2 : Int32) (S : gSt) : Unit × gSt := (if x1 < 32768 then (if x1 < 24576 then ((), S) else gL (aP S 2 (x1 &&& 255) x2) (fun S1 => ((), S1))) else gB (sp_X10_writeOne x1 x2 S) (fun (_ : Unit) S2 => ((), S2)))
def ok_jn_X10_put_82 (x1 : Int32) (x2 : Int32) (S : gSt) : Prop := ((x1 < 32768 → ((x1 < 24576 → True) ∧ (¬ x1 < 24576 → ∀ S1 : gSt, S1 = aP S 2 (x1 &&& 255) x2 → True))) ∧ (¬ x1 < 32768 → (ok_X10_writeOne x1 x2 S ∧ ∀ (r2 : Unit) (S2 : gSt), r2 = (sp_X10_writeOne x1 x2 S).1 → S2 = (sp_X10_writeOne x1 x2 S).2 → True)))
def sp_X10_put (a0 : Int32) (a1 : Int32) (S : gSt) : Unit × gSt := (if 8192 ≤ a0 then (if 16384 ≤ a0 then (if 16408 ≤ a0 then (if a0 < 32768 then jn_X10_put_82 a0 a1 S else (if (bI (S.2.1 0)) = 0 then jn_X10_put_82 a0 a1 S else gB (sp_X10_writeThree a0 a1 S) (fun (_ : Unit) S3 => ((), S3)))) else gB (sp_X10_writeSound (a0 - 16384) a1 S) (fun (_ : Unit) S4 => ((), S4))) else gB (sp_X10_writePicture (a0 &&& 7) a1 S) (fun (_ : Unit) S5 => ((), S5))) else gL (aP S 1 (a0 &&& 2047) a1) (fun S6 => ((), S6)))
def ok_X10_put (a0 : Int32) (a1 : Int32) (S : gSt) : Prop := ((8192 ≤ a0 → ((16384 ≤ a0 → ((16408 ≤ a0 → ((a0 < 32768 → ok_jn_X10_put_82 a0 a1 S) ∧ (¬ a0 < 32768 → (((bI (S.2.1 0)) = 0 → ok_jn_X10_put_82 a0 a1 S) ∧ (¬ (bI (S.2.1 0)) = 0 → (ok_X10_writeThree a0 a1 S ∧ ∀ (r3 : Unit) (S3 : gSt), r3 = (sp_X10_writeThree a0 a1 S).1 → S3 = (sp_X10_writeThree a0 a1 S).2 → True)))))) ∧ (¬ 16408 ≤ a0 → (ok_X10_writeSound (a0 - 16384) a1 S ∧ ∀ (r4 : Unit) (S4 : gSt), r4 = (sp_X10_writeSound (a0 - 16384) a1 S).1 → S4 = (sp_X10_writeSound (a0 - 16384) a1 S).2 → True)))) ∧ (¬ 16384 ≤ a0 → (ok_X10_writePicture (a0 &&& 7) a1 S ∧ ∀ (r5 : Unit) (S5 : gSt), r5 = (sp_X10_writePicture (a0 &&& 7) a1 S).1 → S5 = (sp_X10_writePicture (a0 &&& 7) a1 S).2 → True)))) ∧ (¬ 8192 ≤ a0 → ∀ S6 : gSt, S6 = aP S 1 (a0 &&& 2047) a1 → True))
set_option maxRecDepth 100000 in
set_option maxHeartbeats 4000000 in
theorem g_jn_X10_put_82 {η : gE} {κ : gK} (hc : gC (oM η) κ cX10_put 3 RX10 none rm_X10_put) (x1 : Int32) (x2 : Int32) (S : gSt) (ho : ok_jn_X10_put_82 x1 x2 S) : gG (oM η) κ 3 oV 82 [(0, .ref (η.1 0)), (1, .int x1), (2, .int x2)] [] S (jn_X10_put_82 x1 x2 S) := by
  unfold jn_X10_put_82
  unfold ok_jn_X10_put_82 at ho
  refine g_iload_n (i := 1) hc 1 dX10_put_82 rfl rfl ?_
  refine g_ldc (v := 32768) hc wtM_60 dX10_put_83 ?_
  refine g_icmplt (tgt := 97) hc dX10_put_85 rfl (fun c_85 => ?_) (fun c_85 => ?_)
  · have ho := ho.1 c_85
    refine g_iload_n (i := 1) hc 1 dX10_put_97 rfl rfl ?_
    refine g_sipush (v := 24576) hc dX10_put_98 (by decide) ?_
    refine g_icmplt (tgt := 115) hc dX10_put_101 rfl (fun c_101 => ?_) (fun c_101 => ?_)
    · have ho := ho.1 c_101
      exact g_vret hc dX10_put_115
    · have ho := ho.2 c_101
      refine g_aload_n (i := 0) hc 0 dX10_put_104 rfl rfl ?_
      refine gf_M_0_own hc wtM_61 dX10_put_105 ?_
      refine g_iload_n (i := 1) hc 1 dX10_put_108 rfl rfl ?_
      refine g_sipush (v := 255) hc dX10_put_109 (by decide) ?_
      refine g_iand hc dX10_put_112 ?_
      refine g_iload_n (i := 2) hc 2 dX10_put_113 rfl rfl ?_
      refine as_M_2 hc (pk_andIn _ 8 (by decide) (by decide)) dX10_put_114 (fun S1 f1 => ?_)
      have ho := ho S1 f1
      exact g_vret hc dX10_put_115
  · have ho := ho.2 c_85
    refine g_aload_n (i := 0) hc 0 dX10_put_88 rfl rfl ?_
    refine g_iload_n (i := 1) hc 1 dX10_put_89 rfl rfl ?_
    refine g_iload_n (i := 2) hc 2 dX10_put_90 rfl rfl ?_
    refine g_callVV hc 0 [.int x1, .int x2] (fun l => c_X10_writeOne l η x1 x2 S ho.1) wtM_103 ge_X10_writeOne rfl ⟨rfl, rfl⟩ ⟨Nat.le_of_ble_eq_true rfl, Nat.le_of_ble_eq_true rfl⟩ rfl rfl rfl (Nat.le_of_ble_eq_true rfl) dX10_put_91 (fun r2 S2 e2 f2 => ?_)
    have ho := ho.2 r2 S2 e2 f2
    refine g_goto (tgt := 115) hc dX10_put_94 rfl ?_
    exact g_vret hc dX10_put_115
set_option maxRecDepth 100000 in
set_option maxHeartbeats 4000000 in
theorem c_X10_put (l : Launch) (η : gE) (a0 : Int32) (a1 : Int32) (S : gSt) (ho : ok_X10_put a0 a1 S) : gMet l yX10_put cX10_put 3 none rm_X10_put (oM η) [.ref (η.1 0), .int a0, .int a1] S (oV (sp_X10_put a0 a1 S).1) (sp_X10_put a0 a1 S).2 := by
  refine gMet_of (X := sp_X10_put a0 a1 S) (lv := [(0, .ref (η.1 0)), (1, .int a0), (2, .int a1)]) oV zM_ok (by decide +kernel) (Nat.le_of_ble_eq_true rfl) rfl (fun κ hc => ?_)
  have hc : gC (oM η) κ cX10_put 3 RX10 none rm_X10_put := hc
  unfold sp_X10_put
  unfold ok_X10_put at ho
  refine g_iload_n (i := 1) hc 1 dX10_put_0 rfl rfl ?_
  refine g_sipush (v := 8192) hc dX10_put_1 (by decide) ?_
  refine g_icmpge (tgt := 21) hc dX10_put_4 rfl (fun c_4 => ?_) (fun c_4 => ?_)
  · have ho := ho.1 c_4
    refine g_iload_n (i := 1) hc 1 dX10_put_21 rfl rfl ?_
    refine g_sipush (v := 16384) hc dX10_put_22 (by decide) ?_
    refine g_icmpge (tgt := 40) hc dX10_put_25 rfl (fun c_25 => ?_) (fun c_25 => ?_)
    · have ho := ho.1 c_25
      refine g_iload_n (i := 1) hc 1 dX10_put_40 rfl rfl ?_
      refine g_sipush (v := 16408) hc dX10_put_41 (by decide) ?_
      refine g_icmpge (tgt := 60) hc dX10_put_44 rfl (fun c_44 => ?_) (fun c_44 => ?_)
      · have ho := ho.1 c_44
        refine g_iload_n (i := 1) hc 1 dX10_put_60 rfl rfl ?_
        refine g_ldc (v := 32768) hc wtM_60 dX10_put_61 ?_
        refine g_icmplt (tgt := 82) hc dX10_put_63 rfl (fun c_63 => ?_) (fun c_63 => ?_)
        · have ho := ho.1 c_63
          exact g_lv [0, 1, 2] rfl (g_jn_X10_put_82 hc _ _ _ ho)
        · have ho := ho.2 c_63
          refine g_aload_n (i := 0) hc 0 dX10_put_66 rfl rfl ?_
          refine gf_M_0_mmc3 hc wtM_4 dX10_put_67 ?_
          refine g_ifeq (tgt := 82) hc dX10_put_70 rfl (fun c_70 => ?_) (fun c_70 => ?_)
          · have ho := ho.1 c_70
            exact g_lv [0, 1, 2] rfl (g_jn_X10_put_82 hc _ _ _ ho)
          · have ho := ho.2 c_70
            refine g_aload_n (i := 0) hc 0 dX10_put_73 rfl rfl ?_
            refine g_iload_n (i := 1) hc 1 dX10_put_74 rfl rfl ?_
            refine g_iload_n (i := 2) hc 2 dX10_put_75 rfl rfl ?_
            refine g_callVV hc 0 [.int a0, .int a1] (fun l => c_X10_writeThree l η a0 a1 S ho.1) wtM_107 ge_X10_writeThree rfl ⟨rfl, rfl⟩ ⟨Nat.le_of_ble_eq_true rfl, Nat.le_of_ble_eq_true rfl⟩ rfl rfl rfl (Nat.le_of_ble_eq_true rfl) dX10_put_76 (fun r3 S3 e3 f3 => ?_)
            have ho := ho.2 r3 S3 e3 f3
            refine g_goto (tgt := 115) hc dX10_put_79 rfl ?_
            exact g_vret hc dX10_put_115
      · have ho := ho.2 c_44
        refine g_aload_n (i := 0) hc 0 dX10_put_47 rfl rfl ?_
        refine g_iload_n (i := 1) hc 1 dX10_put_48 rfl rfl ?_
        refine g_sipush (v := 16384) hc dX10_put_49 (by decide) ?_
        refine g_isub hc dX10_put_52 ?_
        refine g_iload_n (i := 2) hc 2 dX10_put_53 rfl rfl ?_
        refine g_callVV hc 0 [.int (a0 - 16384), .int a1] (fun l => c_X10_writeSound l η (a0 - 16384) a1 S ho.1) wtM_111 ge_X10_writeSound rfl ⟨rfl, rfl⟩ ⟨Nat.le_of_ble_eq_true rfl, Nat.le_of_ble_eq_true rfl⟩ rfl rfl rfl (Nat.le_of_ble_eq_true rfl) dX10_put_54 (fun r4 S4 e4 f4 => ?_)
        have ho := ho.2 r4 S4 e4 f4
        refine g_goto (tgt := 115) hc dX10_put_57 rfl ?_
        exact g_vret hc dX10_put_115
    · have ho := ho.2 c_25
      refine g_aload_n (i := 0) hc 0 dX10_put_28 rfl rfl ?_
      refine g_iload_n (i := 1) hc 1 dX10_put_29 rfl rfl ?_
      refine g_bipush (v := 7) hc dX10_put_30 (by decide) ?_
      refine g_iand hc dX10_put_32 ?_
      refine g_iload_n (i := 2) hc 2 dX10_put_33 rfl rfl ?_
      refine g_callVV hc 0 [.int (a0 &&& 7), .int a1] (fun l => c_X10_writePicture l η (a0 &&& 7) a1 S ho.1) wtM_84 ge_X10_writePicture rfl ⟨rfl, rfl⟩ ⟨Nat.le_of_ble_eq_true rfl, Nat.le_of_ble_eq_true rfl⟩ rfl rfl rfl (Nat.le_of_ble_eq_true rfl) dX10_put_34 (fun r5 S5 e5 f5 => ?_)
      have ho := ho.2 r5 S5 e5 f5
      refine g_goto (tgt := 115) hc dX10_put_37 rfl ?_
      exact g_vret hc dX10_put_115
  · have ho := ho.2 c_4
    refine g_aload_n (i := 0) hc 0 dX10_put_7 rfl rfl ?_
    refine gf_M_0_ram hc wtM_74 dX10_put_8 ?_
    refine g_iload_n (i := 1) hc 1 dX10_put_11 rfl rfl ?_
    refine g_sipush (v := 2047) hc dX10_put_12 (by decide) ?_
    refine g_iand hc dX10_put_15 ?_
    refine g_iload_n (i := 2) hc 2 dX10_put_16 rfl rfl ?_
    refine as_M_1 hc (pk_andIn _ 11 (by decide) (by decide)) dX10_put_17 (fun S6 f6 => ?_)
    have ho := ho S6 f6
    refine g_goto (tgt := 115) hc dX10_put_18 rfl ?_
    exact g_vret hc dX10_put_115

abbrev rm_X10_word : Room := { frames := 4, cells := 0, slots := 0, locals := 89 }
def sp_X10_word (a0 : Int32) (S : gSt) : Int32 × gSt := gB (sp_X10_get a0 S) (fun r1 S1 => gB (sp_X10_get ((a0 + 1) &&& 65535) S1) (fun r2 S2 => ((r1 ||| (r2 <<< ((8 : Int32) &&& (31 : Int32)))), S2)))
def ok_X10_word (a0 : Int32) (S : gSt) : Prop := (ok_X10_get a0 S ∧ ∀ (r1 : Int32) (S1 : gSt), r1 = (sp_X10_get a0 S).1 → S1 = (sp_X10_get a0 S).2 → (ok_X10_get ((a0 + 1) &&& 65535) S1 ∧ ∀ (r2 : Int32) (S2 : gSt), r2 = (sp_X10_get ((a0 + 1) &&& 65535) S1).1 → S2 = (sp_X10_get ((a0 + 1) &&& 65535) S1).2 → True))
set_option maxRecDepth 100000 in
set_option maxHeartbeats 4000000 in
theorem c_X10_word (l : Launch) (η : gE) (a0 : Int32) (S : gSt) (ho : ok_X10_word a0 S) : gMet l yX10_word cX10_word 3 (some .int) rm_X10_word (oM η) [.ref (η.1 0), .int a0] S (oI (sp_X10_word a0 S).1) (sp_X10_word a0 S).2 := by
  refine gMet_of (X := sp_X10_word a0 S) (lv := [(0, .ref (η.1 0)), (1, .int a0)]) oI zM_ok (by decide +kernel) (Nat.le_of_ble_eq_true rfl) rfl (fun κ hc => ?_)
  have hc : gC (oM η) κ cX10_word 3 RX10 (some .int) rm_X10_word := hc
  unfold sp_X10_word
  unfold ok_X10_word at ho
  refine g_aload_n (i := 0) hc 0 dX10_word_0 rfl rfl ?_
  refine g_iload_n (i := 1) hc 1 dX10_word_1 rfl rfl ?_
  refine g_callVI hc 0 [.int a0] (fun l => c_X10_get l η a0 S ho.1) wtM_80 ge_X10_get rfl ⟨rfl, rfl⟩ ⟨Nat.le_of_ble_eq_true rfl, Nat.le_of_ble_eq_true rfl⟩ rfl rfl rfl (Nat.le_of_ble_eq_true rfl) dX10_word_2 (fun r1 S1 e1 f1 => ?_)
  have ho := ho.2 r1 S1 e1 f1
  refine g_istore_n (i := 2) (lv' := [(2, .int r1), (0, .ref (η.1 0)), (1, .int a0)]) hc dX10_word_5 rfl (by decide) rfl ?_
  refine g_iload_n (i := 2) hc 0 dX10_word_6 rfl rfl ?_
  refine g_aload_n (i := 0) hc 1 dX10_word_7 rfl rfl ?_
  refine g_iload_n (i := 1) hc 2 dX10_word_8 rfl rfl ?_
  refine g_iconst (v := 1) hc dX10_word_9 (by decide) ?_
  refine g_iadd hc dX10_word_10 ?_
  refine g_ldc (v := 65535) hc wtM_112 dX10_word_11 ?_
  refine g_iand hc dX10_word_13 ?_
  refine g_callVI hc 0 [.int ((a0 + 1) &&& 65535)] (fun l => c_X10_get l η ((a0 + 1) &&& 65535) S1 ho.1) wtM_80 ge_X10_get rfl ⟨rfl, rfl⟩ ⟨Nat.le_of_ble_eq_true rfl, Nat.le_of_ble_eq_true rfl⟩ rfl rfl rfl (Nat.le_of_ble_eq_true rfl) dX10_word_14 (fun r2 S2 e2 f2 => ?_)
  have ho := ho.2 r2 S2 e2 f2
  refine g_bipush (v := 8) hc dX10_word_17 (by decide) ?_
  refine g_ishl hc dX10_word_19 ?_
  refine g_ior hc dX10_word_20 ?_
  exact g_iret hc dX10_word_21

abbrev rm_X10_tick : Room := { frames := 1, cells := 0, slots := 0, locals := 21 }
def jn_X10_tick_226 (x1 : Int32) (S : gSt) : Unit × gSt := (if (S.1 32) = x1 then (if (bI (S.2.1 4)) = 0 then (if (bI (S.2.1 5)) = 0 then gL (sI S 31 1) (fun S4 => (if (S4.1 32) ≤ x1 then ((), S4) else gL (sI S4 32 0) (fun S5 => ((), S5)))) else (if (S.1 32) ≤ x1 then ((), S) else gL (sI S 32 0) (fun S6 => ((), S6)))) else (if (S.1 32) ≤ x1 then ((), S) else gL (sI S 32 0) (fun S7 => ((), S7)))) else (if (S.1 32) ≤ x1 then ((), S) else gL (sI S 32 0) (fun S8 => ((), S8))))
def ok_jn_X10_tick_226 (x1 : Int32) (S : gSt) : Prop := (((S.1 32) = x1 → (((bI (S.2.1 4)) = 0 → (((bI (S.2.1 5)) = 0 → ∀ S4 : gSt, S4 = sI S 31 1 → (((S4.1 32) ≤ x1 → True) ∧ (¬ (S4.1 32) ≤ x1 → ∀ S5 : gSt, S5 = sI S4 32 0 → True))) ∧ (¬ (bI (S.2.1 5)) = 0 → (((S.1 32) ≤ x1 → True) ∧ (¬ (S.1 32) ≤ x1 → ∀ S6 : gSt, S6 = sI S 32 0 → True))))) ∧ (¬ (bI (S.2.1 4)) = 0 → (((S.1 32) ≤ x1 → True) ∧ (¬ (S.1 32) ≤ x1 → ∀ S7 : gSt, S7 = sI S 32 0 → True))))) ∧ (¬ (S.1 32) = x1 → (((S.1 32) ≤ x1 → True) ∧ (¬ (S.1 32) ≤ x1 → ∀ S8 : gSt, S8 = sI S 32 0 → True))))
def jn_X10_tick_222 (x1 : Int32) (S : gSt) : Unit × gSt := gB (sp_X10_count S) (fun (_ : Unit) S3 => jn_X10_tick_226 x1 S3)
def ok_jn_X10_tick_222 (x1 : Int32) (S : gSt) : Prop := (ok_X10_count S ∧ ∀ (r3 : Unit) (S3 : gSt), r3 = (sp_X10_count S).1 → S3 = (sp_X10_count S).2 → ok_jn_X10_tick_226 x1 S3)
def jn_X10_tick_172 (x1 : Int32) (K : gSt → Unit × gSt) (S : gSt) : Unit × gSt := K S
def ok_jn_X10_tick_172 (x1 : Int32) (oK : gSt → Prop) (S : gSt) : Prop := oK S
def jn_X10_tick_158 (x1 : Int32) (K : gSt → Unit × gSt) (S : gSt) : Unit × gSt := (if ((S.1 9) &&& 24) = 0 then jn_X10_tick_172 x1 K S else gB (sp_X10_tellLine S) (fun (_ : Unit) S14 => jn_X10_tick_172 x1 K S14))
def ok_jn_X10_tick_158 (x1 : Int32) (oK : gSt → Prop) (S : gSt) : Prop := ((((S.1 9) &&& 24) = 0 → ok_jn_X10_tick_172 x1 oK S) ∧ (¬ ((S.1 9) &&& 24) = 0 → (ok_X10_tellLine S ∧ ∀ (r14 : Unit) (S14 : gSt), r14 = (sp_X10_tellLine S).1 → S14 = (sp_X10_tellLine S).2 → ok_jn_X10_tick_172 x1 oK S14)))
def jn_X10_tick_128 (x1 : Int32) (K : gSt → Unit × gSt) (S : gSt) : Unit × gSt := (if (S.1 18) = 260 then (if (S.1 17) < 240 then jn_X10_tick_158 x1 K S else (if (S.1 17) = 261 then jn_X10_tick_158 x1 K S else jn_X10_tick_172 x1 K S)) else jn_X10_tick_172 x1 K S)
def ok_jn_X10_tick_128 (x1 : Int32) (oK : gSt → Prop) (S : gSt) : Prop := (((S.1 18) = 260 → (((S.1 17) < 240 → ok_jn_X10_tick_158 x1 oK S) ∧ (¬ (S.1 17) < 240 → (((S.1 17) = 261 → ok_jn_X10_tick_158 x1 oK S) ∧ (¬ (S.1 17) = 261 → ok_jn_X10_tick_172 x1 oK S))))) ∧ (¬ (S.1 18) = 260 → ok_jn_X10_tick_172 x1 oK S))
def jn_X10_tick_105 (x1 : Int32) (K : gSt → Unit × gSt) (S : gSt) : Unit × gSt := (if (S.1 18) = 1 then (if (S.1 17) = 261 then gL (sI S 10 0) (fun S13 => jn_X10_tick_128 x1 K S13) else jn_X10_tick_128 x1 K S) else jn_X10_tick_128 x1 K S)
def ok_jn_X10_tick_105 (x1 : Int32) (oK : gSt → Prop) (S : gSt) : Prop := (((S.1 18) = 1 → (((S.1 17) = 261 → ∀ S13 : gSt, S13 = sI S 10 0 → ok_jn_X10_tick_128 x1 oK S13) ∧ (¬ (S.1 17) = 261 → ok_jn_X10_tick_128 x1 oK S))) ∧ (¬ (S.1 18) = 1 → ok_jn_X10_tick_128 x1 oK S))
def jn_X10_tick_66 (x1 : Int32) (K : gSt → Unit × gSt) (S : gSt) : Unit × gSt := (if (S.1 18) = 1 then (if (S.1 17) = 241 then gL (sI S 10 1) (fun S12 => (if ((S12.1 8) &&& 128) = 0 then jn_X10_tick_105 x1 K S12 else gL (sZ S12 1 true) (fun S15 => jn_X10_tick_105 x1 K S15))) else jn_X10_tick_105 x1 K S) else jn_X10_tick_105 x1 K S)
def ok_jn_X10_tick_66 (x1 : Int32) (oK : gSt → Prop) (S : gSt) : Prop := (((S.1 18) = 1 → (((S.1 17) = 241 → ∀ S12 : gSt, S12 = sI S 10 1 → ((((S12.1 8) &&& 128) = 0 → ok_jn_X10_tick_105 x1 oK S12) ∧ (¬ ((S12.1 8) &&& 128) = 0 → ∀ S15 : gSt, S15 = sZ S12 1 true → ok_jn_X10_tick_105 x1 oK S15))) ∧ (¬ (S.1 17) = 241 → ok_jn_X10_tick_105 x1 oK S))) ∧ (¬ (S.1 18) = 1 → ok_jn_X10_tick_105 x1 oK S))
def lp_X10_tick_12 : Nat → Int32 → gSt → Unit × gSt
  | 0, _, S => ((), S)
  | n + 1, x1, S => (if 3 ≤ x1 then gL (sI S 32 ((S.1 32) + 1)) (fun S2 => (if (bI (S2.2.1 4)) = 0 then (if (S2.1 32) = 14913 then jn_X10_tick_222 29829 S2 else (if (S2.1 32) = 29829 then jn_X10_tick_222 29829 S2 else jn_X10_tick_226 29829 S2)) else (if (S2.1 32) = 14913 then jn_X10_tick_222 37281 S2 else (if (S2.1 32) = 37281 then jn_X10_tick_222 37281 S2 else jn_X10_tick_226 37281 S2)))) else gL (sI S 18 ((S.1 18) + 1)) (fun S9 => (if (S9.1 18) = 341 then gL (sI S9 18 0) (fun S10 => (if (S10.1 17) = 261 then gL (sI S10 17 0) (fun S11 => jn_X10_tick_66 x1 (fun S => lp_X10_tick_12 n (x1 + 1) S) S11) else gL (sI S10 17 ((S10.1 17) + 1)) (fun S16 => jn_X10_tick_66 x1 (fun S => lp_X10_tick_12 n (x1 + 1) S) S16))) else jn_X10_tick_66 x1 (fun S => lp_X10_tick_12 n (x1 + 1) S) S9)))
def ok_lp_X10_tick_12 : Nat → Int32 → gSt → Prop
  | 0, _, _ => True
  | n + 1, x1, S => ((3 ≤ x1 → ∀ S2 : gSt, S2 = sI S 32 ((S.1 32) + 1) → (((bI (S2.2.1 4)) = 0 → (((S2.1 32) = 14913 → ok_jn_X10_tick_222 29829 S2) ∧ (¬ (S2.1 32) = 14913 → (((S2.1 32) = 29829 → ok_jn_X10_tick_222 29829 S2) ∧ (¬ (S2.1 32) = 29829 → ok_jn_X10_tick_226 29829 S2))))) ∧ (¬ (bI (S2.2.1 4)) = 0 → (((S2.1 32) = 14913 → ok_jn_X10_tick_222 37281 S2) ∧ (¬ (S2.1 32) = 14913 → (((S2.1 32) = 37281 → ok_jn_X10_tick_222 37281 S2) ∧ (¬ (S2.1 32) = 37281 → ok_jn_X10_tick_226 37281 S2))))))) ∧ (¬ 3 ≤ x1 → ∀ S9 : gSt, S9 = sI S 18 ((S.1 18) + 1) → (((S9.1 18) = 341 → ∀ S10 : gSt, S10 = sI S9 18 0 → (((S10.1 17) = 261 → ∀ S11 : gSt, S11 = sI S10 17 0 → ok_jn_X10_tick_66 x1 (fun S => ok_lp_X10_tick_12 n (x1 + 1) S) S11) ∧ (¬ (S10.1 17) = 261 → ∀ S16 : gSt, S16 = sI S10 17 ((S10.1 17) + 1) → ok_jn_X10_tick_66 x1 (fun S => ok_lp_X10_tick_12 n (x1 + 1) S) S16))) ∧ (¬ (S9.1 18) = 341 → ok_jn_X10_tick_66 x1 (fun S => ok_lp_X10_tick_12 n (x1 + 1) S) S9))))
def sp_X10_tick  (S : gSt) : Unit × gSt := gL (sJ S 0 ((S.2.2.1 0) + 1)) (fun S1 => lp_X10_tick_12 4 0 S1)
def ok_X10_tick  (S : gSt) : Prop := ∀ S1 : gSt, S1 = sJ S 0 ((S.2.2.1 0) + 1) → ok_lp_X10_tick_12 4 0 S1
set_option maxRecDepth 100000 in
set_option maxHeartbeats 4000000 in
theorem g_jn_X10_tick_226 {η : gE} {κ : gK} (hc : gC (oM η) κ cX10_tick 2 RX10 none rm_X10_tick) (x1 : Int32) (S : gSt) (ho : ok_jn_X10_tick_226 x1 S) : gG (oM η) κ 2 oV 226 [(0, .ref (η.1 0)), (1, .int x1)] [] S (jn_X10_tick_226 x1 S) := by
  unfold jn_X10_tick_226
  unfold ok_jn_X10_tick_226 at ho
  refine g_aload_n (i := 0) hc 0 dX10_tick_226 rfl rfl ?_
  refine gf_M_0_frame hc wtM_92 dX10_tick_227 ?_
  refine g_iload_n (i := 1) hc 1 dX10_tick_230 rfl rfl ?_
  refine g_icmpne (tgt := 253) hc dX10_tick_231 rfl (fun c_231 => ?_) (fun c_231 => ?_)
  · have ho := ho.1 c_231
    refine g_aload_n (i := 0) hc 0 dX10_tick_234 rfl rfl ?_
    refine gf_M_0_isLong hc wtM_90 dX10_tick_235 ?_
    refine g_ifne (tgt := 253) hc dX10_tick_238 rfl (fun c_238 => ?_) (fun c_238 => ?_)
    · have ho := ho.1 c_238
      refine g_aload_n (i := 0) hc 0 dX10_tick_241 rfl rfl ?_
      refine gf_M_0_quiet hc wtM_91 dX10_tick_242 ?_
      refine g_ifne (tgt := 253) hc dX10_tick_245 rfl (fun c_245 => ?_) (fun c_245 => ?_)
      · have ho := ho.1 c_245
        refine g_aload_n (i := 0) hc 0 dX10_tick_248 rfl rfl ?_
        refine g_iconst (v := 1) hc dX10_tick_249 (by decide) ?_
        refine pf_M_0_frameLine (v := 1) hc wtM_56 dX10_tick_250 (fun S4 f4 => ?_)
        have ho := ho S4 f4
        refine g_aload_n (i := 0) hc 0 dX10_tick_253 rfl rfl ?_
        refine gf_M_0_frame hc wtM_92 dX10_tick_254 ?_
        refine g_iload_n (i := 1) hc 1 dX10_tick_257 rfl rfl ?_
        refine g_icmple (tgt := 266) hc dX10_tick_258 rfl (fun c_258 => ?_) (fun c_258 => ?_)
        · have ho := ho.1 c_258
          exact g_vret hc dX10_tick_266
        · have ho := ho.2 c_258
          refine g_aload_n (i := 0) hc 0 dX10_tick_261 rfl rfl ?_
          refine g_iconst (v := 0) hc dX10_tick_262 (by decide) ?_
          refine pf_M_0_frame (v := 0) hc wtM_92 dX10_tick_263 (fun S5 f5 => ?_)
          have ho := ho S5 f5
          exact g_vret hc dX10_tick_266
      · have ho := ho.2 c_245
        refine g_aload_n (i := 0) hc 0 dX10_tick_253 rfl rfl ?_
        refine gf_M_0_frame hc wtM_92 dX10_tick_254 ?_
        refine g_iload_n (i := 1) hc 1 dX10_tick_257 rfl rfl ?_
        refine g_icmple (tgt := 266) hc dX10_tick_258 rfl (fun c_258 => ?_) (fun c_258 => ?_)
        · have ho := ho.1 c_258
          exact g_vret hc dX10_tick_266
        · have ho := ho.2 c_258
          refine g_aload_n (i := 0) hc 0 dX10_tick_261 rfl rfl ?_
          refine g_iconst (v := 0) hc dX10_tick_262 (by decide) ?_
          refine pf_M_0_frame (v := 0) hc wtM_92 dX10_tick_263 (fun S6 f6 => ?_)
          have ho := ho S6 f6
          exact g_vret hc dX10_tick_266
    · have ho := ho.2 c_238
      refine g_aload_n (i := 0) hc 0 dX10_tick_253 rfl rfl ?_
      refine gf_M_0_frame hc wtM_92 dX10_tick_254 ?_
      refine g_iload_n (i := 1) hc 1 dX10_tick_257 rfl rfl ?_
      refine g_icmple (tgt := 266) hc dX10_tick_258 rfl (fun c_258 => ?_) (fun c_258 => ?_)
      · have ho := ho.1 c_258
        exact g_vret hc dX10_tick_266
      · have ho := ho.2 c_258
        refine g_aload_n (i := 0) hc 0 dX10_tick_261 rfl rfl ?_
        refine g_iconst (v := 0) hc dX10_tick_262 (by decide) ?_
        refine pf_M_0_frame (v := 0) hc wtM_92 dX10_tick_263 (fun S7 f7 => ?_)
        have ho := ho S7 f7
        exact g_vret hc dX10_tick_266
  · have ho := ho.2 c_231
    refine g_aload_n (i := 0) hc 0 dX10_tick_253 rfl rfl ?_
    refine gf_M_0_frame hc wtM_92 dX10_tick_254 ?_
    refine g_iload_n (i := 1) hc 1 dX10_tick_257 rfl rfl ?_
    refine g_icmple (tgt := 266) hc dX10_tick_258 rfl (fun c_258 => ?_) (fun c_258 => ?_)
    · have ho := ho.1 c_258
      exact g_vret hc dX10_tick_266
    · have ho := ho.2 c_258
      refine g_aload_n (i := 0) hc 0 dX10_tick_261 rfl rfl ?_
      refine g_iconst (v := 0) hc dX10_tick_262 (by decide) ?_
      refine pf_M_0_frame (v := 0) hc wtM_92 dX10_tick_263 (fun S8 f8 => ?_)
      have ho := ho S8 f8
      exact g_vret hc dX10_tick_266
set_option maxRecDepth 100000 in
set_option maxHeartbeats 4000000 in
theorem g_jn_X10_tick_222 {η : gE} {κ : gK} (hc : gC (oM η) κ cX10_tick 2 RX10 none rm_X10_tick) (x1 : Int32) (S : gSt) (ho : ok_jn_X10_tick_222 x1 S) : gG (oM η) κ 2 oV 222 [(0, .ref (η.1 0)), (1, .int x1)] [] S (jn_X10_tick_222 x1 S) := by
  unfold jn_X10_tick_222
  unfold ok_jn_X10_tick_222 at ho
  refine g_aload_n (i := 0) hc 0 dX10_tick_222 rfl rfl ?_
  refine g_callVV hc 0 [] (fun l => c_X10_count l η S ho.1) wtM_96 ge_X10_count rfl ⟨rfl, rfl⟩ ⟨Nat.le_of_ble_eq_true rfl, Nat.le_of_ble_eq_true rfl⟩ rfl rfl rfl (Nat.le_of_ble_eq_true rfl) dX10_tick_223 (fun r3 S3 e3 f3 => ?_)
  have ho := ho.2 r3 S3 e3 f3
  exact g_lv [0, 1] rfl (g_jn_X10_tick_226 hc _ _ ho)
set_option maxRecDepth 100000 in
set_option maxHeartbeats 4000000 in
theorem g_jn_X10_tick_172 {η : gE} {κ : gK} {K : gSt → Unit × gSt} {oK : gSt → Prop} (hc : gC (oM η) κ cX10_tick 2 RX10 none rm_X10_tick) (x1 : Int32) (S : gSt) (hK : ∀ S : gSt, oK S → gG (oM η) κ 2 oV 12 [(0, .ref (η.1 0)), (1, .int (x1 + 1))] [] S (K S)) (ho : ok_jn_X10_tick_172 x1 oK S) : gG (oM η) κ 2 oV 172 [(0, .ref (η.1 0)), (1, .int x1)] [] S (jn_X10_tick_172 x1 K S) := by
  unfold jn_X10_tick_172
  unfold ok_jn_X10_tick_172 at ho
  refine g_iinc (i := 1) (v := 1) (lv' := [(1, .int (x1 + 1)), (0, .ref (η.1 0))]) hc 1 dX10_tick_172 rfl (by decide) (by decide) rfl ?_
  refine g_goto (tgt := 12) hc dX10_tick_175 rfl ?_
  exact g_lv [1, 0] rfl (hK _ ho)
set_option maxRecDepth 100000 in
set_option maxHeartbeats 4000000 in
theorem g_jn_X10_tick_158 {η : gE} {κ : gK} {K : gSt → Unit × gSt} {oK : gSt → Prop} (hc : gC (oM η) κ cX10_tick 2 RX10 none rm_X10_tick) (x1 : Int32) (S : gSt) (hK : ∀ S : gSt, oK S → gG (oM η) κ 2 oV 12 [(0, .ref (η.1 0)), (1, .int (x1 + 1))] [] S (K S)) (ho : ok_jn_X10_tick_158 x1 oK S) : gG (oM η) κ 2 oV 158 [(0, .ref (η.1 0)), (1, .int x1)] [] S (jn_X10_tick_158 x1 K S) := by
  unfold jn_X10_tick_158
  unfold ok_jn_X10_tick_158 at ho
  refine g_aload_n (i := 0) hc 0 dX10_tick_158 rfl rfl ?_
  refine gf_M_0_mask hc wtM_48 dX10_tick_159 ?_
  refine g_bipush (v := 24) hc dX10_tick_162 (by decide) ?_
  refine g_iand hc dX10_tick_164 ?_
  refine g_ifeq (tgt := 172) hc dX10_tick_165 rfl (fun c_165 => ?_) (fun c_165 => ?_)
  · have ho := ho.1 c_165
    exact g_lv [0, 1] rfl (g_jn_X10_tick_172 hc _ _ hK ho)
  · have ho := ho.2 c_165
    refine g_aload_n (i := 0) hc 0 dX10_tick_168 rfl rfl ?_
    refine g_callVV hc 0 [] (fun l => c_X10_tellLine l η S ho.1) wtM_119 ge_X10_tellLine rfl ⟨rfl, rfl⟩ ⟨Nat.le_of_ble_eq_true rfl, Nat.le_of_ble_eq_true rfl⟩ rfl rfl rfl (Nat.le_of_ble_eq_true rfl) dX10_tick_169 (fun r14 S14 e14 f14 => ?_)
    have ho := ho.2 r14 S14 e14 f14
    exact g_lv [0, 1] rfl (g_jn_X10_tick_172 hc _ _ hK ho)
set_option maxRecDepth 100000 in
set_option maxHeartbeats 4000000 in
theorem g_jn_X10_tick_128 {η : gE} {κ : gK} {K : gSt → Unit × gSt} {oK : gSt → Prop} (hc : gC (oM η) κ cX10_tick 2 RX10 none rm_X10_tick) (x1 : Int32) (S : gSt) (hK : ∀ S : gSt, oK S → gG (oM η) κ 2 oV 12 [(0, .ref (η.1 0)), (1, .int (x1 + 1))] [] S (K S)) (ho : ok_jn_X10_tick_128 x1 oK S) : gG (oM η) κ 2 oV 128 [(0, .ref (η.1 0)), (1, .int x1)] [] S (jn_X10_tick_128 x1 K S) := by
  unfold jn_X10_tick_128
  unfold ok_jn_X10_tick_128 at ho
  refine g_aload_n (i := 0) hc 0 dX10_tick_128 rfl rfl ?_
  refine gf_M_0_dot hc wtM_114 dX10_tick_129 ?_
  refine g_sipush (v := 260) hc dX10_tick_132 (by decide) ?_
  refine g_icmpne (tgt := 172) hc dX10_tick_135 rfl (fun c_135 => ?_) (fun c_135 => ?_)
  · have ho := ho.1 c_135
    refine g_aload_n (i := 0) hc 0 dX10_tick_138 rfl rfl ?_
    refine gf_M_0_line hc wtM_115 dX10_tick_139 ?_
    refine g_sipush (v := 240) hc dX10_tick_142 (by decide) ?_
    refine g_icmplt (tgt := 158) hc dX10_tick_145 rfl (fun c_145 => ?_) (fun c_145 => ?_)
    · have ho := ho.1 c_145
      exact g_lv [0, 1] rfl (g_jn_X10_tick_158 hc _ _ hK ho)
    · have ho := ho.2 c_145
      refine g_aload_n (i := 0) hc 0 dX10_tick_148 rfl rfl ?_
      refine gf_M_0_line hc wtM_115 dX10_tick_149 ?_
      refine g_sipush (v := 261) hc dX10_tick_152 (by decide) ?_
      refine g_icmpne (tgt := 172) hc dX10_tick_155 rfl (fun c_155 => ?_) (fun c_155 => ?_)
      · have ho := ho.1 c_155
        exact g_lv [0, 1] rfl (g_jn_X10_tick_158 hc _ _ hK ho)
      · have ho := ho.2 c_155
        exact g_lv [0, 1] rfl (g_jn_X10_tick_172 hc _ _ hK ho)
  · have ho := ho.2 c_135
    exact g_lv [0, 1] rfl (g_jn_X10_tick_172 hc _ _ hK ho)
set_option maxRecDepth 100000 in
set_option maxHeartbeats 4000000 in
theorem g_jn_X10_tick_105 {η : gE} {κ : gK} {K : gSt → Unit × gSt} {oK : gSt → Prop} (hc : gC (oM η) κ cX10_tick 2 RX10 none rm_X10_tick) (x1 : Int32) (S : gSt) (hK : ∀ S : gSt, oK S → gG (oM η) κ 2 oV 12 [(0, .ref (η.1 0)), (1, .int (x1 + 1))] [] S (K S)) (ho : ok_jn_X10_tick_105 x1 oK S) : gG (oM η) κ 2 oV 105 [(0, .ref (η.1 0)), (1, .int x1)] [] S (jn_X10_tick_105 x1 K S) := by
  unfold jn_X10_tick_105
  unfold ok_jn_X10_tick_105 at ho
  refine g_aload_n (i := 0) hc 0 dX10_tick_105 rfl rfl ?_
  refine gf_M_0_dot hc wtM_114 dX10_tick_106 ?_
  refine g_iconst (v := 1) hc dX10_tick_109 (by decide) ?_
  refine g_icmpne (tgt := 128) hc dX10_tick_110 rfl (fun c_110 => ?_) (fun c_110 => ?_)
  · have ho := ho.1 c_110
    refine g_aload_n (i := 0) hc 0 dX10_tick_113 rfl rfl ?_
    refine gf_M_0_line hc wtM_115 dX10_tick_114 ?_
    refine g_sipush (v := 261) hc dX10_tick_117 (by decide) ?_
    refine g_icmpne (tgt := 128) hc dX10_tick_120 rfl (fun c_120 => ?_) (fun c_120 => ?_)
    · have ho := ho.1 c_120
      refine g_aload_n (i := 0) hc 0 dX10_tick_123 rfl rfl ?_
      refine g_iconst (v := 0) hc dX10_tick_124 (by decide) ?_
      refine pf_M_0_vblank (v := 0) hc wtM_33 dX10_tick_125 (fun S13 f13 => ?_)
      have ho := ho S13 f13
      exact g_lv [0, 1] rfl (g_jn_X10_tick_128 hc _ _ hK ho)
    · have ho := ho.2 c_120
      exact g_lv [0, 1] rfl (g_jn_X10_tick_128 hc _ _ hK ho)
  · have ho := ho.2 c_110
    exact g_lv [0, 1] rfl (g_jn_X10_tick_128 hc _ _ hK ho)
set_option maxRecDepth 100000 in
set_option maxHeartbeats 4000000 in
theorem g_jn_X10_tick_66 {η : gE} {κ : gK} {K : gSt → Unit × gSt} {oK : gSt → Prop} (hc : gC (oM η) κ cX10_tick 2 RX10 none rm_X10_tick) (x1 : Int32) (S : gSt) (hK : ∀ S : gSt, oK S → gG (oM η) κ 2 oV 12 [(0, .ref (η.1 0)), (1, .int (x1 + 1))] [] S (K S)) (ho : ok_jn_X10_tick_66 x1 oK S) : gG (oM η) κ 2 oV 66 [(0, .ref (η.1 0)), (1, .int x1)] [] S (jn_X10_tick_66 x1 K S) := by
  unfold jn_X10_tick_66
  unfold ok_jn_X10_tick_66 at ho
  refine g_aload_n (i := 0) hc 0 dX10_tick_66 rfl rfl ?_
  refine gf_M_0_dot hc wtM_114 dX10_tick_67 ?_
  refine g_iconst (v := 1) hc dX10_tick_70 (by decide) ?_
  refine g_icmpne (tgt := 105) hc dX10_tick_71 rfl (fun c_71 => ?_) (fun c_71 => ?_)
  · have ho := ho.1 c_71
    refine g_aload_n (i := 0) hc 0 dX10_tick_74 rfl rfl ?_
    refine gf_M_0_line hc wtM_115 dX10_tick_75 ?_
    refine g_sipush (v := 241) hc dX10_tick_78 (by decide) ?_
    refine g_icmpne (tgt := 105) hc dX10_tick_81 rfl (fun c_81 => ?_) (fun c_81 => ?_)
    · have ho := ho.1 c_81
      refine g_aload_n (i := 0) hc 0 dX10_tick_84 rfl rfl ?_
      refine g_iconst (v := 1) hc dX10_tick_85 (by decide) ?_
      refine pf_M_0_vblank (v := 1) hc wtM_33 dX10_tick_86 (fun S12 f12 => ?_)
      have ho := ho S12 f12
      refine g_aload_n (i := 0) hc 0 dX10_tick_89 rfl rfl ?_
      refine gf_M_0_ctrl hc wtM_32 dX10_tick_90 ?_
      refine g_sipush (v := 128) hc dX10_tick_93 (by decide) ?_
      refine g_iand hc dX10_tick_96 ?_
      refine g_ifeq (tgt := 105) hc dX10_tick_97 rfl (fun c_97 => ?_) (fun c_97 => ?_)
      · have ho := ho.1 c_97
        exact g_lv [0, 1] rfl (g_jn_X10_tick_105 hc _ _ hK ho)
      · have ho := ho.2 c_97
        refine g_aload_n (i := 0) hc 0 dX10_tick_100 rfl rfl ?_
        refine g_iconst (v := 1) hc dX10_tick_101 (by decide) ?_
        refine pf_M_0_nmi (v := true) hc wtM_47 dX10_tick_102 (fun S15 f15 => ?_)
        have ho := ho S15 f15
        exact g_lv [0, 1] rfl (g_jn_X10_tick_105 hc _ _ hK ho)
    · have ho := ho.2 c_81
      exact g_lv [0, 1] rfl (g_jn_X10_tick_105 hc _ _ hK ho)
  · have ho := ho.2 c_71
    exact g_lv [0, 1] rfl (g_jn_X10_tick_105 hc _ _ hK ho)
set_option maxRecDepth 100000 in
set_option maxHeartbeats 4000000 in
theorem g_lp_X10_tick_12 {η : gE} {κ : gK} (hc : gC (oM η) κ cX10_tick 2 RX10 none rm_X10_tick) : ∀ (n : Nat) (x1 : Int32) (S : gSt), gJ 3 x1 n → ok_lp_X10_tick_12 n x1 S → gG (oM η) κ 2 oV 12 [(0, .ref (η.1 0)), (1, .int x1)] [] S (lp_X10_tick_12 n x1 S) := by
  intro n
  induction n with
  | zero => exact fun _ _ h _ => gJ_0 h
  | succ n ih =>
    intro x1 S hJ ho
    rw [lp_X10_tick_12]
    rw [ok_lp_X10_tick_12] at ho
    refine g_iload_n (i := 1) hc 1 dX10_tick_12 rfl rfl ?_
    refine g_iconst (v := 3) hc dX10_tick_13 (by decide) ?_
    refine g_icmpge (tgt := 178) hc dX10_tick_14 rfl (fun c_14 => ?_) (fun c_14 => ?_)
    · have ho := ho.1 c_14
      refine g_aload_n (i := 0) hc 0 dX10_tick_178 rfl rfl ?_
      refine g_dup hc dX10_tick_179 rfl ?_
      refine gf_M_0_frame hc wtM_92 dX10_tick_180 ?_
      refine g_iconst (v := 1) hc dX10_tick_183 (by decide) ?_
      refine g_iadd hc dX10_tick_184 ?_
      refine pf_M_0_frame (v := ((S.1 32) + 1)) hc wtM_92 dX10_tick_185 (fun S2 f2 => ?_)
      have ho := ho S2 f2
      refine g_aload_n (i := 0) hc 0 dX10_tick_188 rfl rfl ?_
      refine gf_M_0_isLong hc wtM_90 dX10_tick_189 ?_
      refine g_ifeq (tgt := 200) hc dX10_tick_192 rfl (fun c_192 => ?_) (fun c_192 => ?_)
      · have ho := ho.1 c_192
        refine g_sipush (v := 29829) hc dX10_tick_200 (by decide) ?_
        refine g_istore_n (i := 1) (lv' := [(1, .int 29829), (0, .ref (η.1 0))]) hc dX10_tick_203 rfl (by decide) rfl ?_
        refine g_aload_n (i := 0) hc 1 dX10_tick_204 rfl rfl ?_
        refine gf_M_0_frame hc wtM_92 dX10_tick_205 ?_
        refine g_sipush (v := 14913) hc dX10_tick_208 (by decide) ?_
        refine g_icmpeq (tgt := 222) hc dX10_tick_211 rfl (fun c_211 => ?_) (fun c_211 => ?_)
        · have ho := ho.1 c_211
          exact g_lv [1, 0] rfl (g_jn_X10_tick_222 hc _ _ ho)
        · have ho := ho.2 c_211
          refine g_aload_n (i := 0) hc 1 dX10_tick_214 rfl rfl ?_
          refine gf_M_0_frame hc wtM_92 dX10_tick_215 ?_
          refine g_iload_n (i := 1) hc 0 dX10_tick_218 rfl rfl ?_
          refine g_icmpne (tgt := 226) hc dX10_tick_219 rfl (fun c_219 => ?_) (fun c_219 => ?_)
          · have ho := ho.1 c_219
            exact g_lv [1, 0] rfl (g_jn_X10_tick_222 hc _ _ ho)
          · have ho := ho.2 c_219
            exact g_lv [1, 0] rfl (g_jn_X10_tick_226 hc _ _ ho)
      · have ho := ho.2 c_192
        refine g_ldc (v := 37281) hc wtM_113 dX10_tick_195 ?_
        refine g_goto (tgt := 203) hc dX10_tick_197 rfl ?_
        refine g_istore_n (i := 1) (lv' := [(1, .int 37281), (0, .ref (η.1 0))]) hc dX10_tick_203 rfl (by decide) rfl ?_
        refine g_aload_n (i := 0) hc 1 dX10_tick_204 rfl rfl ?_
        refine gf_M_0_frame hc wtM_92 dX10_tick_205 ?_
        refine g_sipush (v := 14913) hc dX10_tick_208 (by decide) ?_
        refine g_icmpeq (tgt := 222) hc dX10_tick_211 rfl (fun c_211 => ?_) (fun c_211 => ?_)
        · have ho := ho.1 c_211
          exact g_lv [1, 0] rfl (g_jn_X10_tick_222 hc _ _ ho)
        · have ho := ho.2 c_211
          refine g_aload_n (i := 0) hc 1 dX10_tick_214 rfl rfl ?_
          refine gf_M_0_frame hc wtM_92 dX10_tick_215 ?_
          refine g_iload_n (i := 1) hc 0 dX10_tick_218 rfl rfl ?_
          refine g_icmpne (tgt := 226) hc dX10_tick_219 rfl (fun c_219 => ?_) (fun c_219 => ?_)
          · have ho := ho.1 c_219
            exact g_lv [1, 0] rfl (g_jn_X10_tick_222 hc _ _ ho)
          · have ho := ho.2 c_219
            exact g_lv [1, 0] rfl (g_jn_X10_tick_226 hc _ _ ho)
    · have ho := ho.2 c_14
      refine g_aload_n (i := 0) hc 0 dX10_tick_17 rfl rfl ?_
      refine g_dup hc dX10_tick_18 rfl ?_
      refine gf_M_0_dot hc wtM_114 dX10_tick_19 ?_
      refine g_iconst (v := 1) hc dX10_tick_22 (by decide) ?_
      refine g_iadd hc dX10_tick_23 ?_
      refine pf_M_0_dot (v := ((S.1 18) + 1)) hc wtM_114 dX10_tick_24 (fun S9 f9 => ?_)
      have ho := ho S9 f9
      refine g_aload_n (i := 0) hc 0 dX10_tick_27 rfl rfl ?_
      refine gf_M_0_dot hc wtM_114 dX10_tick_28 ?_
      refine g_sipush (v := 341) hc dX10_tick_31 (by decide) ?_
      refine g_icmpne (tgt := 66) hc dX10_tick_34 rfl (fun c_34 => ?_) (fun c_34 => ?_)
      · have ho := ho.1 c_34
        refine g_aload_n (i := 0) hc 0 dX10_tick_37 rfl rfl ?_
        refine g_iconst (v := 0) hc dX10_tick_38 (by decide) ?_
        refine pf_M_0_dot (v := 0) hc wtM_114 dX10_tick_39 (fun S10 f10 => ?_)
        have ho := ho S10 f10
        refine g_aload_n (i := 0) hc 0 dX10_tick_42 rfl rfl ?_
        refine g_aload_n (i := 0) hc 0 dX10_tick_43 rfl rfl ?_
        refine gf_M_0_line hc wtM_115 dX10_tick_44 ?_
        refine g_sipush (v := 261) hc dX10_tick_47 (by decide) ?_
        refine g_icmpne (tgt := 57) hc dX10_tick_50 rfl (fun c_50 => ?_) (fun c_50 => ?_)
        · have ho := ho.1 c_50
          refine g_iconst (v := 0) hc dX10_tick_53 (by decide) ?_
          refine g_goto (tgt := 63) hc dX10_tick_54 rfl ?_
          refine pf_M_0_line (v := 0) hc wtM_115 dX10_tick_63 (fun S11 f11 => ?_)
          have ho := ho S11 f11
          exact g_lv [0, 1] rfl (g_jn_X10_tick_66 hc _ _ (fun S h => ih (x1 + 1) S (gJ_s hJ c_14) h) ho)
        · have ho := ho.2 c_50
          refine g_aload_n (i := 0) hc 0 dX10_tick_57 rfl rfl ?_
          refine gf_M_0_line hc wtM_115 dX10_tick_58 ?_
          refine g_iconst (v := 1) hc dX10_tick_61 (by decide) ?_
          refine g_iadd hc dX10_tick_62 ?_
          refine pf_M_0_line (v := ((S10.1 17) + 1)) hc wtM_115 dX10_tick_63 (fun S16 f16 => ?_)
          have ho := ho S16 f16
          exact g_lv [0, 1] rfl (g_jn_X10_tick_66 hc _ _ (fun S h => ih (x1 + 1) S (gJ_s hJ c_14) h) ho)
      · have ho := ho.2 c_34
        exact g_lv [0, 1] rfl (g_jn_X10_tick_66 hc _ _ (fun S h => ih (x1 + 1) S (gJ_s hJ c_14) h) ho)
set_option maxRecDepth 100000 in
set_option maxHeartbeats 4000000 in
theorem c_X10_tick (l : Launch) (η : gE)  (S : gSt) (ho : ok_X10_tick S) : gMet l yX10_tick cX10_tick 2 none rm_X10_tick (oM η) [.ref (η.1 0)] S (oV (sp_X10_tick S).1) (sp_X10_tick S).2 := by
  refine gMet_of (X := sp_X10_tick S) (lv := [(0, .ref (η.1 0))]) oV zM_ok (by decide +kernel) (Nat.le_of_ble_eq_true rfl) rfl (fun κ hc => ?_)
  have hc : gC (oM η) κ cX10_tick 2 RX10 none rm_X10_tick := hc
  unfold sp_X10_tick
  unfold ok_X10_tick at ho
  refine g_aload_n (i := 0) hc 0 dX10_tick_0 rfl rfl ?_
  refine g_dup hc dX10_tick_1 rfl ?_
  refine gf_M_0_gone hc wtM_76 dX10_tick_2 ?_
  refine g_lconst (v := 1) hc dX10_tick_5 rfl ?_
  refine g_ladd hc dX10_tick_6 ?_
  refine pf_M_0_gone (v := ((S.2.2.1 0) + 1)) hc wtM_76 dX10_tick_7 (fun S1 f1 => ?_)
  have ho := ho S1 f1
  refine g_iconst (v := 0) hc dX10_tick_10 (by decide) ?_
  refine g_istore_n (i := 1) (lv' := [(1, .int 0), (0, .ref (η.1 0))]) hc dX10_tick_11 rfl (by decide) rfl ?_
  exact g_lv [1, 0] rfl (g_lp_X10_tick_12 hc 4 _ _ (gJ_i (by decide) (by decide)) ho)

abbrev rm_X10_elapse : Room := { frames := 2, cells := 0, slots := 0, locals := 42 }
def lp_X10_elapse_2 : Nat → Int32 → Int32 → gSt → Unit × gSt
  | 0, _, _, S => ((), S)
  | n + 1, x1, x2, S => (if x1 ≤ x2 then ((), S) else gB (sp_X10_tick S) (fun (_ : Unit) S1 => lp_X10_elapse_2 n x1 (x2 + 1) S1))
def ok_lp_X10_elapse_2 : Nat → Int32 → Int32 → gSt → Prop
  | 0, _, _, _ => True
  | n + 1, x1, x2, S => ((x1 ≤ x2 → True) ∧ (¬ x1 ≤ x2 → (ok_X10_tick S ∧ ∀ (r1 : Unit) (S1 : gSt), r1 = (sp_X10_tick S).1 → S1 = (sp_X10_tick S).2 → ok_lp_X10_elapse_2 n x1 (x2 + 1) S1)))
def sp_X10_elapse (a0 : Int32) (S : gSt) : Unit × gSt := lp_X10_elapse_2 (a0.toNatClampNeg + 1) a0 0 S
def ok_X10_elapse (a0 : Int32) (S : gSt) : Prop := ok_lp_X10_elapse_2 (a0.toNatClampNeg + 1) a0 0 S
set_option maxRecDepth 100000 in
set_option maxHeartbeats 4000000 in
theorem g_lp_X10_elapse_2 {η : gE} {κ : gK} (hc : gC (oM η) κ cX10_elapse 3 RX10 none rm_X10_elapse) : ∀ (n : Nat) (x1 : Int32) (x2 : Int32) (S : gSt), gJ x1 x2 n → ok_lp_X10_elapse_2 n x1 x2 S → gG (oM η) κ 3 oV 2 [(0, .ref (η.1 0)), (1, .int x1), (2, .int x2)] [] S (lp_X10_elapse_2 n x1 x2 S) := by
  intro n
  induction n with
  | zero => exact fun _ _ _ h _ => gJ_0 h
  | succ n ih =>
    intro x1 x2 S hJ ho
    rw [lp_X10_elapse_2]
    rw [ok_lp_X10_elapse_2] at ho
    refine g_iload_n (i := 2) hc 2 dX10_elapse_2 rfl rfl ?_
    refine g_iload_n (i := 1) hc 1 dX10_elapse_3 rfl rfl ?_
    refine g_icmpge (tgt := 17) hc dX10_elapse_4 rfl (fun c_4 => ?_) (fun c_4 => ?_)
    · have ho := ho.1 c_4
      exact g_vret hc dX10_elapse_17
    · have ho := ho.2 c_4
      refine g_aload_n (i := 0) hc 0 dX10_elapse_7 rfl rfl ?_
      refine g_callVV hc 0 [] (fun l => c_X10_tick l η S ho.1) wtM_123 ge_X10_tick rfl ⟨rfl, rfl⟩ ⟨Nat.le_of_ble_eq_true rfl, Nat.le_of_ble_eq_true rfl⟩ rfl rfl rfl (Nat.le_of_ble_eq_true rfl) dX10_elapse_8 (fun r1 S1 e1 f1 => ?_)
      have ho := ho.2 r1 S1 e1 f1
      refine g_iinc (i := 2) (v := 1) (lv' := [(2, .int (x2 + 1)), (0, .ref (η.1 0)), (1, .int x1)]) hc 2 dX10_elapse_11 rfl (by decide) (by decide) rfl ?_
      refine g_goto (tgt := 2) hc dX10_elapse_14 rfl ?_
      exact g_lv [1, 2, 0] rfl (ih _ _ _ (gJ_s hJ c_4) ho)
set_option maxRecDepth 100000 in
set_option maxHeartbeats 4000000 in
theorem c_X10_elapse (l : Launch) (η : gE) (a0 : Int32) (S : gSt) (ho : ok_X10_elapse a0 S) : gMet l yX10_elapse cX10_elapse 3 none rm_X10_elapse (oM η) [.ref (η.1 0), .int a0] S (oV (sp_X10_elapse a0 S).1) (sp_X10_elapse a0 S).2 := by
  refine gMet_of (X := sp_X10_elapse a0 S) (lv := [(0, .ref (η.1 0)), (1, .int a0)]) oV zM_ok (by decide +kernel) (Nat.le_of_ble_eq_true rfl) rfl (fun κ hc => ?_)
  have hc : gC (oM η) κ cX10_elapse 3 RX10 none rm_X10_elapse := hc
  unfold sp_X10_elapse
  unfold ok_X10_elapse at ho
  refine g_iconst (v := 0) hc dX10_elapse_0 (by decide) ?_
  refine g_istore_n (i := 2) (lv' := [(2, .int 0), (0, .ref (η.1 0)), (1, .int a0)]) hc dX10_elapse_1 rfl (by decide) rfl ?_
  exact g_lv [1, 2, 0] rfl (g_lp_X10_elapse_2 hc (a0.toNatClampNeg + 1) _ _ _ (gJ_v _) ho)

abbrev rm_X10_fetch : Room := { frames := 4, cells := 0, slots := 0, locals := 89 }
def sp_X10_fetch  (S : gSt) : Int32 × gSt := gB (sp_X10_get (S.1 6) S) (fun r1 S1 => gL (sI S1 6 (((S1.1 6) + 1) &&& 65535)) (fun S2 => (r1, S2)))
def ok_X10_fetch  (S : gSt) : Prop := (ok_X10_get (S.1 6) S ∧ ∀ (r1 : Int32) (S1 : gSt), r1 = (sp_X10_get (S.1 6) S).1 → S1 = (sp_X10_get (S.1 6) S).2 → ∀ S2 : gSt, S2 = sI S1 6 (((S1.1 6) + 1) &&& 65535) → True)
set_option maxRecDepth 100000 in
set_option maxHeartbeats 4000000 in
theorem c_X10_fetch (l : Launch) (η : gE)  (S : gSt) (ho : ok_X10_fetch S) : gMet l yX10_fetch cX10_fetch 2 (some .int) rm_X10_fetch (oM η) [.ref (η.1 0)] S (oI (sp_X10_fetch S).1) (sp_X10_fetch S).2 := by
  refine gMet_of (X := sp_X10_fetch S) (lv := [(0, .ref (η.1 0))]) oI zM_ok (by decide +kernel) (Nat.le_of_ble_eq_true rfl) rfl (fun κ hc => ?_)
  have hc : gC (oM η) κ cX10_fetch 2 RX10 (some .int) rm_X10_fetch := hc
  unfold sp_X10_fetch
  unfold ok_X10_fetch at ho
  refine g_aload_n (i := 0) hc 0 dX10_fetch_0 rfl rfl ?_
  refine g_aload_n (i := 0) hc 0 dX10_fetch_1 rfl rfl ?_
  refine gf_M_0_pc hc wtM_124 dX10_fetch_2 ?_
  refine g_callVI hc 0 [.int (S.1 6)] (fun l => c_X10_get l η (S.1 6) S ho.1) wtM_80 ge_X10_get rfl ⟨rfl, rfl⟩ ⟨Nat.le_of_ble_eq_true rfl, Nat.le_of_ble_eq_true rfl⟩ rfl rfl rfl (Nat.le_of_ble_eq_true rfl) dX10_fetch_5 (fun r1 S1 e1 f1 => ?_)
  have ho := ho.2 r1 S1 e1 f1
  refine g_istore_n (i := 1) (lv' := [(1, .int r1), (0, .ref (η.1 0))]) hc dX10_fetch_8 rfl (by decide) rfl ?_
  refine g_aload_n (i := 0) hc 1 dX10_fetch_9 rfl rfl ?_
  refine g_aload_n (i := 0) hc 1 dX10_fetch_10 rfl rfl ?_
  refine gf_M_0_pc hc wtM_124 dX10_fetch_11 ?_
  refine g_iconst (v := 1) hc dX10_fetch_14 (by decide) ?_
  refine g_iadd hc dX10_fetch_15 ?_
  refine g_ldc (v := 65535) hc wtM_112 dX10_fetch_16 ?_
  refine g_iand hc dX10_fetch_18 ?_
  refine pf_M_0_pc (v := (((S1.1 6) + 1) &&& 65535)) hc wtM_124 dX10_fetch_19 (fun S2 f2 => ?_)
  have ho := ho S2 f2
  refine g_iload_n (i := 1) hc 0 dX10_fetch_22 rfl rfl ?_
  exact g_iret hc dX10_fetch_23

abbrev rm_X10_fetchWord : Room := { frames := 5, cells := 0, slots := 0, locals := 110 }
def sp_X10_fetchWord  (S : gSt) : Int32 × gSt := gB (sp_X10_fetch S) (fun r1 S1 => gB (sp_X10_fetch S1) (fun r2 S2 => ((r1 ||| (r2 <<< ((8 : Int32) &&& (31 : Int32)))), S2)))
def ok_X10_fetchWord  (S : gSt) : Prop := (ok_X10_fetch S ∧ ∀ (r1 : Int32) (S1 : gSt), r1 = (sp_X10_fetch S).1 → S1 = (sp_X10_fetch S).2 → (ok_X10_fetch S1 ∧ ∀ (r2 : Int32) (S2 : gSt), r2 = (sp_X10_fetch S1).1 → S2 = (sp_X10_fetch S1).2 → True))
set_option maxRecDepth 100000 in
set_option maxHeartbeats 4000000 in
theorem c_X10_fetchWord (l : Launch) (η : gE)  (S : gSt) (ho : ok_X10_fetchWord S) : gMet l yX10_fetchWord cX10_fetchWord 2 (some .int) rm_X10_fetchWord (oM η) [.ref (η.1 0)] S (oI (sp_X10_fetchWord S).1) (sp_X10_fetchWord S).2 := by
  refine gMet_of (X := sp_X10_fetchWord S) (lv := [(0, .ref (η.1 0))]) oI zM_ok (by decide +kernel) (Nat.le_of_ble_eq_true rfl) rfl (fun κ hc => ?_)
  have hc : gC (oM η) κ cX10_fetchWord 2 RX10 (some .int) rm_X10_fetchWord := hc
  unfold sp_X10_fetchWord
  unfold ok_X10_fetchWord at ho
  refine g_aload_n (i := 0) hc 0 dX10_fetchWord_0 rfl rfl ?_
  refine g_callVI hc 0 [] (fun l => c_X10_fetch l η S ho.1) wtM_128 ge_X10_fetch rfl ⟨rfl, rfl⟩ ⟨Nat.le_of_ble_eq_true rfl, Nat.le_of_ble_eq_true rfl⟩ rfl rfl rfl (Nat.le_of_ble_eq_true rfl) dX10_fetchWord_1 (fun r1 S1 e1 f1 => ?_)
  have ho := ho.2 r1 S1 e1 f1
  refine g_istore_n (i := 1) (lv' := [(1, .int r1), (0, .ref (η.1 0))]) hc dX10_fetchWord_4 rfl (by decide) rfl ?_
  refine g_iload_n (i := 1) hc 0 dX10_fetchWord_5 rfl rfl ?_
  refine g_aload_n (i := 0) hc 1 dX10_fetchWord_6 rfl rfl ?_
  refine g_callVI hc 0 [] (fun l => c_X10_fetch l η S1 ho.1) wtM_128 ge_X10_fetch rfl ⟨rfl, rfl⟩ ⟨Nat.le_of_ble_eq_true rfl, Nat.le_of_ble_eq_true rfl⟩ rfl rfl rfl (Nat.le_of_ble_eq_true rfl) dX10_fetchWord_7 (fun r2 S2 e2 f2 => ?_)
  have ho := ho.2 r2 S2 e2 f2
  refine g_bipush (v := 8) hc dX10_fetchWord_10 (by decide) ?_
  refine g_ishl hc dX10_fetchWord_12 ?_
  refine g_ior hc dX10_fetchWord_13 ?_
  exact g_iret hc dX10_fetchWord_14

abbrev rm_X10_push : Room := { frames := 0, cells := 0, slots := 0, locals := 0 }
def sp_X10_push (a0 : Int32) (S : gSt) : Unit × gSt := gL (aP S 1 (256 + (S.1 4)) a0) (fun S1 => gL (sI S1 4 (((S1.1 4) - 1) &&& 255)) (fun S2 => ((), S2)))
def ok_X10_push (a0 : Int32) (S : gSt) : Prop := (vp_in (256 + (S.1 4)) 2048 ∧ ∀ S1 : gSt, S1 = aP S 1 (256 + (S.1 4)) a0 → ∀ S2 : gSt, S2 = sI S1 4 (((S1.1 4) - 1) &&& 255) → True)
set_option maxRecDepth 100000 in
set_option maxHeartbeats 4000000 in
theorem c_X10_push (l : Launch) (η : gE) (a0 : Int32) (S : gSt) (ho : ok_X10_push a0 S) : gMet l yX10_push cX10_push 2 none rm_X10_push (oM η) [.ref (η.1 0), .int a0] S (oV (sp_X10_push a0 S).1) (sp_X10_push a0 S).2 := by
  refine gMet_of (X := sp_X10_push a0 S) (lv := [(0, .ref (η.1 0)), (1, .int a0)]) oV zM_ok (by decide +kernel) (Nat.le_of_ble_eq_true rfl) rfl (fun κ hc => ?_)
  have hc : gC (oM η) κ cX10_push 2 RX10 none rm_X10_push := hc
  unfold sp_X10_push
  unfold ok_X10_push at ho
  refine g_aload_n (i := 0) hc 0 dX10_push_0 rfl rfl ?_
  refine gf_M_0_ram hc wtM_74 dX10_push_1 ?_
  refine g_sipush (v := 256) hc dX10_push_4 (by decide) ?_
  refine g_aload_n (i := 0) hc 0 dX10_push_7 rfl rfl ?_
  refine gf_M_0_s hc wtM_129 dX10_push_8 ?_
  refine g_iadd hc dX10_push_11 ?_
  refine g_iload_n (i := 1) hc 1 dX10_push_12 rfl rfl ?_
  refine as_M_1 hc ho.1 dX10_push_13 (fun S1 f1 => ?_)
  have ho := ho.2
  have ho := ho S1 f1
  refine g_aload_n (i := 0) hc 0 dX10_push_14 rfl rfl ?_
  refine g_aload_n (i := 0) hc 0 dX10_push_15 rfl rfl ?_
  refine gf_M_0_s hc wtM_129 dX10_push_16 ?_
  refine g_iconst (v := 1) hc dX10_push_19 (by decide) ?_
  refine g_isub hc dX10_push_20 ?_
  refine g_sipush (v := 255) hc dX10_push_21 (by decide) ?_
  refine g_iand hc dX10_push_24 ?_
  refine pf_M_0_s (v := (((S1.1 4) - 1) &&& 255)) hc wtM_129 dX10_push_25 (fun S2 f2 => ?_)
  have ho := ho S2 f2
  exact g_vret hc dX10_push_28

abbrev rm_X10_pull : Room := { frames := 0, cells := 0, slots := 0, locals := 0 }
def sp_X10_pull  (S : gSt) : Int32 × gSt := gL (sI S 4 (((S.1 4) + 1) &&& 255)) (fun S1 => ((aG S1 1 (256 + (S1.1 4))), S1))
def ok_X10_pull  (S : gSt) : Prop := ∀ S1 : gSt, S1 = sI S 4 (((S.1 4) + 1) &&& 255) → (vp_in (256 + (S1.1 4)) 2048 ∧ True)
set_option maxRecDepth 100000 in
set_option maxHeartbeats 4000000 in
theorem c_X10_pull (l : Launch) (η : gE)  (S : gSt) (ho : ok_X10_pull S) : gMet l yX10_pull cX10_pull 1 (some .int) rm_X10_pull (oM η) [.ref (η.1 0)] S (oI (sp_X10_pull S).1) (sp_X10_pull S).2 := by
  refine gMet_of (X := sp_X10_pull S) (lv := [(0, .ref (η.1 0))]) oI zM_ok (by decide +kernel) (Nat.le_of_ble_eq_true rfl) rfl (fun κ hc => ?_)
  have hc : gC (oM η) κ cX10_pull 1 RX10 (some .int) rm_X10_pull := hc
  unfold sp_X10_pull
  unfold ok_X10_pull at ho
  refine g_aload_n (i := 0) hc 0 dX10_pull_0 rfl rfl ?_
  refine g_aload_n (i := 0) hc 0 dX10_pull_1 rfl rfl ?_
  refine gf_M_0_s hc wtM_129 dX10_pull_2 ?_
  refine g_iconst (v := 1) hc dX10_pull_5 (by decide) ?_
  refine g_iadd hc dX10_pull_6 ?_
  refine g_sipush (v := 255) hc dX10_pull_7 (by decide) ?_
  refine g_iand hc dX10_pull_10 ?_
  refine pf_M_0_s (v := (((S.1 4) + 1) &&& 255)) hc wtM_129 dX10_pull_11 (fun S1 f1 => ?_)
  have ho := ho S1 f1
  refine g_aload_n (i := 0) hc 0 dX10_pull_14 rfl rfl ?_
  refine gf_M_0_ram hc wtM_74 dX10_pull_15 ?_
  refine g_sipush (v := 256) hc dX10_pull_18 (by decide) ?_
  refine g_aload_n (i := 0) hc 0 dX10_pull_21 rfl rfl ?_
  refine gf_M_0_s hc wtM_129 dX10_pull_22 ?_
  refine g_iadd hc dX10_pull_25 ?_
  refine al_M_1 hc ho.1 dX10_pull_26 ?_
  have ho := ho.2
  exact g_iret hc dX10_pull_27

abbrev rm_X10_pushWord : Room := { frames := 1, cells := 0, slots := 0, locals := 21 }
def sp_X10_pushWord (a0 : Int32) (S : gSt) : Unit × gSt := gB (sp_X10_push (a0 >>> ((8 : Int32) &&& (31 : Int32))) S) (fun (_ : Unit) S1 => gB (sp_X10_push (a0 &&& 255) S1) (fun (_ : Unit) S2 => ((), S2)))
def ok_X10_pushWord (a0 : Int32) (S : gSt) : Prop := (ok_X10_push (a0 >>> ((8 : Int32) &&& (31 : Int32))) S ∧ ∀ (r1 : Unit) (S1 : gSt), r1 = (sp_X10_push (a0 >>> ((8 : Int32) &&& (31 : Int32))) S).1 → S1 = (sp_X10_push (a0 >>> ((8 : Int32) &&& (31 : Int32))) S).2 → (ok_X10_push (a0 &&& 255) S1 ∧ ∀ (r2 : Unit) (S2 : gSt), r2 = (sp_X10_push (a0 &&& 255) S1).1 → S2 = (sp_X10_push (a0 &&& 255) S1).2 → True))
set_option maxRecDepth 100000 in
set_option maxHeartbeats 4000000 in
theorem c_X10_pushWord (l : Launch) (η : gE) (a0 : Int32) (S : gSt) (ho : ok_X10_pushWord a0 S) : gMet l yX10_pushWord cX10_pushWord 2 none rm_X10_pushWord (oM η) [.ref (η.1 0), .int a0] S (oV (sp_X10_pushWord a0 S).1) (sp_X10_pushWord a0 S).2 := by
  refine gMet_of (X := sp_X10_pushWord a0 S) (lv := [(0, .ref (η.1 0)), (1, .int a0)]) oV zM_ok (by decide +kernel) (Nat.le_of_ble_eq_true rfl) rfl (fun κ hc => ?_)
  have hc : gC (oM η) κ cX10_pushWord 2 RX10 none rm_X10_pushWord := hc
  unfold sp_X10_pushWord
  unfold ok_X10_pushWord at ho
  refine g_aload_n (i := 0) hc 0 dX10_pushWord_0 rfl rfl ?_
  refine g_iload_n (i := 1) hc 1 dX10_pushWord_1 rfl rfl ?_
  refine g_bipush (v := 8) hc dX10_pushWord_2 (by decide) ?_
  refine g_ishr hc dX10_pushWord_4 ?_
  refine g_callVV hc 0 [.int (a0 >>> ((8 : Int32) &&& (31 : Int32)))] (fun l => c_X10_push l η (a0 >>> ((8 : Int32) &&& (31 : Int32))) S ho.1) wtM_133 ge_X10_push rfl ⟨rfl, rfl⟩ ⟨Nat.le_of_ble_eq_true rfl, Nat.le_of_ble_eq_true rfl⟩ rfl rfl rfl (Nat.le_of_ble_eq_true rfl) dX10_pushWord_5 (fun r1 S1 e1 f1 => ?_)
  have ho := ho.2 r1 S1 e1 f1
  refine g_aload_n (i := 0) hc 0 dX10_pushWord_8 rfl rfl ?_
  refine g_iload_n (i := 1) hc 1 dX10_pushWord_9 rfl rfl ?_
  refine g_sipush (v := 255) hc dX10_pushWord_10 (by decide) ?_
  refine g_iand hc dX10_pushWord_13 ?_
  refine g_callVV hc 0 [.int (a0 &&& 255)] (fun l => c_X10_push l η (a0 &&& 255) S1 ho.1) wtM_133 ge_X10_push rfl ⟨rfl, rfl⟩ ⟨Nat.le_of_ble_eq_true rfl, Nat.le_of_ble_eq_true rfl⟩ rfl rfl rfl (Nat.le_of_ble_eq_true rfl) dX10_pushWord_14 (fun r2 S2 e2 f2 => ?_)
  have ho := ho.2 r2 S2 e2 f2
  exact g_vret hc dX10_pushWord_17

abbrev rm_X10_pullWord : Room := { frames := 1, cells := 0, slots := 0, locals := 20 }
def sp_X10_pullWord  (S : gSt) : Int32 × gSt := gB (sp_X10_pull S) (fun r1 S1 => gB (sp_X10_pull S1) (fun r2 S2 => ((r1 ||| (r2 <<< ((8 : Int32) &&& (31 : Int32)))), S2)))
def ok_X10_pullWord  (S : gSt) : Prop := (ok_X10_pull S ∧ ∀ (r1 : Int32) (S1 : gSt), r1 = (sp_X10_pull S).1 → S1 = (sp_X10_pull S).2 → (ok_X10_pull S1 ∧ ∀ (r2 : Int32) (S2 : gSt), r2 = (sp_X10_pull S1).1 → S2 = (sp_X10_pull S1).2 → True))
set_option maxRecDepth 100000 in
set_option maxHeartbeats 4000000 in
theorem c_X10_pullWord (l : Launch) (η : gE)  (S : gSt) (ho : ok_X10_pullWord S) : gMet l yX10_pullWord cX10_pullWord 2 (some .int) rm_X10_pullWord (oM η) [.ref (η.1 0)] S (oI (sp_X10_pullWord S).1) (sp_X10_pullWord S).2 := by
  refine gMet_of (X := sp_X10_pullWord S) (lv := [(0, .ref (η.1 0))]) oI zM_ok (by decide +kernel) (Nat.le_of_ble_eq_true rfl) rfl (fun κ hc => ?_)
  have hc : gC (oM η) κ cX10_pullWord 2 RX10 (some .int) rm_X10_pullWord := hc
  unfold sp_X10_pullWord
  unfold ok_X10_pullWord at ho
  refine g_aload_n (i := 0) hc 0 dX10_pullWord_0 rfl rfl ?_
  refine g_callVI hc 0 [] (fun l => c_X10_pull l η S ho.1) wtM_137 ge_X10_pull rfl ⟨rfl, rfl⟩ ⟨Nat.le_of_ble_eq_true rfl, Nat.le_of_ble_eq_true rfl⟩ rfl rfl rfl (Nat.le_of_ble_eq_true rfl) dX10_pullWord_1 (fun r1 S1 e1 f1 => ?_)
  have ho := ho.2 r1 S1 e1 f1
  refine g_istore_n (i := 1) (lv' := [(1, .int r1), (0, .ref (η.1 0))]) hc dX10_pullWord_4 rfl (by decide) rfl ?_
  refine g_iload_n (i := 1) hc 0 dX10_pullWord_5 rfl rfl ?_
  refine g_aload_n (i := 0) hc 1 dX10_pullWord_6 rfl rfl ?_
  refine g_callVI hc 0 [] (fun l => c_X10_pull l η S1 ho.1) wtM_137 ge_X10_pull rfl ⟨rfl, rfl⟩ ⟨Nat.le_of_ble_eq_true rfl, Nat.le_of_ble_eq_true rfl⟩ rfl rfl rfl (Nat.le_of_ble_eq_true rfl) dX10_pullWord_7 (fun r2 S2 e2 f2 => ?_)
  have ho := ho.2 r2 S2 e2 f2
  refine g_bipush (v := 8) hc dX10_pullWord_10 (by decide) ?_
  refine g_ishl hc dX10_pullWord_12 ?_
  refine g_ior hc dX10_pullWord_13 ?_
  exact g_iret hc dX10_pullWord_14

abbrev rm_X10_flag : Room := { frames := 0, cells := 0, slots := 0, locals := 0 }
def sp_X10_flag (a0 : Int32) (a1 : Bool) (S : gSt) : Unit × gSt := (if (bI a1) = 0 then gL (sI S 5 ((S.1 5) &&& (a0 ^^^ (-1)))) (fun S1 => ((), S1)) else gL (sI S 5 ((S.1 5) ||| a0)) (fun S2 => ((), S2)))
def ok_X10_flag (a0 : Int32) (a1 : Bool) (S : gSt) : Prop := (((bI a1) = 0 → ∀ S1 : gSt, S1 = sI S 5 ((S.1 5) &&& (a0 ^^^ (-1))) → True) ∧ (¬ (bI a1) = 0 → ∀ S2 : gSt, S2 = sI S 5 ((S.1 5) ||| a0) → True))
set_option maxRecDepth 100000 in
set_option maxHeartbeats 4000000 in
theorem c_X10_flag (l : Launch) (η : gE) (a0 : Int32) (a1 : Bool) (S : gSt) (ho : ok_X10_flag a0 a1 S) : gMet l yX10_flag cX10_flag 3 none rm_X10_flag (oM η) [.ref (η.1 0), .int a0, .int (bI a1)] S (oV (sp_X10_flag a0 a1 S).1) (sp_X10_flag a0 a1 S).2 := by
  refine gMet_of (X := sp_X10_flag a0 a1 S) (lv := [(0, .ref (η.1 0)), (1, .int a0), (2, .int (bI a1))]) oV zM_ok (by decide +kernel) (Nat.le_of_ble_eq_true rfl) rfl (fun κ hc => ?_)
  have hc : gC (oM η) κ cX10_flag 3 RX10 none rm_X10_flag := hc
  unfold sp_X10_flag
  unfold ok_X10_flag at ho
  refine g_aload_n (i := 0) hc 0 dX10_flag_0 rfl rfl ?_
  refine g_iload_n (i := 2) hc 2 dX10_flag_1 rfl rfl ?_
  refine g_ifeq (tgt := 14) hc dX10_flag_2 rfl (fun c_2 => ?_) (fun c_2 => ?_)
  · have ho := ho.1 c_2
    refine g_aload_n (i := 0) hc 0 dX10_flag_14 rfl rfl ?_
    refine gf_M_0_p hc wtM_138 dX10_flag_15 ?_
    refine g_iload_n (i := 1) hc 1 dX10_flag_18 rfl rfl ?_
    refine g_iconst (v := (-1)) hc dX10_flag_19 (by decide) ?_
    refine g_ixor hc dX10_flag_20 ?_
    refine g_iand hc dX10_flag_21 ?_
    refine pf_M_0_p (v := ((S.1 5) &&& (a0 ^^^ (-1)))) hc wtM_138 dX10_flag_22 (fun S1 f1 => ?_)
    have ho := ho S1 f1
    exact g_vret hc dX10_flag_25
  · have ho := ho.2 c_2
    refine g_aload_n (i := 0) hc 0 dX10_flag_5 rfl rfl ?_
    refine gf_M_0_p hc wtM_138 dX10_flag_6 ?_
    refine g_iload_n (i := 1) hc 1 dX10_flag_9 rfl rfl ?_
    refine g_ior hc dX10_flag_10 ?_
    refine g_goto (tgt := 22) hc dX10_flag_11 rfl ?_
    refine pf_M_0_p (v := ((S.1 5) ||| a0)) hc wtM_138 dX10_flag_22 (fun S2 f2 => ?_)
    have ho := ho S2 f2
    exact g_vret hc dX10_flag_25

abbrev rm_X10_shown : Room := { frames := 1, cells := 0, slots := 0, locals := 22 }
def sp_X10_shown (a0 : Int32) (S : gSt) : Int32 × gSt := (if a0 = 0 then gB (sp_X10_flag 2 true S) (fun (_ : Unit) S1 => (if (a0 &&& 128) = 0 then gB (sp_X10_flag 128 false S1) (fun (_ : Unit) S2 => (a0, S2)) else gB (sp_X10_flag 128 true S1) (fun (_ : Unit) S3 => (a0, S3)))) else gB (sp_X10_flag 2 false S) (fun (_ : Unit) S4 => (if (a0 &&& 128) = 0 then gB (sp_X10_flag 128 false S4) (fun (_ : Unit) S5 => (a0, S5)) else gB (sp_X10_flag 128 true S4) (fun (_ : Unit) S6 => (a0, S6)))))
def ok_X10_shown (a0 : Int32) (S : gSt) : Prop := ((a0 = 0 → (ok_X10_flag 2 true S ∧ ∀ (r1 : Unit) (S1 : gSt), r1 = (sp_X10_flag 2 true S).1 → S1 = (sp_X10_flag 2 true S).2 → (((a0 &&& 128) = 0 → (ok_X10_flag 128 false S1 ∧ ∀ (r2 : Unit) (S2 : gSt), r2 = (sp_X10_flag 128 false S1).1 → S2 = (sp_X10_flag 128 false S1).2 → True)) ∧ (¬ (a0 &&& 128) = 0 → (ok_X10_flag 128 true S1 ∧ ∀ (r3 : Unit) (S3 : gSt), r3 = (sp_X10_flag 128 true S1).1 → S3 = (sp_X10_flag 128 true S1).2 → True))))) ∧ (¬ a0 = 0 → (ok_X10_flag 2 false S ∧ ∀ (r4 : Unit) (S4 : gSt), r4 = (sp_X10_flag 2 false S).1 → S4 = (sp_X10_flag 2 false S).2 → (((a0 &&& 128) = 0 → (ok_X10_flag 128 false S4 ∧ ∀ (r5 : Unit) (S5 : gSt), r5 = (sp_X10_flag 128 false S4).1 → S5 = (sp_X10_flag 128 false S4).2 → True)) ∧ (¬ (a0 &&& 128) = 0 → (ok_X10_flag 128 true S4 ∧ ∀ (r6 : Unit) (S6 : gSt), r6 = (sp_X10_flag 128 true S4).1 → S6 = (sp_X10_flag 128 true S4).2 → True))))))
set_option maxRecDepth 100000 in
set_option maxHeartbeats 4000000 in
theorem c_X10_shown (l : Launch) (η : gE) (a0 : Int32) (S : gSt) (ho : ok_X10_shown a0 S) : gMet l yX10_shown cX10_shown 2 (some .int) rm_X10_shown (oM η) [.ref (η.1 0), .int a0] S (oI (sp_X10_shown a0 S).1) (sp_X10_shown a0 S).2 := by
  refine gMet_of (X := sp_X10_shown a0 S) (lv := [(0, .ref (η.1 0)), (1, .int a0)]) oI zM_ok (by decide +kernel) (Nat.le_of_ble_eq_true rfl) rfl (fun κ hc => ?_)
  have hc : gC (oM η) κ cX10_shown 2 RX10 (some .int) rm_X10_shown := hc
  unfold sp_X10_shown
  unfold ok_X10_shown at ho
  refine g_aload_n (i := 0) hc 0 dX10_shown_0 rfl rfl ?_
  refine g_iconst (v := 2) hc dX10_shown_1 (by decide) ?_
  refine g_iload_n (i := 1) hc 1 dX10_shown_2 rfl rfl ?_
  refine g_ifne (tgt := 10) hc dX10_shown_3 rfl (fun c_3 => ?_) (fun c_3 => ?_)
  · have ho := ho.1 c_3
    refine g_iconst (v := 1) hc dX10_shown_6 (by decide) ?_
    refine g_goto (tgt := 11) hc dX10_shown_7 rfl ?_
    refine g_callVV hc 0 [.int 2, .int (bI true)] (fun l => c_X10_flag l η 2 true S ho.1) wtM_142 ge_X10_flag rfl ⟨rfl, rfl⟩ ⟨Nat.le_of_ble_eq_true rfl, Nat.le_of_ble_eq_true rfl⟩ rfl rfl rfl (Nat.le_of_ble_eq_true rfl) dX10_shown_11 (fun r1 S1 e1 f1 => ?_)
    have ho := ho.2 r1 S1 e1 f1
    refine g_aload_n (i := 0) hc 0 dX10_shown_14 rfl rfl ?_
    refine g_sipush (v := 128) hc dX10_shown_15 (by decide) ?_
    refine g_iload_n (i := 1) hc 1 dX10_shown_18 rfl rfl ?_
    refine g_sipush (v := 128) hc dX10_shown_19 (by decide) ?_
    refine g_iand hc dX10_shown_22 ?_
    refine g_ifeq (tgt := 30) hc dX10_shown_23 rfl (fun c_23 => ?_) (fun c_23 => ?_)
    · have ho := ho.1 c_23
      refine g_iconst (v := 0) hc dX10_shown_30 (by decide) ?_
      refine g_callVV hc 0 [.int 128, .int (bI false)] (fun l => c_X10_flag l η 128 false S1 ho.1) wtM_142 ge_X10_flag rfl ⟨rfl, rfl⟩ ⟨Nat.le_of_ble_eq_true rfl, Nat.le_of_ble_eq_true rfl⟩ rfl rfl rfl (Nat.le_of_ble_eq_true rfl) dX10_shown_31 (fun r2 S2 e2 f2 => ?_)
      have ho := ho.2 r2 S2 e2 f2
      refine g_iload_n (i := 1) hc 1 dX10_shown_34 rfl rfl ?_
      exact g_iret hc dX10_shown_35
    · have ho := ho.2 c_23
      refine g_iconst (v := 1) hc dX10_shown_26 (by decide) ?_
      refine g_goto (tgt := 31) hc dX10_shown_27 rfl ?_
      refine g_callVV hc 0 [.int 128, .int (bI true)] (fun l => c_X10_flag l η 128 true S1 ho.1) wtM_142 ge_X10_flag rfl ⟨rfl, rfl⟩ ⟨Nat.le_of_ble_eq_true rfl, Nat.le_of_ble_eq_true rfl⟩ rfl rfl rfl (Nat.le_of_ble_eq_true rfl) dX10_shown_31 (fun r3 S3 e3 f3 => ?_)
      have ho := ho.2 r3 S3 e3 f3
      refine g_iload_n (i := 1) hc 1 dX10_shown_34 rfl rfl ?_
      exact g_iret hc dX10_shown_35
  · have ho := ho.2 c_3
    refine g_iconst (v := 0) hc dX10_shown_10 (by decide) ?_
    refine g_callVV hc 0 [.int 2, .int (bI false)] (fun l => c_X10_flag l η 2 false S ho.1) wtM_142 ge_X10_flag rfl ⟨rfl, rfl⟩ ⟨Nat.le_of_ble_eq_true rfl, Nat.le_of_ble_eq_true rfl⟩ rfl rfl rfl (Nat.le_of_ble_eq_true rfl) dX10_shown_11 (fun r4 S4 e4 f4 => ?_)
    have ho := ho.2 r4 S4 e4 f4
    refine g_aload_n (i := 0) hc 0 dX10_shown_14 rfl rfl ?_
    refine g_sipush (v := 128) hc dX10_shown_15 (by decide) ?_
    refine g_iload_n (i := 1) hc 1 dX10_shown_18 rfl rfl ?_
    refine g_sipush (v := 128) hc dX10_shown_19 (by decide) ?_
    refine g_iand hc dX10_shown_22 ?_
    refine g_ifeq (tgt := 30) hc dX10_shown_23 rfl (fun c_23 => ?_) (fun c_23 => ?_)
    · have ho := ho.1 c_23
      refine g_iconst (v := 0) hc dX10_shown_30 (by decide) ?_
      refine g_callVV hc 0 [.int 128, .int (bI false)] (fun l => c_X10_flag l η 128 false S4 ho.1) wtM_142 ge_X10_flag rfl ⟨rfl, rfl⟩ ⟨Nat.le_of_ble_eq_true rfl, Nat.le_of_ble_eq_true rfl⟩ rfl rfl rfl (Nat.le_of_ble_eq_true rfl) dX10_shown_31 (fun r5 S5 e5 f5 => ?_)
      have ho := ho.2 r5 S5 e5 f5
      refine g_iload_n (i := 1) hc 1 dX10_shown_34 rfl rfl ?_
      exact g_iret hc dX10_shown_35
    · have ho := ho.2 c_23
      refine g_iconst (v := 1) hc dX10_shown_26 (by decide) ?_
      refine g_goto (tgt := 31) hc dX10_shown_27 rfl ?_
      refine g_callVV hc 0 [.int 128, .int (bI true)] (fun l => c_X10_flag l η 128 true S4 ho.1) wtM_142 ge_X10_flag rfl ⟨rfl, rfl⟩ ⟨Nat.le_of_ble_eq_true rfl, Nat.le_of_ble_eq_true rfl⟩ rfl rfl rfl (Nat.le_of_ble_eq_true rfl) dX10_shown_31 (fun r6 S6 e6 f6 => ?_)
      have ho := ho.2 r6 S6 e6 f6
      refine g_iload_n (i := 1) hc 1 dX10_shown_34 rfl rfl ?_
      exact g_iret hc dX10_shown_35

abbrev rm_X10_interrupt : Room := { frames := 5, cells := 0, slots := 0, locals := 111 }
def sp_X10_interrupt (a0 : Int32) (a1 : Int32) (S : gSt) : Unit × gSt := gB (sp_X10_pushWord (S.1 6) S) (fun (_ : Unit) S1 => gB (sp_X10_push a1 S1) (fun (_ : Unit) S2 => gB (sp_X10_flag 4 true S2) (fun (_ : Unit) S3 => gB (sp_X10_word a0 S3) (fun r4 S4 => gL (sI S4 6 r4) (fun S5 => ((), S5))))))
def ok_X10_interrupt (a0 : Int32) (a1 : Int32) (S : gSt) : Prop := (ok_X10_pushWord (S.1 6) S ∧ ∀ (r1 : Unit) (S1 : gSt), r1 = (sp_X10_pushWord (S.1 6) S).1 → S1 = (sp_X10_pushWord (S.1 6) S).2 → (ok_X10_push a1 S1 ∧ ∀ (r2 : Unit) (S2 : gSt), r2 = (sp_X10_push a1 S1).1 → S2 = (sp_X10_push a1 S1).2 → (ok_X10_flag 4 true S2 ∧ ∀ (r3 : Unit) (S3 : gSt), r3 = (sp_X10_flag 4 true S2).1 → S3 = (sp_X10_flag 4 true S2).2 → (ok_X10_word a0 S3 ∧ ∀ (r4 : Int32) (S4 : gSt), r4 = (sp_X10_word a0 S3).1 → S4 = (sp_X10_word a0 S3).2 → ∀ S5 : gSt, S5 = sI S4 6 r4 → True))))
set_option maxRecDepth 100000 in
set_option maxHeartbeats 4000000 in
theorem c_X10_interrupt (l : Launch) (η : gE) (a0 : Int32) (a1 : Int32) (S : gSt) (ho : ok_X10_interrupt a0 a1 S) : gMet l yX10_interrupt cX10_interrupt 3 none rm_X10_interrupt (oM η) [.ref (η.1 0), .int a0, .int a1] S (oV (sp_X10_interrupt a0 a1 S).1) (sp_X10_interrupt a0 a1 S).2 := by
  refine gMet_of (X := sp_X10_interrupt a0 a1 S) (lv := [(0, .ref (η.1 0)), (1, .int a0), (2, .int a1)]) oV zM_ok (by decide +kernel) (Nat.le_of_ble_eq_true rfl) rfl (fun κ hc => ?_)
  have hc : gC (oM η) κ cX10_interrupt 3 RX10 none rm_X10_interrupt := hc
  unfold sp_X10_interrupt
  unfold ok_X10_interrupt at ho
  refine g_aload_n (i := 0) hc 0 dX10_interrupt_0 rfl rfl ?_
  refine g_aload_n (i := 0) hc 0 dX10_interrupt_1 rfl rfl ?_
  refine gf_M_0_pc hc wtM_124 dX10_interrupt_2 ?_
  refine g_callVV hc 0 [.int (S.1 6)] (fun l => c_X10_pushWord l η (S.1 6) S ho.1) wtM_146 ge_X10_pushWord rfl ⟨rfl, rfl⟩ ⟨Nat.le_of_ble_eq_true rfl, Nat.le_of_ble_eq_true rfl⟩ rfl rfl rfl (Nat.le_of_ble_eq_true rfl) dX10_interrupt_5 (fun r1 S1 e1 f1 => ?_)
  have ho := ho.2 r1 S1 e1 f1
  refine g_aload_n (i := 0) hc 0 dX10_interrupt_8 rfl rfl ?_
  refine g_iload_n (i := 2) hc 2 dX10_interrupt_9 rfl rfl ?_
  refine g_callVV hc 0 [.int a1] (fun l => c_X10_push l η a1 S1 ho.1) wtM_133 ge_X10_push rfl ⟨rfl, rfl⟩ ⟨Nat.le_of_ble_eq_true rfl, Nat.le_of_ble_eq_true rfl⟩ rfl rfl rfl (Nat.le_of_ble_eq_true rfl) dX10_interrupt_10 (fun r2 S2 e2 f2 => ?_)
  have ho := ho.2 r2 S2 e2 f2
  refine g_aload_n (i := 0) hc 0 dX10_interrupt_13 rfl rfl ?_
  refine g_iconst (v := 4) hc dX10_interrupt_14 (by decide) ?_
  refine g_iconst (v := 1) hc dX10_interrupt_15 (by decide) ?_
  refine g_callVV hc 0 [.int 4, .int (bI true)] (fun l => c_X10_flag l η 4 true S2 ho.1) wtM_142 ge_X10_flag rfl ⟨rfl, rfl⟩ ⟨Nat.le_of_ble_eq_true rfl, Nat.le_of_ble_eq_true rfl⟩ rfl rfl rfl (Nat.le_of_ble_eq_true rfl) dX10_interrupt_16 (fun r3 S3 e3 f3 => ?_)
  have ho := ho.2 r3 S3 e3 f3
  refine g_aload_n (i := 0) hc 0 dX10_interrupt_19 rfl rfl ?_
  refine g_aload_n (i := 0) hc 0 dX10_interrupt_20 rfl rfl ?_
  refine g_iload_n (i := 1) hc 1 dX10_interrupt_21 rfl rfl ?_
  refine g_callVI hc 0 [.int a0] (fun l => c_X10_word l η a0 S3 ho.1) wtM_150 ge_X10_word rfl ⟨rfl, rfl⟩ ⟨Nat.le_of_ble_eq_true rfl, Nat.le_of_ble_eq_true rfl⟩ rfl rfl rfl (Nat.le_of_ble_eq_true rfl) dX10_interrupt_22 (fun r4 S4 e4 f4 => ?_)
  have ho := ho.2 r4 S4 e4 f4
  refine pf_M_0_pc (v := r4) hc wtM_124 dX10_interrupt_25 (fun S5 f5 => ?_)
  have ho := ho S5 f5
  exact g_vret hc dX10_interrupt_28

abbrev rm_X10_indexed : Room := { frames := 0, cells := 0, slots := 0, locals := 0 }
def sp_X10_indexed (a0 : Int32) (a1 : Int32) (S : gSt) : Int32 × gSt := (if (((a0 + a1) &&& 65535) ^^^ a0) ≤ 255 then gL (sZ S 2 false) (fun S1 => (((a0 + a1) &&& 65535), S1)) else gL (sZ S 2 true) (fun S2 => (((a0 + a1) &&& 65535), S2)))
def ok_X10_indexed (a0 : Int32) (a1 : Int32) (S : gSt) : Prop := (((((a0 + a1) &&& 65535) ^^^ a0) ≤ 255 → ∀ S1 : gSt, S1 = sZ S 2 false → True) ∧ (¬ (((a0 + a1) &&& 65535) ^^^ a0) ≤ 255 → ∀ S2 : gSt, S2 = sZ S 2 true → True))
set_option maxRecDepth 100000 in
set_option maxHeartbeats 4000000 in
theorem c_X10_indexed (l : Launch) (η : gE) (a0 : Int32) (a1 : Int32) (S : gSt) (ho : ok_X10_indexed a0 a1 S) : gMet l yX10_indexed cX10_indexed 4 (some .int) rm_X10_indexed (oM η) [.ref (η.1 0), .int a0, .int a1] S (oI (sp_X10_indexed a0 a1 S).1) (sp_X10_indexed a0 a1 S).2 := by
  refine gMet_of (X := sp_X10_indexed a0 a1 S) (lv := [(0, .ref (η.1 0)), (1, .int a0), (2, .int a1)]) oI zM_ok (by decide +kernel) (Nat.le_of_ble_eq_true rfl) rfl (fun κ hc => ?_)
  have hc : gC (oM η) κ cX10_indexed 4 RX10 (some .int) rm_X10_indexed := hc
  unfold sp_X10_indexed
  unfold ok_X10_indexed at ho
  refine g_iload_n (i := 1) hc 1 dX10_indexed_0 rfl rfl ?_
  refine g_iload_n (i := 2) hc 2 dX10_indexed_1 rfl rfl ?_
  refine g_iadd hc dX10_indexed_2 ?_
  refine g_ldc (v := 65535) hc wtM_112 dX10_indexed_3 ?_
  refine g_iand hc dX10_indexed_5 ?_
  refine g_istore_n (i := 3) (lv' := [(3, .int ((a0 + a1) &&& 65535)), (0, .ref (η.1 0)), (1, .int a0), (2, .int a1)]) hc dX10_indexed_6 rfl (by decide) rfl ?_
  refine g_aload_n (i := 0) hc 1 dX10_indexed_7 rfl rfl ?_
  refine g_iload_n (i := 3) hc 0 dX10_indexed_8 rfl rfl ?_
  refine g_iload_n (i := 1) hc 2 dX10_indexed_9 rfl rfl ?_
  refine g_ixor hc dX10_indexed_10 ?_
  refine g_sipush (v := 255) hc dX10_indexed_11 (by decide) ?_
  refine g_icmple (tgt := 21) hc dX10_indexed_14 rfl (fun c_14 => ?_) (fun c_14 => ?_)
  · have ho := ho.1 c_14
    refine g_iconst (v := 0) hc dX10_indexed_21 (by decide) ?_
    refine pf_M_0_crossed (v := false) hc wtM_151 dX10_indexed_22 (fun S1 f1 => ?_)
    have ho := ho S1 f1
    refine g_iload_n (i := 3) hc 0 dX10_indexed_25 rfl rfl ?_
    exact g_iret hc dX10_indexed_26
  · have ho := ho.2 c_14
    refine g_iconst (v := 1) hc dX10_indexed_17 (by decide) ?_
    refine g_goto (tgt := 22) hc dX10_indexed_18 rfl ?_
    refine pf_M_0_crossed (v := true) hc wtM_151 dX10_indexed_22 (fun S2 f2 => ?_)
    have ho := ho S2 f2
    refine g_iload_n (i := 3) hc 0 dX10_indexed_25 rfl rfl ?_
    exact g_iret hc dX10_indexed_26

abbrev rm_X10_pointed : Room := { frames := 0, cells := 0, slots := 0, locals := 0 }
def sp_X10_pointed (a0 : Int32) (S : gSt) : Int32 × gSt := (((aG S 1 a0) ||| ((aG S 1 ((a0 + 1) &&& 255)) <<< ((8 : Int32) &&& (31 : Int32)))), S)
def ok_X10_pointed (a0 : Int32) (S : gSt) : Prop := (vp_in a0 2048 ∧ (vp_in ((a0 + 1) &&& 255) 2048 ∧ True))
set_option maxRecDepth 100000 in
set_option maxHeartbeats 4000000 in
theorem c_X10_pointed (l : Launch) (η : gE) (a0 : Int32) (S : gSt) (ho : ok_X10_pointed a0 S) : gMet l yX10_pointed cX10_pointed 3 (some .int) rm_X10_pointed (oM η) [.ref (η.1 0), .int a0] S (oI (sp_X10_pointed a0 S).1) (sp_X10_pointed a0 S).2 := by
  refine gMet_of (X := sp_X10_pointed a0 S) (lv := [(0, .ref (η.1 0)), (1, .int a0)]) oI zM_ok (by decide +kernel) (Nat.le_of_ble_eq_true rfl) rfl (fun κ hc => ?_)
  have hc : gC (oM η) κ cX10_pointed 3 RX10 (some .int) rm_X10_pointed := hc
  unfold sp_X10_pointed
  unfold ok_X10_pointed at ho
  refine g_aload_n (i := 0) hc 0 dX10_pointed_0 rfl rfl ?_
  refine gf_M_0_ram hc wtM_74 dX10_pointed_1 ?_
  refine g_iload_n (i := 1) hc 1 dX10_pointed_4 rfl rfl ?_
  refine al_M_1 hc ho.1 dX10_pointed_5 ?_
  have ho := ho.2
  refine g_istore_n (i := 2) (lv' := [(2, .int (aG S 1 a0)), (0, .ref (η.1 0)), (1, .int a0)]) hc dX10_pointed_6 rfl (by decide) rfl ?_
  refine g_iload_n (i := 2) hc 0 dX10_pointed_7 rfl rfl ?_
  refine g_aload_n (i := 0) hc 1 dX10_pointed_8 rfl rfl ?_
  refine gf_M_0_ram hc wtM_74 dX10_pointed_9 ?_
  refine g_iload_n (i := 1) hc 2 dX10_pointed_12 rfl rfl ?_
  refine g_iconst (v := 1) hc dX10_pointed_13 (by decide) ?_
  refine g_iadd hc dX10_pointed_14 ?_
  refine g_sipush (v := 255) hc dX10_pointed_15 (by decide) ?_
  refine g_iand hc dX10_pointed_18 ?_
  refine al_M_1 hc ho.1 dX10_pointed_19 ?_
  have ho := ho.2
  refine g_bipush (v := 8) hc dX10_pointed_20 (by decide) ?_
  refine g_ishl hc dX10_pointed_22 ?_
  refine g_ior hc dX10_pointed_23 ?_
  exact g_iret hc dX10_pointed_24
