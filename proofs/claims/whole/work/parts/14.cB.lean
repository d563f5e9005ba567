abbrev rm_X6_setStrobe : Room := { frames := 0, cells := 0, slots := 0, locals := 0 }
def sp_X6_setStrobe (k : Bool) (a0 : Bool) (S : gSt) : Unit × gSt := (if (bI (S.2.1 6)) = 0 then gL (sZ S 6 a0) (fun S1 => ((), S1)) else (if (bI a0) = 0 then gL (aP S 14 0 (aG S 13 0)) (fun S2 => gL (aP S2 14 1 (aG S2 13 1)) (fun S3 => gL (sZ S3 6 a0) (fun S4 => ((), S4)))) else gL (sZ S 6 a0) (fun S5 => ((), S5))))
set_option maxRecDepth 100000 in
set_option maxHeartbeats 4000000 in
theorem c_X6_setStrobe (l : Launch) (k : Bool) (η : gE) (a0 : Bool) (S : gSt) : gMet l yX6_setStrobe cX6_setStrobe 2 none rm_X6_setStrobe (oC k η) [.ref (η.1 12), .int (bI a0)] S (oV (sp_X6_setStrobe k a0 S).1) (sp_X6_setStrobe k a0 S).2 := by
  refine gMet_of (X := sp_X6_setStrobe k a0 S) (lv := [(0, .ref (η.1 12)), (1, .int (bI a0))]) oV (zC_ok η) (by decide +kernel) (Nat.le_of_ble_eq_true rfl) rfl (fun κ hc => ?_)
  have hc : gC (oC k η) κ cX6_setStrobe 2 RX6 none rm_X6_setStrobe := hc
  unfold sp_X6_setStrobe
  refine g_aload_n (i := 0) hc 0 dX6_setStrobe_0 rfl rfl ?_
  refine gf_C_12_strobe hc wtC_101 dX6_setStrobe_1 ?_
  refine g_ifeq (tgt := 35) hc dX6_setStrobe_4 rfl (fun c_4 => ?_) (fun c_4 => ?_)
  · refine g_aload_n (i := 0) hc 0 dX6_setStrobe_35 rfl rfl ?_
    refine g_iload_n (i := 1) hc 1 dX6_setStrobe_36 rfl rfl ?_
    refine pf_C_12_strobe (v := a0) hc wtC_101 dX6_setStrobe_37 (fun S1 f1 => ?_)
    exact g_vret hc dX6_setStrobe_40
  · refine g_iload_n (i := 1) hc 1 dX6_setStrobe_7 rfl rfl ?_
    refine g_ifne (tgt := 35) hc dX6_setStrobe_8 rfl (fun c_8 => ?_) (fun c_8 => ?_)
    · refine g_aload_n (i := 0) hc 0 dX6_setStrobe_11 rfl rfl ?_
      refine gf_C_12_taken hc wtC_102 dX6_setStrobe_12 ?_
      refine g_iconst (v := 0) hc dX6_setStrobe_15 (by decide) ?_
      refine g_aload_n (i := 0) hc 0 dX6_setStrobe_16 rfl rfl ?_
      refine gf_C_12_buttons hc wtC_103 dX6_setStrobe_17 ?_
      refine g_iconst (v := 0) hc dX6_setStrobe_20 (by decide) ?_
      refine al_C_13 hc (vp_in_iff.mpr (by decide)) dX6_setStrobe_21 ?_
      refine as_C_14 hc (vp_in_iff.mpr (by decide)) dX6_setStrobe_22 (fun S2 f2 => ?_)
      refine g_aload_n (i := 0) hc 0 dX6_setStrobe_23 rfl rfl ?_
      refine gf_C_12_taken hc wtC_102 dX6_setStrobe_24 ?_
      refine g_iconst (v := 1) hc dX6_setStrobe_27 (by decide) ?_
      refine g_aload_n (i := 0) hc 0 dX6_setStrobe_28 rfl rfl ?_
      refine gf_C_12_buttons hc wtC_103 dX6_setStrobe_29 ?_
      refine g_iconst (v := 1) hc dX6_setStrobe_32 (by decide) ?_
      refine al_C_13 hc (vp_in_iff.mpr (by decide)) dX6_setStrobe_33 ?_
      refine as_C_14 hc (vp_in_iff.mpr (by decide)) dX6_setStrobe_34 (fun S3 f3 => ?_)
      refine g_aload_n (i := 0) hc 0 dX6_setStrobe_35 rfl rfl ?_
      refine g_iload_n (i := 1) hc 1 dX6_setStrobe_36 rfl rfl ?_
      refine pf_C_12_strobe (v := a0) hc wtC_101 dX6_setStrobe_37 (fun S4 f4 => ?_)
      exact g_vret hc dX6_setStrobe_40
    · refine g_aload_n (i := 0) hc 0 dX6_setStrobe_35 rfl rfl ?_
      refine g_iload_n (i := 1) hc 1 dX6_setStrobe_36 rfl rfl ?_
      refine pf_C_12_strobe (v := a0) hc wtC_101 dX6_setStrobe_37 (fun S5 f5 => ?_)
      exact g_vret hc dX6_setStrobe_40

abbrev rm_X6_nextBit : Room := { frames := 0, cells := 0, slots := 0, locals := 0 }
def sp_X6_nextBit (k : Bool) (a0 : Int32) (S : gSt) : Int32 × gSt := (if (bI (S.2.1 6)) = 0 then gL (aP S 14 (a0 &&& 1) (((aG S 14 (a0 &&& 1)) >>> ((1 : Int32) &&& (31 : Int32))) ||| 128)) (fun S1 => (((aG S 14 (a0 &&& 1)) &&& 1), S1)) else (((aG S 13 (a0 &&& 1)) &&& 1), S))
set_option maxRecDepth 100000 in
set_option maxHeartbeats 4000000 in
theorem c_X6_nextBit (l : Launch) (k : Bool) (η : gE) (a0 : Int32) (S : gSt) : gMet l yX6_nextBit cX6_nextBit 4 (some .int) rm_X6_nextBit (oC k η) [.ref (η.1 12), .int a0] S (oI (sp_X6_nextBit k a0 S).1) (sp_X6_nextBit k a0 S).2 := by
  refine gMet_of (X := sp_X6_nextBit k a0 S) (lv := [(0, .ref (η.1 12)), (1, .int a0)]) oI (zC_ok η) (by decide +kernel) (Nat.le_of_ble_eq_true rfl) rfl (fun κ hc => ?_)
  have hc : gC (oC k η) κ cX6_nextBit 4 RX6 (some .int) rm_X6_nextBit := hc
  unfold sp_X6_nextBit
  refine g_iload_n (i := 1) hc 1 dX6_nextBit_0 rfl rfl ?_
  refine g_iconst (v := 1) hc dX6_nextBit_1 (by decide) ?_
  refine g_iand hc dX6_nextBit_2 ?_
  refine g_istore_n (i := 2) (lv' := [(2, .int (a0 &&& 1)), (0, .ref (η.1 12)), (1, .int a0)]) hc dX6_nextBit_3 rfl (by decide) rfl ?_
  refine g_aload_n (i := 0) hc 1 dX6_nextBit_4 rfl rfl ?_
  refine gf_C_12_strobe hc wtC_101 dX6_nextBit_5 ?_
  refine g_ifeq (tgt := 20) hc dX6_nextBit_8 rfl (fun c_8 => ?_) (fun c_8 => ?_)
  · refine g_aload_n (i := 0) hc 1 dX6_nextBit_20 rfl rfl ?_
    refine gf_C_12_taken hc wtC_102 dX6_nextBit_21 ?_
    refine g_iload_n (i := 2) hc 0 dX6_nextBit_24 rfl rfl ?_
    refine al_C_14 hc (pk_andIn _ 1 (by decide) (by decide)) dX6_nextBit_25 ?_
    refine g_iconst (v := 1) hc dX6_nextBit_26 (by decide) ?_
    refine g_iand hc dX6_nextBit_27 ?_
    refine g_istore_n (i := 3) (lv' := [(3, .int ((aG S 14 (a0 &&& 1)) &&& 1)), (2, .int (a0 &&& 1)), (0, .ref (η.1 12)), (1, .int a0)]) hc dX6_nextBit_28 rfl (by decide) rfl ?_
    refine g_aload_n (i := 0) hc 2 dX6_nextBit_29 rfl rfl ?_
    refine gf_C_12_taken hc wtC_102 dX6_nextBit_30 ?_
    refine g_iload_n (i := 2) hc 1 dX6_nextBit_33 rfl rfl ?_
    refine g_aload_n (i := 0) hc 2 dX6_nextBit_34 rfl rfl ?_
    refine gf_C_12_taken hc wtC_102 dX6_nextBit_35 ?_
    refine g_iload_n (i := 2) hc 1 dX6_nextBit_38 rfl rfl ?_
    refine al_C_14 hc (pk_andIn _ 1 (by decide) (by decide)) dX6_nextBit_39 ?_
    refine g_iconst (v := 1) hc dX6_nextBit_40 (by decide) ?_
    refine g_ishr hc dX6_nextBit_41 ?_
    refine g_sipush (v := 128) hc dX6_nextBit_42 (by decide) ?_
    refine g_ior hc dX6_nextBit_45 ?_
    refine as_C_14 hc (pk_andIn _ 1 (by decide) (by decide)) dX6_nextBit_46 (fun S1 f1 => ?_)
    refine g_iload_n (i := 3) hc 0 dX6_nextBit_47 rfl rfl ?_
    exact g_iret hc dX6_nextBit_48
  · refine g_aload_n (i := 0) hc 1 dX6_nextBit_11 rfl rfl ?_
    refine gf_C_12_buttons hc wtC_103 dX6_nextBit_12 ?_
    refine g_iload_n (i := 2) hc 0 dX6_nextBit_15 rfl rfl ?_
    refine al_C_13 hc (pk_andIn _ 1 (by decide) (by decide)) dX6_nextBit_16 ?_
    refine g_iconst (v := 1) hc dX6_nextBit_17 (by decide) ?_
    refine g_iand hc dX6_nextBit_18 ?_
    exact g_iret hc dX6_nextBit_19

abbrev rm_X8_countLengths : Room := { frames := 0, cells := 0, slots := 0, locals := 0 }
def lp_X8_countLengths_2 (k : Bool) : Nat → Int32 → gSt → Unit × gSt
  | 0, _, S => ((), S)
  | n + 1, x1, S => (if 4 ≤ x1 then ((), S) else (if (aG S 11 x1) ≤ 0 then lp_X8_countLengths_2 k n (x1 + 1) S else (if (((S.1 23) >>> (x1 &&& (31 : Int32))) &&& 1) = 0 then gL (aP S 11 x1 ((aG S 11 x1) - 1)) (fun S1 => lp_X8_countLengths_2 k n (x1 + 1) S1) else lp_X8_countLengths_2 k n (x1 + 1) S)))
def sp_X8_countLengths (k : Bool)  (S : gSt) : Unit × gSt := lp_X8_countLengths_2 k 5 0 S
set_option maxRecDepth 100000 in
set_option maxHeartbeats 4000000 in
theorem g_lp_X8_countLengths_2 {k : Bool} {η : gE} {κ : gK} (hc : gC (oC k η) κ cX8_countLengths 2 RX8 none rm_X8_countLengths) : ∀ (n : Nat) (x1 : Int32) (S : gSt), gJ 4 x1 n → gG (oC k η) κ 2 oV 2 [(0, .ref (η.1 10)), (1, .int x1)] [] S (lp_X8_countLengths_2 k n x1 S) := by
  intro n
  induction n with
  | zero => exact fun _ _ h => gJ_0 h
  | succ n ih =>
    intro x1 S hJ
    rw [lp_X8_countLengths_2]
    refine g_iload_n (i := 1) hc 1 dX8_countLengths_2 rfl rfl ?_
    refine g_iconst (v := 4) hc dX8_countLengths_3 (by decide) ?_
    refine g_icmpge (tgt := 43) hc dX8_countLengths_4 rfl (fun c_4 => ?_) (fun c_4 => ?_)
    · exact g_vret hc dX8_countLengths_43
    · refine g_aload_n (i := 0) hc 0 dX8_countLengths_7 rfl rfl ?_
      refine gf_C_10_lengths hc wtC_104 dX8_countLengths_8 ?_
      refine g_iload_n (i := 1) hc 1 dX8_countLengths_11 rfl rfl ?_
      refine al_C_11 hc (gJ_in hJ c_4 rfl) dX8_countLengths_12 ?_
      refine g_ifle (tgt := 37) hc dX8_countLengths_13 rfl (fun c_13 => ?_) (fun c_13 => ?_)
      · refine g_iinc (i := 1) (v := 1) (lv' := [(1, .int (x1 + 1)), (0, .ref (η.1 10))]) hc 1 dX8_countLengths_37 rfl (by decide) (by decide) rfl ?_
        refine g_goto (tgt := 2) hc dX8_countLengths_40 rfl ?_
        exact g_lv [1, 0] rfl (ih _ _ (gJ_s hJ c_4))
      · refine g_aload_n (i := 0) hc 0 dX8_countLengths_16 rfl rfl ?_
        refine gf_C_10_halted hc wtC_105 dX8_countLengths_17 ?_
        refine g_iload_n (i := 1) hc 1 dX8_countLengths_20 rfl rfl ?_
        refine g_ishr hc dX8_countLengths_21 ?_
        refine g_iconst (v := 1) hc dX8_countLengths_22 (by decide) ?_
        refine g_iand hc dX8_countLengths_23 ?_
        refine g_ifne (tgt := 37) hc dX8_countLengths_24 rfl (fun c_24 => ?_) (fun c_24 => ?_)
        · refine g_aload_n (i := 0) hc 0 dX8_countLengths_27 rfl rfl ?_
          refine gf_C_10_lengths hc wtC_104 dX8_countLengths_28 ?_
          refine g_iload_n (i := 1) hc 1 dX8_countLengths_31 rfl rfl ?_
          refine g_dup2 hc dX8_countLengths_32 rfl rfl ?_
          refine al_C_11 hc (gJ_in hJ c_4 rfl) dX8_countLengths_33 ?_
          refine g_iconst (v := 1) hc dX8_countLengths_34 (by decide) ?_
          refine g_isub hc dX8_countLengths_35 ?_
          refine as_C_11 hc (gJ_in hJ c_4 rfl) dX8_countLengths_36 (fun S1 f1 => ?_)
          refine g_iinc (i := 1) (v := 1) (lv' := [(1, .int (x1 + 1)), (0, .ref (η.1 10))]) hc 1 dX8_countLengths_37 rfl (by decide) (by decide) rfl ?_
          refine g_goto (tgt := 2) hc dX8_countLengths_40 rfl ?_
          exact g_lv [1, 0] rfl (ih _ _ (gJ_s hJ c_4))
        · refine g_iinc (i := 1) (v := 1) (lv' := [(1, .int (x1 + 1)), (0, .ref (η.1 10))]) hc 1 dX8_countLengths_37 rfl (by decide) (by decide) rfl ?_
          refine g_goto (tgt := 2) hc dX8_countLengths_40 rfl ?_
          exact g_lv [1, 0] rfl (ih _ _ (gJ_s hJ c_4))
set_option maxRecDepth 100000 in
set_option maxHeartbeats 4000000 in
theorem c_X8_countLengths (l : Launch) (k : Bool) (η : gE)  (S : gSt) : gMet l yX8_countLengths cX8_countLengths 2 none rm_X8_countLengths (oC k η) [.ref (η.1 10)] S (oV (sp_X8_countLengths k S).1) (sp_X8_countLengths k S).2 := by
  refine gMet_of (X := sp_X8_countLengths k S) (lv := [(0, .ref (η.1 10))]) oV (zC_ok η) (by decide +kernel) (Nat.le_of_ble_eq_true rfl) rfl (fun κ hc => ?_)
  have hc : gC (oC k η) κ cX8_countLengths 2 RX8 none rm_X8_countLengths := hc
  unfold sp_X8_countLengths
  refine g_iconst (v := 0) hc dX8_countLengths_0 (by decide) ?_
  refine g_istore_n (i := 1) (lv' := [(1, .int 0), (0, .ref (η.1 10))]) hc dX8_countLengths_1 rfl (by decide) rfl ?_
  exact g_lv [1, 0] rfl (g_lp_X8_countLengths_2 hc 5 _ _ (gJ_i (by decide) (by decide)))

abbrev rm_X8_enable : Room := { frames := 0, cells := 0, slots := 0, locals := 0 }
def lp_X8_enable_7 (k : Bool) : Nat → Int32 → Int32 → gSt → Unit × gSt
  | 0, _, _, S => ((), S)
  | n + 1, x1, x2, S => (if 4 ≤ x2 then ((), S) else (if ((x1 >>> (x2 &&& (31 : Int32))) &&& 1) = 0 then gL (aP S 11 x2 0) (fun S2 => lp_X8_enable_7 k n x1 (x2 + 1) S2) else lp_X8_enable_7 k n x1 (x2 + 1) S))
def sp_X8_enable (k : Bool) (a0 : Int32) (S : gSt) : Unit × gSt := gL (sI S 24 a0) (fun S1 => lp_X8_enable_7 k 5 a0 0 S1)
set_option maxRecDepth 100000 in
set_option maxHeartbeats 4000000 in
theorem g_lp_X8_enable_7 {k : Bool} {η : gE} {κ : gK} (hc : gC (oC k η) κ cX8_enable 3 RX8 none rm_X8_enable) : ∀ (n : Nat) (x1 : Int32) (x2 : Int32) (S : gSt), gJ 4 x2 n → gG (oC k η) κ 3 oV 7 [(0, .ref (η.1 10)), (1, .int x1), (2, .int x2)] [] S (lp_X8_enable_7 k n x1 x2 S) := by
  intro n
  induction n with
  | zero => exact fun _ _ _ h => gJ_0 h
  | succ n ih =>
    intro x1 x2 S hJ
    rw [lp_X8_enable_7]
    refine g_iload_n (i := 2) hc 2 dX8_enable_7 rfl rfl ?_
    refine g_iconst (v := 4) hc dX8_enable_8 (by decide) ?_
    refine g_icmpge (tgt := 33) hc dX8_enable_9 rfl (fun c_9 => ?_) (fun c_9 => ?_)
    · exact g_vret hc dX8_enable_33
    · refine g_iload_n (i := 1) hc 1 dX8_enable_12 rfl rfl ?_
      refine g_iload_n (i := 2) hc 2 dX8_enable_13 rfl rfl ?_
      refine g_ishr hc dX8_enable_14 ?_
      refine g_iconst (v := 1) hc dX8_enable_15 (by decide) ?_
      refine g_iand hc dX8_enable_16 ?_
      refine g_ifne (tgt := 27) hc dX8_enable_17 rfl (fun c_17 => ?_) (fun c_17 => ?_)
      · refine g_aload_n (i := 0) hc 0 dX8_enable_20 rfl rfl ?_
        refine gf_C_10_lengths hc wtC_104 dX8_enable_21 ?_
        refine g_iload_n (i := 2) hc 2 dX8_enable_24 rfl rfl ?_
        refine g_iconst (v := 0) hc dX8_enable_25 (by decide) ?_
        refine as_C_11 hc (gJ_in hJ c_9 rfl) dX8_enable_26 (fun S2 f2 => ?_)
        refine g_iinc (i := 2) (v := 1) (lv' := [(2, .int (x2 + 1)), (0, .ref (η.1 10)), (1, .int x1)]) hc 2 dX8_enable_27 rfl (by decide) (by decide) rfl ?_
        refine g_goto (tgt := 7) hc dX8_enable_30 rfl ?_
        exact g_lv [1, 2, 0] rfl (ih _ _ _ (gJ_s hJ c_9))
      · refine g_iinc (i := 2) (v := 1) (lv' := [(2, .int (x2 + 1)), (0, .ref (η.1 10)), (1, .int x1)]) hc 2 dX8_enable_27 rfl (by decide) (by decide) rfl ?_
        refine g_goto (tgt := 7) hc dX8_enable_30 rfl ?_
        exact g_lv [1, 2, 0] rfl (ih _ _ _ (gJ_s hJ c_9))
set_option maxRecDepth 100000 in
set_option maxHeartbeats 4000000 in
theorem c_X8_enable (l : Launch) (k : Bool) (η : gE) (a0 : Int32) (S : gSt) : gMet l yX8_enable cX8_enable 3 none rm_X8_enable (oC k η) [.ref (η.1 10), .int a0] S (oV (sp_X8_enable k a0 S).1) (sp_X8_enable k a0 S).2 := by
  refine gMet_of (X := sp_X8_enable k a0 S) (lv := [(0, .ref (η.1 10)), (1, .int a0)]) oV (zC_ok η) (by decide +kernel) (Nat.le_of_ble_eq_true rfl) rfl (fun κ hc => ?_)
  have hc : gC (oC k η) κ cX8_enable 3 RX8 none rm_X8_enable := hc
  unfold sp_X8_enable
  refine g_aload_n (i := 0) hc 0 dX8_enable_0 rfl rfl ?_
  refine g_iload_n (i := 1) hc 1 dX8_enable_1 rfl rfl ?_
  refine pf_C_10_enabled (v := a0) hc wtC_106 dX8_enable_2 (fun S1 f1 => ?_)
  refine g_iconst (v := 0) hc dX8_enable_5 (by decide) ?_
  refine g_istore_n (i := 2) (lv' := [(2, .int 0), (0, .ref (η.1 10)), (1, .int a0)]) hc dX8_enable_6 rfl (by decide) rfl ?_
  exact g_lv [1, 2, 0] rfl (g_lp_X8_enable_7 hc 5 _ _ _ (gJ_i (by decide) (by decide)))

abbrev rm_X8_restart : Room := { frames := 1, cells := 0, slots := 0, locals := 22 }
def sp_X8_restart (k : Bool)  (S : gSt) : Unit × gSt := gB (sp_X8_enable k 0 S) (fun (_ : Unit) S1 => gL (sZ S1 5 false) (fun S2 => ((), S2)))
set_option maxRecDepth 100000 in
set_option maxHeartbeats 4000000 in
theorem c_X8_restart (l : Launch) (k : Bool) (η : gE)  (S : gSt) : gMet l yX8_restart cX8_restart 1 none rm_X8_restart (oC k η) [.ref (η.1 10)] S (oV (sp_X8_restart k S).1) (sp_X8_restart k S).2 := by
  refine gMet_of (X := sp_X8_restart k S) (lv := [(0, .ref (η.1 10))]) oV (zC_ok η) (by decide +kernel) (Nat.le_of_ble_eq_true rfl) rfl (fun κ hc => ?_)
  have hc : gC (oC k η) κ cX8_restart 1 RX8 none rm_X8_restart := hc
  unfold sp_X8_restart
  refine g_aload_n (i := 0) hc 0 dX8_restart_0 rfl rfl ?_
  refine g_iconst (v := 0) hc dX8_restart_1 (by decide) ?_
  refine g_callVV hc 10 [.int 0] (fun l => c_X8_enable l k η 0 S) wtC_111 ge_X8_enable rfl ⟨rfl, rfl⟩ ⟨Nat.le_of_ble_eq_true rfl, Nat.le_of_ble_eq_true rfl⟩ rfl rfl rfl (Nat.le_of_ble_eq_true rfl) dX8_restart_2 (fun r1 S1 e1 f1 => ?_)
  refine g_aload_n (i := 0) hc 0 dX8_restart_5 rfl rfl ?_
  refine g_iconst (v := 0) hc dX8_restart_6 (by decide) ?_
  refine pf_C_10_irqLine (v := false) hc wtC_112 dX8_restart_7 (fun S2 f2 => ?_)
  exact g_vret hc dX8_restart_10

abbrev rm_X8_loadStatus : Room := { frames := 0, cells := 0, slots := 0, locals := 0 }
def lp_X8_loadStatus_21 (k : Bool) : Nat → Int32 → Int32 → gSt → Int32 × gSt
  | 0, _, _, S => (0, S)
  | n + 1, x1, x2, S => (if 4 ≤ x2 then (x1, S) else (if (aG S 11 x2) ≤ 0 then lp_X8_loadStatus_21 k n x1 (x2 + 1) S else lp_X8_loadStatus_21 k n (x1 ||| ((1 : Int32) <<< (x2 &&& (31 : Int32)))) (x2 + 1) S))
def sp_X8_loadStatus (k : Bool)  (S : gSt) : Int32 × gSt := (if (bI (S.2.1 5)) = 0 then gL (sZ S 5 false) (fun S1 => lp_X8_loadStatus_21 k 5 0 0 S1) else gL (sZ S 5 false) (fun S2 => lp_X8_loadStatus_21 k 5 64 0 S2))
set_option maxRecDepth 100000 in
set_option maxHeartbeats 4000000 in
theorem g_lp_X8_loadStatus_21 {k : Bool} {η : gE} {κ : gK} (hc : gC (oC k η) κ cX8_loadStatus 3 RX8 (some .int) rm_X8_loadStatus) : ∀ (n : Nat) (x1 : Int32) (x2 : Int32) (S : gSt), gJ 4 x2 n → gG (oC k η) κ 3 oI 21 [(0, .ref (η.1 10)), (1, .int x1), (2, .int x2)] [] S (lp_X8_loadStatus_21 k n x1 x2 S) := by
  intro n
  induction n with
  | zero => exact fun _ _ _ h => gJ_0 h
  | succ n ih =>
    intro x1 x2 S hJ
    rw [lp_X8_loadStatus_21]
    refine g_iload_n (i := 2) hc 2 dX8_loadStatus_21 rfl rfl ?_
    refine g_iconst (v := 4) hc dX8_loadStatus_22 (by decide) ?_
    refine g_icmpge (tgt := 47) hc dX8_loadStatus_23 rfl (fun c_23 => ?_) (fun c_23 => ?_)
    · refine g_iload_n (i := 1) hc 1 dX8_loadStatus_47 rfl rfl ?_
      exact g_iret hc dX8_loadStatus_48
    · refine g_aload_n (i := 0) hc 0 dX8_loadStatus_26 rfl rfl ?_
      refine gf_C_10_lengths hc wtC_104 dX8_loadStatus_27 ?_
      refine g_iload_n (i := 2) hc 2 dX8_loadStatus_30 rfl rfl ?_
      refine al_C_11 hc (gJ_in hJ c_23 rfl) dX8_loadStatus_31 ?_
      refine g_ifle (tgt := 41) hc dX8_loadStatus_32 rfl (fun c_32 => ?_) (fun c_32 => ?_)
      · refine g_iinc (i := 2) (v := 1) (lv' := [(2, .int (x2 + 1)), (0, .ref (η.1 10)), (1, .int x1)]) hc 2 dX8_loadStatus_41 rfl (by decide) (by decide) rfl ?_
        refine g_goto (tgt := 21) hc dX8_loadStatus_44 rfl ?_
        exact g_lv [1, 2, 0] rfl (ih _ _ _ (gJ_s hJ c_23))
      · refine g_iload_n (i := 1) hc 1 dX8_loadStatus_35 rfl rfl ?_
        refine g_iconst (v := 1) hc dX8_loadStatus_36 (by decide) ?_
        refine g_iload_n (i := 2) hc 2 dX8_loadStatus_37 rfl rfl ?_
        refine g_ishl hc dX8_loadStatus_38 ?_
        refine g_ior hc dX8_loadStatus_39 ?_
        refine g_istore_n (i := 1) (lv' := [(1, .int (x1 ||| ((1 : Int32) <<< (x2 &&& (31 : Int32))))), (0, .ref (η.1 10)), (2, .int x2)]) hc dX8_loadStatus_40 rfl (by decide) rfl ?_
        refine g_iinc (i := 2) (v := 1) (lv' := [(2, .int (x2 + 1)), (1, .int (x1 ||| ((1 : Int32) <<< (x2 &&& (31 : Int32))))), (0, .ref (η.1 10))]) hc 2 dX8_loadStatus_41 rfl (by decide) (by decide) rfl ?_
        refine g_goto (tgt := 21) hc dX8_loadStatus_44 rfl ?_
        exact g_lv [2, 1, 0] rfl (ih _ _ _ (gJ_s hJ c_23))
set_option maxRecDepth 100000 in
set_option maxHeartbeats 4000000 in
theorem c_X8_loadStatus (l : Launch) (k : Bool) (η : gE)  (S : gSt) : gMet l yX8_loadStatus cX8_loadStatus 3 (some .int) rm_X8_loadStatus (oC k η) [.ref (η.1 10)] S (oI (sp_X8_loadStatus k S).1) (sp_X8_loadStatus k S).2 := by
  refine gMet_of (X := sp_X8_loadStatus k S) (lv := [(0, .ref (η.1 10))]) oI (zC_ok η) (by decide +kernel) (Nat.le_of_ble_eq_true rfl) rfl (fun κ hc => ?_)
  have hc : gC (oC k η) κ cX8_loadStatus 3 RX8 (some .int) rm_X8_loadStatus := hc
  unfold sp_X8_loadStatus
  refine g_aload_n (i := 0) hc 0 dX8_loadStatus_0 rfl rfl ?_
  refine gf_C_10_irqLine hc wtC_112 dX8_loadStatus_1 ?_
  refine g_ifeq (tgt := 12) hc dX8_loadStatus_4 rfl (fun c_4 => ?_) (fun c_4 => ?_)
  · refine g_iconst (v := 0) hc dX8_loadStatus_12 (by decide) ?_
    refine g_istore_n (i := 1) (lv' := [(1, .int 0), (0, .ref (η.1 10))]) hc dX8_loadStatus_13 rfl (by decide) rfl ?_
    refine g_aload_n (i := 0) hc 1 dX8_loadStatus_14 rfl rfl ?_
    refine g_iconst (v := 0) hc dX8_loadStatus_15 (by decide) ?_
    refine pf_C_10_irqLine (v := false) hc wtC_112 dX8_loadStatus_16 (fun S1 f1 => ?_)
    refine g_iconst (v := 0) hc dX8_loadStatus_19 (by decide) ?_
    refine g_istore_n (i := 2) (lv' := [(2, .int 0), (1, .int 0), (0, .ref (η.1 10))]) hc dX8_loadStatus_20 rfl (by decide) rfl ?_
    exact g_lv [2, 1, 0] rfl (g_lp_X8_loadStatus_21 hc 5 _ _ _ (gJ_i (by decide) (by decide)))
  · refine g_bipush (v := 64) hc dX8_loadStatus_7 (by decide) ?_
    refine g_goto (tgt := 13) hc dX8_loadStatus_9 rfl ?_
    refine g_istore_n (i := 1) (lv' := [(1, .int 64), (0, .ref (η.1 10))]) hc dX8_loadStatus_13 rfl (by decide) rfl ?_
    refine g_aload_n (i := 0) hc 1 dX8_loadStatus_14 rfl rfl ?_
    refine g_iconst (v := 0) hc dX8_loadStatus_15 (by decide) ?_
    refine pf_C_10_irqLine (v := false) hc wtC_112 dX8_loadStatus_16 (fun S2 f2 => ?_)
    refine g_iconst (v := 0) hc dX8_loadStatus_19 (by decide) ?_
    refine g_istore_n (i := 2) (lv' := [(2, .int 0), (1, .int 64), (0, .ref (η.1 10))]) hc dX8_loadStatus_20 rfl (by decide) rfl ?_
    exact g_lv [2, 1, 0] rfl (g_lp_X8_loadStatus_21 hc 5 _ _ _ (gJ_i (by decide) (by decide)))

abbrev rm_X8_restartFrame : Room := { frames := 1, cells := 0, slots := 0, locals := 21 }
def sp_X8_restartFrame (k : Bool) (a0 : Int32) (S : gSt) : Unit × gSt := (if (a0 &&& 128) = 0 then gL (sZ S 3 false) (fun S1 => (if (a0 &&& 64) = 0 then gL (sZ S1 4 false) (fun S2 => (if (bI (S2.2.1 4)) = 0 then gL (sI S2 25 0) (fun S3 => (if (bI (S3.2.1 3)) = 0 then ((), S3) else gB (sp_X8_countLengths k S3) (fun (_ : Unit) S4 => ((), S4)))) else gL (sZ S2 5 false) (fun S5 => gL (sI S5 25 0) (fun S6 => (if (bI (S6.2.1 3)) = 0 then ((), S6) else gB (sp_X8_countLengths k S6) (fun (_ : Unit) S7 => ((), S7))))))) else gL (sZ S1 4 true) (fun S8 => (if (bI (S8.2.1 4)) = 0 then gL (sI S8 25 0) (fun S9 => (if (bI (S9.2.1 3)) = 0 then ((), S9) else gB (sp_X8_countLengths k S9) (fun (_ : Unit) S10 => ((), S10)))) else gL (sZ S8 5 false) (fun S11 => gL (sI S11 25 0) (fun S12 => (if (bI (S12.2.1 3)) = 0 then ((), S12) else gB (sp_X8_countLengths k S12) (fun (_ : Unit) S13 => ((), S13))))))))) else gL (sZ S 3 true) (fun S14 => (if (a0 &&& 64) = 0 then gL (sZ S14 4 false) (fun S15 => (if (bI (S15.2.1 4)) = 0 then gL (sI S15 25 0) (fun S16 => (if (bI (S16.2.1 3)) = 0 then ((), S16) else gB (sp_X8_countLengths k S16) (fun (_ : Unit) S17 => ((), S17)))) else gL (sZ S15 5 false) (fun S18 => gL (sI S18 25 0) (fun S19 => (if (bI (S19.2.1 3)) = 0 then ((), S19) else gB (sp_X8_countLengths k S19) (fun (_ : Unit) S20 => ((), S20))))))) else gL (sZ S14 4 true) (fun S21 => (if (bI (S21.2.1 4)) = 0 then gL (sI S21 25 0) (fun S22 => (if (bI (S22.2.1 3)) = 0 then ((), S22) else gB (sp_X8_countLengths k S22) (fun (_ : Unit) S23 => ((), S23)))) else gL (sZ S21 5 false) (fun S24 => gL (sI S24 25 0) (fun S25 => (if (bI (S25.2.1 3)) = 0 then ((), S25) else gB (sp_X8_countLengths k S25) (fun (_ : Unit) S26 => ((), S26))))))))))
set_option maxRecDepth 100000 in
set_option maxHeartbeats 4000000 in
theorem c_X8_restartFrame (l : Launch) (k : Bool) (η : gE) (a0 : Int32) (S : gSt) : gMet l yX8_restartFrame cX8_restartFrame 2 none rm_X8_restartFrame (oC k η) [.ref (η.1 10), .int a0] S (oV (sp_X8_restartFrame k a0 S).1) (sp_X8_restartFrame k a0 S).2 := by
  refine gMet_of (X := sp_X8_restartFrame k a0 S) (lv := [(0, .ref (η.1 10)), (1, .int a0)]) oV (zC_ok η) (by decide +kernel) (Nat.le_of_ble_eq_true rfl) rfl (fun κ hc => ?_)
  have hc : gC (oC k η) κ cX8_restartFrame 2 RX8 none rm_X8_restartFrame := hc
  unfold sp_X8_restartFrame
  refine g_aload_n (i := 0) hc 0 dX8_restartFrame_0 rfl rfl ?_
  refine g_iload_n (i := 1) hc 1 dX8_restartFrame_1 rfl rfl ?_
  refine g_sipush (v := 128) hc dX8_restartFrame_2 (by decide) ?_
  refine g_iand hc dX8_restartFrame_5 ?_
  refine g_ifeq (tgt := 13) hc dX8_restartFrame_6 rfl (fun c_6 => ?_) (fun c_6 => ?_)
  · refine g_iconst (v := 0) hc dX8_restartFrame_13 (by decide) ?_
    refine pf_C_10_isLong (v := false) hc wtC_113 dX8_restartFrame_14 (fun S1 f1 => ?_)
    refine g_aload_n (i := 0) hc 0 dX8_restartFrame_17 rfl rfl ?_
    refine g_iload_n (i := 1) hc 1 dX8_restartFrame_18 rfl rfl ?_
    refine g_bipush (v := 64) hc dX8_restartFrame_19 (by decide) ?_
    refine g_iand hc dX8_restartFrame_21 ?_
    refine g_ifeq (tgt := 29) hc dX8_restartFrame_22 rfl (fun c_22 => ?_) (fun c_22 => ?_)
    · refine g_iconst (v := 0) hc dX8_restartFrame_29 (by decide) ?_
      refine pf_C_10_quiet (v := false) hc wtC_114 dX8_restartFrame_30 (fun S2 f2 => ?_)
      refine g_aload_n (i := 0) hc 0 dX8_restartFrame_33 rfl rfl ?_
      refine gf_C_10_quiet hc wtC_114 dX8_restartFrame_34 ?_
      refine g_ifeq (tgt := 45) hc dX8_restartFrame_37 rfl (fun c_37 => ?_) (fun c_37 => ?_)
      · refine g_aload_n (i := 0) hc 0 dX8_restartFrame_45 rfl rfl ?_
        refine g_iconst (v := 0) hc dX8_restartFrame_46 (by decide) ?_
        refine pf_C_10_frameCycles (v := 0) hc wtC_115 dX8_restartFrame_47 (fun S3 f3 => ?_)
        refine g_aload_n (i := 0) hc 0 dX8_restartFrame_50 rfl rfl ?_
        refine gf_C_10_isLong hc wtC_113 dX8_restartFrame_51 ?_
        refine g_ifeq (tgt := 61) hc dX8_restartFrame_54 rfl (fun c_54 => ?_) (fun c_54 => ?_)
        · exact g_vret hc dX8_restartFrame_61
        · refine g_aload_n (i := 0) hc 0 dX8_restartFrame_57 rfl rfl ?_
          refine g_callVV hc 10 [] (fun l => c_X8_countLengths l k η S3) wtC_119 ge_X8_countLengths rfl ⟨rfl, rfl⟩ ⟨Nat.le_of_ble_eq_true rfl, Nat.le_of_ble_eq_true rfl⟩ rfl rfl rfl (Nat.le_of_ble_eq_true rfl) dX8_restartFrame_58 (fun r4 S4 e4 f4 => ?_)
          exact g_vret hc dX8_restartFrame_61
      · refine g_aload_n (i := 0) hc 0 dX8_restartFrame_40 rfl rfl ?_
        refine g_iconst (v := 0) hc dX8_restartFrame_41 (by decide) ?_
        refine pf_C_10_irqLine (v := false) hc wtC_112 dX8_restartFrame_42 (fun S5 f5 => ?_)
        refine g_aload_n (i := 0) hc 0 dX8_restartFrame_45 rfl rfl ?_
        refine g_iconst (v := 0) hc dX8_restartFrame_46 (by decide) ?_
        refine pf_C_10_frameCycles (v := 0) hc wtC_115 dX8_restartFrame_47 (fun S6 f6 => ?_)
        refine g_aload_n (i := 0) hc 0 dX8_restartFrame_50 rfl rfl ?_
        refine gf_C_10_isLong hc wtC_113 dX8_restartFrame_51 ?_
        refine g_ifeq (tgt := 61) hc dX8_restartFrame_54 rfl (fun c_54 => ?_) (fun c_54 => ?_)
        · exact g_vret hc dX8_restartFrame_61
        · refine g_aload_n (i := 0) hc 0 dX8_restartFrame_57 rfl rfl ?_
          refine g_callVV hc 10 [] (fun l => c_X8_countLengths l k η S6) wtC_119 ge_X8_countLengths rfl ⟨rfl, rfl⟩ ⟨Nat.le_of_ble_eq_true rfl, Nat.le_of_ble_eq_true rfl⟩ rfl rfl rfl (Nat.le_of_ble_eq_true rfl) dX8_restartFrame_58 (fun r7 S7 e7 f7 => ?_)
          exact g_vret hc dX8_restartFrame_61
    · refine g_iconst (v := 1) hc dX8_restartFrame_25 (by decide) ?_
      refine g_goto (tgt := 30) hc dX8_restartFrame_26 rfl ?_
      refine pf_C_10_quiet (v := true) hc wtC_114 dX8_restartFrame_30 (fun S8 f8 => ?_)
      refine g_aload_n (i := 0) hc 0 dX8_restartFrame_33 rfl rfl ?_
      refine gf_C_10_quiet hc wtC_114 dX8_restartFrame_34 ?_
      refine g_ifeq (tgt := 45) hc dX8_restartFrame_37 rfl (fun c_37 => ?_) (fun c_37 => ?_)
      · refine g_aload_n (i := 0) hc 0 dX8_restartFrame_45 rfl rfl ?_
        refine g_iconst (v := 0) hc dX8_restartFrame_46 (by decide) ?_
        refine pf_C_10_frameCycles (v := 0) hc wtC_115 dX8_restartFrame_47 (fun S9 f9 => ?_)
        refine g_aload_n (i := 0) hc 0 dX8_restartFrame_50 rfl rfl ?_
        refine gf_C_10_isLong hc wtC_113 dX8_restartFrame_51 ?_
        refine g_ifeq (tgt := 61) hc dX8_restartFrame_54 rfl (fun c_54 => ?_) (fun c_54 => ?_)
        · exact g_vret hc dX8_restartFrame_61
        · refine g_aload_n (i := 0) hc 0 dX8_restartFrame_57 rfl rfl ?_
          refine g_callVV hc 10 [] (fun l => c_X8_countLengths l k η S9) wtC_119 ge_X8_countLengths rfl ⟨rfl, rfl⟩ ⟨Nat.le_of_ble_eq_true rfl, Nat.le_of_ble_eq_true rfl⟩ rfl rfl rfl (Nat.le_of_ble_eq_true rfl) dX8_restartFrame_58 (fun r10 S10 e10 f10 => ?_)
          exact g_vret hc dX8_restartFrame_61
      · refine g_aload_n (i := 0) hc 0 dX8_restartFrame_40 rfl rfl ?_
        refine g_iconst (v := 0) hc dX8_restartFrame_41 (by decide) ?_
        refine pf_C_10_irqLine (v := false) hc wtC_112 dX8_restartFrame_42 (fun S11 f11 => ?_)
        refine g_aload_n (i := 0) hc 0 dX8_restartFrame_45 rfl rfl ?_
        refine g_iconst (v := 0) hc dX8_restartFrame_46 (by decide) ?_
        refine pf_C_10_frameCycles (v := 0) hc wtC_115 dX8_restartFrame_47 (fun S12 f12 => ?_)
        refine g_aload_n (i := 0) hc 0 dX8_restartFrame_50 rfl rfl ?_
        refine gf_C_10_isLong hc wtC_113 dX8_restartFrame_51 ?_
        refine g_ifeq (tgt := 61) hc dX8_restartFrame_54 rfl (fun c_54 => ?_) (fun c_54 => ?_)
        · exact g_vret hc dX8_restartFrame_61
        · refine g_aload_n (i := 0) hc 0 dX8_restartFrame_57 rfl rfl ?_
          refine g_callVV hc 10 [] (fun l => c_X8_countLengths l k η S12) wtC_119 ge_X8_countLengths rfl ⟨rfl, rfl⟩ ⟨Nat.le_of_ble_eq_true rfl, Nat.le_of_ble_eq_true rfl⟩ rfl rfl rfl (Nat.le_of_ble_eq_true rfl) dX8_restartFrame_58 (fun r13 S13 e13 f13 => ?_)
          exact g_vret hc dX8_restartFrame_61
  · refine g_iconst (v := 1) hc dX8_restartFrame_9 (by decide) ?_
    refine g_goto (tgt := 14) hc dX8_restartFrame_10 rfl ?_
    refine pf_C_10_isLong (v := true) hc wtC_113 dX8_restartFrame_14 (fun S14 f14 => ?_)
    refine g_aload_n (i := 0) hc 0 dX8_restartFrame_17 rfl rfl ?_
    refine g_iload_n (i := 1) hc 1 dX8_restartFrame_18 rfl rfl ?_
    refine g_bipush (v := 64) hc dX8_restartFrame_19 (by decide) ?_
    refine g_iand hc dX8_restartFrame_21 ?_
    refine g_ifeq (tgt := 29) hc dX8_restartFrame_22 rfl (fun c_22 => ?_) (fun c_22 => ?_)
    · refine g_iconst (v := 0) hc dX8_restartFrame_29 (by decide) ?_
      refine pf_C_10_quiet (v := false) hc wtC_114 dX8_restartFrame_30 (fun S15 f15 => ?_)
      refine g_aload_n (i := 0) hc 0 dX8_restartFrame_33 rfl rfl ?_
      refine gf_C_10_quiet hc wtC_114 dX8_restartFrame_34 ?_
      refine g_ifeq (tgt := 45) hc dX8_restartFrame_37 rfl (fun c_37 => ?_) (fun c_37 => ?_)
      · refine g_aload_n (i := 0) hc 0 dX8_restartFrame_45 rfl rfl ?_
        refine g_iconst (v := 0) hc dX8_restartFrame_46 (by decide) ?_
        refine pf_C_10_frameCycles (v := 0) hc wtC_115 dX8_restartFrame_47 (fun S16 f16 => ?_)
        refine g_aload_n (i := 0) hc 0 dX8_restartFrame_50 rfl rfl ?_
        refine gf_C_10_isLong hc wtC_113 dX8_restartFrame_51 ?_
        refine g_ifeq (tgt := 61) hc dX8_restartFrame_54 rfl (fun c_54 => ?_) (fun c_54 => ?_)
        · exact g_vret hc dX8_restartFrame_61
        · refine g_aload_n (i := 0) hc 0 dX8_restartFrame_57 rfl rfl ?_
          refine g_callVV hc 10 [] (fun l => c_X8_countLengths l k η S16) wtC_119 ge_X8_countLengths rfl ⟨rfl, rfl⟩ ⟨Nat.le_of_ble_eq_true rfl, Nat.le_of_ble_eq_true rfl⟩ rfl rfl rfl (Nat.le_of_ble_eq_true rfl) dX8_restartFrame_58 (fun r17 S17 e17 f17 => ?_)
          exact g_vret hc dX8_restartFrame_61
      · refine g_aload_n (i := 0) hc 0 dX8_restartFrame_40 rfl rfl ?_
        refine g_iconst (v := 0) hc dX8_restartFrame_41 (by decide) ?_
        refine pf_C_10_irqLine (v := false) hc wtC_112 dX8_restartFrame_42 (fun S18 f18 => ?_)
        refine g_aload_n (i := 0) hc 0 dX8_restartFrame_45 rfl rfl ?_
        refine g_iconst (v := 0) hc dX8_restartFrame_46 (by decide) ?_
        refine pf_C_10_frameCycles (v := 0) hc wtC_115 dX8_restartFrame_47 (fun S19 f19 => ?_)
        refine g_aload_n (i := 0) hc 0 dX8_restartFrame_50 rfl rfl ?_
        refine gf_C_10_isLong hc wtC_113 dX8_restartFrame_51 ?_
        refine g_ifeq (tgt := 61) hc dX8_restartFrame_54 rfl (fun c_54 => ?_) (fun c_54 => ?_)
        · exact g_vret hc dX8_restartFrame_61
        · refine g_aload_n (i := 0) hc 0 dX8_restartFrame_57 rfl rfl ?_
          refine g_callVV hc 10 [] (fun l => c_X8_countLengths l k η S19) wtC_119 ge_X8_countLengths rfl ⟨rfl, rfl⟩ ⟨Nat.le_of_ble_eq_true rfl, Nat.le_of_ble_eq_true rfl⟩ rfl rfl rfl (Nat.le_of_ble_eq_true rfl) dX8_restartFrame_58 (fun r20 S20 e20 f20 => ?_)
          exact g_vret hc dX8_restartFrame_61
    · refine g_iconst (v := 1) hc dX8_restartFrame_25 (by decide) ?_
      refine g_goto (tgt := 30) hc dX8_restartFrame_26 rfl ?_
      refine pf_C_10_quiet (v := true) hc wtC_114 dX8_restartFrame_30 (fun S21 f21 => ?_)
      refine g_aload_n (i := 0) hc 0 dX8_restartFrame_33 rfl rfl ?_
      refine gf_C_10_quiet hc wtC_114 dX8_restartFrame_34 ?_
      refine g_ifeq (tgt := 45) hc dX8_restartFrame_37 rfl (fun c_37 => ?_) (fun c_37 => ?_)
      · refine g_aload_n (i := 0) hc 0 dX8_restartFrame_45 rfl rfl ?_
        refine g_iconst (v := 0) hc dX8_restartFrame_46 (by decide) ?_
        refine pf_C_10_frameCycles (v := 0) hc wtC_115 dX8_restartFrame_47 (fun S22 f22 => ?_)
        refine g_aload_n (i := 0) hc 0 dX8_restartFrame_50 rfl rfl ?_
        refine gf_C_10_isLong hc wtC_113 dX8_restartFrame_51 ?_
        refine g_ifeq (tgt := 61) hc dX8_restartFrame_54 rfl (fun c_54 => ?_) (fun c_54 => ?_)
        · exact g_vret hc dX8_restartFrame_61
        · refine g_aload_n (i := 0) hc 0 dX8_restartFrame_57 rfl rfl ?_
          refine g_callVV hc 10 [] (fun l => c_X8_countLengths l k η S22) wtC_119 ge_X8_countLengths rfl ⟨rfl, rfl⟩ ⟨Nat.le_of_ble_eq_true rfl, Nat.le_of_ble_eq_true rfl⟩ rfl rfl rfl (Nat.le_of_ble_eq_true rfl) dX8_restartFrame_58 (fun r23 S23 e23 f23 => ?_)
          exact g_vret hc dX8_restartFrame_61
      · refine g_aload_n (i := 0) hc 0 dX8_restartFrame_40 rfl rfl ?_
        refine g_iconst (v := 0) hc dX8_restartFrame_41 (by decide) ?_
        refine pf_C_10_irqLine (v := false) hc wtC_112 dX8_restartFrame_42 (fun S24 f24 => ?_)
        refine g_aload_n (i := 0) hc 0 dX8_restartFrame_45 rfl rfl ?_
        refine g_iconst (v := 0) hc dX8_restartFrame_46 (by decide) ?_
        refine pf_C_10_frameCycles (v := 0) hc wtC_115 dX8_restartFrame_47 (fun S25 f25 => ?_)
        refine g_aload_n (i := 0) hc 0 dX8_restartFrame_50 rfl rfl ?_
        refine gf_C_10_isLong hc wtC_113 dX8_restartFrame_51 ?_
        refine g_ifeq (tgt := 61) hc dX8_restartFrame_54 rfl (fun c_54 => ?_) (fun c_54 => ?_)
        · exact g_vret hc dX8_restartFrame_61
        · refine g_aload_n (i := 0) hc 0 dX8_restartFrame_57 rfl rfl ?_
          refine g_callVV hc 10 [] (fun l => c_X8_countLengths l k η S25) wtC_119 ge_X8_countLengths rfl ⟨rfl, rfl⟩ ⟨Nat.le_of_ble_eq_true rfl, Nat.le_of_ble_eq_true rfl⟩ rfl rfl rfl (Nat.le_of_ble_eq_true rfl) dX8_restartFrame_58 (fun r26 S26 e26 f26 => ?_)
          exact g_vret hc dX8_restartFrame_61

abbrev rm_X8_storeChannel : Room := { frames := 0, cells := 0, slots := 0, locals := 0 }
def sp_X8_storeChannel (k : Bool) (a0 : Int32) (a1 : Int32) (a2 : Int32) (S : gSt) : Unit × gSt := (if a1 = 0 then (if a0 = 2 then (if (a2 &&& 128) = 0 then gL (sI S 23 ((S.1 23) &&& (((1 : Int32) <<< (a0 &&& (31 : Int32))) ^^^ (-1)))) (fun S1 => ((), S1)) else gL (sI S 23 ((S.1 23) ||| ((1 : Int32) <<< (a0 &&& (31 : Int32))))) (fun S2 => ((), S2))) else (if (a2 &&& 32) = 0 then gL (sI S 23 ((S.1 23) &&& (((1 : Int32) <<< (a0 &&& (31 : Int32))) ^^^ (-1)))) (fun S3 => ((), S3)) else gL (sI S 23 ((S.1 23) ||| ((1 : Int32) <<< (a0 &&& (31 : Int32))))) (fun S4 => ((), S4)))) else (if a1 = 3 then (if ((S.1 24) &&& ((1 : Int32) <<< (a0 &&& (31 : Int32)))) = 0 then ((), S) else gL (aP S 11 (a0 &&& 3) (tLE ((a2 >>> ((3 : Int32) &&& (31 : Int32))) &&& 31).toNatClampNeg)) (fun S5 => ((), S5))) else ((), S)))
set_option maxRecDepth 100000 in
set_option maxHeartbeats 4000000 in
theorem c_X8_storeChannel (l : Launch) (k : Bool) (η : gE) (a0 : Int32) (a1 : Int32) (a2 : Int32) (S : gSt) : gMet l yX8_storeChannel cX8_storeChannel 6 none rm_X8_storeChannel (oC k η) [.ref (η.1 10), .int a0, .int a1, .int a2] S (oV (sp_X8_storeChannel k a0 a1 a2 S).1) (sp_X8_storeChannel k a0 a1 a2 S).2 := by
  refine gMet_of (X := sp_X8_storeChannel k a0 a1 a2 S) (lv := [(0, .ref (η.1 10)), (1, .int a0), (2, .int a1), (3, .int a2)]) oV (zC_ok η) (by decide +kernel) (Nat.le_of_ble_eq_true rfl) rfl (fun κ hc => ?_)
  have hc : gC (oC k η) κ cX8_storeChannel 6 RX8 none rm_X8_storeChannel := hc
  unfold sp_X8_storeChannel
  refine g_iconst (v := 1) hc dX8_storeChannel_0 (by decide) ?_
  refine g_iload_n (i := 1) hc 1 dX8_storeChannel_1 rfl rfl ?_
  refine g_ishl hc dX8_storeChannel_2 ?_
  refine g_istore (i := 4) (lv' := [(4, .int ((1 : Int32) <<< (a0 &&& (31 : Int32)))), (0, .ref (η.1 10)), (1, .int a0), (2, .int a1), (3, .int a2)]) hc dX8_storeChannel_3 (by decide) rfl ?_
  refine g_iload_n (i := 2) hc 3 dX8_storeChannel_5 rfl rfl ?_
  refine g_ifne (tgt := 57) hc dX8_storeChannel_6 rfl (fun c_6 => ?_) (fun c_6 => ?_)
  · refine g_iload_n (i := 1) hc 2 dX8_storeChannel_9 rfl rfl ?_
    refine g_iconst (v := 2) hc dX8_storeChannel_10 (by decide) ?_
    refine g_icmpne (tgt := 20) hc dX8_storeChannel_11 rfl (fun c_11 => ?_) (fun c_11 => ?_)
    · refine g_sipush (v := 128) hc dX8_storeChannel_14 (by decide) ?_
      refine g_goto (tgt := 22) hc dX8_storeChannel_17 rfl ?_
      refine g_istore (i := 5) (lv' := [(5, .int 128), (4, .int ((1 : Int32) <<< (a0 &&& (31 : Int32)))), (0, .ref (η.1 10)), (1, .int a0), (2, .int a1), (3, .int a2)]) hc dX8_storeChannel_22 (by decide) rfl ?_
      refine g_aload_n (i := 0) hc 2 dX8_storeChannel_24 rfl rfl ?_
      refine g_iload_n (i := 3) hc 5 dX8_storeChannel_25 rfl rfl ?_
      refine g_iload (i := 5) hc 0 dX8_storeChannel_26 rfl ?_
      refine g_iand hc dX8_storeChannel_28 ?_
      refine g_ifeq (tgt := 42) hc dX8_storeChannel_29 rfl (fun c_29 => ?_) (fun c_29 => ?_)
      · refine g_aload_n (i := 0) hc 2 dX8_storeChannel_42 rfl rfl ?_
        refine gf_C_10_halted hc wtC_105 dX8_storeChannel_43 ?_
        refine g_iload (i := 4) hc 1 dX8_storeChannel_46 rfl ?_
        refine g_iconst (v := (-1)) hc dX8_storeChannel_48 (by decide) ?_
        refine g_ixor hc dX8_storeChannel_49 ?_
        refine g_iand hc dX8_storeChannel_50 ?_
        refine pf_C_10_halted (v := ((S.1 23) &&& (((1 : Int32) <<< (a0 &&& (31 : Int32))) ^^^ (-1)))) hc wtC_105 dX8_storeChannel_51 (fun S1 f1 => ?_)
        refine g_goto (tgt := 90) hc dX8_storeChannel_54 rfl ?_
        exact g_vret hc dX8_storeChannel_90
      · refine g_aload_n (i := 0) hc 2 dX8_storeChannel_32 rfl rfl ?_
        refine gf_C_10_halted hc wtC_105 dX8_storeChannel_33 ?_
        refine g_iload (i := 4) hc 1 dX8_storeChannel_36 rfl ?_
        refine g_ior hc dX8_storeChannel_38 ?_
        refine g_goto (tgt := 51) hc dX8_storeChannel_39 rfl ?_
        refine pf_C_10_halted (v := ((S.1 23) ||| ((1 : Int32) <<< (a0 &&& (31 : Int32))))) hc wtC_105 dX8_storeChannel_51 (fun S2 f2 => ?_)
        refine g_goto (tgt := 90) hc dX8_storeChannel_54 rfl ?_
        exact g_vret hc dX8_storeChannel_90
    · refine g_bipush (v := 32) hc dX8_storeChannel_20 (by decide) ?_
      refine g_istore (i := 5) (lv' := [(5, .int 32), (4, .int ((1 : Int32) <<< (a0 &&& (31 : Int32)))), (0, .ref (η.1 10)), (1, .int a0), (2, .int a1), (3, .int a2)]) hc dX8_storeChannel_22 (by decide) rfl ?_
      refine g_aload_n (i := 0) hc 2 dX8_storeChannel_24 rfl rfl ?_
      refine g_iload_n (i := 3) hc 5 dX8_storeChannel_25 rfl rfl ?_
      refine g_iload (i := 5) hc 0 dX8_storeChannel_26 rfl ?_
      refine g_iand hc dX8_storeChannel_28 ?_
      refine g_ifeq (tgt := 42) hc dX8_storeChannel_29 rfl (fun c_29 => ?_) (fun c_29 => ?_)
      · refine g_aload_n (i := 0) hc 2 dX8_storeChannel_42 rfl rfl ?_
        refine gf_C_10_halted hc wtC_105 dX8_storeChannel_43 ?_
        refine g_iload (i := 4) hc 1 dX8_storeChannel_46 rfl ?_
        refine g_iconst (v := (-1)) hc dX8_storeChannel_48 (by decide) ?_
        refine g_ixor hc dX8_storeChannel_49 ?_
        refine g_iand hc dX8_storeChannel_50 ?_
        refine pf_C_10_halted (v := ((S.1 23) &&& (((1 : Int32) <<< (a0 &&& (31 : Int32))) ^^^ (-1)))) hc wtC_105 dX8_storeChannel_51 (fun S3 f3 => ?_)
        refine g_goto (tgt := 90) hc dX8_storeChannel_54 rfl ?_
        exact g_vret hc dX8_storeChannel_90
      · refine g_aload_n (i := 0) hc 2 dX8_storeChannel_32 rfl rfl ?_
        refine gf_C_10_halted hc wtC_105 dX8_storeChannel_33 ?_
        refine g_iload (i := 4) hc 1 dX8_storeChannel_36 rfl ?_
        refine g_ior hc dX8_storeChannel_38 ?_
        refine g_goto (tgt := 51) hc dX8_storeChannel_39 rfl ?_
        refine pf_C_10_halted (v := ((S.1 23) ||| ((1 : Int32) <<< (a0 &&& (31 : Int32))))) hc wtC_105 dX8_storeChannel_51 (fun S4 f4 => ?_)
        refine g_goto (tgt := 90) hc dX8_storeChannel_54 rfl ?_
        exact g_vret hc dX8_storeChannel_90
  · refine g_iload_n (i := 2) hc 3 dX8_storeChannel_57 rfl rfl ?_
    refine g_iconst (v := 3) hc dX8_storeChannel_58 (by decide) ?_
    refine g_icmpne (tgt := 90) hc dX8_storeChannel_59 rfl (fun c_59 => ?_) (fun c_59 => ?_)
    · refine g_aload_n (i := 0) hc 1 dX8_storeChannel_62 rfl rfl ?_
      refine gf_C_10_enabled hc wtC_106 dX8_storeChannel_63 ?_
      refine g_iload (i := 4) hc 0 dX8_storeChannel_66 rfl ?_
      refine g_iand hc dX8_storeChannel_68 ?_
      refine g_ifeq (tgt := 90) hc dX8_storeChannel_69 rfl (fun c_69 => ?_) (fun c_69 => ?_)
      · exact g_vret hc dX8_storeChannel_90
      · refine g_aload_n (i := 0) hc 1 dX8_storeChannel_72 rfl rfl ?_
        refine gf_C_10_lengths hc wtC_104 dX8_storeChannel_73 ?_
        refine g_iload_n (i := 1) hc 2 dX8_storeChannel_76 rfl rfl ?_
        refine g_iconst (v := 3) hc dX8_storeChannel_77 (by decide) ?_
        refine g_iand hc dX8_storeChannel_78 ?_
        refine g_gets (t := η.2.2.2.2 3) hc (zC_z3 η) wtC_120 rfl dX8_storeChannel_79 ?_
        refine g_iload_n (i := 3) hc 4 dX8_storeChannel_82 rfl rfl ?_
        refine g_iconst (v := 3) hc dX8_storeChannel_83 (by decide) ?_
        refine g_ishr hc dX8_storeChannel_84 ?_
        refine g_bipush (v := 31) hc dX8_storeChannel_85 (by decide) ?_
        refine g_iand hc dX8_storeChannel_87 ?_
        refine g_ti (v := .int (tLE ((a2 >>> ((3 : Int32) &&& (31 : Int32))) &&& 31).toNatClampNeg)) hc (zC_t3 η) (pk_andIn _ 5 (by decide) (by decide)) rfl dX8_storeChannel_88 ?_
        refine as_C_11 hc (pk_andIn _ 2 (by decide) (by decide)) dX8_storeChannel_89 (fun S5 f5 => ?_)
        exact g_vret hc dX8_storeChannel_90
    · exact g_vret hc dX8_storeChannel_90

abbrev rm_X8_store : Room := { frames := 2, cells := 0, slots := 0, locals := 42 }
def sp_X8_store (k : Bool) (a0 : Int32) (a1 : Int32) (S : gSt) : Unit × gSt := (if a0 = 21 then gB (sp_X8_enable k (a1 &&& 15) S) (fun (_ : Unit) S1 => ((), S1)) else (if a0 = 23 then gB (sp_X8_restartFrame k a1 S) (fun (_ : Unit) S2 => ((), S2)) else (if 16 ≤ a0 then ((), S) else gB (sp_X8_storeChannel k ((a0 >>> ((2 : Int32) &&& (31 : Int32))) &&& 3) (a0 &&& 3) a1 S) (fun (_ : Unit) S3 => ((), S3)))))
set_option maxRecDepth 100000 in
set_option maxHeartbeats 4000000 in
theorem c_X8_store (l : Launch) (k : Bool) (η : gE) (a0 : Int32) (a1 : Int32) (S : gSt) : gMet l yX8_store cX8_store 3 none rm_X8_store (oC k η) [.ref (η.1 10), .int a0, .int a1] S (oV (sp_X8_store k a0 a1 S).1) (sp_X8_store k a0 a1 S).2 := by
  refine gMet_of (X := sp_X8_store k a0 a1 S) (lv := [(0, .ref (η.1 10)), (1, .int a0), (2, .int a1)]) oV (zC_ok η) (by decide +kernel) (Nat.le_of_ble_eq_true rfl) rfl (fun κ hc => ?_)
  have hc : gC (oC k η) κ cX8_store 3 RX8 none rm_X8_store := hc
  unfold sp_X8_store
  refine g_iload_n (i := 1) hc 1 dX8_store_0 rfl rfl ?_
  refine g_bipush (v := 21) hc dX8_store_1 (by decide) ?_
  refine g_icmpne (tgt := 17) hc dX8_store_3 rfl (fun c_3 => ?_) (fun c_3 => ?_)
  · refine g_aload_n (i := 0) hc 0 dX8_store_6 rfl rfl ?_
    refine g_iload_n (i := 2) hc 2 dX8_store_7 rfl rfl ?_
    refine g_bipush (v := 15) hc dX8_store_8 (by decide) ?_
    refine g_iand hc dX8_store_10 ?_
    refine g_callVV hc 10 [.int (a1 &&& 15)] (fun l => c_X8_enable l k η (a1 &&& 15) S) wtC_111 ge_X8_enable rfl ⟨rfl, rfl⟩ ⟨Nat.le_of_ble_eq_true rfl, Nat.le_of_ble_eq_true rfl⟩ rfl rfl rfl (Nat.le_of_ble_eq_true rfl) dX8_store_11 (fun r1 S1 e1 f1 => ?_)
    refine g_goto (tgt := 50) hc dX8_store_14 rfl ?_
    exact g_vret hc dX8_store_50
  · refine g_iload_n (i := 1) hc 1 dX8_store_17 rfl rfl ?_
    refine g_bipush (v := 23) hc dX8_store_18 (by decide) ?_
    refine g_icmpne (tgt := 31) hc dX8_store_20 rfl (fun c_20 => ?_) (fun c_20 => ?_)
    · refine g_aload_n (i := 0) hc 0 dX8_store_23 rfl rfl ?_
      refine g_iload_n (i := 2) hc 2 dX8_store_24 rfl rfl ?_
      refine g_callVV hc 10 [.int a1] (fun l => c_X8_restartFrame l k η a1 S) wtC_124 ge_X8_restartFrame rfl ⟨rfl, rfl⟩ ⟨Nat.le_of_ble_eq_true rfl, Nat.le_of_ble_eq_true rfl⟩ rfl rfl rfl (Nat.le_of_ble_eq_true rfl) dX8_store_25 (fun r2 S2 e2 f2 => ?_)
      refine g_goto (tgt := 50) hc dX8_store_28 rfl ?_
      exact g_vret hc dX8_store_50
    · refine g_iload_n (i := 1) hc 1 dX8_store_31 rfl rfl ?_
      refine g_bipush (v := 16) hc dX8_store_32 (by decide) ?_
      refine g_icmpge (tgt := 50) hc dX8_store_34 rfl (fun c_34 => ?_) (fun c_34 => ?_)
      · exact g_vret hc dX8_store_50
      · refine g_aload_n (i := 0) hc 0 dX8_store_37 rfl rfl ?_
        refine g_iload_n (i := 1) hc 1 dX8_store_38 rfl rfl ?_
        refine g_iconst (v := 2) hc dX8_store_39 (by decide) ?_
        refine g_ishr hc dX8_store_40 ?_
        refine g_iconst (v := 3) hc dX8_store_41 (by decide) ?_
        refine g_iand hc dX8_store_42 ?_
        refine g_iload_n (i := 1) hc 1 dX8_store_43 rfl rfl ?_
        refine g_iconst (v := 3) hc dX8_store_44 (by decide) ?_
        refine g_iand hc dX8_store_45 ?_
        refine g_iload_n (i := 2) hc 2 dX8_store_46 rfl rfl ?_
        refine g_callVV hc 10 [.int ((a0 >>> ((2 : Int32) &&& (31 : Int32))) &&& 3), .int (a0 &&& 3), .int a1] (fun l => c_X8_storeChannel l k η ((a0 >>> ((2 : Int32) &&& (31 : Int32))) &&& 3) (a0 &&& 3) a1 S) wtC_128 ge_X8_storeChannel rfl ⟨rfl, rfl⟩ ⟨Nat.le_of_ble_eq_true rfl, Nat.le_of_ble_eq_true rfl⟩ rfl rfl rfl (Nat.le_of_ble_eq_true rfl) dX8_store_47 (fun r3 S3 e3 f3 => ?_)
        exact g_vret hc dX8_store_50

abbrev rm_X8_frameEnd : Room := { frames := 0, cells := 0, slots := 0, locals := 0 }
def sp_X8_frameEnd (k : Bool)  (S : gSt) : Int32 × gSt := (if (bI (S.2.1 3)) = 0 then (29829, S) else (37281, S))
set_option maxRecDepth 100000 in
set_option maxHeartbeats 4000000 in
theorem c_X8_frameEnd (l : Launch) (k : Bool) (η : gE)  (S : gSt) : gMet l yX8_frameEnd cX8_frameEnd 1 (some .int) rm_X8_frameEnd (oC k η) [.ref (η.1 10)] S (oI (sp_X8_frameEnd k S).1) (sp_X8_frameEnd k S).2 := by
  refine gMet_of (X := sp_X8_frameEnd k S) (lv := [(0, .ref (η.1 10))]) oI (zC_ok η) (by decide +kernel) (Nat.le_of_ble_eq_true rfl) rfl (fun κ hc => ?_)
  have hc : gC (oC k η) κ cX8_frameEnd 1 RX8 (some .int) rm_X8_frameEnd := hc
  unfold sp_X8_frameEnd
  refine g_aload_n (i := 0) hc 0 dX8_frameEnd_0 rfl rfl ?_
  refine gf_C_10_isLong hc wtC_113 dX8_frameEnd_1 ?_
  refine g_ifeq (tgt := 12) hc dX8_frameEnd_4 rfl (fun c_4 => ?_) (fun c_4 => ?_)
  · refine g_sipush (v := 29829) hc dX8_frameEnd_12 (by decide) ?_
    exact g_iret hc dX8_frameEnd_15
  · refine g_ldc (v := 37281) hc wtC_129 dX8_frameEnd_7 ?_
    refine g_goto (tgt := 15) hc dX8_frameEnd_9 rfl ?_
    exact g_iret hc dX8_frameEnd_15

abbrev rm_X8_nextMark : Room := { frames := 1, cells := 0, slots := 0, locals := 20 }
def sp_X8_nextMark (k : Bool)  (S : gSt) : Int32 × gSt := (if 14913 ≤ (S.1 25) then gB (sp_X8_frameEnd k S) (fun r1 S1 => (if r1 ≤ (S.1 25) then gB (sp_X8_frameEnd k S1) (fun r2 S2 => ((r2 + 1), S2)) else gB (sp_X8_frameEnd k S1) (fun r3 S3 => (r3, S3)))) else (14913, S))
set_option maxRecDepth 100000 in
set_option maxHeartbeats 4000000 in
theorem c_X8_nextMark (l : Launch) (k : Bool) (η : gE)  (S : gSt) : gMet l yX8_nextMark cX8_nextMark 1 (some .int) rm_X8_nextMark (oC k η) [.ref (η.1 10)] S (oI (sp_X8_nextMark k S).1) (sp_X8_nextMark k S).2 := by
  refine gMet_of (X := sp_X8_nextMark k S) (lv := [(0, .ref (η.1 10))]) oI (zC_ok η) (by decide +kernel) (Nat.le_of_ble_eq_true rfl) rfl (fun κ hc => ?_)
  have hc : gC (oC k η) κ cX8_nextMark 1 RX8 (some .int) rm_X8_nextMark := hc
  unfold sp_X8_nextMark
  refine g_aload_n (i := 0) hc 0 dX8_nextMark_0 rfl rfl ?_
  refine gf_C_10_frameCycles hc wtC_115 dX8_nextMark_1 ?_
  refine g_sipush (v := 14913) hc dX8_nextMark_4 (by decide) ?_
  refine g_icmpge (tgt := 14) hc dX8_nextMark_7 rfl (fun c_7 => ?_) (fun c_7 => ?_)
  · refine g_aload_n (i := 0) hc 0 dX8_nextMark_14 rfl rfl ?_
    refine gf_C_10_frameCycles hc wtC_115 dX8_nextMark_15 ?_
    refine g_aload_n (i := 0) hc 0 dX8_nextMark_18 rfl rfl ?_
    refine g_callVI hc 10 [] (fun l => c_X8_frameEnd l k η S) wtC_133 ge_X8_frameEnd rfl ⟨rfl, rfl⟩ ⟨Nat.le_of_ble_eq_true rfl, Nat.le_of_ble_eq_true rfl⟩ rfl rfl rfl (Nat.le_of_ble_eq_true rfl) dX8_nextMark_19 (fun r1 S1 e1 f1 => ?_)
    refine g_icmpge (tgt := 32) hc dX8_nextMark_22 rfl (fun c_22 => ?_) (fun c_22 => ?_)
    · refine g_aload_n (i := 0) hc 0 dX8_nextMark_32 rfl rfl ?_
      refine g_callVI hc 10 [] (fun l => c_X8_frameEnd l k η S1) wtC_133 ge_X8_frameEnd rfl ⟨rfl, rfl⟩ ⟨Nat.le_of_ble_eq_true rfl, Nat.le_of_ble_eq_true rfl⟩ rfl rfl rfl (Nat.le_of_ble_eq_true rfl) dX8_nextMark_33 (fun r2 S2 e2 f2 => ?_)
      refine g_iconst (v := 1) hc dX8_nextMark_36 (by decide) ?_
      refine g_iadd hc dX8_nextMark_37 ?_
      exact g_iret hc dX8_nextMark_38
    · refine g_aload_n (i := 0) hc 0 dX8_nextMark_25 rfl rfl ?_
      refine g_callVI hc 10 [] (fun l => c_X8_frameEnd l k η S1) wtC_133 ge_X8_frameEnd rfl ⟨rfl, rfl⟩ ⟨Nat.le_of_ble_eq_true rfl, Nat.le_of_ble_eq_true rfl⟩ rfl rfl rfl (Nat.le_of_ble_eq_true rfl) dX8_nextMark_26 (fun r3 S3 e3 f3 => ?_)
      refine g_goto (tgt := 38) hc dX8_nextMark_29 rfl ?_
      exact g_iret hc dX8_nextMark_38
  · refine g_sipush (v := 14913) hc dX8_nextMark_10 (by decide) ?_
    exact g_iret hc dX8_nextMark_13

abbrev rm_X8_comeToMark : Room := { frames := 1, cells := 0, slots := 0, locals := 21 }
def sp_X8_comeToMark (k : Bool)  (S : gSt) : Unit × gSt := gB (sp_X8_frameEnd k S) (fun r1 S1 => (if (S.1 25) ≤ r1 then gB (sp_X8_countLengths k S1) (fun (_ : Unit) S2 => gB (sp_X8_frameEnd k S2) (fun r3 S3 => (if (S2.1 25) = r3 then (if (bI (S3.2.1 3)) = 0 then (if (bI (S3.2.1 4)) = 0 then gL (sZ S3 5 true) (fun S4 => ((), S4)) else ((), S3)) else ((), S3)) else ((), S3)))) else gL (sI S1 25 0) (fun S5 => ((), S5))))
set_option maxRecDepth 100000 in
set_option maxHeartbeats 4000000 in
theorem c_X8_comeToMark (l : Launch) (k : Bool) (η : gE)  (S : gSt) : gMet l yX8_comeToMark cX8_comeToMark 1 none rm_X8_comeToMark (oC k η) [.ref (η.1 10)] S (oV (sp_X8_comeToMark k S).1) (sp_X8_comeToMark k S).2 := by
  refine gMet_of (X := sp_X8_comeToMark k S) (lv := [(0, .ref (η.1 10))]) oV (zC_ok η) (by decide +kernel) (Nat.le_of_ble_eq_true rfl) rfl (fun κ hc => ?_)
  have hc : gC (oC k η) κ cX8_comeToMark 1 RX8 none rm_X8_comeToMark := hc
  unfold sp_X8_comeToMark
  refine g_aload_n (i := 0) hc 0 dX8_comeToMark_0 rfl rfl ?_
  refine gf_C_10_frameCycles hc wtC_115 dX8_comeToMark_1 ?_
  refine g_aload_n (i := 0) hc 0 dX8_comeToMark_4 rfl rfl ?_
  refine g_callVI hc 10 [] (fun l => c_X8_frameEnd l k η S) wtC_133 ge_X8_frameEnd rfl ⟨rfl, rfl⟩ ⟨Nat.le_of_ble_eq_true rfl, Nat.le_of_ble_eq_true rfl⟩ rfl rfl rfl (Nat.le_of_ble_eq_true rfl) dX8_comeToMark_5 (fun r1 S1 e1 f1 => ?_)
  refine g_icmple (tgt := 17) hc dX8_comeToMark_8 rfl (fun c_8 => ?_) (fun c_8 => ?_)
  · refine g_aload_n (i := 0) hc 0 dX8_comeToMark_17 rfl rfl ?_
    refine g_callVV hc 10 [] (fun l => c_X8_countLengths l k η S1) wtC_119 ge_X8_countLengths rfl ⟨rfl, rfl⟩ ⟨Nat.le_of_ble_eq_true rfl, Nat.le_of_ble_eq_true rfl⟩ rfl rfl rfl (Nat.le_of_ble_eq_true rfl) dX8_comeToMark_18 (fun r2 S2 e2 f2 => ?_)
    refine g_aload_n (i := 0) hc 0 dX8_comeToMark_21 rfl rfl ?_
    refine gf_C_10_frameCycles hc wtC_115 dX8_comeToMark_22 ?_
    refine g_aload_n (i := 0) hc 0 dX8_comeToMark_25 rfl rfl ?_
    refine g_callVI hc 10 [] (fun l => c_X8_frameEnd l k η S2) wtC_133 ge_X8_frameEnd rfl ⟨rfl, rfl⟩ ⟨Nat.le_of_ble_eq_true rfl, Nat.le_of_ble_eq_true rfl⟩ rfl rfl rfl (Nat.le_of_ble_eq_true rfl) dX8_comeToMark_26 (fun r3 S3 e3 f3 => ?_)
    refine g_icmpne (tgt := 51) hc dX8_comeToMark_29 rfl (fun c_29 => ?_) (fun c_29 => ?_)
    · refine g_aload_n (i := 0) hc 0 dX8_comeToMark_32 rfl rfl ?_
      refine gf_C_10_isLong hc wtC_113 dX8_comeToMark_33 ?_
      refine g_ifne (tgt := 51) hc dX8_comeToMark_36 rfl (fun c_36 => ?_) (fun c_36 => ?_)
      · refine g_aload_n (i := 0) hc 0 dX8_comeToMark_39 rfl rfl ?_
        refine gf_C_10_quiet hc wtC_114 dX8_comeToMark_40 ?_
        refine g_ifne (tgt := 51) hc dX8_comeToMark_43 rfl (fun c_43 => ?_) (fun c_43 => ?_)
        · refine g_aload_n (i := 0) hc 0 dX8_comeToMark_46 rfl rfl ?_
          refine g_iconst (v := 1) hc dX8_comeToMark_47 (by decide) ?_
          refine pf_C_10_irqLine (v := true) hc wtC_112 dX8_comeToMark_48 (fun S4 f4 => ?_)
          exact g_vret hc dX8_comeToMark_51
        · exact g_vret hc dX8_comeToMark_51
      · exact g_vret hc dX8_comeToMark_51
    · exact g_vret hc dX8_comeToMark_51
  · refine g_aload_n (i := 0) hc 0 dX8_comeToMark_11 rfl rfl ?_
    refine g_iconst (v := 0) hc dX8_comeToMark_12 (by decide) ?_
    refine pf_C_10_frameCycles (v := 0) hc wtC_115 dX8_comeToMark_13 (fun S5 f5 => ?_)
    exact g_vret hc dX8_comeToMark_16

abbrev rm_X8_advance : Room := { frames := 2, cells := 0, slots := 0, locals := 41 }
def lp_X8_advance_4 (k : Bool) : Nat → Int32 → Int32 → Int32 → gSt → Unit × gSt
  | 0, _, _, _, S => ((), S)
  | n + 1, x1, x2, x3, S => (if 1000 ≤ x3 then ((), S) else (if x2 ≤ 0 then ((), S) else gB (sp_X8_nextMark k S) (fun r1 S1 => gL (sI S1 25 ((S1.1 25) + (if (r1 - (S1.1 25)) < x2 then (r1 - (S1.1 25)) else x2))) (fun S2 => (if (S2.1 25) = r1 then gB (sp_X8_comeToMark k S2) (fun (_ : Unit) S3 => lp_X8_advance_4 k n x1 (x2 - (if (r1 - (S1.1 25)) < x2 then (r1 - (S1.1 25)) else x2)) (x3 + 1) S3) else lp_X8_advance_4 k n x1 (x2 - (if (r1 - (S1.1 25)) < x2 then (r1 - (S1.1 25)) else x2)) (x3 + 1) S2)))))
def sp_X8_advance (k : Bool) (a0 : Int32) (S : gSt) : Unit × gSt := lp_X8_advance_4 k 1001 a0 a0 0 S
set_option maxRecDepth 100000 in
set_option maxHeartbeats 4000000 in
theorem g_lp_X8_advance_4 {k : Bool} {η : gE} {κ : gK} (hc : gC (oC k η) κ cX8_advance 6 RX8 none rm_X8_advance) : ∀ (n : Nat) (x1 : Int32) (x2 : Int32) (x3 : Int32) (S : gSt), gJ 1000 x3 n → gG (oC k η) κ 6 oV 4 [(0, .ref (η.1 10)), (1, .int x1), (2, .int x2), (3, .int x3)] [] S (lp_X8_advance_4 k n x1 x2 x3 S) := by
  intro n
  induction n with
  | zero => exact fun _ _ _ _ h => gJ_0 h
  | succ n ih =>
    intro x1 x2 x3 S hJ
    rw [lp_X8_advance_4]
    refine g_iload_n (i := 3) hc 3 dX8_advance_4 rfl rfl ?_
    refine g_sipush (v := 1000) hc dX8_advance_5 (by decide) ?_
    refine g_icmpge (tgt := 69) hc dX8_advance_8 rfl (fun c_8 => ?_) (fun c_8 => ?_)
    · exact g_vret hc dX8_advance_69
    · refine g_iload_n (i := 2) hc 2 dX8_advance_11 rfl rfl ?_
      refine g_ifle (tgt := 69) hc dX8_advance_12 rfl (fun c_12 => ?_) (fun c_12 => ?_)
      · exact g_vret hc dX8_advance_69
      · refine g_aload_n (i := 0) hc 0 dX8_advance_15 rfl rfl ?_
        refine g_callVI hc 10 [] (fun l => c_X8_nextMark l k η S) wtC_137 ge_X8_nextMark rfl ⟨rfl, rfl⟩ ⟨Nat.le_of_ble_eq_true rfl, Nat.le_of_ble_eq_true rfl⟩ rfl rfl rfl (Nat.le_of_ble_eq_true rfl) dX8_advance_16 (fun r1 S1 e1 f1 => ?_)
        refine g_istore (i := 4) (lv' := [(4, .int r1), (0, .ref (η.1 10)), (1, .int x1), (2, .int x2), (3, .int x3)]) hc dX8_advance_19 (by decide) rfl ?_
        refine g_iload_n (i := 2) hc 3 dX8_advance_21 rfl rfl ?_
        refine g_iload (i := 4) hc 0 dX8_advance_22 rfl ?_
        refine g_aload_n (i := 0) hc 1 dX8_advance_24 rfl rfl ?_
        refine gf_C_10_frameCycles hc wtC_115 dX8_advance_25 ?_
        refine g_isub hc dX8_advance_28 ?_
        refine g_mmin hc wtC_138 wtC_139 wtC_140 wtC_141 ⟨by decide, Nat.le_of_ble_eq_true rfl⟩ dX8_advance_29 ?_
        refine g_istore (i := 5) (lv' := [(5, .int (if (r1 - (S1.1 25)) < x2 then (r1 - (S1.1 25)) else x2)), (4, .int r1), (0, .ref (η.1 10)), (1, .int x1), (2, .int x2), (3, .int x3)]) hc dX8_advance_32 (by decide) rfl ?_
        refine g_iload_n (i := 2) hc 4 dX8_advance_34 rfl rfl ?_
        refine g_iload (i := 5) hc 0 dX8_advance_35 rfl ?_
        refine g_isub hc dX8_advance_37 ?_
        refine g_istore_n (i := 2) (lv' := [(2, .int (x2 - (if (r1 - (S1.1 25)) < x2 then (r1 - (S1.1 25)) else x2))), (5, .int (if (r1 - (S1.1 25)) < x2 then (r1 - (S1.1 25)) else x2)), (4, .int r1), (0, .ref (η.1 10)), (1, .int x1), (3, .int x3)]) hc dX8_advance_38 rfl (by decide) rfl ?_
        refine g_aload_n (i := 0) hc 3 dX8_advance_39 rfl rfl ?_
        refine g_dup hc dX8_advance_40 rfl ?_
        refine gf_C_10_frameCycles hc wtC_115 dX8_advance_41 ?_
        refine g_iload (i := 5) hc 1 dX8_advance_44 rfl ?_
        refine g_iadd hc dX8_advance_46 ?_
        refine pf_C_10_frameCycles (v := ((S1.1 25) + (if (r1 - (S1.1 25)) < x2 then (r1 - (S1.1 25)) else x2))) hc wtC_115 dX8_advance_47 (fun S2 f2 => ?_)
        refine g_aload_n (i := 0) hc 3 dX8_advance_50 rfl rfl ?_
        refine gf_C_10_frameCycles hc wtC_115 dX8_advance_51 ?_
        refine g_iload (i := 4) hc 2 dX8_advance_54 rfl ?_
        refine g_icmpne (tgt := 63) hc dX8_advance_56 rfl (fun c_56 => ?_) (fun c_56 => ?_)
        · refine g_aload_n (i := 0) hc 3 dX8_advance_59 rfl rfl ?_
          refine g_callVV hc 10 [] (fun l => c_X8_comeToMark l k η S2) wtC_145 ge_X8_comeToMark rfl ⟨rfl, rfl⟩ ⟨Nat.le_of_ble_eq_true rfl, Nat.le_of_ble_eq_true rfl⟩ rfl rfl rfl (Nat.le_of_ble_eq_true rfl) dX8_advance_60 (fun r3 S3 e3 f3 => ?_)
          refine g_iinc (i := 3) (v := 1) (lv' := [(3, .int (x3 + 1)), (2, .int (x2 - (if (r1 - (S1.1 25)) < x2 then (r1 - (S1.1 25)) else x2))), (5, .int (if (r1 - (S1.1 25)) < x2 then (r1 - (S1.1 25)) else x2)), (4, .int r1), (0, .ref (η.1 10)), (1, .int x1)]) hc 5 dX8_advance_63 rfl (by decide) (by decide) rfl ?_
          refine g_goto (tgt := 4) hc dX8_advance_66 rfl ?_
          exact g_lv [4, 5, 1, 0] rfl (ih _ _ _ _ (gJ_s hJ c_8))
        · refine g_iinc (i := 3) (v := 1) (lv' := [(3, .int (x3 + 1)), (2, .int (x2 - (if (r1 - (S1.1 25)) < x2 then (r1 - (S1.1 25)) else x2))), (5, .int (if (r1 - (S1.1 25)) < x2 then (r1 - (S1.1 25)) else x2)), (4, .int r1), (0, .ref (η.1 10)), (1, .int x1)]) hc 5 dX8_advance_63 rfl (by decide) (by decide) rfl ?_
          refine g_goto (tgt := 4) hc dX8_advance_66 rfl ?_
          exact g_lv [4, 5, 1, 0] rfl (ih _ _ _ _ (gJ_s hJ c_8))
set_option maxRecDepth 100000 in
set_option maxHeartbeats 4000000 in
theorem c_X8_advance (l : Launch) (k : Bool) (η : gE) (a0 : Int32) (S : gSt) : gMet l yX8_advance cX8_advance 6 none rm_X8_advance (oC k η) [.ref (η.1 10), .int a0] S (oV (sp_X8_advance k a0 S).1) (sp_X8_advance k a0 S).2 := by
  refine gMet_of (X := sp_X8_advance k a0 S) (lv := [(0, .ref (η.1 10)), (1, .int a0)]) oV (zC_ok η) (by decide +kernel) (Nat.le_of_ble_eq_true rfl) rfl (fun κ hc => ?_)
  have hc : gC (oC k η) κ cX8_advance 6 RX8 none rm_X8_advance := hc
  unfold sp_X8_advance
  refine g_iload_n (i := 1) hc 1 dX8_advance_0 rfl rfl ?_
  refine g_istore_n (i := 2) (lv' := [(2, .int a0), (0, .ref (η.1 10)), (1, .int a0)]) hc dX8_advance_1 rfl (by decide) rfl ?_
  refine g_iconst (v := 0) hc dX8_advance_2 (by decide) ?_
  refine g_istore_n (i := 3) (lv' := [(3, .int 0), (2, .int a0), (0, .ref (η.1 10)), (1, .int a0)]) hc dX8_advance_3 rfl (by decide) rfl ?_
  exact g_lv [2, 3, 1, 0] rfl (g_lp_X8_advance_4 hc 1001 _ _ _ _ (gJ_i (by decide) (by decide)))
