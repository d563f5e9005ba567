abbrev rm_X9_irqLines : Room := { frames := 0, cells := 0, slots := 0, locals := 0 }
def sp_X9_irqLines (k : Bool)  (S : gSt) : Int32 × gSt := (if (bI (S.2.1 5)) = 0 then (if (bI (S.2.1 0)) = 0 then ((0 ||| 0), S) else ((0 ||| 2), S)) else (if (bI (S.2.1 0)) = 0 then ((1 ||| 0), S) else ((1 ||| 2), S)))
set_option maxRecDepth 100000 in
set_option maxHeartbeats 4000000 in
theorem c_X9_irqLines (l : Launch) (k : Bool) (η : gE)  (S : gSt) : gMet l yX9_irqLines cX9_irqLines 1 (some .int) rm_X9_irqLines (oC k η) [.ref (η.1 0)] S (oI (sp_X9_irqLines k S).1) (sp_X9_irqLines k S).2 := by
  refine gMet_of (X := sp_X9_irqLines k S) (lv := [(0, .ref (η.1 0))]) oI (zC_ok η) (by decide +kernel) (Nat.le_of_ble_eq_true rfl) rfl (fun κ hc => ?_)
  have hc : gC (oC k η) κ cX9_irqLines 1 RX9 (some .int) rm_X9_irqLines := hc
  unfold sp_X9_irqLines
  refine g_aload_n (i := 0) hc 0 dX9_irqLines_0 rfl rfl ?_
  refine gf_C_0_sound hc wtC_403 dX9_irqLines_1 ?_
  refine gf_C_10_irqLine_nest_213 hc  dX9_irqLines_4 ?_
  refine g_ifeq (tgt := 14) hc dX9_irqLines_7 rfl (fun c_7 => ?_) (fun c_7 => ?_)
  · refine g_iconst (v := 0) hc dX9_irqLines_14 (by decide) ?_
    refine g_aload_n (i := 0) hc 0 dX9_irqLines_15 rfl rfl ?_
    refine gf_C_0_cartridge hc wtC_404 dX9_irqLines_16 ?_
    refine gf_C_1_irqLine hc wtC_405 dX9_irqLines_19 ?_
    refine g_ifeq (tgt := 29) hc dX9_irqLines_22 rfl (fun c_22 => ?_) (fun c_22 => ?_)
    · refine g_iconst (v := 0) hc dX9_irqLines_29 (by decide) ?_
      refine g_ior hc dX9_irqLines_30 ?_
      exact g_iret hc dX9_irqLines_31
    · refine g_iconst (v := 2) hc dX9_irqLines_25 (by decide) ?_
      refine g_goto (tgt := 30) hc dX9_irqLines_26 rfl ?_
      refine g_ior hc dX9_irqLines_30 ?_
      exact g_iret hc dX9_irqLines_31
  · refine g_iconst (v := 1) hc dX9_irqLines_10 (by decide) ?_
    refine g_goto (tgt := 15) hc dX9_irqLines_11 rfl ?_
    refine g_aload_n (i := 0) hc 0 dX9_irqLines_15 rfl rfl ?_
    refine gf_C_0_cartridge hc wtC_404 dX9_irqLines_16 ?_
    refine gf_C_1_irqLine hc wtC_405 dX9_irqLines_19 ?_
    refine g_ifeq (tgt := 29) hc dX9_irqLines_22 rfl (fun c_22 => ?_) (fun c_22 => ?_)
    · refine g_iconst (v := 0) hc dX9_irqLines_29 (by decide) ?_
      refine g_ior hc dX9_irqLines_30 ?_
      exact g_iret hc dX9_irqLines_31
    · refine g_iconst (v := 2) hc dX9_irqLines_25 (by decide) ?_
      refine g_goto (tgt := 30) hc dX9_irqLines_26 rfl ?_
      refine g_ior hc dX9_irqLines_30 ?_
      exact g_iret hc dX9_irqLines_31

abbrev rm_X9_letTimePass : Room := { frames := 3, cells := 0, slots := 0, locals := 66 }
def sp_X9_letTimePass (k : Bool) (a0 : Int32) (S : gSt) : Unit × gSt := gL (sI S 0 (((S.1 0) + a0) &&& 65535)) (fun S1 => gB (sp_X7_advance k (3 * a0) S1) (fun (_ : Unit) S2 => gB (sp_X8_advance k a0 S2) (fun (_ : Unit) S3 => ((), S3))))
set_option maxRecDepth 100000 in
set_option maxHeartbeats 4000000 in
theorem c_X9_letTimePass (l : Launch) (k : Bool) (η : gE) (a0 : Int32) (S : gSt) : gMet l yX9_letTimePass cX9_letTimePass 2 none rm_X9_letTimePass (oC k η) [.ref (η.1 0), .int a0] S (oV (sp_X9_letTimePass k a0 S).1) (sp_X9_letTimePass k a0 S).2 := by
  refine gMet_of (X := sp_X9_letTimePass k a0 S) (lv := [(0, .ref (η.1 0)), (1, .int a0)]) oV (zC_ok η) (by decide +kernel) (Nat.le_of_ble_eq_true rfl) rfl (fun κ hc => ?_)
  have hc : gC (oC k η) κ cX9_letTimePass 2 RX9 none rm_X9_letTimePass := hc
  unfold sp_X9_letTimePass
  refine g_aload_n (i := 0) hc 0 dX9_letTimePass_0 rfl rfl ?_
  refine g_aload_n (i := 0) hc 0 dX9_letTimePass_1 rfl rfl ?_
  refine gf_C_0_elapsed hc wtC_406 dX9_letTimePass_2 ?_
  refine g_iload_n (i := 1) hc 1 dX9_letTimePass_5 rfl rfl ?_
  refine g_iadd hc dX9_letTimePass_6 ?_
  refine g_ldc (v := 65535) hc wtC_407 dX9_letTimePass_7 ?_
  refine g_iand hc dX9_letTimePass_9 ?_
  refine pf_C_0_elapsed (v := (((S.1 0) + a0) &&& 65535)) hc wtC_406 dX9_letTimePass_10 (fun S1 f1 => ?_)
  refine g_aload_n (i := 0) hc 0 dX9_letTimePass_13 rfl rfl ?_
  refine gf_C_0_picture hc wtC_408 dX9_letTimePass_14 ?_
  refine g_iconst (v := 3) hc dX9_letTimePass_17 (by decide) ?_
  refine g_iload_n (i := 1) hc 1 dX9_letTimePass_18 rfl rfl ?_
  refine g_imul hc dX9_letTimePass_19 ?_
  refine g_callVV hc 6 [.int (3 * a0)] (fun l => c_X7_advance l k η (3 * a0) S1) wtC_412 ge_X7_advance rfl ⟨rfl, rfl⟩ ⟨Nat.le_of_ble_eq_true rfl, Nat.le_of_ble_eq_true rfl⟩ rfl rfl rfl (Nat.le_of_ble_eq_true rfl) dX9_letTimePass_20 (fun r2 S2 e2 f2 => ?_)
  refine g_aload_n (i := 0) hc 0 dX9_letTimePass_23 rfl rfl ?_
  refine gf_C_0_sound hc wtC_403 dX9_letTimePass_24 ?_
  refine g_iload_n (i := 1) hc 1 dX9_letTimePass_27 rfl rfl ?_
  refine g_callVV hc 10 [.int a0] (fun l => c_X8_advance l k η a0 S2) wtC_416 ge_X8_advance rfl ⟨rfl, rfl⟩ ⟨Nat.le_of_ble_eq_true rfl, Nat.le_of_ble_eq_true rfl⟩ rfl rfl rfl (Nat.le_of_ble_eq_true rfl) dX9_letTimePass_28 (fun r3 S3 e3 f3 => ?_)
  exact g_vret hc dX9_letTimePass_31

abbrev rm_X9_settle : Room := { frames := 5, cells := 0, slots := 0, locals := 112 }
def sp_X9_settle (k : Bool) (a0 : Int32) (S : gSt) : Int32 × gSt := gB (sp_X0_copyPageAsked k ((S.1 0) &&& 1) S) (fun r1 S1 => gB (sp_X9_letTimePass k (a0 + r1) S1) (fun (_ : Unit) S2 => ((a0 + r1), S2)))
set_option maxRecDepth 100000 in
set_option maxHeartbeats 4000000 in
theorem c_X9_settle (l : Launch) (k : Bool) (η : gE) (a0 : Int32) (S : gSt) : gMet l yX9_settle cX9_settle 3 (some .int) rm_X9_settle (oC k η) [.ref (η.1 0), .int a0] S (oI (sp_X9_settle k a0 S).1) (sp_X9_settle k a0 S).2 := by
  refine gMet_of (X := sp_X9_settle k a0 S) (lv := [(0, .ref (η.1 0)), (1, .int a0)]) oI (zC_ok η) (by decide +kernel) (Nat.le_of_ble_eq_true rfl) rfl (fun κ hc => ?_)
  have hc : gC (oC k η) κ cX9_settle 3 RX9 (some .int) rm_X9_settle := hc
  unfold sp_X9_settle
  refine g_iload_n (i := 1) hc 1 dX9_settle_0 rfl rfl ?_
  refine g_aload_n (i := 0) hc 0 dX9_settle_1 rfl rfl ?_
  refine gf_C_0_bus hc wtC_417 dX9_settle_2 ?_
  refine g_aload_n (i := 0) hc 0 dX9_settle_5 rfl rfl ?_
  refine gf_C_0_elapsed hc wtC_406 dX9_settle_6 ?_
  refine g_iconst (v := 1) hc dX9_settle_9 (by decide) ?_
  refine g_iand hc dX9_settle_10 ?_
  refine g_callVI hc 15 [.int ((S.1 0) &&& 1)] (fun l => c_X0_copyPageAsked l k η ((S.1 0) &&& 1) S) wtC_421 ge_X0_copyPageAsked rfl ⟨rfl, rfl⟩ ⟨Nat.le_of_ble_eq_true rfl, Nat.le_of_ble_eq_true rfl⟩ rfl rfl rfl (Nat.le_of_ble_eq_true rfl) dX9_settle_11 (fun r1 S1 e1 f1 => ?_)
  refine g_iadd hc dX9_settle_14 ?_
  refine g_istore_n (i := 2) (lv' := [(2, .int (a0 + r1)), (0, .ref (η.1 0)), (1, .int a0)]) hc dX9_settle_15 rfl (by decide) rfl ?_
  refine g_aload_n (i := 0) hc 1 dX9_settle_16 rfl rfl ?_
  refine g_iload_n (i := 2) hc 0 dX9_settle_17 rfl rfl ?_
  refine g_callVV hc 0 [.int (a0 + r1)] (fun l => c_X9_letTimePass l k η (a0 + r1) S1) wtC_426 ge_X9_letTimePass rfl ⟨rfl, rfl⟩ ⟨Nat.le_of_ble_eq_true rfl, Nat.le_of_ble_eq_true rfl⟩ rfl rfl rfl (Nat.le_of_ble_eq_true rfl) dX9_settle_18 (fun r2 S2 e2 f2 => ?_)
  refine g_iload_n (i := 2) hc 0 dX9_settle_21 rfl rfl ?_
  exact g_iret hc dX9_settle_22

abbrev rm_X9_reset : Room := { frames := 3, cells := 0, slots := 0, locals := 62 }
def sp_X9_reset (k : Bool)  (S : gSt) : Unit × gSt := gB (sp_K_forgetShifted k S) (fun (_ : Unit) S1 => gB (sp_X7_restart k S1) (fun (_ : Unit) S2 => gB (sp_X8_restart k S2) (fun (_ : Unit) S3 => gB (sp_X2_restart k S3) (fun (_ : Unit) S4 => ((), S4)))))
set_option maxRecDepth 100000 in
set_option maxHeartbeats 4000000 in
theorem c_X9_reset (l : Launch) (k : Bool) (η : gE)  (S : gSt) : gMet l yX9_reset cX9_reset 1 none rm_X9_reset (oC k η) [.ref (η.1 0)] S (oV (sp_X9_reset k S).1) (sp_X9_reset k S).2 := by
  refine gMet_of (X := sp_X9_reset k S) (lv := [(0, .ref (η.1 0))]) oV (zC_ok η) (by decide +kernel) (Nat.le_of_ble_eq_true rfl) rfl (fun κ hc => ?_)
  have hc : gC (oC k η) κ cX9_reset 1 RX9 none rm_X9_reset := hc
  unfold sp_X9_reset
  refine g_aload_n (i := 0) hc 0 dX9_reset_0 rfl rfl ?_
  refine gf_C_0_cartridge hc wtC_404 dX9_reset_1 ?_
  refine gk_forgetShifted hc wtC_427 ⟨Nat.le_of_ble_eq_true rfl, Nat.le_of_ble_eq_true rfl⟩ (Nat.le_of_ble_eq_true rfl) dX9_reset_4 (fun r1 S1 e1 f1 => ?_)
  refine g_aload_n (i := 0) hc 0 dX9_reset_7 rfl rfl ?_
  refine gf_C_0_picture hc wtC_408 dX9_reset_8 ?_
  refine g_callVV hc 6 [] (fun l => c_X7_restart l k η S1) wtC_431 ge_X7_restart rfl ⟨rfl, rfl⟩ ⟨Nat.le_of_ble_eq_true rfl, Nat.le_of_ble_eq_true rfl⟩ rfl rfl rfl (Nat.le_of_ble_eq_true rfl) dX9_reset_11 (fun r2 S2 e2 f2 => ?_)
  refine g_aload_n (i := 0) hc 0 dX9_reset_14 rfl rfl ?_
  refine gf_C_0_sound hc wtC_403 dX9_reset_15 ?_
  refine g_callVV hc 10 [] (fun l => c_X8_restart l k η S2) wtC_435 ge_X8_restart rfl ⟨rfl, rfl⟩ ⟨Nat.le_of_ble_eq_true rfl, Nat.le_of_ble_eq_true rfl⟩ rfl rfl rfl (Nat.le_of_ble_eq_true rfl) dX9_reset_18 (fun r3 S3 e3 f3 => ?_)
  refine g_aload_n (i := 0) hc 0 dX9_reset_21 rfl rfl ?_
  refine gf_C_0_core hc wtC_436 dX9_reset_22 ?_
  refine g_callVV hc 18 [] (fun l => c_X2_restart l k η S3) wtC_440 ge_X2_restart rfl ⟨rfl, rfl⟩ ⟨Nat.le_of_ble_eq_true rfl, Nat.le_of_ble_eq_true rfl⟩ rfl rfl rfl (Nat.le_of_ble_eq_true rfl) dX9_reset_25 (fun r4 S4 e4 f4 => ?_)
  exact g_vret hc dX9_reset_28

abbrev rm_X9_step : Room := { frames := 7, cells := 0, slots := 0, locals := 166 }
def sp_X9_step (k : Bool)  (S : gSt) : Int32 × gSt := gB (sp_X7_takeNmi k S) (fun r1 S1 => gB (sp_X9_irqLines k S1) (fun r2 S2 => (if r2 = 0 then gB (sp_X2_takeStep k r1 false S2) (fun r3 S3 => gB (sp_X9_settle k r3 S3) (fun r4 S4 => (r4, S4))) else gB (sp_X2_takeStep k r1 true S2) (fun r5 S5 => gB (sp_X9_settle k r5 S5) (fun r6 S6 => (r6, S6))))))
set_option maxRecDepth 100000 in
set_option maxHeartbeats 4000000 in
theorem c_X9_step (l : Launch) (k : Bool) (η : gE)  (S : gSt) : gMet l yX9_step cX9_step 1 (some .int) rm_X9_step (oC k η) [.ref (η.1 0)] S (oI (sp_X9_step k S).1) (sp_X9_step k S).2 := by
  refine gMet_of (X := sp_X9_step k S) (lv := [(0, .ref (η.1 0))]) oI (zC_ok η) (by decide +kernel) (Nat.le_of_ble_eq_true rfl) rfl (fun κ hc => ?_)
  have hc : gC (oC k η) κ cX9_step 1 RX9 (some .int) rm_X9_step := hc
  unfold sp_X9_step
  refine g_aload_n (i := 0) hc 0 dX9_step_0 rfl rfl ?_
  refine g_aload_n (i := 0) hc 0 dX9_step_1 rfl rfl ?_
  refine gf_C_0_core hc wtC_436 dX9_step_2 ?_
  refine g_aload_n (i := 0) hc 0 dX9_step_5 rfl rfl ?_
  refine gf_C_0_picture hc wtC_408 dX9_step_6 ?_
  refine g_callVZ hc 6 [] (fun l => c_X7_takeNmi l k η S) wtC_444 ge_X7_takeNmi rfl ⟨rfl, rfl⟩ ⟨Nat.le_of_ble_eq_true rfl, Nat.le_of_ble_eq_true rfl⟩ rfl rfl rfl (Nat.le_of_ble_eq_true rfl) dX9_step_9 (fun r1 S1 e1 f1 => ?_)
  refine g_aload_n (i := 0) hc 0 dX9_step_12 rfl rfl ?_
  refine g_callVI hc 0 [] (fun l => c_X9_irqLines l k η S1) wtC_448 ge_X9_irqLines rfl ⟨rfl, rfl⟩ ⟨Nat.le_of_ble_eq_true rfl, Nat.le_of_ble_eq_true rfl⟩ rfl rfl rfl (Nat.le_of_ble_eq_true rfl) dX9_step_13 (fun r2 S2 e2 f2 => ?_)
  refine g_ifeq (tgt := 23) hc dX9_step_16 rfl (fun c_16 => ?_) (fun c_16 => ?_)
  · refine g_iconst (v := 0) hc dX9_step_23 (by decide) ?_
    refine g_callVI hc 18 [.int (bI r1), .int (bI false)] (fun l => c_X2_takeStep l k η r1 false S2) wtC_452 ge_X2_takeStep rfl ⟨rfl, rfl⟩ ⟨Nat.le_of_ble_eq_true rfl, Nat.le_of_ble_eq_true rfl⟩ rfl rfl rfl (Nat.le_of_ble_eq_true rfl) dX9_step_24 (fun r3 S3 e3 f3 => ?_)
    refine g_callVI hc 0 [.int r3] (fun l => c_X9_settle l k η r3 S3) wtC_456 ge_X9_settle rfl ⟨rfl, rfl⟩ ⟨Nat.le_of_ble_eq_true rfl, Nat.le_of_ble_eq_true rfl⟩ rfl rfl rfl (Nat.le_of_ble_eq_true rfl) dX9_step_27 (fun r4 S4 e4 f4 => ?_)
    exact g_iret hc dX9_step_30
  · refine g_iconst (v := 1) hc dX9_step_19 (by decide) ?_
    refine g_goto (tgt := 24) hc dX9_step_20 rfl ?_
    refine g_callVI hc 18 [.int (bI r1), .int (bI true)] (fun l => c_X2_takeStep l k η r1 true S2) wtC_452 ge_X2_takeStep rfl ⟨rfl, rfl⟩ ⟨Nat.le_of_ble_eq_true rfl, Nat.le_of_ble_eq_true rfl⟩ rfl rfl rfl (Nat.le_of_ble_eq_true rfl) dX9_step_24 (fun r5 S5 e5 f5 => ?_)
    refine g_callVI hc 0 [.int r5] (fun l => c_X9_settle l k η r5 S5) wtC_456 ge_X9_settle rfl ⟨rfl, rfl⟩ ⟨Nat.le_of_ble_eq_true rfl, Nat.le_of_ble_eq_true rfl⟩ rfl rfl rfl (Nat.le_of_ble_eq_true rfl) dX9_step_27 (fun r6 S6 e6 f6 => ?_)
    exact g_iret hc dX9_step_30

abbrev rm_X9_run : Room := { frames := 7, cells := 0, slots := 0, locals := 166 }
def lp_X9_run_17 (k : Bool) : Nat → Int32 → Int32 → Int32 → gSt → Int32 × gSt
  | 0, _, _, _, S => (0, S)
  | n + 1, x1, x2, x3, S => (if x1 ≤ x3 then (x2, S) else gB (sp_X7_takeNmi k S) (fun r1 S1 => gB (sp_X9_irqLines k S1) (fun r2 S2 => (if r2 = 0 then gB (sp_X2_takeStep k r1 false S2) (fun r3 S3 => gB (sp_X9_settle k r3 S3) (fun r4 S4 => lp_X9_run_17 k n x1 (x2 + r4) (x3 + 1) S4)) else gB (sp_X2_takeStep k r1 true S2) (fun r5 S5 => gB (sp_X9_settle k r5 S5) (fun r6 S6 => lp_X9_run_17 k n x1 (x2 + r6) (x3 + 1) S6))))))
def sp_X9_run (k : Bool) (a0 : Int32) (S : gSt) : Int32 × gSt := (if a0 < 0 then ((-1), S) else (if a0 ≤ 200 then lp_X9_run_17 k (a0.toNatClampNeg + 1) a0 0 0 S else ((-1), S)))
set_option maxRecDepth 100000 in
set_option maxHeartbeats 4000000 in
theorem g_lp_X9_run_17 {k : Bool} {η : gE} {κ : gK} (hc : gC (oC k η) κ cX9_run 4 RX9 (some .int) rm_X9_run) : ∀ (n : Nat) (x1 : Int32) (x2 : Int32) (x3 : Int32) (S : gSt), gJ x1 x3 n → gG (oC k η) κ 4 oI 17 [(0, .ref (η.1 0)), (1, .int x1), (2, .int x2), (3, .int x3)] [] S (lp_X9_run_17 k n x1 x2 x3 S) := by
  intro n
  induction n with
  | zero => exact fun _ _ _ _ h => gJ_0 h
  | succ n ih =>
    intro x1 x2 x3 S hJ
    rw [lp_X9_run_17]
    refine g_iload_n (i := 3) hc 3 dX9_run_17 rfl rfl ?_
    refine g_iload_n (i := 1) hc 1 dX9_run_18 rfl rfl ?_
    refine g_icmpge (tgt := 61) hc dX9_run_19 rfl (fun c_19 => ?_) (fun c_19 => ?_)
    · refine g_iload_n (i := 2) hc 2 dX9_run_61 rfl rfl ?_
      exact g_iret hc dX9_run_62
    · refine g_iload_n (i := 2) hc 2 dX9_run_22 rfl rfl ?_
      refine g_aload_n (i := 0) hc 0 dX9_run_23 rfl rfl ?_
      refine g_aload_n (i := 0) hc 0 dX9_run_24 rfl rfl ?_
      refine gf_C_0_core hc wtC_436 dX9_run_25 ?_
      refine g_aload_n (i := 0) hc 0 dX9_run_28 rfl rfl ?_
      refine gf_C_0_picture hc wtC_408 dX9_run_29 ?_
      refine g_callVZ hc 6 [] (fun l => c_X7_takeNmi l k η S) wtC_444 ge_X7_takeNmi rfl ⟨rfl, rfl⟩ ⟨Nat.le_of_ble_eq_true rfl, Nat.le_of_ble_eq_true rfl⟩ rfl rfl rfl (Nat.le_of_ble_eq_true rfl) dX9_run_32 (fun r1 S1 e1 f1 => ?_)
      refine g_aload_n (i := 0) hc 0 dX9_run_35 rfl rfl ?_
      refine g_callVI hc 0 [] (fun l => c_X9_irqLines l k η S1) wtC_448 ge_X9_irqLines rfl ⟨rfl, rfl⟩ ⟨Nat.le_of_ble_eq_true rfl, Nat.le_of_ble_eq_true rfl⟩ rfl rfl rfl (Nat.le_of_ble_eq_true rfl) dX9_run_36 (fun r2 S2 e2 f2 => ?_)
      refine g_ifeq (tgt := 46) hc dX9_run_39 rfl (fun c_39 => ?_) (fun c_39 => ?_)
      · refine g_iconst (v := 0) hc dX9_run_46 (by decide) ?_
        refine g_callVI hc 18 [.int (bI r1), .int (bI false)] (fun l => c_X2_takeStep l k η r1 false S2) wtC_452 ge_X2_takeStep rfl ⟨rfl, rfl⟩ ⟨Nat.le_of_ble_eq_true rfl, Nat.le_of_ble_eq_true rfl⟩ rfl rfl rfl (Nat.le_of_ble_eq_true rfl) dX9_run_47 (fun r3 S3 e3 f3 => ?_)
        refine g_callVI hc 0 [.int r3] (fun l => c_X9_settle l k η r3 S3) wtC_456 ge_X9_settle rfl ⟨rfl, rfl⟩ ⟨Nat.le_of_ble_eq_true rfl, Nat.le_of_ble_eq_true rfl⟩ rfl rfl rfl (Nat.le_of_ble_eq_true rfl) dX9_run_50 (fun r4 S4 e4 f4 => ?_)
        refine g_iadd hc dX9_run_53 ?_
        refine g_istore_n (i := 2) (lv' := [(2, .int (x2 + r4)), (0, .ref (η.1 0)), (1, .int x1), (3, .int x3)]) hc dX9_run_54 rfl (by decide) rfl ?_
        refine g_iinc (i := 3) (v := 1) (lv' := [(3, .int (x3 + 1)), (2, .int (x2 + r4)), (0, .ref (η.1 0)), (1, .int x1)]) hc 3 dX9_run_55 rfl (by decide) (by decide) rfl ?_
        refine g_goto (tgt := 17) hc dX9_run_58 rfl ?_
        exact g_lv [2, 3, 1, 0] rfl (ih _ _ _ _ (gJ_s hJ c_19))
      · refine g_iconst (v := 1) hc dX9_run_42 (by decide) ?_
        refine g_goto (tgt := 47) hc dX9_run_43 rfl ?_
        refine g_callVI hc 18 [.int (bI r1), .int (bI true)] (fun l => c_X2_takeStep l k η r1 true S2) wtC_452 ge_X2_takeStep rfl ⟨rfl, rfl⟩ ⟨Nat.le_of_ble_eq_true rfl, Nat.le_of_ble_eq_true rfl⟩ rfl rfl rfl (Nat.le_of_ble_eq_true rfl) dX9_run_47 (fun r5 S5 e5 f5 => ?_)
        refine g_callVI hc 0 [.int r5] (fun l => c_X9_settle l k η r5 S5) wtC_456 ge_X9_settle rfl ⟨rfl, rfl⟩ ⟨Nat.le_of_ble_eq_true rfl, Nat.le_of_ble_eq_true rfl⟩ rfl rfl rfl (Nat.le_of_ble_eq_true rfl) dX9_run_50 (fun r6 S6 e6 f6 => ?_)
        refine g_iadd hc dX9_run_53 ?_
        refine g_istore_n (i := 2) (lv' := [(2, .int (x2 + r6)), (0, .ref (η.1 0)), (1, .int x1), (3, .int x3)]) hc dX9_run_54 rfl (by decide) rfl ?_
        refine g_iinc (i := 3) (v := 1) (lv' := [(3, .int (x3 + 1)), (2, .int (x2 + r6)), (0, .ref (η.1 0)), (1, .int x1)]) hc 3 dX9_run_55 rfl (by decide) (by decide) rfl ?_
        refine g_goto (tgt := 17) hc dX9_run_58 rfl ?_
        exact g_lv [2, 3, 1, 0] rfl (ih _ _ _ _ (gJ_s hJ c_19))
set_option maxRecDepth 100000 in
set_option maxHeartbeats 4000000 in
theorem c_X9_run (l : Launch) (k : Bool) (η : gE) (a0 : Int32) (S : gSt) : gMet l yX9_run cX9_run 4 (some .int) rm_X9_run (oC k η) [.ref (η.1 0), .int a0] S (oI (sp_X9_run k a0 S).1) (sp_X9_run k a0 S).2 := by
  refine gMet_of (X := sp_X9_run k a0 S) (lv := [(0, .ref (η.1 0)), (1, .int a0)]) oI (zC_ok η) (by decide +kernel) (Nat.le_of_ble_eq_true rfl) rfl (fun κ hc => ?_)
  have hc : gC (oC k η) κ cX9_run 4 RX9 (some .int) rm_X9_run := hc
  unfold sp_X9_run
  refine g_iload_n (i := 1) hc 1 dX9_run_0 rfl rfl ?_
  refine g_iflt (tgt := 11) hc dX9_run_1 rfl (fun c_1 => ?_) (fun c_1 => ?_)
  · refine g_iconst (v := (-1)) hc dX9_run_11 (by decide) ?_
    exact g_iret hc dX9_run_12
  · refine g_iload_n (i := 1) hc 1 dX9_run_4 rfl rfl ?_
    refine g_sipush (v := 200) hc dX9_run_5 (by decide) ?_
    refine g_icmple (tgt := 13) hc dX9_run_8 rfl (fun c_8 => ?_) (fun c_8 => ?_)
    · refine g_iconst (v := 0) hc dX9_run_13 (by decide) ?_
      refine g_istore_n (i := 2) (lv' := [(2, .int 0), (0, .ref (η.1 0)), (1, .int a0)]) hc dX9_run_14 rfl (by decide) rfl ?_
      refine g_iconst (v := 0) hc dX9_run_15 (by decide) ?_
      refine g_istore_n (i := 3) (lv' := [(3, .int 0), (2, .int 0), (0, .ref (η.1 0)), (1, .int a0)]) hc dX9_run_16 rfl (by decide) rfl ?_
      exact g_lv [2, 3, 1, 0] rfl (g_lp_X9_run_17 hc (a0.toNatClampNeg + 1) _ _ _ _ (gJ_v _))
    · refine g_iconst (v := (-1)) hc dX9_run_11 (by decide) ?_
      exact g_iret hc dX9_run_12

abbrev rm_X9_pass : Room := { frames := 4, cells := 0, slots := 0, locals := 87 }
def sp_X9_pass (k : Bool) (a0 : Int32) (S : gSt) : Bool × gSt := (if a0 < 0 then (false, S) else (if a0 ≤ 30000 then gB (sp_X9_letTimePass k a0 S) (fun (_ : Unit) S1 => (true, S1)) else (false, S)))
set_option maxRecDepth 100000 in
set_option maxHeartbeats 4000000 in
theorem c_X9_pass (l : Launch) (k : Bool) (η : gE) (a0 : Int32) (S : gSt) : gMet l yX9_pass cX9_pass 2 (some .boolean) rm_X9_pass (oC k η) [.ref (η.1 0), .int a0] S (oZ (sp_X9_pass k a0 S).1) (sp_X9_pass k a0 S).2 := by
  refine gMet_of (X := sp_X9_pass k a0 S) (lv := [(0, .ref (η.1 0)), (1, .int a0)]) oZ (zC_ok η) (by decide +kernel) (Nat.le_of_ble_eq_true rfl) rfl (fun κ hc => ?_)
  have hc : gC (oC k η) κ cX9_pass 2 RX9 (some .boolean) rm_X9_pass := hc
  unfold sp_X9_pass
  refine g_iload_n (i := 1) hc 1 dX9_pass_0 rfl rfl ?_
  refine g_iflt (tgt := 11) hc dX9_pass_1 rfl (fun c_1 => ?_) (fun c_1 => ?_)
  · refine g_iconst (v := 0) hc dX9_pass_11 (by decide) ?_
    exact g_zret (b := false) hc rfl dX9_pass_12
  · refine g_iload_n (i := 1) hc 1 dX9_pass_4 rfl rfl ?_
    refine g_sipush (v := 30000) hc dX9_pass_5 (by decide) ?_
    refine g_icmple (tgt := 13) hc dX9_pass_8 rfl (fun c_8 => ?_) (fun c_8 => ?_)
    · refine g_aload_n (i := 0) hc 0 dX9_pass_13 rfl rfl ?_
      refine g_iload_n (i := 1) hc 1 dX9_pass_14 rfl rfl ?_
      refine g_callVV hc 0 [.int a0] (fun l => c_X9_letTimePass l k η a0 S) wtC_426 ge_X9_letTimePass rfl ⟨rfl, rfl⟩ ⟨Nat.le_of_ble_eq_true rfl, Nat.le_of_ble_eq_true rfl⟩ rfl rfl rfl (Nat.le_of_ble_eq_true rfl) dX9_pass_15 (fun r1 S1 e1 f1 => ?_)
      refine g_iconst (v := 1) hc dX9_pass_18 (by decide) ?_
      exact g_zret (b := true) hc rfl dX9_pass_19
    · refine g_iconst (v := 0) hc dX9_pass_11 (by decide) ?_
      exact g_zret (b := false) hc rfl dX9_pass_12

abbrev rm_X9_read : Room := { frames := 4, cells := 0, slots := 0, locals := 89 }
def sp_X9_read (k : Bool) (a0 : Int32) (S : gSt) : Int32 × gSt := gB (sp_X0_load k (a0 &&& 65535) S) (fun r1 S1 => (r1, S1))
set_option maxRecDepth 100000 in
set_option maxHeartbeats 4000000 in
theorem c_X9_read (l : Launch) (k : Bool) (η : gE) (a0 : Int32) (S : gSt) : gMet l yX9_read cX9_read 2 (some .int) rm_X9_read (oC k η) [.ref (η.1 0), .int a0] S (oI (sp_X9_read k a0 S).1) (sp_X9_read k a0 S).2 := by
  refine gMet_of (X := sp_X9_read k a0 S) (lv := [(0, .ref (η.1 0)), (1, .int a0)]) oI (zC_ok η) (by decide +kernel) (Nat.le_of_ble_eq_true rfl) rfl (fun κ hc => ?_)
  have hc : gC (oC k η) κ cX9_read 2 RX9 (some .int) rm_X9_read := hc
  unfold sp_X9_read
  refine g_aload_n (i := 0) hc 0 dX9_read_0 rfl rfl ?_
  refine gf_C_0_bus hc wtC_417 dX9_read_1 ?_
  refine g_iload_n (i := 1) hc 1 dX9_read_4 rfl rfl ?_
  refine g_ldc (v := 65535) hc wtC_407 dX9_read_5 ?_
  refine g_iand hc dX9_read_7 ?_
  refine g_callVI hc 15 [.int (a0 &&& 65535)] (fun l => c_X0_load l k η (a0 &&& 65535) S) wtC_457 ge_X0_load rfl ⟨rfl, rfl⟩ ⟨Nat.le_of_ble_eq_true rfl, Nat.le_of_ble_eq_true rfl⟩ rfl rfl rfl (Nat.le_of_ble_eq_true rfl) dX9_read_8 (fun r1 S1 e1 f1 => ?_)
  exact g_iret hc dX9_read_11

abbrev rm_X9_write : Room := { frames := 6, cells := 0, slots := 0, locals := 134 }
def sp_X9_write (k : Bool) (a0 : Int32) (a1 : Int32) (S : gSt) : Unit × gSt := gB (sp_X0_store k (a0 &&& 65535) (a1 &&& 255) S) (fun (_ : Unit) S1 => gB (sp_X9_settle k 0 S1) (fun r2 S2 => ((), S2)))
set_option maxRecDepth 100000 in
set_option maxHeartbeats 4000000 in
theorem c_X9_write (l : Launch) (k : Bool) (η : gE) (a0 : Int32) (a1 : Int32) (S : gSt) : gMet l yX9_write cX9_write 3 none rm_X9_write (oC k η) [.ref (η.1 0), .int a0, .int a1] S (oV (sp_X9_write k a0 a1 S).1) (sp_X9_write k a0 a1 S).2 := by
  refine gMet_of (X := sp_X9_write k a0 a1 S) (lv := [(0, .ref (η.1 0)), (1, .int a0), (2, .int a1)]) oV (zC_ok η) (by decide +kernel) (Nat.le_of_ble_eq_true rfl) rfl (fun κ hc => ?_)
  have hc : gC (oC k η) κ cX9_write 3 RX9 none rm_X9_write := hc
  unfold sp_X9_write
  refine g_aload_n (i := 0) hc 0 dX9_write_0 rfl rfl ?_
  refine gf_C_0_bus hc wtC_417 dX9_write_1 ?_
  refine g_iload_n (i := 1) hc 1 dX9_write_4 rfl rfl ?_
  refine g_ldc (v := 65535) hc wtC_407 dX9_write_5 ?_
  refine g_iand hc dX9_write_7 ?_
  refine g_iload_n (i := 2) hc 2 dX9_write_8 rfl rfl ?_
  refine g_sipush (v := 255) hc dX9_write_9 (by decide) ?_
  refine g_iand hc dX9_write_12 ?_
  refine g_callVV hc 15 [.int (a0 &&& 65535), .int (a1 &&& 255)] (fun l => c_X0_store l k η (a0 &&& 65535) (a1 &&& 255) S) wtC_458 ge_X0_store rfl ⟨rfl, rfl⟩ ⟨Nat.le_of_ble_eq_true rfl, Nat.le_of_ble_eq_true rfl⟩ rfl rfl rfl (Nat.le_of_ble_eq_true rfl) dX9_write_13 (fun r1 S1 e1 f1 => ?_)
  refine g_aload_n (i := 0) hc 0 dX9_write_16 rfl rfl ?_
  refine g_iconst (v := 0) hc dX9_write_17 (by decide) ?_
  refine g_callVI hc 0 [.int 0] (fun l => c_X9_settle l k η 0 S1) wtC_456 ge_X9_settle rfl ⟨rfl, rfl⟩ ⟨Nat.le_of_ble_eq_true rfl, Nat.le_of_ble_eq_true rfl⟩ rfl rfl rfl (Nat.le_of_ble_eq_true rfl) dX9_write_18 (fun r2 S2 e2 f2 => ?_)
  refine g_pop hc dX9_write_21 rfl ?_
  exact g_vret hc dX9_write_22

abbrev rm_X9_memory : Room := { frames := 2, cells := 0, slots := 0, locals := 43 }
def sp_X9_memory (k : Bool) (a0 : Int32) (S : gSt) : Int32 × gSt := gB (sp_X7_byteAt k (a0 &&& 16383) S) (fun r1 S1 => (r1, S1))
set_option maxRecDepth 100000 in
set_option maxHeartbeats 4000000 in
theorem c_X9_memory (l : Launch) (k : Bool) (η : gE) (a0 : Int32) (S : gSt) : gMet l yX9_memory cX9_memory 2 (some .int) rm_X9_memory (oC k η) [.ref (η.1 0), .int a0] S (oI (sp_X9_memory k a0 S).1) (sp_X9_memory k a0 S).2 := by
  refine gMet_of (X := sp_X9_memory k a0 S) (lv := [(0, .ref (η.1 0)), (1, .int a0)]) oI (zC_ok η) (by decide +kernel) (Nat.le_of_ble_eq_true rfl) rfl (fun κ hc => ?_)
  have hc : gC (oC k η) κ cX9_memory 2 RX9 (some .int) rm_X9_memory := hc
  unfold sp_X9_memory
  refine g_aload_n (i := 0) hc 0 dX9_memory_0 rfl rfl ?_
  refine gf_C_0_picture hc wtC_408 dX9_memory_1 ?_
  refine g_iload_n (i := 1) hc 1 dX9_memory_4 rfl rfl ?_
  refine g_sipush (v := 16383) hc dX9_memory_5 (by decide) ?_
  refine g_iand hc dX9_memory_8 ?_
  refine g_callVI hc 6 [.int (a0 &&& 16383)] (fun l => c_X7_byteAt l k η (a0 &&& 16383) S) wtC_459 ge_X7_byteAt rfl ⟨rfl, rfl⟩ ⟨Nat.le_of_ble_eq_true rfl, Nat.le_of_ble_eq_true rfl⟩ rfl rfl rfl (Nat.le_of_ble_eq_true rfl) dX9_memory_9 (fun r1 S1 e1 f1 => ?_)
  exact g_iret hc dX9_memory_12
