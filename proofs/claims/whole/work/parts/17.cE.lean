abbrev rm_X2_setFlag : Room := { frames := 0, cells := 0, slots := 0, locals := 0 }
def sp_X2_setFlag (k : Bool) (a0 : Int32) (a1 : Bool) (S : gSt) : Unit × gSt := (if (bI a1) = 0 then gL (sI S 31 ((S.1 31) &&& (a0 ^^^ (-1)))) (fun S1 => ((), S1)) else gL (sI S 31 ((S.1 31) ||| a0)) (fun S2 => ((), S2)))
set_option maxRecDepth 100000 in
set_option maxHeartbeats 4000000 in
theorem c_X2_setFlag (l : Launch) (k : Bool) (η : gE) (a0 : Int32) (a1 : Bool) (S : gSt) : gMet l yX2_setFlag cX2_setFlag 3 none rm_X2_setFlag (oC k η) [.ref (η.1 18), .int a0, .int (bI a1)] S (oV (sp_X2_setFlag k a0 a1 S).1) (sp_X2_setFlag k a0 a1 S).2 := by
  refine gMet_of (X := sp_X2_setFlag k a0 a1 S) (lv := [(0, .ref (η.1 18)), (1, .int a0), (2, .int (bI a1))]) oV (zC_ok η) (by decide +kernel) (Nat.le_of_ble_eq_true rfl) rfl (fun κ hc => ?_)
  have hc : gC (oC k η) κ cX2_setFlag 3 RX2 none rm_X2_setFlag := hc
  unfold sp_X2_setFlag
  refine g_aload_n (i := 0) hc 0 dX2_setFlag_0 rfl rfl ?_
  refine g_iload_n (i := 2) hc 2 dX2_setFlag_1 rfl rfl ?_
  refine g_ifeq (tgt := 14) hc dX2_setFlag_2 rfl (fun c_2 => ?_) (fun c_2 => ?_)
  · refine g_aload_n (i := 0) hc 0 dX2_setFlag_14 rfl rfl ?_
    refine gf_C_18_p hc wtC_250 dX2_setFlag_15 ?_
    refine g_iload_n (i := 1) hc 1 dX2_setFlag_18 rfl rfl ?_
    refine g_iconst (v := (-1)) hc dX2_setFlag_19 (by decide) ?_
    refine g_ixor hc dX2_setFlag_20 ?_
    refine g_iand hc dX2_setFlag_21 ?_
    refine pf_C_18_p (v := ((S.1 31) &&& (a0 ^^^ (-1)))) hc wtC_250 dX2_setFlag_22 (fun S1 f1 => ?_)
    exact g_vret hc dX2_setFlag_25
  · refine g_aload_n (i := 0) hc 0 dX2_setFlag_5 rfl rfl ?_
    refine gf_C_18_p hc wtC_250 dX2_setFlag_6 ?_
    refine g_iload_n (i := 1) hc 1 dX2_setFlag_9 rfl rfl ?_
    refine g_ior hc dX2_setFlag_10 ?_
    refine g_goto (tgt := 22) hc dX2_setFlag_11 rfl ?_
    refine pf_C_18_p (v := ((S.1 31) ||| a0)) hc wtC_250 dX2_setFlag_22 (fun S2 f2 => ?_)
    exact g_vret hc dX2_setFlag_25

abbrev rm_X2_judged : Room := { frames := 1, cells := 0, slots := 0, locals := 22 }
def sp_X2_judged (k : Bool) (a0 : Int32) (S : gSt) : Int32 × gSt := (if (a0 &&& 255) = 0 then gB (sp_X2_setFlag k 2 true S) (fun (_ : Unit) S1 => (if ((a0 &&& 255) &&& 128) = 0 then gB (sp_X2_setFlag k 128 false S1) (fun (_ : Unit) S2 => ((a0 &&& 255), S2)) else gB (sp_X2_setFlag k 128 true S1) (fun (_ : Unit) S3 => ((a0 &&& 255), S3)))) else gB (sp_X2_setFlag k 2 false S) (fun (_ : Unit) S4 => (if ((a0 &&& 255) &&& 128) = 0 then gB (sp_X2_setFlag k 128 false S4) (fun (_ : Unit) S5 => ((a0 &&& 255), S5)) else gB (sp_X2_setFlag k 128 true S4) (fun (_ : Unit) S6 => ((a0 &&& 255), S6)))))
set_option maxRecDepth 100000 in
set_option maxHeartbeats 4000000 in
theorem c_X2_judged (l : Launch) (k : Bool) (η : gE) (a0 : Int32) (S : gSt) : gMet l yX2_judged cX2_judged 3 (some .int) rm_X2_judged (oC k η) [.ref (η.1 18), .int a0] S (oI (sp_X2_judged k a0 S).1) (sp_X2_judged k a0 S).2 := by
  refine gMet_of (X := sp_X2_judged k a0 S) (lv := [(0, .ref (η.1 18)), (1, .int a0)]) oI (zC_ok η) (by decide +kernel) (Nat.le_of_ble_eq_true rfl) rfl (fun κ hc => ?_)
  have hc : gC (oC k η) κ cX2_judged 3 RX2 (some .int) rm_X2_judged := hc
  unfold sp_X2_judged
  refine g_iload_n (i := 1) hc 1 dX2_judged_0 rfl rfl ?_
  refine g_sipush (v := 255) hc dX2_judged_1 (by decide) ?_
  refine g_iand hc dX2_judged_4 ?_
  refine g_istore_n (i := 2) (lv' := [(2, .int (a0 &&& 255)), (0, .ref (η.1 18)), (1, .int a0)]) hc dX2_judged_5 rfl (by decide) rfl ?_
  refine g_aload_n (i := 0) hc 1 dX2_judged_6 rfl rfl ?_
  refine g_iconst (v := 2) hc dX2_judged_7 (by decide) ?_
  refine g_iload_n (i := 2) hc 0 dX2_judged_8 rfl rfl ?_
  refine g_ifne (tgt := 16) hc dX2_judged_9 rfl (fun c_9 => ?_) (fun c_9 => ?_)
  · refine g_iconst (v := 1) hc dX2_judged_12 (by decide) ?_
    refine g_goto (tgt := 17) hc dX2_judged_13 rfl ?_
    refine g_callVV hc 18 [.int 2, .int (bI true)] (fun l => c_X2_setFlag l k η 2 true S) wtC_255 ge_X2_setFlag rfl ⟨rfl, rfl⟩ ⟨Nat.le_of_ble_eq_true rfl, Nat.le_of_ble_eq_true rfl⟩ rfl rfl rfl (Nat.le_of_ble_eq_true rfl) dX2_judged_17 (fun r1 S1 e1 f1 => ?_)
    refine g_aload_n (i := 0) hc 1 dX2_judged_20 rfl rfl ?_
    refine g_sipush (v := 128) hc dX2_judged_21 (by decide) ?_
    refine g_iload_n (i := 2) hc 0 dX2_judged_24 rfl rfl ?_
    refine g_sipush (v := 128) hc dX2_judged_25 (by decide) ?_
    refine g_iand hc dX2_judged_28 ?_
    refine g_ifeq (tgt := 36) hc dX2_judged_29 rfl (fun c_29 => ?_) (fun c_29 => ?_)
    · refine g_iconst (v := 0) hc dX2_judged_36 (by decide) ?_
      refine g_callVV hc 18 [.int 128, .int (bI false)] (fun l => c_X2_setFlag l k η 128 false S1) wtC_255 ge_X2_setFlag rfl ⟨rfl, rfl⟩ ⟨Nat.le_of_ble_eq_true rfl, Nat.le_of_ble_eq_true rfl⟩ rfl rfl rfl (Nat.le_of_ble_eq_true rfl) dX2_judged_37 (fun r2 S2 e2 f2 => ?_)
      refine g_iload_n (i := 2) hc 0 dX2_judged_40 rfl rfl ?_
      exact g_iret hc dX2_judged_41
    · refine g_iconst (v := 1) hc dX2_judged_32 (by decide) ?_
      refine g_goto (tgt := 37) hc dX2_judged_33 rfl ?_
      refine g_callVV hc 18 [.int 128, .int (bI true)] (fun l => c_X2_setFlag l k η 128 true S1) wtC_255 ge_X2_setFlag rfl ⟨rfl, rfl⟩ ⟨Nat.le_of_ble_eq_true rfl, Nat.le_of_ble_eq_true rfl⟩ rfl rfl rfl (Nat.le_of_ble_eq_true rfl) dX2_judged_37 (fun r3 S3 e3 f3 => ?_)
      refine g_iload_n (i := 2) hc 0 dX2_judged_40 rfl rfl ?_
      exact g_iret hc dX2_judged_41
  · refine g_iconst (v := 0) hc dX2_judged_16 (by decide) ?_
    refine g_callVV hc 18 [.int 2, .int (bI false)] (fun l => c_X2_setFlag l k η 2 false S) wtC_255 ge_X2_setFlag rfl ⟨rfl, rfl⟩ ⟨Nat.le_of_ble_eq_true rfl, Nat.le_of_ble_eq_true rfl⟩ rfl rfl rfl (Nat.le_of_ble_eq_true rfl) dX2_judged_17 (fun r4 S4 e4 f4 => ?_)
    refine g_aload_n (i := 0) hc 1 dX2_judged_20 rfl rfl ?_
    refine g_sipush (v := 128) hc dX2_judged_21 (by decide) ?_
    refine g_iload_n (i := 2) hc 0 dX2_judged_24 rfl rfl ?_
    refine g_sipush (v := 128) hc dX2_judged_25 (by decide) ?_
    refine g_iand hc dX2_judged_28 ?_
    refine g_ifeq (tgt := 36) hc dX2_judged_29 rfl (fun c_29 => ?_) (fun c_29 => ?_)
    · refine g_iconst (v := 0) hc dX2_judged_36 (by decide) ?_
      refine g_callVV hc 18 [.int 128, .int (bI false)] (fun l => c_X2_setFlag l k η 128 false S4) wtC_255 ge_X2_setFlag rfl ⟨rfl, rfl⟩ ⟨Nat.le_of_ble_eq_true rfl, Nat.le_of_ble_eq_true rfl⟩ rfl rfl rfl (Nat.le_of_ble_eq_true rfl) dX2_judged_37 (fun r5 S5 e5 f5 => ?_)
      refine g_iload_n (i := 2) hc 0 dX2_judged_40 rfl rfl ?_
      exact g_iret hc dX2_judged_41
    · refine g_iconst (v := 1) hc dX2_judged_32 (by decide) ?_
      refine g_goto (tgt := 37) hc dX2_judged_33 rfl ?_
      refine g_callVV hc 18 [.int 128, .int (bI true)] (fun l => c_X2_setFlag l k η 128 true S4) wtC_255 ge_X2_setFlag rfl ⟨rfl, rfl⟩ ⟨Nat.le_of_ble_eq_true rfl, Nat.le_of_ble_eq_true rfl⟩ rfl rfl rfl (Nat.le_of_ble_eq_true rfl) dX2_judged_37 (fun r6 S6 e6 f6 => ?_)
      refine g_iload_n (i := 2) hc 0 dX2_judged_40 rfl rfl ?_
      exact g_iret hc dX2_judged_41

abbrev rm_X2_push : Room := { frames := 1, cells := 0, slots := 0, locals := 22 }
def sp_X2_push (k : Bool) (a0 : Int32) (S : gSt) : Unit × gSt := gB (sp_X0_storeStack k (S.1 30) a0 S) (fun (_ : Unit) S1 => gL (sI S1 30 (((S1.1 30) - 1) &&& 255)) (fun S2 => ((), S2)))
set_option maxRecDepth 100000 in
set_option maxHeartbeats 4000000 in
theorem c_X2_push (l : Launch) (k : Bool) (η : gE) (a0 : Int32) (S : gSt) : gMet l yX2_push cX2_push 2 none rm_X2_push (oC k η) [.ref (η.1 18), .int a0] S (oV (sp_X2_push k a0 S).1) (sp_X2_push k a0 S).2 := by
  refine gMet_of (X := sp_X2_push k a0 S) (lv := [(0, .ref (η.1 18)), (1, .int a0)]) oV (zC_ok η) (by decide +kernel) (Nat.le_of_ble_eq_true rfl) rfl (fun κ hc => ?_)
  have hc : gC (oC k η) κ cX2_push 2 RX2 none rm_X2_push := hc
  unfold sp_X2_push
  refine g_aload_n (i := 0) hc 0 dX2_push_0 rfl rfl ?_
  refine gf_C_18_bus hc wtC_256 dX2_push_1 ?_
  refine g_aload_n (i := 0) hc 0 dX2_push_4 rfl rfl ?_
  refine gf_C_18_s hc wtC_257 dX2_push_5 ?_
  refine g_iload_n (i := 1) hc 1 dX2_push_8 rfl rfl ?_
  refine g_callVV hc 15 [.int (S.1 30), .int a0] (fun l => c_X0_storeStack l k η (S.1 30) a0 S) wtC_261 ge_X0_storeStack rfl ⟨rfl, rfl⟩ ⟨Nat.le_of_ble_eq_true rfl, Nat.le_of_ble_eq_true rfl⟩ rfl rfl rfl (Nat.le_of_ble_eq_true rfl) dX2_push_9 (fun r1 S1 e1 f1 => ?_)
  refine g_aload_n (i := 0) hc 0 dX2_push_12 rfl rfl ?_
  refine g_aload_n (i := 0) hc 0 dX2_push_13 rfl rfl ?_
  refine gf_C_18_s hc wtC_257 dX2_push_14 ?_
  refine g_iconst (v := 1) hc dX2_push_17 (by decide) ?_
  refine g_isub hc dX2_push_18 ?_
  refine g_sipush (v := 255) hc dX2_push_19 (by decide) ?_
  refine g_iand hc dX2_push_22 ?_
  refine pf_C_18_s (v := (((S1.1 30) - 1) &&& 255)) hc wtC_257 dX2_push_23 (fun S2 f2 => ?_)
  exact g_vret hc dX2_push_26

abbrev rm_X2_pushWord : Room := { frames := 2, cells := 0, slots := 0, locals := 43 }
def sp_X2_pushWord (k : Bool) (a0 : Int32) (S : gSt) : Unit × gSt := gB (sp_X2_push k ((a0 >>> ((8 : Int32) &&& (31 : Int32))) &&& 255) S) (fun (_ : Unit) S1 => gB (sp_X2_push k (a0 &&& 255) S1) (fun (_ : Unit) S2 => ((), S2)))
set_option maxRecDepth 100000 in
set_option maxHeartbeats 4000000 in
theorem c_X2_pushWord (l : Launch) (k : Bool) (η : gE) (a0 : Int32) (S : gSt) : gMet l yX2_pushWord cX2_pushWord 2 none rm_X2_pushWord (oC k η) [.ref (η.1 18), .int a0] S (oV (sp_X2_pushWord k a0 S).1) (sp_X2_pushWord k a0 S).2 := by
  refine gMet_of (X := sp_X2_pushWord k a0 S) (lv := [(0, .ref (η.1 18)), (1, .int a0)]) oV (zC_ok η) (by decide +kernel) (Nat.le_of_ble_eq_true rfl) rfl (fun κ hc => ?_)
  have hc : gC (oC k η) κ cX2_pushWord 2 RX2 none rm_X2_pushWord := hc
  unfold sp_X2_pushWord
  refine g_aload_n (i := 0) hc 0 dX2_pushWord_0 rfl rfl ?_
  refine g_iload_n (i := 1) hc 1 dX2_pushWord_1 rfl rfl ?_
  refine g_bipush (v := 8) hc dX2_pushWord_2 (by decide) ?_
  refine g_ishr hc dX2_pushWord_4 ?_
  refine g_sipush (v := 255) hc dX2_pushWord_5 (by decide) ?_
  refine g_iand hc dX2_pushWord_8 ?_
  refine g_callVV hc 18 [.int ((a0 >>> ((8 : Int32) &&& (31 : Int32))) &&& 255)] (fun l => c_X2_push l k η ((a0 >>> ((8 : Int32) &&& (31 : Int32))) &&& 255) S) wtC_265 ge_X2_push rfl ⟨rfl, rfl⟩ ⟨Nat.le_of_ble_eq_true rfl, Nat.le_of_ble_eq_true rfl⟩ rfl rfl rfl (Nat.le_of_ble_eq_true rfl) dX2_pushWord_9 (fun r1 S1 e1 f1 => ?_)
  refine g_aload_n (i := 0) hc 0 dX2_pushWord_12 rfl rfl ?_
  refine g_iload_n (i := 1) hc 1 dX2_pushWord_13 rfl rfl ?_
  refine g_sipush (v := 255) hc dX2_pushWord_14 (by decide) ?_
  refine g_iand hc dX2_pushWord_17 ?_
  refine g_callVV hc 18 [.int (a0 &&& 255)] (fun l => c_X2_push l k η (a0 &&& 255) S1) wtC_265 ge_X2_push rfl ⟨rfl, rfl⟩ ⟨Nat.le_of_ble_eq_true rfl, Nat.le_of_ble_eq_true rfl⟩ rfl rfl rfl (Nat.le_of_ble_eq_true rfl) dX2_pushWord_18 (fun r2 S2 e2 f2 => ?_)
  exact g_vret hc dX2_pushWord_21

abbrev rm_X2_pull : Room := { frames := 1, cells := 0, slots := 0, locals := 21 }
def sp_X2_pull (k : Bool)  (S : gSt) : Int32 × gSt := gL (sI S 30 (((S.1 30) + 1) &&& 255)) (fun S1 => gB (sp_X0_loadStack k (S1.1 30) S1) (fun r2 S2 => (r2, S2)))
set_option maxRecDepth 100000 in
set_option maxHeartbeats 4000000 in
theorem c_X2_pull (l : Launch) (k : Bool) (η : gE)  (S : gSt) : gMet l yX2_pull cX2_pull 1 (some .int) rm_X2_pull (oC k η) [.ref (η.1 18)] S (oI (sp_X2_pull k S).1) (sp_X2_pull k S).2 := by
  refine gMet_of (X := sp_X2_pull k S) (lv := [(0, .ref (η.1 18))]) oI (zC_ok η) (by decide +kernel) (Nat.le_of_ble_eq_true rfl) rfl (fun κ hc => ?_)
  have hc : gC (oC k η) κ cX2_pull 1 RX2 (some .int) rm_X2_pull := hc
  unfold sp_X2_pull
  refine g_aload_n (i := 0) hc 0 dX2_pull_0 rfl rfl ?_
  refine g_aload_n (i := 0) hc 0 dX2_pull_1 rfl rfl ?_
  refine gf_C_18_s hc wtC_257 dX2_pull_2 ?_
  refine g_iconst (v := 1) hc dX2_pull_5 (by decide) ?_
  refine g_iadd hc dX2_pull_6 ?_
  refine g_sipush (v := 255) hc dX2_pull_7 (by decide) ?_
  refine g_iand hc dX2_pull_10 ?_
  refine pf_C_18_s (v := (((S.1 30) + 1) &&& 255)) hc wtC_257 dX2_pull_11 (fun S1 f1 => ?_)
  refine g_aload_n (i := 0) hc 0 dX2_pull_14 rfl rfl ?_
  refine gf_C_18_bus hc wtC_256 dX2_pull_15 ?_
  refine g_aload_n (i := 0) hc 0 dX2_pull_18 rfl rfl ?_
  refine gf_C_18_s hc wtC_257 dX2_pull_19 ?_
  refine g_callVI hc 15 [.int (S1.1 30)] (fun l => c_X0_loadStack l k η (S1.1 30) S1) wtC_269 ge_X0_loadStack rfl ⟨rfl, rfl⟩ ⟨Nat.le_of_ble_eq_true rfl, Nat.le_of_ble_eq_true rfl⟩ rfl rfl rfl (Nat.le_of_ble_eq_true rfl) dX2_pull_22 (fun r2 S2 e2 f2 => ?_)
  exact g_iret hc dX2_pull_25

abbrev rm_X2_pullWord : Room := { frames := 2, cells := 0, slots := 0, locals := 41 }
def sp_X2_pullWord (k : Bool)  (S : gSt) : Int32 × gSt := gB (sp_X2_pull k S) (fun r1 S1 => gB (sp_X2_pull k S1) (fun r2 S2 => ((r1 ||| (r2 <<< ((8 : Int32) &&& (31 : Int32)))), S2)))
set_option maxRecDepth 100000 in
set_option maxHeartbeats 4000000 in
theorem c_X2_pullWord (l : Launch) (k : Bool) (η : gE)  (S : gSt) : gMet l yX2_pullWord cX2_pullWord 2 (some .int) rm_X2_pullWord (oC k η) [.ref (η.1 18)] S (oI (sp_X2_pullWord k S).1) (sp_X2_pullWord k S).2 := by
  refine gMet_of (X := sp_X2_pullWord k S) (lv := [(0, .ref (η.1 18))]) oI (zC_ok η) (by decide +kernel) (Nat.le_of_ble_eq_true rfl) rfl (fun κ hc => ?_)
  have hc : gC (oC k η) κ cX2_pullWord 2 RX2 (some .int) rm_X2_pullWord := hc
  unfold sp_X2_pullWord
  refine g_aload_n (i := 0) hc 0 dX2_pullWord_0 rfl rfl ?_
  refine g_callVI hc 18 [] (fun l => c_X2_pull l k η S) wtC_273 ge_X2_pull rfl ⟨rfl, rfl⟩ ⟨Nat.le_of_ble_eq_true rfl, Nat.le_of_ble_eq_true rfl⟩ rfl rfl rfl (Nat.le_of_ble_eq_true rfl) dX2_pullWord_1 (fun r1 S1 e1 f1 => ?_)
  refine g_istore_n (i := 1) (lv' := [(1, .int r1), (0, .ref (η.1 18))]) hc dX2_pullWord_4 rfl (by decide) rfl ?_
  refine g_iload_n (i := 1) hc 0 dX2_pullWord_5 rfl rfl ?_
  refine g_aload_n (i := 0) hc 1 dX2_pullWord_6 rfl rfl ?_
  refine g_callVI hc 18 [] (fun l => c_X2_pull l k η S1) wtC_273 ge_X2_pull rfl ⟨rfl, rfl⟩ ⟨Nat.le_of_ble_eq_true rfl, Nat.le_of_ble_eq_true rfl⟩ rfl rfl rfl (Nat.le_of_ble_eq_true rfl) dX2_pullWord_7 (fun r2 S2 e2 f2 => ?_)
  refine g_bipush (v := 8) hc dX2_pullWord_10 (by decide) ?_
  refine g_ishl hc dX2_pullWord_12 ?_
  refine g_ior hc dX2_pullWord_13 ?_
  exact g_iret hc dX2_pullWord_14

abbrev rm_X2_pullFlags : Room := { frames := 2, cells := 0, slots := 0, locals := 41 }
def sp_X2_pullFlags (k : Bool)  (S : gSt) : Unit × gSt := gB (sp_X2_pull k S) (fun r1 S1 => gL (sI S1 31 ((r1 &&& (-17)) ||| 32)) (fun S2 => ((), S2)))
set_option maxRecDepth 100000 in
set_option maxHeartbeats 4000000 in
theorem c_X2_pullFlags (l : Launch) (k : Bool) (η : gE)  (S : gSt) : gMet l yX2_pullFlags cX2_pullFlags 1 none rm_X2_pullFlags (oC k η) [.ref (η.1 18)] S (oV (sp_X2_pullFlags k S).1) (sp_X2_pullFlags k S).2 := by
  refine gMet_of (X := sp_X2_pullFlags k S) (lv := [(0, .ref (η.1 18))]) oV (zC_ok η) (by decide +kernel) (Nat.le_of_ble_eq_true rfl) rfl (fun κ hc => ?_)
  have hc : gC (oC k η) κ cX2_pullFlags 1 RX2 none rm_X2_pullFlags := hc
  unfold sp_X2_pullFlags
  refine g_aload_n (i := 0) hc 0 dX2_pullFlags_0 rfl rfl ?_
  refine g_aload_n (i := 0) hc 0 dX2_pullFlags_1 rfl rfl ?_
  refine g_callVI hc 18 [] (fun l => c_X2_pull l k η S) wtC_273 ge_X2_pull rfl ⟨rfl, rfl⟩ ⟨Nat.le_of_ble_eq_true rfl, Nat.le_of_ble_eq_true rfl⟩ rfl rfl rfl (Nat.le_of_ble_eq_true rfl) dX2_pullFlags_2 (fun r1 S1 e1 f1 => ?_)
  refine g_bipush (v := (-17)) hc dX2_pullFlags_5 (by decide) ?_
  refine g_iand hc dX2_pullFlags_7 ?_
  refine g_bipush (v := 32) hc dX2_pullFlags_8 (by decide) ?_
  refine g_ior hc dX2_pullFlags_10 ?_
  refine pf_C_18_p (v := ((r1 &&& (-17)) ||| 32)) hc wtC_250 dX2_pullFlags_11 (fun S2 f2 => ?_)
  exact g_vret hc dX2_pullFlags_14

abbrev rm_X2_enter : Room := { frames := 3, cells := 0, slots := 0, locals := 64 }
def sp_X2_enter (k : Bool) (a0 : Int32) (a1 : Int32) (a2 : Int32) (S : gSt) : Unit × gSt := gB (sp_X2_pushWord k a1 S) (fun (_ : Unit) S1 => gB (sp_X2_push k a2 S1) (fun (_ : Unit) S2 => gL (sI S2 31 ((S2.1 31) ||| 4)) (fun S3 => gB (sp_X0_vector k a0 S3) (fun r4 S4 => gL (sI S4 32 r4) (fun S5 => ((), S5))))))
set_option maxRecDepth 100000 in
set_option maxHeartbeats 4000000 in
theorem c_X2_enter (l : Launch) (k : Bool) (η : gE) (a0 : Int32) (a1 : Int32) (a2 : Int32) (S : gSt) : gMet l yX2_enter cX2_enter 4 none rm_X2_enter (oC k η) [.ref (η.1 18), .int a0, .int a1, .int a2] S (oV (sp_X2_enter k a0 a1 a2 S).1) (sp_X2_enter k a0 a1 a2 S).2 := by
  refine gMet_of (X := sp_X2_enter k a0 a1 a2 S) (lv := [(0, .ref (η.1 18)), (1, .int a0), (2, .int a1), (3, .int a2)]) oV (zC_ok η) (by decide +kernel) (Nat.le_of_ble_eq_true rfl) rfl (fun κ hc => ?_)
  have hc : gC (oC k η) κ cX2_enter 4 RX2 none rm_X2_enter := hc
  unfold sp_X2_enter
  refine g_aload_n (i := 0) hc 0 dX2_enter_0 rfl rfl ?_
  refine g_iload_n (i := 2) hc 2 dX2_enter_1 rfl rfl ?_
  refine g_callVV hc 18 [.int a1] (fun l => c_X2_pushWord l k η a1 S) wtC_277 ge_X2_pushWord rfl ⟨rfl, rfl⟩ ⟨Nat.le_of_ble_eq_true rfl, Nat.le_of_ble_eq_true rfl⟩ rfl rfl rfl (Nat.le_of_ble_eq_true rfl) dX2_enter_2 (fun r1 S1 e1 f1 => ?_)
  refine g_aload_n (i := 0) hc 0 dX2_enter_5 rfl rfl ?_
  refine g_iload_n (i := 3) hc 3 dX2_enter_6 rfl rfl ?_
  refine g_callVV hc 18 [.int a2] (fun l => c_X2_push l k η a2 S1) wtC_265 ge_X2_push rfl ⟨rfl, rfl⟩ ⟨Nat.le_of_ble_eq_true rfl, Nat.le_of_ble_eq_true rfl⟩ rfl rfl rfl (Nat.le_of_ble_eq_true rfl) dX2_enter_7 (fun r2 S2 e2 f2 => ?_)
  refine g_aload_n (i := 0) hc 0 dX2_enter_10 rfl rfl ?_
  refine g_dup hc dX2_enter_11 rfl ?_
  refine gf_C_18_p hc wtC_250 dX2_enter_12 ?_
  refine g_iconst (v := 4) hc dX2_enter_15 (by decide) ?_
  refine g_ior hc dX2_enter_16 ?_
  refine pf_C_18_p (v := ((S2.1 31) ||| 4)) hc wtC_250 dX2_enter_17 (fun S3 f3 => ?_)
  refine g_aload_n (i := 0) hc 0 dX2_enter_20 rfl rfl ?_
  refine g_aload_n (i := 0) hc 0 dX2_enter_21 rfl rfl ?_
  refine gf_C_18_bus hc wtC_256 dX2_enter_22 ?_
  refine g_iload_n (i := 1) hc 1 dX2_enter_25 rfl rfl ?_
  refine g_callVI hc 15 [.int a0] (fun l => c_X0_vector l k η a0 S3) wtC_281 ge_X0_vector rfl ⟨rfl, rfl⟩ ⟨Nat.le_of_ble_eq_true rfl, Nat.le_of_ble_eq_true rfl⟩ rfl rfl rfl (Nat.le_of_ble_eq_true rfl) dX2_enter_26 (fun r4 S4 e4 f4 => ?_)
  refine pf_C_18_pc (v := r4) hc wtC_282 dX2_enter_29 (fun S5 f5 => ?_)
  exact g_vret hc dX2_enter_32

abbrev rm_X2_restart : Room := { frames := 2, cells := 0, slots := 0, locals := 42 }
def sp_X2_restart (k : Bool)  (S : gSt) : Unit × gSt := gL (sI S 30 (((S.1 30) - 3) &&& 255)) (fun S1 => gL (sI S1 31 ((S1.1 31) ||| 4)) (fun S2 => gB (sp_X0_vector k 65532 S2) (fun r3 S3 => gL (sI S3 32 r3) (fun S4 => ((), S4)))))
set_option maxRecDepth 100000 in
set_option maxHeartbeats 4000000 in
theorem c_X2_restart (l : Launch) (k : Bool) (η : gE)  (S : gSt) : gMet l yX2_restart cX2_restart 1 none rm_X2_restart (oC k η) [.ref (η.1 18)] S (oV (sp_X2_restart k S).1) (sp_X2_restart k S).2 := by
  refine gMet_of (X := sp_X2_restart k S) (lv := [(0, .ref (η.1 18))]) oV (zC_ok η) (by decide +kernel) (Nat.le_of_ble_eq_true rfl) rfl (fun κ hc => ?_)
  have hc : gC (oC k η) κ cX2_restart 1 RX2 none rm_X2_restart := hc
  unfold sp_X2_restart
  refine g_aload_n (i := 0) hc 0 dX2_restart_0 rfl rfl ?_
  refine g_aload_n (i := 0) hc 0 dX2_restart_1 rfl rfl ?_
  refine gf_C_18_s hc wtC_257 dX2_restart_2 ?_
  refine g_iconst (v := 3) hc dX2_restart_5 (by decide) ?_
  refine g_isub hc dX2_restart_6 ?_
  refine g_sipush (v := 255) hc dX2_restart_7 (by decide) ?_
  refine g_iand hc dX2_restart_10 ?_
  refine pf_C_18_s (v := (((S.1 30) - 3) &&& 255)) hc wtC_257 dX2_restart_11 (fun S1 f1 => ?_)
  refine g_aload_n (i := 0) hc 0 dX2_restart_14 rfl rfl ?_
  refine g_dup hc dX2_restart_15 rfl ?_
  refine gf_C_18_p hc wtC_250 dX2_restart_16 ?_
  refine g_iconst (v := 4) hc dX2_restart_19 (by decide) ?_
  refine g_ior hc dX2_restart_20 ?_
  refine pf_C_18_p (v := ((S1.1 31) ||| 4)) hc wtC_250 dX2_restart_21 (fun S2 f2 => ?_)
  refine g_aload_n (i := 0) hc 0 dX2_restart_24 rfl rfl ?_
  refine g_aload_n (i := 0) hc 0 dX2_restart_25 rfl rfl ?_
  refine gf_C_18_bus hc wtC_256 dX2_restart_26 ?_
  refine g_ldc (v := 65532) hc wtC_283 dX2_restart_29 ?_
  refine g_callVI hc 15 [.int 65532] (fun l => c_X0_vector l k η 65532 S2) wtC_281 ge_X0_vector rfl ⟨rfl, rfl⟩ ⟨Nat.le_of_ble_eq_true rfl, Nat.le_of_ble_eq_true rfl⟩ rfl rfl rfl (Nat.le_of_ble_eq_true rfl) dX2_restart_31 (fun r3 S3 e3 f3 => ?_)
  refine pf_C_18_pc (v := r3) hc wtC_282 dX2_restart_34 (fun S4 f4 => ?_)
  exact g_vret hc dX2_restart_37

abbrev rm_X2_fetch : Room := { frames := 4, cells := 0, slots := 0, locals := 89 }
def sp_X2_fetch (k : Bool)  (S : gSt) : Int32 × gSt := gB (sp_X0_load k (S.1 32) S) (fun r1 S1 => gL (sI S1 32 (((S1.1 32) + 1) &&& 65535)) (fun S2 => (r1, S2)))
set_option maxRecDepth 100000 in
set_option maxHeartbeats 4000000 in
theorem c_X2_fetch (l : Launch) (k : Bool) (η : gE)  (S : gSt) : gMet l yX2_fetch cX2_fetch 2 (some .int) rm_X2_fetch (oC k η) [.ref (η.1 18)] S (oI (sp_X2_fetch k S).1) (sp_X2_fetch k S).2 := by
  refine gMet_of (X := sp_X2_fetch k S) (lv := [(0, .ref (η.1 18))]) oI (zC_ok η) (by decide +kernel) (Nat.le_of_ble_eq_true rfl) rfl (fun κ hc => ?_)
  have hc : gC (oC k η) κ cX2_fetch 2 RX2 (some .int) rm_X2_fetch := hc
  unfold sp_X2_fetch
  refine g_aload_n (i := 0) hc 0 dX2_fetch_0 rfl rfl ?_
  refine gf_C_18_bus hc wtC_256 dX2_fetch_1 ?_
  refine g_aload_n (i := 0) hc 0 dX2_fetch_4 rfl rfl ?_
  refine gf_C_18_pc hc wtC_282 dX2_fetch_5 ?_
  refine g_callVI hc 15 [.int (S.1 32)] (fun l => c_X0_load l k η (S.1 32) S) wtC_284 ge_X0_load rfl ⟨rfl, rfl⟩ ⟨Nat.le_of_ble_eq_true rfl, Nat.le_of_ble_eq_true rfl⟩ rfl rfl rfl (Nat.le_of_ble_eq_true rfl) dX2_fetch_8 (fun r1 S1 e1 f1 => ?_)
  refine g_istore_n (i := 1) (lv' := [(1, .int r1), (0, .ref (η.1 18))]) hc dX2_fetch_11 rfl (by decide) rfl ?_
  refine g_aload_n (i := 0) hc 1 dX2_fetch_12 rfl rfl ?_
  refine g_aload_n (i := 0) hc 1 dX2_fetch_13 rfl rfl ?_
  refine gf_C_18_pc hc wtC_282 dX2_fetch_14 ?_
  refine g_iconst (v := 1) hc dX2_fetch_17 (by decide) ?_
  refine g_iadd hc dX2_fetch_18 ?_
  refine g_ldc (v := 65535) hc wtC_285 dX2_fetch_19 ?_
  refine g_iand hc dX2_fetch_21 ?_
  refine pf_C_18_pc (v := (((S1.1 32) + 1) &&& 65535)) hc wtC_282 dX2_fetch_22 (fun S2 f2 => ?_)
  refine g_iload_n (i := 1) hc 0 dX2_fetch_25 rfl rfl ?_
  exact g_iret hc dX2_fetch_26

abbrev rm_X2_fetchOperand : Room := { frames := 5, cells := 0, slots := 0, locals := 110 }
def sp_X2_fetchOperand (k : Bool) (a0 : Int32) (S : gSt) : Int32 × gSt := (if 2 ≤ a0 then gB (sp_X2_fetch k S) (fun r1 S1 => (if 9 ≤ a0 then gB (sp_X2_fetch k S1) (fun r2 S2 => ((r1 ||| (r2 <<< ((8 : Int32) &&& (31 : Int32)))), S2)) else (r1, S1))) else (0, S))
set_option maxRecDepth 100000 in
set_option maxHeartbeats 4000000 in
theorem c_X2_fetchOperand (l : Launch) (k : Bool) (η : gE) (a0 : Int32) (S : gSt) : gMet l yX2_fetchOperand cX2_fetchOperand 3 (some .int) rm_X2_fetchOperand (oC k η) [.ref (η.1 18), .int a0] S (oI (sp_X2_fetchOperand k a0 S).1) (sp_X2_fetchOperand k a0 S).2 := by
  refine gMet_of (X := sp_X2_fetchOperand k a0 S) (lv := [(0, .ref (η.1 18)), (1, .int a0)]) oI (zC_ok η) (by decide +kernel) (Nat.le_of_ble_eq_true rfl) rfl (fun κ hc => ?_)
  have hc : gC (oC k η) κ cX2_fetchOperand 3 RX2 (some .int) rm_X2_fetchOperand := hc
  unfold sp_X2_fetchOperand
  refine g_iload_n (i := 1) hc 1 dX2_fetchOperand_0 rfl rfl ?_
  refine g_iconst (v := 2) hc dX2_fetchOperand_1 (by decide) ?_
  refine g_icmpge (tgt := 7) hc dX2_fetchOperand_2 rfl (fun c_2 => ?_) (fun c_2 => ?_)
  · refine g_aload_n (i := 0) hc 0 dX2_fetchOperand_7 rfl rfl ?_
    refine g_callVI hc 18 [] (fun l => c_X2_fetch l k η S) wtC_289 ge_X2_fetch rfl ⟨rfl, rfl⟩ ⟨Nat.le_of_ble_eq_true rfl, Nat.le_of_ble_eq_true rfl⟩ rfl rfl rfl (Nat.le_of_ble_eq_true rfl) dX2_fetchOperand_8 (fun r1 S1 e1 f1 => ?_)
    refine g_istore_n (i := 2) (lv' := [(2, .int r1), (0, .ref (η.1 18)), (1, .int a0)]) hc dX2_fetchOperand_11 rfl (by decide) rfl ?_
    refine g_iload_n (i := 1) hc 2 dX2_fetchOperand_12 rfl rfl ?_
    refine g_bipush (v := 9) hc dX2_fetchOperand_13 (by decide) ?_
    refine g_icmpge (tgt := 22) hc dX2_fetchOperand_15 rfl (fun c_15 => ?_) (fun c_15 => ?_)
    · refine g_iload_n (i := 2) hc 0 dX2_fetchOperand_22 rfl rfl ?_
      refine g_aload_n (i := 0) hc 1 dX2_fetchOperand_23 rfl rfl ?_
      refine g_callVI hc 18 [] (fun l => c_X2_fetch l k η S1) wtC_289 ge_X2_fetch rfl ⟨rfl, rfl⟩ ⟨Nat.le_of_ble_eq_true rfl, Nat.le_of_ble_eq_true rfl⟩ rfl rfl rfl (Nat.le_of_ble_eq_true rfl) dX2_fetchOperand_24 (fun r2 S2 e2 f2 => ?_)
      refine g_bipush (v := 8) hc dX2_fetchOperand_27 (by decide) ?_
      refine g_ishl hc dX2_fetchOperand_29 ?_
      refine g_ior hc dX2_fetchOperand_30 ?_
      exact g_iret hc dX2_fetchOperand_31
    · refine g_iload_n (i := 2) hc 0 dX2_fetchOperand_18 rfl rfl ?_
      refine g_goto (tgt := 31) hc dX2_fetchOperand_19 rfl ?_
      exact g_iret hc dX2_fetchOperand_31
  · refine g_iconst (v := 0) hc dX2_fetchOperand_5 (by decide) ?_
    exact g_iret hc dX2_fetchOperand_6

abbrev rm_X2_wordWithinPage : Room := { frames := 4, cells := 0, slots := 0, locals := 89 }
def sp_X2_wordWithinPage (k : Bool) (a0 : Int32) (S : gSt) : Int32 × gSt := gB (sp_X0_load k a0 S) (fun r1 S1 => gB (sp_X0_load k ((a0 &&& 65280) ||| ((a0 + 1) &&& 255)) S1) (fun r2 S2 => ((r1 ||| (r2 <<< ((8 : Int32) &&& (31 : Int32)))), S2)))
set_option maxRecDepth 100000 in
set_option maxHeartbeats 4000000 in
theorem c_X2_wordWithinPage (l : Launch) (k : Bool) (η : gE) (a0 : Int32) (S : gSt) : gMet l yX2_wordWithinPage cX2_wordWithinPage 3 (some .int) rm_X2_wordWithinPage (oC k η) [.ref (η.1 18), .int a0] S (oI (sp_X2_wordWithinPage k a0 S).1) (sp_X2_wordWithinPage k a0 S).2 := by
  refine gMet_of (X := sp_X2_wordWithinPage k a0 S) (lv := [(0, .ref (η.1 18)), (1, .int a0)]) oI (zC_ok η) (by decide +kernel) (Nat.le_of_ble_eq_true rfl) rfl (fun κ hc => ?_)
  have hc : gC (oC k η) κ cX2_wordWithinPage 3 RX2 (some .int) rm_X2_wordWithinPage := hc
  unfold sp_X2_wordWithinPage
  refine g_aload_n (i := 0) hc 0 dX2_wordWithinPage_0 rfl rfl ?_
  refine gf_C_18_bus hc wtC_256 dX2_wordWithinPage_1 ?_
  refine g_iload_n (i := 1) hc 1 dX2_wordWithinPage_4 rfl rfl ?_
  refine g_callVI hc 15 [.int a0] (fun l => c_X0_load l k η a0 S) wtC_284 ge_X0_load rfl ⟨rfl, rfl⟩ ⟨Nat.le_of_ble_eq_true rfl, Nat.le_of_ble_eq_true rfl⟩ rfl rfl rfl (Nat.le_of_ble_eq_true rfl) dX2_wordWithinPage_5 (fun r1 S1 e1 f1 => ?_)
  refine g_istore_n (i := 2) (lv' := [(2, .int r1), (0, .ref (η.1 18)), (1, .int a0)]) hc dX2_wordWithinPage_8 rfl (by decide) rfl ?_
  refine g_iload_n (i := 2) hc 0 dX2_wordWithinPage_9 rfl rfl ?_
  refine g_aload_n (i := 0) hc 1 dX2_wordWithinPage_10 rfl rfl ?_
  refine gf_C_18_bus hc wtC_256 dX2_wordWithinPage_11 ?_
  refine g_iload_n (i := 1) hc 2 dX2_wordWithinPage_14 rfl rfl ?_
  refine g_ldc (v := 65280) hc wtC_290 dX2_wordWithinPage_15 ?_
  refine g_iand hc dX2_wordWithinPage_17 ?_
  refine g_iload_n (i := 1) hc 2 dX2_wordWithinPage_18 rfl rfl ?_
  refine g_iconst (v := 1) hc dX2_wordWithinPage_19 (by decide) ?_
  refine g_iadd hc dX2_wordWithinPage_20 ?_
  refine g_sipush (v := 255) hc dX2_wordWithinPage_21 (by decide) ?_
  refine g_iand hc dX2_wordWithinPage_24 ?_
  refine g_ior hc dX2_wordWithinPage_25 ?_
  refine g_callVI hc 15 [.int ((a0 &&& 65280) ||| ((a0 + 1) &&& 255))] (fun l => c_X0_load l k η ((a0 &&& 65280) ||| ((a0 + 1) &&& 255)) S1) wtC_284 ge_X0_load rfl ⟨rfl, rfl⟩ ⟨Nat.le_of_ble_eq_true rfl, Nat.le_of_ble_eq_true rfl⟩ rfl rfl rfl (Nat.le_of_ble_eq_true rfl) dX2_wordWithinPage_26 (fun r2 S2 e2 f2 => ?_)
  refine g_bipush (v := 8) hc dX2_wordWithinPage_29 (by decide) ?_
  refine g_ishl hc dX2_wordWithinPage_31 ?_
  refine g_ior hc dX2_wordWithinPage_32 ?_
  exact g_iret hc dX2_wordWithinPage_33

abbrev rm_X2_otherPage : Room := { frames := 0, cells := 0, slots := 0, locals := 0 }
def sp_X2_otherPage (k : Bool) (a0 : Int32) (a1 : Int32) (S : gSt) : Int32 × gSt := (if (a0 &&& 65280) = (a1 &&& 65280) then (0, S) else (1, S))
set_option maxRecDepth 100000 in
set_option maxHeartbeats 4000000 in
theorem c_X2_otherPage (l : Launch) (k : Bool) (η : gE) (a0 : Int32) (a1 : Int32) (S : gSt) : gMet l yX2_otherPage cX2_otherPage 2 (some .int) rm_X2_otherPage (oC k η) [.int a0, .int a1] S (oI (sp_X2_otherPage k a0 a1 S).1) (sp_X2_otherPage k a0 a1 S).2 := by
  refine gMet_of (X := sp_X2_otherPage k a0 a1 S) (lv := [(0, .int a0), (1, .int a1)]) oI (zC_ok η) (by decide +kernel) (Nat.le_of_ble_eq_true rfl) rfl (fun κ hc => ?_)
  have hc : gC (oC k η) κ cX2_otherPage 2 RX2 (some .int) rm_X2_otherPage := hc
  unfold sp_X2_otherPage
  refine g_iload_n (i := 0) hc 0 dX2_otherPage_0 rfl rfl ?_
  refine g_ldc (v := 65280) hc wtC_290 dX2_otherPage_1 ?_
  refine g_iand hc dX2_otherPage_3 ?_
  refine g_iload_n (i := 1) hc 1 dX2_otherPage_4 rfl rfl ?_
  refine g_ldc (v := 65280) hc wtC_290 dX2_otherPage_5 ?_
  refine g_iand hc dX2_otherPage_7 ?_
  refine g_icmpne (tgt := 15) hc dX2_otherPage_8 rfl (fun c_8 => ?_) (fun c_8 => ?_)
  · refine g_iconst (v := 0) hc dX2_otherPage_11 (by decide) ?_
    refine g_goto (tgt := 16) hc dX2_otherPage_12 rfl ?_
    exact g_iret hc dX2_otherPage_16
  · refine g_iconst (v := 1) hc dX2_otherPage_15 (by decide) ?_
    exact g_iret hc dX2_otherPage_16

abbrev rm_X2_indexed : Room := { frames := 1, cells := 0, slots := 0, locals := 21 }
def sp_X2_indexed (k : Bool) (a0 : Int32) (a1 : Int32) (S : gSt) : Int32 × gSt := gB (sp_X2_otherPage k a0 ((a0 + a1) &&& 65535) S) (fun r1 S1 => gL (sI S1 33 r1) (fun S2 => (((a0 + a1) &&& 65535), S2)))
set_option maxRecDepth 100000 in
set_option maxHeartbeats 4000000 in
theorem c_X2_indexed (l : Launch) (k : Bool) (η : gE) (a0 : Int32) (a1 : Int32) (S : gSt) : gMet l yX2_indexed cX2_indexed 4 (some .int) rm_X2_indexed (oC k η) [.ref (η.1 18), .int a0, .int a1] S (oI (sp_X2_indexed k a0 a1 S).1) (sp_X2_indexed k a0 a1 S).2 := by
  refine gMet_of (X := sp_X2_indexed k a0 a1 S) (lv := [(0, .ref (η.1 18)), (1, .int a0), (2, .int a1)]) oI (zC_ok η) (by decide +kernel) (Nat.le_of_ble_eq_true rfl) rfl (fun κ hc => ?_)
  have hc : gC (oC k η) κ cX2_indexed 4 RX2 (some .int) rm_X2_indexed := hc
  unfold sp_X2_indexed
  refine g_iload_n (i := 1) hc 1 dX2_indexed_0 rfl rfl ?_
  refine g_iload_n (i := 2) hc 2 dX2_indexed_1 rfl rfl ?_
  refine g_iadd hc dX2_indexed_2 ?_
  refine g_ldc (v := 65535) hc wtC_285 dX2_indexed_3 ?_
  refine g_iand hc dX2_indexed_5 ?_
  refine g_istore_n (i := 3) (lv' := [(3, .int ((a0 + a1) &&& 65535)), (0, .ref (η.1 18)), (1, .int a0), (2, .int a1)]) hc dX2_indexed_6 rfl (by decide) rfl ?_
  refine g_aload_n (i := 0) hc 1 dX2_indexed_7 rfl rfl ?_
  refine g_iload_n (i := 1) hc 2 dX2_indexed_8 rfl rfl ?_
  refine g_iload_n (i := 3) hc 0 dX2_indexed_9 rfl rfl ?_
  refine g_callSI hc [.int a0, .int ((a0 + a1) &&& 65535)] (fun l => c_X2_otherPage l k η a0 ((a0 + a1) &&& 65535) S) wtC_293 ge_X2_otherPage rfl ⟨rfl, rfl⟩ ⟨Nat.le_of_ble_eq_true rfl, Nat.le_of_ble_eq_true rfl⟩ rfl (Nat.le_of_ble_eq_true rfl) dX2_indexed_10 (fun r1 S1 e1 f1 => ?_)
  refine pf_C_18_crossed (v := r1) hc wtC_294 dX2_indexed_13 (fun S2 f2 => ?_)
  refine g_iload_n (i := 3) hc 0 dX2_indexed_16 rfl rfl ?_
  exact g_iret hc dX2_indexed_17

abbrev rm_X2_addressOf : Room := { frames := 5, cells := 0, slots := 0, locals := 111 }
def sp_X2_addressOf (k : Bool) (a0 : Int32) (a1 : Int32) (S : gSt) : Int32 × gSt := gL (sI S 33 0) (fun S1 => (if a0 = 4 then (((a1 + (S1.1 28)) &&& 255), S1) else (if a0 = 5 then (((a1 + (S1.1 29)) &&& 255), S1) else (if a0 = 6 then gB (sp_X2_wordWithinPage k ((a1 + (S1.1 28)) &&& 255) S1) (fun r2 S2 => (r2, S2)) else (if a0 = 7 then gB (sp_X2_wordWithinPage k a1 S1) (fun r3 S3 => gB (sp_X2_indexed k r3 (S3.1 29) S3) (fun r4 S4 => (r4, S4))) else (if a0 = 8 then ((((S1.1 32) + (a1).toInt8.toInt32) &&& 65535), S1) else (if a0 = 9 then (a1, S1) else (if a0 = 10 then gB (sp_X2_indexed k a1 (S1.1 28) S1) (fun r5 S5 => (r5, S5)) else (if a0 = 11 then gB (sp_X2_indexed k a1 (S1.1 29) S1) (fun r6 S6 => (r6, S6)) else (if a0 = 12 then gB (sp_X2_wordWithinPage k a1 S1) (fun r7 S7 => (r7, S7)) else (a1, S1)))))))))))
set_option maxRecDepth 100000 in
set_option maxHeartbeats 4000000 in
theorem c_X2_addressOf (l : Launch) (k : Bool) (η : gE) (a0 : Int32) (a1 : Int32) (S : gSt) : gMet l yX2_addressOf cX2_addressOf 3 (some .int) rm_X2_addressOf (oC k η) [.ref (η.1 18), .int a0, .int a1] S (oI (sp_X2_addressOf k a0 a1 S).1) (sp_X2_addressOf k a0 a1 S).2 := by
  refine gMet_of (X := sp_X2_addressOf k a0 a1 S) (lv := [(0, .ref (η.1 18)), (1, .int a0), (2, .int a1)]) oI (zC_ok η) (by decide +kernel) (Nat.le_of_ble_eq_true rfl) rfl (fun κ hc => ?_)
  have hc : gC (oC k η) κ cX2_addressOf 3 RX2 (some .int) rm_X2_addressOf := hc
  unfold sp_X2_addressOf
  refine g_aload_n (i := 0) hc 0 dX2_addressOf_0 rfl rfl ?_
  refine g_iconst (v := 0) hc dX2_addressOf_1 (by decide) ?_
  refine pf_C_18_crossed (v := 0) hc wtC_294 dX2_addressOf_2 (fun S1 f1 => ?_)
  refine g_iload_n (i := 1) hc 1 dX2_addressOf_5 rfl rfl ?_
  refine g_tsw (tgt := 56) hc 4 dX2_addressOf_6 ⟨by decide, by decide, rfl⟩ rfl (fun c_6_4 => ?_) (fun c_6_4 => ?_)
  · refine g_iload_n (i := 2) hc 2 dX2_addressOf_56 rfl rfl ?_
    refine g_aload_n (i := 0) hc 0 dX2_addressOf_57 rfl rfl ?_
    refine gf_C_18_x hc wtC_295 dX2_addressOf_58 ?_
    refine g_iadd hc dX2_addressOf_61 ?_
    refine g_sipush (v := 255) hc dX2_addressOf_62 (by decide) ?_
    refine g_iand hc dX2_addressOf_65 ?_
    exact g_iret hc dX2_addressOf_66
  refine g_tsw (tgt := 67) hc 5 dX2_addressOf_6 ⟨by decide, by decide, rfl⟩ rfl (fun c_6_5 => ?_) (fun c_6_5 => ?_)
  · refine g_iload_n (i := 2) hc 2 dX2_addressOf_67 rfl rfl ?_
    refine g_aload_n (i := 0) hc 0 dX2_addressOf_68 rfl rfl ?_
    refine gf_C_18_y hc wtC_296 dX2_addressOf_69 ?_
    refine g_iadd hc dX2_addressOf_72 ?_
    refine g_sipush (v := 255) hc dX2_addressOf_73 (by decide) ?_
    refine g_iand hc dX2_addressOf_76 ?_
    exact g_iret hc dX2_addressOf_77
  refine g_tsw (tgt := 78) hc 6 dX2_addressOf_6 ⟨by decide, by decide, rfl⟩ rfl (fun c_6_6 => ?_) (fun c_6_6 => ?_)
  · refine g_aload_n (i := 0) hc 0 dX2_addressOf_78 rfl rfl ?_
    refine g_iload_n (i := 2) hc 2 dX2_addressOf_79 rfl rfl ?_
    refine g_aload_n (i := 0) hc 0 dX2_addressOf_80 rfl rfl ?_
    refine gf_C_18_x hc wtC_295 dX2_addressOf_81 ?_
    refine g_iadd hc dX2_addressOf_84 ?_
    refine g_sipush (v := 255) hc dX2_addressOf_85 (by decide) ?_
    refine g_iand hc dX2_addressOf_88 ?_
    refine g_callVI hc 18 [.int ((a1 + (S1.1 28)) &&& 255)] (fun l => c_X2_wordWithinPage l k η ((a1 + (S1.1 28)) &&& 255) S1) wtC_300 ge_X2_wordWithinPage rfl ⟨rfl, rfl⟩ ⟨Nat.le_of_ble_eq_true rfl, Nat.le_of_ble_eq_true rfl⟩ rfl rfl rfl (Nat.le_of_ble_eq_true rfl) dX2_addressOf_89 (fun r2 S2 e2 f2 => ?_)
    exact g_iret hc dX2_addressOf_92
  refine g_tsw (tgt := 93) hc 7 dX2_addressOf_6 ⟨by decide, by decide, rfl⟩ rfl (fun c_6_7 => ?_) (fun c_6_7 => ?_)
  · refine g_aload_n (i := 0) hc 0 dX2_addressOf_93 rfl rfl ?_
    refine g_aload_n (i := 0) hc 0 dX2_addressOf_94 rfl rfl ?_
    refine g_iload_n (i := 2) hc 2 dX2_addressOf_95 rfl rfl ?_
    refine g_callVI hc 18 [.int a1] (fun l => c_X2_wordWithinPage l k η a1 S1) wtC_300 ge_X2_wordWithinPage rfl ⟨rfl, rfl⟩ ⟨Nat.le_of_ble_eq_true rfl, Nat.le_of_ble_eq_true rfl⟩ rfl rfl rfl (Nat.le_of_ble_eq_true rfl) dX2_addressOf_96 (fun r3 S3 e3 f3 => ?_)
    refine g_aload_n (i := 0) hc 0 dX2_addressOf_99 rfl rfl ?_
    refine gf_C_18_y hc wtC_296 dX2_addressOf_100 ?_
    refine g_callVI hc 18 [.int r3, .int (S3.1 29)] (fun l => c_X2_indexed l k η r3 (S3.1 29) S3) wtC_304 ge_X2_indexed rfl ⟨rfl, rfl⟩ ⟨Nat.le_of_ble_eq_true rfl, Nat.le_of_ble_eq_true rfl⟩ rfl rfl rfl (Nat.le_of_ble_eq_true rfl) dX2_addressOf_103 (fun r4 S4 e4 f4 => ?_)
    exact g_iret hc dX2_addressOf_106
  refine g_tsw (tgt := 107) hc 8 dX2_addressOf_6 ⟨by decide, by decide, rfl⟩ rfl (fun c_6_8 => ?_) (fun c_6_8 => ?_)
  · refine g_aload_n (i := 0) hc 0 dX2_addressOf_107 rfl rfl ?_
    refine gf_C_18_pc hc wtC_282 dX2_addressOf_108 ?_
    refine g_iload_n (i := 2) hc 2 dX2_addressOf_111 rfl rfl ?_
    refine g_i2b hc dX2_addressOf_112 ?_
    refine g_iadd hc dX2_addressOf_113 ?_
    refine g_ldc (v := 65535) hc wtC_285 dX2_addressOf_114 ?_
    refine g_iand hc dX2_addressOf_116 ?_
    exact g_iret hc dX2_addressOf_117
  refine g_tsw (tgt := 144) hc 9 dX2_addressOf_6 ⟨by decide, by decide, rfl⟩ rfl (fun c_6_9 => ?_) (fun c_6_9 => ?_)
  · refine g_iload_n (i := 2) hc 2 dX2_addressOf_144 rfl rfl ?_
    exact g_iret hc dX2_addressOf_145
  refine g_tsw (tgt := 118) hc 10 dX2_addressOf_6 ⟨by decide, by decide, rfl⟩ rfl (fun c_6_10 => ?_) (fun c_6_10 => ?_)
  · refine g_aload_n (i := 0) hc 0 dX2_addressOf_118 rfl rfl ?_
    refine g_iload_n (i := 2) hc 2 dX2_addressOf_119 rfl rfl ?_
    refine g_aload_n (i := 0) hc 0 dX2_addressOf_120 rfl rfl ?_
    refine gf_C_18_x hc wtC_295 dX2_addressOf_121 ?_
    refine g_callVI hc 18 [.int a1, .int (S1.1 28)] (fun l => c_X2_indexed l k η a1 (S1.1 28) S1) wtC_304 ge_X2_indexed rfl ⟨rfl, rfl⟩ ⟨Nat.le_of_ble_eq_true rfl, Nat.le_of_ble_eq_true rfl⟩ rfl rfl rfl (Nat.le_of_ble_eq_true rfl) dX2_addressOf_124 (fun r5 S5 e5 f5 => ?_)
    exact g_iret hc dX2_addressOf_127
  refine g_tsw (tgt := 128) hc 11 dX2_addressOf_6 ⟨by decide, by decide, rfl⟩ rfl (fun c_6_11 => ?_) (fun c_6_11 => ?_)
  · refine g_aload_n (i := 0) hc 0 dX2_addressOf_128 rfl rfl ?_
    refine g_iload_n (i := 2) hc 2 dX2_addressOf_129 rfl rfl ?_
    refine g_aload_n (i := 0) hc 0 dX2_addressOf_130 rfl rfl ?_
    refine gf_C_18_y hc wtC_296 dX2_addressOf_131 ?_
    refine g_callVI hc 18 [.int a1, .int (S1.1 29)] (fun l => c_X2_indexed l k η a1 (S1.1 29) S1) wtC_304 ge_X2_indexed rfl ⟨rfl, rfl⟩ ⟨Nat.le_of_ble_eq_true rfl, Nat.le_of_ble_eq_true rfl⟩ rfl rfl rfl (Nat.le_of_ble_eq_true rfl) dX2_addressOf_134 (fun r6 S6 e6 f6 => ?_)
    exact g_iret hc dX2_addressOf_137
  refine g_tsw (tgt := 138) hc 12 dX2_addressOf_6 ⟨by decide, by decide, rfl⟩ rfl (fun c_6_12 => ?_) (fun c_6_12 => ?_)
  · refine g_aload_n (i := 0) hc 0 dX2_addressOf_138 rfl rfl ?_
    refine g_iload_n (i := 2) hc 2 dX2_addressOf_139 rfl rfl ?_
    refine g_callVI hc 18 [.int a1] (fun l => c_X2_wordWithinPage l k η a1 S1) wtC_300 ge_X2_wordWithinPage rfl ⟨rfl, rfl⟩ ⟨Nat.le_of_ble_eq_true rfl, Nat.le_of_ble_eq_true rfl⟩ rfl rfl rfl (Nat.le_of_ble_eq_true rfl) dX2_addressOf_140 (fun r7 S7 e7 f7 => ?_)
    exact g_iret hc dX2_addressOf_143
  refine g_tswd (tgt := 144) hc dX2_addressOf_6 (by have := lv_neT c_6_4 (a := 4) (by decide); have := lv_neT c_6_5 (a := 5) (by decide); have := lv_neT c_6_6 (a := 6) (by decide); have := lv_neT c_6_7 (a := 7) (by decide); have := lv_neT c_6_8 (a := 8) (by decide); have := lv_neT c_6_9 (a := 9) (by decide); have := lv_neT c_6_10 (a := 10) (by decide); have := lv_neT c_6_11 (a := 11) (by decide); have := lv_neT c_6_12 (a := 12) (by decide); omega) rfl ?_
  refine g_iload_n (i := 2) hc 2 dX2_addressOf_144 rfl rfl ?_
  exact g_iret hc dX2_addressOf_145

abbrev rm_X2_add : Room := { frames := 2, cells := 0, slots := 0, locals := 44 }
def sp_X2_add (k : Bool) (a0 : Int32) (S : gSt) : Unit × gSt := (if (((S.1 27) + a0) + ((S.1 31) &&& 1)) ≤ 255 then gB (sp_X2_setFlag k 1 false S) (fun (_ : Unit) S1 => (if ((((S1.1 27) ^^^ (((S.1 27) + a0) + ((S.1 31) &&& 1))) &&& (a0 ^^^ (((S.1 27) + a0) + ((S.1 31) &&& 1)))) &&& 128) = 0 then gB (sp_X2_setFlag k 64 false S1) (fun (_ : Unit) S2 => gB (sp_X2_judged k (((S.1 27) + a0) + ((S.1 31) &&& 1)) S2) (fun r3 S3 => gL (sI S3 27 r3) (fun S4 => ((), S4)))) else gB (sp_X2_setFlag k 64 true S1) (fun (_ : Unit) S5 => gB (sp_X2_judged k (((S.1 27) + a0) + ((S.1 31) &&& 1)) S5) (fun r6 S6 => gL (sI S6 27 r6) (fun S7 => ((), S7)))))) else gB (sp_X2_setFlag k 1 true S) (fun (_ : Unit) S8 => (if ((((S8.1 27) ^^^ (((S.1 27) + a0) + ((S.1 31) &&& 1))) &&& (a0 ^^^ (((S.1 27) + a0) + ((S.1 31) &&& 1)))) &&& 128) = 0 then gB (sp_X2_setFlag k 64 false S8) (fun (_ : Unit) S9 => gB (sp_X2_judged k (((S.1 27) + a0) + ((S.1 31) &&& 1)) S9) (fun r10 S10 => gL (sI S10 27 r10) (fun S11 => ((), S11)))) else gB (sp_X2_setFlag k 64 true S8) (fun (_ : Unit) S12 => gB (sp_X2_judged k (((S.1 27) + a0) + ((S.1 31) &&& 1)) S12) (fun r13 S13 => gL (sI S13 27 r13) (fun S14 => ((), S14)))))))
set_option maxRecDepth 100000 in
set_option maxHeartbeats 4000000 in
theorem c_X2_add (l : Launch) (k : Bool) (η : gE) (a0 : Int32) (S : gSt) : gMet l yX2_add cX2_add 3 none rm_X2_add (oC k η) [.ref (η.1 18), .int a0] S (oV (sp_X2_add k a0 S).1) (sp_X2_add k a0 S).2 := by
  refine gMet_of (X := sp_X2_add k a0 S) (lv := [(0, .ref (η.1 18)), (1, .int a0)]) oV (zC_ok η) (by decide +kernel) (Nat.le_of_ble_eq_true rfl) rfl (fun κ hc => ?_)
  have hc : gC (oC k η) κ cX2_add 3 RX2 none rm_X2_add := hc
  unfold sp_X2_add
  refine g_aload_n (i := 0) hc 0 dX2_add_0 rfl rfl ?_
  refine gf_C_18_a hc wtC_305 dX2_add_1 ?_
  refine g_iload_n (i := 1) hc 1 dX2_add_4 rfl rfl ?_
  refine g_iadd hc dX2_add_5 ?_
  refine g_aload_n (i := 0) hc 0 dX2_add_6 rfl rfl ?_
  refine gf_C_18_p hc wtC_250 dX2_add_7 ?_
  refine g_iconst (v := 1) hc dX2_add_10 (by decide) ?_
  refine g_iand hc dX2_add_11 ?_
  refine g_iadd hc dX2_add_12 ?_
  refine g_istore_n (i := 2) (lv' := [(2, .int (((S.1 27) + a0) + ((S.1 31) &&& 1))), (0, .ref (η.1 18)), (1, .int a0)]) hc dX2_add_13 rfl (by decide) rfl ?_
  refine g_aload_n (i := 0) hc 1 dX2_add_14 rfl rfl ?_
  refine g_iconst (v := 1) hc dX2_add_15 (by decide) ?_
  refine g_iload_n (i := 2) hc 0 dX2_add_16 rfl rfl ?_
  refine g_sipush (v := 255) hc dX2_add_17 (by decide) ?_
  refine g_icmple (tgt := 27) hc dX2_add_20 rfl (fun c_20 => ?_) (fun c_20 => ?_)
  · refine g_iconst (v := 0) hc dX2_add_27 (by decide) ?_
    refine g_callVV hc 18 [.int 1, .int (bI false)] (fun l => c_X2_setFlag l k η 1 false S) wtC_255 ge_X2_setFlag rfl ⟨rfl, rfl⟩ ⟨Nat.le_of_ble_eq_true rfl, Nat.le_of_ble_eq_true rfl⟩ rfl rfl rfl (Nat.le_of_ble_eq_true rfl) dX2_add_28 (fun r1 S1 e1 f1 => ?_)
    refine g_aload_n (i := 0) hc 1 dX2_add_31 rfl rfl ?_
    refine g_bipush (v := 64) hc dX2_add_32 (by decide) ?_
    refine g_aload_n (i := 0) hc 1 dX2_add_34 rfl rfl ?_
    refine gf_C_18_a hc wtC_305 dX2_add_35 ?_
    refine g_iload_n (i := 2) hc 0 dX2_add_38 rfl rfl ?_
    refine g_ixor hc dX2_add_39 ?_
    refine g_iload_n (i := 1) hc 2 dX2_add_40 rfl rfl ?_
    refine g_iload_n (i := 2) hc 0 dX2_add_41 rfl rfl ?_
    refine g_ixor hc dX2_add_42 ?_
    refine g_iand hc dX2_add_43 ?_
    refine g_sipush (v := 128) hc dX2_add_44 (by decide) ?_
    refine g_iand hc dX2_add_47 ?_
    refine g_ifeq (tgt := 55) hc dX2_add_48 rfl (fun c_48 => ?_) (fun c_48 => ?_)
    · refine g_iconst (v := 0) hc dX2_add_55 (by decide) ?_
      refine g_callVV hc 18 [.int 64, .int (bI false)] (fun l => c_X2_setFlag l k η 64 false S1) wtC_255 ge_X2_setFlag rfl ⟨rfl, rfl⟩ ⟨Nat.le_of_ble_eq_true rfl, Nat.le_of_ble_eq_true rfl⟩ rfl rfl rfl (Nat.le_of_ble_eq_true rfl) dX2_add_56 (fun r2 S2 e2 f2 => ?_)
      refine g_aload_n (i := 0) hc 1 dX2_add_59 rfl rfl ?_
      refine g_aload_n (i := 0) hc 1 dX2_add_60 rfl rfl ?_
      refine g_iload_n (i := 2) hc 0 dX2_add_61 rfl rfl ?_
      refine g_callVI hc 18 [.int (((S.1 27) + a0) + ((S.1 31) &&& 1))] (fun l => c_X2_judged l k η (((S.1 27) + a0) + ((S.1 31) &&& 1)) S2) wtC_309 ge_X2_judged rfl ⟨rfl, rfl⟩ ⟨Nat.le_of_ble_eq_true rfl, Nat.le_of_ble_eq_true rfl⟩ rfl rfl rfl (Nat.le_of_ble_eq_true rfl) dX2_add_62 (fun r3 S3 e3 f3 => ?_)
      refine pf_C_18_a (v := r3) hc wtC_305 dX2_add_65 (fun S4 f4 => ?_)
      exact g_vret hc dX2_add_68
    · refine g_iconst (v := 1) hc dX2_add_51 (by decide) ?_
      refine g_goto (tgt := 56) hc dX2_add_52 rfl ?_
      refine g_callVV hc 18 [.int 64, .int (bI true)] (fun l => c_X2_setFlag l k η 64 true S1) wtC_255 ge_X2_setFlag rfl ⟨rfl, rfl⟩ ⟨Nat.le_of_ble_eq_true rfl, Nat.le_of_ble_eq_true rfl⟩ rfl rfl rfl (Nat.le_of_ble_eq_true rfl) dX2_add_56 (fun r5 S5 e5 f5 => ?_)
      refine g_aload_n (i := 0) hc 1 dX2_add_59 rfl rfl ?_
      refine g_aload_n (i := 0) hc 1 dX2_add_60 rfl rfl ?_
      refine g_iload_n (i := 2) hc 0 dX2_add_61 rfl rfl ?_
      refine g_callVI hc 18 [.int (((S.1 27) + a0) + ((S.1 31) &&& 1))] (fun l => c_X2_judged l k η (((S.1 27) + a0) + ((S.1 31) &&& 1)) S5) wtC_309 ge_X2_judged rfl ⟨rfl, rfl⟩ ⟨Nat.le_of_ble_eq_true rfl, Nat.le_of_ble_eq_true rfl⟩ rfl rfl rfl (Nat.le_of_ble_eq_true rfl) dX2_add_62 (fun r6 S6 e6 f6 => ?_)
      refine pf_C_18_a (v := r6) hc wtC_305 dX2_add_65 (fun S7 f7 => ?_)
      exact g_vret hc dX2_add_68
  · refine g_iconst (v := 1) hc dX2_add_23 (by decide) ?_
    refine g_goto (tgt := 28) hc dX2_add_24 rfl ?_
    refine g_callVV hc 18 [.int 1, .int (bI true)] (fun l => c_X2_setFlag l k η 1 true S) wtC_255 ge_X2_setFlag rfl ⟨rfl, rfl⟩ ⟨Nat.le_of_ble_eq_true rfl, Nat.le_of_ble_eq_true rfl⟩ rfl rfl rfl (Nat.le_of_ble_eq_true rfl) dX2_add_28 (fun r8 S8 e8 f8 => ?_)
    refine g_aload_n (i := 0) hc 1 dX2_add_31 rfl rfl ?_
    refine g_bipush (v := 64) hc dX2_add_32 (by decide) ?_
    refine g_aload_n (i := 0) hc 1 dX2_add_34 rfl rfl ?_
    refine gf_C_18_a hc wtC_305 dX2_add_35 ?_
    refine g_iload_n (i := 2) hc 0 dX2_add_38 rfl rfl ?_
    refine g_ixor hc dX2_add_39 ?_
    refine g_iload_n (i := 1) hc 2 dX2_add_40 rfl rfl ?_
    refine g_iload_n (i := 2) hc 0 dX2_add_41 rfl rfl ?_
    refine g_ixor hc dX2_add_42 ?_
    refine g_iand hc dX2_add_43 ?_
    refine g_sipush (v := 128) hc dX2_add_44 (by decide) ?_
    refine g_iand hc dX2_add_47 ?_
    refine g_ifeq (tgt := 55) hc dX2_add_48 rfl (fun c_48 => ?_) (fun c_48 => ?_)
    · refine g_iconst (v := 0) hc dX2_add_55 (by decide) ?_
      refine g_callVV hc 18 [.int 64, .int (bI false)] (fun l => c_X2_setFlag l k η 64 false S8) wtC_255 ge_X2_setFlag rfl ⟨rfl, rfl⟩ ⟨Nat.le_of_ble_eq_true rfl, Nat.le_of_ble_eq_true rfl⟩ rfl rfl rfl (Nat.le_of_ble_eq_true rfl) dX2_add_56 (fun r9 S9 e9 f9 => ?_)
      refine g_aload_n (i := 0) hc 1 dX2_add_59 rfl rfl ?_
      refine g_aload_n (i := 0) hc 1 dX2_add_60 rfl rfl ?_
      refine g_iload_n (i := 2) hc 0 dX2_add_61 rfl rfl ?_
      refine g_callVI hc 18 [.int (((S.1 27) + a0) + ((S.1 31) &&& 1))] (fun l => c_X2_judged l k η (((S.1 27) + a0) + ((S.1 31) &&& 1)) S9) wtC_309 ge_X2_judged rfl ⟨rfl, rfl⟩ ⟨Nat.le_of_ble_eq_true rfl, Nat.le_of_ble_eq_true rfl⟩ rfl rfl rfl (Nat.le_of_ble_eq_true rfl) dX2_add_62 (fun r10 S10 e10 f10 => ?_)
      refine pf_C_18_a (v := r10) hc wtC_305 dX2_add_65 (fun S11 f11 => ?_)
      exact g_vret hc dX2_add_68
    · refine g_iconst (v := 1) hc dX2_add_51 (by decide) ?_
      refine g_goto (tgt := 56) hc dX2_add_52 rfl ?_
      refine g_callVV hc 18 [.int 64, .int (bI true)] (fun l => c_X2_setFlag l k η 64 true S8) wtC_255 ge_X2_setFlag rfl ⟨rfl, rfl⟩ ⟨Nat.le_of_ble_eq_true rfl, Nat.le_of_ble_eq_true rfl⟩ rfl rfl rfl (Nat.le_of_ble_eq_true rfl) dX2_add_56 (fun r12 S12 e12 f12 => ?_)
      refine g_aload_n (i := 0) hc 1 dX2_add_59 rfl rfl ?_
      refine g_aload_n (i := 0) hc 1 dX2_add_60 rfl rfl ?_
      refine g_iload_n (i := 2) hc 0 dX2_add_61 rfl rfl ?_
      refine g_callVI hc 18 [.int (((S.1 27) + a0) + ((S.1 31) &&& 1))] (fun l => c_X2_judged l k η (((S.1 27) + a0) + ((S.1 31) &&& 1)) S12) wtC_309 ge_X2_judged rfl ⟨rfl, rfl⟩ ⟨Nat.le_of_ble_eq_true rfl, Nat.le_of_ble_eq_true rfl⟩ rfl rfl rfl (Nat.le_of_ble_eq_true rfl) dX2_add_62 (fun r13 S13 e13 f13 => ?_)
      refine pf_C_18_a (v := r13) hc wtC_305 dX2_add_65 (fun S14 f14 => ?_)
      exact g_vret hc dX2_add_68

abbrev rm_X2_compare : Room := { frames := 2, cells := 0, slots := 0, locals := 44 }
def sp_X2_compare (k : Bool) (a0 : Int32) (a1 : Int32) (S : gSt) : Unit × gSt := (if a0 < a1 then gB (sp_X2_setFlag k 1 false S) (fun (_ : Unit) S1 => gB (sp_X2_judged k (a0 - a1) S1) (fun r2 S2 => ((), S2))) else gB (sp_X2_setFlag k 1 true S) (fun (_ : Unit) S3 => gB (sp_X2_judged k (a0 - a1) S3) (fun r4 S4 => ((), S4))))
set_option maxRecDepth 100000 in
set_option maxHeartbeats 4000000 in
theorem c_X2_compare (l : Launch) (k : Bool) (η : gE) (a0 : Int32) (a1 : Int32) (S : gSt) : gMet l yX2_compare cX2_compare 3 none rm_X2_compare (oC k η) [.ref (η.1 18), .int a0, .int a1] S (oV (sp_X2_compare k a0 a1 S).1) (sp_X2_compare k a0 a1 S).2 := by
  refine gMet_of (X := sp_X2_compare k a0 a1 S) (lv := [(0, .ref (η.1 18)), (1, .int a0), (2, .int a1)]) oV (zC_ok η) (by decide +kernel) (Nat.le_of_ble_eq_true rfl) rfl (fun κ hc => ?_)
  have hc : gC (oC k η) κ cX2_compare 3 RX2 none rm_X2_compare := hc
  unfold sp_X2_compare
  refine g_aload_n (i := 0) hc 0 dX2_compare_0 rfl rfl ?_
  refine g_iconst (v := 1) hc dX2_compare_1 (by decide) ?_
  refine g_iload_n (i := 1) hc 1 dX2_compare_2 rfl rfl ?_
  refine g_iload_n (i := 2) hc 2 dX2_compare_3 rfl rfl ?_
  refine g_icmplt (tgt := 11) hc dX2_compare_4 rfl (fun c_4 => ?_) (fun c_4 => ?_)
  · refine g_iconst (v := 0) hc dX2_compare_11 (by decide) ?_
    refine g_callVV hc 18 [.int 1, .int (bI false)] (fun l => c_X2_setFlag l k η 1 false S) wtC_255 ge_X2_setFlag rfl ⟨rfl, rfl⟩ ⟨Nat.le_of_ble_eq_true rfl, Nat.le_of_ble_eq_true rfl⟩ rfl rfl rfl (Nat.le_of_ble_eq_true rfl) dX2_compare_12 (fun r1 S1 e1 f1 => ?_)
    refine g_aload_n (i := 0) hc 0 dX2_compare_15 rfl rfl ?_
    refine g_iload_n (i := 1) hc 1 dX2_compare_16 rfl rfl ?_
    refine g_iload_n (i := 2) hc 2 dX2_compare_17 rfl rfl ?_
    refine g_isub hc dX2_compare_18 ?_
    refine g_callVI hc 18 [.int (a0 - a1)] (fun l => c_X2_judged l k η (a0 - a1) S1) wtC_309 ge_X2_judged rfl ⟨rfl, rfl⟩ ⟨Nat.le_of_ble_eq_true rfl, Nat.le_of_ble_eq_true rfl⟩ rfl rfl rfl (Nat.le_of_ble_eq_true rfl) dX2_compare_19 (fun r2 S2 e2 f2 => ?_)
    refine g_pop hc dX2_compare_22 rfl ?_
    exact g_vret hc dX2_compare_23
  · refine g_iconst (v := 1) hc dX2_compare_7 (by decide) ?_
    refine g_goto (tgt := 12) hc dX2_compare_8 rfl ?_
    refine g_callVV hc 18 [.int 1, .int (bI true)] (fun l => c_X2_setFlag l k η 1 true S) wtC_255 ge_X2_setFlag rfl ⟨rfl, rfl⟩ ⟨Nat.le_of_ble_eq_true rfl, Nat.le_of_ble_eq_true rfl⟩ rfl rfl rfl (Nat.le_of_ble_eq_true rfl) dX2_compare_12 (fun r3 S3 e3 f3 => ?_)
    refine g_aload_n (i := 0) hc 0 dX2_compare_15 rfl rfl ?_
    refine g_iload_n (i := 1) hc 1 dX2_compare_16 rfl rfl ?_
    refine g_iload_n (i := 2) hc 2 dX2_compare_17 rfl rfl ?_
    refine g_isub hc dX2_compare_18 ?_
    refine g_callVI hc 18 [.int (a0 - a1)] (fun l => c_X2_judged l k η (a0 - a1) S3) wtC_309 ge_X2_judged rfl ⟨rfl, rfl⟩ ⟨Nat.le_of_ble_eq_true rfl, Nat.le_of_ble_eq_true rfl⟩ rfl rfl rfl (Nat.le_of_ble_eq_true rfl) dX2_compare_19 (fun r4 S4 e4 f4 => ?_)
    refine g_pop hc dX2_compare_22 rfl ?_
    exact g_vret hc dX2_compare_23

abbrev rm_X2_testBits : Room := { frames := 1, cells := 0, slots := 0, locals := 22 }
def sp_X2_testBits (k : Bool) (a0 : Int32) (S : gSt) : Unit × gSt := (if ((S.1 27) &&& a0) = 0 then gB (sp_X2_setFlag k 2 true S) (fun (_ : Unit) S1 => (if (a0 &&& 64) = 0 then gB (sp_X2_setFlag k 64 false S1) (fun (_ : Unit) S2 => (if (a0 &&& 128) = 0 then gB (sp_X2_setFlag k 128 false S2) (fun (_ : Unit) S3 => ((), S3)) else gB (sp_X2_setFlag k 128 true S2) (fun (_ : Unit) S4 => ((), S4)))) else gB (sp_X2_setFlag k 64 true S1) (fun (_ : Unit) S5 => (if (a0 &&& 128) = 0 then gB (sp_X2_setFlag k 128 false S5) (fun (_ : Unit) S6 => ((), S6)) else gB (sp_X2_setFlag k 128 true S5) (fun (_ : Unit) S7 => ((), S7)))))) else gB (sp_X2_setFlag k 2 false S) (fun (_ : Unit) S8 => (if (a0 &&& 64) = 0 then gB (sp_X2_setFlag k 64 false S8) (fun (_ : Unit) S9 => (if (a0 &&& 128) = 0 then gB (sp_X2_setFlag k 128 false S9) (fun (_ : Unit) S10 => ((), S10)) else gB (sp_X2_setFlag k 128 true S9) (fun (_ : Unit) S11 => ((), S11)))) else gB (sp_X2_setFlag k 64 true S8) (fun (_ : Unit) S12 => (if (a0 &&& 128) = 0 then gB (sp_X2_setFlag k 128 false S12) (fun (_ : Unit) S13 => ((), S13)) else gB (sp_X2_setFlag k 128 true S12) (fun (_ : Unit) S14 => ((), S14)))))))
set_option maxRecDepth 100000 in
set_option maxHeartbeats 4000000 in
theorem c_X2_testBits (l : Launch) (k : Bool) (η : gE) (a0 : Int32) (S : gSt) : gMet l yX2_testBits cX2_testBits 2 none rm_X2_testBits (oC k η) [.ref (η.1 18), .int a0] S (oV (sp_X2_testBits k a0 S).1) (sp_X2_testBits k a0 S).2 := by
  refine gMet_of (X := sp_X2_testBits k a0 S) (lv := [(0, .ref (η.1 18)), (1, .int a0)]) oV (zC_ok η) (by decide +kernel) (Nat.le_of_ble_eq_true rfl) rfl (fun κ hc => ?_)
  have hc : gC (oC k η) κ cX2_testBits 2 RX2 none rm_X2_testBits := hc
  unfold sp_X2_testBits
  refine g_aload_n (i := 0) hc 0 dX2_testBits_0 rfl rfl ?_
  refine g_iconst (v := 2) hc dX2_testBits_1 (by decide) ?_
  refine g_aload_n (i := 0) hc 0 dX2_testBits_2 rfl rfl ?_
  refine gf_C_18_a hc wtC_305 dX2_testBits_3 ?_
  refine g_iload_n (i := 1) hc 1 dX2_testBits_6 rfl rfl ?_
  refine g_iand hc dX2_testBits_7 ?_
  refine g_ifne (tgt := 15) hc dX2_testBits_8 rfl (fun c_8 => ?_) (fun c_8 => ?_)
  · refine g_iconst (v := 1) hc dX2_testBits_11 (by decide) ?_
    refine g_goto (tgt := 16) hc dX2_testBits_12 rfl ?_
    refine g_callVV hc 18 [.int 2, .int (bI true)] (fun l => c_X2_setFlag l k η 2 true S) wtC_255 ge_X2_setFlag rfl ⟨rfl, rfl⟩ ⟨Nat.le_of_ble_eq_true rfl, Nat.le_of_ble_eq_true rfl⟩ rfl rfl rfl (Nat.le_of_ble_eq_true rfl) dX2_testBits_16 (fun r1 S1 e1 f1 => ?_)
    refine g_aload_n (i := 0) hc 0 dX2_testBits_19 rfl rfl ?_
    refine g_bipush (v := 64) hc dX2_testBits_20 (by decide) ?_
    refine g_iload_n (i := 1) hc 1 dX2_testBits_22 rfl rfl ?_
    refine g_bipush (v := 64) hc dX2_testBits_23 (by decide) ?_
    refine g_iand hc dX2_testBits_25 ?_
    refine g_ifeq (tgt := 33) hc dX2_testBits_26 rfl (fun c_26 => ?_) (fun c_26 => ?_)
    · refine g_iconst (v := 0) hc dX2_testBits_33 (by decide) ?_
      refine g_callVV hc 18 [.int 64, .int (bI false)] (fun l => c_X2_setFlag l k η 64 false S1) wtC_255 ge_X2_setFlag rfl ⟨rfl, rfl⟩ ⟨Nat.le_of_ble_eq_true rfl, Nat.le_of_ble_eq_true rfl⟩ rfl rfl rfl (Nat.le_of_ble_eq_true rfl) dX2_testBits_34 (fun r2 S2 e2 f2 => ?_)
      refine g_aload_n (i := 0) hc 0 dX2_testBits_37 rfl rfl ?_
      refine g_sipush (v := 128) hc dX2_testBits_38 (by decide) ?_
      refine g_iload_n (i := 1) hc 1 dX2_testBits_41 rfl rfl ?_
      refine g_sipush (v := 128) hc dX2_testBits_42 (by decide) ?_
      refine g_iand hc dX2_testBits_45 ?_
      refine g_ifeq (tgt := 53) hc dX2_testBits_46 rfl (fun c_46 => ?_) (fun c_46 => ?_)
      · refine g_iconst (v := 0) hc dX2_testBits_53 (by decide) ?_
        refine g_callVV hc 18 [.int 128, .int (bI false)] (fun l => c_X2_setFlag l k η 128 false S2) wtC_255 ge_X2_setFlag rfl ⟨rfl, rfl⟩ ⟨Nat.le_of_ble_eq_true rfl, Nat.le_of_ble_eq_true rfl⟩ rfl rfl rfl (Nat.le_of_ble_eq_true rfl) dX2_testBits_54 (fun r3 S3 e3 f3 => ?_)
        exact g_vret hc dX2_testBits_57
      · refine g_iconst (v := 1) hc dX2_testBits_49 (by decide) ?_
        refine g_goto (tgt := 54) hc dX2_testBits_50 rfl ?_
        refine g_callVV hc 18 [.int 128, .int (bI true)] (fun l => c_X2_setFlag l k η 128 true S2) wtC_255 ge_X2_setFlag rfl ⟨rfl, rfl⟩ ⟨Nat.le_of_ble_eq_true rfl, Nat.le_of_ble_eq_true rfl⟩ rfl rfl rfl (Nat.le_of_ble_eq_true rfl) dX2_testBits_54 (fun r4 S4 e4 f4 => ?_)
        exact g_vret hc dX2_testBits_57
    · refine g_iconst (v := 1) hc dX2_testBits_29 (by decide) ?_
      refine g_goto (tgt := 34) hc dX2_testBits_30 rfl ?_
      refine g_callVV hc 18 [.int 64, .int (bI true)] (fun l => c_X2_setFlag l k η 64 true S1) wtC_255 ge_X2_setFlag rfl ⟨rfl, rfl⟩ ⟨Nat.le_of_ble_eq_true rfl, Nat.le_of_ble_eq_true rfl⟩ rfl rfl rfl (Nat.le_of_ble_eq_true rfl) dX2_testBits_34 (fun r5 S5 e5 f5 => ?_)
      refine g_aload_n (i := 0) hc 0 dX2_testBits_37 rfl rfl ?_
      refine g_sipush (v := 128) hc dX2_testBits_38 (by decide) ?_
      refine g_iload_n (i := 1) hc 1 dX2_testBits_41 rfl rfl ?_
      refine g_sipush (v := 128) hc dX2_testBits_42 (by decide) ?_
      refine g_iand hc dX2_testBits_45 ?_
      refine g_ifeq (tgt := 53) hc dX2_testBits_46 rfl (fun c_46 => ?_) (fun c_46 => ?_)
      · refine g_iconst (v := 0) hc dX2_testBits_53 (by decide) ?_
        refine g_callVV hc 18 [.int 128, .int (bI false)] (fun l => c_X2_setFlag l k η 128 false S5) wtC_255 ge_X2_setFlag rfl ⟨rfl, rfl⟩ ⟨Nat.le_of_ble_eq_true rfl, Nat.le_of_ble_eq_true rfl⟩ rfl rfl rfl (Nat.le_of_ble_eq_true rfl) dX2_testBits_54 (fun r6 S6 e6 f6 => ?_)
        exact g_vret hc dX2_testBits_57
      · refine g_iconst (v := 1) hc dX2_testBits_49 (by decide) ?_
        refine g_goto (tgt := 54) hc dX2_testBits_50 rfl ?_
        refine g_callVV hc 18 [.int 128, .int (bI true)] (fun l => c_X2_setFlag l k η 128 true S5) wtC_255 ge_X2_setFlag rfl ⟨rfl, rfl⟩ ⟨Nat.le_of_ble_eq_true rfl, Nat.le_of_ble_eq_true rfl⟩ rfl rfl rfl (Nat.le_of_ble_eq_true rfl) dX2_testBits_54 (fun r7 S7 e7 f7 => ?_)
        exact g_vret hc dX2_testBits_57
  · refine g_iconst (v := 0) hc dX2_testBits_15 (by decide) ?_
    refine g_callVV hc 18 [.int 2, .int (bI false)] (fun l => c_X2_setFlag l k η 2 false S) wtC_255 ge_X2_setFlag rfl ⟨rfl, rfl⟩ ⟨Nat.le_of_ble_eq_true rfl, Nat.le_of_ble_eq_true rfl⟩ rfl rfl rfl (Nat.le_of_ble_eq_true rfl) dX2_testBits_16 (fun r8 S8 e8 f8 => ?_)
    refine g_aload_n (i := 0) hc 0 dX2_testBits_19 rfl rfl ?_
    refine g_bipush (v := 64) hc dX2_testBits_20 (by decide) ?_
    refine g_iload_n (i := 1) hc 1 dX2_testBits_22 rfl rfl ?_
    refine g_bipush (v := 64) hc dX2_testBits_23 (by decide) ?_
    refine g_iand hc dX2_testBits_25 ?_
    refine g_ifeq (tgt := 33) hc dX2_testBits_26 rfl (fun c_26 => ?_) (fun c_26 => ?_)
    · refine g_iconst (v := 0) hc dX2_testBits_33 (by decide) ?_
      refine g_callVV hc 18 [.int 64, .int (bI false)] (fun l => c_X2_setFlag l k η 64 false S8) wtC_255 ge_X2_setFlag rfl ⟨rfl, rfl⟩ ⟨Nat.le_of_ble_eq_true rfl, Nat.le_of_ble_eq_true rfl⟩ rfl rfl rfl (Nat.le_of_ble_eq_true rfl) dX2_testBits_34 (fun r9 S9 e9 f9 => ?_)
      refine g_aload_n (i := 0) hc 0 dX2_testBits_37 rfl rfl ?_
      refine g_sipush (v := 128) hc dX2_testBits_38 (by decide) ?_
      refine g_iload_n (i := 1) hc 1 dX2_testBits_41 rfl rfl ?_
      refine g_sipush (v := 128) hc dX2_testBits_42 (by decide) ?_
      refine g_iand hc dX2_testBits_45 ?_
      refine g_ifeq (tgt := 53) hc dX2_testBits_46 rfl (fun c_46 => ?_) (fun c_46 => ?_)
      · refine g_iconst (v := 0) hc dX2_testBits_53 (by decide) ?_
        refine g_callVV hc 18 [.int 128, .int (bI false)] (fun l => c_X2_setFlag l k η 128 false S9) wtC_255 ge_X2_setFlag rfl ⟨rfl, rfl⟩ ⟨Nat.le_of_ble_eq_true rfl, Nat.le_of_ble_eq_true rfl⟩ rfl rfl rfl (Nat.le_of_ble_eq_true rfl) dX2_testBits_54 (fun r10 S10 e10 f10 => ?_)
        exact g_vret hc dX2_testBits_57
      · refine g_iconst (v := 1) hc dX2_testBits_49 (by decide) ?_
        refine g_goto (tgt := 54) hc dX2_testBits_50 rfl ?_
        refine g_callVV hc 18 [.int 128, .int (bI true)] (fun l => c_X2_setFlag l k η 128 true S9) wtC_255 ge_X2_setFlag rfl ⟨rfl, rfl⟩ ⟨Nat.le_of_ble_eq_true rfl, Nat.le_of_ble_eq_true rfl⟩ rfl rfl rfl (Nat.le_of_ble_eq_true rfl) dX2_testBits_54 (fun r11 S11 e11 f11 => ?_)
        exact g_vret hc dX2_testBits_57
    · refine g_iconst (v := 1) hc dX2_testBits_29 (by decide) ?_
      refine g_goto (tgt := 34) hc dX2_testBits_30 rfl ?_
      refine g_callVV hc 18 [.int 64, .int (bI true)] (fun l => c_X2_setFlag l k η 64 true S8) wtC_255 ge_X2_setFlag rfl ⟨rfl, rfl⟩ ⟨Nat.le_of_ble_eq_true rfl, Nat.le_of_ble_eq_true rfl⟩ rfl rfl rfl (Nat.le_of_ble_eq_true rfl) dX2_testBits_34 (fun r12 S12 e12 f12 => ?_)
      refine g_aload_n (i := 0) hc 0 dX2_testBits_37 rfl rfl ?_
      refine g_sipush (v := 128) hc dX2_testBits_38 (by decide) ?_
      refine g_iload_n (i := 1) hc 1 dX2_testBits_41 rfl rfl ?_
      refine g_sipush (v := 128) hc dX2_testBits_42 (by decide) ?_
      refine g_iand hc dX2_testBits_45 ?_
      refine g_ifeq (tgt := 53) hc dX2_testBits_46 rfl (fun c_46 => ?_) (fun c_46 => ?_)
      · refine g_iconst (v := 0) hc dX2_testBits_53 (by decide) ?_
        refine g_callVV hc 18 [.int 128, .int (bI false)] (fun l => c_X2_setFlag l k η 128 false S12) wtC_255 ge_X2_setFlag rfl ⟨rfl, rfl⟩ ⟨Nat.le_of_ble_eq_true rfl, Nat.le_of_ble_eq_true rfl⟩ rfl rfl rfl (Nat.le_of_ble_eq_true rfl) dX2_testBits_54 (fun r13 S13 e13 f13 => ?_)
        exact g_vret hc dX2_testBits_57
      · refine g_iconst (v := 1) hc dX2_testBits_49 (by decide) ?_
        refine g_goto (tgt := 54) hc dX2_testBits_50 rfl ?_
        refine g_callVV hc 18 [.int 128, .int (bI true)] (fun l => c_X2_setFlag l k η 128 true S12) wtC_255 ge_X2_setFlag rfl ⟨rfl, rfl⟩ ⟨Nat.le_of_ble_eq_true rfl, Nat.le_of_ble_eq_true rfl⟩ rfl rfl rfl (Nat.le_of_ble_eq_true rfl) dX2_testBits_54 (fun r14 S14 e14 f14 => ?_)
        exact g_vret hc dX2_testBits_57

abbrev rm_X2_combine : Room := { frames := 3, cells := 0, slots := 0, locals := 66 }
def sp_X2_combine (k : Bool) (a0 : Int32) (a1 : Int32) (S : gSt) : Unit × gSt := (if a0 = 1 then gB (sp_X2_judged k a1 S) (fun r1 S1 => gL (sI S1 27 r1) (fun S2 => ((), S2))) else (if a0 = 2 then gB (sp_X2_judged k a1 S) (fun r3 S3 => gL (sI S3 28 r3) (fun S4 => ((), S4))) else (if a0 = 3 then gB (sp_X2_judged k a1 S) (fun r5 S5 => gL (sI S5 29 r5) (fun S6 => ((), S6))) else (if a0 = 4 then gB (sp_X2_add k a1 S) (fun (_ : Unit) S7 => ((), S7)) else (if a0 = 5 then gB (sp_X2_add k (a1 ^^^ 255) S) (fun (_ : Unit) S8 => ((), S8)) else (if a0 = 6 then gB (sp_X2_judged k ((S.1 27) &&& a1) S) (fun r9 S9 => gL (sI S9 27 r9) (fun S10 => ((), S10))) else (if a0 = 7 then gB (sp_X2_judged k ((S.1 27) ||| a1) S) (fun r11 S11 => gL (sI S11 27 r11) (fun S12 => ((), S12))) else (if a0 = 8 then gB (sp_X2_judged k ((S.1 27) ^^^ a1) S) (fun r13 S13 => gL (sI S13 27 r13) (fun S14 => ((), S14))) else (if a0 = 9 then gB (sp_X2_compare k (S.1 27) a1 S) (fun (_ : Unit) S15 => ((), S15)) else (if a0 = 10 then gB (sp_X2_compare k (S.1 28) a1 S) (fun (_ : Unit) S16 => ((), S16)) else (if a0 = 11 then gB (sp_X2_compare k (S.1 29) a1 S) (fun (_ : Unit) S17 => ((), S17)) else gB (sp_X2_testBits k a1 S) (fun (_ : Unit) S18 => ((), S18)))))))))))))
set_option maxRecDepth 100000 in
set_option maxHeartbeats 4000000 in
theorem c_X2_combine (l : Launch) (k : Bool) (η : gE) (a0 : Int32) (a1 : Int32) (S : gSt) : gMet l yX2_combine cX2_combine 3 none rm_X2_combine (oC k η) [.ref (η.1 18), .int a0, .int a1] S (oV (sp_X2_combine k a0 a1 S).1) (sp_X2_combine k a0 a1 S).2 := by
  refine gMet_of (X := sp_X2_combine k a0 a1 S) (lv := [(0, .ref (η.1 18)), (1, .int a0), (2, .int a1)]) oV (zC_ok η) (by decide +kernel) (Nat.le_of_ble_eq_true rfl) rfl (fun κ hc => ?_)
  have hc : gC (oC k η) κ cX2_combine 3 RX2 none rm_X2_combine := hc
  unfold sp_X2_combine
  refine g_iload_n (i := 1) hc 1 dX2_combine_0 rfl rfl ?_
  refine g_tsw (tgt := 60) hc 1 dX2_combine_1 ⟨by decide, by decide, rfl⟩ rfl (fun c_1_1 => ?_) (fun c_1_1 => ?_)
  · refine g_aload_n (i := 0) hc 0 dX2_combine_60 rfl rfl ?_
    refine g_aload_n (i := 0) hc 0 dX2_combine_61 rfl rfl ?_
    refine g_iload_n (i := 2) hc 2 dX2_combine_62 rfl rfl ?_
    refine g_callVI hc 18 [.int a1] (fun l => c_X2_judged l k η a1 S) wtC_309 ge_X2_judged rfl ⟨rfl, rfl⟩ ⟨Nat.le_of_ble_eq_true rfl, Nat.le_of_ble_eq_true rfl⟩ rfl rfl rfl (Nat.le_of_ble_eq_true rfl) dX2_combine_63 (fun r1 S1 e1 f1 => ?_)
    refine pf_C_18_a (v := r1) hc wtC_305 dX2_combine_66 (fun S2 f2 => ?_)
    refine g_goto (tgt := 208) hc dX2_combine_69 rfl ?_
    exact g_vret hc dX2_combine_208
  refine g_tsw (tgt := 72) hc 2 dX2_combine_1 ⟨by decide, by decide, rfl⟩ rfl (fun c_1_2 => ?_) (fun c_1_2 => ?_)
  · refine g_aload_n (i := 0) hc 0 dX2_combine_72 rfl rfl ?_
    refine g_aload_n (i := 0) hc 0 dX2_combine_73 rfl rfl ?_
    refine g_iload_n (i := 2) hc 2 dX2_combine_74 rfl rfl ?_
    refine g_callVI hc 18 [.int a1] (fun l => c_X2_judged l k η a1 S) wtC_309 ge_X2_judged rfl ⟨rfl, rfl⟩ ⟨Nat.le_of_ble_eq_true rfl, Nat.le_of_ble_eq_true rfl⟩ rfl rfl rfl (Nat.le_of_ble_eq_true rfl) dX2_combine_75 (fun r3 S3 e3 f3 => ?_)
    refine pf_C_18_x (v := r3) hc wtC_295 dX2_combine_78 (fun S4 f4 => ?_)
    refine g_goto (tgt := 208) hc dX2_combine_81 rfl ?_
    exact g_vret hc dX2_combine_208
  refine g_tsw (tgt := 84) hc 3 dX2_combine_1 ⟨by decide, by decide, rfl⟩ rfl (fun c_1_3 => ?_) (fun c_1_3 => ?_)
  · refine g_aload_n (i := 0) hc 0 dX2_combine_84 rfl rfl ?_
    refine g_aload_n (i := 0) hc 0 dX2_combine_85 rfl rfl ?_
    refine g_iload_n (i := 2) hc 2 dX2_combine_86 rfl rfl ?_
    refine g_callVI hc 18 [.int a1] (fun l => c_X2_judged l k η a1 S) wtC_309 ge_X2_judged rfl ⟨rfl, rfl⟩ ⟨Nat.le_of_ble_eq_true rfl, Nat.le_of_ble_eq_true rfl⟩ rfl rfl rfl (Nat.le_of_ble_eq_true rfl) dX2_combine_87 (fun r5 S5 e5 f5 => ?_)
    refine pf_C_18_y (v := r5) hc wtC_296 dX2_combine_90 (fun S6 f6 => ?_)
    refine g_goto (tgt := 208) hc dX2_combine_93 rfl ?_
    exact g_vret hc dX2_combine_208
  refine g_tsw (tgt := 96) hc 4 dX2_combine_1 ⟨by decide, by decide, rfl⟩ rfl (fun c_1_4 => ?_) (fun c_1_4 => ?_)
  · refine g_aload_n (i := 0) hc 0 dX2_combine_96 rfl rfl ?_
    refine g_iload_n (i := 2) hc 2 dX2_combine_97 rfl rfl ?_
    refine g_callVV hc 18 [.int a1] (fun l => c_X2_add l k η a1 S) wtC_313 ge_X2_add rfl ⟨rfl, rfl⟩ ⟨Nat.le_of_ble_eq_true rfl, Nat.le_of_ble_eq_true rfl⟩ rfl rfl rfl (Nat.le_of_ble_eq_true rfl) dX2_combine_98 (fun r7 S7 e7 f7 => ?_)
    refine g_goto (tgt := 208) hc dX2_combine_101 rfl ?_
    exact g_vret hc dX2_combine_208
  refine g_tsw (tgt := 104) hc 5 dX2_combine_1 ⟨by decide, by decide, rfl⟩ rfl (fun c_1_5 => ?_) (fun c_1_5 => ?_)
  · refine g_aload_n (i := 0) hc 0 dX2_combine_104 rfl rfl ?_
    refine g_iload_n (i := 2) hc 2 dX2_combine_105 rfl rfl ?_
    refine g_sipush (v := 255) hc dX2_combine_106 (by decide) ?_
    refine g_ixor hc dX2_combine_109 ?_
    refine g_callVV hc 18 [.int (a1 ^^^ 255)] (fun l => c_X2_add l k η (a1 ^^^ 255) S) wtC_313 ge_X2_add rfl ⟨rfl, rfl⟩ ⟨Nat.le_of_ble_eq_true rfl, Nat.le_of_ble_eq_true rfl⟩ rfl rfl rfl (Nat.le_of_ble_eq_true rfl) dX2_combine_110 (fun r8 S8 e8 f8 => ?_)
    refine g_goto (tgt := 208) hc dX2_combine_113 rfl ?_
    exact g_vret hc dX2_combine_208
  refine g_tsw (tgt := 116) hc 6 dX2_combine_1 ⟨by decide, by decide, rfl⟩ rfl (fun c_1_6 => ?_) (fun c_1_6 => ?_)
  · refine g_aload_n (i := 0) hc 0 dX2_combine_116 rfl rfl ?_
    refine g_aload_n (i := 0) hc 0 dX2_combine_117 rfl rfl ?_
    refine g_aload_n (i := 0) hc 0 dX2_combine_118 rfl rfl ?_
    refine gf_C_18_a hc wtC_305 dX2_combine_119 ?_
    refine g_iload_n (i := 2) hc 2 dX2_combine_122 rfl rfl ?_
    refine g_iand hc dX2_combine_123 ?_
    refine g_callVI hc 18 [.int ((S.1 27) &&& a1)] (fun l => c_X2_judged l k η ((S.1 27) &&& a1) S) wtC_309 ge_X2_judged rfl ⟨rfl, rfl⟩ ⟨Nat.le_of_ble_eq_true rfl, Nat.le_of_ble_eq_true rfl⟩ rfl rfl rfl (Nat.le_of_ble_eq_true rfl) dX2_combine_124 (fun r9 S9 e9 f9 => ?_)
    refine pf_C_18_a (v := r9) hc wtC_305 dX2_combine_127 (fun S10 f10 => ?_)
    refine g_goto (tgt := 208) hc dX2_combine_130 rfl ?_
    exact g_vret hc dX2_combine_208
  refine g_tsw (tgt := 133) hc 7 dX2_combine_1 ⟨by decide, by decide, rfl⟩ rfl (fun c_1_7 => ?_) (fun c_1_7 => ?_)
  · refine g_aload_n (i := 0) hc 0 dX2_combine_133 rfl rfl ?_
    refine g_aload_n (i := 0) hc 0 dX2_combine_134 rfl rfl ?_
    refine g_aload_n (i := 0) hc 0 dX2_combine_135 rfl rfl ?_
    refine gf_C_18_a hc wtC_305 dX2_combine_136 ?_
    refine g_iload_n (i := 2) hc 2 dX2_combine_139 rfl rfl ?_
    refine g_ior hc dX2_combine_140 ?_
    refine g_callVI hc 18 [.int ((S.1 27) ||| a1)] (fun l => c_X2_judged l k η ((S.1 27) ||| a1) S) wtC_309 ge_X2_judged rfl ⟨rfl, rfl⟩ ⟨Nat.le_of_ble_eq_true rfl, Nat.le_of_ble_eq_true rfl⟩ rfl rfl rfl (Nat.le_of_ble_eq_true rfl) dX2_combine_141 (fun r11 S11 e11 f11 => ?_)
    refine pf_C_18_a (v := r11) hc wtC_305 dX2_combine_144 (fun S12 f12 => ?_)
    refine g_goto (tgt := 208) hc dX2_combine_147 rfl ?_
    exact g_vret hc dX2_combine_208
  refine g_tsw (tgt := 150) hc 8 dX2_combine_1 ⟨by decide, by decide, rfl⟩ rfl (fun c_1_8 => ?_) (fun c_1_8 => ?_)
  · refine g_aload_n (i := 0) hc 0 dX2_combine_150 rfl rfl ?_
    refine g_aload_n (i := 0) hc 0 dX2_combine_151 rfl rfl ?_
    refine g_aload_n (i := 0) hc 0 dX2_combine_152 rfl rfl ?_
    refine gf_C_18_a hc wtC_305 dX2_combine_153 ?_
    refine g_iload_n (i := 2) hc 2 dX2_combine_156 rfl rfl ?_
    refine g_ixor hc dX2_combine_157 ?_
    refine g_callVI hc 18 [.int ((S.1 27) ^^^ a1)] (fun l => c_X2_judged l k η ((S.1 27) ^^^ a1) S) wtC_309 ge_X2_judged rfl ⟨rfl, rfl⟩ ⟨Nat.le_of_ble_eq_true rfl, Nat.le_of_ble_eq_true rfl⟩ rfl rfl rfl (Nat.le_of_ble_eq_true rfl) dX2_combine_158 (fun r13 S13 e13 f13 => ?_)
    refine pf_C_18_a (v := r13) hc wtC_305 dX2_combine_161 (fun S14 f14 => ?_)
    refine g_goto (tgt := 208) hc dX2_combine_164 rfl ?_
    exact g_vret hc dX2_combine_208
  refine g_tsw (tgt := 167) hc 9 dX2_combine_1 ⟨by decide, by decide, rfl⟩ rfl (fun c_1_9 => ?_) (fun c_1_9 => ?_)
  · refine g_aload_n (i := 0) hc 0 dX2_combine_167 rfl rfl ?_
    refine g_aload_n (i := 0) hc 0 dX2_combine_168 rfl rfl ?_
    refine gf_C_18_a hc wtC_305 dX2_combine_169 ?_
    refine g_iload_n (i := 2) hc 2 dX2_combine_172 rfl rfl ?_
    refine g_callVV hc 18 [.int (S.1 27), .int a1] (fun l => c_X2_compare l k η (S.1 27) a1 S) wtC_317 ge_X2_compare rfl ⟨rfl, rfl⟩ ⟨Nat.le_of_ble_eq_true rfl, Nat.le_of_ble_eq_true rfl⟩ rfl rfl rfl (Nat.le_of_ble_eq_true rfl) dX2_combine_173 (fun r15 S15 e15 f15 => ?_)
    refine g_goto (tgt := 208) hc dX2_combine_176 rfl ?_
    exact g_vret hc dX2_combine_208
  refine g_tsw (tgt := 179) hc 10 dX2_combine_1 ⟨by decide, by decide, rfl⟩ rfl (fun c_1_10 => ?_) (fun c_1_10 => ?_)
  · refine g_aload_n (i := 0) hc 0 dX2_combine_179 rfl rfl ?_
    refine g_aload_n (i := 0) hc 0 dX2_combine_180 rfl rfl ?_
    refine gf_C_18_x hc wtC_295 dX2_combine_181 ?_
    refine g_iload_n (i := 2) hc 2 dX2_combine_184 rfl rfl ?_
    refine g_callVV hc 18 [.int (S.1 28), .int a1] (fun l => c_X2_compare l k η (S.1 28) a1 S) wtC_317 ge_X2_compare rfl ⟨rfl, rfl⟩ ⟨Nat.le_of_ble_eq_true rfl, Nat.le_of_ble_eq_true rfl⟩ rfl rfl rfl (Nat.le_of_ble_eq_true rfl) dX2_combine_185 (fun r16 S16 e16 f16 => ?_)
    refine g_goto (tgt := 208) hc dX2_combine_188 rfl ?_
    exact g_vret hc dX2_combine_208
  refine g_tsw (tgt := 191) hc 11 dX2_combine_1 ⟨by decide, by decide, rfl⟩ rfl (fun c_1_11 => ?_) (fun c_1_11 => ?_)
  · refine g_aload_n (i := 0) hc 0 dX2_combine_191 rfl rfl ?_
    refine g_aload_n (i := 0) hc 0 dX2_combine_192 rfl rfl ?_
    refine gf_C_18_y hc wtC_296 dX2_combine_193 ?_
    refine g_iload_n (i := 2) hc 2 dX2_combine_196 rfl rfl ?_
    refine g_callVV hc 18 [.int (S.1 29), .int a1] (fun l => c_X2_compare l k η (S.1 29) a1 S) wtC_317 ge_X2_compare rfl ⟨rfl, rfl⟩ ⟨Nat.le_of_ble_eq_true rfl, Nat.le_of_ble_eq_true rfl⟩ rfl rfl rfl (Nat.le_of_ble_eq_true rfl) dX2_combine_197 (fun r17 S17 e17 f17 => ?_)
    refine g_goto (tgt := 208) hc dX2_combine_200 rfl ?_
    exact g_vret hc dX2_combine_208
  refine g_tswd (tgt := 203) hc dX2_combine_1 (by have := lv_neT c_1_1 (a := 1) (by decide); have := lv_neT c_1_2 (a := 2) (by decide); have := lv_neT c_1_3 (a := 3) (by decide); have := lv_neT c_1_4 (a := 4) (by decide); have := lv_neT c_1_5 (a := 5) (by decide); have := lv_neT c_1_6 (a := 6) (by decide); have := lv_neT c_1_7 (a := 7) (by decide); have := lv_neT c_1_8 (a := 8) (by decide); have := lv_neT c_1_9 (a := 9) (by decide); have := lv_neT c_1_10 (a := 10) (by decide); have := lv_neT c_1_11 (a := 11) (by decide); omega) rfl ?_
  refine g_aload_n (i := 0) hc 0 dX2_combine_203 rfl rfl ?_
  refine g_iload_n (i := 2) hc 2 dX2_combine_204 rfl rfl ?_
  refine g_callVV hc 18 [.int a1] (fun l => c_X2_testBits l k η a1 S) wtC_321 ge_X2_testBits rfl ⟨rfl, rfl⟩ ⟨Nat.le_of_ble_eq_true rfl, Nat.le_of_ble_eq_true rfl⟩ rfl rfl rfl (Nat.le_of_ble_eq_true rfl) dX2_combine_205 (fun r18 S18 e18 f18 => ?_)
  exact g_vret hc dX2_combine_208

abbrev rm_X2_stored : Room := { frames := 0, cells := 0, slots := 0, locals := 0 }
def sp_X2_stored (k : Bool) (a0 : Int32) (S : gSt) : Int32 × gSt := (if a0 = 13 then ((S.1 27), S) else (if a0 = 14 then ((S.1 28), S) else ((S.1 29), S)))
set_option maxRecDepth 100000 in
set_option maxHeartbeats 4000000 in
theorem c_X2_stored (l : Launch) (k : Bool) (η : gE) (a0 : Int32) (S : gSt) : gMet l yX2_stored cX2_stored 2 (some .int) rm_X2_stored (oC k η) [.ref (η.1 18), .int a0] S (oI (sp_X2_stored k a0 S).1) (sp_X2_stored k a0 S).2 := by
  refine gMet_of (X := sp_X2_stored k a0 S) (lv := [(0, .ref (η.1 18)), (1, .int a0)]) oI (zC_ok η) (by decide +kernel) (Nat.le_of_ble_eq_true rfl) rfl (fun κ hc => ?_)
  have hc : gC (oC k η) κ cX2_stored 2 RX2 (some .int) rm_X2_stored := hc
  unfold sp_X2_stored
  refine g_iload_n (i := 1) hc 1 dX2_stored_0 rfl rfl ?_
  refine g_lsw (tgt := 28) hc 13 dX2_stored_1 (by decide) rfl rfl (fun c_1_13 => ?_) (fun c_1_13 => ?_)
  · refine g_aload_n (i := 0) hc 0 dX2_stored_28 rfl rfl ?_
    refine gf_C_18_a hc wtC_305 dX2_stored_29 ?_
    exact g_iret hc dX2_stored_32
  refine g_lsw (tgt := 33) hc 14 dX2_stored_1 (by decide) rfl rfl (fun c_1_14 => ?_) (fun c_1_14 => ?_)
  · refine g_aload_n (i := 0) hc 0 dX2_stored_33 rfl rfl ?_
    refine gf_C_18_x hc wtC_295 dX2_stored_34 ?_
    exact g_iret hc dX2_stored_37
  refine g_lswd (tgt := 38) hc dX2_stored_1 (by decide) ((lv_osw c_1_13 (by decide)).trans ((lv_osw c_1_14 (by decide)).trans rfl)) rfl ?_
  refine g_aload_n (i := 0) hc 0 dX2_stored_38 rfl rfl ?_
  refine gf_C_18_y hc wtC_296 dX2_stored_39 ?_
  exact g_iret hc dX2_stored_42

abbrev rm_X2_shiftedUp : Room := { frames := 2, cells := 0, slots := 0, locals := 44 }
def sp_X2_shiftedUp (k : Bool) (a0 : Int32) (a1 : Int32) (S : gSt) : Int32 × gSt := (if (a0 &&& 128) = 0 then gB (sp_X2_setFlag k 1 false S) (fun (_ : Unit) S1 => gB (sp_X2_judged k ((a0 <<< ((1 : Int32) &&& (31 : Int32))) ||| a1) S1) (fun r2 S2 => (r2, S2))) else gB (sp_X2_setFlag k 1 true S) (fun (_ : Unit) S3 => gB (sp_X2_judged k ((a0 <<< ((1 : Int32) &&& (31 : Int32))) ||| a1) S3) (fun r4 S4 => (r4, S4))))
set_option maxRecDepth 100000 in
set_option maxHeartbeats 4000000 in
theorem c_X2_shiftedUp (l : Launch) (k : Bool) (η : gE) (a0 : Int32) (a1 : Int32) (S : gSt) : gMet l yX2_shiftedUp cX2_shiftedUp 3 (some .int) rm_X2_shiftedUp (oC k η) [.ref (η.1 18), .int a0, .int a1] S (oI (sp_X2_shiftedUp k a0 a1 S).1) (sp_X2_shiftedUp k a0 a1 S).2 := by
  refine gMet_of (X := sp_X2_shiftedUp k a0 a1 S) (lv := [(0, .ref (η.1 18)), (1, .int a0), (2, .int a1)]) oI (zC_ok η) (by decide +kernel) (Nat.le_of_ble_eq_true rfl) rfl (fun κ hc => ?_)
  have hc : gC (oC k η) κ cX2_shiftedUp 3 RX2 (some .int) rm_X2_shiftedUp := hc
  unfold sp_X2_shiftedUp
  refine g_aload_n (i := 0) hc 0 dX2_shiftedUp_0 rfl rfl ?_
  refine g_iconst (v := 1) hc dX2_shiftedUp_1 (by decide) ?_
  refine g_iload_n (i := 1) hc 1 dX2_shiftedUp_2 rfl rfl ?_
  refine g_sipush (v := 128) hc dX2_shiftedUp_3 (by decide) ?_
  refine g_iand hc dX2_shiftedUp_6 ?_
  refine g_ifeq (tgt := 14) hc dX2_shiftedUp_7 rfl (fun c_7 => ?_) (fun c_7 => ?_)
  · refine g_iconst (v := 0) hc dX2_shiftedUp_14 (by decide) ?_
    refine g_callVV hc 18 [.int 1, .int (bI false)] (fun l => c_X2_setFlag l k η 1 false S) wtC_255 ge_X2_setFlag rfl ⟨rfl, rfl⟩ ⟨Nat.le_of_ble_eq_true rfl, Nat.le_of_ble_eq_true rfl⟩ rfl rfl rfl (Nat.le_of_ble_eq_true rfl) dX2_shiftedUp_15 (fun r1 S1 e1 f1 => ?_)
    refine g_aload_n (i := 0) hc 0 dX2_shiftedUp_18 rfl rfl ?_
    refine g_iload_n (i := 1) hc 1 dX2_shiftedUp_19 rfl rfl ?_
    refine g_iconst (v := 1) hc dX2_shiftedUp_20 (by decide) ?_
    refine g_ishl hc dX2_shiftedUp_21 ?_
    refine g_iload_n (i := 2) hc 2 dX2_shiftedUp_22 rfl rfl ?_
    refine g_ior hc dX2_shiftedUp_23 ?_
    refine g_callVI hc 18 [.int ((a0 <<< ((1 : Int32) &&& (31 : Int32))) ||| a1)] (fun l => c_X2_judged l k η ((a0 <<< ((1 : Int32) &&& (31 : Int32))) ||| a1) S1) wtC_309 ge_X2_judged rfl ⟨rfl, rfl⟩ ⟨Nat.le_of_ble_eq_true rfl, Nat.le_of_ble_eq_true rfl⟩ rfl rfl rfl (Nat.le_of_ble_eq_true rfl) dX2_shiftedUp_24 (fun r2 S2 e2 f2 => ?_)
    exact g_iret hc dX2_shiftedUp_27
  · refine g_iconst (v := 1) hc dX2_shiftedUp_10 (by decide) ?_
    refine g_goto (tgt := 15) hc dX2_shiftedUp_11 rfl ?_
    refine g_callVV hc 18 [.int 1, .int (bI true)] (fun l => c_X2_setFlag l k η 1 true S) wtC_255 ge_X2_setFlag rfl ⟨rfl, rfl⟩ ⟨Nat.le_of_ble_eq_true rfl, Nat.le_of_ble_eq_true rfl⟩ rfl rfl rfl (Nat.le_of_ble_eq_true rfl) dX2_shiftedUp_15 (fun r3 S3 e3 f3 => ?_)
    refine g_aload_n (i := 0) hc 0 dX2_shiftedUp_18 rfl rfl ?_
    refine g_iload_n (i := 1) hc 1 dX2_shiftedUp_19 rfl rfl ?_
    refine g_iconst (v := 1) hc dX2_shiftedUp_20 (by decide) ?_
    refine g_ishl hc dX2_shiftedUp_21 ?_
    refine g_iload_n (i := 2) hc 2 dX2_shiftedUp_22 rfl rfl ?_
    refine g_ior hc dX2_shiftedUp_23 ?_
    refine g_callVI hc 18 [.int ((a0 <<< ((1 : Int32) &&& (31 : Int32))) ||| a1)] (fun l => c_X2_judged l k η ((a0 <<< ((1 : Int32) &&& (31 : Int32))) ||| a1) S3) wtC_309 ge_X2_judged rfl ⟨rfl, rfl⟩ ⟨Nat.le_of_ble_eq_true rfl, Nat.le_of_ble_eq_true rfl⟩ rfl rfl rfl (Nat.le_of_ble_eq_true rfl) dX2_shiftedUp_24 (fun r4 S4 e4 f4 => ?_)
    exact g_iret hc dX2_shiftedUp_27

abbrev rm_X2_shiftedDown : Room := { frames := 2, cells := 0, slots := 0, locals := 44 }
def sp_X2_shiftedDown (k : Bool) (a0 : Int32) (a1 : Int32) (S : gSt) : Int32 × gSt := (if (a0 &&& 1) = 0 then gB (sp_X2_setFlag k 1 false S) (fun (_ : Unit) S1 => gB (sp_X2_judged k ((a0 >>> ((1 : Int32) &&& (31 : Int32))) ||| (a1 <<< ((7 : Int32) &&& (31 : Int32)))) S1) (fun r2 S2 => (r2, S2))) else gB (sp_X2_setFlag k 1 true S) (fun (_ : Unit) S3 => gB (sp_X2_judged k ((a0 >>> ((1 : Int32) &&& (31 : Int32))) ||| (a1 <<< ((7 : Int32) &&& (31 : Int32)))) S3) (fun r4 S4 => (r4, S4))))
set_option maxRecDepth 100000 in
set_option maxHeartbeats 4000000 in
theorem c_X2_shiftedDown (l : Launch) (k : Bool) (η : gE) (a0 : Int32) (a1 : Int32) (S : gSt) : gMet l yX2_shiftedDown cX2_shiftedDown 3 (some .int) rm_X2_shiftedDown (oC k η) [.ref (η.1 18), .int a0, .int a1] S (oI (sp_X2_shiftedDown k a0 a1 S).1) (sp_X2_shiftedDown k a0 a1 S).2 := by
  refine gMet_of (X := sp_X2_shiftedDown k a0 a1 S) (lv := [(0, .ref (η.1 18)), (1, .int a0), (2, .int a1)]) oI (zC_ok η) (by decide +kernel) (Nat.le_of_ble_eq_true rfl) rfl (fun κ hc => ?_)
  have hc : gC (oC k η) κ cX2_shiftedDown 3 RX2 (some .int) rm_X2_shiftedDown := hc
  unfold sp_X2_shiftedDown
  refine g_aload_n (i := 0) hc 0 dX2_shiftedDown_0 rfl rfl ?_
  refine g_iconst (v := 1) hc dX2_shiftedDown_1 (by decide) ?_
  refine g_iload_n (i := 1) hc 1 dX2_shiftedDown_2 rfl rfl ?_
  refine g_iconst (v := 1) hc dX2_shiftedDown_3 (by decide) ?_
  refine g_iand hc dX2_shiftedDown_4 ?_
  refine g_ifeq (tgt := 12) hc dX2_shiftedDown_5 rfl (fun c_5 => ?_) (fun c_5 => ?_)
  · refine g_iconst (v := 0) hc dX2_shiftedDown_12 (by decide) ?_
    refine g_callVV hc 18 [.int 1, .int (bI false)] (fun l => c_X2_setFlag l k η 1 false S) wtC_255 ge_X2_setFlag rfl ⟨rfl, rfl⟩ ⟨Nat.le_of_ble_eq_true rfl, Nat.le_of_ble_eq_true rfl⟩ rfl rfl rfl (Nat.le_of_ble_eq_true rfl) dX2_shiftedDown_13 (fun r1 S1 e1 f1 => ?_)
    refine g_aload_n (i := 0) hc 0 dX2_shiftedDown_16 rfl rfl ?_
    refine g_iload_n (i := 1) hc 1 dX2_shiftedDown_17 rfl rfl ?_
    refine g_iconst (v := 1) hc dX2_shiftedDown_18 (by decide) ?_
    refine g_ishr hc dX2_shiftedDown_19 ?_
    refine g_iload_n (i := 2) hc 2 dX2_shiftedDown_20 rfl rfl ?_
    refine g_bipush (v := 7) hc dX2_shiftedDown_21 (by decide) ?_
    refine g_ishl hc dX2_shiftedDown_23 ?_
    refine g_ior hc dX2_shiftedDown_24 ?_
    refine g_callVI hc 18 [.int ((a0 >>> ((1 : Int32) &&& (31 : Int32))) ||| (a1 <<< ((7 : Int32) &&& (31 : Int32))))] (fun l => c_X2_judged l k η ((a0 >>> ((1 : Int32) &&& (31 : Int32))) ||| (a1 <<< ((7 : Int32) &&& (31 : Int32)))) S1) wtC_309 ge_X2_judged rfl ⟨rfl, rfl⟩ ⟨Nat.le_of_ble_eq_true rfl, Nat.le_of_ble_eq_true rfl⟩ rfl rfl rfl (Nat.le_of_ble_eq_true rfl) dX2_shiftedDown_25 (fun r2 S2 e2 f2 => ?_)
    exact g_iret hc dX2_shiftedDown_28
  · refine g_iconst (v := 1) hc dX2_shiftedDown_8 (by decide) ?_
    refine g_goto (tgt := 13) hc dX2_shiftedDown_9 rfl ?_
    refine g_callVV hc 18 [.int 1, .int (bI true)] (fun l => c_X2_setFlag l k η 1 true S) wtC_255 ge_X2_setFlag rfl ⟨rfl, rfl⟩ ⟨Nat.le_of_ble_eq_true rfl, Nat.le_of_ble_eq_true rfl⟩ rfl rfl rfl (Nat.le_of_ble_eq_true rfl) dX2_shiftedDown_13 (fun r3 S3 e3 f3 => ?_)
    refine g_aload_n (i := 0) hc 0 dX2_shiftedDown_16 rfl rfl ?_
    refine g_iload_n (i := 1) hc 1 dX2_shiftedDown_17 rfl rfl ?_
    refine g_iconst (v := 1) hc dX2_shiftedDown_18 (by decide) ?_
    refine g_ishr hc dX2_shiftedDown_19 ?_
    refine g_iload_n (i := 2) hc 2 dX2_shiftedDown_20 rfl rfl ?_
    refine g_bipush (v := 7) hc dX2_shiftedDown_21 (by decide) ?_
    refine g_ishl hc dX2_shiftedDown_23 ?_
    refine g_ior hc dX2_shiftedDown_24 ?_
    refine g_callVI hc 18 [.int ((a0 >>> ((1 : Int32) &&& (31 : Int32))) ||| (a1 <<< ((7 : Int32) &&& (31 : Int32))))] (fun l => c_X2_judged l k η ((a0 >>> ((1 : Int32) &&& (31 : Int32))) ||| (a1 <<< ((7 : Int32) &&& (31 : Int32)))) S3) wtC_309 ge_X2_judged rfl ⟨rfl, rfl⟩ ⟨Nat.le_of_ble_eq_true rfl, Nat.le_of_ble_eq_true rfl⟩ rfl rfl rfl (Nat.le_of_ble_eq_true rfl) dX2_shiftedDown_25 (fun r4 S4 e4 f4 => ?_)
    exact g_iret hc dX2_shiftedDown_28

abbrev rm_X2_changed : Room := { frames := 3, cells := 0, slots := 0, locals := 66 }
def sp_X2_changed (k : Bool) (a0 : Int32) (a1 : Int32) (S : gSt) : Int32 × gSt := (if a0 = 16 then gB (sp_X2_shiftedUp k a1 0 S) (fun r1 S1 => (r1, S1)) else (if a0 = 17 then gB (sp_X2_shiftedDown k a1 0 S) (fun r2 S2 => (r2, S2)) else (if a0 = 18 then gB (sp_X2_shiftedUp k a1 ((S.1 31) &&& 1) S) (fun r3 S3 => (r3, S3)) else (if a0 = 19 then gB (sp_X2_shiftedDown k a1 ((S.1 31) &&& 1) S) (fun r4 S4 => (r4, S4)) else (if a0 = 20 then gB (sp_X2_judged k (a1 + 1) S) (fun r5 S5 => (r5, S5)) else gB (sp_X2_judged k (a1 - 1) S) (fun r6 S6 => (r6, S6)))))))
set_option maxRecDepth 100000 in
set_option maxHeartbeats 4000000 in
theorem c_X2_changed (l : Launch) (k : Bool) (η : gE) (a0 : Int32) (a1 : Int32) (S : gSt) : gMet l yX2_changed cX2_changed 3 (some .int) rm_X2_changed (oC k η) [.ref (η.1 18), .int a0, .int a1] S (oI (sp_X2_changed k a0 a1 S).1) (sp_X2_changed k a0 a1 S).2 := by
  refine gMet_of (X := sp_X2_changed k a0 a1 S) (lv := [(0, .ref (η.1 18)), (1, .int a0), (2, .int a1)]) oI (zC_ok η) (by decide +kernel) (Nat.le_of_ble_eq_true rfl) rfl (fun κ hc => ?_)
  have hc : gC (oC k η) κ cX2_changed 3 RX2 (some .int) rm_X2_changed := hc
  unfold sp_X2_changed
  refine g_iload_n (i := 1) hc 1 dX2_changed_0 rfl rfl ?_
  refine g_tsw (tgt := 36) hc 16 dX2_changed_1 ⟨by decide, by decide, rfl⟩ rfl (fun c_1_16 => ?_) (fun c_1_16 => ?_)
  · refine g_aload_n (i := 0) hc 0 dX2_changed_36 rfl rfl ?_
    refine g_iload_n (i := 2) hc 2 dX2_changed_37 rfl rfl ?_
    refine g_iconst (v := 0) hc dX2_changed_38 (by decide) ?_
    refine g_callVI hc 18 [.int a1, .int 0] (fun l => c_X2_shiftedUp l k η a1 0 S) wtC_325 ge_X2_shiftedUp rfl ⟨rfl, rfl⟩ ⟨Nat.le_of_ble_eq_true rfl, Nat.le_of_ble_eq_true rfl⟩ rfl rfl rfl (Nat.le_of_ble_eq_true rfl) dX2_changed_39 (fun r1 S1 e1 f1 => ?_)
    exact g_iret hc dX2_changed_42
  refine g_tsw (tgt := 43) hc 17 dX2_changed_1 ⟨by decide, by decide, rfl⟩ rfl (fun c_1_17 => ?_) (fun c_1_17 => ?_)
  · refine g_aload_n (i := 0) hc 0 dX2_changed_43 rfl rfl ?_
    refine g_iload_n (i := 2) hc 2 dX2_changed_44 rfl rfl ?_
    refine g_iconst (v := 0) hc dX2_changed_45 (by decide) ?_
    refine g_callVI hc 18 [.int a1, .int 0] (fun l => c_X2_shiftedDown l k η a1 0 S) wtC_329 ge_X2_shiftedDown rfl ⟨rfl, rfl⟩ ⟨Nat.le_of_ble_eq_true rfl, Nat.le_of_ble_eq_true rfl⟩ rfl rfl rfl (Nat.le_of_ble_eq_true rfl) dX2_changed_46 (fun r2 S2 e2 f2 => ?_)
    exact g_iret hc dX2_changed_49
  refine g_tsw (tgt := 50) hc 18 dX2_changed_1 ⟨by decide, by decide, rfl⟩ rfl (fun c_1_18 => ?_) (fun c_1_18 => ?_)
  · refine g_aload_n (i := 0) hc 0 dX2_changed_50 rfl rfl ?_
    refine g_iload_n (i := 2) hc 2 dX2_changed_51 rfl rfl ?_
    refine g_aload_n (i := 0) hc 0 dX2_changed_52 rfl rfl ?_
    refine gf_C_18_p hc wtC_250 dX2_changed_53 ?_
    refine g_iconst (v := 1) hc dX2_changed_56 (by decide) ?_
    refine g_iand hc dX2_changed_57 ?_
    refine g_callVI hc 18 [.int a1, .int ((S.1 31) &&& 1)] (fun l => c_X2_shiftedUp l k η a1 ((S.1 31) &&& 1) S) wtC_325 ge_X2_shiftedUp rfl ⟨rfl, rfl⟩ ⟨Nat.le_of_ble_eq_true rfl, Nat.le_of_ble_eq_true rfl⟩ rfl rfl rfl (Nat.le_of_ble_eq_true rfl) dX2_changed_58 (fun r3 S3 e3 f3 => ?_)
    exact g_iret hc dX2_changed_61
  refine g_tsw (tgt := 62) hc 19 dX2_changed_1 ⟨by decide, by decide, rfl⟩ rfl (fun c_1_19 => ?_) (fun c_1_19 => ?_)
  · refine g_aload_n (i := 0) hc 0 dX2_changed_62 rfl rfl ?_
    refine g_iload_n (i := 2) hc 2 dX2_changed_63 rfl rfl ?_
    refine g_aload_n (i := 0) hc 0 dX2_changed_64 rfl rfl ?_
    refine gf_C_18_p hc wtC_250 dX2_changed_65 ?_
    refine g_iconst (v := 1) hc dX2_changed_68 (by decide) ?_
    refine g_iand hc dX2_changed_69 ?_
    refine g_callVI hc 18 [.int a1, .int ((S.1 31) &&& 1)] (fun l => c_X2_shiftedDown l k η a1 ((S.1 31) &&& 1) S) wtC_329 ge_X2_shiftedDown rfl ⟨rfl, rfl⟩ ⟨Nat.le_of_ble_eq_true rfl, Nat.le_of_ble_eq_true rfl⟩ rfl rfl rfl (Nat.le_of_ble_eq_true rfl) dX2_changed_70 (fun r4 S4 e4 f4 => ?_)
    exact g_iret hc dX2_changed_73
  refine g_tsw (tgt := 74) hc 20 dX2_changed_1 ⟨by decide, by decide, rfl⟩ rfl (fun c_1_20 => ?_) (fun c_1_20 => ?_)
  · refine g_aload_n (i := 0) hc 0 dX2_changed_74 rfl rfl ?_
    refine g_iload_n (i := 2) hc 2 dX2_changed_75 rfl rfl ?_
    refine g_iconst (v := 1) hc dX2_changed_76 (by decide) ?_
    refine g_iadd hc dX2_changed_77 ?_
    refine g_callVI hc 18 [.int (a1 + 1)] (fun l => c_X2_judged l k η (a1 + 1) S) wtC_309 ge_X2_judged rfl ⟨rfl, rfl⟩ ⟨Nat.le_of_ble_eq_true rfl, Nat.le_of_ble_eq_true rfl⟩ rfl rfl rfl (Nat.le_of_ble_eq_true rfl) dX2_changed_78 (fun r5 S5 e5 f5 => ?_)
    exact g_iret hc dX2_changed_81
  refine g_tswd (tgt := 82) hc dX2_changed_1 (by have := lv_neT c_1_16 (a := 16) (by decide); have := lv_neT c_1_17 (a := 17) (by decide); have := lv_neT c_1_18 (a := 18) (by decide); have := lv_neT c_1_19 (a := 19) (by decide); have := lv_neT c_1_20 (a := 20) (by decide); omega) rfl ?_
  refine g_aload_n (i := 0) hc 0 dX2_changed_82 rfl rfl ?_
  refine g_iload_n (i := 2) hc 2 dX2_changed_83 rfl rfl ?_
  refine g_iconst (v := 1) hc dX2_changed_84 (by decide) ?_
  refine g_isub hc dX2_changed_85 ?_
  refine g_callVI hc 18 [.int (a1 - 1)] (fun l => c_X2_judged l k η (a1 - 1) S) wtC_309 ge_X2_judged rfl ⟨rfl, rfl⟩ ⟨Nat.le_of_ble_eq_true rfl, Nat.le_of_ble_eq_true rfl⟩ rfl rfl rfl (Nat.le_of_ble_eq_true rfl) dX2_changed_86 (fun r6 S6 e6 f6 => ?_)
  exact g_iret hc dX2_changed_89

abbrev rm_X2_change : Room := { frames := 4, cells := 0, slots := 0, locals := 92 }
def sp_X2_change (k : Bool) (a0 : Int32) (a1 : Int32) (a2 : Int32) (S : gSt) : Unit × gSt := (if a1 = 1 then gB (sp_X2_changed k a0 (S.1 27) S) (fun r1 S1 => gL (sI S1 27 r1) (fun S2 => ((), S2))) else gB (sp_X0_load k a2 S) (fun r3 S3 => gB (sp_X2_changed k a0 r3 S3) (fun r4 S4 => gB (sp_X0_store k a2 r4 S4) (fun (_ : Unit) S5 => ((), S5)))))
set_option maxRecDepth 100000 in
set_option maxHeartbeats 4000000 in
theorem c_X2_change (l : Launch) (k : Bool) (η : gE) (a0 : Int32) (a1 : Int32) (a2 : Int32) (S : gSt) : gMet l yX2_change cX2_change 4 none rm_X2_change (oC k η) [.ref (η.1 18), .int a0, .int a1, .int a2] S (oV (sp_X2_change k a0 a1 a2 S).1) (sp_X2_change k a0 a1 a2 S).2 := by
  refine gMet_of (X := sp_X2_change k a0 a1 a2 S) (lv := [(0, .ref (η.1 18)), (1, .int a0), (2, .int a1), (3, .int a2)]) oV (zC_ok η) (by decide +kernel) (Nat.le_of_ble_eq_true rfl) rfl (fun κ hc => ?_)
  have hc : gC (oC k η) κ cX2_change 4 RX2 none rm_X2_change := hc
  unfold sp_X2_change
  refine g_iload_n (i := 2) hc 2 dX2_change_0 rfl rfl ?_
  refine g_iconst (v := 1) hc dX2_change_1 (by decide) ?_
  refine g_icmpne (tgt := 21) hc dX2_change_2 rfl (fun c_2 => ?_) (fun c_2 => ?_)
  · refine g_aload_n (i := 0) hc 0 dX2_change_5 rfl rfl ?_
    refine g_aload_n (i := 0) hc 0 dX2_change_6 rfl rfl ?_
    refine g_iload_n (i := 1) hc 1 dX2_change_7 rfl rfl ?_
    refine g_aload_n (i := 0) hc 0 dX2_change_8 rfl rfl ?_
    refine gf_C_18_a hc wtC_305 dX2_change_9 ?_
    refine g_callVI hc 18 [.int a0, .int (S.1 27)] (fun l => c_X2_changed l k η a0 (S.1 27) S) wtC_333 ge_X2_changed rfl ⟨rfl, rfl⟩ ⟨Nat.le_of_ble_eq_true rfl, Nat.le_of_ble_eq_true rfl⟩ rfl rfl rfl (Nat.le_of_ble_eq_true rfl) dX2_change_12 (fun r1 S1 e1 f1 => ?_)
    refine pf_C_18_a (v := r1) hc wtC_305 dX2_change_15 (fun S2 f2 => ?_)
    refine g_goto (tgt := 42) hc dX2_change_18 rfl ?_
    exact g_vret hc dX2_change_42
  · refine g_aload_n (i := 0) hc 0 dX2_change_21 rfl rfl ?_
    refine gf_C_18_bus hc wtC_256 dX2_change_22 ?_
    refine g_iload_n (i := 3) hc 3 dX2_change_25 rfl rfl ?_
    refine g_aload_n (i := 0) hc 0 dX2_change_26 rfl rfl ?_
    refine g_iload_n (i := 1) hc 1 dX2_change_27 rfl rfl ?_
    refine g_aload_n (i := 0) hc 0 dX2_change_28 rfl rfl ?_
    refine gf_C_18_bus hc wtC_256 dX2_change_29 ?_
    refine g_iload_n (i := 3) hc 3 dX2_change_32 rfl rfl ?_
    refine g_callVI hc 15 [.int a2] (fun l => c_X0_load l k η a2 S) wtC_284 ge_X0_load rfl ⟨rfl, rfl⟩ ⟨Nat.le_of_ble_eq_true rfl, Nat.le_of_ble_eq_true rfl⟩ rfl rfl rfl (Nat.le_of_ble_eq_true rfl) dX2_change_33 (fun r3 S3 e3 f3 => ?_)
    refine g_callVI hc 18 [.int a0, .int r3] (fun l => c_X2_changed l k η a0 r3 S3) wtC_333 ge_X2_changed rfl ⟨rfl, rfl⟩ ⟨Nat.le_of_ble_eq_true rfl, Nat.le_of_ble_eq_true rfl⟩ rfl rfl rfl (Nat.le_of_ble_eq_true rfl) dX2_change_36 (fun r4 S4 e4 f4 => ?_)
    refine g_callVV hc 15 [.int a2, .int r4] (fun l => c_X0_store l k η a2 r4 S4) wtC_337 ge_X0_store rfl ⟨rfl, rfl⟩ ⟨Nat.le_of_ble_eq_true rfl, Nat.le_of_ble_eq_true rfl⟩ rfl rfl rfl (Nat.le_of_ble_eq_true rfl) dX2_change_39 (fun r5 S5 e5 f5 => ?_)
    exact g_vret hc dX2_change_42

abbrev rm_X2_branchTaken : Room := { frames := 0, cells := 0, slots := 0, locals := 0 }
def sp_X2_branchTaken (k : Bool) (a0 : Int32) (S : gSt) : Bool × gSt := (if a0 = 22 then (if ((S.1 31) &&& 128) = 0 then (true, S) else (false, S)) else (if a0 = 23 then (if ((S.1 31) &&& 128) = 0 then (false, S) else (true, S)) else (if a0 = 24 then (if ((S.1 31) &&& 64) = 0 then (true, S) else (false, S)) else (if a0 = 25 then (if ((S.1 31) &&& 64) = 0 then (false, S) else (true, S)) else (if a0 = 26 then (if ((S.1 31) &&& 1) = 0 then (true, S) else (false, S)) else (if a0 = 27 then (if ((S.1 31) &&& 1) = 0 then (false, S) else (true, S)) else (if a0 = 28 then (if ((S.1 31) &&& 2) = 0 then (true, S) else (false, S)) else (if ((S.1 31) &&& 2) = 0 then (false, S) else (true, S)))))))))
set_option maxRecDepth 100000 in
set_option maxHeartbeats 4000000 in
theorem c_X2_branchTaken (l : Launch) (k : Bool) (η : gE) (a0 : Int32) (S : gSt) : gMet l yX2_branchTaken cX2_branchTaken 2 (some .boolean) rm_X2_branchTaken (oC k η) [.ref (η.1 18), .int a0] S (oZ (sp_X2_branchTaken k a0 S).1) (sp_X2_branchTaken k a0 S).2 := by
  refine gMet_of (X := sp_X2_branchTaken k a0 S) (lv := [(0, .ref (η.1 18)), (1, .int a0)]) oZ (zC_ok η) (by decide +kernel) (Nat.le_of_ble_eq_true rfl) rfl (fun κ hc => ?_)
  have hc : gC (oC k η) κ cX2_branchTaken 2 RX2 (some .boolean) rm_X2_branchTaken := hc
  unfold sp_X2_branchTaken
  refine g_iload_n (i := 1) hc 1 dX2_branchTaken_0 rfl rfl ?_
  refine g_tsw (tgt := 44) hc 22 dX2_branchTaken_1 ⟨by decide, by decide, rfl⟩ rfl (fun c_1_22 => ?_) (fun c_1_22 => ?_)
  · refine g_aload_n (i := 0) hc 0 dX2_branchTaken_44 rfl rfl ?_
    refine gf_C_18_p hc wtC_250 dX2_branchTaken_45 ?_
    refine g_sipush (v := 128) hc dX2_branchTaken_48 (by decide) ?_
    refine g_iand hc dX2_branchTaken_51 ?_
    refine g_ifne (tgt := 59) hc dX2_branchTaken_52 rfl (fun c_52 => ?_) (fun c_52 => ?_)
    · refine g_iconst (v := 1) hc dX2_branchTaken_55 (by decide) ?_
      refine g_goto (tgt := 60) hc dX2_branchTaken_56 rfl ?_
      exact g_zret (b := true) hc rfl dX2_branchTaken_60
    · refine g_iconst (v := 0) hc dX2_branchTaken_59 (by decide) ?_
      exact g_zret (b := false) hc rfl dX2_branchTaken_60
  refine g_tsw (tgt := 61) hc 23 dX2_branchTaken_1 ⟨by decide, by decide, rfl⟩ rfl (fun c_1_23 => ?_) (fun c_1_23 => ?_)
  · refine g_aload_n (i := 0) hc 0 dX2_branchTaken_61 rfl rfl ?_
    refine gf_C_18_p hc wtC_250 dX2_branchTaken_62 ?_
    refine g_sipush (v := 128) hc dX2_branchTaken_65 (by decide) ?_
    refine g_iand hc dX2_branchTaken_68 ?_
    refine g_ifeq (tgt := 76) hc dX2_branchTaken_69 rfl (fun c_69 => ?_) (fun c_69 => ?_)
    · refine g_iconst (v := 0) hc dX2_branchTaken_76 (by decide) ?_
      exact g_zret (b := false) hc rfl dX2_branchTaken_77
    · refine g_iconst (v := 1) hc dX2_branchTaken_72 (by decide) ?_
      refine g_goto (tgt := 77) hc dX2_branchTaken_73 rfl ?_
      exact g_zret (b := true) hc rfl dX2_branchTaken_77
  refine g_tsw (tgt := 78) hc 24 dX2_branchTaken_1 ⟨by decide, by decide, rfl⟩ rfl (fun c_1_24 => ?_) (fun c_1_24 => ?_)
  · refine g_aload_n (i := 0) hc 0 dX2_branchTaken_78 rfl rfl ?_
    refine gf_C_18_p hc wtC_250 dX2_branchTaken_79 ?_
    refine g_bipush (v := 64) hc dX2_branchTaken_82 (by decide) ?_
    refine g_iand hc dX2_branchTaken_84 ?_
    refine g_ifne (tgt := 92) hc dX2_branchTaken_85 rfl (fun c_85 => ?_) (fun c_85 => ?_)
    · refine g_iconst (v := 1) hc dX2_branchTaken_88 (by decide) ?_
      refine g_goto (tgt := 93) hc dX2_branchTaken_89 rfl ?_
      exact g_zret (b := true) hc rfl dX2_branchTaken_93
    · refine g_iconst (v := 0) hc dX2_branchTaken_92 (by decide) ?_
      exact g_zret (b := false) hc rfl dX2_branchTaken_93
  refine g_tsw (tgt := 94) hc 25 dX2_branchTaken_1 ⟨by decide, by decide, rfl⟩ rfl (fun c_1_25 => ?_) (fun c_1_25 => ?_)
  · refine g_aload_n (i := 0) hc 0 dX2_branchTaken_94 rfl rfl ?_
    refine gf_C_18_p hc wtC_250 dX2_branchTaken_95 ?_
    refine g_bipush (v := 64) hc dX2_branchTaken_98 (by decide) ?_
    refine g_iand hc dX2_branchTaken_100 ?_
    refine g_ifeq (tgt := 108) hc dX2_branchTaken_101 rfl (fun c_101 => ?_) (fun c_101 => ?_)
    · refine g_iconst (v := 0) hc dX2_branchTaken_108 (by decide) ?_
      exact g_zret (b := false) hc rfl dX2_branchTaken_109
    · refine g_iconst (v := 1) hc dX2_branchTaken_104 (by decide) ?_
      refine g_goto (tgt := 109) hc dX2_branchTaken_105 rfl ?_
      exact g_zret (b := true) hc rfl dX2_branchTaken_109
  refine g_tsw (tgt := 110) hc 26 dX2_branchTaken_1 ⟨by decide, by decide, rfl⟩ rfl (fun c_1_26 => ?_) (fun c_1_26 => ?_)
  · refine g_aload_n (i := 0) hc 0 dX2_branchTaken_110 rfl rfl ?_
    refine gf_C_18_p hc wtC_250 dX2_branchTaken_111 ?_
    refine g_iconst (v := 1) hc dX2_branchTaken_114 (by decide) ?_
    refine g_iand hc dX2_branchTaken_115 ?_
    refine g_ifne (tgt := 123) hc dX2_branchTaken_116 rfl (fun c_116 => ?_) (fun c_116 => ?_)
    · refine g_iconst (v := 1) hc dX2_branchTaken_119 (by decide) ?_
      refine g_goto (tgt := 124) hc dX2_branchTaken_120 rfl ?_
      exact g_zret (b := true) hc rfl dX2_branchTaken_124
    · refine g_iconst (v := 0) hc dX2_branchTaken_123 (by decide) ?_
      exact g_zret (b := false) hc rfl dX2_branchTaken_124
  refine g_tsw (tgt := 125) hc 27 dX2_branchTaken_1 ⟨by decide, by decide, rfl⟩ rfl (fun c_1_27 => ?_) (fun c_1_27 => ?_)
  · refine g_aload_n (i := 0) hc 0 dX2_branchTaken_125 rfl rfl ?_
    refine gf_C_18_p hc wtC_250 dX2_branchTaken_126 ?_
    refine g_iconst (v := 1) hc dX2_branchTaken_129 (by decide) ?_
    refine g_iand hc dX2_branchTaken_130 ?_
    refine g_ifeq (tgt := 138) hc dX2_branchTaken_131 rfl (fun c_131 => ?_) (fun c_131 => ?_)
    · refine g_iconst (v := 0) hc dX2_branchTaken_138 (by decide) ?_
      exact g_zret (b := false) hc rfl dX2_branchTaken_139
    · refine g_iconst (v := 1) hc dX2_branchTaken_134 (by decide) ?_
      refine g_goto (tgt := 139) hc dX2_branchTaken_135 rfl ?_
      exact g_zret (b := true) hc rfl dX2_branchTaken_139
  refine g_tsw (tgt := 140) hc 28 dX2_branchTaken_1 ⟨by decide, by decide, rfl⟩ rfl (fun c_1_28 => ?_) (fun c_1_28 => ?_)
  · refine g_aload_n (i := 0) hc 0 dX2_branchTaken_140 rfl rfl ?_
    refine gf_C_18_p hc wtC_250 dX2_branchTaken_141 ?_
    refine g_iconst (v := 2) hc dX2_branchTaken_144 (by decide) ?_
    refine g_iand hc dX2_branchTaken_145 ?_
    refine g_ifne (tgt := 153) hc dX2_branchTaken_146 rfl (fun c_146 => ?_) (fun c_146 => ?_)
    · refine g_iconst (v := 1) hc dX2_branchTaken_149 (by decide) ?_
      refine g_goto (tgt := 154) hc dX2_branchTaken_150 rfl ?_
      exact g_zret (b := true) hc rfl dX2_branchTaken_154
    · refine g_iconst (v := 0) hc dX2_branchTaken_153 (by decide) ?_
      exact g_zret (b := false) hc rfl dX2_branchTaken_154
  refine g_tswd (tgt := 155) hc dX2_branchTaken_1 (by have := lv_neT c_1_22 (a := 22) (by decide); have := lv_neT c_1_23 (a := 23) (by decide); have := lv_neT c_1_24 (a := 24) (by decide); have := lv_neT c_1_25 (a := 25) (by decide); have := lv_neT c_1_26 (a := 26) (by decide); have := lv_neT c_1_27 (a := 27) (by decide); have := lv_neT c_1_28 (a := 28) (by decide); omega) rfl ?_
  refine g_aload_n (i := 0) hc 0 dX2_branchTaken_155 rfl rfl ?_
  refine gf_C_18_p hc wtC_250 dX2_branchTaken_156 ?_
  refine g_iconst (v := 2) hc dX2_branchTaken_159 (by decide) ?_
  refine g_iand hc dX2_branchTaken_160 ?_
  refine g_ifeq (tgt := 168) hc dX2_branchTaken_161 rfl (fun c_161 => ?_) (fun c_161 => ?_)
  · refine g_iconst (v := 0) hc dX2_branchTaken_168 (by decide) ?_
    exact g_zret (b := false) hc rfl dX2_branchTaken_169
  · refine g_iconst (v := 1) hc dX2_branchTaken_164 (by decide) ?_
    refine g_goto (tgt := 169) hc dX2_branchTaken_165 rfl ?_
    exact g_zret (b := true) hc rfl dX2_branchTaken_169

abbrev rm_X2_branch : Room := { frames := 1, cells := 0, slots := 0, locals := 21 }
def sp_X2_branch (k : Bool) (a0 : Int32) (a1 : Int32) (S : gSt) : Int32 × gSt := gB (sp_X2_branchTaken k a0 S) (fun r1 S1 => (if (bI r1) = 0 then (0, S1) else gB (sp_X2_otherPage k (S1.1 32) a1 S1) (fun r2 S2 => gL (sI S2 32 a1) (fun S3 => ((1 + r2), S3)))))
set_option maxRecDepth 100000 in
set_option maxHeartbeats 4000000 in
theorem c_X2_branch (l : Launch) (k : Bool) (η : gE) (a0 : Int32) (a1 : Int32) (S : gSt) : gMet l yX2_branch cX2_branch 4 (some .int) rm_X2_branch (oC k η) [.ref (η.1 18), .int a0, .int a1] S (oI (sp_X2_branch k a0 a1 S).1) (sp_X2_branch k a0 a1 S).2 := by
  refine gMet_of (X := sp_X2_branch k a0 a1 S) (lv := [(0, .ref (η.1 18)), (1, .int a0), (2, .int a1)]) oI (zC_ok η) (by decide +kernel) (Nat.le_of_ble_eq_true rfl) rfl (fun κ hc => ?_)
  have hc : gC (oC k η) κ cX2_branch 4 RX2 (some .int) rm_X2_branch := hc
  unfold sp_X2_branch
  refine g_aload_n (i := 0) hc 0 dX2_branch_0 rfl rfl ?_
  refine g_iload_n (i := 1) hc 1 dX2_branch_1 rfl rfl ?_
  refine g_callVZ hc 18 [.int a0] (fun l => c_X2_branchTaken l k η a0 S) wtC_341 ge_X2_branchTaken rfl ⟨rfl, rfl⟩ ⟨Nat.le_of_ble_eq_true rfl, Nat.le_of_ble_eq_true rfl⟩ rfl rfl rfl (Nat.le_of_ble_eq_true rfl) dX2_branch_2 (fun r1 S1 e1 f1 => ?_)
  refine g_ifne (tgt := 10) hc dX2_branch_5 rfl (fun c_5 => ?_) (fun c_5 => ?_)
  · refine g_iconst (v := 0) hc dX2_branch_8 (by decide) ?_
    exact g_iret hc dX2_branch_9
  · refine g_iconst (v := 1) hc dX2_branch_10 (by decide) ?_
    refine g_aload_n (i := 0) hc 0 dX2_branch_11 rfl rfl ?_
    refine gf_C_18_pc hc wtC_282 dX2_branch_12 ?_
    refine g_iload_n (i := 2) hc 2 dX2_branch_15 rfl rfl ?_
    refine g_callSI hc [.int (S1.1 32), .int a1] (fun l => c_X2_otherPage l k η (S1.1 32) a1 S1) wtC_293 ge_X2_otherPage rfl ⟨rfl, rfl⟩ ⟨Nat.le_of_ble_eq_true rfl, Nat.le_of_ble_eq_true rfl⟩ rfl (Nat.le_of_ble_eq_true rfl) dX2_branch_16 (fun r2 S2 e2 f2 => ?_)
    refine g_iadd hc dX2_branch_19 ?_
    refine g_istore_n (i := 3) (lv' := [(3, .int (1 + r2)), (0, .ref (η.1 18)), (1, .int a0), (2, .int a1)]) hc dX2_branch_20 rfl (by decide) rfl ?_
    refine g_aload_n (i := 0) hc 1 dX2_branch_21 rfl rfl ?_
    refine g_iload_n (i := 2) hc 3 dX2_branch_22 rfl rfl ?_
    refine pf_C_18_pc (v := a1) hc wtC_282 dX2_branch_23 (fun S3 f3 => ?_)
    refine g_iload_n (i := 3) hc 0 dX2_branch_26 rfl rfl ?_
    exact g_iret hc dX2_branch_27

abbrev rm_X2_changeRegister : Room := { frames := 2, cells := 0, slots := 0, locals := 44 }
def sp_X2_changeRegister (k : Bool) (a0 : Int32) (S : gSt) : Unit × gSt := (if a0 = 30 then gB (sp_X2_judged k (S.1 27) S) (fun r1 S1 => gL (sI S1 28 r1) (fun S2 => ((), S2))) else (if a0 = 31 then gB (sp_X2_judged k (S.1 27) S) (fun r3 S3 => gL (sI S3 29 r3) (fun S4 => ((), S4))) else (if a0 = 32 then gB (sp_X2_judged k (S.1 28) S) (fun r5 S5 => gL (sI S5 27 r5) (fun S6 => ((), S6))) else (if a0 = 33 then gB (sp_X2_judged k (S.1 29) S) (fun r7 S7 => gL (sI S7 27 r7) (fun S8 => ((), S8))) else (if a0 = 34 then gB (sp_X2_judged k (S.1 30) S) (fun r9 S9 => gL (sI S9 28 r9) (fun S10 => ((), S10))) else (if a0 = 35 then gL (sI S 30 (S.1 28)) (fun S11 => ((), S11)) else (if a0 = 36 then gB (sp_X2_judged k ((S.1 28) + 1) S) (fun r12 S12 => gL (sI S12 28 r12) (fun S13 => ((), S13))) else (if a0 = 37 then gB (sp_X2_judged k ((S.1 29) + 1) S) (fun r14 S14 => gL (sI S14 29 r14) (fun S15 => ((), S15))) else (if a0 = 38 then gB (sp_X2_judged k ((S.1 28) - 1) S) (fun r16 S16 => gL (sI S16 28 r16) (fun S17 => ((), S17))) else gB (sp_X2_judged k ((S.1 29) - 1) S) (fun r18 S18 => gL (sI S18 29 r18) (fun S19 => ((), S19))))))))))))
set_option maxRecDepth 100000 in
set_option maxHeartbeats 4000000 in
theorem c_X2_changeRegister (l : Launch) (k : Bool) (η : gE) (a0 : Int32) (S : gSt) : gMet l yX2_changeRegister cX2_changeRegister 2 none rm_X2_changeRegister (oC k η) [.ref (η.1 18), .int a0] S (oV (sp_X2_changeRegister k a0 S).1) (sp_X2_changeRegister k a0 S).2 := by
  refine gMet_of (X := sp_X2_changeRegister k a0 S) (lv := [(0, .ref (η.1 18)), (1, .int a0)]) oV (zC_ok η) (by decide +kernel) (Nat.le_of_ble_eq_true rfl) rfl (fun κ hc => ?_)
  have hc : gC (oC k η) κ cX2_changeRegister 2 RX2 none rm_X2_changeRegister := hc
  unfold sp_X2_changeRegister
  refine g_iload_n (i := 1) hc 1 dX2_changeRegister_0 rfl rfl ?_
  refine g_tsw (tgt := 52) hc 30 dX2_changeRegister_1 ⟨by decide, by decide, rfl⟩ rfl (fun c_1_30 => ?_) (fun c_1_30 => ?_)
  · refine g_aload_n (i := 0) hc 0 dX2_changeRegister_52 rfl rfl ?_
    refine g_aload_n (i := 0) hc 0 dX2_changeRegister_53 rfl rfl ?_
    refine g_aload_n (i := 0) hc 0 dX2_changeRegister_54 rfl rfl ?_
    refine gf_C_18_a hc wtC_305 dX2_changeRegister_55 ?_
    refine g_callVI hc 18 [.int (S.1 27)] (fun l => c_X2_judged l k η (S.1 27) S) wtC_309 ge_X2_judged rfl ⟨rfl, rfl⟩ ⟨Nat.le_of_ble_eq_true rfl, Nat.le_of_ble_eq_true rfl⟩ rfl rfl rfl (Nat.le_of_ble_eq_true rfl) dX2_changeRegister_58 (fun r1 S1 e1 f1 => ?_)
    refine pf_C_18_x (v := r1) hc wtC_295 dX2_changeRegister_61 (fun S2 f2 => ?_)
    refine g_goto (tgt := 203) hc dX2_changeRegister_64 rfl ?_
    exact g_vret hc dX2_changeRegister_203
  refine g_tsw (tgt := 67) hc 31 dX2_changeRegister_1 ⟨by decide, by decide, rfl⟩ rfl (fun c_1_31 => ?_) (fun c_1_31 => ?_)
  · refine g_aload_n (i := 0) hc 0 dX2_changeRegister_67 rfl rfl ?_
    refine g_aload_n (i := 0) hc 0 dX2_changeRegister_68 rfl rfl ?_
    refine g_aload_n (i := 0) hc 0 dX2_changeRegister_69 rfl rfl ?_
    refine gf_C_18_a hc wtC_305 dX2_changeRegister_70 ?_
    refine g_callVI hc 18 [.int (S.1 27)] (fun l => c_X2_judged l k η (S.1 27) S) wtC_309 ge_X2_judged rfl ⟨rfl, rfl⟩ ⟨Nat.le_of_ble_eq_true rfl, Nat.le_of_ble_eq_true rfl⟩ rfl rfl rfl (Nat.le_of_ble_eq_true rfl) dX2_changeRegister_73 (fun r3 S3 e3 f3 => ?_)
    refine pf_C_18_y (v := r3) hc wtC_296 dX2_changeRegister_76 (fun S4 f4 => ?_)
    refine g_goto (tgt := 203) hc dX2_changeRegister_79 rfl ?_
    exact g_vret hc dX2_changeRegister_203
  refine g_tsw (tgt := 82) hc 32 dX2_changeRegister_1 ⟨by decide, by decide, rfl⟩ rfl (fun c_1_32 => ?_) (fun c_1_32 => ?_)
  · refine g_aload_n (i := 0) hc 0 dX2_changeRegister_82 rfl rfl ?_
    refine g_aload_n (i := 0) hc 0 dX2_changeRegister_83 rfl rfl ?_
    refine g_aload_n (i := 0) hc 0 dX2_changeRegister_84 rfl rfl ?_
    refine gf_C_18_x hc wtC_295 dX2_changeRegister_85 ?_
    refine g_callVI hc 18 [.int (S.1 28)] (fun l => c_X2_judged l k η (S.1 28) S) wtC_309 ge_X2_judged rfl ⟨rfl, rfl⟩ ⟨Nat.le_of_ble_eq_true rfl, Nat.le_of_ble_eq_true rfl⟩ rfl rfl rfl (Nat.le_of_ble_eq_true rfl) dX2_changeRegister_88 (fun r5 S5 e5 f5 => ?_)
    refine pf_C_18_a (v := r5) hc wtC_305 dX2_changeRegister_91 (fun S6 f6 => ?_)
    refine g_goto (tgt := 203) hc dX2_changeRegister_94 rfl ?_
    exact g_vret hc dX2_changeRegister_203
  refine g_tsw (tgt := 97) hc 33 dX2_changeRegister_1 ⟨by decide, by decide, rfl⟩ rfl (fun c_1_33 => ?_) (fun c_1_33 => ?_)
  · refine g_aload_n (i := 0) hc 0 dX2_changeRegister_97 rfl rfl ?_
    refine g_aload_n (i := 0) hc 0 dX2_changeRegister_98 rfl rfl ?_
    refine g_aload_n (i := 0) hc 0 dX2_changeRegister_99 rfl rfl ?_
    refine gf_C_18_y hc wtC_296 dX2_changeRegister_100 ?_
    refine g_callVI hc 18 [.int (S.1 29)] (fun l => c_X2_judged l k η (S.1 29) S) wtC_309 ge_X2_judged rfl ⟨rfl, rfl⟩ ⟨Nat.le_of_ble_eq_true rfl, Nat.le_of_ble_eq_true rfl⟩ rfl rfl rfl (Nat.le_of_ble_eq_true rfl) dX2_changeRegister_103 (fun r7 S7 e7 f7 => ?_)
    refine pf_C_18_a (v := r7) hc wtC_305 dX2_changeRegister_106 (fun S8 f8 => ?_)
    refine g_goto (tgt := 203) hc dX2_changeRegister_109 rfl ?_
    exact g_vret hc dX2_changeRegister_203
  refine g_tsw (tgt := 112) hc 34 dX2_changeRegister_1 ⟨by decide, by decide, rfl⟩ rfl (fun c_1_34 => ?_) (fun c_1_34 => ?_)
  · refine g_aload_n (i := 0) hc 0 dX2_changeRegister_112 rfl rfl ?_
    refine g_aload_n (i := 0) hc 0 dX2_changeRegister_113 rfl rfl ?_
    refine g_aload_n (i := 0) hc 0 dX2_changeRegister_114 rfl rfl ?_
    refine gf_C_18_s hc wtC_257 dX2_changeRegister_115 ?_
    refine g_callVI hc 18 [.int (S.1 30)] (fun l => c_X2_judged l k η (S.1 30) S) wtC_309 ge_X2_judged rfl ⟨rfl, rfl⟩ ⟨Nat.le_of_ble_eq_true rfl, Nat.le_of_ble_eq_true rfl⟩ rfl rfl rfl (Nat.le_of_ble_eq_true rfl) dX2_changeRegister_118 (fun r9 S9 e9 f9 => ?_)
    refine pf_C_18_x (v := r9) hc wtC_295 dX2_changeRegister_121 (fun S10 f10 => ?_)
    refine g_goto (tgt := 203) hc dX2_changeRegister_124 rfl ?_
    exact g_vret hc dX2_changeRegister_203
  refine g_tsw (tgt := 127) hc 35 dX2_changeRegister_1 ⟨by decide, by decide, rfl⟩ rfl (fun c_1_35 => ?_) (fun c_1_35 => ?_)
  · refine g_aload_n (i := 0) hc 0 dX2_changeRegister_127 rfl rfl ?_
    refine g_aload_n (i := 0) hc 0 dX2_changeRegister_128 rfl rfl ?_
    refine gf_C_18_x hc wtC_295 dX2_changeRegister_129 ?_
    refine pf_C_18_s (v := (S.1 28)) hc wtC_257 dX2_changeRegister_132 (fun S11 f11 => ?_)
    refine g_goto (tgt := 203) hc dX2_changeRegister_135 rfl ?_
    exact g_vret hc dX2_changeRegister_203
  refine g_tsw (tgt := 138) hc 36 dX2_changeRegister_1 ⟨by decide, by decide, rfl⟩ rfl (fun c_1_36 => ?_) (fun c_1_36 => ?_)
  · refine g_aload_n (i := 0) hc 0 dX2_changeRegister_138 rfl rfl ?_
    refine g_aload_n (i := 0) hc 0 dX2_changeRegister_139 rfl rfl ?_
    refine g_aload_n (i := 0) hc 0 dX2_changeRegister_140 rfl rfl ?_
    refine gf_C_18_x hc wtC_295 dX2_changeRegister_141 ?_
    refine g_iconst (v := 1) hc dX2_changeRegister_144 (by decide) ?_
    refine g_iadd hc dX2_changeRegister_145 ?_
    refine g_callVI hc 18 [.int ((S.1 28) + 1)] (fun l => c_X2_judged l k η ((S.1 28) + 1) S) wtC_309 ge_X2_judged rfl ⟨rfl, rfl⟩ ⟨Nat.le_of_ble_eq_true rfl, Nat.le_of_ble_eq_true rfl⟩ rfl rfl rfl (Nat.le_of_ble_eq_true rfl) dX2_changeRegister_146 (fun r12 S12 e12 f12 => ?_)
    refine pf_C_18_x (v := r12) hc wtC_295 dX2_changeRegister_149 (fun S13 f13 => ?_)
    refine g_goto (tgt := 203) hc dX2_changeRegister_152 rfl ?_
    exact g_vret hc dX2_changeRegister_203
  refine g_tsw (tgt := 155) hc 37 dX2_changeRegister_1 ⟨by decide, by decide, rfl⟩ rfl (fun c_1_37 => ?_) (fun c_1_37 => ?_)
  · refine g_aload_n (i := 0) hc 0 dX2_changeRegister_155 rfl rfl ?_
    refine g_aload_n (i := 0) hc 0 dX2_changeRegister_156 rfl rfl ?_
    refine g_aload_n (i := 0) hc 0 dX2_changeRegister_157 rfl rfl ?_
    refine gf_C_18_y hc wtC_296 dX2_changeRegister_158 ?_
    refine g_iconst (v := 1) hc dX2_changeRegister_161 (by decide) ?_
    refine g_iadd hc dX2_changeRegister_162 ?_
    refine g_callVI hc 18 [.int ((S.1 29) + 1)] (fun l => c_X2_judged l k η ((S.1 29) + 1) S) wtC_309 ge_X2_judged rfl ⟨rfl, rfl⟩ ⟨Nat.le_of_ble_eq_true rfl, Nat.le_of_ble_eq_true rfl⟩ rfl rfl rfl (Nat.le_of_ble_eq_true rfl) dX2_changeRegister_163 (fun r14 S14 e14 f14 => ?_)
    refine pf_C_18_y (v := r14) hc wtC_296 dX2_changeRegister_166 (fun S15 f15 => ?_)
    refine g_goto (tgt := 203) hc dX2_changeRegister_169 rfl ?_
    exact g_vret hc dX2_changeRegister_203
  refine g_tsw (tgt := 172) hc 38 dX2_changeRegister_1 ⟨by decide, by decide, rfl⟩ rfl (fun c_1_38 => ?_) (fun c_1_38 => ?_)
  · refine g_aload_n (i := 0) hc 0 dX2_changeRegister_172 rfl rfl ?_
    refine g_aload_n (i := 0) hc 0 dX2_changeRegister_173 rfl rfl ?_
    refine g_aload_n (i := 0) hc 0 dX2_changeRegister_174 rfl rfl ?_
    refine gf_C_18_x hc wtC_295 dX2_changeRegister_175 ?_
    refine g_iconst (v := 1) hc dX2_changeRegister_178 (by decide) ?_
    refine g_isub hc dX2_changeRegister_179 ?_
    refine g_callVI hc 18 [.int ((S.1 28) - 1)] (fun l => c_X2_judged l k η ((S.1 28) - 1) S) wtC_309 ge_X2_judged rfl ⟨rfl, rfl⟩ ⟨Nat.le_of_ble_eq_true rfl, Nat.le_of_ble_eq_true rfl⟩ rfl rfl rfl (Nat.le_of_ble_eq_true rfl) dX2_changeRegister_180 (fun r16 S16 e16 f16 => ?_)
    refine pf_C_18_x (v := r16) hc wtC_295 dX2_changeRegister_183 (fun S17 f17 => ?_)
    refine g_goto (tgt := 203) hc dX2_changeRegister_186 rfl ?_
    exact g_vret hc dX2_changeRegister_203
  refine g_tswd (tgt := 189) hc dX2_changeRegister_1 (by have := lv_neT c_1_30 (a := 30) (by decide); have := lv_neT c_1_31 (a := 31) (by decide); have := lv_neT c_1_32 (a := 32) (by decide); have := lv_neT c_1_33 (a := 33) (by decide); have := lv_neT c_1_34 (a := 34) (by decide); have := lv_neT c_1_35 (a := 35) (by decide); have := lv_neT c_1_36 (a := 36) (by decide); have := lv_neT c_1_37 (a := 37) (by decide); have := lv_neT c_1_38 (a := 38) (by decide); omega) rfl ?_
  refine g_aload_n (i := 0) hc 0 dX2_changeRegister_189 rfl rfl ?_
  refine g_aload_n (i := 0) hc 0 dX2_changeRegister_190 rfl rfl ?_
  refine g_aload_n (i := 0) hc 0 dX2_changeRegister_191 rfl rfl ?_
  refine gf_C_18_y hc wtC_296 dX2_changeRegister_192 ?_
  refine g_iconst (v := 1) hc dX2_changeRegister_195 (by decide) ?_
  refine g_isub hc dX2_changeRegister_196 ?_
  refine g_callVI hc 18 [.int ((S.1 29) - 1)] (fun l => c_X2_judged l k η ((S.1 29) - 1) S) wtC_309 ge_X2_judged rfl ⟨rfl, rfl⟩ ⟨Nat.le_of_ble_eq_true rfl, Nat.le_of_ble_eq_true rfl⟩ rfl rfl rfl (Nat.le_of_ble_eq_true rfl) dX2_changeRegister_197 (fun r18 S18 e18 f18 => ?_)
  refine pf_C_18_y (v := r18) hc wtC_296 dX2_changeRegister_200 (fun S19 f19 => ?_)
  exact g_vret hc dX2_changeRegister_203

abbrev rm_X2_changeFlag : Room := { frames := 1, cells := 0, slots := 0, locals := 22 }
def sp_X2_changeFlag (k : Bool) (a0 : Int32) (S : gSt) : Unit × gSt := (if a0 = 40 then gB (sp_X2_setFlag k 1 false S) (fun (_ : Unit) S1 => ((), S1)) else (if a0 = 41 then gB (sp_X2_setFlag k 1 true S) (fun (_ : Unit) S2 => ((), S2)) else (if a0 = 42 then gB (sp_X2_setFlag k 4 false S) (fun (_ : Unit) S3 => ((), S3)) else (if a0 = 43 then gB (sp_X2_setFlag k 4 true S) (fun (_ : Unit) S4 => ((), S4)) else (if a0 = 44 then gB (sp_X2_setFlag k 64 false S) (fun (_ : Unit) S5 => ((), S5)) else (if a0 = 45 then gB (sp_X2_setFlag k 8 false S) (fun (_ : Unit) S6 => ((), S6)) else (if a0 = 46 then gB (sp_X2_setFlag k 8 true S) (fun (_ : Unit) S7 => ((), S7)) else ((), S))))))))
set_option maxRecDepth 100000 in
set_option maxHeartbeats 4000000 in
theorem c_X2_changeFlag (l : Launch) (k : Bool) (η : gE) (a0 : Int32) (S : gSt) : gMet l yX2_changeFlag cX2_changeFlag 2 none rm_X2_changeFlag (oC k η) [.ref (η.1 18), .int a0] S (oV (sp_X2_changeFlag k a0 S).1) (sp_X2_changeFlag k a0 S).2 := by
  refine gMet_of (X := sp_X2_changeFlag k a0 S) (lv := [(0, .ref (η.1 18)), (1, .int a0)]) oV (zC_ok η) (by decide +kernel) (Nat.le_of_ble_eq_true rfl) rfl (fun κ hc => ?_)
  have hc : gC (oC k η) κ cX2_changeFlag 2 RX2 none rm_X2_changeFlag := hc
  unfold sp_X2_changeFlag
  refine g_iload_n (i := 1) hc 1 dX2_changeFlag_0 rfl rfl ?_
  refine g_tsw (tgt := 44) hc 40 dX2_changeFlag_1 ⟨by decide, by decide, rfl⟩ rfl (fun c_1_40 => ?_) (fun c_1_40 => ?_)
  · refine g_aload_n (i := 0) hc 0 dX2_changeFlag_44 rfl rfl ?_
    refine g_iconst (v := 1) hc dX2_changeFlag_45 (by decide) ?_
    refine g_iconst (v := 0) hc dX2_changeFlag_46 (by decide) ?_
    refine g_callVV hc 18 [.int 1, .int (bI false)] (fun l => c_X2_setFlag l k η 1 false S) wtC_255 ge_X2_setFlag rfl ⟨rfl, rfl⟩ ⟨Nat.le_of_ble_eq_true rfl, Nat.le_of_ble_eq_true rfl⟩ rfl rfl rfl (Nat.le_of_ble_eq_true rfl) dX2_changeFlag_47 (fun r1 S1 e1 f1 => ?_)
    refine g_goto (tgt := 110) hc dX2_changeFlag_50 rfl ?_
    exact g_vret hc dX2_changeFlag_110
  refine g_tsw (tgt := 53) hc 41 dX2_changeFlag_1 ⟨by decide, by decide, rfl⟩ rfl (fun c_1_41 => ?_) (fun c_1_41 => ?_)
  · refine g_aload_n (i := 0) hc 0 dX2_changeFlag_53 rfl rfl ?_
    refine g_iconst (v := 1) hc dX2_changeFlag_54 (by decide) ?_
    refine g_iconst (v := 1) hc dX2_changeFlag_55 (by decide) ?_
    refine g_callVV hc 18 [.int 1, .int (bI true)] (fun l => c_X2_setFlag l k η 1 true S) wtC_255 ge_X2_setFlag rfl ⟨rfl, rfl⟩ ⟨Nat.le_of_ble_eq_true rfl, Nat.le_of_ble_eq_true rfl⟩ rfl rfl rfl (Nat.le_of_ble_eq_true rfl) dX2_changeFlag_56 (fun r2 S2 e2 f2 => ?_)
    refine g_goto (tgt := 110) hc dX2_changeFlag_59 rfl ?_
    exact g_vret hc dX2_changeFlag_110
  refine g_tsw (tgt := 62) hc 42 dX2_changeFlag_1 ⟨by decide, by decide, rfl⟩ rfl (fun c_1_42 => ?_) (fun c_1_42 => ?_)
  · refine g_aload_n (i := 0) hc 0 dX2_changeFlag_62 rfl rfl ?_
    refine g_iconst (v := 4) hc dX2_changeFlag_63 (by decide) ?_
    refine g_iconst (v := 0) hc dX2_changeFlag_64 (by decide) ?_
    refine g_callVV hc 18 [.int 4, .int (bI false)] (fun l => c_X2_setFlag l k η 4 false S) wtC_255 ge_X2_setFlag rfl ⟨rfl, rfl⟩ ⟨Nat.le_of_ble_eq_true rfl, Nat.le_of_ble_eq_true rfl⟩ rfl rfl rfl (Nat.le_of_ble_eq_true rfl) dX2_changeFlag_65 (fun r3 S3 e3 f3 => ?_)
    refine g_goto (tgt := 110) hc dX2_changeFlag_68 rfl ?_
    exact g_vret hc dX2_changeFlag_110
  refine g_tsw (tgt := 71) hc 43 dX2_changeFlag_1 ⟨by decide, by decide, rfl⟩ rfl (fun c_1_43 => ?_) (fun c_1_43 => ?_)
  · refine g_aload_n (i := 0) hc 0 dX2_changeFlag_71 rfl rfl ?_
    refine g_iconst (v := 4) hc dX2_changeFlag_72 (by decide) ?_
    refine g_iconst (v := 1) hc dX2_changeFlag_73 (by decide) ?_
    refine g_callVV hc 18 [.int 4, .int (bI true)] (fun l => c_X2_setFlag l k η 4 true S) wtC_255 ge_X2_setFlag rfl ⟨rfl, rfl⟩ ⟨Nat.le_of_ble_eq_true rfl, Nat.le_of_ble_eq_true rfl⟩ rfl rfl rfl (Nat.le_of_ble_eq_true rfl) dX2_changeFlag_74 (fun r4 S4 e4 f4 => ?_)
    refine g_goto (tgt := 110) hc dX2_changeFlag_77 rfl ?_
    exact g_vret hc dX2_changeFlag_110
  refine g_tsw (tgt := 80) hc 44 dX2_changeFlag_1 ⟨by decide, by decide, rfl⟩ rfl (fun c_1_44 => ?_) (fun c_1_44 => ?_)
  · refine g_aload_n (i := 0) hc 0 dX2_changeFlag_80 rfl rfl ?_
    refine g_bipush (v := 64) hc dX2_changeFlag_81 (by decide) ?_
    refine g_iconst (v := 0) hc dX2_changeFlag_83 (by decide) ?_
    refine g_callVV hc 18 [.int 64, .int (bI false)] (fun l => c_X2_setFlag l k η 64 false S) wtC_255 ge_X2_setFlag rfl ⟨rfl, rfl⟩ ⟨Nat.le_of_ble_eq_true rfl, Nat.le_of_ble_eq_true rfl⟩ rfl rfl rfl (Nat.le_of_ble_eq_true rfl) dX2_changeFlag_84 (fun r5 S5 e5 f5 => ?_)
    refine g_goto (tgt := 110) hc dX2_changeFlag_87 rfl ?_
    exact g_vret hc dX2_changeFlag_110
  refine g_tsw (tgt := 90) hc 45 dX2_changeFlag_1 ⟨by decide, by decide, rfl⟩ rfl (fun c_1_45 => ?_) (fun c_1_45 => ?_)
  · refine g_aload_n (i := 0) hc 0 dX2_changeFlag_90 rfl rfl ?_
    refine g_bipush (v := 8) hc dX2_changeFlag_91 (by decide) ?_
    refine g_iconst (v := 0) hc dX2_changeFlag_93 (by decide) ?_
    refine g_callVV hc 18 [.int 8, .int (bI false)] (fun l => c_X2_setFlag l k η 8 false S) wtC_255 ge_X2_setFlag rfl ⟨rfl, rfl⟩ ⟨Nat.le_of_ble_eq_true rfl, Nat.le_of_ble_eq_true rfl⟩ rfl rfl rfl (Nat.le_of_ble_eq_true rfl) dX2_changeFlag_94 (fun r6 S6 e6 f6 => ?_)
    refine g_goto (tgt := 110) hc dX2_changeFlag_97 rfl ?_
    exact g_vret hc dX2_changeFlag_110
  refine g_tsw (tgt := 100) hc 46 dX2_changeFlag_1 ⟨by decide, by decide, rfl⟩ rfl (fun c_1_46 => ?_) (fun c_1_46 => ?_)
  · refine g_aload_n (i := 0) hc 0 dX2_changeFlag_100 rfl rfl ?_
    refine g_bipush (v := 8) hc dX2_changeFlag_101 (by decide) ?_
    refine g_iconst (v := 1) hc dX2_changeFlag_103 (by decide) ?_
    refine g_callVV hc 18 [.int 8, .int (bI true)] (fun l => c_X2_setFlag l k η 8 true S) wtC_255 ge_X2_setFlag rfl ⟨rfl, rfl⟩ ⟨Nat.le_of_ble_eq_true rfl, Nat.le_of_ble_eq_true rfl⟩ rfl rfl rfl (Nat.le_of_ble_eq_true rfl) dX2_changeFlag_104 (fun r7 S7 e7 f7 => ?_)
    refine g_goto (tgt := 110) hc dX2_changeFlag_107 rfl ?_
    exact g_vret hc dX2_changeFlag_110
  refine g_tswd (tgt := 110) hc dX2_changeFlag_1 (by have := lv_neT c_1_40 (a := 40) (by decide); have := lv_neT c_1_41 (a := 41) (by decide); have := lv_neT c_1_42 (a := 42) (by decide); have := lv_neT c_1_43 (a := 43) (by decide); have := lv_neT c_1_44 (a := 44) (by decide); have := lv_neT c_1_45 (a := 45) (by decide); have := lv_neT c_1_46 (a := 46) (by decide); omega) rfl ?_
  exact g_vret hc dX2_changeFlag_110

abbrev rm_X2_useStack : Room := { frames := 3, cells := 0, slots := 0, locals := 61 }
def sp_X2_useStack (k : Bool) (a0 : Int32) (S : gSt) : Unit × gSt := (if a0 = 48 then gB (sp_X2_push k (S.1 27) S) (fun (_ : Unit) S1 => ((), S1)) else (if a0 = 49 then gB (sp_X2_push k ((S.1 31) ||| 16) S) (fun (_ : Unit) S2 => ((), S2)) else (if a0 = 50 then gB (sp_X2_pull k S) (fun r3 S3 => gB (sp_X2_judged k r3 S3) (fun r4 S4 => gL (sI S4 27 r4) (fun S5 => ((), S5)))) else gB (sp_X2_pullFlags k S) (fun (_ : Unit) S6 => ((), S6)))))
set_option maxRecDepth 100000 in
set_option maxHeartbeats 4000000 in
theorem c_X2_useStack (l : Launch) (k : Bool) (η : gE) (a0 : Int32) (S : gSt) : gMet l yX2_useStack cX2_useStack 2 none rm_X2_useStack (oC k η) [.ref (η.1 18), .int a0] S (oV (sp_X2_useStack k a0 S).1) (sp_X2_useStack k a0 S).2 := by
  refine gMet_of (X := sp_X2_useStack k a0 S) (lv := [(0, .ref (η.1 18)), (1, .int a0)]) oV (zC_ok η) (by decide +kernel) (Nat.le_of_ble_eq_true rfl) rfl (fun κ hc => ?_)
  have hc : gC (oC k η) κ cX2_useStack 2 RX2 none rm_X2_useStack := hc
  unfold sp_X2_useStack
  refine g_iload_n (i := 1) hc 1 dX2_useStack_0 rfl rfl ?_
  refine g_tsw (tgt := 28) hc 48 dX2_useStack_1 ⟨by decide, by decide, rfl⟩ rfl (fun c_1_48 => ?_) (fun c_1_48 => ?_)
  · refine g_aload_n (i := 0) hc 0 dX2_useStack_28 rfl rfl ?_
    refine g_aload_n (i := 0) hc 0 dX2_useStack_29 rfl rfl ?_
    refine gf_C_18_a hc wtC_305 dX2_useStack_30 ?_
    refine g_callVV hc 18 [.int (S.1 27)] (fun l => c_X2_push l k η (S.1 27) S) wtC_265 ge_X2_push rfl ⟨rfl, rfl⟩ ⟨Nat.le_of_ble_eq_true rfl, Nat.le_of_ble_eq_true rfl⟩ rfl rfl rfl (Nat.le_of_ble_eq_true rfl) dX2_useStack_33 (fun r1 S1 e1 f1 => ?_)
    refine g_goto (tgt := 72) hc dX2_useStack_36 rfl ?_
    exact g_vret hc dX2_useStack_72
  refine g_tsw (tgt := 39) hc 49 dX2_useStack_1 ⟨by decide, by decide, rfl⟩ rfl (fun c_1_49 => ?_) (fun c_1_49 => ?_)
  · refine g_aload_n (i := 0) hc 0 dX2_useStack_39 rfl rfl ?_
    refine g_aload_n (i := 0) hc 0 dX2_useStack_40 rfl rfl ?_
    refine gf_C_18_p hc wtC_250 dX2_useStack_41 ?_
    refine g_bipush (v := 16) hc dX2_useStack_44 (by decide) ?_
    refine g_ior hc dX2_useStack_46 ?_
    refine g_callVV hc 18 [.int ((S.1 31) ||| 16)] (fun l => c_X2_push l k η ((S.1 31) ||| 16) S) wtC_265 ge_X2_push rfl ⟨rfl, rfl⟩ ⟨Nat.le_of_ble_eq_true rfl, Nat.le_of_ble_eq_true rfl⟩ rfl rfl rfl (Nat.le_of_ble_eq_true rfl) dX2_useStack_47 (fun r2 S2 e2 f2 => ?_)
    refine g_goto (tgt := 72) hc dX2_useStack_50 rfl ?_
    exact g_vret hc dX2_useStack_72
  refine g_tsw (tgt := 53) hc 50 dX2_useStack_1 ⟨by decide, by decide, rfl⟩ rfl (fun c_1_50 => ?_) (fun c_1_50 => ?_)
  · refine g_aload_n (i := 0) hc 0 dX2_useStack_53 rfl rfl ?_
    refine g_aload_n (i := 0) hc 0 dX2_useStack_54 rfl rfl ?_
    refine g_aload_n (i := 0) hc 0 dX2_useStack_55 rfl rfl ?_
    refine g_callVI hc 18 [] (fun l => c_X2_pull l k η S) wtC_273 ge_X2_pull rfl ⟨rfl, rfl⟩ ⟨Nat.le_of_ble_eq_true rfl, Nat.le_of_ble_eq_true rfl⟩ rfl rfl rfl (Nat.le_of_ble_eq_true rfl) dX2_useStack_56 (fun r3 S3 e3 f3 => ?_)
    refine g_callVI hc 18 [.int r3] (fun l => c_X2_judged l k η r3 S3) wtC_309 ge_X2_judged rfl ⟨rfl, rfl⟩ ⟨Nat.le_of_ble_eq_true rfl, Nat.le_of_ble_eq_true rfl⟩ rfl rfl rfl (Nat.le_of_ble_eq_true rfl) dX2_useStack_59 (fun r4 S4 e4 f4 => ?_)
    refine pf_C_18_a (v := r4) hc wtC_305 dX2_useStack_62 (fun S5 f5 => ?_)
    refine g_goto (tgt := 72) hc dX2_useStack_65 rfl ?_
    exact g_vret hc dX2_useStack_72
  refine g_tswd (tgt := 68) hc dX2_useStack_1 (by have := lv_neT c_1_48 (a := 48) (by decide); have := lv_neT c_1_49 (a := 49) (by decide); have := lv_neT c_1_50 (a := 50) (by decide); omega) rfl ?_
  refine g_aload_n (i := 0) hc 0 dX2_useStack_68 rfl rfl ?_
  refine g_callVV hc 18 [] (fun l => c_X2_pullFlags l k η S) wtC_345 ge_X2_pullFlags rfl ⟨rfl, rfl⟩ ⟨Nat.le_of_ble_eq_true rfl, Nat.le_of_ble_eq_true rfl⟩ rfl rfl rfl (Nat.le_of_ble_eq_true rfl) dX2_useStack_69 (fun r6 S6 e6 f6 => ?_)
  exact g_vret hc dX2_useStack_72

abbrev rm_X2_jump : Room := { frames := 4, cells := 0, slots := 0, locals := 87 }
def sp_X2_jump (k : Bool) (a0 : Int32) (a1 : Int32) (S : gSt) : Unit × gSt := (if a0 = 52 then gL (sI S 32 a1) (fun S1 => ((), S1)) else (if a0 = 53 then gB (sp_X2_pushWord k ((S.1 32) - 1) S) (fun (_ : Unit) S2 => gL (sI S2 32 a1) (fun S3 => ((), S3))) else (if a0 = 54 then gB (sp_X2_pullWord k S) (fun r4 S4 => gL (sI S4 32 ((r4 + 1) &&& 65535)) (fun S5 => ((), S5))) else (if a0 = 55 then gB (sp_X2_pullFlags k S) (fun (_ : Unit) S6 => gB (sp_X2_pullWord k S6) (fun r7 S7 => gL (sI S7 32 r7) (fun S8 => ((), S8)))) else gB (sp_X2_enter k 65534 ((S.1 32) + 1) ((S.1 31) ||| 16) S) (fun (_ : Unit) S9 => ((), S9))))))
set_option maxRecDepth 100000 in
set_option maxHeartbeats 4000000 in
theorem c_X2_jump (l : Launch) (k : Bool) (η : gE) (a0 : Int32) (a1 : Int32) (S : gSt) : gMet l yX2_jump cX2_jump 3 none rm_X2_jump (oC k η) [.ref (η.1 18), .int a0, .int a1] S (oV (sp_X2_jump k a0 a1 S).1) (sp_X2_jump k a0 a1 S).2 := by
  refine gMet_of (X := sp_X2_jump k a0 a1 S) (lv := [(0, .ref (η.1 18)), (1, .int a0), (2, .int a1)]) oV (zC_ok η) (by decide +kernel) (Nat.le_of_ble_eq_true rfl) rfl (fun κ hc => ?_)
  have hc : gC (oC k η) κ cX2_jump 3 RX2 none rm_X2_jump := hc
  unfold sp_X2_jump
  refine g_iload_n (i := 1) hc 1 dX2_jump_0 rfl rfl ?_
  refine g_tsw (tgt := 32) hc 52 dX2_jump_1 ⟨by decide, by decide, rfl⟩ rfl (fun c_1_52 => ?_) (fun c_1_52 => ?_)
  · refine g_aload_n (i := 0) hc 0 dX2_jump_32 rfl rfl ?_
    refine g_iload_n (i := 2) hc 2 dX2_jump_33 rfl rfl ?_
    refine pf_C_18_pc (v := a1) hc wtC_282 dX2_jump_34 (fun S1 f1 => ?_)
    refine g_goto (tgt := 108) hc dX2_jump_37 rfl ?_
    exact g_vret hc dX2_jump_108
  refine g_tsw (tgt := 40) hc 53 dX2_jump_1 ⟨by decide, by decide, rfl⟩ rfl (fun c_1_53 => ?_) (fun c_1_53 => ?_)
  · refine g_aload_n (i := 0) hc 0 dX2_jump_40 rfl rfl ?_
    refine g_aload_n (i := 0) hc 0 dX2_jump_41 rfl rfl ?_
    refine gf_C_18_pc hc wtC_282 dX2_jump_42 ?_
    refine g_iconst (v := 1) hc dX2_jump_45 (by decide) ?_
    refine g_isub hc dX2_jump_46 ?_
    refine g_callVV hc 18 [.int ((S.1 32) - 1)] (fun l => c_X2_pushWord l k η ((S.1 32) - 1) S) wtC_277 ge_X2_pushWord rfl ⟨rfl, rfl⟩ ⟨Nat.le_of_ble_eq_true rfl, Nat.le_of_ble_eq_true rfl⟩ rfl rfl rfl (Nat.le_of_ble_eq_true rfl) dX2_jump_47 (fun r2 S2 e2 f2 => ?_)
    refine g_aload_n (i := 0) hc 0 dX2_jump_50 rfl rfl ?_
    refine g_iload_n (i := 2) hc 2 dX2_jump_51 rfl rfl ?_
    refine pf_C_18_pc (v := a1) hc wtC_282 dX2_jump_52 (fun S3 f3 => ?_)
    refine g_goto (tgt := 108) hc dX2_jump_55 rfl ?_
    exact g_vret hc dX2_jump_108
  refine g_tsw (tgt := 58) hc 54 dX2_jump_1 ⟨by decide, by decide, rfl⟩ rfl (fun c_1_54 => ?_) (fun c_1_54 => ?_)
  · refine g_aload_n (i := 0) hc 0 dX2_jump_58 rfl rfl ?_
    refine g_aload_n (i := 0) hc 0 dX2_jump_59 rfl rfl ?_
    refine g_callVI hc 18 [] (fun l => c_X2_pullWord l k η S) wtC_349 ge_X2_pullWord rfl ⟨rfl, rfl⟩ ⟨Nat.le_of_ble_eq_true rfl, Nat.le_of_ble_eq_true rfl⟩ rfl rfl rfl (Nat.le_of_ble_eq_true rfl) dX2_jump_60 (fun r4 S4 e4 f4 => ?_)
    refine g_iconst (v := 1) hc dX2_jump_63 (by decide) ?_
    refine g_iadd hc dX2_jump_64 ?_
    refine g_ldc (v := 65535) hc wtC_285 dX2_jump_65 ?_
    refine g_iand hc dX2_jump_67 ?_
    refine pf_C_18_pc (v := ((r4 + 1) &&& 65535)) hc wtC_282 dX2_jump_68 (fun S5 f5 => ?_)
    refine g_goto (tgt := 108) hc dX2_jump_71 rfl ?_
    exact g_vret hc dX2_jump_108
  refine g_tsw (tgt := 74) hc 55 dX2_jump_1 ⟨by decide, by decide, rfl⟩ rfl (fun c_1_55 => ?_) (fun c_1_55 => ?_)
  · refine g_aload_n (i := 0) hc 0 dX2_jump_74 rfl rfl ?_
    refine g_callVV hc 18 [] (fun l => c_X2_pullFlags l k η S) wtC_345 ge_X2_pullFlags rfl ⟨rfl, rfl⟩ ⟨Nat.le_of_ble_eq_true rfl, Nat.le_of_ble_eq_true rfl⟩ rfl rfl rfl (Nat.le_of_ble_eq_true rfl) dX2_jump_75 (fun r6 S6 e6 f6 => ?_)
    refine g_aload_n (i := 0) hc 0 dX2_jump_78 rfl rfl ?_
    refine g_aload_n (i := 0) hc 0 dX2_jump_79 rfl rfl ?_
    refine g_callVI hc 18 [] (fun l => c_X2_pullWord l k η S6) wtC_349 ge_X2_pullWord rfl ⟨rfl, rfl⟩ ⟨Nat.le_of_ble_eq_true rfl, Nat.le_of_ble_eq_true rfl⟩ rfl rfl rfl (Nat.le_of_ble_eq_true rfl) dX2_jump_80 (fun r7 S7 e7 f7 => ?_)
    refine pf_C_18_pc (v := r7) hc wtC_282 dX2_jump_83 (fun S8 f8 => ?_)
    refine g_goto (tgt := 108) hc dX2_jump_86 rfl ?_
    exact g_vret hc dX2_jump_108
  refine g_tswd (tgt := 89) hc dX2_jump_1 (by have := lv_neT c_1_52 (a := 52) (by decide); have := lv_neT c_1_53 (a := 53) (by decide); have := lv_neT c_1_54 (a := 54) (by decide); have := lv_neT c_1_55 (a := 55) (by decide); omega) rfl ?_
  refine g_aload_n (i := 0) hc 0 dX2_jump_89 rfl rfl ?_
  refine g_ldc (v := 65534) hc wtC_350 dX2_jump_90 ?_
  refine g_aload_n (i := 0) hc 0 dX2_jump_92 rfl rfl ?_
  refine gf_C_18_pc hc wtC_282 dX2_jump_93 ?_
  refine g_iconst (v := 1) hc dX2_jump_96 (by decide) ?_
  refine g_iadd hc dX2_jump_97 ?_
  refine g_aload_n (i := 0) hc 0 dX2_jump_98 rfl rfl ?_
  refine gf_C_18_p hc wtC_250 dX2_jump_99 ?_
  refine g_bipush (v := 16) hc dX2_jump_102 (by decide) ?_
  refine g_ior hc dX2_jump_104 ?_
  refine g_callVV hc 18 [.int 65534, .int ((S.1 32) + 1), .int ((S.1 31) ||| 16)] (fun l => c_X2_enter l k η 65534 ((S.1 32) + 1) ((S.1 31) ||| 16) S) wtC_354 ge_X2_enter rfl ⟨rfl, rfl⟩ ⟨Nat.le_of_ble_eq_true rfl, Nat.le_of_ble_eq_true rfl⟩ rfl rfl rfl (Nat.le_of_ble_eq_true rfl) dX2_jump_105 (fun r9 S9 e9 f9 => ?_)
  exact g_vret hc dX2_jump_108

abbrev rm_X2_perform : Room := { frames := 5, cells := 0, slots := 0, locals := 115 }
def sp_X2_perform (k : Bool) (a0 : Int32) (a1 : Int32) (a2 : Int32) (S : gSt) : Int32 × gSt := (if 12 < a0 then (if 15 < a0 then (if 21 < a0 then (if 29 < a0 then (if 39 < a0 then (if 47 < a0 then (if 51 < a0 then gB (sp_X2_jump k a0 a2 S) (fun (_ : Unit) S1 => (0, S1)) else gB (sp_X2_useStack k a0 S) (fun (_ : Unit) S2 => (0, S2))) else gB (sp_X2_changeFlag k a0 S) (fun (_ : Unit) S3 => (0, S3))) else gB (sp_X2_changeRegister k a0 S) (fun (_ : Unit) S4 => (0, S4))) else gB (sp_X2_branch k a0 a2 S) (fun r5 S5 => (r5, S5))) else gB (sp_X2_change k a0 a1 a2 S) (fun (_ : Unit) S6 => (0, S6))) else gB (sp_X2_stored k a0 S) (fun r7 S7 => gB (sp_X0_store k a2 r7 S7) (fun (_ : Unit) S8 => (0, S8)))) else (if a1 = 2 then gB (sp_X2_combine k a0 a2 S) (fun (_ : Unit) S9 => ((S9.1 33), S9)) else gB (sp_X0_load k a2 S) (fun r10 S10 => gB (sp_X2_combine k a0 r10 S10) (fun (_ : Unit) S11 => ((S11.1 33), S11)))))
set_option maxRecDepth 100000 in
set_option maxHeartbeats 4000000 in
theorem c_X2_perform (l : Launch) (k : Bool) (η : gE) (a0 : Int32) (a1 : Int32) (a2 : Int32) (S : gSt) : gMet l yX2_perform cX2_perform 5 (some .int) rm_X2_perform (oC k η) [.ref (η.1 18), .int a0, .int a1, .int a2] S (oI (sp_X2_perform k a0 a1 a2 S).1) (sp_X2_perform k a0 a1 a2 S).2 := by
  refine gMet_of (X := sp_X2_perform k a0 a1 a2 S) (lv := [(0, .ref (η.1 18)), (1, .int a0), (2, .int a1), (3, .int a2)]) oI (zC_ok η) (by decide +kernel) (Nat.le_of_ble_eq_true rfl) rfl (fun κ hc => ?_)
  have hc : gC (oC k η) κ cX2_perform 5 RX2 (some .int) rm_X2_perform := hc
  unfold sp_X2_perform
  refine g_iconst (v := 0) hc dX2_perform_0 (by decide) ?_
  refine g_istore (i := 4) (lv' := [(4, .int 0), (0, .ref (η.1 18)), (1, .int a0), (2, .int a1), (3, .int a2)]) hc dX2_perform_1 (by decide) rfl ?_
  refine g_iload_n (i := 1) hc 2 dX2_perform_3 rfl rfl ?_
  refine g_bipush (v := 12) hc dX2_perform_4 (by decide) ?_
  refine g_icmpgt (tgt := 40) hc dX2_perform_6 rfl (fun c_6 => ?_) (fun c_6 => ?_)
  · refine g_iload_n (i := 1) hc 2 dX2_perform_40 rfl rfl ?_
    refine g_bipush (v := 15) hc dX2_perform_41 (by decide) ?_
    refine g_icmpgt (tgt := 62) hc dX2_perform_43 rfl (fun c_43 => ?_) (fun c_43 => ?_)
    · refine g_iload_n (i := 1) hc 2 dX2_perform_62 rfl rfl ?_
      refine g_bipush (v := 21) hc dX2_perform_63 (by decide) ?_
      refine g_icmpgt (tgt := 78) hc dX2_perform_65 rfl (fun c_65 => ?_) (fun c_65 => ?_)
      · refine g_iload_n (i := 1) hc 2 dX2_perform_78 rfl rfl ?_
        refine g_bipush (v := 29) hc dX2_perform_79 (by decide) ?_
        refine g_icmpgt (tgt := 95) hc dX2_perform_81 rfl (fun c_81 => ?_) (fun c_81 => ?_)
        · refine g_iload_n (i := 1) hc 2 dX2_perform_95 rfl rfl ?_
          refine g_bipush (v := 39) hc dX2_perform_96 (by decide) ?_
          refine g_icmpgt (tgt := 109) hc dX2_perform_98 rfl (fun c_98 => ?_) (fun c_98 => ?_)
          · refine g_iload_n (i := 1) hc 2 dX2_perform_109 rfl rfl ?_
            refine g_bipush (v := 47) hc dX2_perform_110 (by decide) ?_
            refine g_icmpgt (tgt := 123) hc dX2_perform_112 rfl (fun c_112 => ?_) (fun c_112 => ?_)
            · refine g_iload_n (i := 1) hc 2 dX2_perform_123 rfl rfl ?_
              refine g_bipush (v := 51) hc dX2_perform_124 (by decide) ?_
              refine g_icmpgt (tgt := 137) hc dX2_perform_126 rfl (fun c_126 => ?_) (fun c_126 => ?_)
              · refine g_aload_n (i := 0) hc 1 dX2_perform_137 rfl rfl ?_
                refine g_iload_n (i := 1) hc 2 dX2_perform_138 rfl rfl ?_
                refine g_iload_n (i := 3) hc 4 dX2_perform_139 rfl rfl ?_
                refine g_callVV hc 18 [.int a0, .int a2] (fun l => c_X2_jump l k η a0 a2 S) wtC_358 ge_X2_jump rfl ⟨rfl, rfl⟩ ⟨Nat.le_of_ble_eq_true rfl, Nat.le_of_ble_eq_true rfl⟩ rfl rfl rfl (Nat.le_of_ble_eq_true rfl) dX2_perform_140 (fun r1 S1 e1 f1 => ?_)
                refine g_iload (i := 4) hc 0 dX2_perform_143 rfl ?_
                exact g_iret hc dX2_perform_145
              · refine g_aload_n (i := 0) hc 1 dX2_perform_129 rfl rfl ?_
                refine g_iload_n (i := 1) hc 2 dX2_perform_130 rfl rfl ?_
                refine g_callVV hc 18 [.int a0] (fun l => c_X2_useStack l k η a0 S) wtC_362 ge_X2_useStack rfl ⟨rfl, rfl⟩ ⟨Nat.le_of_ble_eq_true rfl, Nat.le_of_ble_eq_true rfl⟩ rfl rfl rfl (Nat.le_of_ble_eq_true rfl) dX2_perform_131 (fun r2 S2 e2 f2 => ?_)
                refine g_goto (tgt := 143) hc dX2_perform_134 rfl ?_
                refine g_iload (i := 4) hc 0 dX2_perform_143 rfl ?_
                exact g_iret hc dX2_perform_145
            · refine g_aload_n (i := 0) hc 1 dX2_perform_115 rfl rfl ?_
              refine g_iload_n (i := 1) hc 2 dX2_perform_116 rfl rfl ?_
              refine g_callVV hc 18 [.int a0] (fun l => c_X2_changeFlag l k η a0 S) wtC_366 ge_X2_changeFlag rfl ⟨rfl, rfl⟩ ⟨Nat.le_of_ble_eq_true rfl, Nat.le_of_ble_eq_true rfl⟩ rfl rfl rfl (Nat.le_of_ble_eq_true rfl) dX2_perform_117 (fun r3 S3 e3 f3 => ?_)
              refine g_goto (tgt := 143) hc dX2_perform_120 rfl ?_
              refine g_iload (i := 4) hc 0 dX2_perform_143 rfl ?_
              exact g_iret hc dX2_perform_145
          · refine g_aload_n (i := 0) hc 1 dX2_perform_101 rfl rfl ?_
            refine g_iload_n (i := 1) hc 2 dX2_perform_102 rfl rfl ?_
            refine g_callVV hc 18 [.int a0] (fun l => c_X2_changeRegister l k η a0 S) wtC_370 ge_X2_changeRegister rfl ⟨rfl, rfl⟩ ⟨Nat.le_of_ble_eq_true rfl, Nat.le_of_ble_eq_true rfl⟩ rfl rfl rfl (Nat.le_of_ble_eq_true rfl) dX2_perform_103 (fun r4 S4 e4 f4 => ?_)
            refine g_goto (tgt := 143) hc dX2_perform_106 rfl ?_
            refine g_iload (i := 4) hc 0 dX2_perform_143 rfl ?_
            exact g_iret hc dX2_perform_145
        · refine g_aload_n (i := 0) hc 1 dX2_perform_84 rfl rfl ?_
          refine g_iload_n (i := 1) hc 2 dX2_perform_85 rfl rfl ?_
          refine g_iload_n (i := 3) hc 4 dX2_perform_86 rfl rfl ?_
          refine g_callVI hc 18 [.int a0, .int a2] (fun l => c_X2_branch l k η a0 a2 S) wtC_374 ge_X2_branch rfl ⟨rfl, rfl⟩ ⟨Nat.le_of_ble_eq_true rfl, Nat.le_of_ble_eq_true rfl⟩ rfl rfl rfl (Nat.le_of_ble_eq_true rfl) dX2_perform_87 (fun r5 S5 e5 f5 => ?_)
          refine g_istore (i := 4) (lv' := [(4, .int r5), (0, .ref (η.1 18)), (1, .int a0), (2, .int a1), (3, .int a2)]) hc dX2_perform_90 (by decide) rfl ?_
          refine g_goto (tgt := 143) hc dX2_perform_92 rfl ?_
          refine g_iload (i := 4) hc 0 dX2_perform_143 rfl ?_
          exact g_iret hc dX2_perform_145
      · refine g_aload_n (i := 0) hc 1 dX2_perform_68 rfl rfl ?_
        refine g_iload_n (i := 1) hc 2 dX2_perform_69 rfl rfl ?_
        refine g_iload_n (i := 2) hc 3 dX2_perform_70 rfl rfl ?_
        refine g_iload_n (i := 3) hc 4 dX2_perform_71 rfl rfl ?_
        refine g_callVV hc 18 [.int a0, .int a1, .int a2] (fun l => c_X2_change l k η a0 a1 a2 S) wtC_378 ge_X2_change rfl ⟨rfl, rfl⟩ ⟨Nat.le_of_ble_eq_true rfl, Nat.le_of_ble_eq_true rfl⟩ rfl rfl rfl (Nat.le_of_ble_eq_true rfl) dX2_perform_72 (fun r6 S6 e6 f6 => ?_)
        refine g_goto (tgt := 143) hc dX2_perform_75 rfl ?_
        refine g_iload (i := 4) hc 0 dX2_perform_143 rfl ?_
        exact g_iret hc dX2_perform_145
    · refine g_aload_n (i := 0) hc 1 dX2_perform_46 rfl rfl ?_
      refine gf_C_18_bus hc wtC_256 dX2_perform_47 ?_
      refine g_iload_n (i := 3) hc 4 dX2_perform_50 rfl rfl ?_
      refine g_aload_n (i := 0) hc 1 dX2_perform_51 rfl rfl ?_
      refine g_iload_n (i := 1) hc 2 dX2_perform_52 rfl rfl ?_
      refine g_callVI hc 18 [.int a0] (fun l => c_X2_stored l k η a0 S) wtC_382 ge_X2_stored rfl ⟨rfl, rfl⟩ ⟨Nat.le_of_ble_eq_true rfl, Nat.le_of_ble_eq_true rfl⟩ rfl rfl rfl (Nat.le_of_ble_eq_true rfl) dX2_perform_53 (fun r7 S7 e7 f7 => ?_)
      refine g_callVV hc 15 [.int a2, .int r7] (fun l => c_X0_store l k η a2 r7 S7) wtC_337 ge_X0_store rfl ⟨rfl, rfl⟩ ⟨Nat.le_of_ble_eq_true rfl, Nat.le_of_ble_eq_true rfl⟩ rfl rfl rfl (Nat.le_of_ble_eq_true rfl) dX2_perform_56 (fun r8 S8 e8 f8 => ?_)
      refine g_goto (tgt := 143) hc dX2_perform_59 rfl ?_
      refine g_iload (i := 4) hc 0 dX2_perform_143 rfl ?_
      exact g_iret hc dX2_perform_145
  · refine g_aload_n (i := 0) hc 1 dX2_perform_9 rfl rfl ?_
    refine g_iload_n (i := 1) hc 2 dX2_perform_10 rfl rfl ?_
    refine g_iload_n (i := 2) hc 3 dX2_perform_11 rfl rfl ?_
    refine g_iconst (v := 2) hc dX2_perform_12 (by decide) ?_
    refine g_icmpne (tgt := 20) hc dX2_perform_13 rfl (fun c_13 => ?_) (fun c_13 => ?_)
    · refine g_iload_n (i := 3) hc 4 dX2_perform_16 rfl rfl ?_
      refine g_goto (tgt := 28) hc dX2_perform_17 rfl ?_
      refine g_callVV hc 18 [.int a0, .int a2] (fun l => c_X2_combine l k η a0 a2 S) wtC_386 ge_X2_combine rfl ⟨rfl, rfl⟩ ⟨Nat.le_of_ble_eq_true rfl, Nat.le_of_ble_eq_true rfl⟩ rfl rfl rfl (Nat.le_of_ble_eq_true rfl) dX2_perform_28 (fun r9 S9 e9 f9 => ?_)
      refine g_aload_n (i := 0) hc 1 dX2_perform_31 rfl rfl ?_
      refine gf_C_18_crossed hc wtC_294 dX2_perform_32 ?_
      refine g_istore (i := 4) (lv' := [(4, .int (S9.1 33)), (0, .ref (η.1 18)), (1, .int a0), (2, .int a1), (3, .int a2)]) hc dX2_perform_35 (by decide) rfl ?_
      refine g_goto (tgt := 143) hc dX2_perform_37 rfl ?_
      refine g_iload (i := 4) hc 0 dX2_perform_143 rfl ?_
      exact g_iret hc dX2_perform_145
    · refine g_aload_n (i := 0) hc 1 dX2_perform_20 rfl rfl ?_
      refine gf_C_18_bus hc wtC_256 dX2_perform_21 ?_
      refine g_iload_n (i := 3) hc 4 dX2_perform_24 rfl rfl ?_
      refine g_callVI hc 15 [.int a2] (fun l => c_X0_load l k η a2 S) wtC_284 ge_X0_load rfl ⟨rfl, rfl⟩ ⟨Nat.le_of_ble_eq_true rfl, Nat.le_of_ble_eq_true rfl⟩ rfl rfl rfl (Nat.le_of_ble_eq_true rfl) dX2_perform_25 (fun r10 S10 e10 f10 => ?_)
      refine g_callVV hc 18 [.int a0, .int r10] (fun l => c_X2_combine l k η a0 r10 S10) wtC_386 ge_X2_combine rfl ⟨rfl, rfl⟩ ⟨Nat.le_of_ble_eq_true rfl, Nat.le_of_ble_eq_true rfl⟩ rfl rfl rfl (Nat.le_of_ble_eq_true rfl) dX2_perform_28 (fun r11 S11 e11 f11 => ?_)
      refine g_aload_n (i := 0) hc 1 dX2_perform_31 rfl rfl ?_
      refine gf_C_18_crossed hc wtC_294 dX2_perform_32 ?_
      refine g_istore (i := 4) (lv' := [(4, .int (S11.1 33)), (0, .ref (η.1 18)), (1, .int a0), (2, .int a1), (3, .int a2)]) hc dX2_perform_35 (by decide) rfl ?_
      refine g_goto (tgt := 143) hc dX2_perform_37 rfl ?_
      refine g_iload (i := 4) hc 0 dX2_perform_143 rfl ?_
      exact g_iret hc dX2_perform_145

abbrev rm_X2_takeStep : Room := { frames := 6, cells := 0, slots := 0, locals := 139 }
def sp_X2_takeStep (k : Bool) (a0 : Bool) (a1 : Bool) (S : gSt) : Int32 × gSt := (if (bI a0) = 0 then (if (bI a1) = 0 then gB (sp_X2_fetch k S) (fun r1 S1 => (if (tOP (r1 &&& 255).toNatClampNeg) = 0 then gL (sI S1 32 (S.1 32)) (fun S2 => (((tCY (r1 &&& 255).toNatClampNeg) + 0), S2)) else gB (sp_X2_fetchOperand k (tMO (r1 &&& 255).toNatClampNeg) S1) (fun r3 S3 => gB (sp_X2_addressOf k (tMO (r1 &&& 255).toNatClampNeg) r3 S3) (fun r4 S4 => gB (sp_X2_perform k (tOP (r1 &&& 255).toNatClampNeg) (tMO (r1 &&& 255).toNatClampNeg) r4 S4) (fun r5 S5 => (((tCY (r1 &&& 255).toNatClampNeg) + r5), S5)))))) else (if ((S.1 31) &&& 4) = 0 then gB (sp_X2_enter k 65534 (S.1 32) (S.1 31) S) (fun (_ : Unit) S6 => (7, S6)) else gB (sp_X2_fetch k S) (fun r7 S7 => (if (tOP (r7 &&& 255).toNatClampNeg) = 0 then gL (sI S7 32 (S.1 32)) (fun S8 => (((tCY (r7 &&& 255).toNatClampNeg) + 0), S8)) else gB (sp_X2_fetchOperand k (tMO (r7 &&& 255).toNatClampNeg) S7) (fun r9 S9 => gB (sp_X2_addressOf k (tMO (r7 &&& 255).toNatClampNeg) r9 S9) (fun r10 S10 => gB (sp_X2_perform k (tOP (r7 &&& 255).toNatClampNeg) (tMO (r7 &&& 255).toNatClampNeg) r10 S10) (fun r11 S11 => (((tCY (r7 &&& 255).toNatClampNeg) + r11), S11)))))))) else gB (sp_X2_enter k 65530 (S.1 32) (S.1 31) S) (fun (_ : Unit) S12 => (7, S12)))
set_option maxRecDepth 100000 in
set_option maxHeartbeats 4000000 in
theorem c_X2_takeStep (l : Launch) (k : Bool) (η : gE) (a0 : Bool) (a1 : Bool) (S : gSt) : gMet l yX2_takeStep cX2_takeStep 8 (some .int) rm_X2_takeStep (oC k η) [.ref (η.1 18), .int (bI a0), .int (bI a1)] S (oI (sp_X2_takeStep k a0 a1 S).1) (sp_X2_takeStep k a0 a1 S).2 := by
  refine gMet_of (X := sp_X2_takeStep k a0 a1 S) (lv := [(0, .ref (η.1 18)), (1, .int (bI a0)), (2, .int (bI a1))]) oI (zC_ok η) (by decide +kernel) (Nat.le_of_ble_eq_true rfl) rfl (fun κ hc => ?_)
  have hc : gC (oC k η) κ cX2_takeStep 8 RX2 (some .int) rm_X2_takeStep := hc
  unfold sp_X2_takeStep
  refine g_iload_n (i := 1) hc 1 dX2_takeStep_0 rfl rfl ?_
  refine g_ifeq (tgt := 21) hc dX2_takeStep_1 rfl (fun c_1 => ?_) (fun c_1 => ?_)
  · refine g_iload_n (i := 2) hc 2 dX2_takeStep_21 rfl rfl ?_
    refine g_ifeq (tgt := 51) hc dX2_takeStep_22 rfl (fun c_22 => ?_) (fun c_22 => ?_)
    · refine g_aload_n (i := 0) hc 0 dX2_takeStep_51 rfl rfl ?_
      refine gf_C_18_pc hc wtC_282 dX2_takeStep_52 ?_
      refine g_istore_n (i := 3) (lv' := [(3, .int (S.1 32)), (0, .ref (η.1 18)), (1, .int (bI a0)), (2, .int (bI a1))]) hc dX2_takeStep_55 rfl (by decide) rfl ?_
      refine g_aload_n (i := 0) hc 1 dX2_takeStep_56 rfl rfl ?_
      refine g_callVI hc 18 [] (fun l => c_X2_fetch l k η S) wtC_289 ge_X2_fetch rfl ⟨rfl, rfl⟩ ⟨Nat.le_of_ble_eq_true rfl, Nat.le_of_ble_eq_true rfl⟩ rfl rfl rfl (Nat.le_of_ble_eq_true rfl) dX2_takeStep_57 (fun r1 S1 e1 f1 => ?_)
      refine g_sipush (v := 255) hc dX2_takeStep_60 (by decide) ?_
      refine g_iand hc dX2_takeStep_63 ?_
      refine g_istore (i := 4) (lv' := [(4, .int (r1 &&& 255)), (3, .int (S.1 32)), (0, .ref (η.1 18)), (1, .int (bI a0)), (2, .int (bI a1))]) hc dX2_takeStep_64 (by decide) rfl ?_
      refine g_gets (t := η.2.2.2.2 0) hc (zC_z0 η) wtC_387 rfl dX2_takeStep_66 ?_
      refine g_iload (i := 4) hc 0 dX2_takeStep_69 rfl ?_
      refine g_ti (v := .int (tOP (r1 &&& 255).toNatClampNeg)) hc (zC_t0 η) (pk_andIn _ 8 (by decide) (by decide)) rfl dX2_takeStep_71 ?_
      refine g_istore (i := 5) (lv' := [(5, .int (tOP (r1 &&& 255).toNatClampNeg)), (4, .int (r1 &&& 255)), (3, .int (S.1 32)), (0, .ref (η.1 18)), (1, .int (bI a0)), (2, .int (bI a1))]) hc dX2_takeStep_72 (by decide) rfl ?_
      refine g_iconst (v := 0) hc dX2_takeStep_74 (by decide) ?_
      refine g_istore (i := 6) (lv' := [(6, .int 0), (5, .int (tOP (r1 &&& 255).toNatClampNeg)), (4, .int (r1 &&& 255)), (3, .int (S.1 32)), (0, .ref (η.1 18)), (1, .int (bI a0)), (2, .int (bI a1))]) hc dX2_takeStep_75 (by decide) rfl ?_
      refine g_iload (i := 5) hc 1 dX2_takeStep_77 rfl ?_
      refine g_ifne (tgt := 90) hc dX2_takeStep_79 rfl (fun c_79 => ?_) (fun c_79 => ?_)
      · refine g_aload_n (i := 0) hc 4 dX2_takeStep_82 rfl rfl ?_
        refine g_iload_n (i := 3) hc 3 dX2_takeStep_83 rfl rfl ?_
        refine pf_C_18_pc (v := (S.1 32)) hc wtC_282 dX2_takeStep_84 (fun S2 f2 => ?_)
        refine g_goto (tgt := 120) hc dX2_takeStep_87 rfl ?_
        refine g_gets (t := η.2.2.2.2 2) hc (zC_z2 η) wtC_388 rfl dX2_takeStep_120 ?_
        refine g_iload (i := 4) hc 2 dX2_takeStep_123 rfl ?_
        refine g_ti (v := .int (tCY (r1 &&& 255).toNatClampNeg)) hc (zC_t2 η) (pk_andIn _ 8 (by decide) (by decide)) rfl dX2_takeStep_125 ?_
        refine g_iload (i := 6) hc 0 dX2_takeStep_126 rfl ?_
        refine g_iadd hc dX2_takeStep_128 ?_
        exact g_iret hc dX2_takeStep_129
      · refine g_gets (t := η.2.2.2.2 1) hc (zC_z1 η) wtC_389 rfl dX2_takeStep_90 ?_
        refine g_iload (i := 4) hc 2 dX2_takeStep_93 rfl ?_
        refine g_ti (v := .int (tMO (r1 &&& 255).toNatClampNeg)) hc (zC_t1 η) (pk_andIn _ 8 (by decide) (by decide)) rfl dX2_takeStep_95 ?_
        refine g_istore (i := 7) (lv' := [(7, .int (tMO (r1 &&& 255).toNatClampNeg)), (6, .int 0), (5, .int (tOP (r1 &&& 255).toNatClampNeg)), (4, .int (r1 &&& 255)), (3, .int (S.1 32)), (0, .ref (η.1 18)), (1, .int (bI a0)), (2, .int (bI a1))]) hc dX2_takeStep_96 (by decide) rfl ?_
        refine g_aload_n (i := 0) hc 5 dX2_takeStep_98 rfl rfl ?_
        refine g_iload (i := 5) hc 2 dX2_takeStep_99 rfl ?_
        refine g_iload (i := 7) hc 0 dX2_takeStep_101 rfl ?_
        refine g_aload_n (i := 0) hc 5 dX2_takeStep_103 rfl rfl ?_
        refine g_iload (i := 7) hc 0 dX2_takeStep_104 rfl ?_
        refine g_aload_n (i := 0) hc 5 dX2_takeStep_106 rfl rfl ?_
        refine g_iload (i := 7) hc 0 dX2_takeStep_107 rfl ?_
        refine g_callVI hc 18 [.int (tMO (r1 &&& 255).toNatClampNeg)] (fun l => c_X2_fetchOperand l k η (tMO (r1 &&& 255).toNatClampNeg) S1) wtC_393 ge_X2_fetchOperand rfl ⟨rfl, rfl⟩ ⟨Nat.le_of_ble_eq_true rfl, Nat.le_of_ble_eq_true rfl⟩ rfl rfl rfl (Nat.le_of_ble_eq_true rfl) dX2_takeStep_109 (fun r3 S3 e3 f3 => ?_)
        refine g_callVI hc 18 [.int (tMO (r1 &&& 255).toNatClampNeg), .int r3] (fun l => c_X2_addressOf l k η (tMO (r1 &&& 255).toNatClampNeg) r3 S3) wtC_397 ge_X2_addressOf rfl ⟨rfl, rfl⟩ ⟨Nat.le_of_ble_eq_true rfl, Nat.le_of_ble_eq_true rfl⟩ rfl rfl rfl (Nat.le_of_ble_eq_true rfl) dX2_takeStep_112 (fun r4 S4 e4 f4 => ?_)
        refine g_callVI hc 18 [.int (tOP (r1 &&& 255).toNatClampNeg), .int (tMO (r1 &&& 255).toNatClampNeg), .int r4] (fun l => c_X2_perform l k η (tOP (r1 &&& 255).toNatClampNeg) (tMO (r1 &&& 255).toNatClampNeg) r4 S4) wtC_401 ge_X2_perform rfl ⟨rfl, rfl⟩ ⟨Nat.le_of_ble_eq_true rfl, Nat.le_of_ble_eq_true rfl⟩ rfl rfl rfl (Nat.le_of_ble_eq_true rfl) dX2_takeStep_115 (fun r5 S5 e5 f5 => ?_)
        refine g_istore (i := 6) (lv' := [(6, .int r5), (7, .int (tMO (r1 &&& 255).toNatClampNeg)), (5, .int (tOP (r1 &&& 255).toNatClampNeg)), (4, .int (r1 &&& 255)), (3, .int (S.1 32)), (0, .ref (η.1 18)), (1, .int (bI a0)), (2, .int (bI a1))]) hc dX2_takeStep_118 (by decide) rfl ?_
        refine g_gets (t := η.2.2.2.2 2) hc (zC_z2 η) wtC_388 rfl dX2_takeStep_120 ?_
        refine g_iload (i := 4) hc 3 dX2_takeStep_123 rfl ?_
        refine g_ti (v := .int (tCY (r1 &&& 255).toNatClampNeg)) hc (zC_t2 η) (pk_andIn _ 8 (by decide) (by decide)) rfl dX2_takeStep_125 ?_
        refine g_iload (i := 6) hc 0 dX2_takeStep_126 rfl ?_
        refine g_iadd hc dX2_takeStep_128 ?_
        exact g_iret hc dX2_takeStep_129
    · refine g_aload_n (i := 0) hc 0 dX2_takeStep_25 rfl rfl ?_
      refine gf_C_18_p hc wtC_250 dX2_takeStep_26 ?_
      refine g_iconst (v := 4) hc dX2_takeStep_29 (by decide) ?_
      refine g_iand hc dX2_takeStep_30 ?_
      refine g_ifne (tgt := 51) hc dX2_takeStep_31 rfl (fun c_31 => ?_) (fun c_31 => ?_)
      · refine g_aload_n (i := 0) hc 0 dX2_takeStep_34 rfl rfl ?_
        refine g_ldc (v := 65534) hc wtC_350 dX2_takeStep_35 ?_
        refine g_aload_n (i := 0) hc 0 dX2_takeStep_37 rfl rfl ?_
        refine gf_C_18_pc hc wtC_282 dX2_takeStep_38 ?_
        refine g_aload_n (i := 0) hc 0 dX2_takeStep_41 rfl rfl ?_
        refine gf_C_18_p hc wtC_250 dX2_takeStep_42 ?_
        refine g_callVV hc 18 [.int 65534, .int (S.1 32), .int (S.1 31)] (fun l => c_X2_enter l k η 65534 (S.1 32) (S.1 31) S) wtC_354 ge_X2_enter rfl ⟨rfl, rfl⟩ ⟨Nat.le_of_ble_eq_true rfl, Nat.le_of_ble_eq_true rfl⟩ rfl rfl rfl (Nat.le_of_ble_eq_true rfl) dX2_takeStep_45 (fun r6 S6 e6 f6 => ?_)
        refine g_bipush (v := 7) hc dX2_takeStep_48 (by decide) ?_
        exact g_iret hc dX2_takeStep_50
      · refine g_aload_n (i := 0) hc 0 dX2_takeStep_51 rfl rfl ?_
        refine gf_C_18_pc hc wtC_282 dX2_takeStep_52 ?_
        refine g_istore_n (i := 3) (lv' := [(3, .int (S.1 32)), (0, .ref (η.1 18)), (1, .int (bI a0)), (2, .int (bI a1))]) hc dX2_takeStep_55 rfl (by decide) rfl ?_
        refine g_aload_n (i := 0) hc 1 dX2_takeStep_56 rfl rfl ?_
        refine g_callVI hc 18 [] (fun l => c_X2_fetch l k η S) wtC_289 ge_X2_fetch rfl ⟨rfl, rfl⟩ ⟨Nat.le_of_ble_eq_true rfl, Nat.le_of_ble_eq_true rfl⟩ rfl rfl rfl (Nat.le_of_ble_eq_true rfl) dX2_takeStep_57 (fun r7 S7 e7 f7 => ?_)
        refine g_sipush (v := 255) hc dX2_takeStep_60 (by decide) ?_
        refine g_iand hc dX2_takeStep_63 ?_
        refine g_istore (i := 4) (lv' := [(4, .int (r7 &&& 255)), (3, .int (S.1 32)), (0, .ref (η.1 18)), (1, .int (bI a0)), (2, .int (bI a1))]) hc dX2_takeStep_64 (by decide) rfl ?_
        refine g_gets (t := η.2.2.2.2 0) hc (zC_z0 η) wtC_387 rfl dX2_takeStep_66 ?_
        refine g_iload (i := 4) hc 0 dX2_takeStep_69 rfl ?_
        refine g_ti (v := .int (tOP (r7 &&& 255).toNatClampNeg)) hc (zC_t0 η) (pk_andIn _ 8 (by decide) (by decide)) rfl dX2_takeStep_71 ?_
        refine g_istore (i := 5) (lv' := [(5, .int (tOP (r7 &&& 255).toNatClampNeg)), (4, .int (r7 &&& 255)), (3, .int (S.1 32)), (0, .ref (η.1 18)), (1, .int (bI a0)), (2, .int (bI a1))]) hc dX2_takeStep_72 (by decide) rfl ?_
        refine g_iconst (v := 0) hc dX2_takeStep_74 (by decide) ?_
        refine g_istore (i := 6) (lv' := [(6, .int 0), (5, .int (tOP (r7 &&& 255).toNatClampNeg)), (4, .int (r7 &&& 255)), (3, .int (S.1 32)), (0, .ref (η.1 18)), (1, .int (bI a0)), (2, .int (bI a1))]) hc dX2_takeStep_75 (by decide) rfl ?_
        refine g_iload (i := 5) hc 1 dX2_takeStep_77 rfl ?_
        refine g_ifne (tgt := 90) hc dX2_takeStep_79 rfl (fun c_79 => ?_) (fun c_79 => ?_)
        · refine g_aload_n (i := 0) hc 4 dX2_takeStep_82 rfl rfl ?_
          refine g_iload_n (i := 3) hc 3 dX2_takeStep_83 rfl rfl ?_
          refine pf_C_18_pc (v := (S.1 32)) hc wtC_282 dX2_takeStep_84 (fun S8 f8 => ?_)
          refine g_goto (tgt := 120) hc dX2_takeStep_87 rfl ?_
          refine g_gets (t := η.2.2.2.2 2) hc (zC_z2 η) wtC_388 rfl dX2_takeStep_120 ?_
          refine g_iload (i := 4) hc 2 dX2_takeStep_123 rfl ?_
          refine g_ti (v := .int (tCY (r7 &&& 255).toNatClampNeg)) hc (zC_t2 η) (pk_andIn _ 8 (by decide) (by decide)) rfl dX2_takeStep_125 ?_
          refine g_iload (i := 6) hc 0 dX2_takeStep_126 rfl ?_
          refine g_iadd hc dX2_takeStep_128 ?_
          exact g_iret hc dX2_takeStep_129
        · refine g_gets (t := η.2.2.2.2 1) hc (zC_z1 η) wtC_389 rfl dX2_takeStep_90 ?_
          refine g_iload (i := 4) hc 2 dX2_takeStep_93 rfl ?_
          refine g_ti (v := .int (tMO (r7 &&& 255).toNatClampNeg)) hc (zC_t1 η) (pk_andIn _ 8 (by decide) (by decide)) rfl dX2_takeStep_95 ?_
          refine g_istore (i := 7) (lv' := [(7, .int (tMO (r7 &&& 255).toNatClampNeg)), (6, .int 0), (5, .int (tOP (r7 &&& 255).toNatClampNeg)), (4, .int (r7 &&& 255)), (3, .int (S.1 32)), (0, .ref (η.1 18)), (1, .int (bI a0)), (2, .int (bI a1))]) hc dX2_takeStep_96 (by decide) rfl ?_
          refine g_aload_n (i := 0) hc 5 dX2_takeStep_98 rfl rfl ?_
          refine g_iload (i := 5) hc 2 dX2_takeStep_99 rfl ?_
          refine g_iload (i := 7) hc 0 dX2_takeStep_101 rfl ?_
          refine g_aload_n (i := 0) hc 5 dX2_takeStep_103 rfl rfl ?_
          refine g_iload (i := 7) hc 0 dX2_takeStep_104 rfl ?_
          refine g_aload_n (i := 0) hc 5 dX2_takeStep_106 rfl rfl ?_
          refine g_iload (i := 7) hc 0 dX2_takeStep_107 rfl ?_
          refine g_callVI hc 18 [.int (tMO (r7 &&& 255).toNatClampNeg)] (fun l => c_X2_fetchOperand l k η (tMO (r7 &&& 255).toNatClampNeg) S7) wtC_393 ge_X2_fetchOperand rfl ⟨rfl, rfl⟩ ⟨Nat.le_of_ble_eq_true rfl, Nat.le_of_ble_eq_true rfl⟩ rfl rfl rfl (Nat.le_of_ble_eq_true rfl) dX2_takeStep_109 (fun r9 S9 e9 f9 => ?_)
          refine g_callVI hc 18 [.int (tMO (r7 &&& 255).toNatClampNeg), .int r9] (fun l => c_X2_addressOf l k η (tMO (r7 &&& 255).toNatClampNeg) r9 S9) wtC_397 ge_X2_addressOf rfl ⟨rfl, rfl⟩ ⟨Nat.le_of_ble_eq_true rfl, Nat.le_of_ble_eq_true rfl⟩ rfl rfl rfl (Nat.le_of_ble_eq_true rfl) dX2_takeStep_112 (fun r10 S10 e10 f10 => ?_)
          refine g_callVI hc 18 [.int (tOP (r7 &&& 255).toNatClampNeg), .int (tMO (r7 &&& 255).toNatClampNeg), .int r10] (fun l => c_X2_perform l k η (tOP (r7 &&& 255).toNatClampNeg) (tMO (r7 &&& 255).toNatClampNeg) r10 S10) wtC_401 ge_X2_perform rfl ⟨rfl, rfl⟩ ⟨Nat.le_of_ble_eq_true rfl, Nat.le_of_ble_eq_true rfl⟩ rfl rfl rfl (Nat.le_of_ble_eq_true rfl) dX2_takeStep_115 (fun r11 S11 e11 f11 => ?_)
          refine g_istore (i := 6) (lv' := [(6, .int r11), (7, .int (tMO (r7 &&& 255).toNatClampNeg)), (5, .int (tOP (r7 &&& 255).toNatClampNeg)), (4, .int (r7 &&& 255)), (3, .int (S.1 32)), (0, .ref (η.1 18)), (1, .int (bI a0)), (2, .int (bI a1))]) hc dX2_takeStep_118 (by decide) rfl ?_
          refine g_gets (t := η.2.2.2.2 2) hc (zC_z2 η) wtC_388 rfl dX2_takeStep_120 ?_
          refine g_iload (i := 4) hc 3 dX2_takeStep_123 rfl ?_
          refine g_ti (v := .int (tCY (r7 &&& 255).toNatClampNeg)) hc (zC_t2 η) (pk_andIn _ 8 (by decide) (by decide)) rfl dX2_takeStep_125 ?_
          refine g_iload (i := 6) hc 0 dX2_takeStep_126 rfl ?_
          refine g_iadd hc dX2_takeStep_128 ?_
          exact g_iret hc dX2_takeStep_129
  · refine g_aload_n (i := 0) hc 0 dX2_takeStep_4 rfl rfl ?_
    refine g_ldc (v := 65530) hc wtC_402 dX2_takeStep_5 ?_
    refine g_aload_n (i := 0) hc 0 dX2_takeStep_7 rfl rfl ?_
    refine gf_C_18_pc hc wtC_282 dX2_takeStep_8 ?_
    refine g_aload_n (i := 0) hc 0 dX2_takeStep_11 rfl rfl ?_
    refine gf_C_18_p hc wtC_250 dX2_takeStep_12 ?_
    refine g_callVV hc 18 [.int 65530, .int (S.1 32), .int (S.1 31)] (fun l => c_X2_enter l k η 65530 (S.1 32) (S.1 31) S) wtC_354 ge_X2_enter rfl ⟨rfl, rfl⟩ ⟨Nat.le_of_ble_eq_true rfl, Nat.le_of_ble_eq_true rfl⟩ rfl rfl rfl (Nat.le_of_ble_eq_true rfl) dX2_takeStep_15 (fun r12 S12 e12 f12 => ?_)
    refine g_bipush (v := 7) hc dX2_takeStep_18 (by decide) ?_
    exact g_iret hc dX2_takeStep_20
