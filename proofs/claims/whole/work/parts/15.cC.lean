abbrev rm_X7_restart : Room := { frames := 0, cells := 0, slots := 0, locals := 0 }
def sp_X7_restart (k : Bool)  (S : gSt) : Unit × gSt := gL (sI S 12 0) (fun S1 => gL (sI S1 13 0) (fun S2 => gL (sI S2 19 0) (fun S3 => gL (sZ S3 2 false) (fun S4 => ((), S4)))))
set_option maxRecDepth 100000 in
set_option maxHeartbeats 4000000 in
theorem c_X7_restart (l : Launch) (k : Bool) (η : gE)  (S : gSt) : gMet l yX7_restart cX7_restart 1 none rm_X7_restart (oC k η) [.ref (η.1 6)] S (oV (sp_X7_restart k S).1) (sp_X7_restart k S).2 := by
  refine gMet_of (X := sp_X7_restart k S) (lv := [(0, .ref (η.1 6))]) oV (zC_ok η) (by decide +kernel) (Nat.le_of_ble_eq_true rfl) rfl (fun κ hc => ?_)
  have hc : gC (oC k η) κ cX7_restart 1 RX7 none rm_X7_restart := hc
  unfold sp_X7_restart
  refine g_aload_n (i := 0) hc 0 dX7_restart_0 rfl rfl ?_
  refine g_iconst (v := 0) hc dX7_restart_1 (by decide) ?_
  refine pf_C_6_ctrl (v := 0) hc wtC_146 dX7_restart_2 (fun S1 f1 => ?_)
  refine g_aload_n (i := 0) hc 0 dX7_restart_5 rfl rfl ?_
  refine g_iconst (v := 0) hc dX7_restart_6 (by decide) ?_
  refine pf_C_6_mask (v := 0) hc wtC_147 dX7_restart_7 (fun S2 f2 => ?_)
  refine g_aload_n (i := 0) hc 0 dX7_restart_10 rfl rfl ?_
  refine g_iconst (v := 0) hc dX7_restart_11 (by decide) ?_
  refine pf_C_6_w (v := 0) hc wtC_148 dX7_restart_12 (fun S3 f3 => ?_)
  refine g_aload_n (i := 0) hc 0 dX7_restart_15 rfl rfl ?_
  refine g_iconst (v := 0) hc dX7_restart_16 (by decide) ?_
  refine pf_C_6_nmiPending (v := false) hc wtC_149 dX7_restart_17 (fun S4 f4 => ?_)
  exact g_vret hc dX7_restart_20

abbrev rm_X7_takeNmi : Room := { frames := 0, cells := 0, slots := 0, locals := 0 }
def sp_X7_takeNmi (k : Bool)  (S : gSt) : Bool × gSt := gL (sZ S 2 false) (fun S1 => ((S.2.1 2), S1))
set_option maxRecDepth 100000 in
set_option maxHeartbeats 4000000 in
theorem c_X7_takeNmi (l : Launch) (k : Bool) (η : gE)  (S : gSt) : gMet l yX7_takeNmi cX7_takeNmi 2 (some .boolean) rm_X7_takeNmi (oC k η) [.ref (η.1 6)] S (oZ (sp_X7_takeNmi k S).1) (sp_X7_takeNmi k S).2 := by
  refine gMet_of (X := sp_X7_takeNmi k S) (lv := [(0, .ref (η.1 6))]) oZ (zC_ok η) (by decide +kernel) (Nat.le_of_ble_eq_true rfl) rfl (fun κ hc => ?_)
  have hc : gC (oC k η) κ cX7_takeNmi 2 RX7 (some .boolean) rm_X7_takeNmi := hc
  unfold sp_X7_takeNmi
  refine g_aload_n (i := 0) hc 0 dX7_takeNmi_0 rfl rfl ?_
  refine gf_C_6_nmiPending hc wtC_149 dX7_takeNmi_1 ?_
  refine g_istore_n (i := 1) (lv' := [(1, .int (bI (S.2.1 2))), (0, .ref (η.1 6))]) hc dX7_takeNmi_4 rfl (by decide) rfl ?_
  refine g_aload_n (i := 0) hc 1 dX7_takeNmi_5 rfl rfl ?_
  refine g_iconst (v := 0) hc dX7_takeNmi_6 (by decide) ?_
  refine pf_C_6_nmiPending (v := false) hc wtC_149 dX7_takeNmi_7 (fun S1 f1 => ?_)
  refine g_iload_n (i := 1) hc 0 dX7_takeNmi_10 rfl rfl ?_
  exact g_zret (b := (S.2.1 2)) hc rfl dX7_takeNmi_11

abbrev rm_X7_storeControl : Room := { frames := 0, cells := 0, slots := 0, locals := 0 }
def sp_X7_storeControl (k : Bool) (a0 : Int32) (S : gSt) : Unit × gSt := (if ((S.1 12) &&& 128) = 0 then gL (sI S 12 a0) (fun S1 => gL (sI S1 17 (((S1.1 17) &&& (-3073)) ||| ((a0 &&& 3) <<< ((10 : Int32) &&& (31 : Int32))))) (fun S2 => (if (a0 &&& 128) = 0 then ((), S2) else (if (S2.1 14) = 1 then gL (sZ S2 2 true) (fun S3 => ((), S3)) else ((), S2))))) else gL (sI S 12 a0) (fun S4 => gL (sI S4 17 (((S4.1 17) &&& (-3073)) ||| ((a0 &&& 3) <<< ((10 : Int32) &&& (31 : Int32))))) (fun S5 => ((), S5))))
set_option maxRecDepth 100000 in
set_option maxHeartbeats 4000000 in
theorem c_X7_storeControl (l : Launch) (k : Bool) (η : gE) (a0 : Int32) (S : gSt) : gMet l yX7_storeControl cX7_storeControl 3 none rm_X7_storeControl (oC k η) [.ref (η.1 6), .int a0] S (oV (sp_X7_storeControl k a0 S).1) (sp_X7_storeControl k a0 S).2 := by
  refine gMet_of (X := sp_X7_storeControl k a0 S) (lv := [(0, .ref (η.1 6)), (1, .int a0)]) oV (zC_ok η) (by decide +kernel) (Nat.le_of_ble_eq_true rfl) rfl (fun κ hc => ?_)
  have hc : gC (oC k η) κ cX7_storeControl 3 RX7 none rm_X7_storeControl := hc
  unfold sp_X7_storeControl
  refine g_aload_n (i := 0) hc 0 dX7_storeControl_0 rfl rfl ?_
  refine gf_C_6_ctrl hc wtC_146 dX7_storeControl_1 ?_
  refine g_sipush (v := 128) hc dX7_storeControl_4 (by decide) ?_
  refine g_iand hc dX7_storeControl_7 ?_
  refine g_ifne (tgt := 15) hc dX7_storeControl_8 rfl (fun c_8 => ?_) (fun c_8 => ?_)
  · refine g_iconst (v := 1) hc dX7_storeControl_11 (by decide) ?_
    refine g_goto (tgt := 16) hc dX7_storeControl_12 rfl ?_
    refine g_istore_n (i := 2) (lv' := [(2, .int 1), (0, .ref (η.1 6)), (1, .int a0)]) hc dX7_storeControl_16 rfl (by decide) rfl ?_
    refine g_aload_n (i := 0) hc 1 dX7_storeControl_17 rfl rfl ?_
    refine g_iload_n (i := 1) hc 2 dX7_storeControl_18 rfl rfl ?_
    refine pf_C_6_ctrl (v := a0) hc wtC_146 dX7_storeControl_19 (fun S1 f1 => ?_)
    refine g_aload_n (i := 0) hc 1 dX7_storeControl_22 rfl rfl ?_
    refine g_aload_n (i := 0) hc 1 dX7_storeControl_23 rfl rfl ?_
    refine gf_C_6_t hc wtC_150 dX7_storeControl_24 ?_
    refine g_sipush (v := (-3073)) hc dX7_storeControl_27 (by decide) ?_
    refine g_iand hc dX7_storeControl_30 ?_
    refine g_iload_n (i := 1) hc 2 dX7_storeControl_31 rfl rfl ?_
    refine g_iconst (v := 3) hc dX7_storeControl_32 (by decide) ?_
    refine g_iand hc dX7_storeControl_33 ?_
    refine g_bipush (v := 10) hc dX7_storeControl_34 (by decide) ?_
    refine g_ishl hc dX7_storeControl_36 ?_
    refine g_ior hc dX7_storeControl_37 ?_
    refine pf_C_6_t (v := (((S1.1 17) &&& (-3073)) ||| ((a0 &&& 3) <<< ((10 : Int32) &&& (31 : Int32))))) hc wtC_150 dX7_storeControl_38 (fun S2 f2 => ?_)
    refine g_iload_n (i := 2) hc 0 dX7_storeControl_41 rfl rfl ?_
    refine g_ifeq_f (tgt := 66) hc dX7_storeControl_42 rfl (by decide) ?_
    refine g_iload_n (i := 1) hc 2 dX7_storeControl_45 rfl rfl ?_
    refine g_sipush (v := 128) hc dX7_storeControl_46 (by decide) ?_
    refine g_iand hc dX7_storeControl_49 ?_
    refine g_ifeq (tgt := 66) hc dX7_storeControl_50 rfl (fun c_50 => ?_) (fun c_50 => ?_)
    · exact g_vret hc dX7_storeControl_66
    · refine g_aload_n (i := 0) hc 1 dX7_storeControl_53 rfl rfl ?_
      refine gf_C_6_vblank hc wtC_151 dX7_storeControl_54 ?_
      refine g_iconst (v := 1) hc dX7_storeControl_57 (by decide) ?_
      refine g_icmpne (tgt := 66) hc dX7_storeControl_58 rfl (fun c_58 => ?_) (fun c_58 => ?_)
      · refine g_aload_n (i := 0) hc 1 dX7_storeControl_61 rfl rfl ?_
        refine g_iconst (v := 1) hc dX7_storeControl_62 (by decide) ?_
        refine pf_C_6_nmiPending (v := true) hc wtC_149 dX7_storeControl_63 (fun S3 f3 => ?_)
        exact g_vret hc dX7_storeControl_66
      · exact g_vret hc dX7_storeControl_66
  · refine g_iconst (v := 0) hc dX7_storeControl_15 (by decide) ?_
    refine g_istore_n (i := 2) (lv' := [(2, .int 0), (0, .ref (η.1 6)), (1, .int a0)]) hc dX7_storeControl_16 rfl (by decide) rfl ?_
    refine g_aload_n (i := 0) hc 1 dX7_storeControl_17 rfl rfl ?_
    refine g_iload_n (i := 1) hc 2 dX7_storeControl_18 rfl rfl ?_
    refine pf_C_6_ctrl (v := a0) hc wtC_146 dX7_storeControl_19 (fun S4 f4 => ?_)
    refine g_aload_n (i := 0) hc 1 dX7_storeControl_22 rfl rfl ?_
    refine g_aload_n (i := 0) hc 1 dX7_storeControl_23 rfl rfl ?_
    refine gf_C_6_t hc wtC_150 dX7_storeControl_24 ?_
    refine g_sipush (v := (-3073)) hc dX7_storeControl_27 (by decide) ?_
    refine g_iand hc dX7_storeControl_30 ?_
    refine g_iload_n (i := 1) hc 2 dX7_storeControl_31 rfl rfl ?_
    refine g_iconst (v := 3) hc dX7_storeControl_32 (by decide) ?_
    refine g_iand hc dX7_storeControl_33 ?_
    refine g_bipush (v := 10) hc dX7_storeControl_34 (by decide) ?_
    refine g_ishl hc dX7_storeControl_36 ?_
    refine g_ior hc dX7_storeControl_37 ?_
    refine pf_C_6_t (v := (((S4.1 17) &&& (-3073)) ||| ((a0 &&& 3) <<< ((10 : Int32) &&& (31 : Int32))))) hc wtC_150 dX7_storeControl_38 (fun S5 f5 => ?_)
    refine g_iload_n (i := 2) hc 0 dX7_storeControl_41 rfl rfl ?_
    refine g_ifeq_t (tgt := 66) hc dX7_storeControl_42 rfl (by decide) ?_
    exact g_vret hc dX7_storeControl_66

abbrev rm_X7_storeScroll : Room := { frames := 0, cells := 0, slots := 0, locals := 0 }
def sp_X7_storeScroll (k : Bool) (a0 : Int32) (S : gSt) : Unit × gSt := (if (S.1 19) = 0 then gL (sI S 17 (((S.1 17) &&& (-32)) ||| (a0 >>> ((3 : Int32) &&& (31 : Int32))))) (fun S1 => gL (sI S1 18 (a0 &&& 7)) (fun S2 => gL (sI S2 19 (1 - (S2.1 19))) (fun S3 => ((), S3)))) else gL (sI S 17 ((((S.1 17) &&& (-29665)) ||| ((a0 &&& 7) <<< ((12 : Int32) &&& (31 : Int32)))) ||| ((a0 >>> ((3 : Int32) &&& (31 : Int32))) <<< ((5 : Int32) &&& (31 : Int32))))) (fun S4 => gL (sI S4 19 (1 - (S4.1 19))) (fun S5 => ((), S5))))
set_option maxRecDepth 100000 in
set_option maxHeartbeats 4000000 in
theorem c_X7_storeScroll (l : Launch) (k : Bool) (η : gE) (a0 : Int32) (S : gSt) : gMet l yX7_storeScroll cX7_storeScroll 2 none rm_X7_storeScroll (oC k η) [.ref (η.1 6), .int a0] S (oV (sp_X7_storeScroll k a0 S).1) (sp_X7_storeScroll k a0 S).2 := by
  refine gMet_of (X := sp_X7_storeScroll k a0 S) (lv := [(0, .ref (η.1 6)), (1, .int a0)]) oV (zC_ok η) (by decide +kernel) (Nat.le_of_ble_eq_true rfl) rfl (fun κ hc => ?_)
  have hc : gC (oC k η) κ cX7_storeScroll 2 RX7 none rm_X7_storeScroll := hc
  unfold sp_X7_storeScroll
  refine g_aload_n (i := 0) hc 0 dX7_storeScroll_0 rfl rfl ?_
  refine gf_C_6_w hc wtC_148 dX7_storeScroll_1 ?_
  refine g_ifne (tgt := 33) hc dX7_storeScroll_4 rfl (fun c_4 => ?_) (fun c_4 => ?_)
  · refine g_aload_n (i := 0) hc 0 dX7_storeScroll_7 rfl rfl ?_
    refine g_aload_n (i := 0) hc 0 dX7_storeScroll_8 rfl rfl ?_
    refine gf_C_6_t hc wtC_150 dX7_storeScroll_9 ?_
    refine g_bipush (v := (-32)) hc dX7_storeScroll_12 (by decide) ?_
    refine g_iand hc dX7_storeScroll_14 ?_
    refine g_iload_n (i := 1) hc 1 dX7_storeScroll_15 rfl rfl ?_
    refine g_iconst (v := 3) hc dX7_storeScroll_16 (by decide) ?_
    refine g_ishr hc dX7_storeScroll_17 ?_
    refine g_ior hc dX7_storeScroll_18 ?_
    refine pf_C_6_t (v := (((S.1 17) &&& (-32)) ||| (a0 >>> ((3 : Int32) &&& (31 : Int32))))) hc wtC_150 dX7_storeScroll_19 (fun S1 f1 => ?_)
    refine g_aload_n (i := 0) hc 0 dX7_storeScroll_22 rfl rfl ?_
    refine g_iload_n (i := 1) hc 1 dX7_storeScroll_23 rfl rfl ?_
    refine g_bipush (v := 7) hc dX7_storeScroll_24 (by decide) ?_
    refine g_iand hc dX7_storeScroll_26 ?_
    refine pf_C_6_x (v := (a0 &&& 7)) hc wtC_152 dX7_storeScroll_27 (fun S2 f2 => ?_)
    refine g_goto (tgt := 59) hc dX7_storeScroll_30 rfl ?_
    refine g_aload_n (i := 0) hc 0 dX7_storeScroll_59 rfl rfl ?_
    refine g_iconst (v := 1) hc dX7_storeScroll_60 (by decide) ?_
    refine g_aload_n (i := 0) hc 0 dX7_storeScroll_61 rfl rfl ?_
    refine gf_C_6_w hc wtC_148 dX7_storeScroll_62 ?_
    refine g_isub hc dX7_storeScroll_65 ?_
    refine pf_C_6_w (v := (1 - (S2.1 19))) hc wtC_148 dX7_storeScroll_66 (fun S3 f3 => ?_)
    exact g_vret hc dX7_storeScroll_69
  · refine g_aload_n (i := 0) hc 0 dX7_storeScroll_33 rfl rfl ?_
    refine g_aload_n (i := 0) hc 0 dX7_storeScroll_34 rfl rfl ?_
    refine gf_C_6_t hc wtC_150 dX7_storeScroll_35 ?_
    refine g_sipush (v := (-29665)) hc dX7_storeScroll_38 (by decide) ?_
    refine g_iand hc dX7_storeScroll_41 ?_
    refine g_iload_n (i := 1) hc 1 dX7_storeScroll_42 rfl rfl ?_
    refine g_bipush (v := 7) hc dX7_storeScroll_43 (by decide) ?_
    refine g_iand hc dX7_storeScroll_45 ?_
    refine g_bipush (v := 12) hc dX7_storeScroll_46 (by decide) ?_
    refine g_ishl hc dX7_storeScroll_48 ?_
    refine g_ior hc dX7_storeScroll_49 ?_
    refine g_iload_n (i := 1) hc 1 dX7_storeScroll_50 rfl rfl ?_
    refine g_iconst (v := 3) hc dX7_storeScroll_51 (by decide) ?_
    refine g_ishr hc dX7_storeScroll_52 ?_
    refine g_iconst (v := 5) hc dX7_storeScroll_53 (by decide) ?_
    refine g_ishl hc dX7_storeScroll_54 ?_
    refine g_ior hc dX7_storeScroll_55 ?_
    refine pf_C_6_t (v := ((((S.1 17) &&& (-29665)) ||| ((a0 &&& 7) <<< ((12 : Int32) &&& (31 : Int32)))) ||| ((a0 >>> ((3 : Int32) &&& (31 : Int32))) <<< ((5 : Int32) &&& (31 : Int32))))) hc wtC_150 dX7_storeScroll_56 (fun S4 f4 => ?_)
    refine g_aload_n (i := 0) hc 0 dX7_storeScroll_59 rfl rfl ?_
    refine g_iconst (v := 1) hc dX7_storeScroll_60 (by decide) ?_
    refine g_aload_n (i := 0) hc 0 dX7_storeScroll_61 rfl rfl ?_
    refine gf_C_6_w hc wtC_148 dX7_storeScroll_62 ?_
    refine g_isub hc dX7_storeScroll_65 ?_
    refine pf_C_6_w (v := (1 - (S4.1 19))) hc wtC_148 dX7_storeScroll_66 (fun S5 f5 => ?_)
    exact g_vret hc dX7_storeScroll_69

abbrev rm_X7_storeAddress : Room := { frames := 0, cells := 0, slots := 0, locals := 0 }
def sp_X7_storeAddress (k : Bool) (a0 : Int32) (S : gSt) : Unit × gSt := (if (S.1 19) = 0 then gL (sI S 17 (((S.1 17) &&& 255) ||| ((a0 &&& 63) <<< ((8 : Int32) &&& (31 : Int32))))) (fun S1 => gL (sI S1 19 (1 - (S1.1 19))) (fun S2 => ((), S2))) else gL (sI S 17 (((S.1 17) &&& 32512) ||| a0)) (fun S3 => gL (sI S3 16 (S3.1 17)) (fun S4 => gL (sI S4 19 (1 - (S4.1 19))) (fun S5 => ((), S5)))))
set_option maxRecDepth 100000 in
set_option maxHeartbeats 4000000 in
theorem c_X7_storeAddress (l : Launch) (k : Bool) (η : gE) (a0 : Int32) (S : gSt) : gMet l yX7_storeAddress cX7_storeAddress 2 none rm_X7_storeAddress (oC k η) [.ref (η.1 6), .int a0] S (oV (sp_X7_storeAddress k a0 S).1) (sp_X7_storeAddress k a0 S).2 := by
  refine gMet_of (X := sp_X7_storeAddress k a0 S) (lv := [(0, .ref (η.1 6)), (1, .int a0)]) oV (zC_ok η) (by decide +kernel) (Nat.le_of_ble_eq_true rfl) rfl (fun κ hc => ?_)
  have hc : gC (oC k η) κ cX7_storeAddress 2 RX7 none rm_X7_storeAddress := hc
  unfold sp_X7_storeAddress
  refine g_aload_n (i := 0) hc 0 dX7_storeAddress_0 rfl rfl ?_
  refine gf_C_6_w hc wtC_148 dX7_storeAddress_1 ?_
  refine g_ifne (tgt := 30) hc dX7_storeAddress_4 rfl (fun c_4 => ?_) (fun c_4 => ?_)
  · refine g_aload_n (i := 0) hc 0 dX7_storeAddress_7 rfl rfl ?_
    refine g_aload_n (i := 0) hc 0 dX7_storeAddress_8 rfl rfl ?_
    refine gf_C_6_t hc wtC_150 dX7_storeAddress_9 ?_
    refine g_sipush (v := 255) hc dX7_storeAddress_12 (by decide) ?_
    refine g_iand hc dX7_storeAddress_15 ?_
    refine g_iload_n (i := 1) hc 1 dX7_storeAddress_16 rfl rfl ?_
    refine g_bipush (v := 63) hc dX7_storeAddress_17 (by decide) ?_
    refine g_iand hc dX7_storeAddress_19 ?_
    refine g_bipush (v := 8) hc dX7_storeAddress_20 (by decide) ?_
    refine g_ishl hc dX7_storeAddress_22 ?_
    refine g_ior hc dX7_storeAddress_23 ?_
    refine pf_C_6_t (v := (((S.1 17) &&& 255) ||| ((a0 &&& 63) <<< ((8 : Int32) &&& (31 : Int32))))) hc wtC_150 dX7_storeAddress_24 (fun S1 f1 => ?_)
    refine g_goto (tgt := 52) hc dX7_storeAddress_27 rfl ?_
    refine g_aload_n (i := 0) hc 0 dX7_storeAddress_52 rfl rfl ?_
    refine g_iconst (v := 1) hc dX7_storeAddress_53 (by decide) ?_
    refine g_aload_n (i := 0) hc 0 dX7_storeAddress_54 rfl rfl ?_
    refine gf_C_6_w hc wtC_148 dX7_storeAddress_55 ?_
    refine g_isub hc dX7_storeAddress_58 ?_
    refine pf_C_6_w (v := (1 - (S1.1 19))) hc wtC_148 dX7_storeAddress_59 (fun S2 f2 => ?_)
    exact g_vret hc dX7_storeAddress_62
  · refine g_aload_n (i := 0) hc 0 dX7_storeAddress_30 rfl rfl ?_
    refine g_aload_n (i := 0) hc 0 dX7_storeAddress_31 rfl rfl ?_
    refine gf_C_6_t hc wtC_150 dX7_storeAddress_32 ?_
    refine g_sipush (v := 32512) hc dX7_storeAddress_35 (by decide) ?_
    refine g_iand hc dX7_storeAddress_38 ?_
    refine g_iload_n (i := 1) hc 1 dX7_storeAddress_39 rfl rfl ?_
    refine g_ior hc dX7_storeAddress_40 ?_
    refine pf_C_6_t (v := (((S.1 17) &&& 32512) ||| a0)) hc wtC_150 dX7_storeAddress_41 (fun S3 f3 => ?_)
    refine g_aload_n (i := 0) hc 0 dX7_storeAddress_44 rfl rfl ?_
    refine g_aload_n (i := 0) hc 0 dX7_storeAddress_45 rfl rfl ?_
    refine gf_C_6_t hc wtC_150 dX7_storeAddress_46 ?_
    refine pf_C_6_v (v := (S3.1 17)) hc wtC_153 dX7_storeAddress_49 (fun S4 f4 => ?_)
    refine g_aload_n (i := 0) hc 0 dX7_storeAddress_52 rfl rfl ?_
    refine g_iconst (v := 1) hc dX7_storeAddress_53 (by decide) ?_
    refine g_aload_n (i := 0) hc 0 dX7_storeAddress_54 rfl rfl ?_
    refine gf_C_6_w hc wtC_148 dX7_storeAddress_55 ?_
    refine g_isub hc dX7_storeAddress_58 ?_
    refine pf_C_6_w (v := (1 - (S4.1 19))) hc wtC_148 dX7_storeAddress_59 (fun S5 f5 => ?_)
    exact g_vret hc dX7_storeAddress_62

abbrev rm_X7_growV : Room := { frames := 0, cells := 0, slots := 0, locals := 0 }
def sp_X7_growV (k : Bool)  (S : gSt) : Unit × gSt := (if ((S.1 12) &&& 4) = 0 then gL (sI S 16 (((S.1 16) + 1) &&& 32767)) (fun S1 => ((), S1)) else gL (sI S 16 (((S.1 16) + 32) &&& 32767)) (fun S2 => ((), S2)))
set_option maxRecDepth 100000 in
set_option maxHeartbeats 4000000 in
theorem c_X7_growV (l : Launch) (k : Bool) (η : gE)  (S : gSt) : gMet l yX7_growV cX7_growV 1 none rm_X7_growV (oC k η) [.ref (η.1 6)] S (oV (sp_X7_growV k S).1) (sp_X7_growV k S).2 := by
  refine gMet_of (X := sp_X7_growV k S) (lv := [(0, .ref (η.1 6))]) oV (zC_ok η) (by decide +kernel) (Nat.le_of_ble_eq_true rfl) rfl (fun κ hc => ?_)
  have hc : gC (oC k η) κ cX7_growV 1 RX7 none rm_X7_growV := hc
  unfold sp_X7_growV
  refine g_aload_n (i := 0) hc 0 dX7_growV_0 rfl rfl ?_
  refine g_aload_n (i := 0) hc 0 dX7_growV_1 rfl rfl ?_
  refine gf_C_6_v hc wtC_153 dX7_growV_2 ?_
  refine g_aload_n (i := 0) hc 0 dX7_growV_5 rfl rfl ?_
  refine gf_C_6_ctrl hc wtC_146 dX7_growV_6 ?_
  refine g_iconst (v := 4) hc dX7_growV_9 (by decide) ?_
  refine g_iand hc dX7_growV_10 ?_
  refine g_ifne (tgt := 18) hc dX7_growV_11 rfl (fun c_11 => ?_) (fun c_11 => ?_)
  · refine g_iconst (v := 1) hc dX7_growV_14 (by decide) ?_
    refine g_goto (tgt := 20) hc dX7_growV_15 rfl ?_
    refine g_iadd hc dX7_growV_20 ?_
    refine g_sipush (v := 32767) hc dX7_growV_21 (by decide) ?_
    refine g_iand hc dX7_growV_24 ?_
    refine pf_C_6_v (v := (((S.1 16) + 1) &&& 32767)) hc wtC_153 dX7_growV_25 (fun S1 f1 => ?_)
    exact g_vret hc dX7_growV_28
  · refine g_bipush (v := 32) hc dX7_growV_18 (by decide) ?_
    refine g_iadd hc dX7_growV_20 ?_
    refine g_sipush (v := 32767) hc dX7_growV_21 (by decide) ?_
    refine g_iand hc dX7_growV_24 ?_
    refine pf_C_6_v (v := (((S.1 16) + 32) &&& 32767)) hc wtC_153 dX7_growV_25 (fun S2 f2 => ?_)
    exact g_vret hc dX7_growV_28

abbrev rm_X7_nameTablePlace : Room := { frames := 0, cells := 0, slots := 0, locals := 0 }
def sp_X7_nameTablePlace (k : Bool) (a0 : Int32) (S : gSt) : Int32 × gSt := (if (S.1 1) = 0 then ((((0 : Int32) <<< ((10 : Int32) &&& (31 : Int32))) ||| (a0 &&& 1023)), S) else (if (S.1 1) = 1 then ((((1 : Int32) <<< ((10 : Int32) &&& (31 : Int32))) ||| (a0 &&& 1023)), S) else (if (S.1 1) = 2 then (((((a0 >>> ((10 : Int32) &&& (31 : Int32))) &&& 1) <<< ((10 : Int32) &&& (31 : Int32))) ||| (a0 &&& 1023)), S) else (((((a0 >>> ((11 : Int32) &&& (31 : Int32))) &&& 1) <<< ((10 : Int32) &&& (31 : Int32))) ||| (a0 &&& 1023)), S))))
set_option maxRecDepth 100000 in
set_option maxHeartbeats 4000000 in
theorem c_X7_nameTablePlace (l : Launch) (k : Bool) (η : gE) (a0 : Int32) (S : gSt) : gMet l yX7_nameTablePlace cX7_nameTablePlace 3 (some .int) rm_X7_nameTablePlace (oC k η) [.ref (η.1 6), .int a0] S (oI (sp_X7_nameTablePlace k a0 S).1) (sp_X7_nameTablePlace k a0 S).2 := by
  refine gMet_of (X := sp_X7_nameTablePlace k a0 S) (lv := [(0, .ref (η.1 6)), (1, .int a0)]) oI (zC_ok η) (by decide +kernel) (Nat.le_of_ble_eq_true rfl) rfl (fun κ hc => ?_)
  have hc : gC (oC k η) κ cX7_nameTablePlace 3 RX7 (some .int) rm_X7_nameTablePlace := hc
  unfold sp_X7_nameTablePlace
  refine g_aload_n (i := 0) hc 0 dX7_nameTablePlace_0 rfl rfl ?_
  refine gf_C_6_cartridge hc wtC_154 dX7_nameTablePlace_1 ?_
  refine gf_C_1_mirroring hc wtC_155 dX7_nameTablePlace_4 ?_
  refine g_tsw (tgt := 32) hc 0 dX7_nameTablePlace_7 ⟨by decide, by decide, rfl⟩ rfl (fun c_7_0 => ?_) (fun c_7_0 => ?_)
  · refine g_iconst (v := 0) hc dX7_nameTablePlace_32 (by decide) ?_
    refine g_istore_n (i := 2) (lv' := [(2, .int 0), (0, .ref (η.1 6)), (1, .int a0)]) hc dX7_nameTablePlace_33 rfl (by decide) rfl ?_
    refine g_goto (tgt := 59) hc dX7_nameTablePlace_34 rfl ?_
    refine g_iload_n (i := 2) hc 0 dX7_nameTablePlace_59 rfl rfl ?_
    refine g_bipush (v := 10) hc dX7_nameTablePlace_60 (by decide) ?_
    refine g_ishl hc dX7_nameTablePlace_62 ?_
    refine g_iload_n (i := 1) hc 2 dX7_nameTablePlace_63 rfl rfl ?_
    refine g_sipush (v := 1023) hc dX7_nameTablePlace_64 (by decide) ?_
    refine g_iand hc dX7_nameTablePlace_67 ?_
    refine g_ior hc dX7_nameTablePlace_68 ?_
    exact g_iret hc dX7_nameTablePlace_69
  refine g_tsw (tgt := 37) hc 1 dX7_nameTablePlace_7 ⟨by decide, by decide, rfl⟩ rfl (fun c_7_1 => ?_) (fun c_7_1 => ?_)
  · refine g_iconst (v := 1) hc dX7_nameTablePlace_37 (by decide) ?_
    refine g_istore_n (i := 2) (lv' := [(2, .int 1), (0, .ref (η.1 6)), (1, .int a0)]) hc dX7_nameTablePlace_38 rfl (by decide) rfl ?_
    refine g_goto (tgt := 59) hc dX7_nameTablePlace_39 rfl ?_
    refine g_iload_n (i := 2) hc 0 dX7_nameTablePlace_59 rfl rfl ?_
    refine g_bipush (v := 10) hc dX7_nameTablePlace_60 (by decide) ?_
    refine g_ishl hc dX7_nameTablePlace_62 ?_
    refine g_iload_n (i := 1) hc 2 dX7_nameTablePlace_63 rfl rfl ?_
    refine g_sipush (v := 1023) hc dX7_nameTablePlace_64 (by decide) ?_
    refine g_iand hc dX7_nameTablePlace_67 ?_
    refine g_ior hc dX7_nameTablePlace_68 ?_
    exact g_iret hc dX7_nameTablePlace_69
  refine g_tsw (tgt := 42) hc 2 dX7_nameTablePlace_7 ⟨by decide, by decide, rfl⟩ rfl (fun c_7_2 => ?_) (fun c_7_2 => ?_)
  · refine g_iload_n (i := 1) hc 1 dX7_nameTablePlace_42 rfl rfl ?_
    refine g_bipush (v := 10) hc dX7_nameTablePlace_43 (by decide) ?_
    refine g_ishr hc dX7_nameTablePlace_45 ?_
    refine g_iconst (v := 1) hc dX7_nameTablePlace_46 (by decide) ?_
    refine g_iand hc dX7_nameTablePlace_47 ?_
    refine g_istore_n (i := 2) (lv' := [(2, .int ((a0 >>> ((10 : Int32) &&& (31 : Int32))) &&& 1)), (0, .ref (η.1 6)), (1, .int a0)]) hc dX7_nameTablePlace_48 rfl (by decide) rfl ?_
    refine g_goto (tgt := 59) hc dX7_nameTablePlace_49 rfl ?_
    refine g_iload_n (i := 2) hc 0 dX7_nameTablePlace_59 rfl rfl ?_
    refine g_bipush (v := 10) hc dX7_nameTablePlace_60 (by decide) ?_
    refine g_ishl hc dX7_nameTablePlace_62 ?_
    refine g_iload_n (i := 1) hc 2 dX7_nameTablePlace_63 rfl rfl ?_
    refine g_sipush (v := 1023) hc dX7_nameTablePlace_64 (by decide) ?_
    refine g_iand hc dX7_nameTablePlace_67 ?_
    refine g_ior hc dX7_nameTablePlace_68 ?_
    exact g_iret hc dX7_nameTablePlace_69
  refine g_tswd (tgt := 52) hc dX7_nameTablePlace_7 (by have := lv_neT c_7_0 (a := 0) (by decide); have := lv_neT c_7_1 (a := 1) (by decide); have := lv_neT c_7_2 (a := 2) (by decide); omega) rfl ?_
  refine g_iload_n (i := 1) hc 1 dX7_nameTablePlace_52 rfl rfl ?_
  refine g_bipush (v := 11) hc dX7_nameTablePlace_53 (by decide) ?_
  refine g_ishr hc dX7_nameTablePlace_55 ?_
  refine g_iconst (v := 1) hc dX7_nameTablePlace_56 (by decide) ?_
  refine g_iand hc dX7_nameTablePlace_57 ?_
  refine g_istore_n (i := 2) (lv' := [(2, .int ((a0 >>> ((11 : Int32) &&& (31 : Int32))) &&& 1)), (0, .ref (η.1 6)), (1, .int a0)]) hc dX7_nameTablePlace_58 rfl (by decide) rfl ?_
  refine g_iload_n (i := 2) hc 0 dX7_nameTablePlace_59 rfl rfl ?_
  refine g_bipush (v := 10) hc dX7_nameTablePlace_60 (by decide) ?_
  refine g_ishl hc dX7_nameTablePlace_62 ?_
  refine g_iload_n (i := 1) hc 2 dX7_nameTablePlace_63 rfl rfl ?_
  refine g_sipush (v := 1023) hc dX7_nameTablePlace_64 (by decide) ?_
  refine g_iand hc dX7_nameTablePlace_67 ?_
  refine g_ior hc dX7_nameTablePlace_68 ?_
  exact g_iret hc dX7_nameTablePlace_69

abbrev rm_X7_palettePlace : Room := { frames := 0, cells := 0, slots := 0, locals := 0 }
def sp_X7_palettePlace (k : Bool) (a0 : Int32) (S : gSt) : Int32 × gSt := (if ((a0 &&& 31) &&& 3) = 0 then (((a0 &&& 31) &&& 15), S) else ((a0 &&& 31), S))
set_option maxRecDepth 100000 in
set_option maxHeartbeats 4000000 in
theorem c_X7_palettePlace (l : Launch) (k : Bool) (η : gE) (a0 : Int32) (S : gSt) : gMet l yX7_palettePlace cX7_palettePlace 2 (some .int) rm_X7_palettePlace (oC k η) [.int a0] S (oI (sp_X7_palettePlace k a0 S).1) (sp_X7_palettePlace k a0 S).2 := by
  refine gMet_of (X := sp_X7_palettePlace k a0 S) (lv := [(0, .int a0)]) oI (zC_ok η) (by decide +kernel) (Nat.le_of_ble_eq_true rfl) rfl (fun κ hc => ?_)
  have hc : gC (oC k η) κ cX7_palettePlace 2 RX7 (some .int) rm_X7_palettePlace := hc
  unfold sp_X7_palettePlace
  refine g_iload_n (i := 0) hc 0 dX7_palettePlace_0 rfl rfl ?_
  refine g_bipush (v := 31) hc dX7_palettePlace_1 (by decide) ?_
  refine g_iand hc dX7_palettePlace_3 ?_
  refine g_istore_n (i := 1) (lv' := [(1, .int (a0 &&& 31)), (0, .int a0)]) hc dX7_palettePlace_4 rfl (by decide) rfl ?_
  refine g_iload_n (i := 1) hc 0 dX7_palettePlace_5 rfl rfl ?_
  refine g_iconst (v := 3) hc dX7_palettePlace_6 (by decide) ?_
  refine g_iand hc dX7_palettePlace_7 ?_
  refine g_ifne (tgt := 18) hc dX7_palettePlace_8 rfl (fun c_8 => ?_) (fun c_8 => ?_)
  · refine g_iload_n (i := 1) hc 0 dX7_palettePlace_11 rfl rfl ?_
    refine g_bipush (v := 15) hc dX7_palettePlace_12 (by decide) ?_
    refine g_iand hc dX7_palettePlace_14 ?_
    refine g_goto (tgt := 19) hc dX7_palettePlace_15 rfl ?_
    exact g_iret hc dX7_palettePlace_19
  · refine g_iload_n (i := 1) hc 0 dX7_palettePlace_18 rfl rfl ?_
    exact g_iret hc dX7_palettePlace_19

theorem vi_hf {h : Int32} (hh : h = 0 ∨ h = 1) (a : Int32) : vp_in ((h <<< ((10 : Int32) &&& (31 : Int32))) ||| (a &&& 1023)) 2048 := by
  obtain ⟨j, hj, e⟩ := pk_andE a (m := 1023) 10 (by decide)
  rw [e]
  rcases hh with rfl | rfl
  · exact vp_in_iff.mpr ((by decide +kernel : ∀ j, j < 2 ^ 10 → (0 ≤ (((0 : Int32) <<< ((10 : Int32) &&& (31 : Int32))) ||| nI j).toInt ∧ (((0 : Int32) <<< ((10 : Int32) &&& (31 : Int32))) ||| nI j).toInt < 2048)) j hj)
  · exact vp_in_iff.mpr ((by decide +kernel : ∀ j, j < 2 ^ 10 → (0 ≤ (((1 : Int32) <<< ((10 : Int32) &&& (31 : Int32))) ||| nI j).toInt ∧ (((1 : Int32) <<< ((10 : Int32) &&& (31 : Int32))) ||| nI j).toInt < 2048)) j hj)
theorem vi_b1 (x : Int32) : x &&& 1 = 0 ∨ x &&& 1 = 1 := by
  obtain ⟨j, hj, e⟩ := pk_andE x (m := 1) 1 (by decide)
  rw [e]
  have h : j = 0 ∨ j = 1 := by omega
  rcases h with rfl | rfl
  · exact Or.inl (by decide)
  · exact Or.inr (by decide)
theorem vi_nt (k : Bool) (a : Int32) (S : gSt) : vp_in (sp_X7_nameTablePlace k a S).1 2048 := by
  unfold sp_X7_nameTablePlace
  split
  · exact vi_hf (Or.inl rfl) _
  split
  · exact vi_hf (Or.inr rfl) _
  split
  · exact vi_hf (vi_b1 _) _
  exact vi_hf (vi_b1 _) _
theorem vi_pal (k : Bool) (a : Int32) (S : gSt) : vp_in (sp_X7_palettePlace k a S).1 32 := by
  unfold sp_X7_palettePlace
  obtain ⟨j, hj, e⟩ := pk_andE a (m := 31) 5 (by decide)
  rw [e]
  have h := (by decide +kernel : ∀ j, j < 2 ^ 5 → (0 ≤ (nI j &&& 15).toInt ∧ (nI j &&& 15).toInt < 32) ∧ (0 ≤ (nI j).toInt ∧ (nI j).toInt < 32)) j hj
  split
  · exact vp_in_iff.mpr h.1
  · exact vp_in_iff.mpr h.2

abbrev rm_X7_byteAt : Room := { frames := 1, cells := 0, slots := 0, locals := 22 }
def sp_X7_byteAt (k : Bool) (a0 : Int32) (S : gSt) : Int32 × gSt := (if 8192 ≤ a0 then (if 16128 ≤ a0 then gB (sp_X7_palettePlace k a0 S) (fun r1 S1 => ((aG S1 9 r1), S1)) else gB (sp_X7_nameTablePlace k a0 S) (fun r2 S2 => ((aG S2 8 r2), S2))) else gB (sp_X1_chrByte k a0 S) (fun r3 S3 => (r3, S3)))
set_option maxRecDepth 100000 in
set_option maxHeartbeats 4000000 in
theorem c_X7_byteAt (l : Launch) (k : Bool) (η : gE) (a0 : Int32) (S : gSt) : gMet l yX7_byteAt cX7_byteAt 2 (some .int) rm_X7_byteAt (oC k η) [.ref (η.1 6), .int a0] S (oI (sp_X7_byteAt k a0 S).1) (sp_X7_byteAt k a0 S).2 := by
  refine gMet_of (X := sp_X7_byteAt k a0 S) (lv := [(0, .ref (η.1 6)), (1, .int a0)]) oI (zC_ok η) (by decide +kernel) (Nat.le_of_ble_eq_true rfl) rfl (fun κ hc => ?_)
  have hc : gC (oC k η) κ cX7_byteAt 2 RX7 (some .int) rm_X7_byteAt := hc
  unfold sp_X7_byteAt
  refine g_iload_n (i := 1) hc 1 dX7_byteAt_0 rfl rfl ?_
  refine g_sipush (v := 8192) hc dX7_byteAt_1 (by decide) ?_
  refine g_icmpge (tgt := 16) hc dX7_byteAt_4 rfl (fun c_4 => ?_) (fun c_4 => ?_)
  · refine g_iload_n (i := 1) hc 1 dX7_byteAt_16 rfl rfl ?_
    refine g_sipush (v := 16128) hc dX7_byteAt_17 (by decide) ?_
    refine g_icmpge (tgt := 34) hc dX7_byteAt_20 rfl (fun c_20 => ?_) (fun c_20 => ?_)
    · refine g_aload_n (i := 0) hc 0 dX7_byteAt_34 rfl rfl ?_
      refine gf_C_6_palette hc wtC_156 dX7_byteAt_35 ?_
      refine g_iload_n (i := 1) hc 1 dX7_byteAt_38 rfl rfl ?_
      refine g_callSI hc [.int a0] (fun l => c_X7_palettePlace l k η a0 S) wtC_160 ge_X7_palettePlace rfl ⟨rfl, rfl⟩ ⟨Nat.le_of_ble_eq_true rfl, Nat.le_of_ble_eq_true rfl⟩ rfl (Nat.le_of_ble_eq_true rfl) dX7_byteAt_39 (fun r1 S1 e1 f1 => ?_)
      refine al_C_9 hc (by rw [e1]; exact vi_pal _ _ _) dX7_byteAt_42 ?_
      exact g_iret hc dX7_byteAt_43
    · refine g_aload_n (i := 0) hc 0 dX7_byteAt_23 rfl rfl ?_
      refine gf_C_6_nameTables hc wtC_161 dX7_byteAt_24 ?_
      refine g_aload_n (i := 0) hc 0 dX7_byteAt_27 rfl rfl ?_
      refine g_iload_n (i := 1) hc 1 dX7_byteAt_28 rfl rfl ?_
      refine g_callVI hc 6 [.int a0] (fun l => c_X7_nameTablePlace l k η a0 S) wtC_165 ge_X7_nameTablePlace rfl ⟨rfl, rfl⟩ ⟨Nat.le_of_ble_eq_true rfl, Nat.le_of_ble_eq_true rfl⟩ rfl rfl rfl (Nat.le_of_ble_eq_true rfl) dX7_byteAt_29 (fun r2 S2 e2 f2 => ?_)
      refine al_C_8 hc (by rw [e2]; exact vi_nt _ _ _) dX7_byteAt_32 ?_
      exact g_iret hc dX7_byteAt_33
  · refine g_aload_n (i := 0) hc 0 dX7_byteAt_7 rfl rfl ?_
    refine gf_C_6_cartridge hc wtC_154 dX7_byteAt_8 ?_
    refine g_iload_n (i := 1) hc 1 dX7_byteAt_11 rfl rfl ?_
    refine gk_chrByte hc wtC_166 ⟨Nat.le_of_ble_eq_true rfl, Nat.le_of_ble_eq_true rfl⟩ (Nat.le_of_ble_eq_true rfl) dX7_byteAt_12 (fun r3 S3 e3 f3 => ?_)
    exact g_iret hc dX7_byteAt_15

abbrev rm_X7_storeByte : Room := { frames := 1, cells := 0, slots := 0, locals := 22 }
def sp_X7_storeByte (k : Bool) (a0 : Int32) (a1 : Int32) (S : gSt) : Unit × gSt := (if a0 < 16128 then (if a0 < 8192 then ((), S) else gB (sp_X7_nameTablePlace k a0 S) (fun r1 S1 => gL (aP S1 8 r1 a1) (fun S2 => ((), S2)))) else gB (sp_X7_palettePlace k a0 S) (fun r3 S3 => gL (aP S3 9 r3 a1) (fun S4 => ((), S4))))
set_option maxRecDepth 100000 in
set_option maxHeartbeats 4000000 in
theorem c_X7_storeByte (l : Launch) (k : Bool) (η : gE) (a0 : Int32) (a1 : Int32) (S : gSt) : gMet l yX7_storeByte cX7_storeByte 3 none rm_X7_storeByte (oC k η) [.ref (η.1 6), .int a0, .int a1] S (oV (sp_X7_storeByte k a0 a1 S).1) (sp_X7_storeByte k a0 a1 S).2 := by
  refine gMet_of (X := sp_X7_storeByte k a0 a1 S) (lv := [(0, .ref (η.1 6)), (1, .int a0), (2, .int a1)]) oV (zC_ok η) (by decide +kernel) (Nat.le_of_ble_eq_true rfl) rfl (fun κ hc => ?_)
  have hc : gC (oC k η) κ cX7_storeByte 3 RX7 none rm_X7_storeByte := hc
  unfold sp_X7_storeByte
  refine g_iload_n (i := 1) hc 1 dX7_storeByte_0 rfl rfl ?_
  refine g_sipush (v := 16128) hc dX7_storeByte_1 (by decide) ?_
  refine g_icmplt (tgt := 20) hc dX7_storeByte_4 rfl (fun c_4 => ?_) (fun c_4 => ?_)
  · refine g_iload_n (i := 1) hc 1 dX7_storeByte_20 rfl rfl ?_
    refine g_sipush (v := 8192) hc dX7_storeByte_21 (by decide) ?_
    refine g_icmplt (tgt := 38) hc dX7_storeByte_24 rfl (fun c_24 => ?_) (fun c_24 => ?_)
    · exact g_vret hc dX7_storeByte_38
    · refine g_aload_n (i := 0) hc 0 dX7_storeByte_27 rfl rfl ?_
      refine gf_C_6_nameTables hc wtC_161 dX7_storeByte_28 ?_
      refine g_aload_n (i := 0) hc 0 dX7_storeByte_31 rfl rfl ?_
      refine g_iload_n (i := 1) hc 1 dX7_storeByte_32 rfl rfl ?_
      refine g_callVI hc 6 [.int a0] (fun l => c_X7_nameTablePlace l k η a0 S) wtC_165 ge_X7_nameTablePlace rfl ⟨rfl, rfl⟩ ⟨Nat.le_of_ble_eq_true rfl, Nat.le_of_ble_eq_true rfl⟩ rfl rfl rfl (Nat.le_of_ble_eq_true rfl) dX7_storeByte_33 (fun r1 S1 e1 f1 => ?_)
      refine g_iload_n (i := 2) hc 2 dX7_storeByte_36 rfl rfl ?_
      refine as_C_8 hc (by rw [e1]; exact vi_nt _ _ _) dX7_storeByte_37 (fun S2 f2 => ?_)
      exact g_vret hc dX7_storeByte_38
  · refine g_aload_n (i := 0) hc 0 dX7_storeByte_7 rfl rfl ?_
    refine gf_C_6_palette hc wtC_156 dX7_storeByte_8 ?_
    refine g_iload_n (i := 1) hc 1 dX7_storeByte_11 rfl rfl ?_
    refine g_callSI hc [.int a0] (fun l => c_X7_palettePlace l k η a0 S) wtC_160 ge_X7_palettePlace rfl ⟨rfl, rfl⟩ ⟨Nat.le_of_ble_eq_true rfl, Nat.le_of_ble_eq_true rfl⟩ rfl (Nat.le_of_ble_eq_true rfl) dX7_storeByte_12 (fun r3 S3 e3 f3 => ?_)
    refine g_iload_n (i := 2) hc 2 dX7_storeByte_15 rfl rfl ?_
    refine as_C_9 hc (by rw [e3]; exact vi_pal _ _ _) dX7_storeByte_16 (fun S4 f4 => ?_)
    refine g_goto (tgt := 38) hc dX7_storeByte_17 rfl ?_
    exact g_vret hc dX7_storeByte_38

abbrev rm_X7_load : Room := { frames := 2, cells := 0, slots := 0, locals := 43 }
def sp_X7_load (k : Bool) (a0 : Int32) (S : gSt) : Int32 × gSt := (if a0 = 2 then gL (sI S 14 0) (fun S1 => gL (sI S1 19 0) (fun S2 => (((S.1 14) <<< ((7 : Int32) &&& (31 : Int32))), S2))) else (if a0 = 4 then ((aG S 7 ((S.1 15) &&& 255)), S) else (if a0 = 7 then gB (sp_X7_byteAt k ((S.1 16) &&& 16383) S) (fun r3 S3 => (if ((S.1 16) &&& 16383) < 16128 then gL (sI S3 20 r3) (fun S4 => gB (sp_X7_growV k S4) (fun (_ : Unit) S5 => ((S3.1 20), S5))) else gB (sp_X7_nameTablePlace k ((S.1 16) &&& 16383) S3) (fun r6 S6 => gL (sI S6 20 (aG S6 8 r6)) (fun S7 => gB (sp_X7_growV k S7) (fun (_ : Unit) S8 => (r3, S8)))))) else (0, S))))
set_option maxRecDepth 100000 in
set_option maxHeartbeats 4000000 in
theorem c_X7_load (l : Launch) (k : Bool) (η : gE) (a0 : Int32) (S : gSt) : gMet l yX7_load cX7_load 6 (some .int) rm_X7_load (oC k η) [.ref (η.1 6), .int a0] S (oI (sp_X7_load k a0 S).1) (sp_X7_load k a0 S).2 := by
  refine gMet_of (X := sp_X7_load k a0 S) (lv := [(0, .ref (η.1 6)), (1, .int a0)]) oI (zC_ok η) (by decide +kernel) (Nat.le_of_ble_eq_true rfl) rfl (fun κ hc => ?_)
  have hc : gC (oC k η) κ cX7_load 6 RX7 (some .int) rm_X7_load := hc
  unfold sp_X7_load
  refine g_iconst (v := 0) hc dX7_load_0 (by decide) ?_
  refine g_istore_n (i := 2) (lv' := [(2, .int 0), (0, .ref (η.1 6)), (1, .int a0)]) hc dX7_load_1 rfl (by decide) rfl ?_
  refine g_iload_n (i := 1) hc 2 dX7_load_2 rfl rfl ?_
  refine g_iconst (v := 2) hc dX7_load_3 (by decide) ?_
  refine g_icmpne (tgt := 28) hc dX7_load_4 rfl (fun c_4 => ?_) (fun c_4 => ?_)
  · refine g_aload_n (i := 0) hc 1 dX7_load_7 rfl rfl ?_
    refine gf_C_6_vblank hc wtC_151 dX7_load_8 ?_
    refine g_bipush (v := 7) hc dX7_load_11 (by decide) ?_
    refine g_ishl hc dX7_load_13 ?_
    refine g_istore_n (i := 2) (lv' := [(2, .int ((S.1 14) <<< ((7 : Int32) &&& (31 : Int32)))), (0, .ref (η.1 6)), (1, .int a0)]) hc dX7_load_14 rfl (by decide) rfl ?_
    refine g_aload_n (i := 0) hc 1 dX7_load_15 rfl rfl ?_
    refine g_iconst (v := 0) hc dX7_load_16 (by decide) ?_
    refine pf_C_6_vblank (v := 0) hc wtC_151 dX7_load_17 (fun S1 f1 => ?_)
    refine g_aload_n (i := 0) hc 1 dX7_load_20 rfl rfl ?_
    refine g_iconst (v := 0) hc dX7_load_21 (by decide) ?_
    refine pf_C_6_w (v := 0) hc wtC_148 dX7_load_22 (fun S2 f2 => ?_)
    refine g_goto (tgt := 129) hc dX7_load_25 rfl ?_
    refine g_iload_n (i := 2) hc 0 dX7_load_129 rfl rfl ?_
    exact g_iret hc dX7_load_130
  · refine g_iload_n (i := 1) hc 2 dX7_load_28 rfl rfl ?_
    refine g_iconst (v := 4) hc dX7_load_29 (by decide) ?_
    refine g_icmpne (tgt := 50) hc dX7_load_30 rfl (fun c_30 => ?_) (fun c_30 => ?_)
    · refine g_aload_n (i := 0) hc 1 dX7_load_33 rfl rfl ?_
      refine gf_C_6_oam hc wtC_167 dX7_load_34 ?_
      refine g_aload_n (i := 0) hc 1 dX7_load_37 rfl rfl ?_
      refine gf_C_6_oamAddress hc wtC_168 dX7_load_38 ?_
      refine g_sipush (v := 255) hc dX7_load_41 (by decide) ?_
      refine g_iand hc dX7_load_44 ?_
      refine al_C_7 hc (pk_andIn _ 8 (by decide) (by decide)) dX7_load_45 ?_
      refine g_istore_n (i := 2) (lv' := [(2, .int (aG S 7 ((S.1 15) &&& 255))), (0, .ref (η.1 6)), (1, .int a0)]) hc dX7_load_46 rfl (by decide) rfl ?_
      refine g_goto (tgt := 129) hc dX7_load_47 rfl ?_
      refine g_iload_n (i := 2) hc 0 dX7_load_129 rfl rfl ?_
      exact g_iret hc dX7_load_130
    · refine g_iload_n (i := 1) hc 2 dX7_load_50 rfl rfl ?_
      refine g_bipush (v := 7) hc dX7_load_51 (by decide) ?_
      refine g_icmpne (tgt := 129) hc dX7_load_53 rfl (fun c_53 => ?_) (fun c_53 => ?_)
      · refine g_aload_n (i := 0) hc 1 dX7_load_56 rfl rfl ?_
        refine gf_C_6_v hc wtC_153 dX7_load_57 ?_
        refine g_sipush (v := 16383) hc dX7_load_60 (by decide) ?_
        refine g_iand hc dX7_load_63 ?_
        refine g_istore_n (i := 3) (lv' := [(3, .int ((S.1 16) &&& 16383)), (2, .int 0), (0, .ref (η.1 6)), (1, .int a0)]) hc dX7_load_64 rfl (by decide) rfl ?_
        refine g_aload_n (i := 0) hc 2 dX7_load_65 rfl rfl ?_
        refine g_iload_n (i := 3) hc 0 dX7_load_66 rfl rfl ?_
        refine g_callVI hc 6 [.int ((S.1 16) &&& 16383)] (fun l => c_X7_byteAt l k η ((S.1 16) &&& 16383) S) wtC_172 ge_X7_byteAt rfl ⟨rfl, rfl⟩ ⟨Nat.le_of_ble_eq_true rfl, Nat.le_of_ble_eq_true rfl⟩ rfl rfl rfl (Nat.le_of_ble_eq_true rfl) dX7_load_67 (fun r3 S3 e3 f3 => ?_)
        refine g_istore (i := 4) (lv' := [(4, .int r3), (3, .int ((S.1 16) &&& 16383)), (2, .int 0), (0, .ref (η.1 6)), (1, .int a0)]) hc dX7_load_70 (by decide) rfl ?_
        refine g_iload_n (i := 3) hc 1 dX7_load_72 rfl rfl ?_
        refine g_sipush (v := 16128) hc dX7_load_73 (by decide) ?_
        refine g_icmplt (tgt := 83) hc dX7_load_76 rfl (fun c_76 => ?_) (fun c_76 => ?_)
        · refine g_iconst (v := 0) hc dX7_load_83 (by decide) ?_
          refine g_istore (i := 5) (lv' := [(5, .int 0), (4, .int r3), (3, .int ((S.1 16) &&& 16383)), (2, .int 0), (0, .ref (η.1 6)), (1, .int a0)]) hc dX7_load_84 (by decide) rfl ?_
          refine g_iload (i := 5) hc 0 dX7_load_86 rfl ?_
          refine g_ifeq_t (tgt := 96) hc dX7_load_88 rfl (by decide) ?_
          refine g_aload_n (i := 0) hc 4 dX7_load_96 rfl rfl ?_
          refine gf_C_6_buffer hc wtC_173 dX7_load_97 ?_
          refine g_istore_n (i := 2) (lv' := [(2, .int (S3.1 20)), (5, .int 0), (4, .int r3), (3, .int ((S.1 16) &&& 16383)), (0, .ref (η.1 6)), (1, .int a0)]) hc dX7_load_100 rfl (by decide) rfl ?_
          refine g_aload_n (i := 0) hc 4 dX7_load_101 rfl rfl ?_
          refine g_iload (i := 5) hc 1 dX7_load_102 rfl ?_
          refine g_ifeq_t (tgt := 120) hc dX7_load_104 rfl (by decide) ?_
          refine g_iload (i := 4) hc 2 dX7_load_120 rfl ?_
          refine pf_C_6_buffer (v := r3) hc wtC_173 dX7_load_122 (fun S4 f4 => ?_)
          refine g_aload_n (i := 0) hc 4 dX7_load_125 rfl rfl ?_
          refine g_callVV hc 6 [] (fun l => c_X7_growV l k η S4) wtC_177 ge_X7_growV rfl ⟨rfl, rfl⟩ ⟨Nat.le_of_ble_eq_true rfl, Nat.le_of_ble_eq_true rfl⟩ rfl rfl rfl (Nat.le_of_ble_eq_true rfl) dX7_load_126 (fun r5 S5 e5 f5 => ?_)
          refine g_iload_n (i := 2) hc 0 dX7_load_129 rfl rfl ?_
          exact g_iret hc dX7_load_130
        · refine g_iconst (v := 1) hc dX7_load_79 (by decide) ?_
          refine g_goto (tgt := 84) hc dX7_load_80 rfl ?_
          refine g_istore (i := 5) (lv' := [(5, .int 1), (4, .int r3), (3, .int ((S.1 16) &&& 16383)), (2, .int 0), (0, .ref (η.1 6)), (1, .int a0)]) hc dX7_load_84 (by decide) rfl ?_
          refine g_iload (i := 5) hc 0 dX7_load_86 rfl ?_
          refine g_ifeq_f (tgt := 96) hc dX7_load_88 rfl (by decide) ?_
          refine g_iload (i := 4) hc 1 dX7_load_91 rfl ?_
          refine g_goto (tgt := 100) hc dX7_load_93 rfl ?_
          refine g_istore_n (i := 2) (lv' := [(2, .int r3), (5, .int 1), (4, .int r3), (3, .int ((S.1 16) &&& 16383)), (0, .ref (η.1 6)), (1, .int a0)]) hc dX7_load_100 rfl (by decide) rfl ?_
          refine g_aload_n (i := 0) hc 4 dX7_load_101 rfl rfl ?_
          refine g_iload (i := 5) hc 1 dX7_load_102 rfl ?_
          refine g_ifeq_f (tgt := 120) hc dX7_load_104 rfl (by decide) ?_
          refine g_aload_n (i := 0) hc 4 dX7_load_107 rfl rfl ?_
          refine gf_C_6_nameTables hc wtC_161 dX7_load_108 ?_
          refine g_aload_n (i := 0) hc 4 dX7_load_111 rfl rfl ?_
          refine g_iload_n (i := 3) hc 3 dX7_load_112 rfl rfl ?_
          refine g_callVI hc 6 [.int ((S.1 16) &&& 16383)] (fun l => c_X7_nameTablePlace l k η ((S.1 16) &&& 16383) S3) wtC_165 ge_X7_nameTablePlace rfl ⟨rfl, rfl⟩ ⟨Nat.le_of_ble_eq_true rfl, Nat.le_of_ble_eq_true rfl⟩ rfl rfl rfl (Nat.le_of_ble_eq_true rfl) dX7_load_113 (fun r6 S6 e6 f6 => ?_)
          refine al_C_8 hc (by rw [e6]; exact vi_nt _ _ _) dX7_load_116 ?_
          refine g_goto (tgt := 122) hc dX7_load_117 rfl ?_
          refine pf_C_6_buffer (v := (aG S6 8 r6)) hc wtC_173 dX7_load_122 (fun S7 f7 => ?_)
          refine g_aload_n (i := 0) hc 4 dX7_load_125 rfl rfl ?_
          refine g_callVV hc 6 [] (fun l => c_X7_growV l k η S7) wtC_177 ge_X7_growV rfl ⟨rfl, rfl⟩ ⟨Nat.le_of_ble_eq_true rfl, Nat.le_of_ble_eq_true rfl⟩ rfl rfl rfl (Nat.le_of_ble_eq_true rfl) dX7_load_126 (fun r8 S8 e8 f8 => ?_)
          refine g_iload_n (i := 2) hc 0 dX7_load_129 rfl rfl ?_
          exact g_iret hc dX7_load_130
      · refine g_iload_n (i := 2) hc 0 dX7_load_129 rfl rfl ?_
        exact g_iret hc dX7_load_130

abbrev rm_X7_store : Room := { frames := 2, cells := 0, slots := 0, locals := 44 }
def sp_X7_store (k : Bool) (a0 : Int32) (a1 : Int32) (S : gSt) : Unit × gSt := (if a0 = 0 then gB (sp_X7_storeControl k a1 S) (fun (_ : Unit) S1 => ((), S1)) else (if a0 = 1 then gL (sI S 13 a1) (fun S2 => ((), S2)) else (if a0 = 2 then ((), S) else (if a0 = 3 then gL (sI S 15 a1) (fun S3 => ((), S3)) else (if a0 = 4 then gL (aP S 7 ((S.1 15) &&& 255) a1) (fun S4 => gL (sI S4 15 (((S4.1 15) + 1) &&& 255)) (fun S5 => ((), S5))) else (if a0 = 5 then gB (sp_X7_storeScroll k a1 S) (fun (_ : Unit) S6 => ((), S6)) else (if a0 = 6 then gB (sp_X7_storeAddress k a1 S) (fun (_ : Unit) S7 => ((), S7)) else (if a0 = 7 then gB (sp_X7_storeByte k ((S.1 16) &&& 16383) a1 S) (fun (_ : Unit) S8 => gB (sp_X7_growV k S8) (fun (_ : Unit) S9 => ((), S9))) else ((), S)))))))))
set_option maxRecDepth 100000 in
set_option maxHeartbeats 4000000 in
theorem c_X7_store (l : Launch) (k : Bool) (η : gE) (a0 : Int32) (a1 : Int32) (S : gSt) : gMet l yX7_store cX7_store 3 none rm_X7_store (oC k η) [.ref (η.1 6), .int a0, .int a1] S (oV (sp_X7_store k a0 a1 S).1) (sp_X7_store k a0 a1 S).2 := by
  refine gMet_of (X := sp_X7_store k a0 a1 S) (lv := [(0, .ref (η.1 6)), (1, .int a0), (2, .int a1)]) oV (zC_ok η) (by decide +kernel) (Nat.le_of_ble_eq_true rfl) rfl (fun κ hc => ?_)
  have hc : gC (oC k η) κ cX7_store 3 RX7 none rm_X7_store := hc
  unfold sp_X7_store
  refine g_iload_n (i := 1) hc 1 dX7_store_0 rfl rfl ?_
  refine g_tsw (tgt := 48) hc 0 dX7_store_1 ⟨by decide, by decide, rfl⟩ rfl (fun c_1_0 => ?_) (fun c_1_0 => ?_)
  · refine g_aload_n (i := 0) hc 0 dX7_store_48 rfl rfl ?_
    refine g_iload_n (i := 2) hc 2 dX7_store_49 rfl rfl ?_
    refine g_callVV hc 6 [.int a1] (fun l => c_X7_storeControl l k η a1 S) wtC_181 ge_X7_storeControl rfl ⟨rfl, rfl⟩ ⟨Nat.le_of_ble_eq_true rfl, Nat.le_of_ble_eq_true rfl⟩ rfl rfl rfl (Nat.le_of_ble_eq_true rfl) dX7_store_50 (fun r1 S1 e1 f1 => ?_)
    refine g_goto (tgt := 139) hc dX7_store_53 rfl ?_
    exact g_vret hc dX7_store_139
  refine g_tsw (tgt := 56) hc 1 dX7_store_1 ⟨by decide, by decide, rfl⟩ rfl (fun c_1_1 => ?_) (fun c_1_1 => ?_)
  · refine g_aload_n (i := 0) hc 0 dX7_store_56 rfl rfl ?_
    refine g_iload_n (i := 2) hc 2 dX7_store_57 rfl rfl ?_
    refine pf_C_6_mask (v := a1) hc wtC_147 dX7_store_58 (fun S2 f2 => ?_)
    refine g_goto (tgt := 139) hc dX7_store_61 rfl ?_
    exact g_vret hc dX7_store_139
  refine g_tsw (tgt := 139) hc 2 dX7_store_1 ⟨by decide, by decide, rfl⟩ rfl (fun c_1_2 => ?_) (fun c_1_2 => ?_)
  · exact g_vret hc dX7_store_139
  refine g_tsw (tgt := 64) hc 3 dX7_store_1 ⟨by decide, by decide, rfl⟩ rfl (fun c_1_3 => ?_) (fun c_1_3 => ?_)
  · refine g_aload_n (i := 0) hc 0 dX7_store_64 rfl rfl ?_
    refine g_iload_n (i := 2) hc 2 dX7_store_65 rfl rfl ?_
    refine pf_C_6_oamAddress (v := a1) hc wtC_168 dX7_store_66 (fun S3 f3 => ?_)
    refine g_goto (tgt := 139) hc dX7_store_69 rfl ?_
    exact g_vret hc dX7_store_139
  refine g_tsw (tgt := 72) hc 4 dX7_store_1 ⟨by decide, by decide, rfl⟩ rfl (fun c_1_4 => ?_) (fun c_1_4 => ?_)
  · refine g_aload_n (i := 0) hc 0 dX7_store_72 rfl rfl ?_
    refine gf_C_6_oam hc wtC_167 dX7_store_73 ?_
    refine g_aload_n (i := 0) hc 0 dX7_store_76 rfl rfl ?_
    refine gf_C_6_oamAddress hc wtC_168 dX7_store_77 ?_
    refine g_sipush (v := 255) hc dX7_store_80 (by decide) ?_
    refine g_iand hc dX7_store_83 ?_
    refine g_iload_n (i := 2) hc 2 dX7_store_84 rfl rfl ?_
    refine as_C_7 hc (pk_andIn _ 8 (by decide) (by decide)) dX7_store_85 (fun S4 f4 => ?_)
    refine g_aload_n (i := 0) hc 0 dX7_store_86 rfl rfl ?_
    refine g_aload_n (i := 0) hc 0 dX7_store_87 rfl rfl ?_
    refine gf_C_6_oamAddress hc wtC_168 dX7_store_88 ?_
    refine g_iconst (v := 1) hc dX7_store_91 (by decide) ?_
    refine g_iadd hc dX7_store_92 ?_
    refine g_sipush (v := 255) hc dX7_store_93 (by decide) ?_
    refine g_iand hc dX7_store_96 ?_
    refine pf_C_6_oamAddress (v := (((S4.1 15) + 1) &&& 255)) hc wtC_168 dX7_store_97 (fun S5 f5 => ?_)
    refine g_goto (tgt := 139) hc dX7_store_100 rfl ?_
    exact g_vret hc dX7_store_139
  refine g_tsw (tgt := 103) hc 5 dX7_store_1 ⟨by decide, by decide, rfl⟩ rfl (fun c_1_5 => ?_) (fun c_1_5 => ?_)
  · refine g_aload_n (i := 0) hc 0 dX7_store_103 rfl rfl ?_
    refine g_iload_n (i := 2) hc 2 dX7_store_104 rfl rfl ?_
    refine g_callVV hc 6 [.int a1] (fun l => c_X7_storeScroll l k η a1 S) wtC_185 ge_X7_storeScroll rfl ⟨rfl, rfl⟩ ⟨Nat.le_of_ble_eq_true rfl, Nat.le_of_ble_eq_true rfl⟩ rfl rfl rfl (Nat.le_of_ble_eq_true rfl) dX7_store_105 (fun r6 S6 e6 f6 => ?_)
    refine g_goto (tgt := 139) hc dX7_store_108 rfl ?_
    exact g_vret hc dX7_store_139
  refine g_tsw (tgt := 111) hc 6 dX7_store_1 ⟨by decide, by decide, rfl⟩ rfl (fun c_1_6 => ?_) (fun c_1_6 => ?_)
  · refine g_aload_n (i := 0) hc 0 dX7_store_111 rfl rfl ?_
    refine g_iload_n (i := 2) hc 2 dX7_store_112 rfl rfl ?_
    refine g_callVV hc 6 [.int a1] (fun l => c_X7_storeAddress l k η a1 S) wtC_189 ge_X7_storeAddress rfl ⟨rfl, rfl⟩ ⟨Nat.le_of_ble_eq_true rfl, Nat.le_of_ble_eq_true rfl⟩ rfl rfl rfl (Nat.le_of_ble_eq_true rfl) dX7_store_113 (fun r7 S7 e7 f7 => ?_)
    refine g_goto (tgt := 139) hc dX7_store_116 rfl ?_
    exact g_vret hc dX7_store_139
  refine g_tsw (tgt := 119) hc 7 dX7_store_1 ⟨by decide, by decide, rfl⟩ rfl (fun c_1_7 => ?_) (fun c_1_7 => ?_)
  · refine g_aload_n (i := 0) hc 0 dX7_store_119 rfl rfl ?_
    refine g_aload_n (i := 0) hc 0 dX7_store_120 rfl rfl ?_
    refine gf_C_6_v hc wtC_153 dX7_store_121 ?_
    refine g_sipush (v := 16383) hc dX7_store_124 (by decide) ?_
    refine g_iand hc dX7_store_127 ?_
    refine g_iload_n (i := 2) hc 2 dX7_store_128 rfl rfl ?_
    refine g_callVV hc 6 [.int ((S.1 16) &&& 16383), .int a1] (fun l => c_X7_storeByte l k η ((S.1 16) &&& 16383) a1 S) wtC_193 ge_X7_storeByte rfl ⟨rfl, rfl⟩ ⟨Nat.le_of_ble_eq_true rfl, Nat.le_of_ble_eq_true rfl⟩ rfl rfl rfl (Nat.le_of_ble_eq_true rfl) dX7_store_129 (fun r8 S8 e8 f8 => ?_)
    refine g_aload_n (i := 0) hc 0 dX7_store_132 rfl rfl ?_
    refine g_callVV hc 6 [] (fun l => c_X7_growV l k η S8) wtC_177 ge_X7_growV rfl ⟨rfl, rfl⟩ ⟨Nat.le_of_ble_eq_true rfl, Nat.le_of_ble_eq_true rfl⟩ rfl rfl rfl (Nat.le_of_ble_eq_true rfl) dX7_store_133 (fun r9 S9 e9 f9 => ?_)
    refine g_goto (tgt := 139) hc dX7_store_136 rfl ?_
    exact g_vret hc dX7_store_139
  refine g_tswd (tgt := 139) hc dX7_store_1 (by have := lv_neT c_1_0 (a := 0) (by decide); have := lv_neT c_1_1 (a := 1) (by decide); have := lv_neT c_1_2 (a := 2) (by decide); have := lv_neT c_1_3 (a := 3) (by decide); have := lv_neT c_1_4 (a := 4) (by decide); have := lv_neT c_1_5 (a := 5) (by decide); have := lv_neT c_1_6 (a := 6) (by decide); have := lv_neT c_1_7 (a := 7) (by decide); omega) rfl ?_
  exact g_vret hc dX7_store_139

abbrev rm_X7_comeToDotOne : Room := { frames := 0, cells := 0, slots := 0, locals := 0 }
def sp_X7_comeToDotOne (k : Bool)  (S : gSt) : Unit × gSt := (if (S.1 21) = 241 then gL (sI S 14 1) (fun S1 => (if ((S1.1 12) &&& 128) = 0 then ((), S1) else gL (sZ S1 2 true) (fun S2 => ((), S2)))) else (if (S.1 21) = 261 then gL (sI S 14 0) (fun S3 => ((), S3)) else ((), S)))
set_option maxRecDepth 100000 in
set_option maxHeartbeats 4000000 in
theorem c_X7_comeToDotOne (l : Launch) (k : Bool) (η : gE)  (S : gSt) : gMet l yX7_comeToDotOne cX7_comeToDotOne 1 none rm_X7_comeToDotOne (oC k η) [.ref (η.1 6)] S (oV (sp_X7_comeToDotOne k S).1) (sp_X7_comeToDotOne k S).2 := by
  refine gMet_of (X := sp_X7_comeToDotOne k S) (lv := [(0, .ref (η.1 6))]) oV (zC_ok η) (by decide +kernel) (Nat.le_of_ble_eq_true rfl) rfl (fun κ hc => ?_)
  have hc : gC (oC k η) κ cX7_comeToDotOne 1 RX7 none rm_X7_comeToDotOne := hc
  unfold sp_X7_comeToDotOne
  refine g_aload_n (i := 0) hc 0 dX7_comeToDotOne_0 rfl rfl ?_
  refine gf_C_6_line hc wtC_194 dX7_comeToDotOne_1 ?_
  refine g_sipush (v := 241) hc dX7_comeToDotOne_4 (by decide) ?_
  refine g_icmpne (tgt := 34) hc dX7_comeToDotOne_7 rfl (fun c_7 => ?_) (fun c_7 => ?_)
  · refine g_aload_n (i := 0) hc 0 dX7_comeToDotOne_10 rfl rfl ?_
    refine g_iconst (v := 1) hc dX7_comeToDotOne_11 (by decide) ?_
    refine pf_C_6_vblank (v := 1) hc wtC_151 dX7_comeToDotOne_12 (fun S1 f1 => ?_)
    refine g_aload_n (i := 0) hc 0 dX7_comeToDotOne_15 rfl rfl ?_
    refine gf_C_6_ctrl hc wtC_146 dX7_comeToDotOne_16 ?_
    refine g_sipush (v := 128) hc dX7_comeToDotOne_19 (by decide) ?_
    refine g_iand hc dX7_comeToDotOne_22 ?_
    refine g_ifeq (tgt := 49) hc dX7_comeToDotOne_23 rfl (fun c_23 => ?_) (fun c_23 => ?_)
    · exact g_vret hc dX7_comeToDotOne_49
    · refine g_aload_n (i := 0) hc 0 dX7_comeToDotOne_26 rfl rfl ?_
      refine g_iconst (v := 1) hc dX7_comeToDotOne_27 (by decide) ?_
      refine pf_C_6_nmiPending (v := true) hc wtC_149 dX7_comeToDotOne_28 (fun S2 f2 => ?_)
      refine g_goto (tgt := 49) hc dX7_comeToDotOne_31 rfl ?_
      exact g_vret hc dX7_comeToDotOne_49
  · refine g_aload_n (i := 0) hc 0 dX7_comeToDotOne_34 rfl rfl ?_
    refine gf_C_6_line hc wtC_194 dX7_comeToDotOne_35 ?_
    refine g_sipush (v := 261) hc dX7_comeToDotOne_38 (by decide) ?_
    refine g_icmpne (tgt := 49) hc dX7_comeToDotOne_41 rfl (fun c_41 => ?_) (fun c_41 => ?_)
    · refine g_aload_n (i := 0) hc 0 dX7_comeToDotOne_44 rfl rfl ?_
      refine g_iconst (v := 0) hc dX7_comeToDotOne_45 (by decide) ?_
      refine pf_C_6_vblank (v := 0) hc wtC_151 dX7_comeToDotOne_46 (fun S3 f3 => ?_)
      exact g_vret hc dX7_comeToDotOne_49
    · exact g_vret hc dX7_comeToDotOne_49

abbrev rm_X7_tellLine : Room := { frames := 1, cells := 0, slots := 0, locals := 20 }
def sp_X7_tellLine (k : Bool)  (S : gSt) : Unit × gSt := (if (S.1 21) < 240 then (if ((S.1 13) &&& 24) = 0 then ((), S) else gB (sp_K_noteLine k S) (fun (_ : Unit) S1 => ((), S1))) else (if (S.1 21) = 261 then (if ((S.1 13) &&& 24) = 0 then ((), S) else gB (sp_K_noteLine k S) (fun (_ : Unit) S2 => ((), S2))) else ((), S)))
set_option maxRecDepth 100000 in
set_option maxHeartbeats 4000000 in
theorem c_X7_tellLine (l : Launch) (k : Bool) (η : gE)  (S : gSt) : gMet l yX7_tellLine cX7_tellLine 2 none rm_X7_tellLine (oC k η) [.ref (η.1 6)] S (oV (sp_X7_tellLine k S).1) (sp_X7_tellLine k S).2 := by
  refine gMet_of (X := sp_X7_tellLine k S) (lv := [(0, .ref (η.1 6))]) oV (zC_ok η) (by decide +kernel) (Nat.le_of_ble_eq_true rfl) rfl (fun κ hc => ?_)
  have hc : gC (oC k η) κ cX7_tellLine 2 RX7 none rm_X7_tellLine := hc
  unfold sp_X7_tellLine
  refine g_aload_n (i := 0) hc 0 dX7_tellLine_0 rfl rfl ?_
  refine gf_C_6_line hc wtC_194 dX7_tellLine_1 ?_
  refine g_sipush (v := 240) hc dX7_tellLine_4 (by decide) ?_
  refine g_icmplt (tgt := 20) hc dX7_tellLine_7 rfl (fun c_7 => ?_) (fun c_7 => ?_)
  · refine g_iconst (v := 1) hc dX7_tellLine_20 (by decide) ?_
    refine g_goto (tgt := 25) hc dX7_tellLine_21 rfl ?_
    refine g_istore_n (i := 1) (lv' := [(1, .int 1), (0, .ref (η.1 6))]) hc dX7_tellLine_25 rfl (by decide) rfl ?_
    refine g_iload_n (i := 1) hc 0 dX7_tellLine_26 rfl rfl ?_
    refine g_ifeq_f (tgt := 47) hc dX7_tellLine_27 rfl (by decide) ?_
    refine g_aload_n (i := 0) hc 1 dX7_tellLine_30 rfl rfl ?_
    refine gf_C_6_mask hc wtC_147 dX7_tellLine_31 ?_
    refine g_bipush (v := 24) hc dX7_tellLine_34 (by decide) ?_
    refine g_iand hc dX7_tellLine_36 ?_
    refine g_ifeq (tgt := 47) hc dX7_tellLine_37 rfl (fun c_37 => ?_) (fun c_37 => ?_)
    · exact g_vret hc dX7_tellLine_47
    · refine g_aload_n (i := 0) hc 1 dX7_tellLine_40 rfl rfl ?_
      refine gf_C_6_cartridge hc wtC_154 dX7_tellLine_41 ?_
      refine gk_noteLine hc wtC_195 ⟨Nat.le_of_ble_eq_true rfl, Nat.le_of_ble_eq_true rfl⟩ (Nat.le_of_ble_eq_true rfl) dX7_tellLine_44 (fun r1 S1 e1 f1 => ?_)
      exact g_vret hc dX7_tellLine_47
  · refine g_aload_n (i := 0) hc 0 dX7_tellLine_10 rfl rfl ?_
    refine gf_C_6_line hc wtC_194 dX7_tellLine_11 ?_
    refine g_sipush (v := 261) hc dX7_tellLine_14 (by decide) ?_
    refine g_icmpne (tgt := 24) hc dX7_tellLine_17 rfl (fun c_17 => ?_) (fun c_17 => ?_)
    · refine g_iconst (v := 1) hc dX7_tellLine_20 (by decide) ?_
      refine g_goto (tgt := 25) hc dX7_tellLine_21 rfl ?_
      refine g_istore_n (i := 1) (lv' := [(1, .int 1), (0, .ref (η.1 6))]) hc dX7_tellLine_25 rfl (by decide) rfl ?_
      refine g_iload_n (i := 1) hc 0 dX7_tellLine_26 rfl rfl ?_
      refine g_ifeq_f (tgt := 47) hc dX7_tellLine_27 rfl (by decide) ?_
      refine g_aload_n (i := 0) hc 1 dX7_tellLine_30 rfl rfl ?_
      refine gf_C_6_mask hc wtC_147 dX7_tellLine_31 ?_
      refine g_bipush (v := 24) hc dX7_tellLine_34 (by decide) ?_
      refine g_iand hc dX7_tellLine_36 ?_
      refine g_ifeq (tgt := 47) hc dX7_tellLine_37 rfl (fun c_37 => ?_) (fun c_37 => ?_)
      · exact g_vret hc dX7_tellLine_47
      · refine g_aload_n (i := 0) hc 1 dX7_tellLine_40 rfl rfl ?_
        refine gf_C_6_cartridge hc wtC_154 dX7_tellLine_41 ?_
        refine gk_noteLine hc wtC_195 ⟨Nat.le_of_ble_eq_true rfl, Nat.le_of_ble_eq_true rfl⟩ (Nat.le_of_ble_eq_true rfl) dX7_tellLine_44 (fun r2 S2 e2 f2 => ?_)
        exact g_vret hc dX7_tellLine_47
    · refine g_iconst (v := 0) hc dX7_tellLine_24 (by decide) ?_
      refine g_istore_n (i := 1) (lv' := [(1, .int 0), (0, .ref (η.1 6))]) hc dX7_tellLine_25 rfl (by decide) rfl ?_
      refine g_iload_n (i := 1) hc 0 dX7_tellLine_26 rfl rfl ?_
      refine g_ifeq_t (tgt := 47) hc dX7_tellLine_27 rfl (by decide) ?_
      exact g_vret hc dX7_tellLine_47

abbrev rm_X7_advance : Room := { frames := 2, cells := 0, slots := 0, locals := 41 }
def lp_X7_advance_4 (k : Bool) : Nat → Int32 → Int32 → Int32 → gSt → Unit × gSt
  | 0, _, _, _, S => ((), S)
  | n + 1, x1, x2, x3, S => (if 1000 ≤ x3 then ((), S) else (if x2 ≤ 0 then ((), S) else (if 1 ≤ (S.1 22) then (if 260 ≤ (S.1 22) then gL (sI S 22 ((S.1 22) + (if (341 - (S.1 22)) < x2 then (341 - (S.1 22)) else x2))) (fun S1 => (if (S1.1 22) = 341 then gL (sI S1 22 0) (fun S2 => (if (S2.1 21) = 261 then gL (sI S2 21 0) (fun S3 => lp_X7_advance_4 k n x1 (x2 - (if (341 - (S.1 22)) < x2 then (341 - (S.1 22)) else x2)) (x3 + 1) S3) else gL (sI S2 21 ((S2.1 21) + 1)) (fun S4 => lp_X7_advance_4 k n x1 (x2 - (if (341 - (S.1 22)) < x2 then (341 - (S.1 22)) else x2)) (x3 + 1) S4))) else lp_X7_advance_4 k n x1 (x2 - (if (341 - (S.1 22)) < x2 then (341 - (S.1 22)) else x2)) (x3 + 1) S1)) else (if ((S.1 22) + (if (341 - (S.1 22)) < x2 then (341 - (S.1 22)) else x2)) < 260 then gL (sI S 22 ((S.1 22) + (if (341 - (S.1 22)) < x2 then (341 - (S.1 22)) else x2))) (fun S5 => (if (S5.1 22) = 341 then gL (sI S5 22 0) (fun S6 => (if (S6.1 21) = 261 then gL (sI S6 21 0) (fun S7 => lp_X7_advance_4 k n x1 (x2 - (if (341 - (S.1 22)) < x2 then (341 - (S.1 22)) else x2)) (x3 + 1) S7) else gL (sI S6 21 ((S6.1 21) + 1)) (fun S8 => lp_X7_advance_4 k n x1 (x2 - (if (341 - (S.1 22)) < x2 then (341 - (S.1 22)) else x2)) (x3 + 1) S8))) else lp_X7_advance_4 k n x1 (x2 - (if (341 - (S.1 22)) < x2 then (341 - (S.1 22)) else x2)) (x3 + 1) S5)) else gB (sp_X7_tellLine k S) (fun (_ : Unit) S9 => gL (sI S9 22 ((S.1 22) + (if (341 - (S.1 22)) < x2 then (341 - (S.1 22)) else x2))) (fun S10 => (if (S10.1 22) = 341 then gL (sI S10 22 0) (fun S11 => (if (S11.1 21) = 261 then gL (sI S11 21 0) (fun S12 => lp_X7_advance_4 k n x1 (x2 - (if (341 - (S.1 22)) < x2 then (341 - (S.1 22)) else x2)) (x3 + 1) S12) else gL (sI S11 21 ((S11.1 21) + 1)) (fun S13 => lp_X7_advance_4 k n x1 (x2 - (if (341 - (S.1 22)) < x2 then (341 - (S.1 22)) else x2)) (x3 + 1) S13))) else lp_X7_advance_4 k n x1 (x2 - (if (341 - (S.1 22)) < x2 then (341 - (S.1 22)) else x2)) (x3 + 1) S10))))) else (if ((S.1 22) + (if (341 - (S.1 22)) < x2 then (341 - (S.1 22)) else x2)) < 1 then (if 260 ≤ (S.1 22) then gL (sI S 22 ((S.1 22) + (if (341 - (S.1 22)) < x2 then (341 - (S.1 22)) else x2))) (fun S14 => (if (S14.1 22) = 341 then gL (sI S14 22 0) (fun S15 => (if (S15.1 21) = 261 then gL (sI S15 21 0) (fun S16 => lp_X7_advance_4 k n x1 (x2 - (if (341 - (S.1 22)) < x2 then (341 - (S.1 22)) else x2)) (x3 + 1) S16) else gL (sI S15 21 ((S15.1 21) + 1)) (fun S17 => lp_X7_advance_4 k n x1 (x2 - (if (341 - (S.1 22)) < x2 then (341 - (S.1 22)) else x2)) (x3 + 1) S17))) else lp_X7_advance_4 k n x1 (x2 - (if (341 - (S.1 22)) < x2 then (341 - (S.1 22)) else x2)) (x3 + 1) S14)) else (if ((S.1 22) + (if (341 - (S.1 22)) < x2 then (341 - (S.1 22)) else x2)) < 260 then gL (sI S 22 ((S.1 22) + (if (341 - (S.1 22)) < x2 then (341 - (S.1 22)) else x2))) (fun S18 => (if (S18.1 22) = 341 then gL (sI S18 22 0) (fun S19 => (if (S19.1 21) = 261 then gL (sI S19 21 0) (fun S20 => lp_X7_advance_4 k n x1 (x2 - (if (341 - (S.1 22)) < x2 then (341 - (S.1 22)) else x2)) (x3 + 1) S20) else gL (sI S19 21 ((S19.1 21) + 1)) (fun S21 => lp_X7_advance_4 k n x1 (x2 - (if (341 - (S.1 22)) < x2 then (341 - (S.1 22)) else x2)) (x3 + 1) S21))) else lp_X7_advance_4 k n x1 (x2 - (if (341 - (S.1 22)) < x2 then (341 - (S.1 22)) else x2)) (x3 + 1) S18)) else gB (sp_X7_tellLine k S) (fun (_ : Unit) S22 => gL (sI S22 22 ((S.1 22) + (if (341 - (S.1 22)) < x2 then (341 - (S.1 22)) else x2))) (fun S23 => (if (S23.1 22) = 341 then gL (sI S23 22 0) (fun S24 => (if (S24.1 21) = 261 then gL (sI S24 21 0) (fun S25 => lp_X7_advance_4 k n x1 (x2 - (if (341 - (S.1 22)) < x2 then (341 - (S.1 22)) else x2)) (x3 + 1) S25) else gL (sI S24 21 ((S24.1 21) + 1)) (fun S26 => lp_X7_advance_4 k n x1 (x2 - (if (341 - (S.1 22)) < x2 then (341 - (S.1 22)) else x2)) (x3 + 1) S26))) else lp_X7_advance_4 k n x1 (x2 - (if (341 - (S.1 22)) < x2 then (341 - (S.1 22)) else x2)) (x3 + 1) S23))))) else gB (sp_X7_comeToDotOne k S) (fun (_ : Unit) S27 => (if 260 ≤ (S27.1 22) then gL (sI S27 22 ((S.1 22) + (if (341 - (S.1 22)) < x2 then (341 - (S.1 22)) else x2))) (fun S28 => (if (S28.1 22) = 341 then gL (sI S28 22 0) (fun S29 => (if (S29.1 21) = 261 then gL (sI S29 21 0) (fun S30 => lp_X7_advance_4 k n x1 (x2 - (if (341 - (S.1 22)) < x2 then (341 - (S.1 22)) else x2)) (x3 + 1) S30) else gL (sI S29 21 ((S29.1 21) + 1)) (fun S31 => lp_X7_advance_4 k n x1 (x2 - (if (341 - (S.1 22)) < x2 then (341 - (S.1 22)) else x2)) (x3 + 1) S31))) else lp_X7_advance_4 k n x1 (x2 - (if (341 - (S.1 22)) < x2 then (341 - (S.1 22)) else x2)) (x3 + 1) S28)) else (if ((S.1 22) + (if (341 - (S.1 22)) < x2 then (341 - (S.1 22)) else x2)) < 260 then gL (sI S27 22 ((S.1 22) + (if (341 - (S.1 22)) < x2 then (341 - (S.1 22)) else x2))) (fun S32 => (if (S32.1 22) = 341 then gL (sI S32 22 0) (fun S33 => (if (S33.1 21) = 261 then gL (sI S33 21 0) (fun S34 => lp_X7_advance_4 k n x1 (x2 - (if (341 - (S.1 22)) < x2 then (341 - (S.1 22)) else x2)) (x3 + 1) S34) else gL (sI S33 21 ((S33.1 21) + 1)) (fun S35 => lp_X7_advance_4 k n x1 (x2 - (if (341 - (S.1 22)) < x2 then (341 - (S.1 22)) else x2)) (x3 + 1) S35))) else lp_X7_advance_4 k n x1 (x2 - (if (341 - (S.1 22)) < x2 then (341 - (S.1 22)) else x2)) (x3 + 1) S32)) else gB (sp_X7_tellLine k S27) (fun (_ : Unit) S36 => gL (sI S36 22 ((S.1 22) + (if (341 - (S.1 22)) < x2 then (341 - (S.1 22)) else x2))) (fun S37 => (if (S37.1 22) = 341 then gL (sI S37 22 0) (fun S38 => (if (S38.1 21) = 261 then gL (sI S38 21 0) (fun S39 => lp_X7_advance_4 k n x1 (x2 - (if (341 - (S.1 22)) < x2 then (341 - (S.1 22)) else x2)) (x3 + 1) S39) else gL (sI S38 21 ((S38.1 21) + 1)) (fun S40 => lp_X7_advance_4 k n x1 (x2 - (if (341 - (S.1 22)) < x2 then (341 - (S.1 22)) else x2)) (x3 + 1) S40))) else lp_X7_advance_4 k n x1 (x2 - (if (341 - (S.1 22)) < x2 then (341 - (S.1 22)) else x2)) (x3 + 1) S37))))))))))
def sp_X7_advance (k : Bool) (a0 : Int32) (S : gSt) : Unit × gSt := lp_X7_advance_4 k 1001 a0 a0 0 S
set_option maxRecDepth 100000 in
set_option maxHeartbeats 4000000 in
theorem g_lp_X7_advance_4 {k : Bool} {η : gE} {κ : gK} (hc : gC (oC k η) κ cX7_advance 6 RX7 none rm_X7_advance) : ∀ (n : Nat) (x1 : Int32) (x2 : Int32) (x3 : Int32) (S : gSt), gJ 1000 x3 n → gG (oC k η) κ 6 oV 4 [(0, .ref (η.1 6)), (1, .int x1), (2, .int x2), (3, .int x3)] [] S (lp_X7_advance_4 k n x1 x2 x3 S) := by
  intro n
  induction n with
  | zero => exact fun _ _ _ _ h => gJ_0 h
  | succ n ih =>
    intro x1 x2 x3 S hJ
    rw [lp_X7_advance_4]
    refine g_iload_n (i := 3) hc 3 dX7_advance_4 rfl rfl ?_
    refine g_sipush (v := 1000) hc dX7_advance_5 (by decide) ?_
    refine g_icmpge (tgt := 134) hc dX7_advance_8 rfl (fun c_8 => ?_) (fun c_8 => ?_)
    · exact g_vret hc dX7_advance_134
    · refine g_iload_n (i := 2) hc 2 dX7_advance_11 rfl rfl ?_
      refine g_ifle (tgt := 134) hc dX7_advance_12 rfl (fun c_12 => ?_) (fun c_12 => ?_)
      · exact g_vret hc dX7_advance_134
      · refine g_iload_n (i := 2) hc 2 dX7_advance_15 rfl rfl ?_
        refine g_sipush (v := 341) hc dX7_advance_16 (by decide) ?_
        refine g_aload_n (i := 0) hc 0 dX7_advance_19 rfl rfl ?_
        refine gf_C_6_dot hc wtC_196 dX7_advance_20 ?_
        refine g_isub hc dX7_advance_23 ?_
        refine g_mmin hc wtC_197 wtC_139 wtC_140 wtC_141 ⟨by decide, Nat.le_of_ble_eq_true rfl⟩ dX7_advance_24 ?_
        refine g_istore (i := 4) (lv' := [(4, .int (if (341 - (S.1 22)) < x2 then (341 - (S.1 22)) else x2)), (0, .ref (η.1 6)), (1, .int x1), (2, .int x2), (3, .int x3)]) hc dX7_advance_27 (by decide) rfl ?_
        refine g_aload_n (i := 0) hc 1 dX7_advance_29 rfl rfl ?_
        refine gf_C_6_dot hc wtC_196 dX7_advance_30 ?_
        refine g_iload (i := 4) hc 0 dX7_advance_33 rfl ?_
        refine g_iadd hc dX7_advance_35 ?_
        refine g_istore (i := 5) (lv' := [(5, .int ((S.1 22) + (if (341 - (S.1 22)) < x2 then (341 - (S.1 22)) else x2))), (4, .int (if (341 - (S.1 22)) < x2 then (341 - (S.1 22)) else x2)), (0, .ref (η.1 6)), (1, .int x1), (2, .int x2), (3, .int x3)]) hc dX7_advance_36 (by decide) rfl ?_
        refine g_aload_n (i := 0) hc 2 dX7_advance_38 rfl rfl ?_
        refine gf_C_6_dot hc wtC_196 dX7_advance_39 ?_
        refine g_iconst (v := 1) hc dX7_advance_42 (by decide) ?_
        refine g_icmpge (tgt := 56) hc dX7_advance_43 rfl (fun c_43 => ?_) (fun c_43 => ?_)
        · refine g_aload_n (i := 0) hc 2 dX7_advance_56 rfl rfl ?_
          refine gf_C_6_dot hc wtC_196 dX7_advance_57 ?_
          refine g_sipush (v := 260) hc dX7_advance_60 (by decide) ?_
          refine g_icmpge (tgt := 78) hc dX7_advance_63 rfl (fun c_63 => ?_) (fun c_63 => ?_)
          · refine g_iload_n (i := 2) hc 4 dX7_advance_78 rfl rfl ?_
            refine g_iload (i := 4) hc 1 dX7_advance_79 rfl ?_
            refine g_isub hc dX7_advance_81 ?_
            refine g_istore_n (i := 2) (lv' := [(2, .int (x2 - (if (341 - (S.1 22)) < x2 then (341 - (S.1 22)) else x2))), (5, .int ((S.1 22) + (if (341 - (S.1 22)) < x2 then (341 - (S.1 22)) else x2))), (4, .int (if (341 - (S.1 22)) < x2 then (341 - (S.1 22)) else x2)), (0, .ref (η.1 6)), (1, .int x1), (3, .int x3)]) hc dX7_advance_82 rfl (by decide) rfl ?_
            refine g_aload_n (i := 0) hc 3 dX7_advance_83 rfl rfl ?_
            refine g_iload (i := 5) hc 1 dX7_advance_84 rfl ?_
            refine pf_C_6_dot (v := ((S.1 22) + (if (341 - (S.1 22)) < x2 then (341 - (S.1 22)) else x2))) hc wtC_196 dX7_advance_86 (fun S1 f1 => ?_)
            refine g_aload_n (i := 0) hc 3 dX7_advance_89 rfl rfl ?_
            refine gf_C_6_dot hc wtC_196 dX7_advance_90 ?_
            refine g_sipush (v := 341) hc dX7_advance_93 (by decide) ?_
            refine g_icmpne (tgt := 128) hc dX7_advance_96 rfl (fun c_96 => ?_) (fun c_96 => ?_)
            · refine g_aload_n (i := 0) hc 3 dX7_advance_99 rfl rfl ?_
              refine g_iconst (v := 0) hc dX7_advance_100 (by decide) ?_
              refine pf_C_6_dot (v := 0) hc wtC_196 dX7_advance_101 (fun S2 f2 => ?_)
              refine g_aload_n (i := 0) hc 3 dX7_advance_104 rfl rfl ?_
              refine g_aload_n (i := 0) hc 3 dX7_advance_105 rfl rfl ?_
              refine gf_C_6_line hc wtC_194 dX7_advance_106 ?_
              refine g_sipush (v := 261) hc dX7_advance_109 (by decide) ?_
              refine g_icmpne (tgt := 119) hc dX7_advance_112 rfl (fun c_112 => ?_) (fun c_112 => ?_)
              · refine g_iconst (v := 0) hc dX7_advance_115 (by decide) ?_
                refine g_goto (tgt := 125) hc dX7_advance_116 rfl ?_
                refine pf_C_6_line (v := 0) hc wtC_194 dX7_advance_125 (fun S3 f3 => ?_)
                refine g_iinc (i := 3) (v := 1) (lv' := [(3, .int (x3 + 1)), (2, .int (x2 - (if (341 - (S.1 22)) < x2 then (341 - (S.1 22)) else x2))), (5, .int ((S.1 22) + (if (341 - (S.1 22)) < x2 then (341 - (S.1 22)) else x2))), (4, .int (if (341 - (S.1 22)) < x2 then (341 - (S.1 22)) else x2)), (0, .ref (η.1 6)), (1, .int x1)]) hc 5 dX7_advance_128 rfl (by decide) (by decide) rfl ?_
                refine g_goto (tgt := 4) hc dX7_advance_131 rfl ?_
                exact g_lv [4, 5, 1, 0] rfl (ih _ _ _ _ (gJ_s hJ c_8))
              · refine g_aload_n (i := 0) hc 3 dX7_advance_119 rfl rfl ?_
                refine gf_C_6_line hc wtC_194 dX7_advance_120 ?_
                refine g_iconst (v := 1) hc dX7_advance_123 (by decide) ?_
                refine g_iadd hc dX7_advance_124 ?_
                refine pf_C_6_line (v := ((S2.1 21) + 1)) hc wtC_194 dX7_advance_125 (fun S4 f4 => ?_)
                refine g_iinc (i := 3) (v := 1) (lv' := [(3, .int (x3 + 1)), (2, .int (x2 - (if (341 - (S.1 22)) < x2 then (341 - (S.1 22)) else x2))), (5, .int ((S.1 22) + (if (341 - (S.1 22)) < x2 then (341 - (S.1 22)) else x2))), (4, .int (if (341 - (S.1 22)) < x2 then (341 - (S.1 22)) else x2)), (0, .ref (η.1 6)), (1, .int x1)]) hc 5 dX7_advance_128 rfl (by decide) (by decide) rfl ?_
                refine g_goto (tgt := 4) hc dX7_advance_131 rfl ?_
                exact g_lv [4, 5, 1, 0] rfl (ih _ _ _ _ (gJ_s hJ c_8))
            · refine g_iinc (i := 3) (v := 1) (lv' := [(3, .int (x3 + 1)), (2, .int (x2 - (if (341 - (S.1 22)) < x2 then (341 - (S.1 22)) else x2))), (5, .int ((S.1 22) + (if (341 - (S.1 22)) < x2 then (341 - (S.1 22)) else x2))), (4, .int (if (341 - (S.1 22)) < x2 then (341 - (S.1 22)) else x2)), (0, .ref (η.1 6)), (1, .int x1)]) hc 5 dX7_advance_128 rfl (by decide) (by decide) rfl ?_
              refine g_goto (tgt := 4) hc dX7_advance_131 rfl ?_
              exact g_lv [4, 5, 1, 0] rfl (ih _ _ _ _ (gJ_s hJ c_8))
          · refine g_iload (i := 5) hc 0 dX7_advance_66 rfl ?_
            refine g_sipush (v := 260) hc dX7_advance_68 (by decide) ?_
            refine g_icmplt (tgt := 78) hc dX7_advance_71 rfl (fun c_71 => ?_) (fun c_71 => ?_)
            · refine g_iload_n (i := 2) hc 4 dX7_advance_78 rfl rfl ?_
              refine g_iload (i := 4) hc 1 dX7_advance_79 rfl ?_
              refine g_isub hc dX7_advance_81 ?_
              refine g_istore_n (i := 2) (lv' := [(2, .int (x2 - (if (341 - (S.1 22)) < x2 then (341 - (S.1 22)) else x2))), (5, .int ((S.1 22) + (if (341 - (S.1 22)) < x2 then (341 - (S.1 22)) else x2))), (4, .int (if (341 - (S.1 22)) < x2 then (341 - (S.1 22)) else x2)), (0, .ref (η.1 6)), (1, .int x1), (3, .int x3)]) hc dX7_advance_82 rfl (by decide) rfl ?_
              refine g_aload_n (i := 0) hc 3 dX7_advance_83 rfl rfl ?_
              refine g_iload (i := 5) hc 1 dX7_advance_84 rfl ?_
              refine pf_C_6_dot (v := ((S.1 22) + (if (341 - (S.1 22)) < x2 then (341 - (S.1 22)) else x2))) hc wtC_196 dX7_advance_86 (fun S5 f5 => ?_)
              refine g_aload_n (i := 0) hc 3 dX7_advance_89 rfl rfl ?_
              refine gf_C_6_dot hc wtC_196 dX7_advance_90 ?_
              refine g_sipush (v := 341) hc dX7_advance_93 (by decide) ?_
              refine g_icmpne (tgt := 128) hc dX7_advance_96 rfl (fun c_96 => ?_) (fun c_96 => ?_)
              · refine g_aload_n (i := 0) hc 3 dX7_advance_99 rfl rfl ?_
                refine g_iconst (v := 0) hc dX7_advance_100 (by decide) ?_
                refine pf_C_6_dot (v := 0) hc wtC_196 dX7_advance_101 (fun S6 f6 => ?_)
                refine g_aload_n (i := 0) hc 3 dX7_advance_104 rfl rfl ?_
                refine g_aload_n (i := 0) hc 3 dX7_advance_105 rfl rfl ?_
                refine gf_C_6_line hc wtC_194 dX7_advance_106 ?_
                refine g_sipush (v := 261) hc dX7_advance_109 (by decide) ?_
                refine g_icmpne (tgt := 119) hc dX7_advance_112 rfl (fun c_112 => ?_) (fun c_112 => ?_)
                · refine g_iconst (v := 0) hc dX7_advance_115 (by decide) ?_
                  refine g_goto (tgt := 125) hc dX7_advance_116 rfl ?_
                  refine pf_C_6_line (v := 0) hc wtC_194 dX7_advance_125 (fun S7 f7 => ?_)
                  refine g_iinc (i := 3) (v := 1) (lv' := [(3, .int (x3 + 1)), (2, .int (x2 - (if (341 - (S.1 22)) < x2 then (341 - (S.1 22)) else x2))), (5, .int ((S.1 22) + (if (341 - (S.1 22)) < x2 then (341 - (S.1 22)) else x2))), (4, .int (if (341 - (S.1 22)) < x2 then (341 - (S.1 22)) else x2)), (0, .ref (η.1 6)), (1, .int x1)]) hc 5 dX7_advance_128 rfl (by decide) (by decide) rfl ?_
                  refine g_goto (tgt := 4) hc dX7_advance_131 rfl ?_
                  exact g_lv [4, 5, 1, 0] rfl (ih _ _ _ _ (gJ_s hJ c_8))
                · refine g_aload_n (i := 0) hc 3 dX7_advance_119 rfl rfl ?_
                  refine gf_C_6_line hc wtC_194 dX7_advance_120 ?_
                  refine g_iconst (v := 1) hc dX7_advance_123 (by decide) ?_
                  refine g_iadd hc dX7_advance_124 ?_
                  refine pf_C_6_line (v := ((S6.1 21) + 1)) hc wtC_194 dX7_advance_125 (fun S8 f8 => ?_)
                  refine g_iinc (i := 3) (v := 1) (lv' := [(3, .int (x3 + 1)), (2, .int (x2 - (if (341 - (S.1 22)) < x2 then (341 - (S.1 22)) else x2))), (5, .int ((S.1 22) + (if (341 - (S.1 22)) < x2 then (341 - (S.1 22)) else x2))), (4, .int (if (341 - (S.1 22)) < x2 then (341 - (S.1 22)) else x2)), (0, .ref (η.1 6)), (1, .int x1)]) hc 5 dX7_advance_128 rfl (by decide) (by decide) rfl ?_
                  refine g_goto (tgt := 4) hc dX7_advance_131 rfl ?_
                  exact g_lv [4, 5, 1, 0] rfl (ih _ _ _ _ (gJ_s hJ c_8))
              · refine g_iinc (i := 3) (v := 1) (lv' := [(3, .int (x3 + 1)), (2, .int (x2 - (if (341 - (S.1 22)) < x2 then (341 - (S.1 22)) else x2))), (5, .int ((S.1 22) + (if (341 - (S.1 22)) < x2 then (341 - (S.1 22)) else x2))), (4, .int (if (341 - (S.1 22)) < x2 then (341 - (S.1 22)) else x2)), (0, .ref (η.1 6)), (1, .int x1)]) hc 5 dX7_advance_128 rfl (by decide) (by decide) rfl ?_
                refine g_goto (tgt := 4) hc dX7_advance_131 rfl ?_
                exact g_lv [4, 5, 1, 0] rfl (ih _ _ _ _ (gJ_s hJ c_8))
            · refine g_aload_n (i := 0) hc 2 dX7_advance_74 rfl rfl ?_
              refine g_callVV hc 6 [] (fun l => c_X7_tellLine l k η S) wtC_201 ge_X7_tellLine rfl ⟨rfl, rfl⟩ ⟨Nat.le_of_ble_eq_true rfl, Nat.le_of_ble_eq_true rfl⟩ rfl rfl rfl (Nat.le_of_ble_eq_true rfl) dX7_advance_75 (fun r9 S9 e9 f9 => ?_)
              refine g_iload_n (i := 2) hc 4 dX7_advance_78 rfl rfl ?_
              refine g_iload (i := 4) hc 1 dX7_advance_79 rfl ?_
              refine g_isub hc dX7_advance_81 ?_
              refine g_istore_n (i := 2) (lv' := [(2, .int (x2 - (if (341 - (S.1 22)) < x2 then (341 - (S.1 22)) else x2))), (5, .int ((S.1 22) + (if (341 - (S.1 22)) < x2 then (341 - (S.1 22)) else x2))), (4, .int (if (341 - (S.1 22)) < x2 then (341 - (S.1 22)) else x2)), (0, .ref (η.1 6)), (1, .int x1), (3, .int x3)]) hc dX7_advance_82 rfl (by decide) rfl ?_
              refine g_aload_n (i := 0) hc 3 dX7_advance_83 rfl rfl ?_
              refine g_iload (i := 5) hc 1 dX7_advance_84 rfl ?_
              refine pf_C_6_dot (v := ((S.1 22) + (if (341 - (S.1 22)) < x2 then (341 - (S.1 22)) else x2))) hc wtC_196 dX7_advance_86 (fun S10 f10 => ?_)
              refine g_aload_n (i := 0) hc 3 dX7_advance_89 rfl rfl ?_
              refine gf_C_6_dot hc wtC_196 dX7_advance_90 ?_
              refine g_sipush (v := 341) hc dX7_advance_93 (by decide) ?_
              refine g_icmpne (tgt := 128) hc dX7_advance_96 rfl (fun c_96 => ?_) (fun c_96 => ?_)
              · refine g_aload_n (i := 0) hc 3 dX7_advance_99 rfl rfl ?_
                refine g_iconst (v := 0) hc dX7_advance_100 (by decide) ?_
                refine pf_C_6_dot (v := 0) hc wtC_196 dX7_advance_101 (fun S11 f11 => ?_)
                refine g_aload_n (i := 0) hc 3 dX7_advance_104 rfl rfl ?_
                refine g_aload_n (i := 0) hc 3 dX7_advance_105 rfl rfl ?_
                refine gf_C_6_line hc wtC_194 dX7_advance_106 ?_
                refine g_sipush (v := 261) hc dX7_advance_109 (by decide) ?_
                refine g_icmpne (tgt := 119) hc dX7_advance_112 rfl (fun c_112 => ?_) (fun c_112 => ?_)
                · refine g_iconst (v := 0) hc dX7_advance_115 (by decide) ?_
                  refine g_goto (tgt := 125) hc dX7_advance_116 rfl ?_
                  refine pf_C_6_line (v := 0) hc wtC_194 dX7_advance_125 (fun S12 f12 => ?_)
                  refine g_iinc (i := 3) (v := 1) (lv' := [(3, .int (x3 + 1)), (2, .int (x2 - (if (341 - (S.1 22)) < x2 then (341 - (S.1 22)) else x2))), (5, .int ((S.1 22) + (if (341 - (S.1 22)) < x2 then (341 - (S.1 22)) else x2))), (4, .int (if (341 - (S.1 22)) < x2 then (341 - (S.1 22)) else x2)), (0, .ref (η.1 6)), (1, .int x1)]) hc 5 dX7_advance_128 rfl (by decide) (by decide) rfl ?_
                  refine g_goto (tgt := 4) hc dX7_advance_131 rfl ?_
                  exact g_lv [4, 5, 1, 0] rfl (ih _ _ _ _ (gJ_s hJ c_8))
                · refine g_aload_n (i := 0) hc 3 dX7_advance_119 rfl rfl ?_
                  refine gf_C_6_line hc wtC_194 dX7_advance_120 ?_
                  refine g_iconst (v := 1) hc dX7_advance_123 (by decide) ?_
                  refine g_iadd hc dX7_advance_124 ?_
                  refine pf_C_6_line (v := ((S11.1 21) + 1)) hc wtC_194 dX7_advance_125 (fun S13 f13 => ?_)
                  refine g_iinc (i := 3) (v := 1) (lv' := [(3, .int (x3 + 1)), (2, .int (x2 - (if (341 - (S.1 22)) < x2 then (341 - (S.1 22)) else x2))), (5, .int ((S.1 22) + (if (341 - (S.1 22)) < x2 then (341 - (S.1 22)) else x2))), (4, .int (if (341 - (S.1 22)) < x2 then (341 - (S.1 22)) else x2)), (0, .ref (η.1 6)), (1, .int x1)]) hc 5 dX7_advance_128 rfl (by decide) (by decide) rfl ?_
                  refine g_goto (tgt := 4) hc dX7_advance_131 rfl ?_
                  exact g_lv [4, 5, 1, 0] rfl (ih _ _ _ _ (gJ_s hJ c_8))
              · refine g_iinc (i := 3) (v := 1) (lv' := [(3, .int (x3 + 1)), (2, .int (x2 - (if (341 - (S.1 22)) < x2 then (341 - (S.1 22)) else x2))), (5, .int ((S.1 22) + (if (341 - (S.1 22)) < x2 then (341 - (S.1 22)) else x2))), (4, .int (if (341 - (S.1 22)) < x2 then (341 - (S.1 22)) else x2)), (0, .ref (η.1 6)), (1, .int x1)]) hc 5 dX7_advance_128 rfl (by decide) (by decide) rfl ?_
                refine g_goto (tgt := 4) hc dX7_advance_131 rfl ?_
                exact g_lv [4, 5, 1, 0] rfl (ih _ _ _ _ (gJ_s hJ c_8))
        · refine g_iload (i := 5) hc 0 dX7_advance_46 rfl ?_
          refine g_iconst (v := 1) hc dX7_advance_48 (by decide) ?_
          refine g_icmplt (tgt := 56) hc dX7_advance_49 rfl (fun c_49 => ?_) (fun c_49 => ?_)
          · refine g_aload_n (i := 0) hc 2 dX7_advance_56 rfl rfl ?_
            refine gf_C_6_dot hc wtC_196 dX7_advance_57 ?_
            refine g_sipush (v := 260) hc dX7_advance_60 (by decide) ?_
            refine g_icmpge (tgt := 78) hc dX7_advance_63 rfl (fun c_63 => ?_) (fun c_63 => ?_)
            · refine g_iload_n (i := 2) hc 4 dX7_advance_78 rfl rfl ?_
              refine g_iload (i := 4) hc 1 dX7_advance_79 rfl ?_
              refine g_isub hc dX7_advance_81 ?_
              refine g_istore_n (i := 2) (lv' := [(2, .int (x2 - (if (341 - (S.1 22)) < x2 then (341 - (S.1 22)) else x2))), (5, .int ((S.1 22) + (if (341 - (S.1 22)) < x2 then (341 - (S.1 22)) else x2))), (4, .int (if (341 - (S.1 22)) < x2 then (341 - (S.1 22)) else x2)), (0, .ref (η.1 6)), (1, .int x1), (3, .int x3)]) hc dX7_advance_82 rfl (by decide) rfl ?_
              refine g_aload_n (i := 0) hc 3 dX7_advance_83 rfl rfl ?_
              refine g_iload (i := 5) hc 1 dX7_advance_84 rfl ?_
              refine pf_C_6_dot (v := ((S.1 22) + (if (341 - (S.1 22)) < x2 then (341 - (S.1 22)) else x2))) hc wtC_196 dX7_advance_86 (fun S14 f14 => ?_)
              refine g_aload_n (i := 0) hc 3 dX7_advance_89 rfl rfl ?_
              refine gf_C_6_dot hc wtC_196 dX7_advance_90 ?_
              refine g_sipush (v := 341) hc dX7_advance_93 (by decide) ?_
              refine g_icmpne (tgt := 128) hc dX7_advance_96 rfl (fun c_96 => ?_) (fun c_96 => ?_)
              · refine g_aload_n (i := 0) hc 3 dX7_advance_99 rfl rfl ?_
                refine g_iconst (v := 0) hc dX7_advance_100 (by decide) ?_
                refine pf_C_6_dot (v := 0) hc wtC_196 dX7_advance_101 (fun S15 f15 => ?_)
                refine g_aload_n (i := 0) hc 3 dX7_advance_104 rfl rfl ?_
                refine g_aload_n (i := 0) hc 3 dX7_advance_105 rfl rfl ?_
                refine gf_C_6_line hc wtC_194 dX7_advance_106 ?_
                refine g_sipush (v := 261) hc dX7_advance_109 (by decide) ?_
                refine g_icmpne (tgt := 119) hc dX7_advance_112 rfl (fun c_112 => ?_) (fun c_112 => ?_)
                · refine g_iconst (v := 0) hc dX7_advance_115 (by decide) ?_
                  refine g_goto (tgt := 125) hc dX7_advance_116 rfl ?_
                  refine pf_C_6_line (v := 0) hc wtC_194 dX7_advance_125 (fun S16 f16 => ?_)
                  refine g_iinc (i := 3) (v := 1) (lv' := [(3, .int (x3 + 1)), (2, .int (x2 - (if (341 - (S.1 22)) < x2 then (341 - (S.1 22)) else x2))), (5, .int ((S.1 22) + (if (341 - (S.1 22)) < x2 then (341 - (S.1 22)) else x2))), (4, .int (if (341 - (S.1 22)) < x2 then (341 - (S.1 22)) else x2)), (0, .ref (η.1 6)), (1, .int x1)]) hc 5 dX7_advance_128 rfl (by decide) (by decide) rfl ?_
                  refine g_goto (tgt := 4) hc dX7_advance_131 rfl ?_
                  exact g_lv [4, 5, 1, 0] rfl (ih _ _ _ _ (gJ_s hJ c_8))
                · refine g_aload_n (i := 0) hc 3 dX7_advance_119 rfl rfl ?_
                  refine gf_C_6_line hc wtC_194 dX7_advance_120 ?_
                  refine g_iconst (v := 1) hc dX7_advance_123 (by decide) ?_
                  refine g_iadd hc dX7_advance_124 ?_
                  refine pf_C_6_line (v := ((S15.1 21) + 1)) hc wtC_194 dX7_advance_125 (fun S17 f17 => ?_)
                  refine g_iinc (i := 3) (v := 1) (lv' := [(3, .int (x3 + 1)), (2, .int (x2 - (if (341 - (S.1 22)) < x2 then (341 - (S.1 22)) else x2))), (5, .int ((S.1 22) + (if (341 - (S.1 22)) < x2 then (341 - (S.1 22)) else x2))), (4, .int (if (341 - (S.1 22)) < x2 then (341 - (S.1 22)) else x2)), (0, .ref (η.1 6)), (1, .int x1)]) hc 5 dX7_advance_128 rfl (by decide) (by decide) rfl ?_
                  refine g_goto (tgt := 4) hc dX7_advance_131 rfl ?_
                  exact g_lv [4, 5, 1, 0] rfl (ih _ _ _ _ (gJ_s hJ c_8))
              · refine g_iinc (i := 3) (v := 1) (lv' := [(3, .int (x3 + 1)), (2, .int (x2 - (if (341 - (S.1 22)) < x2 then (341 - (S.1 22)) else x2))), (5, .int ((S.1 22) + (if (341 - (S.1 22)) < x2 then (341 - (S.1 22)) else x2))), (4, .int (if (341 - (S.1 22)) < x2 then (341 - (S.1 22)) else x2)), (0, .ref (η.1 6)), (1, .int x1)]) hc 5 dX7_advance_128 rfl (by decide) (by decide) rfl ?_
                refine g_goto (tgt := 4) hc dX7_advance_131 rfl ?_
                exact g_lv [4, 5, 1, 0] rfl (ih _ _ _ _ (gJ_s hJ c_8))
            · refine g_iload (i := 5) hc 0 dX7_advance_66 rfl ?_
              refine g_sipush (v := 260) hc dX7_advance_68 (by decide) ?_
              refine g_icmplt (tgt := 78) hc dX7_advance_71 rfl (fun c_71 => ?_) (fun c_71 => ?_)
              · refine g_iload_n (i := 2) hc 4 dX7_advance_78 rfl rfl ?_
                refine g_iload (i := 4) hc 1 dX7_advance_79 rfl ?_
                refine g_isub hc dX7_advance_81 ?_
                refine g_istore_n (i := 2) (lv' := [(2, .int (x2 - (if (341 - (S.1 22)) < x2 then (341 - (S.1 22)) else x2))), (5, .int ((S.1 22) + (if (341 - (S.1 22)) < x2 then (341 - (S.1 22)) else x2))), (4, .int (if (341 - (S.1 22)) < x2 then (341 - (S.1 22)) else x2)), (0, .ref (η.1 6)), (1, .int x1), (3, .int x3)]) hc dX7_advance_82 rfl (by decide) rfl ?_
                refine g_aload_n (i := 0) hc 3 dX7_advance_83 rfl rfl ?_
                refine g_iload (i := 5) hc 1 dX7_advance_84 rfl ?_
                refine pf_C_6_dot (v := ((S.1 22) + (if (341 - (S.1 22)) < x2 then (341 - (S.1 22)) else x2))) hc wtC_196 dX7_advance_86 (fun S18 f18 => ?_)
                refine g_aload_n (i := 0) hc 3 dX7_advance_89 rfl rfl ?_
                refine gf_C_6_dot hc wtC_196 dX7_advance_90 ?_
                refine g_sipush (v := 341) hc dX7_advance_93 (by decide) ?_
                refine g_icmpne (tgt := 128) hc dX7_advance_96 rfl (fun c_96 => ?_) (fun c_96 => ?_)
                · refine g_aload_n (i := 0) hc 3 dX7_advance_99 rfl rfl ?_
                  refine g_iconst (v := 0) hc dX7_advance_100 (by decide) ?_
                  refine pf_C_6_dot (v := 0) hc wtC_196 dX7_advance_101 (fun S19 f19 => ?_)
                  refine g_aload_n (i := 0) hc 3 dX7_advance_104 rfl rfl ?_
                  refine g_aload_n (i := 0) hc 3 dX7_advance_105 rfl rfl ?_
                  refine gf_C_6_line hc wtC_194 dX7_advance_106 ?_
                  refine g_sipush (v := 261) hc dX7_advance_109 (by decide) ?_
                  refine g_icmpne (tgt := 119) hc dX7_advance_112 rfl (fun c_112 => ?_) (fun c_112 => ?_)
                  · refine g_iconst (v := 0) hc dX7_advance_115 (by decide) ?_
                    refine g_goto (tgt := 125) hc dX7_advance_116 rfl ?_
                    refine pf_C_6_line (v := 0) hc wtC_194 dX7_advance_125 (fun S20 f20 => ?_)
                    refine g_iinc (i := 3) (v := 1) (lv' := [(3, .int (x3 + 1)), (2, .int (x2 - (if (341 - (S.1 22)) < x2 then (341 - (S.1 22)) else x2))), (5, .int ((S.1 22) + (if (341 - (S.1 22)) < x2 then (341 - (S.1 22)) else x2))), (4, .int (if (341 - (S.1 22)) < x2 then (341 - (S.1 22)) else x2)), (0, .ref (η.1 6)), (1, .int x1)]) hc 5 dX7_advance_128 rfl (by decide) (by decide) rfl ?_
                    refine g_goto (tgt := 4) hc dX7_advance_131 rfl ?_
                    exact g_lv [4, 5, 1, 0] rfl (ih _ _ _ _ (gJ_s hJ c_8))
                  · refine g_aload_n (i := 0) hc 3 dX7_advance_119 rfl rfl ?_
                    refine gf_C_6_line hc wtC_194 dX7_advance_120 ?_
                    refine g_iconst (v := 1) hc dX7_advance_123 (by decide) ?_
                    refine g_iadd hc dX7_advance_124 ?_
                    refine pf_C_6_line (v := ((S19.1 21) + 1)) hc wtC_194 dX7_advance_125 (fun S21 f21 => ?_)
                    refine g_iinc (i := 3) (v := 1) (lv' := [(3, .int (x3 + 1)), (2, .int (x2 - (if (341 - (S.1 22)) < x2 then (341 - (S.1 22)) else x2))), (5, .int ((S.1 22) + (if (341 - (S.1 22)) < x2 then (341 - (S.1 22)) else x2))), (4, .int (if (341 - (S.1 22)) < x2 then (341 - (S.1 22)) else x2)), (0, .ref (η.1 6)), (1, .int x1)]) hc 5 dX7_advance_128 rfl (by decide) (by decide) rfl ?_
                    refine g_goto (tgt := 4) hc dX7_advance_131 rfl ?_
                    exact g_lv [4, 5, 1, 0] rfl (ih _ _ _ _ (gJ_s hJ c_8))
                · refine g_iinc (i := 3) (v := 1) (lv' := [(3, .int (x3 + 1)), (2, .int (x2 - (if (341 - (S.1 22)) < x2 then (341 - (S.1 22)) else x2))), (5, .int ((S.1 22) + (if (341 - (S.1 22)) < x2 then (341 - (S.1 22)) else x2))), (4, .int (if (341 - (S.1 22)) < x2 then (341 - (S.1 22)) else x2)), (0, .ref (η.1 6)), (1, .int x1)]) hc 5 dX7_advance_128 rfl (by decide) (by decide) rfl ?_
                  refine g_goto (tgt := 4) hc dX7_advance_131 rfl ?_
                  exact g_lv [4, 5, 1, 0] rfl (ih _ _ _ _ (gJ_s hJ c_8))
              · refine g_aload_n (i := 0) hc 2 dX7_advance_74 rfl rfl ?_
                refine g_callVV hc 6 [] (fun l => c_X7_tellLine l k η S) wtC_201 ge_X7_tellLine rfl ⟨rfl, rfl⟩ ⟨Nat.le_of_ble_eq_true rfl, Nat.le_of_ble_eq_true rfl⟩ rfl rfl rfl (Nat.le_of_ble_eq_true rfl) dX7_advance_75 (fun r22 S22 e22 f22 => ?_)
                refine g_iload_n (i := 2) hc 4 dX7_advance_78 rfl rfl ?_
                refine g_iload (i := 4) hc 1 dX7_advance_79 rfl ?_
                refine g_isub hc dX7_advance_81 ?_
                refine g_istore_n (i := 2) (lv' := [(2, .int (x2 - (if (341 - (S.1 22)) < x2 then (341 - (S.1 22)) else x2))), (5, .int ((S.1 22) + (if (341 - (S.1 22)) < x2 then (341 - (S.1 22)) else x2))), (4, .int (if (341 - (S.1 22)) < x2 then (341 - (S.1 22)) else x2)), (0, .ref (η.1 6)), (1, .int x1), (3, .int x3)]) hc dX7_advance_82 rfl (by decide) rfl ?_
                refine g_aload_n (i := 0) hc 3 dX7_advance_83 rfl rfl ?_
                refine g_iload (i := 5) hc 1 dX7_advance_84 rfl ?_
                refine pf_C_6_dot (v := ((S.1 22) + (if (341 - (S.1 22)) < x2 then (341 - (S.1 22)) else x2))) hc wtC_196 dX7_advance_86 (fun S23 f23 => ?_)
                refine g_aload_n (i := 0) hc 3 dX7_advance_89 rfl rfl ?_
                refine gf_C_6_dot hc wtC_196 dX7_advance_90 ?_
                refine g_sipush (v := 341) hc dX7_advance_93 (by decide) ?_
                refine g_icmpne (tgt := 128) hc dX7_advance_96 rfl (fun c_96 => ?_) (fun c_96 => ?_)
                · refine g_aload_n (i := 0) hc 3 dX7_advance_99 rfl rfl ?_
                  refine g_iconst (v := 0) hc dX7_advance_100 (by decide) ?_
                  refine pf_C_6_dot (v := 0) hc wtC_196 dX7_advance_101 (fun S24 f24 => ?_)
                  refine g_aload_n (i := 0) hc 3 dX7_advance_104 rfl rfl ?_
                  refine g_aload_n (i := 0) hc 3 dX7_advance_105 rfl rfl ?_
                  refine gf_C_6_line hc wtC_194 dX7_advance_106 ?_
                  refine g_sipush (v := 261) hc dX7_advance_109 (by decide) ?_
                  refine g_icmpne (tgt := 119) hc dX7_advance_112 rfl (fun c_112 => ?_) (fun c_112 => ?_)
                  · refine g_iconst (v := 0) hc dX7_advance_115 (by decide) ?_
                    refine g_goto (tgt := 125) hc dX7_advance_116 rfl ?_
                    refine pf_C_6_line (v := 0) hc wtC_194 dX7_advance_125 (fun S25 f25 => ?_)
                    refine g_iinc (i := 3) (v := 1) (lv' := [(3, .int (x3 + 1)), (2, .int (x2 - (if (341 - (S.1 22)) < x2 then (341 - (S.1 22)) else x2))), (5, .int ((S.1 22) + (if (341 - (S.1 22)) < x2 then (341 - (S.1 22)) else x2))), (4, .int (if (341 - (S.1 22)) < x2 then (341 - (S.1 22)) else x2)), (0, .ref (η.1 6)), (1, .int x1)]) hc 5 dX7_advance_128 rfl (by decide) (by decide) rfl ?_
                    refine g_goto (tgt := 4) hc dX7_advance_131 rfl ?_
                    exact g_lv [4, 5, 1, 0] rfl (ih _ _ _ _ (gJ_s hJ c_8))
                  · refine g_aload_n (i := 0) hc 3 dX7_advance_119 rfl rfl ?_
                    refine gf_C_6_line hc wtC_194 dX7_advance_120 ?_
                    refine g_iconst (v := 1) hc dX7_advance_123 (by decide) ?_
                    refine g_iadd hc dX7_advance_124 ?_
                    refine pf_C_6_line (v := ((S24.1 21) + 1)) hc wtC_194 dX7_advance_125 (fun S26 f26 => ?_)
                    refine g_iinc (i := 3) (v := 1) (lv' := [(3, .int (x3 + 1)), (2, .int (x2 - (if (341 - (S.1 22)) < x2 then (341 - (S.1 22)) else x2))), (5, .int ((S.1 22) + (if (341 - (S.1 22)) < x2 then (341 - (S.1 22)) else x2))), (4, .int (if (341 - (S.1 22)) < x2 then (341 - (S.1 22)) else x2)), (0, .ref (η.1 6)), (1, .int x1)]) hc 5 dX7_advance_128 rfl (by decide) (by decide) rfl ?_
                    refine g_goto (tgt := 4) hc dX7_advance_131 rfl ?_
                    exact g_lv [4, 5, 1, 0] rfl (ih _ _ _ _ (gJ_s hJ c_8))
                · refine g_iinc (i := 3) (v := 1) (lv' := [(3, .int (x3 + 1)), (2, .int (x2 - (if (341 - (S.1 22)) < x2 then (341 - (S.1 22)) else x2))), (5, .int ((S.1 22) + (if (341 - (S.1 22)) < x2 then (341 - (S.1 22)) else x2))), (4, .int (if (341 - (S.1 22)) < x2 then (341 - (S.1 22)) else x2)), (0, .ref (η.1 6)), (1, .int x1)]) hc 5 dX7_advance_128 rfl (by decide) (by decide) rfl ?_
                  refine g_goto (tgt := 4) hc dX7_advance_131 rfl ?_
                  exact g_lv [4, 5, 1, 0] rfl (ih _ _ _ _ (gJ_s hJ c_8))
          · refine g_aload_n (i := 0) hc 2 dX7_advance_52 rfl rfl ?_
            refine g_callVV hc 6 [] (fun l => c_X7_comeToDotOne l k η S) wtC_205 ge_X7_comeToDotOne rfl ⟨rfl, rfl⟩ ⟨Nat.le_of_ble_eq_true rfl, Nat.le_of_ble_eq_true rfl⟩ rfl rfl rfl (Nat.le_of_ble_eq_true rfl) dX7_advance_53 (fun r27 S27 e27 f27 => ?_)
            refine g_aload_n (i := 0) hc 2 dX7_advance_56 rfl rfl ?_
            refine gf_C_6_dot hc wtC_196 dX7_advance_57 ?_
            refine g_sipush (v := 260) hc dX7_advance_60 (by decide) ?_
            refine g_icmpge (tgt := 78) hc dX7_advance_63 rfl (fun c_63 => ?_) (fun c_63 => ?_)
            · refine g_iload_n (i := 2) hc 4 dX7_advance_78 rfl rfl ?_
              refine g_iload (i := 4) hc 1 dX7_advance_79 rfl ?_
              refine g_isub hc dX7_advance_81 ?_
              refine g_istore_n (i := 2) (lv' := [(2, .int (x2 - (if (341 - (S.1 22)) < x2 then (341 - (S.1 22)) else x2))), (5, .int ((S.1 22) + (if (341 - (S.1 22)) < x2 then (341 - (S.1 22)) else x2))), (4, .int (if (341 - (S.1 22)) < x2 then (341 - (S.1 22)) else x2)), (0, .ref (η.1 6)), (1, .int x1), (3, .int x3)]) hc dX7_advance_82 rfl (by decide) rfl ?_
              refine g_aload_n (i := 0) hc 3 dX7_advance_83 rfl rfl ?_
              refine g_iload (i := 5) hc 1 dX7_advance_84 rfl ?_
              refine pf_C_6_dot (v := ((S.1 22) + (if (341 - (S.1 22)) < x2 then (341 - (S.1 22)) else x2))) hc wtC_196 dX7_advance_86 (fun S28 f28 => ?_)
              refine g_aload_n (i := 0) hc 3 dX7_advance_89 rfl rfl ?_
              refine gf_C_6_dot hc wtC_196 dX7_advance_90 ?_
              refine g_sipush (v := 341) hc dX7_advance_93 (by decide) ?_
              refine g_icmpne (tgt := 128) hc dX7_advance_96 rfl (fun c_96 => ?_) (fun c_96 => ?_)
              · refine g_aload_n (i := 0) hc 3 dX7_advance_99 rfl rfl ?_
                refine g_iconst (v := 0) hc dX7_advance_100 (by decide) ?_
                refine pf_C_6_dot (v := 0) hc wtC_196 dX7_advance_101 (fun S29 f29 => ?_)
                refine g_aload_n (i := 0) hc 3 dX7_advance_104 rfl rfl ?_
                refine g_aload_n (i := 0) hc 3 dX7_advance_105 rfl rfl ?_
                refine gf_C_6_line hc wtC_194 dX7_advance_106 ?_
                refine g_sipush (v := 261) hc dX7_advance_109 (by decide) ?_
                refine g_icmpne (tgt := 119) hc dX7_advance_112 rfl (fun c_112 => ?_) (fun c_112 => ?_)
                · refine g_iconst (v := 0) hc dX7_advance_115 (by decide) ?_
                  refine g_goto (tgt := 125) hc dX7_advance_116 rfl ?_
                  refine pf_C_6_line (v := 0) hc wtC_194 dX7_advance_125 (fun S30 f30 => ?_)
                  refine g_iinc (i := 3) (v := 1) (lv' := [(3, .int (x3 + 1)), (2, .int (x2 - (if (341 - (S.1 22)) < x2 then (341 - (S.1 22)) else x2))), (5, .int ((S.1 22) + (if (341 - (S.1 22)) < x2 then (341 - (S.1 22)) else x2))), (4, .int (if (341 - (S.1 22)) < x2 then (341 - (S.1 22)) else x2)), (0, .ref (η.1 6)), (1, .int x1)]) hc 5 dX7_advance_128 rfl (by decide) (by decide) rfl ?_
                  refine g_goto (tgt := 4) hc dX7_advance_131 rfl ?_
                  exact g_lv [4, 5, 1, 0] rfl (ih _ _ _ _ (gJ_s hJ c_8))
                · refine g_aload_n (i := 0) hc 3 dX7_advance_119 rfl rfl ?_
                  refine gf_C_6_line hc wtC_194 dX7_advance_120 ?_
                  refine g_iconst (v := 1) hc dX7_advance_123 (by decide) ?_
                  refine g_iadd hc dX7_advance_124 ?_
                  refine pf_C_6_line (v := ((S29.1 21) + 1)) hc wtC_194 dX7_advance_125 (fun S31 f31 => ?_)
                  refine g_iinc (i := 3) (v := 1) (lv' := [(3, .int (x3 + 1)), (2, .int (x2 - (if (341 - (S.1 22)) < x2 then (341 - (S.1 22)) else x2))), (5, .int ((S.1 22) + (if (341 - (S.1 22)) < x2 then (341 - (S.1 22)) else x2))), (4, .int (if (341 - (S.1 22)) < x2 then (341 - (S.1 22)) else x2)), (0, .ref (η.1 6)), (1, .int x1)]) hc 5 dX7_advance_128 rfl (by decide) (by decide) rfl ?_
                  refine g_goto (tgt := 4) hc dX7_advance_131 rfl ?_
                  exact g_lv [4, 5, 1, 0] rfl (ih _ _ _ _ (gJ_s hJ c_8))
              · refine g_iinc (i := 3) (v := 1) (lv' := [(3, .int (x3 + 1)), (2, .int (x2 - (if (341 - (S.1 22)) < x2 then (341 - (S.1 22)) else x2))), (5, .int ((S.1 22) + (if (341 - (S.1 22)) < x2 then (341 - (S.1 22)) else x2))), (4, .int (if (341 - (S.1 22)) < x2 then (341 - (S.1 22)) else x2)), (0, .ref (η.1 6)), (1, .int x1)]) hc 5 dX7_advance_128 rfl (by decide) (by decide) rfl ?_
                refine g_goto (tgt := 4) hc dX7_advance_131 rfl ?_
                exact g_lv [4, 5, 1, 0] rfl (ih _ _ _ _ (gJ_s hJ c_8))
            · refine g_iload (i := 5) hc 0 dX7_advance_66 rfl ?_
              refine g_sipush (v := 260) hc dX7_advance_68 (by decide) ?_
              refine g_icmplt (tgt := 78) hc dX7_advance_71 rfl (fun c_71 => ?_) (fun c_71 => ?_)
              · refine g_iload_n (i := 2) hc 4 dX7_advance_78 rfl rfl ?_
                refine g_iload (i := 4) hc 1 dX7_advance_79 rfl ?_
                refine g_isub hc dX7_advance_81 ?_
                refine g_istore_n (i := 2) (lv' := [(2, .int (x2 - (if (341 - (S.1 22)) < x2 then (341 - (S.1 22)) else x2))), (5, .int ((S.1 22) + (if (341 - (S.1 22)) < x2 then (341 - (S.1 22)) else x2))), (4, .int (if (341 - (S.1 22)) < x2 then (341 - (S.1 22)) else x2)), (0, .ref (η.1 6)), (1, .int x1), (3, .int x3)]) hc dX7_advance_82 rfl (by decide) rfl ?_
                refine g_aload_n (i := 0) hc 3 dX7_advance_83 rfl rfl ?_
                refine g_iload (i := 5) hc 1 dX7_advance_84 rfl ?_
                refine pf_C_6_dot (v := ((S.1 22) + (if (341 - (S.1 22)) < x2 then (341 - (S.1 22)) else x2))) hc wtC_196 dX7_advance_86 (fun S32 f32 => ?_)
                refine g_aload_n (i := 0) hc 3 dX7_advance_89 rfl rfl ?_
                refine gf_C_6_dot hc wtC_196 dX7_advance_90 ?_
                refine g_sipush (v := 341) hc dX7_advance_93 (by decide) ?_
                refine g_icmpne (tgt := 128) hc dX7_advance_96 rfl (fun c_96 => ?_) (fun c_96 => ?_)
                · refine g_aload_n (i := 0) hc 3 dX7_advance_99 rfl rfl ?_
                  refine g_iconst (v := 0) hc dX7_advance_100 (by decide) ?_
                  refine pf_C_6_dot (v := 0) hc wtC_196 dX7_advance_101 (fun S33 f33 => ?_)
                  refine g_aload_n (i := 0) hc 3 dX7_advance_104 rfl rfl ?_
                  refine g_aload_n (i := 0) hc 3 dX7_advance_105 rfl rfl ?_
                  refine gf_C_6_line hc wtC_194 dX7_advance_106 ?_
                  refine g_sipush (v := 261) hc dX7_advance_109 (by decide) ?_
                  refine g_icmpne (tgt := 119) hc dX7_advance_112 rfl (fun c_112 => ?_) (fun c_112 => ?_)
                  · refine g_iconst (v := 0) hc dX7_advance_115 (by decide) ?_
                    refine g_goto (tgt := 125) hc dX7_advance_116 rfl ?_
                    refine pf_C_6_line (v := 0) hc wtC_194 dX7_advance_125 (fun S34 f34 => ?_)
                    refine g_iinc (i := 3) (v := 1) (lv' := [(3, .int (x3 + 1)), (2, .int (x2 - (if (341 - (S.1 22)) < x2 then (341 - (S.1 22)) else x2))), (5, .int ((S.1 22) + (if (341 - (S.1 22)) < x2 then (341 - (S.1 22)) else x2))), (4, .int (if (341 - (S.1 22)) < x2 then (341 - (S.1 22)) else x2)), (0, .ref (η.1 6)), (1, .int x1)]) hc 5 dX7_advance_128 rfl (by decide) (by decide) rfl ?_
                    refine g_goto (tgt := 4) hc dX7_advance_131 rfl ?_
                    exact g_lv [4, 5, 1, 0] rfl (ih _ _ _ _ (gJ_s hJ c_8))
                  · refine g_aload_n (i := 0) hc 3 dX7_advance_119 rfl rfl ?_
                    refine gf_C_6_line hc wtC_194 dX7_advance_120 ?_
                    refine g_iconst (v := 1) hc dX7_advance_123 (by decide) ?_
                    refine g_iadd hc dX7_advance_124 ?_
                    refine pf_C_6_line (v := ((S33.1 21) + 1)) hc wtC_194 dX7_advance_125 (fun S35 f35 => ?_)
                    refine g_iinc (i := 3) (v := 1) (lv' := [(3, .int (x3 + 1)), (2, .int (x2 - (if (341 - (S.1 22)) < x2 then (341 - (S.1 22)) else x2))), (5, .int ((S.1 22) + (if (341 - (S.1 22)) < x2 then (341 - (S.1 22)) else x2))), (4, .int (if (341 - (S.1 22)) < x2 then (341 - (S.1 22)) else x2)), (0, .ref (η.1 6)), (1, .int x1)]) hc 5 dX7_advance_128 rfl (by decide) (by decide) rfl ?_
                    refine g_goto (tgt := 4) hc dX7_advance_131 rfl ?_
                    exact g_lv [4, 5, 1, 0] rfl (ih _ _ _ _ (gJ_s hJ c_8))
                · refine g_iinc (i := 3) (v := 1) (lv' := [(3, .int (x3 + 1)), (2, .int (x2 - (if (341 - (S.1 22)) < x2 then (341 - (S.1 22)) else x2))), (5, .int ((S.1 22) + (if (341 - (S.1 22)) < x2 then (341 - (S.1 22)) else x2))), (4, .int (if (341 - (S.1 22)) < x2 then (341 - (S.1 22)) else x2)), (0, .ref (η.1 6)), (1, .int x1)]) hc 5 dX7_advance_128 rfl (by decide) (by decide) rfl ?_
                  refine g_goto (tgt := 4) hc dX7_advance_131 rfl ?_
                  exact g_lv [4, 5, 1, 0] rfl (ih _ _ _ _ (gJ_s hJ c_8))
              · refine g_aload_n (i := 0) hc 2 dX7_advance_74 rfl rfl ?_
                refine g_callVV hc 6 [] (fun l => c_X7_tellLine l k η S27) wtC_201 ge_X7_tellLine rfl ⟨rfl, rfl⟩ ⟨Nat.le_of_ble_eq_true rfl, Nat.le_of_ble_eq_true rfl⟩ rfl rfl rfl (Nat.le_of_ble_eq_true rfl) dX7_advance_75 (fun r36 S36 e36 f36 => ?_)
                refine g_iload_n (i := 2) hc 4 dX7_advance_78 rfl rfl ?_
                refine g_iload (i := 4) hc 1 dX7_advance_79 rfl ?_
                refine g_isub hc dX7_advance_81 ?_
                refine g_istore_n (i := 2) (lv' := [(2, .int (x2 - (if (341 - (S.1 22)) < x2 then (341 - (S.1 22)) else x2))), (5, .int ((S.1 22) + (if (341 - (S.1 22)) < x2 then (341 - (S.1 22)) else x2))), (4, .int (if (341 - (S.1 22)) < x2 then (341 - (S.1 22)) else x2)), (0, .ref (η.1 6)), (1, .int x1), (3, .int x3)]) hc dX7_advance_82 rfl (by decide) rfl ?_
                refine g_aload_n (i := 0) hc 3 dX7_advance_83 rfl rfl ?_
                refine g_iload (i := 5) hc 1 dX7_advance_84 rfl ?_
                refine pf_C_6_dot (v := ((S.1 22) + (if (341 - (S.1 22)) < x2 then (341 - (S.1 22)) else x2))) hc wtC_196 dX7_advance_86 (fun S37 f37 => ?_)
                refine g_aload_n (i := 0) hc 3 dX7_advance_89 rfl rfl ?_
                refine gf_C_6_dot hc wtC_196 dX7_advance_90 ?_
                refine g_sipush (v := 341) hc dX7_advance_93 (by decide) ?_
                refine g_icmpne (tgt := 128) hc dX7_advance_96 rfl (fun c_96 => ?_) (fun c_96 => ?_)
                · refine g_aload_n (i := 0) hc 3 dX7_advance_99 rfl rfl ?_
                  refine g_iconst (v := 0) hc dX7_advance_100 (by decide) ?_
                  refine pf_C_6_dot (v := 0) hc wtC_196 dX7_advance_101 (fun S38 f38 => ?_)
                  refine g_aload_n (i := 0) hc 3 dX7_advance_104 rfl rfl ?_
                  refine g_aload_n (i := 0) hc 3 dX7_advance_105 rfl rfl ?_
                  refine gf_C_6_line hc wtC_194 dX7_advance_106 ?_
                  refine g_sipush (v := 261) hc dX7_advance_109 (by decide) ?_
                  refine g_icmpne (tgt := 119) hc dX7_advance_112 rfl (fun c_112 => ?_) (fun c_112 => ?_)
                  · refine g_iconst (v := 0) hc dX7_advance_115 (by decide) ?_
                    refine g_goto (tgt := 125) hc dX7_advance_116 rfl ?_
                    refine pf_C_6_line (v := 0) hc wtC_194 dX7_advance_125 (fun S39 f39 => ?_)
                    refine g_iinc (i := 3) (v := 1) (lv' := [(3, .int (x3 + 1)), (2, .int (x2 - (if (341 - (S.1 22)) < x2 then (341 - (S.1 22)) else x2))), (5, .int ((S.1 22) + (if (341 - (S.1 22)) < x2 then (341 - (S.1 22)) else x2))), (4, .int (if (341 - (S.1 22)) < x2 then (341 - (S.1 22)) else x2)), (0, .ref (η.1 6)), (1, .int x1)]) hc 5 dX7_advance_128 rfl (by decide) (by decide) rfl ?_
                    refine g_goto (tgt := 4) hc dX7_advance_131 rfl ?_
                    exact g_lv [4, 5, 1, 0] rfl (ih _ _ _ _ (gJ_s hJ c_8))
                  · refine g_aload_n (i := 0) hc 3 dX7_advance_119 rfl rfl ?_
                    refine gf_C_6_line hc wtC_194 dX7_advance_120 ?_
                    refine g_iconst (v := 1) hc dX7_advance_123 (by decide) ?_
                    refine g_iadd hc dX7_advance_124 ?_
                    refine pf_C_6_line (v := ((S38.1 21) + 1)) hc wtC_194 dX7_advance_125 (fun S40 f40 => ?_)
                    refine g_iinc (i := 3) (v := 1) (lv' := [(3, .int (x3 + 1)), (2, .int (x2 - (if (341 - (S.1 22)) < x2 then (341 - (S.1 22)) else x2))), (5, .int ((S.1 22) + (if (341 - (S.1 22)) < x2 then (341 - (S.1 22)) else x2))), (4, .int (if (341 - (S.1 22)) < x2 then (341 - (S.1 22)) else x2)), (0, .ref (η.1 6)), (1, .int x1)]) hc 5 dX7_advance_128 rfl (by decide) (by decide) rfl ?_
                    refine g_goto (tgt := 4) hc dX7_advance_131 rfl ?_
                    exact g_lv [4, 5, 1, 0] rfl (ih _ _ _ _ (gJ_s hJ c_8))
                · refine g_iinc (i := 3) (v := 1) (lv' := [(3, .int (x3 + 1)), (2, .int (x2 - (if (341 - (S.1 22)) < x2 then (341 - (S.1 22)) else x2))), (5, .int ((S.1 22) + (if (341 - (S.1 22)) < x2 then (341 - (S.1 22)) else x2))), (4, .int (if (341 - (S.1 22)) < x2 then (341 - (S.1 22)) else x2)), (0, .ref (η.1 6)), (1, .int x1)]) hc 5 dX7_advance_128 rfl (by decide) (by decide) rfl ?_
                  refine g_goto (tgt := 4) hc dX7_advance_131 rfl ?_
                  exact g_lv [4, 5, 1, 0] rfl (ih _ _ _ _ (gJ_s hJ c_8))
set_option maxRecDepth 100000 in
set_option maxHeartbeats 4000000 in
theorem c_X7_advance (l : Launch) (k : Bool) (η : gE) (a0 : Int32) (S : gSt) : gMet l yX7_advance cX7_advance 6 none rm_X7_advance (oC k η) [.ref (η.1 6), .int a0] S (oV (sp_X7_advance k a0 S).1) (sp_X7_advance k a0 S).2 := by
  refine gMet_of (X := sp_X7_advance k a0 S) (lv := [(0, .ref (η.1 6)), (1, .int a0)]) oV (zC_ok η) (by decide +kernel) (Nat.le_of_ble_eq_true rfl) rfl (fun κ hc => ?_)
  have hc : gC (oC k η) κ cX7_advance 6 RX7 none rm_X7_advance := hc
  unfold sp_X7_advance
  refine g_iload_n (i := 1) hc 1 dX7_advance_0 rfl rfl ?_
  refine g_istore_n (i := 2) (lv' := [(2, .int a0), (0, .ref (η.1 6)), (1, .int a0)]) hc dX7_advance_1 rfl (by decide) rfl ?_
  refine g_iconst (v := 0) hc dX7_advance_2 (by decide) ?_
  refine g_istore_n (i := 3) (lv' := [(3, .int 0), (2, .int a0), (0, .ref (η.1 6)), (1, .int a0)]) hc dX7_advance_3 rfl (by decide) rfl ?_
  exact g_lv [2, 3, 1, 0] rfl (g_lp_X7_advance_4 hc 1001 _ _ _ _ (gJ_i (by decide) (by decide)))
