abbrev rm_X1_romByte : Room := { frames := 0, cells := 0, slots := 0, locals := 0 }
def sp_X1_romByte (k : Bool) (a0 : Int32) (S : gSt) : Int32 × gSt := ((aG S 2 ((((aG S 4 ((a0 >>> ((13 : Int32) &&& (31 : Int32))) &&& 3)) &&& 7) <<< ((6 : Int32) &&& (31 : Int32))) ||| (a0 &&& 63))), S)
set_option maxRecDepth 100000 in
set_option maxHeartbeats 4000000 in
theorem c_X1_romByte (l : Launch) (k : Bool) (η : gE) (a0 : Int32) (S : gSt) : gMet l yX1_romByte cX1_romByte 2 (some .int) rm_X1_romByte (oC k η) [.ref (η.1 1), .int a0] S (oI (sp_X1_romByte k a0 S).1) (sp_X1_romByte k a0 S).2 := by
  refine gMet_of (X := sp_X1_romByte k a0 S) (lv := [(0, .ref (η.1 1)), (1, .int a0)]) oI (zC_ok η) (by decide +kernel) (Nat.le_of_ble_eq_true rfl) rfl (fun κ hc => ?_)
  have hc : gC (oC k η) κ cX1_romByte 2 RX1 (some .int) rm_X1_romByte := hc
  unfold sp_X1_romByte
  refine g_aload_n (i := 0) hc 0 dX1_romByte_0 rfl rfl ?_
  refine gf_C_1_rom hc wtC_0 dX1_romByte_1 ?_
  refine g_aload_n (i := 0) hc 0 dX1_romByte_4 rfl rfl ?_
  refine gf_C_1_romBanks hc wtC_1 dX1_romByte_5 ?_
  refine g_iload_n (i := 1) hc 1 dX1_romByte_8 rfl rfl ?_
  refine g_bipush (v := 13) hc dX1_romByte_9 (by decide) ?_
  refine g_ishr hc dX1_romByte_11 ?_
  refine g_iconst (v := 3) hc dX1_romByte_12 (by decide) ?_
  refine g_iand hc dX1_romByte_13 ?_
  refine al_C_4 hc (pk_andIn _ 2 (by decide) (by decide)) dX1_romByte_14 ?_
  refine g_bipush (v := 7) hc dX1_romByte_15 (by decide) ?_
  refine g_iand hc dX1_romByte_17 ?_
  refine g_bipush (v := 6) hc dX1_romByte_18 (by decide) ?_
  refine g_ishl hc dX1_romByte_20 ?_
  refine g_iload_n (i := 1) hc 1 dX1_romByte_21 rfl rfl ?_
  refine g_bipush (v := 63) hc dX1_romByte_22 (by decide) ?_
  refine g_iand hc dX1_romByte_24 ?_
  refine g_ior hc dX1_romByte_25 ?_
  refine al_C_2 hc (vi_rom _ _) dX1_romByte_26 ?_
  exact g_iret hc dX1_romByte_27

abbrev rm_X1_chrByte : Room := { frames := 0, cells := 0, slots := 0, locals := 0 }
def sp_X1_chrByte (k : Bool) (a0 : Int32) (S : gSt) : Int32 × gSt := ((aG S 3 ((((aG S 5 ((a0 >>> ((10 : Int32) &&& (31 : Int32))) &&& 7)) &&& 7) <<< ((4 : Int32) &&& (31 : Int32))) ||| (a0 &&& 15))), S)
set_option maxRecDepth 100000 in
set_option maxHeartbeats 4000000 in
theorem c_X1_chrByte (l : Launch) (k : Bool) (η : gE) (a0 : Int32) (S : gSt) : gMet l yX1_chrByte cX1_chrByte 2 (some .int) rm_X1_chrByte (oC k η) [.ref (η.1 1), .int a0] S (oI (sp_X1_chrByte k a0 S).1) (sp_X1_chrByte k a0 S).2 := by
  refine gMet_of (X := sp_X1_chrByte k a0 S) (lv := [(0, .ref (η.1 1)), (1, .int a0)]) oI (zC_ok η) (by decide +kernel) (Nat.le_of_ble_eq_true rfl) rfl (fun κ hc => ?_)
  have hc : gC (oC k η) κ cX1_chrByte 2 RX1 (some .int) rm_X1_chrByte := hc
  unfold sp_X1_chrByte
  refine g_aload_n (i := 0) hc 0 dX1_chrByte_0 rfl rfl ?_
  refine gf_C_1_chr hc wtC_2 dX1_chrByte_1 ?_
  refine g_aload_n (i := 0) hc 0 dX1_chrByte_4 rfl rfl ?_
  refine gf_C_1_chrBanks hc wtC_3 dX1_chrByte_5 ?_
  refine g_iload_n (i := 1) hc 1 dX1_chrByte_8 rfl rfl ?_
  refine g_bipush (v := 10) hc dX1_chrByte_9 (by decide) ?_
  refine g_ishr hc dX1_chrByte_11 ?_
  refine g_bipush (v := 7) hc dX1_chrByte_12 (by decide) ?_
  refine g_iand hc dX1_chrByte_14 ?_
  refine al_C_5 hc (pk_andIn _ 3 (by decide) (by decide)) dX1_chrByte_15 ?_
  refine g_bipush (v := 7) hc dX1_chrByte_16 (by decide) ?_
  refine g_iand hc dX1_chrByte_18 ?_
  refine g_iconst (v := 4) hc dX1_chrByte_19 (by decide) ?_
  refine g_ishl hc dX1_chrByte_20 ?_
  refine g_iload_n (i := 1) hc 1 dX1_chrByte_21 rfl rfl ?_
  refine g_bipush (v := 15) hc dX1_chrByte_22 (by decide) ?_
  refine g_iand hc dX1_chrByte_24 ?_
  refine g_ior hc dX1_chrByte_25 ?_
  refine al_C_3 hc (vi_chr _ _) dX1_chrByte_26 ?_
  exact g_iret hc dX1_chrByte_27

abbrev rm_X1_setRomBanks : Room := { frames := 0, cells := 0, slots := 0, locals := 0 }
def sp_X1_setRomBanks (k : Bool) (a0 : Int32) (a1 : Int32) (a2 : Int32) (a3 : Int32) (S : gSt) : Unit × gSt := gL (aP S 4 0 (a0 &&& 7)) (fun S1 => gL (aP S1 4 1 (a1 &&& 7)) (fun S2 => gL (aP S2 4 2 (a2 &&& 7)) (fun S3 => gL (aP S3 4 3 (a3 &&& 7)) (fun S4 => ((), S4)))))
set_option maxRecDepth 100000 in
set_option maxHeartbeats 4000000 in
theorem c_X1_setRomBanks (l : Launch) (k : Bool) (η : gE) (a0 : Int32) (a1 : Int32) (a2 : Int32) (a3 : Int32) (S : gSt) : gMet l yX1_setRomBanks cX1_setRomBanks 5 none rm_X1_setRomBanks (oC k η) [.ref (η.1 1), .int a0, .int a1, .int a2, .int a3] S (oV (sp_X1_setRomBanks k a0 a1 a2 a3 S).1) (sp_X1_setRomBanks k a0 a1 a2 a3 S).2 := by
  refine gMet_of (X := sp_X1_setRomBanks k a0 a1 a2 a3 S) (lv := [(0, .ref (η.1 1)), (1, .int a0), (2, .int a1), (3, .int a2), (4, .int a3)]) oV (zC_ok η) (by decide +kernel) (Nat.le_of_ble_eq_true rfl) rfl (fun κ hc => ?_)
  have hc : gC (oC k η) κ cX1_setRomBanks 5 RX1 none rm_X1_setRomBanks := hc
  unfold sp_X1_setRomBanks
  refine g_aload_n (i := 0) hc 0 dX1_setRomBanks_0 rfl rfl ?_
  refine gf_C_1_romBanks hc wtC_1 dX1_setRomBanks_1 ?_
  refine g_iconst (v := 0) hc dX1_setRomBanks_4 (by decide) ?_
  refine g_iload_n (i := 1) hc 1 dX1_setRomBanks_5 rfl rfl ?_
  refine g_bipush (v := 7) hc dX1_setRomBanks_6 (by decide) ?_
  refine g_iand hc dX1_setRomBanks_8 ?_
  refine as_C_4 hc (vp_in_iff.mpr (by decide)) dX1_setRomBanks_9 (fun S1 f1 => ?_)
  refine g_aload_n (i := 0) hc 0 dX1_setRomBanks_10 rfl rfl ?_
  refine gf_C_1_romBanks hc wtC_1 dX1_setRomBanks_11 ?_
  refine g_iconst (v := 1) hc dX1_setRomBanks_14 (by decide) ?_
  refine g_iload_n (i := 2) hc 2 dX1_setRomBanks_15 rfl rfl ?_
  refine g_bipush (v := 7) hc dX1_setRomBanks_16 (by decide) ?_
  refine g_iand hc dX1_setRomBanks_18 ?_
  refine as_C_4 hc (vp_in_iff.mpr (by decide)) dX1_setRomBanks_19 (fun S2 f2 => ?_)
  refine g_aload_n (i := 0) hc 0 dX1_setRomBanks_20 rfl rfl ?_
  refine gf_C_1_romBanks hc wtC_1 dX1_setRomBanks_21 ?_
  refine g_iconst (v := 2) hc dX1_setRomBanks_24 (by decide) ?_
  refine g_iload_n (i := 3) hc 3 dX1_setRomBanks_25 rfl rfl ?_
  refine g_bipush (v := 7) hc dX1_setRomBanks_26 (by decide) ?_
  refine g_iand hc dX1_setRomBanks_28 ?_
  refine as_C_4 hc (vp_in_iff.mpr (by decide)) dX1_setRomBanks_29 (fun S3 f3 => ?_)
  refine g_aload_n (i := 0) hc 0 dX1_setRomBanks_30 rfl rfl ?_
  refine gf_C_1_romBanks hc wtC_1 dX1_setRomBanks_31 ?_
  refine g_iconst (v := 3) hc dX1_setRomBanks_34 (by decide) ?_
  refine g_iload (i := 4) hc 4 dX1_setRomBanks_35 rfl ?_
  refine g_bipush (v := 7) hc dX1_setRomBanks_37 (by decide) ?_
  refine g_iand hc dX1_setRomBanks_39 ?_
  refine as_C_4 hc (vp_in_iff.mpr (by decide)) dX1_setRomBanks_40 (fun S4 f4 => ?_)
  exact g_vret hc dX1_setRomBanks_41

abbrev rm_X1_setFourChrBanks : Room := { frames := 0, cells := 0, slots := 0, locals := 0 }
def sp_X1_setFourChrBanks (k : Bool) (a0 : Int32) (a1 : Int32) (a2 : Int32) (a3 : Int32) (a4 : Int32) (S : gSt) : Unit × gSt := gL (aP S 5 (a0 &&& 4) (a1 &&& 7)) (fun S1 => gL (aP S1 5 ((a0 &&& 4) ||| 1) (a2 &&& 7)) (fun S2 => gL (aP S2 5 ((a0 &&& 4) ||| 2) (a3 &&& 7)) (fun S3 => gL (aP S3 5 ((a0 &&& 4) ||| 3) (a4 &&& 7)) (fun S4 => ((), S4)))))
set_option maxRecDepth 100000 in
set_option maxHeartbeats 4000000 in
theorem c_X1_setFourChrBanks (l : Launch) (k : Bool) (η : gE) (a0 : Int32) (a1 : Int32) (a2 : Int32) (a3 : Int32) (a4 : Int32) (S : gSt) : gMet l yX1_setFourChrBanks cX1_setFourChrBanks 6 none rm_X1_setFourChrBanks (oC k η) [.ref (η.1 1), .int a0, .int a1, .int a2, .int a3, .int a4] S (oV (sp_X1_setFourChrBanks k a0 a1 a2 a3 a4 S).1) (sp_X1_setFourChrBanks k a0 a1 a2 a3 a4 S).2 := by
  refine gMet_of (X := sp_X1_setFourChrBanks k a0 a1 a2 a3 a4 S) (lv := [(0, .ref (η.1 1)), (1, .int a0), (2, .int a1), (3, .int a2), (4, .int a3), (5, .int a4)]) oV (zC_ok η) (by decide +kernel) (Nat.le_of_ble_eq_true rfl) rfl (fun κ hc => ?_)
  have hc : gC (oC k η) κ cX1_setFourChrBanks 6 RX1 none rm_X1_setFourChrBanks := hc
  unfold sp_X1_setFourChrBanks
  refine g_aload_n (i := 0) hc 0 dX1_setFourChrBanks_0 rfl rfl ?_
  refine gf_C_1_chrBanks hc wtC_3 dX1_setFourChrBanks_1 ?_
  refine g_iload_n (i := 1) hc 1 dX1_setFourChrBanks_4 rfl rfl ?_
  refine g_iconst (v := 4) hc dX1_setFourChrBanks_5 (by decide) ?_
  refine g_iand hc dX1_setFourChrBanks_6 ?_
  refine g_iload_n (i := 2) hc 2 dX1_setFourChrBanks_7 rfl rfl ?_
  refine g_bipush (v := 7) hc dX1_setFourChrBanks_8 (by decide) ?_
  refine g_iand hc dX1_setFourChrBanks_10 ?_
  refine as_C_5 hc (vi_four _).1 dX1_setFourChrBanks_11 (fun S1 f1 => ?_)
  refine g_aload_n (i := 0) hc 0 dX1_setFourChrBanks_12 rfl rfl ?_
  refine gf_C_1_chrBanks hc wtC_3 dX1_setFourChrBanks_13 ?_
  refine g_iload_n (i := 1) hc 1 dX1_setFourChrBanks_16 rfl rfl ?_
  refine g_iconst (v := 4) hc dX1_setFourChrBanks_17 (by decide) ?_
  refine g_iand hc dX1_setFourChrBanks_18 ?_
  refine g_iconst (v := 1) hc dX1_setFourChrBanks_19 (by decide) ?_
  refine g_ior hc dX1_setFourChrBanks_20 ?_
  refine g_iload_n (i := 3) hc 3 dX1_setFourChrBanks_21 rfl rfl ?_
  refine g_bipush (v := 7) hc dX1_setFourChrBanks_22 (by decide) ?_
  refine g_iand hc dX1_setFourChrBanks_24 ?_
  refine as_C_5 hc (vi_four _).2.1 dX1_setFourChrBanks_25 (fun S2 f2 => ?_)
  refine g_aload_n (i := 0) hc 0 dX1_setFourChrBanks_26 rfl rfl ?_
  refine gf_C_1_chrBanks hc wtC_3 dX1_setFourChrBanks_27 ?_
  refine g_iload_n (i := 1) hc 1 dX1_setFourChrBanks_30 rfl rfl ?_
  refine g_iconst (v := 4) hc dX1_setFourChrBanks_31 (by decide) ?_
  refine g_iand hc dX1_setFourChrBanks_32 ?_
  refine g_iconst (v := 2) hc dX1_setFourChrBanks_33 (by decide) ?_
  refine g_ior hc dX1_setFourChrBanks_34 ?_
  refine g_iload (i := 4) hc 4 dX1_setFourChrBanks_35 rfl ?_
  refine g_bipush (v := 7) hc dX1_setFourChrBanks_37 (by decide) ?_
  refine g_iand hc dX1_setFourChrBanks_39 ?_
  refine as_C_5 hc (vi_four _).2.2.1 dX1_setFourChrBanks_40 (fun S3 f3 => ?_)
  refine g_aload_n (i := 0) hc 0 dX1_setFourChrBanks_41 rfl rfl ?_
  refine gf_C_1_chrBanks hc wtC_3 dX1_setFourChrBanks_42 ?_
  refine g_iload_n (i := 1) hc 1 dX1_setFourChrBanks_45 rfl rfl ?_
  refine g_iconst (v := 4) hc dX1_setFourChrBanks_46 (by decide) ?_
  refine g_iand hc dX1_setFourChrBanks_47 ?_
  refine g_iconst (v := 3) hc dX1_setFourChrBanks_48 (by decide) ?_
  refine g_ior hc dX1_setFourChrBanks_49 ?_
  refine g_iload (i := 5) hc 5 dX1_setFourChrBanks_50 rfl ?_
  refine g_bipush (v := 7) hc dX1_setFourChrBanks_52 (by decide) ?_
  refine g_iand hc dX1_setFourChrBanks_54 ?_
  refine as_C_5 hc (vi_four _).2.2.2 dX1_setFourChrBanks_55 (fun S4 f4 => ?_)
  exact g_vret hc dX1_setFourChrBanks_56

abbrev rm_X3_forgetShifted : Room := { frames := 0, cells := 0, slots := 0, locals := 0 }
def sp_X3_forgetShifted  (S : gSt) : Unit × gSt := gL (sI S 2 0) (fun S1 => gL (sI S1 3 0) (fun S2 => ((), S2)))
set_option maxRecDepth 100000 in
set_option maxHeartbeats 4000000 in
theorem c_X3_forgetShifted (l : Launch) (η : gE)  (S : gSt) : gMet l yX3_forgetShifted cX3_forgetShifted 1 none rm_X3_forgetShifted (oC false η) [.ref (η.1 1)] S (oV (sp_X3_forgetShifted S).1) (sp_X3_forgetShifted S).2 := by
  refine gMet_of (X := sp_X3_forgetShifted S) (lv := [(0, .ref (η.1 1))]) oV (zC_ok η) (by decide +kernel) (Nat.le_of_ble_eq_true rfl) rfl (fun κ hc => ?_)
  have hc : gC (oC false η) κ cX3_forgetShifted 1 RX3 none rm_X3_forgetShifted := hc
  unfold sp_X3_forgetShifted
  refine g_aload_n (i := 0) hc 0 dX3_forgetShifted_0 rfl rfl ?_
  refine g_iconst (v := 0) hc dX3_forgetShifted_1 (by decide) ?_
  refine pf_C_1_shifted_false (v := 0) hc wtC_4 dX3_forgetShifted_2 (fun S1 f1 => ?_)
  refine g_aload_n (i := 0) hc 0 dX3_forgetShifted_5 rfl rfl ?_
  refine g_iconst (v := 0) hc dX3_forgetShifted_6 (by decide) ?_
  refine pf_C_1_count_false (v := 0) hc wtC_5 dX3_forgetShifted_7 (fun S2 f2 => ?_)
  exact g_vret hc dX3_forgetShifted_10

abbrev rm_X3_noteLine : Room := { frames := 0, cells := 0, slots := 0, locals := 0 }
def sp_X3_noteLine  (S : gSt) : Unit × gSt := ((), S)
set_option maxRecDepth 100000 in
set_option maxHeartbeats 4000000 in
theorem c_X3_noteLine (l : Launch) (η : gE)  (S : gSt) : gMet l yX3_noteLine cX3_noteLine 1 none rm_X3_noteLine (oC false η) [.ref (η.1 1)] S (oV (sp_X3_noteLine S).1) (sp_X3_noteLine S).2 := by
  refine gMet_of (X := sp_X3_noteLine S) (lv := [(0, .ref (η.1 1))]) oV (zC_ok η) (by decide +kernel) (Nat.le_of_ble_eq_true rfl) rfl (fun κ hc => ?_)
  have hc : gC (oC false η) κ cX3_noteLine 1 RX3 none rm_X3_noteLine := hc
  unfold sp_X3_noteLine
  exact g_vret hc dX3_noteLine_0

abbrev rm_X3_lineCounter : Room := { frames := 0, cells := 0, slots := 0, locals := 0 }
def sp_X3_lineCounter  (S : gSt) : Int32 × gSt := (0, S)
set_option maxRecDepth 100000 in
set_option maxHeartbeats 4000000 in
theorem c_X3_lineCounter (l : Launch) (η : gE)  (S : gSt) : gMet l yX3_lineCounter cX3_lineCounter 1 (some .int) rm_X3_lineCounter (oC false η) [.ref (η.1 1)] S (oI (sp_X3_lineCounter S).1) (sp_X3_lineCounter S).2 := by
  refine gMet_of (X := sp_X3_lineCounter S) (lv := [(0, .ref (η.1 1))]) oI (zC_ok η) (by decide +kernel) (Nat.le_of_ble_eq_true rfl) rfl (fun κ hc => ?_)
  have hc : gC (oC false η) κ cX3_lineCounter 1 RX3 (some .int) rm_X3_lineCounter := hc
  unfold sp_X3_lineCounter
  refine g_iconst (v := 0) hc dX3_lineCounter_0 (by decide) ?_
  exact g_iret hc dX3_lineCounter_1

abbrev rm_X3_setRegister : Room := { frames := 0, cells := 0, slots := 0, locals := 0 }
def sp_X3_setRegister (a0 : Int32) (a1 : Int32) (S : gSt) : Unit × gSt := (if a0 = 0 then gL (sI S 1 (a1 &&& 3)) (fun S1 => gL (sI S1 4 ((a1 >>> ((2 : Int32) &&& (31 : Int32))) &&& 3)) (fun S2 => gL (sI S2 6 ((a1 >>> ((4 : Int32) &&& (31 : Int32))) &&& 1)) (fun S3 => ((), S3)))) else (if a0 = 1 then gL (sI S 7 a1) (fun S4 => ((), S4)) else (if a0 = 2 then gL (sI S 8 a1) (fun S5 => ((), S5)) else gL (sI S 5 a1) (fun S6 => ((), S6)))))
set_option maxRecDepth 100000 in
set_option maxHeartbeats 4000000 in
theorem c_X3_setRegister (l : Launch) (η : gE) (a0 : Int32) (a1 : Int32) (S : gSt) : gMet l yX3_setRegister cX3_setRegister 3 none rm_X3_setRegister (oC false η) [.ref (η.1 1), .int a0, .int a1] S (oV (sp_X3_setRegister a0 a1 S).1) (sp_X3_setRegister a0 a1 S).2 := by
  refine gMet_of (X := sp_X3_setRegister a0 a1 S) (lv := [(0, .ref (η.1 1)), (1, .int a0), (2, .int a1)]) oV (zC_ok η) (by decide +kernel) (Nat.le_of_ble_eq_true rfl) rfl (fun κ hc => ?_)
  have hc : gC (oC false η) κ cX3_setRegister 3 RX3 none rm_X3_setRegister := hc
  unfold sp_X3_setRegister
  refine g_iload_n (i := 1) hc 1 dX3_setRegister_0 rfl rfl ?_
  refine g_tsw (tgt := 28) hc 0 dX3_setRegister_1 ⟨by decide, by decide, rfl⟩ rfl (fun c_1_0 => ?_) (fun c_1_0 => ?_)
  · refine g_aload_n (i := 0) hc 0 dX3_setRegister_28 rfl rfl ?_
    refine g_iload_n (i := 2) hc 2 dX3_setRegister_29 rfl rfl ?_
    refine g_iconst (v := 3) hc dX3_setRegister_30 (by decide) ?_
    refine g_iand hc dX3_setRegister_31 ?_
    refine pf_C_1_mirroring_false_same (v := (a1 &&& 3)) hc wtC_6 wtC_7 dX3_setRegister_32 (fun S1 f1 => ?_)
    refine g_aload_n (i := 0) hc 0 dX3_setRegister_35 rfl rfl ?_
    refine g_iload_n (i := 2) hc 2 dX3_setRegister_36 rfl rfl ?_
    refine g_iconst (v := 2) hc dX3_setRegister_37 (by decide) ?_
    refine g_ishr hc dX3_setRegister_38 ?_
    refine g_iconst (v := 3) hc dX3_setRegister_39 (by decide) ?_
    refine g_iand hc dX3_setRegister_40 ?_
    refine pf_C_1_prgMode_false (v := ((a1 >>> ((2 : Int32) &&& (31 : Int32))) &&& 3)) hc wtC_8 dX3_setRegister_41 (fun S2 f2 => ?_)
    refine g_aload_n (i := 0) hc 0 dX3_setRegister_44 rfl rfl ?_
    refine g_iload_n (i := 2) hc 2 dX3_setRegister_45 rfl rfl ?_
    refine g_iconst (v := 4) hc dX3_setRegister_46 (by decide) ?_
    refine g_ishr hc dX3_setRegister_47 ?_
    refine g_iconst (v := 1) hc dX3_setRegister_48 (by decide) ?_
    refine g_iand hc dX3_setRegister_49 ?_
    refine pf_C_1_chrMode_false (v := ((a1 >>> ((4 : Int32) &&& (31 : Int32))) &&& 1)) hc wtC_9 dX3_setRegister_50 (fun S3 f3 => ?_)
    refine g_goto (tgt := 77) hc dX3_setRegister_53 rfl ?_
    exact g_vret hc dX3_setRegister_77
  refine g_tsw (tgt := 56) hc 1 dX3_setRegister_1 ⟨by decide, by decide, rfl⟩ rfl (fun c_1_1 => ?_) (fun c_1_1 => ?_)
  · refine g_aload_n (i := 0) hc 0 dX3_setRegister_56 rfl rfl ?_
    refine g_iload_n (i := 2) hc 2 dX3_setRegister_57 rfl rfl ?_
    refine pf_C_1_firstChr_false (v := a1) hc wtC_10 dX3_setRegister_58 (fun S4 f4 => ?_)
    refine g_goto (tgt := 77) hc dX3_setRegister_61 rfl ?_
    exact g_vret hc dX3_setRegister_77
  refine g_tsw (tgt := 64) hc 2 dX3_setRegister_1 ⟨by decide, by decide, rfl⟩ rfl (fun c_1_2 => ?_) (fun c_1_2 => ?_)
  · refine g_aload_n (i := 0) hc 0 dX3_setRegister_64 rfl rfl ?_
    refine g_iload_n (i := 2) hc 2 dX3_setRegister_65 rfl rfl ?_
    refine pf_C_1_secondChr_false (v := a1) hc wtC_11 dX3_setRegister_66 (fun S5 f5 => ?_)
    refine g_goto (tgt := 77) hc dX3_setRegister_69 rfl ?_
    exact g_vret hc dX3_setRegister_77
  refine g_tswd (tgt := 72) hc dX3_setRegister_1 (by have := lv_neT c_1_0 (a := 0) (by decide); have := lv_neT c_1_1 (a := 1) (by decide); have := lv_neT c_1_2 (a := 2) (by decide); omega) rfl ?_
  refine g_aload_n (i := 0) hc 0 dX3_setRegister_72 rfl rfl ?_
  refine g_iload_n (i := 2) hc 2 dX3_setRegister_73 rfl rfl ?_
  refine pf_C_1_prgBank_false (v := a1) hc wtC_12 dX3_setRegister_74 (fun S6 f6 => ?_)
  exact g_vret hc dX3_setRegister_77

abbrev rm_X3_mapRom : Room := { frames := 1, cells := 0, slots := 0, locals := 24 }
def sp_X3_mapRom  (S : gSt) : Unit × gSt := (if (S.1 4) = 2 then gB (sp_X1_setRomBanks false 0 1 (2 * ((S.1 5) &&& 3)) ((2 * ((S.1 5) &&& 3)) + 1) S) (fun (_ : Unit) S1 => ((), S1)) else (if (S.1 4) = 3 then gB (sp_X1_setRomBanks false (2 * ((S.1 5) &&& 3)) ((2 * ((S.1 5) &&& 3)) + 1) 6 7 S) (fun (_ : Unit) S2 => ((), S2)) else gB (sp_X1_setRomBanks false (4 * (((S.1 5) >>> ((1 : Int32) &&& (31 : Int32))) &&& 1)) ((4 * (((S.1 5) >>> ((1 : Int32) &&& (31 : Int32))) &&& 1)) + 1) ((4 * (((S.1 5) >>> ((1 : Int32) &&& (31 : Int32))) &&& 1)) + 2) ((4 * (((S.1 5) >>> ((1 : Int32) &&& (31 : Int32))) &&& 1)) + 3) S) (fun (_ : Unit) S3 => ((), S3))))
set_option maxRecDepth 100000 in
set_option maxHeartbeats 4000000 in
theorem c_X3_mapRom (l : Launch) (η : gE)  (S : gSt) : gMet l yX3_mapRom cX3_mapRom 3 none rm_X3_mapRom (oC false η) [.ref (η.1 1)] S (oV (sp_X3_mapRom S).1) (sp_X3_mapRom S).2 := by
  refine gMet_of (X := sp_X3_mapRom S) (lv := [(0, .ref (η.1 1))]) oV (zC_ok η) (by decide +kernel) (Nat.le_of_ble_eq_true rfl) rfl (fun κ hc => ?_)
  have hc : gC (oC false η) κ cX3_mapRom 3 RX3 none rm_X3_mapRom := hc
  unfold sp_X3_mapRom
  refine g_iconst (v := 2) hc dX3_mapRom_0 (by decide) ?_
  refine g_aload_n (i := 0) hc 0 dX3_mapRom_1 rfl rfl ?_
  refine gf_C_1_prgBank_false hc wtC_12 dX3_mapRom_2 ?_
  refine g_iconst (v := 3) hc dX3_mapRom_5 (by decide) ?_
  refine g_iand hc dX3_mapRom_6 ?_
  refine g_imul hc dX3_mapRom_7 ?_
  refine g_istore_n (i := 1) (lv' := [(1, .int (2 * ((S.1 5) &&& 3))), (0, .ref (η.1 1))]) hc dX3_mapRom_8 rfl (by decide) rfl ?_
  refine g_aload_n (i := 0) hc 1 dX3_mapRom_9 rfl rfl ?_
  refine gf_C_1_prgMode_false hc wtC_8 dX3_mapRom_10 ?_
  refine g_iconst (v := 2) hc dX3_mapRom_13 (by decide) ?_
  refine g_icmpne (tgt := 30) hc dX3_mapRom_14 rfl (fun c_14 => ?_) (fun c_14 => ?_)
  · refine g_aload_n (i := 0) hc 1 dX3_mapRom_17 rfl rfl ?_
    refine g_iconst (v := 0) hc dX3_mapRom_18 (by decide) ?_
    refine g_iconst (v := 1) hc dX3_mapRom_19 (by decide) ?_
    refine g_iload_n (i := 1) hc 0 dX3_mapRom_20 rfl rfl ?_
    refine g_iload_n (i := 1) hc 0 dX3_mapRom_21 rfl rfl ?_
    refine g_iconst (v := 1) hc dX3_mapRom_22 (by decide) ?_
    refine g_iadd hc dX3_mapRom_23 ?_
    refine g_callWV (C := RX3) (x := ⟨"GameConsole$Mmc1", "setRomBanks", "(IIII)V"⟩) (owner := "GameConsole$Cartridge") hc 1 [.int 0, .int 1, .int (2 * ((S.1 5) &&& 3)), .int ((2 * ((S.1 5) &&& 3)) + 1)] (fun l => c_X1_setRomBanks l false η 0 1 (2 * ((S.1 5) &&& 3)) ((2 * ((S.1 5) &&& 3)) + 1) S) wtC_16 wtC_17 wtC_18 gu_X1_setRomBanks rfl ⟨rfl, rfl⟩ rfl ⟨Nat.le_of_ble_eq_true rfl, Nat.le_of_ble_eq_true rfl⟩ rfl rfl rfl (Nat.le_of_ble_eq_true rfl) dX3_mapRom_24 (fun r1 S1 e1 f1 => ?_)
    refine g_goto (tgt := 78) hc dX3_mapRom_27 rfl ?_
    exact g_vret hc dX3_mapRom_78
  · refine g_aload_n (i := 0) hc 1 dX3_mapRom_30 rfl rfl ?_
    refine gf_C_1_prgMode_false hc wtC_8 dX3_mapRom_31 ?_
    refine g_iconst (v := 3) hc dX3_mapRom_34 (by decide) ?_
    refine g_icmpne (tgt := 53) hc dX3_mapRom_35 rfl (fun c_35 => ?_) (fun c_35 => ?_)
    · refine g_aload_n (i := 0) hc 1 dX3_mapRom_38 rfl rfl ?_
      refine g_iload_n (i := 1) hc 0 dX3_mapRom_39 rfl rfl ?_
      refine g_iload_n (i := 1) hc 0 dX3_mapRom_40 rfl rfl ?_
      refine g_iconst (v := 1) hc dX3_mapRom_41 (by decide) ?_
      refine g_iadd hc dX3_mapRom_42 ?_
      refine g_bipush (v := 6) hc dX3_mapRom_43 (by decide) ?_
      refine g_bipush (v := 7) hc dX3_mapRom_45 (by decide) ?_
      refine g_callWV (C := RX3) (x := ⟨"GameConsole$Mmc1", "setRomBanks", "(IIII)V"⟩) (owner := "GameConsole$Cartridge") hc 1 [.int (2 * ((S.1 5) &&& 3)), .int ((2 * ((S.1 5) &&& 3)) + 1), .int 6, .int 7] (fun l => c_X1_setRomBanks l false η (2 * ((S.1 5) &&& 3)) ((2 * ((S.1 5) &&& 3)) + 1) 6 7 S) wtC_16 wtC_17 wtC_18 gu_X1_setRomBanks rfl ⟨rfl, rfl⟩ rfl ⟨Nat.le_of_ble_eq_true rfl, Nat.le_of_ble_eq_true rfl⟩ rfl rfl rfl (Nat.le_of_ble_eq_true rfl) dX3_mapRom_47 (fun r2 S2 e2 f2 => ?_)
      refine g_goto (tgt := 78) hc dX3_mapRom_50 rfl ?_
      exact g_vret hc dX3_mapRom_78
    · refine g_iconst (v := 4) hc dX3_mapRom_53 (by decide) ?_
      refine g_aload_n (i := 0) hc 1 dX3_mapRom_54 rfl rfl ?_
      refine gf_C_1_prgBank_false hc wtC_12 dX3_mapRom_55 ?_
      refine g_iconst (v := 1) hc dX3_mapRom_58 (by decide) ?_
      refine g_ishr hc dX3_mapRom_59 ?_
      refine g_iconst (v := 1) hc dX3_mapRom_60 (by decide) ?_
      refine g_iand hc dX3_mapRom_61 ?_
      refine g_imul hc dX3_mapRom_62 ?_
      refine g_istore_n (i := 2) (lv' := [(2, .int (4 * (((S.1 5) >>> ((1 : Int32) &&& (31 : Int32))) &&& 1))), (1, .int (2 * ((S.1 5) &&& 3))), (0, .ref (η.1 1))]) hc dX3_mapRom_63 rfl (by decide) rfl ?_
      refine g_aload_n (i := 0) hc 2 dX3_mapRom_64 rfl rfl ?_
      refine g_iload_n (i := 2) hc 0 dX3_mapRom_65 rfl rfl ?_
      refine g_iload_n (i := 2) hc 0 dX3_mapRom_66 rfl rfl ?_
      refine g_iconst (v := 1) hc dX3_mapRom_67 (by decide) ?_
      refine g_iadd hc dX3_mapRom_68 ?_
      refine g_iload_n (i := 2) hc 0 dX3_mapRom_69 rfl rfl ?_
      refine g_iconst (v := 2) hc dX3_mapRom_70 (by decide) ?_
      refine g_iadd hc dX3_mapRom_71 ?_
      refine g_iload_n (i := 2) hc 0 dX3_mapRom_72 rfl rfl ?_
      refine g_iconst (v := 3) hc dX3_mapRom_73 (by decide) ?_
      refine g_iadd hc dX3_mapRom_74 ?_
      refine g_callWV (C := RX3) (x := ⟨"GameConsole$Mmc1", "setRomBanks", "(IIII)V"⟩) (owner := "GameConsole$Cartridge") hc 1 [.int (4 * (((S.1 5) >>> ((1 : Int32) &&& (31 : Int32))) &&& 1)), .int ((4 * (((S.1 5) >>> ((1 : Int32) &&& (31 : Int32))) &&& 1)) + 1), .int ((4 * (((S.1 5) >>> ((1 : Int32) &&& (31 : Int32))) &&& 1)) + 2), .int ((4 * (((S.1 5) >>> ((1 : Int32) &&& (31 : Int32))) &&& 1)) + 3)] (fun l => c_X1_setRomBanks l false η (4 * (((S.1 5) >>> ((1 : Int32) &&& (31 : Int32))) &&& 1)) ((4 * (((S.1 5) >>> ((1 : Int32) &&& (31 : Int32))) &&& 1)) + 1) ((4 * (((S.1 5) >>> ((1 : Int32) &&& (31 : Int32))) &&& 1)) + 2) ((4 * (((S.1 5) >>> ((1 : Int32) &&& (31 : Int32))) &&& 1)) + 3) S) wtC_16 wtC_17 wtC_18 gu_X1_setRomBanks rfl ⟨rfl, rfl⟩ rfl ⟨Nat.le_of_ble_eq_true rfl, Nat.le_of_ble_eq_true rfl⟩ rfl rfl rfl (Nat.le_of_ble_eq_true rfl) dX3_mapRom_75 (fun r3 S3 e3 f3 => ?_)
      exact g_vret hc dX3_mapRom_78

abbrev rm_X3_mapChr : Room := { frames := 1, cells := 0, slots := 0, locals := 25 }
def sp_X3_mapChr  (S : gSt) : Unit × gSt := (if (S.1 6) = 0 then (if (S.1 6) = 0 then gB (sp_X1_setFourChrBanks false 0 0 (0 + 1) (0 + 2) (0 + 3) S) (fun (_ : Unit) S1 => gB (sp_X1_setFourChrBanks false 4 4 (4 + 1) (4 + 2) (4 + 3) S1) (fun (_ : Unit) S2 => ((), S2))) else gB (sp_X1_setFourChrBanks false 0 0 (0 + 1) (0 + 2) (0 + 3) S) (fun (_ : Unit) S3 => gB (sp_X1_setFourChrBanks false 4 (4 * ((S.1 8) &&& 1)) ((4 * ((S.1 8) &&& 1)) + 1) ((4 * ((S.1 8) &&& 1)) + 2) ((4 * ((S.1 8) &&& 1)) + 3) S3) (fun (_ : Unit) S4 => ((), S4)))) else (if (S.1 6) = 0 then gB (sp_X1_setFourChrBanks false 0 (4 * ((S.1 7) &&& 1)) ((4 * ((S.1 7) &&& 1)) + 1) ((4 * ((S.1 7) &&& 1)) + 2) ((4 * ((S.1 7) &&& 1)) + 3) S) (fun (_ : Unit) S5 => gB (sp_X1_setFourChrBanks false 4 4 (4 + 1) (4 + 2) (4 + 3) S5) (fun (_ : Unit) S6 => ((), S6))) else gB (sp_X1_setFourChrBanks false 0 (4 * ((S.1 7) &&& 1)) ((4 * ((S.1 7) &&& 1)) + 1) ((4 * ((S.1 7) &&& 1)) + 2) ((4 * ((S.1 7) &&& 1)) + 3) S) (fun (_ : Unit) S7 => gB (sp_X1_setFourChrBanks false 4 (4 * ((S.1 8) &&& 1)) ((4 * ((S.1 8) &&& 1)) + 1) ((4 * ((S.1 8) &&& 1)) + 2) ((4 * ((S.1 8) &&& 1)) + 3) S7) (fun (_ : Unit) S8 => ((), S8)))))
set_option maxRecDepth 100000 in
set_option maxHeartbeats 4000000 in
theorem c_X3_mapChr (l : Launch) (η : gE)  (S : gSt) : gMet l yX3_mapChr cX3_mapChr 3 none rm_X3_mapChr (oC false η) [.ref (η.1 1)] S (oV (sp_X3_mapChr S).1) (sp_X3_mapChr S).2 := by
  refine gMet_of (X := sp_X3_mapChr S) (lv := [(0, .ref (η.1 1))]) oV (zC_ok η) (by decide +kernel) (Nat.le_of_ble_eq_true rfl) rfl (fun κ hc => ?_)
  have hc : gC (oC false η) κ cX3_mapChr 3 RX3 none rm_X3_mapChr := hc
  unfold sp_X3_mapChr
  refine g_aload_n (i := 0) hc 0 dX3_mapChr_0 rfl rfl ?_
  refine gf_C_1_chrMode_false hc wtC_9 dX3_mapChr_1 ?_
  refine g_ifne (tgt := 11) hc dX3_mapChr_4 rfl (fun c_4 => ?_) (fun c_4 => ?_)
  · refine g_iconst (v := 0) hc dX3_mapChr_7 (by decide) ?_
    refine g_goto (tgt := 19) hc dX3_mapChr_8 rfl ?_
    refine g_istore_n (i := 1) (lv' := [(1, .int 0), (0, .ref (η.1 1))]) hc dX3_mapChr_19 rfl (by decide) rfl ?_
    refine g_aload_n (i := 0) hc 1 dX3_mapChr_20 rfl rfl ?_
    refine gf_C_1_chrMode_false hc wtC_9 dX3_mapChr_21 ?_
    refine g_ifne (tgt := 31) hc dX3_mapChr_24 rfl (fun c_24 => ?_) (fun c_24 => ?_)
    · refine g_iconst (v := 4) hc dX3_mapChr_27 (by decide) ?_
      refine g_goto (tgt := 39) hc dX3_mapChr_28 rfl ?_
      refine g_istore_n (i := 2) (lv' := [(2, .int 4), (1, .int 0), (0, .ref (η.1 1))]) hc dX3_mapChr_39 rfl (by decide) rfl ?_
      refine g_aload_n (i := 0) hc 2 dX3_mapChr_40 rfl rfl ?_
      refine g_iconst (v := 0) hc dX3_mapChr_41 (by decide) ?_
      refine g_iload_n (i := 1) hc 1 dX3_mapChr_42 rfl rfl ?_
      refine g_iload_n (i := 1) hc 1 dX3_mapChr_43 rfl rfl ?_
      refine g_iconst (v := 1) hc dX3_mapChr_44 (by decide) ?_
      refine g_iadd hc dX3_mapChr_45 ?_
      refine g_iload_n (i := 1) hc 1 dX3_mapChr_46 rfl rfl ?_
      refine g_iconst (v := 2) hc dX3_mapChr_47 (by decide) ?_
      refine g_iadd hc dX3_mapChr_48 ?_
      refine g_iload_n (i := 1) hc 1 dX3_mapChr_49 rfl rfl ?_
      refine g_iconst (v := 3) hc dX3_mapChr_50 (by decide) ?_
      refine g_iadd hc dX3_mapChr_51 ?_
      refine g_callWV (C := RX3) (x := ⟨"GameConsole$Mmc1", "setFourChrBanks", "(IIIII)V"⟩) (owner := "GameConsole$Cartridge") hc 1 [.int 0, .int 0, .int (0 + 1), .int (0 + 2), .int (0 + 3)] (fun l => c_X1_setFourChrBanks l false η 0 0 (0 + 1) (0 + 2) (0 + 3) S) wtC_21 wtC_22 wtC_23 gu_X1_setFourChrBanks rfl ⟨rfl, rfl⟩ rfl ⟨Nat.le_of_ble_eq_true rfl, Nat.le_of_ble_eq_true rfl⟩ rfl rfl rfl (Nat.le_of_ble_eq_true rfl) dX3_mapChr_52 (fun r1 S1 e1 f1 => ?_)
      refine g_aload_n (i := 0) hc 2 dX3_mapChr_55 rfl rfl ?_
      refine g_iconst (v := 4) hc dX3_mapChr_56 (by decide) ?_
      refine g_iload_n (i := 2) hc 0 dX3_mapChr_57 rfl rfl ?_
      refine g_iload_n (i := 2) hc 0 dX3_mapChr_58 rfl rfl ?_
      refine g_iconst (v := 1) hc dX3_mapChr_59 (by decide) ?_
      refine g_iadd hc dX3_mapChr_60 ?_
      refine g_iload_n (i := 2) hc 0 dX3_mapChr_61 rfl rfl ?_
      refine g_iconst (v := 2) hc dX3_mapChr_62 (by decide) ?_
      refine g_iadd hc dX3_mapChr_63 ?_
      refine g_iload_n (i := 2) hc 0 dX3_mapChr_64 rfl rfl ?_
      refine g_iconst (v := 3) hc dX3_mapChr_65 (by decide) ?_
      refine g_iadd hc dX3_mapChr_66 ?_
      refine g_callWV (C := RX3) (x := ⟨"GameConsole$Mmc1", "setFourChrBanks", "(IIIII)V"⟩) (owner := "GameConsole$Cartridge") hc 1 [.int 4, .int 4, .int (4 + 1), .int (4 + 2), .int (4 + 3)] (fun l => c_X1_setFourChrBanks l false η 4 4 (4 + 1) (4 + 2) (4 + 3) S1) wtC_21 wtC_22 wtC_23 gu_X1_setFourChrBanks rfl ⟨rfl, rfl⟩ rfl ⟨Nat.le_of_ble_eq_true rfl, Nat.le_of_ble_eq_true rfl⟩ rfl rfl rfl (Nat.le_of_ble_eq_true rfl) dX3_mapChr_67 (fun r2 S2 e2 f2 => ?_)
      exact g_vret hc dX3_mapChr_70
    · refine g_iconst (v := 4) hc dX3_mapChr_31 (by decide) ?_
      refine g_aload_n (i := 0) hc 1 dX3_mapChr_32 rfl rfl ?_
      refine gf_C_1_secondChr_false hc wtC_11 dX3_mapChr_33 ?_
      refine g_iconst (v := 1) hc dX3_mapChr_36 (by decide) ?_
      refine g_iand hc dX3_mapChr_37 ?_
      refine g_imul hc dX3_mapChr_38 ?_
      refine g_istore_n (i := 2) (lv' := [(2, .int (4 * ((S.1 8) &&& 1))), (1, .int 0), (0, .ref (η.1 1))]) hc dX3_mapChr_39 rfl (by decide) rfl ?_
      refine g_aload_n (i := 0) hc 2 dX3_mapChr_40 rfl rfl ?_
      refine g_iconst (v := 0) hc dX3_mapChr_41 (by decide) ?_
      refine g_iload_n (i := 1) hc 1 dX3_mapChr_42 rfl rfl ?_
      refine g_iload_n (i := 1) hc 1 dX3_mapChr_43 rfl rfl ?_
      refine g_iconst (v := 1) hc dX3_mapChr_44 (by decide) ?_
      refine g_iadd hc dX3_mapChr_45 ?_
      refine g_iload_n (i := 1) hc 1 dX3_mapChr_46 rfl rfl ?_
      refine g_iconst (v := 2) hc dX3_mapChr_47 (by decide) ?_
      refine g_iadd hc dX3_mapChr_48 ?_
      refine g_iload_n (i := 1) hc 1 dX3_mapChr_49 rfl rfl ?_
      refine g_iconst (v := 3) hc dX3_mapChr_50 (by decide) ?_
      refine g_iadd hc dX3_mapChr_51 ?_
      refine g_callWV (C := RX3) (x := ⟨"GameConsole$Mmc1", "setFourChrBanks", "(IIIII)V"⟩) (owner := "GameConsole$Cartridge") hc 1 [.int 0, .int 0, .int (0 + 1), .int (0 + 2), .int (0 + 3)] (fun l => c_X1_setFourChrBanks l false η 0 0 (0 + 1) (0 + 2) (0 + 3) S) wtC_21 wtC_22 wtC_23 gu_X1_setFourChrBanks rfl ⟨rfl, rfl⟩ rfl ⟨Nat.le_of_ble_eq_true rfl, Nat.le_of_ble_eq_true rfl⟩ rfl rfl rfl (Nat.le_of_ble_eq_true rfl) dX3_mapChr_52 (fun r3 S3 e3 f3 => ?_)
      refine g_aload_n (i := 0) hc 2 dX3_mapChr_55 rfl rfl ?_
      refine g_iconst (v := 4) hc dX3_mapChr_56 (by decide) ?_
      refine g_iload_n (i := 2) hc 0 dX3_mapChr_57 rfl rfl ?_
      refine g_iload_n (i := 2) hc 0 dX3_mapChr_58 rfl rfl ?_
      refine g_iconst (v := 1) hc dX3_mapChr_59 (by decide) ?_
      refine g_iadd hc dX3_mapChr_60 ?_
      refine g_iload_n (i := 2) hc 0 dX3_mapChr_61 rfl rfl ?_
      refine g_iconst (v := 2) hc dX3_mapChr_62 (by decide) ?_
      refine g_iadd hc dX3_mapChr_63 ?_
      refine g_iload_n (i := 2) hc 0 dX3_mapChr_64 rfl rfl ?_
      refine g_iconst (v := 3) hc dX3_mapChr_65 (by decide) ?_
      refine g_iadd hc dX3_mapChr_66 ?_
      refine g_callWV (C := RX3) (x := ⟨"GameConsole$Mmc1", "setFourChrBanks", "(IIIII)V"⟩) (owner := "GameConsole$Cartridge") hc 1 [.int 4, .int (4 * ((S.1 8) &&& 1)), .int ((4 * ((S.1 8) &&& 1)) + 1), .int ((4 * ((S.1 8) &&& 1)) + 2), .int ((4 * ((S.1 8) &&& 1)) + 3)] (fun l => c_X1_setFourChrBanks l false η 4 (4 * ((S.1 8) &&& 1)) ((4 * ((S.1 8) &&& 1)) + 1) ((4 * ((S.1 8) &&& 1)) + 2) ((4 * ((S.1 8) &&& 1)) + 3) S3) wtC_21 wtC_22 wtC_23 gu_X1_setFourChrBanks rfl ⟨rfl, rfl⟩ rfl ⟨Nat.le_of_ble_eq_true rfl, Nat.le_of_ble_eq_true rfl⟩ rfl rfl rfl (Nat.le_of_ble_eq_true rfl) dX3_mapChr_67 (fun r4 S4 e4 f4 => ?_)
      exact g_vret hc dX3_mapChr_70
  · refine g_iconst (v := 4) hc dX3_mapChr_11 (by decide) ?_
    refine g_aload_n (i := 0) hc 0 dX3_mapChr_12 rfl rfl ?_
    refine gf_C_1_firstChr_false hc wtC_10 dX3_mapChr_13 ?_
    refine g_iconst (v := 1) hc dX3_mapChr_16 (by decide) ?_
    refine g_iand hc dX3_mapChr_17 ?_
    refine g_imul hc dX3_mapChr_18 ?_
    refine g_istore_n (i := 1) (lv' := [(1, .int (4 * ((S.1 7) &&& 1))), (0, .ref (η.1 1))]) hc dX3_mapChr_19 rfl (by decide) rfl ?_
    refine g_aload_n (i := 0) hc 1 dX3_mapChr_20 rfl rfl ?_
    refine gf_C_1_chrMode_false hc wtC_9 dX3_mapChr_21 ?_
    refine g_ifne (tgt := 31) hc dX3_mapChr_24 rfl (fun c_24 => ?_) (fun c_24 => ?_)
    · refine g_iconst (v := 4) hc dX3_mapChr_27 (by decide) ?_
      refine g_goto (tgt := 39) hc dX3_mapChr_28 rfl ?_
      refine g_istore_n (i := 2) (lv' := [(2, .int 4), (1, .int (4 * ((S.1 7) &&& 1))), (0, .ref (η.1 1))]) hc dX3_mapChr_39 rfl (by decide) rfl ?_
      refine g_aload_n (i := 0) hc 2 dX3_mapChr_40 rfl rfl ?_
      refine g_iconst (v := 0) hc dX3_mapChr_41 (by decide) ?_
      refine g_iload_n (i := 1) hc 1 dX3_mapChr_42 rfl rfl ?_
      refine g_iload_n (i := 1) hc 1 dX3_mapChr_43 rfl rfl ?_
      refine g_iconst (v := 1) hc dX3_mapChr_44 (by decide) ?_
      refine g_iadd hc dX3_mapChr_45 ?_
      refine g_iload_n (i := 1) hc 1 dX3_mapChr_46 rfl rfl ?_
      refine g_iconst (v := 2) hc dX3_mapChr_47 (by decide) ?_
      refine g_iadd hc dX3_mapChr_48 ?_
      refine g_iload_n (i := 1) hc 1 dX3_mapChr_49 rfl rfl ?_
      refine g_iconst (v := 3) hc dX3_mapChr_50 (by decide) ?_
      refine g_iadd hc dX3_mapChr_51 ?_
      refine g_callWV (C := RX3) (x := ⟨"GameConsole$Mmc1", "setFourChrBanks", "(IIIII)V"⟩) (owner := "GameConsole$Cartridge") hc 1 [.int 0, .int (4 * ((S.1 7) &&& 1)), .int ((4 * ((S.1 7) &&& 1)) + 1), .int ((4 * ((S.1 7) &&& 1)) + 2), .int ((4 * ((S.1 7) &&& 1)) + 3)] (fun l => c_X1_setFourChrBanks l false η 0 (4 * ((S.1 7) &&& 1)) ((4 * ((S.1 7) &&& 1)) + 1) ((4 * ((S.1 7) &&& 1)) + 2) ((4 * ((S.1 7) &&& 1)) + 3) S) wtC_21 wtC_22 wtC_23 gu_X1_setFourChrBanks rfl ⟨rfl, rfl⟩ rfl ⟨Nat.le_of_ble_eq_true rfl, Nat.le_of_ble_eq_true rfl⟩ rfl rfl rfl (Nat.le_of_ble_eq_true rfl) dX3_mapChr_52 (fun r5 S5 e5 f5 => ?_)
      refine g_aload_n (i := 0) hc 2 dX3_mapChr_55 rfl rfl ?_
      refine g_iconst (v := 4) hc dX3_mapChr_56 (by decide) ?_
      refine g_iload_n (i := 2) hc 0 dX3_mapChr_57 rfl rfl ?_
      refine g_iload_n (i := 2) hc 0 dX3_mapChr_58 rfl rfl ?_
      refine g_iconst (v := 1) hc dX3_mapChr_59 (by decide) ?_
      refine g_iadd hc dX3_mapChr_60 ?_
      refine g_iload_n (i := 2) hc 0 dX3_mapChr_61 rfl rfl ?_
      refine g_iconst (v := 2) hc dX3_mapChr_62 (by decide) ?_
      refine g_iadd hc dX3_mapChr_63 ?_
      refine g_iload_n (i := 2) hc 0 dX3_mapChr_64 rfl rfl ?_
      refine g_iconst (v := 3) hc dX3_mapChr_65 (by decide) ?_
      refine g_iadd hc dX3_mapChr_66 ?_
      refine g_callWV (C := RX3) (x := ⟨"GameConsole$Mmc1", "setFourChrBanks", "(IIIII)V"⟩) (owner := "GameConsole$Cartridge") hc 1 [.int 4, .int 4, .int (4 + 1), .int (4 + 2), .int (4 + 3)] (fun l => c_X1_setFourChrBanks l false η 4 4 (4 + 1) (4 + 2) (4 + 3) S5) wtC_21 wtC_22 wtC_23 gu_X1_setFourChrBanks rfl ⟨rfl, rfl⟩ rfl ⟨Nat.le_of_ble_eq_true rfl, Nat.le_of_ble_eq_true rfl⟩ rfl rfl rfl (Nat.le_of_ble_eq_true rfl) dX3_mapChr_67 (fun r6 S6 e6 f6 => ?_)
      exact g_vret hc dX3_mapChr_70
    · refine g_iconst (v := 4) hc dX3_mapChr_31 (by decide) ?_
      refine g_aload_n (i := 0) hc 1 dX3_mapChr_32 rfl rfl ?_
      refine gf_C_1_secondChr_false hc wtC_11 dX3_mapChr_33 ?_
      refine g_iconst (v := 1) hc dX3_mapChr_36 (by decide) ?_
      refine g_iand hc dX3_mapChr_37 ?_
      refine g_imul hc dX3_mapChr_38 ?_
      refine g_istore_n (i := 2) (lv' := [(2, .int (4 * ((S.1 8) &&& 1))), (1, .int (4 * ((S.1 7) &&& 1))), (0, .ref (η.1 1))]) hc dX3_mapChr_39 rfl (by decide) rfl ?_
      refine g_aload_n (i := 0) hc 2 dX3_mapChr_40 rfl rfl ?_
      refine g_iconst (v := 0) hc dX3_mapChr_41 (by decide) ?_
      refine g_iload_n (i := 1) hc 1 dX3_mapChr_42 rfl rfl ?_
      refine g_iload_n (i := 1) hc 1 dX3_mapChr_43 rfl rfl ?_
      refine g_iconst (v := 1) hc dX3_mapChr_44 (by decide) ?_
      refine g_iadd hc dX3_mapChr_45 ?_
      refine g_iload_n (i := 1) hc 1 dX3_mapChr_46 rfl rfl ?_
      refine g_iconst (v := 2) hc dX3_mapChr_47 (by decide) ?_
      refine g_iadd hc dX3_mapChr_48 ?_
      refine g_iload_n (i := 1) hc 1 dX3_mapChr_49 rfl rfl ?_
      refine g_iconst (v := 3) hc dX3_mapChr_50 (by decide) ?_
      refine g_iadd hc dX3_mapChr_51 ?_
      refine g_callWV (C := RX3) (x := ⟨"GameConsole$Mmc1", "setFourChrBanks", "(IIIII)V"⟩) (owner := "GameConsole$Cartridge") hc 1 [.int 0, .int (4 * ((S.1 7) &&& 1)), .int ((4 * ((S.1 7) &&& 1)) + 1), .int ((4 * ((S.1 7) &&& 1)) + 2), .int ((4 * ((S.1 7) &&& 1)) + 3)] (fun l => c_X1_setFourChrBanks l false η 0 (4 * ((S.1 7) &&& 1)) ((4 * ((S.1 7) &&& 1)) + 1) ((4 * ((S.1 7) &&& 1)) + 2) ((4 * ((S.1 7) &&& 1)) + 3) S) wtC_21 wtC_22 wtC_23 gu_X1_setFourChrBanks rfl ⟨rfl, rfl⟩ rfl ⟨Nat.le_of_ble_eq_true rfl, Nat.le_of_ble_eq_true rfl⟩ rfl rfl rfl (Nat.le_of_ble_eq_true rfl) dX3_mapChr_52 (fun r7 S7 e7 f7 => ?_)
      refine g_aload_n (i := 0) hc 2 dX3_mapChr_55 rfl rfl ?_
      refine g_iconst (v := 4) hc dX3_mapChr_56 (by decide) ?_
      refine g_iload_n (i := 2) hc 0 dX3_mapChr_57 rfl rfl ?_
      refine g_iload_n (i := 2) hc 0 dX3_mapChr_58 rfl rfl ?_
      refine g_iconst (v := 1) hc dX3_mapChr_59 (by decide) ?_
      refine g_iadd hc dX3_mapChr_60 ?_
      refine g_iload_n (i := 2) hc 0 dX3_mapChr_61 rfl rfl ?_
      refine g_iconst (v := 2) hc dX3_mapChr_62 (by decide) ?_
      refine g_iadd hc dX3_mapChr_63 ?_
      refine g_iload_n (i := 2) hc 0 dX3_mapChr_64 rfl rfl ?_
      refine g_iconst (v := 3) hc dX3_mapChr_65 (by decide) ?_
      refine g_iadd hc dX3_mapChr_66 ?_
      refine g_callWV (C := RX3) (x := ⟨"GameConsole$Mmc1", "setFourChrBanks", "(IIIII)V"⟩) (owner := "GameConsole$Cartridge") hc 1 [.int 4, .int (4 * ((S.1 8) &&& 1)), .int ((4 * ((S.1 8) &&& 1)) + 1), .int ((4 * ((S.1 8) &&& 1)) + 2), .int ((4 * ((S.1 8) &&& 1)) + 3)] (fun l => c_X1_setFourChrBanks l false η 4 (4 * ((S.1 8) &&& 1)) ((4 * ((S.1 8) &&& 1)) + 1) ((4 * ((S.1 8) &&& 1)) + 2) ((4 * ((S.1 8) &&& 1)) + 3) S7) wtC_21 wtC_22 wtC_23 gu_X1_setFourChrBanks rfl ⟨rfl, rfl⟩ rfl ⟨Nat.le_of_ble_eq_true rfl, Nat.le_of_ble_eq_true rfl⟩ rfl rfl rfl (Nat.le_of_ble_eq_true rfl) dX3_mapChr_67 (fun r8 S8 e8 f8 => ?_)
      exact g_vret hc dX3_mapChr_70

abbrev rm_X3_storeRegister : Room := { frames := 2, cells := 0, slots := 0, locals := 47 }
def sp_X3_storeRegister (a0 : Int32) (a1 : Int32) (S : gSt) : Unit × gSt := (if (a1 &&& 128) = 0 then gL (sI S 2 ((S.1 2) ||| ((a1 &&& 1) <<< ((S.1 3) &&& (31 : Int32))))) (fun S1 => gL (sI S1 3 ((S1.1 3) + 1)) (fun S2 => (if (S2.1 3) = 5 then gB (sp_X3_setRegister ((a0 >>> ((13 : Int32) &&& (31 : Int32))) &&& 3) (S2.1 2) S2) (fun (_ : Unit) S3 => gB (sp_X3_forgetShifted S3) (fun (_ : Unit) S4 => gB (sp_X3_mapRom S4) (fun (_ : Unit) S5 => gB (sp_X3_mapChr S5) (fun (_ : Unit) S6 => ((), S6))))) else gB (sp_X3_mapRom S2) (fun (_ : Unit) S7 => gB (sp_X3_mapChr S7) (fun (_ : Unit) S8 => ((), S8)))))) else gB (sp_X3_forgetShifted S) (fun (_ : Unit) S9 => gL (sI S9 4 3) (fun S10 => gB (sp_X3_mapRom S10) (fun (_ : Unit) S11 => gB (sp_X3_mapChr S11) (fun (_ : Unit) S12 => ((), S12))))))
set_option maxRecDepth 100000 in
set_option maxHeartbeats 4000000 in
theorem c_X3_storeRegister (l : Launch) (η : gE) (a0 : Int32) (a1 : Int32) (S : gSt) : gMet l yX3_storeRegister cX3_storeRegister 3 none rm_X3_storeRegister (oC false η) [.ref (η.1 1), .int a0, .int a1] S (oV (sp_X3_storeRegister a0 a1 S).1) (sp_X3_storeRegister a0 a1 S).2 := by
  refine gMet_of (X := sp_X3_storeRegister a0 a1 S) (lv := [(0, .ref (η.1 1)), (1, .int a0), (2, .int a1)]) oV (zC_ok η) (by decide +kernel) (Nat.le_of_ble_eq_true rfl) rfl (fun κ hc => ?_)
  have hc : gC (oC false η) κ cX3_storeRegister 3 RX3 none rm_X3_storeRegister := hc
  unfold sp_X3_storeRegister
  refine g_iload_n (i := 2) hc 2 dX3_storeRegister_0 rfl rfl ?_
  refine g_sipush (v := 128) hc dX3_storeRegister_1 (by decide) ?_
  refine g_iand hc dX3_storeRegister_4 ?_
  refine g_ifeq (tgt := 20) hc dX3_storeRegister_5 rfl (fun c_5 => ?_) (fun c_5 => ?_)
  · refine g_aload_n (i := 0) hc 0 dX3_storeRegister_20 rfl rfl ?_
    refine g_dup hc dX3_storeRegister_21 rfl ?_
    refine gf_C_1_shifted_false hc wtC_4 dX3_storeRegister_22 ?_
    refine g_iload_n (i := 2) hc 2 dX3_storeRegister_25 rfl rfl ?_
    refine g_iconst (v := 1) hc dX3_storeRegister_26 (by decide) ?_
    refine g_iand hc dX3_storeRegister_27 ?_
    refine g_aload_n (i := 0) hc 0 dX3_storeRegister_28 rfl rfl ?_
    refine gf_C_1_count_false hc wtC_5 dX3_storeRegister_29 ?_
    refine g_ishl hc dX3_storeRegister_32 ?_
    refine g_ior hc dX3_storeRegister_33 ?_
    refine pf_C_1_shifted_false (v := ((S.1 2) ||| ((a1 &&& 1) <<< ((S.1 3) &&& (31 : Int32))))) hc wtC_4 dX3_storeRegister_34 (fun S1 f1 => ?_)
    refine g_aload_n (i := 0) hc 0 dX3_storeRegister_37 rfl rfl ?_
    refine g_dup hc dX3_storeRegister_38 rfl ?_
    refine gf_C_1_count_false hc wtC_5 dX3_storeRegister_39 ?_
    refine g_iconst (v := 1) hc dX3_storeRegister_42 (by decide) ?_
    refine g_iadd hc dX3_storeRegister_43 ?_
    refine pf_C_1_count_false (v := ((S1.1 3) + 1)) hc wtC_5 dX3_storeRegister_44 (fun S2 f2 => ?_)
    refine g_aload_n (i := 0) hc 0 dX3_storeRegister_47 rfl rfl ?_
    refine gf_C_1_count_false hc wtC_5 dX3_storeRegister_48 ?_
    refine g_iconst (v := 5) hc dX3_storeRegister_51 (by decide) ?_
    refine g_icmpne (tgt := 73) hc dX3_storeRegister_52 rfl (fun c_52 => ?_) (fun c_52 => ?_)
    · refine g_aload_n (i := 0) hc 0 dX3_storeRegister_55 rfl rfl ?_
      refine g_iload_n (i := 1) hc 1 dX3_storeRegister_56 rfl rfl ?_
      refine g_bipush (v := 13) hc dX3_storeRegister_57 (by decide) ?_
      refine g_ishr hc dX3_storeRegister_59 ?_
      refine g_iconst (v := 3) hc dX3_storeRegister_60 (by decide) ?_
      refine g_iand hc dX3_storeRegister_61 ?_
      refine g_aload_n (i := 0) hc 0 dX3_storeRegister_62 rfl rfl ?_
      refine gf_C_1_shifted_false hc wtC_4 dX3_storeRegister_63 ?_
      refine g_callVV hc 1 [.int ((a0 >>> ((13 : Int32) &&& (31 : Int32))) &&& 3), .int (S2.1 2)] (fun l => c_X3_setRegister l η ((a0 >>> ((13 : Int32) &&& (31 : Int32))) &&& 3) (S2.1 2) S2) wtC_28 ge_X3_setRegister rfl ⟨rfl, rfl⟩ ⟨Nat.le_of_ble_eq_true rfl, Nat.le_of_ble_eq_true rfl⟩ rfl rfl rfl (Nat.le_of_ble_eq_true rfl) dX3_storeRegister_66 (fun r3 S3 e3 f3 => ?_)
      refine g_aload_n (i := 0) hc 0 dX3_storeRegister_69 rfl rfl ?_
      refine g_callVV hc 1 [] (fun l => c_X3_forgetShifted l η S3) wtC_32 ge_X3_forgetShifted rfl ⟨rfl, rfl⟩ ⟨Nat.le_of_ble_eq_true rfl, Nat.le_of_ble_eq_true rfl⟩ rfl rfl rfl (Nat.le_of_ble_eq_true rfl) dX3_storeRegister_70 (fun r4 S4 e4 f4 => ?_)
      refine g_aload_n (i := 0) hc 0 dX3_storeRegister_73 rfl rfl ?_
      refine g_callVV hc 1 [] (fun l => c_X3_mapRom l η S4) wtC_36 ge_X3_mapRom rfl ⟨rfl, rfl⟩ ⟨Nat.le_of_ble_eq_true rfl, Nat.le_of_ble_eq_true rfl⟩ rfl rfl rfl (Nat.le_of_ble_eq_true rfl) dX3_storeRegister_74 (fun r5 S5 e5 f5 => ?_)
      refine g_aload_n (i := 0) hc 0 dX3_storeRegister_77 rfl rfl ?_
      refine g_callVV hc 1 [] (fun l => c_X3_mapChr l η S5) wtC_40 ge_X3_mapChr rfl ⟨rfl, rfl⟩ ⟨Nat.le_of_ble_eq_true rfl, Nat.le_of_ble_eq_true rfl⟩ rfl rfl rfl (Nat.le_of_ble_eq_true rfl) dX3_storeRegister_78 (fun r6 S6 e6 f6 => ?_)
      exact g_vret hc dX3_storeRegister_81
    · refine g_aload_n (i := 0) hc 0 dX3_storeRegister_73 rfl rfl ?_
      refine g_callVV hc 1 [] (fun l => c_X3_mapRom l η S2) wtC_36 ge_X3_mapRom rfl ⟨rfl, rfl⟩ ⟨Nat.le_of_ble_eq_true rfl, Nat.le_of_ble_eq_true rfl⟩ rfl rfl rfl (Nat.le_of_ble_eq_true rfl) dX3_storeRegister_74 (fun r7 S7 e7 f7 => ?_)
      refine g_aload_n (i := 0) hc 0 dX3_storeRegister_77 rfl rfl ?_
      refine g_callVV hc 1 [] (fun l => c_X3_mapChr l η S7) wtC_40 ge_X3_mapChr rfl ⟨rfl, rfl⟩ ⟨Nat.le_of_ble_eq_true rfl, Nat.le_of_ble_eq_true rfl⟩ rfl rfl rfl (Nat.le_of_ble_eq_true rfl) dX3_storeRegister_78 (fun r8 S8 e8 f8 => ?_)
      exact g_vret hc dX3_storeRegister_81
  · refine g_aload_n (i := 0) hc 0 dX3_storeRegister_8 rfl rfl ?_
    refine g_callVV hc 1 [] (fun l => c_X3_forgetShifted l η S) wtC_32 ge_X3_forgetShifted rfl ⟨rfl, rfl⟩ ⟨Nat.le_of_ble_eq_true rfl, Nat.le_of_ble_eq_true rfl⟩ rfl rfl rfl (Nat.le_of_ble_eq_true rfl) dX3_storeRegister_9 (fun r9 S9 e9 f9 => ?_)
    refine g_aload_n (i := 0) hc 0 dX3_storeRegister_12 rfl rfl ?_
    refine g_iconst (v := 3) hc dX3_storeRegister_13 (by decide) ?_
    refine pf_C_1_prgMode_false (v := 3) hc wtC_8 dX3_storeRegister_14 (fun S10 f10 => ?_)
    refine g_goto (tgt := 73) hc dX3_storeRegister_17 rfl ?_
    refine g_aload_n (i := 0) hc 0 dX3_storeRegister_73 rfl rfl ?_
    refine g_callVV hc 1 [] (fun l => c_X3_mapRom l η S10) wtC_36 ge_X3_mapRom rfl ⟨rfl, rfl⟩ ⟨Nat.le_of_ble_eq_true rfl, Nat.le_of_ble_eq_true rfl⟩ rfl rfl rfl (Nat.le_of_ble_eq_true rfl) dX3_storeRegister_74 (fun r11 S11 e11 f11 => ?_)
    refine g_aload_n (i := 0) hc 0 dX3_storeRegister_77 rfl rfl ?_
    refine g_callVV hc 1 [] (fun l => c_X3_mapChr l η S11) wtC_40 ge_X3_mapChr rfl ⟨rfl, rfl⟩ ⟨Nat.le_of_ble_eq_true rfl, Nat.le_of_ble_eq_true rfl⟩ rfl rfl rfl (Nat.le_of_ble_eq_true rfl) dX3_storeRegister_78 (fun r12 S12 e12 f12 => ?_)
    exact g_vret hc dX3_storeRegister_81

abbrev rm_X4_forgetShifted : Room := { frames := 0, cells := 0, slots := 0, locals := 0 }
def sp_X4_forgetShifted  (S : gSt) : Unit × gSt := ((), S)
set_option maxRecDepth 100000 in
set_option maxHeartbeats 4000000 in
theorem c_X4_forgetShifted (l : Launch) (η : gE)  (S : gSt) : gMet l yX4_forgetShifted cX4_forgetShifted 1 none rm_X4_forgetShifted (oC true η) [.ref (η.1 1)] S (oV (sp_X4_forgetShifted S).1) (sp_X4_forgetShifted S).2 := by
  refine gMet_of (X := sp_X4_forgetShifted S) (lv := [(0, .ref (η.1 1))]) oV (zC_ok η) (by decide +kernel) (Nat.le_of_ble_eq_true rfl) rfl (fun κ hc => ?_)
  have hc : gC (oC true η) κ cX4_forgetShifted 1 RX4 none rm_X4_forgetShifted := hc
  unfold sp_X4_forgetShifted
  exact g_vret hc dX4_forgetShifted_0

abbrev rm_X4_noteLine : Room := { frames := 0, cells := 0, slots := 0, locals := 0 }
def sp_X4_noteLine  (S : gSt) : Unit × gSt := (if (S.1 11) = 0 then gL (sI S 11 (S.1 10)) (fun S1 => (if (S1.1 11) = 0 then (if (bI (S1.2.1 1)) = 0 then ((), S1) else gL (sZ S1 0 true) (fun S2 => ((), S2))) else ((), S1))) else gL (sI S 11 ((S.1 11) - 1)) (fun S3 => (if (S3.1 11) = 0 then (if (bI (S3.2.1 1)) = 0 then ((), S3) else gL (sZ S3 0 true) (fun S4 => ((), S4))) else ((), S3))))
set_option maxRecDepth 100000 in
set_option maxHeartbeats 4000000 in
theorem c_X4_noteLine (l : Launch) (η : gE)  (S : gSt) : gMet l yX4_noteLine cX4_noteLine 1 none rm_X4_noteLine (oC true η) [.ref (η.1 1)] S (oV (sp_X4_noteLine S).1) (sp_X4_noteLine S).2 := by
  refine gMet_of (X := sp_X4_noteLine S) (lv := [(0, .ref (η.1 1))]) oV (zC_ok η) (by decide +kernel) (Nat.le_of_ble_eq_true rfl) rfl (fun κ hc => ?_)
  have hc : gC (oC true η) κ cX4_noteLine 1 RX4 none rm_X4_noteLine := hc
  unfold sp_X4_noteLine
  refine g_aload_n (i := 0) hc 0 dX4_noteLine_0 rfl rfl ?_
  refine g_aload_n (i := 0) hc 0 dX4_noteLine_1 rfl rfl ?_
  refine gf_C_1_counter_true hc wtC_41 dX4_noteLine_2 ?_
  refine g_ifne (tgt := 15) hc dX4_noteLine_5 rfl (fun c_5 => ?_) (fun c_5 => ?_)
  · refine g_aload_n (i := 0) hc 0 dX4_noteLine_8 rfl rfl ?_
    refine gf_C_1_latch_true hc wtC_42 dX4_noteLine_9 ?_
    refine g_goto (tgt := 21) hc dX4_noteLine_12 rfl ?_
    refine pf_C_1_counter_true (v := (S.1 10)) hc wtC_41 dX4_noteLine_21 (fun S1 f1 => ?_)
    refine g_aload_n (i := 0) hc 0 dX4_noteLine_24 rfl rfl ?_
    refine gf_C_1_counter_true hc wtC_41 dX4_noteLine_25 ?_
    refine g_ifne (tgt := 43) hc dX4_noteLine_28 rfl (fun c_28 => ?_) (fun c_28 => ?_)
    · refine g_aload_n (i := 0) hc 0 dX4_noteLine_31 rfl rfl ?_
      refine gf_C_1_interruptsOn_true hc wtC_43 dX4_noteLine_32 ?_
      refine g_ifeq (tgt := 43) hc dX4_noteLine_35 rfl (fun c_35 => ?_) (fun c_35 => ?_)
      · exact g_vret hc dX4_noteLine_43
      · refine g_aload_n (i := 0) hc 0 dX4_noteLine_38 rfl rfl ?_
        refine g_iconst (v := 1) hc dX4_noteLine_39 (by decide) ?_
        refine pf_C_1_irqLine_true_same (v := true) hc wtC_44 wtC_45 dX4_noteLine_40 (fun S2 f2 => ?_)
        exact g_vret hc dX4_noteLine_43
    · exact g_vret hc dX4_noteLine_43
  · refine g_aload_n (i := 0) hc 0 dX4_noteLine_15 rfl rfl ?_
    refine gf_C_1_counter_true hc wtC_41 dX4_noteLine_16 ?_
    refine g_iconst (v := 1) hc dX4_noteLine_19 (by decide) ?_
    refine g_isub hc dX4_noteLine_20 ?_
    refine pf_C_1_counter_true (v := ((S.1 11) - 1)) hc wtC_41 dX4_noteLine_21 (fun S3 f3 => ?_)
    refine g_aload_n (i := 0) hc 0 dX4_noteLine_24 rfl rfl ?_
    refine gf_C_1_counter_true hc wtC_41 dX4_noteLine_25 ?_
    refine g_ifne (tgt := 43) hc dX4_noteLine_28 rfl (fun c_28 => ?_) (fun c_28 => ?_)
    · refine g_aload_n (i := 0) hc 0 dX4_noteLine_31 rfl rfl ?_
      refine gf_C_1_interruptsOn_true hc wtC_43 dX4_noteLine_32 ?_
      refine g_ifeq (tgt := 43) hc dX4_noteLine_35 rfl (fun c_35 => ?_) (fun c_35 => ?_)
      · exact g_vret hc dX4_noteLine_43
      · refine g_aload_n (i := 0) hc 0 dX4_noteLine_38 rfl rfl ?_
        refine g_iconst (v := 1) hc dX4_noteLine_39 (by decide) ?_
        refine pf_C_1_irqLine_true_same (v := true) hc wtC_44 wtC_45 dX4_noteLine_40 (fun S4 f4 => ?_)
        exact g_vret hc dX4_noteLine_43
    · exact g_vret hc dX4_noteLine_43

abbrev rm_X4_lineCounter : Room := { frames := 0, cells := 0, slots := 0, locals := 0 }
def sp_X4_lineCounter  (S : gSt) : Int32 × gSt := ((S.1 11), S)
set_option maxRecDepth 100000 in
set_option maxHeartbeats 4000000 in
theorem c_X4_lineCounter (l : Launch) (η : gE)  (S : gSt) : gMet l yX4_lineCounter cX4_lineCounter 1 (some .int) rm_X4_lineCounter (oC true η) [.ref (η.1 1)] S (oI (sp_X4_lineCounter S).1) (sp_X4_lineCounter S).2 := by
  refine gMet_of (X := sp_X4_lineCounter S) (lv := [(0, .ref (η.1 1))]) oI (zC_ok η) (by decide +kernel) (Nat.le_of_ble_eq_true rfl) rfl (fun κ hc => ?_)
  have hc : gC (oC true η) κ cX4_lineCounter 1 RX4 (some .int) rm_X4_lineCounter := hc
  unfold sp_X4_lineCounter
  refine g_aload_n (i := 0) hc 0 dX4_lineCounter_0 rfl rfl ?_
  refine gf_C_1_counter_true hc wtC_41 dX4_lineCounter_1 ?_
  exact g_iret hc dX4_lineCounter_4

abbrev rm_X4_mapRom : Room := { frames := 1, cells := 0, slots := 0, locals := 24 }
def sp_X4_mapRom  (S : gSt) : Unit × gSt := (if ((S.1 9) &&& 64) = 0 then gB (sp_X1_setRomBanks true (aG S 19 6) (aG S 19 7) 6 7 S) (fun (_ : Unit) S1 => ((), S1)) else gB (sp_X1_setRomBanks true 6 (aG S 19 7) (aG S 19 6) 7 S) (fun (_ : Unit) S2 => ((), S2)))
set_option maxRecDepth 100000 in
set_option maxHeartbeats 4000000 in
theorem c_X4_mapRom (l : Launch) (η : gE)  (S : gSt) : gMet l yX4_mapRom cX4_mapRom 1 none rm_X4_mapRom (oC true η) [.ref (η.1 1)] S (oV (sp_X4_mapRom S).1) (sp_X4_mapRom S).2 := by
  refine gMet_of (X := sp_X4_mapRom S) (lv := [(0, .ref (η.1 1))]) oV (zC_ok η) (by decide +kernel) (Nat.le_of_ble_eq_true rfl) rfl (fun κ hc => ?_)
  have hc : gC (oC true η) κ cX4_mapRom 1 RX4 none rm_X4_mapRom := hc
  unfold sp_X4_mapRom
  refine g_aload_n (i := 0) hc 0 dX4_mapRom_0 rfl rfl ?_
  refine gf_C_1_select_true hc wtC_46 dX4_mapRom_1 ?_
  refine g_bipush (v := 64) hc dX4_mapRom_4 (by decide) ?_
  refine g_iand hc dX4_mapRom_6 ?_
  refine g_ifne (tgt := 35) hc dX4_mapRom_7 rfl (fun c_7 => ?_) (fun c_7 => ?_)
  · refine g_aload_n (i := 0) hc 0 dX4_mapRom_10 rfl rfl ?_
    refine g_aload_n (i := 0) hc 0 dX4_mapRom_11 rfl rfl ?_
    refine gf_C_1_registers_true hc wtC_47 dX4_mapRom_12 ?_
    refine g_bipush (v := 6) hc dX4_mapRom_15 (by decide) ?_
    refine al_C_19 hc (vp_in_iff.mpr (by decide)) dX4_mapRom_17 ?_
    refine g_aload_n (i := 0) hc 0 dX4_mapRom_18 rfl rfl ?_
    refine gf_C_1_registers_true hc wtC_47 dX4_mapRom_19 ?_
    refine g_bipush (v := 7) hc dX4_mapRom_22 (by decide) ?_
    refine al_C_19 hc (vp_in_iff.mpr (by decide)) dX4_mapRom_24 ?_
    refine g_bipush (v := 6) hc dX4_mapRom_25 (by decide) ?_
    refine g_bipush (v := 7) hc dX4_mapRom_27 (by decide) ?_
    refine g_callWV (C := RX4) (x := ⟨"GameConsole$Mmc3", "setRomBanks", "(IIII)V"⟩) (owner := "GameConsole$Cartridge") hc 1 [.int (aG S 19 6), .int (aG S 19 7), .int 6, .int 7] (fun l => c_X1_setRomBanks l true η (aG S 19 6) (aG S 19 7) 6 7 S) wtC_48 wtC_49 wtC_50 gu_X1_setRomBanks rfl ⟨rfl, rfl⟩ rfl ⟨Nat.le_of_ble_eq_true rfl, Nat.le_of_ble_eq_true rfl⟩ rfl rfl rfl (Nat.le_of_ble_eq_true rfl) dX4_mapRom_29 (fun r1 S1 e1 f1 => ?_)
    refine g_goto (tgt := 57) hc dX4_mapRom_32 rfl ?_
    exact g_vret hc dX4_mapRom_57
  · refine g_aload_n (i := 0) hc 0 dX4_mapRom_35 rfl rfl ?_
    refine g_bipush (v := 6) hc dX4_mapRom_36 (by decide) ?_
    refine g_aload_n (i := 0) hc 0 dX4_mapRom_38 rfl rfl ?_
    refine gf_C_1_registers_true hc wtC_47 dX4_mapRom_39 ?_
    refine g_bipush (v := 7) hc dX4_mapRom_42 (by decide) ?_
    refine al_C_19 hc (vp_in_iff.mpr (by decide)) dX4_mapRom_44 ?_
    refine g_aload_n (i := 0) hc 0 dX4_mapRom_45 rfl rfl ?_
    refine gf_C_1_registers_true hc wtC_47 dX4_mapRom_46 ?_
    refine g_bipush (v := 6) hc dX4_mapRom_49 (by decide) ?_
    refine al_C_19 hc (vp_in_iff.mpr (by decide)) dX4_mapRom_51 ?_
    refine g_bipush (v := 7) hc dX4_mapRom_52 (by decide) ?_
    refine g_callWV (C := RX4) (x := ⟨"GameConsole$Mmc3", "setRomBanks", "(IIII)V"⟩) (owner := "GameConsole$Cartridge") hc 1 [.int 6, .int (aG S 19 7), .int (aG S 19 6), .int 7] (fun l => c_X1_setRomBanks l true η 6 (aG S 19 7) (aG S 19 6) 7 S) wtC_48 wtC_49 wtC_50 gu_X1_setRomBanks rfl ⟨rfl, rfl⟩ rfl ⟨Nat.le_of_ble_eq_true rfl, Nat.le_of_ble_eq_true rfl⟩ rfl rfl rfl (Nat.le_of_ble_eq_true rfl) dX4_mapRom_54 (fun r2 S2 e2 f2 => ?_)
    exact g_vret hc dX4_mapRom_57

abbrev rm_X4_mapChr : Room := { frames := 1, cells := 0, slots := 0, locals := 25 }
def sp_X4_mapChr  (S : gSt) : Unit × gSt := (if ((S.1 9) &&& 128) = 0 then gB (sp_X1_setFourChrBanks true 0 ((aG S 19 0) &&& (-2)) ((aG S 19 0) ||| 1) ((aG S 19 1) &&& (-2)) ((aG S 19 1) ||| 1) S) (fun (_ : Unit) S1 => gB (sp_X1_setFourChrBanks true (4 - 0) (aG S1 19 2) (aG S1 19 3) (aG S1 19 4) (aG S1 19 5) S1) (fun (_ : Unit) S2 => ((), S2))) else gB (sp_X1_setFourChrBanks true 4 ((aG S 19 0) &&& (-2)) ((aG S 19 0) ||| 1) ((aG S 19 1) &&& (-2)) ((aG S 19 1) ||| 1) S) (fun (_ : Unit) S3 => gB (sp_X1_setFourChrBanks true (4 - 4) (aG S3 19 2) (aG S3 19 3) (aG S3 19 4) (aG S3 19 5) S3) (fun (_ : Unit) S4 => ((), S4))))
set_option maxRecDepth 100000 in
set_option maxHeartbeats 4000000 in
theorem c_X4_mapChr (l : Launch) (η : gE)  (S : gSt) : gMet l yX4_mapChr cX4_mapChr 4 none rm_X4_mapChr (oC true η) [.ref (η.1 1)] S (oV (sp_X4_mapChr S).1) (sp_X4_mapChr S).2 := by
  refine gMet_of (X := sp_X4_mapChr S) (lv := [(0, .ref (η.1 1))]) oV (zC_ok η) (by decide +kernel) (Nat.le_of_ble_eq_true rfl) rfl (fun κ hc => ?_)
  have hc : gC (oC true η) κ cX4_mapChr 4 RX4 none rm_X4_mapChr := hc
  unfold sp_X4_mapChr
  refine g_aload_n (i := 0) hc 0 dX4_mapChr_0 rfl rfl ?_
  refine gf_C_1_select_true hc wtC_46 dX4_mapChr_1 ?_
  refine g_sipush (v := 128) hc dX4_mapChr_4 (by decide) ?_
  refine g_iand hc dX4_mapChr_7 ?_
  refine g_ifne (tgt := 15) hc dX4_mapChr_8 rfl (fun c_8 => ?_) (fun c_8 => ?_)
  · refine g_iconst (v := 0) hc dX4_mapChr_11 (by decide) ?_
    refine g_goto (tgt := 16) hc dX4_mapChr_12 rfl ?_
    refine g_istore_n (i := 1) (lv' := [(1, .int 0), (0, .ref (η.1 1))]) hc dX4_mapChr_16 rfl (by decide) rfl ?_
    refine g_aload_n (i := 0) hc 1 dX4_mapChr_17 rfl rfl ?_
    refine gf_C_1_registers_true hc wtC_47 dX4_mapChr_18 ?_
    refine g_iconst (v := 0) hc dX4_mapChr_21 (by decide) ?_
    refine al_C_19 hc (vp_in_iff.mpr (by decide)) dX4_mapChr_22 ?_
    refine g_istore_n (i := 2) (lv' := [(2, .int (aG S 19 0)), (1, .int 0), (0, .ref (η.1 1))]) hc dX4_mapChr_23 rfl (by decide) rfl ?_
    refine g_aload_n (i := 0) hc 2 dX4_mapChr_24 rfl rfl ?_
    refine gf_C_1_registers_true hc wtC_47 dX4_mapChr_25 ?_
    refine g_iconst (v := 1) hc dX4_mapChr_28 (by decide) ?_
    refine al_C_19 hc (vp_in_iff.mpr (by decide)) dX4_mapChr_29 ?_
    refine g_istore_n (i := 3) (lv' := [(3, .int (aG S 19 1)), (2, .int (aG S 19 0)), (1, .int 0), (0, .ref (η.1 1))]) hc dX4_mapChr_30 rfl (by decide) rfl ?_
    refine g_aload_n (i := 0) hc 3 dX4_mapChr_31 rfl rfl ?_
    refine g_iload_n (i := 1) hc 2 dX4_mapChr_32 rfl rfl ?_
    refine g_iload_n (i := 2) hc 1 dX4_mapChr_33 rfl rfl ?_
    refine g_bipush (v := (-2)) hc dX4_mapChr_34 (by decide) ?_
    refine g_iand hc dX4_mapChr_36 ?_
    refine g_iload_n (i := 2) hc 1 dX4_mapChr_37 rfl rfl ?_
    refine g_iconst (v := 1) hc dX4_mapChr_38 (by decide) ?_
    refine g_ior hc dX4_mapChr_39 ?_
    refine g_iload_n (i := 3) hc 0 dX4_mapChr_40 rfl rfl ?_
    refine g_bipush (v := (-2)) hc dX4_mapChr_41 (by decide) ?_
    refine g_iand hc dX4_mapChr_43 ?_
    refine g_iload_n (i := 3) hc 0 dX4_mapChr_44 rfl rfl ?_
    refine g_iconst (v := 1) hc dX4_mapChr_45 (by decide) ?_
    refine g_ior hc dX4_mapChr_46 ?_
    refine g_callWV (C := RX4) (x := ⟨"GameConsole$Mmc3", "setFourChrBanks", "(IIIII)V"⟩) (owner := "GameConsole$Cartridge") hc 1 [.int 0, .int ((aG S 19 0) &&& (-2)), .int ((aG S 19 0) ||| 1), .int ((aG S 19 1) &&& (-2)), .int ((aG S 19 1) ||| 1)] (fun l => c_X1_setFourChrBanks l true η 0 ((aG S 19 0) &&& (-2)) ((aG S 19 0) ||| 1) ((aG S 19 1) &&& (-2)) ((aG S 19 1) ||| 1) S) wtC_51 wtC_52 wtC_53 gu_X1_setFourChrBanks rfl ⟨rfl, rfl⟩ rfl ⟨Nat.le_of_ble_eq_true rfl, Nat.le_of_ble_eq_true rfl⟩ rfl rfl rfl (Nat.le_of_ble_eq_true rfl) dX4_mapChr_47 (fun r1 S1 e1 f1 => ?_)
    refine g_aload_n (i := 0) hc 3 dX4_mapChr_50 rfl rfl ?_
    refine g_iconst (v := 4) hc dX4_mapChr_51 (by decide) ?_
    refine g_iload_n (i := 1) hc 2 dX4_mapChr_52 rfl rfl ?_
    refine g_isub hc dX4_mapChr_53 ?_
    refine g_aload_n (i := 0) hc 3 dX4_mapChr_54 rfl rfl ?_
    refine gf_C_1_registers_true hc wtC_47 dX4_mapChr_55 ?_
    refine g_iconst (v := 2) hc dX4_mapChr_58 (by decide) ?_
    refine al_C_19 hc (vp_in_iff.mpr (by decide)) dX4_mapChr_59 ?_
    refine g_aload_n (i := 0) hc 3 dX4_mapChr_60 rfl rfl ?_
    refine gf_C_1_registers_true hc wtC_47 dX4_mapChr_61 ?_
    refine g_iconst (v := 3) hc dX4_mapChr_64 (by decide) ?_
    refine al_C_19 hc (vp_in_iff.mpr (by decide)) dX4_mapChr_65 ?_
    refine g_aload_n (i := 0) hc 3 dX4_mapChr_66 rfl rfl ?_
    refine gf_C_1_registers_true hc wtC_47 dX4_mapChr_67 ?_
    refine g_iconst (v := 4) hc dX4_mapChr_70 (by decide) ?_
    refine al_C_19 hc (vp_in_iff.mpr (by decide)) dX4_mapChr_71 ?_
    refine g_aload_n (i := 0) hc 3 dX4_mapChr_72 rfl rfl ?_
    refine gf_C_1_registers_true hc wtC_47 dX4_mapChr_73 ?_
    refine g_iconst (v := 5) hc dX4_mapChr_76 (by decide) ?_
    refine al_C_19 hc (vp_in_iff.mpr (by decide)) dX4_mapChr_77 ?_
    refine g_callWV (C := RX4) (x := ⟨"GameConsole$Mmc3", "setFourChrBanks", "(IIIII)V"⟩) (owner := "GameConsole$Cartridge") hc 1 [.int (4 - 0), .int (aG S1 19 2), .int (aG S1 19 3), .int (aG S1 19 4), .int (aG S1 19 5)] (fun l => c_X1_setFourChrBanks l true η (4 - 0) (aG S1 19 2) (aG S1 19 3) (aG S1 19 4) (aG S1 19 5) S1) wtC_51 wtC_52 wtC_53 gu_X1_setFourChrBanks rfl ⟨rfl, rfl⟩ rfl ⟨Nat.le_of_ble_eq_true rfl, Nat.le_of_ble_eq_true rfl⟩ rfl rfl rfl (Nat.le_of_ble_eq_true rfl) dX4_mapChr_78 (fun r2 S2 e2 f2 => ?_)
    exact g_vret hc dX4_mapChr_81
  · refine g_iconst (v := 4) hc dX4_mapChr_15 (by decide) ?_
    refine g_istore_n (i := 1) (lv' := [(1, .int 4), (0, .ref (η.1 1))]) hc dX4_mapChr_16 rfl (by decide) rfl ?_
    refine g_aload_n (i := 0) hc 1 dX4_mapChr_17 rfl rfl ?_
    refine gf_C_1_registers_true hc wtC_47 dX4_mapChr_18 ?_
    refine g_iconst (v := 0) hc dX4_mapChr_21 (by decide) ?_
    refine al_C_19 hc (vp_in_iff.mpr (by decide)) dX4_mapChr_22 ?_
    refine g_istore_n (i := 2) (lv' := [(2, .int (aG S 19 0)), (1, .int 4), (0, .ref (η.1 1))]) hc dX4_mapChr_23 rfl (by decide) rfl ?_
    refine g_aload_n (i := 0) hc 2 dX4_mapChr_24 rfl rfl ?_
    refine gf_C_1_registers_true hc wtC_47 dX4_mapChr_25 ?_
    refine g_iconst (v := 1) hc dX4_mapChr_28 (by decide) ?_
    refine al_C_19 hc (vp_in_iff.mpr (by decide)) dX4_mapChr_29 ?_
    refine g_istore_n (i := 3) (lv' := [(3, .int (aG S 19 1)), (2, .int (aG S 19 0)), (1, .int 4), (0, .ref (η.1 1))]) hc dX4_mapChr_30 rfl (by decide) rfl ?_
    refine g_aload_n (i := 0) hc 3 dX4_mapChr_31 rfl rfl ?_
    refine g_iload_n (i := 1) hc 2 dX4_mapChr_32 rfl rfl ?_
    refine g_iload_n (i := 2) hc 1 dX4_mapChr_33 rfl rfl ?_
    refine g_bipush (v := (-2)) hc dX4_mapChr_34 (by decide) ?_
    refine g_iand hc dX4_mapChr_36 ?_
    refine g_iload_n (i := 2) hc 1 dX4_mapChr_37 rfl rfl ?_
    refine g_iconst (v := 1) hc dX4_mapChr_38 (by decide) ?_
    refine g_ior hc dX4_mapChr_39 ?_
    refine g_iload_n (i := 3) hc 0 dX4_mapChr_40 rfl rfl ?_
    refine g_bipush (v := (-2)) hc dX4_mapChr_41 (by decide) ?_
    refine g_iand hc dX4_mapChr_43 ?_
    refine g_iload_n (i := 3) hc 0 dX4_mapChr_44 rfl rfl ?_
    refine g_iconst (v := 1) hc dX4_mapChr_45 (by decide) ?_
    refine g_ior hc dX4_mapChr_46 ?_
    refine g_callWV (C := RX4) (x := ⟨"GameConsole$Mmc3", "setFourChrBanks", "(IIIII)V"⟩) (owner := "GameConsole$Cartridge") hc 1 [.int 4, .int ((aG S 19 0) &&& (-2)), .int ((aG S 19 0) ||| 1), .int ((aG S 19 1) &&& (-2)), .int ((aG S 19 1) ||| 1)] (fun l => c_X1_setFourChrBanks l true η 4 ((aG S 19 0) &&& (-2)) ((aG S 19 0) ||| 1) ((aG S 19 1) &&& (-2)) ((aG S 19 1) ||| 1) S) wtC_51 wtC_52 wtC_53 gu_X1_setFourChrBanks rfl ⟨rfl, rfl⟩ rfl ⟨Nat.le_of_ble_eq_true rfl, Nat.le_of_ble_eq_true rfl⟩ rfl rfl rfl (Nat.le_of_ble_eq_true rfl) dX4_mapChr_47 (fun r3 S3 e3 f3 => ?_)
    refine g_aload_n (i := 0) hc 3 dX4_mapChr_50 rfl rfl ?_
    refine g_iconst (v := 4) hc dX4_mapChr_51 (by decide) ?_
    refine g_iload_n (i := 1) hc 2 dX4_mapChr_52 rfl rfl ?_
    refine g_isub hc dX4_mapChr_53 ?_
    refine g_aload_n (i := 0) hc 3 dX4_mapChr_54 rfl rfl ?_
    refine gf_C_1_registers_true hc wtC_47 dX4_mapChr_55 ?_
    refine g_iconst (v := 2) hc dX4_mapChr_58 (by decide) ?_
    refine al_C_19 hc (vp_in_iff.mpr (by decide)) dX4_mapChr_59 ?_
    refine g_aload_n (i := 0) hc 3 dX4_mapChr_60 rfl rfl ?_
    refine gf_C_1_registers_true hc wtC_47 dX4_mapChr_61 ?_
    refine g_iconst (v := 3) hc dX4_mapChr_64 (by decide) ?_
    refine al_C_19 hc (vp_in_iff.mpr (by decide)) dX4_mapChr_65 ?_
    refine g_aload_n (i := 0) hc 3 dX4_mapChr_66 rfl rfl ?_
    refine gf_C_1_registers_true hc wtC_47 dX4_mapChr_67 ?_
    refine g_iconst (v := 4) hc dX4_mapChr_70 (by decide) ?_
    refine al_C_19 hc (vp_in_iff.mpr (by decide)) dX4_mapChr_71 ?_
    refine g_aload_n (i := 0) hc 3 dX4_mapChr_72 rfl rfl ?_
    refine gf_C_1_registers_true hc wtC_47 dX4_mapChr_73 ?_
    refine g_iconst (v := 5) hc dX4_mapChr_76 (by decide) ?_
    refine al_C_19 hc (vp_in_iff.mpr (by decide)) dX4_mapChr_77 ?_
    refine g_callWV (C := RX4) (x := ⟨"GameConsole$Mmc3", "setFourChrBanks", "(IIIII)V"⟩) (owner := "GameConsole$Cartridge") hc 1 [.int (4 - 4), .int (aG S3 19 2), .int (aG S3 19 3), .int (aG S3 19 4), .int (aG S3 19 5)] (fun l => c_X1_setFourChrBanks l true η (4 - 4) (aG S3 19 2) (aG S3 19 3) (aG S3 19 4) (aG S3 19 5) S3) wtC_51 wtC_52 wtC_53 gu_X1_setFourChrBanks rfl ⟨rfl, rfl⟩ rfl ⟨Nat.le_of_ble_eq_true rfl, Nat.le_of_ble_eq_true rfl⟩ rfl rfl rfl (Nat.le_of_ble_eq_true rfl) dX4_mapChr_78 (fun r4 S4 e4 f4 => ?_)
    exact g_vret hc dX4_mapChr_81

abbrev rm_X4_storeRegister : Room := { frames := 2, cells := 0, slots := 0, locals := 48 }
def sp_X4_storeRegister (a0 : Int32) (a1 : Int32) (S : gSt) : Unit × gSt := (if (((a0 >>> ((12 : Int32) &&& (31 : Int32))) &&& 6) ||| (a0 &&& 1)) = 0 then gL (sI S 9 a1) (fun S1 => gB (sp_X4_mapRom S1) (fun (_ : Unit) S2 => gB (sp_X4_mapChr S2) (fun (_ : Unit) S3 => ((), S3)))) else (if (((a0 >>> ((12 : Int32) &&& (31 : Int32))) &&& 6) ||| (a0 &&& 1)) = 1 then gL (aP S 19 ((S.1 9) &&& 7) a1) (fun S4 => gB (sp_X4_mapRom S4) (fun (_ : Unit) S5 => gB (sp_X4_mapChr S5) (fun (_ : Unit) S6 => ((), S6)))) else (if (((a0 >>> ((12 : Int32) &&& (31 : Int32))) &&& 6) ||| (a0 &&& 1)) = 2 then gL (sI S 1 (2 ||| (a1 &&& 1))) (fun S7 => gB (sp_X4_mapRom S7) (fun (_ : Unit) S8 => gB (sp_X4_mapChr S8) (fun (_ : Unit) S9 => ((), S9)))) else (if (((a0 >>> ((12 : Int32) &&& (31 : Int32))) &&& 6) ||| (a0 &&& 1)) = 3 then gB (sp_X4_mapRom S) (fun (_ : Unit) S10 => gB (sp_X4_mapChr S10) (fun (_ : Unit) S11 => ((), S11))) else (if (((a0 >>> ((12 : Int32) &&& (31 : Int32))) &&& 6) ||| (a0 &&& 1)) = 4 then gL (sI S 10 a1) (fun S12 => gB (sp_X4_mapRom S12) (fun (_ : Unit) S13 => gB (sp_X4_mapChr S13) (fun (_ : Unit) S14 => ((), S14)))) else (if (((a0 >>> ((12 : Int32) &&& (31 : Int32))) &&& 6) ||| (a0 &&& 1)) = 5 then gL (sI S 11 0) (fun S15 => gB (sp_X4_mapRom S15) (fun (_ : Unit) S16 => gB (sp_X4_mapChr S16) (fun (_ : Unit) S17 => ((), S17)))) else (if (((a0 >>> ((12 : Int32) &&& (31 : Int32))) &&& 6) ||| (a0 &&& 1)) = 6 then gL (sZ S 1 false) (fun S18 => gL (sZ S18 0 false) (fun S19 => gB (sp_X4_mapRom S19) (fun (_ : Unit) S20 => gB (sp_X4_mapChr S20) (fun (_ : Unit) S21 => ((), S21))))) else (if (((a0 >>> ((12 : Int32) &&& (31 : Int32))) &&& 6) ||| (a0 &&& 1)) = 7 then gL (sZ S 1 true) (fun S22 => gB (sp_X4_mapRom S22) (fun (_ : Unit) S23 => gB (sp_X4_mapChr S23) (fun (_ : Unit) S24 => ((), S24)))) else gB (sp_X4_mapRom S) (fun (_ : Unit) S25 => gB (sp_X4_mapChr S25) (fun (_ : Unit) S26 => ((), S26)))))))))))
set_option maxRecDepth 100000 in
set_option maxHeartbeats 4000000 in
theorem c_X4_storeRegister (l : Launch) (η : gE) (a0 : Int32) (a1 : Int32) (S : gSt) : gMet l yX4_storeRegister cX4_storeRegister 3 none rm_X4_storeRegister (oC true η) [.ref (η.1 1), .int a0, .int a1] S (oV (sp_X4_storeRegister a0 a1 S).1) (sp_X4_storeRegister a0 a1 S).2 := by
  refine gMet_of (X := sp_X4_storeRegister a0 a1 S) (lv := [(0, .ref (η.1 1)), (1, .int a0), (2, .int a1)]) oV (zC_ok η) (by decide +kernel) (Nat.le_of_ble_eq_true rfl) rfl (fun κ hc => ?_)
  have hc : gC (oC true η) κ cX4_storeRegister 3 RX4 none rm_X4_storeRegister := hc
  unfold sp_X4_storeRegister
  refine g_iload_n (i := 1) hc 1 dX4_storeRegister_0 rfl rfl ?_
  refine g_bipush (v := 12) hc dX4_storeRegister_1 (by decide) ?_
  refine g_ishr hc dX4_storeRegister_3 ?_
  refine g_bipush (v := 6) hc dX4_storeRegister_4 (by decide) ?_
  refine g_iand hc dX4_storeRegister_6 ?_
  refine g_iload_n (i := 1) hc 1 dX4_storeRegister_7 rfl rfl ?_
  refine g_iconst (v := 1) hc dX4_storeRegister_8 (by decide) ?_
  refine g_iand hc dX4_storeRegister_9 ?_
  refine g_ior hc dX4_storeRegister_10 ?_
  refine g_tsw (tgt := 56) hc 0 dX4_storeRegister_11 ⟨by decide, by decide, rfl⟩ rfl (fun c_11_0 => ?_) (fun c_11_0 => ?_)
  · refine g_aload_n (i := 0) hc 0 dX4_storeRegister_56 rfl rfl ?_
    refine g_iload_n (i := 2) hc 2 dX4_storeRegister_57 rfl rfl ?_
    refine pf_C_1_select_true (v := a1) hc wtC_46 dX4_storeRegister_58 (fun S1 f1 => ?_)
    refine g_goto (tgt := 129) hc dX4_storeRegister_61 rfl ?_
    refine g_aload_n (i := 0) hc 0 dX4_storeRegister_129 rfl rfl ?_
    refine g_callVV hc 1 [] (fun l => c_X4_mapRom l η S1) wtC_58 ge_X4_mapRom rfl ⟨rfl, rfl⟩ ⟨Nat.le_of_ble_eq_true rfl, Nat.le_of_ble_eq_true rfl⟩ rfl rfl rfl (Nat.le_of_ble_eq_true rfl) dX4_storeRegister_130 (fun r2 S2 e2 f2 => ?_)
    refine g_aload_n (i := 0) hc 0 dX4_storeRegister_133 rfl rfl ?_
    refine g_callVV hc 1 [] (fun l => c_X4_mapChr l η S2) wtC_62 ge_X4_mapChr rfl ⟨rfl, rfl⟩ ⟨Nat.le_of_ble_eq_true rfl, Nat.le_of_ble_eq_true rfl⟩ rfl rfl rfl (Nat.le_of_ble_eq_true rfl) dX4_storeRegister_134 (fun r3 S3 e3 f3 => ?_)
    exact g_vret hc dX4_storeRegister_137
  refine g_tsw (tgt := 64) hc 1 dX4_storeRegister_11 ⟨by decide, by decide, rfl⟩ rfl (fun c_11_1 => ?_) (fun c_11_1 => ?_)
  · refine g_aload_n (i := 0) hc 0 dX4_storeRegister_64 rfl rfl ?_
    refine gf_C_1_registers_true hc wtC_47 dX4_storeRegister_65 ?_
    refine g_aload_n (i := 0) hc 0 dX4_storeRegister_68 rfl rfl ?_
    refine gf_C_1_select_true hc wtC_46 dX4_storeRegister_69 ?_
    refine g_bipush (v := 7) hc dX4_storeRegister_72 (by decide) ?_
    refine g_iand hc dX4_storeRegister_74 ?_
    refine g_iload_n (i := 2) hc 2 dX4_storeRegister_75 rfl rfl ?_
    refine as_C_19 hc (pk_andIn _ 3 (by decide) (by decide)) dX4_storeRegister_76 (fun S4 f4 => ?_)
    refine g_goto (tgt := 129) hc dX4_storeRegister_77 rfl ?_
    refine g_aload_n (i := 0) hc 0 dX4_storeRegister_129 rfl rfl ?_
    refine g_callVV hc 1 [] (fun l => c_X4_mapRom l η S4) wtC_58 ge_X4_mapRom rfl ⟨rfl, rfl⟩ ⟨Nat.le_of_ble_eq_true rfl, Nat.le_of_ble_eq_true rfl⟩ rfl rfl rfl (Nat.le_of_ble_eq_true rfl) dX4_storeRegister_130 (fun r5 S5 e5 f5 => ?_)
    refine g_aload_n (i := 0) hc 0 dX4_storeRegister_133 rfl rfl ?_
    refine g_callVV hc 1 [] (fun l => c_X4_mapChr l η S5) wtC_62 ge_X4_mapChr rfl ⟨rfl, rfl⟩ ⟨Nat.le_of_ble_eq_true rfl, Nat.le_of_ble_eq_true rfl⟩ rfl rfl rfl (Nat.le_of_ble_eq_true rfl) dX4_storeRegister_134 (fun r6 S6 e6 f6 => ?_)
    exact g_vret hc dX4_storeRegister_137
  refine g_tsw (tgt := 80) hc 2 dX4_storeRegister_11 ⟨by decide, by decide, rfl⟩ rfl (fun c_11_2 => ?_) (fun c_11_2 => ?_)
  · refine g_aload_n (i := 0) hc 0 dX4_storeRegister_80 rfl rfl ?_
    refine g_iconst (v := 2) hc dX4_storeRegister_81 (by decide) ?_
    refine g_iload_n (i := 2) hc 2 dX4_storeRegister_82 rfl rfl ?_
    refine g_iconst (v := 1) hc dX4_storeRegister_83 (by decide) ?_
    refine g_iand hc dX4_storeRegister_84 ?_
    refine g_ior hc dX4_storeRegister_85 ?_
    refine pf_C_1_mirroring_true_same (v := (2 ||| (a1 &&& 1))) hc wtC_63 wtC_64 dX4_storeRegister_86 (fun S7 f7 => ?_)
    refine g_goto (tgt := 129) hc dX4_storeRegister_89 rfl ?_
    refine g_aload_n (i := 0) hc 0 dX4_storeRegister_129 rfl rfl ?_
    refine g_callVV hc 1 [] (fun l => c_X4_mapRom l η S7) wtC_58 ge_X4_mapRom rfl ⟨rfl, rfl⟩ ⟨Nat.le_of_ble_eq_true rfl, Nat.le_of_ble_eq_true rfl⟩ rfl rfl rfl (Nat.le_of_ble_eq_true rfl) dX4_storeRegister_130 (fun r8 S8 e8 f8 => ?_)
    refine g_aload_n (i := 0) hc 0 dX4_storeRegister_133 rfl rfl ?_
    refine g_callVV hc 1 [] (fun l => c_X4_mapChr l η S8) wtC_62 ge_X4_mapChr rfl ⟨rfl, rfl⟩ ⟨Nat.le_of_ble_eq_true rfl, Nat.le_of_ble_eq_true rfl⟩ rfl rfl rfl (Nat.le_of_ble_eq_true rfl) dX4_storeRegister_134 (fun r9 S9 e9 f9 => ?_)
    exact g_vret hc dX4_storeRegister_137
  refine g_tsw (tgt := 129) hc 3 dX4_storeRegister_11 ⟨by decide, by decide, rfl⟩ rfl (fun c_11_3 => ?_) (fun c_11_3 => ?_)
  · refine g_aload_n (i := 0) hc 0 dX4_storeRegister_129 rfl rfl ?_
    refine g_callVV hc 1 [] (fun l => c_X4_mapRom l η S) wtC_58 ge_X4_mapRom rfl ⟨rfl, rfl⟩ ⟨Nat.le_of_ble_eq_true rfl, Nat.le_of_ble_eq_true rfl⟩ rfl rfl rfl (Nat.le_of_ble_eq_true rfl) dX4_storeRegister_130 (fun r10 S10 e10 f10 => ?_)
    refine g_aload_n (i := 0) hc 0 dX4_storeRegister_133 rfl rfl ?_
    refine g_callVV hc 1 [] (fun l => c_X4_mapChr l η S10) wtC_62 ge_X4_mapChr rfl ⟨rfl, rfl⟩ ⟨Nat.le_of_ble_eq_true rfl, Nat.le_of_ble_eq_true rfl⟩ rfl rfl rfl (Nat.le_of_ble_eq_true rfl) dX4_storeRegister_134 (fun r11 S11 e11 f11 => ?_)
    exact g_vret hc dX4_storeRegister_137
  refine g_tsw (tgt := 92) hc 4 dX4_storeRegister_11 ⟨by decide, by decide, rfl⟩ rfl (fun c_11_4 => ?_) (fun c_11_4 => ?_)
  · refine g_aload_n (i := 0) hc 0 dX4_storeRegister_92 rfl rfl ?_
    refine g_iload_n (i := 2) hc 2 dX4_storeRegister_93 rfl rfl ?_
    refine pf_C_1_latch_true (v := a1) hc wtC_42 dX4_storeRegister_94 (fun S12 f12 => ?_)
    refine g_goto (tgt := 129) hc dX4_storeRegister_97 rfl ?_
    refine g_aload_n (i := 0) hc 0 dX4_storeRegister_129 rfl rfl ?_
    refine g_callVV hc 1 [] (fun l => c_X4_mapRom l η S12) wtC_58 ge_X4_mapRom rfl ⟨rfl, rfl⟩ ⟨Nat.le_of_ble_eq_true rfl, Nat.le_of_ble_eq_true rfl⟩ rfl rfl rfl (Nat.le_of_ble_eq_true rfl) dX4_storeRegister_130 (fun r13 S13 e13 f13 => ?_)
    refine g_aload_n (i := 0) hc 0 dX4_storeRegister_133 rfl rfl ?_
    refine g_callVV hc 1 [] (fun l => c_X4_mapChr l η S13) wtC_62 ge_X4_mapChr rfl ⟨rfl, rfl⟩ ⟨Nat.le_of_ble_eq_true rfl, Nat.le_of_ble_eq_true rfl⟩ rfl rfl rfl (Nat.le_of_ble_eq_true rfl) dX4_storeRegister_134 (fun r14 S14 e14 f14 => ?_)
    exact g_vret hc dX4_storeRegister_137
  refine g_tsw (tgt := 100) hc 5 dX4_storeRegister_11 ⟨by decide, by decide, rfl⟩ rfl (fun c_11_5 => ?_) (fun c_11_5 => ?_)
  · refine g_aload_n (i := 0) hc 0 dX4_storeRegister_100 rfl rfl ?_
    refine g_iconst (v := 0) hc dX4_storeRegister_101 (by decide) ?_
    refine pf_C_1_counter_true (v := 0) hc wtC_41 dX4_storeRegister_102 (fun S15 f15 => ?_)
    refine g_goto (tgt := 129) hc dX4_storeRegister_105 rfl ?_
    refine g_aload_n (i := 0) hc 0 dX4_storeRegister_129 rfl rfl ?_
    refine g_callVV hc 1 [] (fun l => c_X4_mapRom l η S15) wtC_58 ge_X4_mapRom rfl ⟨rfl, rfl⟩ ⟨Nat.le_of_ble_eq_true rfl, Nat.le_of_ble_eq_true rfl⟩ rfl rfl rfl (Nat.le_of_ble_eq_true rfl) dX4_storeRegister_130 (fun r16 S16 e16 f16 => ?_)
    refine g_aload_n (i := 0) hc 0 dX4_storeRegister_133 rfl rfl ?_
    refine g_callVV hc 1 [] (fun l => c_X4_mapChr l η S16) wtC_62 ge_X4_mapChr rfl ⟨rfl, rfl⟩ ⟨Nat.le_of_ble_eq_true rfl, Nat.le_of_ble_eq_true rfl⟩ rfl rfl rfl (Nat.le_of_ble_eq_true rfl) dX4_storeRegister_134 (fun r17 S17 e17 f17 => ?_)
    exact g_vret hc dX4_storeRegister_137
  refine g_tsw (tgt := 108) hc 6 dX4_storeRegister_11 ⟨by decide, by decide, rfl⟩ rfl (fun c_11_6 => ?_) (fun c_11_6 => ?_)
  · refine g_aload_n (i := 0) hc 0 dX4_storeRegister_108 rfl rfl ?_
    refine g_iconst (v := 0) hc dX4_storeRegister_109 (by decide) ?_
    refine pf_C_1_interruptsOn_true (v := false) hc wtC_43 dX4_storeRegister_110 (fun S18 f18 => ?_)
    refine g_aload_n (i := 0) hc 0 dX4_storeRegister_113 rfl rfl ?_
    refine g_iconst (v := 0) hc dX4_storeRegister_114 (by decide) ?_
    refine pf_C_1_irqLine_true_same (v := false) hc wtC_44 wtC_45 dX4_storeRegister_115 (fun S19 f19 => ?_)
    refine g_goto (tgt := 129) hc dX4_storeRegister_118 rfl ?_
    refine g_aload_n (i := 0) hc 0 dX4_storeRegister_129 rfl rfl ?_
    refine g_callVV hc 1 [] (fun l => c_X4_mapRom l η S19) wtC_58 ge_X4_mapRom rfl ⟨rfl, rfl⟩ ⟨Nat.le_of_ble_eq_true rfl, Nat.le_of_ble_eq_true rfl⟩ rfl rfl rfl (Nat.le_of_ble_eq_true rfl) dX4_storeRegister_130 (fun r20 S20 e20 f20 => ?_)
    refine g_aload_n (i := 0) hc 0 dX4_storeRegister_133 rfl rfl ?_
    refine g_callVV hc 1 [] (fun l => c_X4_mapChr l η S20) wtC_62 ge_X4_mapChr rfl ⟨rfl, rfl⟩ ⟨Nat.le_of_ble_eq_true rfl, Nat.le_of_ble_eq_true rfl⟩ rfl rfl rfl (Nat.le_of_ble_eq_true rfl) dX4_storeRegister_134 (fun r21 S21 e21 f21 => ?_)
    exact g_vret hc dX4_storeRegister_137
  refine g_tsw (tgt := 121) hc 7 dX4_storeRegister_11 ⟨by decide, by decide, rfl⟩ rfl (fun c_11_7 => ?_) (fun c_11_7 => ?_)
  · refine g_aload_n (i := 0) hc 0 dX4_storeRegister_121 rfl rfl ?_
    refine g_iconst (v := 1) hc dX4_storeRegister_122 (by decide) ?_
    refine pf_C_1_interruptsOn_true (v := true) hc wtC_43 dX4_storeRegister_123 (fun S22 f22 => ?_)
    refine g_goto (tgt := 129) hc dX4_storeRegister_126 rfl ?_
    refine g_aload_n (i := 0) hc 0 dX4_storeRegister_129 rfl rfl ?_
    refine g_callVV hc 1 [] (fun l => c_X4_mapRom l η S22) wtC_58 ge_X4_mapRom rfl ⟨rfl, rfl⟩ ⟨Nat.le_of_ble_eq_true rfl, Nat.le_of_ble_eq_true rfl⟩ rfl rfl rfl (Nat.le_of_ble_eq_true rfl) dX4_storeRegister_130 (fun r23 S23 e23 f23 => ?_)
    refine g_aload_n (i := 0) hc 0 dX4_storeRegister_133 rfl rfl ?_
    refine g_callVV hc 1 [] (fun l => c_X4_mapChr l η S23) wtC_62 ge_X4_mapChr rfl ⟨rfl, rfl⟩ ⟨Nat.le_of_ble_eq_true rfl, Nat.le_of_ble_eq_true rfl⟩ rfl rfl rfl (Nat.le_of_ble_eq_true rfl) dX4_storeRegister_134 (fun r24 S24 e24 f24 => ?_)
    exact g_vret hc dX4_storeRegister_137
  refine g_tswd (tgt := 129) hc dX4_storeRegister_11 (by have := lv_neT c_11_0 (a := 0) (by decide); have := lv_neT c_11_1 (a := 1) (by decide); have := lv_neT c_11_2 (a := 2) (by decide); have := lv_neT c_11_3 (a := 3) (by decide); have := lv_neT c_11_4 (a := 4) (by decide); have := lv_neT c_11_5 (a := 5) (by decide); have := lv_neT c_11_6 (a := 6) (by decide); have := lv_neT c_11_7 (a := 7) (by decide); omega) rfl ?_
  refine g_aload_n (i := 0) hc 0 dX4_storeRegister_129 rfl rfl ?_
  refine g_callVV hc 1 [] (fun l => c_X4_mapRom l η S) wtC_58 ge_X4_mapRom rfl ⟨rfl, rfl⟩ ⟨Nat.le_of_ble_eq_true rfl, Nat.le_of_ble_eq_true rfl⟩ rfl rfl rfl (Nat.le_of_ble_eq_true rfl) dX4_storeRegister_130 (fun r25 S25 e25 f25 => ?_)
  refine g_aload_n (i := 0) hc 0 dX4_storeRegister_133 rfl rfl ?_
  refine g_callVV hc 1 [] (fun l => c_X4_mapChr l η S25) wtC_62 ge_X4_mapChr rfl ⟨rfl, rfl⟩ ⟨Nat.le_of_ble_eq_true rfl, Nat.le_of_ble_eq_true rfl⟩ rfl rfl rfl (Nat.le_of_ble_eq_true rfl) dX4_storeRegister_134 (fun r26 S26 e26 f26 => ?_)
  exact g_vret hc dX4_storeRegister_137

section KL
variable {ρ : Type} {k : Bool} {η : gE} {κ : gK} {cc : ByteArray} {nL : Nat} {own : String} {ret : Option FieldType} {rm : Room} {out : ρ → Option Value} {pc : Nat} {lv : List (Nat × Value)} {rest : List Value} {S : gSt} {X : ρ × gSt}
theorem gk_romByte {a0 : Int32} {i : Nat} {F : Int32 → gSt → ρ × gSt} (hc : gC (oC k η) κ cc nL own ret rm) (h1 : Cond.methodLink own i ⟨"GameConsole$Cartridge", "romByte", "(I)I"⟩ ∈ WT) (hR : 1 ≤ rm.frames ∧ 21 ≤ rm.locals) (hcat : (rest.map fun v => v.category).sum ≤ 8) (hd : decode cc pc = .ok (.invokevirtual i, 3)) (kk : ∀ (r : Int32) (S1 : gSt), r = (sp_X1_romByte k a0 S).1 → S1 = (sp_X1_romByte k a0 S).2 → gG (oC k η) κ nL out (pc + 3) lv (.int r :: rest) S1 (F r S1)) : gG (oC k η) κ nL out pc lv (.int a0 :: .ref (η.1 1) :: rest) S (gB (sp_X1_romByte k a0 S) F) := by
  cases k
  · exact g_callWI (C := RX3) (x := ⟨"GameConsole$Cartridge", "romByte", "(I)I"⟩) (owner := "GameConsole$Cartridge") (Pr := sp_X1_romByte false a0 S) hc 1 [.int a0] (fun l => c_X1_romByte l false η a0 S) h1 wtC_67 wtC_68 gu_X1_romByte rfl ⟨rfl, rfl⟩ rfl ⟨Nat.le_trans (Nat.le_of_ble_eq_true rfl) hR.1, Nat.le_trans (Nat.le_of_ble_eq_true rfl) hR.2⟩ rfl rfl rfl hcat hd kk
  · exact g_callWI (C := RX4) (x := ⟨"GameConsole$Cartridge", "romByte", "(I)I"⟩) (owner := "GameConsole$Cartridge") (Pr := sp_X1_romByte true a0 S) hc 1 [.int a0] (fun l => c_X1_romByte l true η a0 S) h1 wtC_67 wtC_69 gu_X1_romByte rfl ⟨rfl, rfl⟩ rfl ⟨Nat.le_trans (Nat.le_of_ble_eq_true rfl) hR.1, Nat.le_trans (Nat.le_of_ble_eq_true rfl) hR.2⟩ rfl rfl rfl hcat hd kk
theorem gk_chrByte {a0 : Int32} {i : Nat} {F : Int32 → gSt → ρ × gSt} (hc : gC (oC k η) κ cc nL own ret rm) (h1 : Cond.methodLink own i ⟨"GameConsole$Cartridge", "chrByte", "(I)I"⟩ ∈ WT) (hR : 1 ≤ rm.frames ∧ 21 ≤ rm.locals) (hcat : (rest.map fun v => v.category).sum ≤ 8) (hd : decode cc pc = .ok (.invokevirtual i, 3)) (kk : ∀ (r : Int32) (S1 : gSt), r = (sp_X1_chrByte k a0 S).1 → S1 = (sp_X1_chrByte k a0 S).2 → gG (oC k η) κ nL out (pc + 3) lv (.int r :: rest) S1 (F r S1)) : gG (oC k η) κ nL out pc lv (.int a0 :: .ref (η.1 1) :: rest) S (gB (sp_X1_chrByte k a0 S) F) := by
  cases k
  · exact g_callWI (C := RX3) (x := ⟨"GameConsole$Cartridge", "chrByte", "(I)I"⟩) (owner := "GameConsole$Cartridge") (Pr := sp_X1_chrByte false a0 S) hc 1 [.int a0] (fun l => c_X1_chrByte l false η a0 S) h1 wtC_72 wtC_73 gu_X1_chrByte rfl ⟨rfl, rfl⟩ rfl ⟨Nat.le_trans (Nat.le_of_ble_eq_true rfl) hR.1, Nat.le_trans (Nat.le_of_ble_eq_true rfl) hR.2⟩ rfl rfl rfl hcat hd kk
  · exact g_callWI (C := RX4) (x := ⟨"GameConsole$Cartridge", "chrByte", "(I)I"⟩) (owner := "GameConsole$Cartridge") (Pr := sp_X1_chrByte true a0 S) hc 1 [.int a0] (fun l => c_X1_chrByte l true η a0 S) h1 wtC_72 wtC_74 gu_X1_chrByte rfl ⟨rfl, rfl⟩ rfl ⟨Nat.le_trans (Nat.le_of_ble_eq_true rfl) hR.1, Nat.le_trans (Nat.le_of_ble_eq_true rfl) hR.2⟩ rfl rfl rfl hcat hd kk
def sp_K_storeRegister (k : Bool) (a0 : Int32) (a1 : Int32) (S : gSt) : Unit × gSt := match k with
  | false => sp_X3_storeRegister a0 a1 S
  | true => sp_X4_storeRegister a0 a1 S
theorem gk_storeRegister {a0 a1 : Int32} {i : Nat} {F : Unit → gSt → ρ × gSt} (hc : gC (oC k η) κ cc nL own ret rm) (h1 : Cond.methodLink own i ⟨"GameConsole$Cartridge", "storeRegister", "(II)V"⟩ ∈ WT) (hR : 3 ≤ rm.frames ∧ 70 ≤ rm.locals) (hcat : (rest.map fun v => v.category).sum ≤ 8) (hd : decode cc pc = .ok (.invokevirtual i, 3)) (kk : ∀ (r : Unit) (S1 : gSt), r = (sp_K_storeRegister k a0 a1 S).1 → S1 = (sp_K_storeRegister k a0 a1 S).2 → gG (oC k η) κ nL out (pc + 3) lv (rest) S1 (F r S1)) : gG (oC k η) κ nL out pc lv (.int a1 :: .int a0 :: .ref (η.1 1) :: rest) S (gB (sp_K_storeRegister k a0 a1 S) F) := by
  cases k
  · exact g_callUV (C := RX3) (x := ⟨"GameConsole$Cartridge", "storeRegister", "(II)V"⟩) (owner := "GameConsole$Cartridge") (Pr := sp_X3_storeRegister a0 a1 S) hc 1 [.int a0, .int a1] (fun l => c_X3_storeRegister l η a0 a1 S) h1 wtC_77 wtC_78 gu_X3_storeRegister rfl ⟨rfl, rfl⟩ (zC_n η (w := .declares ⟨"GameConsole$Cartridge", "storeRegister", "(II)V"⟩) (by decide +kernel)) ⟨Nat.le_trans (Nat.le_of_ble_eq_true rfl) hR.1, Nat.le_trans (Nat.le_of_ble_eq_true rfl) hR.2⟩ rfl rfl rfl hcat hd kk
  · exact g_callUV (C := RX4) (x := ⟨"GameConsole$Cartridge", "storeRegister", "(II)V"⟩) (owner := "GameConsole$Cartridge") (Pr := sp_X4_storeRegister a0 a1 S) hc 1 [.int a0, .int a1] (fun l => c_X4_storeRegister l η a0 a1 S) h1 wtC_77 wtC_81 gu_X4_storeRegister rfl ⟨rfl, rfl⟩ (zC_n η (w := .declares ⟨"GameConsole$Cartridge", "storeRegister", "(II)V"⟩) (by decide +kernel)) ⟨Nat.le_trans (Nat.le_of_ble_eq_true rfl) hR.1, Nat.le_trans (Nat.le_of_ble_eq_true rfl) hR.2⟩ rfl rfl rfl hcat hd kk
def sp_K_noteLine (k : Bool)  (S : gSt) : Unit × gSt := match k with
  | false => sp_X3_noteLine S
  | true => sp_X4_noteLine S
theorem gk_noteLine {i : Nat} {F : Unit → gSt → ρ × gSt} (hc : gC (oC k η) κ cc nL own ret rm) (h1 : Cond.methodLink own i ⟨"GameConsole$Cartridge", "noteLine", "()V"⟩ ∈ WT) (hR : 1 ≤ rm.frames ∧ 20 ≤ rm.locals) (hcat : (rest.map fun v => v.category).sum ≤ 8) (hd : decode cc pc = .ok (.invokevirtual i, 3)) (kk : ∀ (r : Unit) (S1 : gSt), r = (sp_K_noteLine k S).1 → S1 = (sp_K_noteLine k S).2 → gG (oC k η) κ nL out (pc + 3) lv (rest) S1 (F r S1)) : gG (oC k η) κ nL out pc lv (.ref (η.1 1) :: rest) S (gB (sp_K_noteLine k S) F) := by
  cases k
  · exact g_callUV (C := RX3) (x := ⟨"GameConsole$Cartridge", "noteLine", "()V"⟩) (owner := "GameConsole$Cartridge") (Pr := sp_X3_noteLine S) hc 1 [] (fun l => c_X3_noteLine l η S) h1 wtC_84 wtC_85 gu_X3_noteLine rfl ⟨rfl, rfl⟩ (zC_n η (w := .declares ⟨"GameConsole$Cartridge", "noteLine", "()V"⟩) (by decide +kernel)) ⟨Nat.le_trans (Nat.le_of_ble_eq_true rfl) hR.1, Nat.le_trans (Nat.le_of_ble_eq_true rfl) hR.2⟩ rfl rfl rfl hcat hd kk
  · exact g_callUV (C := RX4) (x := ⟨"GameConsole$Cartridge", "noteLine", "()V"⟩) (owner := "GameConsole$Cartridge") (Pr := sp_X4_noteLine S) hc 1 [] (fun l => c_X4_noteLine l η S) h1 wtC_84 wtC_88 gu_X4_noteLine rfl ⟨rfl, rfl⟩ (zC_n η (w := .declares ⟨"GameConsole$Cartridge", "noteLine", "()V"⟩) (by decide +kernel)) ⟨Nat.le_trans (Nat.le_of_ble_eq_true rfl) hR.1, Nat.le_trans (Nat.le_of_ble_eq_true rfl) hR.2⟩ rfl rfl rfl hcat hd kk
def sp_K_forgetShifted (k : Bool)  (S : gSt) : Unit × gSt := match k with
  | false => sp_X3_forgetShifted S
  | true => sp_X4_forgetShifted S
theorem gk_forgetShifted {i : Nat} {F : Unit → gSt → ρ × gSt} (hc : gC (oC k η) κ cc nL own ret rm) (h1 : Cond.methodLink own i ⟨"GameConsole$Cartridge", "forgetShifted", "()V"⟩ ∈ WT) (hR : 1 ≤ rm.frames ∧ 20 ≤ rm.locals) (hcat : (rest.map fun v => v.category).sum ≤ 8) (hd : decode cc pc = .ok (.invokevirtual i, 3)) (kk : ∀ (r : Unit) (S1 : gSt), r = (sp_K_forgetShifted k S).1 → S1 = (sp_K_forgetShifted k S).2 → gG (oC k η) κ nL out (pc + 3) lv (rest) S1 (F r S1)) : gG (oC k η) κ nL out pc lv (.ref (η.1 1) :: rest) S (gB (sp_K_forgetShifted k S) F) := by
  cases k
  · exact g_callUV (C := RX3) (x := ⟨"GameConsole$Cartridge", "forgetShifted", "()V"⟩) (owner := "GameConsole$Cartridge") (Pr := sp_X3_forgetShifted S) hc 1 [] (fun l => c_X3_forgetShifted l η S) h1 wtC_89 wtC_90 gu_X3_forgetShifted rfl ⟨rfl, rfl⟩ (zC_n η (w := .declares ⟨"GameConsole$Cartridge", "forgetShifted", "()V"⟩) (by decide +kernel)) ⟨Nat.le_trans (Nat.le_of_ble_eq_true rfl) hR.1, Nat.le_trans (Nat.le_of_ble_eq_true rfl) hR.2⟩ rfl rfl rfl hcat hd kk
  · exact g_callUV (C := RX4) (x := ⟨"GameConsole$Cartridge", "forgetShifted", "()V"⟩) (owner := "GameConsole$Cartridge") (Pr := sp_X4_forgetShifted S) hc 1 [] (fun l => c_X4_forgetShifted l η S) h1 wtC_89 wtC_93 gu_X4_forgetShifted rfl ⟨rfl, rfl⟩ (zC_n η (w := .declares ⟨"GameConsole$Cartridge", "forgetShifted", "()V"⟩) (by decide +kernel)) ⟨Nat.le_trans (Nat.le_of_ble_eq_true rfl) hR.1, Nat.le_trans (Nat.le_of_ble_eq_true rfl) hR.2⟩ rfl rfl rfl hcat hd kk
def sp_K_lineCounter (k : Bool)  (S : gSt) : Int32 × gSt := match k with
  | false => sp_X3_lineCounter S
  | true => sp_X4_lineCounter S
theorem gk_lineCounter {i : Nat} {F : Int32 → gSt → ρ × gSt} (hc : gC (oC k η) κ cc nL own ret rm) (h1 : Cond.methodLink own i ⟨"GameConsole$Cartridge", "lineCounter", "()I"⟩ ∈ WT) (hR : 1 ≤ rm.frames ∧ 20 ≤ rm.locals) (hcat : (rest.map fun v => v.category).sum ≤ 8) (hd : decode cc pc = .ok (.invokevirtual i, 3)) (kk : ∀ (r : Int32) (S1 : gSt), r = (sp_K_lineCounter k S).1 → S1 = (sp_K_lineCounter k S).2 → gG (oC k η) κ nL out (pc + 3) lv (.int r :: rest) S1 (F r S1)) : gG (oC k η) κ nL out pc lv (.ref (η.1 1) :: rest) S (gB (sp_K_lineCounter k S) F) := by
  cases k
  · exact g_callUI (C := RX3) (x := ⟨"GameConsole$Cartridge", "lineCounter", "()I"⟩) (owner := "GameConsole$Cartridge") (Pr := sp_X3_lineCounter S) hc 1 [] (fun l => c_X3_lineCounter l η S) h1 wtC_96 wtC_97 gu_X3_lineCounter rfl ⟨rfl, rfl⟩ (zC_n η (w := .declares ⟨"GameConsole$Cartridge", "lineCounter", "()I"⟩) (by decide +kernel)) ⟨Nat.le_trans (Nat.le_of_ble_eq_true rfl) hR.1, Nat.le_trans (Nat.le_of_ble_eq_true rfl) hR.2⟩ rfl rfl rfl hcat hd kk
  · exact g_callUI (C := RX4) (x := ⟨"GameConsole$Cartridge", "lineCounter", "()I"⟩) (owner := "GameConsole$Cartridge") (Pr := sp_X4_lineCounter S) hc 1 [] (fun l => c_X4_lineCounter l η S) h1 wtC_96 wtC_100 gu_X4_lineCounter rfl ⟨rfl, rfl⟩ (zC_n η (w := .declares ⟨"GameConsole$Cartridge", "lineCounter", "()I"⟩) (by decide +kernel)) ⟨Nat.le_trans (Nat.le_of_ble_eq_true rfl) hR.1, Nat.le_trans (Nat.le_of_ble_eq_true rfl) hR.2⟩ rfl rfl rfl hcat hd kk
end KL
