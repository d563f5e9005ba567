abbrev rm_X0_loadInput : Room := { frames := 1, cells := 0, slots := 0, locals := 23 }
def sp_X0_loadInput (k : Bool) (a0 : Int32) (S : gSt) : Int32 × gSt := (if a0 = 16405 then gB (sp_X8_loadStatus k S) (fun r1 S1 => (r1, S1)) else (if a0 = 16406 then gB (sp_X6_nextBit k 0 S) (fun r2 S2 => (r2, S2)) else (if a0 = 16407 then gB (sp_X6_nextBit k 1 S) (fun r3 S3 => (r3, S3)) else (0, S))))
set_option maxRecDepth 100000 in
set_option maxHeartbeats 4000000 in
theorem c_X0_loadInput (l : Launch) (k : Bool) (η : gE) (a0 : Int32) (S : gSt) : gMet l yX0_loadInput cX0_loadInput 2 (some .int) rm_X0_loadInput (oC k η) [.ref (η.1 15), .int a0] S (oI (sp_X0_loadInput k a0 S).1) (sp_X0_loadInput k a0 S).2 := by
  refine gMet_of (X := sp_X0_loadInput k a0 S) (lv := [(0, .ref (η.1 15)), (1, .int a0)]) oI (zC_ok η) (by decide +kernel) (Nat.le_of_ble_eq_true rfl) rfl (fun κ hc => ?_)
  have hc : gC (oC k η) κ cX0_loadInput 2 RX0 (some .int) rm_X0_loadInput := hc
  unfold sp_X0_loadInput
  refine g_iload_n (i := 1) hc 1 dX0_loadInput_0 rfl rfl ?_
  refine g_tsw (tgt := 28) hc 16405 dX0_loadInput_1 ⟨by decide, by decide, rfl⟩ rfl (fun c_1_16405 => ?_) (fun c_1_16405 => ?_)
  · refine g_aload_n (i := 0) hc 0 dX0_loadInput_28 rfl rfl ?_
    refine gf_C_15_sound hc wtC_206 dX0_loadInput_29 ?_
    refine g_callVI hc 10 [] (fun l => c_X8_loadStatus l k η S) wtC_210 ge_X8_loadStatus rfl ⟨rfl, rfl⟩ ⟨Nat.le_of_ble_eq_true rfl, Nat.le_of_ble_eq_true rfl⟩ rfl rfl rfl (Nat.le_of_ble_eq_true rfl) dX0_loadInput_32 (fun r1 S1 e1 f1 => ?_)
    exact g_iret hc dX0_loadInput_35
  refine g_tsw (tgt := 36) hc 16406 dX0_loadInput_1 ⟨by decide, by decide, rfl⟩ rfl (fun c_1_16406 => ?_) (fun c_1_16406 => ?_)
  · refine g_aload_n (i := 0) hc 0 dX0_loadInput_36 rfl rfl ?_
    refine gf_C_15_pads hc wtC_211 dX0_loadInput_37 ?_
    refine g_iconst (v := 0) hc dX0_loadInput_40 (by decide) ?_
    refine g_callVI hc 12 [.int 0] (fun l => c_X6_nextBit l k η 0 S) wtC_216 ge_X6_nextBit rfl ⟨rfl, rfl⟩ ⟨Nat.le_of_ble_eq_true rfl, Nat.le_of_ble_eq_true rfl⟩ rfl rfl rfl (Nat.le_of_ble_eq_true rfl) dX0_loadInput_41 (fun r2 S2 e2 f2 => ?_)
    exact g_iret hc dX0_loadInput_44
  refine g_tsw (tgt := 45) hc 16407 dX0_loadInput_1 ⟨by decide, by decide, rfl⟩ rfl (fun c_1_16407 => ?_) (fun c_1_16407 => ?_)
  · refine g_aload_n (i := 0) hc 0 dX0_loadInput_45 rfl rfl ?_
    refine gf_C_15_pads hc wtC_211 dX0_loadInput_46 ?_
    refine g_iconst (v := 1) hc dX0_loadInput_49 (by decide) ?_
    refine g_callVI hc 12 [.int 1] (fun l => c_X6_nextBit l k η 1 S) wtC_216 ge_X6_nextBit rfl ⟨rfl, rfl⟩ ⟨Nat.le_of_ble_eq_true rfl, Nat.le_of_ble_eq_true rfl⟩ rfl rfl rfl (Nat.le_of_ble_eq_true rfl) dX0_loadInput_50 (fun r3 S3 e3 f3 => ?_)
    exact g_iret hc dX0_loadInput_53
  refine g_tswd (tgt := 54) hc dX0_loadInput_1 (by have := lv_neT c_1_16405 (a := 16405) (by decide); have := lv_neT c_1_16406 (a := 16406) (by decide); have := lv_neT c_1_16407 (a := 16407) (by decide); omega) rfl ?_
  refine g_iconst (v := 0) hc dX0_loadInput_54 (by decide) ?_
  exact g_iret hc dX0_loadInput_55

abbrev rm_X0_load : Room := { frames := 3, cells := 0, slots := 0, locals := 68 }
def sp_X0_load (k : Bool) (a0 : Int32) (S : gSt) : Int32 × gSt := (if 8192 ≤ a0 then (if 16384 ≤ a0 then (if 24576 ≤ a0 then (if 32768 ≤ a0 then gB (sp_X1_romByte k a0 S) (fun r1 S1 => (r1, S1)) else ((aG S 17 (a0 &&& 255)), S)) else gB (sp_X0_loadInput k a0 S) (fun r2 S2 => (r2, S2))) else gB (sp_X7_load k (a0 &&& 7) S) (fun r3 S3 => (r3, S3))) else ((aG S 16 (a0 &&& 2047)), S))
set_option maxRecDepth 100000 in
set_option maxHeartbeats 4000000 in
theorem c_X0_load (l : Launch) (k : Bool) (η : gE) (a0 : Int32) (S : gSt) : gMet l yX0_load cX0_load 2 (some .int) rm_X0_load (oC k η) [.ref (η.1 15), .int a0] S (oI (sp_X0_load k a0 S).1) (sp_X0_load k a0 S).2 := by
  refine gMet_of (X := sp_X0_load k a0 S) (lv := [(0, .ref (η.1 15)), (1, .int a0)]) oI (zC_ok η) (by decide +kernel) (Nat.le_of_ble_eq_true rfl) rfl (fun κ hc => ?_)
  have hc : gC (oC k η) κ cX0_load 2 RX0 (some .int) rm_X0_load := hc
  unfold sp_X0_load
  refine g_iload_n (i := 1) hc 1 dX0_load_0 rfl rfl ?_
  refine g_sipush (v := 8192) hc dX0_load_1 (by decide) ?_
  refine g_icmpge (tgt := 18) hc dX0_load_4 rfl (fun c_4 => ?_) (fun c_4 => ?_)
  · refine g_iload_n (i := 1) hc 1 dX0_load_18 rfl rfl ?_
    refine g_sipush (v := 16384) hc dX0_load_19 (by decide) ?_
    refine g_icmpge (tgt := 37) hc dX0_load_22 rfl (fun c_22 => ?_) (fun c_22 => ?_)
    · refine g_iload_n (i := 1) hc 1 dX0_load_37 rfl rfl ?_
      refine g_sipush (v := 24576) hc dX0_load_38 (by decide) ?_
      refine g_icmpge (tgt := 50) hc dX0_load_41 rfl (fun c_41 => ?_) (fun c_41 => ?_)
      · refine g_iload_n (i := 1) hc 1 dX0_load_50 rfl rfl ?_
        refine g_ldc (v := 32768) hc wtC_217 dX0_load_51 ?_
        refine g_icmpge (tgt := 67) hc dX0_load_53 rfl (fun c_53 => ?_) (fun c_53 => ?_)
        · refine g_aload_n (i := 0) hc 0 dX0_load_67 rfl rfl ?_
          refine gf_C_15_cartridge hc wtC_218 dX0_load_68 ?_
          refine g_iload_n (i := 1) hc 1 dX0_load_71 rfl rfl ?_
          refine gk_romByte hc wtC_219 ⟨Nat.le_of_ble_eq_true rfl, Nat.le_of_ble_eq_true rfl⟩ (Nat.le_of_ble_eq_true rfl) dX0_load_72 (fun r1 S1 e1 f1 => ?_)
          exact g_iret hc dX0_load_75
        · refine g_aload_n (i := 0) hc 0 dX0_load_56 rfl rfl ?_
          refine gf_C_15_cartridgeRam hc wtC_220 dX0_load_57 ?_
          refine g_iload_n (i := 1) hc 1 dX0_load_60 rfl rfl ?_
          refine g_sipush (v := 255) hc dX0_load_61 (by decide) ?_
          refine g_iand hc dX0_load_64 ?_
          refine al_C_17 hc (pk_andIn _ 8 (by decide) (by decide)) dX0_load_65 ?_
          exact g_iret hc dX0_load_66
      · refine g_aload_n (i := 0) hc 0 dX0_load_44 rfl rfl ?_
        refine g_iload_n (i := 1) hc 1 dX0_load_45 rfl rfl ?_
        refine g_callVI hc 15 [.int a0] (fun l => c_X0_loadInput l k η a0 S) wtC_225 ge_X0_loadInput rfl ⟨rfl, rfl⟩ ⟨Nat.le_of_ble_eq_true rfl, Nat.le_of_ble_eq_true rfl⟩ rfl rfl rfl (Nat.le_of_ble_eq_true rfl) dX0_load_46 (fun r2 S2 e2 f2 => ?_)
        exact g_iret hc dX0_load_49
    · refine g_aload_n (i := 0) hc 0 dX0_load_25 rfl rfl ?_
      refine gf_C_15_picture hc wtC_226 dX0_load_26 ?_
      refine g_iload_n (i := 1) hc 1 dX0_load_29 rfl rfl ?_
      refine g_bipush (v := 7) hc dX0_load_30 (by decide) ?_
      refine g_iand hc dX0_load_32 ?_
      refine g_callVI hc 6 [.int (a0 &&& 7)] (fun l => c_X7_load l k η (a0 &&& 7) S) wtC_230 ge_X7_load rfl ⟨rfl, rfl⟩ ⟨Nat.le_of_ble_eq_true rfl, Nat.le_of_ble_eq_true rfl⟩ rfl rfl rfl (Nat.le_of_ble_eq_true rfl) dX0_load_33 (fun r3 S3 e3 f3 => ?_)
      exact g_iret hc dX0_load_36
  · refine g_aload_n (i := 0) hc 0 dX0_load_7 rfl rfl ?_
    refine gf_C_15_ram hc wtC_231 dX0_load_8 ?_
    refine g_iload_n (i := 1) hc 1 dX0_load_11 rfl rfl ?_
    refine g_sipush (v := 2047) hc dX0_load_12 (by decide) ?_
    refine g_iand hc dX0_load_15 ?_
    refine al_C_16 hc (pk_andIn _ 11 (by decide) (by decide)) dX0_load_16 ?_
    exact g_iret hc dX0_load_17

abbrev rm_X0_store : Room := { frames := 3, cells := 0, slots := 0, locals := 70 }
def sp_X0_store (k : Bool) (a0 : Int32) (a1 : Int32) (S : gSt) : Unit × gSt := (if 8192 ≤ a0 then (if 16384 ≤ a0 then (if a0 = 16404 then gL (sI S 26 a1) (fun S1 => ((), S1)) else (if a0 = 16406 then (if (a1 &&& 1) = 1 then gB (sp_X6_setStrobe k true S) (fun (_ : Unit) S2 => ((), S2)) else gB (sp_X6_setStrobe k false S) (fun (_ : Unit) S3 => ((), S3))) else (if 16408 ≤ a0 then (if a0 < 32768 then (if a0 < 24576 then ((), S) else gL (aP S 17 (a0 &&& 255) a1) (fun S4 => ((), S4))) else gB (sp_K_storeRegister k a0 a1 S) (fun (_ : Unit) S5 => ((), S5))) else gB (sp_X8_store k (a0 &&& 31) a1 S) (fun (_ : Unit) S6 => ((), S6))))) else gB (sp_X7_store k (a0 &&& 7) a1 S) (fun (_ : Unit) S7 => ((), S7))) else gL (aP S 16 (a0 &&& 2047) a1) (fun S8 => ((), S8)))
set_option maxRecDepth 100000 in
set_option maxHeartbeats 4000000 in
theorem c_X0_store (l : Launch) (k : Bool) (η : gE) (a0 : Int32) (a1 : Int32) (S : gSt) : gMet l yX0_store cX0_store 3 none rm_X0_store (oC k η) [.ref (η.1 15), .int a0, .int a1] S (oV (sp_X0_store k a0 a1 S).1) (sp_X0_store k a0 a1 S).2 := by
  refine gMet_of (X := sp_X0_store k a0 a1 S) (lv := [(0, .ref (η.1 15)), (1, .int a0), (2, .int a1)]) oV (zC_ok η) (by decide +kernel) (Nat.le_of_ble_eq_true rfl) rfl (fun κ hc => ?_)
  have hc : gC (oC k η) κ cX0_store 3 RX0 none rm_X0_store := hc
  unfold sp_X0_store
  refine g_iload_n (i := 1) hc 1 dX0_store_0 rfl rfl ?_
  refine g_sipush (v := 8192) hc dX0_store_1 (by decide) ?_
  refine g_icmpge (tgt := 21) hc dX0_store_4 rfl (fun c_4 => ?_) (fun c_4 => ?_)
  · refine g_iload_n (i := 1) hc 1 dX0_store_21 rfl rfl ?_
    refine g_sipush (v := 16384) hc dX0_store_22 (by decide) ?_
    refine g_icmpge (tgt := 43) hc dX0_store_25 rfl (fun c_25 => ?_) (fun c_25 => ?_)
    · refine g_iload_n (i := 1) hc 1 dX0_store_43 rfl rfl ?_
      refine g_sipush (v := 16404) hc dX0_store_44 (by decide) ?_
      refine g_icmpne (tgt := 58) hc dX0_store_47 rfl (fun c_47 => ?_) (fun c_47 => ?_)
      · refine g_aload_n (i := 0) hc 0 dX0_store_50 rfl rfl ?_
        refine g_iload_n (i := 2) hc 2 dX0_store_51 rfl rfl ?_
        refine pf_C_15_pageAsked (v := a1) hc wtC_232 dX0_store_52 (fun S1 f1 => ?_)
        refine g_goto (tgt := 145) hc dX0_store_55 rfl ?_
        exact g_vret hc dX0_store_145
      · refine g_iload_n (i := 1) hc 1 dX0_store_58 rfl rfl ?_
        refine g_sipush (v := 16406) hc dX0_store_59 (by decide) ?_
        refine g_icmpne (tgt := 87) hc dX0_store_62 rfl (fun c_62 => ?_) (fun c_62 => ?_)
        · refine g_aload_n (i := 0) hc 0 dX0_store_65 rfl rfl ?_
          refine gf_C_15_pads hc wtC_211 dX0_store_66 ?_
          refine g_iload_n (i := 2) hc 2 dX0_store_69 rfl rfl ?_
          refine g_iconst (v := 1) hc dX0_store_70 (by decide) ?_
          refine g_iand hc dX0_store_71 ?_
          refine g_iconst (v := 1) hc dX0_store_72 (by decide) ?_
          refine g_icmpne (tgt := 80) hc dX0_store_73 rfl (fun c_73 => ?_) (fun c_73 => ?_)
          · refine g_iconst (v := 1) hc dX0_store_76 (by decide) ?_
            refine g_goto (tgt := 81) hc dX0_store_77 rfl ?_
            refine g_callVV hc 12 [.int (bI true)] (fun l => c_X6_setStrobe l k η true S) wtC_236 ge_X6_setStrobe rfl ⟨rfl, rfl⟩ ⟨Nat.le_of_ble_eq_true rfl, Nat.le_of_ble_eq_true rfl⟩ rfl rfl rfl (Nat.le_of_ble_eq_true rfl) dX0_store_81 (fun r2 S2 e2 f2 => ?_)
            refine g_goto (tgt := 145) hc dX0_store_84 rfl ?_
            exact g_vret hc dX0_store_145
          · refine g_iconst (v := 0) hc dX0_store_80 (by decide) ?_
            refine g_callVV hc 12 [.int (bI false)] (fun l => c_X6_setStrobe l k η false S) wtC_236 ge_X6_setStrobe rfl ⟨rfl, rfl⟩ ⟨Nat.le_of_ble_eq_true rfl, Nat.le_of_ble_eq_true rfl⟩ rfl rfl rfl (Nat.le_of_ble_eq_true rfl) dX0_store_81 (fun r3 S3 e3 f3 => ?_)
            refine g_goto (tgt := 145) hc dX0_store_84 rfl ?_
            exact g_vret hc dX0_store_145
        · refine g_iload_n (i := 1) hc 1 dX0_store_87 rfl rfl ?_
          refine g_sipush (v := 16408) hc dX0_store_88 (by decide) ?_
          refine g_icmpge (tgt := 109) hc dX0_store_91 rfl (fun c_91 => ?_) (fun c_91 => ?_)
          · refine g_iload_n (i := 1) hc 1 dX0_store_109 rfl rfl ?_
            refine g_ldc (v := 32768) hc wtC_217 dX0_store_110 ?_
            refine g_icmplt (tgt := 127) hc dX0_store_112 rfl (fun c_112 => ?_) (fun c_112 => ?_)
            · refine g_iload_n (i := 1) hc 1 dX0_store_127 rfl rfl ?_
              refine g_sipush (v := 24576) hc dX0_store_128 (by decide) ?_
              refine g_icmplt (tgt := 145) hc dX0_store_131 rfl (fun c_131 => ?_) (fun c_131 => ?_)
              · exact g_vret hc dX0_store_145
              · refine g_aload_n (i := 0) hc 0 dX0_store_134 rfl rfl ?_
                refine gf_C_15_cartridgeRam hc wtC_220 dX0_store_135 ?_
                refine g_iload_n (i := 1) hc 1 dX0_store_138 rfl rfl ?_
                refine g_sipush (v := 255) hc dX0_store_139 (by decide) ?_
                refine g_iand hc dX0_store_142 ?_
                refine g_iload_n (i := 2) hc 2 dX0_store_143 rfl rfl ?_
                refine as_C_17 hc (pk_andIn _ 8 (by decide) (by decide)) dX0_store_144 (fun S4 f4 => ?_)
                exact g_vret hc dX0_store_145
            · refine g_aload_n (i := 0) hc 0 dX0_store_115 rfl rfl ?_
              refine gf_C_15_cartridge hc wtC_218 dX0_store_116 ?_
              refine g_iload_n (i := 1) hc 1 dX0_store_119 rfl rfl ?_
              refine g_iload_n (i := 2) hc 2 dX0_store_120 rfl rfl ?_
              refine gk_storeRegister hc wtC_237 ⟨Nat.le_of_ble_eq_true rfl, Nat.le_of_ble_eq_true rfl⟩ (Nat.le_of_ble_eq_true rfl) dX0_store_121 (fun r5 S5 e5 f5 => ?_)
              refine g_goto (tgt := 145) hc dX0_store_124 rfl ?_
              exact g_vret hc dX0_store_145
          · refine g_aload_n (i := 0) hc 0 dX0_store_94 rfl rfl ?_
            refine gf_C_15_sound hc wtC_206 dX0_store_95 ?_
            refine g_iload_n (i := 1) hc 1 dX0_store_98 rfl rfl ?_
            refine g_bipush (v := 31) hc dX0_store_99 (by decide) ?_
            refine g_iand hc dX0_store_101 ?_
            refine g_iload_n (i := 2) hc 2 dX0_store_102 rfl rfl ?_
            refine g_callVV hc 10 [.int (a0 &&& 31), .int a1] (fun l => c_X8_store l k η (a0 &&& 31) a1 S) wtC_241 ge_X8_store rfl ⟨rfl, rfl⟩ ⟨Nat.le_of_ble_eq_true rfl, Nat.le_of_ble_eq_true rfl⟩ rfl rfl rfl (Nat.le_of_ble_eq_true rfl) dX0_store_103 (fun r6 S6 e6 f6 => ?_)
            refine g_goto (tgt := 145) hc dX0_store_106 rfl ?_
            exact g_vret hc dX0_store_145
    · refine g_aload_n (i := 0) hc 0 dX0_store_28 rfl rfl ?_
      refine gf_C_15_picture hc wtC_226 dX0_store_29 ?_
      refine g_iload_n (i := 1) hc 1 dX0_store_32 rfl rfl ?_
      refine g_bipush (v := 7) hc dX0_store_33 (by decide) ?_
      refine g_iand hc dX0_store_35 ?_
      refine g_iload_n (i := 2) hc 2 dX0_store_36 rfl rfl ?_
      refine g_callVV hc 6 [.int (a0 &&& 7), .int a1] (fun l => c_X7_store l k η (a0 &&& 7) a1 S) wtC_245 ge_X7_store rfl ⟨rfl, rfl⟩ ⟨Nat.le_of_ble_eq_true rfl, Nat.le_of_ble_eq_true rfl⟩ rfl rfl rfl (Nat.le_of_ble_eq_true rfl) dX0_store_37 (fun r7 S7 e7 f7 => ?_)
      refine g_goto (tgt := 145) hc dX0_store_40 rfl ?_
      exact g_vret hc dX0_store_145
  · refine g_aload_n (i := 0) hc 0 dX0_store_7 rfl rfl ?_
    refine gf_C_15_ram hc wtC_231 dX0_store_8 ?_
    refine g_iload_n (i := 1) hc 1 dX0_store_11 rfl rfl ?_
    refine g_sipush (v := 2047) hc dX0_store_12 (by decide) ?_
    refine g_iand hc dX0_store_15 ?_
    refine g_iload_n (i := 2) hc 2 dX0_store_16 rfl rfl ?_
    refine as_C_16 hc (pk_andIn _ 11 (by decide) (by decide)) dX0_store_17 (fun S8 f8 => ?_)
    refine g_goto (tgt := 145) hc dX0_store_18 rfl ?_
    exact g_vret hc dX0_store_145

abbrev rm_X0_copyPageAsked : Room := { frames := 4, cells := 0, slots := 0, locals := 89 }
def lp_X0_copyPageAsked_25 (k : Bool) : Nat → Int32 → Int32 → Int32 → gSt → Int32 × gSt
  | 0, _, _, _, S => (0, S)
  | n + 1, x1, x2, x3, S => (if 256 ≤ x3 then ((513 + x1), S) else gB (sp_X0_load k (x2 ||| x3) S) (fun r2 S2 => gB (sp_X7_store k 4 r2 S2) (fun (_ : Unit) S3 => lp_X0_copyPageAsked_25 k n x1 x2 (x3 + 1) S3)))
def sp_X0_copyPageAsked (k : Bool) (a0 : Int32) (S : gSt) : Int32 × gSt := (if (S.1 26) = (-1) then (0, S) else gL (sI S 26 (-1)) (fun S1 => lp_X0_copyPageAsked_25 k 257 a0 ((S.1 26) <<< ((8 : Int32) &&& (31 : Int32))) 0 S1))
set_option maxRecDepth 100000 in
set_option maxHeartbeats 4000000 in
theorem g_lp_X0_copyPageAsked_25 {k : Bool} {η : gE} {κ : gK} (hc : gC (oC k η) κ cX0_copyPageAsked 4 RX0 (some .int) rm_X0_copyPageAsked) : ∀ (n : Nat) (x1 : Int32) (x2 : Int32) (x3 : Int32) (S : gSt), gJ 256 x3 n → gG (oC k η) κ 4 oI 25 [(0, .ref (η.1 15)), (1, .int x1), (2, .int x2), (3, .int x3)] [] S (lp_X0_copyPageAsked_25 k n x1 x2 x3 S) := by
  intro n
  induction n with
  | zero => exact fun _ _ _ _ h => gJ_0 h
  | succ n ih =>
    intro x1 x2 x3 S hJ
    rw [lp_X0_copyPageAsked_25]
    refine g_iload_n (i := 3) hc 3 dX0_copyPageAsked_25 rfl rfl ?_
    refine g_sipush (v := 256) hc dX0_copyPageAsked_26 (by decide) ?_
    refine g_icmpge (tgt := 53) hc dX0_copyPageAsked_29 rfl (fun c_29 => ?_) (fun c_29 => ?_)
    · refine g_sipush (v := 513) hc dX0_copyPageAsked_53 (by decide) ?_
      refine g_iload_n (i := 1) hc 1 dX0_copyPageAsked_56 rfl rfl ?_
      refine g_iadd hc dX0_copyPageAsked_57 ?_
      exact g_iret hc dX0_copyPageAsked_58
    · refine g_aload_n (i := 0) hc 0 dX0_copyPageAsked_32 rfl rfl ?_
      refine gf_C_15_picture hc wtC_226 dX0_copyPageAsked_33 ?_
      refine g_iconst (v := 4) hc dX0_copyPageAsked_36 (by decide) ?_
      refine g_aload_n (i := 0) hc 0 dX0_copyPageAsked_37 rfl rfl ?_
      refine g_iload_n (i := 2) hc 2 dX0_copyPageAsked_38 rfl rfl ?_
      refine g_iload_n (i := 3) hc 3 dX0_copyPageAsked_39 rfl rfl ?_
      refine g_ior hc dX0_copyPageAsked_40 ?_
      refine g_callVI hc 15 [.int (x2 ||| x3)] (fun l => c_X0_load l k η (x2 ||| x3) S) wtC_249 ge_X0_load rfl ⟨rfl, rfl⟩ ⟨Nat.le_of_ble_eq_true rfl, Nat.le_of_ble_eq_true rfl⟩ rfl rfl rfl (Nat.le_of_ble_eq_true rfl) dX0_copyPageAsked_41 (fun r2 S2 e2 f2 => ?_)
      refine g_callVV hc 6 [.int 4, .int r2] (fun l => c_X7_store l k η 4 r2 S2) wtC_245 ge_X7_store rfl ⟨rfl, rfl⟩ ⟨Nat.le_of_ble_eq_true rfl, Nat.le_of_ble_eq_true rfl⟩ rfl rfl rfl (Nat.le_of_ble_eq_true rfl) dX0_copyPageAsked_44 (fun r3 S3 e3 f3 => ?_)
      refine g_iinc (i := 3) (v := 1) (lv' := [(3, .int (x3 + 1)), (0, .ref (η.1 15)), (1, .int x1), (2, .int x2)]) hc 3 dX0_copyPageAsked_47 rfl (by decide) (by decide) rfl ?_
      refine g_goto (tgt := 25) hc dX0_copyPageAsked_50 rfl ?_
      exact g_lv [1, 2, 3, 0] rfl (ih _ _ _ _ (gJ_s hJ c_29))
set_option maxRecDepth 100000 in
set_option maxHeartbeats 4000000 in
theorem c_X0_copyPageAsked (l : Launch) (k : Bool) (η : gE) (a0 : Int32) (S : gSt) : gMet l yX0_copyPageAsked cX0_copyPageAsked 4 (some .int) rm_X0_copyPageAsked (oC k η) [.ref (η.1 15), .int a0] S (oI (sp_X0_copyPageAsked k a0 S).1) (sp_X0_copyPageAsked k a0 S).2 := by
  refine gMet_of (X := sp_X0_copyPageAsked k a0 S) (lv := [(0, .ref (η.1 15)), (1, .int a0)]) oI (zC_ok η) (by decide +kernel) (Nat.le_of_ble_eq_true rfl) rfl (fun κ hc => ?_)
  have hc : gC (oC k η) κ cX0_copyPageAsked 4 RX0 (some .int) rm_X0_copyPageAsked := hc
  unfold sp_X0_copyPageAsked
  refine g_aload_n (i := 0) hc 0 dX0_copyPageAsked_0 rfl rfl ?_
  refine gf_C_15_pageAsked hc wtC_232 dX0_copyPageAsked_1 ?_
  refine g_iconst (v := (-1)) hc dX0_copyPageAsked_4 (by decide) ?_
  refine g_icmpne (tgt := 10) hc dX0_copyPageAsked_5 rfl (fun c_5 => ?_) (fun c_5 => ?_)
  · refine g_iconst (v := 0) hc dX0_copyPageAsked_8 (by decide) ?_
    exact g_iret hc dX0_copyPageAsked_9
  · refine g_aload_n (i := 0) hc 0 dX0_copyPageAsked_10 rfl rfl ?_
    refine gf_C_15_pageAsked hc wtC_232 dX0_copyPageAsked_11 ?_
    refine g_bipush (v := 8) hc dX0_copyPageAsked_14 (by decide) ?_
    refine g_ishl hc dX0_copyPageAsked_16 ?_
    refine g_istore_n (i := 2) (lv' := [(2, .int ((S.1 26) <<< ((8 : Int32) &&& (31 : Int32)))), (0, .ref (η.1 15)), (1, .int a0)]) hc dX0_copyPageAsked_17 rfl (by decide) rfl ?_
    refine g_aload_n (i := 0) hc 1 dX0_copyPageAsked_18 rfl rfl ?_
    refine g_iconst (v := (-1)) hc dX0_copyPageAsked_19 (by decide) ?_
    refine pf_C_15_pageAsked (v := (-1)) hc wtC_232 dX0_copyPageAsked_20 (fun S1 f1 => ?_)
    refine g_iconst (v := 0) hc dX0_copyPageAsked_23 (by decide) ?_
    refine g_istore_n (i := 3) (lv' := [(3, .int 0), (2, .int ((S.1 26) <<< ((8 : Int32) &&& (31 : Int32)))), (0, .ref (η.1 15)), (1, .int a0)]) hc dX0_copyPageAsked_24 rfl (by decide) rfl ?_
    exact g_lv [2, 3, 1, 0] rfl (g_lp_X0_copyPageAsked_25 hc 257 _ _ _ _ (gJ_i (by decide) (by decide)))

abbrev rm_X0_storeStack : Room := { frames := 0, cells := 0, slots := 0, locals := 0 }
def sp_X0_storeStack (k : Bool) (a0 : Int32) (a1 : Int32) (S : gSt) : Unit × gSt := gL (aP S 16 (256 ||| (a0 &&& 255)) a1) (fun S1 => ((), S1))
set_option maxRecDepth 100000 in
set_option maxHeartbeats 4000000 in
theorem c_X0_storeStack (l : Launch) (k : Bool) (η : gE) (a0 : Int32) (a1 : Int32) (S : gSt) : gMet l yX0_storeStack cX0_storeStack 3 none rm_X0_storeStack (oC k η) [.ref (η.1 15), .int a0, .int a1] S (oV (sp_X0_storeStack k a0 a1 S).1) (sp_X0_storeStack k a0 a1 S).2 := by
  refine gMet_of (X := sp_X0_storeStack k a0 a1 S) (lv := [(0, .ref (η.1 15)), (1, .int a0), (2, .int a1)]) oV (zC_ok η) (by decide +kernel) (Nat.le_of_ble_eq_true rfl) rfl (fun κ hc => ?_)
  have hc : gC (oC k η) κ cX0_storeStack 3 RX0 none rm_X0_storeStack := hc
  unfold sp_X0_storeStack
  refine g_aload_n (i := 0) hc 0 dX0_storeStack_0 rfl rfl ?_
  refine gf_C_15_ram hc wtC_231 dX0_storeStack_1 ?_
  refine g_sipush (v := 256) hc dX0_storeStack_4 (by decide) ?_
  refine g_iload_n (i := 1) hc 1 dX0_storeStack_7 rfl rfl ?_
  refine g_sipush (v := 255) hc dX0_storeStack_8 (by decide) ?_
  refine g_iand hc dX0_storeStack_11 ?_
  refine g_ior hc dX0_storeStack_12 ?_
  refine g_iload_n (i := 2) hc 2 dX0_storeStack_13 rfl rfl ?_
  refine as_C_16 hc (vi_stack _) dX0_storeStack_14 (fun S1 f1 => ?_)
  exact g_vret hc dX0_storeStack_15

abbrev rm_X0_loadStack : Room := { frames := 0, cells := 0, slots := 0, locals := 0 }
def sp_X0_loadStack (k : Bool) (a0 : Int32) (S : gSt) : Int32 × gSt := ((aG S 16 (256 ||| (a0 &&& 255))), S)
set_option maxRecDepth 100000 in
set_option maxHeartbeats 4000000 in
theorem c_X0_loadStack (l : Launch) (k : Bool) (η : gE) (a0 : Int32) (S : gSt) : gMet l yX0_loadStack cX0_loadStack 2 (some .int) rm_X0_loadStack (oC k η) [.ref (η.1 15), .int a0] S (oI (sp_X0_loadStack k a0 S).1) (sp_X0_loadStack k a0 S).2 := by
  refine gMet_of (X := sp_X0_loadStack k a0 S) (lv := [(0, .ref (η.1 15)), (1, .int a0)]) oI (zC_ok η) (by decide +kernel) (Nat.le_of_ble_eq_true rfl) rfl (fun κ hc => ?_)
  have hc : gC (oC k η) κ cX0_loadStack 2 RX0 (some .int) rm_X0_loadStack := hc
  unfold sp_X0_loadStack
  refine g_aload_n (i := 0) hc 0 dX0_loadStack_0 rfl rfl ?_
  refine gf_C_15_ram hc wtC_231 dX0_loadStack_1 ?_
  refine g_sipush (v := 256) hc dX0_loadStack_4 (by decide) ?_
  refine g_iload_n (i := 1) hc 1 dX0_loadStack_7 rfl rfl ?_
  refine g_sipush (v := 255) hc dX0_loadStack_8 (by decide) ?_
  refine g_iand hc dX0_loadStack_11 ?_
  refine g_ior hc dX0_loadStack_12 ?_
  refine al_C_16 hc (vi_stack _) dX0_loadStack_13 ?_
  exact g_iret hc dX0_loadStack_14

abbrev rm_X0_vector : Room := { frames := 1, cells := 0, slots := 0, locals := 21 }
def sp_X0_vector (k : Bool) (a0 : Int32) (S : gSt) : Int32 × gSt := gB (sp_X1_romByte k a0 S) (fun r1 S1 => gB (sp_X1_romByte k (a0 + 1) S1) (fun r2 S2 => ((r1 ||| (r2 <<< ((8 : Int32) &&& (31 : Int32)))), S2)))
set_option maxRecDepth 100000 in
set_option maxHeartbeats 4000000 in
theorem c_X0_vector (l : Launch) (k : Bool) (η : gE) (a0 : Int32) (S : gSt) : gMet l yX0_vector cX0_vector 2 (some .int) rm_X0_vector (oC k η) [.ref (η.1 15), .int a0] S (oI (sp_X0_vector k a0 S).1) (sp_X0_vector k a0 S).2 := by
  refine gMet_of (X := sp_X0_vector k a0 S) (lv := [(0, .ref (η.1 15)), (1, .int a0)]) oI (zC_ok η) (by decide +kernel) (Nat.le_of_ble_eq_true rfl) rfl (fun κ hc => ?_)
  have hc : gC (oC k η) κ cX0_vector 2 RX0 (some .int) rm_X0_vector := hc
  unfold sp_X0_vector
  refine g_aload_n (i := 0) hc 0 dX0_vector_0 rfl rfl ?_
  refine gf_C_15_cartridge hc wtC_218 dX0_vector_1 ?_
  refine g_iload_n (i := 1) hc 1 dX0_vector_4 rfl rfl ?_
  refine gk_romByte hc wtC_219 ⟨Nat.le_of_ble_eq_true rfl, Nat.le_of_ble_eq_true rfl⟩ (Nat.le_of_ble_eq_true rfl) dX0_vector_5 (fun r1 S1 e1 f1 => ?_)
  refine g_aload_n (i := 0) hc 0 dX0_vector_8 rfl rfl ?_
  refine gf_C_15_cartridge hc wtC_218 dX0_vector_9 ?_
  refine g_iload_n (i := 1) hc 1 dX0_vector_12 rfl rfl ?_
  refine g_iconst (v := 1) hc dX0_vector_13 (by decide) ?_
  refine g_iadd hc dX0_vector_14 ?_
  refine gk_romByte hc wtC_219 ⟨Nat.le_of_ble_eq_true rfl, Nat.le_of_ble_eq_true rfl⟩ (Nat.le_of_ble_eq_true rfl) dX0_vector_15 (fun r2 S2 e2 f2 => ?_)
  refine g_bipush (v := 8) hc dX0_vector_18 (by decide) ?_
  refine g_ishl hc dX0_vector_20 ?_
  refine g_ior hc dX0_vector_21 ?_
  exact g_iret hc dX0_vector_22
