section WK
def wK (k : Bool) (η : gE) (S : gSt) : va_W := cC1 k η S ::
  (η.1 2, .inl (η.2.2.1, 512, .inl (S.2.2.2 2))) ::
  (η.1 3, .inl (η.2.2.1, 128, .inl (S.2.2.2 3))) ::
  (η.1 4, .inl (η.2.2.1, 4, .inl (S.2.2.2 4))) ::
  (η.1 5, .inl (η.2.2.1, 8, .inl (S.2.2.2 5))) :: rC19 k η S
def oK (k : Bool) (η : gE) : gO := (wK k η, η.2.1, [(η.2.2.1, .int)], zM)
section RK
variable {ρ : Type} {k : Bool} {η : gE} {κ : gK} {cc : ByteArray} {nL : Nat} {own : String} {ret : Option FieldType} {rm : Room} {out : ρ → Option Value} {pc : Nat} {lv : List (Nat × Value)} {rest : List Value} {S : gSt} {X : ρ × gSt}
theorem al_K_19 (hc : gC (oK true η) κ cc nL own ret rm) {i : Int32} (hin : vp_in i 8) (hd : decode cc pc = .ok (.iaload, 1)) (kk : gG (oK true η) κ nL out (pc + 1) lv (.int (aG S 19 i) :: rest) S X) : gG (oK true η) κ nL out pc lv (.int i :: .ref (η.1 19) :: rest) S X := g_iald hc 5 0 rfl rfl hin hd kk
theorem as_K_4 (hc : gC (oK k η) κ cc nL own ret rm) {i x : Int32} {F : gSt → ρ × gSt} (hin : vp_in i 4) (hd : decode cc pc = .ok (.iastore, 1)) (kk : ∀ S1 : gSt, S1 = aP S 4 i x → gG (oK k η) κ nL out (pc + 1) lv rest S1 (F S1)) : gG (oK k η) κ nL out pc lv (.int x :: .int i :: .ref (η.1 4) :: rest) S (gL (aP S 4 i x) F) := g_iast hc 3 0 rfl rfl hin (by cases k <;> rfl) hd kk
theorem as_K_5 (hc : gC (oK k η) κ cc nL own ret rm) {i x : Int32} {F : gSt → ρ × gSt} (hin : vp_in i 8) (hd : decode cc pc = .ok (.iastore, 1)) (kk : ∀ S1 : gSt, S1 = aP S 5 i x → gG (oK k η) κ nL out (pc + 1) lv rest S1 (F S1)) : gG (oK k η) κ nL out pc lv (.int x :: .int i :: .ref (η.1 5) :: rest) S (gL (aP S 5 i x) F) := g_iast hc 4 0 rfl rfl hin (by cases k <;> rfl) hd kk
theorem gf_K_1_chrBanks (hc : gC (oK k η) κ cc nL own ret rm) {i : Nat} (hm : Cond.fieldLink own i "GameConsole$Cartridge" "chrBanks" "[I" ∈ WT) (hd : decode cc pc = .ok (.getfield i, 3)) (kk : gG (oK k η) κ nL out (pc + 3) lv (.ref (η.1 5) :: rest) S X) : gG (oK k η) κ nL out pc lv (.ref (η.1 1) :: rest) S X := by
  cases k
  · exact g_get hc (C := RX3) (T := TX3) (N := 13) (ci := 2) 0 3 wu_X3 hm (Or.inl rfl) (by decide) rfl rfl rfl hd kk
  · exact g_get hc (C := RX4) (T := TX4) (N := 11) (ci := 3) 0 3 wu_X4 hm (Or.inl rfl) (by decide) rfl rfl rfl hd kk
theorem gf_K_1_chrMode_false (hc : gC (oK false η) κ cc nL own ret rm) {i : Nat} (hm : Cond.fieldLink own i "GameConsole$Mmc1" "chrMode" "I" ∈ WT) (hd : decode cc pc = .ok (.getfield i, 3)) (kk : gG (oK false η) κ nL out (pc + 3) lv (.int (S.1 6) :: rest) S X) : gG (oK false η) κ nL out pc lv (.ref (η.1 1) :: rest) S X := g_get hc (C := RX3) (T := TX3) (N := 13) (ci := 2) 0 10 wu_X3 hm (Or.inl rfl) (by decide) rfl rfl rfl hd kk
theorem gf_K_1_firstChr_false (hc : gC (oK false η) κ cc nL own ret rm) {i : Nat} (hm : Cond.fieldLink own i "GameConsole$Mmc1" "firstChr" "I" ∈ WT) (hd : decode cc pc = .ok (.getfield i, 3)) (kk : gG (oK false η) κ nL out (pc + 3) lv (.int (S.1 7) :: rest) S X) : gG (oK false η) κ nL out pc lv (.ref (η.1 1) :: rest) S X := g_get hc (C := RX3) (T := TX3) (N := 13) (ci := 2) 0 11 wu_X3 hm (Or.inl rfl) (by decide) rfl rfl rfl hd kk
theorem gf_K_1_prgBank_false (hc : gC (oK false η) κ cc nL own ret rm) {i : Nat} (hm : Cond.fieldLink own i "GameConsole$Mmc1" "prgBank" "I" ∈ WT) (hd : decode cc pc = .ok (.getfield i, 3)) (kk : gG (oK false η) κ nL out (pc + 3) lv (.int (S.1 5) :: rest) S X) : gG (oK false η) κ nL out pc lv (.ref (η.1 1) :: rest) S X := g_get hc (C := RX3) (T := TX3) (N := 13) (ci := 2) 0 9 wu_X3 hm (Or.inl rfl) (by decide) rfl rfl rfl hd kk
theorem gf_K_1_prgMode_false (hc : gC (oK false η) κ cc nL own ret rm) {i : Nat} (hm : Cond.fieldLink own i "GameConsole$Mmc1" "prgMode" "I" ∈ WT) (hd : decode cc pc = .ok (.getfield i, 3)) (kk : gG (oK false η) κ nL out (pc + 3) lv (.int (S.1 4) :: rest) S X) : gG (oK false η) κ nL out pc lv (.ref (η.1 1) :: rest) S X := g_get hc (C := RX3) (T := TX3) (N := 13) (ci := 2) 0 8 wu_X3 hm (Or.inl rfl) (by decide) rfl rfl rfl hd kk
theorem gf_K_1_registers_true (hc : gC (oK true η) κ cc nL own ret rm) {i : Nat} (hm : Cond.fieldLink own i "GameConsole$Mmc3" "registers" "[I" ∈ WT) (hd : decode cc pc = .ok (.getfield i, 3)) (kk : gG (oK true η) κ nL out (pc + 3) lv (.ref (η.1 19) :: rest) S X) : gG (oK true η) κ nL out pc lv (.ref (η.1 1) :: rest) S X := g_get hc (C := RX4) (T := TX4) (N := 11) (ci := 3) 0 6 wu_X4 hm (Or.inl rfl) (by decide) rfl rfl rfl hd kk
theorem gf_K_1_romBanks (hc : gC (oK k η) κ cc nL own ret rm) {i : Nat} (hm : Cond.fieldLink own i "GameConsole$Cartridge" "romBanks" "[I" ∈ WT) (hd : decode cc pc = .ok (.getfield i, 3)) (kk : gG (oK k η) κ nL out (pc + 3) lv (.ref (η.1 4) :: rest) S X) : gG (oK k η) κ nL out pc lv (.ref (η.1 1) :: rest) S X := by
  cases k
  · exact g_get hc (C := RX3) (T := TX3) (N := 13) (ci := 2) 0 2 wu_X3 hm (Or.inl rfl) (by decide) rfl rfl rfl hd kk
  · exact g_get hc (C := RX4) (T := TX4) (N := 11) (ci := 3) 0 2 wu_X4 hm (Or.inl rfl) (by decide) rfl rfl rfl hd kk
theorem gf_K_1_secondChr_false (hc : gC (oK false η) κ cc nL own ret rm) {i : Nat} (hm : Cond.fieldLink own i "GameConsole$Mmc1" "secondChr" "I" ∈ WT) (hd : decode cc pc = .ok (.getfield i, 3)) (kk : gG (oK false η) κ nL out (pc + 3) lv (.int (S.1 8) :: rest) S X) : gG (oK false η) κ nL out pc lv (.ref (η.1 1) :: rest) S X := g_get hc (C := RX3) (T := TX3) (N := 13) (ci := 2) 0 12 wu_X3 hm (Or.inl rfl) (by decide) rfl rfl rfl hd kk
theorem gf_K_1_select_true (hc : gC (oK true η) κ cc nL own ret rm) {i : Nat} (hm : Cond.fieldLink own i "GameConsole$Mmc3" "select" "I" ∈ WT) (hd : decode cc pc = .ok (.getfield i, 3)) (kk : gG (oK true η) κ nL out (pc + 3) lv (.int (S.1 9) :: rest) S X) : gG (oK true η) κ nL out pc lv (.ref (η.1 1) :: rest) S X := g_get hc (C := RX4) (T := TX4) (N := 11) (ci := 3) 0 7 wu_X4 hm (Or.inl rfl) (by decide) rfl rfl rfl hd kk
end RK
theorem k_X1_setRomBanks (l : Launch) (k : Bool) (η : gE) (a0 : Int32) (a1 : Int32) (a2 : Int32) (a3 : Int32) (S : gSt) : gMet l yX1_setRomBanks cX1_setRomBanks 5 none rm_X1_setRomBanks (oK k η) [.ref (η.1 1), .int a0, .int a1, .int a2, .int a3] S (oV (sp_X1_setRomBanks k a0 a1 a2 a3 S).1) (sp_X1_setRomBanks k a0 a1 a2 a3 S).2 := by
  refine gMet_of (X := sp_X1_setRomBanks k a0 a1 a2 a3 S) (lv := [(0, .ref (η.1 1)), (1, .int a0), (2, .int a1), (3, .int a2), (4, .int a3)]) oV (zM_ok) (by decide +kernel) (Nat.le_of_ble_eq_true rfl) rfl (fun κ hc => ?_)
  have hc : gC (oK k η) κ cX1_setRomBanks 5 RX1 none rm_X1_setRomBanks := hc
  unfold sp_X1_setRomBanks
  refine g_aload_n (i := 0) hc 0 dX1_setRomBanks_0 rfl rfl ?_
  refine gf_K_1_romBanks hc wtC_1 dX1_setRomBanks_1 ?_
  refine g_iconst (v := 0) hc dX1_setRomBanks_4 (by decide) ?_
  refine g_iload_n (i := 1) hc 1 dX1_setRomBanks_5 rfl rfl ?_
  refine g_bipush (v := 7) hc dX1_setRomBanks_6 (by decide) ?_
  refine g_iand hc dX1_setRomBanks_8 ?_
  refine as_K_4 hc (vp_in_iff.mpr (by decide)) dX1_setRomBanks_9 (fun S1 f1 => ?_)
  refine g_aload_n (i := 0) hc 0 dX1_setRomBanks_10 rfl rfl ?_
  refine gf_K_1_romBanks hc wtC_1 dX1_setRomBanks_11 ?_
  refine g_iconst (v := 1) hc dX1_setRomBanks_14 (by decide) ?_
  refine g_iload_n (i := 2) hc 2 dX1_setRomBanks_15 rfl rfl ?_
  refine g_bipush (v := 7) hc dX1_setRomBanks_16 (by decide) ?_
  refine g_iand hc dX1_setRomBanks_18 ?_
  refine as_K_4 hc (vp_in_iff.mpr (by decide)) dX1_setRomBanks_19 (fun S2 f2 => ?_)
  refine g_aload_n (i := 0) hc 0 dX1_setRomBanks_20 rfl rfl ?_
  refine gf_K_1_romBanks hc wtC_1 dX1_setRomBanks_21 ?_
  refine g_iconst (v := 2) hc dX1_setRomBanks_24 (by decide) ?_
  refine g_iload_n (i := 3) hc 3 dX1_setRomBanks_25 rfl rfl ?_
  refine g_bipush (v := 7) hc dX1_setRomBanks_26 (by decide) ?_
  refine g_iand hc dX1_setRomBanks_28 ?_
  refine as_K_4 hc (vp_in_iff.mpr (by decide)) dX1_setRomBanks_29 (fun S3 f3 => ?_)
  refine g_aload_n (i := 0) hc 0 dX1_setRomBanks_30 rfl rfl ?_
  refine gf_K_1_romBanks hc wtC_1 dX1_setRomBanks_31 ?_
  refine g_iconst (v := 3) hc dX1_setRomBanks_34 (by decide) ?_
  refine g_iload (i := 4) hc 4 dX1_setRomBanks_35 rfl ?_
  refine g_bipush (v := 7) hc dX1_setRomBanks_37 (by decide) ?_
  refine g_iand hc dX1_setRomBanks_39 ?_
  refine as_K_4 hc (vp_in_iff.mpr (by decide)) dX1_setRomBanks_40 (fun S4 f4 => ?_)
  exact g_vret hc dX1_setRomBanks_41
theorem k_X1_setFourChrBanks (l : Launch) (k : Bool) (η : gE) (a0 : Int32) (a1 : Int32) (a2 : Int32) (a3 : Int32) (a4 : Int32) (S : gSt) : gMet l yX1_setFourChrBanks cX1_setFourChrBanks 6 none rm_X1_setFourChrBanks (oK k η) [.ref (η.1 1), .int a0, .int a1, .int a2, .int a3, .int a4] S (oV (sp_X1_setFourChrBanks k a0 a1 a2 a3 a4 S).1) (sp_X1_setFourChrBanks k a0 a1 a2 a3 a4 S).2 := by
  refine gMet_of (X := sp_X1_setFourChrBanks k a0 a1 a2 a3 a4 S) (lv := [(0, .ref (η.1 1)), (1, .int a0), (2, .int a1), (3, .int a2), (4, .int a3), (5, .int a4)]) oV (zM_ok) (by decide +kernel) (Nat.le_of_ble_eq_true rfl) rfl (fun κ hc => ?_)
  have hc : gC (oK k η) κ cX1_setFourChrBanks 6 RX1 none rm_X1_setFourChrBanks := hc
  unfold sp_X1_setFourChrBanks
  refine g_aload_n (i := 0) hc 0 dX1_setFourChrBanks_0 rfl rfl ?_
  refine gf_K_1_chrBanks hc wtC_3 dX1_setFourChrBanks_1 ?_
  refine g_iload_n (i := 1) hc 1 dX1_setFourChrBanks_4 rfl rfl ?_
  refine g_iconst (v := 4) hc dX1_setFourChrBanks_5 (by decide) ?_
  refine g_iand hc dX1_setFourChrBanks_6 ?_
  refine g_iload_n (i := 2) hc 2 dX1_setFourChrBanks_7 rfl rfl ?_
  refine g_bipush (v := 7) hc dX1_setFourChrBanks_8 (by decide) ?_
  refine g_iand hc dX1_setFourChrBanks_10 ?_
  refine as_K_5 hc (vi_four _).1 dX1_setFourChrBanks_11 (fun S1 f1 => ?_)
  refine g_aload_n (i := 0) hc 0 dX1_setFourChrBanks_12 rfl rfl ?_
  refine gf_K_1_chrBanks hc wtC_3 dX1_setFourChrBanks_13 ?_
  refine g_iload_n (i := 1) hc 1 dX1_setFourChrBanks_16 rfl rfl ?_
  refine g_iconst (v := 4) hc dX1_setFourChrBanks_17 (by decide) ?_
  refine g_iand hc dX1_setFourChrBanks_18 ?_
  refine g_iconst (v := 1) hc dX1_setFourChrBanks_19 (by decide) ?_
  refine g_ior hc dX1_setFourChrBanks_20 ?_
  refine g_iload_n (i := 3) hc 3 dX1_setFourChrBanks_21 rfl rfl ?_
  refine g_bipush (v := 7) hc dX1_setFourChrBanks_22 (by decide) ?_
  refine g_iand hc dX1_setFourChrBanks_24 ?_
  refine as_K_5 hc (vi_four _).2.1 dX1_setFourChrBanks_25 (fun S2 f2 => ?_)
  refine g_aload_n (i := 0) hc 0 dX1_setFourChrBanks_26 rfl rfl ?_
  refine gf_K_1_chrBanks hc wtC_3 dX1_setFourChrBanks_27 ?_
  refine g_iload_n (i := 1) hc 1 dX1_setFourChrBanks_30 rfl rfl ?_
  refine g_iconst (v := 4) hc dX1_setFourChrBanks_31 (by decide) ?_
  refine g_iand hc dX1_setFourChrBanks_32 ?_
  refine g_iconst (v := 2) hc dX1_setFourChrBanks_33 (by decide) ?_
  refine g_ior hc dX1_setFourChrBanks_34 ?_
  refine g_iload (i := 4) hc 4 dX1_setFourChrBanks_35 rfl ?_
  refine g_bipush (v := 7) hc dX1_setFourChrBanks_37 (by decide) ?_
  refine g_iand hc dX1_setFourChrBanks_39 ?_
  refine as_K_5 hc (vi_four _).2.2.1 dX1_setFourChrBanks_40 (fun S3 f3 => ?_)
  refine g_aload_n (i := 0) hc 0 dX1_setFourChrBanks_41 rfl rfl ?_
  refine gf_K_1_chrBanks hc wtC_3 dX1_setFourChrBanks_42 ?_
  refine g_iload_n (i := 1) hc 1 dX1_setFourChrBanks_45 rfl rfl ?_
  refine g_iconst (v := 4) hc dX1_setFourChrBanks_46 (by decide) ?_
  refine g_iand hc dX1_setFourChrBanks_47 ?_
  refine g_iconst (v := 3) hc dX1_setFourChrBanks_48 (by decide) ?_
  refine g_ior hc dX1_setFourChrBanks_49 ?_
  refine g_iload (i := 5) hc 5 dX1_setFourChrBanks_50 rfl ?_
  refine g_bipush (v := 7) hc dX1_setFourChrBanks_52 (by decide) ?_
  refine g_iand hc dX1_setFourChrBanks_54 ?_
  refine as_K_5 hc (vi_four _).2.2.2 dX1_setFourChrBanks_55 (fun S4 f4 => ?_)
  exact g_vret hc dX1_setFourChrBanks_56
theorem k_X3_mapRom (l : Launch) (η : gE)  (S : gSt) : gMet l yX3_mapRom cX3_mapRom 3 none rm_X3_mapRom (oK false η) [.ref (η.1 1)] S (oV (sp_X3_mapRom S).1) (sp_X3_mapRom S).2 := by
  refine gMet_of (X := sp_X3_mapRom S) (lv := [(0, .ref (η.1 1))]) oV (zM_ok) (by decide +kernel) (Nat.le_of_ble_eq_true rfl) rfl (fun κ hc => ?_)
  have hc : gC (oK false η) κ cX3_mapRom 3 RX3 none rm_X3_mapRom := hc
  unfold sp_X3_mapRom
  refine g_iconst (v := 2) hc dX3_mapRom_0 (by decide) ?_
  refine g_aload_n (i := 0) hc 0 dX3_mapRom_1 rfl rfl ?_
  refine gf_K_1_prgBank_false hc wtC_12 dX3_mapRom_2 ?_
  refine g_iconst (v := 3) hc dX3_mapRom_5 (by decide) ?_
  refine g_iand hc dX3_mapRom_6 ?_
  refine g_imul hc dX3_mapRom_7 ?_
  refine g_istore_n (i := 1) (lv' := [(1, .int (2 * ((S.1 5) &&& 3))), (0, .ref (η.1 1))]) hc dX3_mapRom_8 rfl (by decide) rfl ?_
  refine g_aload_n (i := 0) hc 1 dX3_mapRom_9 rfl rfl ?_
  refine gf_K_1_prgMode_false hc wtC_8 dX3_mapRom_10 ?_
  refine g_iconst (v := 2) hc dX3_mapRom_13 (by decide) ?_
  refine g_icmpne (tgt := 30) hc dX3_mapRom_14 rfl (fun c_14 => ?_) (fun c_14 => ?_)
  · refine g_aload_n (i := 0) hc 1 dX3_mapRom_17 rfl rfl ?_
    refine g_iconst (v := 0) hc dX3_mapRom_18 (by decide) ?_
    refine g_iconst (v := 1) hc dX3_mapRom_19 (by decide) ?_
    refine g_iload_n (i := 1) hc 0 dX3_mapRom_20 rfl rfl ?_
    refine g_iload_n (i := 1) hc 0 dX3_mapRom_21 rfl rfl ?_
    refine g_iconst (v := 1) hc dX3_mapRom_22 (by decide) ?_
    refine g_iadd hc dX3_mapRom_23 ?_
    refine g_callWV (C := RX3) (x := ⟨"GameConsole$Mmc1", "setRomBanks", "(IIII)V"⟩) (owner := "GameConsole$Cartridge") hc 0 [.int 0, .int 1, .int (2 * ((S.1 5) &&& 3)), .int ((2 * ((S.1 5) &&& 3)) + 1)] (fun l => k_X1_setRomBanks l false η 0 1 (2 * ((S.1 5) &&& 3)) ((2 * ((S.1 5) &&& 3)) + 1) S) wtC_16 wtC_17 wtC_18 gu_X1_setRomBanks rfl ⟨rfl, rfl⟩ rfl ⟨Nat.le_of_ble_eq_true rfl, Nat.le_of_ble_eq_true rfl⟩ rfl rfl rfl (Nat.le_of_ble_eq_true rfl) dX3_mapRom_24 (fun r1 S1 e1 f1 => ?_)
    refine g_goto (tgt := 78) hc dX3_mapRom_27 rfl ?_
    exact g_vret hc dX3_mapRom_78
  · refine g_aload_n (i := 0) hc 1 dX3_mapRom_30 rfl rfl ?_
    refine gf_K_1_prgMode_false hc wtC_8 dX3_mapRom_31 ?_
    refine g_iconst (v := 3) hc dX3_mapRom_34 (by decide) ?_
    refine g_icmpne (tgt := 53) hc dX3_mapRom_35 rfl (fun c_35 => ?_) (fun c_35 => ?_)
    · refine g_aload_n (i := 0) hc 1 dX3_mapRom_38 rfl rfl ?_
      refine g_iload_n (i := 1) hc 0 dX3_mapRom_39 rfl rfl ?_
      refine g_iload_n (i := 1) hc 0 dX3_mapRom_40 rfl rfl ?_
      refine g_iconst (v := 1) hc dX3_mapRom_41 (by decide) ?_
      refine g_iadd hc dX3_mapRom_42 ?_
      refine g_bipush (v := 6) hc dX3_mapRom_43 (by decide) ?_
      refine g_bipush (v := 7) hc dX3_mapRom_45 (by decide) ?_
      refine g_callWV (C := RX3) (x := ⟨"GameConsole$Mmc1", "setRomBanks", "(IIII)V"⟩) (owner := "GameConsole$Cartridge") hc 0 [.int (2 * ((S.1 5) &&& 3)), .int ((2 * ((S.1 5) &&& 3)) + 1), .int 6, .int 7] (fun l => k_X1_setRomBanks l false η (2 * ((S.1 5) &&& 3)) ((2 * ((S.1 5) &&& 3)) + 1) 6 7 S) wtC_16 wtC_17 wtC_18 gu_X1_setRomBanks rfl ⟨rfl, rfl⟩ rfl ⟨Nat.le_of_ble_eq_true rfl, Nat.le_of_ble_eq_true rfl⟩ rfl rfl rfl (Nat.le_of_ble_eq_true rfl) dX3_mapRom_47 (fun r2 S2 e2 f2 => ?_)
      refine g_goto (tgt := 78) hc dX3_mapRom_50 rfl ?_
      exact g_vret hc dX3_mapRom_78
    · refine g_iconst (v := 4) hc dX3_mapRom_53 (by decide) ?_
      refine g_aload_n (i := 0) hc 1 dX3_mapRom_54 rfl rfl ?_
      refine gf_K_1_prgBank_false hc wtC_12 dX3_mapRom_55 ?_
      refine g_iconst (v := 1) hc dX3_mapRom_58 (by decide) ?_
      refine g_ishr hc dX3_mapRom_59 ?_
      refine g_iconst (v := 1) hc dX3_mapRom_60 (by decide) ?_
      refine g_iand hc dX3_mapRom_61 ?_
      refine g_imul hc dX3_mapRom_62 ?_
      refine g_istore_n (i := 2) (lv' := [(2, .int (4 * (((S.1 5) >>> ((1 : Int32) &&& (31 : Int32))) &&& 1))), (1, .int (2 * ((S.1 5) &&& 3))), (0, .ref (η.1 1))]) hc dX3_mapRom_63 rfl (by decide) rfl ?_
      refine g_aload_n (i := 0) hc 2 dX3_mapRom_64 rfl rfl ?_
      refine g_iload_n (i := 2) hc 0 dX3_mapRom_65 rfl rfl ?_
      refine g_iload_n (i := 2) hc 0 dX3_mapRom_66 rfl rfl ?_
      refine g_iconst (v := 1) hc dX3_mapRom_67 (by decide) ?_
      refine g_iadd hc dX3_mapRom_68 ?_
      refine g_iload_n (i := 2) hc 0 dX3_mapRom_69 rfl rfl ?_
      refine g_iconst (v := 2) hc dX3_mapRom_70 (by decide) ?_
      refine g_iadd hc dX3_mapRom_71 ?_
      refine g_iload_n (i := 2) hc 0 dX3_mapRom_72 rfl rfl ?_
      refine g_iconst (v := 3) hc dX3_mapRom_73 (by decide) ?_
      refine g_iadd hc dX3_mapRom_74 ?_
      refine g_callWV (C := RX3) (x := ⟨"GameConsole$Mmc1", "setRomBanks", "(IIII)V"⟩) (owner := "GameConsole$Cartridge") hc 0 [.int (4 * (((S.1 5) >>> ((1 : Int32) &&& (31 : Int32))) &&& 1)), .int ((4 * (((S.1 5) >>> ((1 : Int32) &&& (31 : Int32))) &&& 1)) + 1), .int ((4 * (((S.1 5) >>> ((1 : Int32) &&& (31 : Int32))) &&& 1)) + 2), .int ((4 * (((S.1 5) >>> ((1 : Int32) &&& (31 : Int32))) &&& 1)) + 3)] (fun l => k_X1_setRomBanks l false η (4 * (((S.1 5) >>> ((1 : Int32) &&& (31 : Int32))) &&& 1)) ((4 * (((S.1 5) >>> ((1 : Int32) &&& (31 : Int32))) &&& 1)) + 1) ((4 * (((S.1 5) >>> ((1 : Int32) &&& (31 : Int32))) &&& 1)) + 2) ((4 * (((S.1 5) >>> ((1 : Int32) &&& (31 : Int32))) &&& 1)) + 3) S) wtC_16 wtC_17 wtC_18 gu_X1_setRomBanks rfl ⟨rfl, rfl⟩ rfl ⟨Nat.le_of_ble_eq_true rfl, Nat.le_of_ble_eq_true rfl⟩ rfl rfl rfl (Nat.le_of_ble_eq_true rfl) dX3_mapRom_75 (fun r3 S3 e3 f3 => ?_)
      exact g_vret hc dX3_mapRom_78
theorem k_X3_mapChr (l : Launch) (η : gE)  (S : gSt) : gMet l yX3_mapChr cX3_mapChr 3 none rm_X3_mapChr (oK false η) [.ref (η.1 1)] S (oV (sp_X3_mapChr S).1) (sp_X3_mapChr S).2 := by
  refine gMet_of (X := sp_X3_mapChr S) (lv := [(0, .ref (η.1 1))]) oV (zM_ok) (by decide +kernel) (Nat.le_of_ble_eq_true rfl) rfl (fun κ hc => ?_)
  have hc : gC (oK false η) κ cX3_mapChr 3 RX3 none rm_X3_mapChr := hc
  unfold sp_X3_mapChr
  refine g_aload_n (i := 0) hc 0 dX3_mapChr_0 rfl rfl ?_
  refine gf_K_1_chrMode_false hc wtC_9 dX3_mapChr_1 ?_
  refine g_ifne (tgt := 11) hc dX3_mapChr_4 rfl (fun c_4 => ?_) (fun c_4 => ?_)
  · refine g_iconst (v := 0) hc dX3_mapChr_7 (by decide) ?_
    refine g_goto (tgt := 19) hc dX3_mapChr_8 rfl ?_
    refine g_istore_n (i := 1) (lv' := [(1, .int 0), (0, .ref (η.1 1))]) hc dX3_mapChr_19 rfl (by decide) rfl ?_
    refine g_aload_n (i := 0) hc 1 dX3_mapChr_20 rfl rfl ?_
    refine gf_K_1_chrMode_false hc wtC_9 dX3_mapChr_21 ?_
    refine g_ifne (tgt := 31) hc dX3_mapChr_24 rfl (fun c_24 => ?_) (fun c_24 => ?_)
    · refine g_iconst (v := 4) hc dX3_mapChr_27 (by decide) ?_
      refine g_goto (tgt := 39) hc dX3_mapChr_28 rfl ?_
      refine g_istore_n (i := 2) (lv' := [(2, .int 4), (1, .int 0), (0, .ref (η.1 1))]) hc dX3_mapChr_39 rfl (by decide) rfl ?_
      refine g_aload_n (i := 0) hc 2 dX3_mapChr_40 rfl rfl ?_
      refine g_iconst (v := 0) hc dX3_mapChr_41 (by decide) ?_
      refine g_iload_n (i := 1) hc 1 dX3_mapChr_42 rfl rfl ?_
      refine g_iload_n (i := 1) hc 1 dX3_mapChr_43 rfl rfl ?_
      refine g_iconst (v := 1) hc dX3_mapChr_44 (by decide) ?_
      refine g_iadd hc dX3_mapChr_45 ?_
      refine g_iload_n (i := 1) hc 1 dX3_mapChr_46 rfl rfl ?_
      refine g_iconst (v := 2) hc dX3_mapChr_47 (by decide) ?_
      refine g_iadd hc dX3_mapChr_48 ?_
      refine g_iload_n (i := 1) hc 1 dX3_mapChr_49 rfl rfl ?_
      refine g_iconst (v := 3) hc dX3_mapChr_50 (by decide) ?_
      refine g_iadd hc dX3_mapChr_51 ?_
      refine g_callWV (C := RX3) (x := ⟨"GameConsole$Mmc1", "setFourChrBanks", "(IIIII)V"⟩) (owner := "GameConsole$Cartridge") hc 0 [.int 0, .int 0, .int (0 + 1), .int (0 + 2), .int (0 + 3)] (fun l => k_X1_setFourChrBanks l false η 0 0 (0 + 1) (0 + 2) (0 + 3) S) wtC_21 wtC_22 wtC_23 gu_X1_setFourChrBanks rfl ⟨rfl, rfl⟩ rfl ⟨Nat.le_of_ble_eq_true rfl, Nat.le_of_ble_eq_true rfl⟩ rfl rfl rfl (Nat.le_of_ble_eq_true rfl) dX3_mapChr_52 (fun r1 S1 e1 f1 => ?_)
      refine g_aload_n (i := 0) hc 2 dX3_mapChr_55 rfl rfl ?_
      refine g_iconst (v := 4) hc dX3_mapChr_56 (by decide) ?_
      refine g_iload_n (i := 2) hc 0 dX3_mapChr_57 rfl rfl ?_
      refine g_iload_n (i := 2) hc 0 dX3_mapChr_58 rfl rfl ?_
      refine g_iconst (v := 1) hc dX3_mapChr_59 (by decide) ?_
      refine g_iadd hc dX3_mapChr_60 ?_
      refine g_iload_n (i := 2) hc 0 dX3_mapChr_61 rfl rfl ?_
      refine g_iconst (v := 2) hc dX3_mapChr_62 (by decide) ?_
      refine g_iadd hc dX3_mapChr_63 ?_
      refine g_iload_n (i := 2) hc 0 dX3_mapChr_64 rfl rfl ?_
      refine g_iconst (v := 3) hc dX3_mapChr_65 (by decide) ?_
      refine g_iadd hc dX3_mapChr_66 ?_
      refine g_callWV (C := RX3) (x := ⟨"GameConsole$Mmc1", "setFourChrBanks", "(IIIII)V"⟩) (owner := "GameConsole$Cartridge") hc 0 [.int 4, .int 4, .int (4 + 1), .int (4 + 2), .int (4 + 3)] (fun l => k_X1_setFourChrBanks l false η 4 4 (4 + 1) (4 + 2) (4 + 3) S1) wtC_21 wtC_22 wtC_23 gu_X1_setFourChrBanks rfl ⟨rfl, rfl⟩ rfl ⟨Nat.le_of_ble_eq_true rfl, Nat.le_of_ble_eq_true rfl⟩ rfl rfl rfl (Nat.le_of_ble_eq_true rfl) dX3_mapChr_67 (fun r2 S2 e2 f2 => ?_)
      exact g_vret hc dX3_mapChr_70
    · refine g_iconst (v := 4) hc dX3_mapChr_31 (by decide) ?_
      refine g_aload_n (i := 0) hc 1 dX3_mapChr_32 rfl rfl ?_
      refine gf_K_1_secondChr_false hc wtC_11 dX3_mapChr_33 ?_
      refine g_iconst (v := 1) hc dX3_mapChr_36 (by decide) ?_
      refine g_iand hc dX3_mapChr_37 ?_
      refine g_imul hc dX3_mapChr_38 ?_
      refine g_istore_n (i := 2) (lv' := [(2, .int (4 * ((S.1 8) &&& 1))), (1, .int 0), (0, .ref (η.1 1))]) hc dX3_mapChr_39 rfl (by decide) rfl ?_
      refine g_aload_n (i := 0) hc 2 dX3_mapChr_40 rfl rfl ?_
      refine g_iconst (v := 0) hc dX3_mapChr_41 (by decide) ?_
      refine g_iload_n (i := 1) hc 1 dX3_mapChr_42 rfl rfl ?_
      refine g_iload_n (i := 1) hc 1 dX3_mapChr_43 rfl rfl ?_
      refine g_iconst (v := 1) hc dX3_mapChr_44 (by decide) ?_
      refine g_iadd hc dX3_mapChr_45 ?_
      refine g_iload_n (i := 1) hc 1 dX3_mapChr_46 rfl rfl ?_
      refine g_iconst (v := 2) hc dX3_mapChr_47 (by decide) ?_
      refine g_iadd hc dX3_mapChr_48 ?_
      refine g_iload_n (i := 1) hc 1 dX3_mapChr_49 rfl rfl ?_
      refine g_iconst (v := 3) hc dX3_mapChr_50 (by decide) ?_
      refine g_iadd hc dX3_mapChr_51 ?_
      refine g_callWV (C := RX3) (x := ⟨"GameConsole$Mmc1", "setFourChrBanks", "(IIIII)V"⟩) (owner := "GameConsole$Cartridge") hc 0 [.int 0, .int 0, .int (0 + 1), .int (0 + 2), .int (0 + 3)] (fun l => k_X1_setFourChrBanks l false η 0 0 (0 + 1) (0 + 2) (0 + 3) S) wtC_21 wtC_22 wtC_23 gu_X1_setFourChrBanks rfl ⟨rfl, rfl⟩ rfl ⟨Nat.le_of_ble_eq_true rfl, Nat.le_of_ble_eq_true rfl⟩ rfl rfl rfl (Nat.le_of_ble_eq_true rfl) dX3_mapChr_52 (fun r3 S3 e3 f3 => ?_)
      refine g_aload_n (i := 0) hc 2 dX3_mapChr_55 rfl rfl ?_
      refine g_iconst (v := 4) hc dX3_mapChr_56 (by decide) ?_
      refine g_iload_n (i := 2) hc 0 dX3_mapChr_57 rfl rfl ?_
      refine g_iload_n (i := 2) hc 0 dX3_mapChr_58 rfl rfl ?_
      refine g_iconst (v := 1) hc dX3_mapChr_59 (by decide) ?_
      refine g_iadd hc dX3_mapChr_60 ?_
      refine g_iload_n (i := 2) hc 0 dX3_mapChr_61 rfl rfl ?_
      refine g_iconst (v := 2) hc dX3_mapChr_62 (by decide) ?_
      refine g_iadd hc dX3_mapChr_63 ?_
      refine g_iload_n (i := 2) hc 0 dX3_mapChr_64 rfl rfl ?_
      refine g_iconst (v := 3) hc dX3_mapChr_65 (by decide) ?_
      refine g_iadd hc dX3_mapChr_66 ?_
      refine g_callWV (C := RX3) (x := ⟨"GameConsole$Mmc1", "setFourChrBanks", "(IIIII)V"⟩) (owner := "GameConsole$Cartridge") hc 0 [.int 4, .int (4 * ((S.1 8) &&& 1)), .int ((4 * ((S.1 8) &&& 1)) + 1), .int ((4 * ((S.1 8) &&& 1)) + 2), .int ((4 * ((S.1 8) &&& 1)) + 3)] (fun l => k_X1_setFourChrBanks l false η 4 (4 * ((S.1 8) &&& 1)) ((4 * ((S.1 8) &&& 1)) + 1) ((4 * ((S.1 8) &&& 1)) + 2) ((4 * ((S.1 8) &&& 1)) + 3) S3) wtC_21 wtC_22 wtC_23 gu_X1_setFourChrBanks rfl ⟨rfl, rfl⟩ rfl ⟨Nat.le_of_ble_eq_true rfl, Nat.le_of_ble_eq_true rfl⟩ rfl rfl rfl (Nat.le_of_ble_eq_true rfl) dX3_mapChr_67 (fun r4 S4 e4 f4 => ?_)
      exact g_vret hc dX3_mapChr_70
  · refine g_iconst (v := 4) hc dX3_mapChr_11 (by decide) ?_
    refine g_aload_n (i := 0) hc 0 dX3_mapChr_12 rfl rfl ?_
    refine gf_K_1_firstChr_false hc wtC_10 dX3_mapChr_13 ?_
    refine g_iconst (v := 1) hc dX3_mapChr_16 (by decide) ?_
    refine g_iand hc dX3_mapChr_17 ?_
    refine g_imul hc dX3_mapChr_18 ?_
    refine g_istore_n (i := 1) (lv' := [(1, .int (4 * ((S.1 7) &&& 1))), (0, .ref (η.1 1))]) hc dX3_mapChr_19 rfl (by decide) rfl ?_
    refine g_aload_n (i := 0) hc 1 dX3_mapChr_20 rfl rfl ?_
    refine gf_K_1_chrMode_false hc wtC_9 dX3_mapChr_21 ?_
    refine g_ifne (tgt := 31) hc dX3_mapChr_24 rfl (fun c_24 => ?_) (fun c_24 => ?_)
    · refine g_iconst (v := 4) hc dX3_mapChr_27 (by decide) ?_
      refine g_goto (tgt := 39) hc dX3_mapChr_28 rfl ?_
      refine g_istore_n (i := 2) (lv' := [(2, .int 4), (1, .int (4 * ((S.1 7) &&& 1))), (0, .ref (η.1 1))]) hc dX3_mapChr_39 rfl (by decide) rfl ?_
      refine g_aload_n (i := 0) hc 2 dX3_mapChr_40 rfl rfl ?_
      refine g_iconst (v := 0) hc dX3_mapChr_41 (by decide) ?_
      refine g_iload_n (i := 1) hc 1 dX3_mapChr_42 rfl rfl ?_
      refine g_iload_n (i := 1) hc 1 dX3_mapChr_43 rfl rfl ?_
      refine g_iconst (v := 1) hc dX3_mapChr_44 (by decide) ?_
      refine g_iadd hc dX3_mapChr_45 ?_
      refine g_iload_n (i := 1) hc 1 dX3_mapChr_46 rfl rfl ?_
      refine g_iconst (v := 2) hc dX3_mapChr_47 (by decide) ?_
      refine g_iadd hc dX3_mapChr_48 ?_
      refine g_iload_n (i := 1) hc 1 dX3_mapChr_49 rfl rfl ?_
      refine g_iconst (v := 3) hc dX3_mapChr_50 (by decide) ?_
      refine g_iadd hc dX3_mapChr_51 ?_
      refine g_callWV (C := RX3) (x := ⟨"GameConsole$Mmc1", "setFourChrBanks", "(IIIII)V"⟩) (owner := "GameConsole$Cartridge") hc 0 [.int 0, .int (4 * ((S.1 7) &&& 1)), .int ((4 * ((S.1 7) &&& 1)) + 1), .int ((4 * ((S.1 7) &&& 1)) + 2), .int ((4 * ((S.1 7) &&& 1)) + 3)] (fun l => k_X1_setFourChrBanks l false η 0 (4 * ((S.1 7) &&& 1)) ((4 * ((S.1 7) &&& 1)) + 1) ((4 * ((S.1 7) &&& 1)) + 2) ((4 * ((S.1 7) &&& 1)) + 3) S) wtC_21 wtC_22 wtC_23 gu_X1_setFourChrBanks rfl ⟨rfl, rfl⟩ rfl ⟨Nat.le_of_ble_eq_true rfl, Nat.le_of_ble_eq_true rfl⟩ rfl rfl rfl (Nat.le_of_ble_eq_true rfl) dX3_mapChr_52 (fun r5 S5 e5 f5 => ?_)
      refine g_aload_n (i := 0) hc 2 dX3_mapChr_55 rfl rfl ?_
      refine g_iconst (v := 4) hc dX3_mapChr_56 (by decide) ?_
      refine g_iload_n (i := 2) hc 0 dX3_mapChr_57 rfl rfl ?_
      refine g_iload_n (i := 2) hc 0 dX3_mapChr_58 rfl rfl ?_
      refine g_iconst (v := 1) hc dX3_mapChr_59 (by decide) ?_
      refine g_iadd hc dX3_mapChr_60 ?_
      refine g_iload_n (i := 2) hc 0 dX3_mapChr_61 rfl rfl ?_
      refine g_iconst (v := 2) hc dX3_mapChr_62 (by decide) ?_
      refine g_iadd hc dX3_mapChr_63 ?_
      refine g_iload_n (i := 2) hc 0 dX3_mapChr_64 rfl rfl ?_
      refine g_iconst (v := 3) hc dX3_mapChr_65 (by decide) ?_
      refine g_iadd hc dX3_mapChr_66 ?_
      refine g_callWV (C := RX3) (x := ⟨"GameConsole$Mmc1", "setFourChrBanks", "(IIIII)V"⟩) (owner := "GameConsole$Cartridge") hc 0 [.int 4, .int 4, .int (4 + 1), .int (4 + 2), .int (4 + 3)] (fun l => k_X1_setFourChrBanks l false η 4 4 (4 + 1) (4 + 2) (4 + 3) S5) wtC_21 wtC_22 wtC_23 gu_X1_setFourChrBanks rfl ⟨rfl, rfl⟩ rfl ⟨Nat.le_of_ble_eq_true rfl, Nat.le_of_ble_eq_true rfl⟩ rfl rfl rfl (Nat.le_of_ble_eq_true rfl) dX3_mapChr_67 (fun r6 S6 e6 f6 => ?_)
      exact g_vret hc dX3_mapChr_70
    · refine g_iconst (v := 4) hc dX3_mapChr_31 (by decide) ?_
      refine g_aload_n (i := 0) hc 1 dX3_mapChr_32 rfl rfl ?_
      refine gf_K_1_secondChr_false hc wtC_11 dX3_mapChr_33 ?_
      refine g_iconst (v := 1) hc dX3_mapChr_36 (by decide) ?_
      refine g_iand hc dX3_mapChr_37 ?_
      refine g_imul hc dX3_mapChr_38 ?_
      refine g_istore_n (i := 2) (lv' := [(2, .int (4 * ((S.1 8) &&& 1))), (1, .int (4 * ((S.1 7) &&& 1))), (0, .ref (η.1 1))]) hc dX3_mapChr_39 rfl (by decide) rfl ?_
      refine g_aload_n (i := 0) hc 2 dX3_mapChr_40 rfl rfl ?_
      refine g_iconst (v := 0) hc dX3_mapChr_41 (by decide) ?_
      refine g_iload_n (i := 1) hc 1 dX3_mapChr_42 rfl rfl ?_
      refine g_iload_n (i := 1) hc 1 dX3_mapChr_43 rfl rfl ?_
      refine g_iconst (v := 1) hc dX3_mapChr_44 (by decide) ?_
      refine g_iadd hc dX3_mapChr_45 ?_
      refine g_iload_n (i := 1) hc 1 dX3_mapChr_46 rfl rfl ?_
      refine g_iconst (v := 2) hc dX3_mapChr_47 (by decide) ?_
      refine g_iadd hc dX3_mapChr_48 ?_
      refine g_iload_n (i := 1) hc 1 dX3_mapChr_49 rfl rfl ?_
      refine g_iconst (v := 3) hc dX3_mapChr_50 (by decide) ?_
      refine g_iadd hc dX3_mapChr_51 ?_
      refine g_callWV (C := RX3) (x := ⟨"GameConsole$Mmc1", "setFourChrBanks", "(IIIII)V"⟩) (owner := "GameConsole$Cartridge") hc 0 [.int 0, .int (4 * ((S.1 7) &&& 1)), .int ((4 * ((S.1 7) &&& 1)) + 1), .int ((4 * ((S.1 7) &&& 1)) + 2), .int ((4 * ((S.1 7) &&& 1)) + 3)] (fun l => k_X1_setFourChrBanks l false η 0 (4 * ((S.1 7) &&& 1)) ((4 * ((S.1 7) &&& 1)) + 1) ((4 * ((S.1 7) &&& 1)) + 2) ((4 * ((S.1 7) &&& 1)) + 3) S) wtC_21 wtC_22 wtC_23 gu_X1_setFourChrBanks rfl ⟨rfl, rfl⟩ rfl ⟨Nat.le_of_ble_eq_true rfl, Nat.le_of_ble_eq_true rfl⟩ rfl rfl rfl (Nat.le_of_ble_eq_true rfl) dX3_mapChr_52 (fun r7 S7 e7 f7 => ?_)
      refine g_aload_n (i := 0) hc 2 dX3_mapChr_55 rfl rfl ?_
      refine g_iconst (v := 4) hc dX3_mapChr_56 (by decide) ?_
      refine g_iload_n (i := 2) hc 0 dX3_mapChr_57 rfl rfl ?_
      refine g_iload_n (i := 2) hc 0 dX3_mapChr_58 rfl rfl ?_
      refine g_iconst (v := 1) hc dX3_mapChr_59 (by decide) ?_
      refine g_iadd hc dX3_mapChr_60 ?_
      refine g_iload_n (i := 2) hc 0 dX3_mapChr_61 rfl rfl ?_
      refine g_iconst (v := 2) hc dX3_mapChr_62 (by decide) ?_
      refine g_iadd hc dX3_mapChr_63 ?_
      refine g_iload_n (i := 2) hc 0 dX3_mapChr_64 rfl rfl ?_
      refine g_iconst (v := 3) hc dX3_mapChr_65 (by decide) ?_
      refine g_iadd hc dX3_mapChr_66 ?_
      refine g_callWV (C := RX3) (x := ⟨"GameConsole$Mmc1", "setFourChrBanks", "(IIIII)V"⟩) (owner := "GameConsole$Cartridge") hc 0 [.int 4, .int (4 * ((S.1 8) &&& 1)), .int ((4 * ((S.1 8) &&& 1)) + 1), .int ((4 * ((S.1 8) &&& 1)) + 2), .int ((4 * ((S.1 8) &&& 1)) + 3)] (fun l => k_X1_setFourChrBanks l false η 4 (4 * ((S.1 8) &&& 1)) ((4 * ((S.1 8) &&& 1)) + 1) ((4 * ((S.1 8) &&& 1)) + 2) ((4 * ((S.1 8) &&& 1)) + 3) S7) wtC_21 wtC_22 wtC_23 gu_X1_setFourChrBanks rfl ⟨rfl, rfl⟩ rfl ⟨Nat.le_of_ble_eq_true rfl, Nat.le_of_ble_eq_true rfl⟩ rfl rfl rfl (Nat.le_of_ble_eq_true rfl) dX3_mapChr_67 (fun r8 S8 e8 f8 => ?_)
      exact g_vret hc dX3_mapChr_70
theorem k_X4_mapRom (l : Launch) (η : gE)  (S : gSt) : gMet l yX4_mapRom cX4_mapRom 1 none rm_X4_mapRom (oK true η) [.ref (η.1 1)] S (oV (sp_X4_mapRom S).1) (sp_X4_mapRom S).2 := by
  refine gMet_of (X := sp_X4_mapRom S) (lv := [(0, .ref (η.1 1))]) oV (zM_ok) (by decide +kernel) (Nat.le_of_ble_eq_true rfl) rfl (fun κ hc => ?_)
  have hc : gC (oK true η) κ cX4_mapRom 1 RX4 none rm_X4_mapRom := hc
  unfold sp_X4_mapRom
  refine g_aload_n (i := 0) hc 0 dX4_mapRom_0 rfl rfl ?_
  refine gf_K_1_select_true hc wtC_46 dX4_mapRom_1 ?_
  refine g_bipush (v := 64) hc dX4_mapRom_4 (by decide) ?_
  refine g_iand hc dX4_mapRom_6 ?_
  refine g_ifne (tgt := 35) hc dX4_mapRom_7 rfl (fun c_7 => ?_) (fun c_7 => ?_)
  · refine g_aload_n (i := 0) hc 0 dX4_mapRom_10 rfl rfl ?_
    refine g_aload_n (i := 0) hc 0 dX4_mapRom_11 rfl rfl ?_
    refine gf_K_1_registers_true hc wtC_47 dX4_mapRom_12 ?_
    refine g_bipush (v := 6) hc dX4_mapRom_15 (by decide) ?_
    refine al_K_19 hc (vp_in_iff.mpr (by decide)) dX4_mapRom_17 ?_
    refine g_aload_n (i := 0) hc 0 dX4_mapRom_18 rfl rfl ?_
    refine gf_K_1_registers_true hc wtC_47 dX4_mapRom_19 ?_
    refine g_bipush (v := 7) hc dX4_mapRom_22 (by decide) ?_
    refine al_K_19 hc (vp_in_iff.mpr (by decide)) dX4_mapRom_24 ?_
    refine g_bipush (v := 6) hc dX4_mapRom_25 (by decide) ?_
    refine g_bipush (v := 7) hc dX4_mapRom_27 (by decide) ?_
    refine g_callWV (C := RX4) (x := ⟨"GameConsole$Mmc3", "setRomBanks", "(IIII)V"⟩) (owner := "GameConsole$Cartridge") hc 0 [.int (aG S 19 6), .int (aG S 19 7), .int 6, .int 7] (fun l => k_X1_setRomBanks l true η (aG S 19 6) (aG S 19 7) 6 7 S) wtC_48 wtC_49 wtC_50 gu_X1_setRomBanks rfl ⟨rfl, rfl⟩ rfl ⟨Nat.le_of_ble_eq_true rfl, Nat.le_of_ble_eq_true rfl⟩ rfl rfl rfl (Nat.le_of_ble_eq_true rfl) dX4_mapRom_29 (fun r1 S1 e1 f1 => ?_)
    refine g_goto (tgt := 57) hc dX4_mapRom_32 rfl ?_
    exact g_vret hc dX4_mapRom_57
  · refine g_aload_n (i := 0) hc 0 dX4_mapRom_35 rfl rfl ?_
    refine g_bipush (v := 6) hc dX4_mapRom_36 (by decide) ?_
    refine g_aload_n (i := 0) hc 0 dX4_mapRom_38 rfl rfl ?_
    refine gf_K_1_registers_true hc wtC_47 dX4_mapRom_39 ?_
    refine g_bipush (v := 7) hc dX4_mapRom_42 (by decide) ?_
    refine al_K_19 hc (vp_in_iff.mpr (by decide)) dX4_mapRom_44 ?_
    refine g_aload_n (i := 0) hc 0 dX4_mapRom_45 rfl rfl ?_
    refine gf_K_1_registers_true hc wtC_47 dX4_mapRom_46 ?_
    refine g_bipush (v := 6) hc dX4_mapRom_49 (by decide) ?_
    refine al_K_19 hc (vp_in_iff.mpr (by decide)) dX4_mapRom_51 ?_
    refine g_bipush (v := 7) hc dX4_mapRom_52 (by decide) ?_
    refine g_callWV (C := RX4) (x := ⟨"GameConsole$Mmc3", "setRomBanks", "(IIII)V"⟩) (owner := "GameConsole$Cartridge") hc 0 [.int 6, .int (aG S 19 7), .int (aG S 19 6), .int 7] (fun l => k_X1_setRomBanks l true η 6 (aG S 19 7) (aG S 19 6) 7 S) wtC_48 wtC_49 wtC_50 gu_X1_setRomBanks rfl ⟨rfl, rfl⟩ rfl ⟨Nat.le_of_ble_eq_true rfl, Nat.le_of_ble_eq_true rfl⟩ rfl rfl rfl (Nat.le_of_ble_eq_true rfl) dX4_mapRom_54 (fun r2 S2 e2 f2 => ?_)
    exact g_vret hc dX4_mapRom_57
theorem k_X4_mapChr (l : Launch) (η : gE)  (S : gSt) : gMet l yX4_mapChr cX4_mapChr 4 none rm_X4_mapChr (oK true η) [.ref (η.1 1)] S (oV (sp_X4_mapChr S).1) (sp_X4_mapChr S).2 := by
  refine gMet_of (X := sp_X4_mapChr S) (lv := [(0, .ref (η.1 1))]) oV (zM_ok) (by decide +kernel) (Nat.le_of_ble_eq_true rfl) rfl (fun κ hc => ?_)
  have hc : gC (oK true η) κ cX4_mapChr 4 RX4 none rm_X4_mapChr := hc
  unfold sp_X4_mapChr
  refine g_aload_n (i := 0) hc 0 dX4_mapChr_0 rfl rfl ?_
  refine gf_K_1_select_true hc wtC_46 dX4_mapChr_1 ?_
  refine g_sipush (v := 128) hc dX4_mapChr_4 (by decide) ?_
  refine g_iand hc dX4_mapChr_7 ?_
  refine g_ifne (tgt := 15) hc dX4_mapChr_8 rfl (fun c_8 => ?_) (fun c_8 => ?_)
  · refine g_iconst (v := 0) hc dX4_mapChr_11 (by decide) ?_
    refine g_goto (tgt := 16) hc dX4_mapChr_12 rfl ?_
    refine g_istore_n (i := 1) (lv' := [(1, .int 0), (0, .ref (η.1 1))]) hc dX4_mapChr_16 rfl (by decide) rfl ?_
    refine g_aload_n (i := 0) hc 1 dX4_mapChr_17 rfl rfl ?_
    refine gf_K_1_registers_true hc wtC_47 dX4_mapChr_18 ?_
    refine g_iconst (v := 0) hc dX4_mapChr_21 (by decide) ?_
    refine al_K_19 hc (vp_in_iff.mpr (by decide)) dX4_mapChr_22 ?_
    refine g_istore_n (i := 2) (lv' := [(2, .int (aG S 19 0)), (1, .int 0), (0, .ref (η.1 1))]) hc dX4_mapChr_23 rfl (by decide) rfl ?_
    refine g_aload_n (i := 0) hc 2 dX4_mapChr_24 rfl rfl ?_
    refine gf_K_1_registers_true hc wtC_47 dX4_mapChr_25 ?_
    refine g_iconst (v := 1) hc dX4_mapChr_28 (by decide) ?_
    refine al_K_19 hc (vp_in_iff.mpr (by decide)) dX4_mapChr_29 ?_
    refine g_istore_n (i := 3) (lv' := [(3, .int (aG S 19 1)), (2, .int (aG S 19 0)), (1, .int 0), (0, .ref (η.1 1))]) hc dX4_mapChr_30 rfl (by decide) rfl ?_
    refine g_aload_n (i := 0) hc 3 dX4_mapChr_31 rfl rfl ?_
    refine g_iload_n (i := 1) hc 2 dX4_mapChr_32 rfl rfl ?_
    refine g_iload_n (i := 2) hc 1 dX4_mapChr_33 rfl rfl ?_
    refine g_bipush (v := (-2)) hc dX4_mapChr_34 (by decide) ?_
    refine g_iand hc dX4_mapChr_36 ?_
    refine g_iload_n (i := 2) hc 1 dX4_mapChr_37 rfl rfl ?_
    refine g_iconst (v := 1) hc dX4_mapChr_38 (by decide) ?_
    refine g_ior hc dX4_mapChr_39 ?_
    refine g_iload_n (i := 3) hc 0 dX4_mapChr_40 rfl rfl ?_
    refine g_bipush (v := (-2)) hc dX4_mapChr_41 (by decide) ?_
    refine g_iand hc dX4_mapChr_43 ?_
    refine g_iload_n (i := 3) hc 0 dX4_mapChr_44 rfl rfl ?_
    refine g_iconst (v := 1) hc dX4_mapChr_45 (by decide) ?_
    refine g_ior hc dX4_mapChr_46 ?_
    refine g_callWV (C := RX4) (x := ⟨"GameConsole$Mmc3", "setFourChrBanks", "(IIIII)V"⟩) (owner := "GameConsole$Cartridge") hc 0 [.int 0, .int ((aG S 19 0) &&& (-2)), .int ((aG S 19 0) ||| 1), .int ((aG S 19 1) &&& (-2)), .int ((aG S 19 1) ||| 1)] (fun l => k_X1_setFourChrBanks l true η 0 ((aG S 19 0) &&& (-2)) ((aG S 19 0) ||| 1) ((aG S 19 1) &&& (-2)) ((aG S 19 1) ||| 1) S) wtC_51 wtC_52 wtC_53 gu_X1_setFourChrBanks rfl ⟨rfl, rfl⟩ rfl ⟨Nat.le_of_ble_eq_true rfl, Nat.le_of_ble_eq_true rfl⟩ rfl rfl rfl (Nat.le_of_ble_eq_true rfl) dX4_mapChr_47 (fun r1 S1 e1 f1 => ?_)
    refine g_aload_n (i := 0) hc 3 dX4_mapChr_50 rfl rfl ?_
    refine g_iconst (v := 4) hc dX4_mapChr_51 (by decide) ?_
    refine g_iload_n (i := 1) hc 2 dX4_mapChr_52 rfl rfl ?_
    refine g_isub hc dX4_mapChr_53 ?_
    refine g_aload_n (i := 0) hc 3 dX4_mapChr_54 rfl rfl ?_
    refine gf_K_1_registers_true hc wtC_47 dX4_mapChr_55 ?_
    refine g_iconst (v := 2) hc dX4_mapChr_58 (by decide) ?_
    refine al_K_19 hc (vp_in_iff.mpr (by decide)) dX4_mapChr_59 ?_
    refine g_aload_n (i := 0) hc 3 dX4_mapChr_60 rfl rfl ?_
    refine gf_K_1_registers_true hc wtC_47 dX4_mapChr_61 ?_
    refine g_iconst (v := 3) hc dX4_mapChr_64 (by decide) ?_
    refine al_K_19 hc (vp_in_iff.mpr (by decide)) dX4_mapChr_65 ?_
    refine g_aload_n (i := 0) hc 3 dX4_mapChr_66 rfl rfl ?_
    refine gf_K_1_registers_true hc wtC_47 dX4_mapChr_67 ?_
    refine g_iconst (v := 4) hc dX4_mapChr_70 (by decide) ?_
    refine al_K_19 hc (vp_in_iff.mpr (by decide)) dX4_mapChr_71 ?_
    refine g_aload_n (i := 0) hc 3 dX4_mapChr_72 rfl rfl ?_
    refine gf_K_1_registers_true hc wtC_47 dX4_mapChr_73 ?_
    refine g_iconst (v := 5) hc dX4_mapChr_76 (by decide) ?_
    refine al_K_19 hc (vp_in_iff.mpr (by decide)) dX4_mapChr_77 ?_
    refine g_callWV (C := RX4) (x := ⟨"GameConsole$Mmc3", "setFourChrBanks", "(IIIII)V"⟩) (owner := "GameConsole$Cartridge") hc 0 [.int (4 - 0), .int (aG S1 19 2), .int (aG S1 19 3), .int (aG S1 19 4), .int (aG S1 19 5)] (fun l => k_X1_setFourChrBanks l true η (4 - 0) (aG S1 19 2) (aG S1 19 3) (aG S1 19 4) (aG S1 19 5) S1) wtC_51 wtC_52 wtC_53 gu_X1_setFourChrBanks rfl ⟨rfl, rfl⟩ rfl ⟨Nat.le_of_ble_eq_true rfl, Nat.le_of_ble_eq_true rfl⟩ rfl rfl rfl (Nat.le_of_ble_eq_true rfl) dX4_mapChr_78 (fun r2 S2 e2 f2 => ?_)
    exact g_vret hc dX4_mapChr_81
  · refine g_iconst (v := 4) hc dX4_mapChr_15 (by decide) ?_
    refine g_istore_n (i := 1) (lv' := [(1, .int 4), (0, .ref (η.1 1))]) hc dX4_mapChr_16 rfl (by decide) rfl ?_
    refine g_aload_n (i := 0) hc 1 dX4_mapChr_17 rfl rfl ?_
    refine gf_K_1_registers_true hc wtC_47 dX4_mapChr_18 ?_
    refine g_iconst (v := 0) hc dX4_mapChr_21 (by decide) ?_
    refine al_K_19 hc (vp_in_iff.mpr (by decide)) dX4_mapChr_22 ?_
    refine g_istore_n (i := 2) (lv' := [(2, .int (aG S 19 0)), (1, .int 4), (0, .ref (η.1 1))]) hc dX4_mapChr_23 rfl (by decide) rfl ?_
    refine g_aload_n (i := 0) hc 2 dX4_mapChr_24 rfl rfl ?_
    refine gf_K_1_registers_true hc wtC_47 dX4_mapChr_25 ?_
    refine g_iconst (v := 1) hc dX4_mapChr_28 (by decide) ?_
    refine al_K_19 hc (vp_in_iff.mpr (by decide)) dX4_mapChr_29 ?_
    refine g_istore_n (i := 3) (lv' := [(3, .int (aG S 19 1)), (2, .int (aG S 19 0)), (1, .int 4), (0, .ref (η.1 1))]) hc dX4_mapChr_30 rfl (by decide) rfl ?_
    refine g_aload_n (i := 0) hc 3 dX4_mapChr_31 rfl rfl ?_
    refine g_iload_n (i := 1) hc 2 dX4_mapChr_32 rfl rfl ?_
    refine g_iload_n (i := 2) hc 1 dX4_mapChr_33 rfl rfl ?_
    refine g_bipush (v := (-2)) hc dX4_mapChr_34 (by decide) ?_
    refine g_iand hc dX4_mapChr_36 ?_
    refine g_iload_n (i := 2) hc 1 dX4_mapChr_37 rfl rfl ?_
    refine g_iconst (v := 1) hc dX4_mapChr_38 (by decide) ?_
    refine g_ior hc dX4_mapChr_39 ?_
    refine g_iload_n (i := 3) hc 0 dX4_mapChr_40 rfl rfl ?_
    refine g_bipush (v := (-2)) hc dX4_mapChr_41 (by decide) ?_
    refine g_iand hc dX4_mapChr_43 ?_
    refine g_iload_n (i := 3) hc 0 dX4_mapChr_44 rfl rfl ?_
    refine g_iconst (v := 1) hc dX4_mapChr_45 (by decide) ?_
    refine g_ior hc dX4_mapChr_46 ?_
    refine g_callWV (C := RX4) (x := ⟨"GameConsole$Mmc3", "setFourChrBanks", "(IIIII)V"⟩) (owner := "GameConsole$Cartridge") hc 0 [.int 4, .int ((aG S 19 0) &&& (-2)), .int ((aG S 19 0) ||| 1), .int ((aG S 19 1) &&& (-2)), .int ((aG S 19 1) ||| 1)] (fun l => k_X1_setFourChrBanks l true η 4 ((aG S 19 0) &&& (-2)) ((aG S 19 0) ||| 1) ((aG S 19 1) &&& (-2)) ((aG S 19 1) ||| 1) S) wtC_51 wtC_52 wtC_53 gu_X1_setFourChrBanks rfl ⟨rfl, rfl⟩ rfl ⟨Nat.le_of_ble_eq_true rfl, Nat.le_of_ble_eq_true rfl⟩ rfl rfl rfl (Nat.le_of_ble_eq_true rfl) dX4_mapChr_47 (fun r3 S3 e3 f3 => ?_)
    refine g_aload_n (i := 0) hc 3 dX4_mapChr_50 rfl rfl ?_
    refine g_iconst (v := 4) hc dX4_mapChr_51 (by decide) ?_
    refine g_iload_n (i := 1) hc 2 dX4_mapChr_52 rfl rfl ?_
    refine g_isub hc dX4_mapChr_53 ?_
    refine g_aload_n (i := 0) hc 3 dX4_mapChr_54 rfl rfl ?_
    refine gf_K_1_registers_true hc wtC_47 dX4_mapChr_55 ?_
    refine g_iconst (v := 2) hc dX4_mapChr_58 (by decide) ?_
    refine al_K_19 hc (vp_in_iff.mpr (by decide)) dX4_mapChr_59 ?_
    refine g_aload_n (i := 0) hc 3 dX4_mapChr_60 rfl rfl ?_
    refine gf_K_1_registers_true hc wtC_47 dX4_mapChr_61 ?_
    refine g_iconst (v := 3) hc dX4_mapChr_64 (by decide) ?_
    refine al_K_19 hc (vp_in_iff.mpr (by decide)) dX4_mapChr_65 ?_
    refine g_aload_n (i := 0) hc 3 dX4_mapChr_66 rfl rfl ?_
    refine gf_K_1_registers_true hc wtC_47 dX4_mapChr_67 ?_
    refine g_iconst (v := 4) hc dX4_mapChr_70 (by decide) ?_
    refine al_K_19 hc (vp_in_iff.mpr (by decide)) dX4_mapChr_71 ?_
    refine g_aload_n (i := 0) hc 3 dX4_mapChr_72 rfl rfl ?_
    refine gf_K_1_registers_true hc wtC_47 dX4_mapChr_73 ?_
    refine g_iconst (v := 5) hc dX4_mapChr_76 (by decide) ?_
    refine al_K_19 hc (vp_in_iff.mpr (by decide)) dX4_mapChr_77 ?_
    refine g_callWV (C := RX4) (x := ⟨"GameConsole$Mmc3", "setFourChrBanks", "(IIIII)V"⟩) (owner := "GameConsole$Cartridge") hc 0 [.int (4 - 4), .int (aG S3 19 2), .int (aG S3 19 3), .int (aG S3 19 4), .int (aG S3 19 5)] (fun l => k_X1_setFourChrBanks l true η (4 - 4) (aG S3 19 2) (aG S3 19 3) (aG S3 19 4) (aG S3 19 5) S3) wtC_51 wtC_52 wtC_53 gu_X1_setFourChrBanks rfl ⟨rfl, rfl⟩ rfl ⟨Nat.le_of_ble_eq_true rfl, Nat.le_of_ble_eq_true rfl⟩ rfl rfl rfl (Nat.le_of_ble_eq_true rfl) dX4_mapChr_78 (fun r4 S4 e4 f4 => ?_)
    exact g_vret hc dX4_mapChr_81
end WK
