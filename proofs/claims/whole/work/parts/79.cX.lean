theorem wtC_460 : Cond.fieldLink RX9 67 "GameConsole$Cartridge" "rom" "[I" ∈ WT := wt_m (List.mem_of_getElem? (i := 167) (by decide +kernel)) (by decide +kernel)
theorem wtC_461 : Cond.fieldLink RX9 75 "GameConsole$Cartridge" "chr" "[I" ∈ WT := wt_m (List.mem_of_getElem? (i := 169) (by decide +kernel)) (by decide +kernel)
theorem wtC_462 : Cond.fieldLink RX9 38 "GameConsole" "pads" "LGameConsole$Pads;" ∈ WT := wt_m (List.mem_of_getElem? (i := 439) (by decide +kernel)) (by decide +kernel)
theorem wtC_463 : Cond.fieldLink RX9 199 "GameConsole$Cartridge" "mirroring" "I" ∈ WT := wt_m (List.mem_of_getElem? (i := 179) (by decide +kernel)) (by decide +kernel)
theorem wtC_464 : Cond.methodLink RX9 202 ⟨"GameConsole$Cartridge", "lineCounter", "()I"⟩ ∈ WT := wt_m (List.mem_of_getElem? (i := 974) (by decide +kernel)) (by decide +kernel)
theorem wtC_465 : Cond.fieldLink RX9 196 "GameConsole$Cartridge" "chrBanks" "[I" ∈ WT := wt_m (List.mem_of_getElem? (i := 173) (by decide +kernel)) (by decide +kernel)
theorem wtC_466 : Cond.fieldLink RX9 193 "GameConsole$Cartridge" "romBanks" "[I" ∈ WT := wt_m (List.mem_of_getElem? (i := 171) (by decide +kernel)) (by decide +kernel)
theorem v_lt (n : Nat) {a : Int32} (h1 : ¬ a < 0) (h2 : a < nI n) (hn : n < 2 ^ 31) : vp_in a n := by
  obtain ⟨j, hj, rfl⟩ := nI_of h1
  exact in_n (Nat.not_le.mp (fun z => nI_nlt z hj h2)) hn
theorem v_le (n : Nat) {a : Int32} (h1 : ¬ a < 0) (h2 : a ≤ nI n) (hn : n + 1 < 2 ^ 31) : vp_in a (n + 1) := by
  obtain ⟨j, hj, rfl⟩ := nI_of h1
  exact in_n (Nat.not_le.mp (fun z => nI_ge (a := n) (b := j) (by omega) hj h2)) hn
theorem v_nle (n : Nat) {a : Int32} (h1 : ¬ a < 0) (h2 : ¬ nI n ≤ a) (hn : n < 2 ^ 31) : vp_in a n := by
  obtain ⟨j, hj, rfl⟩ := nI_of h1
  exact in_n (Nat.not_le.mp (fun z => h2 (nI_le z hj))) hn
theorem v_m4 {a : Int32} (h1 : 4 ≤ a) (h2 : ¬ 12 ≤ a) : vp_in (a - 4) 8 := by
  have h0 : ¬ a < 0 := fun z => absurd (Int32.lt_of_le_of_lt h1 z) (by decide)
  obtain ⟨j, hj, rfl⟩ := nI_of h0
  have g1 : 4 ≤ j := Nat.not_lt.mp (fun z => nI_ge (b := 4) z (by omega) h1)
  have g2 : j < 12 := Nat.not_le.mp (fun z => h2 (nI_le (a := 12) z hj))
  rw [show nI j - 4 = nI (j - 4) from nI_sub (b := 4) g1]
  exact in_n (by omega) (by omega)
theorem v_ne4 {a : Int32} (h1 : ¬ a < 0) (h2 : a ≤ 4) (h3 : ¬ a = 4) : vp_in a 4 := by
  obtain ⟨j, hj, rfl⟩ := nI_of h1
  have g1 : j ≤ 4 := Nat.not_lt.mp (fun z => nI_ge (a := 4) z hj h2)
  exact in_n (by have : j ≠ 4 := fun z => h3 (by rw [z]; rfl); omega) (by omega)
section RX
variable {ρ : Type} {k : Bool} {η : gE} {κ : gK} {cc : ByteArray} {nL : Nat} {own : String} {ret : Option FieldType} {rm : Room} {out : ρ → Option Value} {pc : Nat} {lv : List (Nat × Value)} {rest : List Value} {S : gSt} {X : ρ × gSt}
theorem as_C_2 (hc : gC (oC k η) κ cc nL own ret rm) {i x : Int32} {F : gSt → ρ × gSt} (hin : vp_in i 512) (hd : decode cc pc = .ok (.iastore, 1)) (kk : ∀ S1 : gSt, S1 = aP S 2 i x → gG (oC k η) κ nL out (pc + 1) lv rest S1 (F S1)) : gG (oC k η) κ nL out pc lv (.int x :: .int i :: .ref (η.1 2) :: rest) S (gL (aP S 2 i x) F) := g_iast hc 2 0 rfl rfl hin (by cases k <;> rfl) hd kk
theorem as_C_3 (hc : gC (oC k η) κ cc nL own ret rm) {i x : Int32} {F : gSt → ρ × gSt} (hin : vp_in i 128) (hd : decode cc pc = .ok (.iastore, 1)) (kk : ∀ S1 : gSt, S1 = aP S 3 i x → gG (oC k η) κ nL out (pc + 1) lv rest S1 (F S1)) : gG (oC k η) κ nL out pc lv (.int x :: .int i :: .ref (η.1 3) :: rest) S (gL (aP S 3 i x) F) := g_iast hc 3 0 rfl rfl hin (by cases k <;> rfl) hd kk
theorem gf_C_0_pads (hc : gC (oC k η) κ cc nL own ret rm) {i : Nat} (hm : Cond.fieldLink own i "GameConsole" "pads" "LGameConsole$Pads;" ∈ WT) (hd : decode cc pc = .ok (.getfield i, 3)) (kk : gG (oC k η) κ nL out (pc + 3) lv (.ref (η.1 12) :: rest) S X) : gG (oC k η) κ nL out pc lv (.ref (η.1 0) :: rest) S X := g_get hc (C := RX9) (T := TX9) (N := 7) (ci := 7) 0 3 wu_X9 hm (Or.inl rfl) (by decide) rfl rfl rfl hd kk
theorem gf_C_12_buttons_nest_119 (hc : gC (oC k η) κ cc nL RX9 ret rm) (hd : decode cc pc = .ok (.getfield 119, 3)) (kk : gG (oC k η) κ nL out (pc + 3) lv (.ref (η.1 13) :: rest) S X) : gG (oC k η) κ nL out pc lv (.ref (η.1 12) :: rest) S X := g_getN hc (C := RX6) (T := TX6) (N := 3) (ci := 4) 12 0 wu_X6 (zC_n η (w := .fieldLinkNest RX9 119 "GameConsole$Pads" "buttons" "[I" "GameConsole") (by decide +kernel)) (Or.inl rfl) (by decide) rfl rfl rfl hd kk
theorem as_C_13 (hc : gC (oC k η) κ cc nL own ret rm) {i x : Int32} {F : gSt → ρ × gSt} (hin : vp_in i 2) (hd : decode cc pc = .ok (.iastore, 1)) (kk : ∀ S1 : gSt, S1 = aP S 13 i x → gG (oC k η) κ nL out (pc + 1) lv rest S1 (F S1)) : gG (oC k η) κ nL out pc lv (.int x :: .int i :: .ref (η.1 13) :: rest) S (gL (aP S 13 i x) F) := g_iast hc 13 0 rfl rfl hin (by cases k <;> rfl) hd kk
theorem gf_C_18_a_nest_122 (hc : gC (oC k η) κ cc nL RX9 ret rm) (hd : decode cc pc = .ok (.getfield 122, 3)) (kk : gG (oC k η) κ nL out (pc + 3) lv (.int (S.1 27) :: rest) S X) : gG (oC k η) κ nL out pc lv (.ref (η.1 18) :: rest) S X := g_getN hc (C := RX2) (T := TX2) (N := 8) (ci := 1) 18 1 wu_X2 (zC_n η (w := .fieldLinkNest RX9 122 "GameConsole$Core" "a" "I" "GameConsole") (by decide +kernel)) (Or.inl rfl) (by decide) rfl rfl rfl hd kk
theorem gf_C_18_x_nest_126 (hc : gC (oC k η) κ cc nL RX9 ret rm) (hd : decode cc pc = .ok (.getfield 126, 3)) (kk : gG (oC k η) κ nL out (pc + 3) lv (.int (S.1 28) :: rest) S X) : gG (oC k η) κ nL out pc lv (.ref (η.1 18) :: rest) S X := g_getN hc (C := RX2) (T := TX2) (N := 8) (ci := 1) 18 2 wu_X2 (zC_n η (w := .fieldLinkNest RX9 126 "GameConsole$Core" "x" "I" "GameConsole") (by decide +kernel)) (Or.inl rfl) (by decide) rfl rfl rfl hd kk
theorem gf_C_18_y_nest_129 (hc : gC (oC k η) κ cc nL RX9 ret rm) (hd : decode cc pc = .ok (.getfield 129, 3)) (kk : gG (oC k η) κ nL out (pc + 3) lv (.int (S.1 29) :: rest) S X) : gG (oC k η) κ nL out pc lv (.ref (η.1 18) :: rest) S X := g_getN hc (C := RX2) (T := TX2) (N := 8) (ci := 1) 18 3 wu_X2 (zC_n η (w := .fieldLinkNest RX9 129 "GameConsole$Core" "y" "I" "GameConsole") (by decide +kernel)) (Or.inl rfl) (by decide) rfl rfl rfl hd kk
theorem gf_C_18_s_nest_132 (hc : gC (oC k η) κ cc nL RX9 ret rm) (hd : decode cc pc = .ok (.getfield 132, 3)) (kk : gG (oC k η) κ nL out (pc + 3) lv (.int (S.1 30) :: rest) S X) : gG (oC k η) κ nL out pc lv (.ref (η.1 18) :: rest) S X := g_getN hc (C := RX2) (T := TX2) (N := 8) (ci := 1) 18 4 wu_X2 (zC_n η (w := .fieldLinkNest RX9 132 "GameConsole$Core" "s" "I" "GameConsole") (by decide +kernel)) (Or.inl rfl) (by decide) rfl rfl rfl hd kk
theorem gf_C_18_p_nest_135 (hc : gC (oC k η) κ cc nL RX9 ret rm) (hd : decode cc pc = .ok (.getfield 135, 3)) (kk : gG (oC k η) κ nL out (pc + 3) lv (.int (S.1 31) :: rest) S X) : gG (oC k η) κ nL out pc lv (.ref (η.1 18) :: rest) S X := g_getN hc (C := RX2) (T := TX2) (N := 8) (ci := 1) 18 5 wu_X2 (zC_n η (w := .fieldLinkNest RX9 135 "GameConsole$Core" "p" "I" "GameConsole") (by decide +kernel)) (Or.inl rfl) (by decide) rfl rfl rfl hd kk
theorem gf_C_18_pc_nest_138 (hc : gC (oC k η) κ cc nL RX9 ret rm) (hd : decode cc pc = .ok (.getfield 138, 3)) (kk : gG (oC k η) κ nL out (pc + 3) lv (.int (S.1 32) :: rest) S X) : gG (oC k η) κ nL out pc lv (.ref (η.1 18) :: rest) S X := g_getN hc (C := RX2) (T := TX2) (N := 8) (ci := 1) 18 6 wu_X2 (zC_n η (w := .fieldLinkNest RX9 138 "GameConsole$Core" "pc" "I" "GameConsole") (by decide +kernel)) (Or.inl rfl) (by decide) rfl rfl rfl hd kk
theorem gf_C_6_nmiPending_nest_144 (hc : gC (oC k η) κ cc nL RX9 ret rm) (hd : decode cc pc = .ok (.getfield 144, 3)) (kk : gG (oC k η) κ nL out (pc + 3) lv (.int (bI (S.2.1 2)) :: rest) S X) : gG (oC k η) κ nL out pc lv (.ref (η.1 6) :: rest) S X := g_getN hc (C := RX7) (T := TX7) (N := 16) (ci := 5) 6 15 wu_X7 (zC_n η (w := .fieldLinkNest RX9 144 "GameConsole$PictureUnit" "nmiPending" "Z" "GameConsole") (by decide +kernel)) (Or.inl rfl) (by decide) rfl rfl rfl hd kk
theorem gf_C_6_v_nest_150 (hc : gC (oC k η) κ cc nL RX9 ret rm) (hd : decode cc pc = .ok (.getfield 150, 3)) (kk : gG (oC k η) κ nL out (pc + 3) lv (.int (S.1 16) :: rest) S X) : gG (oC k η) κ nL out pc lv (.ref (η.1 6) :: rest) S X := g_getN hc (C := RX7) (T := TX7) (N := 16) (ci := 5) 6 8 wu_X7 (zC_n η (w := .fieldLinkNest RX9 150 "GameConsole$PictureUnit" "v" "I" "GameConsole") (by decide +kernel)) (Or.inl rfl) (by decide) rfl rfl rfl hd kk
theorem gf_C_6_t_nest_153 (hc : gC (oC k η) κ cc nL RX9 ret rm) (hd : decode cc pc = .ok (.getfield 153, 3)) (kk : gG (oC k η) κ nL out (pc + 3) lv (.int (S.1 17) :: rest) S X) : gG (oC k η) κ nL out pc lv (.ref (η.1 6) :: rest) S X := g_getN hc (C := RX7) (T := TX7) (N := 16) (ci := 5) 6 9 wu_X7 (zC_n η (w := .fieldLinkNest RX9 153 "GameConsole$PictureUnit" "t" "I" "GameConsole") (by decide +kernel)) (Or.inl rfl) (by decide) rfl rfl rfl hd kk
theorem gf_C_6_x_nest_156 (hc : gC (oC k η) κ cc nL RX9 ret rm) (hd : decode cc pc = .ok (.getfield 156, 3)) (kk : gG (oC k η) κ nL out (pc + 3) lv (.int (S.1 18) :: rest) S X) : gG (oC k η) κ nL out pc lv (.ref (η.1 6) :: rest) S X := g_getN hc (C := RX7) (T := TX7) (N := 16) (ci := 5) 6 10 wu_X7 (zC_n η (w := .fieldLinkNest RX9 156 "GameConsole$PictureUnit" "x" "I" "GameConsole") (by decide +kernel)) (Or.inl rfl) (by decide) rfl rfl rfl hd kk
theorem gf_C_6_w_nest_157 (hc : gC (oC k η) κ cc nL RX9 ret rm) (hd : decode cc pc = .ok (.getfield 157, 3)) (kk : gG (oC k η) κ nL out (pc + 3) lv (.int (S.1 19) :: rest) S X) : gG (oC k η) κ nL out pc lv (.ref (η.1 6) :: rest) S X := g_getN hc (C := RX7) (T := TX7) (N := 16) (ci := 5) 6 11 wu_X7 (zC_n η (w := .fieldLinkNest RX9 157 "GameConsole$PictureUnit" "w" "I" "GameConsole") (by decide +kernel)) (Or.inl rfl) (by decide) rfl rfl rfl hd kk
theorem gf_C_6_ctrl_nest_160 (hc : gC (oC k η) κ cc nL RX9 ret rm) (hd : decode cc pc = .ok (.getfield 160, 3)) (kk : gG (oC k η) κ nL out (pc + 3) lv (.int (S.1 12) :: rest) S X) : gG (oC k η) κ nL out pc lv (.ref (η.1 6) :: rest) S X := g_getN hc (C := RX7) (T := TX7) (N := 16) (ci := 5) 6 4 wu_X7 (zC_n η (w := .fieldLinkNest RX9 160 "GameConsole$PictureUnit" "ctrl" "I" "GameConsole") (by decide +kernel)) (Or.inl rfl) (by decide) rfl rfl rfl hd kk
theorem gf_C_6_mask_nest_163 (hc : gC (oC k η) κ cc nL RX9 ret rm) (hd : decode cc pc = .ok (.getfield 163, 3)) (kk : gG (oC k η) κ nL out (pc + 3) lv (.int (S.1 13) :: rest) S X) : gG (oC k η) κ nL out pc lv (.ref (η.1 6) :: rest) S X := g_getN hc (C := RX7) (T := TX7) (N := 16) (ci := 5) 6 5 wu_X7 (zC_n η (w := .fieldLinkNest RX9 163 "GameConsole$PictureUnit" "mask" "I" "GameConsole") (by decide +kernel)) (Or.inl rfl) (by decide) rfl rfl rfl hd kk
theorem gf_C_6_vblank_nest_166 (hc : gC (oC k η) κ cc nL RX9 ret rm) (hd : decode cc pc = .ok (.getfield 166, 3)) (kk : gG (oC k η) κ nL out (pc + 3) lv (.int (S.1 14) :: rest) S X) : gG (oC k η) κ nL out pc lv (.ref (η.1 6) :: rest) S X := g_getN hc (C := RX7) (T := TX7) (N := 16) (ci := 5) 6 6 wu_X7 (zC_n η (w := .fieldLinkNest RX9 166 "GameConsole$PictureUnit" "vblank" "I" "GameConsole") (by decide +kernel)) (Or.inl rfl) (by decide) rfl rfl rfl hd kk
theorem gf_C_6_oamAddress_nest_169 (hc : gC (oC k η) κ cc nL RX9 ret rm) (hd : decode cc pc = .ok (.getfield 169, 3)) (kk : gG (oC k η) κ nL out (pc + 3) lv (.int (S.1 15) :: rest) S X) : gG (oC k η) κ nL out pc lv (.ref (η.1 6) :: rest) S X := g_getN hc (C := RX7) (T := TX7) (N := 16) (ci := 5) 6 7 wu_X7 (zC_n η (w := .fieldLinkNest RX9 169 "GameConsole$PictureUnit" "oamAddress" "I" "GameConsole") (by decide +kernel)) (Or.inl rfl) (by decide) rfl rfl rfl hd kk
theorem gf_C_6_line_nest_172 (hc : gC (oC k η) κ cc nL RX9 ret rm) (hd : decode cc pc = .ok (.getfield 172, 3)) (kk : gG (oC k η) κ nL out (pc + 3) lv (.int (S.1 21) :: rest) S X) : gG (oC k η) κ nL out pc lv (.ref (η.1 6) :: rest) S X := g_getN hc (C := RX7) (T := TX7) (N := 16) (ci := 5) 6 13 wu_X7 (zC_n η (w := .fieldLinkNest RX9 172 "GameConsole$PictureUnit" "line" "I" "GameConsole") (by decide +kernel)) (Or.inl rfl) (by decide) rfl rfl rfl hd kk
theorem gf_C_6_dot_nest_175 (hc : gC (oC k η) κ cc nL RX9 ret rm) (hd : decode cc pc = .ok (.getfield 175, 3)) (kk : gG (oC k η) κ nL out (pc + 3) lv (.int (S.1 22) :: rest) S X) : gG (oC k η) κ nL out pc lv (.ref (η.1 6) :: rest) S X := g_getN hc (C := RX7) (T := TX7) (N := 16) (ci := 5) 6 14 wu_X7 (zC_n η (w := .fieldLinkNest RX9 175 "GameConsole$PictureUnit" "dot" "I" "GameConsole") (by decide +kernel)) (Or.inl rfl) (by decide) rfl rfl rfl hd kk
theorem gf_C_6_buffer_nest_178 (hc : gC (oC k η) κ cc nL RX9 ret rm) (hd : decode cc pc = .ok (.getfield 178, 3)) (kk : gG (oC k η) κ nL out (pc + 3) lv (.int (S.1 20) :: rest) S X) : gG (oC k η) κ nL out pc lv (.ref (η.1 6) :: rest) S X := g_getN hc (C := RX7) (T := TX7) (N := 16) (ci := 5) 6 12 wu_X7 (zC_n η (w := .fieldLinkNest RX9 178 "GameConsole$PictureUnit" "buffer" "I" "GameConsole") (by decide +kernel)) (Or.inl rfl) (by decide) rfl rfl rfl hd kk
theorem gf_C_6_oam_nest_188 (hc : gC (oC k η) κ cc nL RX9 ret rm) (hd : decode cc pc = .ok (.getfield 188, 3)) (kk : gG (oC k η) κ nL out (pc + 3) lv (.ref (η.1 7) :: rest) S X) : gG (oC k η) κ nL out pc lv (.ref (η.1 6) :: rest) S X := g_getN hc (C := RX7) (T := TX7) (N := 16) (ci := 5) 6 1 wu_X7 (zC_n η (w := .fieldLinkNest RX9 188 "GameConsole$PictureUnit" "oam" "[I" "GameConsole") (by decide +kernel)) (Or.inl rfl) (by decide) rfl rfl rfl hd kk
theorem gf_C_10_frameCycles_nest_207 (hc : gC (oC k η) κ cc nL RX9 ret rm) (hd : decode cc pc = .ok (.getfield 207, 3)) (kk : gG (oC k η) κ nL out (pc + 3) lv (.int (S.1 25) :: rest) S X) : gG (oC k η) κ nL out pc lv (.ref (η.1 10) :: rest) S X := g_getN hc (C := RX8) (T := TX8) (N := 7) (ci := 6) 10 6 wu_X8 (zC_n η (w := .fieldLinkNest RX9 207 "GameConsole$SoundUnit" "frameCycles" "I" "GameConsole") (by decide +kernel)) (Or.inl rfl) (by decide) rfl rfl rfl hd kk
theorem gf_C_10_lengths_nest_210 (hc : gC (oC k η) κ cc nL RX9 ret rm) (hd : decode cc pc = .ok (.getfield 210, 3)) (kk : gG (oC k η) κ nL out (pc + 3) lv (.ref (η.1 11) :: rest) S X) : gG (oC k η) κ nL out pc lv (.ref (η.1 10) :: rest) S X := g_getN hc (C := RX8) (T := TX8) (N := 7) (ci := 6) 10 0 wu_X8 (zC_n η (w := .fieldLinkNest RX9 210 "GameConsole$SoundUnit" "lengths" "[I" "GameConsole") (by decide +kernel)) (Or.inl rfl) (by decide) rfl rfl rfl hd kk
end RX

abbrev rm_X9_rom : Room := { frames := 0, cells := 0, slots := 0, locals := 0 }
def sp_X9_rom (k : Bool) (a0 : Int32) (a1 : Int32) (S : gSt) : Unit × gSt := (if a0 < 0 then ((), S) else (if a0 < 512 then gL (aP S 2 a0 (a1 &&& 255)) (fun S1 => ((), S1)) else ((), S)))
set_option maxRecDepth 100000 in
set_option maxHeartbeats 4000000 in
theorem c_X9_rom (l : Launch) (k : Bool) (η : gE) (a0 : Int32) (a1 : Int32) (S : gSt) (hv : ¬ a0 < 0 ∧ a0 < 512) : gMet l yX9_rom cX9_rom 3 none rm_X9_rom (oC k η) [.ref (η.1 0), .int a0, .int a1] S (oV (sp_X9_rom k a0 a1 S).1) (sp_X9_rom k a0 a1 S).2 := by
  refine gMet_of (X := sp_X9_rom k a0 a1 S) (lv := [(0, .ref (η.1 0)), (1, .int a0), (2, .int a1)]) oV (zC_ok η) (by decide +kernel) (Nat.le_of_ble_eq_true rfl) rfl (fun κ hc => ?_)
  have hc : gC (oC k η) κ cX9_rom 3 RX9 none rm_X9_rom := hc
  unfold sp_X9_rom
  refine g_iload_n (i := 1) hc 1 dX9_rom_0 rfl rfl ?_
  refine g_iflt (tgt := 11) hc dX9_rom_1 rfl (fun c_1 => ?_) (fun c_1 => ?_)
  · exact (by first | exact absurd (by assumption) hv.1 | exact absurd hv.2 (by assumption))
  · refine g_iload_n (i := 1) hc 1 dX9_rom_4 rfl rfl ?_
    refine g_sipush (v := 512) hc dX9_rom_5 (by decide) ?_
    refine g_icmplt (tgt := 21) hc dX9_rom_8 rfl (fun c_8 => ?_) (fun c_8 => ?_)
    · refine g_aload_n (i := 0) hc 0 dX9_rom_21 rfl rfl ?_
      refine gf_C_0_cartridge hc wtC_404 dX9_rom_22 ?_
      refine gf_C_1_rom hc wtC_460 dX9_rom_25 ?_
      refine g_iload_n (i := 1) hc 1 dX9_rom_28 rfl rfl ?_
      refine g_iload_n (i := 2) hc 2 dX9_rom_29 rfl rfl ?_
      refine g_sipush (v := 255) hc dX9_rom_30 (by decide) ?_
      refine g_iand hc dX9_rom_33 ?_
      refine as_C_2 hc (v_lt 512 hv.1 hv.2 (by decide)) dX9_rom_34 (fun S1 f1 => ?_)
      exact g_vret hc dX9_rom_35
    · exact (by first | exact absurd (by assumption) hv.1 | exact absurd hv.2 (by assumption))

abbrev rm_X9_chr : Room := { frames := 0, cells := 0, slots := 0, locals := 0 }
def sp_X9_chr (k : Bool) (a0 : Int32) (a1 : Int32) (S : gSt) : Unit × gSt := (if a0 < 0 then ((), S) else (if a0 < 128 then gL (aP S 3 a0 (a1 &&& 255)) (fun S1 => ((), S1)) else ((), S)))
set_option maxRecDepth 100000 in
set_option maxHeartbeats 4000000 in
theorem c_X9_chr (l : Launch) (k : Bool) (η : gE) (a0 : Int32) (a1 : Int32) (S : gSt) (hv : ¬ a0 < 0 ∧ a0 < 128) : gMet l yX9_chr cX9_chr 3 none rm_X9_chr (oC k η) [.ref (η.1 0), .int a0, .int a1] S (oV (sp_X9_chr k a0 a1 S).1) (sp_X9_chr k a0 a1 S).2 := by
  refine gMet_of (X := sp_X9_chr k a0 a1 S) (lv := [(0, .ref (η.1 0)), (1, .int a0), (2, .int a1)]) oV (zC_ok η) (by decide +kernel) (Nat.le_of_ble_eq_true rfl) rfl (fun κ hc => ?_)
  have hc : gC (oC k η) κ cX9_chr 3 RX9 none rm_X9_chr := hc
  unfold sp_X9_chr
  refine g_iload_n (i := 1) hc 1 dX9_chr_0 rfl rfl ?_
  refine g_iflt (tgt := 11) hc dX9_chr_1 rfl (fun c_1 => ?_) (fun c_1 => ?_)
  · exact (by first | exact absurd (by assumption) hv.1 | exact absurd hv.2 (by assumption))
  · refine g_iload_n (i := 1) hc 1 dX9_chr_4 rfl rfl ?_
    refine g_sipush (v := 128) hc dX9_chr_5 (by decide) ?_
    refine g_icmplt (tgt := 21) hc dX9_chr_8 rfl (fun c_8 => ?_) (fun c_8 => ?_)
    · refine g_aload_n (i := 0) hc 0 dX9_chr_21 rfl rfl ?_
      refine gf_C_0_cartridge hc wtC_404 dX9_chr_22 ?_
      refine gf_C_1_chr hc wtC_461 dX9_chr_25 ?_
      refine g_iload_n (i := 1) hc 1 dX9_chr_28 rfl rfl ?_
      refine g_iload_n (i := 2) hc 2 dX9_chr_29 rfl rfl ?_
      refine g_sipush (v := 255) hc dX9_chr_30 (by decide) ?_
      refine g_iand hc dX9_chr_33 ?_
      refine as_C_3 hc (v_lt 128 hv.1 hv.2 (by decide)) dX9_chr_34 (fun S1 f1 => ?_)
      exact g_vret hc dX9_chr_35
    · exact (by first | exact absurd (by assumption) hv.1 | exact absurd hv.2 (by assumption))

abbrev rm_X9_pad : Room := { frames := 0, cells := 0, slots := 0, locals := 0 }
def sp_X9_pad (k : Bool) (a0 : Int32) (a1 : Int32) (S : gSt) : Unit × gSt := (if a0 < 0 then ((), S) else (if a0 ≤ 1 then gL (aP S 13 a0 (a1 &&& 255)) (fun S1 => ((), S1)) else ((), S)))
set_option maxRecDepth 100000 in
set_option maxHeartbeats 4000000 in
theorem c_X9_pad (l : Launch) (k : Bool) (η : gE) (a0 : Int32) (a1 : Int32) (S : gSt) (hv : ¬ a0 < 0 ∧ a0 ≤ 1) : gMet l yX9_pad cX9_pad 3 none rm_X9_pad (oC k η) [.ref (η.1 0), .int a0, .int a1] S (oV (sp_X9_pad k a0 a1 S).1) (sp_X9_pad k a0 a1 S).2 := by
  refine gMet_of (X := sp_X9_pad k a0 a1 S) (lv := [(0, .ref (η.1 0)), (1, .int a0), (2, .int a1)]) oV (zC_ok η) (by decide +kernel) (Nat.le_of_ble_eq_true rfl) rfl (fun κ hc => ?_)
  have hc : gC (oC k η) κ cX9_pad 3 RX9 none rm_X9_pad := hc
  unfold sp_X9_pad
  refine g_iload_n (i := 1) hc 1 dX9_pad_0 rfl rfl ?_
  refine g_iflt (tgt := 9) hc dX9_pad_1 rfl (fun c_1 => ?_) (fun c_1 => ?_)
  · exact (by first | exact absurd (by assumption) hv.1 | exact absurd hv.2 (by assumption))
  · refine g_iload_n (i := 1) hc 1 dX9_pad_4 rfl rfl ?_
    refine g_iconst (v := 1) hc dX9_pad_5 (by decide) ?_
    refine g_icmple (tgt := 19) hc dX9_pad_6 rfl (fun c_6 => ?_) (fun c_6 => ?_)
    · refine g_aload_n (i := 0) hc 0 dX9_pad_19 rfl rfl ?_
      refine gf_C_0_pads hc wtC_462 dX9_pad_20 ?_
      refine gf_C_12_buttons_nest_119 hc  dX9_pad_23 ?_
      refine g_iload_n (i := 1) hc 1 dX9_pad_26 rfl rfl ?_
      refine g_iload_n (i := 2) hc 2 dX9_pad_27 rfl rfl ?_
      refine g_sipush (v := 255) hc dX9_pad_28 (by decide) ?_
      refine g_iand hc dX9_pad_31 ?_
      refine as_C_13 hc (v_le 1 hv.1 hv.2 (by decide)) dX9_pad_32 (fun S1 f1 => ?_)
      exact g_vret hc dX9_pad_33
    · exact (by first | exact absurd (by assumption) hv.1 | exact absurd hv.2 (by assumption))

abbrev rm_X9_core : Room := { frames := 1, cells := 0, slots := 0, locals := 20 }
def sp_X9_core (k : Bool) (a0 : Int32) (S : gSt) : Int32 × gSt := (if a0 = 0 then ((S.1 27), S) else (if a0 = 1 then ((S.1 28), S) else (if a0 = 2 then ((S.1 29), S) else (if a0 = 3 then ((S.1 30), S) else (if a0 = 4 then ((S.1 31), S) else (if a0 = 5 then ((S.1 32), S) else (if a0 = 6 then ((S.1 0), S) else (if a0 = 7 then (if (bI (S.2.1 2)) = 0 then (0, S) else (1, S)) else (if a0 = 8 then gB (sp_X9_irqLines k S) (fun r1 S1 => (r1, S1)) else (0, S))))))))))
set_option maxRecDepth 100000 in
set_option maxHeartbeats 4000000 in
theorem c_X9_core (l : Launch) (k : Bool) (η : gE) (a0 : Int32) (S : gSt) (hv : a0 = 0 ∨ a0 = 1 ∨ a0 = 2 ∨ a0 = 3 ∨ a0 = 4 ∨ a0 = 5 ∨ a0 = 6 ∨ a0 = 7 ∨ a0 = 8) : gMet l yX9_core cX9_core 2 (some .int) rm_X9_core (oC k η) [.ref (η.1 0), .int a0] S (oI (sp_X9_core k a0 S).1) (sp_X9_core k a0 S).2 := by
  refine gMet_of (X := sp_X9_core k a0 S) (lv := [(0, .ref (η.1 0)), (1, .int a0)]) oI (zC_ok η) (by decide +kernel) (Nat.le_of_ble_eq_true rfl) rfl (fun κ hc => ?_)
  have hc : gC (oC k η) κ cX9_core 2 RX9 (some .int) rm_X9_core := hc
  unfold sp_X9_core
  refine g_iload_n (i := 1) hc 1 dX9_core_0 rfl rfl ?_
  refine g_tsw (tgt := 52) hc 0 dX9_core_1 ⟨by decide, by decide, rfl⟩ rfl (fun c_1_0 => ?_) (fun c_1_0 => ?_)
  · refine g_aload_n (i := 0) hc 0 dX9_core_52 rfl rfl ?_
    refine gf_C_0_core hc wtC_436 dX9_core_53 ?_
    refine gf_C_18_a_nest_122 hc  dX9_core_56 ?_
    exact g_iret hc dX9_core_59
  refine g_tsw (tgt := 60) hc 1 dX9_core_1 ⟨by decide, by decide, rfl⟩ rfl (fun c_1_1 => ?_) (fun c_1_1 => ?_)
  · refine g_aload_n (i := 0) hc 0 dX9_core_60 rfl rfl ?_
    refine gf_C_0_core hc wtC_436 dX9_core_61 ?_
    refine gf_C_18_x_nest_126 hc  dX9_core_64 ?_
    exact g_iret hc dX9_core_67
  refine g_tsw (tgt := 68) hc 2 dX9_core_1 ⟨by decide, by decide, rfl⟩ rfl (fun c_1_2 => ?_) (fun c_1_2 => ?_)
  · refine g_aload_n (i := 0) hc 0 dX9_core_68 rfl rfl ?_
    refine gf_C_0_core hc wtC_436 dX9_core_69 ?_
    refine gf_C_18_y_nest_129 hc  dX9_core_72 ?_
    exact g_iret hc dX9_core_75
  refine g_tsw (tgt := 76) hc 3 dX9_core_1 ⟨by decide, by decide, rfl⟩ rfl (fun c_1_3 => ?_) (fun c_1_3 => ?_)
  · refine g_aload_n (i := 0) hc 0 dX9_core_76 rfl rfl ?_
    refine gf_C_0_core hc wtC_436 dX9_core_77 ?_
    refine gf_C_18_s_nest_132 hc  dX9_core_80 ?_
    exact g_iret hc dX9_core_83
  refine g_tsw (tgt := 84) hc 4 dX9_core_1 ⟨by decide, by decide, rfl⟩ rfl (fun c_1_4 => ?_) (fun c_1_4 => ?_)
  · refine g_aload_n (i := 0) hc 0 dX9_core_84 rfl rfl ?_
    refine gf_C_0_core hc wtC_436 dX9_core_85 ?_
    refine gf_C_18_p_nest_135 hc  dX9_core_88 ?_
    exact g_iret hc dX9_core_91
  refine g_tsw (tgt := 92) hc 5 dX9_core_1 ⟨by decide, by decide, rfl⟩ rfl (fun c_1_5 => ?_) (fun c_1_5 => ?_)
  · refine g_aload_n (i := 0) hc 0 dX9_core_92 rfl rfl ?_
    refine gf_C_0_core hc wtC_436 dX9_core_93 ?_
    refine gf_C_18_pc_nest_138 hc  dX9_core_96 ?_
    exact g_iret hc dX9_core_99
  refine g_tsw (tgt := 100) hc 6 dX9_core_1 ⟨by decide, by decide, rfl⟩ rfl (fun c_1_6 => ?_) (fun c_1_6 => ?_)
  · refine g_aload_n (i := 0) hc 0 dX9_core_100 rfl rfl ?_
    refine gf_C_0_elapsed hc wtC_406 dX9_core_101 ?_
    exact g_iret hc dX9_core_104
  refine g_tsw (tgt := 105) hc 7 dX9_core_1 ⟨by decide, by decide, rfl⟩ rfl (fun c_1_7 => ?_) (fun c_1_7 => ?_)
  · refine g_aload_n (i := 0) hc 0 dX9_core_105 rfl rfl ?_
    refine gf_C_0_picture hc wtC_408 dX9_core_106 ?_
    refine gf_C_6_nmiPending_nest_144 hc  dX9_core_109 ?_
    refine g_ifeq (tgt := 119) hc dX9_core_112 rfl (fun c_112 => ?_) (fun c_112 => ?_)
    · refine g_iconst (v := 0) hc dX9_core_119 (by decide) ?_
      exact g_iret hc dX9_core_120
    · refine g_iconst (v := 1) hc dX9_core_115 (by decide) ?_
      refine g_goto (tgt := 120) hc dX9_core_116 rfl ?_
      exact g_iret hc dX9_core_120
  refine g_tsw (tgt := 121) hc 8 dX9_core_1 ⟨by decide, by decide, rfl⟩ rfl (fun c_1_8 => ?_) (fun c_1_8 => ?_)
  · refine g_aload_n (i := 0) hc 0 dX9_core_121 rfl rfl ?_
    refine g_callVI hc 0 [] (fun l => c_X9_irqLines l k η S) wtC_448 ge_X9_irqLines rfl ⟨rfl, rfl⟩ ⟨Nat.le_of_ble_eq_true rfl, Nat.le_of_ble_eq_true rfl⟩ rfl rfl rfl (Nat.le_of_ble_eq_true rfl) dX9_core_122 (fun r1 S1 e1 f1 => ?_)
    exact g_iret hc dX9_core_125
  refine g_tswd (tgt := 126) hc dX9_core_1 (by have := lv_neT c_1_0 (a := 0) (by decide); have := lv_neT c_1_1 (a := 1) (by decide); have := lv_neT c_1_2 (a := 2) (by decide); have := lv_neT c_1_3 (a := 3) (by decide); have := lv_neT c_1_4 (a := 4) (by decide); have := lv_neT c_1_5 (a := 5) (by decide); have := lv_neT c_1_6 (a := 6) (by decide); have := lv_neT c_1_7 (a := 7) (by decide); have := lv_neT c_1_8 (a := 8) (by decide); omega) rfl ?_
  exact (by rcases hv with h9 | h9 | h9 | h9 | h9 | h9 | h9 | h9 | h9 <;> exact absurd h9 (by assumption))

abbrev rm_X9_picture : Room := { frames := 0, cells := 0, slots := 0, locals := 0 }
def sp_X9_picture (k : Bool) (a0 : Int32) (S : gSt) : Int32 × gSt := (if a0 = 0 then ((S.1 16), S) else (if a0 = 1 then ((S.1 17), S) else (if a0 = 2 then ((S.1 18), S) else (if a0 = 3 then ((S.1 19), S) else (if a0 = 4 then ((S.1 12), S) else (if a0 = 5 then ((S.1 13), S) else (if a0 = 6 then ((S.1 14), S) else (if a0 = 7 then ((S.1 15), S) else (if a0 = 8 then ((S.1 21), S) else (if a0 = 9 then ((S.1 22), S) else (if a0 = 10 then ((S.1 20), S) else (0, S))))))))))))
set_option maxRecDepth 100000 in
set_option maxHeartbeats 4000000 in
theorem c_X9_picture (l : Launch) (k : Bool) (η : gE) (a0 : Int32) (S : gSt) (hv : a0 = 0 ∨ a0 = 1 ∨ a0 = 2 ∨ a0 = 3 ∨ a0 = 4 ∨ a0 = 5 ∨ a0 = 6 ∨ a0 = 7 ∨ a0 = 8 ∨ a0 = 9 ∨ a0 = 10) : gMet l yX9_picture cX9_picture 2 (some .int) rm_X9_picture (oC k η) [.ref (η.1 0), .int a0] S (oI (sp_X9_picture k a0 S).1) (sp_X9_picture k a0 S).2 := by
  refine gMet_of (X := sp_X9_picture k a0 S) (lv := [(0, .ref (η.1 0)), (1, .int a0)]) oI (zC_ok η) (by decide +kernel) (Nat.le_of_ble_eq_true rfl) rfl (fun κ hc => ?_)
  have hc : gC (oC k η) κ cX9_picture 2 RX9 (some .int) rm_X9_picture := hc
  unfold sp_X9_picture
  refine g_iload_n (i := 1) hc 1 dX9_picture_0 rfl rfl ?_
  refine g_tsw (tgt := 60) hc 0 dX9_picture_1 ⟨by decide, by decide, rfl⟩ rfl (fun c_1_0 => ?_) (fun c_1_0 => ?_)
  · refine g_aload_n (i := 0) hc 0 dX9_picture_60 rfl rfl ?_
    refine gf_C_0_picture hc wtC_408 dX9_picture_61 ?_
    refine gf_C_6_v_nest_150 hc  dX9_picture_64 ?_
    exact g_iret hc dX9_picture_67
  refine g_tsw (tgt := 68) hc 1 dX9_picture_1 ⟨by decide, by decide, rfl⟩ rfl (fun c_1_1 => ?_) (fun c_1_1 => ?_)
  · refine g_aload_n (i := 0) hc 0 dX9_picture_68 rfl rfl ?_
    refine gf_C_0_picture hc wtC_408 dX9_picture_69 ?_
    refine gf_C_6_t_nest_153 hc  dX9_picture_72 ?_
    exact g_iret hc dX9_picture_75
  refine g_tsw (tgt := 76) hc 2 dX9_picture_1 ⟨by decide, by decide, rfl⟩ rfl (fun c_1_2 => ?_) (fun c_1_2 => ?_)
  · refine g_aload_n (i := 0) hc 0 dX9_picture_76 rfl rfl ?_
    refine gf_C_0_picture hc wtC_408 dX9_picture_77 ?_
    refine gf_C_6_x_nest_156 hc  dX9_picture_80 ?_
    exact g_iret hc dX9_picture_83
  refine g_tsw (tgt := 84) hc 3 dX9_picture_1 ⟨by decide, by decide, rfl⟩ rfl (fun c_1_3 => ?_) (fun c_1_3 => ?_)
  · refine g_aload_n (i := 0) hc 0 dX9_picture_84 rfl rfl ?_
    refine gf_C_0_picture hc wtC_408 dX9_picture_85 ?_
    refine gf_C_6_w_nest_157 hc  dX9_picture_88 ?_
    exact g_iret hc dX9_picture_91
  refine g_tsw (tgt := 92) hc 4 dX9_picture_1 ⟨by decide, by decide, rfl⟩ rfl (fun c_1_4 => ?_) (fun c_1_4 => ?_)
  · refine g_aload_n (i := 0) hc 0 dX9_picture_92 rfl rfl ?_
    refine gf_C_0_picture hc wtC_408 dX9_picture_93 ?_
    refine gf_C_6_ctrl_nest_160 hc  dX9_picture_96 ?_
    exact g_iret hc dX9_picture_99
  refine g_tsw (tgt := 100) hc 5 dX9_picture_1 ⟨by decide, by decide, rfl⟩ rfl (fun c_1_5 => ?_) (fun c_1_5 => ?_)
  · refine g_aload_n (i := 0) hc 0 dX9_picture_100 rfl rfl ?_
    refine gf_C_0_picture hc wtC_408 dX9_picture_101 ?_
    refine gf_C_6_mask_nest_163 hc  dX9_picture_104 ?_
    exact g_iret hc dX9_picture_107
  refine g_tsw (tgt := 108) hc 6 dX9_picture_1 ⟨by decide, by decide, rfl⟩ rfl (fun c_1_6 => ?_) (fun c_1_6 => ?_)
  · refine g_aload_n (i := 0) hc 0 dX9_picture_108 rfl rfl ?_
    refine gf_C_0_picture hc wtC_408 dX9_picture_109 ?_
    refine gf_C_6_vblank_nest_166 hc  dX9_picture_112 ?_
    exact g_iret hc dX9_picture_115
  refine g_tsw (tgt := 116) hc 7 dX9_picture_1 ⟨by decide, by decide, rfl⟩ rfl (fun c_1_7 => ?_) (fun c_1_7 => ?_)
  · refine g_aload_n (i := 0) hc 0 dX9_picture_116 rfl rfl ?_
    refine gf_C_0_picture hc wtC_408 dX9_picture_117 ?_
    refine gf_C_6_oamAddress_nest_169 hc  dX9_picture_120 ?_
    exact g_iret hc dX9_picture_123
  refine g_tsw (tgt := 124) hc 8 dX9_picture_1 ⟨by decide, by decide, rfl⟩ rfl (fun c_1_8 => ?_) (fun c_1_8 => ?_)
  · refine g_aload_n (i := 0) hc 0 dX9_picture_124 rfl rfl ?_
    refine gf_C_0_picture hc wtC_408 dX9_picture_125 ?_
    refine gf_C_6_line_nest_172 hc  dX9_picture_128 ?_
    exact g_iret hc dX9_picture_131
  refine g_tsw (tgt := 132) hc 9 dX9_picture_1 ⟨by decide, by decide, rfl⟩ rfl (fun c_1_9 => ?_) (fun c_1_9 => ?_)
  · refine g_aload_n (i := 0) hc 0 dX9_picture_132 rfl rfl ?_
    refine gf_C_0_picture hc wtC_408 dX9_picture_133 ?_
    refine gf_C_6_dot_nest_175 hc  dX9_picture_136 ?_
    exact g_iret hc dX9_picture_139
  refine g_tsw (tgt := 140) hc 10 dX9_picture_1 ⟨by decide, by decide, rfl⟩ rfl (fun c_1_10 => ?_) (fun c_1_10 => ?_)
  · refine g_aload_n (i := 0) hc 0 dX9_picture_140 rfl rfl ?_
    refine gf_C_0_picture hc wtC_408 dX9_picture_141 ?_
    refine gf_C_6_buffer_nest_178 hc  dX9_picture_144 ?_
    exact g_iret hc dX9_picture_147
  refine g_tswd (tgt := 148) hc dX9_picture_1 (by have := lv_neT c_1_0 (a := 0) (by decide); have := lv_neT c_1_1 (a := 1) (by decide); have := lv_neT c_1_2 (a := 2) (by decide); have := lv_neT c_1_3 (a := 3) (by decide); have := lv_neT c_1_4 (a := 4) (by decide); have := lv_neT c_1_5 (a := 5) (by decide); have := lv_neT c_1_6 (a := 6) (by decide); have := lv_neT c_1_7 (a := 7) (by decide); have := lv_neT c_1_8 (a := 8) (by decide); have := lv_neT c_1_9 (a := 9) (by decide); have := lv_neT c_1_10 (a := 10) (by decide); omega) rfl ?_
  exact (by rcases hv with h9 | h9 | h9 | h9 | h9 | h9 | h9 | h9 | h9 | h9 | h9 <;> exact absurd h9 (by assumption))

abbrev rm_X9_oam : Room := { frames := 0, cells := 0, slots := 0, locals := 0 }
def sp_X9_oam (k : Bool) (a0 : Int32) (S : gSt) : Int32 × gSt := (if a0 < 0 then (0, S) else (if a0 < 256 then ((aG S 7 a0), S) else (0, S)))
set_option maxRecDepth 100000 in
set_option maxHeartbeats 4000000 in
theorem c_X9_oam (l : Launch) (k : Bool) (η : gE) (a0 : Int32) (S : gSt) (hv : ¬ a0 < 0 ∧ a0 < 256) : gMet l yX9_oam cX9_oam 2 (some .int) rm_X9_oam (oC k η) [.ref (η.1 0), .int a0] S (oI (sp_X9_oam k a0 S).1) (sp_X9_oam k a0 S).2 := by
  refine gMet_of (X := sp_X9_oam k a0 S) (lv := [(0, .ref (η.1 0)), (1, .int a0)]) oI (zC_ok η) (by decide +kernel) (Nat.le_of_ble_eq_true rfl) rfl (fun κ hc => ?_)
  have hc : gC (oC k η) κ cX9_oam 2 RX9 (some .int) rm_X9_oam := hc
  unfold sp_X9_oam
  refine g_iload_n (i := 1) hc 1 dX9_oam_0 rfl rfl ?_
  refine g_iflt (tgt := 11) hc dX9_oam_1 rfl (fun c_1 => ?_) (fun c_1 => ?_)
  · exact (by first | exact absurd (by assumption) hv.1 | exact absurd hv.2 (by assumption))
  · refine g_iload_n (i := 1) hc 1 dX9_oam_4 rfl rfl ?_
    refine g_sipush (v := 256) hc dX9_oam_5 (by decide) ?_
    refine g_icmplt (tgt := 21) hc dX9_oam_8 rfl (fun c_8 => ?_) (fun c_8 => ?_)
    · refine g_aload_n (i := 0) hc 0 dX9_oam_21 rfl rfl ?_
      refine gf_C_0_picture hc wtC_408 dX9_oam_22 ?_
      refine gf_C_6_oam_nest_188 hc  dX9_oam_25 ?_
      refine g_iload_n (i := 1) hc 1 dX9_oam_28 rfl rfl ?_
      refine al_C_7 hc (v_lt 256 hv.1 hv.2 (by decide)) dX9_oam_29 ?_
      exact g_iret hc dX9_oam_30
    · exact (by first | exact absurd (by assumption) hv.1 | exact absurd hv.2 (by assumption))

abbrev rm_X9_cartridge : Room := { frames := 1, cells := 0, slots := 0, locals := 20 }
def sp_X9_cartridge (k : Bool) (a0 : Int32) (S : gSt) : Int32 × gSt := (if a0 < 0 then (0, S) else (if a0 ≤ 13 then (if 4 ≤ a0 then (if 12 ≤ a0 then (if a0 = 12 then ((S.1 1), S) else gB (sp_K_lineCounter k S) (fun r1 S1 => (r1, S1))) else ((aG S 5 (a0 - 4)), S)) else ((aG S 4 a0), S)) else (0, S)))
set_option maxRecDepth 100000 in
set_option maxHeartbeats 4000000 in
theorem c_X9_cartridge (l : Launch) (k : Bool) (η : gE) (a0 : Int32) (S : gSt) (hv : ¬ a0 < 0 ∧ a0 ≤ 13) : gMet l yX9_cartridge cX9_cartridge 2 (some .int) rm_X9_cartridge (oC k η) [.ref (η.1 0), .int a0] S (oI (sp_X9_cartridge k a0 S).1) (sp_X9_cartridge k a0 S).2 := by
  refine gMet_of (X := sp_X9_cartridge k a0 S) (lv := [(0, .ref (η.1 0)), (1, .int a0)]) oI (zC_ok η) (by decide +kernel) (Nat.le_of_ble_eq_true rfl) rfl (fun κ hc => ?_)
  have hc : gC (oC k η) κ cX9_cartridge 2 RX9 (some .int) rm_X9_cartridge := hc
  unfold sp_X9_cartridge
  refine g_iload_n (i := 1) hc 1 dX9_cartridge_0 rfl rfl ?_
  refine g_iflt (tgt := 10) hc dX9_cartridge_1 rfl (fun c_1 => ?_) (fun c_1 => ?_)
  · exact (by first | exact absurd (by assumption) hv.1 | exact absurd hv.2 (by assumption))
  · refine g_iload_n (i := 1) hc 1 dX9_cartridge_4 rfl rfl ?_
    refine g_bipush (v := 13) hc dX9_cartridge_5 (by decide) ?_
    refine g_icmple (tgt := 20) hc dX9_cartridge_7 rfl (fun c_7 => ?_) (fun c_7 => ?_)
    · refine g_iload_n (i := 1) hc 1 dX9_cartridge_20 rfl rfl ?_
      refine g_iconst (v := 4) hc dX9_cartridge_21 (by decide) ?_
      refine g_icmpge (tgt := 35) hc dX9_cartridge_22 rfl (fun c_22 => ?_) (fun c_22 => ?_)
      · refine g_iload_n (i := 1) hc 1 dX9_cartridge_35 rfl rfl ?_
        refine g_bipush (v := 12) hc dX9_cartridge_36 (by decide) ?_
        refine g_icmpge (tgt := 53) hc dX9_cartridge_38 rfl (fun c_38 => ?_) (fun c_38 => ?_)
        · refine g_iload_n (i := 1) hc 1 dX9_cartridge_53 rfl rfl ?_
          refine g_bipush (v := 12) hc dX9_cartridge_54 (by decide) ?_
          refine g_icmpne (tgt := 69) hc dX9_cartridge_56 rfl (fun c_56 => ?_) (fun c_56 => ?_)
          · refine g_aload_n (i := 0) hc 0 dX9_cartridge_59 rfl rfl ?_
            refine gf_C_0_cartridge hc wtC_404 dX9_cartridge_60 ?_
            refine gf_C_1_mirroring hc wtC_463 dX9_cartridge_63 ?_
            refine g_goto (tgt := 76) hc dX9_cartridge_66 rfl ?_
            exact g_iret hc dX9_cartridge_76
          · refine g_aload_n (i := 0) hc 0 dX9_cartridge_69 rfl rfl ?_
            refine gf_C_0_cartridge hc wtC_404 dX9_cartridge_70 ?_
            refine gk_lineCounter hc wtC_464 ⟨Nat.le_of_ble_eq_true rfl, Nat.le_of_ble_eq_true rfl⟩ (Nat.le_of_ble_eq_true rfl) dX9_cartridge_73 (fun r1 S1 e1 f1 => ?_)
            exact g_iret hc dX9_cartridge_76
        · refine g_aload_n (i := 0) hc 0 dX9_cartridge_41 rfl rfl ?_
          refine gf_C_0_cartridge hc wtC_404 dX9_cartridge_42 ?_
          refine gf_C_1_chrBanks hc wtC_465 dX9_cartridge_45 ?_
          refine g_iload_n (i := 1) hc 1 dX9_cartridge_48 rfl rfl ?_
          refine g_iconst (v := 4) hc dX9_cartridge_49 (by decide) ?_
          refine g_isub hc dX9_cartridge_50 ?_
          refine al_C_5 hc (v_m4 c_22 c_38) dX9_cartridge_51 ?_
          exact g_iret hc dX9_cartridge_52
      · refine g_aload_n (i := 0) hc 0 dX9_cartridge_25 rfl rfl ?_
        refine gf_C_0_cartridge hc wtC_404 dX9_cartridge_26 ?_
        refine gf_C_1_romBanks hc wtC_466 dX9_cartridge_29 ?_
        refine g_iload_n (i := 1) hc 1 dX9_cartridge_32 rfl rfl ?_
        refine al_C_4 hc (v_nle 4 hv.1 c_22 (by decide)) dX9_cartridge_33 ?_
        exact g_iret hc dX9_cartridge_34
    · exact (by first | exact absurd (by assumption) hv.1 | exact absurd hv.2 (by assumption))

abbrev rm_X9_sound : Room := { frames := 0, cells := 0, slots := 0, locals := 0 }
def sp_X9_sound (k : Bool) (a0 : Int32) (S : gSt) : Int32 × gSt := (if a0 < 0 then (0, S) else (if a0 ≤ 4 then (if a0 = 4 then ((S.1 25), S) else ((aG S 11 a0), S)) else (0, S)))
set_option maxRecDepth 100000 in
set_option maxHeartbeats 4000000 in
theorem c_X9_sound (l : Launch) (k : Bool) (η : gE) (a0 : Int32) (S : gSt) (hv : ¬ a0 < 0 ∧ a0 ≤ 4) : gMet l yX9_sound cX9_sound 2 (some .int) rm_X9_sound (oC k η) [.ref (η.1 0), .int a0] S (oI (sp_X9_sound k a0 S).1) (sp_X9_sound k a0 S).2 := by
  refine gMet_of (X := sp_X9_sound k a0 S) (lv := [(0, .ref (η.1 0)), (1, .int a0)]) oI (zC_ok η) (by decide +kernel) (Nat.le_of_ble_eq_true rfl) rfl (fun κ hc => ?_)
  have hc : gC (oC k η) κ cX9_sound 2 RX9 (some .int) rm_X9_sound := hc
  unfold sp_X9_sound
  refine g_iload_n (i := 1) hc 1 dX9_sound_0 rfl rfl ?_
  refine g_iflt (tgt := 9) hc dX9_sound_1 rfl (fun c_1 => ?_) (fun c_1 => ?_)
  · exact (by first | exact absurd (by assumption) hv.1 | exact absurd hv.2 (by assumption))
  · refine g_iload_n (i := 1) hc 1 dX9_sound_4 rfl rfl ?_
    refine g_iconst (v := 4) hc dX9_sound_5 (by decide) ?_
    refine g_icmple (tgt := 19) hc dX9_sound_6 rfl (fun c_6 => ?_) (fun c_6 => ?_)
    · refine g_iload_n (i := 1) hc 1 dX9_sound_19 rfl rfl ?_
      refine g_iconst (v := 4) hc dX9_sound_20 (by decide) ?_
      refine g_icmpne (tgt := 34) hc dX9_sound_21 rfl (fun c_21 => ?_) (fun c_21 => ?_)
      · refine g_aload_n (i := 0) hc 0 dX9_sound_24 rfl rfl ?_
        refine gf_C_0_sound hc wtC_403 dX9_sound_25 ?_
        refine gf_C_10_frameCycles_nest_207 hc  dX9_sound_28 ?_
        refine g_goto (tgt := 43) hc dX9_sound_31 rfl ?_
        exact g_iret hc dX9_sound_43
      · refine g_aload_n (i := 0) hc 0 dX9_sound_34 rfl rfl ?_
        refine gf_C_0_sound hc wtC_403 dX9_sound_35 ?_
        refine gf_C_10_lengths_nest_210 hc  dX9_sound_38 ?_
        refine g_iload_n (i := 1) hc 1 dX9_sound_41 rfl rfl ?_
        refine al_C_11 hc (v_ne4 hv.1 hv.2 c_21) dX9_sound_42 ?_
        exact g_iret hc dX9_sound_43
    · exact (by first | exact absurd (by assumption) hv.1 | exact absurd hv.2 (by assumption))

