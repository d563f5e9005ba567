section PZi
variable {k : Bool} {c sp : Int32} {cr : Bool} {gn : Int64} {S : gSt}
def z4 (S : gSt) (q : Nat) : gSt := aP (aP (aP (aP S q 0 0) q 1 0) q 2 0) q 3 0
theorem en_e : lp_X8_enable_7 k 5 0 0 S = ((), z4 S 11) := by
  rw [lp_X8_enable_7, if_neg (by decide), if_pos (by decide), gL, lp_X8_enable_7, if_neg (by decide), if_pos (by decide), gL, lp_X8_enable_7, if_neg (by decide), if_pos (by decide), gL, lp_X8_enable_7, if_neg (by decide), if_pos (by decide), gL, lp_X8_enable_7, if_pos (by decide)]
  rfl
theorem rs_e (M : gSt) : lp_X10_reset_63 5 0 M = ((), sI (sI (sI (z4 M 9) 31 0) 20 0) 21 0) := by
  rw [lp_X10_reset_63, if_neg (by decide), gL, lp_X10_reset_63, if_neg (by decide), gL, lp_X10_reset_63, if_neg (by decide), gL, lp_X10_reset_63, if_neg (by decide), gL, lp_X10_reset_63, if_pos (by decide)]
  rfl
theorem ph_z4 : z4 (ph k c sp cr gn S) 9 = ph k c sp cr gn (z4 S 11) := by
  unfold z4
  rw [phs_lengths, phs_lengths, phs_lengths, phs_lengths]
/-- the class's state behind reset, its writes in the reference's order -/
def rU (k : Bool) (S : gSt) : gSt := sI (sI (sZ (z4 (sI (sZ (sI (sI (sI (sI (sI (sI S 30 ((S.1 30 - 3) &&& 255)) 31 (S.1 31 ||| 4)) 32 (sp_X0_vector k 65532 S).1) 12 0) 13 0) 19 0) 2 false) 24 0) 11) 5 false) 3 0) 2 0
/-- and in the class's -/
def rV (k : Bool) (S : gSt) : gSt := sI (sI (sI (sZ (z4 (sI (sZ (sI (sI (sI S 12 0) 13 0) 19 0) 2 false) 24 0) 11) 5 false) 30 ((S.1 30 - 3) &&& 255)) 31 (S.1 31 ||| 4)) 32 (sp_X0_vector k 65532 S).1
theorem vec_e (a v : Int32) (j : Nat) : (sp_X0_vector k a (sI S j v)).1 = (sp_X0_vector k a S).1 := rfl
theorem vec_2 (a : Int32) : (sp_X0_vector k a S).2 = S := rfl
theorem rV_e : rV k (sI (sI S 2 0) 3 0) = rU k S := by
  unfold rV rU
  rw [vec_e, vec_e]
  generalize (sp_X0_vector k 65532 S).1 = v
  exact Prod.ext (funext fun i => match i with
  | 0 => rfl
  | 1 => rfl
  | 2 => rfl
  | 3 => rfl
  | 4 => rfl
  | 5 => rfl
  | 6 => rfl
  | 7 => rfl
  | 8 => rfl
  | 9 => rfl
  | 10 => rfl
  | 11 => rfl
  | 12 => rfl
  | 13 => rfl
  | 14 => rfl
  | 15 => rfl
  | 16 => rfl
  | 17 => rfl
  | 18 => rfl
  | 19 => rfl
  | 20 => rfl
  | 21 => rfl
  | 22 => rfl
  | 23 => rfl
  | 24 => rfl
  | 25 => rfl
  | 26 => rfl
  | 27 => rfl
  | 28 => rfl
  | 29 => rfl
  | 30 => rfl
  | 31 => rfl
  | 32 => rfl
  | 33 => rfl
  | _ + 34 => rfl) rfl
theorem rV_r : sp_X9_reset k S = ((), rV k (sp_K_forgetShifted k S).2) := by
  unfold sp_X9_reset
  simp only [gB]
  generalize (sp_K_forgetShifted k S).2 = T
  unfold sp_X7_restart sp_X8_restart sp_X8_enable sp_X2_restart
  simp only [gL, gB, en_e]
  rw [vec_2]
  rfl
theorem c_reset (hI : Iv k S) : sp_X9_reset k S = ((), rU k S) := by
  rw [rV_r, ← rV_e]
  cases k
  · rfl
  · have h := hI.2.2.2.2.2.2.1.1 rfl
    rw [sI_eq S h.1, sI_eq S h.2]
    rfl
theorem iv_p4 (hI : Iv k S) : (S.1 31 ||| 4) &&& 255 = S.1 31 ||| 4 := by
  rw [and_or, show S.1 31 &&& 255 = S.1 31 from iv_b hI 31 rfl]
  rfl
theorem iv_rU (hI : Iv k S) : Iv k (rU k S) := by
  have h1 : Iv k (sI S 30 ((S.1 30 - 3) &&& 255)) := iv_sI 30 hI (by_and _) hI.2.2
  have h2 : Iv k (sI (sI S 30 ((S.1 30 - 3) &&& 255)) 31 (S.1 31 ||| 4)) := iv_sI 31 h1 (iv_p4 hI) h1.2.2
  obtain ⟨w, hw, e⟩ := (h_word (c := 0) (sp := 0) (cr := false) (gn := 0) hI 65532 (by decide) (by decide)).2.2
  have hv : (sp_X0_vector k 65532 S).1 &&& mk 32 = (sp_X0_vector k 65532 S).1 := by
    rw [show sp_X0_vector k 65532 S = sp_X0_vector k (nI 65532) S from rfl, e]
    exact mk_n 16 (by decide) (by omega) (by omega)
  have h3 := iv_sI 32 h2 hv h2.2.2
  have h4 := iv_sI 12 (v := 0) h3 (by decide) h3.2.2
  have h5 := iv_sI 13 (v := 0) h4 (by decide) h4.2.2
  have h6 := iv_sI 19 (v := 0) h5 (by decide) h5.2.2
  have h7 := iv_sZ 2 false h6 h6.2.2
  have h8 := iv_sI 24 (v := 0) h7 (by decide) h7.2.2
  have h9 := iv_aP 11 0 (v := 0) h8 (by decide) h8.2.2
  have h10 := iv_aP 11 1 (v := 0) h9 (by decide) h9.2.2
  have h11 := iv_aP 11 2 (v := 0) h10 (by decide) h10.2.2
  have h12 := iv_aP 11 3 (v := 0) h11 (by decide) h11.2.2
  have h13 := iv_sZ 5 false h12 h12.2.2
  have hX := h13.2.2
  have h14 := iv_sI 3 (v := 0) h13 (by decide) ⟨hX.1, hX.2.1, hX.2.2.1, (by decide : (0 : Int32) ≤ 4), ⟨fun h => ⟨(hX.2.2.2.2.1.1 h).1, rfl⟩, hX.2.2.2.2.1.2⟩, hX.2.2.2.2.2⟩
  have hY := h14.2.2
  exact iv_sI 2 (v := 0) h14 (by decide) ⟨hY.1, hY.2.1, hY.2.2.1, hY.2.2.2.1, ⟨fun h => ⟨rfl, (hY.2.2.2.2.1.1 h).2⟩, hY.2.2.2.2.1.2⟩, hY.2.2.2.2.2⟩
theorem h_reset (hI : Iv k S) : sp_X10_reset (ph k c sp cr gn S) = ((), ph k 0 sp cr gn (rU k S)) := by
  have h1 : Iv k (sI S 30 ((S.1 30 - 3) &&& 255)) := iv_sI 30 hI (by_and _) hI.2.2
  have h2 : Iv k (sI (sI S 30 ((S.1 30 - 3) &&& 255)) 31 (S.1 31 ||| 4)) := iv_sI 31 h1 (iv_p4 hI) h1.2.2
  have hw : sp_X10_word 65532 (ph k 0 sp cr gn (sI (sI S 30 ((S.1 30 - 3) &&& 255)) 31 (S.1 31 ||| 4))) = ((sp_X0_vector k 65532 S).1, ph k 0 sp cr gn (sI (sI S 30 ((S.1 30 - 3) &&& 255)) 31 (S.1 31 ||| 4))) := (h_word h2 65532 (by decide) (by decide)).1
  have hf : ∀ T : gSt, sp_X2_setFlag k 4 true T = ((), sI T 31 (T.1 31 ||| 4)) := fun T => by
    unfold sp_X2_setFlag
    rw [if_neg (by decide)]
    rfl
  unfold sp_X10_reset
  simp only [gL]
  rw [phw_code, phr_s, phw_s, h_flag, hf]
  simp only [gB]
  rw [show (sI S 30 ((S.1 30 - 3) &&& 255)).1 31 = S.1 31 from rfl, hw]
  simp only [phw_pc, phw_ctrl, phw_mask, phw_second, phx_nmi, phw_enabled]
  rw [rs_e, ph_z4, phw_frameLine0, phw_shifted, phw_shift]
  rfl
theorem r_reset {M : gSt} (h : Rl k S M) : Rl k (sp_X9_reset k S).2 (sp_X10_reset M).2 := by
  obtain ⟨c, sp, cr, gn, rfl, hI, hG⟩ := h
  rw [h_reset hI, c_reset hI]
  exact ⟨0, sp, cr, gn, rfl, iv_rU hI, hG⟩
end PZi
