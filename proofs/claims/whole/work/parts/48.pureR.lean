section PR
variable {k : Bool} {c sp : Int32} {cr : Bool} {gn : Int64} {S : gSt}
theorem c_fst {k : Bool} {v : Int32} {S : gSt} : (sp_X2_judged k v S).1 = v &&& 255 := h_judged1 v
/-- the changing of a byte: both -/
def hC (k : Bool) (kM kC : Int32) : Prop := ∀ (c sp : Int32) (cr : Bool) (gn : Int64) (S : gSt) (v : Int32), Iv k S → v &&& 255 = v → sp_X10_changed kM v (ph k c sp cr gn S) = ((sp_X2_changed k kC v S).1, ph k c sp cr gn (sp_X2_changed k kC v S).2) ∧ Iv k (sp_X2_changed k kC v S).2 ∧ (sp_X2_changed k kC v S).1 &&& 255 = (sp_X2_changed k kC v S).1
theorem up_b (v : Int32) {y : Int32} (hy : y &&& 255 = y) : ((v <<< ((1 : Int32) &&& (31 : Int32))) &&& 255) ||| y = ((v <<< ((1 : Int32) &&& (31 : Int32))) ||| y) &&& 255 := by rw [and_or, hy]
theorem dn_b {v : Int32} (hv : v &&& 255 = v) {y : Int32} (hy : y &&& 255 = y) : ((v >>> ((1 : Int32) &&& (31 : Int32))) ||| y) &&& 255 = (v >>> ((1 : Int32) &&& (31 : Int32))) ||| y := by
  obtain ⟨j, hj, e⟩ := by_of hv
  subst e
  rw [and_or, hy, (by decide +kernel : ∀ j, j < 256 → ((nI j) >>> ((1 : Int32) &&& (31 : Int32))) &&& 255 = (nI j) >>> ((1 : Int32) &&& (31 : Int32))) j hj]
theorem c7_b (p : Int32) : ((p &&& 1) <<< ((7 : Int32) &&& (31 : Int32))) &&& 255 = (p &&& 1) <<< ((7 : Int32) &&& (31 : Int32)) := vb_b (by rw [Int32.and_assoc]; rfl)
theorem su_h {v y : Int32} (hI : Iv k S) (hy : y &&& 255 = y) : (if (v &&& 128) = 0 then sp_X10_shown (((v <<< ((1 : Int32) &&& (31 : Int32))) &&& 255) ||| y) (sp_X10_flag 1 false (ph k c sp cr gn S)).2 else sp_X10_shown (((v <<< ((1 : Int32) &&& (31 : Int32))) &&& 255) ||| y) (sp_X10_flag 1 true (ph k c sp cr gn S)).2) = ((sp_X2_shiftedUp k v y S).1, ph k c sp cr gn (sp_X2_shiftedUp k v y S).2) ∧ Iv k (sp_X2_shiftedUp k v y S).2 ∧ (sp_X2_shiftedUp k v y S).1 &&& 255 = (sp_X2_shiftedUp k v y S).1 := by
  unfold sp_X2_shiftedUp
  rw [up_b v hy, h_flag, h_flag, h_shown, h_shown]
  split
  · refine ⟨?_, iv_judged (iv_flag hI (by decide) _) _, ?_⟩
    · simp only [gB, c_fst]
    · simp only [gB, c_fst, by_and]
  · refine ⟨?_, iv_judged (iv_flag hI (by decide) _) _, ?_⟩
    · simp only [gB, c_fst]
    · simp only [gB, c_fst, by_and]
theorem sd_h {v y : Int32} (hI : Iv k S) (hv : v &&& 255 = v) (hy : (y <<< ((7 : Int32) &&& (31 : Int32))) &&& 255 = y <<< ((7 : Int32) &&& (31 : Int32))) : (if (v &&& 1) = 0 then sp_X10_shown ((v >>> ((1 : Int32) &&& (31 : Int32))) ||| (y <<< ((7 : Int32) &&& (31 : Int32)))) (sp_X10_flag 1 false (ph k c sp cr gn S)).2 else sp_X10_shown ((v >>> ((1 : Int32) &&& (31 : Int32))) ||| (y <<< ((7 : Int32) &&& (31 : Int32)))) (sp_X10_flag 1 true (ph k c sp cr gn S)).2) = ((sp_X2_shiftedDown k v y S).1, ph k c sp cr gn (sp_X2_shiftedDown k v y S).2) ∧ Iv k (sp_X2_shiftedDown k v y S).2 ∧ (sp_X2_shiftedDown k v y S).1 &&& 255 = (sp_X2_shiftedDown k v y S).1 := by
  unfold sp_X2_shiftedDown
  rw [h_flag, h_flag, h_shownB (dn_b hv hy), h_shownB (dn_b hv hy)]
  split
  · refine ⟨?_, iv_judged (iv_flag hI (by decide) _) _, ?_⟩
    · simp only [gB, c_fst, dn_b hv hy]
    · simp only [gB, c_fst, by_and]
  · refine ⟨?_, iv_judged (iv_flag hI (by decide) _) _, ?_⟩
    · simp only [gB, c_fst, dn_b hv hy]
    · simp only [gB, c_fst, by_and]
theorem mc_0 (v : Int32) (T : gSt) : sp_X10_changed 0 v T = (if (v &&& 128) = 0 then sp_X10_shown (((v <<< ((1 : Int32) &&& (31 : Int32))) &&& 255) ||| 0) (sp_X10_flag 1 false T).2 else sp_X10_shown (((v <<< ((1 : Int32) &&& (31 : Int32))) &&& 255) ||| 0) (sp_X10_flag 1 true T).2) := rfl
theorem mc_1 (v : Int32) (T : gSt) : sp_X10_changed 1 v T = (if (v &&& 128) = 0 then sp_X10_shown (((v <<< ((1 : Int32) &&& (31 : Int32))) &&& 255) ||| (T.1 5 &&& 1)) (sp_X10_flag 1 false T).2 else sp_X10_shown (((v <<< ((1 : Int32) &&& (31 : Int32))) &&& 255) ||| (T.1 5 &&& 1)) (sp_X10_flag 1 true T).2) := rfl
theorem mc_2 (v : Int32) (T : gSt) : sp_X10_changed 2 v T = (if (v &&& 1) = 0 then sp_X10_shown ((v >>> ((1 : Int32) &&& (31 : Int32))) ||| 0) (sp_X10_flag 1 false T).2 else sp_X10_shown ((v >>> ((1 : Int32) &&& (31 : Int32))) ||| 0) (sp_X10_flag 1 true T).2) := rfl
theorem mc_3 (v : Int32) (T : gSt) : sp_X10_changed 3 v T = (if (v &&& 1) = 0 then sp_X10_shown ((v >>> ((1 : Int32) &&& (31 : Int32))) ||| ((T.1 5 &&& 1) <<< ((7 : Int32) &&& (31 : Int32)))) (sp_X10_flag 1 false T).2 else sp_X10_shown ((v >>> ((1 : Int32) &&& (31 : Int32))) ||| ((T.1 5 &&& 1) <<< ((7 : Int32) &&& (31 : Int32)))) (sp_X10_flag 1 true T).2) := rfl
theorem mc_6 (v : Int32) (T : gSt) : sp_X10_changed 6 v T = sp_X10_shown ((v + 255) &&& 255) T := rfl
theorem mc_7 (v : Int32) (T : gSt) : sp_X10_changed 7 v T = sp_X10_shown ((v + 1) &&& 255) T := rfl
theorem cc_16 (v : Int32) (S : gSt) : sp_X2_changed k 16 v S = sp_X2_shiftedUp k v 0 S := rfl
theorem cc_17 (v : Int32) (S : gSt) : sp_X2_changed k 17 v S = sp_X2_shiftedDown k v 0 S := rfl
theorem cc_18 (v : Int32) (S : gSt) : sp_X2_changed k 18 v S = sp_X2_shiftedUp k v (S.1 31 &&& 1) S := rfl
theorem cc_19 (v : Int32) (S : gSt) : sp_X2_changed k 19 v S = sp_X2_shiftedDown k v (S.1 31 &&& 1) S := rfl
theorem cc_20 (v : Int32) (S : gSt) : sp_X2_changed k 20 v S = sp_X2_judged k (v + 1) S := rfl
theorem cc_21 (v : Int32) (S : gSt) : sp_X2_changed k 21 v S = sp_X2_judged k (v - 1) S := rfl
theorem hc_0 : hC k 0 16 := fun c sp cr gn S v hI hv => by
  rw [mc_0, cc_16]
  exact su_h hI (by decide)
theorem hc_1 : hC k 1 18 := fun c sp cr gn S v hI hv => by
  rw [mc_1, cc_18, phr_p]
  exact su_h hI (and1_b _)
theorem hc_2 : hC k 2 17 := fun c sp cr gn S v hI hv => by
  rw [mc_2, cc_17]
  exact sd_h (y := 0) hI hv (by decide)
theorem hc_3 : hC k 3 19 := fun c sp cr gn S v hI hv => by
  rw [mc_3, cc_19, phr_p]
  exact sd_h hI hv (c7_b _)
theorem hc_7 : hC k 7 20 := fun c sp cr gn S v hI hv => by
  rw [mc_7, cc_20, h_shown, c_fst]
  exact ⟨rfl, iv_judged hI _, by_and _⟩
theorem hc_6 : hC k 6 21 := fun c sp cr gn S v hI hv => by
  obtain ⟨j, hj, e⟩ := by_of hv
  rw [mc_6, cc_21, show (v + 255) &&& 255 = (v - 1) &&& 255 from by subst e; exact (by decide +kernel : ∀ j, j < 256 → (nI j + 255) &&& 255 = (nI j - 1) &&& 255) j hj, h_shown, c_fst]
  exact ⟨rfl, iv_judged hI _, by_and _⟩
theorem pc_16 (m x : Int32) (S : gSt) : sp_X2_perform k 16 m x S = (0, (sp_X2_change k 16 m x S).2) := rfl
theorem pc_17 (m x : Int32) (S : gSt) : sp_X2_perform k 17 m x S = (0, (sp_X2_change k 17 m x S).2) := rfl
theorem pc_18 (m x : Int32) (S : gSt) : sp_X2_perform k 18 m x S = (0, (sp_X2_change k 18 m x S).2) := rfl
theorem pc_19 (m x : Int32) (S : gSt) : sp_X2_perform k 19 m x S = (0, (sp_X2_change k 19 m x S).2) := rfl
theorem pc_20 (m x : Int32) (S : gSt) : sp_X2_perform k 20 m x S = (0, (sp_X2_change k 20 m x S).2) := rfl
theorem pc_21 (m x : Int32) (S : gSt) : sp_X2_perform k 21 m x S = (0, (sp_X2_change k 21 m x S).2) := rfl
theorem ins_ca {kM kC : Int32} (h : hC k kM kC) (hp : ∀ x S, sp_X2_perform k kC 1 x S = (0, (sp_X2_change k kC 1 x S).2)) (hI : Iv k S) : Ins k c sp gn (sp_X10_change kM 0 (ph k c sp false gn S)) (CI k kC 1 2 S) := by
  have h0 := iv_33 hI 0
  rw [← phd_crossed k c sp false gn S 0]
  obtain ⟨e, hJ, hb⟩ := h c sp false gn (sI S 33 0) ((sI S 33 0).1 27) h0 (iv_b h0 27 rfl)
  refine ins_of (cr := false) (r := 2 + 0) (S2 := sI (sp_X2_changed k kC ((sI S 33 0).1 27) (sI S 33 0)).2 27 (sp_X2_changed k kC ((sI S 33 0).1 27) (sI S 33 0)).1) ?_ (CI_of aC_1 (by rw [hp]; rfl)) (iv_sI 27 hJ hb hJ.2.2) (by decide)
  unfold sp_X10_change
  rw [if_pos rfl, phr_a, e]
  simp only [gB, gL, phw_a]
  rfl
theorem ins_cm {kM kC mM mC r : Int32} (hc : hC k kM kC) (hp : ∀ x S, sp_X2_perform k kC mC x S = (0, (sp_X2_change k kC mC x S).2)) (h : hA k c sp gn mM mC S) (h0 : ¬ mM = 0) (h1 : ¬ mC = 1) (hr : (if mM = 2 then (5 : Int32) else (if mM = 6 then 7 else 6)) = r + 0) (hq : 0 < r + 0) : Ins k c sp gn (sp_X10_change kM mM (ph k c sp false gn S)) (CI k kC mC r S) := by
  obtain ⟨h1', hI, j, hj, e⟩ := h
  have hL := iv_Load hI (nI j)
  obtain ⟨e2, hJ, hb⟩ := hc c sp (crS (aC k mC S).2) gn (sp_X0_load k (nI j) (aC k mC S).2).2 (sp_X0_load k (nI j) (aC k mC S).2).1 hL.1 hL.2
  have hp2 := h_put (c := c) (sp := sp) (cr := crS (aC k mC S).2) (gn := gn) hJ j hj hb
  refine ins_pt (r := r + 0) hp2 ?_ ?_ hq
  · unfold sp_X10_change
    rw [if_neg h0, h1', e]
    simp only [gB]
    rw [h_get hI j hj]
    simp only [e2]
    rw [← hr]
    repeat' split
    all_goals rfl
  · unfold CI
    rw [hp, e]
    unfold sp_X2_change
    rw [if_neg h1]
    rfl
theorem cy_119 : jn_X10_listed_119 = jn_X10_arithmetic_211 := rfl
theorem lx_e (m : Int32) (T : gSt) : sp_X10_loadX m T = jn_X10_arithmetic_211 m (sI (sp_X10_shown (sp_X10_get (sp_X10_addressed m T).1 (sp_X10_addressed m T).2).1 (sp_X10_get (sp_X10_addressed m T).1 (sp_X10_addressed m T).2).2).2 2 (sp_X10_shown (sp_X10_get (sp_X10_addressed m T).1 (sp_X10_addressed m T).2).1 (sp_X10_get (sp_X10_addressed m T).1 (sp_X10_addressed m T).2).2).1) := rfl
theorem ins_ldx {mM mC r : Int32} (h : hR k c sp gn mM mC S) (hcy : ∀ T, sp_X10_cyclesOf mM T = (r, T)) (hr : r = 2 ∨ r = 3 ∨ r = 4 ∨ r = 5 ∨ r = 6) : Ins k c sp gn (sp_X10_loadX mM (ph k c sp false gn S)) (CI k 2 mC r S) := by
  obtain ⟨h1, hI, hv⟩ := h
  have hx := x01_r (k := k) (S := S) mC
  obtain ⟨i1, i2, i3⟩ := c_cj (v := 0) hI hv 28 (Or.inr (Or.inl rfl))
  have e : (sp_X2_combine k 2 (rC k mC S).1 (rC k mC S).2).2 = sI (sp_X2_judged k (rC k mC S).1 (rC k mC S).2).2 28 (sp_X2_judged k (rC k mC S).1 (rC k mC S).2).1 := cmb_2 _
  refine ins_of (S2 := (sp_X2_combine k 2 (rC k mC S).1 (rC k mC S).2).2) (r := r + (sp_X2_combine k 2 (rC k mC S).1 (rC k mC S).2).2.1 33) (cr := crS (rC k mC S).2) ?_ (by unfold CI; rw [c_perfR (by decide)]) (by rw [e]; exact i1) (pos_cy hr (by rw [e, i2]; exact hx))
  rw [lx_e, h1, h_shownB hv]
  simp only [phw_x]
  rw [e, i3, h_cyc hcy (R2 := (rC k mC S).2) (by rw [i3] at i2; exact i2) hx]
theorem li_5 (m : Int32) (T : gSt) : sp_X10_listed 5 m T = jn_X10_arithmetic_211 m (sI (sp_X10_shown (sp_X10_get (sp_X10_addressed m T).1 (sp_X10_addressed m T).2).1 (sp_X10_get (sp_X10_addressed m T).1 (sp_X10_addressed m T).2).2).2 3 (sp_X10_shown (sp_X10_get (sp_X10_addressed m T).1 (sp_X10_addressed m T).2).1 (sp_X10_get (sp_X10_addressed m T).1 (sp_X10_addressed m T).2).2).1) := rfl
theorem li_6 (m : Int32) (T : gSt) : sp_X10_listed 6 m T = jn_X10_arithmetic_211 m (sp_X10_compare ((sp_X10_get (sp_X10_addressed m T).1 (sp_X10_addressed m T).2).2.1 3) (sp_X10_get (sp_X10_addressed m T).1 (sp_X10_addressed m T).2).1 (sp_X10_get (sp_X10_addressed m T).1 (sp_X10_addressed m T).2).2).2 := rfl
theorem li_7 (m : Int32) (T : gSt) : sp_X10_listed 7 m T = jn_X10_arithmetic_211 m (sp_X10_compare ((sp_X10_get (sp_X10_addressed m T).1 (sp_X10_addressed m T).2).2.1 2) (sp_X10_get (sp_X10_addressed m T).1 (sp_X10_addressed m T).2).1 (sp_X10_get (sp_X10_addressed m T).1 (sp_X10_addressed m T).2).2).2 := rfl
theorem ins_ldy {mM mC r : Int32} (h : hR k c sp gn mM mC S) (hcy : ∀ T, sp_X10_cyclesOf mM T = (r, T)) (hr : r = 2 ∨ r = 3 ∨ r = 4 ∨ r = 5 ∨ r = 6) : Ins k c sp gn (sp_X10_listed 5 mM (ph k c sp false gn S)) (CI k 3 mC r S) := by
  obtain ⟨h1, hI, hv⟩ := h
  have hx := x01_r (k := k) (S := S) mC
  obtain ⟨i1, i2, i3⟩ := c_cj (v := 0) hI hv 29 (Or.inr (Or.inr rfl))
  have e : (sp_X2_combine k 3 (rC k mC S).1 (rC k mC S).2).2 = sI (sp_X2_judged k (rC k mC S).1 (rC k mC S).2).2 29 (sp_X2_judged k (rC k mC S).1 (rC k mC S).2).1 := cmb_3 _
  refine ins_of (S2 := (sp_X2_combine k 3 (rC k mC S).1 (rC k mC S).2).2) (r := r + (sp_X2_combine k 3 (rC k mC S).1 (rC k mC S).2).2.1 33) (cr := crS (rC k mC S).2) ?_ (by unfold CI; rw [c_perfR (by decide)]) (by rw [e]; exact i1) (pos_cy hr (by rw [e, i2]; exact hx))
  rw [li_5, h1, h_shownB hv]
  simp only [phw_y]
  rw [e, i3, h_cyc hcy (R2 := (rC k mC S).2) (by rw [i3] at i2; exact i2) hx]

theorem ins_cpy {mM mC r : Int32} (h : hR k c sp gn mM mC S) (hcy : ∀ T, sp_X10_cyclesOf mM T = (r, T)) (hr : r = 2 ∨ r = 3 ∨ r = 4 ∨ r = 5 ∨ r = 6) : Ins k c sp gn (sp_X10_listed 6 mM (ph k c sp false gn S)) (CI k 11 mC r S) := by
  obtain ⟨h1, hI, hv⟩ := h
  have hx := x01_r (k := k) (S := S) mC
  have e : (sp_X2_combine k 11 (rC k mC S).1 (rC k mC S).2).2 = (sp_X2_compare k ((rC k mC S).2.1 29) (rC k mC S).1 (rC k mC S).2).2 := cmb_11 _
  obtain ⟨i1, i2⟩ := iv_compare hI _ _ |> fun z => (show Iv k (sp_X2_compare k ((rC k mC S).2.1 29) (rC k mC S).1 (rC k mC S).2).2 ∧ (sp_X2_compare k ((rC k mC S).2.1 29) (rC k mC S).1 (rC k mC S).2).2.1 33 = (rC k mC S).2.1 33 from z)
  refine ins_of (S2 := (sp_X2_combine k 11 (rC k mC S).1 (rC k mC S).2).2) (r := r + (sp_X2_combine k 11 (rC k mC S).1 (rC k mC S).2).2.1 33) (cr := crS (rC k mC S).2) ?_ (by unfold CI; rw [c_perfR (by decide)]) (by rw [e]; exact i1) (pos_cy hr (by rw [e, i2]; exact hx))
  rw [li_6, h1, e]
  rw [phr_y, h_compare, h_cyc hcy (R2 := (rC k mC S).2) i2 hx]
theorem ins_cpx {mM mC r : Int32} (h : hR k c sp gn mM mC S) (hcy : ∀ T, sp_X10_cyclesOf mM T = (r, T)) (hr : r = 2 ∨ r = 3 ∨ r = 4 ∨ r = 5 ∨ r = 6) : Ins k c sp gn (sp_X10_listed 7 mM (ph k c sp false gn S)) (CI k 10 mC r S) := by
  obtain ⟨h1, hI, hv⟩ := h
  have hx := x01_r (k := k) (S := S) mC
  have e : (sp_X2_combine k 10 (rC k mC S).1 (rC k mC S).2).2 = (sp_X2_compare k ((rC k mC S).2.1 28) (rC k mC S).1 (rC k mC S).2).2 := cmb_10 _
  obtain ⟨i1, i2⟩ := iv_compare hI _ _ |> fun z => (show Iv k (sp_X2_compare k ((rC k mC S).2.1 28) (rC k mC S).1 (rC k mC S).2).2 ∧ (sp_X2_compare k ((rC k mC S).2.1 28) (rC k mC S).1 (rC k mC S).2).2.1 33 = (rC k mC S).2.1 33 from z)
  refine ins_of (S2 := (sp_X2_combine k 10 (rC k mC S).1 (rC k mC S).2).2) (r := r + (sp_X2_combine k 10 (rC k mC S).1 (rC k mC S).2).2.1 33) (cr := crS (rC k mC S).2) ?_ (by unfold CI; rw [c_perfR (by decide)]) (by rw [e]; exact i1) (pos_cy hr (by rw [e, i2]; exact hx))
  rw [li_7, h1, e]
  rw [phr_x, h_compare, h_cyc hcy (R2 := (rC k mC S).2) i2 hx]
theorem li_4 (m : Int32) (T : gSt) : sp_X10_listed 4 m T = sp_X10_cyclesOf m (sp_X10_put (sp_X10_addressed m T).1 ((sp_X10_addressed m T).2.1 3) (sp_X10_addressed m T).2).2 := rfl
theorem dt_4 (m : Int32) (T : gSt) : jn_X10_doTwo_162 4 m T = sp_X10_cyclesOf m (sp_X10_put (sp_X10_addressed m T).1 ((sp_X10_addressed m T).2.1 2) (sp_X10_addressed m T).2).2 := rfl
theorem ins_sty {mM mC r : Int32} (h : hA k c sp gn mM mC S) (hcy : ∀ T, sp_X10_cyclesOf mM T = (r + 0, T)) (hp : 0 < r + 0) : Ins k c sp gn (sp_X10_listed 4 mM (ph k c sp false gn S)) (CI k 15 mC r S) := by
  obtain ⟨h1, hI, j, hj, e⟩ := h
  have hp2 := h_put (c := c) (sp := sp) (cr := crS (aC k mC S).2) (gn := gn) hI j hj (v := (aC k mC S).2.1 29) (iv_b hI 29 rfl)
  refine ins_pt (r := r + 0) hp2 ?_ ?_ hp
  · rw [li_4, h1, e, phr_y, hcy]
  · unfold CI
    show (r + 0, (sp_X0_store k (aC k mC S).1 ((aC k mC S).2.1 29) (aC k mC S).2).2) = _
    rw [e]
theorem ins_stx {mM mC r : Int32} (h : hA k c sp gn mM mC S) (hcy : ∀ T, sp_X10_cyclesOf mM T = (r + 0, T)) (hp : 0 < r + 0) : Ins k c sp gn (jn_X10_doTwo_162 4 mM (ph k c sp false gn S)) (CI k 14 mC r S) := by
  obtain ⟨h1, hI, j, hj, e⟩ := h
  have hp2 := h_put (c := c) (sp := sp) (cr := crS (aC k mC S).2) (gn := gn) hI j hj (v := (aC k mC S).2.1 28) (iv_b hI 28 rfl)
  refine ins_pt (r := r + 0) hp2 ?_ ?_ hp
  · rw [dt_4, h1, e, phr_x, hcy]
  · unfold CI
    show (r + 0, (sp_X0_store k (aC k mC S).1 ((aC k mC S).2.1 28) (aC k mC S).2).2) = _
    rw [e]
end PR
