section PQ
variable {k : Bool} {c sp : Int32} {cr : Bool} {gn : Int64} {S : gSt}
theorem aC_0 : aC k 0 S = (0, sI S 33 0) := rfl
theorem aC_1 : aC k 1 S = (0, sI S 33 0) := rfl
theorem CI_of {op m cy : Int32} {x : Int32} {S0 S2 : gSt} {r : Int32} (h1 : aC k m S = (x, S0)) (h2 : sp_X2_perform k op m x S0 = (r, S2)) : CI k op m cy S = (cy + r, S2) := by
  unfold CI
  rw [h1, h2]
theorem iv_jd (hI : Iv k S) (e : Int32) (j : Nat) (hj : j = 27 ∨ j = 28 ∨ j = 29) : Iv k (sI (sp_X2_judged k e S).2 j (sp_X2_judged k e S).1) := by
  have h := iv_judged hI e
  have hb : (sp_X2_judged k e S).1 &&& 255 = (sp_X2_judged k e S).1 := by rw [h_judged1]; exact by_and e
  rcases hj with rfl | rfl | rfl
  · exact iv_sI 27 h hb h.2.2
  · exact iv_sI 28 h hb h.2.2
  · exact iv_sI 29 h hb h.2.2
theorem pf_30 (x : Int32) (S : gSt) : sp_X2_perform k 30 0 x S = (0, sI (sp_X2_judged k (S.1 27) S).2 28 (sp_X2_judged k (S.1 27) S).1) := rfl
theorem mf_30 (T : gSt) : sp_X10_moved 5 T = (2, sI (sp_X10_shown (T.1 1) T).2 2 (sp_X10_shown (T.1 1) T).1) := rfl
theorem ins_30 (hI : Iv k S) : Ins k c sp gn (sp_X10_moved 5 (ph k c sp false gn S)) (CI k 30 0 2 S) := by
  have h0 := iv_33 hI 0
  rw [← phd_crossed k c sp false gn S 0]
  refine ins_of (cr := false) (r := 2 + 0) ?_ (CI_of aC_0 (pf_30 0 _)) (iv_jd h0 _ 28 (by decide)) (by decide)
  rw [mf_30, phr_a, h_shownB (iv_b h0 27 (m := 255) rfl)]
  simp only [phw_x, h_judged1]
  rw [iv_b h0 27 (m := 255) rfl]
  rfl
theorem pf_32 (x : Int32) (S : gSt) : sp_X2_perform k 32 0 x S = (0, sI (sp_X2_judged k (S.1 28) S).2 27 (sp_X2_judged k (S.1 28) S).1) := rfl
theorem mf_32 (T : gSt) : sp_X10_moved 4 T = (2, sI (sp_X10_shown (T.1 2) T).2 1 (sp_X10_shown (T.1 2) T).1) := rfl
theorem ins_32 (hI : Iv k S) : Ins k c sp gn (sp_X10_moved 4 (ph k c sp false gn S)) (CI k 32 0 2 S) := by
  have h0 := iv_33 hI 0
  rw [← phd_crossed k c sp false gn S 0]
  refine ins_of (cr := false) (r := 2 + 0) ?_ (CI_of aC_0 (pf_32 0 _)) (iv_jd h0 _ 27 (by decide)) (by decide)
  rw [mf_32, phr_x, h_shownB (iv_b h0 28 (m := 255) rfl)]
  simp only [phw_a, h_judged1]
  rw [iv_b h0 28 (m := 255) rfl]
  rfl
theorem pf_31 (x : Int32) (S : gSt) : sp_X2_perform k 31 0 x S = (0, sI (sp_X2_judged k (S.1 27) S).2 29 (sp_X2_judged k (S.1 27) S).1) := rfl
theorem mf_31 (T : gSt) : sp_X10_stacked 5 T = (2, sI (sp_X10_shown (T.1 1) T).2 3 (sp_X10_shown (T.1 1) T).1) := rfl
theorem ins_31 (hI : Iv k S) : Ins k c sp gn (sp_X10_stacked 5 (ph k c sp false gn S)) (CI k 31 0 2 S) := by
  have h0 := iv_33 hI 0
  rw [← phd_crossed k c sp false gn S 0]
  refine ins_of (cr := false) (r := 2 + 0) ?_ (CI_of aC_0 (pf_31 0 _)) (iv_jd h0 _ 29 (by decide)) (by decide)
  rw [mf_31, phr_a, h_shownB (iv_b h0 27 (m := 255) rfl)]
  simp only [phw_y, h_judged1]
  rw [iv_b h0 27 (m := 255) rfl]
  rfl
theorem pf_33 (x : Int32) (S : gSt) : sp_X2_perform k 33 0 x S = (0, sI (sp_X2_judged k (S.1 29) S).2 27 (sp_X2_judged k (S.1 29) S).1) := rfl
theorem mf_33 (T : gSt) : sp_X10_flagged 4 T = (2, sI (sp_X10_shown (T.1 3) T).2 1 (sp_X10_shown (T.1 3) T).1) := rfl
theorem ins_33 (hI : Iv k S) : Ins k c sp gn (sp_X10_flagged 4 (ph k c sp false gn S)) (CI k 33 0 2 S) := by
  have h0 := iv_33 hI 0
  rw [← phd_crossed k c sp false gn S 0]
  refine ins_of (cr := false) (r := 2 + 0) ?_ (CI_of aC_0 (pf_33 0 _)) (iv_jd h0 _ 27 (by decide)) (by decide)
  rw [mf_33, phr_y, h_shownB (iv_b h0 29 (m := 255) rfl)]
  simp only [phw_a, h_judged1]
  rw [iv_b h0 29 (m := 255) rfl]
  rfl
theorem pf_34 (x : Int32) (S : gSt) : sp_X2_perform k 34 0 x S = (0, sI (sp_X2_judged k (S.1 30) S).2 28 (sp_X2_judged k (S.1 30) S).1) := rfl
theorem mf_34 (T : gSt) : sp_X10_stackPointer 5 T = (2, sI (sp_X10_shown (T.1 4) T).2 2 (sp_X10_shown (T.1 4) T).1) := rfl
theorem ins_34 (hI : Iv k S) : Ins k c sp gn (sp_X10_stackPointer 5 (ph k c sp false gn S)) (CI k 34 0 2 S) := by
  have h0 := iv_33 hI 0
  rw [← phd_crossed k c sp false gn S 0]
  refine ins_of (cr := false) (r := 2 + 0) ?_ (CI_of aC_0 (pf_34 0 _)) (iv_jd h0 _ 28 (by decide)) (by decide)
  rw [mf_34, phr_s, h_shownB (iv_b h0 30 (m := 255) rfl)]
  simp only [phw_x, h_judged1]
  rw [iv_b h0 30 (m := 255) rfl]
  rfl
theorem pf_36 (x : Int32) (S : gSt) : sp_X2_perform k 36 0 x S = (0, sI (sp_X2_judged k (S.1 28 + 1) S).2 28 (sp_X2_judged k (S.1 28 + 1) S).1) := rfl
theorem mf_36 (T : gSt) : sp_X10_stacked 7 T = (2, sI (sp_X10_shown ((T.1 2 + 1) &&& 255) T).2 2 (sp_X10_shown ((T.1 2 + 1) &&& 255) T).1) := rfl
theorem ins_36 (hI : Iv k S) : Ins k c sp gn (sp_X10_stacked 7 (ph k c sp false gn S)) (CI k 36 0 2 S) := by
  have h0 := iv_33 hI 0
  rw [← phd_crossed k c sp false gn S 0]
  refine ins_of (cr := false) (r := 2 + 0) ?_ (CI_of aC_0 (pf_36 0 _)) (iv_jd h0 _ 28 (by decide)) (by decide)
  rw [mf_36, phr_x, h_shown]
  simp only [phw_x, h_judged1]
  rfl
theorem pf_37 (x : Int32) (S : gSt) : sp_X2_perform k 37 0 x S = (0, sI (sp_X2_judged k (S.1 29 + 1) S).2 29 (sp_X2_judged k (S.1 29 + 1) S).1) := rfl
theorem mf_37 (T : gSt) : sp_X10_stacked 6 T = (2, sI (sp_X10_shown ((T.1 3 + 1) &&& 255) T).2 3 (sp_X10_shown ((T.1 3 + 1) &&& 255) T).1) := rfl
theorem ins_37 (hI : Iv k S) : Ins k c sp gn (sp_X10_stacked 6 (ph k c sp false gn S)) (CI k 37 0 2 S) := by
  have h0 := iv_33 hI 0
  rw [← phd_crossed k c sp false gn S 0]
  refine ins_of (cr := false) (r := 2 + 0) ?_ (CI_of aC_0 (pf_37 0 _)) (iv_jd h0 _ 29 (by decide)) (by decide)
  rw [mf_37, phr_y, h_shown]
  simp only [phw_y, h_judged1]
  rfl
theorem pf_38 (x : Int32) (S : gSt) : sp_X2_perform k 38 0 x S = (0, sI (sp_X2_judged k (S.1 28 - 1) S).2 28 (sp_X2_judged k (S.1 28 - 1) S).1) := rfl
theorem mf_38 (T : gSt) : sp_X10_moved 6 T = (2, sI (sp_X10_shown ((T.1 2 - 1) &&& 255) T).2 2 (sp_X10_shown ((T.1 2 - 1) &&& 255) T).1) := rfl
theorem ins_38 (hI : Iv k S) : Ins k c sp gn (sp_X10_moved 6 (ph k c sp false gn S)) (CI k 38 0 2 S) := by
  have h0 := iv_33 hI 0
  rw [← phd_crossed k c sp false gn S 0]
  refine ins_of (cr := false) (r := 2 + 0) ?_ (CI_of aC_0 (pf_38 0 _)) (iv_jd h0 _ 28 (by decide)) (by decide)
  rw [mf_38, phr_x, h_shown]
  simp only [phw_x, h_judged1]
  rfl
theorem pf_39 (x : Int32) (S : gSt) : sp_X2_perform k 39 0 x S = (0, sI (sp_X2_judged k (S.1 29 - 1) S).2 29 (sp_X2_judged k (S.1 29 - 1) S).1) := rfl
theorem mf_39 (T : gSt) : sp_X10_stacked 4 T = (2, sI (sp_X10_shown ((T.1 3 - 1) &&& 255) T).2 3 (sp_X10_shown ((T.1 3 - 1) &&& 255) T).1) := rfl
theorem ins_39 (hI : Iv k S) : Ins k c sp gn (sp_X10_stacked 4 (ph k c sp false gn S)) (CI k 39 0 2 S) := by
  have h0 := iv_33 hI 0
  rw [← phd_crossed k c sp false gn S 0]
  refine ins_of (cr := false) (r := 2 + 0) ?_ (CI_of aC_0 (pf_39 0 _)) (iv_jd h0 _ 29 (by decide)) (by decide)
  rw [mf_39, phr_y, h_shown]
  simp only [phw_y, h_judged1]
  rfl
theorem pf_40 (x : Int32) (S : gSt) : sp_X2_perform k 40 0 x S = (0, (sp_X2_setFlag k 1 false S).2) := rfl
theorem mf_40 (T : gSt) : sp_X10_flagged 0 T = (2, (sp_X10_flag 1 false T).2) := rfl
theorem ins_40 (hI : Iv k S) : Ins k c sp gn (sp_X10_flagged 0 (ph k c sp false gn S)) (CI k 40 0 2 S) := by
  have h0 := iv_33 hI 0
  rw [← phd_crossed k c sp false gn S 0]
  refine ins_of (cr := false) (r := 2 + 0) ?_ (CI_of aC_0 (pf_40 0 _)) (iv_flag h0 (by decide) _) (by decide)
  rw [mf_40, h_flag]
  rfl
theorem pf_41 (x : Int32) (S : gSt) : sp_X2_perform k 41 0 x S = (0, (sp_X2_setFlag k 1 true S).2) := rfl
theorem mf_41 (T : gSt) : sp_X10_flagged 1 T = (2, (sp_X10_flag 1 true T).2) := rfl
theorem ins_41 (hI : Iv k S) : Ins k c sp gn (sp_X10_flagged 1 (ph k c sp false gn S)) (CI k 41 0 2 S) := by
  have h0 := iv_33 hI 0
  rw [← phd_crossed k c sp false gn S 0]
  refine ins_of (cr := false) (r := 2 + 0) ?_ (CI_of aC_0 (pf_41 0 _)) (iv_flag h0 (by decide) _) (by decide)
  rw [mf_41, h_flag]
  rfl
theorem pf_42 (x : Int32) (S : gSt) : sp_X2_perform k 42 0 x S = (0, (sp_X2_setFlag k 4 false S).2) := rfl
theorem mf_42 (T : gSt) : sp_X10_flagged 2 T = (2, (sp_X10_flag 4 false T).2) := rfl
theorem ins_42 (hI : Iv k S) : Ins k c sp gn (sp_X10_flagged 2 (ph k c sp false gn S)) (CI k 42 0 2 S) := by
  have h0 := iv_33 hI 0
  rw [← phd_crossed k c sp false gn S 0]
  refine ins_of (cr := false) (r := 2 + 0) ?_ (CI_of aC_0 (pf_42 0 _)) (iv_flag h0 (by decide) _) (by decide)
  rw [mf_42, h_flag]
  rfl
theorem pf_43 (x : Int32) (S : gSt) : sp_X2_perform k 43 0 x S = (0, (sp_X2_setFlag k 4 true S).2) := rfl
theorem mf_43 (T : gSt) : sp_X10_flagged 3 T = (2, (sp_X10_flag 4 true T).2) := rfl
theorem ins_43 (hI : Iv k S) : Ins k c sp gn (sp_X10_flagged 3 (ph k c sp false gn S)) (CI k 43 0 2 S) := by
  have h0 := iv_33 hI 0
  rw [← phd_crossed k c sp false gn S 0]
  refine ins_of (cr := false) (r := 2 + 0) ?_ (CI_of aC_0 (pf_43 0 _)) (iv_flag h0 (by decide) _) (by decide)
  rw [mf_43, h_flag]
  rfl
theorem pf_44 (x : Int32) (S : gSt) : sp_X2_perform k 44 0 x S = (0, (sp_X2_setFlag k 64 false S).2) := rfl
theorem mf_44 (T : gSt) : sp_X10_flagged 5 T = (2, (sp_X10_flag 64 false T).2) := rfl
theorem ins_44 (hI : Iv k S) : Ins k c sp gn (sp_X10_flagged 5 (ph k c sp false gn S)) (CI k 44 0 2 S) := by
  have h0 := iv_33 hI 0
  rw [← phd_crossed k c sp false gn S 0]
  refine ins_of (cr := false) (r := 2 + 0) ?_ (CI_of aC_0 (pf_44 0 _)) (iv_flag h0 (by decide) _) (by decide)
  rw [mf_44, h_flag]
  rfl
theorem pf_45 (x : Int32) (S : gSt) : sp_X2_perform k 45 0 x S = (0, (sp_X2_setFlag k 8 false S).2) := rfl
theorem mf_45 (T : gSt) : sp_X10_flagged 6 T = (2, (sp_X10_flag 8 false T).2) := rfl
theorem ins_45 (hI : Iv k S) : Ins k c sp gn (sp_X10_flagged 6 (ph k c sp false gn S)) (CI k 45 0 2 S) := by
  have h0 := iv_33 hI 0
  rw [← phd_crossed k c sp false gn S 0]
  refine ins_of (cr := false) (r := 2 + 0) ?_ (CI_of aC_0 (pf_45 0 _)) (iv_flag h0 (by decide) _) (by decide)
  rw [mf_45, h_flag]
  rfl
theorem pf_46 (x : Int32) (S : gSt) : sp_X2_perform k 46 0 x S = (0, (sp_X2_setFlag k 8 true S).2) := rfl
theorem mf_46 (T : gSt) : sp_X10_flagged 7 T = (2, (sp_X10_flag 8 true T).2) := rfl
theorem ins_46 (hI : Iv k S) : Ins k c sp gn (sp_X10_flagged 7 (ph k c sp false gn S)) (CI k 46 0 2 S) := by
  have h0 := iv_33 hI 0
  rw [← phd_crossed k c sp false gn S 0]
  refine ins_of (cr := false) (r := 2 + 0) ?_ (CI_of aC_0 (pf_46 0 _)) (iv_flag h0 (by decide) _) (by decide)
  rw [mf_46, h_flag]
  rfl
theorem pf_47 (x : Int32) (S : gSt) : sp_X2_perform k 47 0 x S = (0, S) := rfl
theorem mf_47 (T : gSt) : sp_X10_moved 7 T = (2, T) := rfl
theorem ins_47 (hI : Iv k S) : Ins k c sp gn (sp_X10_moved 7 (ph k c sp false gn S)) (CI k 47 0 2 S) := by
  have h0 := iv_33 hI 0
  rw [← phd_crossed k c sp false gn S 0]
  exact ins_of (cr := false) (r := 2 + 0) rfl (CI_of aC_0 (pf_47 0 _)) h0 (by decide)
theorem pf_35 (x : Int32) (S : gSt) : sp_X2_perform k 35 0 x S = (0, sI S 30 (S.1 28)) := rfl
theorem mf_35 (T : gSt) : sp_X10_stackPointer 4 T = (2, sI T 4 (T.1 2)) := rfl
theorem ins_35 (hI : Iv k S) : Ins k c sp gn (sp_X10_stackPointer 4 (ph k c sp false gn S)) (CI k 35 0 2 S) := by
  have h0 := iv_33 hI 0
  rw [← phd_crossed k c sp false gn S 0]
  refine ins_of (cr := false) (r := 2 + 0) ?_ (CI_of aC_0 (pf_35 0 _)) (iv_sI 30 h0 (iv_b h0 28 rfl) h0.2.2) (by decide)
  rw [mf_35, phr_x, phw_s]
  rfl
theorem pf_48 (x : Int32) (S : gSt) : sp_X2_perform k 48 0 x S = (0, (sp_X2_push k (S.1 27) S).2) := rfl
theorem mf_48 (T : gSt) : sp_X10_stacked 2 T = (3, (sp_X10_push (T.1 1) T).2) := rfl
theorem ins_48 (hI : Iv k S) : Ins k c sp gn (sp_X10_stacked 2 (ph k c sp false gn S)) (CI k 48 0 3 S) := by
  have h0 := iv_33 hI 0
  rw [← phd_crossed k c sp false gn S 0]
  refine ins_of (cr := false) (r := 3 + 0) ?_ (CI_of aC_0 (pf_48 0 _)) (iv_push h0 (iv_b h0 27 rfl)) (by decide)
  rw [mf_48, phr_a, h_push h0]
  rfl
theorem pf_49 (x : Int32) (S : gSt) : sp_X2_perform k 49 0 x S = (0, (sp_X2_push k ((S.1 31) ||| 16) S).2) := rfl
theorem mf_49 (T : gSt) : sp_X10_stacked 0 T = (3, (sp_X10_push ((T.1 5) ||| 16) T).2) := rfl
theorem ins_49 (hI : Iv k S) : Ins k c sp gn (sp_X10_stacked 0 (ph k c sp false gn S)) (CI k 49 0 3 S) := by
  have h0 := iv_33 hI 0
  rw [← phd_crossed k c sp false gn S 0]
  refine ins_of (cr := false) (r := 3 + 0) ?_ (CI_of aC_0 (pf_49 0 _)) (iv_push h0 (or_m (iv_b h0 31 (m := 255) rfl) (by decide))) (by decide)
  rw [mf_49, phr_p, h_push h0]
  rfl
theorem pf_50 (x : Int32) (S : gSt) : sp_X2_perform k 50 0 x S = (0, sI (sp_X2_judged k (sp_X2_pull k S).1 (sp_X2_pull k S).2).2 27 (sp_X2_judged k (sp_X2_pull k S).1 (sp_X2_pull k S).2).1) := rfl
theorem mf_50 (T : gSt) : sp_X10_stacked 3 T = (4, sI (sp_X10_shown (sp_X10_pull T).1 (sp_X10_pull T).2).2 1 (sp_X10_shown (sp_X10_pull T).1 (sp_X10_pull T).2).1) := rfl
theorem ins_50 (hI : Iv k S) : Ins k c sp gn (sp_X10_stacked 3 (ph k c sp false gn S)) (CI k 50 0 4 S) := by
  have h0 := iv_33 hI 0
  have hp := iv_pull h0
  rw [← phd_crossed k c sp false gn S 0]
  refine ins_of (cr := false) (r := 4 + 0) ?_ (CI_of aC_0 (pf_50 0 _)) (iv_jd hp.1 _ 27 (by decide)) (by decide)
  rw [mf_50, h_pull h0, h_shownB hp.2]
  simp only [phw_a, h_judged1]
  rw [hp.2]
  rfl
theorem iv_pf (hI : Iv k S) : Iv k (sp_X2_pullFlags k S).2 := by
  have hp := iv_pull hI
  unfold sp_X2_pullFlags
  simp only [gB, gL]
  exact iv_sI 31 hp.1 (or_m (and_l hp.2) (by decide)) hp.1.2.2
theorem h_pf (hI : Iv k S) : sI (sp_X10_pull (ph k c sp cr gn S)).2 5 (((sp_X10_pull (ph k c sp cr gn S)).1 &&& (-17)) ||| 32) = ph k c sp cr gn (sp_X2_pullFlags k S).2 := by
  rw [h_pull hI]
  simp only [phw_p]
  rfl
theorem pf_51 (x : Int32) (S : gSt) : sp_X2_perform k 51 0 x S = (0, (sp_X2_pullFlags k S).2) := rfl
theorem mf_51 (T : gSt) : sp_X10_stacked 1 T = (4, sI (sp_X10_pull T).2 5 (((sp_X10_pull T).1 &&& (-17)) ||| 32)) := rfl
theorem ins_51 (hI : Iv k S) : Ins k c sp gn (sp_X10_stacked 1 (ph k c sp false gn S)) (CI k 51 0 4 S) := by
  have h0 := iv_33 hI 0
  rw [← phd_crossed k c sp false gn S 0]
  refine ins_of (cr := false) (r := 4 + 0) ?_ (CI_of aC_0 (pf_51 0 _)) (iv_pf h0) (by decide)
  rw [mf_51, h_pf h0]
  rfl
theorem pf_54 (x : Int32) (S : gSt) : sp_X2_perform k 54 0 x S = (0, sI (sp_X2_pullWord k S).2 32 (((sp_X2_pullWord k S).1 + 1) &&& 65535)) := rfl
theorem mf_54 (T : gSt) : sp_X10_called 3 T = (6, sI (sI (sp_X10_pullWord T).2 6 (sp_X10_pullWord T).1) 6 (((sI (sp_X10_pullWord T).2 6 (sp_X10_pullWord T).1).1 6 + 1) &&& 65535)) := rfl
theorem ins_54 (hI : Iv k S) : Ins k c sp gn (sp_X10_called 3 (ph k c sp false gn S)) (CI k 54 0 6 S) := by
  have h0 := iv_33 hI 0
  have hp := iv_pullWord h0
  rw [← phd_crossed k c sp false gn S 0]
  refine ins_of (cr := false) (r := 6 + 0) ?_ (CI_of aC_0 (pf_54 0 _)) (iv_sI 32 hp.1 (and_w _) hp.1.2.2) (by decide)
  rw [mf_54, h_pullWord h0]
  simp only [phw_pc, phr_pc, sI_same]
  rfl
theorem pf_55 (x : Int32) (S : gSt) : sp_X2_perform k 55 0 x S = (0, sI (sp_X2_pullWord k (sp_X2_pullFlags k S).2).2 32 (sp_X2_pullWord k (sp_X2_pullFlags k S).2).1) := rfl
theorem mf_55 (T : gSt) : sp_X10_called 2 T = (6, sI (sp_X10_pullWord (sI (sp_X10_pull T).2 5 (((sp_X10_pull T).1 &&& (-17)) ||| 32))).2 6 (sp_X10_pullWord (sI (sp_X10_pull T).2 5 (((sp_X10_pull T).1 &&& (-17)) ||| 32))).1) := rfl
theorem ins_55 (hI : Iv k S) : Ins k c sp gn (sp_X10_called 2 (ph k c sp false gn S)) (CI k 55 0 6 S) := by
  have h0 := iv_33 hI 0
  have hf := iv_pf h0
  obtain ⟨hp, w, hw, e⟩ := iv_pullWord hf
  rw [← phd_crossed k c sp false gn S 0]
  refine ins_of (cr := false) (r := 6 + 0) ?_ (CI_of aC_0 (pf_55 0 _)) (iv_sI 32 hp (by rw [e]; exact nIw hw) hp.2.2) (by decide)
  rw [mf_55, h_pf h0, h_pullWord hf]
  simp only [phw_pc]
  rfl
end PQ
