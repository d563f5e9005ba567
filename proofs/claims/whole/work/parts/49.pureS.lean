section PS
variable {k : Bool} {c sp : Int32} {cr : Bool} {gn : Int64} {S : gSt}
theorem li_1 (m : Int32) (T : gSt) : sp_X10_listed 1 m T = (if ((sp_X10_get (sp_X10_addressed m T).1 (sp_X10_addressed m T).2).2.1 1 &&& (sp_X10_get (sp_X10_addressed m T).1 (sp_X10_addressed m T).2).1) = 0 then jn_X10_arithmetic_211 m (sI (sp_X10_flag 2 true (sp_X10_get (sp_X10_addressed m T).1 (sp_X10_addressed m T).2).2).2 5 (((sp_X10_flag 2 true (sp_X10_get (sp_X10_addressed m T).1 (sp_X10_addressed m T).2).2).2.1 5 &&& (-193)) ||| ((sp_X10_get (sp_X10_addressed m T).1 (sp_X10_addressed m T).2).1 &&& 192))) else jn_X10_arithmetic_211 m (sI (sp_X10_flag 2 false (sp_X10_get (sp_X10_addressed m T).1 (sp_X10_addressed m T).2).2).2 5 (((sp_X10_flag 2 false (sp_X10_get (sp_X10_addressed m T).1 (sp_X10_addressed m T).2).2).2.1 5 &&& (-193)) ||| ((sp_X10_get (sp_X10_addressed m T).1 (sp_X10_addressed m T).2).1 &&& 192)))) := rfl
theorem v_192 : ∀ v, v < 256 → nI v &&& 192 = (if nI v &&& 64 = 0 then (0 : Int32) else 64) ||| (if nI v &&& 128 = 0 then (0 : Int32) else 128) := by decide +kernel
theorem p_193 : ∀ p, p < 256 → (nI p &&& (-193)) ||| ((0 : Int32) ||| 0) = (nI p &&& ((64 : Int32) ^^^ (-1))) &&& ((128 : Int32) ^^^ (-1)) ∧ (nI p &&& (-193)) ||| ((0 : Int32) ||| 128) = (nI p &&& ((64 : Int32) ^^^ (-1))) ||| 128 ∧ (nI p &&& (-193)) ||| ((64 : Int32) ||| 0) = (nI p ||| 64) &&& ((128 : Int32) ^^^ (-1)) ∧ (nI p &&& (-193)) ||| ((64 : Int32) ||| 128) = (nI p ||| 64) ||| 128 := by decide +kernel
theorem sf_0 (b : Int32) (S : gSt) : (sp_X2_setFlag k b false S).2 = sI S 31 (S.1 31 &&& (b ^^^ (-1))) := rfl
theorem sf_1 (b : Int32) (S : gSt) : (sp_X2_setFlag k b true S).2 = sI S 31 (S.1 31 ||| b) := rfl
theorem tb_e (hI : Iv k S) {v : Int32} (hv : v &&& 255 = v) : (if (v &&& 64) = 0 then (if (v &&& 128) = 0 then (sp_X2_setFlag k 128 false (sp_X2_setFlag k 64 false S).2).2 else (sp_X2_setFlag k 128 true (sp_X2_setFlag k 64 false S).2).2) else (if (v &&& 128) = 0 then (sp_X2_setFlag k 128 false (sp_X2_setFlag k 64 true S).2).2 else (sp_X2_setFlag k 128 true (sp_X2_setFlag k 64 true S).2).2)) = sI S 31 ((S.1 31 &&& (-193)) ||| (v &&& 192)) := by
  obtain ⟨j, hj, e⟩ := by_of hv
  obtain ⟨q, hq, e2⟩ := by_of (iv_b hI 31 (m := 255) rfl)
  subst e
  rw [v_192 j hj, e2]
  have hp := p_193 q hq
  simp only [sf_0, sf_1, sI_same, show ∀ x : Int32, (sI S 31 x).1 31 = x from fun _ => rfl, e2]
  by_cases h1 : nI j &&& 64 = 0
  · by_cases h2 : nI j &&& 128 = 0
    · simp only [if_pos h1, if_pos h2, hp.1]
    · simp only [if_pos h1, if_neg h2, hp.2.1]
  · by_cases h2 : nI j &&& 128 = 0
    · simp only [if_neg h1, if_pos h2, hp.2.2.1]
    · simp only [if_neg h1, if_neg h2, hp.2.2.2]
theorem tb_f (hI : Iv k S) {v : Int32} (hv : v &&& 255 = v) : (sp_X2_testBits k v S).2 = (if (S.1 27 &&& v) = 0 then sI (sp_X2_setFlag k 2 true S).2 31 (((sp_X2_setFlag k 2 true S).2.1 31 &&& (-193)) ||| (v &&& 192)) else sI (sp_X2_setFlag k 2 false S).2 31 (((sp_X2_setFlag k 2 false S).2.1 31 &&& (-193)) ||| (v &&& 192))) := by
  rw [← tb_e (iv_flag hI (b := 2) (by decide) true) hv, ← tb_e (iv_flag hI (b := 2) (by decide) false) hv]
  unfold sp_X2_testBits
  simp only [gB]
  repeat' split
  all_goals rfl
theorem ins_bit {mM mC r : Int32} (h : hR k c sp gn mM mC S) (hcy : ∀ T, sp_X10_cyclesOf mM T = (r, T)) (hr : r = 2 ∨ r = 3 ∨ r = 4 ∨ r = 5 ∨ r = 6) : Ins k c sp gn (sp_X10_listed 1 mM (ph k c sp false gn S)) (CI k 12 mC r S) := by
  obtain ⟨h1, hI, hv⟩ := h
  have hx := x01_r (k := k) (S := S) mC
  have e : (sp_X2_combine k 12 (rC k mC S).1 (rC k mC S).2).2 = (sp_X2_testBits k (rC k mC S).1 (rC k mC S).2).2 := cmb_12 _
  rw [tb_f hI hv] at e
  have key : ∀ b, Iv k (sI (sp_X2_setFlag k 2 b (rC k mC S).2).2 31 (((sp_X2_setFlag k 2 b (rC k mC S).2).2.1 31 &&& (-193)) ||| ((rC k mC S).1 &&& 192))) ∧ (sI (sp_X2_setFlag k 2 b (rC k mC S).2).2 31 (((sp_X2_setFlag k 2 b (rC k mC S).2).2.1 31 &&& (-193)) ||| ((rC k mC S).1 &&& 192))).1 33 = (rC k mC S).2.1 33 := by
    intro b
    have hf := iv_flag hI (b := 2) (by decide) b
    exact ⟨iv_sI 31 hf (or_m (and_l (iv_b hf 31 (m := 255) rfl)) (and_l hv)) hf.2.2, c_flag33 2 b⟩
  have hk : Iv k (sp_X2_combine k 12 (rC k mC S).1 (rC k mC S).2).2 ∧ (sp_X2_combine k 12 (rC k mC S).1 (rC k mC S).2).2.1 33 = (rC k mC S).2.1 33 := by
    rw [e]
    split
    · exact key true
    · exact key false
  refine ins_of (S2 := (sp_X2_combine k 12 (rC k mC S).1 (rC k mC S).2).2) (r := r + (sp_X2_combine k 12 (rC k mC S).1 (rC k mC S).2).2.1 33) (cr := crS (rC k mC S).2) ?_ (by unfold CI; rw [c_perfR (by decide)]) hk.1 (pos_cy hr (by rw [hk.2]; exact hx))
  rw [li_1, h1]
  simp only [phr_a, h_flag, phr_p, phw_p]
  rw [h_cyc hcy (R2 := (rC k mC S).2) (key true).2 hx, h_cyc hcy (R2 := (rC k mC S).2) (key false).2 hx, e]
  split <;> rfl
/-- a taken branch of the reference behind its fetch -/
def mGo (R : Int32 × gSt) : Int32 × gSt := (if 128 ≤ R.1 then (if ((sI R.2 6 ((R.2.1 6 + (R.1 - 256)) &&& 65535)).1 6 ^^^ R.2.1 6) ≤ 255 then (3, sI R.2 6 ((R.2.1 6 + (R.1 - 256)) &&& 65535)) else (4, sI R.2 6 ((R.2.1 6 + (R.1 - 256)) &&& 65535))) else (if ((sI R.2 6 ((R.2.1 6 + R.1) &&& 65535)).1 6 ^^^ R.2.1 6) ≤ 255 then (3, sI R.2 6 ((R.2.1 6 + R.1) &&& 65535)) else (4, sI R.2 6 ((R.2.1 6 + R.1) &&& 65535))))
theorem i8_e : ∀ j, j < 256 → (nI j).toInt8.toInt32 = if (128 : Int32) ≤ nI j then nI j - 256 else nI j := by decide +kernel
def bT (k : Bool) (S : gSt) : Int32 := ((sp_X2_fetch k S).2.1 32 + (sp_X2_fetch k S).1.toInt8.toInt32) &&& 65535
theorem aC_8 : aC k 8 S = (bT k S, sI (sp_X2_fetch k S).2 33 0) := by
  unfold aC
  rw [fo_1 8 (by decide) (by decide)]
  rfl
theorem h_go (hI : Iv k S) : mGo ((sp_X2_fetch k S).1, ph k c sp cr gn (sp_X2_fetch k S).2) = (2 + (1 + (sp_X2_otherPage k ((sp_X2_fetch k S).2.1 32) (bT k S) S).1), ph k c sp cr gn (sI (sp_X2_fetch k S).2 32 (bT k S))) := by
  have hf := iv_fetch hI
  obtain ⟨j, hj, e⟩ := by_of hf.2
  have hw : (sp_X2_fetch k S).2.1 32 &&& 65535 = (sp_X2_fetch k S).2.1 32 := iv_b hf.1 32 rfl
  have hb : bT k S = if (128 : Int32) ≤ (sp_X2_fetch k S).1 then ((sp_X2_fetch k S).2.1 32 + ((sp_X2_fetch k S).1 - 256)) &&& 65535 else ((sp_X2_fetch k S).2.1 32 + (sp_X2_fetch k S).1) &&& 65535 := by
    unfold bT
    rw [e, i8_e j hj]
    split <;> rfl
  unfold mGo sp_X2_otherPage
  simp only [phr_pc, phw_pc, show ∀ (T : gSt) (x : Int32), (sI T 32 x).1 32 = x from fun _ _ => rfl, page_eq (and_w _) hw]
  rw [hb]
  split
  · split <;> rfl
  · split <;> rfl

theorem op_2 (a b : Int32) (S : gSt) : (sp_X2_otherPage k a b S).2 = S := by
  unfold sp_X2_otherPage
  split <;> rfl
theorem sb_t {op x : Int32} (h : sp_X2_branchTaken k op S = (true, S)) : sp_X2_branch k op x S = (1 + (sp_X2_otherPage k (S.1 32) x S).1, sI S 32 x) := by
  unfold sp_X2_branch
  rw [h]
  show (1 + (sp_X2_otherPage k (S.1 32) x S).1, sI (sp_X2_otherPage k (S.1 32) x S).2 32 x) = _
  rw [op_2]
theorem sb_n {op x : Int32} (h : sp_X2_branchTaken k op S = (false, S)) : sp_X2_branch k op x S = (0, S) := by
  unfold sp_X2_branch
  rw [h]
  rfl
theorem bg_t {op : Int32} (hI : Iv k S) (h : CI k op 8 2 S = (2 + (1 + (sp_X2_otherPage k ((sI (sp_X2_fetch k S).2 33 0).1 32) (bT k S) (sI (sp_X2_fetch k S).2 33 0)).1, sI (sI (sp_X2_fetch k S).2 33 0) 32 (bT k S)).1, (1 + (sp_X2_otherPage k ((sI (sp_X2_fetch k S).2 33 0).1 32) (bT k S) (sI (sp_X2_fetch k S).2 33 0)).1, sI (sI (sp_X2_fetch k S).2 33 0) 32 (bT k S)).2)) : Ins k c sp gn (mGo ((sp_X2_fetch k S).1, ph k c sp false gn (sp_X2_fetch k S).2)) (CI k op 8 2 S) := by
  have hf := iv_fetch hI
  have h0 := iv_33 hf.1 0
  refine ins_of (cr := false) (r := 2 + (1 + (sp_X2_otherPage k ((sp_X2_fetch k S).2.1 32) (bT k S) S).1)) (S2 := sI (sI (sp_X2_fetch k S).2 33 0) 32 (bT k S)) ?_ ?_ (iv_sI 32 h0 (and_w _) h0.2.2) ?_
  · rw [h_go hI, sI_comm _ (by decide), phd_crossed]
  · rw [h]
    unfold sp_X2_otherPage
    simp only [ip]
    rfl
  · unfold sp_X2_otherPage
    split
    · exact (by decide : (0 : Int32) < 2 + (1 + 0))
    · exact (by decide : (0 : Int32) < 2 + (1 + 1))
theorem bg_n {op : Int32} (hI : Iv k S) (h : CI k op 8 2 S = (2 + ((0 : Int32), sI (sp_X2_fetch k S).2 33 0).1, ((0 : Int32), sI (sp_X2_fetch k S).2 33 0).2)) : Ins k c sp gn (2, ph k c sp false gn (sp_X2_fetch k S).2) (CI k op 8 2 S) := by
  have hf := iv_fetch hI
  exact ins_of (cr := false) (r := 2) (S2 := sI (sp_X2_fetch k S).2 33 0) (by rw [phd_crossed]) (by rw [h]; rfl) (iv_33 hf.1 0) (by decide)
theorem br_0 (T : gSt) : sp_X10_branch 0 T = (if ((sp_X10_fetch T).2.1 5 &&& 128) = 0 then mGo (sp_X10_fetch T) else (2, (sp_X10_fetch T).2)) := rfl
theorem pb_22 (x : Int32) (S : gSt) : sp_X2_perform k 22 8 x S = (if (S.1 31 &&& 128) = 0 then (1 + (sp_X2_otherPage k (S.1 32) x S).1, sI S 32 x) else (0, S)) := by
  have e : sp_X2_perform k 22 8 x S = sp_X2_branch k 22 x S := rfl
  have e2 : sp_X2_branchTaken k 22 S = (if (S.1 31 &&& 128) = 0 then (true, S) else (false, S)) := rfl
  rw [e]
  split
  · rename_i hz
    rw [if_pos hz] at e2
    exact sb_t e2
  · rename_i hz
    rw [if_neg hz] at e2
    exact sb_n e2
theorem ins_22 (hI : Iv k S) : Ins k c sp gn (sp_X10_branch 0 (ph k c sp false gn S)) (CI k 22 8 2 S) := by
  have hf := iv_fetch hI
  have h0 := iv_33 hf.1 0
  rw [br_0, h_fetch hI]
  by_cases hz : (sp_X2_fetch k S).2.1 31 &&& 128 = 0
  · rw [if_pos (c := ((((sp_X2_fetch k S).1, ph k c sp false gn (sp_X2_fetch k S).2) : Int32 × gSt).2.1 5 &&& 128) = 0) hz]
    have hd : CI k 22 8 2 S = (2 + (1 + (sp_X2_otherPage k ((sI (sp_X2_fetch k S).2 33 0).1 32) (bT k S) (sI (sp_X2_fetch k S).2 33 0)).1, sI (sI (sp_X2_fetch k S).2 33 0) 32 (bT k S)).1, (1 + (sp_X2_otherPage k ((sI (sp_X2_fetch k S).2 33 0).1 32) (bT k S) (sI (sp_X2_fetch k S).2 33 0)).1, sI (sI (sp_X2_fetch k S).2 33 0) 32 (bT k S)).2) := CI_of aC_8 ((pb_22 _ _).trans (if_pos hz))
    exact bg_t hI hd
  · rw [if_neg (c := ((((sp_X2_fetch k S).1, ph k c sp false gn (sp_X2_fetch k S).2) : Int32 × gSt).2.1 5 &&& 128) = 0) hz]
    have hd : CI k 22 8 2 S = (2 + ((0 : Int32), sI (sp_X2_fetch k S).2 33 0).1, ((0 : Int32), sI (sp_X2_fetch k S).2 33 0).2) := CI_of aC_8 ((pb_22 _ _).trans (if_neg hz))
    exact bg_n hI hd
theorem br_1 (T : gSt) : sp_X10_branch 1 T = (if ((sp_X10_fetch T).2.1 5 &&& 128) = 0 then (2, (sp_X10_fetch T).2) else mGo (sp_X10_fetch T)) := rfl
theorem pb_23 (x : Int32) (S : gSt) : sp_X2_perform k 23 8 x S = (if (S.1 31 &&& 128) = 0 then (0, S) else (1 + (sp_X2_otherPage k (S.1 32) x S).1, sI S 32 x)) := by
  have e : sp_X2_perform k 23 8 x S = sp_X2_branch k 23 x S := rfl
  have e2 : sp_X2_branchTaken k 23 S = (if (S.1 31 &&& 128) = 0 then (false, S) else (true, S)) := rfl
  rw [e]
  split
  · rename_i hz
    rw [if_pos hz] at e2
    exact sb_n e2
  · rename_i hz
    rw [if_neg hz] at e2
    exact sb_t e2
theorem ins_23 (hI : Iv k S) : Ins k c sp gn (sp_X10_branch 1 (ph k c sp false gn S)) (CI k 23 8 2 S) := by
  have hf := iv_fetch hI
  have h0 := iv_33 hf.1 0
  rw [br_1, h_fetch hI]
  by_cases hz : (sp_X2_fetch k S).2.1 31 &&& 128 = 0
  · rw [if_pos (c := ((((sp_X2_fetch k S).1, ph k c sp false gn (sp_X2_fetch k S).2) : Int32 × gSt).2.1 5 &&& 128) = 0) hz]
    have hd : CI k 23 8 2 S = (2 + ((0 : Int32), sI (sp_X2_fetch k S).2 33 0).1, ((0 : Int32), sI (sp_X2_fetch k S).2 33 0).2) := CI_of aC_8 ((pb_23 _ _).trans (if_pos hz))
    exact bg_n hI hd
  · rw [if_neg (c := ((((sp_X2_fetch k S).1, ph k c sp false gn (sp_X2_fetch k S).2) : Int32 × gSt).2.1 5 &&& 128) = 0) hz]
    have hd : CI k 23 8 2 S = (2 + (1 + (sp_X2_otherPage k ((sI (sp_X2_fetch k S).2 33 0).1 32) (bT k S) (sI (sp_X2_fetch k S).2 33 0)).1, sI (sI (sp_X2_fetch k S).2 33 0) 32 (bT k S)).1, (1 + (sp_X2_otherPage k ((sI (sp_X2_fetch k S).2 33 0).1 32) (bT k S) (sI (sp_X2_fetch k S).2 33 0)).1, sI (sI (sp_X2_fetch k S).2 33 0) 32 (bT k S)).2) := CI_of aC_8 ((pb_23 _ _).trans (if_neg hz))
    exact bg_t hI hd
theorem br_2 (T : gSt) : sp_X10_branch 2 T = (if ((sp_X10_fetch T).2.1 5 &&& 64) = 0 then mGo (sp_X10_fetch T) else (2, (sp_X10_fetch T).2)) := rfl
theorem pb_24 (x : Int32) (S : gSt) : sp_X2_perform k 24 8 x S = (if (S.1 31 &&& 64) = 0 then (1 + (sp_X2_otherPage k (S.1 32) x S).1, sI S 32 x) else (0, S)) := by
  have e : sp_X2_perform k 24 8 x S = sp_X2_branch k 24 x S := rfl
  have e2 : sp_X2_branchTaken k 24 S = (if (S.1 31 &&& 64) = 0 then (true, S) else (false, S)) := rfl
  rw [e]
  split
  · rename_i hz
    rw [if_pos hz] at e2
    exact sb_t e2
  · rename_i hz
    rw [if_neg hz] at e2
    exact sb_n e2
theorem ins_24 (hI : Iv k S) : Ins k c sp gn (sp_X10_branch 2 (ph k c sp false gn S)) (CI k 24 8 2 S) := by
  have hf := iv_fetch hI
  have h0 := iv_33 hf.1 0
  rw [br_2, h_fetch hI]
  by_cases hz : (sp_X2_fetch k S).2.1 31 &&& 64 = 0
  · rw [if_pos (c := ((((sp_X2_fetch k S).1, ph k c sp false gn (sp_X2_fetch k S).2) : Int32 × gSt).2.1 5 &&& 64) = 0) hz]
    have hd : CI k 24 8 2 S = (2 + (1 + (sp_X2_otherPage k ((sI (sp_X2_fetch k S).2 33 0).1 32) (bT k S) (sI (sp_X2_fetch k S).2 33 0)).1, sI (sI (sp_X2_fetch k S).2 33 0) 32 (bT k S)).1, (1 + (sp_X2_otherPage k ((sI (sp_X2_fetch k S).2 33 0).1 32) (bT k S) (sI (sp_X2_fetch k S).2 33 0)).1, sI (sI (sp_X2_fetch k S).2 33 0) 32 (bT k S)).2) := CI_of aC_8 ((pb_24 _ _).trans (if_pos hz))
    exact bg_t hI hd
  · rw [if_neg (c := ((((sp_X2_fetch k S).1, ph k c sp false gn (sp_X2_fetch k S).2) : Int32 × gSt).2.1 5 &&& 64) = 0) hz]
    have hd : CI k 24 8 2 S = (2 + ((0 : Int32), sI (sp_X2_fetch k S).2 33 0).1, ((0 : Int32), sI (sp_X2_fetch k S).2 33 0).2) := CI_of aC_8 ((pb_24 _ _).trans (if_neg hz))
    exact bg_n hI hd
theorem br_3 (T : gSt) : sp_X10_branch 3 T = (if ((sp_X10_fetch T).2.1 5 &&& 64) = 0 then (2, (sp_X10_fetch T).2) else mGo (sp_X10_fetch T)) := rfl
theorem pb_25 (x : Int32) (S : gSt) : sp_X2_perform k 25 8 x S = (if (S.1 31 &&& 64) = 0 then (0, S) else (1 + (sp_X2_otherPage k (S.1 32) x S).1, sI S 32 x)) := by
  have e : sp_X2_perform k 25 8 x S = sp_X2_branch k 25 x S := rfl
  have e2 : sp_X2_branchTaken k 25 S = (if (S.1 31 &&& 64) = 0 then (false, S) else (true, S)) := rfl
  rw [e]
  split
  · rename_i hz
    rw [if_pos hz] at e2
    exact sb_n e2
  · rename_i hz
    rw [if_neg hz] at e2
    exact sb_t e2
theorem ins_25 (hI : Iv k S) : Ins k c sp gn (sp_X10_branch 3 (ph k c sp false gn S)) (CI k 25 8 2 S) := by
  have hf := iv_fetch hI
  have h0 := iv_33 hf.1 0
  rw [br_3, h_fetch hI]
  by_cases hz : (sp_X2_fetch k S).2.1 31 &&& 64 = 0
  · rw [if_pos (c := ((((sp_X2_fetch k S).1, ph k c sp false gn (sp_X2_fetch k S).2) : Int32 × gSt).2.1 5 &&& 64) = 0) hz]
    have hd : CI k 25 8 2 S = (2 + ((0 : Int32), sI (sp_X2_fetch k S).2 33 0).1, ((0 : Int32), sI (sp_X2_fetch k S).2 33 0).2) := CI_of aC_8 ((pb_25 _ _).trans (if_pos hz))
    exact bg_n hI hd
  · rw [if_neg (c := ((((sp_X2_fetch k S).1, ph k c sp false gn (sp_X2_fetch k S).2) : Int32 × gSt).2.1 5 &&& 64) = 0) hz]
    have hd : CI k 25 8 2 S = (2 + (1 + (sp_X2_otherPage k ((sI (sp_X2_fetch k S).2 33 0).1 32) (bT k S) (sI (sp_X2_fetch k S).2 33 0)).1, sI (sI (sp_X2_fetch k S).2 33 0) 32 (bT k S)).1, (1 + (sp_X2_otherPage k ((sI (sp_X2_fetch k S).2 33 0).1 32) (bT k S) (sI (sp_X2_fetch k S).2 33 0)).1, sI (sI (sp_X2_fetch k S).2 33 0) 32 (bT k S)).2) := CI_of aC_8 ((pb_25 _ _).trans (if_neg hz))
    exact bg_t hI hd
theorem br_4 (T : gSt) : sp_X10_branch 4 T = (if ((sp_X10_fetch T).2.1 5 &&& 1) = 0 then mGo (sp_X10_fetch T) else (2, (sp_X10_fetch T).2)) := rfl
theorem pb_26 (x : Int32) (S : gSt) : sp_X2_perform k 26 8 x S = (if (S.1 31 &&& 1) = 0 then (1 + (sp_X2_otherPage k (S.1 32) x S).1, sI S 32 x) else (0, S)) := by
  have e : sp_X2_perform k 26 8 x S = sp_X2_branch k 26 x S := rfl
  have e2 : sp_X2_branchTaken k 26 S = (if (S.1 31 &&& 1) = 0 then (true, S) else (false, S)) := rfl
  rw [e]
  split
  · rename_i hz
    rw [if_pos hz] at e2
    exact sb_t e2
  · rename_i hz
    rw [if_neg hz] at e2
    exact sb_n e2
theorem ins_26 (hI : Iv k S) : Ins k c sp gn (sp_X10_branch 4 (ph k c sp false gn S)) (CI k 26 8 2 S) := by
  have hf := iv_fetch hI
  have h0 := iv_33 hf.1 0
  rw [br_4, h_fetch hI]
  by_cases hz : (sp_X2_fetch k S).2.1 31 &&& 1 = 0
  · rw [if_pos (c := ((((sp_X2_fetch k S).1, ph k c sp false gn (sp_X2_fetch k S).2) : Int32 × gSt).2.1 5 &&& 1) = 0) hz]
    have hd : CI k 26 8 2 S = (2 + (1 + (sp_X2_otherPage k ((sI (sp_X2_fetch k S).2 33 0).1 32) (bT k S) (sI (sp_X2_fetch k S).2 33 0)).1, sI (sI (sp_X2_fetch k S).2 33 0) 32 (bT k S)).1, (1 + (sp_X2_otherPage k ((sI (sp_X2_fetch k S).2 33 0).1 32) (bT k S) (sI (sp_X2_fetch k S).2 33 0)).1, sI (sI (sp_X2_fetch k S).2 33 0) 32 (bT k S)).2) := CI_of aC_8 ((pb_26 _ _).trans (if_pos hz))
    exact bg_t hI hd
  · rw [if_neg (c := ((((sp_X2_fetch k S).1, ph k c sp false gn (sp_X2_fetch k S).2) : Int32 × gSt).2.1 5 &&& 1) = 0) hz]
    have hd : CI k 26 8 2 S = (2 + ((0 : Int32), sI (sp_X2_fetch k S).2 33 0).1, ((0 : Int32), sI (sp_X2_fetch k S).2 33 0).2) := CI_of aC_8 ((pb_26 _ _).trans (if_neg hz))
    exact bg_n hI hd
theorem br_5 (T : gSt) : sp_X10_branch 5 T = (if ((sp_X10_fetch T).2.1 5 &&& 1) = 0 then (2, (sp_X10_fetch T).2) else mGo (sp_X10_fetch T)) := rfl
theorem pb_27 (x : Int32) (S : gSt) : sp_X2_perform k 27 8 x S = (if (S.1 31 &&& 1) = 0 then (0, S) else (1 + (sp_X2_otherPage k (S.1 32) x S).1, sI S 32 x)) := by
  have e : sp_X2_perform k 27 8 x S = sp_X2_branch k 27 x S := rfl
  have e2 : sp_X2_branchTaken k 27 S = (if (S.1 31 &&& 1) = 0 then (false, S) else (true, S)) := rfl
  rw [e]
  split
  · rename_i hz
    rw [if_pos hz] at e2
    exact sb_n e2
  · rename_i hz
    rw [if_neg hz] at e2
    exact sb_t e2
theorem ins_27 (hI : Iv k S) : Ins k c sp gn (sp_X10_branch 5 (ph k c sp false gn S)) (CI k 27 8 2 S) := by
  have hf := iv_fetch hI
  have h0 := iv_33 hf.1 0
  rw [br_5, h_fetch hI]
  by_cases hz : (sp_X2_fetch k S).2.1 31 &&& 1 = 0
  · rw [if_pos (c := ((((sp_X2_fetch k S).1, ph k c sp false gn (sp_X2_fetch k S).2) : Int32 × gSt).2.1 5 &&& 1) = 0) hz]
    have hd : CI k 27 8 2 S = (2 + ((0 : Int32), sI (sp_X2_fetch k S).2 33 0).1, ((0 : Int32), sI (sp_X2_fetch k S).2 33 0).2) := CI_of aC_8 ((pb_27 _ _).trans (if_pos hz))
    exact bg_n hI hd
  · rw [if_neg (c := ((((sp_X2_fetch k S).1, ph k c sp false gn (sp_X2_fetch k S).2) : Int32 × gSt).2.1 5 &&& 1) = 0) hz]
    have hd : CI k 27 8 2 S = (2 + (1 + (sp_X2_otherPage k ((sI (sp_X2_fetch k S).2 33 0).1 32) (bT k S) (sI (sp_X2_fetch k S).2 33 0)).1, sI (sI (sp_X2_fetch k S).2 33 0) 32 (bT k S)).1, (1 + (sp_X2_otherPage k ((sI (sp_X2_fetch k S).2 33 0).1 32) (bT k S) (sI (sp_X2_fetch k S).2 33 0)).1, sI (sI (sp_X2_fetch k S).2 33 0) 32 (bT k S)).2) := CI_of aC_8 ((pb_27 _ _).trans (if_neg hz))
    exact bg_t hI hd
theorem br_6 (T : gSt) : sp_X10_branch 6 T = (if ((sp_X10_fetch T).2.1 5 &&& 2) = 0 then mGo (sp_X10_fetch T) else (2, (sp_X10_fetch T).2)) := rfl
theorem pb_28 (x : Int32) (S : gSt) : sp_X2_perform k 28 8 x S = (if (S.1 31 &&& 2) = 0 then (1 + (sp_X2_otherPage k (S.1 32) x S).1, sI S 32 x) else (0, S)) := by
  have e : sp_X2_perform k 28 8 x S = sp_X2_branch k 28 x S := rfl
  have e2 : sp_X2_branchTaken k 28 S = (if (S.1 31 &&& 2) = 0 then (true, S) else (false, S)) := rfl
  rw [e]
  split
  · rename_i hz
    rw [if_pos hz] at e2
    exact sb_t e2
  · rename_i hz
    rw [if_neg hz] at e2
    exact sb_n e2
theorem ins_28 (hI : Iv k S) : Ins k c sp gn (sp_X10_branch 6 (ph k c sp false gn S)) (CI k 28 8 2 S) := by
  have hf := iv_fetch hI
  have h0 := iv_33 hf.1 0
  rw [br_6, h_fetch hI]
  by_cases hz : (sp_X2_fetch k S).2.1 31 &&& 2 = 0
  · rw [if_pos (c := ((((sp_X2_fetch k S).1, ph k c sp false gn (sp_X2_fetch k S).2) : Int32 × gSt).2.1 5 &&& 2) = 0) hz]
    have hd : CI k 28 8 2 S = (2 + (1 + (sp_X2_otherPage k ((sI (sp_X2_fetch k S).2 33 0).1 32) (bT k S) (sI (sp_X2_fetch k S).2 33 0)).1, sI (sI (sp_X2_fetch k S).2 33 0) 32 (bT k S)).1, (1 + (sp_X2_otherPage k ((sI (sp_X2_fetch k S).2 33 0).1 32) (bT k S) (sI (sp_X2_fetch k S).2 33 0)).1, sI (sI (sp_X2_fetch k S).2 33 0) 32 (bT k S)).2) := CI_of aC_8 ((pb_28 _ _).trans (if_pos hz))
    exact bg_t hI hd
  · rw [if_neg (c := ((((sp_X2_fetch k S).1, ph k c sp false gn (sp_X2_fetch k S).2) : Int32 × gSt).2.1 5 &&& 2) = 0) hz]
    have hd : CI k 28 8 2 S = (2 + ((0 : Int32), sI (sp_X2_fetch k S).2 33 0).1, ((0 : Int32), sI (sp_X2_fetch k S).2 33 0).2) := CI_of aC_8 ((pb_28 _ _).trans (if_neg hz))
    exact bg_n hI hd
theorem br_7 (T : gSt) : sp_X10_branch 7 T = (if ((sp_X10_fetch T).2.1 5 &&& 2) = 0 then (2, (sp_X10_fetch T).2) else mGo (sp_X10_fetch T)) := rfl
theorem pb_29 (x : Int32) (S : gSt) : sp_X2_perform k 29 8 x S = (if (S.1 31 &&& 2) = 0 then (0, S) else (1 + (sp_X2_otherPage k (S.1 32) x S).1, sI S 32 x)) := by
  have e : sp_X2_perform k 29 8 x S = sp_X2_branch k 29 x S := rfl
  have e2 : sp_X2_branchTaken k 29 S = (if (S.1 31 &&& 2) = 0 then (false, S) else (true, S)) := rfl
  rw [e]
  split
  · rename_i hz
    rw [if_pos hz] at e2
    exact sb_n e2
  · rename_i hz
    rw [if_neg hz] at e2
    exact sb_t e2
theorem ins_29 (hI : Iv k S) : Ins k c sp gn (sp_X10_branch 7 (ph k c sp false gn S)) (CI k 29 8 2 S) := by
  have hf := iv_fetch hI
  have h0 := iv_33 hf.1 0
  rw [br_7, h_fetch hI]
  by_cases hz : (sp_X2_fetch k S).2.1 31 &&& 2 = 0
  · rw [if_pos (c := ((((sp_X2_fetch k S).1, ph k c sp false gn (sp_X2_fetch k S).2) : Int32 × gSt).2.1 5 &&& 2) = 0) hz]
    have hd : CI k 29 8 2 S = (2 + ((0 : Int32), sI (sp_X2_fetch k S).2 33 0).1, ((0 : Int32), sI (sp_X2_fetch k S).2 33 0).2) := CI_of aC_8 ((pb_29 _ _).trans (if_pos hz))
    exact bg_n hI hd
  · rw [if_neg (c := ((((sp_X2_fetch k S).1, ph k c sp false gn (sp_X2_fetch k S).2) : Int32 × gSt).2.1 5 &&& 2) = 0) hz]
    have hd : CI k 29 8 2 S = (2 + (1 + (sp_X2_otherPage k ((sI (sp_X2_fetch k S).2 33 0).1 32) (bT k S) (sI (sp_X2_fetch k S).2 33 0)).1, sI (sI (sp_X2_fetch k S).2 33 0) 32 (bT k S)).1, (1 + (sp_X2_otherPage k ((sI (sp_X2_fetch k S).2 33 0).1 32) (bT k S) (sI (sp_X2_fetch k S).2 33 0)).1, sI (sI (sp_X2_fetch k S).2 33 0) 32 (bT k S)).2) := CI_of aC_8 ((pb_29 _ _).trans (if_neg hz))
    exact bg_t hI hd
end PS
