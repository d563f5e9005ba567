section PN
variable {k : Bool} {c sp : Int32} {cr : Bool} {gn : Int64} {S : gSt}
def crS (S : gSt) : Bool := decide (S.1 33 = 1)
theorem iv_33 (hI : Iv k S) (v : Int32) : Iv k (sI S 33 v) := iv_sI 33 hI (by rw [show mk 33 = -1 from rfl, Int32.and_neg_one]) hI.2.2
theorem hi_0 {z : Int32} (hz : z &&& 65535 = z) : z ≤ 255 ↔ z &&& 65280 = 0 := by
  obtain ⟨j, hj, e⟩ := by_m (x := z) (m := 65535) 16 (by decide) hz
  subst e
  have e1 : nI j = ((nI (j / 256)) <<< ((8 : Int32) &&& (31 : Int32))) ||| nI (j % 256) := by
    rw [(pg_i (j / 256) (by omega) (j % 256) (by omega)).1]
    exact congrArg nI (by omega)
  have e2 : nI j ≤ (255 : Int32) ↔ j ≤ 255 := nI_leI (b := 255) (by omega) (by omega)
  rw [e2]
  have e3 : nI j &&& 65280 = (nI (j / 256)) <<< ((8 : Int32) &&& (31 : Int32)) := by
    rw [e1, and_or, (by decide +kernel : ∀ q, q < 256 → ((nI q) <<< ((8 : Int32) &&& (31 : Int32))) &&& 65280 = (nI q) <<< ((8 : Int32) &&& (31 : Int32))) (j / 256) (by omega), (by decide +kernel : ∀ q, q < 256 → nI q &&& 65280 = (0 : Int32)) (j % 256) (by omega), Int32.or_zero]
  rw [e3, (by decide +kernel : ∀ q, q < 256 → ((nI q) <<< ((8 : Int32) &&& (31 : Int32)) = 0 ↔ q = 0)) (j / 256) (by omega)]
  omega
theorem xor_0 {x y : Int32} : x ^^^ y = 0 ↔ x = y := by
  constructor
  · intro h
    apply b_ext
    intro i _
    have h2 := congrArg (fun z => bt z i) h
    simp only [b_xor, b_0] at h2
    revert h2
    cases bt x i <;> cases bt y i <;> decide
  · intro h
    subst h
    apply b_ext
    intro i _
    simp only [b_xor, b_0]
    cases bt x i <;> rfl
theorem xor_and (x y m : Int32) : (x ^^^ y) &&& m = (x &&& m) ^^^ (y &&& m) := by
  apply b_ext
  intro i _
  simp only [b_and, b_xor]
  cases bt x i <;> cases bt y i <;> cases bt m i <;> rfl
theorem page_eq {x y : Int32} (hx : x &&& 65535 = x) (hy : y &&& 65535 = y) : (x ^^^ y) ≤ 255 ↔ (y &&& 65280) = (x &&& 65280) := by
  rw [hi_0 (by rw [xor_and, hx, hy]), xor_and, xor_0]
  exact eq_comm
theorem h_indexed {a0 : Int32} (ha : a0 &&& 65535 = a0) (a1 : Int32) : sp_X10_indexed a0 a1 (ph k c sp cr gn S) = ((sp_X2_indexed k a0 a1 S).1, ph k c sp (crS (sp_X2_indexed k a0 a1 S).2) gn (sp_X2_indexed k a0 a1 S).2) := by
  unfold sp_X10_indexed sp_X2_indexed sp_X2_otherPage
  simp only [gB, gL, phx_crossed, page_eq (and_w (a0 + a1)) ha]
  by_cases h : (a0 &&& 65280) = (((a0 + a1) &&& 65535) &&& 65280)
  · simp only [if_pos h, phd_crossed]
    rfl
  · simp only [if_neg h, phd_crossed]
    rfl
theorem iv_indexed (hI : Iv k S) (a0 a1 : Int32) : Iv k (sp_X2_indexed k a0 a1 S).2 ∧ ∃ j : Nat, j < 65536 ∧ (sp_X2_indexed k a0 a1 S).1 = nI j := by
  unfold sp_X2_indexed sp_X2_otherPage
  simp only [gB, gL]
  refine ⟨?_, nI_mod _⟩
  split <;> exact iv_33 hI _
theorem c_load0 {j : Nat} (hj : j < 256) : sp_X0_load k (nI j) S = (aG S 16 (nI j), S) := by
  unfold sp_X0_load
  rw [if_neg (show ¬ (8192 : Int32) ≤ nI j from fun z => by have := (nI_leI (a := 8192) (b := j) (by omega) (by omega)).mp z; omega)]
  rw [(by decide +kernel : ∀ j, j < 256 → nI j &&& 2047 = nI j) j hj]
theorem c_wwp0 {j : Nat} (hj : j < 256) : sp_X2_wordWithinPage k (nI j) S = ((sp_X10_pointed (nI j) (ph k c sp cr gn S)).1, S) := by
  obtain ⟨q, hq, e⟩ := pk_andE (nI j + 1) (m := 255) 8 (by decide)
  unfold sp_X2_wordWithinPage sp_X10_pointed
  simp only [gB, pha_ram]
  rw [e, (by decide +kernel : ∀ j, j < 256 → nI j &&& 65280 = (0 : Int32)) j hj, Int32.zero_or, c_load0 hj]
  simp only [c_load0 hq]
theorem h_pointed {j : Nat} (hj : j < 256) : sp_X10_pointed (nI j) (ph k c sp cr gn S) = ((sp_X2_wordWithinPage k (nI j) S).1, ph k c sp cr gn S) ∧ (sp_X2_wordWithinPage k (nI j) S).2 = S := by
  rw [c_wwp0 (c := c) (sp := sp) (cr := cr) (gn := gn) hj]
  exact ⟨rfl, rfl⟩
theorem iv_wwp (hI : Iv k S) (a : Int32) : Iv k (sp_X2_wordWithinPage k a S).2 ∧ ∃ j : Nat, j < 65536 ∧ (sp_X2_wordWithinPage k a S).1 = nI j := by
  unfold sp_X2_wordWithinPage
  simp only [gB]
  have h1 := iv_Load hI a
  have h2 := iv_Load h1.1 ((a &&& 65280) ||| ((a + 1) &&& 255))
  exact ⟨h2.1, wd_b h1.2 h2.2⟩
/-- an address by its mode: what the class does -/
def aC (k : Bool) (m : Int32) (S : gSt) : Int32 × gSt := sp_X2_addressOf k m (sp_X2_fetchOperand k m S).1 (sp_X2_fetchOperand k m S).2
def hA (k : Bool) (c sp : Int32) (gn : Int64) (mM mC : Int32) (S : gSt) : Prop := sp_X10_addressed mM (ph k c sp false gn S) = ((aC k mC S).1, ph k c sp (crS (aC k mC S).2) gn (aC k mC S).2) ∧ Iv k (aC k mC S).2 ∧ ∃ j : Nat, j < 65536 ∧ (aC k mC S).1 = nI j
theorem fo_1 (m : Int32) (h1 : 2 ≤ m) (h2 : ¬ 9 ≤ m) : sp_X2_fetchOperand k m S = sp_X2_fetch k S := by
  unfold sp_X2_fetchOperand
  simp only [gB, if_pos h1, if_neg h2]
theorem fo_2 (m : Int32) (h1 : 2 ≤ m) (h2 : 9 ≤ m) : sp_X2_fetchOperand k m S = ((sp_X2_fetch k S).1 ||| ((sp_X2_fetch k (sp_X2_fetch k S).2).1 <<< ((8 : Int32) &&& (31 : Int32))), (sp_X2_fetch k (sp_X2_fetch k S).2).2) := by
  unfold sp_X2_fetchOperand
  simp only [gB, if_pos h1, if_pos h2]
theorem by_w {x : Int32} (h : x &&& 255 = x) : ∃ j : Nat, j < 65536 ∧ x = nI j := by
  obtain ⟨j, hj, e⟩ := by_of h
  exact ⟨j, by omega, e⟩
theorem ha_z (hI : Iv k S) : hA k c sp gn 2 3 S := by
  have hf := iv_fetch hI
  have e : aC k 3 S = ((sp_X2_fetch k S).1, sI (sp_X2_fetch k S).2 33 0) := by
    unfold aC
    rw [fo_1 3 (by decide) (by decide)]
    rfl
  unfold hA
  rw [e]
  refine ⟨?_, iv_33 hf.1 0, by_w hf.2⟩
  unfold sp_X10_addressed
  rw [if_neg (by decide), if_pos rfl, h_fetch hI]
  simp only [gB, phd_crossed]
  rfl
theorem ha_zx (hI : Iv k S) : hA k c sp gn 3 4 S := by
  have hf := iv_fetch hI
  have e : aC k 4 S = (((sp_X2_fetch k S).1 + (sp_X2_fetch k S).2.1 28) &&& 255, sI (sp_X2_fetch k S).2 33 0) := by
    unfold aC
    rw [fo_1 4 (by decide) (by decide)]
    rfl
  unfold hA
  rw [e]
  refine ⟨?_, iv_33 hf.1 0, by_w (by_and _)⟩
  unfold sp_X10_addressed
  rw [if_neg (by decide), if_neg (by decide), if_pos rfl, h_fetch hI]
  simp only [gB, phd_crossed, phr_x]
  rfl
theorem ha_zy (hI : Iv k S) : hA k c sp gn 4 5 S := by
  have hf := iv_fetch hI
  have e : aC k 5 S = (((sp_X2_fetch k S).1 + (sp_X2_fetch k S).2.1 29) &&& 255, sI (sp_X2_fetch k S).2 33 0) := by
    unfold aC
    rw [fo_1 5 (by decide) (by decide)]
    rfl
  unfold hA
  rw [e]
  refine ⟨?_, iv_33 hf.1 0, by_w (by_and _)⟩
  unfold sp_X10_addressed
  rw [if_neg (by decide), if_neg (by decide), if_neg (by decide), if_pos rfl, h_fetch hI]
  simp only [gB, phd_crossed, phr_y]
  rfl
theorem ha_a (hI : Iv k S) : hA k c sp gn 5 9 S := by
  have hf := iv_fetch hI
  have hg := iv_fetch hf.1
  have e : aC k 9 S = ((sp_X2_fetch k S).1 ||| ((sp_X2_fetch k (sp_X2_fetch k S).2).1 <<< ((8 : Int32) &&& (31 : Int32))), sI (sp_X2_fetch k (sp_X2_fetch k S).2).2 33 0) := by
    unfold aC
    rw [fo_2 9 (by decide) (by decide)]
    rfl
  unfold hA
  rw [e]
  refine ⟨?_, iv_33 hg.1 0, wd_b hf.2 hg.2⟩
  unfold sp_X10_addressed
  rw [if_neg (by decide), if_neg (by decide), if_neg (by decide), if_neg (by decide), if_pos rfl, h_fetchWord hI]
  simp only [gB, phd_crossed]
  rfl
theorem ha_ax (hI : Iv k S) : hA k c sp gn 6 10 S := by
  have hf := iv_fetch hI
  have hg := iv_fetch hf.1
  obtain ⟨w, hw, ew⟩ := wd_b hf.2 hg.2
  have e : aC k 10 S = sp_X2_indexed k ((sp_X2_fetch k S).1 ||| ((sp_X2_fetch k (sp_X2_fetch k S).2).1 <<< ((8 : Int32) &&& (31 : Int32)))) ((sp_X2_fetch k (sp_X2_fetch k S).2).2.1 28) (sI (sp_X2_fetch k (sp_X2_fetch k S).2).2 33 0) := by
    unfold aC
    rw [fo_2 10 (by decide) (by decide)]
    rfl
  unfold hA
  rw [e]
  refine ⟨?_, iv_indexed (iv_33 hg.1 0) _ _⟩
  unfold sp_X10_addressed
  rw [if_neg (by decide), if_neg (by decide), if_neg (by decide), if_neg (by decide), if_neg (by decide), if_pos rfl, h_fetchWord hI]
  simp only [gB, phr_x]
  rw [ew, ← phd_crossed k c sp false gn (sp_X2_fetch k (sp_X2_fetch k S).2).2 0, h_indexed (nIw hw)]
theorem ha_ay (hI : Iv k S) : hA k c sp gn 7 11 S := by
  have hf := iv_fetch hI
  have hg := iv_fetch hf.1
  obtain ⟨w, hw, ew⟩ := wd_b hf.2 hg.2
  have e : aC k 11 S = sp_X2_indexed k ((sp_X2_fetch k S).1 ||| ((sp_X2_fetch k (sp_X2_fetch k S).2).1 <<< ((8 : Int32) &&& (31 : Int32)))) ((sp_X2_fetch k (sp_X2_fetch k S).2).2.1 29) (sI (sp_X2_fetch k (sp_X2_fetch k S).2).2 33 0) := by
    unfold aC
    rw [fo_2 11 (by decide) (by decide)]
    rfl
  unfold hA
  rw [e]
  refine ⟨?_, iv_indexed (iv_33 hg.1 0) _ _⟩
  unfold sp_X10_addressed
  rw [if_neg (by decide), if_neg (by decide), if_neg (by decide), if_neg (by decide), if_neg (by decide), if_neg (by decide), if_pos rfl, h_fetchWord hI]
  simp only [gB, phr_y]
  rw [ew, ← phd_crossed k c sp false gn (sp_X2_fetch k (sp_X2_fetch k S).2).2 0, h_indexed (nIw hw)]
theorem c_crS0 (S : gSt) : crS (sI S 33 0) = false := rfl
theorem ha_px (hI : Iv k S) : hA k c sp gn 8 6 S := by
  have hf := iv_fetch hI
  obtain ⟨q, hq, eq⟩ := pk_andE ((sp_X2_fetch k S).1 + (sp_X2_fetch k S).2.1 28) (m := 255) 8 (by decide)
  have e : aC k 6 S = sp_X2_wordWithinPage k (nI q) (sI (sp_X2_fetch k S).2 33 0) := by
    unfold aC
    rw [fo_1 6 (by decide) (by decide), ← eq]
    rfl
  have hp := h_pointed (k := k) (c := c) (sp := sp) (cr := false) (gn := gn) (S := sI (sp_X2_fetch k S).2 33 0) hq
  unfold hA
  rw [e]
  refine ⟨?_, iv_wwp (iv_33 hf.1 0) _⟩
  unfold sp_X10_addressed
  rw [if_neg (by decide), if_neg (by decide), if_neg (by decide), if_neg (by decide), if_neg (by decide), if_neg (by decide), if_neg (by decide), if_pos rfl, h_fetch hI]
  simp only [gB, phr_x]
  rw [eq, ← phd_crossed k c sp false gn (sp_X2_fetch k S).2 0, hp.1, hp.2, c_crS0]
theorem ha_py (hI : Iv k S) : hA k c sp gn 9 7 S := by
  have hf := iv_fetch hI
  obtain ⟨q, hq, eq⟩ := by_of hf.2
  have hw := iv_wwp (iv_33 hf.1 0) (nI q)
  obtain ⟨w, hw2, ew⟩ := hw.2
  have hp := h_pointed (k := k) (c := c) (sp := sp) (cr := false) (gn := gn) (S := sI (sp_X2_fetch k S).2 33 0) hq
  have e : aC k 7 S = sp_X2_indexed k (sp_X2_wordWithinPage k (nI q) (sI (sp_X2_fetch k S).2 33 0)).1 ((sp_X2_fetch k S).2.1 29) (sI (sp_X2_fetch k S).2 33 0) := by
    unfold aC
    rw [fo_1 7 (by decide) (by decide), eq]
    show sp_X2_indexed k (sp_X2_wordWithinPage k (nI q) (sI (sp_X2_fetch k S).2 33 0)).1 ((sp_X2_wordWithinPage k (nI q) (sI (sp_X2_fetch k S).2 33 0)).2.1 29) (sp_X2_wordWithinPage k (nI q) (sI (sp_X2_fetch k S).2 33 0)).2 = _
    rw [hp.2]
    rfl
  unfold hA
  rw [e]
  refine ⟨?_, iv_indexed (iv_33 hf.1 0) _ _⟩
  unfold sp_X10_addressed
  rw [if_neg (by decide), if_neg (by decide), if_neg (by decide), if_neg (by decide), if_neg (by decide), if_neg (by decide), if_neg (by decide), if_neg (by decide), h_fetch hI]
  simp only [gB]
  rw [eq, ← phd_crossed k c sp false gn (sp_X2_fetch k S).2 0, hp.1]
  simp only [phr_y]
  rw [ew, h_indexed (nIw hw2)]
  rfl
end PN
