section PZe
variable {k : Bool} {S : gSt}
def mD (k : Bool) (S : gSt) (x : Int32) : Int32 := if ((sp_X8_nextMark k S).1 - (S.1 25)) < x then ((sp_X8_nextMark k S).1 - (S.1 25)) else x
def mK (k : Bool) (S : gSt) (d : Int32) : gSt := if (sI S 25 (S.1 25 + d)).1 25 = (sp_X8_nextMark k S).1 then (sp_X8_comeToMark k (sI S 25 (S.1 25 + d))).2 else sI S 25 (S.1 25 + d)
theorem c_nm2 : (sp_X8_nextMark k S).2 = S := by
  unfold sp_X8_nextMark sp_X8_frameEnd
  simp only [gB]
  repeat' split
  all_goals rfl
theorem adv8_s (n : Nat) (x1 x2 x3 : Int32) : lp_X8_advance_4 k (n + 1) x1 x2 x3 S = (if 1000 ≤ x3 then ((), S) else (if x2 ≤ 0 then ((), S) else lp_X8_advance_4 k n x1 (x2 - mD k S x2) (x3 + 1) (mK k S (mD k S x2)))) := by
  rw [lp_X8_advance_4]
  simp only [gB, gL, c_nm2]
  rw [show (if ((sp_X8_nextMark k S).1 - (S.1 25)) < x2 then ((sp_X8_nextMark k S).1 - (S.1 25)) else x2) = mD k S x2 from rfl]
  generalize mD k S x2 = d
  generalize lp_X8_advance_4 k n x1 (x2 - d) (x3 + 1) = L
  unfold mK
  split
  · rfl
  split
  · rfl
  split <;> rfl
/-- the end of the frame, as a number -/
def fN (S : gSt) : Nat := if bI (S.2.1 3) = 0 then 29829 else 37281
theorem fE_n : fE S = nI (fN S) := by
  unfold fE fN
  split <;> rfl
theorem fN_b : 29829 ≤ fN S ∧ fN S ≤ 37281 := by
  unfold fN
  split <;> omega
theorem fN_s (j : Nat) (v : Int32) : fN (sI S j v) = fN S := rfl
theorem m_eq {a b : Nat} (ha : a < 100000) (hb : b < 100000) : nI a = nI b ↔ a = b := nI_eq (by omega) (by omega)
/-- the next mark, as a number -/
def nM (S : gSt) (f : Nat) : Nat := if f < 14913 then 14913 else (if f < fN S then fN S else fN S + 1)
theorem nM_n {f : Nat} (hS : S.1 25 = nI f) (hf : f ≤ fN S) : (sp_X8_nextMark k S).1 = nI (nM S f) := by
  have hb := fN_b (S := S)
  have e : ∀ T : gSt, sp_X8_frameEnd k T = (fE T, T) := fun T => by
    unfold sp_X8_frameEnd fE
    split <;> rfl
  unfold sp_X8_nextMark nM
  simp only [gB, e]
  rw [hS, fE_n]
  by_cases h1 : f < 14913
  · rw [if_neg (show ¬ (14913 : Int32) ≤ nI f from nI_ge (b := 14913) h1 (by omega)), if_pos h1]
    rfl
  · rw [if_pos (show (14913 : Int32) ≤ nI f from nI_le (a := 14913) (by omega) (by omega)), if_neg h1]
    by_cases h2 : f < fN S
    · rw [if_neg (nI_ge h2 (by omega)), if_pos h2]
    · rw [if_pos (nI_le (by omega) (by omega)), if_neg h2, nI_1]
theorem fC_q {f : Nat} (h1 : ¬ f + 1 = 14913) (h3 : f + 1 < fN S) (Y : gSt) (hY : fN Y = fN S) : fC k (sI Y 25 (nI f)) = sI Y 25 (nI (f + 1)) := by
  have hb := fN_b (S := S)
  have e : sI (sI Y 25 (nI f)) 25 ((sI Y 25 (nI f)).1 25 + 1) = sI Y 25 (nI (f + 1)) := by
    rw [sI_same, show (sI Y 25 (nI f)).1 25 + 1 = nI (f + 1) from nI_1 f]
  have e2 : fE (sI Y 25 (nI (f + 1))) = nI (fN S) := by rw [fE_n, fN_s, hY]
  unfold fC fA
  rw [e, e2, if_neg (show ¬ (sI Y 25 (nI (f + 1))).1 25 = 14913 from fun z => h1 ((m_eq (b := 14913) (by omega) (by omega)).mp z)), if_neg (show ¬ (sI Y 25 (nI (f + 1))).1 25 = nI (fN S) from fun z => by have := (m_eq (by omega) (by omega)).mp (show nI (f + 1) = nI (fN S) from z); omega)]
  unfold fB
  rw [e2, if_neg (show ¬ (sI Y 25 (nI (f + 1))).1 25 = nI (fN S) from fun z => by have := (m_eq (by omega) (by omega)).mp (show nI (f + 1) = nI (fN S) from z); omega)]
  unfold fD
  rw [e2, if_pos (show (sI Y 25 (nI (f + 1))).1 25 ≤ nI (fN S) from nI_le (by omega) (by omega))]
theorem it_fq {f : Nat} (hS : S.1 25 = nI f) (hf : f ≤ fN S) (m : Nat) : f + m < nM S f → it (fC k) m S = sI S 25 (nI (f + m)) := by
  have hb := fN_b (S := S)
  induction m with
  | zero => intro h; exact (sI_eq S hS).symm
  | succ m ih =>
    intro h
    rw [it_s, ih (by omega)]
    refine fC_q (S := S) ?_ ?_ S rfl
    · unfold nM at h
      split at h
      · omega
      · split at h <;> omega
    · unfold nM at h
      split at h
      · omega
      · split at h <;> omega
theorem fB_r (Y : gSt) : (fB Y).1 25 = Y.1 25 ∧ fE (fB Y) = fE Y := by
  unfold fB
  split
  · split
    · split
      · exact ⟨rfl, rfl⟩
      · exact ⟨rfl, rfl⟩
    · exact ⟨rfl, rfl⟩
  · exact ⟨rfl, rfl⟩
theorem fe_e (T : gSt) : sp_X8_frameEnd k T = (fE T, T) := by
  unfold sp_X8_frameEnd fE
  split <;> rfl
theorem cm_c {Y : gSt} (h : Y.1 25 ≤ fE Y) (h2 : Y.1 25 = 14913 ∨ Y.1 25 = fE Y) : (sp_X8_comeToMark k Y).2 = fD (fB (fA k Y)) := by
  have eA : fA k Y = (sp_X8_countLengths k Y).2 := by
    unfold fA
    rcases h2 with h2 | h2
    · rw [if_pos h2]
    · rw [if_pos h2]
      split <;> rfl
  have eD : fD (fB (sp_X8_countLengths k Y).2) = fB (sp_X8_countLengths k Y).2 := by
    unfold fD
    rw [(fB_r _).1, (fB_r _).2, fE_cl, c_cl.1, if_pos h]
  rw [eA, eD]
  unfold sp_X8_comeToMark
  simp only [gB, fe_e]
  rw [if_pos h]
  generalize (sp_X8_countLengths k Y).2 = Z
  unfold fB
  simp only [gL]
  repeat' split
  all_goals rfl
theorem cm_w {Y : gSt} {f : Nat} (hY : Y.1 25 = nI (fN Y + 1)) : (sp_X8_comeToMark k Y).2 = fD (fB (fA k Y)) := by
  have hb := fN_b (S := Y)
  have n1 : ¬ Y.1 25 = 14913 := fun z => by
    rw [hY] at z
    have := (m_eq (b := 14913) (by omega) (by omega)).mp z
    omega
  have n2 : ¬ Y.1 25 = fE Y := fun z => by
    rw [hY, fE_n] at z
    have := (m_eq (by omega) (by omega)).mp z
    omega
  have n3 : ¬ Y.1 25 ≤ fE Y := by
    rw [hY, fE_n]
    exact nI_ge (by omega) (by omega)
  unfold sp_X8_comeToMark fA
  simp only [gB, fe_e]
  rw [if_neg n3, if_neg n1, if_neg n2]
  unfold fB
  rw [if_neg n2]
  unfold fD
  rw [if_neg n3]
  rfl
theorem fC_m {f : Nat} (hf : f ≤ fN S) {M : Nat} (hM : nM S f = M + 1) : fC k (sI S 25 (nI M)) = (sp_X8_comeToMark k (sI S 25 (nI (M + 1)))).2 := by
  have hb := fN_b (S := S)
  have e : sI (sI S 25 (nI M)) 25 ((sI S 25 (nI M)).1 25 + 1) = sI S 25 (nI (M + 1)) := by
    rw [sI_same, show (sI S 25 (nI M)).1 25 + 1 = nI (M + 1) from nI_1 M]
  have e2 : fE (sI S 25 (nI (M + 1))) = nI (fN S) := by rw [fE_n, fN_s]
  have hc : M + 1 = 14913 ∨ M + 1 = fN S ∨ M + 1 = fN S + 1 := by
    unfold nM at hM
    split at hM
    · omega
    · split at hM <;> omega
  unfold fC
  rw [e]
  rcases hc with h | h | h
  · refine (cm_c ?_ (Or.inl ?_)).symm
    · rw [e2]
      exact nI_le (a := M + 1) (by omega) (by omega)
    · show nI (M + 1) = 14913
      rw [h]
      rfl
  · refine (cm_c ?_ (Or.inr ?_)).symm
    · rw [e2]
      exact nI_le (a := M + 1) (by omega) (by omega)
    · rw [e2, ← h]
      rfl
  · refine (cm_w (f := f) ?_).symm
    rw [fN_s, ← h]
    rfl
end PZe
