section PZf
variable {k : Bool} {S : gSt}
theorem mD_n {f n : Nat} (hS : S.1 25 = nI f) (hf : f ≤ fN S) (hn : n < 2 ^ 31) : mD k S (nI n) = nI (if nM S f - f < n then nM S f - f else n) := by
  have hb := fN_b (S := S)
  have hm : f < nM S f ∧ nM S f ≤ 40000 := by
    unfold nM
    split
    · omega
    · split <;> omega
  unfold mD
  rw [nM_n hS hf, hS, nI_sub (by omega)]
  by_cases h : nM S f - f < n
  · rw [if_pos (nI_lt h hn), if_pos h]
  · rw [if_neg (nI_nlt (by omega) (by omega)), if_neg h]
theorem mK_it {f m : Nat} (hS : S.1 25 = nI f) (hf : f ≤ fN S) (h0 : 1 ≤ m) (h : f + m ≤ nM S f) : mK k S (nI m) = it (fC k) m S := by
  have hb := fN_b (S := S)
  have hm : f < nM S f ∧ nM S f ≤ 40000 := by
    unfold nM
    split
    · omega
    · split <;> omega
  unfold mK
  rw [nM_n hS hf, hS, nI_add]
  by_cases h1 : f + m = nM S f
  · rw [if_pos (show (sI S 25 (nI (f + m))).1 25 = nI (nM S f) from congrArg nI h1)]
    obtain ⟨q, rfl⟩ : ∃ q, m = q + 1 := ⟨m - 1, by omega⟩
    rw [it_s, it_fq hS hf q (by omega), fC_m hf (M := f + q) (by omega)]
    rfl
  · rw [if_neg (show ¬ (sI S 25 (nI (f + m))).1 25 = nI (nM S f) from fun z => h1 ((m_eq (by omega) (by omega)).mp z)), it_fq hS hf m (by omega)]
theorem cm_r {Y : gSt} (h : Y.1 25 ≤ fE Y) : (sp_X8_comeToMark k Y).2.1 25 = Y.1 25 ∧ (sp_X8_comeToMark k Y).2.2.1 3 = Y.2.1 3 := by
  have c1 := (c_cl (k := k) (S := Y)).1
  have c2 := (c_cl (k := k) (S := Y)).2
  unfold sp_X8_comeToMark
  simp only [gB, gL, fe_e]
  rw [if_pos h]
  repeat' split
  all_goals exact ⟨by first | exact congrFun c1 25, by first | exact congrFun c2 3⟩
theorem cm_w2 {Y : gSt} (h : ¬ Y.1 25 ≤ fE Y) : (sp_X8_comeToMark k Y).2 = sI Y 25 0 := by
  unfold sp_X8_comeToMark
  simp only [gB, gL, fe_e]
  rw [if_neg h]
/-- where the frame counter is at a mark -/
def nF (S : gSt) (f : Nat) : Nat := if f < fN S then nM S f else 0
theorem mark_r {f : Nat} (hS : S.1 25 = nI f) (hf : f ≤ fN S) : (it (fC k) (nM S f - f) S).1 25 = nI (nF S f) ∧ fN (it (fC k) (nM S f - f) S) = fN S := by
  have hb := fN_b (S := S)
  have hm : f < nM S f ∧ nM S f ≤ 40000 := by
    unfold nM
    split
    · omega
    · split <;> omega
  obtain ⟨q, hq⟩ : ∃ q, nM S f - f = q + 1 := ⟨nM S f - f - 1, by omega⟩
  rw [hq, it_s, it_fq hS hf q (by omega), fC_m hf (M := f + q) (by omega), show f + q + 1 = nM S f from by omega]
  have e2 : fE (sI S 25 (nI (nM S f))) = nI (fN S) := by rw [fE_n, fN_s]
  unfold nF
  by_cases h : f < fN S
  · have hle : nM S f ≤ fN S := by
      unfold nM
      split
      all_goals (first | omega | (rw [if_pos h]; omega))
    have r := cm_r (k := k) (Y := sI S 25 (nI (nM S f))) (by rw [e2]; exact nI_le hle (by omega))
    rw [if_pos h]
    refine ⟨r.1, ?_⟩
    unfold fN
    rw [r.2]
    rfl
  · have hgt : fN S < nM S f := by
      unfold nM
      rw [if_neg (by omega), if_neg h]
      omega
    rw [if_neg h, cm_w2 (by rw [e2]; exact nI_ge hgt (by omega))]
    exact ⟨rfl, rfl⟩
def cnt (E f : Nat) : Nat := if f < 14913 then 0 else (if f < E then 1 else 2)
/-- how many rounds the class's loop may need -/
def pot (E f n : Nat) : Nat := 3 * ((f + n) / (E + 1)) + 3 - cnt E f
theorem adv8_0 (N : Nat) (x1 i : Int32) : lp_X8_advance_4 k N x1 (nI 0) i S = ((), S) := by
  cases N with
  | zero => rfl
  | succ N =>
    rw [adv8_s]
    split
    · rfl
    · rw [if_pos (by decide)]
theorem pot_s {E f n : Nat} (hE : 29829 ≤ E) (hf : f ≤ E) (M F : Nat) (hM : M = if f < 14913 then 14913 else (if f < E then E else E + 1)) (hF : F = if f < E then M else 0) (h : M - f < n) : pot E F (n - (M - f)) + 1 = pot E f n ∧ F ≤ E := by
  unfold pot cnt
  by_cases h1 : f < 14913
  · rw [if_pos h1] at hM
    rw [if_pos (by omega)] at hF
    subst hM
    subst hF
    rw [if_neg (by omega), if_pos (by omega), if_pos h1, show 14913 + (n - (14913 - f)) = f + n from by omega]
    omega
  · rw [if_neg h1] at hM
    by_cases h2 : f < E
    · rw [if_pos h2] at hM hF
      subst hM
      subst hF
      rw [if_neg (by omega), if_neg (by omega), if_neg h1, if_pos h2, show F + (n - (F - f)) = f + n from by omega]
      omega
    · rw [if_neg h2] at hM hF
      subst hM
      subst hF
      rw [if_pos (by omega), if_neg h1, if_neg h2]
      have e : f + n = (0 + (n - (E + 1 - f))) + (E + 1) := by omega
      rw [e, Nat.add_div_right _ (by omega)]
      omega
theorem adv8_it (N : Nat) : ∀ (n i f : Nat) (x1 : Int32) (S : gSt), S.1 25 = nI f → f ≤ fN S → n < 2 ^ 31 → pot (fN S) f n < N → i + pot (fN S) f n ≤ 1000 → lp_X8_advance_4 k N x1 (nI n) (nI i) S = ((), it (fC k) n S) := by
  induction N with
  | zero => intro n i f x1 S hS hf hn h1 h2; omega
  | succ N ih =>
    intro n i f x1 S hS hf hn h1 h2
    have hb := fN_b (S := S)
    have hm : f < nM S f ∧ nM S f ≤ 40000 := by
      unfold nM
      split
      · omega
      · split <;> omega
    have hp : 1 ≤ pot (fN S) f n := by
      unfold pot cnt
      split
      · omega
      · split <;> omega
    by_cases h0 : n = 0
    · subst h0
      rw [adv8_0]
      rfl
    · rw [adv8_s, if_neg (show ¬ (1000 : Int32) ≤ nI i from nI_ge (b := 1000) (by omega) (by omega)), if_neg (nI_nle (by omega) hn), mD_n hS hf hn, nI_1]
      by_cases h : nM S f - f < n
      · rw [if_pos h, mK_it hS hf (by omega) (by omega), nI_sub (by omega)]
        have hr := mark_r (k := k) hS hf
        have hq := pot_s (E := fN S) (f := f) (n := n) hb.1 hf (nM S f) (nF S f) rfl rfl h
        rw [ih (n - (nM S f - f)) (i + 1) (nF S f) x1 (it (fC k) (nM S f - f) S) hr.1 (by rw [hr.2]; exact hq.2) (by omega) (by rw [hr.2]; omega) (by rw [hr.2]; omega), ← it_add]
        exact congrArg (fun q => ((), it (fC k) q S)) (by omega)
      · rw [if_neg h, mK_it hS hf (by omega) (by omega), nI_sub (by omega), Nat.sub_self, adv8_0]
theorem h_adv8 {n f : Nat} (hS : S.1 25 = nI f) (hf : f ≤ fN S) (hn : n ≤ 1000000) : sp_X8_advance k (nI n) S = ((), it (fC k) n S) := by
  have hb := fN_b (S := S)
  have hp : pot (fN S) f n ≤ 200 := by
    unfold pot
    have : (f + n) / (fN S + 1) ≤ (f + n) / 29830 := Nat.div_le_div_left (by omega) (by omega)
    omega
  exact adv8_it 1001 n 0 f (nI n) S hS hf (by omega) (by omega) (by omega)
end PZf
