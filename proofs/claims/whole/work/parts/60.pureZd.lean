section PZd
variable {k : Bool} {S : gSt}
theorem it_line {j m : Nat} (hS : S.1 22 = nI j) (hj : j ≤ 340) (h : j + m = 341) : it (dC k) m S = c3 (sI (eY k j m S) 22 (nI 341)) := by
  obtain ⟨q, rfl⟩ : ∃ q, m = q + 1 := ⟨m - 1, by omega⟩
  have eq : j + q = 340 := by omega
  rw [it_s, it_dots hS q (by omega), eq, eY_s, if_neg (by omega), if_neg (by omega)]
  generalize eY k j q S = Y
  have e0 : ∀ v : Int32, dE k (dB k (sI (sI Y 22 0) 21 v)) = sI (sI Y 22 0) 21 v := fun v => by
    unfold dB
    rw [if_neg (show ¬ (sI (sI Y 22 0) 21 v).1 22 = 1 from (by decide : ¬ (0 : Int32) = 1))]
    unfold dE
    rw [if_neg (show ¬ (sI (sI Y 22 0) 21 v).1 22 = 260 from (by decide : ¬ (0 : Int32) = 260))]
  show dE k (dB k (dA (sI Y 22 (nI 340)))) = _
  unfold dA c3
  rw [if_pos (show (sI Y 22 (nI 340)).1 22 + 1 = 341 from rfl), if_pos (show (sI Y 22 (nI 341)).1 22 = 341 from rfl), sI_same, sI_same]
  by_cases hl : Y.1 21 = 261
  · rw [if_pos (show (sI Y 22 (nI 340)).1 21 = 261 from hl), if_pos (show (sI Y 22 0).1 21 = 261 from hl), e0]
  · rw [if_neg (show ¬ (sI Y 22 (nI 340)).1 21 = 261 from hl), if_neg (show ¬ (sI Y 22 0).1 21 = 261 from hl), e0]
    rfl
theorem c3_r (Y : gSt) : (c3 (sI Y 22 (nI 341))).1 22 = nI 0 := by
  unfold c3
  rw [if_pos (show (sI Y 22 (nI 341)).1 22 = 341 from rfl)]
  split <;> rfl
theorem cK_Y {j m : Nat} (hS : S.1 22 = nI j) (hj : j ≤ 340) (h0 : 1 ≤ m) (h : j + m ≤ 341) : cK k S (nI m) = c3 (sI (eY k j m S) 22 (nI (j + m))) := by
  have e1' : c1 k S (nI m) = e1 k j m S := by
    unfold c1 e1
    rw [hS, nI_add]
    by_cases h1 : 1 ≤ j
    · rw [if_pos (show (1 : Int32) ≤ nI j from nI_le (a := 1) h1 (by omega)), if_neg (fun z => by omega)]
    · rw [if_neg (show ¬ (1 : Int32) ≤ nI j from nI_ge (b := 1) (by omega) (by omega)), if_neg (show ¬ nI (j + m) < (1 : Int32) from nI_nlt (b := 1) (by omega) (by omega)), if_pos ⟨by omega, h0⟩]
      rfl
  have e1r : (e1 k j m S).1 22 = nI j := by
    unfold e1
    split
    · rw [d1_r, hS]
    · exact hS
  unfold cK c2 eY
  rw [e1', e1r, hS, nI_add]
  unfold e2
  by_cases h1 : 260 ≤ j
  · rw [if_pos (show (260 : Int32) ≤ nI j from nI_le (a := 260) h1 (by omega)), if_neg (fun z => by omega)]
  · rw [if_neg (show ¬ (260 : Int32) ≤ nI j from nI_ge (b := 260) (by omega) (by omega))]
    by_cases h2 : j + m < 260
    · rw [if_pos (show nI (j + m) < (260 : Int32) from nI_lt (b := 260) h2 (by omega)), if_neg (fun z => by omega)]
    · rw [if_neg (show ¬ nI (j + m) < (260 : Int32) from nI_nlt (b := 260) (by omega) (by omega)), if_pos ⟨by omega, by omega⟩]
      rfl
theorem c3_id {Y : gSt} {q : Nat} (h : q ≤ 340) : c3 (sI Y 22 (nI q)) = sI Y 22 (nI q) := by
  unfold c3
  rw [if_neg (show ¬ (sI Y 22 (nI q)).1 22 = 341 from fun z => by have := (n_eq (b := 341) (by omega) (by omega)).mp z; omega)]
theorem cK_it {j m : Nat} (hS : S.1 22 = nI j) (hj : j ≤ 340) (h0 : 1 ≤ m) (h : j + m ≤ 341) : cK k S (nI m) = it (dC k) m S := by
  rw [cK_Y hS hj h0 h]
  by_cases h1 : j + m = 341
  · rw [it_line hS hj h1, h1]
  · rw [it_dots hS m (by omega), c3_id (by omega)]
theorem adv_0 (N : Nat) (x1 i : Int32) : lp_X7_advance_4 k N x1 (nI 0) i S = ((), S) := by
  cases N with
  | zero => rfl
  | succ N =>
    rw [adv_s]
    split
    · rfl
    · rw [if_pos (by decide)]
theorem nI_sub {a b : Nat} (h : b ≤ a) : nI a - nI b = nI (a - b) := by
  have e : nI (a - b) + nI b = nI a := by rw [nI_add]; exact congrArg nI (by omega)
  rw [← e, Int32.add_sub_cancel]
theorem cD_n {j n : Nat} (hS : S.1 22 = nI j) (hj : j ≤ 340) (hn : n < 2 ^ 31) : cD S (nI n) = nI (if 341 - j < n then 341 - j else n) := by
  unfold cD
  rw [hS, show (341 : Int32) - nI j = nI (341 - j) from nI_sub (a := 341) (by omega)]
  by_cases h : 341 - j < n
  · rw [if_pos (nI_lt h hn), if_pos h]
  · rw [if_neg (nI_nlt (by omega) (by omega)), if_neg h]
theorem adv_it (N : Nat) : ∀ (n i j : Nat) (x1 : Int32) (S : gSt), S.1 22 = nI j → j ≤ 340 → n < 2 ^ 31 → (j + n + 340) / 341 < N → i + (j + n + 340) / 341 ≤ 1000 → lp_X7_advance_4 k N x1 (nI n) (nI i) S = ((), it (dC k) n S) := by
  induction N with
  | zero => intro n i j x1 S hS hj hn h1 h2; omega
  | succ N ih =>
    intro n i j x1 S hS hj hn h1 h2
    by_cases h0 : n = 0
    · subst h0
      rw [adv_0]
      rfl
    · rw [adv_s, if_neg (show ¬ (1000 : Int32) ≤ nI i from nI_ge (b := 1000) (by omega) (by omega)), if_neg (nI_nle (by omega) hn), cD_n hS hj hn, nI_1]
      by_cases h : 341 - j < n
      · rw [if_pos h, cK_it hS hj (by omega) (by omega), nI_sub (by omega)]
        have hr : (it (dC k) (341 - j) S).1 22 = nI 0 := by
          rw [it_line hS hj (by omega)]
          exact c3_r _
        rw [ih (n - (341 - j)) (i + 1) 0 x1 (it (dC k) (341 - j) S) hr (by omega) (by omega) (by omega) (by omega), ← it_add]
        exact congrArg (fun q => ((), it (dC k) q S)) (by omega)
      · rw [if_neg h, cK_it hS hj (by omega) (by omega), nI_sub (by omega), Nat.sub_self, adv_0]
theorem h_adv7 {n j : Nat} (hS : S.1 22 = nI j) (hj : j ≤ 340) (hn : n ≤ 340000) : sp_X7_advance k (nI n) S = ((), it (dC k) n S) := adv_it 1001 n 0 j (nI n) S hS hj (by omega) (by omega) (by omega)
end PZd
