section PZg
variable {k : Bool} {c sp : Int32} {cr : Bool} {gn : Int64} {S : gSt}
theorem mk_n {m : Int32} {a : Nat} (n : Nat) (hm : m.toBitVec.toNat = 2 ^ n - 1) (h : a < 2 ^ n) (hn : n ≤ 31) : nI a &&& m = nI a := by
  rw [pk_andN (Nat.lt_of_lt_of_le h (Nat.pow_le_pow_right (by omega) (by omega : n ≤ 32))) n hm, Nat.mod_eq_of_lt h]
theorem dot_of (hI : Iv k S) : ∃ j : Nat, j ≤ 340 ∧ S.1 22 = nI j := by
  obtain ⟨j, h1, h2⟩ := by_m (x := S.1 22) (m := 511) 9 (by decide) (hI.1 22)
  have h3 : S.1 22 ≤ nI 340 := hI.2.2.2.1
  rw [h2] at h3
  exact ⟨j, Nat.not_lt.mp (fun h => nI_ge (a := 340) h (by omega) h3), h2⟩
theorem line_of (hI : Iv k S) : ∃ j : Nat, j ≤ 261 ∧ S.1 21 = nI j := by
  obtain ⟨j, h1, h2⟩ := by_m (x := S.1 21) (m := 511) 9 (by decide) (hI.1 21)
  have h3 : S.1 21 ≤ nI 261 := hI.2.2.1
  rw [h2] at h3
  exact ⟨j, Nat.not_lt.mp (fun h => nI_ge (a := 261) h (by omega) h3), h2⟩
theorem frame_of (hI : Iv k S) : ∃ f : Nat, f ≤ fN S ∧ S.1 25 = nI f := by
  obtain ⟨f, h1, h2⟩ := by_m (x := S.1 25) (m := 65535) 16 (by decide) (hI.1 25)
  have hb := fN_b (S := S)
  have h3 : S.1 25 ≤ fE S := hI.2.2.2.2.1
  rw [h2, fE_n] at h3
  exact ⟨f, Nat.not_lt.mp (fun h => nI_ge h (by omega) h3), h2⟩
theorem iv_dA (hI : Iv k S) : Iv k (dA S) := by
  obtain ⟨j, hj, h22⟩ := dot_of hI
  obtain ⟨l, hl, h21⟩ := line_of hI
  have hX := hI.2.2
  have h0 : Iv k (sI S 22 0) := iv_sI 22 hI (by decide) ⟨hX.1, (by decide : (0 : Int32) ≤ 340), hX.2.2⟩
  unfold dA
  split
  · split
    · exact iv_sI 21 h0 (by decide) ⟨(by decide : (0 : Int32) ≤ 261), h0.2.2.2⟩
    · rename_i h1 h2
      rw [h21] at h2 ⊢
      have h3 : l ≠ 261 := fun z => h2 (by rw [z]; rfl)
      rw [nI_1]
      exact iv_sI 21 h0 (mk_n 9 (by decide) (by omega) (by omega)) ⟨(nI_le (b := 261) (by omega) (by omega) : nI (l + 1) ≤ nI 261), h0.2.2.2⟩
  · rename_i h1
    rw [h22, nI_1] at h1 ⊢
    have h3 : j + 1 ≠ 341 := fun z => h1 (by rw [z]; rfl)
    exact iv_sI 22 hI (mk_n 9 (by decide) (by omega) (by omega)) ⟨hX.1, (nI_le (b := 340) (by omega) (by omega) : nI (j + 1) ≤ nI 340), hX.2.2⟩
theorem iv_dB (hI : Iv k S) : Iv k (dB k S) := by
  have h0 : Iv k (sI S 14 0) := iv_sI 14 hI (by decide) hI.2.2
  have h1 : Iv k (sI S 14 1) := iv_sI 14 hI (by decide) hI.2.2
  have h2 : Iv k (sZ (sI S 14 1) 2 true) := iv_sZ 2 true h1 h1.2.2
  unfold dB sp_X7_comeToDotOne
  simp only [gL]
  repeat' split
  all_goals first | exact hI | exact h0 | exact h1 | exact h2
theorem iv_note (hI : Iv k S) : Iv k (sp_K_noteLine k S).2 := by
  cases k
  · exact hI
  · show Iv true (sp_X4_noteLine S).2
    have ha : ∀ v : Int32, v &&& 255 = v → Iv true (sI S 11 v) := fun v hv => iv_sI 11 hI hv hI.2.2
    have h1 := ha (S.1 10) (hI.1 10)
    have h1' := iv_sZ 0 true h1 h1.2.2
    unfold sp_X4_noteLine
    simp only [gL]
    split
    · repeat' split
      all_goals first | exact h1 | exact h1'
    · rename_i h0
      have h2 := ha (S.1 11 - 1) (by
        obtain ⟨j, hj, e⟩ := by_of (x := S.1 11) (hI.1 11)
        have h3 : j ≠ 0 := fun z => h0 (by rw [e, z]; rfl)
        rw [e, show nI j - 1 = nI (j - 1) from nI_sub (b := 1) (by omega)]
        exact mk_n 8 (by decide) (by omega) (by omega))
      have h2' := iv_sZ 0 true h2 h2.2.2
      repeat' split
      all_goals first | exact h2 | exact h2'
theorem iv_dE (hI : Iv k S) : Iv k (dE k S) := by
  have h1 := iv_note hI
  unfold dE sp_X7_tellLine
  simp only [gB]
  repeat' split
  all_goals first | exact hI | exact h1
theorem iv_dC (hI : Iv k S) : Iv k (dC k S) := iv_dE (iv_dB (iv_dA hI))
theorem iv_fC (hI : Iv k S) : Iv k (fC k S) := by
  obtain ⟨f, hf, h25⟩ := frame_of hI
  have hb := fN_b (S := S)
  have hX := hI.2.2
  by_cases h : f < fN S
  · have hY : Iv k (sI S 25 (S.1 25 + 1)) := by
      rw [h25, nI_1]
      exact iv_sI 25 hI (mk_n 16 (by decide) (by omega) (by omega)) ⟨hX.1, hX.2.1, (show nI (f + 1) ≤ fE S by rw [fE_n]; exact nI_le h (by omega)), hX.2.2.2⟩
    unfold fC
    generalize sI S 25 (S.1 25 + 1) = Y at hY ⊢
    have hA : Iv k (fA k Y) := by
      unfold fA
      repeat' split
      all_goals first | exact hY | exact iv_count hY
    generalize fA k Y = Z at hA ⊢
    have hB : Iv k (fB Z) := by
      have hB' := iv_sZ 5 true hA hA.2.2
      unfold fB
      repeat' split
      all_goals first | exact hA | exact hB'
    generalize fB Z = U at hB ⊢
    unfold fD
    rw [if_pos (show U.1 25 ≤ fE U from hB.2.2.2.2.1)]
    exact hB
  · have e1 := fC_m (k := k) hf (M := f) (by unfold nM; rw [if_neg (by omega), if_neg h]; omega)
    rw [sI_eq S h25, cm_w2 (by
      rw [show fE (sI S 25 (nI (f + 1))) = nI (fN S) from fE_n (S := S)]
      exact nI_ge (by omega) (by omega)), sI_same] at e1
    rw [e1]
    exact iv_sI 25 hI (by decide) ⟨hX.1, hX.2.1, (show (0 : Int32) ≤ fE S by unfold fE; split <;> decide), hX.2.2.2⟩
theorem iv_it {F : gSt → gSt} (h : ∀ T, Iv k T → Iv k (F T)) (n : Nat) : ∀ S, Iv k S → Iv k (it F n S) := by
  induction n with
  | zero => intro S hS; exact hS
  | succ n ih => intro S hS; exact ih (F S) (h S hS)
theorem f0_dC : (dC k S).1 0 = S.1 0 := by
  have hA : (dA S).1 0 = S.1 0 := by
    unfold dA
    repeat' split
    all_goals rfl
  have hB : ∀ T : gSt, (dB k T).1 0 = T.1 0 := fun T => by
    unfold dB
    split
    · exact f0_X7_comeToDotOne k T
    · rfl
  have hE : ∀ T : gSt, (dE k T).1 0 = T.1 0 := fun T => by
    unfold dE
    split
    · exact f0_X7_tellLine k T
    · rfl
  unfold dC
  rw [hE, hB, hA]
theorem f0_fC : (fC k S).1 0 = S.1 0 := by
  have hA : ∀ T : gSt, (fA k T).1 0 = T.1 0 := fun T => by
    unfold fA
    repeat' split
    all_goals first | rfl | exact f0_X8_countLengths k T
  have hB : ∀ T : gSt, (fB T).1 0 = T.1 0 := fun T => by
    unfold fB
    repeat' split
    all_goals rfl
  have hD : ∀ T : gSt, (fD T).1 0 = T.1 0 := fun T => by
    unfold fD
    repeat' split
    all_goals rfl
  unfold fC
  rw [hD, hB, hA]
  rfl
theorem f0_it {F : gSt → gSt} (h : ∀ T, (F T).1 0 = T.1 0) (n : Nat) : ∀ S, (it F n S).1 0 = S.1 0 := by
  induction n with
  | zero => intro S; rfl
  | succ n ih => intro S; exact (ih (F S)).trans (h S)
/-- time passes: the class at once, the reference cycle by cycle -/
theorem h_ltp (hI : Iv k S) {n : Nat} (hn : n ≤ 100000) : ∃ T : gSt, sp_X9_letTimePass k (nI n) S = ((), T) ∧ (∀ c sp cr gn, sp_X10_elapse (nI n) (ph k c sp cr gn S) = ((), ph k c sp cr (gi n gn) T)) ∧ Iv k T ∧ T.1 0 = (S.1 0 + nI n) &&& 65535 := by
  have hU : Iv k (sI S 0 ((S.1 0 + nI n) &&& 65535)) := iv_sI 0 hI (by rw [show mk 0 = 65535 from rfl, Int32.and_assoc]; rfl) hI.2.2
  obtain ⟨j, hj, h22⟩ := dot_of hU
  have hV := iv_it (F := dC k) (fun T h => iv_dC h) (3 * n) _ hU
  obtain ⟨f, hf, h25⟩ := frame_of hV
  refine ⟨it (fC k) n (it (dC k) (3 * n) (sI S 0 ((S.1 0 + nI n) &&& 65535))), ?_, ?_, ?_, ?_⟩
  · unfold sp_X9_letTimePass
    simp only [gL]
    rw [show (3 : Int32) * nI n = nI (3 * n) from pk_mul 3 n, h_adv7 h22 hj (by omega)]
    simp only [gB]
    rw [h_adv8 h25 hf (by omega)]
  · intro c sp cr gn
    rw [← phd_elapsed k c sp cr gn S ((S.1 0 + nI n) &&& 65535)]
    exact h_elapse (by omega)
  · exact iv_it (F := fC k) (fun T h => iv_fC h) n _ hV
  · rw [f0_it (F := fC k) (fun T => f0_fC), f0_it (F := dC k) (fun T => f0_dC)]
    rfl
end PZg
