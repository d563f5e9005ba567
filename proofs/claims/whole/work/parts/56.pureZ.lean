section PZ
variable {k : Bool} {c sp : Int32} {cr : Bool} {gn : Int64} {S : gSt}
theorem fC_r (j : Nat) (hj : j ≠ 25) : (fC k S).1 j = S.1 j := by
  have h1 : ∀ (T : gSt) (w : Int32), (sI T 25 w).1 j = T.1 j := fun T w => by simp [sI, upd, hj]
  have h2 : ∀ T : gSt, (fA k T).1 j = T.1 j := fun T => by
    unfold fA
    repeat' split
    all_goals first | rfl | rw [c_cl.1]
  have h3 : ∀ T : gSt, (fB T).1 j = T.1 j := fun T => by
    unfold fB
    repeat' split
    all_goals rfl
  have h4 : ∀ T : gSt, (fD T).1 j = T.1 j := fun T => by
    unfold fD
    split
    · rfl
    · exact h1 _ _
  unfold fC
  rw [h4, h3, h2, h1]
theorem fC_z (j : Nat) (hj : j ≠ 5) : (fC k S).2.1 j = S.2.1 j := by
  have h2 : ∀ T : gSt, (fA k T).2.1 j = T.2.1 j := fun T => by
    unfold fA
    repeat' split
    all_goals first | rfl | rw [c_cl.2]
  have h3 : ∀ T : gSt, (fB T).2.1 j = T.2.1 j := fun T => by
    unfold fB
    repeat' split
    all_goals first | rfl | (simp [sZ, va_up, hj])
  have h4 : ∀ T : gSt, (fD T).2.1 j = T.2.1 j := fun T => by
    unfold fD
    split <;> rfl
  unfold fC
  rw [h4, h3, h2]
  rfl
theorem com_dC {F : gSt → gSt} (h22 : ∀ S v, F (sI S 22 v) = sI (F S) 22 v) (h21 : ∀ S v, F (sI S 21 v) = sI (F S) 21 v) (h14 : ∀ S v, F (sI S 14 v) = sI (F S) 14 v) (h11 : ∀ S v, F (sI S 11 v) = sI (F S) 11 v) (hz2 : ∀ S v, F (sZ S 2 v) = sZ (F S) 2 v) (hz0 : ∀ S v, F (sZ S 0 v) = sZ (F S) 0 v) (hr : ∀ S j, j ≠ 25 → (F S).1 j = S.1 j) (hz : ∀ S j, j ≠ 5 → (F S).2.1 j = S.2.1 j) (S : gSt) : F (dC k S) = dC k (F S) := by
  have r22 := fun S => hr S 22 (by decide)
  have r21 := fun S => hr S 21 (by decide)
  have r13 := fun S => hr S 13 (by decide)
  have r12 := fun S => hr S 12 (by decide)
  have r11 := fun S => hr S 11 (by decide)
  have r10 := fun S => hr S 10 (by decide)
  have z1 := fun S => hz S 1 (by decide)
  have gA : ∀ S, F (dA S) = dA (F S) := by
    intro S
    unfold dA
    simp only [r22, r21]
    repeat' split
    all_goals first | contradiction | simp only [h22, h21]
  have gB' : ∀ S, F (dB k S) = dB k (F S) := by
    intro S
    unfold dB sp_X7_comeToDotOne
    simp only [gL, r22, r21, show ∀ T : gSt, ∀ v : Int32, (sI T 14 v).1 12 = T.1 12 from fun _ _ => rfl, r12]
    repeat' split
    all_goals first | contradiction | rfl | simp only [h14, hz2]
  have gN : ∀ S, F (sp_K_noteLine k S).2 = (sp_K_noteLine k (F S)).2 := by
    intro S
    cases k
    · rfl
    · show F (sp_X4_noteLine S).2 = (sp_X4_noteLine (F S)).2
      unfold sp_X4_noteLine
      simp only [gL, r11, r10, show ∀ T : gSt, ∀ v : Int32, (sI T 11 v).1 11 = v from fun _ _ => rfl, show ∀ T : gSt, ∀ v : Int32, (sI T 11 v).2.1 1 = T.2.1 1 from fun _ _ => rfl, z1]
      repeat' split
      all_goals first | contradiction | rfl | simp only [h11, hz0]
  have gE : ∀ S, F (dE k S) = dE k (F S) := by
    intro S
    unfold dE sp_X7_tellLine
    simp only [gB, r22, r21, r13]
    repeat' split
    all_goals first | contradiction | rfl | exact gN S
  unfold dC
  rw [gE, gB', gA]
theorem fC_dC (S : gSt) : fC k (dC k S) = dC k (fC k S) := com_dC (F := fC k) (fun _ _ => fC_i22 _) (fun _ _ => fC_i21 _) (fun _ _ => fC_i14 _) (fun _ _ => fC_i11 _) (fun _ _ => fC_z2 _) (fun _ _ => fC_z0 _) (fun _ j h => fC_r j h) (fun _ j h => fC_z j h) S
end PZ
