section PY
variable {k : Bool} {c sp : Int32} {cr : Bool} {gn : Int64} {S : gSt}
theorem sZ_comm (S : gSt) {i j : Nat} (h : i ≠ j) (v w : Bool) : sZ (sZ S i v) j w = sZ (sZ S j w) i v := by
  refine Prod.ext rfl (Prod.ext (funext fun q => ?_) rfl)
  by_cases h1 : q = i
  · subst h1
    simp [sZ, va_up, h]
  · by_cases h2 : q = j
    · subst h2
      simp [sZ, va_up, h1]
    · simp [sZ, va_up, h1, h2]
theorem clL_i22 (n : Nat) (v : Int32) : ∀ (x : Int32) (S : gSt), lp_X8_countLengths_2 k n x (sI S 22 v) = ((), sI (lp_X8_countLengths_2 k n x S).2 22 v) := by
  induction n with
  | zero => intros; rfl
  | succ n ih =>
    intro x S
    rw [lp_X8_countLengths_2, lp_X8_countLengths_2]
    simp only [gL, show ∀ i, aG (sI S 22 v) 11 i = aG S 11 i from fun _ => rfl, show (sI S 22 v).1 23 = S.1 23 from rfl, show ∀ q i w, aP (sI S 22 v) q i w = sI (aP S q i w) 22 v from fun _ _ _ => rfl, ih]
    repeat' split
    all_goals first | contradiction | with_reducible rfl
theorem cl_i22 (v : Int32) : sp_X8_countLengths k (sI S 22 v) = ((), sI (sp_X8_countLengths k S).2 22 v) := clL_i22 5 v 0 S
theorem fA_i22 (v : Int32) : fA k (sI S 22 v) = sI (fA k S) 22 v := by
  unfold fA
  simp only [cl_i22, show (sI S 22 v).1 25 = S.1 25 from rfl, show fE (sI S 22 v) = fE S from rfl]
  repeat' split
  all_goals first | contradiction | with_reducible rfl
theorem fB_i22 (v : Int32) : fB (sI S 22 v) = sI (fB S) 22 v := by
  unfold fB
  simp only [show (sI S 22 v).1 25 = S.1 25 from rfl, show fE (sI S 22 v) = fE S from rfl, show (sI S 22 v).2.1 3 = S.2.1 3 from rfl, show (sI S 22 v).2.1 4 = S.2.1 4 from rfl, show ∀ b, sZ (sI S 22 v) 5 b = sI (sZ S 5 b) 22 v from fun b => rfl]
  repeat' split
  all_goals first | contradiction | with_reducible rfl
theorem fD_i22 (v : Int32) : fD (sI S 22 v) = sI (fD S) 22 v := by
  unfold fD
  simp only [show (sI S 22 v).1 25 = S.1 25 from rfl, show fE (sI S 22 v) = fE S from rfl, show ∀ b, sI (sI S 22 v) 25 b = sI (sI S 25 b) 22 v from fun b => sI_comm S (by decide) v b]
  repeat' split
  all_goals first | contradiction | with_reducible rfl
theorem fC_i22 (v : Int32) : fC k (sI S 22 v) = sI (fC k S) 22 v := by
  unfold fC
  rw [show sI (sI S 22 v) 25 ((sI S 22 v).1 25 + 1) = sI (sI S 25 (S.1 25 + 1)) 22 v from sI_comm S (by decide) v _, fA_i22, fB_i22, fD_i22]
theorem clL_i21 (n : Nat) (v : Int32) : ∀ (x : Int32) (S : gSt), lp_X8_countLengths_2 k n x (sI S 21 v) = ((), sI (lp_X8_countLengths_2 k n x S).2 21 v) := by
  induction n with
  | zero => intros; rfl
  | succ n ih =>
    intro x S
    rw [lp_X8_countLengths_2, lp_X8_countLengths_2]
    simp only [gL, show ∀ i, aG (sI S 21 v) 11 i = aG S 11 i from fun _ => rfl, show (sI S 21 v).1 23 = S.1 23 from rfl, show ∀ q i w, aP (sI S 21 v) q i w = sI (aP S q i w) 21 v from fun _ _ _ => rfl, ih]
    repeat' split
    all_goals first | contradiction | with_reducible rfl
theorem cl_i21 (v : Int32) : sp_X8_countLengths k (sI S 21 v) = ((), sI (sp_X8_countLengths k S).2 21 v) := clL_i21 5 v 0 S
theorem fA_i21 (v : Int32) : fA k (sI S 21 v) = sI (fA k S) 21 v := by
  unfold fA
  simp only [cl_i21, show (sI S 21 v).1 25 = S.1 25 from rfl, show fE (sI S 21 v) = fE S from rfl]
  repeat' split
  all_goals first | contradiction | with_reducible rfl
theorem fB_i21 (v : Int32) : fB (sI S 21 v) = sI (fB S) 21 v := by
  unfold fB
  simp only [show (sI S 21 v).1 25 = S.1 25 from rfl, show fE (sI S 21 v) = fE S from rfl, show (sI S 21 v).2.1 3 = S.2.1 3 from rfl, show (sI S 21 v).2.1 4 = S.2.1 4 from rfl, show ∀ b, sZ (sI S 21 v) 5 b = sI (sZ S 5 b) 21 v from fun b => rfl]
  repeat' split
  all_goals first | contradiction | with_reducible rfl
theorem fD_i21 (v : Int32) : fD (sI S 21 v) = sI (fD S) 21 v := by
  unfold fD
  simp only [show (sI S 21 v).1 25 = S.1 25 from rfl, show fE (sI S 21 v) = fE S from rfl, show ∀ b, sI (sI S 21 v) 25 b = sI (sI S 25 b) 21 v from fun b => sI_comm S (by decide) v b]
  repeat' split
  all_goals first | contradiction | with_reducible rfl
theorem fC_i21 (v : Int32) : fC k (sI S 21 v) = sI (fC k S) 21 v := by
  unfold fC
  rw [show sI (sI S 21 v) 25 ((sI S 21 v).1 25 + 1) = sI (sI S 25 (S.1 25 + 1)) 21 v from sI_comm S (by decide) v _, fA_i21, fB_i21, fD_i21]
theorem clL_i14 (n : Nat) (v : Int32) : ∀ (x : Int32) (S : gSt), lp_X8_countLengths_2 k n x (sI S 14 v) = ((), sI (lp_X8_countLengths_2 k n x S).2 14 v) := by
  induction n with
  | zero => intros; rfl
  | succ n ih =>
    intro x S
    rw [lp_X8_countLengths_2, lp_X8_countLengths_2]
    simp only [gL, show ∀ i, aG (sI S 14 v) 11 i = aG S 11 i from fun _ => rfl, show (sI S 14 v).1 23 = S.1 23 from rfl, show ∀ q i w, aP (sI S 14 v) q i w = sI (aP S q i w) 14 v from fun _ _ _ => rfl, ih]
    repeat' split
    all_goals first | contradiction | with_reducible rfl
theorem cl_i14 (v : Int32) : sp_X8_countLengths k (sI S 14 v) = ((), sI (sp_X8_countLengths k S).2 14 v) := clL_i14 5 v 0 S
theorem fA_i14 (v : Int32) : fA k (sI S 14 v) = sI (fA k S) 14 v := by
  unfold fA
  simp only [cl_i14, show (sI S 14 v).1 25 = S.1 25 from rfl, show fE (sI S 14 v) = fE S from rfl]
  repeat' split
  all_goals first | contradiction | with_reducible rfl
theorem fB_i14 (v : Int32) : fB (sI S 14 v) = sI (fB S) 14 v := by
  unfold fB
  simp only [show (sI S 14 v).1 25 = S.1 25 from rfl, show fE (sI S 14 v) = fE S from rfl, show (sI S 14 v).2.1 3 = S.2.1 3 from rfl, show (sI S 14 v).2.1 4 = S.2.1 4 from rfl, show ∀ b, sZ (sI S 14 v) 5 b = sI (sZ S 5 b) 14 v from fun b => rfl]
  repeat' split
  all_goals first | contradiction | with_reducible rfl
theorem fD_i14 (v : Int32) : fD (sI S 14 v) = sI (fD S) 14 v := by
  unfold fD
  simp only [show (sI S 14 v).1 25 = S.1 25 from rfl, show fE (sI S 14 v) = fE S from rfl, show ∀ b, sI (sI S 14 v) 25 b = sI (sI S 25 b) 14 v from fun b => sI_comm S (by decide) v b]
  repeat' split
  all_goals first | contradiction | with_reducible rfl
theorem fC_i14 (v : Int32) : fC k (sI S 14 v) = sI (fC k S) 14 v := by
  unfold fC
  rw [show sI (sI S 14 v) 25 ((sI S 14 v).1 25 + 1) = sI (sI S 25 (S.1 25 + 1)) 14 v from sI_comm S (by decide) v _, fA_i14, fB_i14, fD_i14]
theorem clL_i11 (n : Nat) (v : Int32) : ∀ (x : Int32) (S : gSt), lp_X8_countLengths_2 k n x (sI S 11 v) = ((), sI (lp_X8_countLengths_2 k n x S).2 11 v) := by
  induction n with
  | zero => intros; rfl
  | succ n ih =>
    intro x S
    rw [lp_X8_countLengths_2, lp_X8_countLengths_2]
    simp only [gL, show ∀ i, aG (sI S 11 v) 11 i = aG S 11 i from fun _ => rfl, show (sI S 11 v).1 23 = S.1 23 from rfl, show ∀ q i w, aP (sI S 11 v) q i w = sI (aP S q i w) 11 v from fun _ _ _ => rfl, ih]
    repeat' split
    all_goals first | contradiction | with_reducible rfl
theorem cl_i11 (v : Int32) : sp_X8_countLengths k (sI S 11 v) = ((), sI (sp_X8_countLengths k S).2 11 v) := clL_i11 5 v 0 S
theorem fA_i11 (v : Int32) : fA k (sI S 11 v) = sI (fA k S) 11 v := by
  unfold fA
  simp only [cl_i11, show (sI S 11 v).1 25 = S.1 25 from rfl, show fE (sI S 11 v) = fE S from rfl]
  repeat' split
  all_goals first | contradiction | with_reducible rfl
theorem fB_i11 (v : Int32) : fB (sI S 11 v) = sI (fB S) 11 v := by
  unfold fB
  simp only [show (sI S 11 v).1 25 = S.1 25 from rfl, show fE (sI S 11 v) = fE S from rfl, show (sI S 11 v).2.1 3 = S.2.1 3 from rfl, show (sI S 11 v).2.1 4 = S.2.1 4 from rfl, show ∀ b, sZ (sI S 11 v) 5 b = sI (sZ S 5 b) 11 v from fun b => rfl]
  repeat' split
  all_goals first | contradiction | with_reducible rfl
theorem fD_i11 (v : Int32) : fD (sI S 11 v) = sI (fD S) 11 v := by
  unfold fD
  simp only [show (sI S 11 v).1 25 = S.1 25 from rfl, show fE (sI S 11 v) = fE S from rfl, show ∀ b, sI (sI S 11 v) 25 b = sI (sI S 25 b) 11 v from fun b => sI_comm S (by decide) v b]
  repeat' split
  all_goals first | contradiction | with_reducible rfl
theorem fC_i11 (v : Int32) : fC k (sI S 11 v) = sI (fC k S) 11 v := by
  unfold fC
  rw [show sI (sI S 11 v) 25 ((sI S 11 v).1 25 + 1) = sI (sI S 25 (S.1 25 + 1)) 11 v from sI_comm S (by decide) v _, fA_i11, fB_i11, fD_i11]
theorem clL_z2 (n : Nat) (v : Bool) : ∀ (x : Int32) (S : gSt), lp_X8_countLengths_2 k n x (sZ S 2 v) = ((), sZ (lp_X8_countLengths_2 k n x S).2 2 v) := by
  induction n with
  | zero => intros; rfl
  | succ n ih =>
    intro x S
    rw [lp_X8_countLengths_2, lp_X8_countLengths_2]
    simp only [gL, show ∀ i, aG (sZ S 2 v) 11 i = aG S 11 i from fun _ => rfl, show (sZ S 2 v).1 23 = S.1 23 from rfl, show ∀ q i w, aP (sZ S 2 v) q i w = sZ (aP S q i w) 2 v from fun _ _ _ => rfl, ih]
    repeat' split
    all_goals first | contradiction | with_reducible rfl
theorem cl_z2 (v : Bool) : sp_X8_countLengths k (sZ S 2 v) = ((), sZ (sp_X8_countLengths k S).2 2 v) := clL_z2 5 v 0 S
theorem fA_z2 (v : Bool) : fA k (sZ S 2 v) = sZ (fA k S) 2 v := by
  unfold fA
  simp only [cl_z2, show (sZ S 2 v).1 25 = S.1 25 from rfl, show fE (sZ S 2 v) = fE S from rfl]
  repeat' split
  all_goals first | contradiction | with_reducible rfl
theorem fB_z2 (v : Bool) : fB (sZ S 2 v) = sZ (fB S) 2 v := by
  unfold fB
  simp only [show (sZ S 2 v).1 25 = S.1 25 from rfl, show fE (sZ S 2 v) = fE S from rfl, show (sZ S 2 v).2.1 3 = S.2.1 3 from rfl, show (sZ S 2 v).2.1 4 = S.2.1 4 from rfl, show ∀ b, sZ (sZ S 2 v) 5 b = sZ (sZ S 5 b) 2 v from fun b => sZ_comm S (by decide) v b]
  repeat' split
  all_goals first | contradiction | with_reducible rfl
theorem fD_z2 (v : Bool) : fD (sZ S 2 v) = sZ (fD S) 2 v := by
  unfold fD
  simp only [show (sZ S 2 v).1 25 = S.1 25 from rfl, show fE (sZ S 2 v) = fE S from rfl, show ∀ b, sI (sZ S 2 v) 25 b = sZ (sI S 25 b) 2 v from fun b => rfl]
  repeat' split
  all_goals first | contradiction | with_reducible rfl
theorem fC_z2 (v : Bool) : fC k (sZ S 2 v) = sZ (fC k S) 2 v := by
  unfold fC
  rw [show sI (sZ S 2 v) 25 ((sZ S 2 v).1 25 + 1) = sZ (sI S 25 (S.1 25 + 1)) 2 v from rfl, fA_z2, fB_z2, fD_z2]
theorem clL_z0 (n : Nat) (v : Bool) : ∀ (x : Int32) (S : gSt), lp_X8_countLengths_2 k n x (sZ S 0 v) = ((), sZ (lp_X8_countLengths_2 k n x S).2 0 v) := by
  induction n with
  | zero => intros; rfl
  | succ n ih =>
    intro x S
    rw [lp_X8_countLengths_2, lp_X8_countLengths_2]
    simp only [gL, show ∀ i, aG (sZ S 0 v) 11 i = aG S 11 i from fun _ => rfl, show (sZ S 0 v).1 23 = S.1 23 from rfl, show ∀ q i w, aP (sZ S 0 v) q i w = sZ (aP S q i w) 0 v from fun _ _ _ => rfl, ih]
    repeat' split
    all_goals first | contradiction | with_reducible rfl
theorem cl_z0 (v : Bool) : sp_X8_countLengths k (sZ S 0 v) = ((), sZ (sp_X8_countLengths k S).2 0 v) := clL_z0 5 v 0 S
theorem fA_z0 (v : Bool) : fA k (sZ S 0 v) = sZ (fA k S) 0 v := by
  unfold fA
  simp only [cl_z0, show (sZ S 0 v).1 25 = S.1 25 from rfl, show fE (sZ S 0 v) = fE S from rfl]
  repeat' split
  all_goals first | contradiction | with_reducible rfl
theorem fB_z0 (v : Bool) : fB (sZ S 0 v) = sZ (fB S) 0 v := by
  unfold fB
  simp only [show (sZ S 0 v).1 25 = S.1 25 from rfl, show fE (sZ S 0 v) = fE S from rfl, show (sZ S 0 v).2.1 3 = S.2.1 3 from rfl, show (sZ S 0 v).2.1 4 = S.2.1 4 from rfl, show ∀ b, sZ (sZ S 0 v) 5 b = sZ (sZ S 5 b) 0 v from fun b => sZ_comm S (by decide) v b]
  repeat' split
  all_goals first | contradiction | with_reducible rfl
theorem fD_z0 (v : Bool) : fD (sZ S 0 v) = sZ (fD S) 0 v := by
  unfold fD
  simp only [show (sZ S 0 v).1 25 = S.1 25 from rfl, show fE (sZ S 0 v) = fE S from rfl, show ∀ b, sI (sZ S 0 v) 25 b = sZ (sI S 25 b) 0 v from fun b => rfl]
  repeat' split
  all_goals first | contradiction | with_reducible rfl
theorem fC_z0 (v : Bool) : fC k (sZ S 0 v) = sZ (fC k S) 0 v := by
  unfold fC
  rw [show sI (sZ S 0 v) 25 ((sZ S 0 v).1 25 + 1) = sZ (sI S 25 (S.1 25 + 1)) 0 v from rfl, fA_z0, fB_z0, fD_z0]
end PY
