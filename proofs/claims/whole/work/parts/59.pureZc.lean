section PZc
variable {k : Bool} {S : gSt}
theorem n22 (v : Int32) : sp_K_noteLine k (sI S 22 v) = ((), sI (sp_K_noteLine k S).2 22 v) := by
  cases k
  · rfl
  · show sp_X4_noteLine (sI S 22 v) = ((), sI (sp_X4_noteLine S).2 22 v)
    unfold sp_X4_noteLine
    simp only [gL, show (sI S 22 v).1 11 = S.1 11 from rfl, show (sI S 22 v).1 10 = S.1 10 from rfl, show ∀ w, sI (sI S 22 v) 11 w = sI (sI S 11 w) 22 v from fun w => sI_comm S (by decide) v w, show ∀ w, (sI (sI S 11 w) 22 v).1 11 = (sI S 11 w).1 11 from fun _ => rfl, show ∀ w, (sI (sI S 11 w) 22 v).2.1 1 = (sI S 11 w).2.1 1 from fun _ => rfl]
    repeat' split
    all_goals rfl
def d1 (k : Bool) (S : gSt) : gSt := (sp_X7_comeToDotOne k S).2
def d2 (k : Bool) (S : gSt) : gSt := (sp_X7_tellLine k S).2
theorem d1_22 (v : Int32) : d1 k (sI S 22 v) = sI (d1 k S) 22 v := by
  unfold d1 sp_X7_comeToDotOne
  simp only [gL, show (sI S 22 v).1 21 = S.1 21 from rfl, show ∀ w, sI (sI S 22 v) 14 w = sI (sI S 14 w) 22 v from fun w => sI_comm S (by decide) v w, show ∀ w, (sI (sI S 14 w) 22 v).1 12 = (sI S 14 w).1 12 from fun _ => rfl]
  repeat' split
  all_goals rfl
theorem d2_22 (v : Int32) : d2 k (sI S 22 v) = sI (d2 k S) 22 v := by
  unfold d2 sp_X7_tellLine
  simp only [gB, n22, show (sI S 22 v).1 21 = S.1 21 from rfl, show (sI S 22 v).1 13 = S.1 13 from rfl]
  repeat' split
  all_goals rfl
theorem d1_r : (d1 k S).1 22 = S.1 22 := c_dot1
/-- what happens between dot j and dot j + m of a line -/
def e1 (k : Bool) (j m : Nat) (S : gSt) : gSt := if j = 0 ∧ 1 ≤ m then d1 k S else S
def e2 (k : Bool) (j m : Nat) (S : gSt) : gSt := if j < 260 ∧ 260 ≤ j + m then d2 k S else S
def eY (k : Bool) (j m : Nat) (S : gSt) : gSt := e2 k j m (e1 k j m S)
theorem n_eq {a b : Nat} (ha : a < 1000) (hb : b < 1000) : nI a = nI b ↔ a = b := nI_eq (by omega) (by omega)
theorem dA_n {q : Nat} (h : q < 340) (Y : gSt) : dA (sI Y 22 (nI q)) = sI Y 22 (nI (q + 1)) := by
  unfold dA
  rw [show (sI Y 22 (nI q)).1 22 + 1 = nI (q + 1) from nI_1 q, if_neg (show ¬ nI (q + 1) = 341 from fun z => by have := (n_eq (b := 341) (by omega) (by omega)).mp z; omega), sI_same]
theorem dB_n {q : Nat} (h : q < 1000) (Y : gSt) : dB k (sI Y 22 (nI q)) = sI (if q = 1 then d1 k Y else Y) 22 (nI q) := by
  unfold dB
  by_cases hq : q = 1
  · subst hq
    rw [if_pos (show (sI Y 22 (nI 1)).1 22 = 1 from rfl), if_pos rfl]
    exact d1_22 _
  · rw [if_neg (show ¬ (sI Y 22 (nI q)).1 22 = 1 from fun z => hq ((n_eq (b := 1) h (by omega)).mp z)), if_neg hq]
theorem dE_n {q : Nat} (h : q < 1000) (Y : gSt) : dE k (sI Y 22 (nI q)) = sI (if q = 260 then d2 k Y else Y) 22 (nI q) := by
  unfold dE
  by_cases hq : q = 260
  · subst hq
    rw [if_pos (show (sI Y 22 (nI 260)).1 22 = 260 from rfl), if_pos rfl]
    exact d2_22 _
  · rw [if_neg (show ¬ (sI Y 22 (nI q)).1 22 = 260 from fun z => hq ((n_eq (b := 260) h (by omega)).mp z)), if_neg hq]
theorem eY_s (j m : Nat) : eY k j (m + 1) S = (if j + m + 1 = 260 then d2 k (if j + m + 1 = 1 then d1 k (eY k j m S) else eY k j m S) else (if j + m + 1 = 1 then d1 k (eY k j m S) else eY k j m S)) := by
  unfold eY e2 e1
  by_cases h1 : j + m + 1 = 1
  · have hj : j = 0 := by omega
    have hm : m = 0 := by omega
    subst hj
    subst hm
    rfl
  · rw [if_neg h1]
    have e : (if j = 0 ∧ 1 ≤ m + 1 then d1 k S else S) = (if j = 0 ∧ 1 ≤ m then d1 k S else S) := by
      by_cases h : j = 0 ∧ 1 ≤ m
      · rw [if_pos h, if_pos ⟨h.1, by omega⟩]
      · rw [if_neg h, if_neg (fun z => h ⟨z.1, by omega⟩)]
    rw [e]
    generalize (if j = 0 ∧ 1 ≤ m then d1 k S else S) = X
    by_cases h2 : j + m + 1 = 260
    · rw [if_pos h2, if_pos ⟨by omega, by omega⟩, if_neg (fun z => by omega)]
    · rw [if_neg h2]
      by_cases h3 : j < 260 ∧ 260 ≤ j + m
      · rw [if_pos h3, if_pos ⟨h3.1, by omega⟩]
      · rw [if_neg h3, if_neg (fun z => h3 ⟨z.1, by omega⟩)]
theorem it_dots {j : Nat} (hS : S.1 22 = nI j) (m : Nat) : j + m ≤ 340 → it (dC k) m S = sI (eY k j m S) 22 (nI (j + m)) := by
  induction m with
  | zero =>
    intro h
    have e : eY k j 0 S = S := by
      unfold eY e2 e1
      rw [if_neg (fun z => by omega), if_neg (fun z => by omega)]
    rw [e]
    exact (sI_eq S hS).symm
  | succ m ih =>
    intro h
    rw [it_s, ih (by omega)]
    show dE k (dB k (dA (sI (eY k j m S) 22 (nI (j + m))))) = _
    rw [dA_n (by omega), dB_n (by omega), dE_n (by omega), eY_s]
    rfl
end PZc
