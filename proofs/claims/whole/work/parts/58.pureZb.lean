section PZb
variable {k : Bool} {S : gSt}
def cD (S : gSt) (x : Int32) : Int32 := if (341 - (S.1 22)) < x then (341 - (S.1 22)) else x
def c1 (k : Bool) (S : gSt) (d : Int32) : gSt := if 1 ≤ S.1 22 then S else (if S.1 22 + d < 1 then S else (sp_X7_comeToDotOne k S).2)
def c2 (k : Bool) (S X : gSt) (d : Int32) : gSt := if 260 ≤ X.1 22 then X else (if S.1 22 + d < 260 then X else (sp_X7_tellLine k X).2)
def c3 (Y : gSt) : gSt := if Y.1 22 = 341 then (if (sI Y 22 0).1 21 = 261 then sI (sI Y 22 0) 21 0 else sI (sI Y 22 0) 21 ((sI Y 22 0).1 21 + 1)) else Y
def cK (k : Bool) (S : gSt) (d : Int32) : gSt := c3 (sI (c2 k S (c1 k S d) d) 22 (S.1 22 + d))
theorem c3_k {α : Type} (L : gSt → α) (Y : gSt) : (if Y.1 22 = 341 then (if (sI Y 22 0).1 21 = 261 then L (sI (sI Y 22 0) 21 0) else L (sI (sI Y 22 0) 21 ((sI Y 22 0).1 21 + 1))) else L Y) = L (c3 Y) := by
  unfold c3
  split
  · split <;> rfl
  · rfl
theorem c2_k {α : Type} (L : gSt → α) (X : gSt) (d : Int32) : (if 260 ≤ X.1 22 then L (c3 (sI X 22 (S.1 22 + d))) else (if S.1 22 + d < 260 then L (c3 (sI X 22 (S.1 22 + d))) else L (c3 (sI (sp_X7_tellLine k X).2 22 (S.1 22 + d))))) = L (c3 (sI (c2 k S X d) 22 (S.1 22 + d))) := by
  unfold c2
  split
  · rfl
  · split <;> rfl
theorem adv_s (n : Nat) (x1 x2 x3 : Int32) : lp_X7_advance_4 k (n + 1) x1 x2 x3 S = (if 1000 ≤ x3 then ((), S) else (if x2 ≤ 0 then ((), S) else lp_X7_advance_4 k n x1 (x2 - cD S x2) (x3 + 1) (cK k S (cD S x2)))) := by
  rw [lp_X7_advance_4]
  rw [show (if (341 - (S.1 22)) < x2 then (341 - (S.1 22)) else x2) = cD S x2 from rfl]
  generalize cD S x2 = d
  generalize lp_X7_advance_4 k n x1 (x2 - d) (x3 + 1) = L
  simp only [gB, gL]
  simp only [c3_k, c2_k (k := k) (S := S)]
  unfold cK c1
  split
  · rfl
  split
  · rfl
  split
  · rfl
  split <;> rfl
end PZb
