section PX
variable {k : Bool} {c sp : Int32} {cr : Bool} {gn : Int64} {S : gSt}
theorem h_tell : sp_X10_tellLine (ph k c sp cr gn S) = ((), ph k c sp cr gn (sp_K_noteLine k S).2) := by
  cases k
  · unfold sp_X10_tellLine
    rw [if_pos (show bI ((ph false c sp cr gn S).2.1 0) = 0 from rfl)]
    rfl
  · unfold sp_X10_tellLine
    rw [if_neg (show ¬ bI ((ph true c sp cr gn S).2.1 0) = 0 by rw [phz_mmc3]; decide)]
    show _ = ((), ph true c sp cr gn (sp_X4_noteLine S).2)
    unfold sp_X4_noteLine
    have e1 : ∀ T : gSt, sI (ph true c sp cr gn T) 29 1 = ph true c sp cr gn (sZ T 0 true) := fun T => phw_cartridgeLine true c sp cr gn T true
    simp only [gL, phr_counter, phr_latch, phw_counter, phz_counts, e1]
    repeat' split
    all_goals first | rfl | contradiction
/-- one dot of the picture unit, as the class's state sees it -/
def dA (S : gSt) : gSt := if (S.1 22 + 1) = 341 then (if S.1 21 = 261 then sI (sI S 22 0) 21 0 else sI (sI S 22 0) 21 (S.1 21 + 1)) else sI S 22 (S.1 22 + 1)
def dB (k : Bool) (S : gSt) : gSt := if S.1 22 = 1 then (sp_X7_comeToDotOne k S).2 else S
def dE (k : Bool) (S : gSt) : gSt := if S.1 22 = 260 then (sp_X7_tellLine k S).2 else S
def dC (k : Bool) (S : gSt) : gSt := dE k (dB k (dA S))
theorem j128 (x1 : Int32) (K : gSt → Unit × gSt) : jn_X10_tick_128 x1 K (ph k c sp cr gn S) = K (ph k c sp cr gn (dE k S)) := by
  unfold jn_X10_tick_128 jn_X10_tick_158 jn_X10_tick_172 dE sp_X7_tellLine
  simp only [gB, h_tell, phr_dot, phr_line, phr_mask]
  repeat' split
  all_goals first | rfl | contradiction
theorem c_dot1 : (sp_X7_comeToDotOne k S).2.1 22 = S.1 22 := by
  unfold sp_X7_comeToDotOne
  repeat' split
  all_goals first | rfl | (simp only [gL]; split <;> rfl)
theorem j66a (x1 : Int32) (K : gSt → Unit × gSt) (h : S.1 22 = 1) : jn_X10_tick_66 x1 K (ph k c sp cr gn S) = jn_X10_tick_128 x1 K (ph k c sp cr gn (sp_X7_comeToDotOne k S).2) := by
  have e9 : ¬ (241 : Int32) = 261 := by decide
  unfold jn_X10_tick_66 jn_X10_tick_105 sp_X7_comeToDotOne
  simp only [gL, phw_vblank, phx_nmi, phr_dot, phr_line, phr_ctrl, show ∀ T : gSt, ∀ v : Int32, (sI T 14 v).1 22 = T.1 22 from fun _ _ => rfl, show ∀ T : gSt, ∀ v : Int32, (sI T 14 v).1 21 = T.1 21 from fun _ _ => rfl, show ∀ T : gSt, ∀ b : Bool, (sZ T 2 b).1 22 = T.1 22 from fun _ _ => rfl, show ∀ T : gSt, ∀ b : Bool, (sZ T 2 b).1 21 = T.1 21 from fun _ _ => rfl]
  by_cases h2 : S.1 21 = 241
  · have h3 : ¬ S.1 21 = 261 := by rw [h2]; decide
    repeat' split
    all_goals first | rfl | contradiction
  · repeat' split
    all_goals first | rfl | contradiction
theorem j66 (x1 : Int32) (K : gSt → Unit × gSt) : jn_X10_tick_66 x1 K (ph k c sp cr gn S) = K (ph k c sp cr gn (dE k (dB k S))) := by
  unfold dB
  by_cases h : S.1 22 = 1
  · rw [if_pos h, j66a x1 K h, j128]
  · rw [if_neg h, ← j128 x1 K]
    unfold jn_X10_tick_66 jn_X10_tick_105
    rw [if_neg (show ¬ (ph k c sp cr gn S).1 18 = 1 from h), if_neg (show ¬ (ph k c sp cr gn S).1 18 = 1 from h)]
theorem h_dot (n : Nat) {x1 : Int32} (h : ¬ 3 ≤ x1) : lp_X10_tick_12 (n + 1) x1 (ph k c sp cr gn S) = lp_X10_tick_12 n (x1 + 1) (ph k c sp cr gn (dC k S)) := by
  rw [lp_X10_tick_12, if_neg h]
  unfold dC dA
  simp only [gL, phr_dot, phw_dot, phr_line, phw_line, j66, sI_same, show ∀ T : gSt, ∀ v : Int32, (sI T 22 v).1 22 = v from fun _ _ => rfl, show ∀ T : gSt, ∀ v : Int32, (sI T 22 v).1 21 = T.1 21 from fun _ _ => rfl]
  repeat' split
  all_goals first | rfl | contradiction
/-- one cycle of the frame counter, as the class's state sees it -/
def fE (S : gSt) : Int32 := if bI (S.2.1 3) = 0 then 29829 else 37281
def fA (k : Bool) (S : gSt) : gSt := if S.1 25 = 14913 then (sp_X8_countLengths k S).2 else (if S.1 25 = fE S then (sp_X8_countLengths k S).2 else S)
def fB (S : gSt) : gSt := if S.1 25 = fE S then (if bI (S.2.1 3) = 0 then (if bI (S.2.1 4) = 0 then sZ S 5 true else S) else S) else S
def fD (S : gSt) : gSt := if S.1 25 ≤ fE S then S else sI S 25 0
def fC (k : Bool) (S : gSt) : gSt := fD (fB (fA k (sI S 25 (S.1 25 + 1))))
theorem j226 (x : Int32) (h : x = fE S) : jn_X10_tick_226 x (ph k c sp cr gn S) = ((), ph k c sp cr gn (fD (fB S))) := by
  subst h
  have e1 : sI (ph k c sp cr gn S) 31 1 = ph k c sp cr gn (sZ S 5 true) := phw_frameLine k c sp cr gn S true
  have e2 : ∀ T : gSt, fD T = if T.1 25 ≤ fE T then T else sI T 25 0 := fun _ => rfl
  unfold jn_X10_tick_226 fB
  simp only [gL, phr_frame, phz_isLong, phz_quiet, e1, phw_frame, e2, show ∀ b : Bool, (sZ S 5 b).1 25 = S.1 25 from fun _ => rfl, show ∀ b : Bool, fE (sZ S 5 b) = fE S from fun _ => rfl]
  repeat' split
  all_goals first | rfl | contradiction
theorem c_clL (n : Nat) : ∀ (x : Int32) (S : gSt), (lp_X8_countLengths_2 k n x S).2.1 = S.1 ∧ (lp_X8_countLengths_2 k n x S).2.2.1 = S.2.1 := by
  induction n with
  | zero => intros; exact ⟨rfl, rfl⟩
  | succ n ih =>
    intro x S
    rw [lp_X8_countLengths_2]
    simp only [gL]
    repeat' split
    all_goals first | exact ⟨rfl, rfl⟩ | exact ih _ _ | exact ⟨(ih _ _).1, (ih _ _).2⟩
theorem c_cl : (sp_X8_countLengths k S).2.1 = S.1 ∧ (sp_X8_countLengths k S).2.2.1 = S.2.1 := c_clL 5 0 S
theorem fE_cl : fE (sp_X8_countLengths k S).2 = fE S := by
  unfold fE
  rw [c_cl.2]
theorem j222 (x : Int32) (h : x = fE S) : jn_X10_tick_222 x (ph k c sp cr gn S) = ((), ph k c sp cr gn (fD (fB (sp_X8_countLengths k S).2))) := by
  unfold jn_X10_tick_222
  rw [h_count]
  exact j226 x (h.trans fE_cl.symm)
theorem h_ft (n : Nat) {x1 : Int32} (h : 3 ≤ x1) : lp_X10_tick_12 (n + 1) x1 (ph k c sp cr gn S) = ((), ph k c sp cr gn (fC k S)) := by
  rw [lp_X10_tick_12, if_pos h]
  unfold fC
  simp only [gL, phr_frame, phw_frame]
  generalize sI S 25 (S.1 25 + 1) = U
  by_cases hl : bI (U.2.1 3) = 0
  · have e : (29829 : Int32) = fE U := by unfold fE; rw [if_pos hl]
    rw [if_pos (show bI ((ph k c sp cr gn U).2.1 4) = 0 from hl), j222 _ e, j226 _ e]
    unfold fA
    rw [← e]
    repeat' split
    all_goals first | rfl | contradiction
  · have e : (37281 : Int32) = fE U := by unfold fE; rw [if_neg hl]
    rw [if_neg (show ¬ bI ((ph k c sp cr gn U).2.1 4) = 0 from hl), j222 _ e, j226 _ e]
    unfold fA
    rw [← e]
    repeat' split
    all_goals first | rfl | contradiction
/-- a cycle of the reference: three dots and one of the frame counter -/
theorem h_tick : sp_X10_tick (ph k c sp cr gn S) = ((), ph k c sp cr (gn + 1) (fC k (dC k (dC k (dC k S))))) := by
  unfold sp_X10_tick
  simp only [gL, phj_gone, phw_gone]
  rw [h_dot 3 (by decide), h_dot 2 (by decide), h_dot 1 (by decide), h_ft 0 (by decide)]
end PX
