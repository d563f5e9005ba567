section PE
variable {k : Bool} {c sp : Int32} {cr : Bool} {gn : Int64} {S : gSt}
theorem aP_self (S : gSt) (q : Nat) (i : Int32) : aP S q i (aG S q i) = S := by
  obtain ⟨I, Z, J, A⟩ := S
  refine ph_ext (fun _ => rfl) (fun _ => rfl) (fun _ => rfl) (fun a => ?_)
  show va_up A q (upd (A q) i.toNatClampNeg (A q i.toNatClampNeg)) a = A a
  by_cases e : a = q
  · subst e
    rw [va_up_self]
    funext z
    by_cases e2 : z = i.toNatClampNeg
    · subst e2; rw [pk_us]
    · rw [pk_un e2]
  · rw [va_up_ne _ _ e]
theorem sI_self (S : gSt) (j : Nat) : sI S j (S.1 j) = S := by
  obtain ⟨I, Z, J, A⟩ := S
  refine ph_ext (fun a => ?_) (fun _ => rfl) (fun _ => rfl) (fun _ => rfl)
  show upd I j (I j) a = I a
  by_cases e : a = j
  · subst e; rw [pk_us]
  · rw [pk_un e]
theorem le4 {j : Nat} (h : j ≤ 4) : (4 : Int32) ≤ nI j ↔ ¬ j < 4 := by
  have := (by decide +kernel : ∀ j, j < 5 → ((4 : Int32) ≤ nI j ↔ ¬ j < 4)) j (by omega)
  exact this
theorem h_halt {j : Nat} (hj : j < 4) : aG (ph k c sp cr gn S) 10 (nI j) = ((S.1 23) >>> ((nI j) &&& (31 : Int32))) &&& 1 := by
  show phH (S.1 23) (nI j).toNatClampNeg = _
  rw [nI_clamp (by omega)]
  unfold phH
  rw [if_pos hj]
  rfl
theorem h_countL (n : Nat) : ∀ (j : Nat) (S : gSt), j ≤ 4 → lp_X10_count_2 n (nI j) (ph k c sp cr gn S) = ((), ph k c sp cr gn (lp_X8_countLengths_2 k n (nI j) S).2) := by
  induction n with
  | zero => intro j S _; rfl
  | succ n ih =>
    intro j S hj
    rw [lp_X10_count_2, lp_X8_countLengths_2]
    by_cases h4 : j < 4
    · rw [if_neg (fun h => (le4 hj).mp h h4), if_neg (fun h => (le4 hj).mp h h4)]
      simp only [h_halt h4, pha_lengths, phs_lengths, gL, nI_1]
      split
      · exact ih (j + 1) S (by omega)
      split
      · exact ih (j + 1) _ (by omega)
      · exact ih (j + 1) S (by omega)
    · rw [if_pos ((le4 hj).mpr h4), if_pos ((le4 hj).mpr h4)]
theorem h_count : sp_X10_count (ph k c sp cr gn S) = ((), ph k c sp cr gn (sp_X8_countLengths k S).2) := h_countL 5 0 S (by omega)
theorem bit_15 : ∀ j, j < 4 → ∀ v : Int32, ((v &&& 15) >>> ((nI j) &&& (31 : Int32))) &&& 1 = (v >>> ((nI j) &&& (31 : Int32))) &&& 1 := by
  intro j hj v
  apply b_ext
  intro i hi
  rw [b_and, b_and, b_sshr j (by omega) _ hi, b_sshr j (by omega) _ hi]
  by_cases e : i = 0
  · subst e
    rw [if_pos (by omega), if_pos (by omega), b_and]
    rw [(by decide : ∀ j, j < 4 → bt 15 (j + 0) = true) j hj, Bool.and_true]
  · rw [(by decide : ∀ i, i < 32 → i ≠ 0 → bt 1 i = false) i hi e, Bool.and_false, Bool.and_false]
theorem h_enableL (n : Nat) (a v d : Int32) : ∀ (j : Nat) (S : gSt), j ≤ 4 → lp_X10_writeSound_110 n a v d (nI j) (ph k c sp cr gn S) = ((), ph k c sp cr gn (lp_X8_enable_7 k n (v &&& 15) (nI j) S).2) := by
  induction n with
  | zero => intro j S _; rfl
  | succ n ih =>
    intro j S hj
    rw [lp_X10_writeSound_110, lp_X8_enable_7]
    by_cases h4 : j < 4
    · rw [if_neg (fun h => (le4 hj).mp h h4), if_neg (fun h => (le4 hj).mp h h4), bit_15 j h4]
      simp only [aP_self, phs_lengths, gL, nI_1]
      split
      · exact ih (j + 1) _ (by omega)
      · exact ih (j + 1) S (by omega)
    · rw [if_pos ((le4 hj).mpr h4), if_pos ((le4 hj).mpr h4)]
theorem h_statusL (n : Nat) (a : Int32) : ∀ (j : Nat) (v : Int32), j ≤ 4 → 4 < j + n → lp_X10_readSound_16 n a v (nI j) (ph k c sp cr gn S) = ((lp_X8_loadStatus_21 k n v (nI j) (sZ S 5 false)).1, ph k c sp cr gn (sZ S 5 false)) := by
  induction n with
  | zero => intro j v h1 h2; omega
  | succ n ih =>
    intro j v hj h2
    rw [lp_X10_readSound_16, lp_X8_loadStatus_21]
    by_cases h4 : j < 4
    · rw [if_neg (fun h => (le4 hj).mp h h4), if_neg (fun h => (le4 hj).mp h h4)]
      simp only [pha_lengths, nI_1, Int32.or_zero]
      show _ = ((if aG S 11 (nI j) ≤ 0 then _ else _ : Int32 × gSt).1, _)
      split
      · exact ih (j + 1) v (by omega) (by omega)
      · exact ih (j + 1) _ (by omega) (by omega)
    · rw [if_pos ((le4 hj).mpr h4), if_pos ((le4 hj).mpr h4)]
      simp only [gL]
      rw [show (0 : Int32) = bI false from rfl, phw_frameLine]
theorem c_statusL2 (n : Nat) : ∀ (x v : Int32), (lp_X8_loadStatus_21 k n v x S).2 = S := by
  induction n with
  | zero => intro x v; rfl
  | succ n ih =>
    intro x v
    rw [lp_X8_loadStatus_21]
    split
    · rfl
    split
    · exact ih _ _
    · exact ih _ _
theorem h_status (a : Int32) : lp_X10_readSound_16 5 a ((bI (S.2.1 5)) <<< ((6 : Int32) &&& (31 : Int32))) 0 (ph k c sp cr gn S) = ((sp_X8_loadStatus k S).1, ph k c sp cr gn (sp_X8_loadStatus k S).2) := by
  unfold sp_X8_loadStatus
  simp only [gL]
  have h := fun v => h_statusL (k := k) (c := c) (sp := sp) (cr := cr) (gn := gn) (S := S) 5 a 0 v (by omega) (by omega)
  rw [nI_0] at h
  rw [h]
  cases e : S.2.1 5
  · rw [if_pos (by decide : bI false = 0), c_statusL2]; rfl
  · rw [if_neg (by decide : ¬ bI true = 0), c_statusL2]; rfl
theorem h_pad0 : sp_X10_readSound 22 (ph k c sp cr gn S) = ((sp_X6_nextBit k 0 S).1, ph k c sp cr gn (sp_X6_nextBit k 0 S).2) := by
  unfold sp_X10_readSound sp_X6_nextBit
  simp only [phr_strobe, pha_buttons, pha_taken, phs_taken, gL, show ((22 : Int32) - 22) = 0 from rfl, show ((0 : Int32) &&& 1) = 0 from rfl]
  rw [if_neg (by decide : ¬ (22 : Int32) = 21), if_pos (by decide : (22 : Int32) ≤ 22)]
  cases e : S.2.1 6
  · rw [if_neg (by decide : ¬ bI false = 1), if_pos (by decide : bI false = 0)]
  · rw [if_pos (by decide : bI true = 1), if_neg (by decide : ¬ bI true = 0)]
theorem h_pad1 : sp_X10_readSound 23 (ph k c sp cr gn S) = ((sp_X6_nextBit k 1 S).1, ph k c sp cr gn (sp_X6_nextBit k 1 S).2) := by
  unfold sp_X10_readSound sp_X6_nextBit
  simp only [phr_strobe, pha_buttons, pha_taken, phs_taken, gL, show ((23 : Int32) - 22) = 1 from rfl, show ((1 : Int32) &&& 1) = 1 from rfl]
  rw [if_neg (by decide : ¬ (23 : Int32) = 21), if_pos (by decide : (22 : Int32) ≤ 23)]
  cases e : S.2.1 6
  · rw [if_neg (by decide : ¬ bI false = 1), if_pos (by decide : bI false = 0)]
  · rw [if_pos (by decide : bI true = 1), if_neg (by decide : ¬ bI true = 0)]
theorem phw_strobe0 (S : gSt) : sI (ph k c sp cr gn S) 33 0 = ph k c sp cr gn (sZ S 6 false) := phw_strobe k c sp cr gn S false
theorem phw_strobe1 (S : gSt) : sI (ph k c sp cr gn S) 33 1 = ph k c sp cr gn (sZ S 6 true) := phw_strobe k c sp cr gn S true
theorem phw_frameLine0 (S : gSt) : sI (ph k c sp cr gn S) 31 0 = ph k c sp cr gn (sZ S 5 false) := phw_frameLine k c sp cr gn S false
theorem phw_frameLine1 (S : gSt) : sI (ph k c sp cr gn S) 31 1 = ph k c sp cr gn (sZ S 5 true) := phw_frameLine k c sp cr gn S true
theorem phw_cartridgeLine0 (S : gSt) : sI (ph k c sp cr gn S) 29 0 = ph k c sp cr gn (sZ S 0 false) := phw_cartridgeLine k c sp cr gn S false
theorem phw_cartridgeLine1 (S : gSt) : sI (ph k c sp cr gn S) 29 1 = ph k c sp cr gn (sZ S 0 true) := phw_cartridgeLine k c sp cr gn S true
theorem h_strobe (a v d : Int32) : lp_X10_writeSound_161 3 a v d 0 (ph k c sp cr gn S) = ((), ph k c sp cr gn (sp_X6_setStrobe k (decide ((v &&& 1) = 1)) S).2) := by
  simp only [lp_X10_writeSound_161]
  unfold sp_X6_setStrobe
  rcases vi_b1 v with h | h
  · rw [h]
    simp only [gL, aP_self, phr_strobe, pha_buttons, phs_taken, show ((0 : Int32) + 1) = 1 from rfl, show ((1 : Int32) + 1) = 2 from rfl, phw_strobe0, show decide ((0 : Int32) = 1) = false from by decide]
    rw [if_neg (by decide : ¬ (2 : Int32) ≤ 0), if_pos (by decide : bI false = 0)]
    cases e : S.2.1 6
    · simp only [if_neg (by decide : ¬ bI false = 1), if_pos (by decide : bI false = 0), if_neg (by decide : ¬ (2 : Int32) ≤ 1), if_pos (by decide : (2 : Int32) ≤ 2)]
    · simp only [if_pos (by decide : bI true = 1), if_neg (by decide : ¬ bI true = 0), if_neg (by decide : ¬ (2 : Int32) ≤ 1), if_pos (by decide : (2 : Int32) ≤ 2), show (aP S 14 0 (aG S 13 0)).2.1 6 = S.2.1 6 from rfl, e, if_true, phr_strobe, pha_buttons, phs_taken, phw_strobe0]
  · rw [h]
    simp only [gL, aP_self, phr_strobe, pha_buttons, phs_taken, show ((0 : Int32) + 1) = 1 from rfl, show ((1 : Int32) + 1) = 2 from rfl, phw_strobe1, decide_true]
    rw [if_neg (by decide : ¬ (2 : Int32) ≤ 0), if_neg (by decide : ¬ bI true = 0), if_neg (by decide : ¬ (1 : Int32) = 0)]
    cases e : S.2.1 6
    · simp only [if_neg (by decide : ¬ bI false = 1), if_pos (by decide : bI false = 0), if_neg (by decide : ¬ (2 : Int32) ≤ 1), if_pos (by decide : (2 : Int32) ≤ 2)]
    · simp only [if_pos (by decide : bI true = 1), if_neg (by decide : ¬ bI true = 0), if_neg (by decide : ¬ (2 : Int32) ≤ 1), if_pos (by decide : (2 : Int32) ≤ 2), if_neg (by decide : ¬ (1 : Int32) = 0)]
end PE
