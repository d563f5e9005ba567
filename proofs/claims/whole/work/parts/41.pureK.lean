section PK
variable {k : Bool} {c sp : Int32} {cr : Bool} {gn : Int64} {S : gSt}
theorem dec_b {x : Int32} (h : x &&& 255 = x) (h0 : ¬ x ≤ 0) : (x - 1) &&& 255 = x - 1 := by
  obtain ⟨j, hj, e⟩ := by_of h
  subst e
  exact (by decide +kernel : ∀ j, j < 256 → ¬ nI j ≤ (0 : Int32) → (nI j - 1) &&& 255 = nI j - 1) j hj h0
theorem iv_countL (n : Nat) : ∀ (x : Int32) (S : gSt), Iv k S → Iv k (lp_X8_countLengths_2 k n x S).2 := by
  induction n with
  | zero => intro x S h; exact h
  | succ n ih =>
    intro x S h
    rw [lp_X8_countLengths_2]
    split
    · exact h
    split
    · exact ih _ _ h
    split
    · rename_i h1 _
      exact ih _ _ (iv_aP 11 x h (dec_b (iv_g h 11 x) h1) h.2.2)
    · exact ih _ _ h
theorem iv_count (h : Iv k S) : Iv k (sp_X8_countLengths k S).2 := iv_countL 5 0 S h
theorem iv_enableL (n : Nat) (a : Int32) : ∀ (x : Int32) (S : gSt), Iv k S → Iv k (lp_X8_enable_7 k n a x S).2 := by
  induction n with
  | zero => intro x S h; exact h
  | succ n ih =>
    intro x S h
    rw [lp_X8_enable_7]
    split
    · exact h
    split
    · exact ih _ _ (iv_aP 11 x h (by decide) h.2.2)
    · exact ih _ _ h
theorem iv_enable (h : Iv k S) {a : Int32} (ha : a &&& 15 = a) : Iv k (sp_X8_enable k a S).2 := iv_enableL 5 a 0 _ (iv_sI 24 h ha h.2.2)
theorem iv_fr (h : Iv k S) (b1 b2 : Bool) : Iv k (sI (sZ (sZ S 3 b1) 4 b2) 25 0) ∧ Iv k (sI (sZ (sZ (sZ S 3 b1) 4 b2) 5 false) 25 0) := by
  have q : ∀ b : Bool, (0 : Int32) ≤ (if (bI b) = 0 then 29829 else 37281) := by intro b; cases b <;> decide
  exact ⟨⟨iv_I (S := (sZ (sZ S 3 b1) 4 b2)) h.1 25 (by decide), h.2.1, h.2.2.1, h.2.2.2.1, q b1, h.2.2.2.2.2⟩, ⟨iv_I (S := (sZ (sZ (sZ S 3 b1) 4 b2) 5 false)) h.1 25 (by decide), h.2.1, h.2.2.1, h.2.2.2.1, q b1, h.2.2.2.2.2⟩⟩
theorem h_frame (hI : Iv k S) (v : Int32) : sp_X10_writeSound 23 v (ph k c sp cr gn S) = ((), ph k c sp cr gn (sp_X8_restartFrame k v S).2) ∧ Iv k (sp_X8_restartFrame k v S).2 := by
  unfold sp_X10_writeSound sp_X8_restartFrame
  rw [if_pos (by decide : (16 : Int32) ≤ 23), if_neg (by decide : ¬ (23 : Int32) = 20), if_neg (by decide : ¬ (23 : Int32) = 21), if_neg (by decide : ¬ (23 : Int32) = 22), if_pos (by decide : (23 : Int32) = 23)]
  simp only [gL, gB, phx_isLong, phx_quiet, sI_self, phw_frame, phw_frameLine0, phz_isLong, phz_quiet, h_count]
  by_cases h1 : v &&& 128 = 0 <;> by_cases h2 : v &&& 64 = 0
  · rw [if_pos h1, if_pos h1, if_pos h2, if_pos h2]
    exact ⟨rfl, (iv_fr hI false false).1⟩
  · rw [if_pos h1, if_pos h1, if_neg h2, if_neg h2]
    exact ⟨rfl, (iv_fr hI false true).2⟩
  · rw [if_neg h1, if_neg h1, if_pos h2, if_pos h2]
    exact ⟨rfl, iv_count (iv_fr hI true false).1⟩
  · rw [if_neg h1, if_neg h1, if_neg h2, if_neg h2]
    exact ⟨rfl, iv_count (iv_fr hI true true).2⟩
theorem h_enable (hI : Iv k S) (v : Int32) : sp_X10_writeSound 21 v (ph k c sp cr gn S) = ((), ph k c sp cr gn (sp_X8_enable k (v &&& 15) S).2) ∧ Iv k (sp_X8_enable k (v &&& 15) S).2 := by
  refine ⟨?_, iv_enable hI (by rw [Int32.and_assoc]; rfl)⟩
  unfold sp_X10_writeSound sp_X8_enable
  rw [if_pos (by decide : (16 : Int32) ≤ 21), if_neg (by decide : ¬ (21 : Int32) = 20), if_pos (by decide : (21 : Int32) = 21)]
  simp only [gL, phw_enabled]
  exact h_enableL 5 21 v _ 0 _ (by omega)
theorem iv_strobe (hI : Iv k S) (b : Bool) : Iv k (sp_X6_setStrobe k b S).2 := by
  unfold sp_X6_setStrobe
  simp only [gL]
  split
  · exact iv_sZ 6 b hI hI.2.2
  split
  · have h1 : Iv k (aP S 14 0 (aG S 13 0)) := iv_aP 14 0 hI (iv_g hI 13 0) hI.2.2
    have h2 : Iv k (aP (aP S 14 0 (aG S 13 0)) 14 1 (aG (aP S 14 0 (aG S 13 0)) 13 1)) := iv_aP 14 1 h1 (iv_g h1 13 1) h1.2.2
    exact iv_sZ 6 b h2 h2.2.2
  · exact iv_sZ 6 b hI hI.2.2
theorem and1_b (x : Int32) : (x &&& 1) &&& 255 = x &&& 1 := by rw [Int32.and_assoc]; rfl
theorem pad_b {x : Int32} (h : x &&& 255 = x) : ((x >>> ((1 : Int32) &&& (31 : Int32))) ||| 128) &&& 255 = (x >>> ((1 : Int32) &&& (31 : Int32))) ||| 128 := by
  obtain ⟨j, hj, e⟩ := by_of h
  subst e
  exact (by decide +kernel : ∀ j, j < 256 → ((nI j >>> ((1 : Int32) &&& (31 : Int32))) ||| 128) &&& 255 = (nI j >>> ((1 : Int32) &&& (31 : Int32))) ||| 128) j hj
theorem iv_nextBit (hI : Iv k S) (a : Int32) : Iv k (sp_X6_nextBit k a S).2 ∧ (sp_X6_nextBit k a S).1 &&& 255 = (sp_X6_nextBit k a S).1 := by
  unfold sp_X6_nextBit
  simp only [gL]
  split
  · exact ⟨iv_aP 14 _ hI (pad_b (iv_g hI 14 _)) hI.2.2, and1_b _⟩
  · exact ⟨hI, and1_b _⟩
theorem st_b : ∀ j, j < 4 → ∀ v, v < 256 → (nI v ||| ((1 : Int32) <<< ((nI j) &&& (31 : Int32)))) &&& 255 = nI v ||| ((1 : Int32) <<< ((nI j) &&& (31 : Int32))) := by decide +kernel
theorem c_statusB (n : Nat) : ∀ (j : Nat) (v : Int32), j ≤ 4 → v &&& 255 = v → (lp_X8_loadStatus_21 k n v (nI j) S).1 &&& 255 = (lp_X8_loadStatus_21 k n v (nI j) S).1 := by
  induction n with
  | zero => intro j v _ _; exact (by decide : (0 : Int32) &&& 255 = 0)
  | succ n ih =>
    intro j v hj hv
    rw [lp_X8_loadStatus_21]
    by_cases h4 : j < 4
    · rw [if_neg (fun h => (le4 hj).mp h h4), nI_1]
      split
      · exact ih (j + 1) v (by omega) hv
      · obtain ⟨w, hw, e⟩ := by_of hv
        subst e
        exact ih (j + 1) _ (by omega) (st_b j h4 w hw)
    · rw [if_pos ((le4 hj).mpr h4)]
      exact hv
theorem iv_status (hI : Iv k S) : Iv k (sp_X8_loadStatus k S).2 ∧ (sp_X8_loadStatus k S).1 &&& 255 = (sp_X8_loadStatus k S).1 := by
  unfold sp_X8_loadStatus
  simp only [gL]
  split
  · rw [c_statusL2]
    exact ⟨iv_sZ 5 _ hI hI.2.2, c_statusB 5 0 0 (by omega) (by decide)⟩
  · rw [c_statusL2]
    exact ⟨iv_sZ 5 _ hI hI.2.2, c_statusB 5 0 64 (by omega) (by decide)⟩
theorem iv_byteAt (hI : Iv k S) (a : Int32) : (sp_X7_byteAt k a S).1 &&& 255 = (sp_X7_byteAt k a S).1 := by
  unfold sp_X7_byteAt sp_X1_chrByte
  simp only [gB]
  split
  · split
    · rw [c_pal2]; exact iv_g hI 9 _
    · rw [c_nt2]; exact iv_g hI 8 _
  · exact iv_g hI 3 _
theorem vb_b {x : Int32} (h : x &&& 1 = x) : (x <<< ((7 : Int32) &&& (31 : Int32))) &&& 255 = x <<< ((7 : Int32) &&& (31 : Int32)) := by
  rcases vi_b1 x with e | e <;> rw [h] at e <;> rw [e] <;> decide
theorem iv_load7 (hI : Iv k S) (a : Int32) : Iv k (sp_X7_load k a S).2 ∧ (sp_X7_load k a S).1 &&& 255 = (sp_X7_load k a S).1 := by
  unfold sp_X7_load
  simp only [gL, gB, c_byteAt2, c_nt2]
  split
  · exact ⟨iv_sI 19 (iv_sI 14 hI (by decide) hI.2.2) (by decide) hI.2.2, vb_b (iv_b hI 14 rfl)⟩
  split
  · exact ⟨hI, iv_g hI 7 _⟩
  split
  · split
    · exact ⟨iv_growV (iv_sI 20 hI (iv_byteAt hI _) hI.2.2), iv_b hI 20 rfl⟩
    · exact ⟨iv_growV (iv_sI 20 hI (iv_g hI 8 _) hI.2.2), iv_byteAt hI _⟩
  · exact ⟨hI, (by decide : (0 : Int32) &&& 255 = 0)⟩
theorem iv_Load (hI : Iv k S) (a : Int32) : Iv k (sp_X0_load k a S).2 ∧ (sp_X0_load k a S).1 &&& 255 = (sp_X0_load k a S).1 := by
  unfold sp_X0_load sp_X0_loadInput sp_X1_romByte
  simp only [gB]
  split
  · split
    · split
      · split
        · exact ⟨hI, iv_g hI 2 _⟩
        · exact ⟨hI, iv_g hI 17 _⟩
      · split
        · exact iv_status hI
        split
        · exact iv_nextBit hI 0
        split
        · exact iv_nextBit hI 1
        · exact ⟨hI, (by decide : (0 : Int32) &&& 255 = 0)⟩
    · exact iv_load7 hI _
  · exact ⟨hI, iv_g hI 16 _⟩
theorem iv_storeByte (hI : Iv k S) (a : Int32) {v : Int32} (hv : v &&& 255 = v) : Iv k (sp_X7_storeByte k a v S).2 := by
  unfold sp_X7_storeByte
  simp only [gB, gL]
  split
  · split
    · exact hI
    · rw [c_nt2]; exact iv_aP 8 _ hI hv hI.2.2
  · rw [c_pal2]; exact iv_aP 9 _ hI hv hI.2.2
theorem or_m {x y m : Int32} (hx : x &&& m = x) (hy : y &&& m = y) : (x ||| y) &&& m = x ||| y := by rw [and_or, hx, hy]
theorem sh_10 (v : Int32) : ((v &&& 3) <<< ((10 : Int32) &&& (31 : Int32))) &&& 32767 = (v &&& 3) <<< ((10 : Int32) &&& (31 : Int32)) := by
  obtain ⟨j, hj, e⟩ := pk_andE v (m := 3) 2 (by decide)
  rw [e]
  exact (by decide +kernel : ∀ j, j < 2 ^ 2 → ((nI j) <<< ((10 : Int32) &&& (31 : Int32))) &&& 32767 = (nI j) <<< ((10 : Int32) &&& (31 : Int32))) j hj
theorem sh_v {v : Int32} (hv : v &&& 255 = v) : (v >>> ((3 : Int32) &&& (31 : Int32))) &&& 32767 = v >>> ((3 : Int32) &&& (31 : Int32)) ∧ ((v &&& 7) <<< ((12 : Int32) &&& (31 : Int32))) &&& 32767 = (v &&& 7) <<< ((12 : Int32) &&& (31 : Int32)) ∧ ((v >>> ((3 : Int32) &&& (31 : Int32))) <<< ((5 : Int32) &&& (31 : Int32))) &&& 32767 = (v >>> ((3 : Int32) &&& (31 : Int32))) <<< ((5 : Int32) &&& (31 : Int32)) ∧ ((v &&& 63) <<< ((8 : Int32) &&& (31 : Int32))) &&& 32767 = (v &&& 63) <<< ((8 : Int32) &&& (31 : Int32)) ∧ v &&& 32767 = v := by
  obtain ⟨j, hj, e⟩ := by_of hv
  rw [e]
  exact (by decide +kernel : ∀ j, j < 256 → ((nI j) >>> ((3 : Int32) &&& (31 : Int32))) &&& 32767 = (nI j) >>> ((3 : Int32) &&& (31 : Int32)) ∧ (((nI j) &&& 7) <<< ((12 : Int32) &&& (31 : Int32))) &&& 32767 = ((nI j) &&& 7) <<< ((12 : Int32) &&& (31 : Int32)) ∧ (((nI j) >>> ((3 : Int32) &&& (31 : Int32))) <<< ((5 : Int32) &&& (31 : Int32))) &&& 32767 = ((nI j) >>> ((3 : Int32) &&& (31 : Int32))) <<< ((5 : Int32) &&& (31 : Int32)) ∧ (((nI j) &&& 63) <<< ((8 : Int32) &&& (31 : Int32))) &&& 32767 = ((nI j) &&& 63) <<< ((8 : Int32) &&& (31 : Int32)) ∧ (nI j) &&& 32767 = nI j) j hj
theorem w_1 {x : Int32} (h : x &&& 1 = x) : (1 - x) &&& 1 = 1 - x := by
  rcases vi_b1 x with e | e <;> rw [h] at e <;> rw [e] <;> decide
theorem iv_store7 (hI : Iv k S) (a : Int32) {v : Int32} (hv : v &&& 255 = v) : Iv k (sp_X7_store k a v S).2 := by
  have ht : S.1 17 &&& 32767 = S.1 17 := iv_b hI 17 rfl
  obtain ⟨s1, s2, s3, s4, s5⟩ := sh_v hv
  unfold sp_X7_store
  simp only [gB, gL]
  split
  · unfold sp_X7_storeControl
    simp only [gL]
    have h1 : Iv k (sI S 12 v) := iv_sI 12 hI hv hI.2.2
    have h2 : Iv k (sI (sI S 12 v) 17 (((S.1 17) &&& (-3073)) ||| ((v &&& 3) <<< ((10 : Int32) &&& (31 : Int32))))) := iv_sI 17 h1 (or_m (and_l ht) (sh_10 v)) h1.2.2
    split
    · split
      · exact h2
      split
      · exact iv_sZ 2 _ h2 h2.2.2
      · exact h2
    · exact h2
  split
  · exact iv_sI 13 hI hv hI.2.2
  split
  · exact hI
  split
  · exact iv_sI 15 hI hv hI.2.2
  split
  · exact iv_sI 15 (iv_aP 7 _ hI hv hI.2.2) (by_and _) hI.2.2
  split
  · unfold sp_X7_storeScroll
    simp only [gL]
    split
    · exact iv_sI 19 (iv_sI 18 (iv_sI 17 hI (or_m (and_l ht) s1) hI.2.2) (and77 v) hI.2.2) (w_1 (iv_b hI 19 rfl)) hI.2.2
    · exact iv_sI 19 (iv_sI 17 hI (or_m (or_m (and_l ht) s2) s3) hI.2.2) (w_1 (iv_b hI 19 rfl)) hI.2.2
  split
  · unfold sp_X7_storeAddress
    simp only [gL]
    split
    · exact iv_sI 19 (iv_sI 17 hI (or_m (and_l ht) s4) hI.2.2) (w_1 (iv_b hI 19 rfl)) hI.2.2
    · have hz : (((S.1 17) &&& 32512) ||| v) &&& 32767 = ((S.1 17) &&& 32512) ||| v := or_m (and_l ht) s5
      exact iv_sI 19 (iv_sI 16 (iv_sI 17 hI hz hI.2.2) hz hI.2.2) (w_1 (iv_b hI 19 rfl)) hI.2.2
  split
  · exact iv_growV (iv_storeByte hI _ hv)
  · exact hI
end PK
