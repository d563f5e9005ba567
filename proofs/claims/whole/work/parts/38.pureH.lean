section PH2
variable {k : Bool} {c sp : Int32} {cr : Bool} {gn : Int64} {S : gSt}
theorem sI_comm (S : gSt) {i j : Nat} (h : i ≠ j) (v w : Int32) : sI (sI S i v) j w = sI (sI S j w) i v := by
  obtain ⟨I, Z, J, A⟩ := S
  refine ph_ext (fun a => ?_) (fun _ => rfl) (fun _ => rfl) (fun _ => rfl)
  show upd (upd I i v) j w a = upd (upd I j w) i v a
  by_cases e1 : a = i
  · subst e1
    rw [pk_us, pk_un h, pk_us]
  · by_cases e2 : a = j
    · subst e2
      rw [pk_us, pk_un e1, pk_us]
    · rw [pk_un e2, pk_un e1, pk_un e1, pk_un e2]
theorem iw_sI (j : Nat) {v : Int32} (hI : Iw k S) (hv : v &&& mk j = v) (hy : Yv k (sI S j v)) : Iw k (sI S j v) := ⟨iv_I hI.1 j hv, hI.2.1, hy⟩
theorem ctl_b : ∀ j, j < 32 → nI j = ((nI j &&& 3) ||| (((nI j >>> ((2 : Int32) &&& (31 : Int32))) &&& 3) <<< ((2 : Int32) &&& 31))) ||| (((nI j >>> ((4 : Int32) &&& (31 : Int32))) &&& 1) <<< ((4 : Int32) &&& 31)) := by decide +kernel
theorem phw_control {b : Int32} (hb : b &&& 31 = b) : sI (sI (ph false c sp cr gn S) 22 b) 19 (b &&& 3) = ph false c sp cr gn (sI (sI (sI S 1 (b &&& 3)) 4 ((b >>> ((2 : Int32) &&& (31 : Int32))) &&& 3)) 6 ((b >>> ((4 : Int32) &&& (31 : Int32))) &&& 1)) := by
  obtain ⟨j, hj, e⟩ := by_m (x := b) (m := 31) 5 (by decide) hb
  exact ph_ext (fun i => match i with
    | 0 => rfl
    | 1 => rfl
    | 2 => rfl
    | 3 => rfl
    | 4 => rfl
    | 5 => rfl
    | 6 => rfl
    | 7 => rfl
    | 8 => rfl
    | 9 => rfl
    | 10 => rfl
    | 11 => rfl
    | 12 => rfl
    | 13 => rfl
    | 14 => rfl
    | 15 => rfl
    | 16 => rfl
    | 17 => rfl
    | 18 => rfl
    | 19 => rfl
    | 20 => rfl
    | 21 => rfl
    | 22 => (by show b = _; rw [e]; exact ctl_b j hj)
    | 23 => rfl
    | 24 => rfl
    | 25 => rfl
    | 26 => rfl
    | 27 => rfl
    | 28 => rfl
    | 29 => rfl
    | 30 => rfl
    | 31 => rfl
    | 32 => rfl
    | 33 => rfl
    | n + 34 => rfl) (fun _ => rfl) (fun _ => rfl) (fun _ => rfl)
theorem ctl_12 : ∀ m, m < 4 → ∀ a, a < 4 → ∀ d, d < 2 → (((nI m) ||| ((nI a) <<< ((2 : Int32) &&& 31))) ||| ((nI d) <<< ((4 : Int32) &&& 31))) ||| 12 = ((nI m) ||| ((3 : Int32) <<< ((2 : Int32) &&& 31))) ||| ((nI d) <<< ((4 : Int32) &&& 31)) := by decide +kernel
theorem phw_ctl12 (hI : Iw false S) : sI (ph false c sp cr gn S) 22 ((phC false S) ||| 12) = ph false c sp cr gn (sI S 4 3) := by
  have h : (phC false S) ||| 12 = phC false (sI S 4 3) := by
    obtain ⟨m, hm, e1⟩ := by_m (x := S.1 1) (m := 3) 2 (by decide) (hI.1 1)
    obtain ⟨a, ha, e2⟩ := by_m (x := S.1 4) (m := 3) 2 (by decide) (hI.1 4)
    obtain ⟨d, hd, e3⟩ := by_m (x := S.1 6) (m := 1) 1 (by decide) (hI.1 6)
    have h := ctl_12 m hm a ha d hd
    rw [← e1, ← e2, ← e3] at h
    exact h
  exact ph_ext (fun i => match i with
    | 0 => rfl
    | 1 => rfl
    | 2 => rfl
    | 3 => rfl
    | 4 => rfl
    | 5 => rfl
    | 6 => rfl
    | 7 => rfl
    | 8 => rfl
    | 9 => rfl
    | 10 => rfl
    | 11 => rfl
    | 12 => rfl
    | 13 => rfl
    | 14 => rfl
    | 15 => rfl
    | 16 => rfl
    | 17 => rfl
    | 18 => rfl
    | 19 => rfl
    | 20 => rfl
    | 21 => rfl
    | 22 => h
    | 23 => rfl
    | 24 => rfl
    | 25 => rfl
    | 26 => rfl
    | 27 => rfl
    | 28 => rfl
    | 29 => rfl
    | 30 => rfl
    | 31 => rfl
    | 32 => rfl
    | 33 => rfl
    | n + 34 => rfl) (fun _ => rfl) (fun _ => rfl) (fun _ => rfl)
theorem sh_b : ∀ s, s < 32 → ∀ b, b < 2 → ∀ d, d < 5 → (nI s ||| ((nI b) <<< ((nI d) &&& (31 : Int32)))) &&& 31 = nI s ||| ((nI b) <<< ((nI d) &&& (31 : Int32))) := by decide +kernel
theorem cnt_of (hI : Iw k S) : ∃ d : Nat, d < 5 ∧ S.1 3 = nI d := by
  obtain ⟨d, hd, e⟩ := by_m (x := S.1 3) (m := 7) 3 (by decide) (hI.1 3)
  refine ⟨d, ?_, e⟩
  have h : S.1 3 ≤ 4 := hI.2.2.2.2.2.1
  rw [e] at h
  have := (nI_leI (a := d) (b := 4) (by omega) (by omega)).mp h
  omega
theorem h_writeOne (hI : Iv false S) (a v : Int32) (hv : v &&& 255 = v) : sp_X10_writeOne a v (ph false c sp cr gn S) = ((), ph false c sp cr gn (sp_X3_storeRegister a v S).2) ∧ Iv false (sp_X3_storeRegister a v S).2 := by
  have hW := iw_of hI
  obtain ⟨d, hd, ed⟩ := cnt_of hW
  obtain ⟨s, hs, es⟩ := by_m (x := S.1 2) (m := 31) 5 (by decide) (hW.1 2)
  obtain ⟨b, hb, eb⟩ := pk_andE v (m := 1) 1 (by decide)
  have hsh : (S.1 2 ||| ((v &&& 1) <<< ((S.1 3) &&& (31 : Int32)))) &&& 31 = S.1 2 ||| ((v &&& 1) <<< ((S.1 3) &&& (31 : Int32))) := by
    rw [ed, es, eb]; exact sh_b s hs b hb d hd
  unfold sp_X10_writeOne sp_X3_storeRegister
  simp only [gL, gB, phr_shift, phr_shifted, phw_shift, phw_shifted, phr_control]
  by_cases h7 : v &&& 128 = 0
  · rw [if_pos h7, if_pos h7]
    generalize hx : S.1 2 ||| ((v &&& 1) <<< ((S.1 3) &&& (31 : Int32))) = x at hsh ⊢
    have e3 : (sI S 2 x).1 3 = nI d := ed
    have e4 : (nI d : Int32) + 1 = nI (d + 1) := nI_1 d
    rw [e3, e4]
    have hW1 : Iw false (sI S 2 x) := iw_sI 2 hW hsh ⟨hW.2.2.1, hW.2.2.2.1, hW.2.2.2.2.1, hW.2.2.2.2.2.1, ⟨(fun h => by cases h), hW.2.2.2.2.2.2.2⟩⟩
    have c1 : (5 : Int32) ≤ (sI (sI S 2 x) 3 (nI (d + 1))).1 3 ↔ d = 4 := by
      show (5 : Int32) ≤ nI (d + 1) ↔ d = 4
      exact (by decide +kernel : ∀ d, d < 5 → ((5 : Int32) ≤ nI (d + 1) ↔ d = 4)) d hd
    have c2 : (sI (sI S 2 x) 3 (nI (d + 1))).1 3 = 5 ↔ d = 4 := by
      show nI (d + 1) = 5 ↔ d = 4
      exact (by decide +kernel : ∀ d, d < 5 → (nI (d + 1) = (5 : Int32) ↔ d = 4)) d hd
    simp only [c1, c2]
    by_cases h4 : d = 4
    · rw [if_pos h4, if_pos h4]
      have ex : (sI (sI S 2 x) 3 (nI (d + 1))).1 2 = x := rfl
      rw [ex]
      generalize hS2 : sI (sI S 2 x) 3 (nI (d + 1)) = S2
      have g1 : ∀ j, j ≠ 3 → S2.1 j &&& mk j = S2.1 j := by
        intro j hj
        rw [← hS2]
        show upd (sI S 2 x).1 3 _ j &&& mk j = upd (sI S 2 x).1 3 _ j
        rw [pk_un hj]; exact hW1.1 j
      have gA : ∀ q i, S2.2.2.2 q i &&& 255 = S2.2.2.2 q i := by rw [← hS2]; exact hW.2.1
      have gY : S2.1 21 ≤ 261 ∧ S2.1 22 ≤ 340 ∧ S2.1 25 ≤ (if (bI (S2.2.1 3)) = 0 then 29829 else 37281) ∧ S2.1 26 = (-1) := by rw [← hS2]; exact ⟨hW.2.2.1, hW.2.2.2.1, hW.2.2.2.2.1, hW.2.2.2.2.2.2.2⟩
      have fin : ∀ S3 : gSt, (∀ j, j ≠ 3 → S3.1 j &&& mk j = S3.1 j) → (∀ q i, S3.2.2.2 q i &&& 255 = S3.2.2.2 q i) → (S3.1 21 ≤ 261 ∧ S3.1 22 ≤ 340 ∧ S3.1 25 ≤ (if (bI (S3.2.1 3)) = 0 then 29829 else 37281) ∧ S3.1 26 = (-1)) → ((), ph false c sp cr gn (sI (sI S3 3 0) 2 0)) = ((), ph false c sp cr gn (sp_X3_mapChr (sp_X3_mapRom (sp_X3_forgetShifted S3).2).2).2) ∧ Iv false (sp_X3_mapChr (sp_X3_mapRom (sp_X3_forgetShifted S3).2).2).2 := by
        intro S3 q1 q2 q3
        have e0 : (sp_X3_forgetShifted S3).2 = sI (sI S3 3 0) 2 0 := (sI_comm S3 (by decide) 0 0)
        rw [e0]
        have hw3 : Iw false (sI (sI S3 3 0) 2 0) := by
          refine ⟨fun j => ?_, q2, q3.1, q3.2.1, q3.2.2.1, (by decide : (0 : Int32) ≤ 4), ⟨(fun h => by cases h), q3.2.2.2⟩⟩
          by_cases e2 : j = 2
          · subst e2; exact (by decide : (0 : Int32) &&& 31 = 0)
          · show upd (sI S3 3 0).1 2 0 j &&& mk j = upd (sI S3 3 0).1 2 0 j
            rw [pk_un e2]
            by_cases e3 : j = 3
            · subst e3; exact (by decide : (0 : Int32) &&& 7 = 0)
            · show upd S3.1 3 0 j &&& mk j = upd S3.1 3 0 j
              rw [pk_un e3]; exact q1 j e3
        obtain ⟨r1, r2, -⟩ := mp1 hw3
        exact ⟨by rw [r1], r2⟩
      have put1 : ∀ (j : Nat) (w : Int32), j ≠ 3 → w &&& mk j = w → ∀ S3 : gSt, (∀ j, j ≠ 3 → S3.1 j &&& mk j = S3.1 j) → ∀ i, i ≠ 3 → (sI S3 j w).1 i &&& mk i = (sI S3 j w).1 i := by
        intro j w hj hw S3 h i hi
        show upd S3.1 j w i &&& mk i = upd S3.1 j w i
        by_cases e : i = j
        · subst e; rw [pk_us, hw]
        · rw [pk_un e]; exact h i hi
      unfold sp_X3_setRegister
      simp only [gL]
      by_cases f0 : (a >>> ((13 : Int32) &&& (31 : Int32))) &&& 3 = 0
      · simp only [if_pos f0]
        have e5 : (sI (ph false c sp cr gn S2) 22 x).1 21 &&& 3 = x &&& 3 := by
          show S2.1 2 &&& 3 = x &&& 3
          rw [← hS2]; rfl
        rw [e5, phw_control hsh]
        simp only [phw_shifted, phw_shift]
        exact fin _ (put1 6 _ (by decide) (by rw [show mk 6 = 1 from rfl, Int32.and_assoc]; rfl) _ (put1 4 _ (by decide) (by rw [show mk 4 = 3 from rfl, Int32.and_assoc]; rfl) _ (put1 1 _ (by decide) (by rw [show mk 1 = 3 from rfl, Int32.and_assoc]; rfl) _ g1))) gA gY
      simp only [if_neg f0]
      by_cases f1 : (a >>> ((13 : Int32) &&& (31 : Int32))) &&& 3 = 1
      · simp only [if_pos f1, phw_first, phw_shifted, phw_shift]
        exact fin _ (put1 7 _ (by decide) hsh _ g1) gA gY
      simp only [if_neg f1]
      by_cases f2 : (a >>> ((13 : Int32) &&& (31 : Int32))) &&& 3 = 2
      · simp only [if_pos f2, phw_other, phw_shifted, phw_shift]
        exact fin _ (put1 8 _ (by decide) hsh _ g1) gA gY
      · simp only [if_neg f2, phw_bank, phw_shifted, phw_shift]
        exact fin _ (put1 5 _ (by decide) hsh _ g1) gA gY
    · rw [if_neg h4, if_neg h4]
      have hw2 : Iw false (sI (sI S 2 x) 3 (nI (d + 1))) := iw_sI 3 hW1 ((by decide +kernel : ∀ d, d < 5 → nI (d + 1) &&& 7 = nI (d + 1)) d hd) ⟨hW.2.2.1, hW.2.2.2.1, hW.2.2.2.2.1, (by decide +kernel : ∀ d, d < 4 → nI (d + 1) ≤ (4 : Int32)) d (by omega), ⟨(fun h => by cases h), hW.2.2.2.2.2.2.2⟩⟩
      obtain ⟨r1, r2, -⟩ := mp1 hw2
      exact ⟨by rw [r1], r2⟩
  · rw [if_neg h7, if_neg h7]
    have e0 : (sp_X3_forgetShifted S).2 = sI (sI S 3 0) 2 0 := (sI_comm S (by decide) 0 0)
    rw [e0]
    have hw3 : Iw false (sI (sI S 3 0) 2 0) := iw_sI 2 (iw_sI 3 hW (by decide) ⟨hW.2.2.1, hW.2.2.2.1, hW.2.2.2.2.1, (by decide : (0 : Int32) ≤ 4), ⟨(fun h => by cases h), hW.2.2.2.2.2.2.2⟩⟩) (by decide) ⟨hW.2.2.1, hW.2.2.2.1, hW.2.2.2.2.1, (by decide : (0 : Int32) ≤ 4), ⟨(fun h => by cases h), hW.2.2.2.2.2.2.2⟩⟩
    have hw4 : Iw false (sI (sI (sI S 3 0) 2 0) 4 3) := iw_sI 4 hw3 (by decide) hw3.2.2
    obtain ⟨r1, r2, -⟩ := mp1 hw4
    refine ⟨?_, r2⟩
    rw [r1, phw_ctl12 hw3]
end PH2
