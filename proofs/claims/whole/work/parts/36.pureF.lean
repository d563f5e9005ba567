section PF
variable {k : Bool} {c sp : Int32} {cr : Bool} {gn : Int64} {S : gSt}
theorem sh13 (j : Nat) (hj : j < 65536) : ∃ i : Nat, i < 4 ∧ ((nI j) >>> ((13 : Int32) &&& (31 : Int32))) &&& 3 = nI i := by
  obtain ⟨i, hi, e⟩ := pk_andE ((nI j) >>> ((13 : Int32) &&& (31 : Int32))) (m := 3) 2 (by decide)
  exact ⟨i, hi, e⟩
theorem iv_bkP (hI : Iv k S) {i : Nat} (hi : i < 4) : aG S 4 (nI i) = mP k (phC k S) (S.1 5) (S.1 9) (S.2.2.2 19 6) (S.2.2.2 19 7) (nI i) := by
  unfold aG
  rw [nI_clamp (by omega)]
  exact hI.2.2.2.2.2.2.2.1 i hi
theorem h_rom (hI : Iv k S) (a : Int32) : (aG S 2 ((64 * mP k (phC k S) (S.1 5) (S.1 9) (S.2.2.2 19 6) (S.2.2.2 19 7) ((a >>> ((13 : Int32) &&& (31 : Int32))) &&& 3)) + (a &&& 63))) = (sp_X1_romByte k a S).1 := by
  unfold sp_X1_romByte
  obtain ⟨i, hi, e⟩ := pk_andE (a >>> ((13 : Int32) &&& (31 : Int32))) (m := 3) 2 (by decide)
  rw [e, iv_bkP hI hi]
  obtain ⟨r, hr, e3⟩ := by_7 (mP_lt k (phC k S) (S.1 5) (S.1 9) (S.2.2.2 19 6) (S.2.2.2 19 7) i hi)
  obtain ⟨q, hq, e4⟩ := pk_andE a (m := 63) 6 (by decide)
  rw [e3, e4, bit_rom r hr q hq]
theorem c_rom2 (a : Int32) : (sp_X1_romByte k a S).2 = S := rfl
theorem nI_c (m : Nat) : Int32.ofNat m = nI m := rfl
theorem h_get (hI : Iv k S) (j : Nat) (hj : j < 65536) : sp_X10_get (nI j) (ph k c sp cr gn S) = ((sp_X0_load k (nI j) S).1, ph k c sp cr gn (sp_X0_load k (nI j) S).2) := by
  have c1 : (8192 : Int32) ≤ nI j ↔ 8192 ≤ j := nI_leI (a := 8192) (by omega) (by omega)
  have c2 : (16384 : Int32) ≤ nI j ↔ 16384 ≤ j := nI_leI (a := 16384) (by omega) (by omega)
  have c3 : (16408 : Int32) ≤ nI j ↔ 16408 ≤ j := nI_leI (a := 16408) (by omega) (by omega)
  have c4 : nI j < (32768 : Int32) ↔ j < 32768 := nI_ltI (b := 32768) (by omega) (by omega)
  have c5 : nI j < (24576 : Int32) ↔ j < 24576 := nI_ltI (b := 24576) (by omega) (by omega)
  have c6 : (24576 : Int32) ≤ nI j ↔ 24576 ≤ j := nI_leI (a := 24576) (by omega) (by omega)
  have c7 : (32768 : Int32) ≤ nI j ↔ 32768 ≤ j := nI_leI (a := 32768) (by omega) (by omega)
  have c8 : nI j = (16405 : Int32) ↔ j = 16405 := nI_eq (b := 16405) (by omega) (by omega)
  have c9 : nI j = (16406 : Int32) ↔ j = 16406 := nI_eq (b := 16406) (by omega) (by omega)
  have c10 : nI j = (16407 : Int32) ↔ j = 16407 := nI_eq (b := 16407) (by omega) (by omega)
  unfold sp_X10_get sp_X0_load
  simp only [c1, c2, c3, c4, c5, c6, c7, h_prgBank, h_readPicture hI, gB, pha_ram, pha_own, pha_prg, h_rom hI]
  by_cases d1 : 8192 ≤ j
  · by_cases d2 : 16384 ≤ j
    · by_cases d3 : 16408 ≤ j
      · by_cases d4 : j < 32768
        · by_cases d5 : j < 24576
          · unfold sp_X0_loadInput
            simp only [c8, c9, c10, if_pos d1, if_pos d2, if_pos d3, if_pos d4, if_pos d5, if_neg (show ¬ 24576 ≤ j by omega), if_neg (show ¬ j = 16405 by omega), if_neg (show ¬ j = 16406 by omega), if_neg (show ¬ j = 16407 by omega)]
          · simp only [if_pos d1, if_pos d2, if_pos d3, if_pos d4, if_neg d5, if_pos (show 24576 ≤ j by omega), if_neg (show ¬ 32768 ≤ j by omega)]
        · simp only [if_pos d1, if_pos d2, if_pos d3, if_neg d4, if_pos (show 24576 ≤ j by omega), if_pos (show 32768 ≤ j by omega), c_rom2]
      · have e0 : nI j - 16384 = nI (j - 16384) := pk_sub (b := 16384) d2
        unfold sp_X0_loadInput
        simp only [c8, c9, c10, if_pos d1, if_pos d2, if_neg d3, if_neg (show ¬ 24576 ≤ j by omega), e0]
        by_cases f1 : j = 16405
        · subst f1
          simp only [if_true, gB]
          unfold sp_X10_readSound
          rw [if_pos (show nI (16405 - 16384) = 21 from rfl)]
          simp only [phr_frameLine]
          rw [h_status]
        by_cases f2 : j = 16406
        · subst f2
          simp only [if_neg f1, if_true, gB]
          rw [show nI (16406 - 16384) = 22 from rfl, h_pad0]
        by_cases f3 : j = 16407
        · subst f3
          simp only [if_neg f1, if_neg f2, if_true, gB]
          rw [show nI (16407 - 16384) = 23 from rfl, h_pad1]
        · simp only [if_neg f1, if_neg f2, if_neg f3]
          unfold sp_X10_readSound
          rw [if_neg (fun h => f1 (by have := (nI_eq (a := j - 16384) (b := 21) (by omega) (by omega)).mp h; omega)), if_neg (fun h => by have := (nI_leI (a := 22) (b := j - 16384) (by omega) (by omega)).mp h; omega)]
    · simp only [if_pos d1, if_neg d2]
  · simp only [if_neg d1]
end PF
