section PC
variable {k : Bool} {c sp : Int32} {cr : Bool} {gn : Int64} {S : gSt}
theorem bit_chr : ∀ i, i < 8 → ∀ j, j < 16 → 16 * nI i + nI j = (((nI i) &&& 7) <<< ((4 : Int32) &&& (31 : Int32))) ||| nI j := by decide +kernel
theorem bit_rom : ∀ i, i < 8 → ∀ j, j < 64 → 64 * nI i + nI j = (((nI i) &&& 7) <<< ((6 : Int32) &&& (31 : Int32))) ||| nI j := by decide +kernel
/-- a bank's number is below 8 -/
theorem by_7 {x : Int32} (h : x &&& 7 = x) : ∃ j : Nat, j < 8 ∧ x = nI j := by
  obtain ⟨j, hj, e⟩ := pk_andE x (m := 7) 3 (by decide)
  exact ⟨j, hj, by rw [← h, e]⟩
theorem mP7 : ∀ (ctl bank : Int32), ∀ i : Nat, i < 4 → mP false ctl bank 0 0 0 (nI i) &&& 7 = mP false ctl bank 0 0 0 (nI i) := by
  intro ctl bank i hi
  unfold mP
  obtain ⟨a, ha, e1⟩ := pk_andE (ctl >>> ((2 : Int32) &&& (31 : Int32))) (m := 3) 2 (by decide)
  obtain ⟨b, hb, e2⟩ := pk_andE bank (m := 3) 2 (by decide)
  obtain ⟨d, hd, e3⟩ := pk_andE (bank >>> ((1 : Int32) &&& (31 : Int32))) (m := 1) 1 (by decide)
  rw [e1, e2, e3]
  exact (by decide +kernel : ∀ i, i < 4 → ∀ a, a < 2 ^ 2 → ∀ b, b < 2 ^ 2 → ∀ d, d < 2 ^ 1 → (if (bI false) = 0 then (if 2 ≤ nI a then (if nI a = 2 then (if 2 ≤ nI i then (((2 * nI b) + nI i) - 2) else nI i) else (if 2 ≤ nI i then (4 + nI i) else ((2 * nI b) + nI i))) else ((4 * nI d) + nI i)) else (if ((0 : Int32) &&& 64) = 0 then (if nI i = 1 then ((0 : Int32) &&& 7) else (if nI i = 3 then (7 &&& 7) else (if nI i = 0 then ((0 : Int32) &&& 7) else (6 &&& 7)))) else (if nI i = 1 then ((0 : Int32) &&& 7) else (if nI i = 3 then (7 &&& 7) else (if nI i = 0 then (6 &&& 7) else ((0 : Int32) &&& 7)))))) &&& 7 = (if (bI false) = 0 then (if 2 ≤ nI a then (if nI a = 2 then (if 2 ≤ nI i then (((2 * nI b) + nI i) - 2) else nI i) else (if 2 ≤ nI i then (4 + nI i) else ((2 * nI b) + nI i))) else ((4 * nI d) + nI i)) else (if ((0 : Int32) &&& 64) = 0 then (if nI i = 1 then ((0 : Int32) &&& 7) else (if nI i = 3 then (7 &&& 7) else (if nI i = 0 then ((0 : Int32) &&& 7) else (6 &&& 7)))) else (if nI i = 1 then ((0 : Int32) &&& 7) else (if nI i = 3 then (7 &&& 7) else (if nI i = 0 then (6 &&& 7) else ((0 : Int32) &&& 7))))))) i hi a ha b hb d hd
theorem and77 (x : Int32) : (x &&& 7) &&& 7 = x &&& 7 := by rw [Int32.and_assoc]; rfl
theorem mP_lt (k : Bool) (ctl bank sel r6 r7 : Int32) (i : Nat) (hi : i < 4) : mP k ctl bank sel r6 r7 (nI i) &&& 7 = mP k ctl bank sel r6 r7 (nI i) := by
  cases k
  · have h : mP false ctl bank sel r6 r7 (nI i) = mP false ctl bank 0 0 0 (nI i) := rfl
    rw [h]
    exact mP7 ctl bank i hi
  · unfold mP
    rw [if_neg (by decide : ¬ bI true = 0)]
    repeat' split
    all_goals first | exact and77 _ | rfl
theorem mC_lt (k : Bool) (ctl f o sel : Int32) (r : Nat → Int32) (i : Nat) (hi : i < 8) : mC k ctl f o sel r (nI i) &&& 7 = mC k ctl f o sel r (nI i) := by
  unfold mC
  cases k
  · rw [if_pos (by decide : bI false = 0)]
    obtain ⟨a, ha, e1⟩ := pk_andE f (m := 1) 1 (by decide)
    obtain ⟨b, hb, e2⟩ := pk_andE o (m := 1) 1 (by decide)
    rw [e1, e2]
    have h := (by decide +kernel : ∀ i, i < 8 → ∀ a, a < 2 ^ 1 → nI i &&& 7 = nI i ∧ (4 * nI a + (nI i &&& 3)) &&& 7 = 4 * nI a + (nI i &&& 3)) i hi
    split
    · exact (h a ha).1
    split
    · exact (h b hb).2
    · exact (h a ha).2
  · rw [if_neg (by decide : ¬ bI true = 0)]
    repeat' split
    all_goals exact and77 _
theorem c_byteAt2 (a : Int32) : (sp_X7_byteAt k a S).2 = S := by
  unfold sp_X7_byteAt sp_X1_chrByte
  split
  · split
    · simp only [gB, c_pal2]
    · simp only [gB, c_nt2]
  · rfl
/-- 14 bits, below 8192: its upper three bits -/
theorem at_13 (a : Int32) (h : ¬ 8192 ≤ (a &&& 16383)) : ∃ i : Nat, i < 8 ∧ (a &&& 16383) >>> ((10 : Int32) &&& (31 : Int32)) = nI i ∧ ((a &&& 16383) >>> ((10 : Int32) &&& (31 : Int32))) &&& 7 = nI i := by
  obtain ⟨j, hj, e⟩ := pk_andE a (m := 16383) 14 (by decide)
  rw [e] at h ⊢
  have hj2 : j < 8192 := by
    rcases Nat.lt_or_ge j 8192 with q | q
    · exact q
    · exact absurd (show (8192 : Int32) ≤ nI j from nI_le (a := 8192) q (by omega)) h
  have e2 : nI j >>> ((10 : Int32) &&& (31 : Int32)) = nI (j / 2 ^ 10) := pk_shrN (by omega) _ 10 (by decide)
  refine ⟨j / 2 ^ 10, by omega, e2, ?_⟩
  rw [e2]
  exact (by decide +kernel : ∀ i, i < 8 → nI i &&& 7 = nI i) _ (by omega)
theorem h_seen (hI : Iv k S) (a : Int32) : sp_X10_seen a (ph k c sp cr gn S) = ((sp_X7_byteAt k (a &&& 16383) S).1, ph k c sp cr gn S) := by
  unfold sp_X10_seen sp_X7_byteAt
  simp only [h_palettePlace (k := k) (S := S), h_tablePlace, gB, c_pal2, c_nt2, pha_palette, pha_tables, h_chrBank, pha_patterns]
  split
  · split <;> rfl
  · rename_i h
    obtain ⟨i, hi, e1, e2⟩ := at_13 a h
    unfold sp_X1_chrByte
    rw [e2, e1]
    have hb : aG S 5 (nI i) = mC k (phC k S) (S.1 7) (S.1 8) (S.1 9) (S.2.2.2 19) (nI i) := by
      unfold aG
      rw [nI_clamp (by omega)]
      exact hI.2.2.2.2.2.2.2.2 i hi
    rw [hb]
    obtain ⟨r, hr, e3⟩ := by_7 (mC_lt k (phC k S) (S.1 7) (S.1 8) (S.1 9) (S.2.2.2 19) i hi)
    rw [e3]
    obtain ⟨q, hq, e4⟩ := pk_andE (a &&& 16383) (m := 15) 4 (by decide)
    rw [e4, bit_chr r hr q hq]
theorem h_keep (a v : Int32) : sp_X10_keep a v (ph k c sp cr gn S) = ((), ph k c sp cr gn (sp_X7_storeByte k (a &&& 16383) v S).2) := by
  unfold sp_X10_keep sp_X7_storeByte
  simp only [h_palettePlace (k := k) (S := S), h_tablePlace, gB, gL, c_pal2, c_nt2, phs_palette, phs_tables]
  split
  · split <;> rfl
  · rfl
theorem h_goOn : sp_X10_goOn (ph k c sp cr gn S) = ((), ph k c sp cr gn (sp_X7_growV k S).2) := by
  unfold sp_X10_goOn sp_X7_growV
  simp only [phr_ctrl, phr_vram, gL, phw_vram]
  split <;> rfl
theorem iv_b (hI : Iv k S) (j : Nat) {m : Int32} (hm : mk j = m) : S.1 j &&& m = S.1 j := hm ▸ hI.1 j
theorem h_readPicture (hI : Iv k S) (a : Int32) : sp_X10_readPicture a (ph k c sp cr gn S) = ((sp_X7_load k a S).1, ph k c sp cr gn (sp_X7_load k a S).2) := by
  unfold sp_X10_readPicture sp_X7_load
  simp only [h_seen hI, h_goOn, h_tablePlace, gB, gL, c_byteAt2, c_nt2, phr_vblank, phw_vblank, phw_second, phr_oamAddress, pha_sprites, phr_vram, phr_buffer, phw_buffer, pha_tables, iv_b hI 15 (m := 255) rfl]
  split
  · rfl
  split
  · rfl
  split
  · split <;> rfl
  · rfl
end PC
