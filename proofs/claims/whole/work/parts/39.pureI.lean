section PI
variable {k : Bool} {c sp : Int32} {cr : Bool} {gn : Int64} {S : gSt}
theorem phw_mir3 (v : Int32) : sI (ph true c sp cr gn S) 19 v = ph true c sp cr gn (sI S 1 v) := ph_ext (fun i => match i with
    | 0 => rfl
    | 1 => rfl
    | 2 => rfl
    | 3 => rfl
    | 4 => rfl
    | 5 => rfl
    | 6 => rfl
    | 7 => rfl
    | 8 => rfl
    | 9 => rfl
    | 10 => rfl
    | 11 => rfl
    | 12 => rfl
    | 13 => rfl
    | 14 => rfl
    | 15 => rfl
    | 16 => rfl
    | 17 => rfl
    | 18 => rfl
    | 19 => rfl
    | 20 => rfl
    | 21 => rfl
    | 22 => rfl
    | 23 => rfl
    | 24 => rfl
    | 25 => rfl
    | 26 => rfl
    | 27 => rfl
    | 28 => rfl
    | 29 => rfl
    | 30 => rfl
    | 31 => rfl
    | 32 => rfl
    | 33 => rfl
    | n + 34 => rfl) (fun _ => rfl) (fun _ => rfl) (fun _ => rfl)
theorem bit_sel (a : Int32) : (a >>> ((12 : Int32) &&& (31 : Int32))) &&& 6 = ((a >>> ((13 : Int32) &&& (31 : Int32))) &&& 3) <<< ((1 : Int32) &&& (31 : Int32)) := by
  apply b_ext
  intro i hi
  have h1 : bt ((a >>> ((12 : Int32) &&& (31 : Int32))) &&& 6) i = ((if 12 + i < 32 then bt a (12 + i) else bt a 31) && bt 6 i) := by
    rw [b_and]; exact congrArg (· && bt 6 i) (b_sshr 12 (by omega) a hi)
  have h2 : bt (((a >>> ((13 : Int32) &&& (31 : Int32))) &&& 3) <<< ((1 : Int32) &&& (31 : Int32))) i = (decide (1 ≤ i) && bt ((a >>> ((13 : Int32) &&& (31 : Int32))) &&& 3) (i - 1)) := b_shl 1 (by omega) _ hi
  have h3 : bt ((a >>> ((13 : Int32) &&& (31 : Int32))) &&& 3) (i - 1) = ((if 13 + (i - 1) < 32 then bt a (13 + (i - 1)) else bt a 31) && bt 3 (i - 1)) := by
    rw [b_and]; exact congrArg (· && bt 3 (i - 1)) (b_sshr 13 (by omega) a (by omega))
  rw [h1, h2, h3]
  rcases (show i = 0 ∨ i = 1 ∨ i = 2 ∨ 3 ≤ i by omega) with rfl | rfl | rfl | h
  · rw [show bt 6 0 = false from by decide, Bool.and_false]; rfl
  · rw [show bt 6 1 = true from by decide, show bt 3 (1 - 1) = true from by decide]
    rw [if_pos (by omega)]; simp
  · rw [show bt 6 2 = true from by decide, show bt 3 (2 - 1) = true from by decide]
    rw [if_pos (by omega)]; simp
  · rw [(by decide : ∀ i, i < 32 → 3 ≤ i → bt 6 i = false) i hi h, (by decide : ∀ i, i < 32 → 3 ≤ i → bt 3 (i - 1) = false) i hi h]
    simp
theorem sel_n : ∀ x, x < 4 → ∀ y, y < 2 → ((nI x) <<< ((1 : Int32) &&& (31 : Int32))) ||| nI y = nI (2 * x + y) := by decide +kernel
theorem iw_sZ (j : Nat) (b : Bool) (hI : Iw k S) (hy : Yv k (sZ S j b)) : Iw k (sZ S j b) := ⟨hI.1, hI.2.1, hy⟩
theorem iw_aP (q : Nat) (i : Int32) {v : Int32} (hI : Iw k S) (hv : v &&& 255 = v) : Iw k (aP S q i v) := ⟨hI.1, iv_A hI.2.1 q i hv, hI.2.2⟩
theorem mir_2 (v : Int32) : 2 + (v &&& 1) = 2 ||| (v &&& 1) ∧ (2 ||| (v &&& 1)) &&& 3 = 2 ||| (v &&& 1) := by
  rcases vi_b1 v with h | h <;> rw [h] <;> decide
theorem h_writeThree (hI : Iv true S) (a v : Int32) (hv : v &&& 255 = v) : sp_X10_writeThree a v (ph true c sp cr gn S) = ((), ph true c sp cr gn (sp_X4_storeRegister a v S).2) ∧ Iv true (sp_X4_storeRegister a v S).2 := by
  have hW := iw_of hI
  obtain ⟨x, hx, ex⟩ := pk_andE (a >>> ((13 : Int32) &&& (31 : Int32))) (m := 3) 2 (by decide)
  obtain ⟨y, hy, ey⟩ := pk_andE a (m := 1) 1 (by decide)
  have fin : ∀ S3 : gSt, Iw true S3 → ((), ph true c sp cr gn S3) = ((), ph true c sp cr gn (sp_X4_mapChr (sp_X4_mapRom S3).2).2) ∧ Iv true (sp_X4_mapChr (sp_X4_mapRom S3).2).2 := by
    intro S3 h
    obtain ⟨r1, r2, -⟩ := mp3 h
    exact ⟨by rw [r1], r2⟩
  unfold sp_X10_writeThree sp_X4_storeRegister
  rw [bit_sel, ex, ey, sel_n x hx y hy]
  simp only [gL, gB, phr_select, phs_r, phw_counter, phx_counts, phw_select, phw_mir3, phw_latch, phw_cartridgeLine0, (mir_2 v).1]
  rcases (show x = 0 ∨ x = 1 ∨ x = 2 ∨ x = 3 by omega) with rfl | rfl | rfl | rfl <;> rcases (show y = 0 ∨ y = 1 by omega) with rfl | rfl
  · exact fin _ (iw_sI 9 hW hv hW.2.2)
  · exact fin _ (iw_aP 19 _ hW hv)
  · exact fin _ (iw_sI 1 hW (mir_2 v).2 hW.2.2)
  · exact fin _ hW
  · exact fin _ (iw_sI 10 hW hv hW.2.2)
  · exact fin _ (iw_sI 11 hW (by decide) hW.2.2)
  · exact fin _ (iw_sZ 0 _ (iw_sZ 1 _ hW hW.2.2) hW.2.2)
  · exact fin _ (iw_sZ 1 _ hW hW.2.2)
end PI
