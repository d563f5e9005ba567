section PB
/-- which bits a field of the class may have -/
def mk : Nat → Int32 := fun j => match j with
  | 0 => 65535 | 1 => 3 | 2 => 31 | 3 => 7 | 4 => 3 | 5 => 31 | 6 => 1 | 7 => 31 | 8 => 31 | 9 => 255 | 10 => 255 | 11 => 255 | 12 => 255 | 13 => 255 | 14 => 1 | 15 => 255 | 16 => 32767 | 17 => 32767 | 18 => 7 | 19 => 1 | 20 => 255 | 21 => 511 | 22 => 511 | 23 => 15 | 24 => 15 | 25 => 65535 | 27 => 255 | 28 => 255 | 29 => 255 | 30 => 255 | 31 => 255 | 32 => 65535
  | _ => -1
/-- the reference's bank of ROM at a slot, of the values that it looks at -/
def mP (k : Bool) (ctl bank sel r6 r7 a0 : Int32) : Int32 := (if (bI k) = 0 then (if 2 ≤ ((ctl >>> ((2 : Int32) &&& (31 : Int32))) &&& 3) then (if ((ctl >>> ((2 : Int32) &&& (31 : Int32))) &&& 3) = 2 then (if 2 ≤ a0 then (((2 * (bank &&& 3)) + a0) - 2) else a0) else (if 2 ≤ a0 then (4 + a0) else ((2 * (bank &&& 3)) + a0))) else ((4 * ((bank >>> ((1 : Int32) &&& (31 : Int32))) &&& 1)) + a0)) else (if (sel &&& 64) = 0 then (if a0 = 1 then (r7 &&& 7) else (if a0 = 3 then (7 &&& 7) else (if a0 = 0 then (r6 &&& 7) else (6 &&& 7)))) else (if a0 = 1 then (r7 &&& 7) else (if a0 = 3 then (7 &&& 7) else (if a0 = 0 then (6 &&& 7) else (r6 &&& 7))))))
def mC (k : Bool) (ctl f o sel : Int32) (r : Nat → Int32) (a0 : Int32) : Int32 := (if (bI k) = 0 then (if (ctl &&& 16) = 0 then a0 else (if 4 ≤ a0 then ((4 * (o &&& 1)) + (a0 &&& 3)) else ((4 * (f &&& 1)) + (a0 &&& 3)))) else (if (sel &&& 128) = 0 then (if 4 ≤ a0 then ((r (a0 - 2).toNatClampNeg) &&& 7) else ((((r (a0 / 2).toNatClampNeg) &&& 254) ||| (a0 &&& 1)) &&& 7)) else (if 4 ≤ (a0 ^^^ 4) then ((r ((a0 ^^^ 4) - 2).toNatClampNeg) &&& 7) else ((((r ((a0 ^^^ 4) / 2).toNatClampNeg) &&& 254) ||| ((a0 ^^^ 4) &&& 1)) &&& 7))))
def Bk (k : Bool) (S : gSt) : Prop := (∀ i : Nat, i < 4 → S.2.2.2 4 i = mP k (phC k S) (S.1 5) (S.1 9) (S.2.2.2 19 6) (S.2.2.2 19 7) (nI i)) ∧ ∀ i : Nat, i < 8 → S.2.2.2 5 i = mC k (phC k S) (S.1 7) (S.1 8) (S.1 9) (S.2.2.2 19) (nI i)
def Xv (k : Bool) (S : gSt) : Prop := S.1 21 ≤ 261 ∧ S.1 22 ≤ 340 ∧ S.1 25 ≤ (if (bI (S.2.1 3)) = 0 then 29829 else 37281) ∧ S.1 3 ≤ 4 ∧ ((k = true → S.1 2 = 0 ∧ S.1 3 = 0) ∧ S.1 26 = (-1)) ∧ Bk k S
def Iv (k : Bool) (S : gSt) : Prop := (∀ j, S.1 j &&& mk j = S.1 j) ∧ (∀ q i, S.2.2.2 q i &&& 255 = S.2.2.2 q i) ∧ Xv k S
theorem iv_I {S : gSt} (h : ∀ j, S.1 j &&& mk j = S.1 j) (j : Nat) {v : Int32} (hv : v &&& mk j = v) : ∀ i, (sI S j v).1 i &&& mk i = (sI S j v).1 i := by
  intro i
  show upd S.1 j v i &&& mk i = upd S.1 j v i
  by_cases e : i = j
  · subst e
    rw [pk_us, hv]
  · rw [pk_un e, h i]
theorem iv_A {S : gSt} (h : ∀ q i, S.2.2.2 q i &&& 255 = S.2.2.2 q i) (q : Nat) (i : Int32) {v : Int32} (hv : v &&& 255 = v) : ∀ q' i', (aP S q i v).2.2.2 q' i' &&& 255 = (aP S q i v).2.2.2 q' i' := by
  intro q' i'
  show va_up S.2.2.2 q (upd (S.2.2.2 q) i.toNatClampNeg v) q' i' &&& 255 = va_up S.2.2.2 q (upd (S.2.2.2 q) i.toNatClampNeg v) q' i'
  by_cases e : q' = q
  · subst e
    rw [va_up_self]
    by_cases e2 : i' = i.toNatClampNeg
    · subst e2
      rw [pk_us, hv]
    · rw [pk_un e2, h q' i']
  · rw [va_up_ne _ _ e, h q' i']
/-- a byte's, a word's: the number behind it -/
theorem by_of {x : Int32} (h : x &&& 255 = x) : ∃ j : Nat, j < 256 ∧ x = nI j := by
  obtain ⟨j, hj, e⟩ := pk_andE x (m := 255) 8 (by decide)
  exact ⟨j, hj, by rw [← h, e]⟩
theorem by_and (x : Int32) : (x &&& 255) &&& 255 = x &&& 255 := by rw [Int32.and_assoc]; rfl
variable {k : Bool} {c sp : Int32} {cr : Bool} {gn : Int64} {S : gSt}
theorem ip {α β : Type} {p : Prop} [Decidable p] (a b : α) (T : β) : (if p then (a, T) else (b, T)) = ((if p then a else b), T) := by split <;> rfl
theorem bit_half {h : Int32} (hh : h = 0 ∨ h = 1) (a : Int32) : 1024 * h + (a &&& 1023) = (h <<< ((10 : Int32) &&& (31 : Int32))) ||| (a &&& 1023) := by
  obtain ⟨j, hj, e⟩ := pk_andE a (m := 1023) 10 (by decide)
  rw [e]
  rcases hh with rfl | rfl
  · exact (by decide +kernel : ∀ j, j < 2 ^ 10 → 1024 * (0 : Int32) + nI j = ((0 : Int32) <<< ((10 : Int32) &&& (31 : Int32))) ||| nI j) j hj
  · exact (by decide +kernel : ∀ j, j < 2 ^ 10 → 1024 * (1 : Int32) + nI j = ((1 : Int32) <<< ((10 : Int32) &&& (31 : Int32))) ||| nI j) j hj
theorem c_nt2 (a : Int32) : (sp_X7_nameTablePlace k a S).2 = S := by
  unfold sp_X7_nameTablePlace
  split
  · rfl
  split
  · rfl
  split <;> rfl
theorem h_tablePlace (a : Int32) : sp_X10_tablePlace a (ph k c sp cr gn S) = ((sp_X7_nameTablePlace k a S).1, ph k c sp cr gn S) := by
  unfold sp_X10_tablePlace sp_X7_nameTablePlace
  simp only [phr_mirroring, bit_half (Or.inl rfl), bit_half (Or.inr rfl), bit_half (vi_b1 _)]
  split
  · rfl
  split
  · rfl
  split <;> rfl
theorem c_pal2 (a : Int32) : (sp_X7_palettePlace k a S).2 = S := by
  unfold sp_X7_palettePlace
  split <;> rfl
theorem h_palettePlace (a : Int32) (T : gSt) : sp_X10_palettePlace a T = ((sp_X7_palettePlace k a S).1, T) := by
  unfold sp_X10_palettePlace sp_X7_palettePlace
  obtain ⟨j, hj, e⟩ := pk_andE a (m := 31) 5 (by decide)
  rw [e]
  have h := (by decide +kernel : ∀ j, j < 2 ^ 5 → (if (nI j &&& 19) = 16 then nI j - 16 else nI j) = (if (nI j &&& 3) = 0 then nI j &&& 15 else nI j)) j hj
  by_cases h1 : (nI j &&& 19) = 16 <;> by_cases h2 : (nI j &&& 3) = 0 <;> simp only [h1, h2, if_true, if_false] at h ⊢ <;> exact congrArg (fun z => (z, T)) h
theorem h_chrBank (a : Int32) : sp_X10_chrBank a (ph k c sp cr gn S) = (mC k (phC k S) (S.1 7) (S.1 8) (S.1 9) (S.2.2.2 19) a, ph k c sp cr gn S) := by
  unfold sp_X10_chrBank mC
  simp only [phz_mmc3, phr_control, phr_other, phr_first, phr_select, pha_r, ip, aG, phA_r]
theorem cl6 : Int32.toNatClampNeg 6 = 6 := by decide
theorem cl7 : Int32.toNatClampNeg 7 = 7 := by decide
theorem h_prgBank (a : Int32) : sp_X10_prgBank a (ph k c sp cr gn S) = (mP k (phC k S) (S.1 5) (S.1 9) (S.2.2.2 19 6) (S.2.2.2 19 7) a, ph k c sp cr gn S) := by
  unfold sp_X10_prgBank mP
  simp only [phz_mmc3, phr_control, phr_bank, phr_select, pha_r, ip, aG, phA_r, cl6, cl7]
end PB
