section PZj
/-- which bits an int of the reference may have (what its indexes need) -/
def wm : Nat → Int32 := fun j => match j with
  | 1 => 255 | 2 => 255 | 3 => 255 | 4 => 255 | 5 => 255 | 6 => 65535 | 10 => 1 | 11 => 255 | 16 => 255 | 31 => 1
  | _ => -1
def wa : Nat → Int32 := fun q => match q with
  | 1 => 255 | 2 => 255 | 3 => 255 | 4 => 255 | 5 => 255 | 6 => 255 | 7 => 255
  | _ => -1
def Wv (S : gSt) : Prop := (∀ j, S.1 j &&& wm j = S.1 j) ∧ ∀ q i, S.2.2.2 q i &&& wa q = S.2.2.2 q i
theorem w_I {S : gSt} {j : Nat} {v : Int32} (h : Wv S) (hv : v &&& wm j = v) : Wv (sI S j v) := by
  refine ⟨fun i => ?_, h.2⟩
  by_cases e : i = j
  · subst e
    rw [show (sI S i v).1 i = v from by simp [sI, upd]]
    exact hv
  · rw [show (sI S j v).1 i = S.1 i from by simp [sI, upd, e]]
    exact h.1 i
theorem w_Z {S : gSt} {j : Nat} {b : Bool} (h : Wv S) : Wv (sZ S j b) := h
theorem w_J {S : gSt} {j : Nat} {v : Int64} (h : Wv S) : Wv (sJ S j v) := h
theorem w_A {S : gSt} {q : Nat} {i v : Int32} (h : Wv S) (hv : v &&& wa q = v) : Wv (aP S q i v) := by
  refine ⟨h.1, fun p m => ?_⟩
  by_cases e : p = q
  · subst e
    by_cases e2 : m = i.toNatClampNeg
    · rw [show (aP S p i v).2.2.2 p m = v from by simp [aP, va_up, upd, e2]]
      exact hv
    · rw [show (aP S p i v).2.2.2 p m = S.2.2.2 p m from by simp [aP, va_up, upd, e2]]
      exact h.2 p m
  · rw [show (aP S q i v).2.2.2 p m = S.2.2.2 p m from by simp [aP, va_up, e]]
    exact h.2 p m
theorem w_b {S : gSt} {j : Nat} (h : Wv S) (hj : wm j = 255) : S.1 j &&& 255 = S.1 j := hj ▸ h.1 j
theorem w_w {S : gSt} {j : Nat} (h : Wv S) (hj : wm j = 65535) : S.1 j &&& 65535 = S.1 j := hj ▸ h.1 j
theorem w_one {S : gSt} {j : Nat} (h : Wv S) (hj : wm j = 1) : S.1 j &&& 1 = S.1 j := hj ▸ h.1 j
theorem w_g {S : gSt} {q : Nat} {i : Int32} (h : Wv S) (hq : wa q = 255) : aG S q i &&& 255 = aG S q i := hq ▸ h.2 q i.toNatClampNeg
theorem by_or {x y m : Int32} (hx : x &&& m = x) (hy : y &&& m = y) : (x ||| y) &&& m = x ||| y := by rw [and_or, hx, hy]
theorem by_ar {x y m : Int32} (hy : y &&& m = y) : (x &&& y) &&& m = x &&& y := by rw [Int32.and_assoc, hy]
theorem and_xor (x y m : Int32) : (x ^^^ y) &&& m = (x &&& m) ^^^ (y &&& m) := by
  apply b_ext
  intro i _
  simp only [b_and, b_xor]
  cases bt x i <;> cases bt y i <;> cases bt m i <;> rfl
theorem by_xor {x y : Int32} (hx : x &&& 255 = x) (hy : y &&& 255 = y) : (x ^^^ y) &&& 255 = x ^^^ y := by rw [and_xor, hx, hy]
theorem by_shr1 {x : Int32} (hx : x &&& 255 = x) : (x >>> ((1 : Int32) &&& (31 : Int32))) &&& 255 = x >>> ((1 : Int32) &&& (31 : Int32)) := by
  obtain ⟨a, ha, rfl⟩ := by_of hx
  rw [pk_shrN (by omega) _ 1 (by decide)]
  exact mk_n 8 (by decide) (by omega) (by omega)
theorem by_shl7 {x : Int32} : ((x &&& 1) <<< ((7 : Int32) &&& (31 : Int32))) &&& 255 = (x &&& 1) <<< ((7 : Int32) &&& (31 : Int32)) := by
  obtain ⟨a, ha, e⟩ := pk_andE x (m := 1) 1 (by decide)
  rw [e, pk_shlN _ 7 (by decide) (by omega)]
  exact mk_n 8 (by decide) (by omega) (by omega)
theorem by_s7 {x : Int32} (h : x &&& 1 = x) : (x <<< ((7 : Int32) &&& (31 : Int32))) &&& 255 = x <<< ((7 : Int32) &&& (31 : Int32)) := by
  rw [← h]
  exact by_shl7
theorem by_s6 {x : Int32} (h : x &&& 1 = x) : (x <<< ((6 : Int32) &&& (31 : Int32))) &&& 255 = x <<< ((6 : Int32) &&& (31 : Int32)) := by
  obtain ⟨a, ha, e⟩ := pk_andE x (m := 1) 1 (by decide)
  rw [← h, e, pk_shlN _ 6 (by decide) (by omega)]
  exact mk_n 8 (by decide) (by omega) (by omega)
theorem by_w8 {x : Int32} (hx : x &&& 255 = x) : (x <<< ((8 : Int32) &&& (31 : Int32))) &&& 65535 = x <<< ((8 : Int32) &&& (31 : Int32)) := by
  obtain ⟨a, ha, rfl⟩ := by_of hx
  rw [pk_shlN _ 8 (by decide) (by omega)]
  exact mk_n 16 (by decide) (by omega) (by omega)
theorem by_wd {x : Int32} (hx : x &&& 255 = x) : x &&& 65535 = x := by
  obtain ⟨a, ha, rfl⟩ := by_of hx
  exact mk_n 16 (by decide) (by omega) (by omega)
theorem by_hi {x : Int32} (hx : x &&& 65535 = x) : (x >>> ((8 : Int32) &&& (31 : Int32))) &&& 255 = x >>> ((8 : Int32) &&& (31 : Int32)) := by
  obtain ⟨a, ha, rfl⟩ := by_m (m := 65535) 16 (by decide) hx
  rw [pk_shrN (by omega) _ 8 (by decide)]
  exact mk_n 8 (by decide) (by omega) (by omega)
theorem by_one {j : Nat} (hj : j < 4) : ((1 : Int32) <<< (nI j &&& (31 : Int32))) &&& 255 = (1 : Int32) <<< (nI j &&& (31 : Int32)) := (by decide +kernel : ∀ j, j < 4 → ((1 : Int32) <<< (nI j &&& (31 : Int32))) &&& 255 = (1 : Int32) <<< (nI j &&& (31 : Int32))) j hj
theorem in_b {x : Int32} (h : x &&& 255 = x) : vp_in x 256 := by
  rw [← h]
  exact pk_andIn x 8 (by decide) (by omega)
theorem in_n {a n : Nat} (h : a < n) (hn : n < 2 ^ 31) : vp_in (nI a) n := by
  unfold vp_in
  exact nI_in h hn
theorem in_s {x : Int32} (h : x &&& 255 = x) : vp_in (256 + x) 2048 := by
  obtain ⟨a, ha, rfl⟩ := by_of h
  rw [show (256 : Int32) + nI a = nI (256 + a) from nI_add 256 a]
  exact in_n (by omega) (by omega)
theorem in_b2 {x : Int32} (h : x &&& 255 = x) : vp_in x 2048 := by
  obtain ⟨a, ha, rfl⟩ := by_of h
  exact in_n (by omega) (by omega)
/-- the indexes hold, what is left is of the kind, and so is the answer -/
def OW {α : Type} (a : Prop) (R : α × gSt) (Q : α → Prop) : Prop := a ∧ Wv R.2 ∧ Q R.1
theorem ow_if {α : Type} {c : Prop} [Decidable c] {a b : Prop} {X Y : α × gSt} {Q : α → Prop} (h1 : c → OW a X Q) (h2 : ¬ c → OW b Y Q) : OW ((c → a) ∧ (¬ c → b)) (if c then X else Y) Q := by
  by_cases h : c
  · rw [if_pos h]
    exact ⟨⟨fun _ => (h1 h).1, fun n => absurd h n⟩, (h1 h).2⟩
  · rw [if_neg h]
    exact ⟨⟨fun n => absurd n h, fun _ => (h2 h).1⟩, (h2 h).2⟩
theorem ow_L {α : Type} {e : gSt} {A : gSt → Prop} {f : gSt → α × gSt} {Q : α → Prop} (he : Wv e) (h : ∀ T, T = e → Wv T → OW (A T) (f T) Q) : OW (∀ T, T = e → A T) (gL e f) Q := ⟨fun T hT => (h T hT (hT ▸ he)).1, (h e rfl he).2⟩
theorem ow_B {α β : Type} {R : β × gSt} {ok : Prop} {A : β → gSt → Prop} {f : β → gSt → α × gSt} {P : β → Prop} {Q : α → Prop} (hR : OW ok R P) (h : ∀ r T, P r → Wv T → OW (A r T) (f r T) Q) : OW (ok ∧ ∀ (r : β) (T : gSt), r = R.1 → T = R.2 → A r T) (gB R f) Q := ⟨⟨hR.1, fun r T h1 h2 => (h r T (h1 ▸ hR.2.2) (h2 ▸ hR.2.1)).1⟩, (h _ _ hR.2.2 hR.2.1).2⟩
theorem ow_i {α : Type} {i : Int32} {n : Nat} {a : Prop} {X : α × gSt} {Q : α → Prop} (hi : vp_in i n) (h : OW a X Q) : OW (vp_in i n ∧ a) X Q := ⟨⟨hi, h.1⟩, h.2⟩
theorem ow_r {α : Type} {r : α} {S : gSt} {Q : α → Prop} (hS : Wv S) (hr : Q r) : OW True (r, S) Q := ⟨trivial, hS, hr⟩
theorem ow_w {α : Type} {a : Prop} {R : α × gSt} {P Q : α → Prop} (h : OW a R P) (hq : ∀ r, P r → Q r) : OW a R Q := ⟨h.1, h.2.1, hq _ h.2.2⟩


theorem p4_of (x : Int32) : ∃ i : Nat, i < 4 ∧ x &&& 3 = nI i := pk_andE x 2 (by decide)
theorem c8_of {a : Int32} (h : ¬ 8192 ≤ (a &&& 16383)) : ∃ i : Nat, i < 8 ∧ (a &&& 16383) >>> ((10 : Int32) &&& (31 : Int32)) = nI i := by
  obtain ⟨i, hi, e, _⟩ := at_13 a h
  exact ⟨i, hi, e⟩
theorem r24_of {a : Int32} (h1 : 16384 ≤ a) (h2 : ¬ 16408 ≤ a) : ∃ r : Nat, r < 24 ∧ a - 16384 = nI r := by
  have h0 : ¬ a < 0 := fun z => absurd (Int32.lt_of_le_of_lt h1 z) (by decide)
  obtain ⟨j, hj, rfl⟩ := nI_of h0
  have g1 : 16384 ≤ j := Nat.not_lt.mp (fun z => nI_ge (b := 16384) z (by omega) h1)
  have g2 : j < 16408 := Nat.not_le.mp (fun z => h2 (nI_le (a := 16408) z hj))
  exact ⟨j - 16384, by omega, nI_sub (b := 16384) g1⟩
theorem in4_of {a : Int32} (h : ∃ r : Nat, r < 24 ∧ a = nI r) (h2 : ¬ 16 ≤ a) : vp_in (a >>> ((2 : Int32) &&& (31 : Int32))) 4 := by
  obtain ⟨r, hr, rfl⟩ := h
  have g : r < 16 := Nat.not_le.mp (fun z => h2 (nI_le (a := 16) z (by omega)))
  rw [pk_shrN (by omega) _ 2 (by decide)]
  exact in_n (by omega) (by omega)
theorem in_pad {a : Int32} (h : ∃ r : Nat, r < 24 ∧ a = nI r) (h2 : 22 ≤ a) : vp_in (a - 22) 2 := by
  obtain ⟨r, hr, rfl⟩ := h
  have g : 22 ≤ r := Nat.not_lt.mp (fun z => nI_ge (b := 22) z (by omega) h2)
  rw [show nI r - 22 = nI (r - 22) from nI_sub (b := 22) g]
  exact in_n (by omega) (by omega)
theorem in_rom {r x : Int32} (h : ∃ i : Nat, i < 8 ∧ r = nI i) : vp_in ((64 * r) + (x &&& 63)) 512 := by
  obtain ⟨i, hi, rfl⟩ := h
  obtain ⟨j, hj, e⟩ := pk_andE x (m := 63) 6 (by decide)
  rw [e, show (64 : Int32) * nI i = nI (64 * i) from pk_mul 64 i, nI_add]
  exact in_n (by omega) (by omega)
theorem in_chr {r x : Int32} (h : ∃ i : Nat, i < 8 ∧ r = nI i) : vp_in ((16 * r) + (x &&& 15)) 128 := by
  obtain ⟨i, hi, rfl⟩ := h
  obtain ⟨j, hj, e⟩ := pk_andE x (m := 15) 4 (by decide)
  rw [e, show (16 : Int32) * nI i = nI (16 * i) from pk_mul 16 i, nI_add]
  exact in_n (by omega) (by omega)
theorem in_tab {h x : Int32} (hh : h &&& 1 = h) : vp_in ((1024 * h) + (x &&& 1023)) 2048 := by
  obtain ⟨i, hi, e1⟩ := pk_andE h (m := 1) 1 (by decide)
  obtain ⟨j, hj, e⟩ := pk_andE x (m := 1023) 10 (by decide)
  rw [← hh, e1, e, show (1024 : Int32) * nI i = nI (1024 * i) from pk_mul 1024 i, nI_add]
  exact in_n (by omega) (by omega)
theorem pal_in : ∀ j, j < 32 → (nI j &&& 19 = 16 → ¬ (nI j - 16 < 0 ∨ 32 ≤ (nI j - 16).toNatClampNeg)) := by decide +kernel
theorem c8_in : ∀ i, i < 8 → ((4 ≤ nI i → ¬ (nI i - 2 < 0 ∨ 8 ≤ (nI i - 2).toNatClampNeg)) ∧ (¬ 4 ≤ nI i → ¬ (nI i / 2 < 0 ∨ 8 ≤ (nI i / 2).toNatClampNeg))) ∧ ((4 ≤ (nI i ^^^ 4) → ¬ ((nI i ^^^ 4) - 2 < 0 ∨ 8 ≤ ((nI i ^^^ 4) - 2).toNatClampNeg)) ∧ (¬ 4 ≤ (nI i ^^^ 4) → ¬ ((nI i ^^^ 4) / 2 < 0 ∨ 8 ≤ ((nI i ^^^ 4) / 2).toNatClampNeg))) := by decide +kernel

theorem w_sp_prgBank (a0 : Int32) {S : gSt} (hW : Wv S) (h : ∃ i : Nat, i < 4 ∧ a0 = nI i) : OW (ok_X10_prgBank a0 S) (sp_X10_prgBank a0 S) (fun r => ∃ i : Nat, i < 8 ∧ r = nI i) := by
  obtain ⟨i, hi, rfl⟩ := h
  have e : sp_X10_prgBank (nI i) S = (mP (S.2.1 0) (S.1 22) (S.1 25) (S.1 26) (S.2.2.2 8 6) (S.2.2.2 8 7) (nI i), S) := by
    have e6 : aG S 8 6 = S.2.2.2 8 6 := by unfold aG; rw [cl6]
    have e7 : aG S 8 7 = S.2.2.2 8 7 := by unfold aG; rw [cl7]
    unfold sp_X10_prgBank mP
    simp only [ip, e6, e7]
  rw [e]
  refine ⟨?_, hW, by_7 (mP_lt _ _ _ _ _ _ i hi)⟩
  unfold ok_X10_prgBank
  simp only [implies_true, and_self]
theorem w_sp_chrBank (a0 : Int32) {S : gSt} (hW : Wv S) (h : ∃ i : Nat, i < 8 ∧ a0 = nI i) : OW (ok_X10_chrBank a0 S) (sp_X10_chrBank a0 S) (fun r => ∃ i : Nat, i < 8 ∧ r = nI i) := by
  obtain ⟨i, hi, rfl⟩ := h
  have e : sp_X10_chrBank (nI i) S = (mC (S.2.1 0) (S.1 22) (S.1 23) (S.1 24) (S.1 26) (S.2.2.2 8) (nI i), S) := by
    unfold sp_X10_chrBank mC aG
    simp only [ip]
  rw [e]
  refine ⟨?_, hW, by_7 (mC_lt _ _ _ _ _ _ i hi)⟩
  have hc := c8_in i hi
  unfold ok_X10_chrBank vp_in
  exact ⟨fun _ => ⟨fun _ => trivial, fun _ => ⟨fun _ => trivial, fun _ => trivial⟩⟩, fun _ => ⟨fun _ => ⟨fun g => ⟨hc.1.1 g, trivial⟩, fun g => ⟨hc.1.2 g, trivial⟩⟩, fun _ => ⟨fun g => ⟨hc.2.1 g, trivial⟩, fun g => ⟨hc.2.2 g, trivial⟩⟩⟩⟩
theorem w_sp_writeOne (a0 : Int32) (a1 : Int32) {S : gSt} (hW : Wv S) : OW (ok_X10_writeOne a0 a1 S) (sp_X10_writeOne a0 a1 S) (fun _ => True) := by
  unfold ok_X10_writeOne sp_X10_writeOne
  exact ow_if (fun c1 => ow_L (w_I hW Int32.and_neg_one) (fun S1 eS1 wS1 => ow_L (w_I wS1 Int32.and_neg_one) (fun S2 eS2 wS2 => ow_if (fun c2 => ow_if (fun c3 => ow_L (w_I wS2 Int32.and_neg_one) (fun S3 eS3 wS3 => ow_L (w_I wS3 Int32.and_neg_one) (fun S4 eS4 wS4 => ow_L (w_I wS4 Int32.and_neg_one) (fun S5 eS5 wS5 => ow_L (w_I wS5 Int32.and_neg_one) (fun S6 eS6 wS6 => ow_r wS6 trivial))))) (fun c3 => ow_if (fun c4 => ow_L (w_I wS2 Int32.and_neg_one) (fun S7 eS7 wS7 => ow_L (w_I wS7 Int32.and_neg_one) (fun S8 eS8 wS8 => ow_L (w_I wS8 Int32.and_neg_one) (fun S9 eS9 wS9 => ow_r wS9 trivial)))) (fun c4 => ow_if (fun c5 => ow_L (w_I wS2 Int32.and_neg_one) (fun S10 eS10 wS10 => ow_L (w_I wS10 Int32.and_neg_one) (fun S11 eS11 wS11 => ow_L (w_I wS11 Int32.and_neg_one) (fun S12 eS12 wS12 => ow_r wS12 trivial)))) (fun c5 => ow_L (w_I wS2 Int32.and_neg_one) (fun S13 eS13 wS13 => ow_L (w_I wS13 Int32.and_neg_one) (fun S14 eS14 wS14 => ow_L (w_I wS14 Int32.and_neg_one) (fun S15 eS15 wS15 => ow_r wS15 trivial))))))) (fun c2 => ow_r wS2 trivial)))) (fun c1 => ow_L (w_I hW Int32.and_neg_one) (fun S16 eS16 wS16 => ow_L (w_I wS16 Int32.and_neg_one) (fun S17 eS17 wS17 => ow_L (w_I wS17 Int32.and_neg_one) (fun S18 eS18 wS18 => ow_r wS18 trivial))))
theorem w_sp_writeThree (a0 : Int32) (a1 : Int32) {S : gSt} (hW : Wv S) : OW (ok_X10_writeThree a0 a1 S) (sp_X10_writeThree a0 a1 S) (fun _ => True) := by
  unfold ok_X10_writeThree sp_X10_writeThree
  exact ow_if (fun c6 => ow_if (fun c7 => ow_L (w_A hW Int32.and_neg_one) (fun S1 eS1 wS1 => ow_r wS1 trivial)) (fun c7 => ow_if (fun c8 => ow_r hW trivial) (fun c8 => ow_if (fun c9 => ow_L (w_I hW Int32.and_neg_one) (fun S2 eS2 wS2 => ow_r wS2 trivial)) (fun c9 => ow_L (w_Z hW) (fun S3 eS3 wS3 => ow_r wS3 trivial))))) (fun c6 => ow_if (fun c10 => ow_L (w_I hW Int32.and_neg_one) (fun S4 eS4 wS4 => ow_r wS4 trivial)) (fun c10 => ow_if (fun c11 => ow_L (w_I hW Int32.and_neg_one) (fun S5 eS5 wS5 => ow_r wS5 trivial)) (fun c11 => ow_if (fun c12 => ow_L (w_I hW Int32.and_neg_one) (fun S6 eS6 wS6 => ow_r wS6 trivial)) (fun c12 => ow_L (w_Z hW) (fun S7 eS7 wS7 => ow_L (w_I wS7 Int32.and_neg_one) (fun S8 eS8 wS8 => ow_r wS8 trivial))))))
theorem w_sp_tellLine {S : gSt} (hW : Wv S) : OW (ok_X10_tellLine  S) (sp_X10_tellLine  S) (fun _ => True) := by
  unfold ok_X10_tellLine sp_X10_tellLine
  exact ow_if (fun c13 => ow_r hW trivial) (fun c13 => ow_if (fun c14 => ow_L (w_I hW Int32.and_neg_one) (fun S1 eS1 wS1 => ow_if (fun c15 => ow_if (fun c16 => ow_r wS1 trivial) (fun c16 => ow_L (w_I wS1 Int32.and_neg_one) (fun S2 eS2 wS2 => ow_r wS2 trivial))) (fun c15 => ow_r wS1 trivial))) (fun c14 => ow_L (w_I hW Int32.and_neg_one) (fun S3 eS3 wS3 => ow_if (fun c17 => ow_if (fun c18 => ow_r wS3 trivial) (fun c18 => ow_L (w_I wS3 Int32.and_neg_one) (fun S4 eS4 wS4 => ow_r wS4 trivial))) (fun c17 => ow_r wS3 trivial))))
theorem w_sp_tablePlace (a0 : Int32) {S : gSt} (hW : Wv S) : OW (ok_X10_tablePlace a0 S) (sp_X10_tablePlace a0 S) (fun r => vp_in r 2048) := by
  unfold ok_X10_tablePlace sp_X10_tablePlace
  exact ow_if (fun c19 => ow_r hW (in_tab (by decide))) (fun c19 => ow_if (fun c20 => ow_r hW (in_tab (by decide))) (fun c20 => ow_if (fun c21 => ow_r hW (in_tab (by_ar (by decide)))) (fun c21 => ow_r hW (in_tab (by_ar (by decide))))))
theorem w_sp_palettePlace (a0 : Int32) {S : gSt} (hW : Wv S) : OW (ok_X10_palettePlace a0 S) (sp_X10_palettePlace a0 S) (fun r => vp_in r 32) := by
  obtain ⟨j, hj, e⟩ := pk_andE a0 (m := 31) 5 (by decide)
  unfold ok_X10_palettePlace sp_X10_palettePlace
  rw [e]
  refine ow_if (fun h => ow_r hW ?_) (fun h => ow_r hW (in_n (by omega) (by omega)))
  exact pal_in j (by omega) h
theorem w_sp_seen (a0 : Int32) {S : gSt} (hW : Wv S) : OW (ok_X10_seen a0 S) (sp_X10_seen a0 S) (fun r => r &&& 255 = r) := by
  unfold ok_X10_seen sp_X10_seen
  exact ow_if (fun c22 => ow_if (fun c23 => ow_B (w_sp_palettePlace _ hW) (fun r1 S1 hr1 wS1 => ow_i hr1 (ow_r wS1 (w_g wS1 rfl)))) (fun c23 => ow_B (w_sp_tablePlace _ hW) (fun r2 S2 hr2 wS2 => ow_i hr2 (ow_r wS2 (w_g wS2 rfl))))) (fun c22 => ow_B (w_sp_chrBank _ hW (c8_of (by assumption))) (fun r3 S3 hr3 wS3 => ow_i (in_chr hr3) (ow_r wS3 (w_g wS3 rfl))))
theorem w_sp_keep (a0 : Int32) (a1 : Int32) {S : gSt} (hW : Wv S) (ha1 : a1 &&& 255 = a1) : OW (ok_X10_keep a0 a1 S) (sp_X10_keep a0 a1 S) (fun _ => True) := by
  unfold ok_X10_keep sp_X10_keep
  exact ow_if (fun c24 => ow_if (fun c25 => ow_r hW trivial) (fun c25 => ow_B (w_sp_tablePlace _ hW) (fun r1 S1 hr1 wS1 => ow_i hr1 (ow_L (w_A wS1 ha1) (fun S2 eS2 wS2 => ow_r wS2 trivial))))) (fun c24 => ow_B (w_sp_palettePlace _ hW) (fun r3 S3 hr3 wS3 => ow_i hr3 (ow_L (w_A wS3 ha1) (fun S4 eS4 wS4 => ow_r wS4 trivial))))
theorem w_sp_goOn {S : gSt} (hW : Wv S) : OW (ok_X10_goOn  S) (sp_X10_goOn  S) (fun _ => True) := by
  unfold ok_X10_goOn sp_X10_goOn
  exact ow_if (fun c26 => ow_L (w_I hW Int32.and_neg_one) (fun S1 eS1 wS1 => ow_r wS1 trivial)) (fun c26 => ow_L (w_I hW Int32.and_neg_one) (fun S2 eS2 wS2 => ow_r wS2 trivial))
theorem w_sp_readPicture (a0 : Int32) {S : gSt} (hW : Wv S) : OW (ok_X10_readPicture a0 S) (sp_X10_readPicture a0 S) (fun r => r &&& 255 = r) := by
  unfold ok_X10_readPicture sp_X10_readPicture
  exact ow_if (fun c27 => ow_L (w_I hW (by decide)) (fun S1 eS1 wS1 => ow_L (w_I wS1 Int32.and_neg_one) (fun S2 eS2 wS2 => ow_r wS2 (by_s7 (w_one hW rfl))))) (fun c27 => ow_if (fun c28 => ow_i (in_b (w_b hW rfl)) (ow_r hW (w_g hW rfl))) (fun c28 => ow_if (fun c29 => ow_if (fun c30 => ow_B (w_sp_seen _ hW) (fun r3 S3 hr3 wS3 => ow_L (w_I wS3 hr3) (fun S4 eS4 wS4 => ow_B (w_sp_goOn wS4) (fun _ S5 _ wS5 => ow_r wS5 (w_b hW rfl))))) (fun c30 => ow_B (w_sp_seen _ hW) (fun r6 S6 hr6 wS6 => ow_B (w_sp_tablePlace _ wS6) (fun r7 S7 hr7 wS7 => ow_i hr7 (ow_L (w_I wS7 (w_g wS7 rfl)) (fun S8 eS8 wS8 => ow_B (w_sp_goOn wS8) (fun _ S9 _ wS9 => ow_r wS9 hr6))))))) (fun c29 => ow_r hW (by decide))))
theorem w_jn_writePicture_76 (x2 : Int32) {S : gSt} (hW : Wv S) : OW (ok_jn_X10_writePicture_76 x2 S) (jn_X10_writePicture_76 x2 S) (fun _ => True) := by
  unfold ok_jn_X10_writePicture_76 jn_X10_writePicture_76
  exact ow_L (w_I hW Int32.and_neg_one) (fun S1 eS1 wS1 => ow_L (w_I wS1 Int32.and_neg_one) (fun S2 eS2 wS2 => ow_r wS2 trivial))
theorem w_sp_writePicture (a0 : Int32) (a1 : Int32) {S : gSt} (hW : Wv S) (ha1 : a1 &&& 255 = a1) : OW (ok_X10_writePicture a0 a1 S) (sp_X10_writePicture a0 a1 S) (fun _ => True) := by
  unfold ok_X10_writePicture sp_X10_writePicture
  exact ow_if (fun c31 => ow_if (fun c32 => ow_if (fun c33 => w_jn_writePicture_76 _ hW) (fun c33 => ow_L (w_Z hW) (fun S3 eS3 wS3 => w_jn_writePicture_76 _ wS3))) (fun c32 => w_jn_writePicture_76 _ hW)) (fun c31 => ow_if (fun c34 => ow_L (w_I hW Int32.and_neg_one) (fun S4 eS4 wS4 => ow_r wS4 trivial)) (fun c34 => ow_if (fun c35 => ow_r hW trivial) (fun c35 => ow_if (fun c36 => ow_L (w_I hW ha1) (fun S5 eS5 wS5 => ow_r wS5 trivial)) (fun c36 => ow_if (fun c37 => ow_i (in_b (w_b hW rfl)) (ow_L (w_A hW ha1) (fun S6 eS6 wS6 => ow_L (w_I wS6 (by_ar (by decide))) (fun S7 eS7 wS7 => ow_r wS7 trivial)))) (fun c37 => ow_if (fun c38 => ow_if (fun c39 => ow_L (w_I hW Int32.and_neg_one) (fun S8 eS8 wS8 => ow_L (w_I wS8 Int32.and_neg_one) (fun S9 eS9 wS9 => ow_L (w_I wS9 Int32.and_neg_one) (fun S10 eS10 wS10 => ow_r wS10 trivial)))) (fun c39 => ow_L (w_I hW Int32.and_neg_one) (fun S11 eS11 wS11 => ow_L (w_I wS11 Int32.and_neg_one) (fun S12 eS12 wS12 => ow_r wS12 trivial)))) (fun c38 => ow_if (fun c40 => ow_if (fun c41 => ow_L (w_I hW Int32.and_neg_one) (fun S13 eS13 wS13 => ow_L (w_I wS13 Int32.and_neg_one) (fun S14 eS14 wS14 => ow_r wS14 trivial))) (fun c41 => ow_L (w_I hW Int32.and_neg_one) (fun S15 eS15 wS15 => ow_L (w_I wS15 Int32.and_neg_one) (fun S16 eS16 wS16 => ow_L (w_I wS16 Int32.and_neg_one) (fun S17 eS17 wS17 => ow_r wS17 trivial))))) (fun c40 => ow_if (fun c42 => ow_B (w_sp_keep _ _ hW ha1) (fun _ S18 _ wS18 => ow_B (w_sp_goOn wS18) (fun _ S19 _ wS19 => ow_r wS19 trivial))) (fun c42 => ow_r hW trivial))))))))
theorem w_sp_lengthOf (a0 : Int32) {S : gSt} (hW : Wv S) : OW (ok_X10_lengthOf a0 S) (sp_X10_lengthOf a0 S) (fun _ => True) := by
  unfold ok_X10_lengthOf sp_X10_lengthOf
  exact ow_if (fun c43 => ow_r hW trivial) (fun c43 => ow_if (fun c44 => ow_r hW trivial) (fun c44 => ow_if (fun c45 => ow_r hW trivial) (fun c45 => ow_if (fun c46 => ow_r hW trivial) (fun c46 => ow_if (fun c47 => ow_r hW trivial) (fun c47 => ow_if (fun c48 => ow_r hW trivial) (fun c48 => ow_if (fun c49 => ow_r hW trivial) (fun c49 => ow_if (fun c50 => ow_r hW trivial) (fun c50 => ow_if (fun c51 => ow_r hW trivial) (fun c51 => ow_if (fun c52 => ow_r hW trivial) (fun c52 => ow_if (fun c53 => ow_r hW trivial) (fun c53 => ow_if (fun c54 => ow_r hW trivial) (fun c54 => ow_if (fun c55 => ow_r hW trivial) (fun c55 => ow_if (fun c56 => ow_r hW trivial) (fun c56 => ow_if (fun c57 => ow_r hW trivial) (fun c57 => ow_if (fun c58 => ow_r hW trivial) (fun c58 => ow_if (fun c59 => ow_r hW trivial) (fun c59 => ow_if (fun c60 => ow_r hW trivial) (fun c60 => ow_if (fun c61 => ow_r hW trivial) (fun c61 => ow_if (fun c62 => ow_r hW trivial) (fun c62 => ow_if (fun c63 => ow_r hW trivial) (fun c63 => ow_if (fun c64 => ow_r hW trivial) (fun c64 => ow_if (fun c65 => ow_r hW trivial) (fun c65 => ow_if (fun c66 => ow_r hW trivial) (fun c66 => ow_if (fun c67 => ow_r hW trivial) (fun c67 => ow_if (fun c68 => ow_r hW trivial) (fun c68 => ow_if (fun c69 => ow_r hW trivial) (fun c69 => ow_if (fun c70 => ow_r hW trivial) (fun c70 => ow_if (fun c71 => ow_r hW trivial) (fun c71 => ow_if (fun c72 => ow_r hW trivial) (fun c72 => ow_if (fun c73 => ow_r hW trivial) (fun c73 => ow_r hW trivial)))))))))))))))))))))))))))))))
theorem w_lp_count_2 (n : Nat) : ∀ (x1 : Int32) (S : gSt), Wv S → OW (ok_lp_X10_count_2 n x1 S) (lp_X10_count_2 n x1 S) (fun _ => True) := by
  induction n with
  | zero => intro x1 S hW; exact ⟨trivial, hW, trivial⟩
  | succ n ih =>
    intro x1 S hW
    rw [ok_lp_X10_count_2, lp_X10_count_2]
    exact ow_if (fun c74 => ow_r hW trivial) (fun c74 => ow_if (fun c75 => ih _ _ hW) (fun c75 => ow_if (fun c76 => ow_L (w_A hW Int32.and_neg_one) (fun S1 eS1 wS1 => ih _ _ wS1)) (fun c76 => ih _ _ hW)))
theorem w_sp_count {S : gSt} (hW : Wv S) : OW (ok_X10_count S) (sp_X10_count S) (fun _ => True) := w_lp_count_2 5 0 S hW
theorem w_lp_readSound_16 (n : Nat) : ∀ (x1 x2 : Int32) (j : Nat) (S : gSt), Wv S → x2 &&& 255 = x2 → j ≤ 4 → OW (ok_lp_X10_readSound_16 n x1 x2 (nI j) S) (lp_X10_readSound_16 n x1 x2 (nI j) S) (fun r => r &&& 255 = r) := by
  induction n with
  | zero => intro x1 x2 j S hW hx hj; exact ⟨trivial, hW, (by decide : (0 : Int32) &&& 255 = 0)⟩
  | succ n ih =>
    intro x1 x2 j S hW hx hj
    rw [ok_lp_X10_readSound_16, lp_X10_readSound_16, nI_1]
    refine ow_if (fun h => ?_) (fun h => ?_)
    · refine ow_L (w_I hW (by decide)) (fun T hT hw => ow_r hw hx)
    · have hj4 : j < 4 := Nat.not_le.mp (fun z => h (nI_le (a := 4) z (by omega)))
      exact ow_if (fun _ => ih _ _ (j + 1) S hW (by_or hx (by decide)) (by omega)) (fun _ => ih _ _ (j + 1) S hW (by_or hx (by_one hj4)) (by omega))
theorem w_sp_readSound (a0 : Int32) {S : gSt} (hW : Wv S) (h : ∃ r : Nat, r < 24 ∧ a0 = nI r) : OW (ok_X10_readSound a0 S) (sp_X10_readSound a0 S) (fun r => r &&& 255 = r) := by
  unfold ok_X10_readSound sp_X10_readSound
  exact ow_if (fun c1 => w_lp_readSound_16 5 _ _ 0 _ hW (by_s6 (w_one hW rfl)) (by omega)) (fun c1 => ow_if (fun c2 => ow_if (fun c3 => ow_i (in_pad h c2) (ow_r hW (by_ar (by decide)))) (fun c3 => ow_i (in_pad h c2) (ow_i (in_pad h c2) (ow_i (in_pad h c2) (ow_L (w_A hW Int32.and_neg_one) (fun S2 eS2 wS2 => ow_r wS2 (by_ar (by decide)))))))) (fun c2 => ow_r hW (by decide)))
theorem w_sp_get (a0 : Int32) {S : gSt} (hW : Wv S) : OW (ok_X10_get a0 S) (sp_X10_get a0 S) (fun r => r &&& 255 = r) := by
  unfold ok_X10_get sp_X10_get
  exact ow_if (fun c77 => ow_if (fun c78 => ow_if (fun c79 => ow_if (fun c80 => ow_if (fun c81 => ow_r hW (by decide)) (fun c81 => ow_r hW (w_g hW rfl))) (fun c80 => ow_B (w_sp_prgBank _ hW (p4_of _)) (fun r1 S1 hr1 wS1 => ow_i (in_rom hr1) (ow_r wS1 (w_g wS1 rfl))))) (fun c79 => ow_B (w_sp_readSound _ hW (r24_of (by assumption) (by assumption))) (fun r2 S2 hr2 wS2 => ow_r wS2 hr2))) (fun c78 => ow_B (w_sp_readPicture _ hW) (fun r3 S3 hr3 wS3 => ow_r wS3 hr3))) (fun c77 => ow_r hW (w_g hW rfl))
theorem w_lp_dma_2 (n : Nat) : ∀ (x1 x2 : Int32) (S : gSt), Wv S → OW (ok_lp_X10_dma_2 n x1 x2 S) (lp_X10_dma_2 n x1 x2 S) (fun _ => True) := by
  induction n with
  | zero => intro x1 x2 S hW; exact ⟨trivial, hW, trivial⟩
  | succ n ih =>
    intro x1 x2 S hW
    rw [ok_lp_X10_dma_2, lp_X10_dma_2]
    exact ow_if (fun c82 => ow_L (w_I hW Int32.and_neg_one) (fun S1 eS1 wS1 => ow_r wS1 trivial)) (fun c82 => ow_B (w_sp_get _ hW) (fun r2 S2 hr2 wS2 => ow_B (w_sp_writePicture _ _ wS2 hr2) (fun _ S3 _ wS3 => ih _ _ _ wS3)))
theorem w_sp_dma (a0 : Int32) {S : gSt} (hW : Wv S) : OW (ok_X10_dma a0 S) (sp_X10_dma a0 S) (fun _ => True) := w_lp_dma_2 257 a0 0 S hW
theorem w_lp_writeSound_110 (n : Nat) : ∀ (x1 x2 x3 x4 : Int32) (S : gSt), Wv S → OW (ok_lp_X10_writeSound_110 n x1 x2 x3 x4 S) (lp_X10_writeSound_110 n x1 x2 x3 x4 S) (fun _ => True) := by
  induction n with
  | zero => intro x1 x2 x3 x4 S hW; exact ⟨trivial, hW, trivial⟩
  | succ n ih =>
    intro x1 x2 x3 x4 S hW
    rw [ok_lp_X10_writeSound_110, lp_X10_writeSound_110]
    exact ow_if (fun c83 => ow_r hW trivial) (fun c83 => ow_if (fun c84 => ow_L (w_A hW Int32.and_neg_one) (fun S3 eS3 wS3 => ih _ _ _ _ _ wS3)) (fun c84 => ow_L (w_A hW Int32.and_neg_one) (fun S4 eS4 wS4 => ih _ _ _ _ _ wS4)))
theorem w_lp_writeSound_161 (n : Nat) : ∀ (x1 x2 x3 x4 : Int32) (S : gSt), Wv S → OW (ok_lp_X10_writeSound_161 n x1 x2 x3 x4 S) (lp_X10_writeSound_161 n x1 x2 x3 x4 S) (fun _ => True) := by
  induction n with
  | zero => intro x1 x2 x3 x4 S hW; exact ⟨trivial, hW, trivial⟩
  | succ n ih =>
    intro x1 x2 x3 x4 S hW
    rw [ok_lp_X10_writeSound_161, lp_X10_writeSound_161]
    exact ow_if (fun c85 => ow_L (w_I hW Int32.and_neg_one) (fun S5 eS5 wS5 => ow_r wS5 trivial)) (fun c85 => ow_if (fun c86 => ow_if (fun c87 => ow_L (w_A hW Int32.and_neg_one) (fun S6 eS6 wS6 => ih _ _ _ _ _ wS6)) (fun c87 => ow_L (w_A hW Int32.and_neg_one) (fun S7 eS7 wS7 => ih _ _ _ _ _ wS7))) (fun c86 => ow_L (w_A hW Int32.and_neg_one) (fun S8 eS8 wS8 => ih _ _ _ _ _ wS8)))
theorem w_jn_writeSound_45 (x1 : Int32) (x2 : Int32) (x3 : Int32) {S : gSt} (hW : Wv S) (h : vp_in x3 4) : OW (ok_jn_X10_writeSound_45 x1 x2 x3 S) (jn_X10_writeSound_45 x1 x2 x3 S) (fun _ => True) := by
  unfold ok_jn_X10_writeSound_45 jn_X10_writeSound_45
  exact ow_if (fun c88 => ow_if (fun c89 => ow_B (w_sp_lengthOf _ hW) (fun r40 S40 hr40 wS40 => ow_i h (ow_L (w_A wS40 Int32.and_neg_one) (fun S41 eS41 wS41 => ow_r wS41 trivial)))) (fun c89 => ow_r hW trivial)) (fun c88 => ow_r hW trivial)
theorem w_sp_writeSound (a0 : Int32) (a1 : Int32) {S : gSt} (hW : Wv S) (h : ∃ r : Nat, r < 24 ∧ a0 = nI r) : OW (ok_X10_writeSound a0 a1 S) (sp_X10_writeSound a0 a1 S) (fun _ => True) := by
  unfold ok_X10_writeSound sp_X10_writeSound
  exact ow_if (fun c90 => ow_if (fun c91 => ow_B (w_sp_dma _ hW) (fun _ S1 _ wS1 => ow_r wS1 trivial)) (fun c91 => ow_if (fun c92 => ow_L (w_I hW Int32.and_neg_one) (fun S2 eS2 wS2 => w_lp_writeSound_110 _ _ _ _ _ _ wS2)) (fun c92 => ow_if (fun c93 => w_lp_writeSound_161 _ _ _ _ _ _ hW) (fun c93 => ow_if (fun c94 => ow_if (fun c95 => ow_L (w_Z hW) (fun S9 eS9 wS9 => ow_if (fun c96 => ow_L (w_Z wS9) (fun S10 eS10 wS10 => ow_if (fun c97 => ow_L (w_I wS10 (w_one wS10 rfl)) (fun S11 eS11 wS11 => ow_L (w_I wS11 Int32.and_neg_one) (fun S12 eS12 wS12 => ow_if (fun c98 => ow_r wS12 trivial) (fun c98 => ow_B (w_sp_count wS12) (fun _ S13 _ wS13 => ow_r wS13 trivial))))) (fun c97 => ow_L (w_I wS10 (by decide)) (fun S14 eS14 wS14 => ow_L (w_I wS14 Int32.and_neg_one) (fun S15 eS15 wS15 => ow_if (fun c99 => ow_r wS15 trivial) (fun c99 => ow_B (w_sp_count wS15) (fun _ S16 _ wS16 => ow_r wS16 trivial))))))) (fun c96 => ow_L (w_Z wS9) (fun S17 eS17 wS17 => ow_if (fun c100 => ow_L (w_I wS17 (w_one wS17 rfl)) (fun S18 eS18 wS18 => ow_L (w_I wS18 Int32.and_neg_one) (fun S19 eS19 wS19 => ow_if (fun c101 => ow_r wS19 trivial) (fun c101 => ow_B (w_sp_count wS19) (fun _ S20 _ wS20 => ow_r wS20 trivial))))) (fun c100 => ow_L (w_I wS17 (by decide)) (fun S21 eS21 wS21 => ow_L (w_I wS21 Int32.and_neg_one) (fun S22 eS22 wS22 => ow_if (fun c102 => ow_r wS22 trivial) (fun c102 => ow_B (w_sp_count wS22) (fun _ S23 _ wS23 => ow_r wS23 trivial))))))))) (fun c95 => ow_L (w_Z hW) (fun S24 eS24 wS24 => ow_if (fun c103 => ow_L (w_Z wS24) (fun S25 eS25 wS25 => ow_if (fun c104 => ow_L (w_I wS25 (w_one wS25 rfl)) (fun S26 eS26 wS26 => ow_L (w_I wS26 Int32.and_neg_one) (fun S27 eS27 wS27 => ow_if (fun c105 => ow_r wS27 trivial) (fun c105 => ow_B (w_sp_count wS27) (fun _ S28 _ wS28 => ow_r wS28 trivial))))) (fun c104 => ow_L (w_I wS25 (by decide)) (fun S29 eS29 wS29 => ow_L (w_I wS29 Int32.and_neg_one) (fun S30 eS30 wS30 => ow_if (fun c106 => ow_r wS30 trivial) (fun c106 => ow_B (w_sp_count wS30) (fun _ S31 _ wS31 => ow_r wS31 trivial))))))) (fun c103 => ow_L (w_Z wS24) (fun S32 eS32 wS32 => ow_if (fun c107 => ow_L (w_I wS32 (w_one wS32 rfl)) (fun S33 eS33 wS33 => ow_L (w_I wS33 Int32.and_neg_one) (fun S34 eS34 wS34 => ow_if (fun c108 => ow_r wS34 trivial) (fun c108 => ow_B (w_sp_count wS34) (fun _ S35 _ wS35 => ow_r wS35 trivial))))) (fun c107 => ow_L (w_I wS32 (by decide)) (fun S36 eS36 wS36 => ow_L (w_I wS36 Int32.and_neg_one) (fun S37 eS37 wS37 => ow_if (fun c109 => ow_r wS37 trivial) (fun c109 => ow_B (w_sp_count wS37) (fun _ S38 _ wS38 => ow_r wS38 trivial)))))))))) (fun c94 => ow_r hW trivial))))) (fun c90 => ow_if (fun c110 => ow_if (fun c111 => ow_if (fun c112 => ow_i (in4_of (by assumption) (by assumption)) (ow_L (w_A hW Int32.and_neg_one) (fun S39 eS39 wS39 => w_jn_writeSound_45 _ _ _ wS39 (in4_of (by assumption) (by assumption))))) (fun c112 => ow_i (in4_of (by assumption) (by assumption)) (ow_L (w_A hW Int32.and_neg_one) (fun S42 eS42 wS42 => w_jn_writeSound_45 _ _ _ wS42 (in4_of (by assumption) (by assumption)))))) (fun c111 => ow_if (fun c113 => ow_i (in4_of (by assumption) (by assumption)) (ow_L (w_A hW Int32.and_neg_one) (fun S43 eS43 wS43 => w_jn_writeSound_45 _ _ _ wS43 (in4_of (by assumption) (by assumption))))) (fun c113 => ow_i (in4_of (by assumption) (by assumption)) (ow_L (w_A hW Int32.and_neg_one) (fun S44 eS44 wS44 => w_jn_writeSound_45 _ _ _ wS44 (in4_of (by assumption) (by assumption))))))) (fun c110 => w_jn_writeSound_45 _ _ _ hW (in4_of (by assumption) (by assumption))))
theorem w_jn_put_82 (x1 : Int32) (x2 : Int32) {S : gSt} (hW : Wv S) (hx2 : x2 &&& 255 = x2) : OW (ok_jn_X10_put_82 x1 x2 S) (jn_X10_put_82 x1 x2 S) (fun _ => True) := by
  unfold ok_jn_X10_put_82 jn_X10_put_82
  exact ow_if (fun c114 => ow_if (fun c115 => ow_r hW trivial) (fun c115 => ow_L (w_A hW hx2) (fun S1 eS1 wS1 => ow_r wS1 trivial))) (fun c114 => ow_B (w_sp_writeOne _ _ hW) (fun _ S2 _ wS2 => ow_r wS2 trivial))
theorem w_sp_put (a0 : Int32) (a1 : Int32) {S : gSt} (hW : Wv S) (ha1 : a1 &&& 255 = a1) : OW (ok_X10_put a0 a1 S) (sp_X10_put a0 a1 S) (fun _ => True) := by
  unfold ok_X10_put sp_X10_put
  exact ow_if (fun c116 => ow_if (fun c117 => ow_if (fun c118 => ow_if (fun c119 => w_jn_put_82 _ _ hW ha1) (fun c119 => ow_if (fun c120 => w_jn_put_82 _ _ hW ha1) (fun c120 => ow_B (w_sp_writeThree _ _ hW) (fun _ S3 _ wS3 => ow_r wS3 trivial)))) (fun c118 => ow_B (w_sp_writeSound _ _ hW (r24_of (by assumption) (by assumption))) (fun _ S4 _ wS4 => ow_r wS4 trivial))) (fun c117 => ow_B (w_sp_writePicture _ _ hW ha1) (fun _ S5 _ wS5 => ow_r wS5 trivial))) (fun c116 => ow_L (w_A hW ha1) (fun S6 eS6 wS6 => ow_r wS6 trivial))
end PZj
