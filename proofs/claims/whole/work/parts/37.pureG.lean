section PG
variable {k : Bool} {c sp : Int32} {cr : Bool} {gn : Int64} {S : gSt}
def Yv (k : Bool) (S : gSt) : Prop := S.1 21 ≤ 261 ∧ S.1 22 ≤ 340 ∧ S.1 25 ≤ (if (bI (S.2.1 3)) = 0 then 29829 else 37281) ∧ S.1 3 ≤ 4 ∧ ((k = true → S.1 2 = 0 ∧ S.1 3 = 0) ∧ S.1 26 = (-1))
def Iw (k : Bool) (S : gSt) : Prop := (∀ j, S.1 j &&& mk j = S.1 j) ∧ (∀ q i, S.2.2.2 q i &&& 255 = S.2.2.2 q i) ∧ Yv k S
theorem iw_of (h : Iv k S) : Iw k S := ⟨h.1, h.2.1, h.2.2.1, h.2.2.2.1, h.2.2.2.2.1, h.2.2.2.2.2.1, h.2.2.2.2.2.2.1⟩
theorem iv_of (h : Iw k S) (hb : Bk k S) : Iv k S := ⟨h.1, h.2.1, h.2.2.1, h.2.2.2.1, h.2.2.2.2.1, h.2.2.2.2.2.1, h.2.2.2.2.2.2, hb⟩
theorem ctl_pm : ∀ m, m < 4 → ∀ a, a < 4 → ∀ d, d < 2 → ((((nI m) ||| ((nI a) <<< ((2 : Int32) &&& 31))) ||| ((nI d) <<< ((4 : Int32) &&& 31))) >>> ((2 : Int32) &&& (31 : Int32))) &&& 3 = nI a ∧ ((((nI m) ||| ((nI a) <<< ((2 : Int32) &&& 31))) ||| ((nI d) <<< ((4 : Int32) &&& 31))) &&& 16 = 0 ↔ nI d = 0) := by decide +kernel
theorem by_m {x m : Int32} (n : Nat) (hm : m.toBitVec.toNat = 2 ^ n - 1) (h : x &&& m = x) : ∃ j : Nat, j < 2 ^ n ∧ x = nI j := by
  obtain ⟨j, hj, e⟩ := pk_andE x (m := m) n hm
  exact ⟨j, hj, by rw [← h, e]⟩
theorem ctl_S (hI : Iw false S) : ((phC false S) >>> ((2 : Int32) &&& (31 : Int32))) &&& 3 = S.1 4 ∧ ((phC false S) &&& 16 = 0 ↔ S.1 6 = 0) := by
  obtain ⟨m, hm, e1⟩ := by_m (x := S.1 1) (m := 3) 2 (by decide) (hI.1 1)
  obtain ⟨a, ha, e2⟩ := by_m (x := S.1 4) (m := 3) 2 (by decide) (hI.1 4)
  obtain ⟨d, hd, e3⟩ := by_m (x := S.1 6) (m := 1) 1 (by decide) (hI.1 6)
  have h := ctl_pm m hm a ha d hd
  unfold phC
  rw [e1, e2, e3]
  exact h
theorem cl0 : Int32.toNatClampNeg 0 = 0 := by decide
theorem cl1 : Int32.toNatClampNeg 1 = 1 := by decide
theorem cl2 : Int32.toNatClampNeg 2 = 2 := by decide
theorem cl3 : Int32.toNatClampNeg 3 = 3 := by decide
/-- what the four banks of ROM are behind setRomBanks; all else stays -/
theorem c_setRom (a b d e : Int32) : ∃ A : Nat → Nat → Int32, (sp_X1_setRomBanks k a b d e S).2 = (S.1, S.2.1, S.2.2.1, A) ∧ (∀ q, q ≠ 4 → A q = S.2.2.2 q) ∧ A 4 0 = a &&& 7 ∧ A 4 1 = b &&& 7 ∧ A 4 2 = d &&& 7 ∧ A 4 3 = e &&& 7 ∧ ∀ i, 4 ≤ i → A 4 i = S.2.2.2 4 i := by
  refine ⟨_, rfl, fun q hq => ?_, rfl, rfl, rfl, rfl, fun i hi => ?_⟩
  · show va_up (va_up (va_up (va_up S.2.2.2 4 _) 4 _) 4 _) 4 _ q = _
    rw [va_up_ne _ _ hq, va_up_ne _ _ hq, va_up_ne _ _ hq, va_up_ne _ _ hq]
  · show upd (upd (upd (upd (S.2.2.2 4) 0 _) 1 _) 2 _) 3 _ i = _
    rw [pk_un (by omega), pk_un (by omega), pk_un (by omega), pk_un (by omega)]
theorem c_setChr0 (a b d e : Int32) : ∃ A : Nat → Nat → Int32, (sp_X1_setFourChrBanks k 0 a b d e S).2 = (S.1, S.2.1, S.2.2.1, A) ∧ (∀ q, q ≠ 5 → A q = S.2.2.2 q) ∧ A 5 0 = a &&& 7 ∧ A 5 1 = b &&& 7 ∧ A 5 2 = d &&& 7 ∧ A 5 3 = e &&& 7 ∧ ∀ i, 4 ≤ i → A 5 i = S.2.2.2 5 i := by
  refine ⟨_, rfl, fun q hq => ?_, rfl, rfl, rfl, rfl, fun i hi => ?_⟩
  · show va_up (va_up (va_up (va_up S.2.2.2 5 _) 5 _) 5 _) 5 _ q = _
    rw [va_up_ne _ _ hq, va_up_ne _ _ hq, va_up_ne _ _ hq, va_up_ne _ _ hq]
  · show upd (upd (upd (upd (S.2.2.2 5) 0 _) 1 _) 2 _) 3 _ i = _
    rw [pk_un (by omega), pk_un (by omega), pk_un (by omega), pk_un (by omega)]
theorem c_setChr4 (a b d e : Int32) : ∃ A : Nat → Nat → Int32, (sp_X1_setFourChrBanks k 4 a b d e S).2 = (S.1, S.2.1, S.2.2.1, A) ∧ (∀ q, q ≠ 5 → A q = S.2.2.2 q) ∧ A 5 4 = a &&& 7 ∧ A 5 5 = b &&& 7 ∧ A 5 6 = d &&& 7 ∧ A 5 7 = e &&& 7 ∧ ∀ i, (i < 4 ∨ 8 ≤ i) → A 5 i = S.2.2.2 5 i := by
  refine ⟨_, rfl, fun q hq => ?_, rfl, rfl, rfl, rfl, fun i hi => ?_⟩
  · show va_up (va_up (va_up (va_up S.2.2.2 5 _) 5 _) 5 _) 5 _ q = _
    rw [va_up_ne _ _ hq, va_up_ne _ _ hq, va_up_ne _ _ hq, va_up_ne _ _ hq]
  · show upd (upd (upd (upd (S.2.2.2 5) 4 _) 5 _) 6 _) 7 _ i = _
    rw [pk_un (by omega), pk_un (by omega), pk_un (by omega), pk_un (by omega)]
/-- behind mapRom and mapChr: only the banks have changed, and they are as the registers say -/
def Mp (k : Bool) (S S2 : gSt) : Prop := ∃ A : Nat → Nat → Int32, S2 = (S.1, S.2.1, S.2.2.1, A) ∧ (∀ q, q ≠ 4 → q ≠ 5 → A q = S.2.2.2 q) ∧ Bk k S2
theorem i4 {P : Nat → Prop} (h0 : P 0) (h1 : P 1) (h2 : P 2) (h3 : P 3) : ∀ i, i < 4 → P i := by
  intro i hi
  rcases (show i = 0 ∨ i = 1 ∨ i = 2 ∨ i = 3 by omega) with rfl | rfl | rfl | rfl
  · exact h0
  · exact h1
  · exact h2
  · exact h3
theorem i8 {P : Nat → Prop} (h0 : P 0) (h1 : P 1) (h2 : P 2) (h3 : P 3) (h4 : P 4) (h5 : P 5) (h6 : P 6) (h7 : P 7) : ∀ i, i < 8 → P i := by
  intro i hi
  rcases (show i = 0 ∨ i = 1 ∨ i = 2 ∨ i = 3 ∨ i = 4 ∨ i = 5 ∨ i = 6 ∨ i = 7 by omega) with rfl | rfl | rfl | rfl | rfl | rfl | rfl | rfl <;> assumption
theorem mp1_rom (hI : Iw false S) : ∃ A : Nat → Nat → Int32, (sp_X3_mapRom S).2 = (S.1, S.2.1, S.2.2.1, A) ∧ (∀ q, q ≠ 4 → A q = S.2.2.2 q) ∧ (∀ i, 4 ≤ i → A 4 i = S.2.2.2 4 i) ∧ ∀ i : Nat, i < 4 → A 4 i = mP false (phC false S) (S.1 5) (S.1 9) (S.2.2.2 19 6) (S.2.2.2 19 7) (nI i) := by
  have hc := (ctl_S hI).1
  have hm : ∀ i, mP false (phC false S) (S.1 5) (S.1 9) (S.2.2.2 19 6) (S.2.2.2 19 7) (nI i) = (if 2 ≤ S.1 4 then (if S.1 4 = 2 then (if 2 ≤ nI i then (((2 * (S.1 5 &&& 3)) + nI i) - 2) else nI i) else (if 2 ≤ nI i then (4 + nI i) else ((2 * (S.1 5 &&& 3)) + nI i))) else ((4 * ((S.1 5 >>> ((1 : Int32) &&& (31 : Int32))) &&& 1)) + nI i)) := by
    intro i
    unfold mP
    rw [if_pos (by decide : bI false = 0), hc]
  obtain ⟨b, hb, e1⟩ := pk_andE (S.1 5) (m := 3) 2 (by decide)
  obtain ⟨d, hd, e2⟩ := pk_andE (S.1 5 >>> ((1 : Int32) &&& (31 : Int32))) (m := 1) 1 (by decide)
  obtain ⟨a, ha, e3⟩ := by_m (x := S.1 4) (m := 3) 2 (by decide) (hI.1 4)
  unfold sp_X3_mapRom
  simp only [gB, hm]
  rw [e1, e2, e3]
  have k2 := (by decide +kernel : ∀ b, b < 2 ^ 2 → (0 : Int32) &&& 7 = nI 0 ∧ (1 : Int32) &&& 7 = nI 1 ∧ (2 * nI b) &&& 7 = ((2 * nI b) + nI 2) - 2 ∧ ((2 * nI b) + 1) &&& 7 = ((2 * nI b) + nI 3) - 2 ∧ (2 * nI b) &&& 7 = (2 * nI b) + nI 0 ∧ ((2 * nI b) + 1) &&& 7 = (2 * nI b) + nI 1 ∧ (6 : Int32) &&& 7 = 4 + nI 2 ∧ (7 : Int32) &&& 7 = 4 + nI 3) b hb
  have k1 := (by decide +kernel : ∀ d, d < 2 ^ 1 → (4 * nI d) &&& 7 = (4 * nI d) + nI 0 ∧ ((4 * nI d) + 1) &&& 7 = (4 * nI d) + nI 1 ∧ ((4 * nI d) + 2) &&& 7 = (4 * nI d) + nI 2 ∧ ((4 * nI d) + 3) &&& 7 = (4 * nI d) + nI 3) d hd
  have n0 : ¬ (2 : Int32) ≤ nI 0 := by decide
  have n1 : ¬ (2 : Int32) ≤ nI 1 := by decide
  have n2 : (2 : Int32) ≤ nI 2 := by decide
  have n3 : (2 : Int32) ≤ nI 3 := by decide
  by_cases f2 : nI a = 2
  · rw [if_pos f2]
    obtain ⟨A, h1, h2, h3, h4, h5, h6, h7⟩ := c_setRom (k := false) (S := S) 0 1 (2 * nI b) ((2 * nI b) + 1)
    refine ⟨A, h1, h2, h7, ?_⟩
    simp only [if_pos (show (2 : Int32) ≤ nI a by rw [f2]; decide), if_pos f2]
    refine i4 ?_ ?_ ?_ ?_
    · rw [if_neg n0, h3]; exact k2.1
    · rw [if_neg n1, h4]; exact k2.2.1
    · rw [if_pos n2, h5]; exact k2.2.2.1
    · rw [if_pos n3, h6]; exact k2.2.2.2.1
  rw [if_neg f2]
  by_cases f3 : nI a = 3
  · rw [if_pos f3]
    obtain ⟨A, h1, h2, h3, h4, h5, h6, h7⟩ := c_setRom (k := false) (S := S) (2 * nI b) ((2 * nI b) + 1) 6 7
    refine ⟨A, h1, h2, h7, ?_⟩
    simp only [if_pos (show (2 : Int32) ≤ nI a by rw [f3]; decide), if_neg f2]
    refine i4 ?_ ?_ ?_ ?_
    · rw [if_neg n0, h3]; exact k2.2.2.2.2.1
    · rw [if_neg n1, h4]; exact k2.2.2.2.2.2.1
    · rw [if_pos n2, h5]; exact k2.2.2.2.2.2.2.1
    · rw [if_pos n3, h6]; exact k2.2.2.2.2.2.2.2
  · rw [if_neg f3]
    obtain ⟨A, h1, h2, h3, h4, h5, h6, h7⟩ := c_setRom (k := false) (S := S) (4 * nI d) ((4 * nI d) + 1) ((4 * nI d) + 2) ((4 * nI d) + 3)
    refine ⟨A, h1, h2, h7, ?_⟩
    simp only [if_neg ((by decide +kernel : ∀ a, a < 2 ^ 2 → ¬ nI a = 2 → ¬ nI a = 3 → ¬ (2 : Int32) ≤ nI a) a ha f2 f3)]
    refine i4 ?_ ?_ ?_ ?_
    · rw [h3]; exact k1.1
    · rw [h4]; exact k1.2.1
    · rw [h5]; exact k1.2.2.1
    · rw [h6]; exact k1.2.2.2
theorem mp1_chr (hI : Iw false S) : ∃ A : Nat → Nat → Int32, (sp_X3_mapChr S).2 = (S.1, S.2.1, S.2.2.1, A) ∧ (∀ q, q ≠ 5 → A q = S.2.2.2 q) ∧ (∀ i, 8 ≤ i → A 5 i = S.2.2.2 5 i) ∧ ∀ i : Nat, i < 8 → A 5 i = mC false (phC false S) (S.1 7) (S.1 8) (S.1 9) (S.2.2.2 19) (nI i) := by
  have hc := (ctl_S hI).2
  have hm : ∀ i, mC false (phC false S) (S.1 7) (S.1 8) (S.1 9) (S.2.2.2 19) (nI i) = (if S.1 6 = 0 then nI i else (if 4 ≤ nI i then ((4 * (S.1 8 &&& 1)) + (nI i &&& 3)) else ((4 * (S.1 7 &&& 1)) + (nI i &&& 3)))) := by
    intro i
    unfold mC
    rw [if_pos (by decide : bI false = 0)]
    simp only [hc]
  obtain ⟨b, hb, e1⟩ := pk_andE (S.1 7) (m := 1) 1 (by decide)
  obtain ⟨d, hd, e2⟩ := pk_andE (S.1 8) (m := 1) 1 (by decide)
  unfold sp_X3_mapChr
  simp only [gB, hm]
  rw [e1, e2]
  have k1 := (by decide +kernel : ∀ d, d < 2 ^ 1 → (4 * nI d) &&& 7 = (4 * nI d) + (nI 0 &&& 3) ∧ ((4 * nI d) + 1) &&& 7 = (4 * nI d) + (nI 1 &&& 3) ∧ ((4 * nI d) + 2) &&& 7 = (4 * nI d) + (nI 2 &&& 3) ∧ ((4 * nI d) + 3) &&& 7 = (4 * nI d) + (nI 3 &&& 3) ∧ (4 * nI d) &&& 7 = (4 * nI d) + (nI 4 &&& 3) ∧ ((4 * nI d) + 1) &&& 7 = (4 * nI d) + (nI 5 &&& 3) ∧ ((4 * nI d) + 2) &&& 7 = (4 * nI d) + (nI 6 &&& 3) ∧ ((4 * nI d) + 3) &&& 7 = (4 * nI d) + (nI 7 &&& 3))
  have l0 : ¬ (4 : Int32) ≤ nI 0 := by decide
  have l1 : ¬ (4 : Int32) ≤ nI 1 := by decide
  have l2 : ¬ (4 : Int32) ≤ nI 2 := by decide
  have l3 : ¬ (4 : Int32) ≤ nI 3 := by decide
  have l4 : (4 : Int32) ≤ nI 4 := by decide
  have l5 : (4 : Int32) ≤ nI 5 := by decide
  have l6 : (4 : Int32) ≤ nI 6 := by decide
  have l7 : (4 : Int32) ≤ nI 7 := by decide
  by_cases f : S.1 6 = 0
  · simp only [if_pos f]
    obtain ⟨A, h1, h2, h3, h4, h5, h6, h7⟩ := c_setChr0 (k := false) (S := S) 0 (0 + 1) (0 + 2) (0 + 3)
    rw [h1]
    obtain ⟨A2, g1, g2, g3, g4, g5, g6, g7⟩ := c_setChr4 (k := false) (S := (S.1, S.2.1, S.2.2.1, A)) 4 (4 + 1) (4 + 2) (4 + 3)
    refine ⟨A2, g1, fun q hq => (g2 q hq).trans (h2 q hq), fun i hi => (g7 i (Or.inr hi)).trans (h7 i (by omega)), i8 ?_ ?_ ?_ ?_ ?_ ?_ ?_ ?_⟩
    · rw [g7 0 (Or.inl (by omega))]; exact h3
    · rw [g7 1 (Or.inl (by omega))]; exact h4
    · rw [g7 2 (Or.inl (by omega))]; exact h5
    · rw [g7 3 (Or.inl (by omega))]; exact h6
    · exact g3
    · exact g4
    · exact g5
    · exact g6
  · simp only [if_neg f]
    obtain ⟨A, h1, h2, h3, h4, h5, h6, h7⟩ := c_setChr0 (k := false) (S := S) (4 * nI b) ((4 * nI b) + 1) ((4 * nI b) + 2) ((4 * nI b) + 3)
    rw [h1]
    obtain ⟨A2, g1, g2, g3, g4, g5, g6, g7⟩ := c_setChr4 (k := false) (S := (S.1, S.2.1, S.2.2.1, A)) (4 * nI d) ((4 * nI d) + 1) ((4 * nI d) + 2) ((4 * nI d) + 3)
    refine ⟨A2, g1, fun q hq => (g2 q hq).trans (h2 q hq), fun i hi => (g7 i (Or.inr hi)).trans (h7 i (by omega)), i8 ?_ ?_ ?_ ?_ ?_ ?_ ?_ ?_⟩
    · rw [g7 0 (Or.inl (by omega)), if_neg l0]; exact h3.trans (k1 b hb).1
    · rw [g7 1 (Or.inl (by omega)), if_neg l1]; exact h4.trans (k1 b hb).2.1
    · rw [g7 2 (Or.inl (by omega)), if_neg l2]; exact h5.trans (k1 b hb).2.2.1
    · rw [g7 3 (Or.inl (by omega)), if_neg l3]; exact h6.trans (k1 b hb).2.2.2.1
    · rw [if_pos l4]; exact g3.trans (k1 d hd).2.2.2.2.1
    · rw [if_pos l5]; exact g4.trans (k1 d hd).2.2.2.2.2.1
    · rw [if_pos l6]; exact g5.trans (k1 d hd).2.2.2.2.2.2.1
    · rw [if_pos l7]; exact g6.trans (k1 d hd).2.2.2.2.2.2.2
theorem ph_A {A : Nat → Nat → Int32} (h : ∀ q, q ≠ 4 → q ≠ 5 → A q = S.2.2.2 q) : ph k c sp cr gn (S.1, S.2.1, S.2.2.1, A) = ph k c sp cr gn S := by
  refine ph_ext (fun _ => rfl) (fun _ => rfl) (fun _ => rfl) (fun i => ?_)
  show phA (S.1, S.2.1, S.2.2.1, A) i = phA S i
  unfold phA
  split <;> first | rfl | exact h _ (by decide) (by decide)
theorem iv_mp {A : Nat → Nat → Int32} (hI : Iw k S) (hA : ∀ q i, A q i &&& 255 = A q i) (hb : Bk k (S.1, S.2.1, S.2.2.1, A)) : Iv k (S.1, S.2.1, S.2.2.1, A) := ⟨hI.1, hA, hI.2.2.1, hI.2.2.2.1, hI.2.2.2.2.1, hI.2.2.2.2.2.1, hI.2.2.2.2.2.2, hb⟩
theorem and7_255 {x y : Int32} (h : x = y) (h7 : y &&& 7 = y) : x &&& 255 = x := by
  rw [h, ← h7, Int32.and_assoc]
  rfl
/-- both maps: the reference sees nothing of it; the banks are right again -/
theorem mp_all {A A2 : Nat → Nat → Int32} (hI : Iw k S) (h2 : ∀ q, q ≠ 4 → A q = S.2.2.2 q) (h3 : ∀ i, 4 ≤ i → A 4 i = S.2.2.2 4 i) (h4 : ∀ i : Nat, i < 4 → A 4 i = mP k (phC k S) (S.1 5) (S.1 9) (S.2.2.2 19 6) (S.2.2.2 19 7) (nI i))
    (g2 : ∀ q, q ≠ 5 → A2 q = A q) (g3 : ∀ i, 8 ≤ i → A2 5 i = A 5 i) (g4 : ∀ i : Nat, i < 8 → A2 5 i = mC k (phC k S) (S.1 7) (S.1 8) (S.1 9) (A 19) (nI i)) :
    (∀ c sp cr gn, ph k c sp cr gn (S.1, S.2.1, S.2.2.1, A2) = ph k c sp cr gn S) ∧ Iv k (S.1, S.2.1, S.2.2.1, A2) := by
  have e19 : A 19 = S.2.2.2 19 := h2 19 (by decide)
  have f19 : A2 19 = S.2.2.2 19 := (g2 19 (by decide)).trans e19
  have f4 : A2 4 = A 4 := g2 4 (by decide)
  rw [e19] at g4
  refine ⟨fun c sp cr gn => ph_A (fun q a b => (g2 q b).trans (h2 q a)), iv_mp hI (fun q i => ?_) ⟨fun i hi => ?_, fun i hi => ?_⟩⟩
  · by_cases e5 : q = 5
    · subst e5
      by_cases hi : i < 8
      · exact and7_255 (g4 i hi) (mC_lt _ _ _ _ _ _ i hi)
      · rw [g3 i (by omega), h2 5 (by decide)]; exact hI.2.1 5 i
    rw [g2 q e5]
    by_cases e4 : q = 4
    · subst e4
      by_cases hi : i < 4
      · exact and7_255 (h4 i hi) (mP_lt _ _ _ _ _ _ i hi)
      · rw [h3 i (by omega)]; exact hI.2.1 4 i
    · rw [h2 q e4]; exact hI.2.1 q i
  · show A2 4 i = mP k (phC k S) (S.1 5) (S.1 9) (A2 19 6) (A2 19 7) (nI i)
    rw [f4, f19]; exact h4 i hi
  · show A2 5 i = mC k (phC k S) (S.1 7) (S.1 8) (S.1 9) (A2 19) (nI i)
    rw [f19]; exact g4 i hi
theorem mp1 (hI : Iw false S) : (∀ c sp cr gn, ph false c sp cr gn (sp_X3_mapChr (sp_X3_mapRom S).2).2 = ph false c sp cr gn S) ∧ Iv false (sp_X3_mapChr (sp_X3_mapRom S).2).2 ∧ ∃ A, (sp_X3_mapChr (sp_X3_mapRom S).2).2 = (S.1, S.2.1, S.2.2.1, A) := by
  obtain ⟨A, h1, h2, h3, h4⟩ := mp1_rom hI
  rw [h1]
  have hA : ∀ q i, A q i &&& 255 = A q i := by
    intro q i
    by_cases e : q = 4
    · subst e
      by_cases hi : i < 4
      · exact and7_255 (h4 i hi) (mP_lt _ _ _ _ _ _ i hi)
      · rw [h3 i (by omega)]; exact hI.2.1 4 i
    · rw [h2 q e]; exact hI.2.1 q i
  obtain ⟨A2, g1, g2, g3, g4⟩ := mp1_chr (S := (S.1, S.2.1, S.2.2.1, A)) ⟨hI.1, hA, hI.2.2⟩
  rw [g1]
  obtain ⟨r1, r2⟩ := mp_all hI h2 h3 h4 g2 g3 g4
  exact ⟨r1, r2, A2, rfl⟩
theorem bit_e (x : Int32) : (x &&& (-2)) &&& 7 = ((x &&& 254) ||| 0) &&& 7 ∧ (x ||| 1) &&& 7 = ((x &&& 254) ||| 1) &&& 7 := by
  constructor
  · apply b_ext
    intro i hi
    have h := (by decide : ∀ i, i < 32 → (bt (-2) i && bt 7 i) = (bt 254 i && bt 7 i) ∧ (bt 0 i && bt 7 i) = false) i hi
    simp only [b_and, b_or]
    revert h
    cases bt x i <;> cases bt (-2) i <;> cases bt 7 i <;> cases bt 254 i <;> cases bt 0 i <;> decide
  · apply b_ext
    intro i hi
    have h := (by decide : ∀ i, i < 32 → (bt 7 i = true → (bt 254 i = true ∨ bt 1 i = true))) i hi
    simp only [b_and, b_or]
    revert h
    cases bt x i <;> cases bt 1 i <;> cases bt 7 i <;> cases bt 254 i <;> decide
theorem mp3_rom : ∃ A : Nat → Nat → Int32, (sp_X4_mapRom S).2 = (S.1, S.2.1, S.2.2.1, A) ∧ (∀ q, q ≠ 4 → A q = S.2.2.2 q) ∧ (∀ i, 4 ≤ i → A 4 i = S.2.2.2 4 i) ∧ ∀ i : Nat, i < 4 → A 4 i = mP true (phC true S) (S.1 5) (S.1 9) (S.2.2.2 19 6) (S.2.2.2 19 7) (nI i) := by
  unfold sp_X4_mapRom mP
  simp only [gB, if_neg (by decide : ¬ bI true = 0)]
  by_cases f : S.1 9 &&& 64 = 0
  · simp only [if_pos f]
    obtain ⟨A, h1, h2, h3, h4, h5, h6, h7⟩ := c_setRom (k := true) (S := S) (aG S 19 6) (aG S 19 7) 6 7
    exact ⟨A, h1, h2, h7, i4 h3 h4 h5 h6⟩
  · simp only [if_neg f]
    obtain ⟨A, h1, h2, h3, h4, h5, h6, h7⟩ := c_setRom (k := true) (S := S) 6 (aG S 19 7) (aG S 19 6) 7
    exact ⟨A, h1, h2, h7, i4 h3 h4 h5 h6⟩
theorem mp3_chr : ∃ A : Nat → Nat → Int32, (sp_X4_mapChr S).2 = (S.1, S.2.1, S.2.2.1, A) ∧ (∀ q, q ≠ 5 → A q = S.2.2.2 q) ∧ (∀ i, 8 ≤ i → A 5 i = S.2.2.2 5 i) ∧ ∀ i : Nat, i < 8 → A 5 i = mC true (phC true S) (S.1 7) (S.1 8) (S.1 9) (S.2.2.2 19) (nI i) := by
  unfold sp_X4_mapChr mC
  simp only [gB, if_neg (by decide : ¬ bI true = 0)]
  by_cases f : S.1 9 &&& 128 = 0
  · simp only [if_pos f]
    obtain ⟨A, h1, h2, h3, h4, h5, h6, h7⟩ := c_setChr0 (k := true) (S := S) ((aG S 19 0) &&& (-2)) ((aG S 19 0) ||| 1) ((aG S 19 1) &&& (-2)) ((aG S 19 1) ||| 1)
    rw [h1]
    have e : ∀ i, aG (S.1, S.2.1, S.2.2.1, A) 19 i = aG S 19 i := fun i => congrFun (h2 19 (by decide)) _
    simp only [e, show (4 : Int32) - 0 = 4 from rfl]
    obtain ⟨A2, g1, g2, g3, g4, g5, g6, g7⟩ := c_setChr4 (k := true) (S := (S.1, S.2.1, S.2.2.1, A)) (aG S 19 2) (aG S 19 3) (aG S 19 4) (aG S 19 5)
    refine ⟨A2, g1, fun q hq => (g2 q hq).trans (h2 q hq), fun i hi => (g7 i (Or.inr hi)).trans (h7 i (by omega)), i8 ?_ ?_ ?_ ?_ g3 g4 g5 g6⟩
    · rw [g7 0 (Or.inl (by omega))]; exact h3.trans (bit_e _).1
    · rw [g7 1 (Or.inl (by omega))]; exact h4.trans (bit_e _).2
    · rw [g7 2 (Or.inl (by omega))]; exact h5.trans (bit_e _).1
    · rw [g7 3 (Or.inl (by omega))]; exact h6.trans (bit_e _).2
  · simp only [if_neg f]
    obtain ⟨A, h1, h2, h3, h4, h5, h6, h7⟩ := c_setChr4 (k := true) (S := S) ((aG S 19 0) &&& (-2)) ((aG S 19 0) ||| 1) ((aG S 19 1) &&& (-2)) ((aG S 19 1) ||| 1)
    rw [h1]
    have e : ∀ i, aG (S.1, S.2.1, S.2.2.1, A) 19 i = aG S 19 i := fun i => congrFun (h2 19 (by decide)) _
    simp only [e, show (4 : Int32) - 4 = 0 from rfl]
    obtain ⟨A2, g1, g2, g3, g4, g5, g6, g7⟩ := c_setChr0 (k := true) (S := (S.1, S.2.1, S.2.2.1, A)) (aG S 19 2) (aG S 19 3) (aG S 19 4) (aG S 19 5)
    refine ⟨A2, g1, fun q hq => (g2 q hq).trans (h2 q hq), fun i hi => (g7 i (by omega)).trans (h7 i (Or.inr hi)), i8 g3 g4 g5 g6 ?_ ?_ ?_ ?_⟩
    · rw [g7 4 (by omega)]; exact h3.trans (bit_e _).1
    · rw [g7 5 (by omega)]; exact h4.trans (bit_e _).2
    · rw [g7 6 (by omega)]; exact h5.trans (bit_e _).1
    · rw [g7 7 (by omega)]; exact h6.trans (bit_e _).2
theorem mp3 (hI : Iw true S) : (∀ c sp cr gn, ph true c sp cr gn (sp_X4_mapChr (sp_X4_mapRom S).2).2 = ph true c sp cr gn S) ∧ Iv true (sp_X4_mapChr (sp_X4_mapRom S).2).2 ∧ ∃ A, (sp_X4_mapChr (sp_X4_mapRom S).2).2 = (S.1, S.2.1, S.2.2.1, A) := by
  obtain ⟨A, h1, h2, h3, h4⟩ := mp3_rom (S := S)
  rw [h1]
  obtain ⟨A2, g1, g2, g3, g4⟩ := mp3_chr (S := (S.1, S.2.1, S.2.2.1, A))
  rw [g1]
  obtain ⟨r1, r2⟩ := mp_all hI h2 h3 h4 g2 g3 g4
  exact ⟨r1, r2, A2, rfl⟩
end PG
