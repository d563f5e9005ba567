section PZp
variable {k : Bool} {c sp : Int32} {cr : Bool} {gn : Int64} {S M : gSt}
theorem wv_ph (hI : Iv k S) : Wv (ph k c sp cr gn S) := by
  refine ⟨fun j => ?_, fun q i => ?_⟩
  · match j with
    | 0 => exact Int32.and_neg_one
    | 1 => exact hI.1 27
    | 2 => exact hI.1 28
    | 3 => exact hI.1 29
    | 4 => exact hI.1 30
    | 5 => exact hI.1 31
    | 6 => exact hI.1 32
    | 7 => exact Int32.and_neg_one
    | 8 => exact Int32.and_neg_one
    | 9 => exact Int32.and_neg_one
    | 10 => exact hI.1 14
    | 11 => exact hI.1 15
    | 12 => exact Int32.and_neg_one
    | 13 => exact Int32.and_neg_one
    | 14 => exact Int32.and_neg_one
    | 15 => exact Int32.and_neg_one
    | 16 => exact hI.1 20
    | 17 => exact Int32.and_neg_one
    | 18 => exact Int32.and_neg_one
    | 19 => exact Int32.and_neg_one
    | 20 => exact Int32.and_neg_one
    | 21 => exact Int32.and_neg_one
    | 22 => exact Int32.and_neg_one
    | 23 => exact Int32.and_neg_one
    | 24 => exact Int32.and_neg_one
    | 25 => exact Int32.and_neg_one
    | 26 => exact Int32.and_neg_one
    | 27 => exact Int32.and_neg_one
    | 28 => exact Int32.and_neg_one
    | 29 => exact Int32.and_neg_one
    | 30 => exact Int32.and_neg_one
    | 31 => exact (by cases S.2.1 5 <;> decide : bI (S.2.1 5) &&& 1 = bI (S.2.1 5))
    | 32 => exact Int32.and_neg_one
    | 33 => exact Int32.and_neg_one
    | _ + 34 => exact Int32.and_neg_one
  · match q with
    | 1 => exact hI.2.1 16 i
    | 2 => exact hI.2.1 17 i
    | 3 => exact hI.2.1 2 i
    | 4 => exact hI.2.1 3 i
    | 5 => exact hI.2.1 7 i
    | 6 => exact hI.2.1 8 i
    | 7 => exact hI.2.1 9 i
    | 0 => exact Int32.and_neg_one
    | _ + 8 => exact Int32.and_neg_one
/-- class and reference belong together, the first kind's line counter at zero -/
def Rx (k : Bool) (S M : gSt) : Prop := Rl k S M ∧ (k = false → S.1 11 = 0)
theorem rx_w (h : Rx k S M) : Wv M := by
  obtain ⟨⟨c, sp, cr, gn, rfl, hI, hG⟩, h0⟩ := h
  exact wv_ph hI
theorem rx_of {T M' : gSt} (h : Rx k S M) (h' : Rl k T M') (e : k = false → T.1 11 = S.1 11) : Rx k T M' := ⟨h', fun z => (e z).trans (h.2 z)⟩
theorem x_step (h : Rx k S M) : (sp_X10_step M).1 = (sp_X9_step k S).1 ∧ Rx k (sp_X9_step k S).2 (sp_X10_step M).2 := ⟨(r_step h.1).1, rx_of h (r_step h.1).2 (fun z => by subst z; exact f11_X9_step S)⟩
theorem x_run (h : Rx k S M) (a0 : Int32) : (sp_X10_run a0 M).1 = (sp_X9_run k a0 S).1 ∧ Rx k (sp_X9_run k a0 S).2 (sp_X10_run a0 M).2 := ⟨(r_run h.1 a0).1, rx_of h (r_run h.1 a0).2 (fun z => by subst z; exact f11_X9_run a0 S)⟩
theorem x_pass (h : Rx k S M) (a0 : Int32) : (sp_X10_pass a0 M).1 = (sp_X9_pass k a0 S).1 ∧ Rx k (sp_X9_pass k a0 S).2 (sp_X10_pass a0 M).2 := ⟨(r_pass h.1 a0).1, rx_of h (r_pass h.1 a0).2 (fun z => by subst z; exact f11_X9_pass a0 S)⟩
theorem x_read (h : Rx k S M) (a0 : Int32) : (sp_X10_read a0 M).1 = (sp_X9_read k a0 S).1 ∧ Rx k (sp_X9_read k a0 S).2 (sp_X10_read a0 M).2 := ⟨(r_read h.1 a0).1, rx_of h (r_read h.1 a0).2 (fun z => by subst z; exact f11_X9_read a0 S)⟩
theorem x_memory (h : Rx k S M) (a0 : Int32) : (sp_X10_memory a0 M).1 = (sp_X9_memory k a0 S).1 ∧ Rx k (sp_X9_memory k a0 S).2 (sp_X10_memory a0 M).2 := ⟨(r_memory h.1 a0).1, rx_of h (r_memory h.1 a0).2 (fun z => by subst z; exact f11_X9_memory a0 S)⟩
theorem x_write (h : Rx k S M) (a0 a1 : Int32) : Rx k (sp_X9_write k a0 a1 S).2 (sp_X10_write a0 a1 M).2 := rx_of h (r_write h.1 a0 a1) (fun z => by subst z; exact f11_X9_write a0 a1 S)
theorem x_reset (h : Rx k S M) : Rx k (sp_X9_reset k S).2 (sp_X10_reset M).2 := rx_of h (r_reset h.1) (fun z => by subst z; exact f11_X9_reset S)
/-- the reference's code alone has changed -/
theorem rx_code (h : Rx k S M) (v : Int32) : Rx k S (sI M 0 v) := by
  obtain ⟨⟨c, sp, cr, gn, rfl, hI, hG⟩, h0⟩ := h
  exact ⟨⟨v, sp, cr, gn, phw_code k c sp cr gn S v, hI, hG⟩, h0⟩
theorem le_lt {a : Int32} (n : Nat) (h1 : ¬ a < 0) (hn : n + 1 < 2 ^ 31) : a ≤ nI n ↔ a < nI (n + 1) := by
  obtain ⟨j, hj, rfl⟩ := nI_of h1
  rw [nI_leI hj (by omega), nI_ltI hj (by omega)]
  omega
theorem x_rom (h : Rx k S M) {a0 : Int32} (a1 : Int32) (hv : ¬ a0 < 0 ∧ a0 < 512) : (sp_X10_rom a0 a1 M).2.1 0 = 0 ∧ Rx k (sp_X9_rom k a0 a1 S).2 (sp_X10_rom a0 a1 M).2 ∧ ok_X10_rom a0 a1 M := by
  obtain ⟨⟨c, sp, cr, gn, rfl, hI, hG⟩, h0⟩ := h
  have h2 : a0 ≤ 511 := (le_lt 511 hv.1 (by omega)).mpr hv.2
  have e : sp_X10_rom a0 a1 (ph k c sp cr gn S) = ((), ph k 0 sp cr gn (aP S 2 a0 (a1 &&& 255))) := by
    unfold sp_X10_rom
    rw [if_neg hv.1, if_pos h2, gL, if_pos (show (sI (ph k c sp cr gn S) 0 0).1 0 = 0 from rfl), gL, phw_code, phs_prg]
  have e2 : sp_X9_rom k a0 a1 S = ((), aP S 2 a0 (a1 &&& 255)) := by
    unfold sp_X9_rom
    rw [if_neg hv.1, if_pos hv.2]
    rfl
  refine ⟨by rw [e]; rfl, ?_, ?_⟩
  · rw [e, e2]
    exact ⟨⟨0, sp, cr, gn, rfl, iv_aP 2 a0 hI (by_and a1) hI.2.2, hG⟩, h0⟩
  · unfold ok_X10_rom
    exact ⟨fun z => absurd z hv.1, fun _ => ⟨fun _ S3 _ => ⟨fun _ => ⟨v_lt 512 hv.1 hv.2 (by decide), fun _ _ => trivial⟩, fun _ => trivial⟩, fun z => absurd h2 z⟩⟩
theorem y_rom (h : Rx k S M) {a0 : Int32} (a1 : Int32) (hv : ¬ (¬ a0 < 0 ∧ a0 < 512)) : (sp_X10_rom a0 a1 M).2.1 0 = 1 ∧ Rx k S (sp_X10_rom a0 a1 M).2 ∧ ok_X10_rom a0 a1 M := by
  have e : sp_X10_rom a0 a1 M = ((), sI M 0 1) := by
    unfold sp_X10_rom
    by_cases h1 : a0 < 0
    · rw [if_pos h1, gL, if_neg (show ¬ (sI M 0 1).1 0 = 0 from (by decide : ¬ (1 : Int32) = 0))]
    · rw [if_neg h1, if_neg (show ¬ a0 ≤ 511 from fun z => hv ⟨h1, (le_lt 511 h1 (by omega)).mp z⟩), gL, if_neg (show ¬ (sI M 0 1).1 0 = 0 from (by decide : ¬ (1 : Int32) = 0))]
  refine ⟨by rw [e]; rfl, by rw [e]; exact rx_code h 1, ?_⟩
  unfold ok_X10_rom
  exact ⟨fun _ S1 e1 => ⟨fun z => absurd (show (1 : Int32) = 0 by subst e1; exact z) (by decide), fun _ => trivial⟩, fun h1 => ⟨fun z => absurd ⟨h1, (le_lt 511 h1 (by omega)).mp z⟩ hv, fun _ S5 e5 => ⟨fun z => absurd (show (1 : Int32) = 0 by subst e5; exact z) (by decide), fun _ => trivial⟩⟩⟩
theorem x_chr (h : Rx k S M) {a0 : Int32} (a1 : Int32) (hv : ¬ a0 < 0 ∧ a0 < 128) : (sp_X10_chr a0 a1 M).2.1 0 = 0 ∧ Rx k (sp_X9_chr k a0 a1 S).2 (sp_X10_chr a0 a1 M).2 ∧ ok_X10_chr a0 a1 M := by
  obtain ⟨⟨c, sp, cr, gn, rfl, hI, hG⟩, h0⟩ := h
  have h2 : a0 ≤ 127 := (le_lt 127 hv.1 (by omega)).mpr hv.2
  have e : sp_X10_chr a0 a1 (ph k c sp cr gn S) = ((), ph k 0 sp cr gn (aP S 3 a0 (a1 &&& 255))) := by
    unfold sp_X10_chr
    rw [if_neg hv.1, if_pos h2, gL, if_pos (show (sI (ph k c sp cr gn S) 0 0).1 0 = 0 from rfl), gL, phw_code, phs_patterns]
  have e2 : sp_X9_chr k a0 a1 S = ((), aP S 3 a0 (a1 &&& 255)) := by
    unfold sp_X9_chr
    rw [if_neg hv.1, if_pos hv.2]
    rfl
  refine ⟨by rw [e]; rfl, ?_, ?_⟩
  · rw [e, e2]
    exact ⟨⟨0, sp, cr, gn, rfl, iv_aP 3 a0 hI (by_and a1) hI.2.2, hG⟩, h0⟩
  · unfold ok_X10_chr
    exact ⟨fun z => absurd z hv.1, fun _ => ⟨fun _ S3 _ => ⟨fun _ => ⟨v_lt 128 hv.1 hv.2 (by decide), fun _ _ => trivial⟩, fun _ => trivial⟩, fun z => absurd h2 z⟩⟩
theorem y_chr (h : Rx k S M) {a0 : Int32} (a1 : Int32) (hv : ¬ (¬ a0 < 0 ∧ a0 < 128)) : (sp_X10_chr a0 a1 M).2.1 0 = 1 ∧ Rx k S (sp_X10_chr a0 a1 M).2 ∧ ok_X10_chr a0 a1 M := by
  have e : sp_X10_chr a0 a1 M = ((), sI M 0 1) := by
    unfold sp_X10_chr
    by_cases h1 : a0 < 0
    · rw [if_pos h1, gL, if_neg (show ¬ (sI M 0 1).1 0 = 0 from (by decide : ¬ (1 : Int32) = 0))]
    · rw [if_neg h1, if_neg (show ¬ a0 ≤ 127 from fun z => hv ⟨h1, (le_lt 127 h1 (by omega)).mp z⟩), gL, if_neg (show ¬ (sI M 0 1).1 0 = 0 from (by decide : ¬ (1 : Int32) = 0))]
  refine ⟨by rw [e]; rfl, by rw [e]; exact rx_code h 1, ?_⟩
  unfold ok_X10_chr
  exact ⟨fun _ S1 e1 => ⟨fun z => absurd (show (1 : Int32) = 0 by subst e1; exact z) (by decide), fun _ => trivial⟩, fun h1 => ⟨fun z => absurd ⟨h1, (le_lt 127 h1 (by omega)).mp z⟩ hv, fun _ S5 e5 => ⟨fun z => absurd (show (1 : Int32) = 0 by subst e5; exact z) (by decide), fun _ => trivial⟩⟩⟩
theorem pad_01 {a0 : Int32} (hv : ¬ a0 < 0 ∧ a0 ≤ 1) : a0 = 0 ∨ a0 = 1 := by
  obtain ⟨j, hj, rfl⟩ := nI_of hv.1
  have g : j ≤ 1 := Nat.not_lt.mp (fun z => nI_ge (a := 1) z hj hv.2)
  rcases (show j = 0 ∨ j = 1 by omega) with rfl | rfl
  · exact Or.inl rfl
  · exact Or.inr rfl
theorem x_pad (h : Rx k S M) {a0 : Int32} (a1 : Int32) (hv : ¬ a0 < 0 ∧ a0 ≤ 1) : (sp_X10_pad a0 a1 M).2.1 0 = 0 ∧ Rx k (sp_X9_pad k a0 a1 S).2 (sp_X10_pad a0 a1 M).2 ∧ ok_X10_pad a0 a1 M := by
  obtain ⟨⟨c, sp, cr, gn, rfl, hI, hG⟩, h0⟩ := h
  have e : sp_X10_pad a0 a1 (ph k c sp cr gn S) = ((), ph k 0 sp cr gn (aP S 13 a0 (a1 &&& 255))) := by
    unfold sp_X10_pad
    rcases pad_01 hv with rfl | rfl
    · rw [if_pos rfl, gL, if_pos (show (sI (ph k c sp cr gn S) 0 0).1 0 = 0 from rfl), gL, phw_code, phs_buttons]
    · rw [if_neg (by decide), if_pos rfl, gL, if_pos (show (sI (ph k c sp cr gn S) 0 0).1 0 = 0 from rfl), gL, phw_code, phs_buttons]
  have e2 : sp_X9_pad k a0 a1 S = ((), aP S 13 a0 (a1 &&& 255)) := by
    unfold sp_X9_pad
    rw [if_neg hv.1, if_pos hv.2]
    rfl
  refine ⟨by rw [e]; rfl, ?_, ?_⟩
  · rw [e, e2]
    exact ⟨⟨0, sp, cr, gn, rfl, iv_aP 13 a0 hI (by_and a1) hI.2.2, hG⟩, h0⟩
  · unfold ok_X10_pad
    exact ⟨fun _ S3 _ => ⟨fun _ => ⟨v_le 1 hv.1 hv.2 (by decide), fun _ _ => trivial⟩, fun _ => trivial⟩, fun n0 => ⟨fun _ S3 _ => ⟨fun _ => ⟨v_le 1 hv.1 hv.2 (by decide), fun _ _ => trivial⟩, fun _ => trivial⟩, fun n1 => absurd (pad_01 hv) (fun z => z.elim n0 n1)⟩⟩
theorem y_pad (h : Rx k S M) {a0 : Int32} (a1 : Int32) (hv : ¬ (¬ a0 < 0 ∧ a0 ≤ 1)) : (sp_X10_pad a0 a1 M).2.1 0 = 1 ∧ Rx k S (sp_X10_pad a0 a1 M).2 ∧ ok_X10_pad a0 a1 M := by
  have n0 : ¬ a0 = 0 := fun z => hv (by rw [z]; decide)
  have n1 : ¬ a0 = 1 := fun z => hv (by rw [z]; decide)
  have e : sp_X10_pad a0 a1 M = ((), sI M 0 1) := by
    unfold sp_X10_pad
    rw [if_neg n0, if_neg n1, gL, if_neg (show ¬ (sI M 0 1).1 0 = 0 from (by decide : ¬ (1 : Int32) = 0))]
  refine ⟨by rw [e]; rfl, by rw [e]; exact rx_code h 1, ?_⟩
  unfold ok_X10_pad
  exact ⟨fun z => absurd z n0, fun _ => ⟨fun z => absurd z n1, fun _ S5 e5 => ⟨fun z => absurd (show (1 : Int32) = 0 by subst e5; exact z) (by decide), fun _ => trivial⟩⟩⟩
theorem fail_e (M : gSt) : sp_X10_fail M = (0, sI M 0 1) := rfl

theorem x_core (h : Rx k S M) {a0 : Int32} (hv : a0 = 0 ∨ a0 = 1 ∨ a0 = 2 ∨ a0 = 3 ∨ a0 = 4 ∨ a0 = 5 ∨ a0 = 6 ∨ a0 = 7 ∨ a0 = 8) : (sp_X10_core a0 M).1 = (sp_X9_core k a0 S).1 ∧ (sp_X10_core a0 M).2.1 0 = 0 ∧ Rx k (sp_X9_core k a0 S).2 (sp_X10_core a0 M).2 ∧ ok_X10_core a0 M := by
  have hk : ok_X10_core a0 M := by
    unfold ok_X10_core ok_X10_fail
    simp only [implies_true, and_self]
  have hR0 := rx_code h 0
  obtain ⟨⟨c, sp, cr, gn, rfl, hI, hG⟩, h0⟩ := h
  unfold sp_X10_core sp_X9_core at *
  rw [gL]
  rcases hv with rfl | rfl | rfl | rfl | rfl | rfl | rfl | rfl | rfl
  · rw [if_pos rfl, if_pos rfl]
    exact ⟨rfl, rfl, hR0, hk⟩
  · rw [if_neg (by decide), if_pos rfl, if_neg (by decide), if_pos rfl]
    exact ⟨rfl, rfl, hR0, hk⟩
  · rw [if_neg (by decide), if_neg (by decide), if_pos rfl, if_neg (by decide), if_neg (by decide), if_pos rfl]
    exact ⟨rfl, rfl, hR0, hk⟩
  · rw [if_neg (by decide), if_neg (by decide), if_neg (by decide), if_pos rfl, if_neg (by decide), if_neg (by decide), if_neg (by decide), if_pos rfl]
    exact ⟨rfl, rfl, hR0, hk⟩
  · rw [if_neg (by decide), if_neg (by decide), if_neg (by decide), if_neg (by decide), if_pos rfl, if_neg (by decide), if_neg (by decide), if_neg (by decide), if_neg (by decide), if_pos rfl]
    exact ⟨rfl, rfl, hR0, hk⟩
  · rw [if_neg (by decide), if_neg (by decide), if_neg (by decide), if_neg (by decide), if_neg (by decide), if_pos rfl, if_neg (by decide), if_neg (by decide), if_neg (by decide), if_neg (by decide), if_neg (by decide), if_pos rfl]
    exact ⟨rfl, rfl, hR0, hk⟩
  · rw [if_neg (by decide), if_neg (by decide), if_neg (by decide), if_neg (by decide), if_neg (by decide), if_neg (by decide), if_pos rfl, if_neg (by decide), if_neg (by decide), if_neg (by decide), if_neg (by decide), if_neg (by decide), if_neg (by decide), if_pos rfl]
    exact ⟨hG.symm, rfl, hR0, hk⟩
  · by_cases hb : bI (S.2.1 2) = 0
    · rw [if_neg (by decide), if_neg (by decide), if_neg (by decide), if_neg (by decide), if_neg (by decide), if_neg (by decide), if_neg (by decide), if_pos rfl, if_pos (show bI ((sI (ph k c sp cr gn S) 0 0).2.1 1) = 0 from hb), if_neg (by decide), if_neg (by decide), if_neg (by decide), if_neg (by decide), if_neg (by decide), if_neg (by decide), if_neg (by decide), if_pos rfl, if_pos hb]
      exact ⟨rfl, rfl, hR0, hk⟩
    · rw [if_neg (by decide), if_neg (by decide), if_neg (by decide), if_neg (by decide), if_neg (by decide), if_neg (by decide), if_neg (by decide), if_pos rfl, if_neg (show ¬ bI ((sI (ph k c sp cr gn S) 0 0).2.1 1) = 0 from hb), if_neg (by decide), if_neg (by decide), if_neg (by decide), if_neg (by decide), if_neg (by decide), if_neg (by decide), if_neg (by decide), if_pos rfl, if_neg hb]
      exact ⟨rfl, rfl, hR0, hk⟩
  · rw [if_neg (by decide), if_neg (by decide), if_neg (by decide), if_neg (by decide), if_neg (by decide), if_neg (by decide), if_neg (by decide), if_neg (by decide), if_pos rfl, if_neg (by decide), if_neg (by decide), if_neg (by decide), if_neg (by decide), if_neg (by decide), if_neg (by decide), if_neg (by decide), if_neg (by decide), if_pos rfl]
    simp only [gB, irq2]
    refine ⟨?_, rfl, hR0, hk⟩
    show bI (S.2.1 5) + 2 * bI (S.2.1 0) = _
    unfold sp_X9_irqLines
    cases S.2.1 5 <;> cases S.2.1 0 <;> rfl
theorem y_core (h : Rx k S M) {a0 : Int32} (hv : ¬ (a0 = 0 ∨ a0 = 1 ∨ a0 = 2 ∨ a0 = 3 ∨ a0 = 4 ∨ a0 = 5 ∨ a0 = 6 ∨ a0 = 7 ∨ a0 = 8)) : (sp_X10_core a0 M).2.1 0 = 1 ∧ Rx k S (sp_X10_core a0 M).2 ∧ ok_X10_core a0 M := by
  have hk : ok_X10_core a0 M := by
    unfold ok_X10_core ok_X10_fail
    simp only [implies_true, and_self]
  have e : sp_X10_core a0 M = (0, sI (sI M 0 0) 0 1) := by
    unfold sp_X10_core
    rw [gL, if_neg (fun z => hv (Or.inl z)), if_neg (fun z => hv (Or.inr (Or.inl z))), if_neg (fun z => hv (Or.inr (Or.inr (Or.inl z)))), if_neg (fun z => hv (Or.inr (Or.inr (Or.inr (Or.inl z))))), if_neg (fun z => hv (Or.inr (Or.inr (Or.inr (Or.inr (Or.inl z)))))), if_neg (fun z => hv (Or.inr (Or.inr (Or.inr (Or.inr (Or.inr (Or.inl z))))))), if_neg (fun z => hv (Or.inr (Or.inr (Or.inr (Or.inr (Or.inr (Or.inr (Or.inl z)))))))), if_neg (fun z => hv (Or.inr (Or.inr (Or.inr (Or.inr (Or.inr (Or.inr (Or.inr (Or.inl z))))))))), if_neg (fun z => hv (Or.inr (Or.inr (Or.inr (Or.inr (Or.inr (Or.inr (Or.inr (Or.inr (z))))))))))]
    rfl
  refine ⟨by rw [e]; rfl, by rw [e]; exact rx_code (rx_code h 0) 1, hk⟩
theorem x_picture (h : Rx k S M) {a0 : Int32} (hv : a0 = 0 ∨ a0 = 1 ∨ a0 = 2 ∨ a0 = 3 ∨ a0 = 4 ∨ a0 = 5 ∨ a0 = 6 ∨ a0 = 7 ∨ a0 = 8 ∨ a0 = 9 ∨ a0 = 10) : (sp_X10_picture a0 M).1 = (sp_X9_picture k a0 S).1 ∧ (sp_X10_picture a0 M).2.1 0 = 0 ∧ Rx k (sp_X9_picture k a0 S).2 (sp_X10_picture a0 M).2 ∧ ok_X10_picture a0 M := by
  have hk : ok_X10_picture a0 M := by
    unfold ok_X10_picture ok_X10_fail
    simp only [implies_true, and_self]
  have hR0 := rx_code h 0
  obtain ⟨⟨c, sp, cr, gn, rfl, hI, hG⟩, h0⟩ := h
  unfold sp_X10_picture sp_X9_picture at *
  rw [gL]
  rcases hv with rfl | rfl | rfl | rfl | rfl | rfl | rfl | rfl | rfl | rfl | rfl
  · rw [if_pos rfl, if_pos rfl]
    exact ⟨rfl, rfl, hR0, hk⟩
  · rw [if_neg (by decide), if_pos rfl, if_neg (by decide), if_pos rfl]
    exact ⟨rfl, rfl, hR0, hk⟩
  · rw [if_neg (by decide), if_neg (by decide), if_pos rfl, if_neg (by decide), if_neg (by decide), if_pos rfl]
    exact ⟨rfl, rfl, hR0, hk⟩
  · rw [if_neg (by decide), if_neg (by decide), if_neg (by decide), if_pos rfl, if_neg (by decide), if_neg (by decide), if_neg (by decide), if_pos rfl]
    exact ⟨rfl, rfl, hR0, hk⟩
  · rw [if_neg (by decide), if_neg (by decide), if_neg (by decide), if_neg (by decide), if_pos rfl, if_neg (by decide), if_neg (by decide), if_neg (by decide), if_neg (by decide), if_pos rfl]
    exact ⟨rfl, rfl, hR0, hk⟩
  · rw [if_neg (by decide), if_neg (by decide), if_neg (by decide), if_neg (by decide), if_neg (by decide), if_pos rfl, if_neg (by decide), if_neg (by decide), if_neg (by decide), if_neg (by decide), if_neg (by decide), if_pos rfl]
    exact ⟨rfl, rfl, hR0, hk⟩
  · rw [if_neg (by decide), if_neg (by decide), if_neg (by decide), if_neg (by decide), if_neg (by decide), if_neg (by decide), if_pos rfl, if_neg (by decide), if_neg (by decide), if_neg (by decide), if_neg (by decide), if_neg (by decide), if_neg (by decide), if_pos rfl]
    exact ⟨rfl, rfl, hR0, hk⟩
  · rw [if_neg (by decide), if_neg (by decide), if_neg (by decide), if_neg (by decide), if_neg (by decide), if_neg (by decide), if_neg (by decide), if_pos rfl, if_neg (by decide), if_neg (by decide), if_neg (by decide), if_neg (by decide), if_neg (by decide), if_neg (by decide), if_neg (by decide), if_pos rfl]
    exact ⟨rfl, rfl, hR0, hk⟩
  · rw [if_neg (by decide), if_neg (by decide), if_neg (by decide), if_neg (by decide), if_neg (by decide), if_neg (by decide), if_neg (by decide), if_neg (by decide), if_pos rfl, if_neg (by decide), if_neg (by decide), if_neg (by decide), if_neg (by decide), if_neg (by decide), if_neg (by decide), if_neg (by decide), if_neg (by decide), if_pos rfl]
    exact ⟨rfl, rfl, hR0, hk⟩
  · rw [if_neg (by decide), if_neg (by decide), if_neg (by decide), if_neg (by decide), if_neg (by decide), if_neg (by decide), if_neg (by decide), if_neg (by decide), if_neg (by decide), if_pos rfl, if_neg (by decide), if_neg (by decide), if_neg (by decide), if_neg (by decide), if_neg (by decide), if_neg (by decide), if_neg (by decide), if_neg (by decide), if_neg (by decide), if_pos rfl]
    exact ⟨rfl, rfl, hR0, hk⟩
  · rw [if_neg (by decide), if_neg (by decide), if_neg (by decide), if_neg (by decide), if_neg (by decide), if_neg (by decide), if_neg (by decide), if_neg (by decide), if_neg (by decide), if_neg (by decide), if_pos rfl, if_neg (by decide), if_neg (by decide), if_neg (by decide), if_neg (by decide), if_neg (by decide), if_neg (by decide), if_neg (by decide), if_neg (by decide), if_neg (by decide), if_neg (by decide), if_pos rfl]
    exact ⟨rfl, rfl, hR0, hk⟩
theorem y_picture (h : Rx k S M) {a0 : Int32} (hv : ¬ (a0 = 0 ∨ a0 = 1 ∨ a0 = 2 ∨ a0 = 3 ∨ a0 = 4 ∨ a0 = 5 ∨ a0 = 6 ∨ a0 = 7 ∨ a0 = 8 ∨ a0 = 9 ∨ a0 = 10)) : (sp_X10_picture a0 M).2.1 0 = 1 ∧ Rx k S (sp_X10_picture a0 M).2 ∧ ok_X10_picture a0 M := by
  have hk : ok_X10_picture a0 M := by
    unfold ok_X10_picture ok_X10_fail
    simp only [implies_true, and_self]
  have e : sp_X10_picture a0 M = (0, sI (sI M 0 0) 0 1) := by
    unfold sp_X10_picture
    rw [gL, if_neg (fun z => hv (Or.inl z)), if_neg (fun z => hv (Or.inr (Or.inl z))), if_neg (fun z => hv (Or.inr (Or.inr (Or.inl z)))), if_neg (fun z => hv (Or.inr (Or.inr (Or.inr (Or.inl z))))), if_neg (fun z => hv (Or.inr (Or.inr (Or.inr (Or.inr (Or.inl z)))))), if_neg (fun z => hv (Or.inr (Or.inr (Or.inr (Or.inr (Or.inr (Or.inl z))))))), if_neg (fun z => hv (Or.inr (Or.inr (Or.inr (Or.inr (Or.inr (Or.inr (Or.inl z)))))))), if_neg (fun z => hv (Or.inr (Or.inr (Or.inr (Or.inr (Or.inr (Or.inr (Or.inr (Or.inl z))))))))), if_neg (fun z => hv (Or.inr (Or.inr (Or.inr (Or.inr (Or.inr (Or.inr (Or.inr (Or.inr (Or.inl z)))))))))), if_neg (fun z => hv (Or.inr (Or.inr (Or.inr (Or.inr (Or.inr (Or.inr (Or.inr (Or.inr (Or.inr (Or.inl z))))))))))), if_neg (fun z => hv (Or.inr (Or.inr (Or.inr (Or.inr (Or.inr (Or.inr (Or.inr (Or.inr (Or.inr (Or.inr (z))))))))))))]
    rfl
  refine ⟨by rw [e]; rfl, by rw [e]; exact rx_code (rx_code h 0) 1, hk⟩
theorem x_oam (h : Rx k S M) {a0 : Int32} (hv : ¬ a0 < 0 ∧ a0 < 256) : (sp_X10_oam a0 M).1 = (sp_X9_oam k a0 S).1 ∧ (sp_X10_oam a0 M).2.1 0 = 0 ∧ Rx k (sp_X9_oam k a0 S).2 (sp_X10_oam a0 M).2 ∧ ok_X10_oam a0 M := by
  have h2 : ¬ 255 < a0 := by
    obtain ⟨j, hj, rfl⟩ := nI_of hv.1
    have g : j < 256 := Nat.not_le.mp (fun z => nI_nlt (b := 256) z hj hv.2)
    exact nI_nlt (b := j) (a := 255) (by omega) (by omega)
  have hR0 := rx_code h 0
  obtain ⟨⟨c, sp, cr, gn, rfl, hI, hG⟩, h0⟩ := h
  have e : sp_X10_oam a0 (ph k c sp cr gn S) = (aG S 7 a0, sI (ph k c sp cr gn S) 0 0) := by
    unfold sp_X10_oam
    rw [gL, if_neg hv.1, if_neg h2]
    rfl
  have e2 : sp_X9_oam k a0 S = (aG S 7 a0, S) := by
    unfold sp_X9_oam
    rw [if_neg hv.1, if_pos hv.2]
  rw [e, e2]
  refine ⟨rfl, rfl, hR0, ?_⟩
  unfold ok_X10_oam
  exact fun S1 _ => ⟨fun z => absurd z hv.1, fun _ => ⟨fun z => absurd z h2, fun _ => ⟨v_lt 256 hv.1 hv.2 (by decide), trivial⟩⟩⟩
theorem y_oam (h : Rx k S M) {a0 : Int32} (hv : ¬ (¬ a0 < 0 ∧ a0 < 256)) : (sp_X10_oam a0 M).2.1 0 = 1 ∧ Rx k S (sp_X10_oam a0 M).2 ∧ ok_X10_oam a0 M := by
  have h2 : ∀ h1 : ¬ a0 < 0, 255 < a0 := fun h1 => by
    obtain ⟨j, hj, rfl⟩ := nI_of h1
    have g : 256 ≤ j := Nat.not_lt.mp (fun z => hv ⟨h1, nI_lt (b := 256) z (by omega)⟩)
    exact nI_lt (a := 255) (by omega) hj
  have e : sp_X10_oam a0 M = (0, sI (sI M 0 0) 0 1) := by
    unfold sp_X10_oam
    rw [gL]
    by_cases h1 : a0 < 0
    · rw [if_pos h1]
      rfl
    · rw [if_neg h1, if_pos (h2 h1)]
      rfl
  refine ⟨by rw [e]; rfl, by rw [e]; exact rx_code (rx_code h 0) 1, ?_⟩
  unfold ok_X10_oam ok_X10_fail
  exact fun S1 _ => ⟨fun _ => ⟨fun _ _ => trivial, fun _ _ _ _ => trivial⟩, fun h1 => ⟨fun _ => ⟨fun _ _ => trivial, fun _ _ _ _ => trivial⟩, fun z => absurd (h2 h1) z⟩⟩
theorem x_sound (h : Rx k S M) {a0 : Int32} (hv : ¬ a0 < 0 ∧ a0 ≤ 4) : (sp_X10_sound a0 M).1 = (sp_X9_sound k a0 S).1 ∧ (sp_X10_sound a0 M).2.1 0 = 0 ∧ Rx k (sp_X9_sound k a0 S).2 (sp_X10_sound a0 M).2 ∧ ok_X10_sound a0 M := by
  have h4 : 4 ≤ a0 ↔ a0 = 4 := by
    obtain ⟨j, hj, rfl⟩ := nI_of hv.1
    have g : j ≤ 4 := Nat.not_lt.mp (fun z => nI_ge (a := 4) z hj hv.2)
    constructor
    · intro z
      have : 4 ≤ j := Nat.not_lt.mp (fun z2 => nI_ge (b := 4) z2 (by omega) z)
      rw [show j = 4 by omega]
      rfl
    · intro z
      rw [z]
      decide
  have hR0 := rx_code h 0
  obtain ⟨⟨c, sp, cr, gn, rfl, hI, hG⟩, h0⟩ := h
  have hk : ok_X10_sound a0 (ph k c sp cr gn S) := by
    unfold ok_X10_sound
    exact fun S1 _ => ⟨fun z => absurd z hv.1, fun _ => ⟨fun _ => ⟨fun _ => trivial, fun z => ⟨v_ne4 hv.1 hv.2 (fun e => z (h4.mpr e)), trivial⟩⟩, fun z => absurd hv.2 z⟩⟩
  unfold sp_X10_sound sp_X9_sound
  rw [gL, if_neg hv.1, if_neg hv.1, if_pos hv.2, if_pos hv.2]
  by_cases g : a0 = 4
  · rw [if_pos g, if_pos (h4.mpr g)]
    exact ⟨rfl, rfl, hR0, hk⟩
  · rw [if_neg g, if_neg (fun z => g (h4.mp z))]
    exact ⟨rfl, rfl, hR0, hk⟩
theorem y_sound (h : Rx k S M) {a0 : Int32} (hv : ¬ (¬ a0 < 0 ∧ a0 ≤ 4)) : (sp_X10_sound a0 M).2.1 0 = 1 ∧ Rx k S (sp_X10_sound a0 M).2 ∧ ok_X10_sound a0 M := by
  have e : sp_X10_sound a0 M = (0, sI (sI M 0 0) 0 1) := by
    unfold sp_X10_sound
    rw [gL]
    by_cases h1 : a0 < 0
    · rw [if_pos h1]
      rfl
    · rw [if_neg h1, if_neg (fun z => hv ⟨h1, z⟩)]
      rfl
  refine ⟨by rw [e]; rfl, by rw [e]; exact rx_code (rx_code h 0) 1, ?_⟩
  unfold ok_X10_sound ok_X10_fail
  exact fun S1 _ => ⟨fun _ => ⟨fun _ _ => trivial, fun _ _ _ _ => trivial⟩, fun h1 => ⟨fun z => absurd ⟨h1, z⟩ hv, fun _ => ⟨fun _ _ => trivial, fun _ _ _ _ => trivial⟩⟩⟩
theorem x_cartridge (h : Rx k S M) {a0 : Int32} (hv : ¬ a0 < 0 ∧ a0 ≤ 13) : (sp_X10_cartridge a0 M).1 = (sp_X9_cartridge k a0 S).1 ∧ (sp_X10_cartridge a0 M).2.1 0 = 0 ∧ Rx k (sp_X9_cartridge k a0 S).2 (sp_X10_cartridge a0 M).2 ∧ ok_X10_cartridge a0 M := by
  have hW := rx_w (rx_code h 0)
  have hR0 := rx_code h 0
  obtain ⟨⟨c, sp, cr, gn, rfl, hI, hG⟩, h0⟩ := h
  obtain ⟨j, hj, rfl⟩ := nI_of hv.1
  have g : j ≤ 13 := Nat.not_lt.mp (fun z => nI_ge (a := 13) z hj hv.2)
  have i4 : ¬ (4 : Int32) ≤ nI j → ∃ i : Nat, i < 4 ∧ nI j = nI i := fun z => ⟨j, Nat.not_le.mp (fun z2 => z (nI_le (a := 4) z2 hj)), rfl⟩
  have i8 : (4 : Int32) ≤ nI j → ¬ (12 : Int32) ≤ nI j → ∃ i : Nat, i < 8 ∧ nI j - 4 = nI i := fun z1 z2 => by
    have g1 : 4 ≤ j := Nat.not_lt.mp (fun z => nI_ge (b := 4) z (by omega) z1)
    have g2 : j < 12 := Nat.not_le.mp (fun z => z2 (nI_le (a := 12) z hj))
    exact ⟨j - 4, by omega, nI_sub (b := 4) g1⟩
  have hk : ok_X10_cartridge (nI j) (ph k c sp cr gn S) := by
    unfold ok_X10_cartridge
    intro S1 e1
    subst e1
    exact ⟨fun z => absurd z hv.1, fun _ => ⟨fun _ => ⟨fun z4 => ⟨fun _ => ⟨fun _ => trivial, fun _ => trivial⟩, fun z12 => ⟨(w_sp_chrBank _ hW (i8 z4 z12)).1, fun _ _ _ _ => trivial⟩⟩, fun z4 => ⟨(w_sp_prgBank _ hW (i4 z4)).1, fun _ _ _ _ => trivial⟩⟩, fun z => absurd hv.2 z⟩⟩
  unfold sp_X10_cartridge sp_X9_cartridge
  rw [gL, if_neg hv.1, if_neg hv.1, if_pos hv.2, if_pos hv.2]
  by_cases g4 : (4 : Int32) ≤ nI j
  · rw [if_pos g4, if_pos g4]
    by_cases g12 : (12 : Int32) ≤ nI j
    · rw [if_pos g12, if_pos g12]
      by_cases e12 : nI j = 12
      · rw [if_pos e12, if_pos e12]
        exact ⟨rfl, rfl, hR0, hk⟩
      · rw [if_neg e12, if_neg e12]
        refine ⟨?_, rfl, ?_, hk⟩
        · cases k
          · exact h0 rfl
          · rfl
        · cases k
          · exact hR0
          · exact hR0
    · rw [if_neg g12, if_neg g12]
      obtain ⟨i, hi, ei⟩ := i8 g4 g12
      rw [ei, phw_code, h_chrBank]
      refine ⟨?_, rfl, ⟨⟨0, sp, cr, gn, rfl, hI, hG⟩, h0⟩, hk⟩
      show mC k (phC k S) (S.1 7) (S.1 8) (S.1 9) (S.2.2.2 19) (nI i) = aG S 5 (nI i)
      unfold aG
      rw [nI_clamp (by omega)]
      exact (hI.2.2.2.2.2.2.2.2 i hi).symm
  · rw [if_neg g4, if_neg g4]
    obtain ⟨i, hi, ei⟩ := i4 g4
    rw [ei, phw_code, h_prgBank]
    refine ⟨(iv_bkP hI hi).symm, rfl, ⟨⟨0, sp, cr, gn, rfl, hI, hG⟩, h0⟩, ei ▸ hk⟩
theorem y_cartridge (h : Rx k S M) {a0 : Int32} (hv : ¬ (¬ a0 < 0 ∧ a0 ≤ 13)) : (sp_X10_cartridge a0 M).2.1 0 = 1 ∧ Rx k S (sp_X10_cartridge a0 M).2 ∧ ok_X10_cartridge a0 M := by
  have e : sp_X10_cartridge a0 M = (0, sI (sI M 0 0) 0 1) := by
    unfold sp_X10_cartridge
    rw [gL]
    by_cases h1 : a0 < 0
    · rw [if_pos h1]
      rfl
    · rw [if_neg h1, if_neg (fun z => hv ⟨h1, z⟩)]
      rfl
  refine ⟨by rw [e]; rfl, by rw [e]; exact rx_code (rx_code h 0) 1, ?_⟩
  unfold ok_X10_cartridge ok_X10_fail
  exact fun S1 _ => ⟨fun _ => ⟨fun _ _ => trivial, fun _ _ _ _ => trivial⟩, fun h1 => ⟨fun z => absurd ⟨h1, z⟩ hv, fun _ => ⟨fun _ _ => trivial, fun _ _ _ _ => trivial⟩⟩⟩
theorem rx_s3 : Rx k (s3 k) (ph k 0 0 false 0 (s3 k)) := ⟨⟨0, 0, false, 0, rfl, s3_mp.2.1, by rw [s3_i]; cases k <;> rfl⟩, fun _ => by rw [s3_i]; cases k <;> rfl⟩
end PZp
