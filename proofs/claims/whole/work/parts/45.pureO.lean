section PO
variable {k : Bool} {c sp : Int32} {cr : Bool} {gn : Int64} {S : gSt}
theorem q32_s (S : gSt) (v w : Int32) : sI (sI S 32 v) 14 w = sI (sI S 14 w) 32 v ∧ sI (sI S 32 v) 16 w = sI (sI S 16 w) 32 v ∧ sI (sI S 32 v) 19 w = sI (sI S 19 w) 32 v ∧ sI (sI S 32 v) 20 w = sI (sI S 20 w) 32 v := ⟨sI_comm S (by decide) v w, sI_comm S (by decide) v w, sI_comm S (by decide) v w, sI_comm S (by decide) v w⟩
theorem q32_growV (v : Int32) : sp_X7_growV k (sI S 32 v) = ((), sI (sp_X7_growV k S).2 32 v) := by
  unfold sp_X7_growV
  simp only [gL, show (sI S 32 v).1 12 = S.1 12 from rfl, show (sI S 32 v).1 16 = S.1 16 from rfl, (q32_s S v _).2.1]
  split <;> rfl
theorem q32_nt (a v : Int32) : sp_X7_nameTablePlace k a (sI S 32 v) = ((sp_X7_nameTablePlace k a S).1, sI S 32 v) := by
  unfold sp_X7_nameTablePlace
  simp only [show (sI S 32 v).1 1 = S.1 1 from rfl, ip]
theorem q32_pal (a v : Int32) : sp_X7_palettePlace k a (sI S 32 v) = ((sp_X7_palettePlace k a S).1, sI S 32 v) := by
  unfold sp_X7_palettePlace
  simp only [ip]
theorem q32_byteAt (a v : Int32) : sp_X7_byteAt k a (sI S 32 v) = ((sp_X7_byteAt k a S).1, sI S 32 v) := by
  unfold sp_X7_byteAt sp_X1_chrByte
  simp only [gB, q32_nt, q32_pal, c_nt2, c_pal2]
  split
  · split <;> rfl
  · rfl
theorem q32_load7 (a v : Int32) : sp_X7_load k a (sI S 32 v) = ((sp_X7_load k a S).1, sI (sp_X7_load k a S).2 32 v) := by
  unfold sp_X7_load
  simp only [gL, gB, q32_byteAt, c_byteAt2, q32_nt, c_nt2, show (sI S 32 v).1 14 = S.1 14 from rfl, show (sI S 32 v).1 15 = S.1 15 from rfl, show (sI S 32 v).1 16 = S.1 16 from rfl, show (sI S 32 v).1 20 = S.1 20 from rfl, (q32_s _ v _).1, (q32_s _ v _).2.2.1, (q32_s _ v _).2.2.2, q32_growV]
  split
  · rfl
  split
  · rfl
  split
  · split <;> rfl
  · rfl
theorem q32_statusL (n : Nat) (v : Int32) : ∀ x w : Int32, (lp_X8_loadStatus_21 k n w x (sI S 32 v)).1 = (lp_X8_loadStatus_21 k n w x S).1 := by
  induction n with
  | zero => intro x w; rfl
  | succ n ih =>
    intro x w
    rw [lp_X8_loadStatus_21, lp_X8_loadStatus_21]
    simp only [show ∀ i, aG (sI S 32 v) 11 i = aG S 11 i from fun _ => rfl]
    split
    · rfl
    split
    · exact ih _ _
    · exact ih _ _
theorem q32_status (v : Int32) : sp_X8_loadStatus k (sI S 32 v) = ((sp_X8_loadStatus k S).1, sI (sp_X8_loadStatus k S).2 32 v) := by
  have e : ∀ w, lp_X8_loadStatus_21 k 5 w 0 (sZ (sI S 32 v) 5 false) = ((lp_X8_loadStatus_21 k 5 w 0 (sZ S 5 false)).1, sI (sZ S 5 false) 32 v) := fun w => Prod.ext (q32_statusL (k := k) (S := sZ S 5 false) 5 v 0 w) (c_statusL2 5 0 w)
  unfold sp_X8_loadStatus
  simp only [gL, e, show (sI S 32 v).2.1 5 = S.2.1 5 from rfl]
  split <;> rw [c_statusL2]
theorem q32_nextBit (a v : Int32) : sp_X6_nextBit k a (sI S 32 v) = ((sp_X6_nextBit k a S).1, sI (sp_X6_nextBit k a S).2 32 v) := by
  unfold sp_X6_nextBit
  simp only [gL, show (sI S 32 v).2.1 6 = S.2.1 6 from rfl]
  split <;> rfl
theorem q32_load (a v : Int32) : sp_X0_load k a (sI S 32 v) = ((sp_X0_load k a S).1, sI (sp_X0_load k a S).2 32 v) := by
  unfold sp_X0_load sp_X0_loadInput
  simp only [gB, q32_load7, q32_status, q32_nextBit]
  split
  · split
    · split
      · split <;> rfl
      · split
        · rfl
        split
        · rfl
        split <;> rfl
    · rfl
  · rfl
theorem q33_s (S : gSt) (v w : Int32) : sI (sI S 33 v) 14 w = sI (sI S 14 w) 33 v ∧ sI (sI S 33 v) 16 w = sI (sI S 16 w) 33 v ∧ sI (sI S 33 v) 19 w = sI (sI S 19 w) 33 v ∧ sI (sI S 33 v) 20 w = sI (sI S 20 w) 33 v := ⟨sI_comm S (by decide) v w, sI_comm S (by decide) v w, sI_comm S (by decide) v w, sI_comm S (by decide) v w⟩
theorem q33_growV (v : Int32) : sp_X7_growV k (sI S 33 v) = ((), sI (sp_X7_growV k S).2 33 v) := by
  unfold sp_X7_growV
  simp only [gL, show (sI S 33 v).1 12 = S.1 12 from rfl, show (sI S 33 v).1 16 = S.1 16 from rfl, (q33_s S v _).2.1]
  split <;> rfl
theorem q33_nt (a v : Int32) : sp_X7_nameTablePlace k a (sI S 33 v) = ((sp_X7_nameTablePlace k a S).1, sI S 33 v) := by
  unfold sp_X7_nameTablePlace
  simp only [show (sI S 33 v).1 1 = S.1 1 from rfl, ip]
theorem q33_pal (a v : Int32) : sp_X7_palettePlace k a (sI S 33 v) = ((sp_X7_palettePlace k a S).1, sI S 33 v) := by
  unfold sp_X7_palettePlace
  simp only [ip]
theorem q33_byteAt (a v : Int32) : sp_X7_byteAt k a (sI S 33 v) = ((sp_X7_byteAt k a S).1, sI S 33 v) := by
  unfold sp_X7_byteAt sp_X1_chrByte
  simp only [gB, q33_nt, q33_pal, c_nt2, c_pal2]
  split
  · split <;> rfl
  · rfl
theorem q33_load7 (a v : Int32) : sp_X7_load k a (sI S 33 v) = ((sp_X7_load k a S).1, sI (sp_X7_load k a S).2 33 v) := by
  unfold sp_X7_load
  simp only [gL, gB, q33_byteAt, c_byteAt2, q33_nt, c_nt2, show (sI S 33 v).1 14 = S.1 14 from rfl, show (sI S 33 v).1 15 = S.1 15 from rfl, show (sI S 33 v).1 16 = S.1 16 from rfl, show (sI S 33 v).1 20 = S.1 20 from rfl, (q33_s _ v _).1, (q33_s _ v _).2.2.1, (q33_s _ v _).2.2.2, q33_growV]
  split
  · rfl
  split
  · rfl
  split
  · split <;> rfl
  · rfl
theorem q33_statusL (n : Nat) (v : Int32) : ∀ x w : Int32, (lp_X8_loadStatus_21 k n w x (sI S 33 v)).1 = (lp_X8_loadStatus_21 k n w x S).1 := by
  induction n with
  | zero => intro x w; rfl
  | succ n ih =>
    intro x w
    rw [lp_X8_loadStatus_21, lp_X8_loadStatus_21]
    simp only [show ∀ i, aG (sI S 33 v) 11 i = aG S 11 i from fun _ => rfl]
    split
    · rfl
    split
    · exact ih _ _
    · exact ih _ _
theorem q33_status (v : Int32) : sp_X8_loadStatus k (sI S 33 v) = ((sp_X8_loadStatus k S).1, sI (sp_X8_loadStatus k S).2 33 v) := by
  have e : ∀ w, lp_X8_loadStatus_21 k 5 w 0 (sZ (sI S 33 v) 5 false) = ((lp_X8_loadStatus_21 k 5 w 0 (sZ S 5 false)).1, sI (sZ S 5 false) 33 v) := fun w => Prod.ext (q33_statusL (k := k) (S := sZ S 5 false) 5 v 0 w) (c_statusL2 5 0 w)
  unfold sp_X8_loadStatus
  simp only [gL, e, show (sI S 33 v).2.1 5 = S.2.1 5 from rfl]
  split <;> rw [c_statusL2]
theorem q33_nextBit (a v : Int32) : sp_X6_nextBit k a (sI S 33 v) = ((sp_X6_nextBit k a S).1, sI (sp_X6_nextBit k a S).2 33 v) := by
  unfold sp_X6_nextBit
  simp only [gL, show (sI S 33 v).2.1 6 = S.2.1 6 from rfl]
  split <;> rfl
theorem q33_load (a v : Int32) : sp_X0_load k a (sI S 33 v) = ((sp_X0_load k a S).1, sI (sp_X0_load k a S).2 33 v) := by
  unfold sp_X0_load sp_X0_loadInput
  simp only [gB, q33_load7, q33_status, q33_nextBit]
  split
  · split
    · split
      · split <;> rfl
      · split
        · rfl
        split
        · rfl
        split <;> rfl
    · rfl
  · rfl
theorem c_load33 (a : Int32) : (sp_X0_load k a S).2.1 33 = S.1 33 := by
  have h := q33_load (k := k) (S := S) a (S.1 33)
  rw [sI_self] at h
  rw [h]
  rfl
theorem c_flag33 (b : Int32) (on : Bool) : (sp_X2_setFlag k b on S).2.1 33 = S.1 33 := by
  unfold sp_X2_setFlag
  split <;> rfl
theorem c_judged33 (v : Int32) : (sp_X2_judged k v S).2.1 33 = S.1 33 := by
  unfold sp_X2_judged
  simp only [gB]
  split <;> split <;> simp only [c_flag33]
theorem p_b {p b : Int32} (hp : p &&& 255 = p) (hb : b &&& 255 = b) : (p ||| b) &&& 255 = p ||| b ∧ (p &&& (b ^^^ (-1))) &&& 255 = p &&& (b ^^^ (-1)) := ⟨or_m hp hb, and_l hp⟩
theorem iv_flag (hI : Iv k S) {b : Int32} (hb : b &&& 255 = b) (on : Bool) : Iv k (sp_X2_setFlag k b on S).2 := by
  unfold sp_X2_setFlag
  simp only [gL]
  have hp := p_b (iv_b hI 31 (m := 255) rfl) hb
  split
  · exact iv_sI 31 hI hp.2 hI.2.2
  · exact iv_sI 31 hI hp.1 hI.2.2
theorem iv_judged (hI : Iv k S) (v : Int32) : Iv k (sp_X2_judged k v S).2 := by
  unfold sp_X2_judged
  simp only [gB]
  split <;> split <;> exact iv_flag (iv_flag hI (by decide) _) (by decide) _
theorem iv_add (hI : Iv k S) (v : Int32) : Iv k (sp_X2_add k v S).2 ∧ (sp_X2_add k v S).2.1 33 = S.1 33 := by
  unfold sp_X2_add
  simp only [gB, gL]
  have key : ∀ b1 b2 : Bool, ∀ x : Int32, Iv k (sI (sp_X2_judged k x (sp_X2_setFlag k 64 b2 (sp_X2_setFlag k 1 b1 S).2).2).2 27 (sp_X2_judged k x (sp_X2_setFlag k 64 b2 (sp_X2_setFlag k 1 b1 S).2).2).1) ∧ (sp_X2_judged k x (sp_X2_setFlag k 64 b2 (sp_X2_setFlag k 1 b1 S).2).2).2.1 33 = S.1 33 := by
    intro b1 b2 x
    have h := iv_judged (iv_flag (iv_flag hI (b := 1) (by decide) b1) (b := 64) (by decide) b2) x
    exact ⟨iv_sI 27 h (by rw [h_judged1]; exact by_and x) h.2.2, by rw [c_judged33, c_flag33, c_flag33]⟩
  split <;> split <;> exact key _ _ _
theorem iv_compare (hI : Iv k S) (r v : Int32) : Iv k (sp_X2_compare k r v S).2 ∧ (sp_X2_compare k r v S).2.1 33 = S.1 33 := by
  unfold sp_X2_compare
  simp only [gB]
  split
  · exact ⟨iv_judged (iv_flag hI (by decide) _) _, by rw [c_judged33, c_flag33]⟩
  · exact ⟨iv_judged (iv_flag hI (by decide) _) _, by rw [c_judged33, c_flag33]⟩
/-- the operand that a reading instruction works on: what the class does -/
def rC (k : Bool) (m : Int32) (S : gSt) : Int32 × gSt := if m = 2 then aC k 2 S else sp_X0_load k (aC k m S).1 (aC k m S).2
def hR (k : Bool) (c sp : Int32) (gn : Int64) (mM mC : Int32) (S : gSt) : Prop := sp_X10_get (sp_X10_addressed mM (ph k c sp false gn S)).1 (sp_X10_addressed mM (ph k c sp false gn S)).2 = ((rC k mC S).1, ph k c sp (crS (rC k mC S).2) gn (rC k mC S).2) ∧ Iv k (rC k mC S).2 ∧ (rC k mC S).1 &&& 255 = (rC k mC S).1
theorem hR_of {mM mC : Int32} (h2 : ¬ mC = 2) (h : hA k c sp gn mM mC S) : hR k c sp gn mM mC S := by
  obtain ⟨h1, hI, j, hj, e⟩ := h
  unfold hR rC
  rw [if_neg h2, h1, e, h_get hI j hj]
  have hL := iv_Load hI (nI j)
  refine ⟨?_, hL⟩
  have e2 : crS (sp_X0_load k (nI j) (aC k mC S).2).2 = crS (aC k mC S).2 := by
    unfold crS
    rw [c_load33]
  rw [e2]
theorem hr_i (hI : Iv k S) : hR k c sp gn 1 2 S := by
  have hf := iv_fetch hI
  obtain ⟨j, hj, ej⟩ := iv_pc hI
  have e : aC k 2 S = ((sp_X2_fetch k S).1, sI (sp_X2_fetch k S).2 33 0) := by
    unfold aC
    rw [fo_1 2 (by decide) (by decide)]
    rfl
  unfold hR rC
  rw [if_pos rfl, e]
  refine ⟨?_, iv_33 hf.1 0, hf.2⟩
  unfold sp_X10_addressed
  rw [if_pos rfl]
  simp only [gL, phr_pc, phw_pc]
  have e2 : ((sI S 32 ((S.1 32 + 1) &&& 65535)).1 32 + 65535) &&& 65535 = nI j := by
    show (((S.1 32 + 1) &&& 65535) + 65535) &&& 65535 = nI j
    rw [ej, nI_1, pk_andN (by omega) 16 (by decide), show (65535 : Int32) = nI 65535 from rfl, nI_add, ← show (65535 : Int32) = nI 65535 from rfl, pk_andN (by omega) 16 (by decide)]
    exact congrArg nI (by omega)
  have hs : Iv k (sI S 32 ((S.1 32 + 1) &&& 65535)) := iv_sI 32 hI (and_w _) hI.2.2
  rw [e2, h_get hs j hj, q32_load]
  unfold sp_X2_fetch
  simp only [gB, gL, phd_crossed, c_crS0]
  have e3 : (sp_X0_load k (nI j) S).2.1 32 = S.1 32 := by
    have h := q32_load (k := k) (S := S) (nI j) (S.1 32)
    rw [sI_self] at h
    rw [h]
    rfl
  rw [ej, e3, ej]
end PO
