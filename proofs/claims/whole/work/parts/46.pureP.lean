section PP
variable {k : Bool} {c sp : Int32} {cr : Bool} {gn : Int64} {S : gSt}
def ask (k : Bool) (gn : Int64) (S : gSt) : Int32 × gSt := sp_X0_copyPageAsked k ((gn &&& 1)).toInt32 S
/-- an instruction, done by both: the reference's answer and state are the class's, DMA included -/
def Ins (k : Bool) (c sp : Int32) (gn : Int64) (MR CR : Int32 × gSt) : Prop := (∃ cr : Bool, MR = (CR.1, ph k c (sp + (ask k gn CR.2).1) cr gn (ask k gn CR.2).2)) ∧ Iv k (ask k gn CR.2).2 ∧ 0 < CR.1
theorem ins_of {MR CR : Int32 × gSt} {S2 : gSt} {r : Int32} (h1 : MR = (r, ph k c sp cr gn S2)) (h2 : CR = (r, S2)) (hI : Iv k S2) (hr : 0 < r) : Ins k c sp gn MR CR := by
  unfold Ins ask
  subst h2
  rw [c_ask0 (iv_26 hI)]
  exact ⟨⟨cr, by rw [h1, Int32.add_zero]⟩, hI, hr⟩
theorem ins_pt {MR CR : Int32 × gSt} {S1 : gSt} {r : Int32} {R : Unit × gSt} (h : Pt k c sp cr gn S1 R) (h1 : MR = (r, R.2)) (h2 : CR = (r, S1)) (hr : 0 < r) : Ins k c sp gn MR CR := by
  unfold Ins ask
  subst h2
  obtain ⟨e, hI⟩ := h
  exact ⟨⟨cr, by rw [h1, e]⟩, hI, hr⟩
/-- what the class does behind the opcode: the operation op, the mode m, cy cycles -/
def CI (k : Bool) (op m cy : Int32) (S : gSt) : Int32 × gSt := (cy + (sp_X2_perform k op m (aC k m S).1 (aC k m S).2).1, (sp_X2_perform k op m (aC k m S).1 (aC k m S).2).2)
theorem c_perfR {op m : Int32} (h : ¬ 12 < op) : sp_X2_perform k op m (aC k m S).1 (aC k m S).2 = ((sp_X2_combine k op (rC k m S).1 (rC k m S).2).2.1 33, (sp_X2_combine k op (rC k m S).1 (rC k m S).2).2) := by
  unfold sp_X2_perform rC
  rw [if_neg h]
  by_cases h2 : m = 2
  · subst h2
    simp only [if_true, gB]
  · simp only [if_neg h2, gB]
theorem cy_x {x r : Int32} (h : x = 0 ∨ x = 1) : (if bI (decide (x = 1)) = 0 then r + 0 else r + 1) = r + x := by
  rcases h with rfl | rfl <;> rfl
/-- behind a reading instruction: the state has not touched 'crossed' -/
def X01 (S : gSt) : Prop := S.1 33 = 0 ∨ S.1 33 = 1
theorem x01_i (a0 a1 : Int32) : X01 (sp_X2_indexed k a0 a1 S).2 := by
  unfold X01 sp_X2_indexed sp_X2_otherPage
  simp only [gB, gL]
  split
  · exact Or.inl rfl
  · exact Or.inr rfl
theorem x01_a (m : Int32) : X01 (aC k m S).2 := by
  unfold aC
  generalize sp_X2_fetchOperand k m S = R
  have hz : ∀ T : gSt, X01 (sI T 33 0) := fun _ => Or.inl rfl
  have hl : ∀ (a : Int32) (T : gSt), X01 T → X01 (sp_X0_load k a T).2 := fun a T h => by unfold X01; rw [c_load33]; exact h
  have hw : ∀ (a : Int32) (T : gSt), X01 T → X01 (sp_X2_wordWithinPage k a T).2 := fun a T h => by
    unfold sp_X2_wordWithinPage
    simp only [gB]
    exact hl _ _ (hl _ _ h)
  unfold sp_X2_addressOf
  simp only [gL, gB]
  repeat' split
  all_goals first | exact hz _ | exact x01_i _ _ | exact hw _ _ (hz _)
theorem x01_r (m : Int32) : X01 (rC k m S).2 := by
  unfold rC
  split
  · exact x01_a 2
  · unfold X01
    rw [c_load33]
    exact x01_a m
theorem h_cyc {r : Int32} {mM : Int32} (h : ∀ T, sp_X10_cyclesOf mM T = (r, T)) {S2 R2 : gSt} (h33 : S2.1 33 = R2.1 33) (hx : X01 R2) : jn_X10_arithmetic_211 mM (ph k c sp (crS R2) gn S2) = (r + S2.1 33, ph k c sp (crS R2) gn S2) := by
  unfold jn_X10_arithmetic_211
  rw [h]
  show (if bI (crS R2) = 0 then (r + 0, ph k c sp (crS R2) gn S2) else (r + 1, ph k c sp (crS R2) gn S2)) = _
  rw [ip, h33]
  unfold crS
  rw [cy_x hx]
theorem pos_cy {r x : Int32} (hr : r = 2 ∨ r = 3 ∨ r = 4 ∨ r = 5 ∨ r = 6) (hx : x = 0 ∨ x = 1) : 0 < r + x := by
  rcases hr with rfl | rfl | rfl | rfl | rfl <;> rcases hx with rfl | rfl <;> decide
theorem xor_b {x y : Int32} (hx : x &&& 255 = x) (hy : y &&& 255 = y) : (x ^^^ y) &&& 255 = x ^^^ y := by rw [xor_and, hx, hy]
theorem cmb_1 (v : Int32) : (sp_X2_combine k 1 v S).2 = sI (sp_X2_judged k v S).2 27 (sp_X2_judged k v S).1 := by
  unfold sp_X2_combine
  rw [if_pos rfl, gB]
  rw [gL]
theorem cmb_2 (v : Int32) : (sp_X2_combine k 2 v S).2 = sI (sp_X2_judged k v S).2 28 (sp_X2_judged k v S).1 := by
  unfold sp_X2_combine
  rw [if_neg (by decide), if_pos rfl, gB]
  rw [gL]
theorem cmb_3 (v : Int32) : (sp_X2_combine k 3 v S).2 = sI (sp_X2_judged k v S).2 29 (sp_X2_judged k v S).1 := by
  unfold sp_X2_combine
  rw [if_neg (by decide), if_neg (by decide), if_pos rfl, gB]
  rw [gL]
theorem cmb_4 (v : Int32) : (sp_X2_combine k 4 v S).2 = (sp_X2_add k v S).2 := by
  unfold sp_X2_combine
  rw [if_neg (by decide), if_neg (by decide), if_neg (by decide), if_pos rfl, gB]
theorem cmb_5 (v : Int32) : (sp_X2_combine k 5 v S).2 = (sp_X2_add k (v ^^^ 255) S).2 := by
  unfold sp_X2_combine
  rw [if_neg (by decide), if_neg (by decide), if_neg (by decide), if_neg (by decide), if_pos rfl, gB]
theorem cmb_6 (v : Int32) : (sp_X2_combine k 6 v S).2 = sI (sp_X2_judged k (S.1 27 &&& v) S).2 27 (sp_X2_judged k (S.1 27 &&& v) S).1 := by
  unfold sp_X2_combine
  rw [if_neg (by decide), if_neg (by decide), if_neg (by decide), if_neg (by decide), if_neg (by decide), if_pos rfl, gB]
  rw [gL]
theorem cmb_7 (v : Int32) : (sp_X2_combine k 7 v S).2 = sI (sp_X2_judged k (S.1 27 ||| v) S).2 27 (sp_X2_judged k (S.1 27 ||| v) S).1 := by
  unfold sp_X2_combine
  rw [if_neg (by decide), if_neg (by decide), if_neg (by decide), if_neg (by decide), if_neg (by decide), if_neg (by decide), if_pos rfl, gB]
  rw [gL]
theorem cmb_8 (v : Int32) : (sp_X2_combine k 8 v S).2 = sI (sp_X2_judged k (S.1 27 ^^^ v) S).2 27 (sp_X2_judged k (S.1 27 ^^^ v) S).1 := by
  unfold sp_X2_combine
  rw [if_neg (by decide), if_neg (by decide), if_neg (by decide), if_neg (by decide), if_neg (by decide), if_neg (by decide), if_neg (by decide), if_pos rfl, gB]
  rw [gL]
theorem cmb_9 (v : Int32) : (sp_X2_combine k 9 v S).2 = (sp_X2_compare k (S.1 27) v S).2 := by
  unfold sp_X2_combine
  rw [if_neg (by decide), if_neg (by decide), if_neg (by decide), if_neg (by decide), if_neg (by decide), if_neg (by decide), if_neg (by decide), if_neg (by decide), if_pos rfl, gB]
theorem cmb_10 (v : Int32) : (sp_X2_combine k 10 v S).2 = (sp_X2_compare k (S.1 28) v S).2 := by
  unfold sp_X2_combine
  rw [if_neg (by decide), if_neg (by decide), if_neg (by decide), if_neg (by decide), if_neg (by decide), if_neg (by decide), if_neg (by decide), if_neg (by decide), if_neg (by decide), if_pos rfl, gB]
theorem cmb_11 (v : Int32) : (sp_X2_combine k 11 v S).2 = (sp_X2_compare k (S.1 29) v S).2 := by
  unfold sp_X2_combine
  rw [if_neg (by decide), if_neg (by decide), if_neg (by decide), if_neg (by decide), if_neg (by decide), if_neg (by decide), if_neg (by decide), if_neg (by decide), if_neg (by decide), if_neg (by decide), if_pos rfl, gB]
theorem cmb_12 (v : Int32) : (sp_X2_combine k 12 v S).2 = (sp_X2_testBits k v S).2 := by
  unfold sp_X2_combine
  rw [if_neg (by decide), if_neg (by decide), if_neg (by decide), if_neg (by decide), if_neg (by decide), if_neg (by decide), if_neg (by decide), if_neg (by decide), if_neg (by decide), if_neg (by decide), if_neg (by decide), gB]
theorem ar_3 (m : Int32) (T : gSt) : sp_X10_arithmetic 3 m T = jn_X10_arithmetic_211 m (sp_X10_add (sp_X10_get (sp_X10_addressed m T).1 (sp_X10_addressed m T).2).1 (sp_X10_get (sp_X10_addressed m T).1 (sp_X10_addressed m T).2).2).2 := by
  unfold sp_X10_arithmetic
  dsimp only [gB]
  rw [if_neg (by decide), if_neg (by decide), if_neg (by decide), if_neg (by decide), if_pos rfl]
theorem ar_6 (m : Int32) (T : gSt) : sp_X10_arithmetic 6 m T = jn_X10_arithmetic_211 m (sp_X10_compare ((sp_X10_get (sp_X10_addressed m T).1 (sp_X10_addressed m T).2).2.1 1) (sp_X10_get (sp_X10_addressed m T).1 (sp_X10_addressed m T).2).1 (sp_X10_get (sp_X10_addressed m T).1 (sp_X10_addressed m T).2).2).2 := by
  unfold sp_X10_arithmetic
  dsimp only [gB]
  rw [if_neg (by decide), if_neg (by decide), if_neg (by decide), if_neg (by decide), if_neg (by decide), if_neg (by decide), if_neg (by decide), if_pos rfl]
/-- combine, of an operation that stores its result into A by way of judged -/
theorem c_cj {v w : Int32} (hI : Iv k S) (hw : w &&& 255 = w) (j : Nat) (hj : j = 27 ∨ j = 28 ∨ j = 29) : Iv k (sI (sp_X2_judged k w S).2 j (sp_X2_judged k w S).1) ∧ (sI (sp_X2_judged k w S).2 j (sp_X2_judged k w S).1).1 33 = S.1 33 ∧ (sp_X2_judged k w S).1 = w := by
  have h := iv_judged hI w
  have e : (sp_X2_judged k w S).1 = w := by rw [h_judged1, hw]
  rcases hj with rfl | rfl | rfl
  · exact ⟨iv_sI 27 h (by rw [e]; exact hw) h.2.2, c_judged33 w, e⟩
  · exact ⟨iv_sI 28 h (by rw [e]; exact hw) h.2.2, c_judged33 w, e⟩
  · exact ⟨iv_sI 29 h (by rw [e]; exact hw) h.2.2, c_judged33 w, e⟩
theorem ins_k0 {mM mC r : Int32} (h : hR k c sp gn mM mC S) (hcy : ∀ T, sp_X10_cyclesOf mM T = (r, T)) (hr : r = 2 ∨ r = 3 ∨ r = 4 ∨ r = 5 ∨ r = 6) : Ins k c sp gn (sp_X10_arithmetic 0 mM (ph k c sp false gn S)) (CI k 7 mC r S) := by
  obtain ⟨h1, hI, hv⟩ := h
  have hx := x01_r (k := k) (S := S) mC
  have ha : (rC k mC S).2.1 27 &&& 255 = (rC k mC S).2.1 27 := iv_b hI 27 rfl
  have hw : ((rC k mC S).2.1 27 ||| (rC k mC S).1) &&& 255 = (rC k mC S).2.1 27 ||| (rC k mC S).1 := (or_m ha hv)
  obtain ⟨i1, i2, i3⟩ := c_cj (v := 0) hI hw 27 (Or.inl rfl)
  have e : (sp_X2_combine k 7 (rC k mC S).1 (rC k mC S).2).2 = sI (sp_X2_judged k ((rC k mC S).2.1 27 ||| (rC k mC S).1) (rC k mC S).2).2 27 (sp_X2_judged k ((rC k mC S).2.1 27 ||| (rC k mC S).1) (rC k mC S).2).1 := cmb_7 _
  refine ins_of (S2 := (sp_X2_combine k 7 (rC k mC S).1 (rC k mC S).2).2) (r := r + (sp_X2_combine k 7 (rC k mC S).1 (rC k mC S).2).2.1 33) (cr := crS (rC k mC S).2) ?_ (by unfold CI; rw [c_perfR (by decide)]) (by rw [e]; exact i1) (pos_cy hr (by rw [e, i2]; exact hx))
  unfold sp_X10_arithmetic
  simp only [gB]
  rw [if_neg (by decide), h1]
  simp only [phr_a]
  rw [if_pos (by first | rfl | trivial), h_shownB hw]
  simp only [gL, phw_a]
  rw [e, i3, h_cyc hcy (R2 := (rC k mC S).2) (by rw [i3] at i2; exact i2) hx]
theorem ins_k1 {mM mC r : Int32} (h : hR k c sp gn mM mC S) (hcy : ∀ T, sp_X10_cyclesOf mM T = (r, T)) (hr : r = 2 ∨ r = 3 ∨ r = 4 ∨ r = 5 ∨ r = 6) : Ins k c sp gn (sp_X10_arithmetic 1 mM (ph k c sp false gn S)) (CI k 6 mC r S) := by
  obtain ⟨h1, hI, hv⟩ := h
  have hx := x01_r (k := k) (S := S) mC
  have ha : (rC k mC S).2.1 27 &&& 255 = (rC k mC S).2.1 27 := iv_b hI 27 rfl
  have hw : ((rC k mC S).2.1 27 &&& (rC k mC S).1) &&& 255 = (rC k mC S).2.1 27 &&& (rC k mC S).1 := (and_l ha)
  obtain ⟨i1, i2, i3⟩ := c_cj (v := 0) hI hw 27 (Or.inl rfl)
  have e : (sp_X2_combine k 6 (rC k mC S).1 (rC k mC S).2).2 = sI (sp_X2_judged k ((rC k mC S).2.1 27 &&& (rC k mC S).1) (rC k mC S).2).2 27 (sp_X2_judged k ((rC k mC S).2.1 27 &&& (rC k mC S).1) (rC k mC S).2).1 := cmb_6 _
  refine ins_of (S2 := (sp_X2_combine k 6 (rC k mC S).1 (rC k mC S).2).2) (r := r + (sp_X2_combine k 6 (rC k mC S).1 (rC k mC S).2).2.1 33) (cr := crS (rC k mC S).2) ?_ (by unfold CI; rw [c_perfR (by decide)]) (by rw [e]; exact i1) (pos_cy hr (by rw [e, i2]; exact hx))
  unfold sp_X10_arithmetic
  simp only [gB]
  rw [if_neg (by decide), h1]
  simp only [phr_a]
  rw [if_neg (by decide), if_pos (by first | rfl | trivial), h_shownB hw]
  simp only [gL, phw_a]
  rw [e, i3, h_cyc hcy (R2 := (rC k mC S).2) (by rw [i3] at i2; exact i2) hx]
theorem ins_k2 {mM mC r : Int32} (h : hR k c sp gn mM mC S) (hcy : ∀ T, sp_X10_cyclesOf mM T = (r, T)) (hr : r = 2 ∨ r = 3 ∨ r = 4 ∨ r = 5 ∨ r = 6) : Ins k c sp gn (sp_X10_arithmetic 2 mM (ph k c sp false gn S)) (CI k 8 mC r S) := by
  obtain ⟨h1, hI, hv⟩ := h
  have hx := x01_r (k := k) (S := S) mC
  have ha : (rC k mC S).2.1 27 &&& 255 = (rC k mC S).2.1 27 := iv_b hI 27 rfl
  have hw : ((rC k mC S).2.1 27 ^^^ (rC k mC S).1) &&& 255 = (rC k mC S).2.1 27 ^^^ (rC k mC S).1 := (xor_b ha hv)
  obtain ⟨i1, i2, i3⟩ := c_cj (v := 0) hI hw 27 (Or.inl rfl)
  have e : (sp_X2_combine k 8 (rC k mC S).1 (rC k mC S).2).2 = sI (sp_X2_judged k ((rC k mC S).2.1 27 ^^^ (rC k mC S).1) (rC k mC S).2).2 27 (sp_X2_judged k ((rC k mC S).2.1 27 ^^^ (rC k mC S).1) (rC k mC S).2).1 := cmb_8 _
  refine ins_of (S2 := (sp_X2_combine k 8 (rC k mC S).1 (rC k mC S).2).2) (r := r + (sp_X2_combine k 8 (rC k mC S).1 (rC k mC S).2).2.1 33) (cr := crS (rC k mC S).2) ?_ (by unfold CI; rw [c_perfR (by decide)]) (by rw [e]; exact i1) (pos_cy hr (by rw [e, i2]; exact hx))
  unfold sp_X10_arithmetic
  simp only [gB]
  rw [if_neg (by decide), h1]
  simp only [phr_a]
  rw [if_neg (by decide), if_neg (by decide), if_pos (by first | rfl | trivial), h_shownB hw]
  simp only [gL, phw_a]
  rw [e, i3, h_cyc hcy (R2 := (rC k mC S).2) (by rw [i3] at i2; exact i2) hx]
theorem ins_k5 {mM mC r : Int32} (h : hR k c sp gn mM mC S) (hcy : ∀ T, sp_X10_cyclesOf mM T = (r, T)) (hr : r = 2 ∨ r = 3 ∨ r = 4 ∨ r = 5 ∨ r = 6) : Ins k c sp gn (sp_X10_arithmetic 5 mM (ph k c sp false gn S)) (CI k 1 mC r S) := by
  obtain ⟨h1, hI, hv⟩ := h
  have hx := x01_r (k := k) (S := S) mC
  obtain ⟨i1, i2, i3⟩ := c_cj (v := 0) hI hv 27 (Or.inl rfl)
  have e : (sp_X2_combine k 1 (rC k mC S).1 (rC k mC S).2).2 = sI (sp_X2_judged k (rC k mC S).1 (rC k mC S).2).2 27 (sp_X2_judged k (rC k mC S).1 (rC k mC S).2).1 := cmb_1 _
  refine ins_of (S2 := (sp_X2_combine k 1 (rC k mC S).1 (rC k mC S).2).2) (r := r + (sp_X2_combine k 1 (rC k mC S).1 (rC k mC S).2).2.1 33) (cr := crS (rC k mC S).2) ?_ (by unfold CI; rw [c_perfR (by decide)]) (by rw [e]; exact i1) (pos_cy hr (by rw [e, i2]; exact hx))
  unfold sp_X10_arithmetic
  simp only [gB]
  rw [if_neg (by decide), h1]
  rw [if_neg (by decide), if_neg (by decide), if_neg (by decide), if_neg (by decide), if_neg (by decide), if_pos (by first | rfl | trivial), h_shownB hv]
  simp only [gL, phw_a]
  rw [e, i3, h_cyc hcy (R2 := (rC k mC S).2) (by rw [i3] at i2; exact i2) hx]
theorem ins_k3 {mM mC r : Int32} (h : hR k c sp gn mM mC S) (hcy : ∀ T, sp_X10_cyclesOf mM T = (r, T)) (hr : r = 2 ∨ r = 3 ∨ r = 4 ∨ r = 5 ∨ r = 6) : Ins k c sp gn (sp_X10_arithmetic 3 mM (ph k c sp false gn S)) (CI k 4 mC r S) := by
  obtain ⟨h1, hI, hv⟩ := h
  have hx := x01_r (k := k) (S := S) mC
  have e : (sp_X2_combine k 4 (rC k mC S).1 (rC k mC S).2).2 = (sp_X2_add k (rC k mC S).1 (rC k mC S).2).2 := cmb_4 _
  obtain ⟨i1, i2⟩ := iv_add hI _ |> fun z => (show Iv k (sp_X2_add k (rC k mC S).1 (rC k mC S).2).2 ∧ (sp_X2_add k (rC k mC S).1 (rC k mC S).2).2.1 33 = (rC k mC S).2.1 33 from z)
  refine ins_of (S2 := (sp_X2_combine k 4 (rC k mC S).1 (rC k mC S).2).2) (r := r + (sp_X2_combine k 4 (rC k mC S).1 (rC k mC S).2).2.1 33) (cr := crS (rC k mC S).2) ?_ (by unfold CI; rw [c_perfR (by decide)]) (by rw [e]; exact i1) (pos_cy hr (by rw [e, i2]; exact hx))
  rw [ar_3, h1, e]
  rw [h_add, h_cyc hcy (R2 := (rC k mC S).2) i2 hx]
theorem ins_k7 {mM mC r : Int32} (h : hR k c sp gn mM mC S) (hcy : ∀ T, sp_X10_cyclesOf mM T = (r, T)) (hr : r = 2 ∨ r = 3 ∨ r = 4 ∨ r = 5 ∨ r = 6) : Ins k c sp gn (sp_X10_arithmetic 7 mM (ph k c sp false gn S)) (CI k 5 mC r S) := by
  obtain ⟨h1, hI, hv⟩ := h
  have hx := x01_r (k := k) (S := S) mC
  have e : (sp_X2_combine k 5 (rC k mC S).1 (rC k mC S).2).2 = (sp_X2_add k ((rC k mC S).1 ^^^ 255) (rC k mC S).2).2 := cmb_5 _
  obtain ⟨i1, i2⟩ := iv_add hI _ |> fun z => (show Iv k (sp_X2_add k ((rC k mC S).1 ^^^ 255) (rC k mC S).2).2 ∧ (sp_X2_add k ((rC k mC S).1 ^^^ 255) (rC k mC S).2).2.1 33 = (rC k mC S).2.1 33 from z)
  refine ins_of (S2 := (sp_X2_combine k 5 (rC k mC S).1 (rC k mC S).2).2) (r := r + (sp_X2_combine k 5 (rC k mC S).1 (rC k mC S).2).2.1 33) (cr := crS (rC k mC S).2) ?_ (by unfold CI; rw [c_perfR (by decide)]) (by rw [e]; exact i1) (pos_cy hr (by rw [e, i2]; exact hx))
  unfold sp_X10_arithmetic
  simp only [gB]
  rw [if_neg (by decide), h1]
  simp only [phr_a]
  rw [if_neg (by decide), if_neg (by decide), if_neg (by decide), if_neg (by decide), if_neg (by decide), if_neg (by decide), if_neg (by decide), h_add]
  rw [e, h_cyc hcy (R2 := (rC k mC S).2) i2 hx]
theorem ins_k6 {mM mC r : Int32} (h : hR k c sp gn mM mC S) (hcy : ∀ T, sp_X10_cyclesOf mM T = (r, T)) (hr : r = 2 ∨ r = 3 ∨ r = 4 ∨ r = 5 ∨ r = 6) : Ins k c sp gn (sp_X10_arithmetic 6 mM (ph k c sp false gn S)) (CI k 9 mC r S) := by
  obtain ⟨h1, hI, hv⟩ := h
  have hx := x01_r (k := k) (S := S) mC
  have e : (sp_X2_combine k 9 (rC k mC S).1 (rC k mC S).2).2 = (sp_X2_compare k ((rC k mC S).2.1 27) (rC k mC S).1 (rC k mC S).2).2 := cmb_9 _
  obtain ⟨i1, i2⟩ := iv_compare hI _ _ |> fun z => (show Iv k (sp_X2_compare k ((rC k mC S).2.1 27) (rC k mC S).1 (rC k mC S).2).2 ∧ (sp_X2_compare k ((rC k mC S).2.1 27) (rC k mC S).1 (rC k mC S).2).2.1 33 = (rC k mC S).2.1 33 from z)
  refine ins_of (S2 := (sp_X2_combine k 9 (rC k mC S).1 (rC k mC S).2).2) (r := r + (sp_X2_combine k 9 (rC k mC S).1 (rC k mC S).2).2.1 33) (cr := crS (rC k mC S).2) ?_ (by unfold CI; rw [c_perfR (by decide)]) (by rw [e]; exact i1) (pos_cy hr (by rw [e, i2]; exact hx))
  rw [ar_6, h1, e]
  rw [phr_a, h_compare, h_cyc hcy (R2 := (rC k mC S).2) i2 hx]
theorem ins_k4 {mM mC r r0 : Int32} (h : hA k c sp gn mM mC S) (hcy : ∀ T, sp_X10_cyclesOf mM T = (r0, T)) (hr : (if mM = 6 then r0 + 1 else if mM = 7 then r0 + 1 else if mM = 9 then r0 + 1 else r0 + 0) = r + 0) (hp : 0 < r + 0) : Ins k c sp gn (sp_X10_arithmetic 4 mM (ph k c sp false gn S)) (CI k 13 mC r S) := by
  obtain ⟨h1, hI, j, hj, e⟩ := h
  have hp2 := h_put (c := c) (sp := sp) (cr := crS (aC k mC S).2) (gn := gn) hI j hj (v := (aC k mC S).2.1 27) (iv_b hI 27 rfl)
  refine ins_pt (r := r + 0) hp2 ?_ ?_ hp
  · unfold sp_X10_arithmetic jn_X10_arithmetic_38
    simp only [gB]
    rw [if_pos (by first | rfl | trivial), h1]
    simp only [e, phr_a, hcy]
    rw [← hr]
    repeat' split
    all_goals first | rfl | simp_all
  · unfold CI
    show (r + 0, (sp_X0_store k (aC k mC S).1 ((aC k mC S).2.1 27) (aC k mC S).2).2) = _
    rw [e]
end PP
