section PZh
variable {k : Bool} {c sp : Int32} {cr : Bool} {gn : Int64} {S : gSt}
theorem x33_27 (S : gSt) (v : Int32) : (sI S 27 v).1 33 = S.1 33 := rfl
theorem x33_28 (S : gSt) (v : Int32) : (sI S 28 v).1 33 = S.1 33 := rfl
theorem x33_29 (S : gSt) (v : Int32) : (sI S 29 v).1 33 = S.1 33 := rfl
theorem x33_31 (S : gSt) (v : Int32) : (sI S 31 v).1 33 = S.1 33 := rfl
theorem f33_X2_setFlag (k : Bool) (a0 : Int32) (a1 : Bool) (S : gSt) : (sp_X2_setFlag k a0 a1 S).2.1 33 = S.1 33 := by
  unfold sp_X2_setFlag
  try simp only [gB, gL]
  repeat' split
  all_goals (try rfl)
  all_goals simp only [x33_27, x33_28, x33_29, x33_31]
theorem f33_X2_judged (k : Bool) (a0 : Int32) (S : gSt) : (sp_X2_judged k a0 S).2.1 33 = S.1 33 := by
  unfold sp_X2_judged
  try simp only [gB, gL]
  repeat' split
  all_goals (try rfl)
  all_goals simp only [x33_27, x33_28, x33_29, x33_31, f33_X2_setFlag]
theorem f33_X2_add (k : Bool) (a0 : Int32) (S : gSt) : (sp_X2_add k a0 S).2.1 33 = S.1 33 := by
  unfold sp_X2_add
  try simp only [gB, gL]
  repeat' split
  all_goals (try rfl)
  all_goals simp only [x33_27, x33_28, x33_29, x33_31, f33_X2_setFlag, f33_X2_judged]
theorem f33_X2_compare (k : Bool) (a0 : Int32) (a1 : Int32) (S : gSt) : (sp_X2_compare k a0 a1 S).2.1 33 = S.1 33 := by
  unfold sp_X2_compare
  try simp only [gB, gL]
  repeat' split
  all_goals (try rfl)
  all_goals simp only [x33_27, x33_28, x33_29, x33_31, f33_X2_setFlag, f33_X2_judged]
theorem f33_X2_testBits (k : Bool) (a0 : Int32) (S : gSt) : (sp_X2_testBits k a0 S).2.1 33 = S.1 33 := by
  unfold sp_X2_testBits
  try simp only [gB, gL]
  repeat' split
  all_goals (try rfl)
  all_goals simp only [x33_27, x33_28, x33_29, x33_31, f33_X2_setFlag]
theorem f33_X2_combine (k : Bool) (a0 : Int32) (a1 : Int32) (S : gSt) : (sp_X2_combine k a0 a1 S).2.1 33 = S.1 33 := by
  unfold sp_X2_combine
  try simp only [gB, gL]
  repeat' split
  all_goals (try rfl)
  all_goals simp only [x33_27, x33_28, x33_29, x33_31, f33_X2_judged, f33_X2_add, f33_X2_compare, f33_X2_testBits]

theorem cy_tab : ∀ j, j < 256 → tCY j = nI (tCY j).toNatClampNeg ∧ (tCY j).toNatClampNeg ≤ 8 := by decide +kernel
theorem cy_t (x : Int32) : ∃ n : Nat, n ≤ 8 ∧ tCY (x &&& 255).toNatClampNeg = nI n := by
  obtain ⟨j, hj, e⟩ := pk_andE x (m := 255) 8 (by decide)
  rw [e, nI_clamp (by omega)]
  exact ⟨_, (cy_tab j hj).2, (cy_tab j hj).1⟩
theorem cy_br (a0 a1 : Int32) : ∃ n : Nat, n ≤ 2 ∧ (sp_X2_branch k a0 a1 S).1 = nI n := by
  unfold sp_X2_branch
  simp only [gB, gL]
  generalize (sp_X2_branchTaken k a0 S).1 = b
  generalize (sp_X2_branchTaken k a0 S).2 = T
  split
  · exact ⟨0, by omega, rfl⟩
  · unfold sp_X2_otherPage
    split
    · exact ⟨1, by omega, rfl⟩
    · exact ⟨2, by omega, rfl⟩
theorem cyx1 (hx : X01 S) : ∃ n : Nat, n ≤ 2 ∧ S.1 33 = nI n := by
  rcases hx with h | h
  · exact ⟨0, by omega, h⟩
  · exact ⟨1, by omega, h⟩
theorem cy_perform (hx : X01 S) (a0 a1 a2 : Int32) : ∃ n : Nat, n ≤ 2 ∧ (sp_X2_perform k a0 a1 a2 S).1 = nI n := by
  have h0 : ∃ n : Nat, n ≤ 2 ∧ (0 : Int32) = nI n := ⟨0, by omega, rfl⟩
  have hb := cy_br (k := k) (S := S) a0 a2
  have h1 := cyx1 (S := (sp_X2_combine k a0 a2 S).2) (by unfold X01; rw [f33_X2_combine]; exact hx)
  have h2 := cyx1 (S := (sp_X2_combine k a0 (sp_X0_load k a2 S).1 (sp_X0_load k a2 S).2).2) (by unfold X01; rw [f33_X2_combine, c_load33]; exact hx)
  unfold sp_X2_perform
  simp only [gB]
  by_cases g1 : 12 < a0
  · rw [if_pos g1]
    by_cases g2 : 15 < a0
    · rw [if_pos g2]
      by_cases g3 : 21 < a0
      · rw [if_pos g3]
        by_cases g4 : 29 < a0
        · rw [if_pos g4]
          by_cases g5 : 39 < a0
          · rw [if_pos g5]
            by_cases g6 : 47 < a0
            · rw [if_pos g6]
              by_cases g7 : 51 < a0
              · rw [if_pos g7]; exact h0
              · rw [if_neg g7]; exact h0
            · rw [if_neg g6]; exact h0
          · rw [if_neg g5]; exact h0
        · rw [if_neg g4]; exact hb
      · rw [if_neg g3]; exact h0
    · rw [if_neg g2]; exact h0
  · rw [if_neg g1]
    by_cases g2 : a1 = 2
    · rw [if_pos g2]; exact h1
    · rw [if_neg g2]; exact h2
theorem cy_sum {x y : Int32} (hx : ∃ n : Nat, n ≤ 8 ∧ x = nI n) (hy : ∃ n : Nat, n ≤ 2 ∧ y = nI n) : ∃ n : Nat, n ≤ 10 ∧ x + y = nI n := by
  obtain ⟨a, ha, rfl⟩ := hx
  obtain ⟨b, hb, rfl⟩ := hy
  exact ⟨a + b, by omega, nI_add a b⟩
theorem cy_takeStep (b i : Bool) : ∃ n : Nat, n ≤ 10 ∧ (sp_X2_takeStep k b i S).1 = nI n := by
  have h7 : ∃ n : Nat, n ≤ 10 ∧ (7 : Int32) = nI n := ⟨7, by omega, rfl⟩
  have hN : ∃ n : Nat, n ≤ 10 ∧ tCY ((sp_X2_fetch k S).1 &&& 255).toNatClampNeg + 0 = nI n := cy_sum (cy_t _) ⟨0, by omega, rfl⟩
  have hP : ∀ x, ∃ n : Nat, n ≤ 10 ∧ tCY ((sp_X2_fetch k S).1 &&& 255).toNatClampNeg + (sp_X2_perform k (tOP x) (tMO x) (aC k (tMO x) (sp_X2_fetch k S).2).1 (aC k (tMO x) (sp_X2_fetch k S).2).2).1 = nI n := fun x => cy_sum (cy_t _) (cy_perform (x01_a _) _ _ _)
  unfold sp_X2_takeStep
  simp only [gB, gL]
  by_cases g1 : bI b = 0
  · rw [if_pos g1]
    by_cases g2 : bI i = 0
    · rw [if_pos g2]
      by_cases g3 : tOP ((sp_X2_fetch k S).1 &&& 255).toNatClampNeg = 0
      · rw [if_pos g3]; exact hN
      · rw [if_neg g3]; exact hP _
    · rw [if_neg g2]
      by_cases g4 : S.1 31 &&& 4 = 0
      · rw [if_pos g4]; exact h7
      · rw [if_neg g4]
        by_cases g3 : tOP ((sp_X2_fetch k S).1 &&& 255).toNatClampNeg = 0
        · rw [if_pos g3]; exact hN
        · rw [if_neg g3]; exact hP _
  · rw [if_neg g1]; exact h7
theorem cy_step : ∃ n : Nat, n ≤ 10 ∧ (cStep k S).1 = nI n := by
  unfold cStep
  split <;> exact cy_takeStep _ _
theorem cy_askL (n : Nat) : ∀ (x1 x2 x3 : Int32) (S : gSt), (lp_X0_copyPageAsked_25 k n x1 x2 x3 S).1 = 0 ∨ (lp_X0_copyPageAsked_25 k n x1 x2 x3 S).1 = 513 + x1 := by
  induction n with
  | zero => intros; exact Or.inl rfl
  | succ n ih =>
    intro x1 x2 x3 S
    rw [lp_X0_copyPageAsked_25]
    simp only [gB]
    split
    · exact Or.inr rfl
    · exact ih _ _ _ _
theorem gn_t (gn : Int64) : (gn &&& 65535).toInt32 = gn.toInt32 &&& 65535 := by rw [Int64.toInt32_and]; rfl
theorem gn_t1 (gn : Int64) : (gn &&& 1).toInt32 = gn.toInt32 &&& 1 := by rw [Int64.toInt32_and]; rfl
theorem cy_ask (gn : Int64) : ∃ n : Nat, n ≤ 520 ∧ (ask k gn S).1 = nI n := by
  unfold ask sp_X0_copyPageAsked
  simp only [gL]
  split
  · exact ⟨0, by omega, rfl⟩
  · rcases cy_askL (k := k) 257 ((gn &&& 1)).toInt32 ((S.1 26) <<< ((8 : Int32) &&& (31 : Int32))) 0 (sI S 26 (-1)) with h | h
    · exact ⟨0, by omega, h⟩
    · obtain ⟨j, hj, e⟩ := pk_andE gn.toInt32 (m := 1) 1 (by decide)
      refine ⟨513 + j, by omega, h.trans ?_⟩
      rw [gn_t1, e]
      exact nI_add 513 j
theorem gi_t (n : Nat) : ∀ gn : Int64, (gi n gn).toInt32 = gn.toInt32 + nI n := by
  induction n with
  | zero => intro g; exact (Int32.add_zero _).symm
  | succ n ih =>
    intro g
    show (gi n (g + 1)).toInt32 = _
    rw [ih, Int64.toInt32_add, ← nI_1 n, show (1 : Int64).toInt32 = 1 from rfl, Int32.add_assoc, Int32.add_comm 1 (nI n)]
theorem and_add (x : Int32) (n : Nat) : ((x &&& 65535) + nI n) &&& 65535 = (x + nI n) &&& 65535 := by
  rw [pk_and ((x &&& 65535) + nI n) 16 (by decide), pk_and (x + nI n) 16 (by decide), pk_and x 16 (by decide), Int32.toBitVec_add, Int32.toBitVec_add, BitVec.toNat_add, BitVec.toNat_add, pk_tn (by omega)]
  exact congrArg nI (by omega)
theorem gr_par (h : S.1 0 = (gn &&& 65535).toInt32) : S.1 0 &&& 1 = ((gn &&& 1)).toInt32 := by
  rw [h, gn_t, gn_t1, Int32.and_assoc]
  rfl
theorem gr_n (h : S.1 0 = (gn &&& 65535).toInt32) (n : Nat) : (S.1 0 + nI n) &&& 65535 = (gi n gn &&& 65535).toInt32 := by
  rw [h, gn_t, gn_t, gi_t, and_add]
theorem irq2 : (sp_X9_irqLines k S).2 = S := by
  unfold sp_X9_irqLines
  split <;> split <;> rfl
theorem step_e : sp_X9_step k S = sp_X9_settle k (cStep k S).1 (cStep k S).2 := by
  unfold sp_X9_step cStep sp_X7_takeNmi
  simp only [gB, gL, irq2]
  split <;> rfl
/-- the state of the class and that of the reference belong together -/
def Rl (k : Bool) (S M : gSt) : Prop := ∃ (c sp : Int32) (cr : Bool) (gn : Int64), M = ph k c sp cr gn S ∧ Iv k S ∧ S.1 0 = (gn &&& 65535).toInt32
theorem h_oneStep (hI : Iv k S) (hG : S.1 0 = (gn &&& 65535).toInt32) : ∃ (sp' : Int32) (cr' : Bool) (gn' : Int64), sp_X10_oneStep (ph k c sp cr gn S) = ((sp_X9_step k S).1, ph k c sp' cr' gn' (sp_X9_step k S).2) ∧ Iv k (sp_X9_step k S).2 ∧ (sp_X9_step k S).2.1 0 = (gn' &&& 65535).toInt32 := by
  obtain ⟨⟨cr', hM⟩, hI2, hp⟩ := ins_step (c := c) (sp := 0) (cr := cr) (gn := gn) hI
  obtain ⟨a, ha, ea⟩ := cy_step (k := k) (S := S)
  obtain ⟨b, hb, eb⟩ := cy_ask (k := k) (S := (cStep k S).2) gn
  obtain ⟨T, h1, h2, h3, h4⟩ := h_ltp hI2 (n := a + b) (by omega)
  have hg : (ask k gn (cStep k S).2).2.1 0 = S.1 0 := by
    unfold ask
    rw [f0_X0_copyPageAsked, f0_cStep]
  have e0 : sp_X9_step k S = (nI (a + b), T) := by
    rw [step_e]
    unfold sp_X9_settle
    rw [f0_cStep, gr_par hG]
    show gB (ask k gn (cStep k S).2) _ = _
    simp only [gB]
    rw [ea, eb, nI_add, h1]
  rw [e0]
  refine ⟨nI (a + b), cr', gi (a + b) gn, ?_, h3, ?_⟩
  · unfold sp_X10_oneStep
    simp only [gL]
    rw [phw_spent, hM]
    simp only [gB]
    rw [phr_spent, phw_spent, phr_spent, eb, ea, show (0 : Int32) + nI b + nI a = nI (a + b) from by rw [Int32.zero_add, nI_add, Nat.add_comm], h2]
    rfl
  · show T.1 0 = _
    rw [h4, hg]
    exact gr_n hG _
theorem r_step {M : gSt} (h : Rl k S M) : (sp_X10_step M).1 = (sp_X9_step k S).1 ∧ Rl k (sp_X9_step k S).2 (sp_X10_step M).2 := by
  obtain ⟨c, sp, cr, gn, rfl, hI, hG⟩ := h
  obtain ⟨sp', cr', gn', h1, h2, h3⟩ := h_oneStep (c := 0) (sp := sp) (cr := cr) hI hG
  have e : sp_X10_step (ph k c sp cr gn S) = sp_X10_oneStep (ph k 0 sp cr gn S) := by
    unfold sp_X10_step
    simp only [gL]
    rw [phw_code]
    rfl
  rw [e, h1]
  exact ⟨rfl, 0, sp', cr', gn', rfl, h2, h3⟩
theorem run_s (n : Nat) (x1 x2 x3 : Int32) : lp_X9_run_17 k (n + 1) x1 x2 x3 S = (if x1 ≤ x3 then (x2, S) else lp_X9_run_17 k n x1 (x2 + (sp_X9_step k S).1) (x3 + 1) (sp_X9_step k S).2) := by
  rw [lp_X9_run_17, step_e]
  generalize lp_X9_run_17 k n x1 = L
  unfold cStep sp_X7_takeNmi
  simp only [gB, gL, irq2]
  split
  · rfl
  split <;> rfl
theorem r_runL (n : Nat) : ∀ (x1 x2 x3 : Int32) (S : gSt) (c sp : Int32) (cr : Bool) (gn : Int64), Iv k S → S.1 0 = (gn &&& 65535).toInt32 → (lp_X10_run_22 n x1 x2 x3 (ph k c sp cr gn S)).1 = (lp_X9_run_17 k n x1 x2 x3 S).1 ∧ Rl k (lp_X9_run_17 k n x1 x2 x3 S).2 (lp_X10_run_22 n x1 x2 x3 (ph k c sp cr gn S)).2 := by
  induction n with
  | zero => intro x1 x2 x3 S c sp cr gn hI hG; exact ⟨rfl, c, sp, cr, gn, rfl, hI, hG⟩
  | succ n ih =>
    intro x1 x2 x3 S c sp cr gn hI hG
    rw [run_s, lp_X10_run_22]
    by_cases h : x1 ≤ x3
    · rw [if_pos h, if_pos h]
      exact ⟨rfl, c, sp, cr, gn, rfl, hI, hG⟩
    · rw [if_neg h, if_neg h]
      obtain ⟨sp', cr', gn', h1, h2, h3⟩ := h_oneStep (c := c) (sp := sp) (cr := cr) hI hG
      rw [h1]
      exact ih _ _ _ _ _ _ _ _ h2 h3
theorem r_run {M : gSt} (h : Rl k S M) (a0 : Int32) : (sp_X10_run a0 M).1 = (sp_X9_run k a0 S).1 ∧ Rl k (sp_X9_run k a0 S).2 (sp_X10_run a0 M).2 := by
  obtain ⟨c, sp, cr, gn, rfl, hI, hG⟩ := h
  unfold sp_X10_run sp_X9_run
  simp only [gL]
  rw [phw_code]
  by_cases h1 : a0 < 0
  · rw [if_pos h1, if_pos h1]
    exact ⟨rfl, 0, sp, cr, gn, rfl, hI, hG⟩
  · rw [if_neg h1, if_neg h1]
    by_cases h2 : a0 ≤ 200
    · rw [if_pos h2, if_pos h2]
      exact r_runL _ _ _ _ _ _ _ _ _ hI hG
    · rw [if_neg h2, if_neg h2]
      exact ⟨rfl, 0, sp, cr, gn, rfl, hI, hG⟩
theorem r_pass {M : gSt} (h : Rl k S M) (a0 : Int32) : (sp_X10_pass a0 M).1 = (sp_X9_pass k a0 S).1 ∧ Rl k (sp_X9_pass k a0 S).2 (sp_X10_pass a0 M).2 := by
  obtain ⟨c, sp, cr, gn, rfl, hI, hG⟩ := h
  unfold sp_X10_pass sp_X9_pass
  simp only [gL]
  rw [phw_code]
  by_cases h1 : a0 < 0
  · rw [if_pos h1, if_pos h1]
    exact ⟨rfl, 0, sp, cr, gn, rfl, hI, hG⟩
  · rw [if_neg h1, if_neg h1]
    by_cases h2 : a0 ≤ 30000
    · rw [if_pos h2, if_pos h2]
      obtain ⟨n, hn, rfl⟩ := nI_of2 (n := 30000) (by decide) h1 h2
      obtain ⟨T, e1, e2, e3, e4⟩ := h_ltp hI (n := n) (by omega)
      rw [e1, e2]
      exact ⟨rfl, 0, sp, cr, gi n gn, rfl, e3, e4.trans (gr_n hG n)⟩
    · rw [if_neg h2, if_neg h2]
      exact ⟨rfl, 0, sp, cr, gn, rfl, hI, hG⟩
theorem r_read {M : gSt} (h : Rl k S M) (a0 : Int32) : (sp_X10_read a0 M).1 = (sp_X9_read k a0 S).1 ∧ Rl k (sp_X9_read k a0 S).2 (sp_X10_read a0 M).2 := by
  obtain ⟨c, sp, cr, gn, rfl, hI, hG⟩ := h
  obtain ⟨j, hj, e⟩ := pk_andE a0 (m := 65535) 16 (by decide)
  unfold sp_X10_read sp_X9_read
  simp only [gL]
  rw [phw_code, e, h_get hI j (by omega)]
  exact ⟨rfl, 0, sp, cr, gn, rfl, (iv_Load hI _).1, (f0_X0_load k _ S).trans hG⟩
theorem r_memory {M : gSt} (h : Rl k S M) (a0 : Int32) : (sp_X10_memory a0 M).1 = (sp_X9_memory k a0 S).1 ∧ Rl k (sp_X9_memory k a0 S).2 (sp_X10_memory a0 M).2 := by
  obtain ⟨c, sp, cr, gn, rfl, hI, hG⟩ := h
  unfold sp_X10_memory sp_X9_memory
  simp only [gL]
  rw [phw_code, h_seen hI]
  simp only [gB]
  rw [c_byteAt2]
  exact ⟨by first | rfl | trivial, 0, sp, cr, gn, rfl, hI, hG⟩
theorem r_write {M : gSt} (h : Rl k S M) (a0 a1 : Int32) : Rl k (sp_X9_write k a0 a1 S).2 (sp_X10_write a0 a1 M).2 := by
  obtain ⟨c, sp, cr, gn, rfl, hI, hG⟩ := h
  obtain ⟨j, hj, e⟩ := pk_andE a0 (m := 65535) 16 (by decide)
  have hP := h_put (c := 0) (sp := 0) (cr := cr) (gn := gn) hI j (by omega) (v := a1 &&& 255) (by_and a1)
  obtain ⟨hP1, hP2⟩ := hP
  have hf : (sp_X0_store k (nI j) (a1 &&& 255) S).2.1 0 = S.1 0 := f0_X0_store k _ _ S
  unfold sp_X10_write sp_X9_write sp_X9_settle
  simp only [gL]
  rw [phw_code, phw_spent, e, hP1]
  simp only [gB]
  rw [hf, gr_par hG, phr_spent]
  generalize hQ : (sp_X0_store k (nI j) (a1 &&& 255) S).2 = Q at hf hP2 ⊢
  obtain ⟨b, hb, eb⟩ := cy_ask (k := k) (S := Q) gn
  have hg : (ask k gn Q).2.1 0 = S.1 0 := by
    unfold ask
    rw [f0_X0_copyPageAsked, hf]
  obtain ⟨T, h1, h2, h3, h4⟩ := h_ltp (S := (ask k gn Q).2) hP2 (n := b) (by omega)
  have eb' : (0 : Int32) + (sp_X0_copyPageAsked k ((gn &&& 1)).toInt32 Q).1 = nI b := by rw [Int32.zero_add]; exact eb
  rw [eb', show sp_X9_letTimePass k (nI b) (sp_X0_copyPageAsked k ((gn &&& 1)).toInt32 Q).2 = ((), T) from h1, show sp_X10_elapse (nI b) (ph k 0 (nI b) cr gn (sp_X0_copyPageAsked k ((gn &&& 1)).toInt32 Q).2) = ((), ph k 0 (nI b) cr (gi b gn) T) from h2 0 (nI b) cr gn]
  refine ⟨0, nI b, cr, gi b gn, rfl, h3, ?_⟩
  show T.1 0 = _
  rw [h4, hg]
  exact gr_n hG b
end PZh
