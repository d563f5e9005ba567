def R_law : String := "GameConsoleLaw"
def lw_P (b : Addr) (xs : List Int32) (args : Array Value) (s : State) : Prop := args = #[.ref b] ∧ s.IntsAt b xs ∧ xs.length ≤ 1537 ∧ (Jvm.Cond.and given_1 narrow_1).before args s = true
def lw_Q (_ : Array Value) (s : State) (o : Outcome) (t : State) : Prop := o = .returned (some (.int 1)) ∧ Framed s o t [] 1071 19626
def lw_Z (below : List Frame) (a : Array Value) (s : State) : State → Prop := fun t => ∃ o, t.status = .running ∧ Ended t below o ∧ lw_Q a s o t
/-- the law's own end, with 1 on the stack, nothing written that was there before, its room as the claim has it -/
theorem lw_ret {p : Program} {l : Launch} {e : Env} {s : State} {m : MethodId} {below : List Frame} {meth : Method} {c : Code} {b : Nat} (hx : p.tables.exec = Jvm.exec) (hb : c.code = code) (hr : meth.sig.returnType = ret) (hlocks : meth.locks = false) {pc : Nat} {H : Heap} {ls : Array Slot} (hdg : decode code pc = .ok (.ireturn, 1)) : W p l e room_1 s m #[Value.ref b] below meth c H [] 1071 19626 (lw_Z below #[Value.ref b] s) (F0 m pc ls [.int 1]) := by
  intro T hT X
  obtain ⟨fs, hret, hrun, hended, hW, hframe⟩ := X.leave (v := some (.int 1)) (hlocks := hlocks) (fun h => by rw [hr] at h; cases h)
  have hmeth' : T.vm.method? m = some meth := X.method'
  refine ⟨T.setFrames fs, ?_, .returned (some (.int 1)), hrun, hended, rfl, ⟨_, rfl⟩, hW, hframe⟩
  jvm_step X.here [X.here.top, hx, hb, hdg, hmeth', hr, ret, narrow_b1]
  (try refine ⟨rfl, ?_⟩); (try refine ⟨rfl, ?_⟩)
  first | (intro acts; rw [hret _ acts rfl rfl rfl]) | rw [hret _ _ rfl rfl rfl]
  exact Steps.refl _
/-- what holds at the law's entry: the machine, the code, the tables' words (any of lw_tbl by 'hts w (by decide +kernel)'), the script of L ints xs at the cell b, what the Statement gives of the start (any of its parts by flat_of_before) -/
def lw_At (p : Program) (s : State) (m : MethodId) (meth : Method) (c : Code) (b L : Nat) (xs : Nat → Int32) : Prop :=
  p.tables.exec = Jvm.exec ∧ c.code = code ∧ meth.sig.returnType = ret ∧ c.maxLocals = 7 ∧ s.vm.findClass R_law = some m.cls ∧ (∀ w ∈ lw_tbl, w.before #[Value.ref b] s = true) ∧ va_X b L xs s s.heap ∧ b < s.heap.size ∧ meth.locks = false ∧ (Jvm.Cond.and given_1 narrow_1).before #[Value.ref b] s = true
section LA
section LR
variable {ω : gO} {κ : gK} {cc : ByteArray} {nL : Nat} {own : String} {ret9 : Option FieldType} {rm : Room} {Q : State → Prop} {pc nc ns : Nat} {lv : List (Nat × Value)} {rest : List Value} {ws : va_W}
theorem n_lv (ks : List Nat) {lv' : List (Nat × Value)} {st : List Value} (h : lv_pick lv ks = lv') (k : gN ω κ nL Q pc lv' st ws nc ns) : gN ω κ nL Q pc lv st ws nc ns := by
  obtain ⟨p, l, e, R, s, m, args, below, meth, c, A⟩ := κ
  intro H locs ls hP hD hS hl
  exact k H locs ls hP hD hS (lv_sub hl ks h)
theorem n_stk {st : List Value} (st' : List Value) (h : st = st') (k : gN ω κ nL Q pc lv st' ws nc ns) : gN ω κ nL Q pc lv st ws nc ns := by
  subst h
  exact k
theorem n_lald (hc : gC ω κ cc nL own ret9 rm) (q0 t0 : Nat) {a : Nat} {cA : ClassId} {n : Nat} {f : Nat → Int64} {i : Int32} (ha : ws[q0]? = some (a, .inl (cA, n, .inr (.inl f)))) (ht : ω.2.2.1[t0]? = some (cA, .long)) (hin : vp_in i n) (hd : decode cc pc = .ok (.laload, 1)) (kk : gN ω κ nL Q (pc + 1) lv (.long (f i.toNatClampNeg) :: rest) ws nc ns) : gN ω κ nL Q pc lv (.int i :: .ref a :: rest) ws nc ns := by
  obtain ⟨p, l, e, R, s, m, args, below, meth, c, A⟩ := κ
  intro H locs ls hP hD hS hl
  exact va_lald hc.1 hc.2.1 hc.2.2.2.2.2.1 hP q0 t0 ha ht hin hd (kk H locs ls hP hD hS hl)
theorem n_lcmp (hc : gC ω κ cc nL own ret9 rm) {x y : Int64} (hd : decode cc pc = .ok (.lcmp, 1)) (kk : gN ω κ nL Q (pc + 1) lv (.int (lg_cmp x y) :: rest) ws nc ns) : gN ω κ nL Q pc lv (.long y :: .long x :: rest) ws nc ns := by
  obtain ⟨p, l, e, R, s, m, args, below, meth, c, A⟩ := κ
  intro H locs ls hP hD hS hl
  exact W.lcmp hc.1 hc.2.1 hd (kk H locs ls hP hD hS hl)
theorem n_tsi (hc : gC ω κ cc nL own ret9 rm) {x : Int32} {dflt lo hi off : Int} {offs : Array Int} {len tgt : Nat} (hd : decode cc pc = .ok (.tableswitch dflt lo hi offs, len)) (h1 : ¬ x.toInt < lo) (h2 : ¬ hi < x.toInt) (ho : offs[(x.toInt - lo).toNat]? = some off) (ht : (pc : Int) + off = (tgt : Int)) (k : gN ω κ nL Q tgt lv rest ws nc ns) : gN ω κ nL Q pc lv (.int x :: rest) ws nc ns := by
  obtain ⟨p, l, e, R, s, m, args, below, meth, c, A⟩ := κ
  intro H locs ls hP hD hS hl
  exact lv_tableIn hc.1 hc.2.1 hd h1 h2 ho ht (k H locs ls hP hD hS hl)
theorem n_M {st : List Value} {wc wm : va_W} {o' : Nat × va_E} (k : gN ω κ nL Q pc lv st (wm ++ (wc ++ [o'])) nc ns) : gN ω κ nL Q pc lv st (wc ++ o' :: wm) nc ns := n_perm _ (by
  have h := List.perm_append_comm (l₁ := wc ++ [o']) (l₂ := wm)
  rw [List.append_assoc] at h
  exact h) k
theorem n_C {st : List Value} {wc wm : va_W} {o' : Nat × va_E} (k : gN ω κ nL Q pc lv st (wc ++ o' :: wm) nc ns) : gN ω κ nL Q pc lv st (wm ++ (wc ++ [o'])) nc ns := n_perm _ (by
  have h := List.perm_append_comm (l₁ := wc ++ [o']) (l₂ := wm)
  rw [List.append_assoc] at h
  exact h.symm) k
/-- a static method with an exception table is called -/
theorem n_callSW (hc : gC ω κ cc nL own ret9 rm) (hlt : nLt κ) {y : MethodName} {rmy : Room} {by_ : ByteArray} {mL i na : Nat} {rety : Option FieldType} {hh : List (Nat × Nat × Nat × Nat)} {st : List Value} {w1 : va_W} {v : Option Value} (As : List Value) (hM : ∀ l, l.stackTraces = false → lMet l y (Cond.codeWith y by_ mL rety hh) rmy ω As ws v w1) (h1 : Cond.methodLink own i y ∈ WT) (h2 : Cond.static y ∈ WT) (h3 : Cond.initialized y.cls ∈ WT) (h4 : Cond.codeWith y by_ mL rety hh ∈ WT) (hg : y.cls ≠ "java/lang/invoke/MethodHandle" ∧ y.cls ≠ "java/lang/invoke/VarHandle" ∧ (parseMethodDescriptor y.desc).map (fun d => d.parameters.length) = some na) (hn : As.length = na)
    (hR : rmy.frames + 1 ≤ rm.frames ∧ 8 + (mL + 11) + rmy.locals ≤ rm.locals) (hr : nc + rmy.cells ≤ rm.cells ∧ ns + rmy.slots ≤ rm.slots) (hst : st = As.reverse ++ rest) (hcat : (rest.map fun v => v.category).sum ≤ 8) (hd : decode cc pc = .ok (.invokestatic i, 3))
    (kk : gN ω κ nL Q (pc + 3) lv (v.toList ++ rest) w1 (nc + rmy.cells) (ns + rmy.slots)) : gN ω κ nL Q pc lv st ws nc ns := by
  obtain ⟨p, l, e, R, s, m, args, below, meth, c, A⟩ := κ
  intro H locs ls hP hD hS hl
  obtain ⟨hx, hb, hml, hown, hts, hK, hA, hret, hlk, rfl, hZ, hz⟩ := hc
  have hF : ∀ q, va_A ws H.size q → A q := fun q h => h.elim (fun ⟨k, e, hk⟩ => hD.2 k (q, e) hk) (fun h => hA q (Nat.le_trans hS.1 h))
  have hp : PreS s H (va_Pc As (nPre ω ws H.size)) As := by
    refine ⟨fun a U g mk q => ?_, fun U hU hW => ⟨rfl, by rw [hU], by rw [hU]; exact hP, va_K.moved hW.alike hK, ⟨hD.1, fun _ _ _ => trivial⟩, ?_⟩⟩
    · obtain ⟨q0, q1, qP, qK, qD, qZ⟩ := q
      exact ⟨q0, q1, qP, va_K.moved (u := U) (U := U.calling g mk a) (Vm.Alike.refl U.vm) qK, qD, hz.1 _ U (U.calling g mk a) _ (State.WarmedH.refl U) qZ⟩
    · rw [hU]
      exact hz.2.2 A _ U H hF (hz.1 A s U H hW (hz.2.1 A s s.heap H hS.2.1 hZ))
  have hgood : GoodIn WT (va_wsS own i y (Cond.codeWith y by_ mL rety hh :: WT)) := g_inl (fun w h => by
    simp only [List.mem_cons, List.not_mem_nil, or_false] at h
    rcases h with rfl | rfl | rfl
    · exact h1
    · exact h2
    · exact h3) h4
  have e1 : ws = ws ++ [] := (List.append_nil _).symm
  refine n_back (w1 := ws) (w2 := []) (Bv := fun v' w3 => v' = v ∧ w3 = w1) hA (by rw [← e1]; exact hP) (by rw [← e1]; exact hD) hS hl (vx_runSW (As := As) (rest := rest) ⟨hx, hb, hml, hown, hts⟩ (hM l hlt H.size) (vx_cwSW na hts hgood rfl rfl rfl hg hR) hp rfl hn hl.1 hst (by simpa [JFrame.monitorRoom] using hcat) hd hr) ?_ ?_
  · rintro st₀ t v' h0 ⟨⟨hv, hP2, -, hD2⟩, hF2⟩
    cases hv
    exact ⟨w1, ⟨rfl, rfl⟩, hP2, hD2, hF2⟩
  · rintro v' w3 ⟨rfl, rfl⟩
    rw [List.append_nil]
    exact kk
/-- a static method is called -/
theorem n_callS (hc : gC ω κ cc nL own ret9 rm) {y : MethodName} {rmy : Room} {by_ : ByteArray} {mL i na : Nat} {rety : Option FieldType} {st : List Value} {w1 : va_W} {v : Option Value} (As : List Value) (hM : ∀ l, lMet l y (Cond.code y by_ mL rety) rmy ω As ws v w1) (h1 : Cond.methodLink own i y ∈ WT) (hg : g_calleeS own y by_ mL rety na) (hn : As.length = na)
    (hR : rmy.frames + 1 ≤ rm.frames ∧ 8 + (mL + 11) + rmy.locals ≤ rm.locals) (hr : nc + rmy.cells ≤ rm.cells ∧ ns + rmy.slots ≤ rm.slots) (hst : st = As.reverse ++ rest) (hcat : (rest.map fun v => v.category).sum ≤ 8) (hd : decode cc pc = .ok (.invokestatic i, 3))
    (kk : gN ω κ nL Q (pc + 3) lv (v.toList ++ rest) w1 (nc + rmy.cells) (ns + rmy.slots)) : gN ω κ nL Q pc lv st ws nc ns := by
  obtain ⟨p, l, e, R, s, m, args, below, meth, c, A⟩ := κ
  intro H locs ls hP hD hS hl
  obtain ⟨hx, hb, hml, hown, hts, hK, hA, hret, hlk, rfl, hZ, hz⟩ := hc
  have hF : ∀ q, va_A ws H.size q → A q := fun q h => h.elim (fun ⟨k, e, hk⟩ => hD.2 k (q, e) hk) (fun h => hA q (Nat.le_trans hS.1 h))
  have hp : PreS s H (va_Pc As (nPre ω ws H.size)) As := by
    refine ⟨fun a U g mk q => ?_, fun U hU hW => ⟨rfl, by rw [hU], by rw [hU]; exact hP, va_K.moved hW.alike hK, ⟨hD.1, fun _ _ _ => trivial⟩, ?_⟩⟩
    · obtain ⟨q0, q1, qP, qK, qD, qZ⟩ := q
      exact ⟨q0, q1, qP, va_K.moved (u := U) (U := U.calling g mk a) (Vm.Alike.refl U.vm) qK, qD, hz.1 _ U (U.calling g mk a) _ (State.WarmedH.refl U) qZ⟩
    · rw [hU]
      exact hz.2.2 A _ U H hF (hz.1 A s U H hW (hz.2.1 A s s.heap H hS.2.1 hZ))
  have e1 : ws = ws ++ [] := (List.append_nil _).symm
  refine n_back (w1 := ws) (w2 := []) (Bv := fun v' w3 => v' = v ∧ w3 = w1) hA (by rw [← e1]; exact hP) (by rw [← e1]; exact hD) hS hl (va_runS (As := As) (rest := rest) ⟨hx, hb, hml, hown, hts⟩ (hM l H.size) (cwS na hts (g_inS h1 hg) rfl rfl rfl hg.1 hR) hp rfl hn hl.1 hst (by simpa [JFrame.monitorRoom] using hcat) hd hr) ?_ ?_
  · rintro st₀ t v' h0 ⟨⟨hv, hP2, -, hD2⟩, hF2⟩
    cases hv
    exact ⟨w1, ⟨rfl, rfl⟩, hP2, hD2, hF2⟩
  · rintro v' w3 ⟨rfl, rfl⟩
    rw [List.append_nil]
    exact kk
end LR
section LX
variable {η : gE} {jA : ClassId} {b L : Nat} {xs : Nat → Int32} {κ : gK} {cc : ByteArray} {nL : Nat} {own : String} {ret9 : Option FieldType} {rm : Room} {Q : State → Prop} {pc nc ns : Nat} {lv : List (Nat × Value)} {rest : List Value} {ws : va_W}
theorem n_sld (hc : gC (oL η jA b L xs) κ cc nL own ret9 rm) {x : Int32} (j : Nat) (hx : x = nI j) (hj : j < L) (hL : L < 2 ^ 31) (hd : decode cc pc = .ok (.iaload, 1)) (kk : gN (oL η jA b L xs) κ nL Q (pc + 1) lv (.int (xs j) :: rest) ws nc ns) : gN (oL η jA b L xs) κ nL Q pc lv (.int x :: .ref b :: rest) ws nc ns := by
  obtain ⟨p, l, e, R, s, m, args, below, meth, c, A⟩ := κ
  intro H locs ls hP hD hS hl
  have hz := hc.2.2.2.2.2.2.2.2.2.2.1
  subst hx
  refine va_sld hc.1 hc.2.1 hz.2.2.1 hz.2.2.2.1 hz.2.2.2.2 hS (in_n hj hL) hd ?_
  rw [nI_clamp (by omega)]
  exact kk H locs ls hP hD hS hl
theorem n_slen (hc : gC (oL η jA b L xs) κ cc nL own ret9 rm) (hd : decode cc pc = .ok (.arraylength, 1)) (kk : gN (oL η jA b L xs) κ nL Q (pc + 1) lv (.int (nI L) :: rest) ws nc ns) : gN (oL η jA b L xs) κ nL Q pc lv (.ref b :: rest) ws nc ns := by
  obtain ⟨p, l, e, R, s, m, args, below, meth, c, A⟩ := κ
  intro H locs ls hP hD hS hl
  have hz := hc.2.2.2.2.2.2.2.2.2.2.1
  exact va_slen hc.1 hc.2.1 hz.2.2.1 hz.2.2.2.1 hz.2.2.2.2 hS hd (kk H locs ls hP hD hS hl)
end LX
theorem cMet_of {l : Launch} {y : MethodName} {rm : Room} {ω : gO} {cc : ByteArray} {nL : Nat} {ret9 : Option FieldType} {av : List Value} {lv : List (Nat × Value)} {w0 w1 : va_W} {v : Option Value} (hz : gZok ω.2.2.2)
    (hy : plainName y.cls = true) (hlen : (lg_sl av).length ≤ nL) (hlv : lv_args 0 av = lv)
    (body : ∀ κ : gK, gC ω κ cc nL y.cls ret9 rm → gN ω κ nL (nK κ (lQ ω v w1) rm.cells rm.slots) 0 lv [] w0 0 0) : lMet l y (Cond.code y cc nL ret9) rm ω av w0 v w1 := by
  intro sz
  refine Met.ofW (cc := cc) (maxL := nL) (ret := ret9) (ws' := WT) hy rfl ?_
  intro p e s m args below meth c s₁ B hml hv
  obtain ⟨rfl, hsz, hP, hK, hD0, hZ⟩ := hv
  have hts := fun w h => atoms_spec (ws := Cond.code y cc nL ret9 :: WT) B.pre w (List.mem_cons_of_mem _ h)
  have hown : s.vm.findClass y.cls = some m.cls := findClass_of_methodNamed B.named
  subst hsz
  have hD := hD0.self (sz := s.heap.size)
  have hl := lv_entry av (n := nL) hlen
  rw [lg_entry_eq]
  rw [hlv] at hl
  exact body (p, l, e, (headSpec (Cond.code y cc nL ret9 :: WT) rm).room, s, m, av.toArray, below, meth, c, va_A w0 s.heap.size) ⟨B.exec, B.bytes, hml, hown, hts, hK, fun q h => Or.inr h, B.returns, B.notSynchronized, rfl, hZ, hz⟩ s.heap [] _ hP hD va_S.rf hl
abbrev rm_LC : Room := { frames := 1, cells := 0, slots := 0, locals := 20 }
/-- the script's first int -/
def cell0 (L : Nat) (xs : Nat → Int32) : Int32 := if 0 < L then xs 0 else 0
theorem h_L_cell (l : Launch) (η : gE) (jA : ClassId) (b L : Nat) (xs : Nat → Int32) (hL : L < 2 ^ 31) (w0 : va_W) : lMet l yL_cell (Cond.code yL_cell cL_cell 2 (some .int)) rm_LC (oL η jA b L xs) [.ref b, .int 0] w0 (some (.int (cell0 L xs))) w0 := by
  refine cMet_of (lv := [(0, .ref b), (1, .int 0)]) (zL_ok η b L xs) (by decide +kernel) (Nat.le_of_ble_eq_true rfl) rfl (fun κ hc => ?_)
  have hc : gC (oL η jA b L xs) κ cL_cell 2 RL (some .int) rm_LC := hc
  refine n_iload_n (i := 1) hc 1 dL_cell_0 rfl rfl ?_
  refine n_aload_n (i := 0) hc 0 dL_cell_1 rfl rfl ?_
  refine n_slen hc dL_cell_2 ?_
  unfold cell0
  refine n_icmpge (tgt := 12) hc dL_cell_3 rfl (fun c => ?_) (fun c => ?_)
  · have h : ¬ 0 < L := fun z => nI_ge (b := L) (a := 0) z hL c
    rw [if_neg h]
    refine n_iconst (v := 0) hc dL_cell_12 (by decide) ?_
    exact n_iret hc dL_cell_13
  · have h : 0 < L := Nat.not_le.mp (fun z => c (nI_le (b := 0) z (by omega)))
    rw [if_pos h]
    refine n_aload_n (i := 0) hc 0 dL_cell_6 rfl rfl ?_
    refine n_iload_n (i := 1) hc 1 dL_cell_7 rfl rfl ?_
    refine n_sld hc 0 rfl h hL dL_cell_8 ?_
    refine n_goto (tgt := 13) hc dL_cell_9 rfl ?_
    exact n_iret hc dL_cell_13
end LA
