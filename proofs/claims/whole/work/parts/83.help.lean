theorem wtN_109 : Cond.instanceMethod yX9_rom ∈ WT := wt_m (List.mem_of_getElem? (i := 840) (by decide +kernel)) (by decide +kernel)
theorem wtN_110 : Cond.selects RX9 yX9_rom yX9_rom ∈ WT := wt_m (List.mem_of_getElem? (i := 841) (by decide +kernel)) (by decide +kernel)
theorem wtN_111 : Cond.initialized RX9 ∈ WT := wt_m (List.mem_of_getElem? (i := 107) (by decide +kernel)) (by decide +kernel)
theorem wtN_112 : Cond.code yX9_rom cX9_rom 3 none ∈ WT := wt_m (List.mem_of_getElem? (i := 842) (by decide +kernel)) (by decide +kernel)
theorem wtN_113 : Cond.methodLink RL 7 yX9_rom ∈ WT := wt_m (List.mem_of_getElem? (i := 839) (by decide +kernel)) (by decide +kernel)
theorem wtN_114 : Cond.classLink RL 13 "java/lang/IllegalArgumentException" ∈ WT := wt_m (List.mem_of_getElem? (i := 838) (by decide +kernel)) (by decide +kernel)
theorem wtN_115 : Cond.instanceMethod yX9_chr ∈ WT := wt_m (List.mem_of_getElem? (i := 914) (by decide +kernel)) (by decide +kernel)
theorem wtN_116 : Cond.selects RX9 yX9_chr yX9_chr ∈ WT := wt_m (List.mem_of_getElem? (i := 915) (by decide +kernel)) (by decide +kernel)
theorem wtN_117 : Cond.code yX9_chr cX9_chr 3 none ∈ WT := wt_m (List.mem_of_getElem? (i := 916) (by decide +kernel)) (by decide +kernel)
theorem wtN_118 : Cond.methodLink RL 15 yX9_chr ∈ WT := wt_m (List.mem_of_getElem? (i := 913) (by decide +kernel)) (by decide +kernel)
theorem wtN_119 : Cond.instanceMethod yX9_pad ∈ WT := wt_m (List.mem_of_getElem? (i := 923) (by decide +kernel)) (by decide +kernel)
theorem wtN_120 : Cond.selects RX9 yX9_pad yX9_pad ∈ WT := wt_m (List.mem_of_getElem? (i := 924) (by decide +kernel)) (by decide +kernel)
theorem wtN_121 : Cond.code yX9_pad cX9_pad 3 none ∈ WT := wt_m (List.mem_of_getElem? (i := 925) (by decide +kernel)) (by decide +kernel)
theorem wtN_122 : Cond.methodLink RL 18 yX9_pad ∈ WT := wt_m (List.mem_of_getElem? (i := 922) (by decide +kernel)) (by decide +kernel)
theorem wtN_123 : Cond.classLink RL 21 "java/lang/IndexOutOfBoundsException" ∈ WT := wt_m (List.mem_of_getElem? (i := 921) (by decide +kernel)) (by decide +kernel)
theorem wtN_124 : Cond.instanceMethod yX9_core ∈ WT := wt_m (List.mem_of_getElem? (i := 946) (by decide +kernel)) (by decide +kernel)
theorem wtN_125 : Cond.selects RX9 yX9_core yX9_core ∈ WT := wt_m (List.mem_of_getElem? (i := 947) (by decide +kernel)) (by decide +kernel)
theorem wtN_126 : Cond.code yX9_core cX9_core 2 (some .int) ∈ WT := wt_m (List.mem_of_getElem? (i := 948) (by decide +kernel)) (by decide +kernel)
theorem wtN_127 : Cond.methodLink RL 23 yX9_core ∈ WT := wt_m (List.mem_of_getElem? (i := 945) (by decide +kernel)) (by decide +kernel)
theorem wtN_128 : Cond.instanceMethod yX9_picture ∈ WT := wt_m (List.mem_of_getElem? (i := 954) (by decide +kernel)) (by decide +kernel)
theorem wtN_129 : Cond.selects RX9 yX9_picture yX9_picture ∈ WT := wt_m (List.mem_of_getElem? (i := 955) (by decide +kernel)) (by decide +kernel)
theorem wtN_130 : Cond.code yX9_picture cX9_picture 2 (some .int) ∈ WT := wt_m (List.mem_of_getElem? (i := 956) (by decide +kernel)) (by decide +kernel)
theorem wtN_131 : Cond.methodLink RL 27 yX9_picture ∈ WT := wt_m (List.mem_of_getElem? (i := 953) (by decide +kernel)) (by decide +kernel)
theorem wtN_132 : Cond.instanceMethod yX9_oam ∈ WT := wt_m (List.mem_of_getElem? (i := 962) (by decide +kernel)) (by decide +kernel)
theorem wtN_133 : Cond.selects RX9 yX9_oam yX9_oam ∈ WT := wt_m (List.mem_of_getElem? (i := 963) (by decide +kernel)) (by decide +kernel)
theorem wtN_134 : Cond.code yX9_oam cX9_oam 2 (some .int) ∈ WT := wt_m (List.mem_of_getElem? (i := 964) (by decide +kernel)) (by decide +kernel)
theorem wtN_135 : Cond.methodLink RL 30 yX9_oam ∈ WT := wt_m (List.mem_of_getElem? (i := 961) (by decide +kernel)) (by decide +kernel)
theorem wtN_136 : Cond.instanceMethod yX9_cartridge ∈ WT := wt_m (List.mem_of_getElem? (i := 970) (by decide +kernel)) (by decide +kernel)
theorem wtN_137 : Cond.selects RX9 yX9_cartridge yX9_cartridge ∈ WT := wt_m (List.mem_of_getElem? (i := 971) (by decide +kernel)) (by decide +kernel)
theorem wtN_138 : Cond.code yX9_cartridge cX9_cartridge 2 (some .int) ∈ WT := wt_m (List.mem_of_getElem? (i := 972) (by decide +kernel)) (by decide +kernel)
theorem wtN_139 : Cond.methodLink RL 33 yX9_cartridge ∈ WT := wt_m (List.mem_of_getElem? (i := 969) (by decide +kernel)) (by decide +kernel)
theorem wtN_140 : Cond.instanceMethod yX9_sound ∈ WT := wt_m (List.mem_of_getElem? (i := 987) (by decide +kernel)) (by decide +kernel)
theorem wtN_141 : Cond.selects RX9 yX9_sound yX9_sound ∈ WT := wt_m (List.mem_of_getElem? (i := 988) (by decide +kernel)) (by decide +kernel)
theorem wtN_142 : Cond.code yX9_sound cX9_sound 2 (some .int) ∈ WT := wt_m (List.mem_of_getElem? (i := 989) (by decide +kernel)) (by decide +kernel)
theorem wtN_143 : Cond.methodLink RL 36 yX9_sound ∈ WT := wt_m (List.mem_of_getElem? (i := 986) (by decide +kernel)) (by decide +kernel)
section HH
/-- what the law knows beside the cells: the class's tables and throws, its nest, the script -/
def zL (η : gE) (b L : Nat) (xs : Nat → Int32) : (Nat → Prop) → State → Heap → Prop := fun A U H => zX η A U H ∧ zN A U H ∧ va_X b L xs U H ∧ b < H.size ∧ ¬ A b
theorem va_X_kept {b L : Nat} {xs : Nat → Int32} {U : State} {H H1 : Heap} (h : va_X b L xs U H) (e : H1[b]? = H[b]?) : va_X b L xs U H1 := by
  obtain ⟨scr, h1, h2, h3, h4, h5⟩ := h
  exact ⟨scr, by rw [e]; exact h1, h2, h3, h4, h5⟩
theorem zL_ok (η : gE) (b L : Nat) (xs : Nat → Int32) : gZok (zL η b L xs) := by
  obtain ⟨h1, h2, h3⟩ := zX_ok η
  obtain ⟨g1, g2, g3⟩ := zN_ok
  refine ⟨fun A u U H hW h => ⟨h1 A u U H hW h.1, g1 A u U H hW h.2.1, va_X.moved hW.alike h.2.2.1, h.2.2.2⟩, fun A U H H1 hk h => ?_, fun A B U H hAB h => ⟨h3 A B U H hAB h.1, g3 A B U H hAB h.2.1, h.2.2.1, h.2.2.2.1, fun z => h.2.2.2.2 (hAB _ z)⟩⟩
  have e := hk b h.2.2.2.1 h.2.2.2.2
  refine ⟨h2 A U H H1 hk h.1, g2 A U H H1 hk h.2.1, va_X_kept h.2.2.1 e, ?_, h.2.2.2.2⟩
  obtain ⟨scr, h5, _⟩ := h.2.2.1
  rw [← e] at h5
  exact (Array.getElem?_eq_some_iff.mp h5).1
def oL (η : gE) (jA : ClassId) (b L : Nat) (xs : Nat → Int32) : gO := (fun _ => [], η.2.1, [(η.2.2.1, .int), (η.2.2.2.1, .boolean), (jA, .long)], zL η b L xs)
/-- the law's own array of one long -/
def outC (jA : ClassId) (o : Nat) (f : Nat → Int64) : Nat × va_E := (o, .inl (jA, 1, .inr (.inl f)))
def lQ (ω : gO) (v : Option Value) (w1 : va_W) (A : Nat → Prop) : Array Value → State → Outcome → State → Prop := fun _ st oc t => (oc = .returned v ∧ va_P ω.2.1 vwCl w1 t.heap ∧ va_K ω.2.1 vwCl ω.2.2.1 t ∧ va_D A w1) ∧ va_F A st t
def lMet (l : Launch) (y : MethodName) (hd : Cond) (rm : Room) (ω : gO) (av : List Value) (w0 : va_W) (v : Option Value) (w1 : va_W) : Prop :=
  ∀ sz : Nat, Met l y (hd :: WT) rm (va_Pc av (nPre ω w0 sz)) (lQ ω v w1 (va_A w0 sz)) rm.cells rm.slots (va_A w0 sz)
def nT (κ : gK) (hh : List (Nat × Nat × Nat × Nat)) : Prop := match κ with
  | (_, _, _, _, _, _, _, _, _, c, _) => c.exceptionTable.toList = tableOf hh
theorem lMet_of {l : Launch} {y : MethodName} {rm : Room} {ω : gO} {cc : ByteArray} {nL : Nat} {ret : Option FieldType} {hh : List (Nat × Nat × Nat × Nat)} {av : List Value} {lv : List (Nat × Value)} {w0 w1 : va_W} {v : Option Value} (hlt : l.stackTraces = false) (hz : gZok ω.2.2.2)
    (hy : plainName y.cls = true) (hlen : (lg_sl av).length ≤ nL) (hlv : lv_args 0 av = lv)
    (body : ∀ κ : gK, gC ω κ cc nL y.cls ret rm → nT κ hh → nLt κ → gN ω κ nL (nK κ (lQ ω v w1) rm.cells rm.slots) 0 lv [] w0 0 0) : lMet l y (Cond.codeWith y cc nL ret hh) rm ω av w0 v w1 := by
  intro sz
  refine MetFree.of_bodyS (code := cc) (maxLocals := nL) (ret := ret) hy ?_ ?_
  · intro args s m h hn
    obtain ⟨m9, meth, c, hn9, h1, h2, h3, h4, -, h5, h6, -⟩ := Cond.codeWith_spec (atoms_spec (ws := Cond.codeWith y cc nL ret hh :: WT) h _ List.mem_cons_self)
    cases hn.symm.trans hn9
    exact ⟨meth, c, h1, h2, h3, h4, h5, h6⟩
  · intro p e s m args below meth c s₁ B hml hv _
    obtain ⟨rfl, hsz, hP, hK, hD0, hZ⟩ := hv
    have hts0 := fun w h => atoms_spec (ws := Cond.codeWith y cc nL ret hh :: WT) B.pre w h
    have hts := fun w h => hts0 w (List.mem_cons_of_mem _ h)
    have hown : s.vm.findClass y.cls = some m.cls := findClass_of_methodNamed B.named
    have htab : c.exceptionTable.toList = tableOf hh := vx_table (x := y) B (hts0 _ List.mem_cons_self)
    have hh0 : s₁.heap = s.heap := by rw [B.state]; rfl
    subst hsz
    have hD := hD0.self (sz := s.heap.size)
    have hl := lv_entry av (n := nL) hlen
    rw [hlv] at hl
    have K : W p l e (headSpec (Cond.codeWith y cc nL ret hh :: WT) rm).room s m av.toArray below meth c s.heap [] 0 0 (MQ below (lQ ω v w1 (va_A w0 s.heap.size)) av.toArray s rm.cells rm.slots (va_A w0 s.heap.size)) (entryFrame m av.toArray nL) := by
      rw [lg_entry_eq]
      exact body (p, l, e, (headSpec (Cond.codeWith y cc nL ret hh :: WT) rm).room, s, m, av.toArray, below, meth, c, va_A w0 s.heap.size) ⟨B.exec, B.bytes, hml, hown, hts, hK, fun q h => Or.inr h, B.returns, B.notSynchronized, rfl, hZ, hz⟩ htab hlt s.heap [] _ hP hD va_S.rf hl
    obtain ⟨t, a1, o, b1, b2, b3⟩ := K s₁ hh0 (Stand.of_body B)
    exact ⟨t, o, a1, b1, b2, ⟨b3.1, b3.2⟩⟩
section HR
variable {ω : gO} {κ : gK} {cc : ByteArray} {nL : Nat} {own : String} {ret : Option FieldType} {rm : Room} {Q : State → Prop} {pc nc ns : Nat} {lv : List (Nat × Value)} {rest : List Value} {ws : va_W}
theorem n_iret {v : Int32} (hc : gC ω κ cc nL own (some .int) rm) (hd : decode cc pc = .ok (.ireturn, 1)) : gN ω κ nL (nK κ (lQ ω (some (.int v)) ws) nc ns) pc lv [.int v] ws nc ns := by
  obtain ⟨p, l, e, R, s, m, args, below, meth, c, A⟩ := κ
  intro H locs ls hP hD hS hl
  exact W.iret hc.1 hc.2.1 hc.2.2.2.2.2.2.2.1 (fun t ht hW => ⟨⟨rfl, by rw [ht]; exact hP, va_K.moved hW.alike hc.2.2.2.2.2.1, hD⟩, hS.F ht⟩) hS.2.2 hd hc.2.2.2.2.2.2.2.2.1
theorem n_last (hc : gC ω κ cc nL own ret rm) (q0 t0 : Nat) (ws' : va_W) {a : Nat} {cA : ClassId} {n : Nat} {f : Nat → Int64} {i : Int32} {x : Int64} (ha : ws[q0]? = some (a, .inl (cA, n, .inr (.inl f)))) (ht : ω.2.2.1[t0]? = some (cA, .long)) (hin : vp_in i n) (hd : decode cc pc = .ok (.lastore, 1)) (hw : ws.set q0 (a, .inl (cA, n, .inr (.inl (vp_updL f i.toNatClampNeg x)))) = ws') (kk : gN ω κ nL Q (pc + 1) lv rest ws' nc ns) : gN ω κ nL Q pc lv (.long x :: .int i :: .ref a :: rest) ws nc ns := by
  obtain ⟨p, l, e, R, s, m, args, below, meth, c, A⟩ := κ
  intro H locs ls hP hD hS hl
  subst hw
  exact va_last hc.1 hc.2.1 hc.2.2.2.2.2.1 hP hD hS q0 t0 ha ht hin hd (fun H1 locs1 hP hD hS => kk H1 locs1 ls hP hD hS hl)
/-- a method that throws is called, and what it throws is caught here -/
theorem n_callX (hc : gC ω κ cc nL own ret rm) (hlt : nLt κ) {hh : List (Nat × Nat × Nat × Nat)} (hT : nT κ hh) {ω' : gO} (hG : ω'.2.1 = ω.2.1) (hK' : ∀ U, va_K ω.2.1 vwCl ω.2.2.1 U → va_K ω.2.1 vwCl ω'.2.2.1 U) (hZ' : ∀ A U H, ω.2.2.2 A U H → ω'.2.2.2 A U H) (hz' : gZok ω'.2.2.2) (q0 : Nat) {y : MethodName} {rmy : Room} {by_ : ByteArray} {mL i b ci na : Nat} {rety : Option FieldType} {C cls : String} {T : u_T} {N : Nat} {fs st : List Value} {w2 : va_W} {S : gSt} {x : Nat × Nat × Nat × Nat} (As : List Value) (hM : ∀ l, l.stackTraces = false → xMet l y by_ mL rety rmy ω' (.ref b :: As) S cls) (h1 : Cond.methodLink own i y ∈ WT) (hg : g_callee C y by_ mL rety na) (hn : As.length = na) (hr0 : rmy.cells = 1 ∧ rmy.slots = 6)
    (hR : rmy.frames + 1 ≤ rm.frames ∧ 8 + (mL + 11) + rmy.locals ≤ rm.locals) (hr : nc + 1 ≤ rm.cells ∧ ns + 6 ≤ rm.slots) (he : (ω'.1 S)[q0]? = some (b, .inr (ci, fs))) (hcl : vwCl[ci]? = some (C, T, N)) (hst : st = As.reverse ++ .ref b :: rest) (hcat : (rest.map fun v => v.category).sum ≤ 8) (hd : decode cc pc = .ok (.invokevirtual i, 3))
    (hx : hh = [x]) (hcv : covers ⟨x.1, x.2.1, x.2.2.1, x.2.2.2⟩ pc = true) (hct : x.2.2.2 ≠ 0) (h2 : Cond.classLink own x.2.2.2 cls ∈ WT) (h3 : ∀ A U H, ω.2.2.2 A U H → va_Nw (.castable cls cls) U)
    (kk : ∀ q : Nat, gN ω κ nL Q x.2.2.1 lv [.ref q] (ω'.1 S ++ w2) (nc + 1) (ns + 6)) : gN ω κ nL Q pc lv st (ω'.1 S ++ w2) nc ns := by
  obtain ⟨p, l, e, R, s, m, args, below, meth, c, A⟩ := κ
  intro H locs ls hP hD hS hl
  obtain ⟨hx0, hb, hml, hown, hts, hK, hA, hret, hlk, rfl, hZ, hz⟩ := hc
  have hP1 := p_left hP
  have hD1 := d_left hD
  have hF : ∀ q, va_A (ω'.1 S) H.size q → A q := fun q h => h.elim (fun ⟨k, e, hk⟩ => hD1.2 k (q, e) hk) (fun h => hA q (Nat.le_trans hS.1 h))
  obtain ⟨hb1, hp1⟩ := g_pre (ω := ω') (av := .ref b :: As) hz' (by rw [hG]; exact hK' s hK) hA (hZ' _ _ _ hZ) (by rw [hG]; exact hP1) hD1 hS
  have run := vx_runV (e := e) (meth := meth) (below := below) (As := As) (rest := rest) (locs := locs) (cells := nc) (slots := ns) (g := F0 m pc ls st) ⟨hx0, hb, hml, hown, hts⟩ (hM l hlt H.size) (cwV na hts (g_inV h1 hg) rfl hr0.1 hr0.2 hg.1 hR) ⟨hb1, va_recv hK hP1 hcl he, hp1⟩ rfl hn hl.1 hst (by simpa [JFrame.monitorRoom] using hcat) hd hr
  intro T0 hT0 X0
  rcases run T0 hT0 X0 with ⟨v, st₀, t, T', L, h0, X', hL, e1, e2, hq, stp⟩ | ⟨q, st₀, t, T', L, E, ce, h0, X', hL, e1, e2, hxc, hce, hcv2, hcls, stp⟩
  · exact hq.elim
  · obtain ⟨rfl, hP2, hz2, hk2⟩ := hxc
    rw [h0] at hz2 hk2
    have hD3 : va_D (va_A (ω'.1 S) H.size) (ω'.1 S) := ⟨hD1.1, fun k q hk => Or.inl ⟨k, q.2, hk⟩⟩
    obtain ⟨hP3, hD4⟩ := h_join hP hD hk2 hF (by rw [← hG]; exact hP2) hD3
    have hS2 : va_S A s.heap T'.heap (locs ++ L) := ⟨Nat.le_trans hS.1 (by rw [e1]; exact hz2), fun q h1 h2 => by rw [e1, hk2 q (Nat.lt_of_lt_of_le h1 hS.1) (fun z => h2 (hF q z))]; exact hS.2.1 q h1 h2, fun q hq => by
      rcases List.mem_append.mp hq with h | h
      · exact hS.2.2 q h
      · exact hF _ (hL q h)⟩
    have hcast : (Cond.castable E E).before args s = true := va_tabs rfl rfl (h3 _ _ _ hZ)
    have kc : vx_W p l e R s m args below meth c T'.heap (locs ++ L) (nc + 1) (ns + 6) Q (F0 m pc ls rest) q := vx_catch (x := ⟨x.1, x.2.1, x.2.2.1, x.2.2.2⟩) hown [] [] (by have h9 : c.exceptionTable.toList = tableOf hh := hT; rw [h9, hx]; rfl) (fun z hz => (List.not_mem_nil hz).elim) hcv hct (hts _ h2) hcast (by rw [e1]; exact hce) hcv2 hcls (kk q T'.heap (locs ++ L) ls (by rw [e1]; exact hP3) hD4 hS2 hl)
    obtain ⟨t2, a1, b1⟩ := kc T' rfl X'
    exact ⟨t2, stp.trans a1, b1⟩
end HR
abbrev rm_LH : Room := { frames := 8, cells := 1, slots := 6, locals := 130 }
theorem kC_sub {η : gE} {jA : ClassId} {b L : Nat} {xs : Nat → Int32} : ∀ U, va_K (oL η jA b L xs).2.1 vwCl (oL η jA b L xs).2.2.1 U → va_K (oL η jA b L xs).2.1 vwCl [(η.2.2.1, .int)] U := fun U h => h.sub (tys' := [(η.2.2.1, .int)]) [0] rfl
theorem mid_p {a c : va_W} {b : Nat × va_E} : (a ++ b :: c).Perm (b :: (a ++ c)) := List.perm_middle
theorem ge_X9_rom : g_callee RX9 yX9_rom cX9_rom 3 none 2 := ⟨by decide +kernel, wtN_109, wtN_110, wtN_111, wtN_112⟩
theorem h_L_rom (l : Launch) (hlt : l.stackTraces = false) (k : Bool) (η : gE) (jA : ClassId) (b L : Nat) (xs : Nat → Int32) (p0 p1 : Int32) (S : gSt) (w2 : va_W) (hv : ¬ p0 < 0 ∧ p0 < 512) : lMet l yL_rom (Cond.codeWith yL_rom cL_rom 4 (some .int) [(0, 6, 9, 13)]) rm_LH (oL η jA b L xs) [.ref (η.1 0), .int p0, .int p1] ((oC k η).1 S ++ w2) (some (.int 0)) ((oC k η).1 (sp_X9_rom k p0 p1 S).2 ++ w2) := by
  refine lMet_of (lv := [(0, .ref (η.1 0)), (1, .int p0), (2, .int p1)]) hlt (zL_ok η b L xs) (by decide +kernel) (Nat.le_of_ble_eq_true rfl) rfl (fun κ hc hT hlt => ?_)
  have hc : gC (oL η jA b L xs) κ cL_rom 4 RL (some .int) rm_LH := hc
  refine n_aload_n (i := 0) hc 0 dL_rom_0 rfl rfl ?_
  refine n_iload_n (i := 1) hc 1 dL_rom_1 rfl rfl ?_
  refine n_iload_n (i := 2) hc 2 dL_rom_2 rfl rfl ?_
  refine n_callV (rest := []) (w2 := w2) hc (ω' := oC k η) rfl kC_sub (fun _ _ _ h => h.1.1) (zC_ok η) 0 [.int p0, .int p1] (fun l => c_X9_rom l k η p0 p1 S hv) wtN_113 ge_X9_rom rfl ⟨rfl, rfl⟩ ⟨Nat.le_of_ble_eq_true rfl, Nat.le_of_ble_eq_true rfl⟩ ⟨Nat.le_of_ble_eq_true rfl, Nat.le_of_ble_eq_true rfl⟩ rfl rfl rfl (Nat.le_of_ble_eq_true rfl) dL_rom_3 ?_
  refine n_goto (tgt := 12) hc dL_rom_6 rfl ?_
  refine n_iconst (v := 0) hc dL_rom_12 (by decide) ?_
  refine n_widen 1 6 (by decide) (by decide) ?_
  exact n_iret hc dL_rom_13
theorem h_X_rom (l : Launch) (hlt : l.stackTraces = false) (k : Bool) (η : gE) (jA : ClassId) (b L : Nat) (xs : Nat → Int32) (p0 p1 : Int32) (S : gSt) (w2 : va_W) (hv : ¬ (¬ p0 < 0 ∧ p0 < 512)) : lMet l yL_rom (Cond.codeWith yL_rom cL_rom 4 (some .int) [(0, 6, 9, 13)]) rm_LH (oL η jA b L xs) [.ref (η.1 0), .int p0, .int p1] ((oC k η).1 S ++ w2) (some (.int 1)) ((oC k η).1 S ++ w2) := by
  refine lMet_of (lv := [(0, .ref (η.1 0)), (1, .int p0), (2, .int p1)]) hlt (zL_ok η b L xs) (by decide +kernel) (Nat.le_of_ble_eq_true rfl) rfl (fun κ hc hT hlt => ?_)
  have hc : gC (oL η jA b L xs) κ cL_rom 4 RL (some .int) rm_LH := hc
  refine n_aload_n (i := 0) hc 0 dL_rom_0 rfl rfl ?_
  refine n_iload_n (i := 1) hc 1 dL_rom_1 rfl rfl ?_
  refine n_iload_n (i := 2) hc 2 dL_rom_2 rfl rfl ?_
  refine n_callX (rest := []) (w2 := w2) hc hlt hT (ω' := oX k η) rfl kC_sub (fun _ _ _ h => h.1) (zX_ok η) 0 (x := (0, 6, 9, 13)) [.int p0, .int p1] (fun l hl => t_X9_rom l hl k η p0 p1 S hv) wtN_113 ge_X9_rom rfl ⟨rfl, rfl⟩ ⟨Nat.le_of_ble_eq_true rfl, Nat.le_of_ble_eq_true rfl⟩ ⟨Nat.le_of_ble_eq_true rfl, Nat.le_of_ble_eq_true rfl⟩ rfl rfl rfl (Nat.le_of_ble_eq_true rfl) dL_rom_3 rfl (by decide) (by decide) wtN_114 (fun _ _ _ h => h.1.2.2.2.2 _ (by decide +kernel)) (fun q => ?_)
  refine n_astore_n (i := 3) (lv' := (3, .ref q) :: [(0, .ref (η.1 0)), (1, .int p0), (2, .int p1)]) hc dL_rom_9 rfl (by decide) rfl ?_
  refine n_iconst (v := 1) hc dL_rom_10 (by decide) ?_
  exact n_iret hc dL_rom_11
theorem ge_X9_chr : g_callee RX9 yX9_chr cX9_chr 3 none 2 := ⟨by decide +kernel, wtN_115, wtN_116, wtN_111, wtN_117⟩
theorem h_L_chr (l : Launch) (hlt : l.stackTraces = false) (k : Bool) (η : gE) (jA : ClassId) (b L : Nat) (xs : Nat → Int32) (p0 p1 : Int32) (S : gSt) (w2 : va_W) (hv : ¬ p0 < 0 ∧ p0 < 128) : lMet l yL_chr (Cond.codeWith yL_chr cL_chr 4 (some .int) [(0, 6, 9, 13)]) rm_LH (oL η jA b L xs) [.ref (η.1 0), .int p0, .int p1] ((oC k η).1 S ++ w2) (some (.int 0)) ((oC k η).1 (sp_X9_chr k p0 p1 S).2 ++ w2) := by
  refine lMet_of (lv := [(0, .ref (η.1 0)), (1, .int p0), (2, .int p1)]) hlt (zL_ok η b L xs) (by decide +kernel) (Nat.le_of_ble_eq_true rfl) rfl (fun κ hc hT hlt => ?_)
  have hc : gC (oL η jA b L xs) κ cL_chr 4 RL (some .int) rm_LH := hc
  refine n_aload_n (i := 0) hc 0 dL_chr_0 rfl rfl ?_
  refine n_iload_n (i := 1) hc 1 dL_chr_1 rfl rfl ?_
  refine n_iload_n (i := 2) hc 2 dL_chr_2 rfl rfl ?_
  refine n_callV (rest := []) (w2 := w2) hc (ω' := oC k η) rfl kC_sub (fun _ _ _ h => h.1.1) (zC_ok η) 0 [.int p0, .int p1] (fun l => c_X9_chr l k η p0 p1 S hv) wtN_118 ge_X9_chr rfl ⟨rfl, rfl⟩ ⟨Nat.le_of_ble_eq_true rfl, Nat.le_of_ble_eq_true rfl⟩ ⟨Nat.le_of_ble_eq_true rfl, Nat.le_of_ble_eq_true rfl⟩ rfl rfl rfl (Nat.le_of_ble_eq_true rfl) dL_chr_3 ?_
  refine n_goto (tgt := 12) hc dL_chr_6 rfl ?_
  refine n_iconst (v := 0) hc dL_chr_12 (by decide) ?_
  refine n_widen 1 6 (by decide) (by decide) ?_
  exact n_iret hc dL_chr_13
theorem h_X_chr (l : Launch) (hlt : l.stackTraces = false) (k : Bool) (η : gE) (jA : ClassId) (b L : Nat) (xs : Nat → Int32) (p0 p1 : Int32) (S : gSt) (w2 : va_W) (hv : ¬ (¬ p0 < 0 ∧ p0 < 128)) : lMet l yL_chr (Cond.codeWith yL_chr cL_chr 4 (some .int) [(0, 6, 9, 13)]) rm_LH (oL η jA b L xs) [.ref (η.1 0), .int p0, .int p1] ((oC k η).1 S ++ w2) (some (.int 1)) ((oC k η).1 S ++ w2) := by
  refine lMet_of (lv := [(0, .ref (η.1 0)), (1, .int p0), (2, .int p1)]) hlt (zL_ok η b L xs) (by decide +kernel) (Nat.le_of_ble_eq_true rfl) rfl (fun κ hc hT hlt => ?_)
  have hc : gC (oL η jA b L xs) κ cL_chr 4 RL (some .int) rm_LH := hc
  refine n_aload_n (i := 0) hc 0 dL_chr_0 rfl rfl ?_
  refine n_iload_n (i := 1) hc 1 dL_chr_1 rfl rfl ?_
  refine n_iload_n (i := 2) hc 2 dL_chr_2 rfl rfl ?_
  refine n_callX (rest := []) (w2 := w2) hc hlt hT (ω' := oX k η) rfl kC_sub (fun _ _ _ h => h.1) (zX_ok η) 0 (x := (0, 6, 9, 13)) [.int p0, .int p1] (fun l hl => t_X9_chr l hl k η p0 p1 S hv) wtN_118 ge_X9_chr rfl ⟨rfl, rfl⟩ ⟨Nat.le_of_ble_eq_true rfl, Nat.le_of_ble_eq_true rfl⟩ ⟨Nat.le_of_ble_eq_true rfl, Nat.le_of_ble_eq_true rfl⟩ rfl rfl rfl (Nat.le_of_ble_eq_true rfl) dL_chr_3 rfl (by decide) (by decide) wtN_114 (fun _ _ _ h => h.1.2.2.2.2 _ (by decide +kernel)) (fun q => ?_)
  refine n_astore_n (i := 3) (lv' := (3, .ref q) :: [(0, .ref (η.1 0)), (1, .int p0), (2, .int p1)]) hc dL_chr_9 rfl (by decide) rfl ?_
  refine n_iconst (v := 1) hc dL_chr_10 (by decide) ?_
  exact n_iret hc dL_chr_11
theorem ge_X9_pad : g_callee RX9 yX9_pad cX9_pad 3 none 2 := ⟨by decide +kernel, wtN_119, wtN_120, wtN_111, wtN_121⟩
theorem h_L_pad (l : Launch) (hlt : l.stackTraces = false) (k : Bool) (η : gE) (jA : ClassId) (b L : Nat) (xs : Nat → Int32) (p0 p1 : Int32) (S : gSt) (w2 : va_W) (hv : ¬ p0 < 0 ∧ p0 ≤ 1) : lMet l yL_pad (Cond.codeWith yL_pad cL_pad 4 (some .int) [(0, 6, 9, 21)]) rm_LH (oL η jA b L xs) [.ref (η.1 0), .int p0, .int p1] ((oC k η).1 S ++ w2) (some (.int 0)) ((oC k η).1 (sp_X9_pad k p0 p1 S).2 ++ w2) := by
  refine lMet_of (lv := [(0, .ref (η.1 0)), (1, .int p0), (2, .int p1)]) hlt (zL_ok η b L xs) (by decide +kernel) (Nat.le_of_ble_eq_true rfl) rfl (fun κ hc hT hlt => ?_)
  have hc : gC (oL η jA b L xs) κ cL_pad 4 RL (some .int) rm_LH := hc
  refine n_aload_n (i := 0) hc 0 dL_pad_0 rfl rfl ?_
  refine n_iload_n (i := 1) hc 1 dL_pad_1 rfl rfl ?_
  refine n_iload_n (i := 2) hc 2 dL_pad_2 rfl rfl ?_
  refine n_callV (rest := []) (w2 := w2) hc (ω' := oC k η) rfl kC_sub (fun _ _ _ h => h.1.1) (zC_ok η) 0 [.int p0, .int p1] (fun l => c_X9_pad l k η p0 p1 S hv) wtN_122 ge_X9_pad rfl ⟨rfl, rfl⟩ ⟨Nat.le_of_ble_eq_true rfl, Nat.le_of_ble_eq_true rfl⟩ ⟨Nat.le_of_ble_eq_true rfl, Nat.le_of_ble_eq_true rfl⟩ rfl rfl rfl (Nat.le_of_ble_eq_true rfl) dL_pad_3 ?_
  refine n_goto (tgt := 12) hc dL_pad_6 rfl ?_
  refine n_iconst (v := 0) hc dL_pad_12 (by decide) ?_
  refine n_widen 1 6 (by decide) (by decide) ?_
  exact n_iret hc dL_pad_13
theorem h_X_pad (l : Launch) (hlt : l.stackTraces = false) (k : Bool) (η : gE) (jA : ClassId) (b L : Nat) (xs : Nat → Int32) (p0 p1 : Int32) (S : gSt) (w2 : va_W) (hv : ¬ (¬ p0 < 0 ∧ p0 ≤ 1)) : lMet l yL_pad (Cond.codeWith yL_pad cL_pad 4 (some .int) [(0, 6, 9, 21)]) rm_LH (oL η jA b L xs) [.ref (η.1 0), .int p0, .int p1] ((oC k η).1 S ++ w2) (some (.int 1)) ((oC k η).1 S ++ w2) := by
  refine lMet_of (lv := [(0, .ref (η.1 0)), (1, .int p0), (2, .int p1)]) hlt (zL_ok η b L xs) (by decide +kernel) (Nat.le_of_ble_eq_true rfl) rfl (fun κ hc hT hlt => ?_)
  have hc : gC (oL η jA b L xs) κ cL_pad 4 RL (some .int) rm_LH := hc
  refine n_aload_n (i := 0) hc 0 dL_pad_0 rfl rfl ?_
  refine n_iload_n (i := 1) hc 1 dL_pad_1 rfl rfl ?_
  refine n_iload_n (i := 2) hc 2 dL_pad_2 rfl rfl ?_
  refine n_callX (rest := []) (w2 := w2) hc hlt hT (ω' := oX k η) rfl kC_sub (fun _ _ _ h => h.1) (zX_ok η) 0 (x := (0, 6, 9, 21)) [.int p0, .int p1] (fun l hl => t_X9_pad l hl k η p0 p1 S hv) wtN_122 ge_X9_pad rfl ⟨rfl, rfl⟩ ⟨Nat.le_of_ble_eq_true rfl, Nat.le_of_ble_eq_true rfl⟩ ⟨Nat.le_of_ble_eq_true rfl, Nat.le_of_ble_eq_true rfl⟩ rfl rfl rfl (Nat.le_of_ble_eq_true rfl) dL_pad_3 rfl (by decide) (by decide) wtN_123 (fun _ _ _ h => h.1.2.2.2.2 _ (by decide +kernel)) (fun q => ?_)
  refine n_astore_n (i := 3) (lv' := (3, .ref q) :: [(0, .ref (η.1 0)), (1, .int p0), (2, .int p1)]) hc dL_pad_9 rfl (by decide) rfl ?_
  refine n_iconst (v := 1) hc dL_pad_10 (by decide) ?_
  exact n_iret hc dL_pad_11
theorem ge_X9_core : g_callee RX9 yX9_core cX9_core 2 (some .int) 1 := ⟨by decide +kernel, wtN_124, wtN_125, wtN_111, wtN_126⟩
theorem h_L_core (l : Launch) (hlt : l.stackTraces = false) (k : Bool) (η : gE) (jA : ClassId) (b L : Nat) (xs : Nat → Int32) (p0 : Int32) (o : Nat) (f : Nat → Int64) (S : gSt) (w2 : va_W) (hv : p0 = 0 ∨ p0 = 1 ∨ p0 = 2 ∨ p0 = 3 ∨ p0 = 4 ∨ p0 = 5 ∨ p0 = 6 ∨ p0 = 7 ∨ p0 = 8) : lMet l yL_core (Cond.codeWith yL_core cL_core 4 (some .int) [(0, 9, 12, 21)]) rm_LH (oL η jA b L xs) [.ref (η.1 0), .int p0, .ref o] ((oC k η).1 S ++ outC jA o f :: w2) (some (.int 0)) ((oC k η).1 (sp_X9_core k p0 S).2 ++ outC jA o (vp_updL f 0 (sp_X9_core k p0 S).1.toInt64) :: w2) := by
  refine lMet_of (lv := [(0, .ref (η.1 0)), (1, .int p0), (2, .ref o)]) hlt (zL_ok η b L xs) (by decide +kernel) (Nat.le_of_ble_eq_true rfl) rfl (fun κ hc hT hlt => ?_)
  have hc : gC (oL η jA b L xs) κ cL_core 4 RL (some .int) rm_LH := hc
  refine n_aload_n (i := 2) hc 2 dL_core_0 rfl rfl ?_
  refine n_iconst (v := 0) hc dL_core_1 (by decide) ?_
  refine n_aload_n (i := 0) hc 0 dL_core_2 rfl rfl ?_
  refine n_iload_n (i := 1) hc 1 dL_core_3 rfl rfl ?_
  refine n_callV (rest := [.int 0, .ref o]) (w2 := outC jA o f :: w2) hc (ω' := oC k η) rfl kC_sub (fun _ _ _ h => h.1.1) (zC_ok η) 0 [.int p0] (fun l => c_X9_core l k η p0 S hv) wtN_127 ge_X9_core rfl ⟨rfl, rfl⟩ ⟨Nat.le_of_ble_eq_true rfl, Nat.le_of_ble_eq_true rfl⟩ ⟨Nat.le_of_ble_eq_true rfl, Nat.le_of_ble_eq_true rfl⟩ rfl rfl rfl (Nat.le_of_ble_eq_true rfl) dL_core_4 ?_
  refine n_i2l hc dL_core_7 ?_
  refine n_perm (outC jA o f :: ((oC k η).1 (sp_X9_core k p0 S).2 ++ w2)) mid_p ?_
  refine n_last hc 0 2 (outC jA o (vp_updL f 0 (sp_X9_core k p0 S).1.toInt64) :: ((oC k η).1 (sp_X9_core k p0 S).2 ++ w2)) rfl rfl (vp_in_iff.mpr (by decide)) dL_core_8 rfl ?_
  refine n_perm ((oC k η).1 (sp_X9_core k p0 S).2 ++ outC jA o (vp_updL f 0 (sp_X9_core k p0 S).1.toInt64) :: w2) mid_p.symm ?_
  refine n_goto (tgt := 15) hc dL_core_9 rfl ?_
  refine n_iconst (v := 0) hc dL_core_15 (by decide) ?_
  refine n_widen 1 6 (by decide) (by decide) ?_
  exact n_iret hc dL_core_16
theorem h_X_core (l : Launch) (hlt : l.stackTraces = false) (k : Bool) (η : gE) (jA : ClassId) (b L : Nat) (xs : Nat → Int32) (p0 : Int32) (o : Nat) (f : Nat → Int64) (S : gSt) (w2 : va_W) (hv : ¬ (p0 = 0 ∨ p0 = 1 ∨ p0 = 2 ∨ p0 = 3 ∨ p0 = 4 ∨ p0 = 5 ∨ p0 = 6 ∨ p0 = 7 ∨ p0 = 8)) : lMet l yL_core (Cond.codeWith yL_core cL_core 4 (some .int) [(0, 9, 12, 21)]) rm_LH (oL η jA b L xs) [.ref (η.1 0), .int p0, .ref o] ((oC k η).1 S ++ outC jA o f :: w2) (some (.int 1)) ((oC k η).1 S ++ outC jA o f :: w2) := by
  refine lMet_of (lv := [(0, .ref (η.1 0)), (1, .int p0), (2, .ref o)]) hlt (zL_ok η b L xs) (by decide +kernel) (Nat.le_of_ble_eq_true rfl) rfl (fun κ hc hT hlt => ?_)
  have hc : gC (oL η jA b L xs) κ cL_core 4 RL (some .int) rm_LH := hc
  refine n_aload_n (i := 2) hc 2 dL_core_0 rfl rfl ?_
  refine n_iconst (v := 0) hc dL_core_1 (by decide) ?_
  refine n_aload_n (i := 0) hc 0 dL_core_2 rfl rfl ?_
  refine n_iload_n (i := 1) hc 1 dL_core_3 rfl rfl ?_
  refine n_callX (rest := [.int 0, .ref o]) (w2 := outC jA o f :: w2) hc hlt hT (ω' := oX k η) rfl kC_sub (fun _ _ _ h => h.1) (zX_ok η) 0 (x := (0, 9, 12, 21)) [.int p0] (fun l hl => t_X9_core l hl k η p0 S hv) wtN_127 ge_X9_core rfl ⟨rfl, rfl⟩ ⟨Nat.le_of_ble_eq_true rfl, Nat.le_of_ble_eq_true rfl⟩ ⟨Nat.le_of_ble_eq_true rfl, Nat.le_of_ble_eq_true rfl⟩ rfl rfl rfl (Nat.le_of_ble_eq_true rfl) dL_core_4 rfl (by decide) (by decide) wtN_123 (fun _ _ _ h => h.1.2.2.2.2 _ (by decide +kernel)) (fun q => ?_)
  refine n_astore_n (i := 3) (lv' := (3, .ref q) :: [(0, .ref (η.1 0)), (1, .int p0), (2, .ref o)]) hc dL_core_12 rfl (by decide) rfl ?_
  refine n_iconst (v := 1) hc dL_core_13 (by decide) ?_
  exact n_iret hc dL_core_14
theorem ge_X9_picture : g_callee RX9 yX9_picture cX9_picture 2 (some .int) 1 := ⟨by decide +kernel, wtN_128, wtN_129, wtN_111, wtN_130⟩
theorem h_L_picture (l : Launch) (hlt : l.stackTraces = false) (k : Bool) (η : gE) (jA : ClassId) (b L : Nat) (xs : Nat → Int32) (p0 : Int32) (o : Nat) (f : Nat → Int64) (S : gSt) (w2 : va_W) (hv : p0 = 0 ∨ p0 = 1 ∨ p0 = 2 ∨ p0 = 3 ∨ p0 = 4 ∨ p0 = 5 ∨ p0 = 6 ∨ p0 = 7 ∨ p0 = 8 ∨ p0 = 9 ∨ p0 = 10) : lMet l yL_picture (Cond.codeWith yL_picture cL_picture 4 (some .int) [(0, 9, 12, 21)]) rm_LH (oL η jA b L xs) [.ref (η.1 0), .int p0, .ref o] ((oC k η).1 S ++ outC jA o f :: w2) (some (.int 0)) ((oC k η).1 (sp_X9_picture k p0 S).2 ++ outC jA o (vp_updL f 0 (sp_X9_picture k p0 S).1.toInt64) :: w2) := by
  refine lMet_of (lv := [(0, .ref (η.1 0)), (1, .int p0), (2, .ref o)]) hlt (zL_ok η b L xs) (by decide +kernel) (Nat.le_of_ble_eq_true rfl) rfl (fun κ hc hT hlt => ?_)
  have hc : gC (oL η jA b L xs) κ cL_picture 4 RL (some .int) rm_LH := hc
  refine n_aload_n (i := 2) hc 2 dL_picture_0 rfl rfl ?_
  refine n_iconst (v := 0) hc dL_picture_1 (by decide) ?_
  refine n_aload_n (i := 0) hc 0 dL_picture_2 rfl rfl ?_
  refine n_iload_n (i := 1) hc 1 dL_picture_3 rfl rfl ?_
  refine n_callV (rest := [.int 0, .ref o]) (w2 := outC jA o f :: w2) hc (ω' := oC k η) rfl kC_sub (fun _ _ _ h => h.1.1) (zC_ok η) 0 [.int p0] (fun l => c_X9_picture l k η p0 S hv) wtN_131 ge_X9_picture rfl ⟨rfl, rfl⟩ ⟨Nat.le_of_ble_eq_true rfl, Nat.le_of_ble_eq_true rfl⟩ ⟨Nat.le_of_ble_eq_true rfl, Nat.le_of_ble_eq_true rfl⟩ rfl rfl rfl (Nat.le_of_ble_eq_true rfl) dL_picture_4 ?_
  refine n_i2l hc dL_picture_7 ?_
  refine n_perm (outC jA o f :: ((oC k η).1 (sp_X9_picture k p0 S).2 ++ w2)) mid_p ?_
  refine n_last hc 0 2 (outC jA o (vp_updL f 0 (sp_X9_picture k p0 S).1.toInt64) :: ((oC k η).1 (sp_X9_picture k p0 S).2 ++ w2)) rfl rfl (vp_in_iff.mpr (by decide)) dL_picture_8 rfl ?_
  refine n_perm ((oC k η).1 (sp_X9_picture k p0 S).2 ++ outC jA o (vp_updL f 0 (sp_X9_picture k p0 S).1.toInt64) :: w2) mid_p.symm ?_
  refine n_goto (tgt := 15) hc dL_picture_9 rfl ?_
  refine n_iconst (v := 0) hc dL_picture_15 (by decide) ?_
  refine n_widen 1 6 (by decide) (by decide) ?_
  exact n_iret hc dL_picture_16
theorem h_X_picture (l : Launch) (hlt : l.stackTraces = false) (k : Bool) (η : gE) (jA : ClassId) (b L : Nat) (xs : Nat → Int32) (p0 : Int32) (o : Nat) (f : Nat → Int64) (S : gSt) (w2 : va_W) (hv : ¬ (p0 = 0 ∨ p0 = 1 ∨ p0 = 2 ∨ p0 = 3 ∨ p0 = 4 ∨ p0 = 5 ∨ p0 = 6 ∨ p0 = 7 ∨ p0 = 8 ∨ p0 = 9 ∨ p0 = 10)) : lMet l yL_picture (Cond.codeWith yL_picture cL_picture 4 (some .int) [(0, 9, 12, 21)]) rm_LH (oL η jA b L xs) [.ref (η.1 0), .int p0, .ref o] ((oC k η).1 S ++ outC jA o f :: w2) (some (.int 1)) ((oC k η).1 S ++ outC jA o f :: w2) := by
  refine lMet_of (lv := [(0, .ref (η.1 0)), (1, .int p0), (2, .ref o)]) hlt (zL_ok η b L xs) (by decide +kernel) (Nat.le_of_ble_eq_true rfl) rfl (fun κ hc hT hlt => ?_)
  have hc : gC (oL η jA b L xs) κ cL_picture 4 RL (some .int) rm_LH := hc
  refine n_aload_n (i := 2) hc 2 dL_picture_0 rfl rfl ?_
  refine n_iconst (v := 0) hc dL_picture_1 (by decide) ?_
  refine n_aload_n (i := 0) hc 0 dL_picture_2 rfl rfl ?_
  refine n_iload_n (i := 1) hc 1 dL_picture_3 rfl rfl ?_
  refine n_callX (rest := [.int 0, .ref o]) (w2 := outC jA o f :: w2) hc hlt hT (ω' := oX k η) rfl kC_sub (fun _ _ _ h => h.1) (zX_ok η) 0 (x := (0, 9, 12, 21)) [.int p0] (fun l hl => t_X9_picture l hl k η p0 S hv) wtN_131 ge_X9_picture rfl ⟨rfl, rfl⟩ ⟨Nat.le_of_ble_eq_true rfl, Nat.le_of_ble_eq_true rfl⟩ ⟨Nat.le_of_ble_eq_true rfl, Nat.le_of_ble_eq_true rfl⟩ rfl rfl rfl (Nat.le_of_ble_eq_true rfl) dL_picture_4 rfl (by decide) (by decide) wtN_123 (fun _ _ _ h => h.1.2.2.2.2 _ (by decide +kernel)) (fun q => ?_)
  refine n_astore_n (i := 3) (lv' := (3, .ref q) :: [(0, .ref (η.1 0)), (1, .int p0), (2, .ref o)]) hc dL_picture_12 rfl (by decide) rfl ?_
  refine n_iconst (v := 1) hc dL_picture_13 (by decide) ?_
  exact n_iret hc dL_picture_14
theorem ge_X9_oam : g_callee RX9 yX9_oam cX9_oam 2 (some .int) 1 := ⟨by decide +kernel, wtN_132, wtN_133, wtN_111, wtN_134⟩
theorem h_L_oam (l : Launch) (hlt : l.stackTraces = false) (k : Bool) (η : gE) (jA : ClassId) (b L : Nat) (xs : Nat → Int32) (p0 : Int32) (o : Nat) (f : Nat → Int64) (S : gSt) (w2 : va_W) (hv : ¬ p0 < 0 ∧ p0 < 256) : lMet l yL_oam (Cond.codeWith yL_oam cL_oam 4 (some .int) [(0, 9, 12, 21)]) rm_LH (oL η jA b L xs) [.ref (η.1 0), .int p0, .ref o] ((oC k η).1 S ++ outC jA o f :: w2) (some (.int 0)) ((oC k η).1 (sp_X9_oam k p0 S).2 ++ outC jA o (vp_updL f 0 (sp_X9_oam k p0 S).1.toInt64) :: w2) := by
  refine lMet_of (lv := [(0, .ref (η.1 0)), (1, .int p0), (2, .ref o)]) hlt (zL_ok η b L xs) (by decide +kernel) (Nat.le_of_ble_eq_true rfl) rfl (fun κ hc hT hlt => ?_)
  have hc : gC (oL η jA b L xs) κ cL_oam 4 RL (some .int) rm_LH := hc
  refine n_aload_n (i := 2) hc 2 dL_oam_0 rfl rfl ?_
  refine n_iconst (v := 0) hc dL_oam_1 (by decide) ?_
  refine n_aload_n (i := 0) hc 0 dL_oam_2 rfl rfl ?_
  refine n_iload_n (i := 1) hc 1 dL_oam_3 rfl rfl ?_
  refine n_callV (rest := [.int 0, .ref o]) (w2 := outC jA o f :: w2) hc (ω' := oC k η) rfl kC_sub (fun _ _ _ h => h.1.1) (zC_ok η) 0 [.int p0] (fun l => c_X9_oam l k η p0 S hv) wtN_135 ge_X9_oam rfl ⟨rfl, rfl⟩ ⟨Nat.le_of_ble_eq_true rfl, Nat.le_of_ble_eq_true rfl⟩ ⟨Nat.le_of_ble_eq_true rfl, Nat.le_of_ble_eq_true rfl⟩ rfl rfl rfl (Nat.le_of_ble_eq_true rfl) dL_oam_4 ?_
  refine n_i2l hc dL_oam_7 ?_
  refine n_perm (outC jA o f :: ((oC k η).1 (sp_X9_oam k p0 S).2 ++ w2)) mid_p ?_
  refine n_last hc 0 2 (outC jA o (vp_updL f 0 (sp_X9_oam k p0 S).1.toInt64) :: ((oC k η).1 (sp_X9_oam k p0 S).2 ++ w2)) rfl rfl (vp_in_iff.mpr (by decide)) dL_oam_8 rfl ?_
  refine n_perm ((oC k η).1 (sp_X9_oam k p0 S).2 ++ outC jA o (vp_updL f 0 (sp_X9_oam k p0 S).1.toInt64) :: w2) mid_p.symm ?_
  refine n_goto (tgt := 15) hc dL_oam_9 rfl ?_
  refine n_iconst (v := 0) hc dL_oam_15 (by decide) ?_
  refine n_widen 1 6 (by decide) (by decide) ?_
  exact n_iret hc dL_oam_16
theorem h_X_oam (l : Launch) (hlt : l.stackTraces = false) (k : Bool) (η : gE) (jA : ClassId) (b L : Nat) (xs : Nat → Int32) (p0 : Int32) (o : Nat) (f : Nat → Int64) (S : gSt) (w2 : va_W) (hv : ¬ (¬ p0 < 0 ∧ p0 < 256)) : lMet l yL_oam (Cond.codeWith yL_oam cL_oam 4 (some .int) [(0, 9, 12, 21)]) rm_LH (oL η jA b L xs) [.ref (η.1 0), .int p0, .ref o] ((oC k η).1 S ++ outC jA o f :: w2) (some (.int 1)) ((oC k η).1 S ++ outC jA o f :: w2) := by
  refine lMet_of (lv := [(0, .ref (η.1 0)), (1, .int p0), (2, .ref o)]) hlt (zL_ok η b L xs) (by decide +kernel) (Nat.le_of_ble_eq_true rfl) rfl (fun κ hc hT hlt => ?_)
  have hc : gC (oL η jA b L xs) κ cL_oam 4 RL (some .int) rm_LH := hc
  refine n_aload_n (i := 2) hc 2 dL_oam_0 rfl rfl ?_
  refine n_iconst (v := 0) hc dL_oam_1 (by decide) ?_
  refine n_aload_n (i := 0) hc 0 dL_oam_2 rfl rfl ?_
  refine n_iload_n (i := 1) hc 1 dL_oam_3 rfl rfl ?_
  refine n_callX (rest := [.int 0, .ref o]) (w2 := outC jA o f :: w2) hc hlt hT (ω' := oX k η) rfl kC_sub (fun _ _ _ h => h.1) (zX_ok η) 0 (x := (0, 9, 12, 21)) [.int p0] (fun l hl => t_X9_oam l hl k η p0 S hv) wtN_135 ge_X9_oam rfl ⟨rfl, rfl⟩ ⟨Nat.le_of_ble_eq_true rfl, Nat.le_of_ble_eq_true rfl⟩ ⟨Nat.le_of_ble_eq_true rfl, Nat.le_of_ble_eq_true rfl⟩ rfl rfl rfl (Nat.le_of_ble_eq_true rfl) dL_oam_4 rfl (by decide) (by decide) wtN_123 (fun _ _ _ h => h.1.2.2.2.2 _ (by decide +kernel)) (fun q => ?_)
  refine n_astore_n (i := 3) (lv' := (3, .ref q) :: [(0, .ref (η.1 0)), (1, .int p0), (2, .ref o)]) hc dL_oam_12 rfl (by decide) rfl ?_
  refine n_iconst (v := 1) hc dL_oam_13 (by decide) ?_
  exact n_iret hc dL_oam_14
theorem ge_X9_cartridge : g_callee RX9 yX9_cartridge cX9_cartridge 2 (some .int) 1 := ⟨by decide +kernel, wtN_136, wtN_137, wtN_111, wtN_138⟩
theorem h_L_cartridge (l : Launch) (hlt : l.stackTraces = false) (k : Bool) (η : gE) (jA : ClassId) (b L : Nat) (xs : Nat → Int32) (p0 : Int32) (o : Nat) (f : Nat → Int64) (S : gSt) (w2 : va_W) (hv : ¬ p0 < 0 ∧ p0 ≤ 13) : lMet l yL_cartridge (Cond.codeWith yL_cartridge cL_cartridge 4 (some .int) [(0, 9, 12, 21)]) rm_LH (oL η jA b L xs) [.ref (η.1 0), .int p0, .ref o] ((oC k η).1 S ++ outC jA o f :: w2) (some (.int 0)) ((oC k η).1 (sp_X9_cartridge k p0 S).2 ++ outC jA o (vp_updL f 0 (sp_X9_cartridge k p0 S).1.toInt64) :: w2) := by
  refine lMet_of (lv := [(0, .ref (η.1 0)), (1, .int p0), (2, .ref o)]) hlt (zL_ok η b L xs) (by decide +kernel) (Nat.le_of_ble_eq_true rfl) rfl (fun κ hc hT hlt => ?_)
  have hc : gC (oL η jA b L xs) κ cL_cartridge 4 RL (some .int) rm_LH := hc
  refine n_aload_n (i := 2) hc 2 dL_cartridge_0 rfl rfl ?_
  refine n_iconst (v := 0) hc dL_cartridge_1 (by decide) ?_
  refine n_aload_n (i := 0) hc 0 dL_cartridge_2 rfl rfl ?_
  refine n_iload_n (i := 1) hc 1 dL_cartridge_3 rfl rfl ?_
  refine n_callV (rest := [.int 0, .ref o]) (w2 := outC jA o f :: w2) hc (ω' := oC k η) rfl kC_sub (fun _ _ _ h => h.1.1) (zC_ok η) 0 [.int p0] (fun l => c_X9_cartridge l k η p0 S hv) wtN_139 ge_X9_cartridge rfl ⟨rfl, rfl⟩ ⟨Nat.le_of_ble_eq_true rfl, Nat.le_of_ble_eq_true rfl⟩ ⟨Nat.le_of_ble_eq_true rfl, Nat.le_of_ble_eq_true rfl⟩ rfl rfl rfl (Nat.le_of_ble_eq_true rfl) dL_cartridge_4 ?_
  refine n_i2l hc dL_cartridge_7 ?_
  refine n_perm (outC jA o f :: ((oC k η).1 (sp_X9_cartridge k p0 S).2 ++ w2)) mid_p ?_
  refine n_last hc 0 2 (outC jA o (vp_updL f 0 (sp_X9_cartridge k p0 S).1.toInt64) :: ((oC k η).1 (sp_X9_cartridge k p0 S).2 ++ w2)) rfl rfl (vp_in_iff.mpr (by decide)) dL_cartridge_8 rfl ?_
  refine n_perm ((oC k η).1 (sp_X9_cartridge k p0 S).2 ++ outC jA o (vp_updL f 0 (sp_X9_cartridge k p0 S).1.toInt64) :: w2) mid_p.symm ?_
  refine n_goto (tgt := 15) hc dL_cartridge_9 rfl ?_
  refine n_iconst (v := 0) hc dL_cartridge_15 (by decide) ?_
  refine n_widen 1 6 (by decide) (by decide) ?_
  exact n_iret hc dL_cartridge_16
theorem h_X_cartridge (l : Launch) (hlt : l.stackTraces = false) (k : Bool) (η : gE) (jA : ClassId) (b L : Nat) (xs : Nat → Int32) (p0 : Int32) (o : Nat) (f : Nat → Int64) (S : gSt) (w2 : va_W) (hv : ¬ (¬ p0 < 0 ∧ p0 ≤ 13)) : lMet l yL_cartridge (Cond.codeWith yL_cartridge cL_cartridge 4 (some .int) [(0, 9, 12, 21)]) rm_LH (oL η jA b L xs) [.ref (η.1 0), .int p0, .ref o] ((oC k η).1 S ++ outC jA o f :: w2) (some (.int 1)) ((oC k η).1 S ++ outC jA o f :: w2) := by
  refine lMet_of (lv := [(0, .ref (η.1 0)), (1, .int p0), (2, .ref o)]) hlt (zL_ok η b L xs) (by decide +kernel) (Nat.le_of_ble_eq_true rfl) rfl (fun κ hc hT hlt => ?_)
  have hc : gC (oL η jA b L xs) κ cL_cartridge 4 RL (some .int) rm_LH := hc
  refine n_aload_n (i := 2) hc 2 dL_cartridge_0 rfl rfl ?_
  refine n_iconst (v := 0) hc dL_cartridge_1 (by decide) ?_
  refine n_aload_n (i := 0) hc 0 dL_cartridge_2 rfl rfl ?_
  refine n_iload_n (i := 1) hc 1 dL_cartridge_3 rfl rfl ?_
  refine n_callX (rest := [.int 0, .ref o]) (w2 := outC jA o f :: w2) hc hlt hT (ω' := oX k η) rfl kC_sub (fun _ _ _ h => h.1) (zX_ok η) 0 (x := (0, 9, 12, 21)) [.int p0] (fun l hl => t_X9_cartridge l hl k η p0 S hv) wtN_139 ge_X9_cartridge rfl ⟨rfl, rfl⟩ ⟨Nat.le_of_ble_eq_true rfl, Nat.le_of_ble_eq_true rfl⟩ ⟨Nat.le_of_ble_eq_true rfl, Nat.le_of_ble_eq_true rfl⟩ rfl rfl rfl (Nat.le_of_ble_eq_true rfl) dL_cartridge_4 rfl (by decide) (by decide) wtN_123 (fun _ _ _ h => h.1.2.2.2.2 _ (by decide +kernel)) (fun q => ?_)
  refine n_astore_n (i := 3) (lv' := (3, .ref q) :: [(0, .ref (η.1 0)), (1, .int p0), (2, .ref o)]) hc dL_cartridge_12 rfl (by decide) rfl ?_
  refine n_iconst (v := 1) hc dL_cartridge_13 (by decide) ?_
  exact n_iret hc dL_cartridge_14
theorem ge_X9_sound : g_callee RX9 yX9_sound cX9_sound 2 (some .int) 1 := ⟨by decide +kernel, wtN_140, wtN_141, wtN_111, wtN_142⟩
theorem h_L_sound (l : Launch) (hlt : l.stackTraces = false) (k : Bool) (η : gE) (jA : ClassId) (b L : Nat) (xs : Nat → Int32) (p0 : Int32) (o : Nat) (f : Nat → Int64) (S : gSt) (w2 : va_W) (hv : ¬ p0 < 0 ∧ p0 ≤ 4) : lMet l yL_sound (Cond.codeWith yL_sound cL_sound 4 (some .int) [(0, 9, 12, 21)]) rm_LH (oL η jA b L xs) [.ref (η.1 0), .int p0, .ref o] ((oC k η).1 S ++ outC jA o f :: w2) (some (.int 0)) ((oC k η).1 (sp_X9_sound k p0 S).2 ++ outC jA o (vp_updL f 0 (sp_X9_sound k p0 S).1.toInt64) :: w2) := by
  refine lMet_of (lv := [(0, .ref (η.1 0)), (1, .int p0), (2, .ref o)]) hlt (zL_ok η b L xs) (by decide +kernel) (Nat.le_of_ble_eq_true rfl) rfl (fun κ hc hT hlt => ?_)
  have hc : gC (oL η jA b L xs) κ cL_sound 4 RL (some .int) rm_LH := hc
  refine n_aload_n (i := 2) hc 2 dL_sound_0 rfl rfl ?_
  refine n_iconst (v := 0) hc dL_sound_1 (by decide) ?_
  refine n_aload_n (i := 0) hc 0 dL_sound_2 rfl rfl ?_
  refine n_iload_n (i := 1) hc 1 dL_sound_3 rfl rfl ?_
  refine n_callV (rest := [.int 0, .ref o]) (w2 := outC jA o f :: w2) hc (ω' := oC k η) rfl kC_sub (fun _ _ _ h => h.1.1) (zC_ok η) 0 [.int p0] (fun l => c_X9_sound l k η p0 S hv) wtN_143 ge_X9_sound rfl ⟨rfl, rfl⟩ ⟨Nat.le_of_ble_eq_true rfl, Nat.le_of_ble_eq_true rfl⟩ ⟨Nat.le_of_ble_eq_true rfl, Nat.le_of_ble_eq_true rfl⟩ rfl rfl rfl (Nat.le_of_ble_eq_true rfl) dL_sound_4 ?_
  refine n_i2l hc dL_sound_7 ?_
  refine n_perm (outC jA o f :: ((oC k η).1 (sp_X9_sound k p0 S).2 ++ w2)) mid_p ?_
  refine n_last hc 0 2 (outC jA o (vp_updL f 0 (sp_X9_sound k p0 S).1.toInt64) :: ((oC k η).1 (sp_X9_sound k p0 S).2 ++ w2)) rfl rfl (vp_in_iff.mpr (by decide)) dL_sound_8 rfl ?_
  refine n_perm ((oC k η).1 (sp_X9_sound k p0 S).2 ++ outC jA o (vp_updL f 0 (sp_X9_sound k p0 S).1.toInt64) :: w2) mid_p.symm ?_
  refine n_goto (tgt := 15) hc dL_sound_9 rfl ?_
  refine n_iconst (v := 0) hc dL_sound_15 (by decide) ?_
  refine n_widen 1 6 (by decide) (by decide) ?_
  exact n_iret hc dL_sound_16
theorem h_X_sound (l : Launch) (hlt : l.stackTraces = false) (k : Bool) (η : gE) (jA : ClassId) (b L : Nat) (xs : Nat → Int32) (p0 : Int32) (o : Nat) (f : Nat → Int64) (S : gSt) (w2 : va_W) (hv : ¬ (¬ p0 < 0 ∧ p0 ≤ 4)) : lMet l yL_sound (Cond.codeWith yL_sound cL_sound 4 (some .int) [(0, 9, 12, 21)]) rm_LH (oL η jA b L xs) [.ref (η.1 0), .int p0, .ref o] ((oC k η).1 S ++ outC jA o f :: w2) (some (.int 1)) ((oC k η).1 S ++ outC jA o f :: w2) := by
  refine lMet_of (lv := [(0, .ref (η.1 0)), (1, .int p0), (2, .ref o)]) hlt (zL_ok η b L xs) (by decide +kernel) (Nat.le_of_ble_eq_true rfl) rfl (fun κ hc hT hlt => ?_)
  have hc : gC (oL η jA b L xs) κ cL_sound 4 RL (some .int) rm_LH := hc
  refine n_aload_n (i := 2) hc 2 dL_sound_0 rfl rfl ?_
  refine n_iconst (v := 0) hc dL_sound_1 (by decide) ?_
  refine n_aload_n (i := 0) hc 0 dL_sound_2 rfl rfl ?_
  refine n_iload_n (i := 1) hc 1 dL_sound_3 rfl rfl ?_
  refine n_callX (rest := [.int 0, .ref o]) (w2 := outC jA o f :: w2) hc hlt hT (ω' := oX k η) rfl kC_sub (fun _ _ _ h => h.1) (zX_ok η) 0 (x := (0, 9, 12, 21)) [.int p0] (fun l hl => t_X9_sound l hl k η p0 S hv) wtN_143 ge_X9_sound rfl ⟨rfl, rfl⟩ ⟨Nat.le_of_ble_eq_true rfl, Nat.le_of_ble_eq_true rfl⟩ ⟨Nat.le_of_ble_eq_true rfl, Nat.le_of_ble_eq_true rfl⟩ rfl rfl rfl (Nat.le_of_ble_eq_true rfl) dL_sound_4 rfl (by decide) (by decide) wtN_123 (fun _ _ _ h => h.1.2.2.2.2 _ (by decide +kernel)) (fun q => ?_)
  refine n_astore_n (i := 3) (lv' := (3, .ref q) :: [(0, .ref (η.1 0)), (1, .int p0), (2, .ref o)]) hc dL_sound_12 rfl (by decide) rfl ?_
  refine n_iconst (v := 1) hc dL_sound_13 (by decide) ?_
  exact n_iret hc dL_sound_14
end HH
