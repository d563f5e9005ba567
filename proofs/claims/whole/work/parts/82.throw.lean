theorem wtN_105 : Cond.classLink RX9 60 "java/lang/IllegalArgumentException" ∈ WT := wt_m (List.mem_of_getElem? (i := 843) (by decide +kernel)) (by decide +kernel)
theorem wtN_106 : Cond.initialized "java/lang/IllegalArgumentException" ∈ WT := wt_m (List.mem_of_getElem? (i := 120) (by decide +kernel)) (by decide +kernel)
theorem wtN_107 : Cond.classLink RX9 114 "java/lang/IndexOutOfBoundsException" ∈ WT := wt_m (List.mem_of_getElem? (i := 926) (by decide +kernel)) (by decide +kernel)
theorem wtN_108 : Cond.initialized "java/lang/IndexOutOfBoundsException" ∈ WT := wt_m (List.mem_of_getElem? (i := 123) (by decide +kernel)) (by decide +kernel)
section XX
section XR
variable {ω : gO} {κ : gK} {cc : ByteArray} {nL : Nat} {own : String} {ret : Option FieldType} {rm : Room} {Q : State → Prop} {pc nc ns : Nat} {lv : List (Nat × Value)} {rest : List Value} {ws : va_W}
theorem n_iflt (hc : gC ω κ cc nL own ret rm) {x : Int32} {off : Int} {tgt : Nat} (hd : decode cc pc = .ok (.ifCond .lt off, 3)) (ht : (pc : Int) + off = (tgt : Int)) (kt : x < 0 → gN ω κ nL Q (tgt) lv (rest) ws nc ns) (kf : ¬ x < 0 → gN ω κ nL Q (pc + 3) lv (rest) ws nc ns) : gN ω κ nL Q (pc) lv (.int x :: rest) ws nc ns := by
  obtain ⟨p, l, e, R, s, m, args, below, meth, c, A⟩ := κ
  intro H locs ls hP hD hS hl
  refine lv_if_lt hc.1 hc.2.1 hd ht (fun h => ?_) (fun h => ?_)
  · exact kt h H locs ls hP hD hS hl
  · exact kf h H locs ls hP hD hS hl
theorem n_icmplt (hc : gC ω κ cc nL own ret rm) {x y : Int32} {off : Int} {tgt : Nat} (hd : decode cc pc = .ok (.if_icmp .lt off, 3)) (ht : (pc : Int) + off = (tgt : Int)) (kt : x < y → gN ω κ nL Q (tgt) lv (rest) ws nc ns) (kf : ¬ x < y → gN ω κ nL Q (pc + 3) lv (rest) ws nc ns) : gN ω κ nL Q (pc) lv (.int y :: .int x :: rest) ws nc ns := by
  obtain ⟨p, l, e, R, s, m, args, below, meth, c, A⟩ := κ
  intro H locs ls hP hD hS hl
  refine lv_icmp_lt hc.1 hc.2.1 hd ht (fun h => ?_) (fun h => ?_)
  · exact kt h H locs ls hP hD hS hl
  · exact kf h H locs ls hP hD hS hl
theorem n_icmple (hc : gC ω κ cc nL own ret rm) {x y : Int32} {off : Int} {tgt : Nat} (hd : decode cc pc = .ok (.if_icmp .le off, 3)) (ht : (pc : Int) + off = (tgt : Int)) (kt : x ≤ y → gN ω κ nL Q (tgt) lv (rest) ws nc ns) (kf : ¬ x ≤ y → gN ω κ nL Q (pc + 3) lv (rest) ws nc ns) : gN ω κ nL Q (pc) lv (.int y :: .int x :: rest) ws nc ns := by
  obtain ⟨p, l, e, R, s, m, args, below, meth, c, A⟩ := κ
  intro H locs ls hP hD hS hl
  refine lv_icmp_le hc.1 hc.2.1 hd ht (fun h => ?_) (fun h => ?_)
  · exact kt h H locs ls hP hD hS hl
  · exact kf h H locs ls hP hD hS hl
theorem n_tswd (hc : gC ω κ cc nL own ret rm) {x : Int32} {dflt lo hi : Int} {offs : Array Int} {len tgt : Nat} (hd : decode cc pc = .ok (.tableswitch dflt lo hi offs, len)) (hv : x.toInt < lo ∨ hi < x.toInt) (ht : (pc : Int) + dflt = (tgt : Int)) (k : gN ω κ nL Q tgt lv rest ws nc ns) : gN ω κ nL Q pc lv (.int x :: rest) ws nc ns := by
  obtain ⟨p, l, e, R, s, m, args, below, meth, c, A⟩ := κ
  intro H locs ls hP hD hS hl
  exact lv_tableOut hc.1 hc.2.1 hd hv ht (k H locs ls hP hD hS hl)
end XR
def nmX : List String := ["java/lang/RuntimeException", "java/lang/Exception"]
def nwX : List Cond := [Cond.castable "java/lang/IllegalArgumentException" "java/lang/IllegalArgumentException", Cond.castable "java/lang/IndexOutOfBoundsException" "java/lang/IndexOutOfBoundsException", Cond.declares (Bundle.initS "java/lang/RuntimeException"), Cond.declares (Bundle.initS "java/lang/Exception"), Cond.declares (Bundle.initS "java/lang/Throwable")]
def stX : List (Nat × String) := [(62, "rom: 0 .. 511"), (73, "chr: 0 .. 127"), (116, "pad: 0 or 1"), (148, "core: 0 .. 8"), (181, "picture: 0 .. 10"), (186, "oam: 0 .. 255"), (191, "cartridge: 0 .. 13"), (205, "sound: 0 .. 4")]
/-- what stands beside the class's cells: its tables, and what a throw needs -/
def zX (η : gE) : (Nat → Prop) → State → Heap → Prop := fun A U H => zC η A U H ∧ vx_Zq Bundle.tN "UNASSIGNED_STACK" Bundle.steD A U H ∧ vx_Zq Bundle.tN "SUPPRESSED_SENTINEL" Bundle.listD A U H ∧ (∀ q ∈ stX, ∃ sa, vk_R RX9 q.1 q.2 sa U) ∧ ∀ w ∈ nwX, va_Nw w U
theorem zX_ok (η : gE) : gZok (zX η) := by
  obtain ⟨h1, h2, h3⟩ := zC_ok η
  refine ⟨fun A u U H hW h => ⟨h1 A u U H hW h.1, vx_Zq.moved hW.alike h.2.1, vx_Zq.moved hW.alike h.2.2.1, fun q hq => ?_, fun w hw => ?_⟩, fun A U H H1 hk h => ⟨h2 A U H H1 hk h.1, h.2.1.kept hk, h.2.2.1.kept hk, h.2.2.2⟩, fun A B U H hAB h => ⟨h3 A B U H hAB h.1, h.2.1.narrow hAB, h.2.2.1.narrow hAB, h.2.2.2⟩⟩
  · obtain ⟨sa, h4⟩ := h.2.2.2.1 q hq
    exact ⟨sa, vk_R.warm hW h4⟩
  · have h5 := h.2.2.2.2 w hw
    simp only [nwX, List.mem_cons, List.not_mem_nil, or_false] at hw
    rcases hw with rfl | rfl | rfl | rfl | rfl <;> first | exact va_Nw.warmC hW h5 | exact va_Nw.warmD hW h5
def oX (k : Bool) (η : gE) : gO := (wC k η, η.2.1, [(η.2.2.1, .int)], zX η)
def xC (ω : gO) (S : gSt) (cls : String) (A : Nat → Prop) : String → State → State → Prop := fun E st t => E = cls ∧ va_P ω.2.1 vwCl (ω.1 S) t.heap ∧ va_F A st t
/-- a method that throws, with the world as it was -/
def xMet (l : Launch) (y : MethodName) (cc : ByteArray) (nL : Nat) (ret : Option FieldType) (rm : Room) (ω : gO) (av : List Value) (S : gSt) (cls : String) : Prop :=
  ∀ sz : Nat, vx_Met l y (Cond.code y cc nL ret :: WT) rm (va_Pc av (gPre ω S sz)) (fun _ _ _ _ => False) (xC ω S cls (va_A (ω.1 S) sz)) 1 6 (va_A (ω.1 S) sz)
def nX (κ : gK) (ω : gO) (S : gSt) (cls : String) : State → Prop := match κ with
  | (_, _, _, _, s, _, args, below, _, _, A) => vx_MQ below (fun _ _ _ _ => False) (xC ω S cls A) args s 1 6 A
def nE (κ : gK) : Prop := match κ with
  | (_, _, _, _, _, _, _, _, _, c, _) => ∀ x ∈ c.exceptionTable.toList, False
def nLt (κ : gK) : Prop := match κ with
  | (_, l, _, _, _, _, _, _, _, _, _) => l.stackTraces = false
theorem xMet_of {l : Launch} {y : MethodName} {rm : Room} {ω : gO} {cc : ByteArray} {nL : Nat} {ret : Option FieldType} {av : List Value} {lv : List (Nat × Value)} {S : gSt} {cls : String} (hlt : l.stackTraces = false) (hz : gZok ω.2.2.2)
    (hy : plainName y.cls = true) (hlen : (lg_sl av).length ≤ nL) (hlv : lv_args 0 av = lv)
    (body : ∀ κ : gK, gC ω κ cc nL y.cls ret rm → nE κ → nLt κ → gN ω κ nL (nX κ ω S cls) 0 lv [] (ω.1 S) 0 0) : xMet l y cc nL ret rm ω av S cls := by
  intro sz
  refine vx_ofW (cc := cc) (maxL := nL) (ret := ret) (ws' := WT) hy rfl ?_
  intro p e s m args below meth c s₁ B hml hno hv
  obtain ⟨rfl, hsz, hP, hK, hD0, hZ⟩ := hv
  have hts := fun w h => atoms_spec (ws := Cond.code y cc nL ret :: WT) B.pre w (List.mem_cons_of_mem _ h)
  have hown : s.vm.findClass y.cls = some m.cls := findClass_of_methodNamed B.named
  subst hsz
  have hD := hD0.self (sz := s.heap.size)
  have hl := lv_entry av (n := nL) hlen
  rw [lg_entry_eq]
  rw [hlv] at hl
  exact body (p, l, e, (headSpec (Cond.code y cc nL ret :: WT) rm).room, s, m, av.toArray, below, meth, c, va_A (ω.1 S) s.heap.size) ⟨B.exec, B.bytes, hml, hown, hts, hK, fun q h => Or.inr h, B.returns, B.notSynchronized, rfl, hZ, hz⟩ hno hlt s.heap [] _ hP hD va_S.rf hl
theorem x_hat {s : State} {args : Array Value} {L : List Cond} (hts : ∀ w ∈ WT, w.before args s = true) (h1 : ∀ w ∈ L.filter goodWord, w ∈ lw_tbl) (h2 : ∀ w ∈ L.filter (fun w => !goodWord w), w ∈ nwX) (h3 : ∀ w ∈ nwX, va_Nw w s) : ∀ w ∈ L, w.before args s = true :=
  vx_hat (fun w hw => hts w (wt_m (h1 w hw) (List.mem_filter.mp hw).2)) h2 (fun w hw => by
    have h5 := h3 w hw
    simp only [nwX, List.mem_cons, List.not_mem_nil, or_false] at hw
    rcases hw with rfl | rfl | rfl | rfl | rfl <;> exact va_tabs rfl rfl h5)
theorem n_throw {k : Bool} {η : gE} {κ : gK} {cc : ByteArray} {nL : Nat} {ret : Option FieldType} {rm : Room} {pc : Nat} {lv : List (Nat × Value)} {S : gSt} (hc : gC (oX k η) κ cc nL RX9 ret rm) (hE : nE κ) (hlt : nLt κ) {cls text : String} {ik is ic : Nat} (hcls : Bundle.fit cls = true) (h1 : Cond.classLink RX9 ik cls ∈ WT) (h2 : Cond.initialized cls ∈ WT) (hst : (is, text) ∈ stX)
    (hx1 : ∀ w ∈ (vx_atS RX9 ic cls nmX).filter goodWord, w ∈ lw_tbl) (hx2 : ∀ w ∈ (vx_atS RX9 ic cls nmX).filter (fun w => !goodWord w), w ∈ nwX) (hgood : ∀ w ∈ Cond.classLink RX9 ik cls :: Cond.initialized cls :: vx_atS RX9 ic cls nmX, vx_ot w = true)
    (hR : 5 < rm.frames ∧ 82 ≤ rm.locals ∧ 1 ≤ rm.cells ∧ 6 ≤ rm.slots) (d0 : decode cc pc = .ok (.new ik, 3)) (d3 : decode cc (pc + 3) = .ok (.dup, 1)) (d4 : decode cc (pc + 4) = .ok (.ldc is, 2)) (d6 : decode cc (pc + 6) = .ok (.invokespecial ic, 3)) (d9 : decode cc (pc + 9) = .ok (.athrow, 1)) : gN (oX k η) κ nL (nX κ (oX k η) S cls) pc lv [] ((oX k η).1 S) 0 0 := by
  obtain ⟨p, l, e, R, s, m, args, below, meth, c, A⟩ := κ
  intro H locs ls hP hD hS hl
  obtain ⟨hx, hb, hml, hown, hts, hK, hA, hret, hlk, rfl, hZ, hz⟩ := hc
  obtain ⟨sa, hsa⟩ := hZ.2.2.2.1 (is, text) hst
  refine vx_throwS (rest := []) (names := nmX) hx hb hlt hown hcls (by decide +kernel) (hts _ h1) (hts _ h2) hsa (x_hat hts hx1 hx2 hZ.2.2.2.2) hgood hZ.2.1 hZ.2.2.1 hS (by rw [hml]; exact hl.1) d0 d3 d4 d6 d9 (fun x hx => (hE x hx).elim) hR.1 (by simpa [nmX] using hR.2.1) (by simpa using hR.2.2.1) (by simpa using hR.2.2.2) hlk (fun t hvm h5 h6 => ⟨rfl, ?_, ?_, ?_⟩) hS.2.2 (Nat.le_refl _) (Nat.le_refl _)
  · exact hP.kept (fun i q hi => h6 q.1 (hP i q hi).lt)
  · exact Nat.le_trans hS.1 h5
  · intro q h7 h8
    rw [h6 q (Nat.lt_of_lt_of_le h7 hS.1)]
    exact hS.2.1 q h7 h8
theorem xa_i1 : ∀ w ∈ (vx_atS RX9 64 "java/lang/IllegalArgumentException" nmX).filter goodWord, w ∈ lw_tbl := by decide +kernel
theorem xa_i2 : ∀ w ∈ (vx_atS RX9 64 "java/lang/IllegalArgumentException" nmX).filter (fun w => !goodWord w), w ∈ nwX := by decide +kernel
theorem xa_i3 : ∀ w ∈ Cond.classLink RX9 60 "java/lang/IllegalArgumentException" :: Cond.initialized "java/lang/IllegalArgumentException" :: vx_atS RX9 64 "java/lang/IllegalArgumentException" nmX, vx_ot w = true := by decide +kernel
theorem xa_b1 : ∀ w ∈ (vx_atS RX9 118 "java/lang/IndexOutOfBoundsException" nmX).filter goodWord, w ∈ lw_tbl := by decide +kernel
theorem xa_b2 : ∀ w ∈ (vx_atS RX9 118 "java/lang/IndexOutOfBoundsException" nmX).filter (fun w => !goodWord w), w ∈ nwX := by decide +kernel
theorem xa_b3 : ∀ w ∈ Cond.classLink RX9 114 "java/lang/IndexOutOfBoundsException" :: Cond.initialized "java/lang/IndexOutOfBoundsException" :: vx_atS RX9 118 "java/lang/IndexOutOfBoundsException" nmX, vx_ot w = true := by decide +kernel
abbrev rm_XT : Room := { frames := 6, cells := 1, slots := 6, locals := 90 }
theorem tsw8 {a0 : Int32} (hv : ¬ (a0 = 0 ∨ a0 = 1 ∨ a0 = 2 ∨ a0 = 3 ∨ a0 = 4 ∨ a0 = 5 ∨ a0 = 6 ∨ a0 = 7 ∨ a0 = 8)) : a0.toInt < 0 ∨ 8 < a0.toInt := by
  by_cases h : a0 < 0
  · exact Or.inl (Int32.lt_iff_toInt_lt.mp h)
  · obtain ⟨j, hj, rfl⟩ := nI_of h
    rw [nI_toInt hj]
    have g : ¬ j < 9 := fun z => hv ((by decide : ∀ j, j < 9 → (nI j = 0 ∨ nI j = 1 ∨ nI j = 2 ∨ nI j = 3 ∨ nI j = 4 ∨ nI j = 5 ∨ nI j = 6 ∨ nI j = 7 ∨ nI j = 8)) j z)
    exact Or.inr (by omega)
theorem tsw10 {a0 : Int32} (hv : ¬ (a0 = 0 ∨ a0 = 1 ∨ a0 = 2 ∨ a0 = 3 ∨ a0 = 4 ∨ a0 = 5 ∨ a0 = 6 ∨ a0 = 7 ∨ a0 = 8 ∨ a0 = 9 ∨ a0 = 10)) : a0.toInt < 0 ∨ 10 < a0.toInt := by
  by_cases h : a0 < 0
  · exact Or.inl (Int32.lt_iff_toInt_lt.mp h)
  · obtain ⟨j, hj, rfl⟩ := nI_of h
    rw [nI_toInt hj]
    have g : ¬ j < 11 := fun z => hv ((by decide : ∀ j, j < 11 → (nI j = 0 ∨ nI j = 1 ∨ nI j = 2 ∨ nI j = 3 ∨ nI j = 4 ∨ nI j = 5 ∨ nI j = 6 ∨ nI j = 7 ∨ nI j = 8 ∨ nI j = 9 ∨ nI j = 10)) j z)
    exact Or.inr (by omega)
theorem t_X9_rom (l : Launch) (hlt : l.stackTraces = false) (k : Bool) (η : gE) (a0 : Int32) (a1 : Int32) (S : gSt) (hv : ¬ (¬ a0 < 0 ∧ a0 < 512)) : xMet l yX9_rom cX9_rom 3 none rm_XT (oX k η) [.ref (η.1 0), .int a0, .int a1] S "java/lang/IllegalArgumentException" := by
  refine xMet_of (lv := [(0, .ref (η.1 0)), (1, .int a0), (2, .int a1)]) hlt (zX_ok η) (by decide +kernel) (Nat.le_of_ble_eq_true rfl) rfl (fun κ hc hE hlt => ?_)
  have hc : gC (oX k η) κ cX9_rom 3 RX9 none rm_XT := hc
  refine n_iload_n (i := 1) hc 1 dX9_rom_0 rfl rfl ?_
  refine n_iflt (tgt := 11) hc dX9_rom_1 rfl (fun c1 => ?_) (fun c1 => ?_)
  · exact n_throw hc hE hlt (by decide +kernel) wtN_105 wtN_106 (text := "rom: 0 .. 511") (by decide) xa_i1 xa_i2 xa_i3 ⟨Nat.le_of_ble_eq_true rfl, Nat.le_of_ble_eq_true rfl, Nat.le_of_ble_eq_true rfl, Nat.le_of_ble_eq_true rfl⟩ dX9_rom_11 dX9_rom_14 dX9_rom_15 dX9_rom_17 dX9_rom_20
  · refine n_iload_n (i := 1) hc 1 dX9_rom_4 rfl rfl ?_
    refine n_sipush (v := 512) hc dX9_rom_5 (by decide) ?_
    refine n_icmplt (tgt := 21) hc dX9_rom_8 rfl (fun c2 => absurd ⟨c1, c2⟩ hv) (fun c2 => ?_)
    exact n_throw hc hE hlt (by decide +kernel) wtN_105 wtN_106 (text := "rom: 0 .. 511") (by decide) xa_i1 xa_i2 xa_i3 ⟨Nat.le_of_ble_eq_true rfl, Nat.le_of_ble_eq_true rfl, Nat.le_of_ble_eq_true rfl, Nat.le_of_ble_eq_true rfl⟩ dX9_rom_11 dX9_rom_14 dX9_rom_15 dX9_rom_17 dX9_rom_20
theorem t_X9_chr (l : Launch) (hlt : l.stackTraces = false) (k : Bool) (η : gE) (a0 : Int32) (a1 : Int32) (S : gSt) (hv : ¬ (¬ a0 < 0 ∧ a0 < 128)) : xMet l yX9_chr cX9_chr 3 none rm_XT (oX k η) [.ref (η.1 0), .int a0, .int a1] S "java/lang/IllegalArgumentException" := by
  refine xMet_of (lv := [(0, .ref (η.1 0)), (1, .int a0), (2, .int a1)]) hlt (zX_ok η) (by decide +kernel) (Nat.le_of_ble_eq_true rfl) rfl (fun κ hc hE hlt => ?_)
  have hc : gC (oX k η) κ cX9_chr 3 RX9 none rm_XT := hc
  refine n_iload_n (i := 1) hc 1 dX9_chr_0 rfl rfl ?_
  refine n_iflt (tgt := 11) hc dX9_chr_1 rfl (fun c1 => ?_) (fun c1 => ?_)
  · exact n_throw hc hE hlt (by decide +kernel) wtN_105 wtN_106 (text := "chr: 0 .. 127") (by decide) xa_i1 xa_i2 xa_i3 ⟨Nat.le_of_ble_eq_true rfl, Nat.le_of_ble_eq_true rfl, Nat.le_of_ble_eq_true rfl, Nat.le_of_ble_eq_true rfl⟩ dX9_chr_11 dX9_chr_14 dX9_chr_15 dX9_chr_17 dX9_chr_20
  · refine n_iload_n (i := 1) hc 1 dX9_chr_4 rfl rfl ?_
    refine n_sipush (v := 128) hc dX9_chr_5 (by decide) ?_
    refine n_icmplt (tgt := 21) hc dX9_chr_8 rfl (fun c2 => absurd ⟨c1, c2⟩ hv) (fun c2 => ?_)
    exact n_throw hc hE hlt (by decide +kernel) wtN_105 wtN_106 (text := "chr: 0 .. 127") (by decide) xa_i1 xa_i2 xa_i3 ⟨Nat.le_of_ble_eq_true rfl, Nat.le_of_ble_eq_true rfl, Nat.le_of_ble_eq_true rfl, Nat.le_of_ble_eq_true rfl⟩ dX9_chr_11 dX9_chr_14 dX9_chr_15 dX9_chr_17 dX9_chr_20
theorem t_X9_pad (l : Launch) (hlt : l.stackTraces = false) (k : Bool) (η : gE) (a0 : Int32) (a1 : Int32) (S : gSt) (hv : ¬ (¬ a0 < 0 ∧ a0 ≤ 1)) : xMet l yX9_pad cX9_pad 3 none rm_XT (oX k η) [.ref (η.1 0), .int a0, .int a1] S "java/lang/IndexOutOfBoundsException" := by
  refine xMet_of (lv := [(0, .ref (η.1 0)), (1, .int a0), (2, .int a1)]) hlt (zX_ok η) (by decide +kernel) (Nat.le_of_ble_eq_true rfl) rfl (fun κ hc hE hlt => ?_)
  have hc : gC (oX k η) κ cX9_pad 3 RX9 none rm_XT := hc
  refine n_iload_n (i := 1) hc 1 dX9_pad_0 rfl rfl ?_
  refine n_iflt (tgt := 9) hc dX9_pad_1 rfl (fun c1 => ?_) (fun c1 => ?_)
  · exact n_throw hc hE hlt (by decide +kernel) wtN_107 wtN_108 (text := "pad: 0 or 1") (by decide) xa_b1 xa_b2 xa_b3 ⟨Nat.le_of_ble_eq_true rfl, Nat.le_of_ble_eq_true rfl, Nat.le_of_ble_eq_true rfl, Nat.le_of_ble_eq_true rfl⟩ dX9_pad_9 dX9_pad_12 dX9_pad_13 dX9_pad_15 dX9_pad_18
  · refine n_iload_n (i := 1) hc 1 dX9_pad_4 rfl rfl ?_
    refine n_iconst (v := 1) hc dX9_pad_5 (by decide) ?_
    refine n_icmple (tgt := 19) hc dX9_pad_6 rfl (fun c2 => absurd ⟨c1, c2⟩ hv) (fun c2 => ?_)
    exact n_throw hc hE hlt (by decide +kernel) wtN_107 wtN_108 (text := "pad: 0 or 1") (by decide) xa_b1 xa_b2 xa_b3 ⟨Nat.le_of_ble_eq_true rfl, Nat.le_of_ble_eq_true rfl, Nat.le_of_ble_eq_true rfl, Nat.le_of_ble_eq_true rfl⟩ dX9_pad_9 dX9_pad_12 dX9_pad_13 dX9_pad_15 dX9_pad_18
theorem t_X9_core (l : Launch) (hlt : l.stackTraces = false) (k : Bool) (η : gE) (a0 : Int32) (S : gSt) (hv : ¬ (a0 = 0 ∨ a0 = 1 ∨ a0 = 2 ∨ a0 = 3 ∨ a0 = 4 ∨ a0 = 5 ∨ a0 = 6 ∨ a0 = 7 ∨ a0 = 8)) : xMet l yX9_core cX9_core 2 (some .int) rm_XT (oX k η) [.ref (η.1 0), .int a0] S "java/lang/IndexOutOfBoundsException" := by
  refine xMet_of (lv := [(0, .ref (η.1 0)), (1, .int a0)]) hlt (zX_ok η) (by decide +kernel) (Nat.le_of_ble_eq_true rfl) rfl (fun κ hc hE hlt => ?_)
  have hc : gC (oX k η) κ cX9_core 2 RX9 (some .int) rm_XT := hc
  refine n_iload_n (i := 1) hc 1 dX9_core_0 rfl rfl ?_
  refine n_tswd (tgt := 126) hc dX9_core_1 (tsw8 hv) rfl ?_
  exact n_throw hc hE hlt (by decide +kernel) wtN_107 wtN_108 (text := "core: 0 .. 8") (by decide) xa_b1 xa_b2 xa_b3 ⟨Nat.le_of_ble_eq_true rfl, Nat.le_of_ble_eq_true rfl, Nat.le_of_ble_eq_true rfl, Nat.le_of_ble_eq_true rfl⟩ dX9_core_126 dX9_core_129 dX9_core_130 dX9_core_132 dX9_core_135
theorem t_X9_picture (l : Launch) (hlt : l.stackTraces = false) (k : Bool) (η : gE) (a0 : Int32) (S : gSt) (hv : ¬ (a0 = 0 ∨ a0 = 1 ∨ a0 = 2 ∨ a0 = 3 ∨ a0 = 4 ∨ a0 = 5 ∨ a0 = 6 ∨ a0 = 7 ∨ a0 = 8 ∨ a0 = 9 ∨ a0 = 10)) : xMet l yX9_picture cX9_picture 2 (some .int) rm_XT (oX k η) [.ref (η.1 0), .int a0] S "java/lang/IndexOutOfBoundsException" := by
  refine xMet_of (lv := [(0, .ref (η.1 0)), (1, .int a0)]) hlt (zX_ok η) (by decide +kernel) (Nat.le_of_ble_eq_true rfl) rfl (fun κ hc hE hlt => ?_)
  have hc : gC (oX k η) κ cX9_picture 2 RX9 (some .int) rm_XT := hc
  refine n_iload_n (i := 1) hc 1 dX9_picture_0 rfl rfl ?_
  refine n_tswd (tgt := 148) hc dX9_picture_1 (tsw10 hv) rfl ?_
  exact n_throw hc hE hlt (by decide +kernel) wtN_107 wtN_108 (text := "picture: 0 .. 10") (by decide) xa_b1 xa_b2 xa_b3 ⟨Nat.le_of_ble_eq_true rfl, Nat.le_of_ble_eq_true rfl, Nat.le_of_ble_eq_true rfl, Nat.le_of_ble_eq_true rfl⟩ dX9_picture_148 dX9_picture_151 dX9_picture_152 dX9_picture_154 dX9_picture_157
theorem t_X9_oam (l : Launch) (hlt : l.stackTraces = false) (k : Bool) (η : gE) (a0 : Int32) (S : gSt) (hv : ¬ (¬ a0 < 0 ∧ a0 < 256)) : xMet l yX9_oam cX9_oam 2 (some .int) rm_XT (oX k η) [.ref (η.1 0), .int a0] S "java/lang/IndexOutOfBoundsException" := by
  refine xMet_of (lv := [(0, .ref (η.1 0)), (1, .int a0)]) hlt (zX_ok η) (by decide +kernel) (Nat.le_of_ble_eq_true rfl) rfl (fun κ hc hE hlt => ?_)
  have hc : gC (oX k η) κ cX9_oam 2 RX9 (some .int) rm_XT := hc
  refine n_iload_n (i := 1) hc 1 dX9_oam_0 rfl rfl ?_
  refine n_iflt (tgt := 11) hc dX9_oam_1 rfl (fun c1 => ?_) (fun c1 => ?_)
  · exact n_throw hc hE hlt (by decide +kernel) wtN_107 wtN_108 (text := "oam: 0 .. 255") (by decide) xa_b1 xa_b2 xa_b3 ⟨Nat.le_of_ble_eq_true rfl, Nat.le_of_ble_eq_true rfl, Nat.le_of_ble_eq_true rfl, Nat.le_of_ble_eq_true rfl⟩ dX9_oam_11 dX9_oam_14 dX9_oam_15 dX9_oam_17 dX9_oam_20
  · refine n_iload_n (i := 1) hc 1 dX9_oam_4 rfl rfl ?_
    refine n_sipush (v := 256) hc dX9_oam_5 (by decide) ?_
    refine n_icmplt (tgt := 21) hc dX9_oam_8 rfl (fun c2 => absurd ⟨c1, c2⟩ hv) (fun c2 => ?_)
    exact n_throw hc hE hlt (by decide +kernel) wtN_107 wtN_108 (text := "oam: 0 .. 255") (by decide) xa_b1 xa_b2 xa_b3 ⟨Nat.le_of_ble_eq_true rfl, Nat.le_of_ble_eq_true rfl, Nat.le_of_ble_eq_true rfl, Nat.le_of_ble_eq_true rfl⟩ dX9_oam_11 dX9_oam_14 dX9_oam_15 dX9_oam_17 dX9_oam_20
theorem t_X9_cartridge (l : Launch) (hlt : l.stackTraces = false) (k : Bool) (η : gE) (a0 : Int32) (S : gSt) (hv : ¬ (¬ a0 < 0 ∧ a0 ≤ 13)) : xMet l yX9_cartridge cX9_cartridge 2 (some .int) rm_XT (oX k η) [.ref (η.1 0), .int a0] S "java/lang/IndexOutOfBoundsException" := by
  refine xMet_of (lv := [(0, .ref (η.1 0)), (1, .int a0)]) hlt (zX_ok η) (by decide +kernel) (Nat.le_of_ble_eq_true rfl) rfl (fun κ hc hE hlt => ?_)
  have hc : gC (oX k η) κ cX9_cartridge 2 RX9 (some .int) rm_XT := hc
  refine n_iload_n (i := 1) hc 1 dX9_cartridge_0 rfl rfl ?_
  refine n_iflt (tgt := 10) hc dX9_cartridge_1 rfl (fun c1 => ?_) (fun c1 => ?_)
  · exact n_throw hc hE hlt (by decide +kernel) wtN_107 wtN_108 (text := "cartridge: 0 .. 13") (by decide) xa_b1 xa_b2 xa_b3 ⟨Nat.le_of_ble_eq_true rfl, Nat.le_of_ble_eq_true rfl, Nat.le_of_ble_eq_true rfl, Nat.le_of_ble_eq_true rfl⟩ dX9_cartridge_10 dX9_cartridge_13 dX9_cartridge_14 dX9_cartridge_16 dX9_cartridge_19
  · refine n_iload_n (i := 1) hc 1 dX9_cartridge_4 rfl rfl ?_
    refine n_bipush (v := 13) hc dX9_cartridge_5 (by decide) ?_
    refine n_icmple (tgt := 20) hc dX9_cartridge_7 rfl (fun c2 => absurd ⟨c1, c2⟩ hv) (fun c2 => ?_)
    exact n_throw hc hE hlt (by decide +kernel) wtN_107 wtN_108 (text := "cartridge: 0 .. 13") (by decide) xa_b1 xa_b2 xa_b3 ⟨Nat.le_of_ble_eq_true rfl, Nat.le_of_ble_eq_true rfl, Nat.le_of_ble_eq_true rfl, Nat.le_of_ble_eq_true rfl⟩ dX9_cartridge_10 dX9_cartridge_13 dX9_cartridge_14 dX9_cartridge_16 dX9_cartridge_19
theorem t_X9_sound (l : Launch) (hlt : l.stackTraces = false) (k : Bool) (η : gE) (a0 : Int32) (S : gSt) (hv : ¬ (¬ a0 < 0 ∧ a0 ≤ 4)) : xMet l yX9_sound cX9_sound 2 (some .int) rm_XT (oX k η) [.ref (η.1 0), .int a0] S "java/lang/IndexOutOfBoundsException" := by
  refine xMet_of (lv := [(0, .ref (η.1 0)), (1, .int a0)]) hlt (zX_ok η) (by decide +kernel) (Nat.le_of_ble_eq_true rfl) rfl (fun κ hc hE hlt => ?_)
  have hc : gC (oX k η) κ cX9_sound 2 RX9 (some .int) rm_XT := hc
  refine n_iload_n (i := 1) hc 1 dX9_sound_0 rfl rfl ?_
  refine n_iflt (tgt := 9) hc dX9_sound_1 rfl (fun c1 => ?_) (fun c1 => ?_)
  · exact n_throw hc hE hlt (by decide +kernel) wtN_107 wtN_108 (text := "sound: 0 .. 4") (by decide) xa_b1 xa_b2 xa_b3 ⟨Nat.le_of_ble_eq_true rfl, Nat.le_of_ble_eq_true rfl, Nat.le_of_ble_eq_true rfl, Nat.le_of_ble_eq_true rfl⟩ dX9_sound_9 dX9_sound_12 dX9_sound_13 dX9_sound_15 dX9_sound_18
  · refine n_iload_n (i := 1) hc 1 dX9_sound_4 rfl rfl ?_
    refine n_iconst (v := 4) hc dX9_sound_5 (by decide) ?_
    refine n_icmple (tgt := 19) hc dX9_sound_6 rfl (fun c2 => absurd ⟨c1, c2⟩ hv) (fun c2 => ?_)
    exact n_throw hc hE hlt (by decide +kernel) wtN_107 wtN_108 (text := "sound: 0 .. 4") (by decide) xa_b1 xa_b2 xa_b3 ⟨Nat.le_of_ble_eq_true rfl, Nat.le_of_ble_eq_true rfl, Nat.le_of_ble_eq_true rfl, Nat.le_of_ble_eq_true rfl⟩ dX9_sound_9 dX9_sound_12 dX9_sound_13 dX9_sound_15 dX9_sound_18
end XX
