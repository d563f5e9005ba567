/-! worlds that grow: gN pc locals stack ws cells slots Q : from here, with the cells ws, the machine comes to Q -/
section GN
theorem w_iff {D : va_G} {cl : List vw_C} {ws : va_W} {H : Heap} : va_P D cl ws H ↔ ∀ q ∈ ws, va_at D cl q H := by
  constructor
  · intro h q hq
    obtain ⟨k, hk⟩ := List.mem_iff_getElem?.mp hq
    exact h k q hk
  · intro h k q hk
    exact h q (List.mem_of_getElem? hk)
theorem d_iff {A : Nat → Prop} {ws : va_W} : va_D A ws ↔ ws.Pairwise (fun p q => p.1 ≠ q.1) ∧ ∀ q ∈ ws, A q.1 := by
  constructor
  · intro h
    refine ⟨List.pairwise_iff_getElem.mpr (fun i j hi hj hij e => ?_), fun q hq => ?_⟩
    · have := h.1 i j ws[i] ws[j] (List.getElem?_eq_getElem hi) (List.getElem?_eq_getElem hj) e
      omega
    · obtain ⟨k, hk⟩ := List.mem_iff_getElem?.mp hq
      exact h.2 k q hk
  · intro h
    refine ⟨fun i j p q hp hq e => ?_, fun k q hk => h.2 q (List.mem_of_getElem? hk)⟩
    obtain ⟨hi, e1⟩ := List.getElem?_eq_some_iff.mp hp
    obtain ⟨hj, e2⟩ := List.getElem?_eq_some_iff.mp hq
    rcases Nat.lt_trichotomy i j with g | g | g
    · exact absurd (by rw [e1, e2]; exact e) (List.pairwise_iff_getElem.mp h.1 i j hi hj g)
    · exact g
    · exact absurd (by rw [e1, e2]; exact e.symm) (List.pairwise_iff_getElem.mp h.1 j i hj hi g)
theorem p_perm {D : va_G} {cl : List vw_C} {ws ws' : va_W} {H : Heap} (hp : ws.Perm ws') (h : va_P D cl ws H) : va_P D cl ws' H := w_iff.mpr (fun q hq => w_iff.mp h q (hp.mem_iff.mpr hq))
theorem d_perm {A : Nat → Prop} {ws ws' : va_W} (hp : ws.Perm ws') (h : va_D A ws) : va_D A ws' := d_iff.mpr ⟨hp.pairwise (d_iff.mp h).1 (fun e => e.symm), fun q hq => (d_iff.mp h).2 q (hp.mem_iff.mpr hq)⟩
theorem h_join {A0 : Nat → Prop} {D : va_G} {cl : List vw_C} {w1 w2 w3 : va_W} {H H1 : Heap} (hP : va_P D cl (w1 ++ w2) H) (hD : va_D A0 (w1 ++ w2)) (hk : ∀ q : Nat, q < H.size → ¬ va_A w1 H.size q → H1[q]? = H[q]?) (hF : ∀ q, va_A w1 H.size q → A0 q) (hP1 : va_P D cl w3 H1) (hD1 : va_D (va_A w1 H.size) w3) : va_P D cl (w3 ++ w2) H1 ∧ va_D A0 (w3 ++ w2) := by
  have hPm := w_iff.mp hP
  have hDm := d_iff.mp hD
  have hpw := List.pairwise_append.mp hDm.1
  have hD3 := d_iff.mp hD1
  have apart : ∀ q ∈ w2, q.1 < H.size ∧ ¬ va_A w1 H.size q.1 := fun q hq => by
    have hl := (hPm q (List.mem_append_right _ hq)).lt
    refine ⟨hl, fun h => ?_⟩
    rcases h with ⟨k, e, h⟩ | h
    · exact hpw.2.2 (q.1, e) (List.mem_of_getElem? h) q hq rfl
    · omega
  refine ⟨w_iff.mpr (fun q hq => ?_), d_iff.mpr ⟨List.pairwise_append.mpr ⟨hD3.1, hpw.2.1, fun a ha b hb e => (apart b hb).2 (e ▸ hD3.2 a ha)⟩, fun q hq => ?_⟩⟩
  · rcases List.mem_append.mp hq with h | h
    · exact w_iff.mp hP1 q h
    · exact (hPm q (List.mem_append_right _ h)).kept (hk q.1 (apart q h).1 (apart q h).2)
  · rcases List.mem_append.mp hq with h | h
    · exact hF _ (hD3.2 q h)
    · exact hDm.2 q (List.mem_append_right _ h)
def gN (ω : gO) (κ : gK) (nL : Nat) (Q : State → Prop) (pc : Nat) (lv : List (Nat × Value)) (st : List Value) (ws : va_W) (nc ns : Nat) : Prop :=
  match κ with
  | (p, l, e, R, s, m, args, below, meth, c, A) => ∀ (H : Heap) (locs : List Loc) (ls : Array Slot), va_P ω.2.1 vwCl ws H → va_D A ws → va_S A s.heap H locs → lv_has ls nL lv →
      W p l e R s m args below meth c H locs nc ns Q (F0 m pc ls st)
/-- what a constructor starts from -/
def nPre (ω : gO) (ws0 : va_W) (sz : Nat) : State → Prop := fun U => U.heap.size = sz ∧ va_P ω.2.1 vwCl ws0 U.heap ∧ va_K ω.2.1 vwCl ω.2.2.1 U ∧ va_D (fun _ => True) ws0 ∧ ω.2.2.2 (va_A ws0 sz) U U.heap
/-- and what it leaves: new addresses u, the cells at them -/
def nQ (ω : gO) (post : (Nat → Nat) → Prop) (wf : (Nat → Nat) → va_W) (A : Nat → Prop) : Array Value → State → Outcome → State → Prop := fun _ st oc t => (∃ u : Nat → Nat, oc = .returned none ∧ post u ∧ va_P ω.2.1 vwCl (wf u) t.heap ∧ va_K ω.2.1 vwCl ω.2.2.1 t ∧ va_D A (wf u)) ∧ va_F A st t
def nMet (l : Launch) (y : MethodName) (cc : ByteArray) (nL : Nat) (rm : Room) (ω : gO) (av : List Value) (ws0 : va_W) (post : (Nat → Nat) → Prop) (wf : (Nat → Nat) → va_W) : Prop :=
  ∀ sz : Nat, Met l y (Cond.code y cc nL none :: WT) rm (va_Pc av (nPre ω ws0 sz)) (nQ ω post wf (va_A ws0 sz)) rm.cells rm.slots (va_A ws0 sz)
def nK (κ : gK) (Qc : (Nat → Prop) → Array Value → State → Outcome → State → Prop) (mc ms : Nat) : State → Prop := match κ with
  | (_, _, _, _, s, _, args, below, _, _, A) => MQ below (Qc A) args s mc ms A
/-- a method called <init> -/
def nIn (κ : gK) : Prop := match κ with
  | (_, _, _, _, _, _, _, _, meth, _, _) => meth.name = "<init>"
theorem nMet_of {l : Launch} {y : MethodName} {rm : Room} {ω : gO} {cc : ByteArray} {nL : Nat} {av : List Value} {lv : List (Nat × Value)} {ws0 : va_W} {post : (Nat → Nat) → Prop} {wf : (Nat → Nat) → va_W} (hz : gZok ω.2.2.2)
    (hy : plainName y.cls = true) (hn : y.name = "<init>") (hlen : (lg_sl av).length ≤ nL) (hlv : lv_args 0 av = lv)
    (body : ∀ κ : gK, gC ω κ cc nL y.cls none rm → nIn κ → gN ω κ nL (nK κ (nQ ω post wf) rm.cells rm.slots) 0 lv [] ws0 0 0) : nMet l y cc nL rm ω av ws0 post wf := by
  intro sz
  refine Met.ofW (cc := cc) (maxL := nL) (ret := none) (ws' := WT) hy rfl ?_
  intro p e s m args below meth c s₁ B hml hv
  obtain ⟨rfl, hsz, hP, hK, hD0, hZ⟩ := hv
  have hts := fun w h => atoms_spec (ws := Cond.code y cc nL none :: WT) B.pre w (List.mem_cons_of_mem _ h)
  have hown : s.vm.findClass y.cls = some m.cls := findClass_of_methodNamed B.named
  have hin : meth.name = "<init>" := (name_of_methodNamed B.named B.method).1.trans hn
  subst hsz
  have hD := hD0.self (sz := s.heap.size)
  have hl := lv_entry av (n := nL) hlen
  rw [lg_entry_eq]
  rw [hlv] at hl
  exact body (p, l, e, (headSpec (Cond.code y cc nL none :: WT) rm).room, s, m, av.toArray, below, meth, c, va_A ws0 s.heap.size) ⟨B.exec, B.bytes, hml, hown, hts, hK, fun q h => Or.inr h, B.returns, B.notSynchronized, rfl, hZ, hz⟩ hin s.heap [] _ hP hD va_S.rf hl
section NR
variable {ω : gO} {κ : gK} {cc : ByteArray} {nL : Nat} {own : String} {ret : Option FieldType} {rm : Room} {Q : State → Prop} {pc nc ns : Nat} {lv : List (Nat × Value)} {rest : List Value} {ws : va_W}
theorem n_perm {st : List Value} (ws' : va_W) (hp : ws.Perm ws') (k : gN ω κ nL Q pc lv st ws' nc ns) : gN ω κ nL Q pc lv st ws nc ns := by
  obtain ⟨p, l, e, R, s, m, args, below, meth, c, A⟩ := κ
  intro H locs ls hP hD hS hl
  exact k H locs ls (p_perm hp hP) (d_perm hp hD) hS hl
theorem n_rot {st : List Value} {w1 w2 : va_W} (k : gN ω κ nL Q pc lv st (w2 ++ w1) nc ns) : gN ω κ nL Q pc lv st (w1 ++ w2) nc ns := n_perm _ List.perm_append_comm k
theorem n_widen {st : List Value} (nc' ns' : Nat) (h1 : nc ≤ nc') (h2 : ns ≤ ns') (k : gN ω κ nL Q pc lv st ws nc' ns') : gN ω κ nL Q pc lv st ws nc ns := by
  obtain ⟨p, l, e, R, s, m, args, below, meth, c, A⟩ := κ
  intro H locs ls hP hD hS hl
  exact W.widen h1 h2 (k H locs ls hP hD hS hl)
theorem n_iadd (hc : gC ω κ cc nL own ret rm) {x y : Int32} (hd : decode cc pc = .ok (.iadd, 1)) (k : gN ω κ nL Q (pc + 1) lv (.int (x + y) :: rest) ws nc ns) : gN ω κ nL Q (pc) lv (.int y :: .int x :: rest) ws nc ns := by
  obtain ⟨p, l, e, R, s, m, args, below, meth, c, A⟩ := κ
  intro H locs ls hP hD hS hl
  exact lv_iadd hc.1 hc.2.1 hd (k H locs ls hP hD hS hl)
theorem n_isub (hc : gC ω κ cc nL own ret rm) {x y : Int32} (hd : decode cc pc = .ok (.isub, 1)) (k : gN ω κ nL Q (pc + 1) lv (.int (x - y) :: rest) ws nc ns) : gN ω κ nL Q (pc) lv (.int y :: .int x :: rest) ws nc ns := by
  obtain ⟨p, l, e, R, s, m, args, below, meth, c, A⟩ := κ
  intro H locs ls hP hD hS hl
  exact lv_isub hc.1 hc.2.1 hd (k H locs ls hP hD hS hl)
theorem n_iand (hc : gC ω κ cc nL own ret rm) {x y : Int32} (hd : decode cc pc = .ok (.iand, 1)) (k : gN ω κ nL Q (pc + 1) lv (.int (x &&& y) :: rest) ws nc ns) : gN ω κ nL Q (pc) lv (.int y :: .int x :: rest) ws nc ns := by
  obtain ⟨p, l, e, R, s, m, args, below, meth, c, A⟩ := κ
  intro H locs ls hP hD hS hl
  exact lv_iand hc.1 hc.2.1 hd (k H locs ls hP hD hS hl)
theorem n_iconst (hc : gC ω κ cc nL own ret rm) {n : Int} {v : Int32} (hd : decode cc pc = .ok (.iconst n, 1)) (hv : Int32.ofInt n = v) (k : gN ω κ nL Q (pc + 1) lv (.int v :: rest) ws nc ns) : gN ω κ nL Q (pc) lv (rest) ws nc ns := by
  obtain ⟨p, l, e, R, s, m, args, below, meth, c, A⟩ := κ
  intro H locs ls hP hD hS hl
  exact lv_iconst hc.1 hc.2.1 hd hv (k H locs ls hP hD hS hl)
theorem n_bipush (hc : gC ω κ cc nL own ret rm) {n : Int} {v : Int32} (hd : decode cc pc = .ok (.bipush n, 2)) (hv : (Int8.ofInt n).toInt32 = v) (k : gN ω κ nL Q (pc + 2) lv (.int v :: rest) ws nc ns) : gN ω κ nL Q (pc) lv (rest) ws nc ns := by
  obtain ⟨p, l, e, R, s, m, args, below, meth, c, A⟩ := κ
  intro H locs ls hP hD hS hl
  exact lv_bipush hc.1 hc.2.1 hd hv (k H locs ls hP hD hS hl)
theorem n_sipush (hc : gC ω κ cc nL own ret rm) {n : Int} {v : Int32} (hd : decode cc pc = .ok (.sipush n, 3)) (hv : (Int16.ofInt n).toInt32 = v) (k : gN ω κ nL Q (pc + 3) lv (.int v :: rest) ws nc ns) : gN ω κ nL Q (pc) lv (rest) ws nc ns := by
  obtain ⟨p, l, e, R, s, m, args, below, meth, c, A⟩ := κ
  intro H locs ls hP hD hS hl
  exact lv_sipush hc.1 hc.2.1 hd hv (k H locs ls hP hD hS hl)
theorem n_iload_n (hc : gC ω κ cc nL own ret rm) (j : Nat) {n : Fin 4} {i : Nat} {x : Int32} (hd : decode cc pc = .ok (.iload_n n, 1)) (hi : (n : Nat) = i) (hj : lv[j]? = some (i, .int x)) (k : gN ω κ nL Q (pc + 1) lv (.int x :: rest) ws nc ns) : gN ω κ nL Q (pc) lv (rest) ws nc ns := by
  obtain ⟨p, l, e, R, s, m, args, below, meth, c, A⟩ := κ
  intro H locs ls hP hD hS hl
  exact lv_iload_n hc.1 hc.2.1 hd hi (lv_at hl j hj) (k H locs ls hP hD hS hl)
theorem n_iload (hc : gC ω κ cc nL own ret rm) (j : Nat) {i : Nat} {x : Int32} (hd : decode cc pc = .ok (.iload i, 2)) (hj : lv[j]? = some (i, .int x)) (k : gN ω κ nL Q (pc + 2) lv (.int x :: rest) ws nc ns) : gN ω κ nL Q (pc) lv (rest) ws nc ns := by
  obtain ⟨p, l, e, R, s, m, args, below, meth, c, A⟩ := κ
  intro H locs ls hP hD hS hl
  exact lv_iload hc.1 hc.2.1 hd (lv_at hl j hj) (k H locs ls hP hD hS hl)
theorem n_aload_n (hc : gC ω κ cc nL own ret rm) (j : Nat) {n : Fin 4} {i : Nat} {x : Nat} (hd : decode cc pc = .ok (.aload_n n, 1)) (hi : (n : Nat) = i) (hj : lv[j]? = some (i, .ref x)) (k : gN ω κ nL Q (pc + 1) lv (.ref x :: rest) ws nc ns) : gN ω κ nL Q (pc) lv (rest) ws nc ns := by
  obtain ⟨p, l, e, R, s, m, args, below, meth, c, A⟩ := κ
  intro H locs ls hP hD hS hl
  exact lv_aload_n hc.1 hc.2.1 hd hi (lv_at hl j hj) (k H locs ls hP hD hS hl)
theorem n_aload (hc : gC ω κ cc nL own ret rm) (j : Nat) {i : Nat} {x : Nat} (hd : decode cc pc = .ok (.aload i, 2)) (hj : lv[j]? = some (i, .ref x)) (k : gN ω κ nL Q (pc + 2) lv (.ref x :: rest) ws nc ns) : gN ω κ nL Q (pc) lv (rest) ws nc ns := by
  obtain ⟨p, l, e, R, s, m, args, below, meth, c, A⟩ := κ
  intro H locs ls hP hD hS hl
  exact lv_aload hc.1 hc.2.1 hd (lv_at hl j hj) (k H locs ls hP hD hS hl)
theorem n_istore_n (hc : gC ω κ cc nL own ret rm) {n : Fin 4} {i : Nat} {x : Int32} {lv' : List (Nat × Value)} (hd : decode cc pc = .ok (.istore_n n, 1)) (hi : (n : Nat) = i) (hn : i < nL) (hf : (i, Value.int x) :: lv.filter (fun q => !(q.1 == i) && !(q.1 + 1 == i && q.2.category == 2)) = lv') (k : gN ω κ nL Q (pc + 1) lv' (rest) ws nc ns) : gN ω κ nL Q (pc) lv (.int x :: rest) ws nc ns := by
  obtain ⟨p, l, e, R, s, m, args, below, meth, c, A⟩ := κ
  intro H locs ls hP hD hS hl
  exact lv_istore_n hc.1 hc.2.1 hd hi hl hn hf (fun ls hl => k H locs ls hP hD hS hl)
theorem n_istore (hc : gC ω κ cc nL own ret rm) {i : Nat} {x : Int32} {lv' : List (Nat × Value)} (hd : decode cc pc = .ok (.istore i, 2)) (hn : i < nL) (hf : (i, Value.int x) :: lv.filter (fun q => !(q.1 == i) && !(q.1 + 1 == i && q.2.category == 2)) = lv') (k : gN ω κ nL Q (pc + 2) lv' (rest) ws nc ns) : gN ω κ nL Q (pc) lv (.int x :: rest) ws nc ns := by
  obtain ⟨p, l, e, R, s, m, args, below, meth, c, A⟩ := κ
  intro H locs ls hP hD hS hl
  exact lv_istore hc.1 hc.2.1 hd hl hn hf (fun ls hl => k H locs ls hP hD hS hl)
theorem n_iinc (hc : gC ω κ cc nL own ret rm) (j : Nat) {i : Nat} {n : Int} {x v : Int32} {lv' : List (Nat × Value)} (hd : decode cc pc = .ok (.iinc i n, 3)) (hj : lv[j]? = some (i, .int x)) (hv : Int32.ofInt n = v) (hn : i < nL) (hf : (i, Value.int (x + v)) :: lv.filter (fun q => !(q.1 == i) && !(q.1 + 1 == i && q.2.category == 2)) = lv') (k : gN ω κ nL Q (pc + 3) lv' (rest) ws nc ns) : gN ω κ nL Q (pc) lv (rest) ws nc ns := by
  obtain ⟨p, l, e, R, s, m, args, below, meth, c, A⟩ := κ
  intro H locs ls hP hD hS hl
  exact lv_iinc hc.1 hc.2.1 hd hl hj (by rw [hv]) hn hf (fun ls hl => k H locs ls hP hD hS hl)
theorem n_dup (hc : gC ω κ cc nL own ret rm) {va : Value} (hd : decode cc pc = .ok (.dup, 1)) (h1 : va.category = 1) (k : gN ω κ nL Q (pc + 1) lv (va :: va :: rest) ws nc ns) : gN ω κ nL Q (pc) lv (va :: rest) ws nc ns := by
  obtain ⟨p, l, e, R, s, m, args, below, meth, c, A⟩ := κ
  intro H locs ls hP hD hS hl
  exact lv_dup hc.1 hc.2.1 hd h1 (k H locs ls hP hD hS hl)
theorem n_pop (hc : gC ω κ cc nL own ret rm) {va : Value} (hd : decode cc pc = .ok (.pop, 1)) (h1 : va.category = 1) (k : gN ω κ nL Q (pc + 1) lv (rest) ws nc ns) : gN ω κ nL Q (pc) lv (va :: rest) ws nc ns := by
  obtain ⟨p, l, e, R, s, m, args, below, meth, c, A⟩ := κ
  intro H locs ls hP hD hS hl
  exact lv_pop hc.1 hc.2.1 hd h1 (k H locs ls hP hD hS hl)
theorem n_goto (hc : gC ω κ cc nL own ret rm) {off : Int} {tgt : Nat} (hd : decode cc pc = .ok (.goto off, 3)) (ht : (pc : Int) + off = (tgt : Int)) (k : gN ω κ nL Q (tgt) lv (rest) ws nc ns) : gN ω κ nL Q (pc) lv (rest) ws nc ns := by
  obtain ⟨p, l, e, R, s, m, args, below, meth, c, A⟩ := κ
  intro H locs ls hP hD hS hl
  exact lv_goto hc.1 hc.2.1 hd ht (k H locs ls hP hD hS hl)
theorem n_i2l (hc : gC ω κ cc nL own ret rm) {x : Int32} (hd : decode cc pc = .ok (.i2l, 1)) (k : gN ω κ nL Q (pc + 1) lv (.long x.toInt64 :: rest) ws nc ns) : gN ω κ nL Q (pc) lv (.int x :: rest) ws nc ns := by
  obtain ⟨p, l, e, R, s, m, args, below, meth, c, A⟩ := κ
  intro H locs ls hP hD hS hl
  exact lv_i2l hc.1 hc.2.1 hd rfl (k H locs ls hP hD hS hl)
theorem n_icmpne (hc : gC ω κ cc nL own ret rm) {x y : Int32} {off : Int} {tgt : Nat} (hd : decode cc pc = .ok (.if_icmp .ne off, 3)) (ht : (pc : Int) + off = (tgt : Int)) (kt : x = y → gN ω κ nL Q (pc + 3) lv (rest) ws nc ns) (kf : ¬ x = y → gN ω κ nL Q (tgt) lv (rest) ws nc ns) : gN ω κ nL Q (pc) lv (.int y :: .int x :: rest) ws nc ns := by
  obtain ⟨p, l, e, R, s, m, args, below, meth, c, A⟩ := κ
  intro H locs ls hP hD hS hl
  refine lv_icmp_ne hc.1 hc.2.1 hd ht (fun h => ?_) (fun h => ?_)
  · exact kf h H locs ls hP hD hS hl
  · exact kt h H locs ls hP hD hS hl
theorem n_ifeq (hc : gC ω κ cc nL own ret rm) {x : Int32} {off : Int} {tgt : Nat} (hd : decode cc pc = .ok (.ifCond .eq off, 3)) (ht : (pc : Int) + off = (tgt : Int)) (kt : x = 0 → gN ω κ nL Q (tgt) lv (rest) ws nc ns) (kf : ¬ x = 0 → gN ω κ nL Q (pc + 3) lv (rest) ws nc ns) : gN ω κ nL Q (pc) lv (.int x :: rest) ws nc ns := by
  obtain ⟨p, l, e, R, s, m, args, below, meth, c, A⟩ := κ
  intro H locs ls hP hD hS hl
  refine lv_if_eq hc.1 hc.2.1 hd ht (fun h => ?_) (fun h => ?_)
  · exact kt h H locs ls hP hD hS hl
  · exact kf h H locs ls hP hD hS hl
theorem n_ifne (hc : gC ω κ cc nL own ret rm) {x : Int32} {off : Int} {tgt : Nat} (hd : decode cc pc = .ok (.ifCond .ne off, 3)) (ht : (pc : Int) + off = (tgt : Int)) (kt : x = 0 → gN ω κ nL Q (pc + 3) lv (rest) ws nc ns) (kf : ¬ x = 0 → gN ω κ nL Q (tgt) lv (rest) ws nc ns) : gN ω κ nL Q (pc) lv (.int x :: rest) ws nc ns := by
  obtain ⟨p, l, e, R, s, m, args, below, meth, c, A⟩ := κ
  intro H locs ls hP hD hS hl
  refine lv_if_ne hc.1 hc.2.1 hd ht (fun h => ?_) (fun h => ?_)
  · exact kf h H locs ls hP hD hS hl
  · exact kt h H locs ls hP hD hS hl
theorem n_icmpeq (hc : gC ω κ cc nL own ret rm) {x y : Int32} {off : Int} {tgt : Nat} (hd : decode cc pc = .ok (.if_icmp .eq off, 3)) (ht : (pc : Int) + off = (tgt : Int)) (kt : x = y → gN ω κ nL Q (tgt) lv (rest) ws nc ns) (kf : ¬ x = y → gN ω κ nL Q (pc + 3) lv (rest) ws nc ns) : gN ω κ nL Q (pc) lv (.int y :: .int x :: rest) ws nc ns := by
  obtain ⟨p, l, e, R, s, m, args, below, meth, c, A⟩ := κ
  intro H locs ls hP hD hS hl
  refine lv_icmp_eq hc.1 hc.2.1 hd ht (fun h => ?_) (fun h => ?_)
  · exact kt h H locs ls hP hD hS hl
  · exact kf h H locs ls hP hD hS hl
theorem n_icmpgt (hc : gC ω κ cc nL own ret rm) {x y : Int32} {off : Int} {tgt : Nat} (hd : decode cc pc = .ok (.if_icmp .gt off, 3)) (ht : (pc : Int) + off = (tgt : Int)) (kt : y < x → gN ω κ nL Q (tgt) lv (rest) ws nc ns) (kf : ¬ y < x → gN ω κ nL Q (pc + 3) lv (rest) ws nc ns) : gN ω κ nL Q (pc) lv (.int y :: .int x :: rest) ws nc ns := by
  obtain ⟨p, l, e, R, s, m, args, below, meth, c, A⟩ := κ
  intro H locs ls hP hD hS hl
  refine lv_icmp_gt hc.1 hc.2.1 hd ht (fun h => ?_) (fun h => ?_)
  · exact kt h H locs ls hP hD hS hl
  · exact kf h H locs ls hP hD hS hl
theorem n_icmpge (hc : gC ω κ cc nL own ret rm) {x y : Int32} {off : Int} {tgt : Nat} (hd : decode cc pc = .ok (.if_icmp .ge off, 3)) (ht : (pc : Int) + off = (tgt : Int)) (kt : y ≤ x → gN ω κ nL Q (tgt) lv (rest) ws nc ns) (kf : ¬ y ≤ x → gN ω κ nL Q (pc + 3) lv (rest) ws nc ns) : gN ω κ nL Q (pc) lv (.int y :: .int x :: rest) ws nc ns := by
  obtain ⟨p, l, e, R, s, m, args, below, meth, c, A⟩ := κ
  intro H locs ls hP hD hS hl
  refine lv_icmp_ge hc.1 hc.2.1 hd ht (fun h => ?_) (fun h => ?_)
  · exact kt h H locs ls hP hD hS hl
  · exact kf h H locs ls hP hD hS hl
theorem n_astore_n (hc : gC ω κ cc nL own ret rm) {n : Fin 4} {i : Nat} {x : Nat} {lv' : List (Nat × Value)} (hd : decode cc pc = .ok (.astore_n n, 1)) (hi : (n : Nat) = i) (hn : i < nL) (hf : (i, Value.ref x) :: lv.filter (fun q => !(q.1 == i) && !(q.1 + 1 == i && q.2.category == 2)) = lv') (k : gN ω κ nL Q (pc + 1) lv' rest ws nc ns) : gN ω κ nL Q pc lv (.ref x :: rest) ws nc ns := by
  obtain ⟨p, l, e, R, s, m, args, below, meth, c, A⟩ := κ
  intro H locs ls hP hD hS hl
  exact lv_astore_n hc.1 hc.2.1 hd hi hl hn hf (fun ls hl => k H locs ls hP hD hS hl)
theorem n_get (hc : gC ω κ cc nL own ret rm) {ref C : String} {T : u_T} {N ci i a : Nat} {v : Value} {fs : List Value} (q0 k : Nat) (hin : ∀ w ∈ u_ws C T N, w ∈ WT) (hm : Cond.fieldLink own i ref (T k).2.1 (T k).2.2.1 ∈ WT) (hr : (T k).1 = ref ∨ Cond.sameField ref (T k).1 (T k).2.1 (T k).2.2.1 ∈ WT) (hk : k < N) (he : ws[q0]? = some (a, .inr (ci, fs))) (hcl : vwCl[ci]? = some (C, T, N)) (hv : fs[k]? = some v) (hd : decode cc pc = .ok (.getfield i, 3)) (kk : gN ω κ nL Q (pc + 3) lv (v :: rest) ws nc ns) : gN ω κ nL Q pc lv (.ref a :: rest) ws nc ns := by
  obtain ⟨p, l, e, R, s, m, args, below, meth, c, A⟩ := κ
  intro H locs ls hP hD hS hl
  have hsm : ∀ x, s.fieldFound? (T k).1 (T k).2.1 (T k).2.2.1 = some x → s.fieldFound? ref (T k).2.1 (T k).2.2.1 = some x := fun x hx => hr.elim (fun h => h ▸ hx) (fun h => u_same (hc.2.2.2.2.1 _ h) x hx)
  exact va_get hc.1 hc.2.1 hc.2.2.2.2.1 hin hc.2.2.2.1 hc.2.2.2.2.2.1 hP q0 he hcl k hk (hc.2.2.2.2.1 _ hm) hsm hv hd (kk H locs ls hP hD hS hl)
theorem n_put (hc : gC ω κ cc nL own ret rm) (hI : nIn κ) {ref C : String} {T : u_T} {N ci i a : Nat} {v : Value} {fs : List Value} {ty : FieldType} (q0 k : Nat) (ws' : va_W) (ty0 : Nat → FieldType) (hty : ∀ k, k < N → parseFieldDescriptor (T k).2.2.1 = some (ty0 k)) (hnm : ∀ a, a < N → ∀ b, b < N → a ≠ b → (T a).2.1 ≠ (T b).2.1) (hin : ∀ w ∈ u_ws C T N, w ∈ WT) (hm : Cond.fieldLink own i ref (T k).2.1 (T k).2.2.1 ∈ WT) (hr : (T k).1 = ref ∨ Cond.sameField ref (T k).1 (T k).2.1 (T k).2.2.1 ∈ WT) (hk : k < N) (he : ws[q0]? = some (a, .inr (ci, fs))) (hcl : vwCl[ci]? = some (C, T, N)) (hfin : (T k).2.2.2 = false ∨ ((T k).2.2.2 = true ∧ (T k).1 = own)) (hdd : parseFieldDescriptor (T k).2.2.1 = some ty) (hn : narrow ty v = v) (hfit : fits ty v = true) (hl' : k < fs.length) (hd : decode cc pc = .ok (.putfield i, 3)) (hw : ws.set q0 (a, .inr (ci, fs.set k v)) = ws') (kk : gN ω κ nL Q (pc + 3) lv rest ws' nc ns) : gN ω κ nL Q pc lv (v :: .ref a :: rest) ws nc ns := by
  obtain ⟨p, l, e, R, s, m, args, below, meth, c, A⟩ := κ
  intro H locs ls hP hD hS hl
  have hsm : ∀ x, s.fieldFound? (T k).1 (T k).2.1 (T k).2.2.1 = some x → s.fieldFound? ref (T k).2.1 (T k).2.2.1 = some x := fun x hx => hr.elim (fun h => h ▸ hx) (fun h => u_same (hc.2.2.2.2.1 _ h) x hx)
  subst hw
  rcases hfin with hf | ⟨hf, ho⟩
  · exact va_put hc.1 hc.2.1 hc.2.2.2.2.1 hin ty0 hty hnm hc.2.2.2.1 hc.2.2.2.2.2.1 hP hD hS q0 he hcl k hk (hc.2.2.2.2.1 _ hm) hsm hf hdd hn hfit hl' hd (fun H1 locs1 hP hD hS => kk H1 locs1 ls hP hD hS hl)
  · exact va_putF hc.1 hc.2.1 hc.2.2.2.2.1 hin ty0 hty hnm hc.2.2.2.1 hc.2.2.2.2.2.1 hP hD hS q0 he hcl k hk (hc.2.2.2.2.1 _ hm) hsm hf hI ho hdd hn hfit hl' hd (fun H1 locs1 hP hD hS => kk H1 locs1 ls hP hD hS hl)
theorem n_iast (hc : gC ω κ cc nL own ret rm) (q0 t0 : Nat) (ws' : va_W) {a : Nat} {cA : ClassId} {n : Nat} {f : Nat → Int32} {i x : Int32} (ha : ws[q0]? = some (a, .inl (cA, n, .inl f))) (ht : ω.2.2.1[t0]? = some (cA, .int)) (hin : vp_in i n) (hd : decode cc pc = .ok (.iastore, 1)) (hw : ws.set q0 (a, .inl (cA, n, .inl (upd f i.toNatClampNeg x))) = ws') (kk : gN ω κ nL Q (pc + 1) lv rest ws' nc ns) : gN ω κ nL Q pc lv (.int x :: .int i :: .ref a :: rest) ws nc ns := by
  obtain ⟨p, l, e, R, s, m, args, below, meth, c, A⟩ := κ
  intro H locs ls hP hD hS hl
  subst hw
  exact va_iast hc.1 hc.2.1 hc.2.2.2.2.2.1 hP hD hS q0 t0 ha ht hin hd (fun H1 locs1 hP hD hS => kk H1 locs1 ls hP hD hS hl)
theorem n_new (hc : gC ω κ cc nL own ret rm) {C : String} {T : u_T} {N ci i : Nat} {fs : List Value} (ty : Nat → FieldType) (hty : ∀ k, k < N → parseFieldDescriptor (T k).2.2.1 = some (ty k)) (hin : ∀ w ∈ u_ws C T N, w ∈ WT) (h1 : Cond.classLink own i C ∈ WT) (h2 : Cond.instantiable C N ∈ WT) (h3 : Cond.initialized C ∈ WT) (hcl : vwCl[ci]? = some (C, T, N)) (hfs : ∀ j, j < N → defaultValue (ty j) = vp_V fs j) (hr : nc + 1 ≤ rm.cells ∧ ns + N ≤ rm.slots) (hd : decode cc pc = .ok (.new i, 3)) (kk : ∀ q : Nat, gN ω κ nL Q (pc + 3) lv (.ref q :: rest) (ws ++ [(q, .inr (ci, fs))]) (nc + 1) (ns + N)) : gN ω κ nL Q pc lv rest ws nc ns := by
  obtain ⟨p, l, e, R, s, m, args, below, meth, c, A⟩ := κ
  intro H locs ls hP hD hS hl
  obtain ⟨hx, hb, hml, hown, hts, hK, hA, hret, hlk, rfl, hZ, hz⟩ := hc
  exact va_new hx hb hts hin ty hty hown (hts _ h1) (hts _ h2) (hts _ h3) hK hP hD hS hA hcl hfs hr.1 hr.2 hd (fun q H1 hP hD hS => kk q H1 locs ls hP hD hS hl)
theorem ra_eq {U : State} {a b : ClassId} {ty : FieldType} (h1 : va_RA U a ty) (h2 : va_RA U b ty) : a = b := by
  cases ty with
  | object C =>
    obtain ⟨_, _, _, _, _, e1⟩ := h1
    obtain ⟨_, _, _, _, _, e2⟩ := h2
    exact Option.some.inj (e1.symm.trans e2)
  | _ => exact Option.some.inj (Eq.trans (Eq.symm h1) h2)
theorem n_newa (hc : gC ω κ cc nL own ret rm) {atype : ArrayType} {ty : FieldType} (t0 : Nat) {iA : ClassId} {n : Int32} {N : Nat} (a0 : vp_A) (h1 : Cond.arrayClass (newarray.typeOf atype) ∈ WT) (hty : newarray.typeOf atype = ty) (ht : ω.2.2.1[t0]? = some (iA, ty)) (ha : ∀ cA : ClassId, vp_cell cA a0 = arrV cA N (fun _ => defaultValue ty)) (hn : ¬ n < 0) (hN : n.toNatClampNeg = N) (hby : N * componentBytes ty ≤ 536870912) (hr : nc + 1 ≤ rm.cells ∧ ns + N ≤ rm.slots) (hd : decode cc pc = .ok (.newarray atype, 2)) (kk : ∀ q : Nat, gN ω κ nL Q (pc + 2) lv (.ref q :: rest) (ws ++ [(q, .inl (iA, a0))]) (nc + 1) (ns + N)) : gN ω κ nL Q pc lv (.int n :: rest) ws nc ns := by
  obtain ⟨p, l, e, R, s, m, args, below, meth, c, A⟩ := κ
  intro H locs ls hP hD hS hl
  obtain ⟨hx, hb, hml, hown, hts, hK, hA, hret, hlk, rfl, hZ, hz⟩ := hc
  refine va_newa hx hb (hts _ h1) hty hK hP hD hS hA ha hn hN hby hr.1 hr.2 hd (fun q cA H1 hK1 hP hD hS => ?_)
  have e : cA = iA := ra_eq (hK1.2 ω.2.2.1.length (cA, ty) (by rw [List.getElem?_append_right (Nat.le_refl _), Nat.sub_self]; rfl)).2 (hK.2 t0 (iA, ty) ht).2
  subst e
  exact kk q H1 locs ls hP hD hS hl
theorem n_objInit (hc : gC ω κ cc nL own ret rm) {i a : Nat} (h1 : Cond.methodLink own i objectInit ∈ WT) (h2 : Cond.instanceMethod objectInit ∈ WT) (h3 : Cond.code objectInit ⟨#[0xb1]⟩ 1 none ∈ WT) (hr : 1 ≤ rm.frames ∧ (rest.map fun v => v.category).sum + 12 ≤ rm.locals) (hd : decode cc pc = .ok (.invokespecial i, 3)) (kk : gN ω κ nL Q (pc + 3) lv rest ws nc ns) : gN ω κ nL Q pc lv (.ref a :: rest) ws nc ns := by
  obtain ⟨p, l, e, R, s, m, args, below, meth, c, A⟩ := κ
  intro H locs ls hP hD hS hl
  obtain ⟨hx, hb, hml, hown, hts, hK, hA, hret, hlk, rfl, hZ, hz⟩ := hc
  refine W.objInit hx hb hown (hts _ h1) (hts _ h2) (hts _ h3) rfl (by rw [hml]; exact hl.1) rfl hd hr.1 (by simpa [JFrame.monitorRoom] using hr.2) ?_
  exact kk H locs ls hP hD hS hl
theorem n_vret {post : (Nat → Nat) → Prop} {wf : (Nat → Nat) → va_W} (u : Nat → Nat) (hc : gC ω κ cc nL own none rm) (hu : post u) (hw : ws = wf u) (hd : decode cc pc = .ok (.return_, 1)) : gN ω κ nL (nK κ (nQ ω post wf) nc ns) pc lv [] ws nc ns := by
  obtain ⟨p, l, e, R, s, m, args, below, meth, c, A⟩ := κ
  intro H locs ls hP hD hS hl
  subst hw
  exact W.vret hc.1 hc.2.1 hc.2.2.2.2.2.2.2.1 (fun t ht hW => ⟨⟨u, rfl, hu, by rw [ht]; exact hP, va_K.moved hW.alike hc.2.2.2.2.2.1, hD⟩, hS.F ht⟩) hS.2.2 hd hc.2.2.2.2.2.2.2.2.1
theorem n_back {w1 w2 : va_W} {mc ms : Nat} {st : List Value} {Bv : Option Value → va_W → Prop} {Qa : State → Outcome → State → Prop} {p : Program} {l : Launch} {e : Env} {R : Room} {s : State} {m : MethodId} {args : Array Value} {below : List Frame} {meth : Method} {c : Code} {A : Nat → Prop} {H : Heap} {locs : List Loc} {ls : Array Slot}
    (hA : ∀ q, s.heap.size ≤ q → A q) (hP : va_P ω.2.1 vwCl (w1 ++ w2) H) (hD : va_D A (w1 ++ w2)) (hS : va_S A s.heap H locs) (hl : lv_has ls nL lv)
    (run : va_Run p l e R s m args below meth c H locs nc ns mc ms (F0 m pc ls st) rest Qa (va_A w1 H.size))
    (hQ : ∀ (st₀ t : State) (v : Option Value), st₀.heap = H → Qa st₀ (.returned v) t → ∃ w3, Bv v w3 ∧ va_P ω.2.1 vwCl w3 t.heap ∧ va_D (va_A w1 H.size) w3 ∧ va_F (va_A w1 H.size) st₀ t)
    (kk : ∀ (v : Option Value) (w3 : va_W), Bv v w3 → gN ω (p, l, e, R, s, m, args, below, meth, c, A) nL Q (pc + 3) lv (v.toList ++ rest) (w3 ++ w2) (nc + mc) (ns + ms)) : W p l e R s m args below meth c H locs nc ns Q (F0 m pc ls st) := by
  intro T hT Y
  obtain ⟨v, st₀, t, T', L, h0, X', hL, e1, e2, hQa, stp⟩ := run T hT Y
  obtain ⟨w3, hB, hP1, hD1, hz, hk⟩ := hQ st₀ t v h0 hQa
  have hF : ∀ q, va_A w1 H.size q → A q := fun q h => h.elim (fun ⟨k, e, hk⟩ => (d_iff.mp hD).2 (q, e) (List.mem_append_left _ (List.mem_of_getElem? hk))) (fun h => hA q (Nat.le_trans hS.1 h))
  rw [h0] at hz hk
  obtain ⟨hP2, hD2⟩ := h_join hP hD hk hF hP1 hD1
  obtain ⟨t2, a1, b1⟩ := kk v w3 hB T'.heap (locs ++ L) ls (by rw [e1]; exact hP2) hD2
    ⟨Nat.le_trans hS.1 (by rw [e1]; exact hz), fun q h1 h2 => by rw [e1, hk q (Nat.lt_of_lt_of_le h1 hS.1) (fun z => h2 (hF q z))]; exact hS.2.1 q h1 h2, fun q hq => by
      rcases List.mem_append.mp hq with h | h
      · exact hS.2.2 q h
      · exact hF _ (hL q h)⟩ hl T' rfl X'
  exact ⟨t2, stp t2 a1, b1⟩
theorem p_left {D : va_G} {cl : List vw_C} {w1 w2 : va_W} {H : Heap} (h : va_P D cl (w1 ++ w2) H) : va_P D cl w1 H := w_iff.mpr (fun q hq => w_iff.mp h q (List.mem_append_left _ hq))
theorem d_left {A : Nat → Prop} {w1 w2 : va_W} (h : va_D A (w1 ++ w2)) : va_D A w1 := d_iff.mpr ⟨(List.pairwise_append.mp (d_iff.mp h).1).1, fun q hq => (d_iff.mp h).2 q (List.mem_append_left _ hq)⟩
/-- a constructor is called on the cells w1 -/
theorem n_callI (hc : gC ω κ cc nL own ret rm) {y : MethodName} {rmy : Room} {by_ : ByteArray} {mL i b na : Nat} {st : List Value} {w1 w2 : va_W} {post : (Nat → Nat) → Prop} {wf : (Nat → Nat) → va_W} (As : List Value) (hM : ∀ l, nMet l y by_ mL rmy ω (.ref b :: As) w1 post wf) (h1 : Cond.methodLink own i y ∈ WT) (h2 : Cond.instanceMethod y ∈ WT) (h3 : Cond.initialized y.cls ∈ WT) (h4 : Cond.code y by_ mL none ∈ WT) (hy : y.name = "<init>") (hg : y.cls ≠ "java/lang/invoke/MethodHandle" ∧ y.cls ≠ "java/lang/invoke/VarHandle" ∧ (parseMethodDescriptor y.desc).map (fun d => d.parameters.length) = some na) (hn : As.length = na)
    (hR : rmy.frames + 1 ≤ rm.frames ∧ 8 + (mL + 11) + rmy.locals ≤ rm.locals) (hr : nc + rmy.cells ≤ rm.cells ∧ ns + rmy.slots ≤ rm.slots) (hst : st = As.reverse ++ .ref b :: rest) (hcat : (rest.map fun v => v.category).sum ≤ 8) (hd : decode cc pc = .ok (.invokespecial i, 3))
    (kk : ∀ u : Nat → Nat, post u → gN ω κ nL Q (pc + 3) lv rest (wf u ++ w2) (nc + rmy.cells) (ns + rmy.slots)) : gN ω κ nL Q pc lv st (w1 ++ w2) nc ns := by
  obtain ⟨p, l, e, R, s, m, args, below, meth, c, A⟩ := κ
  intro H locs ls hP hD hS hl
  obtain ⟨hx, hb, hml, hown, hts, hK, hA, hret, hlk, rfl, hZ, hz⟩ := hc
  have hP1 := p_left hP
  have hD1 := d_left hD
  have hF : ∀ q, va_A w1 H.size q → A q := fun q h => h.elim (fun ⟨k, e, hk⟩ => hD1.2 k (q, e) hk) (fun h => hA q (Nat.le_trans hS.1 h))
  have hp : PreS s H (va_Pc (.ref b :: As) (nPre ω w1 H.size)) (.ref b :: As) := by
    refine ⟨fun a U g mk q => ?_, fun U hU hW => ⟨rfl, by rw [hU], by rw [hU]; exact hP1, va_K.moved hW.alike hK, ⟨hD1.1, fun _ _ _ => trivial⟩, ?_⟩⟩
    · obtain ⟨q0, q1, qP, qK, qD, qZ⟩ := q
      exact ⟨q0, q1, qP, va_K.moved (u := U) (U := U.calling g mk a) (Vm.Alike.refl U.vm) qK, qD, hz.1 _ U (U.calling g mk a) _ (State.WarmedH.refl U) qZ⟩
    · rw [hU]
      exact hz.2.2 A _ U H hF (hz.1 A s U H hW (hz.2.1 A s s.heap H hS.2.1 hZ))
  have hgood : GoodIn WT (Cond.code y by_ mL none :: WT) := fun w h => wt_g w ((List.mem_cons.mp h).elim (fun e => e ▸ h4) id)
  refine n_back (Bv := fun v w3 => v = none ∧ ∃ u, post u ∧ w3 = wf u) hA hP hD hS hl (va_runI (As := As) (rest := rest) ⟨hx, hb, hml, hown, hts⟩ (hM l H.size) (cwI na hts hgood rfl rfl rfl (hts _ h3) (hts _ h1) (hts _ h2) hy hg hR) hp rfl hn hl.1 hst (by simpa [JFrame.monitorRoom] using hcat) hd hr) ?_ ?_
  · rintro st₀ t v h0 ⟨⟨u, hv, hu, hP2, -, hD2⟩, hF2⟩
    cases hv
    exact ⟨wf u, ⟨rfl, u, hu, rfl⟩, hP2, hD2, hF2⟩
  · rintro v w3 ⟨rfl, u, hu, rfl⟩
    exact kk u hu
/-- a method with a contract over the world ω' of some of the cells is called -/
theorem n_callV (hc : gC ω κ cc nL own ret rm) {ω' : gO} (hG : ω'.2.1 = ω.2.1) (hK' : ∀ U, va_K ω.2.1 vwCl ω.2.2.1 U → va_K ω.2.1 vwCl ω'.2.2.1 U) (hZ' : ∀ A U H, ω.2.2.2 A U H → ω'.2.2.2 A U H) (hz' : gZok ω'.2.2.2) (q0 : Nat) {y : MethodName} {rmy : Room} {by_ : ByteArray} {mL i b ci na : Nat} {rety : Option FieldType} {C : String} {T : u_T} {N : Nat} {fs st : List Value} {w2 : va_W} {S S2 : gSt} {v : Option Value} (As : List Value) (hM : ∀ l, gMet l y by_ mL rety rmy ω' (.ref b :: As) S v S2) (h1 : Cond.methodLink own i y ∈ WT) (hg : g_callee C y by_ mL rety na) (hn : As.length = na) (hr0 : rmy.cells = 0 ∧ rmy.slots = 0)
    (hR : rmy.frames + 1 ≤ rm.frames ∧ 8 + (mL + 11) + rmy.locals ≤ rm.locals) (hr : nc ≤ rm.cells ∧ ns ≤ rm.slots) (he : (ω'.1 S)[q0]? = some (b, .inr (ci, fs))) (hcl : vwCl[ci]? = some (C, T, N)) (hst : st = As.reverse ++ .ref b :: rest) (hcat : (rest.map fun v => v.category).sum ≤ 8) (hd : decode cc pc = .ok (.invokevirtual i, 3))
    (kk : gN ω κ nL Q (pc + 3) lv (v.toList ++ rest) (ω'.1 S2 ++ w2) nc ns) : gN ω κ nL Q pc lv st (ω'.1 S ++ w2) nc ns := by
  obtain ⟨p, l, e, R, s, m, args, below, meth, c, A⟩ := κ
  intro H locs ls hP hD hS hl
  obtain ⟨hx, hb, hml, hown, hts, hK, hA, hret, hlk, rfl, hZ, hz⟩ := hc
  have hP1 := p_left hP
  have hD1 := d_left hD
  obtain ⟨hb1, hp1⟩ := g_pre (ω := ω') (av := .ref b :: As) hz' (by rw [hG]; exact hK' s hK) hA (hZ' _ _ _ hZ) (by rw [hG]; exact hP1) hD1 hS
  refine n_back (mc := 0) (ms := 0) (Bv := fun v' w3 => v' = v ∧ w3 = ω'.1 S2) hA hP hD hS hl (va_runV (As := As) (rest := rest) ⟨hx, hb, hml, hown, hts⟩ (hM l H.size) (cwV na hts (g_inV h1 hg) rfl hr0.1 hr0.2 hg.1 hR) ⟨hb1, va_recv hK hP1 hcl he, hp1⟩ rfl hn hl.1 hst (by simpa [JFrame.monitorRoom] using hcat) hd hr) ?_ ?_
  · rintro st₀ t v' h0 ⟨⟨hv, hP2, -, hD2⟩, hF2⟩
    cases hv
    exact ⟨ω'.1 S2, ⟨rfl, rfl⟩, by rw [← hG]; exact hP2, hD2, hF2⟩
  · rintro v' w3 ⟨rfl, rfl⟩
    exact kk
end NR
end GN
