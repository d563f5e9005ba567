/-! walks over a pure state: gG pc locals stack S X : from here, with the world of S, the method returns X (an answer and a state) -/
section GF
abbrev gSt : Type := (Nat → Int32) × (Nat → Bool) × (Nat → Int64) × (Nat → Nat → Int32)
def bI (b : Bool) : Int32 := match b with
  | true => 1
  | false => 0
def sI (S : gSt) (k : Nat) (v : Int32) : gSt := (upd S.1 k v, S.2.1, S.2.2.1, S.2.2.2)
def sZ (S : gSt) (k : Nat) (v : Bool) : gSt := (S.1, va_up S.2.1 k v, S.2.2.1, S.2.2.2)
def sJ (S : gSt) (k : Nat) (v : Int64) : gSt := (S.1, S.2.1, va_up S.2.2.1 k v, S.2.2.2)
def aG (S : gSt) (k : Nat) (i : Int32) : Int32 := S.2.2.2 k i.toNatClampNeg
def aP (S : gSt) (k : Nat) (i : Int32) (v : Int32) : gSt := (S.1, S.2.1, S.2.2.1, va_up S.2.2.2 k (upd (S.2.2.2 k) i.toNatClampNeg v))
/-- a world for each state; the tables' numbers; the arrays' classes; what stands beside it and never changes -/
abbrev gO : Type := (gSt → va_W) × va_G × List (ClassId × FieldType) × ((Nat → Prop) → State → Heap → Prop)
abbrev gK : Type := Program × Launch × Env × Room × State × MethodId × Array Value × List Frame × Method × Code × (Nat → Prop)
def gZok (Z : (Nat → Prop) → State → Heap → Prop) : Prop := (∀ (A : Nat → Prop) (u U : State) (H : Heap), u.WarmedH U.vm → Z A u H → Z A U H) ∧ (∀ (A : Nat → Prop) (U : State) (H H1 : Heap), (∀ a : Nat, a < H.size → ¬ A a → H1[a]? = H[a]?) → Z A U H → Z A U H1) ∧ ∀ (A B : Nat → Prop) (U : State) (H : Heap), (∀ q, B q → A q) → Z A U H → Z B U H
def gQ (ω : gO) (v : Option Value) (S : gSt) (A : Nat → Prop) : Array Value → State → Outcome → State → Prop := fun _ st oc t => (oc = .returned v ∧ va_P ω.2.1 vwCl (ω.1 S) t.heap ∧ va_K ω.2.1 vwCl ω.2.2.1 t ∧ va_D A (ω.1 S)) ∧ va_F A st t
def gPre (ω : gO) (S : gSt) (sz : Nat) : State → Prop := fun U => U.heap.size = sz ∧ va_P ω.2.1 vwCl (ω.1 S) U.heap ∧ va_K ω.2.1 vwCl ω.2.2.1 U ∧ va_D (fun _ => True) (ω.1 S) ∧ ω.2.2.2 (va_A (ω.1 S) sz) U U.heap
/-- a method's contract: from the state S it answers v and leaves the state S2 -/
def gMet (l : Launch) (y : MethodName) (cc : ByteArray) (nL : Nat) (ret : Option FieldType) (rm : Room) (ω : gO) (av : List Value) (S : gSt) (v : Option Value) (S2 : gSt) : Prop :=
  ∀ sz : Nat, Met l y (Cond.code y cc nL ret :: WT) rm (va_Pc av (gPre ω S sz)) (gQ ω v S2 (va_A (ω.1 S) sz)) 0 0 (va_A (ω.1 S) sz)
def gG {ρ : Type} (ω : gO) (κ : gK) (nL : Nat) (out : ρ → Option Value) (pc : Nat) (lv : List (Nat × Value)) (st : List Value) (S : gSt) (X : ρ × gSt) : Prop :=
  match κ with
  | (p, l, e, R, s, m, args, below, meth, c, A) => ∀ (H : Heap) (locs : List Loc) (ls : Array Slot), va_P ω.2.1 vwCl (ω.1 S) H → va_D A (ω.1 S) → va_S A s.heap H locs → lv_has ls nL lv →
      W p l e R s m args below meth c H locs 0 0 (MQ below (gQ ω (out X.1) X.2 A) args s 0 0 A) (F0 m pc ls st)
def gC (ω : gO) (κ : gK) (cc : ByteArray) (nL : Nat) (own : String) (ret : Option FieldType) (rm : Room) : Prop :=
  match κ with
  | (p, _, _, R, s, m, args, _, meth, c, A) => p.tables.exec = Jvm.exec ∧ c.code = cc ∧ c.maxLocals = nL ∧ s.vm.findClass own = some m.cls ∧ (∀ w ∈ WT, w.before args s = true) ∧ va_K ω.2.1 vwCl ω.2.2.1 s ∧ (∀ q, s.heap.size ≤ q → A q) ∧ meth.sig.returnType = ret ∧ meth.locks = false ∧ R = rm ∧ ω.2.2.2 A s s.heap ∧ gZok ω.2.2.2
def gL {α β : Type} (a : α) (f : α → β) : β := f a
def gB {α β : Type} (q : α × gSt) (f : α → gSt → β) : β := f q.1 q.2
def oI : Int32 → Option Value := fun r => some (.int r)
def oZ : Bool → Option Value := fun b => some (.int (bI b))
def oV : Unit → Option Value := fun _ => none
def g_callee (C : String) (y : MethodName) (b : ByteArray) (n : Nat) (r : Option FieldType) (na : Nat) : Prop := (y.cls = C ∧ y.cls ≠ "java/lang/invoke/MethodHandle" ∧ y.cls ≠ "java/lang/invoke/VarHandle" ∧ (parseMethodDescriptor y.desc).map (fun d => d.parameters.length) = some na) ∧ Cond.instanceMethod y ∈ WT ∧ Cond.selects C y y ∈ WT ∧ Cond.initialized C ∈ WT ∧ Cond.code y b n r ∈ WT
def g_calleeU (owner : String) (x y : MethodName) (b : ByteArray) (n : Nat) (r : Option FieldType) (na : Nat) : Prop := (owner ≠ "java/lang/invoke/MethodHandle" ∧ owner ≠ "java/lang/invoke/VarHandle" ∧ (parseMethodDescriptor x.desc).map (fun d => d.parameters.length) = some na) ∧ Cond.instanceMethod y ∈ WT ∧ Cond.initialized y.cls ∈ WT ∧ Cond.code y b n r ∈ WT
def g_calleeS (own : String) (y : MethodName) (b : ByteArray) (n : Nat) (r : Option FieldType) (na : Nat) : Prop := (y.cls = own ∧ y.cls ≠ "java/lang/invoke/MethodHandle" ∧ y.cls ≠ "java/lang/invoke/VarHandle" ∧ (parseMethodDescriptor y.desc).map (fun d => d.parameters.length) = some na) ∧ Cond.static y ∈ WT ∧ Cond.initialized own ∈ WT ∧ Cond.code y b n r ∈ WT
theorem g_inl {a : List Cond} {w : Cond} (ha : ∀ w ∈ a, w ∈ WT) (hw : w ∈ WT) : GoodIn WT (a ++ w :: WT) := fun v h => wt_g v ((List.mem_append.mp h).elim (ha v) (fun h => (List.mem_cons.mp h).elim (fun e => e ▸ hw) id))
theorem g_inV {own C : String} {i n na : Nat} {y : MethodName} {b : ByteArray} {r : Option FieldType} (h1 : Cond.methodLink own i y ∈ WT) (hg : g_callee C y b n r na) : GoodIn WT (wsV own i C y (Cond.code y b n r :: WT)) := g_inl (fun w h => by
  simp only [List.mem_cons, List.not_mem_nil, or_false] at h
  rcases h with rfl | rfl | rfl | rfl
  · exact h1
  · exact hg.2.1
  · exact hg.2.2.1
  · exact hg.2.2.2.1) hg.2.2.2.2
theorem g_inS {own : String} {i n na : Nat} {y : MethodName} {b : ByteArray} {r : Option FieldType} (h1 : Cond.methodLink own i y ∈ WT) (hg : g_calleeS own y b n r na) : GoodIn WT (wsS own i y (Cond.code y b n r :: WT)) := g_inl (fun w h => by
  simp only [List.mem_cons, List.not_mem_nil, or_false] at h
  rcases h with rfl | rfl | rfl
  · exact h1
  · exact hg.2.1
  · exact hg.2.2.1) hg.2.2.2
theorem g_inU {own C owner : String} {i n na : Nat} {x y : MethodName} {b : ByteArray} {r : Option FieldType} (h1 : Cond.methodLink own i x ∈ WT) (h2 : Cond.sameMethod x.cls owner x.name x.desc ∈ WT) (h3 : Cond.selects C x y ∈ WT) (hg : g_calleeU owner x y b n r na) : GoodIn WT (va_wsU own i C owner x y (Cond.code y b n r :: WT)) := g_inl (fun w h => by
  simp only [List.mem_cons, List.not_mem_nil, or_false] at h
  rcases h with rfl | rfl | rfl | rfl | rfl
  · exact h1
  · exact h2
  · exact h3
  · exact hg.2.1
  · exact hg.2.2.1) hg.2.2.2
theorem bI_nar (b : Bool) : narrow .boolean (.int (bI b)) = .int (bI b) := by cases b <;> rfl
theorem gMet_of {ρ : Type} {l : Launch} {y : MethodName} {rm : Room} {ω : gO} {cc : ByteArray} {nL : Nat} {ret : Option FieldType} {av : List Value} {lv : List (Nat × Value)} {S : gSt} (out : ρ → Option Value) {X : ρ × gSt} (hz : gZok ω.2.2.2)
    (hy : plainName y.cls = true) (hlen : (lg_sl av).length ≤ nL) (hlv : lv_args 0 av = lv)
    (body : ∀ κ : gK, gC ω κ cc nL y.cls ret rm → gG ω κ nL out 0 lv [] S X) : gMet l y cc nL ret rm ω av S (out X.1) X.2 := by
  intro sz
  refine Met.ofW (cc := cc) (maxL := nL) (ret := ret) (ws' := WT) hy rfl ?_
  intro p e s m args below meth c s₁ B hml hv
  obtain ⟨rfl, hsz, hP, hK, hD0, hZ⟩ := hv
  have hts := fun w h => atoms_spec (ws := Cond.code y cc nL ret :: WT) B.pre w (List.mem_cons_of_mem _ h)
  have hown : s.vm.findClass y.cls = some m.cls := findClass_of_methodNamed B.named
  subst hsz
  have hD := hD0.self (sz := s.heap.size)
  have hl := lv_entry av (n := nL) hlen
  rw [lg_entry_eq]
  rw [hlv] at hl
  exact body (p, l, e, (headSpec (Cond.code y cc nL ret :: WT) rm).room, s, m, av.toArray, below, meth, c, va_A (ω.1 S) s.heap.size) ⟨B.exec, B.bytes, hml, hown, hts, hK, fun q h => Or.inr h, B.returns, B.notSynchronized, rfl, hZ, hz⟩ s.heap [] _ hP hD va_S.rf hl
section GR
variable {ρ : Type} {ω : gO} {κ : gK} {cc : ByteArray} {nL : Nat} {own : String} {ret : Option FieldType} {rm : Room} {out : ρ → Option Value} {pc : Nat} {lv : List (Nat × Value)} {rest : List Value} {S : gSt} {X : ρ × gSt}
theorem g_iadd (hc : gC ω κ cc nL own ret rm) {x y : Int32} (hd : decode cc pc = .ok (.iadd, 1)) (k : gG ω κ nL out (pc + 1) lv (.int (x + y) :: rest) S X) : gG ω κ nL out (pc) lv (.int y :: .int x :: rest) S X := by
  obtain ⟨p, l, e, R, s, m, args, below, meth, c, A⟩ := κ
  intro H locs ls hP hD hS hl
  exact lv_iadd hc.1 hc.2.1 hd (k H locs ls hP hD hS hl)
theorem g_isub (hc : gC ω κ cc nL own ret rm) {x y : Int32} (hd : decode cc pc = .ok (.isub, 1)) (k : gG ω κ nL out (pc + 1) lv (.int (x - y) :: rest) S X) : gG ω κ nL out (pc) lv (.int y :: .int x :: rest) S X := by
  obtain ⟨p, l, e, R, s, m, args, below, meth, c, A⟩ := κ
  intro H locs ls hP hD hS hl
  exact lv_isub hc.1 hc.2.1 hd (k H locs ls hP hD hS hl)
theorem g_imul (hc : gC ω κ cc nL own ret rm) {x y : Int32} (hd : decode cc pc = .ok (.imul, 1)) (k : gG ω κ nL out (pc + 1) lv (.int (x * y) :: rest) S X) : gG ω κ nL out (pc) lv (.int y :: .int x :: rest) S X := by
  obtain ⟨p, l, e, R, s, m, args, below, meth, c, A⟩ := κ
  intro H locs ls hP hD hS hl
  exact lv_imul hc.1 hc.2.1 hd (k H locs ls hP hD hS hl)
theorem g_iand (hc : gC ω κ cc nL own ret rm) {x y : Int32} (hd : decode cc pc = .ok (.iand, 1)) (k : gG ω κ nL out (pc + 1) lv (.int (x &&& y) :: rest) S X) : gG ω κ nL out (pc) lv (.int y :: .int x :: rest) S X := by
  obtain ⟨p, l, e, R, s, m, args, below, meth, c, A⟩ := κ
  intro H locs ls hP hD hS hl
  exact lv_iand hc.1 hc.2.1 hd (k H locs ls hP hD hS hl)
theorem g_ior (hc : gC ω κ cc nL own ret rm) {x y : Int32} (hd : decode cc pc = .ok (.ior, 1)) (k : gG ω κ nL out (pc + 1) lv (.int (x ||| y) :: rest) S X) : gG ω κ nL out (pc) lv (.int y :: .int x :: rest) S X := by
  obtain ⟨p, l, e, R, s, m, args, below, meth, c, A⟩ := κ
  intro H locs ls hP hD hS hl
  exact lv_ior hc.1 hc.2.1 hd (k H locs ls hP hD hS hl)
theorem g_ixor (hc : gC ω κ cc nL own ret rm) {x y : Int32} (hd : decode cc pc = .ok (.ixor, 1)) (k : gG ω κ nL out (pc + 1) lv (.int (x ^^^ y) :: rest) S X) : gG ω κ nL out (pc) lv (.int y :: .int x :: rest) S X := by
  obtain ⟨p, l, e, R, s, m, args, below, meth, c, A⟩ := κ
  intro H locs ls hP hD hS hl
  exact lv_ixor hc.1 hc.2.1 hd (k H locs ls hP hD hS hl)
theorem g_ishl (hc : gC ω κ cc nL own ret rm) {x y : Int32} (hd : decode cc pc = .ok (.ishl, 1)) (k : gG ω κ nL out (pc + 1) lv (.int (x <<< (y &&& 31)) :: rest) S X) : gG ω κ nL out (pc) lv (.int y :: .int x :: rest) S X := by
  obtain ⟨p, l, e, R, s, m, args, below, meth, c, A⟩ := κ
  intro H locs ls hP hD hS hl
  exact lv_ishl hc.1 hc.2.1 hd (k H locs ls hP hD hS hl)
theorem g_ishr (hc : gC ω κ cc nL own ret rm) {x y : Int32} (hd : decode cc pc = .ok (.ishr, 1)) (k : gG ω κ nL out (pc + 1) lv (.int (x >>> (y &&& 31)) :: rest) S X) : gG ω κ nL out (pc) lv (.int y :: .int x :: rest) S X := by
  obtain ⟨p, l, e, R, s, m, args, below, meth, c, A⟩ := κ
  intro H locs ls hP hD hS hl
  exact lv_ishr hc.1 hc.2.1 hd (k H locs ls hP hD hS hl)
theorem g_idiv (hc : gC ω κ cc nL own ret rm) {x y : Int32} (hd : decode cc pc = .ok (.idiv, 1)) (hn : ¬ y = 0) (k : gG ω κ nL out (pc + 1) lv (.int (x / y) :: rest) S X) : gG ω κ nL out (pc) lv (.int y :: .int x :: rest) S X := by
  obtain ⟨p, l, e, R, s, m, args, below, meth, c, A⟩ := κ
  intro H locs ls hP hD hS hl
  exact lv_idiv hc.1 hc.2.1 hd hn (k H locs ls hP hD hS hl)
theorem g_ladd (hc : gC ω κ cc nL own ret rm) {x y : Int64} (hd : decode cc pc = .ok (.ladd, 1)) (k : gG ω κ nL out (pc + 1) lv (.long (x + y) :: rest) S X) : gG ω κ nL out (pc) lv (.long y :: .long x :: rest) S X := by
  obtain ⟨p, l, e, R, s, m, args, below, meth, c, A⟩ := κ
  intro H locs ls hP hD hS hl
  exact lv_ladd hc.1 hc.2.1 hd (k H locs ls hP hD hS hl)
theorem g_land (hc : gC ω κ cc nL own ret rm) {x y : Int64} (hd : decode cc pc = .ok (.land, 1)) (k : gG ω κ nL out (pc + 1) lv (.long (x &&& y) :: rest) S X) : gG ω κ nL out (pc) lv (.long y :: .long x :: rest) S X := by
  obtain ⟨p, l, e, R, s, m, args, below, meth, c, A⟩ := κ
  intro H locs ls hP hD hS hl
  exact lv_land hc.1 hc.2.1 hd (k H locs ls hP hD hS hl)
theorem g_ineg (hc : gC ω κ cc nL own ret rm) {x : Int32} (hd : decode cc pc = .ok (.ineg, 1)) (k : gG ω κ nL out (pc + 1) lv (.int (-x) :: rest) S X) : gG ω κ nL out (pc) lv (.int x :: rest) S X := by
  obtain ⟨p, l, e, R, s, m, args, below, meth, c, A⟩ := κ
  intro H locs ls hP hD hS hl
  exact lv_ineg hc.1 hc.2.1 hd (k H locs ls hP hD hS hl)
theorem g_i2b (hc : gC ω κ cc nL own ret rm) {x : Int32} (hd : decode cc pc = .ok (.i2b, 1)) (k : gG ω κ nL out (pc + 1) lv (.int x.toInt8.toInt32 :: rest) S X) : gG ω κ nL out (pc) lv (.int x :: rest) S X := by
  obtain ⟨p, l, e, R, s, m, args, below, meth, c, A⟩ := κ
  intro H locs ls hP hD hS hl
  exact lv_i2b hc.1 hc.2.1 hd rfl (k H locs ls hP hD hS hl)
theorem g_i2l (hc : gC ω κ cc nL own ret rm) {x : Int32} (hd : decode cc pc = .ok (.i2l, 1)) (k : gG ω κ nL out (pc + 1) lv (.long x.toInt64 :: rest) S X) : gG ω κ nL out (pc) lv (.int x :: rest) S X := by
  obtain ⟨p, l, e, R, s, m, args, below, meth, c, A⟩ := κ
  intro H locs ls hP hD hS hl
  exact lv_i2l hc.1 hc.2.1 hd rfl (k H locs ls hP hD hS hl)
theorem g_l2i (hc : gC ω κ cc nL own ret rm) {x : Int64} (hd : decode cc pc = .ok (.l2i, 1)) (k : gG ω κ nL out (pc + 1) lv (.int x.toInt32 :: rest) S X) : gG ω κ nL out (pc) lv (.long x :: rest) S X := by
  obtain ⟨p, l, e, R, s, m, args, below, meth, c, A⟩ := κ
  intro H locs ls hP hD hS hl
  exact lv_l2i hc.1 hc.2.1 hd rfl (k H locs ls hP hD hS hl)
theorem g_lconst (hc : gC ω κ cc nL own ret rm) {n : Fin 2} {v : Int64} (hd : decode cc pc = .ok (.lconst n, 1)) (hv : Int64.ofNat (n : Nat) = v) (k : gG ω κ nL out (pc + 1) lv (.long v :: rest) S X) : gG ω κ nL out (pc) lv (rest) S X := by
  obtain ⟨p, l, e, R, s, m, args, below, meth, c, A⟩ := κ
  intro H locs ls hP hD hS hl
  exact lv_lconst hc.1 hc.2.1 hd hv (k H locs ls hP hD hS hl)
theorem g_iconst (hc : gC ω κ cc nL own ret rm) {n : Int} {v : Int32} (hd : decode cc pc = .ok (.iconst n, 1)) (hv : Int32.ofInt n = v) (k : gG ω κ nL out (pc + 1) lv (.int v :: rest) S X) : gG ω κ nL out (pc) lv (rest) S X := by
  obtain ⟨p, l, e, R, s, m, args, below, meth, c, A⟩ := κ
  intro H locs ls hP hD hS hl
  exact lv_iconst hc.1 hc.2.1 hd hv (k H locs ls hP hD hS hl)
theorem g_bipush (hc : gC ω κ cc nL own ret rm) {n : Int} {v : Int32} (hd : decode cc pc = .ok (.bipush n, 2)) (hv : (Int8.ofInt n).toInt32 = v) (k : gG ω κ nL out (pc + 2) lv (.int v :: rest) S X) : gG ω κ nL out (pc) lv (rest) S X := by
  obtain ⟨p, l, e, R, s, m, args, below, meth, c, A⟩ := κ
  intro H locs ls hP hD hS hl
  exact lv_bipush hc.1 hc.2.1 hd hv (k H locs ls hP hD hS hl)
theorem g_sipush (hc : gC ω κ cc nL own ret rm) {n : Int} {v : Int32} (hd : decode cc pc = .ok (.sipush n, 3)) (hv : (Int16.ofInt n).toInt32 = v) (k : gG ω κ nL out (pc + 3) lv (.int v :: rest) S X) : gG ω κ nL out (pc) lv (rest) S X := by
  obtain ⟨p, l, e, R, s, m, args, below, meth, c, A⟩ := κ
  intro H locs ls hP hD hS hl
  exact lv_sipush hc.1 hc.2.1 hd hv (k H locs ls hP hD hS hl)
theorem g_ldcw (hc : gC ω κ cc nL own ret rm) {i : Nat} {v : Int32} (hm : Cond.constant own i v ∈ WT) (hd : decode cc pc = .ok (.ldc_w i, 3)) (k : gG ω κ nL out (pc + 3) lv (.int v :: rest) S X) : gG ω κ nL out (pc) lv (rest) S X := by
  obtain ⟨p, l, e, R, s, m, args, below, meth, c, A⟩ := κ
  intro H locs ls hP hD hS hl
  exact lv_ldcw hc.1 hc.2.1 hc.2.2.2.1 (hc.2.2.2.2.1 _ hm) hd (k H locs ls hP hD hS hl)
theorem g_ldc2 (hc : gC ω κ cc nL own ret rm) {i : Nat} {v : Int64} (hm : Cond.constantLong own i v ∈ WT) (hd : decode cc pc = .ok (.ldc2_w i, 3)) (k : gG ω κ nL out (pc + 3) lv (.long v :: rest) S X) : gG ω κ nL out (pc) lv (rest) S X := by
  obtain ⟨p, l, e, R, s, m, args, below, meth, c, A⟩ := κ
  intro H locs ls hP hD hS hl
  exact lv_ldc2 hc.1 hc.2.1 hc.2.2.2.1 (hc.2.2.2.2.1 _ hm) hd (k H locs ls hP hD hS hl)
theorem g_ldc (hc : gC ω κ cc nL own ret rm) {i : Nat} {v : Int32} (hm : Cond.constant own i v ∈ WT) (hd : decode cc pc = .ok (.ldc i, 2)) (k : gG ω κ nL out (pc + 2) lv (.int v :: rest) S X) : gG ω κ nL out (pc) lv (rest) S X := by
  obtain ⟨p, l, e, R, s, m, args, below, meth, c, A⟩ := κ
  intro H locs ls hP hD hS hl
  exact lv_ldc hc.1 hc.2.1 hc.2.2.2.1 (hc.2.2.2.2.1 _ hm) hd (k H locs ls hP hD hS hl)
theorem g_iload_n (hc : gC ω κ cc nL own ret rm) (j : Nat) {n : Fin 4} {i : Nat} {x : Int32} (hd : decode cc pc = .ok (.iload_n n, 1)) (hi : (n : Nat) = i) (hj : lv[j]? = some (i, .int x)) (k : gG ω κ nL out (pc + 1) lv (.int x :: rest) S X) : gG ω κ nL out (pc) lv (rest) S X := by
  obtain ⟨p, l, e, R, s, m, args, below, meth, c, A⟩ := κ
  intro H locs ls hP hD hS hl
  exact lv_iload_n hc.1 hc.2.1 hd hi (lv_at hl j hj) (k H locs ls hP hD hS hl)
theorem g_iload (hc : gC ω κ cc nL own ret rm) (j : Nat) {i : Nat} {x : Int32} (hd : decode cc pc = .ok (.iload i, 2)) (hj : lv[j]? = some (i, .int x)) (k : gG ω κ nL out (pc + 2) lv (.int x :: rest) S X) : gG ω κ nL out (pc) lv (rest) S X := by
  obtain ⟨p, l, e, R, s, m, args, below, meth, c, A⟩ := κ
  intro H locs ls hP hD hS hl
  exact lv_iload hc.1 hc.2.1 hd (lv_at hl j hj) (k H locs ls hP hD hS hl)
theorem g_aload_n (hc : gC ω κ cc nL own ret rm) (j : Nat) {n : Fin 4} {i : Nat} {x : Nat} (hd : decode cc pc = .ok (.aload_n n, 1)) (hi : (n : Nat) = i) (hj : lv[j]? = some (i, .ref x)) (k : gG ω κ nL out (pc + 1) lv (.ref x :: rest) S X) : gG ω κ nL out (pc) lv (rest) S X := by
  obtain ⟨p, l, e, R, s, m, args, below, meth, c, A⟩ := κ
  intro H locs ls hP hD hS hl
  exact lv_aload_n hc.1 hc.2.1 hd hi (lv_at hl j hj) (k H locs ls hP hD hS hl)
theorem g_aload (hc : gC ω κ cc nL own ret rm) (j : Nat) {i : Nat} {x : Nat} (hd : decode cc pc = .ok (.aload i, 2)) (hj : lv[j]? = some (i, .ref x)) (k : gG ω κ nL out (pc + 2) lv (.ref x :: rest) S X) : gG ω κ nL out (pc) lv (rest) S X := by
  obtain ⟨p, l, e, R, s, m, args, below, meth, c, A⟩ := κ
  intro H locs ls hP hD hS hl
  exact lv_aload hc.1 hc.2.1 hd (lv_at hl j hj) (k H locs ls hP hD hS hl)
theorem g_istore_n (hc : gC ω κ cc nL own ret rm) {n : Fin 4} {i : Nat} {x : Int32} {lv' : List (Nat × Value)} (hd : decode cc pc = .ok (.istore_n n, 1)) (hi : (n : Nat) = i) (hn : i < nL) (hf : (i, Value.int x) :: lv.filter (fun q => !(q.1 == i) && !(q.1 + 1 == i && q.2.category == 2)) = lv') (k : gG ω κ nL out (pc + 1) lv' (rest) S X) : gG ω κ nL out (pc) lv (.int x :: rest) S X := by
  obtain ⟨p, l, e, R, s, m, args, below, meth, c, A⟩ := κ
  intro H locs ls hP hD hS hl
  exact lv_istore_n hc.1 hc.2.1 hd hi hl hn hf (fun ls hl => k H locs ls hP hD hS hl)
theorem g_istore (hc : gC ω κ cc nL own ret rm) {i : Nat} {x : Int32} {lv' : List (Nat × Value)} (hd : decode cc pc = .ok (.istore i, 2)) (hn : i < nL) (hf : (i, Value.int x) :: lv.filter (fun q => !(q.1 == i) && !(q.1 + 1 == i && q.2.category == 2)) = lv') (k : gG ω κ nL out (pc + 2) lv' (rest) S X) : gG ω κ nL out (pc) lv (.int x :: rest) S X := by
  obtain ⟨p, l, e, R, s, m, args, below, meth, c, A⟩ := κ
  intro H locs ls hP hD hS hl
  exact lv_istore hc.1 hc.2.1 hd hl hn hf (fun ls hl => k H locs ls hP hD hS hl)
theorem g_iinc (hc : gC ω κ cc nL own ret rm) (j : Nat) {i : Nat} {n : Int} {x v : Int32} {lv' : List (Nat × Value)} (hd : decode cc pc = .ok (.iinc i n, 3)) (hj : lv[j]? = some (i, .int x)) (hv : Int32.ofInt n = v) (hn : i < nL) (hf : (i, Value.int (x + v)) :: lv.filter (fun q => !(q.1 == i) && !(q.1 + 1 == i && q.2.category == 2)) = lv') (k : gG ω κ nL out (pc + 3) lv' (rest) S X) : gG ω κ nL out (pc) lv (rest) S X := by
  obtain ⟨p, l, e, R, s, m, args, below, meth, c, A⟩ := κ
  intro H locs ls hP hD hS hl
  exact lv_iinc hc.1 hc.2.1 hd hl hj (by rw [hv]) hn hf (fun ls hl => k H locs ls hP hD hS hl)
theorem g_dup (hc : gC ω κ cc nL own ret rm) {va : Value} (hd : decode cc pc = .ok (.dup, 1)) (h1 : va.category = 1) (k : gG ω κ nL out (pc + 1) lv (va :: va :: rest) S X) : gG ω κ nL out (pc) lv (va :: rest) S X := by
  obtain ⟨p, l, e, R, s, m, args, below, meth, c, A⟩ := κ
  intro H locs ls hP hD hS hl
  exact lv_dup hc.1 hc.2.1 hd h1 (k H locs ls hP hD hS hl)
theorem g_pop (hc : gC ω κ cc nL own ret rm) {va : Value} (hd : decode cc pc = .ok (.pop, 1)) (h1 : va.category = 1) (k : gG ω κ nL out (pc + 1) lv (rest) S X) : gG ω κ nL out (pc) lv (va :: rest) S X := by
  obtain ⟨p, l, e, R, s, m, args, below, meth, c, A⟩ := κ
  intro H locs ls hP hD hS hl
  exact lv_pop hc.1 hc.2.1 hd h1 (k H locs ls hP hD hS hl)
theorem g_dup_x1 (hc : gC ω κ cc nL own ret rm) {va vb : Value} (hd : decode cc pc = .ok (.dup_x1, 1)) (h1 : va.category = 1) (h2 : vb.category = 1) (k : gG ω κ nL out (pc + 1) lv (va :: vb :: va :: rest) S X) : gG ω κ nL out (pc) lv (va :: vb :: rest) S X := by
  obtain ⟨p, l, e, R, s, m, args, below, meth, c, A⟩ := κ
  intro H locs ls hP hD hS hl
  exact lv_dup_x1 hc.1 hc.2.1 hd h1 h2 (k H locs ls hP hD hS hl)
theorem g_dup2 (hc : gC ω κ cc nL own ret rm) {va vb : Value} (hd : decode cc pc = .ok (.dup2, 1)) (h1 : va.category = 1) (h2 : vb.category = 1) (k : gG ω κ nL out (pc + 1) lv (va :: vb :: va :: vb :: rest) S X) : gG ω κ nL out (pc) lv (va :: vb :: rest) S X := by
  obtain ⟨p, l, e, R, s, m, args, below, meth, c, A⟩ := κ
  intro H locs ls hP hD hS hl
  exact lv_dup2_11 hc.1 hc.2.1 hd h1 h2 (k H locs ls hP hD hS hl)
theorem g_goto (hc : gC ω κ cc nL own ret rm) {off : Int} {tgt : Nat} (hd : decode cc pc = .ok (.goto off, 3)) (ht : (pc : Int) + off = (tgt : Int)) (k : gG ω κ nL out (tgt) lv (rest) S X) : gG ω κ nL out (pc) lv (rest) S X := by
  obtain ⟨p, l, e, R, s, m, args, below, meth, c, A⟩ := κ
  intro H locs ls hP hD hS hl
  exact lv_goto hc.1 hc.2.1 hd ht (k H locs ls hP hD hS hl)
theorem g_ifeq (hc : gC ω κ cc nL own ret rm) {x : Int32} {off : Int} {tgt : Nat} {X1 X2 : ρ × gSt} {dc : Decidable (x = 0)} (hd : decode cc pc = .ok (.ifCond .eq off, 3)) (ht : (pc : Int) + off = (tgt : Int)) (kt : x = 0 → gG ω κ nL out (tgt) lv (rest) S X1) (kf : ¬ x = 0 → gG ω κ nL out (pc + 3) lv (rest) S X2) : gG ω κ nL out (pc) lv (.int x :: rest) S (ite (x = 0) X1 X2) := by
  obtain ⟨p, l, e, R, s, m, args, below, meth, c, A⟩ := κ
  intro H locs ls hP hD hS hl
  refine lv_if_eq hc.1 hc.2.1 hd ht (fun h => ?_) (fun h => ?_)
  · rw [if_pos h]
    exact kt h H locs ls hP hD hS hl
  · rw [if_neg h]
    exact kf h H locs ls hP hD hS hl
theorem g_ifeq_t (hc : gC ω κ cc nL own ret rm) {x : Int32} {off : Int} {tgt : Nat} (hd : decode cc pc = .ok (.ifCond .eq off, 3)) (ht : (pc : Int) + off = (tgt : Int)) (h : x = 0) (k : gG ω κ nL out (tgt) lv rest S X) : gG ω κ nL out pc lv (.int x :: rest) S X := by
  obtain ⟨p, l, e, R, s, m, args, below, meth, c, A⟩ := κ
  intro H locs ls hP hD hS hl
  exact lv_if_eq hc.1 hc.2.1 hd ht (fun _ => k H locs ls hP hD hS hl) (fun h2 => absurd h h2)
theorem g_ifeq_f (hc : gC ω κ cc nL own ret rm) {x : Int32} {off : Int} {tgt : Nat} (hd : decode cc pc = .ok (.ifCond .eq off, 3)) (ht : (pc : Int) + off = (tgt : Int)) (h : ¬ x = 0) (k : gG ω κ nL out (pc + 3) lv rest S X) : gG ω κ nL out pc lv (.int x :: rest) S X := by
  obtain ⟨p, l, e, R, s, m, args, below, meth, c, A⟩ := κ
  intro H locs ls hP hD hS hl
  exact lv_if_eq hc.1 hc.2.1 hd ht (fun h2 => absurd h2 h) (fun _ => k H locs ls hP hD hS hl)
theorem g_ifne (hc : gC ω κ cc nL own ret rm) {x : Int32} {off : Int} {tgt : Nat} {X1 X2 : ρ × gSt} {dc : Decidable (x = 0)} (hd : decode cc pc = .ok (.ifCond .ne off, 3)) (ht : (pc : Int) + off = (tgt : Int)) (kt : x = 0 → gG ω κ nL out (pc + 3) lv (rest) S X1) (kf : ¬ x = 0 → gG ω κ nL out (tgt) lv (rest) S X2) : gG ω κ nL out (pc) lv (.int x :: rest) S (ite (x = 0) X1 X2) := by
  obtain ⟨p, l, e, R, s, m, args, below, meth, c, A⟩ := κ
  intro H locs ls hP hD hS hl
  refine lv_if_ne hc.1 hc.2.1 hd ht (fun h => ?_) (fun h => ?_)
  · rw [if_neg h]
    exact kf h H locs ls hP hD hS hl
  · rw [if_pos h]
    exact kt h H locs ls hP hD hS hl
theorem g_ifne_t (hc : gC ω κ cc nL own ret rm) {x : Int32} {off : Int} {tgt : Nat} (hd : decode cc pc = .ok (.ifCond .ne off, 3)) (ht : (pc : Int) + off = (tgt : Int)) (h : x = 0) (k : gG ω κ nL out (pc + 3) lv rest S X) : gG ω κ nL out pc lv (.int x :: rest) S X := by
  obtain ⟨p, l, e, R, s, m, args, below, meth, c, A⟩ := κ
  intro H locs ls hP hD hS hl
  exact lv_if_ne hc.1 hc.2.1 hd ht (fun h2 => absurd h h2) (fun _ => k H locs ls hP hD hS hl)
theorem g_ifne_f (hc : gC ω κ cc nL own ret rm) {x : Int32} {off : Int} {tgt : Nat} (hd : decode cc pc = .ok (.ifCond .ne off, 3)) (ht : (pc : Int) + off = (tgt : Int)) (h : ¬ x = 0) (k : gG ω κ nL out (tgt) lv rest S X) : gG ω κ nL out pc lv (.int x :: rest) S X := by
  obtain ⟨p, l, e, R, s, m, args, below, meth, c, A⟩ := κ
  intro H locs ls hP hD hS hl
  exact lv_if_ne hc.1 hc.2.1 hd ht (fun _ => k H locs ls hP hD hS hl) (fun h2 => absurd h2 h)
theorem g_iflt (hc : gC ω κ cc nL own ret rm) {x : Int32} {off : Int} {tgt : Nat} {X1 X2 : ρ × gSt} {dc : Decidable (x < 0)} (hd : decode cc pc = .ok (.ifCond .lt off, 3)) (ht : (pc : Int) + off = (tgt : Int)) (kt : x < 0 → gG ω κ nL out (tgt) lv (rest) S X1) (kf : ¬ x < 0 → gG ω κ nL out (pc + 3) lv (rest) S X2) : gG ω κ nL out (pc) lv (.int x :: rest) S (ite (x < 0) X1 X2) := by
  obtain ⟨p, l, e, R, s, m, args, below, meth, c, A⟩ := κ
  intro H locs ls hP hD hS hl
  refine lv_if_lt hc.1 hc.2.1 hd ht (fun h => ?_) (fun h => ?_)
  · rw [if_pos h]
    exact kt h H locs ls hP hD hS hl
  · rw [if_neg h]
    exact kf h H locs ls hP hD hS hl
theorem g_iflt_t (hc : gC ω κ cc nL own ret rm) {x : Int32} {off : Int} {tgt : Nat} (hd : decode cc pc = .ok (.ifCond .lt off, 3)) (ht : (pc : Int) + off = (tgt : Int)) (h : x < 0) (k : gG ω κ nL out (tgt) lv rest S X) : gG ω κ nL out pc lv (.int x :: rest) S X := by
  obtain ⟨p, l, e, R, s, m, args, below, meth, c, A⟩ := κ
  intro H locs ls hP hD hS hl
  exact lv_if_lt hc.1 hc.2.1 hd ht (fun _ => k H locs ls hP hD hS hl) (fun h2 => absurd h h2)
theorem g_iflt_f (hc : gC ω κ cc nL own ret rm) {x : Int32} {off : Int} {tgt : Nat} (hd : decode cc pc = .ok (.ifCond .lt off, 3)) (ht : (pc : Int) + off = (tgt : Int)) (h : ¬ x < 0) (k : gG ω κ nL out (pc + 3) lv rest S X) : gG ω κ nL out pc lv (.int x :: rest) S X := by
  obtain ⟨p, l, e, R, s, m, args, below, meth, c, A⟩ := κ
  intro H locs ls hP hD hS hl
  exact lv_if_lt hc.1 hc.2.1 hd ht (fun h2 => absurd h2 h) (fun _ => k H locs ls hP hD hS hl)
theorem g_ifge (hc : gC ω κ cc nL own ret rm) {x : Int32} {off : Int} {tgt : Nat} {X1 X2 : ρ × gSt} {dc : Decidable (0 ≤ x)} (hd : decode cc pc = .ok (.ifCond .ge off, 3)) (ht : (pc : Int) + off = (tgt : Int)) (kt : 0 ≤ x → gG ω κ nL out (tgt) lv (rest) S X1) (kf : ¬ 0 ≤ x → gG ω κ nL out (pc + 3) lv (rest) S X2) : gG ω κ nL out (pc) lv (.int x :: rest) S (ite (0 ≤ x) X1 X2) := by
  obtain ⟨p, l, e, R, s, m, args, below, meth, c, A⟩ := κ
  intro H locs ls hP hD hS hl
  refine lv_if_ge hc.1 hc.2.1 hd ht (fun h => ?_) (fun h => ?_)
  · rw [if_pos h]
    exact kt h H locs ls hP hD hS hl
  · rw [if_neg h]
    exact kf h H locs ls hP hD hS hl
theorem g_ifge_t (hc : gC ω κ cc nL own ret rm) {x : Int32} {off : Int} {tgt : Nat} (hd : decode cc pc = .ok (.ifCond .ge off, 3)) (ht : (pc : Int) + off = (tgt : Int)) (h : 0 ≤ x) (k : gG ω κ nL out (tgt) lv rest S X) : gG ω κ nL out pc lv (.int x :: rest) S X := by
  obtain ⟨p, l, e, R, s, m, args, below, meth, c, A⟩ := κ
  intro H locs ls hP hD hS hl
  exact lv_if_ge hc.1 hc.2.1 hd ht (fun _ => k H locs ls hP hD hS hl) (fun h2 => absurd h h2)
theorem g_ifge_f (hc : gC ω κ cc nL own ret rm) {x : Int32} {off : Int} {tgt : Nat} (hd : decode cc pc = .ok (.ifCond .ge off, 3)) (ht : (pc : Int) + off = (tgt : Int)) (h : ¬ 0 ≤ x) (k : gG ω κ nL out (pc + 3) lv rest S X) : gG ω κ nL out pc lv (.int x :: rest) S X := by
  obtain ⟨p, l, e, R, s, m, args, below, meth, c, A⟩ := κ
  intro H locs ls hP hD hS hl
  exact lv_if_ge hc.1 hc.2.1 hd ht (fun h2 => absurd h2 h) (fun _ => k H locs ls hP hD hS hl)
theorem g_ifgt (hc : gC ω κ cc nL own ret rm) {x : Int32} {off : Int} {tgt : Nat} {X1 X2 : ρ × gSt} {dc : Decidable (0 < x)} (hd : decode cc pc = .ok (.ifCond .gt off, 3)) (ht : (pc : Int) + off = (tgt : Int)) (kt : 0 < x → gG ω κ nL out (tgt) lv (rest) S X1) (kf : ¬ 0 < x → gG ω κ nL out (pc + 3) lv (rest) S X2) : gG ω κ nL out (pc) lv (.int x :: rest) S (ite (0 < x) X1 X2) := by
  obtain ⟨p, l, e, R, s, m, args, below, meth, c, A⟩ := κ
  intro H locs ls hP hD hS hl
  refine lv_if_gt hc.1 hc.2.1 hd ht (fun h => ?_) (fun h => ?_)
  · rw [if_pos h]
    exact kt h H locs ls hP hD hS hl
  · rw [if_neg h]
    exact kf h H locs ls hP hD hS hl
theorem g_ifgt_t (hc : gC ω κ cc nL own ret rm) {x : Int32} {off : Int} {tgt : Nat} (hd : decode cc pc = .ok (.ifCond .gt off, 3)) (ht : (pc : Int) + off = (tgt : Int)) (h : 0 < x) (k : gG ω κ nL out (tgt) lv rest S X) : gG ω κ nL out pc lv (.int x :: rest) S X := by
  obtain ⟨p, l, e, R, s, m, args, below, meth, c, A⟩ := κ
  intro H locs ls hP hD hS hl
  exact lv_if_gt hc.1 hc.2.1 hd ht (fun _ => k H locs ls hP hD hS hl) (fun h2 => absurd h h2)
theorem g_ifgt_f (hc : gC ω κ cc nL own ret rm) {x : Int32} {off : Int} {tgt : Nat} (hd : decode cc pc = .ok (.ifCond .gt off, 3)) (ht : (pc : Int) + off = (tgt : Int)) (h : ¬ 0 < x) (k : gG ω κ nL out (pc + 3) lv rest S X) : gG ω κ nL out pc lv (.int x :: rest) S X := by
  obtain ⟨p, l, e, R, s, m, args, below, meth, c, A⟩ := κ
  intro H locs ls hP hD hS hl
  exact lv_if_gt hc.1 hc.2.1 hd ht (fun h2 => absurd h2 h) (fun _ => k H locs ls hP hD hS hl)
theorem g_ifle (hc : gC ω κ cc nL own ret rm) {x : Int32} {off : Int} {tgt : Nat} {X1 X2 : ρ × gSt} {dc : Decidable (x ≤ 0)} (hd : decode cc pc = .ok (.ifCond .le off, 3)) (ht : (pc : Int) + off = (tgt : Int)) (kt : x ≤ 0 → gG ω κ nL out (tgt) lv (rest) S X1) (kf : ¬ x ≤ 0 → gG ω κ nL out (pc + 3) lv (rest) S X2) : gG ω κ nL out (pc) lv (.int x :: rest) S (ite (x ≤ 0) X1 X2) := by
  obtain ⟨p, l, e, R, s, m, args, below, meth, c, A⟩ := κ
  intro H locs ls hP hD hS hl
  refine lv_if_le hc.1 hc.2.1 hd ht (fun h => ?_) (fun h => ?_)
  · rw [if_pos h]
    exact kt h H locs ls hP hD hS hl
  · rw [if_neg h]
    exact kf h H locs ls hP hD hS hl
theorem g_ifle_t (hc : gC ω κ cc nL own ret rm) {x : Int32} {off : Int} {tgt : Nat} (hd : decode cc pc = .ok (.ifCond .le off, 3)) (ht : (pc : Int) + off = (tgt : Int)) (h : x ≤ 0) (k : gG ω κ nL out (tgt) lv rest S X) : gG ω κ nL out pc lv (.int x :: rest) S X := by
  obtain ⟨p, l, e, R, s, m, args, below, meth, c, A⟩ := κ
  intro H locs ls hP hD hS hl
  exact lv_if_le hc.1 hc.2.1 hd ht (fun _ => k H locs ls hP hD hS hl) (fun h2 => absurd h h2)
theorem g_ifle_f (hc : gC ω κ cc nL own ret rm) {x : Int32} {off : Int} {tgt : Nat} (hd : decode cc pc = .ok (.ifCond .le off, 3)) (ht : (pc : Int) + off = (tgt : Int)) (h : ¬ x ≤ 0) (k : gG ω κ nL out (pc + 3) lv rest S X) : gG ω κ nL out pc lv (.int x :: rest) S X := by
  obtain ⟨p, l, e, R, s, m, args, below, meth, c, A⟩ := κ
  intro H locs ls hP hD hS hl
  exact lv_if_le hc.1 hc.2.1 hd ht (fun h2 => absurd h2 h) (fun _ => k H locs ls hP hD hS hl)
theorem g_icmpeq (hc : gC ω κ cc nL own ret rm) {x y : Int32} {off : Int} {tgt : Nat} {X1 X2 : ρ × gSt} {dc : Decidable (x = y)} (hd : decode cc pc = .ok (.if_icmp .eq off, 3)) (ht : (pc : Int) + off = (tgt : Int)) (kt : x = y → gG ω κ nL out (tgt) lv (rest) S X1) (kf : ¬ x = y → gG ω κ nL out (pc + 3) lv (rest) S X2) : gG ω κ nL out (pc) lv (.int y :: .int x :: rest) S (ite (x = y) X1 X2) := by
  obtain ⟨p, l, e, R, s, m, args, below, meth, c, A⟩ := κ
  intro H locs ls hP hD hS hl
  refine lv_icmp_eq hc.1 hc.2.1 hd ht (fun h => ?_) (fun h => ?_)
  · rw [if_pos h]
    exact kt h H locs ls hP hD hS hl
  · rw [if_neg h]
    exact kf h H locs ls hP hD hS hl
theorem g_icmpeq_t (hc : gC ω κ cc nL own ret rm) {x y : Int32} {off : Int} {tgt : Nat} (hd : decode cc pc = .ok (.if_icmp .eq off, 3)) (ht : (pc : Int) + off = (tgt : Int)) (h : x = y) (k : gG ω κ nL out (tgt) lv rest S X) : gG ω κ nL out pc lv (.int y :: .int x :: rest) S X := by
  obtain ⟨p, l, e, R, s, m, args, below, meth, c, A⟩ := κ
  intro H locs ls hP hD hS hl
  exact lv_icmp_eq hc.1 hc.2.1 hd ht (fun _ => k H locs ls hP hD hS hl) (fun h2 => absurd h h2)
theorem g_icmpeq_f (hc : gC ω κ cc nL own ret rm) {x y : Int32} {off : Int} {tgt : Nat} (hd : decode cc pc = .ok (.if_icmp .eq off, 3)) (ht : (pc : Int) + off = (tgt : Int)) (h : ¬ x = y) (k : gG ω κ nL out (pc + 3) lv rest S X) : gG ω κ nL out pc lv (.int y :: .int x :: rest) S X := by
  obtain ⟨p, l, e, R, s, m, args, below, meth, c, A⟩ := κ
  intro H locs ls hP hD hS hl
  exact lv_icmp_eq hc.1 hc.2.1 hd ht (fun h2 => absurd h2 h) (fun _ => k H locs ls hP hD hS hl)
theorem g_icmpne (hc : gC ω κ cc nL own ret rm) {x y : Int32} {off : Int} {tgt : Nat} {X1 X2 : ρ × gSt} {dc : Decidable (x = y)} (hd : decode cc pc = .ok (.if_icmp .ne off, 3)) (ht : (pc : Int) + off = (tgt : Int)) (kt : x = y → gG ω κ nL out (pc + 3) lv (rest) S X1) (kf : ¬ x = y → gG ω κ nL out (tgt) lv (rest) S X2) : gG ω κ nL out (pc) lv (.int y :: .int x :: rest) S (ite (x = y) X1 X2) := by
  obtain ⟨p, l, e, R, s, m, args, below, meth, c, A⟩ := κ
  intro H locs ls hP hD hS hl
  refine lv_icmp_ne hc.1 hc.2.1 hd ht (fun h => ?_) (fun h => ?_)
  · rw [if_neg h]
    exact kf h H locs ls hP hD hS hl
  · rw [if_pos h]
    exact kt h H locs ls hP hD hS hl
theorem g_icmpne_t (hc : gC ω κ cc nL own ret rm) {x y : Int32} {off : Int} {tgt : Nat} (hd : decode cc pc = .ok (.if_icmp .ne off, 3)) (ht : (pc : Int) + off = (tgt : Int)) (h : x = y) (k : gG ω κ nL out (pc + 3) lv rest S X) : gG ω κ nL out pc lv (.int y :: .int x :: rest) S X := by
  obtain ⟨p, l, e, R, s, m, args, below, meth, c, A⟩ := κ
  intro H locs ls hP hD hS hl
  exact lv_icmp_ne hc.1 hc.2.1 hd ht (fun h2 => absurd h h2) (fun _ => k H locs ls hP hD hS hl)
theorem g_icmpne_f (hc : gC ω κ cc nL own ret rm) {x y : Int32} {off : Int} {tgt : Nat} (hd : decode cc pc = .ok (.if_icmp .ne off, 3)) (ht : (pc : Int) + off = (tgt : Int)) (h : ¬ x = y) (k : gG ω κ nL out (tgt) lv rest S X) : gG ω κ nL out pc lv (.int y :: .int x :: rest) S X := by
  obtain ⟨p, l, e, R, s, m, args, below, meth, c, A⟩ := κ
  intro H locs ls hP hD hS hl
  exact lv_icmp_ne hc.1 hc.2.1 hd ht (fun _ => k H locs ls hP hD hS hl) (fun h2 => absurd h2 h)
theorem g_icmplt (hc : gC ω κ cc nL own ret rm) {x y : Int32} {off : Int} {tgt : Nat} {X1 X2 : ρ × gSt} {dc : Decidable (x < y)} (hd : decode cc pc = .ok (.if_icmp .lt off, 3)) (ht : (pc : Int) + off = (tgt : Int)) (kt : x < y → gG ω κ nL out (tgt) lv (rest) S X1) (kf : ¬ x < y → gG ω κ nL out (pc + 3) lv (rest) S X2) : gG ω κ nL out (pc) lv (.int y :: .int x :: rest) S (ite (x < y) X1 X2) := by
  obtain ⟨p, l, e, R, s, m, args, below, meth, c, A⟩ := κ
  intro H locs ls hP hD hS hl
  refine lv_icmp_lt hc.1 hc.2.1 hd ht (fun h => ?_) (fun h => ?_)
  · rw [if_pos h]
    exact kt h H locs ls hP hD hS hl
  · rw [if_neg h]
    exact kf h H locs ls hP hD hS hl
theorem g_icmplt_t (hc : gC ω κ cc nL own ret rm) {x y : Int32} {off : Int} {tgt : Nat} (hd : decode cc pc = .ok (.if_icmp .lt off, 3)) (ht : (pc : Int) + off = (tgt : Int)) (h : x < y) (k : gG ω κ nL out (tgt) lv rest S X) : gG ω κ nL out pc lv (.int y :: .int x :: rest) S X := by
  obtain ⟨p, l, e, R, s, m, args, below, meth, c, A⟩ := κ
  intro H locs ls hP hD hS hl
  exact lv_icmp_lt hc.1 hc.2.1 hd ht (fun _ => k H locs ls hP hD hS hl) (fun h2 => absurd h h2)
theorem g_icmplt_f (hc : gC ω κ cc nL own ret rm) {x y : Int32} {off : Int} {tgt : Nat} (hd : decode cc pc = .ok (.if_icmp .lt off, 3)) (ht : (pc : Int) + off = (tgt : Int)) (h : ¬ x < y) (k : gG ω κ nL out (pc + 3) lv rest S X) : gG ω κ nL out pc lv (.int y :: .int x :: rest) S X := by
  obtain ⟨p, l, e, R, s, m, args, below, meth, c, A⟩ := κ
  intro H locs ls hP hD hS hl
  exact lv_icmp_lt hc.1 hc.2.1 hd ht (fun h2 => absurd h2 h) (fun _ => k H locs ls hP hD hS hl)
theorem g_icmpge (hc : gC ω κ cc nL own ret rm) {x y : Int32} {off : Int} {tgt : Nat} {X1 X2 : ρ × gSt} {dc : Decidable (y ≤ x)} (hd : decode cc pc = .ok (.if_icmp .ge off, 3)) (ht : (pc : Int) + off = (tgt : Int)) (kt : y ≤ x → gG ω κ nL out (tgt) lv (rest) S X1) (kf : ¬ y ≤ x → gG ω κ nL out (pc + 3) lv (rest) S X2) : gG ω κ nL out (pc) lv (.int y :: .int x :: rest) S (ite (y ≤ x) X1 X2) := by
  obtain ⟨p, l, e, R, s, m, args, below, meth, c, A⟩ := κ
  intro H locs ls hP hD hS hl
  refine lv_icmp_ge hc.1 hc.2.1 hd ht (fun h => ?_) (fun h => ?_)
  · rw [if_pos h]
    exact kt h H locs ls hP hD hS hl
  · rw [if_neg h]
    exact kf h H locs ls hP hD hS hl
theorem g_icmpge_t (hc : gC ω κ cc nL own ret rm) {x y : Int32} {off : Int} {tgt : Nat} (hd : decode cc pc = .ok (.if_icmp .ge off, 3)) (ht : (pc : Int) + off = (tgt : Int)) (h : y ≤ x) (k : gG ω κ nL out (tgt) lv rest S X) : gG ω κ nL out pc lv (.int y :: .int x :: rest) S X := by
  obtain ⟨p, l, e, R, s, m, args, below, meth, c, A⟩ := κ
  intro H locs ls hP hD hS hl
  exact lv_icmp_ge hc.1 hc.2.1 hd ht (fun _ => k H locs ls hP hD hS hl) (fun h2 => absurd h h2)
theorem g_icmpge_f (hc : gC ω κ cc nL own ret rm) {x y : Int32} {off : Int} {tgt : Nat} (hd : decode cc pc = .ok (.if_icmp .ge off, 3)) (ht : (pc : Int) + off = (tgt : Int)) (h : ¬ y ≤ x) (k : gG ω κ nL out (pc + 3) lv rest S X) : gG ω κ nL out pc lv (.int y :: .int x :: rest) S X := by
  obtain ⟨p, l, e, R, s, m, args, below, meth, c, A⟩ := κ
  intro H locs ls hP hD hS hl
  exact lv_icmp_ge hc.1 hc.2.1 hd ht (fun h2 => absurd h2 h) (fun _ => k H locs ls hP hD hS hl)
theorem g_icmpgt (hc : gC ω κ cc nL own ret rm) {x y : Int32} {off : Int} {tgt : Nat} {X1 X2 : ρ × gSt} {dc : Decidable (y < x)} (hd : decode cc pc = .ok (.if_icmp .gt off, 3)) (ht : (pc : Int) + off = (tgt : Int)) (kt : y < x → gG ω κ nL out (tgt) lv (rest) S X1) (kf : ¬ y < x → gG ω κ nL out (pc + 3) lv (rest) S X2) : gG ω κ nL out (pc) lv (.int y :: .int x :: rest) S (ite (y < x) X1 X2) := by
  obtain ⟨p, l, e, R, s, m, args, below, meth, c, A⟩ := κ
  intro H locs ls hP hD hS hl
  refine lv_icmp_gt hc.1 hc.2.1 hd ht (fun h => ?_) (fun h => ?_)
  · rw [if_pos h]
    exact kt h H locs ls hP hD hS hl
  · rw [if_neg h]
    exact kf h H locs ls hP hD hS hl
theorem g_icmpgt_t (hc : gC ω κ cc nL own ret rm) {x y : Int32} {off : Int} {tgt : Nat} (hd : decode cc pc = .ok (.if_icmp .gt off, 3)) (ht : (pc : Int) + off = (tgt : Int)) (h : y < x) (k : gG ω κ nL out (tgt) lv rest S X) : gG ω κ nL out pc lv (.int y :: .int x :: rest) S X := by
  obtain ⟨p, l, e, R, s, m, args, below, meth, c, A⟩ := κ
  intro H locs ls hP hD hS hl
  exact lv_icmp_gt hc.1 hc.2.1 hd ht (fun _ => k H locs ls hP hD hS hl) (fun h2 => absurd h h2)
theorem g_icmpgt_f (hc : gC ω κ cc nL own ret rm) {x y : Int32} {off : Int} {tgt : Nat} (hd : decode cc pc = .ok (.if_icmp .gt off, 3)) (ht : (pc : Int) + off = (tgt : Int)) (h : ¬ y < x) (k : gG ω κ nL out (pc + 3) lv rest S X) : gG ω κ nL out pc lv (.int y :: .int x :: rest) S X := by
  obtain ⟨p, l, e, R, s, m, args, below, meth, c, A⟩ := κ
  intro H locs ls hP hD hS hl
  exact lv_icmp_gt hc.1 hc.2.1 hd ht (fun h2 => absurd h2 h) (fun _ => k H locs ls hP hD hS hl)
theorem g_icmple (hc : gC ω κ cc nL own ret rm) {x y : Int32} {off : Int} {tgt : Nat} {X1 X2 : ρ × gSt} {dc : Decidable (x ≤ y)} (hd : decode cc pc = .ok (.if_icmp .le off, 3)) (ht : (pc : Int) + off = (tgt : Int)) (kt : x ≤ y → gG ω κ nL out (tgt) lv (rest) S X1) (kf : ¬ x ≤ y → gG ω κ nL out (pc + 3) lv (rest) S X2) : gG ω κ nL out (pc) lv (.int y :: .int x :: rest) S (ite (x ≤ y) X1 X2) := by
  obtain ⟨p, l, e, R, s, m, args, below, meth, c, A⟩ := κ
  intro H locs ls hP hD hS hl
  refine lv_icmp_le hc.1 hc.2.1 hd ht (fun h => ?_) (fun h => ?_)
  · rw [if_pos h]
    exact kt h H locs ls hP hD hS hl
  · rw [if_neg h]
    exact kf h H locs ls hP hD hS hl
theorem g_icmple_t (hc : gC ω κ cc nL own ret rm) {x y : Int32} {off : Int} {tgt : Nat} (hd : decode cc pc = .ok (.if_icmp .le off, 3)) (ht : (pc : Int) + off = (tgt : Int)) (h : x ≤ y) (k : gG ω κ nL out (tgt) lv rest S X) : gG ω κ nL out pc lv (.int y :: .int x :: rest) S X := by
  obtain ⟨p, l, e, R, s, m, args, below, meth, c, A⟩ := κ
  intro H locs ls hP hD hS hl
  exact lv_icmp_le hc.1 hc.2.1 hd ht (fun _ => k H locs ls hP hD hS hl) (fun h2 => absurd h h2)
theorem g_icmple_f (hc : gC ω κ cc nL own ret rm) {x y : Int32} {off : Int} {tgt : Nat} (hd : decode cc pc = .ok (.if_icmp .le off, 3)) (ht : (pc : Int) + off = (tgt : Int)) (h : ¬ x ≤ y) (k : gG ω κ nL out (pc + 3) lv rest S X) : gG ω κ nL out pc lv (.int y :: .int x :: rest) S X := by
  obtain ⟨p, l, e, R, s, m, args, below, meth, c, A⟩ := κ
  intro H locs ls hP hD hS hl
  exact lv_icmp_le hc.1 hc.2.1 hd ht (fun h2 => absurd h2 h) (fun _ => k H locs ls hP hD hS hl)
theorem g_tsw (hc : gC ω κ cc nL own ret rm) {x : Int32} (v : Int32) {dflt lo hi off : Int} {offs : Array Int} {len tgt : Nat} {X1 X2 : ρ × gSt} {dc : Decidable (x = v)} (hd : decode cc pc = .ok (.tableswitch dflt lo hi offs, len)) (hv : ¬ v.toInt < lo ∧ ¬ hi < v.toInt ∧ offs[(v.toInt - lo).toNat]? = some off) (ht : (pc : Int) + off = (tgt : Int)) (kt : x = v → gG ω κ nL out tgt lv rest S X1) (kf : ¬ x = v → gG ω κ nL out pc lv (.int x :: rest) S X2) : gG ω κ nL out pc lv (.int x :: rest) S (ite (x = v) X1 X2) := by
  obtain ⟨p, l, e, R, s, m, args, below, meth, c, A⟩ := κ
  intro H locs ls hP hD hS hl
  by_cases h : x = v
  · rw [if_pos h]
    have h2 := h
    subst h
    exact lv_tableIn hc.1 hc.2.1 hd hv.1 hv.2.1 hv.2.2 ht (kt h2 H locs ls hP hD hS hl)
  · rw [if_neg h]
    exact kf h H locs ls hP hD hS hl
theorem g_tswd (hc : gC ω κ cc nL own ret rm) {x : Int32} {dflt lo hi : Int} {offs : Array Int} {len tgt : Nat} (hd : decode cc pc = .ok (.tableswitch dflt lo hi offs, len)) (hv : x.toInt < lo ∨ hi < x.toInt) (ht : (pc : Int) + dflt = (tgt : Int)) (k : gG ω κ nL out tgt lv rest S X) : gG ω κ nL out pc lv (.int x :: rest) S X := by
  obtain ⟨p, l, e, R, s, m, args, below, meth, c, A⟩ := κ
  intro H locs ls hP hD hS hl
  exact lv_tableOut hc.1 hc.2.1 hd hv ht (k H locs ls hP hD hS hl)
theorem g_lsw (hc : gC ω κ cc nL own ret rm) {x : Int32} (v : Int32) {dflt off : Int} {ps : Array (Int × Int)} {len tgt : Nat} {X1 X2 : ρ × gSt} {dc : Decidable (x = v)} (hd : decode cc pc = .ok (.lookupswitch dflt ps, len)) (hp : (ps.toList.zip (ps.toList.drop 1)).all (fun (a, next) => a.1 < next.1) = true) (hv : Op.lookupswitch.offset ps.toList dflt v.toInt = off) (ht : (pc : Int) + off = (tgt : Int)) (kt : x = v → gG ω κ nL out tgt lv rest S X1) (kf : ¬ x = v → gG ω κ nL out pc lv (.int x :: rest) S X2) : gG ω κ nL out pc lv (.int x :: rest) S (ite (x = v) X1 X2) := by
  obtain ⟨p, l, e, R, s, m, args, below, meth, c, A⟩ := κ
  intro H locs ls hP hD hS hl
  by_cases h : x = v
  · rw [if_pos h]
    have h2 := h
    subst h
    exact lv_lookup hc.1 hc.2.1 hd hp hv ht (kt h2 H locs ls hP hD hS hl)
  · rw [if_neg h]
    exact kf h H locs ls hP hD hS hl
theorem g_lswd (hc : gC ω κ cc nL own ret rm) {x : Int32} {dflt off : Int} {ps : Array (Int × Int)} {len tgt : Nat} (hd : decode cc pc = .ok (.lookupswitch dflt ps, len)) (hp : (ps.toList.zip (ps.toList.drop 1)).all (fun (a, next) => a.1 < next.1) = true) (hv : Op.lookupswitch.offset ps.toList dflt x.toInt = off) (ht : (pc : Int) + off = (tgt : Int)) (k : gG ω κ nL out tgt lv rest S X) : gG ω κ nL out pc lv (.int x :: rest) S X := by
  obtain ⟨p, l, e, R, s, m, args, below, meth, c, A⟩ := κ
  intro H locs ls hP hD hS hl
  exact lv_lookup hc.1 hc.2.1 hd hp hv ht (k H locs ls hP hD hS hl)
theorem g_get (hc : gC ω κ cc nL own ret rm) {ref C : String} {T : u_T} {N ci i a : Nat} {v : Value} {fs : List Value} (q0 k : Nat) (hin : ∀ w ∈ u_ws C T N, w ∈ WT) (hm : Cond.fieldLink own i ref (T k).2.1 (T k).2.2.1 ∈ WT) (hr : (T k).1 = ref ∨ Cond.sameField ref (T k).1 (T k).2.1 (T k).2.2.1 ∈ WT) (hk : k < N) (he : (ω.1 S)[q0]? = some (a, .inr (ci, fs))) (hcl : vwCl[ci]? = some (C, T, N)) (hv : fs[k]? = some v) (hd : decode cc pc = .ok (.getfield i, 3)) (kk : gG ω κ nL out (pc + 3) lv (v :: rest) S X) : gG ω κ nL out pc lv (.ref a :: rest) S X := by
  obtain ⟨p, l, e, R, s, m, args, below, meth, c, A⟩ := κ
  intro H locs ls hP hD hS hl
  have hsm : ∀ x, s.fieldFound? (T k).1 (T k).2.1 (T k).2.2.1 = some x → s.fieldFound? ref (T k).2.1 (T k).2.2.1 = some x := fun x hx => hr.elim (fun h => h ▸ hx) (fun h => u_same (hc.2.2.2.2.1 _ h) x hx)
  exact va_get hc.1 hc.2.1 hc.2.2.2.2.1 hin hc.2.2.2.1 hc.2.2.2.2.2.1 hP q0 he hcl k hk (hc.2.2.2.2.1 _ hm) hsm hv hd (kk H locs ls hP hD hS hl)
theorem g_getN (hc : gC ω κ cc nL own ret rm) {ref C host : String} {T : u_T} {N ci i a : Nat} {v : Value} {fs : List Value} (q0 k : Nat) (hin : ∀ w ∈ u_ws C T N, w ∈ WT) (hm : ∀ (A : Nat → Prop) (U : State) (H : Heap), ω.2.2.2 A U H → va_Nw (.fieldLinkNest own i ref (T k).2.1 (T k).2.2.1 host) U) (hr : (T k).1 = ref ∨ Cond.sameField ref (T k).1 (T k).2.1 (T k).2.2.1 ∈ WT) (hk : k < N) (he : (ω.1 S)[q0]? = some (a, .inr (ci, fs))) (hcl : vwCl[ci]? = some (C, T, N)) (hv : fs[k]? = some v) (hd : decode cc pc = .ok (.getfield i, 3)) (kk : gG ω κ nL out (pc + 3) lv (v :: rest) S X) : gG ω κ nL out pc lv (.ref a :: rest) S X := by
  obtain ⟨p, l, e, R, s, m, args, below, meth, c, A⟩ := κ
  intro H locs ls hP hD hS hl
  have hsm : ∀ x, s.fieldFound? (T k).1 (T k).2.1 (T k).2.2.1 = some x → s.fieldFound? ref (T k).2.1 (T k).2.2.1 = some x := fun x hx => hr.elim (fun h => h ▸ hx) (fun h => u_same (hc.2.2.2.2.1 _ h) x hx)
  exact va_getN hc.1 hc.2.1 hc.2.2.2.2.1 hin hc.2.2.2.1 hc.2.2.2.2.2.1 hP q0 he hcl k hk (va_Nw.use rfl (hm _ _ _ hc.2.2.2.2.2.2.2.2.2.2.1)) hsm hv hd (kk H locs ls hP hD hS hl)
theorem g_put (hc : gC ω κ cc nL own ret rm) {ref C : String} {T : u_T} {N ci i a : Nat} {v : Value} {fs : List Value} {ty0 : Nat → FieldType} {ty : FieldType} {S2 : gSt} {F : gSt → ρ × gSt} (q0 k : Nat) (hin : ∀ w ∈ u_ws C T N, w ∈ WT) (hty : ∀ k, k < N → parseFieldDescriptor (T k).2.2.1 = some (ty0 k)) (hnm : ∀ a, a < N → ∀ b, b < N → a ≠ b → (T a).2.1 ≠ (T b).2.1) (hm : Cond.fieldLink own i ref (T k).2.1 (T k).2.2.1 ∈ WT) (hr : (T k).1 = ref ∨ Cond.sameField ref (T k).1 (T k).2.1 (T k).2.2.1 ∈ WT) (hk : k < N) (he : (ω.1 S)[q0]? = some (a, .inr (ci, fs))) (hcl : vwCl[ci]? = some (C, T, N)) (hfin : (T k).2.2.2 = false) (hty2 : ty0 k = ty) (hn : narrow ty v = v) (hfit : fits ty v = true) (hlf : k < fs.length) (hw : (ω.1 S).set q0 (a, .inr (ci, fs.set k v)) = ω.1 S2) (hd : decode cc pc = .ok (.putfield i, 3)) (kk : ∀ S1 : gSt, S1 = S2 → gG ω κ nL out (pc + 3) lv rest S1 (F S1)) : gG ω κ nL out pc lv (v :: .ref a :: rest) S (gL S2 F) := by
  obtain ⟨p, l, e, R, s, m, args, below, meth, c, A⟩ := κ
  intro H locs ls hP hD hS hl
  have hsm : ∀ x, s.fieldFound? (T k).1 (T k).2.1 (T k).2.2.1 = some x → s.fieldFound? ref (T k).2.1 (T k).2.2.1 = some x := fun x hx => hr.elim (fun h => h ▸ hx) (fun h => u_same (hc.2.2.2.2.1 _ h) x hx)
  refine va_put hc.1 hc.2.1 hc.2.2.2.2.1 hin ty0 hty hnm hc.2.2.2.1 hc.2.2.2.2.2.1 hP hD hS q0 he hcl k hk (hc.2.2.2.2.1 _ hm) hsm hfin ((hty k hk).trans (congrArg some hty2)) hn hfit hlf hd (fun H1 locs1 hP1 hD1 hS1 => ?_)
  rw [hw] at hP1 hD1
  exact kk S2 rfl H1 locs1 ls hP1 hD1 hS1 hl
theorem g_iald (hc : gC ω κ cc nL own ret rm) {cA : ClassId} {n a : Nat} {f : Nat → Int32} {i : Int32} (q0 t0 : Nat) (he : (ω.1 S)[q0]? = some (a, .inl (cA, n, .inl f))) (ht : ω.2.2.1[t0]? = some (cA, .int)) (hin : vp_in i n) (hd : decode cc pc = .ok (.iaload, 1)) (kk : gG ω κ nL out (pc + 1) lv (.int (f i.toNatClampNeg) :: rest) S X) : gG ω κ nL out pc lv (.int i :: .ref a :: rest) S X := by
  obtain ⟨p, l, e, R, s, m, args, below, meth, c, A⟩ := κ
  intro H locs ls hP hD hS hl
  exact va_iald hc.1 hc.2.1 hc.2.2.2.2.2.1 hP q0 t0 he ht hin hd (kk H locs ls hP hD hS hl)
theorem g_iast (hc : gC ω κ cc nL own ret rm) {cA : ClassId} {n a : Nat} {f : Nat → Int32} {i x : Int32} {S2 : gSt} {F : gSt → ρ × gSt} (q0 t0 : Nat) (he : (ω.1 S)[q0]? = some (a, .inl (cA, n, .inl f))) (ht : ω.2.2.1[t0]? = some (cA, .int)) (hin : vp_in i n) (hw : (ω.1 S).set q0 (a, .inl (cA, n, .inl (upd f i.toNatClampNeg x))) = ω.1 S2) (hd : decode cc pc = .ok (.iastore, 1)) (kk : ∀ S1 : gSt, S1 = S2 → gG ω κ nL out (pc + 1) lv rest S1 (F S1)) : gG ω κ nL out pc lv (.int x :: .int i :: .ref a :: rest) S (gL S2 F) := by
  obtain ⟨p, l, e, R, s, m, args, below, meth, c, A⟩ := κ
  intro H locs ls hP hD hS hl
  refine va_iast hc.1 hc.2.1 hc.2.2.2.2.2.1 hP hD hS q0 t0 he ht hin hd (fun H1 locs1 hP1 hD1 hS1 => ?_)
  rw [hw] at hP1 hD1
  exact kk S2 rfl H1 locs1 ls hP1 hD1 hS1 hl
theorem g_zald (hc : gC ω κ cc nL own ret rm) {cA : ClassId} {n a : Nat} {f : Nat → Int32} {i : Int32} (q0 t0 : Nat) (he : (ω.1 S)[q0]? = some (a, .inl (cA, n, .inl f))) (ht : ω.2.2.1[t0]? = some (cA, .boolean)) (hin : vp_in i n) (hd : decode cc pc = .ok (.baload, 1)) (kk : gG ω κ nL out (pc + 1) lv (.int (f i.toNatClampNeg) :: rest) S X) : gG ω κ nL out pc lv (.int i :: .ref a :: rest) S X := by
  obtain ⟨p, l, e, R, s, m, args, below, meth, c, A⟩ := κ
  intro H locs ls hP hD hS hl
  exact va_zald hc.1 hc.2.1 hc.2.2.2.2.2.1 hP q0 t0 he ht hin hd (kk H locs ls hP hD hS hl)
theorem g_zast (hc : gC ω κ cc nL own ret rm) {cA : ClassId} {n a : Nat} {f : Nat → Int32} {i x : Int32} {S2 : gSt} {F : gSt → ρ × gSt} (q0 t0 : Nat) (he : (ω.1 S)[q0]? = some (a, .inl (cA, n, .inl f))) (ht : ω.2.2.1[t0]? = some (cA, .boolean)) (hin : vp_in i n) (hx : vp_nar .boolean x = x) (hw : (ω.1 S).set q0 (a, .inl (cA, n, .inl (upd f i.toNatClampNeg x))) = ω.1 S2) (hd : decode cc pc = .ok (.bastore, 1)) (kk : ∀ S1 : gSt, S1 = S2 → gG ω κ nL out (pc + 1) lv rest S1 (F S1)) : gG ω κ nL out pc lv (.int x :: .int i :: .ref a :: rest) S (gL S2 F) := by
  obtain ⟨p, l, e, R, s, m, args, below, meth, c, A⟩ := κ
  intro H locs ls hP hD hS hl
  refine va_zast hc.1 hc.2.1 hc.2.2.2.2.2.1 hP hD hS q0 t0 he ht hin hd (fun H1 locs1 hP1 hD1 hS1 => ?_)
  rw [hx, hw] at hP1 hD1
  exact kk S2 rfl H1 locs1 ls hP1 hD1 hS1 hl
theorem g_gets (hc : gC ω κ cc nL own ret rm) {C n d ref : String} {i t : Nat} (hZ : ∀ (A : Nat → Prop) (U : State) (H : Heap), ω.2.2.2 A U H → va_Z C n d (.ref t) A U H) (hm : Cond.fieldLink own i ref n d ∈ WT) (hr : C = ref) (hd : decode cc pc = .ok (.getstatic i, 3)) (kk : gG ω κ nL out (pc + 3) lv (.ref t :: rest) S X) : gG ω κ nL out pc lv rest S X := by
  obtain ⟨p, l, e, R, s, m, args, below, meth, c, A⟩ := κ
  intro H locs ls hP hD hS hl
  subst hr
  exact va_gets hc.1 hc.2.1 (hZ _ _ _ hc.2.2.2.2.2.2.2.2.2.2.1) hS hc.2.2.2.1 (hc.2.2.2.2.1 _ hm) (fun _ h => h) hd (kk H locs ls hP hD hS hl)
theorem g_ti (hc : gC ω κ cc nL own ret rm) {t N : Nat} {f : Nat → Value} {i : Int32} {v : Value} (hT : ∀ (A : Nat → Prop) (U : State) (H : Heap), ω.2.2.2 A U H → va_T .int t N f A U H) (hin : vp_in i N) (hv : f i.toNatClampNeg = v) (hd : decode cc pc = .ok (.iaload, 1)) (kk : gG ω κ nL out (pc + 1) lv (v :: rest) S X) : gG ω κ nL out pc lv (.int i :: .ref t :: rest) S X := by
  obtain ⟨p, l, e, R, s, m, args, below, meth, c, A⟩ := κ
  intro H locs ls hP hD hS hl
  exact va_ti hc.1 hc.2.1 (hT _ _ _ hc.2.2.2.2.2.2.2.2.2.2.1) hS hin hv hd (kk H locs ls hP hD hS hl)
theorem g_mmin (hc : gC ω κ cc nL own ret rm) {x y : Int32} {i : Nat} (h1 : Cond.methodLink own i Lib.Math.min.name ∈ WT) (h2 : Cond.static Lib.Math.min.name ∈ WT) (h3 : Cond.initialized "java/lang/Math" ∈ WT) (h4 : Cond.code Lib.Math.min.name Lib.Math.min.code 2 (some .int) ∈ WT) (hR : 1 ≤ rm.frames ∧ (rest.map fun v => v.category).sum + 13 ≤ rm.locals) (hd : decode cc pc = .ok (.invokestatic i, 3)) (kk : gG ω κ nL out (pc + 3) lv (.int (if y < x then y else x) :: rest) S X) : gG ω κ nL out pc lv (.int y :: .int x :: rest) S X := by
  obtain ⟨p, l, e, R, s, m, args, below, meth, c, A⟩ := κ
  intro H locs ls hP hD hS hl
  obtain ⟨hx, hb, hml, hown, hts, hK, hA, hr, hlk, rfl, hZ, hz⟩ := hc
  exact va_mmin hx hb (hml.trans hl.1.symm) hown (hts _ h1) (hts _ h2) (hts _ h3) (hts _ h4) hR.1 hR.2 (Nat.zero_le _) (Nat.zero_le _) hd (kk H locs ls hP hD hS hl)
theorem g_iret {S : gSt} {v : Int32} (hc : gC ω κ cc nL own (some .int) rm) (hd : decode cc pc = .ok (.ireturn, 1)) : gG ω κ nL oI pc lv [.int v] S (v, S) := by
  obtain ⟨p, l, e, R, s, m, args, below, meth, c, A⟩ := κ
  intro H locs ls hP hD hS hl
  exact W.iret hc.1 hc.2.1 hc.2.2.2.2.2.2.2.1 (fun t ht hW => ⟨⟨rfl, by rw [ht]; exact hP, va_K.moved hW.alike hc.2.2.2.2.2.1, hD⟩, hS.F ht⟩) hS.2.2 hd hc.2.2.2.2.2.2.2.2.1
theorem g_zret {S : gSt} {b : Bool} {v : Int32} (hc : gC ω κ cc nL own (some .boolean) rm) (hv : bI b = v) (hd : decode cc pc = .ok (.ireturn, 1)) : gG ω κ nL oZ pc lv [.int v] S (b, S) := by
  subst hv
  obtain ⟨p, l, e, R, s, m, args, below, meth, c, A⟩ := κ
  intro H locs ls hP hD hS hl
  exact W.zret hc.1 hc.2.1 hc.2.2.2.2.2.2.2.1 (bI_nar b) (fun t ht hW => ⟨⟨rfl, by rw [ht]; exact hP, va_K.moved hW.alike hc.2.2.2.2.2.1, hD⟩, hS.F ht⟩) hS.2.2 hd hc.2.2.2.2.2.2.2.2.1
theorem g_vret {S : gSt} (hc : gC ω κ cc nL own none rm) (hd : decode cc pc = .ok (.return_, 1)) : gG ω κ nL oV pc lv [] S ((), S) := by
  obtain ⟨p, l, e, R, s, m, args, below, meth, c, A⟩ := κ
  intro H locs ls hP hD hS hl
  exact W.vret hc.1 hc.2.1 hc.2.2.2.2.2.2.2.1 (fun t ht hW => ⟨⟨rfl, by rw [ht]; exact hP, va_K.moved hW.alike hc.2.2.2.2.2.1, hD⟩, hS.F ht⟩) hS.2.2 hd hc.2.2.2.2.2.2.2.2.1
/-- behind a call -/
theorem g_back {o : Option Value} {S2 : gSt} {st : List Value} {p : Program} {l : Launch} {e : Env} {R : Room} {s : State} {m : MethodId} {args : Array Value} {below : List Frame} {meth : Method} {c : Code} {A : Nat → Prop} {H : Heap} {locs : List Loc} {ls : Array Slot} {a : Array Value}
    (hA : ∀ q, s.heap.size ≤ q → A q) (hD : va_D A (ω.1 S)) (hS : va_S A s.heap H locs) (hl : lv_has ls nL lv)
    (run : va_Run p l e R s m args below meth c H locs 0 0 0 0 (F0 m pc ls st) rest (gQ ω o S2 (va_A (ω.1 S) H.size) a) (va_A (ω.1 S) H.size))
    (kk : gG ω (p, l, e, R, s, m, args, below, meth, c, A) nL out (pc + 3) lv (o.toList ++ rest) S2 X) : W p l e R s m args below meth c H locs 0 0 (MQ below (gQ ω (out X.1) X.2 A) args s 0 0 A) (F0 m pc ls st) := by
  intro T hT Y
  obtain ⟨v, st₀, t, T', L, h0, X', hL, e1, e2, ⟨⟨hv, hP1, hK1, hD1⟩, hz, hk⟩, stp⟩ := run T hT Y
  cases hv
  have hF : ∀ q, va_A (ω.1 S) H.size q → A q := fun q h => h.elim (fun ⟨k, e, hk⟩ => hD.2 k (q, e) hk) (fun h => hA q (Nat.le_trans hS.1 h))
  rw [h0] at hz hk
  obtain ⟨t2, a1, b1⟩ := kk T'.heap (locs ++ L) ls (by rw [e1]; exact hP1) (hD1.weaken (fun k q _ h => hF q.1 h))
    ⟨Nat.le_trans hS.1 (by rw [e1]; exact hz), fun q h1 h2 => by rw [e1, hk q (Nat.lt_of_lt_of_le h1 hS.1) (fun z => h2 (hF q z))]; exact hS.2.1 q h1 h2, fun q hq => by
      rcases List.mem_append.mp hq with h | h
      · exact hS.2.2 q h
      · exact hF _ (hL q h)⟩ hl T' rfl X'
  exact ⟨t2, stp t2 a1, b1⟩
theorem g_pre {S : gSt} {s : State} {A : Nat → Prop} {H : Heap} {locs : List Loc} {av : List Value} (hz : gZok ω.2.2.2) (hK : va_K ω.2.1 vwCl ω.2.2.1 s) (hA : ∀ q, s.heap.size ≤ q → A q) (hZ : ω.2.2.2 A s s.heap) (hP : va_P ω.2.1 vwCl (ω.1 S) H) (hD : va_D A (ω.1 S)) (hS : va_S A s.heap H locs) : PreS s H (va_Pc av (gPre ω S H.size)) av := by
  have hF : ∀ q, va_A (ω.1 S) H.size q → A q := fun q h => h.elim (fun ⟨k, e, hk⟩ => hD.2 k (q, e) hk) (fun h => hA q (Nat.le_trans hS.1 h))
  refine ⟨fun a U g mk q => ?_, fun U hU hW => ⟨rfl, by rw [hU], by rw [hU]; exact hP, va_K.moved hW.alike hK, ⟨hD.1, fun _ _ _ => trivial⟩, ?_⟩⟩
  · obtain ⟨q0, q1, qP, qK, qD, qZ⟩ := q
    exact ⟨q0, q1, qP, va_K.moved (u := U) (U := U.calling g mk a) (Vm.Alike.refl U.vm) qK, qD, hz.1 _ U (U.calling g mk a) _ (State.WarmedH.refl U) qZ⟩
  · rw [hU]
    exact hz.2.2 A _ U H hF (hz.1 A s U H hW (hz.2.1 A s s.heap H hS.2.1 hZ))
theorem g_lv (ks : List Nat) {lv' : List (Nat × Value)} {st : List Value} (h : lv_pick lv ks = lv') (k : gG ω κ nL out pc lv' st S X) : gG ω κ nL out pc lv st S X := by
  obtain ⟨p, l, e, R, s, m, args, below, meth, c, A⟩ := κ
  intro H locs ls hP hD hS hl
  exact k H locs ls hP hD hS (lv_sub hl ks h)
theorem g_callVI (hc : gC ω κ cc nL own ret rm) (q0 : Nat) {y : MethodName} {rmy : Room} {by_ : ByteArray} {mL i b ci na : Nat} {rety : Option FieldType} {C : String} {T : u_T} {N : Nat} {fs st : List Value} {Pr : Int32 × gSt} {F : Int32 → gSt → ρ × gSt} (As : List Value) (hM : ∀ l, gMet l y by_ mL rety rmy ω (.ref b :: As) S (oI Pr.1) Pr.2) (h1 : Cond.methodLink own i y ∈ WT) (hg : g_callee C y by_ mL rety na) (hn : As.length = na) (hr0 : rmy.cells = 0 ∧ rmy.slots = 0)
    (hR : rmy.frames + 1 ≤ rm.frames ∧ 8 + (mL + 11) + rmy.locals ≤ rm.locals) (he : (ω.1 S)[q0]? = some (b, .inr (ci, fs))) (hcl : vwCl[ci]? = some (C, T, N)) (hst : st = As.reverse ++ .ref b :: rest) (hcat : (rest.map fun v => v.category).sum ≤ 8) (hd : decode cc pc = .ok (.invokevirtual i, 3))
    (kk : ∀ (r : Int32) (S1 : gSt), r = Pr.1 → S1 = Pr.2 → gG ω κ nL out (pc + 3) lv (.int r :: rest) S1 (F r S1)) : gG ω κ nL out pc lv st S (gB Pr F) := by
  obtain ⟨p, l, e, R, s, m, args, below, meth, c, A⟩ := κ
  intro H locs ls hP hD hS hl
  obtain ⟨hx, hb, hml, hown, hts, hK, hA, hr, hlk, rfl, hZ, hz⟩ := hc
  obtain ⟨hb1, hp1⟩ := g_pre (av := .ref b :: As) hz hK hA hZ hP hD hS
  exact g_back hA hD hS hl (va_runV (As := As) (rest := rest) ⟨hx, hb, hml, hown, hts⟩ (hM l H.size) (cwV na hts (g_inV h1 hg) rfl hr0.1 hr0.2 hg.1 hR) ⟨hb1, va_recv hK hP hcl he, hp1⟩ rfl hn hl.1 hst (by simpa [JFrame.monitorRoom] using hcat) hd ⟨Nat.zero_le _, Nat.zero_le _⟩) (kk Pr.1 Pr.2 rfl rfl)
theorem g_callUI (hc : gC ω κ cc nL own ret rm) (q0 : Nat) {x y : MethodName} {rmy : Room} {by_ : ByteArray} {mL i b ci na : Nat} {rety : Option FieldType} {C owner : String} {T : u_T} {N : Nat} {fs st : List Value} {Pr : Int32 × gSt} {F : Int32 → gSt → ρ × gSt} (As : List Value) (hM : ∀ l, gMet l y by_ mL rety rmy ω (.ref b :: As) S (oI Pr.1) Pr.2) (h1 : Cond.methodLink own i x ∈ WT) (h2 : Cond.sameMethod x.cls owner x.name x.desc ∈ WT) (h3 : Cond.selects C x y ∈ WT) (hg : g_calleeU owner x y by_ mL rety na) (hn : As.length = na) (hr0 : rmy.cells = 0 ∧ rmy.slots = 0)
    (hdec : ∀ (A : Nat → Prop) (U : State) (H : Heap), ω.2.2.2 A U H → va_Nw (.declares ⟨owner, x.name, x.desc⟩) U) (hR : rmy.frames + 1 ≤ rm.frames ∧ 8 + (mL + 11) + rmy.locals ≤ rm.locals) (he : (ω.1 S)[q0]? = some (b, .inr (ci, fs))) (hcl : vwCl[ci]? = some (C, T, N)) (hst : st = As.reverse ++ .ref b :: rest) (hcat : (rest.map fun v => v.category).sum ≤ 8) (hd : decode cc pc = .ok (.invokevirtual i, 3))
    (kk : ∀ (r : Int32) (S1 : gSt), r = Pr.1 → S1 = Pr.2 → gG ω κ nL out (pc + 3) lv (.int r :: rest) S1 (F r S1)) : gG ω κ nL out pc lv st S (gB Pr F) := by
  obtain ⟨p, l, e, R, s, m, args, below, meth, c, A⟩ := κ
  intro H locs ls hP hD hS hl
  obtain ⟨hx, hb, hml, hown, hts, hK, hA, hr, hlk, rfl, hZ, hz⟩ := hc
  obtain ⟨hb1, hp1⟩ := g_pre (av := .ref b :: As) hz hK hA hZ hP hD hS
  exact g_back hA hD hS hl (va_runU (As := As) (rest := rest) ⟨hx, hb, hml, hown, hts⟩ (hM l H.size) (va_cwA na hts (g_inU h1 h2 h3 hg) rfl hr0.1 hr0.2 (hdec _ _ _ hZ) hg.1 hR) ⟨hb1, va_recv hK hP hcl he, hp1⟩ rfl hn hl.1 hst (by simpa [JFrame.monitorRoom] using hcat) hd ⟨Nat.zero_le _, Nat.zero_le _⟩) (kk Pr.1 Pr.2 rfl rfl)
theorem g_callWI (hc : gC ω κ cc nL own ret rm) (q0 : Nat) {x y : MethodName} {rmy : Room} {by_ : ByteArray} {mL i b ci na : Nat} {rety : Option FieldType} {C owner : String} {T : u_T} {N : Nat} {fs st : List Value} {Pr : Int32 × gSt} {F : Int32 → gSt → ρ × gSt} (As : List Value) (hM : ∀ l, gMet l y by_ mL rety rmy ω (.ref b :: As) S (oI Pr.1) Pr.2) (h1 : Cond.methodLink own i x ∈ WT) (h2 : Cond.sameMethod x.cls owner x.name x.desc ∈ WT) (h3 : Cond.selects C x y ∈ WT) (hg : g_calleeU owner x y by_ mL rety na) (hn : As.length = na) (hr0 : rmy.cells = 0 ∧ rmy.slots = 0)
    (hyx : y = ⟨owner, x.name, x.desc⟩) (hR : rmy.frames + 1 ≤ rm.frames ∧ 8 + (mL + 11) + rmy.locals ≤ rm.locals) (he : (ω.1 S)[q0]? = some (b, .inr (ci, fs))) (hcl : vwCl[ci]? = some (C, T, N)) (hst : st = As.reverse ++ .ref b :: rest) (hcat : (rest.map fun v => v.category).sum ≤ 8) (hd : decode cc pc = .ok (.invokevirtual i, 3))
    (kk : ∀ (r : Int32) (S1 : gSt), r = Pr.1 → S1 = Pr.2 → gG ω κ nL out (pc + 3) lv (.int r :: rest) S1 (F r S1)) : gG ω κ nL out pc lv st S (gB Pr F) := by
  obtain ⟨p, l, e, R, s, m, args, below, meth, c, A⟩ := κ
  intro H locs ls hP hD hS hl
  obtain ⟨hx, hb, hml, hown, hts, hK, hA, hr, hlk, rfl, hZ, hz⟩ := hc
  obtain ⟨hb1, hp1⟩ := g_pre (av := .ref b :: As) hz hK hA hZ hP hD hS
  exact g_back hA hD hS hl (va_runU (As := As) (rest := rest) ⟨hx, hb, hml, hown, hts⟩ (hM l H.size) (va_cwU na hts (g_inU h1 h2 h3 hg) rfl hr0.1 hr0.2 hyx hg.1 hR) ⟨hb1, va_recv hK hP hcl he, hp1⟩ rfl hn hl.1 hst (by simpa [JFrame.monitorRoom] using hcat) hd ⟨Nat.zero_le _, Nat.zero_le _⟩) (kk Pr.1 Pr.2 rfl rfl)
theorem g_callSI (hc : gC ω κ cc nL own ret rm) {y : MethodName} {rmy : Room} {by_ : ByteArray} {mL i na : Nat} {rety : Option FieldType} {st : List Value} {Pr : Int32 × gSt} {F : Int32 → gSt → ρ × gSt} (As : List Value) (hM : ∀ l, gMet l y by_ mL rety rmy ω As S (oI Pr.1) Pr.2) (h1 : Cond.methodLink own i y ∈ WT) (hg : g_calleeS own y by_ mL rety na) (hn : As.length = na) (hr0 : rmy.cells = 0 ∧ rmy.slots = 0)
    (hR : rmy.frames + 1 ≤ rm.frames ∧ 8 + (mL + 11) + rmy.locals ≤ rm.locals) (hst : st = As.reverse ++ rest) (hcat : (rest.map fun v => v.category).sum ≤ 8) (hd : decode cc pc = .ok (.invokestatic i, 3))
    (kk : ∀ (r : Int32) (S1 : gSt), r = Pr.1 → S1 = Pr.2 → gG ω κ nL out (pc + 3) lv (.int r :: rest) S1 (F r S1)) : gG ω κ nL out pc lv st S (gB Pr F) := by
  obtain ⟨p, l, e, R, s, m, args, below, meth, c, A⟩ := κ
  intro H locs ls hP hD hS hl
  obtain ⟨hx, hb, hml, hown, hts, hK, hA, hr, hlk, rfl, hZ, hz⟩ := hc
  exact g_back hA hD hS hl (va_runS (As := As) (rest := rest) ⟨hx, hb, hml, hown, hts⟩ (hM l H.size) (cwS na hts (g_inS h1 hg) rfl hr0.1 hr0.2 hg.1 hR) (g_pre (av := As) hz hK hA hZ hP hD hS) rfl hn hl.1 hst (by simpa [JFrame.monitorRoom] using hcat) hd ⟨Nat.zero_le _, Nat.zero_le _⟩) (kk Pr.1 Pr.2 rfl rfl)
theorem g_callVZ (hc : gC ω κ cc nL own ret rm) (q0 : Nat) {y : MethodName} {rmy : Room} {by_ : ByteArray} {mL i b ci na : Nat} {rety : Option FieldType} {C : String} {T : u_T} {N : Nat} {fs st : List Value} {Pr : Bool × gSt} {F : Bool → gSt → ρ × gSt} (As : List Value) (hM : ∀ l, gMet l y by_ mL rety rmy ω (.ref b :: As) S (oZ Pr.1) Pr.2) (h1 : Cond.methodLink own i y ∈ WT) (hg : g_callee C y by_ mL rety na) (hn : As.length = na) (hr0 : rmy.cells = 0 ∧ rmy.slots = 0)
    (hR : rmy.frames + 1 ≤ rm.frames ∧ 8 + (mL + 11) + rmy.locals ≤ rm.locals) (he : (ω.1 S)[q0]? = some (b, .inr (ci, fs))) (hcl : vwCl[ci]? = some (C, T, N)) (hst : st = As.reverse ++ .ref b :: rest) (hcat : (rest.map fun v => v.category).sum ≤ 8) (hd : decode cc pc = .ok (.invokevirtual i, 3))
    (kk : ∀ (r : Bool) (S1 : gSt), r = Pr.1 → S1 = Pr.2 → gG ω κ nL out (pc + 3) lv (.int (bI r) :: rest) S1 (F r S1)) : gG ω κ nL out pc lv st S (gB Pr F) := by
  obtain ⟨p, l, e, R, s, m, args, below, meth, c, A⟩ := κ
  intro H locs ls hP hD hS hl
  obtain ⟨hx, hb, hml, hown, hts, hK, hA, hr, hlk, rfl, hZ, hz⟩ := hc
  obtain ⟨hb1, hp1⟩ := g_pre (av := .ref b :: As) hz hK hA hZ hP hD hS
  exact g_back hA hD hS hl (va_runV (As := As) (rest := rest) ⟨hx, hb, hml, hown, hts⟩ (hM l H.size) (cwV na hts (g_inV h1 hg) rfl hr0.1 hr0.2 hg.1 hR) ⟨hb1, va_recv hK hP hcl he, hp1⟩ rfl hn hl.1 hst (by simpa [JFrame.monitorRoom] using hcat) hd ⟨Nat.zero_le _, Nat.zero_le _⟩) (kk Pr.1 Pr.2 rfl rfl)
theorem g_callUZ (hc : gC ω κ cc nL own ret rm) (q0 : Nat) {x y : MethodName} {rmy : Room} {by_ : ByteArray} {mL i b ci na : Nat} {rety : Option FieldType} {C owner : String} {T : u_T} {N : Nat} {fs st : List Value} {Pr : Bool × gSt} {F : Bool → gSt → ρ × gSt} (As : List Value) (hM : ∀ l, gMet l y by_ mL rety rmy ω (.ref b :: As) S (oZ Pr.1) Pr.2) (h1 : Cond.methodLink own i x ∈ WT) (h2 : Cond.sameMethod x.cls owner x.name x.desc ∈ WT) (h3 : Cond.selects C x y ∈ WT) (hg : g_calleeU owner x y by_ mL rety na) (hn : As.length = na) (hr0 : rmy.cells = 0 ∧ rmy.slots = 0)
    (hdec : ∀ (A : Nat → Prop) (U : State) (H : Heap), ω.2.2.2 A U H → va_Nw (.declares ⟨owner, x.name, x.desc⟩) U) (hR : rmy.frames + 1 ≤ rm.frames ∧ 8 + (mL + 11) + rmy.locals ≤ rm.locals) (he : (ω.1 S)[q0]? = some (b, .inr (ci, fs))) (hcl : vwCl[ci]? = some (C, T, N)) (hst : st = As.reverse ++ .ref b :: rest) (hcat : (rest.map fun v => v.category).sum ≤ 8) (hd : decode cc pc = .ok (.invokevirtual i, 3))
    (kk : ∀ (r : Bool) (S1 : gSt), r = Pr.1 → S1 = Pr.2 → gG ω κ nL out (pc + 3) lv (.int (bI r) :: rest) S1 (F r S1)) : gG ω κ nL out pc lv st S (gB Pr F) := by
  obtain ⟨p, l, e, R, s, m, args, below, meth, c, A⟩ := κ
  intro H locs ls hP hD hS hl
  obtain ⟨hx, hb, hml, hown, hts, hK, hA, hr, hlk, rfl, hZ, hz⟩ := hc
  obtain ⟨hb1, hp1⟩ := g_pre (av := .ref b :: As) hz hK hA hZ hP hD hS
  exact g_back hA hD hS hl (va_runU (As := As) (rest := rest) ⟨hx, hb, hml, hown, hts⟩ (hM l H.size) (va_cwA na hts (g_inU h1 h2 h3 hg) rfl hr0.1 hr0.2 (hdec _ _ _ hZ) hg.1 hR) ⟨hb1, va_recv hK hP hcl he, hp1⟩ rfl hn hl.1 hst (by simpa [JFrame.monitorRoom] using hcat) hd ⟨Nat.zero_le _, Nat.zero_le _⟩) (kk Pr.1 Pr.2 rfl rfl)
theorem g_callWZ (hc : gC ω κ cc nL own ret rm) (q0 : Nat) {x y : MethodName} {rmy : Room} {by_ : ByteArray} {mL i b ci na : Nat} {rety : Option FieldType} {C owner : String} {T : u_T} {N : Nat} {fs st : List Value} {Pr : Bool × gSt} {F : Bool → gSt → ρ × gSt} (As : List Value) (hM : ∀ l, gMet l y by_ mL rety rmy ω (.ref b :: As) S (oZ Pr.1) Pr.2) (h1 : Cond.methodLink own i x ∈ WT) (h2 : Cond.sameMethod x.cls owner x.name x.desc ∈ WT) (h3 : Cond.selects C x y ∈ WT) (hg : g_calleeU owner x y by_ mL rety na) (hn : As.length = na) (hr0 : rmy.cells = 0 ∧ rmy.slots = 0)
    (hyx : y = ⟨owner, x.name, x.desc⟩) (hR : rmy.frames + 1 ≤ rm.frames ∧ 8 + (mL + 11) + rmy.locals ≤ rm.locals) (he : (ω.1 S)[q0]? = some (b, .inr (ci, fs))) (hcl : vwCl[ci]? = some (C, T, N)) (hst : st = As.reverse ++ .ref b :: rest) (hcat : (rest.map fun v => v.category).sum ≤ 8) (hd : decode cc pc = .ok (.invokevirtual i, 3))
    (kk : ∀ (r : Bool) (S1 : gSt), r = Pr.1 → S1 = Pr.2 → gG ω κ nL out (pc + 3) lv (.int (bI r) :: rest) S1 (F r S1)) : gG ω κ nL out pc lv st S (gB Pr F) := by
  obtain ⟨p, l, e, R, s, m, args, below, meth, c, A⟩ := κ
  intro H locs ls hP hD hS hl
  obtain ⟨hx, hb, hml, hown, hts, hK, hA, hr, hlk, rfl, hZ, hz⟩ := hc
  obtain ⟨hb1, hp1⟩ := g_pre (av := .ref b :: As) hz hK hA hZ hP hD hS
  exact g_back hA hD hS hl (va_runU (As := As) (rest := rest) ⟨hx, hb, hml, hown, hts⟩ (hM l H.size) (va_cwU na hts (g_inU h1 h2 h3 hg) rfl hr0.1 hr0.2 hyx hg.1 hR) ⟨hb1, va_recv hK hP hcl he, hp1⟩ rfl hn hl.1 hst (by simpa [JFrame.monitorRoom] using hcat) hd ⟨Nat.zero_le _, Nat.zero_le _⟩) (kk Pr.1 Pr.2 rfl rfl)
theorem g_callSZ (hc : gC ω κ cc nL own ret rm) {y : MethodName} {rmy : Room} {by_ : ByteArray} {mL i na : Nat} {rety : Option FieldType} {st : List Value} {Pr : Bool × gSt} {F : Bool → gSt → ρ × gSt} (As : List Value) (hM : ∀ l, gMet l y by_ mL rety rmy ω As S (oZ Pr.1) Pr.2) (h1 : Cond.methodLink own i y ∈ WT) (hg : g_calleeS own y by_ mL rety na) (hn : As.length = na) (hr0 : rmy.cells = 0 ∧ rmy.slots = 0)
    (hR : rmy.frames + 1 ≤ rm.frames ∧ 8 + (mL + 11) + rmy.locals ≤ rm.locals) (hst : st = As.reverse ++ rest) (hcat : (rest.map fun v => v.category).sum ≤ 8) (hd : decode cc pc = .ok (.invokestatic i, 3))
    (kk : ∀ (r : Bool) (S1 : gSt), r = Pr.1 → S1 = Pr.2 → gG ω κ nL out (pc + 3) lv (.int (bI r) :: rest) S1 (F r S1)) : gG ω κ nL out pc lv st S (gB Pr F) := by
  obtain ⟨p, l, e, R, s, m, args, below, meth, c, A⟩ := κ
  intro H locs ls hP hD hS hl
  obtain ⟨hx, hb, hml, hown, hts, hK, hA, hr, hlk, rfl, hZ, hz⟩ := hc
  exact g_back hA hD hS hl (va_runS (As := As) (rest := rest) ⟨hx, hb, hml, hown, hts⟩ (hM l H.size) (cwS na hts (g_inS h1 hg) rfl hr0.1 hr0.2 hg.1 hR) (g_pre (av := As) hz hK hA hZ hP hD hS) rfl hn hl.1 hst (by simpa [JFrame.monitorRoom] using hcat) hd ⟨Nat.zero_le _, Nat.zero_le _⟩) (kk Pr.1 Pr.2 rfl rfl)
theorem g_callVV (hc : gC ω κ cc nL own ret rm) (q0 : Nat) {y : MethodName} {rmy : Room} {by_ : ByteArray} {mL i b ci na : Nat} {rety : Option FieldType} {C : String} {T : u_T} {N : Nat} {fs st : List Value} {Pr : Unit × gSt} {F : Unit → gSt → ρ × gSt} (As : List Value) (hM : ∀ l, gMet l y by_ mL rety rmy ω (.ref b :: As) S (oV Pr.1) Pr.2) (h1 : Cond.methodLink own i y ∈ WT) (hg : g_callee C y by_ mL rety na) (hn : As.length = na) (hr0 : rmy.cells = 0 ∧ rmy.slots = 0)
    (hR : rmy.frames + 1 ≤ rm.frames ∧ 8 + (mL + 11) + rmy.locals ≤ rm.locals) (he : (ω.1 S)[q0]? = some (b, .inr (ci, fs))) (hcl : vwCl[ci]? = some (C, T, N)) (hst : st = As.reverse ++ .ref b :: rest) (hcat : (rest.map fun v => v.category).sum ≤ 8) (hd : decode cc pc = .ok (.invokevirtual i, 3))
    (kk : ∀ (r : Unit) (S1 : gSt), r = Pr.1 → S1 = Pr.2 → gG ω κ nL out (pc + 3) lv (rest) S1 (F r S1)) : gG ω κ nL out pc lv st S (gB Pr F) := by
  obtain ⟨p, l, e, R, s, m, args, below, meth, c, A⟩ := κ
  intro H locs ls hP hD hS hl
  obtain ⟨hx, hb, hml, hown, hts, hK, hA, hr, hlk, rfl, hZ, hz⟩ := hc
  obtain ⟨hb1, hp1⟩ := g_pre (av := .ref b :: As) hz hK hA hZ hP hD hS
  exact g_back hA hD hS hl (va_runV (As := As) (rest := rest) ⟨hx, hb, hml, hown, hts⟩ (hM l H.size) (cwV na hts (g_inV h1 hg) rfl hr0.1 hr0.2 hg.1 hR) ⟨hb1, va_recv hK hP hcl he, hp1⟩ rfl hn hl.1 hst (by simpa [JFrame.monitorRoom] using hcat) hd ⟨Nat.zero_le _, Nat.zero_le _⟩) (kk Pr.1 Pr.2 rfl rfl)
theorem g_callUV (hc : gC ω κ cc nL own ret rm) (q0 : Nat) {x y : MethodName} {rmy : Room} {by_ : ByteArray} {mL i b ci na : Nat} {rety : Option FieldType} {C owner : String} {T : u_T} {N : Nat} {fs st : List Value} {Pr : Unit × gSt} {F : Unit → gSt → ρ × gSt} (As : List Value) (hM : ∀ l, gMet l y by_ mL rety rmy ω (.ref b :: As) S (oV Pr.1) Pr.2) (h1 : Cond.methodLink own i x ∈ WT) (h2 : Cond.sameMethod x.cls owner x.name x.desc ∈ WT) (h3 : Cond.selects C x y ∈ WT) (hg : g_calleeU owner x y by_ mL rety na) (hn : As.length = na) (hr0 : rmy.cells = 0 ∧ rmy.slots = 0)
    (hdec : ∀ (A : Nat → Prop) (U : State) (H : Heap), ω.2.2.2 A U H → va_Nw (.declares ⟨owner, x.name, x.desc⟩) U) (hR : rmy.frames + 1 ≤ rm.frames ∧ 8 + (mL + 11) + rmy.locals ≤ rm.locals) (he : (ω.1 S)[q0]? = some (b, .inr (ci, fs))) (hcl : vwCl[ci]? = some (C, T, N)) (hst : st = As.reverse ++ .ref b :: rest) (hcat : (rest.map fun v => v.category).sum ≤ 8) (hd : decode cc pc = .ok (.invokevirtual i, 3))
    (kk : ∀ (r : Unit) (S1 : gSt), r = Pr.1 → S1 = Pr.2 → gG ω κ nL out (pc + 3) lv (rest) S1 (F r S1)) : gG ω κ nL out pc lv st S (gB Pr F) := by
  obtain ⟨p, l, e, R, s, m, args, below, meth, c, A⟩ := κ
  intro H locs ls hP hD hS hl
  obtain ⟨hx, hb, hml, hown, hts, hK, hA, hr, hlk, rfl, hZ, hz⟩ := hc
  obtain ⟨hb1, hp1⟩ := g_pre (av := .ref b :: As) hz hK hA hZ hP hD hS
  exact g_back hA hD hS hl (va_runU (As := As) (rest := rest) ⟨hx, hb, hml, hown, hts⟩ (hM l H.size) (va_cwA na hts (g_inU h1 h2 h3 hg) rfl hr0.1 hr0.2 (hdec _ _ _ hZ) hg.1 hR) ⟨hb1, va_recv hK hP hcl he, hp1⟩ rfl hn hl.1 hst (by simpa [JFrame.monitorRoom] using hcat) hd ⟨Nat.zero_le _, Nat.zero_le _⟩) (kk Pr.1 Pr.2 rfl rfl)
theorem g_callWV (hc : gC ω κ cc nL own ret rm) (q0 : Nat) {x y : MethodName} {rmy : Room} {by_ : ByteArray} {mL i b ci na : Nat} {rety : Option FieldType} {C owner : String} {T : u_T} {N : Nat} {fs st : List Value} {Pr : Unit × gSt} {F : Unit → gSt → ρ × gSt} (As : List Value) (hM : ∀ l, gMet l y by_ mL rety rmy ω (.ref b :: As) S (oV Pr.1) Pr.2) (h1 : Cond.methodLink own i x ∈ WT) (h2 : Cond.sameMethod x.cls owner x.name x.desc ∈ WT) (h3 : Cond.selects C x y ∈ WT) (hg : g_calleeU owner x y by_ mL rety na) (hn : As.length = na) (hr0 : rmy.cells = 0 ∧ rmy.slots = 0)
    (hyx : y = ⟨owner, x.name, x.desc⟩) (hR : rmy.frames + 1 ≤ rm.frames ∧ 8 + (mL + 11) + rmy.locals ≤ rm.locals) (he : (ω.1 S)[q0]? = some (b, .inr (ci, fs))) (hcl : vwCl[ci]? = some (C, T, N)) (hst : st = As.reverse ++ .ref b :: rest) (hcat : (rest.map fun v => v.category).sum ≤ 8) (hd : decode cc pc = .ok (.invokevirtual i, 3))
    (kk : ∀ (r : Unit) (S1 : gSt), r = Pr.1 → S1 = Pr.2 → gG ω κ nL out (pc + 3) lv (rest) S1 (F r S1)) : gG ω κ nL out pc lv st S (gB Pr F) := by
  obtain ⟨p, l, e, R, s, m, args, below, meth, c, A⟩ := κ
  intro H locs ls hP hD hS hl
  obtain ⟨hx, hb, hml, hown, hts, hK, hA, hr, hlk, rfl, hZ, hz⟩ := hc
  obtain ⟨hb1, hp1⟩ := g_pre (av := .ref b :: As) hz hK hA hZ hP hD hS
  exact g_back hA hD hS hl (va_runU (As := As) (rest := rest) ⟨hx, hb, hml, hown, hts⟩ (hM l H.size) (va_cwU na hts (g_inU h1 h2 h3 hg) rfl hr0.1 hr0.2 hyx hg.1 hR) ⟨hb1, va_recv hK hP hcl he, hp1⟩ rfl hn hl.1 hst (by simpa [JFrame.monitorRoom] using hcat) hd ⟨Nat.zero_le _, Nat.zero_le _⟩) (kk Pr.1 Pr.2 rfl rfl)
theorem g_callSV (hc : gC ω κ cc nL own ret rm) {y : MethodName} {rmy : Room} {by_ : ByteArray} {mL i na : Nat} {rety : Option FieldType} {st : List Value} {Pr : Unit × gSt} {F : Unit → gSt → ρ × gSt} (As : List Value) (hM : ∀ l, gMet l y by_ mL rety rmy ω As S (oV Pr.1) Pr.2) (h1 : Cond.methodLink own i y ∈ WT) (hg : g_calleeS own y by_ mL rety na) (hn : As.length = na) (hr0 : rmy.cells = 0 ∧ rmy.slots = 0)
    (hR : rmy.frames + 1 ≤ rm.frames ∧ 8 + (mL + 11) + rmy.locals ≤ rm.locals) (hst : st = As.reverse ++ rest) (hcat : (rest.map fun v => v.category).sum ≤ 8) (hd : decode cc pc = .ok (.invokestatic i, 3))
    (kk : ∀ (r : Unit) (S1 : gSt), r = Pr.1 → S1 = Pr.2 → gG ω κ nL out (pc + 3) lv (rest) S1 (F r S1)) : gG ω κ nL out pc lv st S (gB Pr F) := by
  obtain ⟨p, l, e, R, s, m, args, below, meth, c, A⟩ := κ
  intro H locs ls hP hD hS hl
  obtain ⟨hx, hb, hml, hown, hts, hK, hA, hr, hlk, rfl, hZ, hz⟩ := hc
  exact g_back hA hD hS hl (va_runS (As := As) (rest := rest) ⟨hx, hb, hml, hown, hts⟩ (hM l H.size) (cwS na hts (g_inS h1 hg) rfl hr0.1 hr0.2 hg.1 hR) (g_pre (av := As) hz hK hA hZ hP hD hS) rfl hn hl.1 hst (by simpa [JFrame.monitorRoom] using hcat) hd ⟨Nat.zero_le _, Nat.zero_le _⟩) (kk Pr.1 Pr.2 rfl rfl)
end GR
/-- a loop's counter c against its bound b, n rounds left at most -/
def gJ (b c : Int32) (n : Nat) : Prop := 0 ≤ c.toInt ∧ c.toInt ≤ max 0 b.toInt ∧ max 0 b.toInt < c.toInt + n
theorem gJ_0 {b c : Int32} {P : Prop} (h : gJ b c 0) : P := by
  obtain ⟨h1, h2, h3⟩ := h
  omega
theorem gJ_s {b c : Int32} {n : Nat} (h : gJ b c (n + 1)) (hc : ¬ b ≤ c) : gJ b (c + 1) n := by
  obtain ⟨h1, h2, h3⟩ := h
  rw [Int32.le_iff_toInt_le] at hc
  have hb : b.toInt ≤ 2147483647 := by
    have h := Int32.toInt_le b
    rwa [show Int32.maxValue.toInt = 2147483647 from rfl] at h
  have e : (c + 1).toInt = c.toInt + 1 := by
    rw [Int32.toInt_add, show (1 : Int32).toInt = 1 from rfl]
    rw [Int.bmod_eq_of_le] <;> omega
  refine ⟨?_, ?_, ?_⟩ <;> rw [e] <;> omega
theorem gJ_i {b : Int32} {n : Nat} (h : b.toInt < n) (h0 : 0 < n) : gJ b 0 n := by
  refine ⟨?_, ?_, ?_⟩ <;> rw [Int32.toInt_zero] <;> omega
theorem gJ_v (b : Int32) : gJ b 0 (b.toNatClampNeg + 1) := by
  have h : (b.toNatClampNeg : Int) = max 0 b.toInt := by
    rw [Int32.toNatClampNeg]
    omega
  refine ⟨?_, ?_, ?_⟩ <;> rw [Int32.toInt_zero] <;> omega
theorem gJ_in {b c : Int32} {n N : Nat} (h : gJ b c n) (hc : ¬ b ≤ c) (hN : b.toInt = N) : vp_in c N := by
  obtain ⟨h1, h2, h3⟩ := h
  rw [Int32.le_iff_toInt_le] at hc
  exact vp_in_iff.mpr ⟨h1, by omega⟩
end GF
