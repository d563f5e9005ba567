theorem wtN_262 : Cond.static yL_cell ∈ WT := wt_m (List.mem_of_getElem? (i := 833) (by decide +kernel)) (by decide +kernel)
theorem wtN_263 : Cond.code yL_cell cL_cell 2 (some .int) ∈ WT := wt_m (List.mem_of_getElem? (i := 834) (by decide +kernel)) (by decide +kernel)
theorem wtN_264 : Cond.classLink RL 8 RX9 ∈ WT := wt_m (List.mem_of_getElem? (i := 124) (by decide +kernel)) (by decide +kernel)
theorem wtN_265 : Cond.instantiable RX9 7 ∈ WT := wt_m (List.mem_of_getElem? (i := 125) (by decide +kernel)) (by decide +kernel)
theorem wtN_266 : Cond.methodLink RL 39 yL_cell ∈ WT := wt_m (List.mem_of_getElem? (i := 832) (by decide +kernel)) (by decide +kernel)
theorem wtN_267 : Cond.methodLink RL 45 yX9_init ∈ WT := wt_m (List.mem_of_getElem? (i := 126) (by decide +kernel)) (by decide +kernel)
theorem wtN_268 : Cond.instanceMethod yX9_init ∈ WT := wt_m (List.mem_of_getElem? (i := 127) (by decide +kernel)) (by decide +kernel)
theorem wtN_269 : Cond.code yX9_init cX9_init 2 none ∈ WT := wt_m (List.mem_of_getElem? (i := 128) (by decide +kernel)) (by decide +kernel)
theorem wtN_270 : Cond.classLink RL 48 RX10 ∈ WT := wt_m (List.mem_of_getElem? (i := 991) (by decide +kernel)) (by decide +kernel)
theorem wtN_271 : Cond.instantiable RX10 53 ∈ WT := wt_m (List.mem_of_getElem? (i := 992) (by decide +kernel)) (by decide +kernel)
theorem wtN_272 : Cond.methodLink RL 50 yX10_init ∈ WT := wt_m (List.mem_of_getElem? (i := 993) (by decide +kernel)) (by decide +kernel)
theorem wtN_273 : Cond.instanceMethod yX10_init ∈ WT := wt_m (List.mem_of_getElem? (i := 994) (by decide +kernel)) (by decide +kernel)
theorem wtN_274 : Cond.code yX10_init cX10_init 2 none ∈ WT := wt_m (List.mem_of_getElem? (i := 995) (by decide +kernel)) (by decide +kernel)
theorem wtN_275 : Cond.arrayClass .long ∈ WT := wt_m (List.mem_of_getElem? (i := 1447) (by decide +kernel)) (by decide +kernel)
section LD
/-- the law's own frame: its argument, and that nothing old is written -/
def nLaw (κ : gK) (b : Nat) : Prop := match κ with
  | (_, _, _, _, s, _, args, _, _, _, A) => args = #[Value.ref b] ∧ A = (fun q : Nat => s.heap.size ≤ q)
def nZ (κ : gK) (b : Nat) : State → Prop := match κ with
  | (_, _, _, _, s, _, _, below, _, _, _) => lw_Z below #[Value.ref b] s
theorem n_end {ω : gO} {κ : gK} {b nc ns : Nat} {lv : List (Nat × Value)} {ws : va_W} (hc : gC ω κ cL_law 7 RL ret room_1) (hw : nLaw κ b) (h : nc ≤ 1071 ∧ ns ≤ 19626) : gN ω κ 7 (nZ κ b) 714 lv [.int 1] ws nc ns := by
  obtain ⟨p, l, e, R, s, m, args, below, meth, c, A⟩ := κ
  intro H locs ls hP hD hS hl
  obtain ⟨hx, hb, hml, hown, hts, hK, hA, hret, hlk, rfl, hZ, hz⟩ := hc
  obtain ⟨rfl, rfl⟩ := hw
  exact va_forget (fun q hq => hS.2.2 q hq) (W.widen (k := 1071) (n := 19626) h.1 h.2 (lw_ret hx hb hret hlk dL_law_714))
theorem law_in {L i : Nat} (hL : L ≤ 1537) (hi : i ≤ 2000) (c : ¬ nI L - 3 < nI i) : i + 3 ≤ L := by
  by_cases h : 3 ≤ L
  · rw [show nI L - 3 = nI (L - 3) from nI_sub (b := 3) h] at c
    have := Nat.not_lt.mp (fun z => c (nI_lt z (by omega)))
    omega
  · have h1 : nI L - 3 < 0 := (by decide : ∀ L, L < 3 → nI L - 3 < 0) L (by omega)
    exact absurd (Int32.lt_of_lt_of_le h1 (nI_pos' (n := i) (by omega))) c
section LE
variable {k : Bool} {η : gE} {uM : Nat → Nat} {jA : ClassId} {b L o : Nat} {xs : Nat → Int32} {κ : gK}
theorem law_loop (hc : gC (oL η jA b L xs) κ cL_law 7 RL ret room_1) (hlt : nLt κ) (hw : nLaw κ b) (hL : L ≤ 1537) (n : Nat) : ∀ (t : Nat) (S M : gSt) (f : Nat → Int64), Rx k S M → t ≤ 512 → L ≤ 3 * t + 3 + 3 * n → gN (oL η jA b L xs) κ 7 (nZ κ b) 33 (lV η (uM, η.2) b o (nI (1 + 3 * t))) [] (lW k η (uM, η.2) jA o S f M) (34 + t) (10721 + 6 * t) := by
  induction n with
  | zero =>
    intro t S M f hx ht hl
    refine n_iload (i := 4) hc 0 dL_law_33 rfl ?_
    refine n_aload_n (i := 0) hc 4 dL_law_35 rfl rfl ?_
    refine n_slen hc dL_law_36 ?_
    refine n_iconst (v := 3) hc dL_law_37 (by decide) ?_
    refine n_isub hc dL_law_38 ?_
    refine n_icmpgt (tgt := 713) hc dL_law_39 rfl (fun c => ?_) (fun c => ?_)
    · refine n_iconst (v := 1) hc dL_law_713 (by decide) ?_
      exact n_end hc hw ⟨by omega, by omega⟩
    · have := law_in hL (by omega) c
      omega
  | succ n ih =>
    intro t S M f hx ht hl
    refine n_iload (i := 4) hc 0 dL_law_33 rfl ?_
    refine n_aload_n (i := 0) hc 4 dL_law_35 rfl rfl ?_
    refine n_slen hc dL_law_36 ?_
    refine n_iconst (v := 3) hc dL_law_37 (by decide) ?_
    refine n_isub hc dL_law_38 ?_
    refine n_icmpgt (tgt := 713) hc dL_law_39 rfl (fun c => ?_) (fun c => ?_)
    · refine n_iconst (v := 1) hc dL_law_713 (by decide) ?_
      exact n_end hc hw ⟨by omega, by omega⟩
    · have hi := law_in hL (by omega) c
      have kk : ∀ (S2 M2 : gSt) (f2 : Nat → Int64), Rx k S2 M2 → gN (oL η jA b L xs) κ 7 (nZ κ b) 707 (lV η (uM, η.2) b o (nI (1 + 3 * t))) [] (lW k η (uM, η.2) jA o S2 f2 M2) (34 + t + 1) (10721 + 6 * t + 6) := fun S2 M2 f2 hx2 => by
        refine n_iinc (i := 4) (v := 3) (lv' := lV η (uM, η.2) b o (nI (1 + 3 * t) + 3)) hc 0 dL_law_707 rfl (by decide) (by decide) rfl ?_
        refine n_goto (tgt := 33) hc dL_law_710 rfl ?_
        rw [show nI (1 + 3 * t) + 3 = nI (1 + 3 * (t + 1)) from nI_add (1 + 3 * t) 3]
        exact n_ch rfl (by omega) (by omega) (ih (t + 1) S2 M2 f2 hx2 (by omega) (by omega))
      refine n_aload_n (i := 0) hc 4 dL_law_42 rfl rfl ?_
      refine n_iload (i := 4) hc 0 dL_law_43 rfl ?_
      refine n_sld hc (1 + 3 * t) rfl (by omega) (by omega) dL_law_45 ?_
      refine n_bipush (v := 15) hc dL_law_46 (by decide) ?_
      refine n_iand hc dL_law_48 ?_
      obtain ⟨j, hj, ej⟩ := pk_andE (xs (1 + 3 * t)) (m := 15) 4 (by decide)
      rw [ej]
      rcases (show j = 0 ∨ j = 1 ∨ j = 2 ∨ j = 3 ∨ j = 4 ∨ j = 5 ∨ j = 6 ∨ j = 7 ∨ j = 8 ∨ j = 9 ∨ j = 10 ∨ j = 11 ∨ j = 12 ∨ j = 13 ∨ j = 14 ∨ j = 15 by omega) with rfl | rfl | rfl | rfl | rfl | rfl | rfl | rfl | rfl | rfl | rfl | rfl | rfl | rfl | rfl | rfl
      · refine n_tsi (tgt := 124) hc dL_law_49 (by decide) (by decide) rfl rfl ?_
        exact l_rom hc hlt hx (by omega) hL ⟨by omega, by omega⟩ kk
      · refine n_tsi (tgt := 172) hc dL_law_49 (by decide) (by decide) rfl rfl ?_
        exact l_chr hc hlt hx (by omega) hL ⟨by omega, by omega⟩ kk
      · refine n_tsi (tgt := 220) hc dL_law_49 (by decide) (by decide) rfl rfl ?_
        exact l_reset hc hlt hx (by omega) hL ⟨by omega, by omega⟩ kk
      · refine n_tsi (tgt := 231) hc dL_law_49 (by decide) (by decide) rfl rfl ?_
        exact l_step hc hlt hx (by omega) hL ⟨by omega, by omega⟩ kk
      · refine n_tsi (tgt := 244) hc dL_law_49 (by decide) (by decide) rfl rfl ?_
        exact l_run hc hlt hx (by omega) hL ⟨by omega, by omega⟩ kk
      · refine n_tsi (tgt := 269) hc dL_law_49 (by decide) (by decide) rfl rfl ?_
        exact l_pass hc hlt hx (by omega) hL ⟨by omega, by omega⟩ kk
      · refine n_tsi (tgt := 294) hc dL_law_49 (by decide) (by decide) rfl rfl ?_
        exact l_read hc hlt hx (by omega) hL ⟨by omega, by omega⟩ kk
      · refine n_tsi (tgt := 319) hc dL_law_49 (by decide) (by decide) rfl rfl ?_
        exact l_write hc hlt hx (by omega) hL ⟨by omega, by omega⟩ kk
      · refine n_tsi (tgt := 354) hc dL_law_49 (by decide) (by decide) rfl rfl ?_
        exact l_pad hc hlt hx (by omega) hL ⟨by omega, by omega⟩ kk
      · refine n_tsi (tgt := 402) hc dL_law_49 (by decide) (by decide) rfl rfl ?_
        exact l_core hc hlt hx (by omega) hL ⟨by omega, by omega⟩ kk
      · refine n_tsi (tgt := 458) hc dL_law_49 (by decide) (by decide) rfl rfl ?_
        exact l_picture hc hlt hx (by omega) hL ⟨by omega, by omega⟩ kk
      · refine n_tsi (tgt := 514) hc dL_law_49 (by decide) (by decide) rfl rfl ?_
        exact l_memory hc hlt hx (by omega) hL ⟨by omega, by omega⟩ kk
      · refine n_tsi (tgt := 539) hc dL_law_49 (by decide) (by decide) rfl rfl ?_
        exact l_oam hc hlt hx (by omega) hL ⟨by omega, by omega⟩ kk
      · refine n_tsi (tgt := 595) hc dL_law_49 (by decide) (by decide) rfl rfl ?_
        exact l_cartridge hc hlt hx (by omega) hL ⟨by omega, by omega⟩ kk
      · refine n_tsi (tgt := 651) hc dL_law_49 (by decide) (by decide) rfl rfl ?_
        exact l_sound hc hlt hx (by omega) hL ⟨by omega, by omega⟩ kk
      · refine n_tswd (tgt := 707) hc dL_law_49 (Or.inr (by decide)) rfl ?_
        refine n_widen (34 + t + 1) (10721 + 6 * t + 6) (by omega) (by omega) ?_
        exact kk S M f hx
end LE
/-- a constructor with a contract over the world ω' is called on the cells w1 -/
theorem n_callJ {ω : gO} {κ : gK} {cc : ByteArray} {nL : Nat} {own : String} {ret9 : Option FieldType} {rm : Room} {Q : State → Prop} {pc nc ns : Nat} {lv : List (Nat × Value)} {rest : List Value} (hc : gC ω κ cc nL own ret9 rm) {ω' : gO} (hG : ω'.2.1 = ω.2.1) (hK' : ∀ U, va_K ω.2.1 vwCl ω.2.2.1 U → va_K ω.2.1 vwCl ω'.2.2.1 U) (hZ' : ∀ A U H, ω.2.2.2 A U H → ω'.2.2.2 A U H) (hz' : gZok ω'.2.2.2) {y : MethodName} {rmy : Room} {by_ : ByteArray} {mL i b na : Nat} {st : List Value} {w1 w2 : va_W} {post : (Nat → Nat) → Prop} {wf : (Nat → Nat) → va_W} (As : List Value) (hM : ∀ l, nMet l y by_ mL rmy ω' (.ref b :: As) w1 post wf) (h1 : Cond.methodLink own i y ∈ WT) (h2 : Cond.instanceMethod y ∈ WT) (h3 : Cond.initialized y.cls ∈ WT) (h4 : Cond.code y by_ mL none ∈ WT) (hy : y.name = "<init>") (hg : y.cls ≠ "java/lang/invoke/MethodHandle" ∧ y.cls ≠ "java/lang/invoke/VarHandle" ∧ (parseMethodDescriptor y.desc).map (fun d => d.parameters.length) = some na) (hn : As.length = na)
    (hR : rmy.frames + 1 ≤ rm.frames ∧ 8 + (mL + 11) + rmy.locals ≤ rm.locals) (hr : nc + rmy.cells ≤ rm.cells ∧ ns + rmy.slots ≤ rm.slots) (hst : st = As.reverse ++ .ref b :: rest) (hcat : (rest.map fun v => v.category).sum ≤ 8) (hd : decode cc pc = .ok (.invokespecial i, 3))
    (kk : ∀ u : Nat → Nat, post u → gN ω κ nL Q (pc + 3) lv rest (wf u ++ w2) (nc + rmy.cells) (ns + rmy.slots)) : gN ω κ nL Q pc lv st (w1 ++ w2) nc ns := by
  obtain ⟨p, l, e, R, s, m, args, below, meth, c, A⟩ := κ
  intro H locs ls hP hD hS hl
  obtain ⟨hx, hb, hml, hown, hts, hK, hA, hret, hlk, rfl, hZ, hz⟩ := hc
  have hP1 := p_left hP
  have hD1 := d_left hD
  have hF : ∀ q, va_A w1 H.size q → A q := fun q h => h.elim (fun ⟨k, e, hk⟩ => hD1.2 k (q, e) hk) (fun h => hA q (Nat.le_trans hS.1 h))
  have hp : PreS s H (va_Pc (.ref b :: As) (nPre ω' w1 H.size)) (.ref b :: As) := by
    refine ⟨fun a U g mk q => ?_, fun U hU hW => ⟨rfl, by rw [hU], by rw [hU, hG]; exact hP1, by rw [hG]; exact va_K.moved hW.alike (hK' s hK), ⟨hD1.1, fun _ _ _ => trivial⟩, ?_⟩⟩
    · obtain ⟨q0, q1, qP, qK, qD, qZ⟩ := q
      exact ⟨q0, q1, qP, va_K.moved (u := U) (U := U.calling g mk a) (Vm.Alike.refl U.vm) qK, qD, hz'.1 _ U (U.calling g mk a) _ (State.WarmedH.refl U) qZ⟩
    · rw [hU]
      exact hz'.2.2 A _ U H hF (hz'.1 A s U H hW (hz'.2.1 A s s.heap H hS.2.1 (hZ' _ _ _ hZ)))
  have hgood : GoodIn WT (Cond.code y by_ mL none :: WT) := fun w h => wt_g w ((List.mem_cons.mp h).elim (fun e => e ▸ h4) id)
  refine n_back (Bv := fun v w3 => v = none ∧ ∃ u, post u ∧ w3 = wf u) hA hP hD hS hl (va_runI (As := As) (rest := rest) ⟨hx, hb, hml, hown, hts⟩ (hM l H.size) (cwI na hts hgood rfl rfl rfl (hts _ h3) (hts _ h1) (hts _ h2) hy hg hR) hp rfl hn hl.1 hst (by simpa [JFrame.monitorRoom] using hcat) hd hr) ?_ ?_
  · rintro st₀ t v h0 ⟨⟨u, hv, hu, hP2, -, hD2⟩, hF2⟩
    cases hv
    exact ⟨wf u, ⟨rfl, u, hu, rfl⟩, by rw [← hG]; exact hP2, hD2, hF2⟩
  · rintro v w3 ⟨rfl, u, hu, rfl⟩
    exact kk u hu
theorem out_p {a m : va_W} {o' : Nat × va_E} : ((a ++ m) ++ [o']).Perm (a ++ o' :: m) := by
  rw [List.append_assoc]
  exact List.Perm.append_left _ (List.perm_append_singleton o' m)
theorem geL_cell : g_calleeS RL yL_cell cL_cell 2 (some .int) 2 := ⟨by decide +kernel, wtN_262, wtN_230, wtN_263⟩
theorem law_start {k : Bool} {κ : gK} (G : va_G) (iA bA jA : ClassId) (τ : Nat → Nat) {b L : Nat} {xs : Nat → Int32} (hL : L ≤ 1537) (hc : gC (oL ((fun _ => 0), G, iA, bA, τ) jA b L xs) κ cL_law 7 RL ret room_1) (hlt : nLt κ) (hw : nLaw κ b)
    (h9 : ∀ l h, nMet l yX9_init cX9_init 2 rm_X9_init (oN G iA bA) [.ref h, .int (cell0 L xs)] [(h, .inr (7, [.null, .null, .null, .null, .null, .null, .int 0]))] (fun u => u 0 = h) (fun u => wC k (u, G, iA, bA, fun _ => 0) (s3 k))) {wf10 : (Nat → Nat) → va_W}
    (h10 : ∀ l h, nMet l yX10_init cX10_init 2 rm_X10_init (oN G iA bA) [.ref h, .int (cell0 L xs)] [(h, .inr (8, [.int 0, .int 0, .null, .null, .null, .null, .int 0, .int 0, .int 0, .int 0, .int 0, .int 0, .long 0, .int 0, .int 0, .int 0, .int 0, .int 0, .int 0, .int 0, .int 0, .int 0, .int 0, .int 0, .int 0, .int 0, .int 0, .null, .null, .null, .int 0, .int 0, .int 0, .int 0, .int 0, .int 0, .int 0, .int 0, .int 0, .int 0, .int 0, .int 0, .null, .null, .null, .int 0, .int 0, .int 0, .int 0, .int 0, .null, .null, .int 0]))] (fun u => u 0 = h) wf10) (e10 : ∀ u, wf10 u = wM (u, G, iA, bA, τ) (ph k 0 0 false 0 (s3 k))) :
    gN (oL ((fun _ => 0), G, iA, bA, τ) jA b L xs) κ 7 (nZ κ b) 0 [(0, .ref b)] [] [] 0 0 := by
  have kN : ∀ U, va_K (oL ((fun _ => 0), G, iA, bA, τ) jA b L xs).2.1 vwCl (oL ((fun _ => 0), G, iA, bA, τ) jA b L xs).2.2.1 U → va_K (oL ((fun _ => 0), G, iA, bA, τ) jA b L xs).2.1 vwCl (oN G iA bA).2.2.1 U := fun U h => h.sub (tys' := [(iA, .int), (bA, .boolean)]) [0, 1] rfl
  refine n_new hc (C := RX9) (T := TX9) (N := 7) (ci := 7) (fs := [.null, .null, .null, .null, .null, .null, .int 0]) tyX9 tyX9_ok wu_X9 wtN_264 wtN_265 wtN_111 rfl (by decide) ⟨Nat.le_of_ble_eq_true rfl, Nat.le_of_ble_eq_true rfl⟩ dL_law_0 (fun q => ?_)
  refine n_ch (ws' := [(q, .inr (7, [.null, .null, .null, .null, .null, .null, .int 0]))]) (nc' := 1) (ns' := 7) rfl rfl rfl ?_
  refine n_dup hc dL_law_3 rfl ?_
  refine n_aload_n (i := 0) hc 0 dL_law_4 rfl rfl ?_
  refine n_iconst (v := 0) hc dL_law_5 (by decide) ?_
  refine n_callS (rest := [.ref q, .ref q]) hc [.ref b, .int 0] (fun l => h_L_cell l _ jA b L xs (by omega) _) wtN_266 geL_cell rfl ⟨Nat.le_of_ble_eq_true rfl, Nat.le_of_ble_eq_true rfl⟩ ⟨Nat.le_of_ble_eq_true rfl, Nat.le_of_ble_eq_true rfl⟩ rfl (Nat.le_of_ble_eq_true rfl) dL_law_6 ?_
  refine n_stk [.int (cell0 L xs), .ref q, .ref q] rfl ?_
  refine n_callJ (na := 1) (rest := [.ref q]) (w1 := [(q, .inr (7, [.null, .null, .null, .null, .null, .null, .int 0]))]) (w2 := []) hc (ω' := oN G iA bA) rfl kN (fun _ _ _ h => h.2.1) zN_ok [.int (cell0 L xs)] (fun l => h9 l q) wtN_267 wtN_268 wtN_111 wtN_269 rfl (by decide +kernel) rfl ⟨Nat.le_of_ble_eq_true rfl, Nat.le_of_ble_eq_true rfl⟩ ⟨Nat.le_of_ble_eq_true rfl, Nat.le_of_ble_eq_true rfl⟩ rfl (Nat.le_of_ble_eq_true rfl) dL_law_9 (fun u hu => ?_)
  subst hu
  refine n_ch (ws' := wC k (u, G, iA, bA, τ) (s3 k)) (nc' := 20) (ns' := 5367) (List.append_nil _) rfl rfl ?_
  refine n_astore_n (i := 1) (lv' := [(1, .ref (u 0)), (0, .ref b)]) hc dL_law_12 rfl (by decide) rfl ?_
  refine n_new hc (C := RX10) (T := TX10) (N := 53) (ci := 8) (fs := [.int 0, .int 0, .null, .null, .null, .null, .int 0, .int 0, .int 0, .int 0, .int 0, .int 0, .long 0, .int 0, .int 0, .int 0, .int 0, .int 0, .int 0, .int 0, .int 0, .int 0, .int 0, .int 0, .int 0, .int 0, .int 0, .null, .null, .null, .int 0, .int 0, .int 0, .int 0, .int 0, .int 0, .int 0, .int 0, .int 0, .int 0, .int 0, .int 0, .null, .null, .null, .int 0, .int 0, .int 0, .int 0, .int 0, .null, .null, .int 0]) tyX10 tyX10_ok wu_X10 wtN_270 wtN_271 wtN_149 rfl (by decide) ⟨Nat.le_of_ble_eq_true rfl, Nat.le_of_ble_eq_true rfl⟩ dL_law_13 (fun q2 => ?_)
  refine n_dup hc dL_law_16 rfl ?_
  refine n_aload_n (i := 0) hc 1 dL_law_17 rfl rfl ?_
  refine n_iconst (v := 0) hc dL_law_18 (by decide) ?_
  refine n_callS (rest := [.ref q2, .ref q2]) hc [.ref b, .int 0] (fun l => h_L_cell l _ jA b L xs (by omega) _) wtN_266 geL_cell rfl ⟨Nat.le_of_ble_eq_true rfl, Nat.le_of_ble_eq_true rfl⟩ ⟨Nat.le_of_ble_eq_true rfl, Nat.le_of_ble_eq_true rfl⟩ rfl (Nat.le_of_ble_eq_true rfl) dL_law_19 ?_
  refine n_stk [.int (cell0 L xs), .ref q2, .ref q2] rfl ?_
  refine n_rot ?_
  refine n_callJ (na := 1) (rest := [.ref q2]) hc (ω' := oN G iA bA) rfl kN (fun _ _ _ h => h.2.1) zN_ok [.int (cell0 L xs)] (fun l => h10 l q2) wtN_272 wtN_273 wtN_149 wtN_274 rfl (by decide +kernel) rfl ⟨Nat.le_of_ble_eq_true rfl, Nat.le_of_ble_eq_true rfl⟩ ⟨Nat.le_of_ble_eq_true rfl, Nat.le_of_ble_eq_true rfl⟩ rfl (Nat.le_of_ble_eq_true rfl) dL_law_22 (fun uM hu => ?_)
  subst hu
  rw [e10]
  refine n_rot ?_
  refine n_astore_n (i := 2) (lv' := [(2, .ref (uM 0)), (1, .ref (u 0)), (0, .ref b)]) hc dL_law_25 rfl (by decide) rfl ?_
  refine n_iconst (v := 1) hc dL_law_26 (by decide) ?_
  refine n_newa (atype := .long) (ty := .long) (N := 1) hc 2 (1, .inr (.inl (fun _ => 0))) wtN_275 rfl rfl (fun _ => rfl) (by decide) (by decide) (by decide) ⟨Nat.le_of_ble_eq_true rfl, Nat.le_of_ble_eq_true rfl⟩ dL_law_27 (fun o => ?_)
  refine n_astore_n (i := 3) (lv' := [(3, .ref o), (2, .ref (uM 0)), (1, .ref (u 0)), (0, .ref b)]) hc dL_law_29 rfl (by decide) rfl ?_
  refine n_iconst (v := 1) hc dL_law_30 (by decide) ?_
  refine n_istore (i := 4) (lv' := [(4, .int 1), (3, .ref o), (2, .ref (uM 0)), (1, .ref (u 0)), (0, .ref b)]) hc dL_law_31 (by decide) rfl ?_
  refine n_perm _ out_p ?_
  exact law_loop (k := k) (η := (u, G, iA, bA, τ)) (uM := uM) (jA := jA) (o := o) hc hlt hw hL 600 0 (s3 k) (ph k 0 0 false 0 (s3 k)) (fun _ => 0) rx_s3 (by omega) (by omega)
end LD
