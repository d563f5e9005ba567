theorem wtN_0 : Cond.methodLink RX1 3 objectInit ∈ WT := wt_m (by decide +kernel) (by decide +kernel)
theorem wtN_1 : Cond.instanceMethod objectInit ∈ WT := wt_m (by decide +kernel) (by decide +kernel)
theorem wtN_2 : Cond.code objectInit ⟨#[0xb1]⟩ 1 none ∈ WT := wt_m (by decide +kernel) (by decide +kernel)
theorem wtN_3 : Cond.arrayClass .int ∈ WT := wt_m (List.mem_of_getElem? (i := 206) (by decide +kernel)) (by decide +kernel)
theorem wtN_4 : Cond.fieldLink RX1 9 "GameConsole$Cartridge" "rom" "[I" ∈ WT := wt_m (List.mem_of_getElem? (i := 166) (by decide +kernel)) (by decide +kernel)
theorem wtN_5 : Cond.fieldLink RX1 15 "GameConsole$Cartridge" "chr" "[I" ∈ WT := wt_m (List.mem_of_getElem? (i := 168) (by decide +kernel)) (by decide +kernel)
theorem wtN_6 : Cond.fieldLink RX1 18 "GameConsole$Cartridge" "romBanks" "[I" ∈ WT := wt_m (List.mem_of_getElem? (i := 170) (by decide +kernel)) (by decide +kernel)
theorem wtN_7 : Cond.fieldLink RX1 21 "GameConsole$Cartridge" "chrBanks" "[I" ∈ WT := wt_m (List.mem_of_getElem? (i := 172) (by decide +kernel)) (by decide +kernel)
theorem wtN_8 : Cond.methodLink RX7 1 objectInit ∈ WT := wt_m (by decide +kernel) (by decide +kernel)
theorem wtN_9 : Cond.fieldLink RX7 7 "GameConsole$PictureUnit" "oam" "[I" ∈ WT := wt_m (List.mem_of_getElem? (i := 262) (by decide +kernel)) (by decide +kernel)
theorem wtN_10 : Cond.fieldLink RX7 13 "GameConsole$PictureUnit" "nameTables" "[I" ∈ WT := wt_m (List.mem_of_getElem? (i := 264) (by decide +kernel)) (by decide +kernel)
theorem wtN_11 : Cond.fieldLink RX7 16 "GameConsole$PictureUnit" "palette" "[I" ∈ WT := wt_m (List.mem_of_getElem? (i := 265) (by decide +kernel)) (by decide +kernel)
theorem wtN_12 : Cond.fieldLink RX7 19 "GameConsole$PictureUnit" "cartridge" "LGameConsole$Cartridge;" ∈ WT := wt_m (List.mem_of_getElem? (i := 261) (by decide +kernel)) (by decide +kernel)
theorem wtN_13 : Cond.methodLink RX8 1 objectInit ∈ WT := wt_m (by decide +kernel) (by decide +kernel)
theorem wtN_14 : Cond.fieldLink RX8 9 "GameConsole$SoundUnit" "lengths" "[I" ∈ WT := wt_m (List.mem_of_getElem? (i := 329) (by decide +kernel)) (by decide +kernel)
theorem wtN_15 : Cond.methodLink RX6 1 objectInit ∈ WT := wt_m (by decide +kernel) (by decide +kernel)
theorem wtN_16 : Cond.fieldLink RX6 7 "GameConsole$Pads" "buttons" "[I" ∈ WT := wt_m (List.mem_of_getElem? (i := 360) (by decide +kernel)) (by decide +kernel)
theorem wtN_17 : Cond.fieldLink RX6 13 "GameConsole$Pads" "taken" "[I" ∈ WT := wt_m (List.mem_of_getElem? (i := 362) (by decide +kernel)) (by decide +kernel)
theorem wtN_18 : Cond.methodLink RX0 1 objectInit ∈ WT := wt_m (by decide +kernel) (by decide +kernel)
theorem wtN_19 : Cond.fieldLink RX0 7 "GameConsole$Bus" "ram" "[I" ∈ WT := wt_m (List.mem_of_getElem? (i := 377) (by decide +kernel)) (by decide +kernel)
theorem wtN_20 : Cond.fieldLink RX0 13 "GameConsole$Bus" "cartridgeRam" "[I" ∈ WT := wt_m (List.mem_of_getElem? (i := 378) (by decide +kernel)) (by decide +kernel)
theorem wtN_21 : Cond.fieldLink RX0 16 "GameConsole$Bus" "pageAsked" "I" ∈ WT := wt_m (List.mem_of_getElem? (i := 383) (by decide +kernel)) (by decide +kernel)
theorem wtN_22 : Cond.fieldLink RX0 20 "GameConsole$Bus" "picture" "LGameConsole$PictureUnit;" ∈ WT := wt_m (List.mem_of_getElem? (i := 379) (by decide +kernel)) (by decide +kernel)
theorem wtN_23 : Cond.fieldLink RX0 24 "GameConsole$Bus" "sound" "LGameConsole$SoundUnit;" ∈ WT := wt_m (List.mem_of_getElem? (i := 380) (by decide +kernel)) (by decide +kernel)
theorem wtN_24 : Cond.fieldLink RX0 28 "GameConsole$Bus" "pads" "LGameConsole$Pads;" ∈ WT := wt_m (List.mem_of_getElem? (i := 381) (by decide +kernel)) (by decide +kernel)
theorem wtN_25 : Cond.fieldLink RX0 32 "GameConsole$Bus" "cartridge" "LGameConsole$Cartridge;" ∈ WT := wt_m (List.mem_of_getElem? (i := 382) (by decide +kernel)) (by decide +kernel)
theorem wtN_26 : Cond.methodLink RX2 1 objectInit ∈ WT := wt_m (by decide +kernel) (by decide +kernel)
theorem wtN_27 : Cond.fieldLink RX2 9 "GameConsole$Core" "p" "I" ∈ WT := wt_m (List.mem_of_getElem? (i := 414) (by decide +kernel)) (by decide +kernel)
theorem wtN_28 : Cond.fieldLink RX2 13 "GameConsole$Core" "bus" "LGameConsole$Bus;" ∈ WT := wt_m (List.mem_of_getElem? (i := 405) (by decide +kernel)) (by decide +kernel)
section NC
def nwN : List Cond := [Cond.methodLinkNest "GameConsole$Mmc3" 1 yX1_init "GameConsole", Cond.methodLinkNest "GameConsole$Mmc1" 1 yX1_init "GameConsole", Cond.methodLinkNest "GameConsole" 30 yX8_init "GameConsole", Cond.methodLinkNest "GameConsole" 37 yX6_init "GameConsole"]
def zN : (Nat → Prop) → State → Heap → Prop := fun _ U _ => ∀ w ∈ nwN, va_Nw w U
theorem zN_ok : gZok zN := by
  refine ⟨fun A u U H hW h w hw => ?_, fun A U H H1 _ h => h, fun A B U H _ h => h⟩
  have h := h w hw
  simp only [nwN, List.mem_cons, List.not_mem_nil, or_false] at hw
  rcases hw with rfl | rfl | rfl | rfl <;> exact va_Nw.warmM hW h
def oN (G : va_G) (iA bA : ClassId) : gO := (fun _ => [], G, [(iA, .int), (bA, .boolean)], zN)
/-- a constructor of a nest mate is called on the cells w1 -/
theorem n_callIN {ω : gO} {κ : gK} {cc : ByteArray} {nL : Nat} {own : String} {ret : Option FieldType} {rm : Room} {Q : State → Prop} {pc nc ns : Nat} {lv : List (Nat × Value)} {rest : List Value} (hc : gC ω κ cc nL own ret rm) {y : MethodName} {rmy : Room} {by_ : ByteArray} {mL i b na : Nat} {st : List Value} {w1 w2 : va_W} {post : (Nat → Nat) → Prop} {wf : (Nat → Nat) → va_W} (host : String) (As : List Value) (hM : ∀ l, nMet l y by_ mL rmy ω (.ref b :: As) w1 post wf) (hNw : ∀ A U H, ω.2.2.2 A U H → va_Nw (.methodLinkNest own i y host) U) (h2 : Cond.instanceMethod y ∈ WT) (h3 : Cond.initialized y.cls ∈ WT) (h4 : Cond.code y by_ mL none ∈ WT) (hy : y.name = "<init>") (hg : y.cls ≠ "java/lang/invoke/MethodHandle" ∧ y.cls ≠ "java/lang/invoke/VarHandle" ∧ (parseMethodDescriptor y.desc).map (fun d => d.parameters.length) = some na) (hn : As.length = na)
    (hR : rmy.frames + 1 ≤ rm.frames ∧ 8 + (mL + 11) + rmy.locals ≤ rm.locals) (hr : nc + rmy.cells ≤ rm.cells ∧ ns + rmy.slots ≤ rm.slots) (hst : st = As.reverse ++ .ref b :: rest) (hcat : (rest.map fun v => v.category).sum ≤ 8) (hd : decode cc pc = .ok (.invokespecial i, 3))
    (kk : ∀ u : Nat → Nat, post u → gN ω κ nL Q (pc + 3) lv rest (wf u ++ w2) (nc + rmy.cells) (ns + rmy.slots)) : gN ω κ nL Q pc lv st (w1 ++ w2) nc ns := by
  obtain ⟨p, l, e, R, s, m, args, below, meth, c, A⟩ := κ
  intro H locs ls hP hD hS hl
  obtain ⟨hx, hb, hml, hown, hts, hK, hA, hret, hlk, rfl, hZ, hz⟩ := hc
  have hP1 := p_left hP
  have hD1 := d_left hD
  have hF : ∀ q, va_A w1 H.size q → A q := fun q h => h.elim (fun ⟨k, e, hk⟩ => hD1.2 k (q, e) hk) (fun h => hA q (Nat.le_trans hS.1 h))
  have hp : PreS s H (va_Pc (.ref b :: As) (nPre ω w1 H.size)) (.ref b :: As) := by
    refine ⟨fun a U g mk q => ?_, fun U hU hW => ⟨rfl, by rw [hU], by rw [hU]; exact hP1, va_K.moved hW.alike hK, ⟨hD1.1, fun _ _ _ => trivial⟩, ?_⟩⟩
    · obtain ⟨q0, q1, qP, qK, qD, qZ⟩ := q
      exact ⟨q0, q1, qP, va_K.moved (u := U) (U := U.calling g mk a) (Vm.Alike.refl U.vm) qK, qD, hz.1 _ U (U.calling g mk a) _ (State.WarmedH.refl U) qZ⟩
    · rw [hU]
      exact hz.2.2 A _ U H hF (hz.1 A s U H hW (hz.2.1 A s s.heap H hS.2.1 hZ))
  have hgood : GoodIn WT (Cond.code y by_ mL none :: WT) := fun w h => wt_g w ((List.mem_cons.mp h).elim (fun e => e ▸ h4) id)
  refine n_back (Bv := fun v w3 => v = none ∧ ∃ u, post u ∧ w3 = wf u) hA hP hD hS hl (va_runIN (As := As) (rest := rest) ⟨hx, hb, hml, hown, hts⟩ (hM l H.size) ⟨va_cnB na hts hgood rfl rfl rfl (hNw _ _ _ hZ) (hts _ h3) hg hR, hy, hts _ h2⟩ hp rfl hn hl.1 hst (by simpa [JFrame.monitorRoom] using hcat) hd hr) ?_ ?_
  · rintro st₀ t v h0 ⟨⟨u, hv, hu, hP2, -, hD2⟩, hF2⟩
    cases hv
    exact ⟨wf u, ⟨rfl, u, hu, rfl⟩, hP2, hD2, hF2⟩
  · rintro v w3 ⟨rfl, u, hu, rfl⟩
    exact kk u hu
theorem n_ch {ω : gO} {κ : gK} {nL pc nc ns nc' ns' : Nat} {Q : State → Prop} {lv : List (Nat × Value)} {st : List Value} {ws ws' : va_W} (h1 : ws = ws') (h2 : nc = nc') (h3 : ns = ns') (k : gN ω κ nL Q pc lv st ws' nc' ns') : gN ω κ nL Q pc lv st ws nc ns := by
  subst h1
  subst h2
  subst h3
  exact k
def wf_X1_X3 (h : Nat) (iA : ClassId) (u : Nat → Nat) : va_W := [(h, .inr (2, [.ref (u 0), .ref (u 1), .ref (u 2), .ref (u 3), .int 0, .int 0, .int 0, .int 0, .int 0, .int 0, .int 0, .int 0, .int 0])), ((u 0), .inl (iA, 512, .inl (fun _ => 0))), ((u 1), .inl (iA, 128, .inl (fun _ => 0))), ((u 2), .inl (iA, 4, .inl (fun _ => 0))), ((u 3), .inl (iA, 8, .inl (fun _ => 0)))]
abbrev rm_X1_X3_init : Room := { frames := 2, cells := 4, slots := 652, locals := 40 }
theorem n_X1_X3_init (l : Launch) (G : va_G) (iA bA : ClassId) (h : Nat) : nMet l yX1_init cX1_init 1 rm_X1_X3_init (oN G iA bA) [.ref h] [(h, .inr (2, [.null, .null, .null, .null, .int 0, .int 0, .int 0, .int 0, .int 0, .int 0, .int 0, .int 0, .int 0]))] (fun _ => True) (wf_X1_X3 h iA) := by
  refine nMet_of (lv := [(0, .ref h)]) zN_ok (by decide +kernel) rfl (Nat.le_of_ble_eq_true rfl) rfl (fun κ hc hI => ?_)
  have hc : gC (oN G iA bA) κ cX1_init 1 RX1 none rm_X1_X3_init := hc
  refine n_aload_n (i := 0) hc 0 dX1_init_0 rfl rfl ?_
  refine n_objInit hc wtN_0 wtN_1 wtN_2 ⟨Nat.le_of_ble_eq_true rfl, Nat.le_of_ble_eq_true rfl⟩ dX1_init_1 ?_
  refine n_aload_n (i := 0) hc 0 dX1_init_4 rfl rfl ?_
  refine n_sipush (v := 512) hc dX1_init_5 (by decide) ?_
  refine n_newa (atype := .int) (ty := .int) (N := 512) hc 0 (512, .inl (fun _ => 0)) wtN_3 rfl rfl (fun _ => rfl) (by decide) (by decide) (by decide) ⟨Nat.le_of_ble_eq_true rfl, Nat.le_of_ble_eq_true rfl⟩ dX1_init_8 (fun q8 => ?_)
  refine n_ch (ws' := [(h, .inr (2, [.null, .null, .null, .null, .int 0, .int 0, .int 0, .int 0, .int 0, .int 0, .int 0, .int 0, .int 0])), (q8, .inl (iA, 512, .inl (fun _ => 0)))]) (nc' := 1) (ns' := 512) rfl rfl rfl ?_
  refine n_put hc hI (C := RX3) (T := TX3) (N := 13) (ci := 2) 0 0 ([(h, .inr (2, [.ref q8, .null, .null, .null, .int 0, .int 0, .int 0, .int 0, .int 0, .int 0, .int 0, .int 0, .int 0])), (q8, .inl (iA, 512, .inl (fun _ => 0)))]) tyX3 tyX3_ok nmX3 wu_X3 wtN_4 (Or.inl rfl) (by decide) rfl rfl (Or.inr ⟨rfl, rfl⟩) rfl rfl rfl (Nat.le_of_ble_eq_true rfl) dX1_init_10 rfl ?_
  refine n_aload_n (i := 0) hc 0 dX1_init_13 rfl rfl ?_
  refine n_sipush (v := 128) hc dX1_init_14 (by decide) ?_
  refine n_newa (atype := .int) (ty := .int) (N := 128) hc 0 (128, .inl (fun _ => 0)) wtN_3 rfl rfl (fun _ => rfl) (by decide) (by decide) (by decide) ⟨Nat.le_of_ble_eq_true rfl, Nat.le_of_ble_eq_true rfl⟩ dX1_init_17 (fun q17 => ?_)
  refine n_ch (ws' := [(h, .inr (2, [.ref q8, .null, .null, .null, .int 0, .int 0, .int 0, .int 0, .int 0, .int 0, .int 0, .int 0, .int 0])), (q8, .inl (iA, 512, .inl (fun _ => 0))), (q17, .inl (iA, 128, .inl (fun _ => 0)))]) (nc' := 2) (ns' := 640) rfl rfl rfl ?_
  refine n_put hc hI (C := RX3) (T := TX3) (N := 13) (ci := 2) 0 1 ([(h, .inr (2, [.ref q8, .ref q17, .null, .null, .int 0, .int 0, .int 0, .int 0, .int 0, .int 0, .int 0, .int 0, .int 0])), (q8, .inl (iA, 512, .inl (fun _ => 0))), (q17, .inl (iA, 128, .inl (fun _ => 0)))]) tyX3 tyX3_ok nmX3 wu_X3 wtN_5 (Or.inl rfl) (by decide) rfl rfl (Or.inr ⟨rfl, rfl⟩) rfl rfl rfl (Nat.le_of_ble_eq_true rfl) dX1_init_19 rfl ?_
  refine n_aload_n (i := 0) hc 0 dX1_init_22 rfl rfl ?_
  refine n_iconst (v := 4) hc dX1_init_23 (by decide) ?_
  refine n_newa (atype := .int) (ty := .int) (N := 4) hc 0 (4, .inl (fun _ => 0)) wtN_3 rfl rfl (fun _ => rfl) (by decide) (by decide) (by decide) ⟨Nat.le_of_ble_eq_true rfl, Nat.le_of_ble_eq_true rfl⟩ dX1_init_24 (fun q24 => ?_)
  refine n_ch (ws' := [(h, .inr (2, [.ref q8, .ref q17, .null, .null, .int 0, .int 0, .int 0, .int 0, .int 0, .int 0, .int 0, .int 0, .int 0])), (q8, .inl (iA, 512, .inl (fun _ => 0))), (q17, .inl (iA, 128, .inl (fun _ => 0))), (q24, .inl (iA, 4, .inl (fun _ => 0)))]) (nc' := 3) (ns' := 644) rfl rfl rfl ?_
  refine n_put hc hI (C := RX3) (T := TX3) (N := 13) (ci := 2) 0 2 ([(h, .inr (2, [.ref q8, .ref q17, .ref q24, .null, .int 0, .int 0, .int 0, .int 0, .int 0, .int 0, .int 0, .int 0, .int 0])), (q8, .inl (iA, 512, .inl (fun _ => 0))), (q17, .inl (iA, 128, .inl (fun _ => 0))), (q24, .inl (iA, 4, .inl (fun _ => 0)))]) tyX3 tyX3_ok nmX3 wu_X3 wtN_6 (Or.inl rfl) (by decide) rfl rfl (Or.inr ⟨rfl, rfl⟩) rfl rfl rfl (Nat.le_of_ble_eq_true rfl) dX1_init_26 rfl ?_
  refine n_aload_n (i := 0) hc 0 dX1_init_29 rfl rfl ?_
  refine n_bipush (v := 8) hc dX1_init_30 (by decide) ?_
  refine n_newa (atype := .int) (ty := .int) (N := 8) hc 0 (8, .inl (fun _ => 0)) wtN_3 rfl rfl (fun _ => rfl) (by decide) (by decide) (by decide) ⟨Nat.le_of_ble_eq_true rfl, Nat.le_of_ble_eq_true rfl⟩ dX1_init_32 (fun q32 => ?_)
  refine n_ch (ws' := [(h, .inr (2, [.ref q8, .ref q17, .ref q24, .null, .int 0, .int 0, .int 0, .int 0, .int 0, .int 0, .int 0, .int 0, .int 0])), (q8, .inl (iA, 512, .inl (fun _ => 0))), (q17, .inl (iA, 128, .inl (fun _ => 0))), (q24, .inl (iA, 4, .inl (fun _ => 0))), (q32, .inl (iA, 8, .inl (fun _ => 0)))]) (nc' := 4) (ns' := 652) rfl rfl rfl ?_
  refine n_put hc hI (C := RX3) (T := TX3) (N := 13) (ci := 2) 0 3 ([(h, .inr (2, [.ref q8, .ref q17, .ref q24, .ref q32, .int 0, .int 0, .int 0, .int 0, .int 0, .int 0, .int 0, .int 0, .int 0])), (q8, .inl (iA, 512, .inl (fun _ => 0))), (q17, .inl (iA, 128, .inl (fun _ => 0))), (q24, .inl (iA, 4, .inl (fun _ => 0))), (q32, .inl (iA, 8, .inl (fun _ => 0)))]) tyX3 tyX3_ok nmX3 wu_X3 wtN_7 (Or.inl rfl) (by decide) rfl rfl (Or.inr ⟨rfl, rfl⟩) rfl rfl rfl (Nat.le_of_ble_eq_true rfl) dX1_init_34 rfl ?_
  exact n_vret (post := fun _ => True) (wf := wf_X1_X3 h iA) (fun i => match i with | 0 => q8 | 1 => q17 | 2 => q24 | 3 => q32 | _ => h) hc trivial rfl dX1_init_37
def wf_X1_X4 (h : Nat) (iA : ClassId) (u : Nat → Nat) : va_W := [(h, .inr (3, [.ref (u 0), .ref (u 1), .ref (u 2), .ref (u 3), .int 0, .int 0, .null, .int 0, .int 0, .int 0, .int 0])), ((u 0), .inl (iA, 512, .inl (fun _ => 0))), ((u 1), .inl (iA, 128, .inl (fun _ => 0))), ((u 2), .inl (iA, 4, .inl (fun _ => 0))), ((u 3), .inl (iA, 8, .inl (fun _ => 0)))]
abbrev rm_X1_X4_init : Room := { frames := 2, cells := 4, slots := 652, locals := 40 }
theorem n_X1_X4_init (l : Launch) (G : va_G) (iA bA : ClassId) (h : Nat) : nMet l yX1_init cX1_init 1 rm_X1_X4_init (oN G iA bA) [.ref h] [(h, .inr (3, [.null, .null, .null, .null, .int 0, .int 0, .null, .int 0, .int 0, .int 0, .int 0]))] (fun _ => True) (wf_X1_X4 h iA) := by
  refine nMet_of (lv := [(0, .ref h)]) zN_ok (by decide +kernel) rfl (Nat.le_of_ble_eq_true rfl) rfl (fun κ hc hI => ?_)
  have hc : gC (oN G iA bA) κ cX1_init 1 RX1 none rm_X1_X4_init := hc
  refine n_aload_n (i := 0) hc 0 dX1_init_0 rfl rfl ?_
  refine n_objInit hc wtN_0 wtN_1 wtN_2 ⟨Nat.le_of_ble_eq_true rfl, Nat.le_of_ble_eq_true rfl⟩ dX1_init_1 ?_
  refine n_aload_n (i := 0) hc 0 dX1_init_4 rfl rfl ?_
  refine n_sipush (v := 512) hc dX1_init_5 (by decide) ?_
  refine n_newa (atype := .int) (ty := .int) (N := 512) hc 0 (512, .inl (fun _ => 0)) wtN_3 rfl rfl (fun _ => rfl) (by decide) (by decide) (by decide) ⟨Nat.le_of_ble_eq_true rfl, Nat.le_of_ble_eq_true rfl⟩ dX1_init_8 (fun q8 => ?_)
  refine n_ch (ws' := [(h, .inr (3, [.null, .null, .null, .null, .int 0, .int 0, .null, .int 0, .int 0, .int 0, .int 0])), (q8, .inl (iA, 512, .inl (fun _ => 0)))]) (nc' := 1) (ns' := 512) rfl rfl rfl ?_
  refine n_put hc hI (C := RX4) (T := TX4) (N := 11) (ci := 3) 0 0 ([(h, .inr (3, [.ref q8, .null, .null, .null, .int 0, .int 0, .null, .int 0, .int 0, .int 0, .int 0])), (q8, .inl (iA, 512, .inl (fun _ => 0)))]) tyX4 tyX4_ok nmX4 wu_X4 wtN_4 (Or.inl rfl) (by decide) rfl rfl (Or.inr ⟨rfl, rfl⟩) rfl rfl rfl (Nat.le_of_ble_eq_true rfl) dX1_init_10 rfl ?_
  refine n_aload_n (i := 0) hc 0 dX1_init_13 rfl rfl ?_
  refine n_sipush (v := 128) hc dX1_init_14 (by decide) ?_
  refine n_newa (atype := .int) (ty := .int) (N := 128) hc 0 (128, .inl (fun _ => 0)) wtN_3 rfl rfl (fun _ => rfl) (by decide) (by decide) (by decide) ⟨Nat.le_of_ble_eq_true rfl, Nat.le_of_ble_eq_true rfl⟩ dX1_init_17 (fun q17 => ?_)
  refine n_ch (ws' := [(h, .inr (3, [.ref q8, .null, .null, .null, .int 0, .int 0, .null, .int 0, .int 0, .int 0, .int 0])), (q8, .inl (iA, 512, .inl (fun _ => 0))), (q17, .inl (iA, 128, .inl (fun _ => 0)))]) (nc' := 2) (ns' := 640) rfl rfl rfl ?_
  refine n_put hc hI (C := RX4) (T := TX4) (N := 11) (ci := 3) 0 1 ([(h, .inr (3, [.ref q8, .ref q17, .null, .null, .int 0, .int 0, .null, .int 0, .int 0, .int 0, .int 0])), (q8, .inl (iA, 512, .inl (fun _ => 0))), (q17, .inl (iA, 128, .inl (fun _ => 0)))]) tyX4 tyX4_ok nmX4 wu_X4 wtN_5 (Or.inl rfl) (by decide) rfl rfl (Or.inr ⟨rfl, rfl⟩) rfl rfl rfl (Nat.le_of_ble_eq_true rfl) dX1_init_19 rfl ?_
  refine n_aload_n (i := 0) hc 0 dX1_init_22 rfl rfl ?_
  refine n_iconst (v := 4) hc dX1_init_23 (by decide) ?_
  refine n_newa (atype := .int) (ty := .int) (N := 4) hc 0 (4, .inl (fun _ => 0)) wtN_3 rfl rfl (fun _ => rfl) (by decide) (by decide) (by decide) ⟨Nat.le_of_ble_eq_true rfl, Nat.le_of_ble_eq_true rfl⟩ dX1_init_24 (fun q24 => ?_)
  refine n_ch (ws' := [(h, .inr (3, [.ref q8, .ref q17, .null, .null, .int 0, .int 0, .null, .int 0, .int 0, .int 0, .int 0])), (q8, .inl (iA, 512, .inl (fun _ => 0))), (q17, .inl (iA, 128, .inl (fun _ => 0))), (q24, .inl (iA, 4, .inl (fun _ => 0)))]) (nc' := 3) (ns' := 644) rfl rfl rfl ?_
  refine n_put hc hI (C := RX4) (T := TX4) (N := 11) (ci := 3) 0 2 ([(h, .inr (3, [.ref q8, .ref q17, .ref q24, .null, .int 0, .int 0, .null, .int 0, .int 0, .int 0, .int 0])), (q8, .inl (iA, 512, .inl (fun _ => 0))), (q17, .inl (iA, 128, .inl (fun _ => 0))), (q24, .inl (iA, 4, .inl (fun _ => 0)))]) tyX4 tyX4_ok nmX4 wu_X4 wtN_6 (Or.inl rfl) (by decide) rfl rfl (Or.inr ⟨rfl, rfl⟩) rfl rfl rfl (Nat.le_of_ble_eq_true rfl) dX1_init_26 rfl ?_
  refine n_aload_n (i := 0) hc 0 dX1_init_29 rfl rfl ?_
  refine n_bipush (v := 8) hc dX1_init_30 (by decide) ?_
  refine n_newa (atype := .int) (ty := .int) (N := 8) hc 0 (8, .inl (fun _ => 0)) wtN_3 rfl rfl (fun _ => rfl) (by decide) (by decide) (by decide) ⟨Nat.le_of_ble_eq_true rfl, Nat.le_of_ble_eq_true rfl⟩ dX1_init_32 (fun q32 => ?_)
  refine n_ch (ws' := [(h, .inr (3, [.ref q8, .ref q17, .ref q24, .null, .int 0, .int 0, .null, .int 0, .int 0, .int 0, .int 0])), (q8, .inl (iA, 512, .inl (fun _ => 0))), (q17, .inl (iA, 128, .inl (fun _ => 0))), (q24, .inl (iA, 4, .inl (fun _ => 0))), (q32, .inl (iA, 8, .inl (fun _ => 0)))]) (nc' := 4) (ns' := 652) rfl rfl rfl ?_
  refine n_put hc hI (C := RX4) (T := TX4) (N := 11) (ci := 3) 0 3 ([(h, .inr (3, [.ref q8, .ref q17, .ref q24, .ref q32, .int 0, .int 0, .null, .int 0, .int 0, .int 0, .int 0])), (q8, .inl (iA, 512, .inl (fun _ => 0))), (q17, .inl (iA, 128, .inl (fun _ => 0))), (q24, .inl (iA, 4, .inl (fun _ => 0))), (q32, .inl (iA, 8, .inl (fun _ => 0)))]) tyX4 tyX4_ok nmX4 wu_X4 wtN_7 (Or.inl rfl) (by decide) rfl rfl (Or.inr ⟨rfl, rfl⟩) rfl rfl rfl (Nat.le_of_ble_eq_true rfl) dX1_init_34 rfl ?_
  exact n_vret (post := fun _ => True) (wf := wf_X1_X4 h iA) (fun i => match i with | 0 => q8 | 1 => q17 | 2 => q24 | 3 => q32 | _ => h) hc trivial rfl dX1_init_37
def wf_X7 (h : Nat) (iA : ClassId) (c1 : Nat) (u : Nat → Nat) : va_W := [(h, .inr (5, [.ref c1, .ref (u 0), .ref (u 1), .ref (u 2), .int 0, .int 0, .int 0, .int 0, .int 0, .int 0, .int 0, .int 0, .int 0, .int 0, .int 0, .int 0])), ((u 0), .inl (iA, 256, .inl (fun _ => 0))), ((u 1), .inl (iA, 2048, .inl (fun _ => 0))), ((u 2), .inl (iA, 32, .inl (fun _ => 0)))]
abbrev rm_X7_init : Room := { frames := 2, cells := 3, slots := 2336, locals := 40 }
theorem n_X7_init (l : Launch) (G : va_G) (iA bA : ClassId) (h : Nat) (c1 : Nat) : nMet l yX7_init cX7_init 2 rm_X7_init (oN G iA bA) [.ref h, .ref c1] [(h, .inr (5, [.null, .null, .null, .null, .int 0, .int 0, .int 0, .int 0, .int 0, .int 0, .int 0, .int 0, .int 0, .int 0, .int 0, .int 0]))] (fun _ => True) (wf_X7 h iA c1) := by
  refine nMet_of (lv := [(0, .ref h), (1, .ref c1)]) zN_ok (by decide +kernel) rfl (Nat.le_of_ble_eq_true rfl) rfl (fun κ hc hI => ?_)
  have hc : gC (oN G iA bA) κ cX7_init 2 RX7 none rm_X7_init := hc
  refine n_aload_n (i := 0) hc 0 dX7_init_0 rfl rfl ?_
  refine n_objInit hc wtN_8 wtN_1 wtN_2 ⟨Nat.le_of_ble_eq_true rfl, Nat.le_of_ble_eq_true rfl⟩ dX7_init_1 ?_
  refine n_aload_n (i := 0) hc 0 dX7_init_4 rfl rfl ?_
  refine n_sipush (v := 256) hc dX7_init_5 (by decide) ?_
  refine n_newa (atype := .int) (ty := .int) (N := 256) hc 0 (256, .inl (fun _ => 0)) wtN_3 rfl rfl (fun _ => rfl) (by decide) (by decide) (by decide) ⟨Nat.le_of_ble_eq_true rfl, Nat.le_of_ble_eq_true rfl⟩ dX7_init_8 (fun q8 => ?_)
  refine n_ch (ws' := [(h, .inr (5, [.null, .null, .null, .null, .int 0, .int 0, .int 0, .int 0, .int 0, .int 0, .int 0, .int 0, .int 0, .int 0, .int 0, .int 0])), (q8, .inl (iA, 256, .inl (fun _ => 0)))]) (nc' := 1) (ns' := 256) rfl rfl rfl ?_
  refine n_put hc hI (C := RX7) (T := TX7) (N := 16) (ci := 5) 0 1 ([(h, .inr (5, [.null, .ref q8, .null, .null, .int 0, .int 0, .int 0, .int 0, .int 0, .int 0, .int 0, .int 0, .int 0, .int 0, .int 0, .int 0])), (q8, .inl (iA, 256, .inl (fun _ => 0)))]) tyX7 tyX7_ok nmX7 wu_X7 wtN_9 (Or.inl rfl) (by decide) rfl rfl (Or.inr ⟨rfl, rfl⟩) rfl rfl rfl (Nat.le_of_ble_eq_true rfl) dX7_init_10 rfl ?_
  refine n_aload_n (i := 0) hc 0 dX7_init_13 rfl rfl ?_
  refine n_sipush (v := 2048) hc dX7_init_14 (by decide) ?_
  refine n_newa (atype := .int) (ty := .int) (N := 2048) hc 0 (2048, .inl (fun _ => 0)) wtN_3 rfl rfl (fun _ => rfl) (by decide) (by decide) (by decide) ⟨Nat.le_of_ble_eq_true rfl, Nat.le_of_ble_eq_true rfl⟩ dX7_init_17 (fun q17 => ?_)
  refine n_ch (ws' := [(h, .inr (5, [.null, .ref q8, .null, .null, .int 0, .int 0, .int 0, .int 0, .int 0, .int 0, .int 0, .int 0, .int 0, .int 0, .int 0, .int 0])), (q8, .inl (iA, 256, .inl (fun _ => 0))), (q17, .inl (iA, 2048, .inl (fun _ => 0)))]) (nc' := 2) (ns' := 2304) rfl rfl rfl ?_
  refine n_put hc hI (C := RX7) (T := TX7) (N := 16) (ci := 5) 0 2 ([(h, .inr (5, [.null, .ref q8, .ref q17, .null, .int 0, .int 0, .int 0, .int 0, .int 0, .int 0, .int 0, .int 0, .int 0, .int 0, .int 0, .int 0])), (q8, .inl (iA, 256, .inl (fun _ => 0))), (q17, .inl (iA, 2048, .inl (fun _ => 0)))]) tyX7 tyX7_ok nmX7 wu_X7 wtN_10 (Or.inl rfl) (by decide) rfl rfl (Or.inr ⟨rfl, rfl⟩) rfl rfl rfl (Nat.le_of_ble_eq_true rfl) dX7_init_19 rfl ?_
  refine n_aload_n (i := 0) hc 0 dX7_init_22 rfl rfl ?_
  refine n_bipush (v := 32) hc dX7_init_23 (by decide) ?_
  refine n_newa (atype := .int) (ty := .int) (N := 32) hc 0 (32, .inl (fun _ => 0)) wtN_3 rfl rfl (fun _ => rfl) (by decide) (by decide) (by decide) ⟨Nat.le_of_ble_eq_true rfl, Nat.le_of_ble_eq_true rfl⟩ dX7_init_25 (fun q25 => ?_)
  refine n_ch (ws' := [(h, .inr (5, [.null, .ref q8, .ref q17, .null, .int 0, .int 0, .int 0, .int 0, .int 0, .int 0, .int 0, .int 0, .int 0, .int 0, .int 0, .int 0])), (q8, .inl (iA, 256, .inl (fun _ => 0))), (q17, .inl (iA, 2048, .inl (fun _ => 0))), (q25, .inl (iA, 32, .inl (fun _ => 0)))]) (nc' := 3) (ns' := 2336) rfl rfl rfl ?_
  refine n_put hc hI (C := RX7) (T := TX7) (N := 16) (ci := 5) 0 3 ([(h, .inr (5, [.null, .ref q8, .ref q17, .ref q25, .int 0, .int 0, .int 0, .int 0, .int 0, .int 0, .int 0, .int 0, .int 0, .int 0, .int 0, .int 0])), (q8, .inl (iA, 256, .inl (fun _ => 0))), (q17, .inl (iA, 2048, .inl (fun _ => 0))), (q25, .inl (iA, 32, .inl (fun _ => 0)))]) tyX7 tyX7_ok nmX7 wu_X7 wtN_11 (Or.inl rfl) (by decide) rfl rfl (Or.inr ⟨rfl, rfl⟩) rfl rfl rfl (Nat.le_of_ble_eq_true rfl) dX7_init_27 rfl ?_
  refine n_aload_n (i := 0) hc 0 dX7_init_30 rfl rfl ?_
  refine n_aload_n (i := 1) hc 1 dX7_init_31 rfl rfl ?_
  refine n_put hc hI (C := RX7) (T := TX7) (N := 16) (ci := 5) 0 0 ([(h, .inr (5, [.ref c1, .ref q8, .ref q17, .ref q25, .int 0, .int 0, .int 0, .int 0, .int 0, .int 0, .int 0, .int 0, .int 0, .int 0, .int 0, .int 0])), (q8, .inl (iA, 256, .inl (fun _ => 0))), (q17, .inl (iA, 2048, .inl (fun _ => 0))), (q25, .inl (iA, 32, .inl (fun _ => 0)))]) tyX7 tyX7_ok nmX7 wu_X7 wtN_12 (Or.inl rfl) (by decide) rfl rfl (Or.inr ⟨rfl, rfl⟩) rfl rfl rfl (Nat.le_of_ble_eq_true rfl) dX7_init_32 rfl ?_
  exact n_vret (post := fun _ => True) (wf := wf_X7 h iA c1) (fun i => match i with | 0 => q8 | 1 => q17 | 2 => q25 | _ => h) hc trivial rfl dX7_init_35
def wf_X8 (h : Nat) (iA : ClassId) (u : Nat → Nat) : va_W := [(h, .inr (6, [.ref (u 0), .int 0, .int 0, .int 0, .int 0, .int 0, .int 0])), ((u 0), .inl (iA, 4, .inl (fun _ => 0)))]
abbrev rm_X8_init : Room := { frames := 2, cells := 1, slots := 4, locals := 40 }
theorem n_X8_init (l : Launch) (G : va_G) (iA bA : ClassId) (h : Nat) : nMet l yX8_init cX8_init 1 rm_X8_init (oN G iA bA) [.ref h] [(h, .inr (6, [.null, .int 0, .int 0, .int 0, .int 0, .int 0, .int 0]))] (fun _ => True) (wf_X8 h iA) := by
  refine nMet_of (lv := [(0, .ref h)]) zN_ok (by decide +kernel) rfl (Nat.le_of_ble_eq_true rfl) rfl (fun κ hc hI => ?_)
  have hc : gC (oN G iA bA) κ cX8_init 1 RX8 none rm_X8_init := hc
  refine n_aload_n (i := 0) hc 0 dX8_init_0 rfl rfl ?_
  refine n_objInit hc wtN_13 wtN_1 wtN_2 ⟨Nat.le_of_ble_eq_true rfl, Nat.le_of_ble_eq_true rfl⟩ dX8_init_1 ?_
  refine n_aload_n (i := 0) hc 0 dX8_init_4 rfl rfl ?_
  refine n_iconst (v := 4) hc dX8_init_5 (by decide) ?_
  refine n_newa (atype := .int) (ty := .int) (N := 4) hc 0 (4, .inl (fun _ => 0)) wtN_3 rfl rfl (fun _ => rfl) (by decide) (by decide) (by decide) ⟨Nat.le_of_ble_eq_true rfl, Nat.le_of_ble_eq_true rfl⟩ dX8_init_6 (fun q6 => ?_)
  refine n_ch (ws' := [(h, .inr (6, [.null, .int 0, .int 0, .int 0, .int 0, .int 0, .int 0])), (q6, .inl (iA, 4, .inl (fun _ => 0)))]) (nc' := 1) (ns' := 4) rfl rfl rfl ?_
  refine n_put hc hI (C := RX8) (T := TX8) (N := 7) (ci := 6) 0 0 ([(h, .inr (6, [.ref q6, .int 0, .int 0, .int 0, .int 0, .int 0, .int 0])), (q6, .inl (iA, 4, .inl (fun _ => 0)))]) tyX8 tyX8_ok nmX8 wu_X8 wtN_14 (Or.inl rfl) (by decide) rfl rfl (Or.inr ⟨rfl, rfl⟩) rfl rfl rfl (Nat.le_of_ble_eq_true rfl) dX8_init_8 rfl ?_
  exact n_vret (post := fun _ => True) (wf := wf_X8 h iA) (fun i => match i with | 0 => q6 | _ => h) hc trivial rfl dX8_init_11
def wf_X6 (h : Nat) (iA : ClassId) (u : Nat → Nat) : va_W := [(h, .inr (4, [.ref (u 0), .ref (u 1), .int 0])), ((u 0), .inl (iA, 2, .inl (fun _ => 0))), ((u 1), .inl (iA, 2, .inl (upd (upd (fun _ => 0) 0 255) 1 255)))]
abbrev rm_X6_init : Room := { frames := 2, cells := 2, slots := 4, locals := 40 }
theorem n_X6_init (l : Launch) (G : va_G) (iA bA : ClassId) (h : Nat) : nMet l yX6_init cX6_init 1 rm_X6_init (oN G iA bA) [.ref h] [(h, .inr (4, [.null, .null, .int 0]))] (fun _ => True) (wf_X6 h iA) := by
  refine nMet_of (lv := [(0, .ref h)]) zN_ok (by decide +kernel) rfl (Nat.le_of_ble_eq_true rfl) rfl (fun κ hc hI => ?_)
  have hc : gC (oN G iA bA) κ cX6_init 1 RX6 none rm_X6_init := hc
  refine n_aload_n (i := 0) hc 0 dX6_init_0 rfl rfl ?_
  refine n_objInit hc wtN_15 wtN_1 wtN_2 ⟨Nat.le_of_ble_eq_true rfl, Nat.le_of_ble_eq_true rfl⟩ dX6_init_1 ?_
  refine n_aload_n (i := 0) hc 0 dX6_init_4 rfl rfl ?_
  refine n_iconst (v := 2) hc dX6_init_5 (by decide) ?_
  refine n_newa (atype := .int) (ty := .int) (N := 2) hc 0 (2, .inl (fun _ => 0)) wtN_3 rfl rfl (fun _ => rfl) (by decide) (by decide) (by decide) ⟨Nat.le_of_ble_eq_true rfl, Nat.le_of_ble_eq_true rfl⟩ dX6_init_6 (fun q6 => ?_)
  refine n_ch (ws' := [(h, .inr (4, [.null, .null, .int 0])), (q6, .inl (iA, 2, .inl (fun _ => 0)))]) (nc' := 1) (ns' := 2) rfl rfl rfl ?_
  refine n_put hc hI (C := RX6) (T := TX6) (N := 3) (ci := 4) 0 0 ([(h, .inr (4, [.ref q6, .null, .int 0])), (q6, .inl (iA, 2, .inl (fun _ => 0)))]) tyX6 tyX6_ok nmX6 wu_X6 wtN_16 (Or.inl rfl) (by decide) rfl rfl (Or.inr ⟨rfl, rfl⟩) rfl rfl rfl (Nat.le_of_ble_eq_true rfl) dX6_init_8 rfl ?_
  refine n_aload_n (i := 0) hc 0 dX6_init_11 rfl rfl ?_
  refine n_iconst (v := 2) hc dX6_init_12 (by decide) ?_
  refine n_newa (atype := .int) (ty := .int) (N := 2) hc 0 (2, .inl (fun _ => 0)) wtN_3 rfl rfl (fun _ => rfl) (by decide) (by decide) (by decide) ⟨Nat.le_of_ble_eq_true rfl, Nat.le_of_ble_eq_true rfl⟩ dX6_init_13 (fun q13 => ?_)
  refine n_ch (ws' := [(h, .inr (4, [.ref q6, .null, .int 0])), (q6, .inl (iA, 2, .inl (fun _ => 0))), (q13, .inl (iA, 2, .inl (fun _ => 0)))]) (nc' := 2) (ns' := 4) rfl rfl rfl ?_
  refine n_dup hc dX6_init_15 rfl ?_
  refine n_iconst (v := 0) hc dX6_init_16 (by decide) ?_
  refine n_sipush (v := 255) hc dX6_init_17 (by decide) ?_
  refine n_iast hc 2 0 ([(h, .inr (4, [.ref q6, .null, .int 0])), (q6, .inl (iA, 2, .inl (fun _ => 0))), (q13, .inl (iA, 2, .inl (upd (fun _ => 0) 0 255)))]) rfl rfl (vp_in_iff.mpr (by decide)) dX6_init_20 rfl ?_
  refine n_dup hc dX6_init_21 rfl ?_
  refine n_iconst (v := 1) hc dX6_init_22 (by decide) ?_
  refine n_sipush (v := 255) hc dX6_init_23 (by decide) ?_
  refine n_iast hc 2 0 ([(h, .inr (4, [.ref q6, .null, .int 0])), (q6, .inl (iA, 2, .inl (fun _ => 0))), (q13, .inl (iA, 2, .inl (upd (upd (fun _ => 0) 0 255) 1 255)))]) rfl rfl (vp_in_iff.mpr (by decide)) dX6_init_26 rfl ?_
  refine n_put hc hI (C := RX6) (T := TX6) (N := 3) (ci := 4) 0 1 ([(h, .inr (4, [.ref q6, .ref q13, .int 0])), (q6, .inl (iA, 2, .inl (fun _ => 0))), (q13, .inl (iA, 2, .inl (upd (upd (fun _ => 0) 0 255) 1 255)))]) tyX6 tyX6_ok nmX6 wu_X6 wtN_17 (Or.inl rfl) (by decide) rfl rfl (Or.inr ⟨rfl, rfl⟩) rfl rfl rfl (Nat.le_of_ble_eq_true rfl) dX6_init_27 rfl ?_
  exact n_vret (post := fun _ => True) (wf := wf_X6 h iA) (fun i => match i with | 0 => q6 | 1 => q13 | _ => h) hc trivial rfl dX6_init_30
def wf_X0 (h : Nat) (iA : ClassId) (c1 : Nat) (c2 : Nat) (c3 : Nat) (c4 : Nat) (u : Nat → Nat) : va_W := [(h, .inr (0, [.ref (u 0), .ref (u 1), .ref c1, .ref c2, .ref c3, .ref c4, .int (-1)])), ((u 0), .inl (iA, 2048, .inl (fun _ => 0))), ((u 1), .inl (iA, 256, .inl (fun _ => 0)))]
abbrev rm_X0_init : Room := { frames := 2, cells := 2, slots := 2304, locals := 40 }
theorem n_X0_init (l : Launch) (G : va_G) (iA bA : ClassId) (h : Nat) (c1 : Nat) (c2 : Nat) (c3 : Nat) (c4 : Nat) : nMet l yX0_init cX0_init 5 rm_X0_init (oN G iA bA) [.ref h, .ref c1, .ref c2, .ref c3, .ref c4] [(h, .inr (0, [.null, .null, .null, .null, .null, .null, .int 0]))] (fun _ => True) (wf_X0 h iA c1 c2 c3 c4) := by
  refine nMet_of (lv := [(0, .ref h), (1, .ref c1), (2, .ref c2), (3, .ref c3), (4, .ref c4)]) zN_ok (by decide +kernel) rfl (Nat.le_of_ble_eq_true rfl) rfl (fun κ hc hI => ?_)
  have hc : gC (oN G iA bA) κ cX0_init 5 RX0 none rm_X0_init := hc
  refine n_aload_n (i := 0) hc 0 dX0_init_0 rfl rfl ?_
  refine n_objInit hc wtN_18 wtN_1 wtN_2 ⟨Nat.le_of_ble_eq_true rfl, Nat.le_of_ble_eq_true rfl⟩ dX0_init_1 ?_
  refine n_aload_n (i := 0) hc 0 dX0_init_4 rfl rfl ?_
  refine n_sipush (v := 2048) hc dX0_init_5 (by decide) ?_
  refine n_newa (atype := .int) (ty := .int) (N := 2048) hc 0 (2048, .inl (fun _ => 0)) wtN_3 rfl rfl (fun _ => rfl) (by decide) (by decide) (by decide) ⟨Nat.le_of_ble_eq_true rfl, Nat.le_of_ble_eq_true rfl⟩ dX0_init_8 (fun q8 => ?_)
  refine n_ch (ws' := [(h, .inr (0, [.null, .null, .null, .null, .null, .null, .int 0])), (q8, .inl (iA, 2048, .inl (fun _ => 0)))]) (nc' := 1) (ns' := 2048) rfl rfl rfl ?_
  refine n_put hc hI (C := RX0) (T := TX0) (N := 7) (ci := 0) 0 0 ([(h, .inr (0, [.ref q8, .null, .null, .null, .null, .null, .int 0])), (q8, .inl (iA, 2048, .inl (fun _ => 0)))]) tyX0 tyX0_ok nmX0 wu_X0 wtN_19 (Or.inl rfl) (by decide) rfl rfl (Or.inr ⟨rfl, rfl⟩) rfl rfl rfl (Nat.le_of_ble_eq_true rfl) dX0_init_10 rfl ?_
  refine n_aload_n (i := 0) hc 0 dX0_init_13 rfl rfl ?_
  refine n_sipush (v := 256) hc dX0_init_14 (by decide) ?_
  refine n_newa (atype := .int) (ty := .int) (N := 256) hc 0 (256, .inl (fun _ => 0)) wtN_3 rfl rfl (fun _ => rfl) (by decide) (by decide) (by decide) ⟨Nat.le_of_ble_eq_true rfl, Nat.le_of_ble_eq_true rfl⟩ dX0_init_17 (fun q17 => ?_)
  refine n_ch (ws' := [(h, .inr (0, [.ref q8, .null, .null, .null, .null, .null, .int 0])), (q8, .inl (iA, 2048, .inl (fun _ => 0))), (q17, .inl (iA, 256, .inl (fun _ => 0)))]) (nc' := 2) (ns' := 2304) rfl rfl rfl ?_
  refine n_put hc hI (C := RX0) (T := TX0) (N := 7) (ci := 0) 0 1 ([(h, .inr (0, [.ref q8, .ref q17, .null, .null, .null, .null, .int 0])), (q8, .inl (iA, 2048, .inl (fun _ => 0))), (q17, .inl (iA, 256, .inl (fun _ => 0)))]) tyX0 tyX0_ok nmX0 wu_X0 wtN_20 (Or.inl rfl) (by decide) rfl rfl (Or.inr ⟨rfl, rfl⟩) rfl rfl rfl (Nat.le_of_ble_eq_true rfl) dX0_init_19 rfl ?_
  refine n_aload_n (i := 0) hc 0 dX0_init_22 rfl rfl ?_
  refine n_iconst (v := -1) hc dX0_init_23 (by decide) ?_
  refine n_put hc hI (C := RX0) (T := TX0) (N := 7) (ci := 0) 0 6 ([(h, .inr (0, [.ref q8, .ref q17, .null, .null, .null, .null, .int (-1)])), (q8, .inl (iA, 2048, .inl (fun _ => 0))), (q17, .inl (iA, 256, .inl (fun _ => 0)))]) tyX0 tyX0_ok nmX0 wu_X0 wtN_21 (Or.inl rfl) (by decide) rfl rfl (Or.inl rfl) rfl rfl rfl (Nat.le_of_ble_eq_true rfl) dX0_init_24 rfl ?_
  refine n_aload_n (i := 0) hc 0 dX0_init_27 rfl rfl ?_
  refine n_aload_n (i := 1) hc 1 dX0_init_28 rfl rfl ?_
  refine n_put hc hI (C := RX0) (T := TX0) (N := 7) (ci := 0) 0 2 ([(h, .inr (0, [.ref q8, .ref q17, .ref c1, .null, .null, .null, .int (-1)])), (q8, .inl (iA, 2048, .inl (fun _ => 0))), (q17, .inl (iA, 256, .inl (fun _ => 0)))]) tyX0 tyX0_ok nmX0 wu_X0 wtN_22 (Or.inl rfl) (by decide) rfl rfl (Or.inr ⟨rfl, rfl⟩) rfl rfl rfl (Nat.le_of_ble_eq_true rfl) dX0_init_29 rfl ?_
  refine n_aload_n (i := 0) hc 0 dX0_init_32 rfl rfl ?_
  refine n_aload_n (i := 2) hc 2 dX0_init_33 rfl rfl ?_
  refine n_put hc hI (C := RX0) (T := TX0) (N := 7) (ci := 0) 0 3 ([(h, .inr (0, [.ref q8, .ref q17, .ref c1, .ref c2, .null, .null, .int (-1)])), (q8, .inl (iA, 2048, .inl (fun _ => 0))), (q17, .inl (iA, 256, .inl (fun _ => 0)))]) tyX0 tyX0_ok nmX0 wu_X0 wtN_23 (Or.inl rfl) (by decide) rfl rfl (Or.inr ⟨rfl, rfl⟩) rfl rfl rfl (Nat.le_of_ble_eq_true rfl) dX0_init_34 rfl ?_
  refine n_aload_n (i := 0) hc 0 dX0_init_37 rfl rfl ?_
  refine n_aload_n (i := 3) hc 3 dX0_init_38 rfl rfl ?_
  refine n_put hc hI (C := RX0) (T := TX0) (N := 7) (ci := 0) 0 4 ([(h, .inr (0, [.ref q8, .ref q17, .ref c1, .ref c2, .ref c3, .null, .int (-1)])), (q8, .inl (iA, 2048, .inl (fun _ => 0))), (q17, .inl (iA, 256, .inl (fun _ => 0)))]) tyX0 tyX0_ok nmX0 wu_X0 wtN_24 (Or.inl rfl) (by decide) rfl rfl (Or.inr ⟨rfl, rfl⟩) rfl rfl rfl (Nat.le_of_ble_eq_true rfl) dX0_init_39 rfl ?_
  refine n_aload_n (i := 0) hc 0 dX0_init_42 rfl rfl ?_
  refine n_aload (i := 4) hc 4 dX0_init_43 rfl ?_
  refine n_put hc hI (C := RX0) (T := TX0) (N := 7) (ci := 0) 0 5 ([(h, .inr (0, [.ref q8, .ref q17, .ref c1, .ref c2, .ref c3, .ref c4, .int (-1)])), (q8, .inl (iA, 2048, .inl (fun _ => 0))), (q17, .inl (iA, 256, .inl (fun _ => 0)))]) tyX0 tyX0_ok nmX0 wu_X0 wtN_25 (Or.inl rfl) (by decide) rfl rfl (Or.inr ⟨rfl, rfl⟩) rfl rfl rfl (Nat.le_of_ble_eq_true rfl) dX0_init_45 rfl ?_
  exact n_vret (post := fun _ => True) (wf := wf_X0 h iA c1 c2 c3 c4) (fun i => match i with | 0 => q8 | 1 => q17 | _ => h) hc trivial rfl dX0_init_48
def wf_X2 (h : Nat) (iA : ClassId) (c1 : Nat) (u : Nat → Nat) : va_W := [(h, .inr (1, [.ref c1, .int 0, .int 0, .int 0, .int 0, .int 32, .int 0, .int 0]))]
abbrev rm_X2_init : Room := { frames := 2, cells := 0, slots := 0, locals := 40 }
theorem n_X2_init (l : Launch) (G : va_G) (iA bA : ClassId) (h : Nat) (c1 : Nat) : nMet l yX2_init cX2_init 2 rm_X2_init (oN G iA bA) [.ref h, .ref c1] [(h, .inr (1, [.null, .int 0, .int 0, .int 0, .int 0, .int 0, .int 0, .int 0]))] (fun _ => True) (wf_X2 h iA c1) := by
  refine nMet_of (lv := [(0, .ref h), (1, .ref c1)]) zN_ok (by decide +kernel) rfl (Nat.le_of_ble_eq_true rfl) rfl (fun κ hc hI => ?_)
  have hc : gC (oN G iA bA) κ cX2_init 2 RX2 none rm_X2_init := hc
  refine n_aload_n (i := 0) hc 0 dX2_init_0 rfl rfl ?_
  refine n_objInit hc wtN_26 wtN_1 wtN_2 ⟨Nat.le_of_ble_eq_true rfl, Nat.le_of_ble_eq_true rfl⟩ dX2_init_1 ?_
  refine n_aload_n (i := 0) hc 0 dX2_init_4 rfl rfl ?_
  refine n_bipush (v := 32) hc dX2_init_5 (by decide) ?_
  refine n_put hc hI (C := RX2) (T := TX2) (N := 8) (ci := 1) 0 5 ([(h, .inr (1, [.null, .int 0, .int 0, .int 0, .int 0, .int 32, .int 0, .int 0]))]) tyX2 tyX2_ok nmX2 wu_X2 wtN_27 (Or.inl rfl) (by decide) rfl rfl (Or.inl rfl) rfl rfl rfl (Nat.le_of_ble_eq_true rfl) dX2_init_7 rfl ?_
  refine n_aload_n (i := 0) hc 0 dX2_init_10 rfl rfl ?_
  refine n_aload_n (i := 1) hc 1 dX2_init_11 rfl rfl ?_
  refine n_put hc hI (C := RX2) (T := TX2) (N := 8) (ci := 1) 0 0 ([(h, .inr (1, [.ref c1, .int 0, .int 0, .int 0, .int 0, .int 32, .int 0, .int 0]))]) tyX2 tyX2_ok nmX2 wu_X2 wtN_28 (Or.inl rfl) (by decide) rfl rfl (Or.inr ⟨rfl, rfl⟩) rfl rfl rfl (Nat.le_of_ble_eq_true rfl) dX2_init_12 rfl ?_
  exact n_vret (post := fun _ => True) (wf := wf_X2 h iA c1) (fun i => match i with  | _ => h) hc trivial rfl dX2_init_15
end NC
