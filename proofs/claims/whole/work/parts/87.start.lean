section LF
theorem arr_int {s : State} {args : Array Value} (h : (Cond.arrayClass .int).before args s = true) : ∃ cA, ArrOfT s cA .int ∧ va_RA s cA .int := by
  obtain ⟨cA, kA, comp, h1, h2, h3⟩ := Cond.arrayClass_spec h
  exact ⟨cA, fun n z => ⟨fun k h => (by cases h), kA, h2, comp, h3⟩, h1⟩
theorem arr_boolean {s : State} {args : Array Value} (h : (Cond.arrayClass .boolean).before args s = true) : ∃ cA, ArrOfT s cA .boolean ∧ va_RA s cA .boolean := by
  obtain ⟨cA, kA, comp, h1, h2, h3⟩ := Cond.arrayClass_spec h
  exact ⟨cA, fun n z => ⟨fun k h => (by cases h), kA, h2, comp, h3⟩, h1⟩
theorem arr_long {s : State} {args : Array Value} (h : (Cond.arrayClass .long).before args s = true) : ∃ cA, ArrOfT s cA .long ∧ va_RA s cA .long := by
  obtain ⟨cA, kA, comp, h1, h2, h3⟩ := Cond.arrayClass_spec h
  exact ⟨cA, fun n z => ⟨fun k h => (by cases h), kA, h2, comp, h3⟩, h1⟩
theorem eq_of {s : State} {args : Array Value} {a : Term} {v : Int32} (h : (Cond.eq a (.int v)).before args s = true) : a.eval args s none [] s = some (.int v) := by
  obtain ⟨w, h1, h2⟩ := Cond.eq_one (show (Cond.eq a (.int v)).holds args s none s [] = true from h)
  cases h2
  exact h1
theorem tab_of {s : State} {args : Array Value} {C n : String} {N : Nat} {f : Nat → Int32} {A : Nat → Prop} (hpre : ∀ c ∈ flatC (Jvm.Cond.and given_1 narrow_1), c.before args s = true) (o : Nat) (hN : N < 2 ^ 31) (ha : Cond.arrayOf (.static C n "[I") .int ∈ flatC (Jvm.Cond.and given_1 narrow_1)) (hl : Cond.eq (.length (.static C n "[I")) (.int (Int32.ofNat N)) ∈ flatC (Jvm.Cond.and given_1 narrow_1)) (he : ((flatC (Jvm.Cond.and given_1 narrow_1)).drop o).take N = (List.range N).map (fun j => Cond.eq (.elem (.static C n "[I") (.int (Int32.ofNat j))) (.int (f j)))) (hA : ∀ a : Nat, a < s.heap.size → ¬ A a) : ∃ t : Nat, (Term.static C n "[I").eval args s none [] s = some (.ref t) ∧ va_T .int t N (fun j => .int (f j)) A s s.heap := by
  refine va_Tof hN (hpre _ ha) (eq_of (hpre _ hl)) (fun j hj => ?_) hA
  have hm : Cond.eq (.elem (.static C n "[I") (.int (Int32.ofNat j))) (.int (f j)) ∈ flatC (Jvm.Cond.and given_1 narrow_1) := List.mem_of_mem_drop (List.mem_of_mem_take (by rw [he]; exact List.mem_map.mpr ⟨j, List.mem_range.mpr hj, rfl⟩))
  exact eq_of (hpre _ hm)
set_option maxRecDepth 100000 in
theorem fl_OP : ((flatC (Jvm.Cond.and given_1 narrow_1)).drop 7).take 256 = (List.range 256).map (fun j => Cond.eq (.elem (.static "GameConsole$Opcodes" "OPERATION" "[I") (.int (Int32.ofNat j))) (.int (tOP j))) := by decide +kernel
set_option maxRecDepth 100000 in
theorem fa_OP : Cond.arrayOf (.static "GameConsole$Opcodes" "OPERATION" "[I") .int ∈ flatC (Jvm.Cond.and given_1 narrow_1) := List.mem_of_getElem? (i := 5) (by decide +kernel)
set_option maxRecDepth 100000 in
theorem fn_OP : Cond.eq (.length (.static "GameConsole$Opcodes" "OPERATION" "[I")) (.int (Int32.ofNat 256)) ∈ flatC (Jvm.Cond.and given_1 narrow_1) := List.mem_of_getElem? (i := 6) (by decide +kernel)
set_option maxRecDepth 100000 in
theorem fl_MO : ((flatC (Jvm.Cond.and given_1 narrow_1)).drop 266).take 256 = (List.range 256).map (fun j => Cond.eq (.elem (.static "GameConsole$Opcodes" "MODE" "[I") (.int (Int32.ofNat j))) (.int (tMO j))) := by decide +kernel
set_option maxRecDepth 100000 in
theorem fa_MO : Cond.arrayOf (.static "GameConsole$Opcodes" "MODE" "[I") .int ∈ flatC (Jvm.Cond.and given_1 narrow_1) := List.mem_of_getElem? (i := 264) (by decide +kernel)
set_option maxRecDepth 100000 in
theorem fn_MO : Cond.eq (.length (.static "GameConsole$Opcodes" "MODE" "[I")) (.int (Int32.ofNat 256)) ∈ flatC (Jvm.Cond.and given_1 narrow_1) := List.mem_of_getElem? (i := 265) (by decide +kernel)
set_option maxRecDepth 100000 in
theorem fl_CY : ((flatC (Jvm.Cond.and given_1 narrow_1)).drop 560).take 256 = (List.range 256).map (fun j => Cond.eq (.elem (.static "GameConsole$Opcodes" "CYCLES" "[I") (.int (Int32.ofNat j))) (.int (tCY j))) := by decide +kernel
set_option maxRecDepth 100000 in
theorem fa_CY : Cond.arrayOf (.static "GameConsole$Opcodes" "CYCLES" "[I") .int ∈ flatC (Jvm.Cond.and given_1 narrow_1) := List.mem_of_getElem? (i := 558) (by decide +kernel)
set_option maxRecDepth 100000 in
theorem fn_CY : Cond.eq (.length (.static "GameConsole$Opcodes" "CYCLES" "[I")) (.int (Int32.ofNat 256)) ∈ flatC (Jvm.Cond.and given_1 narrow_1) := List.mem_of_getElem? (i := 559) (by decide +kernel)
set_option maxRecDepth 100000 in
theorem fl_LE : ((flatC (Jvm.Cond.and given_1 narrow_1)).drop 525).take 32 = (List.range 32).map (fun j => Cond.eq (.elem (.static "GameConsole$SoundUnit" "LENGTHS" "[I") (.int (Int32.ofNat j))) (.int (tLE j))) := by decide +kernel
set_option maxRecDepth 100000 in
theorem fa_LE : Cond.arrayOf (.static "GameConsole$SoundUnit" "LENGTHS" "[I") .int ∈ flatC (Jvm.Cond.and given_1 narrow_1) := List.mem_of_getElem? (i := 523) (by decide +kernel)
set_option maxRecDepth 100000 in
theorem fn_LE : Cond.eq (.length (.static "GameConsole$SoundUnit" "LENGTHS" "[I")) (.int (Int32.ofNat 32)) ∈ flatC (Jvm.Cond.and given_1 narrow_1) := List.mem_of_getElem? (i := 524) (by decide +kernel)
set_option maxRecDepth 100000 in
theorem fs_st : ∀ q ∈ stX, Cond.stringRef RX9 q.1 q.2 ∈ lw_tbl ∧ Cond.exactly (Term.string RX9 q.1) "java/lang/String" ∈ flatC (Jvm.Cond.and given_1 narrow_1) := by decide +kernel
set_option maxRecDepth 100000 in
theorem fu_1 : Cond.isRef (.static Bundle.tN "UNASSIGNED_STACK" Bundle.steD) ∈ flatC (Jvm.Cond.and given_1 narrow_1) := by decide +kernel
set_option maxRecDepth 100000 in
theorem fu_2 : Cond.isRef (.static Bundle.tN "SUPPRESSED_SENTINEL" Bundle.listD) ∈ flatC (Jvm.Cond.and given_1 narrow_1) := by decide +kernel
theorem nw_of {s : State} {args : Array Value} {N : List Cond} (hts : ∀ w ∈ lw_tbl, w.before args s = true) (h : ∀ w ∈ N, w ∈ lw_tbl ∧ w.onTables = true) : ∀ w ∈ N, va_Nw w s := fun w hw => va_tabs (h w hw).2 rfl (hts w (h w hw).1)
set_option maxRecDepth 100000 in
theorem nw_C : ∀ w ∈ nwC, w ∈ lw_tbl ∧ w.onTables = true := by decide +kernel
set_option maxRecDepth 100000 in
theorem nw_N : ∀ w ∈ nwN, w ∈ lw_tbl ∧ w.onTables = true := by decide +kernel
set_option maxRecDepth 100000 in
theorem nw_X : ∀ w ∈ nwX, w ∈ lw_tbl ∧ w.onTables = true := by decide +kernel
set_option maxRecDepth 100000 in
theorem ls_U : Cond.laysStatic Bundle.tN "UNASSIGNED_STACK" Bundle.steD ∈ lw_tbl := by decide +kernel
set_option maxRecDepth 100000 in
theorem ls_N : Cond.laysStatic Bundle.tN "SUPPRESSED_SENTINEL" Bundle.listD ∈ lw_tbl := by decide +kernel
set_option maxRecDepth 100000 in
theorem ls_T : Cond.initialized Bundle.tN ∈ lw_tbl := by decide +kernel
set_option maxHeartbeats 4000000 in
/-- from the entry, for every script of at most 1537 ints, the law comes to its end with true -/
theorem whole_start {p : Program} {e : Env} {s : State} {m : MethodId} {below : List Frame} {meth : Method} {c : Code} (l : Launch) (hlt : l.stackTraces = false) {b L : Nat} {xs : Nat → Int32} (hL : L ≤ 1537) (C0 : lw_At p s m meth c b L xs) : W p l e room_1 s m #[Value.ref b] below meth c s.heap [] 0 0 (lw_Z below #[Value.ref b] s) (entryFrame m ([Value.ref b] : List Value).toArray 7) := by
  obtain ⟨hx, hb, hr, hml, hown, hts, hX, hbl, hlocks, hgv⟩ := id C0
  have hpre := flat_of_before _ hgv
  have ht : ∀ w ∈ WT, w.before #[Value.ref b] s = true := fun w h => hts w (List.mem_filter.mp (show w ∈ lw_tbl.filter goodWord from h)).1
  have hA : ∀ q : Nat, s.heap.size ≤ q → (fun q : Nat => s.heap.size ≤ q) q := fun _ h => h
  have hA2 : ∀ a : Nat, a < s.heap.size → ¬ (fun q : Nat => s.heap.size ≤ q) a := fun a h => Nat.not_le.mpr h
  obtain ⟨c0, iS0, hKn0⟩ := u_known (C := RX0) (T := TX0) (N := 7) (n := 7) ht wu_X0 (ht _ wtN_61)
  obtain ⟨c1, iS1, hKn1⟩ := u_known (C := RX2) (T := TX2) (N := 8) (n := 8) ht wu_X2 (ht _ wtN_68)
  obtain ⟨c2, iS2, hKn2⟩ := u_known (C := RX3) (T := TX3) (N := 13) (n := 13) ht wu_X3 (ht _ wtN_82)
  obtain ⟨c3, iS3, hKn3⟩ := u_known (C := RX4) (T := TX4) (N := 11) (n := 11) ht wu_X4 (ht _ wtN_76)
  obtain ⟨c4, iS4, hKn4⟩ := u_known (C := RX6) (T := TX6) (N := 3) (n := 3) ht wu_X6 (ht _ wtN_55)
  obtain ⟨c5, iS5, hKn5⟩ := u_known (C := RX7) (T := TX7) (N := 16) (n := 16) ht wu_X7 (ht _ wtN_41)
  obtain ⟨c6, iS6, hKn6⟩ := u_known (C := RX8) (T := TX8) (N := 7) (n := 7) ht wu_X8 (ht _ wtN_49)
  obtain ⟨c7, iS7, hKn7⟩ := u_known (C := RX9) (T := TX9) (N := 7) (n := 7) ht wu_X9 (ht _ wtN_265)
  obtain ⟨c8, iS8, hKn8⟩ := u_known (C := RX10) (T := TX10) (N := 53) (n := 53) ht wu_X10 (ht _ wtN_271)
  obtain ⟨G, hKc⟩ : ∃ G : va_G, ∀ (k : Nat) (q : vw_C), vwCl[k]? = some q → u_Kn s q.1 q.2.1 q.2.2 (G.1 k) (G.2 k) := by
    refine ⟨(fun k => match k with | 0 => c0 | 1 => c1 | 2 => c2 | 3 => c3 | 4 => c4 | 5 => c5 | 6 => c6 | 7 => c7 | _ => c8, fun k => match k with | 0 => iS0 | 1 => iS1 | 2 => iS2 | 3 => iS3 | 4 => iS4 | 5 => iS5 | 6 => iS6 | 7 => iS7 | _ => iS8), ?_⟩
    intro k q hq
    match k, hq with
    | 0, hq => cases hq; exact hKn0
    | 1, hq => cases hq; exact hKn1
    | 2, hq => cases hq; exact hKn2
    | 3, hq => cases hq; exact hKn3
    | 4, hq => cases hq; exact hKn4
    | 5, hq => cases hq; exact hKn5
    | 6, hq => cases hq; exact hKn6
    | 7, hq => cases hq; exact hKn7
    | 8, hq => cases hq; exact hKn8
    | k + 9, hq => simp [vwCl] at hq
  obtain ⟨iA, hi1, hi2⟩ := arr_int (ht _ wtN_3)
  obtain ⟨bA, hb1, hb2⟩ := arr_boolean (ht _ wtN_98)
  obtain ⟨jA, hj1, hj2⟩ := arr_long (ht _ wtN_275)
  obtain ⟨t0, ev0, tv0⟩ := tab_of (f := tOP) (A := fun q : Nat => s.heap.size ≤ q) hpre 7 (by decide) fa_OP fn_OP fl_OP hA2
  obtain ⟨t1, ev1, tv1⟩ := tab_of (f := tMO) (A := fun q : Nat => s.heap.size ≤ q) hpre 266 (by decide) fa_MO fn_MO fl_MO hA2
  obtain ⟨t2, ev2, tv2⟩ := tab_of (f := tCY) (A := fun q : Nat => s.heap.size ≤ q) hpre 560 (by decide) fa_CY fn_CY fl_CY hA2
  obtain ⟨t3, ev3, tv3⟩ := tab_of (f := tLE) (A := fun q : Nat => s.heap.size ≤ q) hpre 525 (by decide) fa_LE fn_LE fl_LE hA2
  have hK : va_K G vwCl [(iA, .int), (bA, .boolean), (jA, .long)] s := ⟨hKc, fun k q h => by
    match k, h with
    | 0, h => cases h; exact ⟨hi1, hi2⟩
    | 1, h => cases h; exact ⟨hb1, hb2⟩
    | 2, h => cases h; exact ⟨hj1, hj2⟩
    | k + 3, h => simp at h⟩
  have hZ : zL ((fun _ => 0), G, iA, bA, fun j => match j with | 0 => t0 | 1 => t1 | 2 => t2 | _ => t3) b L xs (fun q : Nat => s.heap.size ≤ q) s s.heap := by
    refine ⟨⟨⟨⟨va_Zof (hts _ (List.mem_of_getElem? (i := 580) (by decide +kernel))) (hts _ (List.mem_of_getElem? (i := 121) (by decide +kernel))) ev0 hA2, tv0⟩, ⟨va_Zof (hts _ (List.mem_of_getElem? (i := 582) (by decide +kernel))) (hts _ (List.mem_of_getElem? (i := 121) (by decide +kernel))) ev1 hA2, tv1⟩, ⟨va_Zof (hts _ (List.mem_of_getElem? (i := 752) (by decide +kernel))) (hts _ (List.mem_of_getElem? (i := 121) (by decide +kernel))) ev2 hA2, tv2⟩, ⟨va_Zof (hts _ (List.mem_of_getElem? (i := 680) (by decide +kernel))) (hts _ (List.mem_of_getElem? (i := 112) (by decide +kernel))) ev3 hA2, tv3⟩, nw_of hts nw_C⟩, vx_Zqof (hts _ ls_U) (hts _ ls_T) (hpre _ fu_1) hA2, vx_Zqof (hts _ ls_N) (hts _ ls_T) (hpre _ fu_2) hA2, fun q hq => ?_, nw_of hts nw_X⟩, nw_of hts nw_N, hX, hbl, hA2 b hbl⟩
    obtain ⟨a, _, _, _, ha, _⟩ := Cond.exactly_spec (show (Cond.exactly (Term.string RX9 q.1) "java/lang/String").holds #[Value.ref b] s none s [] = true from hpre _ (fs_st q hq).2)
    exact ⟨a, vk_R.of (hts _ (fs_st q hq).1) ha⟩
  have hP : va_P G vwCl [] s.heap := fun k q h => by simp at h
  have hD : va_D (fun q : Nat => s.heap.size ≤ q) [] := ⟨fun i j p q h => by simp at h, fun k q h => by simp at h⟩
  have hl := lv_entry ([.ref b]) (n := 7) (Nat.le_of_ble_eq_true rfl)
  rw [lg_entry_eq]
  have hc : gC (oL ((fun _ => 0), G, iA, bA, fun j => match j with | 0 => t0 | 1 => t1 | 2 => t2 | _ => t3) jA b L xs) (p, l, e, room_1, s, m, #[Value.ref b], below, meth, c, fun q : Nat => s.heap.size ≤ q) cL_law 7 RL ret room_1 := ⟨hx, hb, hml, hown, ht, hK, hA, hr, hlocks, rfl, hZ, zL_ok _ b L xs⟩
  by_cases hk : cell0 L xs &&& 1 = 1
  · exact law_start (k := true) G iA bA jA _ hL hc hlt ⟨rfl, rfl⟩ (fun l h => n_X9_init_true l G iA bA h _ hk) (fun l h => n_X10_init_true l G iA bA h _ hk) (wf_X10_true_e G iA bA _) s.heap [] _ hP hD va_S.rf hl
  · exact law_start (k := false) G iA bA jA _ hL hc hlt ⟨rfl, rfl⟩ (fun l h => n_X9_init_false l G iA bA h _ hk) (fun l h => n_X10_init_false l G iA bA h _ hk) (wf_X10_false_e G iA bA _) s.heap [] _ hP hD va_S.rf hl
end LF
