theorem wtN_29 : Cond.instanceMethod yX1_init ∈ WT := wt_m (List.mem_of_getElem? (i := 138) (by decide +kernel)) (by decide +kernel)
theorem wtN_30 : Cond.initialized RX1 ∈ WT := wt_m (List.mem_of_getElem? (i := 108) (by decide +kernel)) (by decide +kernel)
theorem wtN_31 : Cond.code yX1_init cX1_init 1 none ∈ WT := wt_m (List.mem_of_getElem? (i := 139) (by decide +kernel)) (by decide +kernel)
theorem wtN_32 : Cond.fieldLink RX3 7 "GameConsole$Mmc1" "prgMode" "I" ∈ WT := wt_m (List.mem_of_getElem? (i := 229) (by decide +kernel)) (by decide +kernel)
theorem wtN_33 : Cond.methodLink RX3 13 yX3_mapRom ∈ WT := wt_m (List.mem_of_getElem? (i := 213) (by decide +kernel)) (by decide +kernel)
theorem wtN_34 : Cond.methodLink RX3 16 yX3_mapChr ∈ WT := wt_m (List.mem_of_getElem? (i := 220) (by decide +kernel)) (by decide +kernel)
theorem wtN_35 : Cond.fieldLink RX4 7 "GameConsole$Mmc3" "registers" "[I" ∈ WT := wt_m (List.mem_of_getElem? (i := 161) (by decide +kernel)) (by decide +kernel)
theorem wtN_36 : Cond.sameField "GameConsole$Mmc3" "GameConsole$Cartridge" "mirroring" "I" ∈ WT := wt_m (List.mem_of_getElem? (i := 175) (by decide +kernel)) (by decide +kernel)
theorem wtN_37 : Cond.fieldLink RX4 13 "GameConsole$Mmc3" "mirroring" "I" ∈ WT := wt_m (List.mem_of_getElem? (i := 174) (by decide +kernel)) (by decide +kernel)
theorem wtN_38 : Cond.methodLink RX4 17 yX4_mapRom ∈ WT := wt_m (List.mem_of_getElem? (i := 141) (by decide +kernel)) (by decide +kernel)
theorem wtN_39 : Cond.methodLink RX4 20 yX4_mapChr ∈ WT := wt_m (List.mem_of_getElem? (i := 151) (by decide +kernel)) (by decide +kernel)
section ND
variable {k : Bool}
/-- the class's first state, before the banks are laid -/
def sK0 (k : Bool) : gSt := (fun j => if j = 4 then 3 else (if j = 26 then -1 else (if j = 31 then 32 else (if j = 1 then (match k with | true => 2 | false => 0) else 0))), fun _ => false, fun _ => 0, fun q => if q = 14 then upd (upd (fun _ => 0) 0 255) 1 255 else fun _ => 0)
def s3 (k : Bool) : gSt := match k with
  | false => (sp_X3_mapChr (sp_X3_mapRom (sK0 false)).2).2
  | true => (sp_X4_mapChr (sp_X4_mapRom (sK0 true)).2).2
theorem iw_sK0 : Iw k (sK0 k) := by
  refine ⟨fun j => ?_, fun q i => ?_, by cases k <;> decide, by cases k <;> decide, by cases k <;> decide, by cases k <;> decide, ⟨fun h => by subst h; exact ⟨rfl, rfl⟩, by cases k <;> rfl⟩⟩
  · by_cases h4 : j = 4
    · subst h4; cases k <;> decide
    by_cases h26 : j = 26
    · subst h26; cases k <;> decide
    by_cases h31 : j = 31
    · subst h31; cases k <;> decide
    by_cases h1 : j = 1
    · subst h1; cases k <;> decide
    have e : (sK0 k).1 j = 0 := by simp [sK0, h4, h26, h31, h1]
    rw [e, Int32.zero_and]
  · by_cases h : q = 14
    · subst h
      show upd (upd (fun _ => 0) 0 255) 1 255 i &&& 255 = upd (upd (fun _ => 0) 0 255) 1 255 i
      unfold upd
      split
      · decide
      · split
        · decide
        · exact Int32.zero_and
    · have e : (sK0 k).2.2.2 q i = 0 := by simp [sK0, h]
      rw [e, Int32.zero_and]
theorem s3_mp : (∀ c sp cr gn, ph k c sp cr gn (s3 k) = ph k c sp cr gn (sK0 k)) ∧ Iv k (s3 k) ∧ ∃ A, s3 k = ((sK0 k).1, (sK0 k).2.1, (sK0 k).2.2.1, A) := by
  cases k
  · exact mp1 iw_sK0
  · exact mp3 iw_sK0
theorem s3_i : (s3 k).1 = (sK0 k).1 := by
  obtain ⟨A, e⟩ := (s3_mp (k := k)).2.2
  rw [e]
theorem s3_z : (s3 k).2.1 = (sK0 k).2.1 := by
  obtain ⟨A, e⟩ := (s3_mp (k := k)).2.2
  rw [e]

theorem s3_a7 : (s3 k).2.2.2 7 = (sK0 k).2.2.2 7 := congrFun (congrArg (fun M : gSt => M.2.2.2) (s3_mp.1 0 0 false 0)) 5
theorem s3_a8 : (s3 k).2.2.2 8 = (sK0 k).2.2.2 8 := congrFun (congrArg (fun M : gSt => M.2.2.2) (s3_mp.1 0 0 false 0)) 6
theorem s3_a9 : (s3 k).2.2.2 9 = (sK0 k).2.2.2 9 := congrFun (congrArg (fun M : gSt => M.2.2.2) (s3_mp.1 0 0 false 0)) 7
theorem s3_a11 : (s3 k).2.2.2 11 = (sK0 k).2.2.2 11 := congrFun (congrArg (fun M : gSt => M.2.2.2) (s3_mp.1 0 0 false 0)) 9
theorem s3_a13 : (s3 k).2.2.2 13 = (sK0 k).2.2.2 13 := congrFun (congrArg (fun M : gSt => M.2.2.2) (s3_mp.1 0 0 false 0)) 11
theorem s3_a14 : (s3 k).2.2.2 14 = (sK0 k).2.2.2 14 := congrFun (congrArg (fun M : gSt => M.2.2.2) (s3_mp.1 0 0 false 0)) 12
theorem s3_a16 : (s3 k).2.2.2 16 = (sK0 k).2.2.2 16 := congrFun (congrArg (fun M : gSt => M.2.2.2) (s3_mp.1 0 0 false 0)) 1
theorem s3_a17 : (s3 k).2.2.2 17 = (sK0 k).2.2.2 17 := congrFun (congrArg (fun M : gSt => M.2.2.2) (s3_mp.1 0 0 false 0)) 2
abbrev rm_X3_init : Room := { frames := 6, cells := 4, slots := 652, locals := 160 }
theorem n_X3_init (l : Launch) (G : va_G) (iA bA : ClassId) (h : Nat) : nMet l yX3_init cX3_init 1 rm_X3_init (oN G iA bA) [.ref h] [(h, .inr (2, [.null, .null, .null, .null, .int 0, .int 0, .int 0, .int 0, .int 0, .int 0, .int 0, .int 0, .int 0]))] (fun u => u 1 = h) (fun u => wK false (u, G, iA, bA, fun _ => 0) (s3 false)) := by
  refine nMet_of (lv := [(0, .ref h)]) zN_ok (by decide +kernel) rfl (Nat.le_of_ble_eq_true rfl) rfl (fun κ hc hI => ?_)
  have hc : gC (oN G iA bA) κ cX3_init 1 RX3 none rm_X3_init := hc
  refine n_aload_n (i := 0) hc 0 dX3_init_0 rfl rfl ?_
  refine n_callIN (rest := []) (w1 := [(h, .inr (2, [.null, .null, .null, .null, .int 0, .int 0, .int 0, .int 0, .int 0, .int 0, .int 0, .int 0, .int 0]))]) (w2 := []) hc "GameConsole" [] (fun l => n_X1_X3_init l G iA bA h) (fun _ _ _ h => h _ (by decide +kernel)) wtN_29 wtN_30 wtN_31 rfl (by decide +kernel) rfl ⟨Nat.le_of_ble_eq_true rfl, Nat.le_of_ble_eq_true rfl⟩ ⟨Nat.le_of_ble_eq_true rfl, Nat.le_of_ble_eq_true rfl⟩ rfl (Nat.le_of_ble_eq_true rfl) dX3_init_1 (fun u hu => ?_)
  refine n_ch (ws' := [(h, .inr (2, [.ref (u 0), .ref (u 1), .ref (u 2), .ref (u 3), .int 0, .int 0, .int 0, .int 0, .int 0, .int 0, .int 0, .int 0, .int 0])), ((u 0), .inl (iA, 512, .inl (fun _ => 0))), ((u 1), .inl (iA, 128, .inl (fun _ => 0))), ((u 2), .inl (iA, 4, .inl (fun _ => 0))), ((u 3), .inl (iA, 8, .inl (fun _ => 0)))]) (nc' := 4) (ns' := 652) rfl rfl rfl ?_
  refine n_aload_n (i := 0) hc 0 dX3_init_4 rfl rfl ?_
  refine n_iconst (v := 3) hc dX3_init_5 (by decide) ?_
  refine n_put hc hI (C := RX3) (T := TX3) (N := 13) (ci := 2) 0 8 ([(h, .inr (2, [.ref (u 0), .ref (u 1), .ref (u 2), .ref (u 3), .int 0, .int 0, .int 0, .int 0, .int 3, .int 0, .int 0, .int 0, .int 0])), ((u 0), .inl (iA, 512, .inl (fun _ => 0))), ((u 1), .inl (iA, 128, .inl (fun _ => 0))), ((u 2), .inl (iA, 4, .inl (fun _ => 0))), ((u 3), .inl (iA, 8, .inl (fun _ => 0)))]) tyX3 tyX3_ok nmX3 wu_X3 wtN_32 (Or.inl rfl) (by decide) rfl rfl (Or.inl rfl) rfl rfl rfl (Nat.le_of_ble_eq_true rfl) dX3_init_6 rfl ?_
  refine n_ch (ws' := (oK false ((fun i => match i with | 2 => u 0 | 3 => u 1 | 4 => u 2 | 5 => u 3 | _ => h), G, iA, bA, fun _ => 0)).1 (sK0 false) ++ []) (nc' := 4) (ns' := 652) rfl rfl rfl ?_
  refine n_aload_n (i := 0) hc 0 dX3_init_9 rfl rfl ?_
  refine n_callV (rest := []) (w2 := []) hc (ω' := oK false ((fun i => match i with | 2 => u 0 | 3 => u 1 | 4 => u 2 | 5 => u 3 | _ => h), G, iA, bA, fun _ => 0)) rfl (fun U h => h.sub (tys' := [(iA, .int)]) [0] rfl) (fun _ _ _ _ => trivial) zM_ok 0 [] (fun l => k_X3_mapRom l ((fun i => match i with | 2 => u 0 | 3 => u 1 | 4 => u 2 | 5 => u 3 | _ => h), G, iA, bA, fun _ => 0) (sK0 false)) wtN_33 ge_X3_mapRom rfl ⟨rfl, rfl⟩ ⟨Nat.le_of_ble_eq_true rfl, Nat.le_of_ble_eq_true rfl⟩ ⟨Nat.le_of_ble_eq_true rfl, Nat.le_of_ble_eq_true rfl⟩ rfl rfl rfl (Nat.le_of_ble_eq_true rfl) dX3_init_10 ?_
  refine n_aload_n (i := 0) hc 0 dX3_init_13 rfl rfl ?_
  refine n_callV (rest := []) (w2 := []) hc (ω' := oK false ((fun i => match i with | 2 => u 0 | 3 => u 1 | 4 => u 2 | 5 => u 3 | _ => h), G, iA, bA, fun _ => 0)) rfl (fun U h => h.sub (tys' := [(iA, .int)]) [0] rfl) (fun _ _ _ _ => trivial) zM_ok 0 [] (fun l => k_X3_mapChr l ((fun i => match i with | 2 => u 0 | 3 => u 1 | 4 => u 2 | 5 => u 3 | _ => h), G, iA, bA, fun _ => 0) (sp_X3_mapRom (sK0 false)).2) wtN_34 ge_X3_mapChr rfl ⟨rfl, rfl⟩ ⟨Nat.le_of_ble_eq_true rfl, Nat.le_of_ble_eq_true rfl⟩ ⟨Nat.le_of_ble_eq_true rfl, Nat.le_of_ble_eq_true rfl⟩ rfl rfl rfl (Nat.le_of_ble_eq_true rfl) dX3_init_14 ?_
  exact n_vret (post := fun u => u 1 = h) (wf := fun u => wK false (u, G, iA, bA, fun _ => 0) (s3 false)) (fun i => match i with | 2 => u 0 | 3 => u 1 | 4 => u 2 | 5 => u 3 | _ => h) hc rfl (List.append_nil _) dX3_init_17
abbrev rm_X4_init : Room := { frames := 6, cells := 5, slots := 660, locals := 160 }
theorem n_X4_init (l : Launch) (G : va_G) (iA bA : ClassId) (h : Nat) : nMet l yX4_init cX4_init 1 rm_X4_init (oN G iA bA) [.ref h] [(h, .inr (3, [.null, .null, .null, .null, .int 0, .int 0, .null, .int 0, .int 0, .int 0, .int 0]))] (fun u => u 1 = h) (fun u => wK true (u, G, iA, bA, fun _ => 0) (s3 true)) := by
  refine nMet_of (lv := [(0, .ref h)]) zN_ok (by decide +kernel) rfl (Nat.le_of_ble_eq_true rfl) rfl (fun κ hc hI => ?_)
  have hc : gC (oN G iA bA) κ cX4_init 1 RX4 none rm_X4_init := hc
  refine n_aload_n (i := 0) hc 0 dX4_init_0 rfl rfl ?_
  refine n_callIN (rest := []) (w1 := [(h, .inr (3, [.null, .null, .null, .null, .int 0, .int 0, .null, .int 0, .int 0, .int 0, .int 0]))]) (w2 := []) hc "GameConsole" [] (fun l => n_X1_X4_init l G iA bA h) (fun _ _ _ h => h _ (by decide +kernel)) wtN_29 wtN_30 wtN_31 rfl (by decide +kernel) rfl ⟨Nat.le_of_ble_eq_true rfl, Nat.le_of_ble_eq_true rfl⟩ ⟨Nat.le_of_ble_eq_true rfl, Nat.le_of_ble_eq_true rfl⟩ rfl (Nat.le_of_ble_eq_true rfl) dX4_init_1 (fun u hu => ?_)
  refine n_ch (ws' := [(h, .inr (3, [.ref (u 0), .ref (u 1), .ref (u 2), .ref (u 3), .int 0, .int 0, .null, .int 0, .int 0, .int 0, .int 0])), ((u 0), .inl (iA, 512, .inl (fun _ => 0))), ((u 1), .inl (iA, 128, .inl (fun _ => 0))), ((u 2), .inl (iA, 4, .inl (fun _ => 0))), ((u 3), .inl (iA, 8, .inl (fun _ => 0)))]) (nc' := 4) (ns' := 652) rfl rfl rfl ?_
  refine n_aload_n (i := 0) hc 0 dX4_init_4 rfl rfl ?_
  refine n_bipush (v := 8) hc dX4_init_5 (by decide) ?_
  refine n_newa (atype := .int) (ty := .int) (N := 8) hc 0 (8, .inl (fun _ => 0)) wtN_3 rfl rfl (fun _ => rfl) (by decide) (by decide) (by decide) ⟨Nat.le_of_ble_eq_true rfl, Nat.le_of_ble_eq_true rfl⟩ dX4_init_7 (fun q7 => ?_)
  refine n_ch (ws' := [(h, .inr (3, [.ref (u 0), .ref (u 1), .ref (u 2), .ref (u 3), .int 0, .int 0, .null, .int 0, .int 0, .int 0, .int 0])), ((u 0), .inl (iA, 512, .inl (fun _ => 0))), ((u 1), .inl (iA, 128, .inl (fun _ => 0))), ((u 2), .inl (iA, 4, .inl (fun _ => 0))), ((u 3), .inl (iA, 8, .inl (fun _ => 0))), (q7, .inl (iA, 8, .inl (fun _ => 0)))]) (nc' := 5) (ns' := 660) rfl rfl rfl ?_
  refine n_put hc hI (C := RX4) (T := TX4) (N := 11) (ci := 3) 0 6 ([(h, .inr (3, [.ref (u 0), .ref (u 1), .ref (u 2), .ref (u 3), .int 0, .int 0, .ref q7, .int 0, .int 0, .int 0, .int 0])), ((u 0), .inl (iA, 512, .inl (fun _ => 0))), ((u 1), .inl (iA, 128, .inl (fun _ => 0))), ((u 2), .inl (iA, 4, .inl (fun _ => 0))), ((u 3), .inl (iA, 8, .inl (fun _ => 0))), (q7, .inl (iA, 8, .inl (fun _ => 0)))]) tyX4 tyX4_ok nmX4 wu_X4 wtN_35 (Or.inl rfl) (by decide) rfl rfl (Or.inr ⟨rfl, rfl⟩) rfl rfl rfl (Nat.le_of_ble_eq_true rfl) dX4_init_9 rfl ?_
  refine n_aload_n (i := 0) hc 0 dX4_init_12 rfl rfl ?_
  refine n_iconst (v := 2) hc dX4_init_13 (by decide) ?_
  refine n_put hc hI (C := RX4) (T := TX4) (N := 11) (ci := 3) 0 4 ([(h, .inr (3, [.ref (u 0), .ref (u 1), .ref (u 2), .ref (u 3), .int 2, .int 0, .ref q7, .int 0, .int 0, .int 0, .int 0])), ((u 0), .inl (iA, 512, .inl (fun _ => 0))), ((u 1), .inl (iA, 128, .inl (fun _ => 0))), ((u 2), .inl (iA, 4, .inl (fun _ => 0))), ((u 3), .inl (iA, 8, .inl (fun _ => 0))), (q7, .inl (iA, 8, .inl (fun _ => 0)))]) tyX4 tyX4_ok nmX4 wu_X4 wtN_37 (Or.inr wtN_36) (by decide) rfl rfl (Or.inl rfl) rfl rfl rfl (Nat.le_of_ble_eq_true rfl) dX4_init_14 rfl ?_
  refine n_ch (ws' := (oK true ((fun i => match i with | 2 => u 0 | 3 => u 1 | 4 => u 2 | 5 => u 3 | 19 => q7 | _ => h), G, iA, bA, fun _ => 0)).1 (sK0 true) ++ []) (nc' := 5) (ns' := 660) rfl rfl rfl ?_
  refine n_aload_n (i := 0) hc 0 dX4_init_17 rfl rfl ?_
  refine n_callV (rest := []) (w2 := []) hc (ω' := oK true ((fun i => match i with | 2 => u 0 | 3 => u 1 | 4 => u 2 | 5 => u 3 | 19 => q7 | _ => h), G, iA, bA, fun _ => 0)) rfl (fun U h => h.sub (tys' := [(iA, .int)]) [0] rfl) (fun _ _ _ _ => trivial) zM_ok 0 [] (fun l => k_X4_mapRom l ((fun i => match i with | 2 => u 0 | 3 => u 1 | 4 => u 2 | 5 => u 3 | 19 => q7 | _ => h), G, iA, bA, fun _ => 0) (sK0 true)) wtN_38 ge_X4_mapRom rfl ⟨rfl, rfl⟩ ⟨Nat.le_of_ble_eq_true rfl, Nat.le_of_ble_eq_true rfl⟩ ⟨Nat.le_of_ble_eq_true rfl, Nat.le_of_ble_eq_true rfl⟩ rfl rfl rfl (Nat.le_of_ble_eq_true rfl) dX4_init_18 ?_
  refine n_aload_n (i := 0) hc 0 dX4_init_21 rfl rfl ?_
  refine n_callV (rest := []) (w2 := []) hc (ω' := oK true ((fun i => match i with | 2 => u 0 | 3 => u 1 | 4 => u 2 | 5 => u 3 | 19 => q7 | _ => h), G, iA, bA, fun _ => 0)) rfl (fun U h => h.sub (tys' := [(iA, .int)]) [0] rfl) (fun _ _ _ _ => trivial) zM_ok 0 [] (fun l => k_X4_mapChr l ((fun i => match i with | 2 => u 0 | 3 => u 1 | 4 => u 2 | 5 => u 3 | 19 => q7 | _ => h), G, iA, bA, fun _ => 0) (sp_X4_mapRom (sK0 true)).2) wtN_39 ge_X4_mapChr rfl ⟨rfl, rfl⟩ ⟨Nat.le_of_ble_eq_true rfl, Nat.le_of_ble_eq_true rfl⟩ ⟨Nat.le_of_ble_eq_true rfl, Nat.le_of_ble_eq_true rfl⟩ rfl rfl rfl (Nat.le_of_ble_eq_true rfl) dX4_init_22 ?_
  exact n_vret (post := fun u => u 1 = h) (wf := fun u => wK true (u, G, iA, bA, fun _ => 0) (s3 true)) (fun i => match i with | 2 => u 0 | 3 => u 1 | 4 => u 2 | 5 => u 3 | 19 => q7 | _ => h) hc rfl (List.append_nil _) dX4_init_25
end ND
