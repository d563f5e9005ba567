theorem wtN_40 : Cond.classLink RX9 19 RX7 ∈ WT := wt_m (List.mem_of_getElem? (i := 255) (by decide +kernel)) (by decide +kernel)
theorem wtN_41 : Cond.instantiable RX7 16 ∈ WT := wt_m (List.mem_of_getElem? (i := 256) (by decide +kernel)) (by decide +kernel)
theorem wtN_42 : Cond.initialized RX7 ∈ WT := wt_m (List.mem_of_getElem? (i := 111) (by decide +kernel)) (by decide +kernel)
theorem wtN_43 : Cond.fieldLink RX9 10 "GameConsole" "cartridge" "LGameConsole$Cartridge;" ∈ WT := wt_m (List.mem_of_getElem? (i := 436) (by decide +kernel)) (by decide +kernel)
theorem wtN_44 : Cond.methodLink RX9 21 yX7_init ∈ WT := wt_m (List.mem_of_getElem? (i := 257) (by decide +kernel)) (by decide +kernel)
theorem wtN_45 : Cond.instanceMethod yX7_init ∈ WT := wt_m (List.mem_of_getElem? (i := 258) (by decide +kernel)) (by decide +kernel)
theorem wtN_46 : Cond.code yX7_init cX7_init 2 none ∈ WT := wt_m (List.mem_of_getElem? (i := 259) (by decide +kernel)) (by decide +kernel)
theorem wtN_47 : Cond.fieldLink RX9 24 "GameConsole" "picture" "LGameConsole$PictureUnit;" ∈ WT := wt_m (List.mem_of_getElem? (i := 437) (by decide +kernel)) (by decide +kernel)
theorem wtN_48 : Cond.classLink RX9 28 RX8 ∈ WT := wt_m (List.mem_of_getElem? (i := 323) (by decide +kernel)) (by decide +kernel)
theorem wtN_49 : Cond.instantiable RX8 7 ∈ WT := wt_m (List.mem_of_getElem? (i := 324) (by decide +kernel)) (by decide +kernel)
theorem wtN_50 : Cond.initialized RX8 ∈ WT := wt_m (List.mem_of_getElem? (i := 112) (by decide +kernel)) (by decide +kernel)
theorem wtN_51 : Cond.instanceMethod yX8_init ∈ WT := wt_m (List.mem_of_getElem? (i := 326) (by decide +kernel)) (by decide +kernel)
theorem wtN_52 : Cond.code yX8_init cX8_init 1 none ∈ WT := wt_m (List.mem_of_getElem? (i := 327) (by decide +kernel)) (by decide +kernel)
theorem wtN_53 : Cond.fieldLink RX9 31 "GameConsole" "sound" "LGameConsole$SoundUnit;" ∈ WT := wt_m (List.mem_of_getElem? (i := 438) (by decide +kernel)) (by decide +kernel)
theorem wtN_54 : Cond.classLink RX9 35 RX6 ∈ WT := wt_m (List.mem_of_getElem? (i := 354) (by decide +kernel)) (by decide +kernel)
theorem wtN_55 : Cond.instantiable RX6 3 ∈ WT := wt_m (List.mem_of_getElem? (i := 355) (by decide +kernel)) (by decide +kernel)
theorem wtN_56 : Cond.initialized RX6 ∈ WT := wt_m (List.mem_of_getElem? (i := 113) (by decide +kernel)) (by decide +kernel)
theorem wtN_57 : Cond.instanceMethod yX6_init ∈ WT := wt_m (List.mem_of_getElem? (i := 357) (by decide +kernel)) (by decide +kernel)
theorem wtN_58 : Cond.code yX6_init cX6_init 1 none ∈ WT := wt_m (List.mem_of_getElem? (i := 358) (by decide +kernel)) (by decide +kernel)
theorem wtN_59 : Cond.fieldLink RX9 38 "GameConsole" "pads" "LGameConsole$Pads;" ∈ WT := wt_m (List.mem_of_getElem? (i := 439) (by decide +kernel)) (by decide +kernel)
theorem wtN_60 : Cond.classLink RX9 42 RX0 ∈ WT := wt_m (List.mem_of_getElem? (i := 371) (by decide +kernel)) (by decide +kernel)
theorem wtN_61 : Cond.instantiable RX0 7 ∈ WT := wt_m (List.mem_of_getElem? (i := 372) (by decide +kernel)) (by decide +kernel)
theorem wtN_62 : Cond.initialized RX0 ∈ WT := wt_m (List.mem_of_getElem? (i := 114) (by decide +kernel)) (by decide +kernel)
theorem wtN_63 : Cond.methodLink RX9 44 yX0_init ∈ WT := wt_m (List.mem_of_getElem? (i := 373) (by decide +kernel)) (by decide +kernel)
theorem wtN_64 : Cond.instanceMethod yX0_init ∈ WT := wt_m (List.mem_of_getElem? (i := 374) (by decide +kernel)) (by decide +kernel)
theorem wtN_65 : Cond.code yX0_init cX0_init 5 none ∈ WT := wt_m (List.mem_of_getElem? (i := 375) (by decide +kernel)) (by decide +kernel)
theorem wtN_66 : Cond.fieldLink RX9 47 "GameConsole" "bus" "LGameConsole$Bus;" ∈ WT := wt_m (List.mem_of_getElem? (i := 440) (by decide +kernel)) (by decide +kernel)
theorem wtN_67 : Cond.classLink RX9 51 RX2 ∈ WT := wt_m (List.mem_of_getElem? (i := 399) (by decide +kernel)) (by decide +kernel)
theorem wtN_68 : Cond.instantiable RX2 8 ∈ WT := wt_m (List.mem_of_getElem? (i := 400) (by decide +kernel)) (by decide +kernel)
theorem wtN_69 : Cond.initialized RX2 ∈ WT := wt_m (List.mem_of_getElem? (i := 115) (by decide +kernel)) (by decide +kernel)
theorem wtN_70 : Cond.methodLink RX9 53 yX2_init ∈ WT := wt_m (List.mem_of_getElem? (i := 401) (by decide +kernel)) (by decide +kernel)
theorem wtN_71 : Cond.instanceMethod yX2_init ∈ WT := wt_m (List.mem_of_getElem? (i := 402) (by decide +kernel)) (by decide +kernel)
theorem wtN_72 : Cond.code yX2_init cX2_init 2 none ∈ WT := wt_m (List.mem_of_getElem? (i := 403) (by decide +kernel)) (by decide +kernel)
theorem wtN_73 : Cond.fieldLink RX9 56 "GameConsole" "core" "LGameConsole$Core;" ∈ WT := wt_m (List.mem_of_getElem? (i := 441) (by decide +kernel)) (by decide +kernel)
theorem wtN_74 : Cond.methodLink RX9 1 objectInit ∈ WT := wt_m (by decide +kernel) (by decide +kernel)
theorem wtN_75 : Cond.classLink RX9 7 RX4 ∈ WT := wt_m (List.mem_of_getElem? (i := 132) (by decide +kernel)) (by decide +kernel)
theorem wtN_76 : Cond.instantiable RX4 11 ∈ WT := wt_m (List.mem_of_getElem? (i := 133) (by decide +kernel)) (by decide +kernel)
theorem wtN_77 : Cond.initialized RX4 ∈ WT := wt_m (List.mem_of_getElem? (i := 109) (by decide +kernel)) (by decide +kernel)
theorem wtN_78 : Cond.methodLink RX9 9 yX4_init ∈ WT := wt_m (List.mem_of_getElem? (i := 134) (by decide +kernel)) (by decide +kernel)
theorem wtN_79 : Cond.instanceMethod yX4_init ∈ WT := wt_m (List.mem_of_getElem? (i := 135) (by decide +kernel)) (by decide +kernel)
theorem wtN_80 : Cond.code yX4_init cX4_init 1 none ∈ WT := wt_m (List.mem_of_getElem? (i := 136) (by decide +kernel)) (by decide +kernel)
theorem wtN_81 : Cond.classLink RX9 16 RX3 ∈ WT := wt_m (List.mem_of_getElem? (i := 207) (by decide +kernel)) (by decide +kernel)
theorem wtN_82 : Cond.instantiable RX3 13 ∈ WT := wt_m (List.mem_of_getElem? (i := 208) (by decide +kernel)) (by decide +kernel)
theorem wtN_83 : Cond.initialized RX3 ∈ WT := wt_m (List.mem_of_getElem? (i := 110) (by decide +kernel)) (by decide +kernel)
theorem wtN_84 : Cond.methodLink RX9 18 yX3_init ∈ WT := wt_m (List.mem_of_getElem? (i := 209) (by decide +kernel)) (by decide +kernel)
theorem wtN_85 : Cond.instanceMethod yX3_init ∈ WT := wt_m (List.mem_of_getElem? (i := 210) (by decide +kernel)) (by decide +kernel)
theorem wtN_86 : Cond.code yX3_init cX3_init 1 none ∈ WT := wt_m (List.mem_of_getElem? (i := 211) (by decide +kernel)) (by decide +kernel)
section NE
theorem wC_perm (k : Bool) (G : va_G) (iA bA : ClassId) (h q7 q8 q6 q0 q2 : Nat) (u1 u2 u3 u4 u5 u6 : Nat → Nat) : ((h, Sum.inr (7, [.ref (u1 1), .ref q7, .ref q8, .ref q6, .ref q0, .ref q2, .int 0])) :: ((((((wK k (u1, G, iA, bA, fun _ => 0) (s3 k)) ++ wf_X7 q7 iA (u1 1) u2) ++ wf_X8 q8 iA u3) ++ wf_X6 q6 iA u4) ++ wf_X0 q0 iA q7 q8 q6 (u1 1) u5) ++ wf_X2 q2 iA q0 u6) : va_W).Perm (wC k ((fun i => match i with | 0 => h | 6 => q7 | 7 => u2 0 | 8 => u2 1 | 9 => u2 2 | 10 => q8 | 11 => u3 0 | 12 => q6 | 13 => u4 0 | 14 => u4 1 | 15 => q0 | 16 => u5 0 | 17 => u5 1 | 18 => q2 | i => u1 i), G, iA, bA, fun _ => 0) (s3 k)) := by
  have e0 : (s3 k).1 0 = 0 := by rw [s3_i]; rfl
  have e12 : (s3 k).1 12 = 0 := by rw [s3_i]; rfl
  have e13 : (s3 k).1 13 = 0 := by rw [s3_i]; rfl
  have e14 : (s3 k).1 14 = 0 := by rw [s3_i]; rfl
  have e15 : (s3 k).1 15 = 0 := by rw [s3_i]; rfl
  have e16 : (s3 k).1 16 = 0 := by rw [s3_i]; rfl
  have e17 : (s3 k).1 17 = 0 := by rw [s3_i]; rfl
  have e18 : (s3 k).1 18 = 0 := by rw [s3_i]; rfl
  have e19 : (s3 k).1 19 = 0 := by rw [s3_i]; rfl
  have e20 : (s3 k).1 20 = 0 := by rw [s3_i]; rfl
  have e21 : (s3 k).1 21 = 0 := by rw [s3_i]; rfl
  have e22 : (s3 k).1 22 = 0 := by rw [s3_i]; rfl
  have e23 : (s3 k).1 23 = 0 := by rw [s3_i]; rfl
  have e24 : (s3 k).1 24 = 0 := by rw [s3_i]; rfl
  have e25 : (s3 k).1 25 = 0 := by rw [s3_i]; rfl
  have e26 : (s3 k).1 26 = (-1) := by rw [s3_i]; rfl
  have e27 : (s3 k).1 27 = 0 := by rw [s3_i]; rfl
  have e28 : (s3 k).1 28 = 0 := by rw [s3_i]; rfl
  have e29 : (s3 k).1 29 = 0 := by rw [s3_i]; rfl
  have e30 : (s3 k).1 30 = 0 := by rw [s3_i]; rfl
  have e31 : (s3 k).1 31 = 32 := by rw [s3_i]; rfl
  have e32 : (s3 k).1 32 = 0 := by rw [s3_i]; rfl
  have e33 : (s3 k).1 33 = 0 := by rw [s3_i]; rfl
  have z2 : (s3 k).2.1 2 = false := by rw [s3_z]; rfl
  have z3 : (s3 k).2.1 3 = false := by rw [s3_z]; rfl
  have z4 : (s3 k).2.1 4 = false := by rw [s3_z]; rfl
  have z5 : (s3 k).2.1 5 = false := by rw [s3_z]; rfl
  have z6 : (s3 k).2.1 6 = false := by rw [s3_z]; rfl
  have a7 : (s3 k).2.2.2 7 = fun _ => 0 := by rw [s3_a7]; rfl
  have a8 : (s3 k).2.2.2 8 = fun _ => 0 := by rw [s3_a8]; rfl
  have a9 : (s3 k).2.2.2 9 = fun _ => 0 := by rw [s3_a9]; rfl
  have a11 : (s3 k).2.2.2 11 = fun _ => 0 := by rw [s3_a11]; rfl
  have a13 : (s3 k).2.2.2 13 = fun _ => 0 := by rw [s3_a13]; rfl
  have a16 : (s3 k).2.2.2 16 = fun _ => 0 := by rw [s3_a16]; rfl
  have a17 : (s3 k).2.2.2 17 = fun _ => 0 := by rw [s3_a17]; rfl
  have a14 : (s3 k).2.2.2 14 = upd (upd (fun _ => 0) 0 255) 1 255 := by rw [s3_a14]; rfl
  have e : wC k ((fun i => match i with | 0 => h | 6 => q7 | 7 => u2 0 | 8 => u2 1 | 9 => u2 2 | 10 => q8 | 11 => u3 0 | 12 => q6 | 13 => u4 0 | 14 => u4 1 | 15 => q0 | 16 => u5 0 | 17 => u5 1 | 18 => q2 | i => u1 i), G, iA, bA, fun _ => 0) (s3 k) = (h, Sum.inr (7, [.ref (u1 1), .ref q7, .ref q8, .ref q6, .ref q0, .ref q2, .int 0])) :: ((cC1 k (u1, G, iA, bA, fun _ => 0) (s3 k) :: (u1 2, .inl (iA, 512, .inl ((s3 k).2.2.2 2))) :: (u1 3, .inl (iA, 128, .inl ((s3 k).2.2.2 3))) :: (u1 4, .inl (iA, 4, .inl ((s3 k).2.2.2 4))) :: [(u1 5, .inl (iA, 8, .inl ((s3 k).2.2.2 5)))]) ++ ((((((wf_X7 q7 iA (u1 1) u2) ++ wf_X8 q8 iA u3) ++ wf_X6 q6 iA u4) ++ wf_X0 q0 iA q7 q8 q6 (u1 1) u5) ++ wf_X2 q2 iA q0 u6) ++ rC19 k (u1, G, iA, bA, fun _ => 0) (s3 k))) := by
    unfold wC
    simp only [e0, e12, e13, e14, e15, e16, e17, e18, e19, e20, e21, e22, e23, e24, e25, e26, e27, e28, e29, e30, e31, e32, e33, z2, z3, z4, z5, z6, a7, a8, a9, a11, a13, a16, a17, a14]
    cases k <;> rfl
  rw [e]
  refine List.Perm.cons _ ?_
  have e2 : wK k (u1, G, iA, bA, fun _ => 0) (s3 k) = (cC1 k (u1, G, iA, bA, fun _ => 0) (s3 k) :: (u1 2, .inl (iA, 512, .inl ((s3 k).2.2.2 2))) :: (u1 3, .inl (iA, 128, .inl ((s3 k).2.2.2 3))) :: (u1 4, .inl (iA, 4, .inl ((s3 k).2.2.2 4))) :: [(u1 5, .inl (iA, 8, .inl ((s3 k).2.2.2 5)))]) ++ rC19 k (u1, G, iA, bA, fun _ => 0) (s3 k) := rfl
  rw [e2]
  simp only [List.append_assoc]
  refine List.Perm.append_left _ ?_
  have e3 : ∀ r a b c d f : va_W, (r ++ (a ++ (b ++ (c ++ (d ++ f))))).Perm (a ++ (b ++ (c ++ (d ++ (f ++ r))))) := fun r a b c d f => by
    have := List.perm_append_comm (l₁ := r) (l₂ := a ++ (b ++ (c ++ (d ++ f))))
    simpa only [List.append_assoc] using this
  exact e3 _ _ _ _ _ _
abbrev rm_X9_init : Room := { frames := 8, cells := 19, slots := 5360, locals := 220 }
theorem n_X9_tail (k : Bool) {κ : gK} {kind : Int32} (G : va_G) (iA bA : ClassId) (h : Nat) (u1 : Nat → Nat) (hc : gC (oN G iA bA) κ cX9_init 2 RX9 none rm_X9_init) (hI : nIn κ) : gN (oN G iA bA) κ 2 (nK κ (nQ (oN G iA bA) (fun u => u 0 = h) (fun u => wC k (u, G, iA, bA, fun _ => 0) (s3 k))) rm_X9_init.cells rm_X9_init.slots) 36 [(0, .ref h), (1, .int kind)] [] ((h, .inr (7, [.ref (u1 1), .null, .null, .null, .null, .null, .int 0])) :: (wK k (u1, G, iA, bA, fun _ => 0) (s3 k))) 6 671 := by
  refine n_aload_n (i := 0) hc 0 dX9_init_36 rfl rfl ?_
  refine n_new hc (C := RX7) (T := TX7) (N := 16) (ci := 5) (fs := [.null, .null, .null, .null, .int 0, .int 0, .int 0, .int 0, .int 0, .int 0, .int 0, .int 0, .int 0, .int 0, .int 0, .int 0]) tyX7 tyX7_ok wu_X7 wtN_40 wtN_41 wtN_42 rfl (by decide) ⟨Nat.le_of_ble_eq_true rfl, Nat.le_of_ble_eq_true rfl⟩ dX9_init_37 (fun qX7 => ?_)
  refine n_ch (ws' := ((h, .inr (7, [.ref (u1 1), .null, .null, .null, .null, .null, .int 0])) :: (wK k (u1, G, iA, bA, fun _ => 0) (s3 k))) ++ [(qX7, .inr (5, [.null, .null, .null, .null, .int 0, .int 0, .int 0, .int 0, .int 0, .int 0, .int 0, .int 0, .int 0, .int 0, .int 0, .int 0]))]) (nc' := 7) (ns' := 687) rfl rfl rfl ?_
  refine n_dup hc dX9_init_40 rfl ?_
  refine n_aload_n (i := 0) hc 0 dX9_init_41 rfl rfl ?_
  refine n_get hc (C := RX9) (T := TX9) (N := 7) (ci := 7) 0 0 wu_X9 wtN_43 (Or.inl rfl) (by decide) rfl rfl rfl dX9_init_42 ?_
  refine n_rot ?_
  refine n_callI (na := 1) (rest := [.ref qX7, .ref h]) (w1 := [(qX7, .inr (5, [.null, .null, .null, .null, .int 0, .int 0, .int 0, .int 0, .int 0, .int 0, .int 0, .int 0, .int 0, .int 0, .int 0, .int 0]))]) (w2 := (h, .inr (7, [.ref (u1 1), .null, .null, .null, .null, .null, .int 0])) :: (wK k (u1, G, iA, bA, fun _ => 0) (s3 k))) hc  [.ref (u1 1)] (fun l => n_X7_init l G iA bA qX7 ((u1 1))) wtN_44 wtN_45 wtN_42 wtN_46 rfl (by decide +kernel) rfl ⟨Nat.le_of_ble_eq_true rfl, Nat.le_of_ble_eq_true rfl⟩ ⟨Nat.le_of_ble_eq_true rfl, Nat.le_of_ble_eq_true rfl⟩ rfl (Nat.le_of_ble_eq_true rfl) dX9_init_45 (fun u2 hu => ?_)
  refine n_rot ?_
  refine n_ch (ws' := ((h, .inr (7, [.ref (u1 1), .null, .null, .null, .null, .null, .int 0])) :: (wK k (u1, G, iA, bA, fun _ => 0) (s3 k))) ++ wf_X7 qX7 iA ((u1 1)) u2) (nc' := 10) (ns' := 3023) rfl rfl rfl ?_
  refine n_put hc hI (C := RX9) (T := TX9) (N := 7) (ci := 7) 0 1 (((h, .inr (7, [.ref (u1 1), .ref qX7, .null, .null, .null, .null, .int 0])) :: (wK k (u1, G, iA, bA, fun _ => 0) (s3 k))) ++ wf_X7 qX7 iA ((u1 1)) u2) tyX9 tyX9_ok nmX9 wu_X9 wtN_47 (Or.inl rfl) (by decide) rfl rfl (Or.inr ⟨rfl, rfl⟩) rfl rfl rfl (Nat.le_of_ble_eq_true rfl) dX9_init_48 rfl ?_
  refine n_ch (ws' := (h, .inr (7, [.ref (u1 1), .ref qX7, .null, .null, .null, .null, .int 0])) :: ((wK k (u1, G, iA, bA, fun _ => 0) (s3 k)) ++ wf_X7 qX7 iA ((u1 1)) u2)) (nc' := 10) (ns' := 3023) rfl rfl rfl ?_
  refine n_aload_n (i := 0) hc 0 dX9_init_51 rfl rfl ?_
  refine n_new hc (C := RX8) (T := TX8) (N := 7) (ci := 6) (fs := [.null, .int 0, .int 0, .int 0, .int 0, .int 0, .int 0]) tyX8 tyX8_ok wu_X8 wtN_48 wtN_49 wtN_50 rfl (by decide) ⟨Nat.le_of_ble_eq_true rfl, Nat.le_of_ble_eq_true rfl⟩ dX9_init_52 (fun qX8 => ?_)
  refine n_ch (ws' := ((h, .inr (7, [.ref (u1 1), .ref qX7, .null, .null, .null, .null, .int 0])) :: ((wK k (u1, G, iA, bA, fun _ => 0) (s3 k)) ++ wf_X7 qX7 iA ((u1 1)) u2)) ++ [(qX8, .inr (6, [.null, .int 0, .int 0, .int 0, .int 0, .int 0, .int 0]))]) (nc' := 11) (ns' := 3030) rfl rfl rfl ?_
  refine n_dup hc dX9_init_55 rfl ?_
  refine n_rot ?_
  refine n_callIN (na := 0) (rest := [.ref qX8, .ref h]) (w1 := [(qX8, .inr (6, [.null, .int 0, .int 0, .int 0, .int 0, .int 0, .int 0]))]) (w2 := (h, .inr (7, [.ref (u1 1), .ref qX7, .null, .null, .null, .null, .int 0])) :: ((wK k (u1, G, iA, bA, fun _ => 0) (s3 k)) ++ wf_X7 qX7 iA ((u1 1)) u2)) hc "GameConsole" [] (fun l => n_X8_init l G iA bA qX8 ) (fun _ _ _ h => h _ (by decide +kernel)) wtN_51 wtN_50 wtN_52 rfl (by decide +kernel) rfl ⟨Nat.le_of_ble_eq_true rfl, Nat.le_of_ble_eq_true rfl⟩ ⟨Nat.le_of_ble_eq_true rfl, Nat.le_of_ble_eq_true rfl⟩ rfl (Nat.le_of_ble_eq_true rfl) dX9_init_56 (fun u3 hu => ?_)
  refine n_rot ?_
  refine n_ch (ws' := ((h, .inr (7, [.ref (u1 1), .ref qX7, .null, .null, .null, .null, .int 0])) :: ((wK k (u1, G, iA, bA, fun _ => 0) (s3 k)) ++ wf_X7 qX7 iA ((u1 1)) u2)) ++ wf_X8 qX8 iA  u3) (nc' := 12) (ns' := 3034) rfl rfl rfl ?_
  refine n_put hc hI (C := RX9) (T := TX9) (N := 7) (ci := 7) 0 2 (((h, .inr (7, [.ref (u1 1), .ref qX7, .ref qX8, .null, .null, .null, .int 0])) :: ((wK k (u1, G, iA, bA, fun _ => 0) (s3 k)) ++ wf_X7 qX7 iA ((u1 1)) u2)) ++ wf_X8 qX8 iA  u3) tyX9 tyX9_ok nmX9 wu_X9 wtN_53 (Or.inl rfl) (by decide) rfl rfl (Or.inr ⟨rfl, rfl⟩) rfl rfl rfl (Nat.le_of_ble_eq_true rfl) dX9_init_59 rfl ?_
  refine n_ch (ws' := (h, .inr (7, [.ref (u1 1), .ref qX7, .ref qX8, .null, .null, .null, .int 0])) :: (((wK k (u1, G, iA, bA, fun _ => 0) (s3 k)) ++ wf_X7 qX7 iA ((u1 1)) u2) ++ wf_X8 qX8 iA  u3)) (nc' := 12) (ns' := 3034) rfl rfl rfl ?_
  refine n_aload_n (i := 0) hc 0 dX9_init_62 rfl rfl ?_
  refine n_new hc (C := RX6) (T := TX6) (N := 3) (ci := 4) (fs := [.null, .null, .int 0]) tyX6 tyX6_ok wu_X6 wtN_54 wtN_55 wtN_56 rfl (by decide) ⟨Nat.le_of_ble_eq_true rfl, Nat.le_of_ble_eq_true rfl⟩ dX9_init_63 (fun qX6 => ?_)
  refine n_ch (ws' := ((h, .inr (7, [.ref (u1 1), .ref qX7, .ref qX8, .null, .null, .null, .int 0])) :: (((wK k (u1, G, iA, bA, fun _ => 0) (s3 k)) ++ wf_X7 qX7 iA ((u1 1)) u2) ++ wf_X8 qX8 iA  u3)) ++ [(qX6, .inr (4, [.null, .null, .int 0]))]) (nc' := 13) (ns' := 3037) rfl rfl rfl ?_
  refine n_dup hc dX9_init_66 rfl ?_
  refine n_rot ?_
  refine n_callIN (na := 0) (rest := [.ref qX6, .ref h]) (w1 := [(qX6, .inr (4, [.null, .null, .int 0]))]) (w2 := (h, .inr (7, [.ref (u1 1), .ref qX7, .ref qX8, .null, .null, .null, .int 0])) :: (((wK k (u1, G, iA, bA, fun _ => 0) (s3 k)) ++ wf_X7 qX7 iA ((u1 1)) u2) ++ wf_X8 qX8 iA  u3)) hc "GameConsole" [] (fun l => n_X6_init l G iA bA qX6 ) (fun _ _ _ h => h _ (by decide +kernel)) wtN_57 wtN_56 wtN_58 rfl (by decide +kernel) rfl ⟨Nat.le_of_ble_eq_true rfl, Nat.le_of_ble_eq_true rfl⟩ ⟨Nat.le_of_ble_eq_true rfl, Nat.le_of_ble_eq_true rfl⟩ rfl (Nat.le_of_ble_eq_true rfl) dX9_init_67 (fun u4 hu => ?_)
  refine n_rot ?_
  refine n_ch (ws' := ((h, .inr (7, [.ref (u1 1), .ref qX7, .ref qX8, .null, .null, .null, .int 0])) :: (((wK k (u1, G, iA, bA, fun _ => 0) (s3 k)) ++ wf_X7 qX7 iA ((u1 1)) u2) ++ wf_X8 qX8 iA  u3)) ++ wf_X6 qX6 iA  u4) (nc' := 15) (ns' := 3041) rfl rfl rfl ?_
  refine n_put hc hI (C := RX9) (T := TX9) (N := 7) (ci := 7) 0 3 (((h, .inr (7, [.ref (u1 1), .ref qX7, .ref qX8, .ref qX6, .null, .null, .int 0])) :: (((wK k (u1, G, iA, bA, fun _ => 0) (s3 k)) ++ wf_X7 qX7 iA ((u1 1)) u2) ++ wf_X8 qX8 iA  u3)) ++ wf_X6 qX6 iA  u4) tyX9 tyX9_ok nmX9 wu_X9 wtN_59 (Or.inl rfl) (by decide) rfl rfl (Or.inr ⟨rfl, rfl⟩) rfl rfl rfl (Nat.le_of_ble_eq_true rfl) dX9_init_70 rfl ?_
  refine n_ch (ws' := (h, .inr (7, [.ref (u1 1), .ref qX7, .ref qX8, .ref qX6, .null, .null, .int 0])) :: ((((wK k (u1, G, iA, bA, fun _ => 0) (s3 k)) ++ wf_X7 qX7 iA ((u1 1)) u2) ++ wf_X8 qX8 iA  u3) ++ wf_X6 qX6 iA  u4)) (nc' := 15) (ns' := 3041) rfl rfl rfl ?_
  refine n_aload_n (i := 0) hc 0 dX9_init_73 rfl rfl ?_
  refine n_new hc (C := RX0) (T := TX0) (N := 7) (ci := 0) (fs := [.null, .null, .null, .null, .null, .null, .int 0]) tyX0 tyX0_ok wu_X0 wtN_60 wtN_61 wtN_62 rfl (by decide) ⟨Nat.le_of_ble_eq_true rfl, Nat.le_of_ble_eq_true rfl⟩ dX9_init_74 (fun qX0 => ?_)
  refine n_ch (ws' := ((h, .inr (7, [.ref (u1 1), .ref qX7, .ref qX8, .ref qX6, .null, .null, .int 0])) :: ((((wK k (u1, G, iA, bA, fun _ => 0) (s3 k)) ++ wf_X7 qX7 iA ((u1 1)) u2) ++ wf_X8 qX8 iA  u3) ++ wf_X6 qX6 iA  u4)) ++ [(qX0, .inr (0, [.null, .null, .null, .null, .null, .null, .int 0]))]) (nc' := 16) (ns' := 3048) rfl rfl rfl ?_
  refine n_dup hc dX9_init_77 rfl ?_
  refine n_aload_n (i := 0) hc 0 dX9_init_78 rfl rfl ?_
  refine n_get hc (C := RX9) (T := TX9) (N := 7) (ci := 7) 0 1 wu_X9 wtN_47 (Or.inl rfl) (by decide) rfl rfl rfl dX9_init_79 ?_
  refine n_aload_n (i := 0) hc 0 dX9_init_82 rfl rfl ?_
  refine n_get hc (C := RX9) (T := TX9) (N := 7) (ci := 7) 0 2 wu_X9 wtN_53 (Or.inl rfl) (by decide) rfl rfl rfl dX9_init_83 ?_
  refine n_aload_n (i := 0) hc 0 dX9_init_86 rfl rfl ?_
  refine n_get hc (C := RX9) (T := TX9) (N := 7) (ci := 7) 0 3 wu_X9 wtN_59 (Or.inl rfl) (by decide) rfl rfl rfl dX9_init_87 ?_
  refine n_aload_n (i := 0) hc 0 dX9_init_90 rfl rfl ?_
  refine n_get hc (C := RX9) (T := TX9) (N := 7) (ci := 7) 0 0 wu_X9 wtN_43 (Or.inl rfl) (by decide) rfl rfl rfl dX9_init_91 ?_
  refine n_rot ?_
  refine n_callI (na := 4) (rest := [.ref qX0, .ref h]) (w1 := [(qX0, .inr (0, [.null, .null, .null, .null, .null, .null, .int 0]))]) (w2 := (h, .inr (7, [.ref (u1 1), .ref qX7, .ref qX8, .ref qX6, .null, .null, .int 0])) :: ((((wK k (u1, G, iA, bA, fun _ => 0) (s3 k)) ++ wf_X7 qX7 iA ((u1 1)) u2) ++ wf_X8 qX8 iA  u3) ++ wf_X6 qX6 iA  u4)) hc  [.ref qX7, .ref qX8, .ref qX6, .ref (u1 1)] (fun l => n_X0_init l G iA bA qX0 (qX7) (qX8) (qX6) ((u1 1))) wtN_63 wtN_64 wtN_62 wtN_65 rfl (by decide +kernel) rfl ⟨Nat.le_of_ble_eq_true rfl, Nat.le_of_ble_eq_true rfl⟩ ⟨Nat.le_of_ble_eq_true rfl, Nat.le_of_ble_eq_true rfl⟩ rfl (Nat.le_of_ble_eq_true rfl) dX9_init_94 (fun u5 hu => ?_)
  refine n_rot ?_
  refine n_ch (ws' := ((h, .inr (7, [.ref (u1 1), .ref qX7, .ref qX8, .ref qX6, .null, .null, .int 0])) :: ((((wK k (u1, G, iA, bA, fun _ => 0) (s3 k)) ++ wf_X7 qX7 iA ((u1 1)) u2) ++ wf_X8 qX8 iA  u3) ++ wf_X6 qX6 iA  u4)) ++ wf_X0 qX0 iA (qX7) (qX8) (qX6) ((u1 1)) u5) (nc' := 18) (ns' := 5352) rfl rfl rfl ?_
  refine n_put hc hI (C := RX9) (T := TX9) (N := 7) (ci := 7) 0 4 (((h, .inr (7, [.ref (u1 1), .ref qX7, .ref qX8, .ref qX6, .ref qX0, .null, .int 0])) :: ((((wK k (u1, G, iA, bA, fun _ => 0) (s3 k)) ++ wf_X7 qX7 iA ((u1 1)) u2) ++ wf_X8 qX8 iA  u3) ++ wf_X6 qX6 iA  u4)) ++ wf_X0 qX0 iA (qX7) (qX8) (qX6) ((u1 1)) u5) tyX9 tyX9_ok nmX9 wu_X9 wtN_66 (Or.inl rfl) (by decide) rfl rfl (Or.inr ⟨rfl, rfl⟩) rfl rfl rfl (Nat.le_of_ble_eq_true rfl) dX9_init_97 rfl ?_
  refine n_ch (ws' := (h, .inr (7, [.ref (u1 1), .ref qX7, .ref qX8, .ref qX6, .ref qX0, .null, .int 0])) :: (((((wK k (u1, G, iA, bA, fun _ => 0) (s3 k)) ++ wf_X7 qX7 iA ((u1 1)) u2) ++ wf_X8 qX8 iA  u3) ++ wf_X6 qX6 iA  u4) ++ wf_X0 qX0 iA (qX7) (qX8) (qX6) ((u1 1)) u5)) (nc' := 18) (ns' := 5352) rfl rfl rfl ?_
  refine n_aload_n (i := 0) hc 0 dX9_init_100 rfl rfl ?_
  refine n_new hc (C := RX2) (T := TX2) (N := 8) (ci := 1) (fs := [.null, .int 0, .int 0, .int 0, .int 0, .int 0, .int 0, .int 0]) tyX2 tyX2_ok wu_X2 wtN_67 wtN_68 wtN_69 rfl (by decide) ⟨Nat.le_of_ble_eq_true rfl, Nat.le_of_ble_eq_true rfl⟩ dX9_init_101 (fun qX2 => ?_)
  refine n_ch (ws' := ((h, .inr (7, [.ref (u1 1), .ref qX7, .ref qX8, .ref qX6, .ref qX0, .null, .int 0])) :: (((((wK k (u1, G, iA, bA, fun _ => 0) (s3 k)) ++ wf_X7 qX7 iA ((u1 1)) u2) ++ wf_X8 qX8 iA  u3) ++ wf_X6 qX6 iA  u4) ++ wf_X0 qX0 iA (qX7) (qX8) (qX6) ((u1 1)) u5)) ++ [(qX2, .inr (1, [.null, .int 0, .int 0, .int 0, .int 0, .int 0, .int 0, .int 0]))]) (nc' := 19) (ns' := 5360) rfl rfl rfl ?_
  refine n_dup hc dX9_init_104 rfl ?_
  refine n_aload_n (i := 0) hc 0 dX9_init_105 rfl rfl ?_
  refine n_get hc (C := RX9) (T := TX9) (N := 7) (ci := 7) 0 4 wu_X9 wtN_66 (Or.inl rfl) (by decide) rfl rfl rfl dX9_init_106 ?_
  refine n_rot ?_
  refine n_callI (na := 1) (rest := [.ref qX2, .ref h]) (w1 := [(qX2, .inr (1, [.null, .int 0, .int 0, .int 0, .int 0, .int 0, .int 0, .int 0]))]) (w2 := (h, .inr (7, [.ref (u1 1), .ref qX7, .ref qX8, .ref qX6, .ref qX0, .null, .int 0])) :: (((((wK k (u1, G, iA, bA, fun _ => 0) (s3 k)) ++ wf_X7 qX7 iA ((u1 1)) u2) ++ wf_X8 qX8 iA  u3) ++ wf_X6 qX6 iA  u4) ++ wf_X0 qX0 iA (qX7) (qX8) (qX6) ((u1 1)) u5)) hc  [.ref qX0] (fun l => n_X2_init l G iA bA qX2 (qX0)) wtN_70 wtN_71 wtN_69 wtN_72 rfl (by decide +kernel) rfl ⟨Nat.le_of_ble_eq_true rfl, Nat.le_of_ble_eq_true rfl⟩ ⟨Nat.le_of_ble_eq_true rfl, Nat.le_of_ble_eq_true rfl⟩ rfl (Nat.le_of_ble_eq_true rfl) dX9_init_109 (fun u6 hu => ?_)
  refine n_rot ?_
  refine n_ch (ws' := ((h, .inr (7, [.ref (u1 1), .ref qX7, .ref qX8, .ref qX6, .ref qX0, .null, .int 0])) :: (((((wK k (u1, G, iA, bA, fun _ => 0) (s3 k)) ++ wf_X7 qX7 iA ((u1 1)) u2) ++ wf_X8 qX8 iA  u3) ++ wf_X6 qX6 iA  u4) ++ wf_X0 qX0 iA (qX7) (qX8) (qX6) ((u1 1)) u5)) ++ wf_X2 qX2 iA (qX0) u6) (nc' := 19) (ns' := 5360) rfl rfl rfl ?_
  refine n_put hc hI (C := RX9) (T := TX9) (N := 7) (ci := 7) 0 5 (((h, .inr (7, [.ref (u1 1), .ref qX7, .ref qX8, .ref qX6, .ref qX0, .ref qX2, .int 0])) :: (((((wK k (u1, G, iA, bA, fun _ => 0) (s3 k)) ++ wf_X7 qX7 iA ((u1 1)) u2) ++ wf_X8 qX8 iA  u3) ++ wf_X6 qX6 iA  u4) ++ wf_X0 qX0 iA (qX7) (qX8) (qX6) ((u1 1)) u5)) ++ wf_X2 qX2 iA (qX0) u6) tyX9 tyX9_ok nmX9 wu_X9 wtN_73 (Or.inl rfl) (by decide) rfl rfl (Or.inr ⟨rfl, rfl⟩) rfl rfl rfl (Nat.le_of_ble_eq_true rfl) dX9_init_112 rfl ?_
  refine n_ch (ws' := (h, .inr (7, [.ref (u1 1), .ref qX7, .ref qX8, .ref qX6, .ref qX0, .ref qX2, .int 0])) :: ((((((wK k (u1, G, iA, bA, fun _ => 0) (s3 k)) ++ wf_X7 qX7 iA ((u1 1)) u2) ++ wf_X8 qX8 iA  u3) ++ wf_X6 qX6 iA  u4) ++ wf_X0 qX0 iA (qX7) (qX8) (qX6) ((u1 1)) u5) ++ wf_X2 qX2 iA (qX0) u6)) (nc' := 19) (ns' := 5360) rfl rfl rfl ?_
  refine n_perm (wC k ((fun i => match i with | 0 => h | 6 => qX7 | 7 => u2 0 | 8 => u2 1 | 9 => u2 2 | 10 => qX8 | 11 => u3 0 | 12 => qX6 | 13 => u4 0 | 14 => u4 1 | 15 => qX0 | 16 => u5 0 | 17 => u5 1 | 18 => qX2 | i => u1 i), G, iA, bA, fun _ => 0) (s3 k)) ?_ ?_
  · exact wC_perm k _ _ _ _ _ _ _ _ _ _ _ _ _ _ _
  · exact n_vret (post := fun u => u 0 = h) (wf := fun u => wC k (u, G, iA, bA, fun _ => 0) (s3 k)) (fun i => match i with | 0 => h | 6 => qX7 | 7 => u2 0 | 8 => u2 1 | 9 => u2 2 | 10 => qX8 | 11 => u3 0 | 12 => qX6 | 13 => u4 0 | 14 => u4 1 | 15 => qX0 | 16 => u5 0 | 17 => u5 1 | 18 => qX2 | i => u1 i) hc rfl rfl dX9_init_115
theorem n_X9_init_true (l : Launch) (G : va_G) (iA bA : ClassId) (h : Nat) (kind : Int32) (hk : kind &&& 1 = 1) : nMet l yX9_init cX9_init 2 rm_X9_init (oN G iA bA) [.ref h, .int kind] [(h, .inr (7, [.null, .null, .null, .null, .null, .null, .int 0]))] (fun u => u 0 = h) (fun u => wC true (u, G, iA, bA, fun _ => 0) (s3 true)) := by
  refine nMet_of (lv := [(0, .ref h), (1, .int kind)]) zN_ok (by decide +kernel) rfl (Nat.le_of_ble_eq_true rfl) rfl (fun κ hc hI => ?_)
  have hc : gC (oN G iA bA) κ cX9_init 2 RX9 none rm_X9_init := hc
  refine n_aload_n (i := 0) hc 0 dX9_init_0 rfl rfl ?_
  refine n_objInit hc wtN_74 wtN_1 wtN_2 ⟨Nat.le_of_ble_eq_true rfl, Nat.le_of_ble_eq_true rfl⟩ dX9_init_1 ?_
  refine n_iload_n (i := 1) hc 1 dX9_init_4 rfl rfl ?_
  refine n_iconst (v := 1) hc dX9_init_5 (by decide) ?_
  refine n_iand hc dX9_init_6 ?_
  refine n_iconst (v := 1) hc dX9_init_7 (by decide) ?_
  refine n_icmpne (tgt := 25) hc dX9_init_8 rfl (fun c => ?_) (fun c => absurd hk c)
  refine n_aload_n (i := 0) hc 0 dX9_init_11 rfl rfl ?_
  refine n_new hc (C := RX4) (T := TX4) (N := 11) (ci := 3) (fs := [.null, .null, .null, .null, .int 0, .int 0, .null, .int 0, .int 0, .int 0, .int 0]) tyX4 tyX4_ok wu_X4 wtN_75 wtN_76 wtN_77 rfl (by decide) ⟨Nat.le_of_ble_eq_true rfl, Nat.le_of_ble_eq_true rfl⟩ dX9_init_12 (fun q => ?_)
  refine n_ch (ws' := [(h, .inr (7, [.null, .null, .null, .null, .null, .null, .int 0]))] ++ [(q, .inr (3, [.null, .null, .null, .null, .int 0, .int 0, .null, .int 0, .int 0, .int 0, .int 0]))]) (nc' := 1) (ns' := 11) rfl rfl rfl ?_
  refine n_dup hc dX9_init_15 rfl ?_
  refine n_rot ?_
  refine n_callI (rest := [.ref q, .ref h]) (w1 := [(q, .inr (3, [.null, .null, .null, .null, .int 0, .int 0, .null, .int 0, .int 0, .int 0, .int 0]))]) (w2 := [(h, .inr (7, [.null, .null, .null, .null, .null, .null, .int 0]))]) hc [] (fun l => n_X4_init l G iA bA q) wtN_78 wtN_79 wtN_77 wtN_80 rfl (by decide +kernel) rfl ⟨Nat.le_of_ble_eq_true rfl, Nat.le_of_ble_eq_true rfl⟩ ⟨Nat.le_of_ble_eq_true rfl, Nat.le_of_ble_eq_true rfl⟩ rfl (Nat.le_of_ble_eq_true rfl) dX9_init_16 (fun u1 hu => ?_)
  refine n_rot ?_
  subst hu
  refine n_put hc hI (C := RX9) (T := TX9) (N := 7) (ci := 7) 0 0 ([(h, .inr (7, [.ref (u1 1), .null, .null, .null, .null, .null, .int 0]))] ++ wK true (u1, G, iA, bA, fun _ => 0) (s3 true)) tyX9 tyX9_ok nmX9 wu_X9 wtN_43 (Or.inl rfl) (by decide) rfl rfl (Or.inr ⟨rfl, rfl⟩) rfl rfl rfl (Nat.le_of_ble_eq_true rfl) dX9_init_19 rfl ?_
  refine n_goto (tgt := 36) hc dX9_init_22 rfl ?_
  refine n_widen 6 671 (Nat.le_of_ble_eq_true rfl) (Nat.le_of_ble_eq_true rfl) ?_
  exact n_X9_tail true G iA bA h u1 hc hI
theorem n_X9_init_false (l : Launch) (G : va_G) (iA bA : ClassId) (h : Nat) (kind : Int32) (hk : ¬ kind &&& 1 = 1) : nMet l yX9_init cX9_init 2 rm_X9_init (oN G iA bA) [.ref h, .int kind] [(h, .inr (7, [.null, .null, .null, .null, .null, .null, .int 0]))] (fun u => u 0 = h) (fun u => wC false (u, G, iA, bA, fun _ => 0) (s3 false)) := by
  refine nMet_of (lv := [(0, .ref h), (1, .int kind)]) zN_ok (by decide +kernel) rfl (Nat.le_of_ble_eq_true rfl) rfl (fun κ hc hI => ?_)
  have hc : gC (oN G iA bA) κ cX9_init 2 RX9 none rm_X9_init := hc
  refine n_aload_n (i := 0) hc 0 dX9_init_0 rfl rfl ?_
  refine n_objInit hc wtN_74 wtN_1 wtN_2 ⟨Nat.le_of_ble_eq_true rfl, Nat.le_of_ble_eq_true rfl⟩ dX9_init_1 ?_
  refine n_iload_n (i := 1) hc 1 dX9_init_4 rfl rfl ?_
  refine n_iconst (v := 1) hc dX9_init_5 (by decide) ?_
  refine n_iand hc dX9_init_6 ?_
  refine n_iconst (v := 1) hc dX9_init_7 (by decide) ?_
  refine n_icmpne (tgt := 25) hc dX9_init_8 rfl (fun c => absurd c hk) (fun c => ?_)
  refine n_aload_n (i := 0) hc 0 dX9_init_25 rfl rfl ?_
  refine n_new hc (C := RX3) (T := TX3) (N := 13) (ci := 2) (fs := [.null, .null, .null, .null, .int 0, .int 0, .int 0, .int 0, .int 0, .int 0, .int 0, .int 0, .int 0]) tyX3 tyX3_ok wu_X3 wtN_81 wtN_82 wtN_83 rfl (by decide) ⟨Nat.le_of_ble_eq_true rfl, Nat.le_of_ble_eq_true rfl⟩ dX9_init_26 (fun q => ?_)
  refine n_ch (ws' := [(h, .inr (7, [.null, .null, .null, .null, .null, .null, .int 0]))] ++ [(q, .inr (2, [.null, .null, .null, .null, .int 0, .int 0, .int 0, .int 0, .int 0, .int 0, .int 0, .int 0, .int 0]))]) (nc' := 1) (ns' := 13) rfl rfl rfl ?_
  refine n_dup hc dX9_init_29 rfl ?_
  refine n_rot ?_
  refine n_callI (rest := [.ref q, .ref h]) (w1 := [(q, .inr (2, [.null, .null, .null, .null, .int 0, .int 0, .int 0, .int 0, .int 0, .int 0, .int 0, .int 0, .int 0]))]) (w2 := [(h, .inr (7, [.null, .null, .null, .null, .null, .null, .int 0]))]) hc [] (fun l => n_X3_init l G iA bA q) wtN_84 wtN_85 wtN_83 wtN_86 rfl (by decide +kernel) rfl ⟨Nat.le_of_ble_eq_true rfl, Nat.le_of_ble_eq_true rfl⟩ ⟨Nat.le_of_ble_eq_true rfl, Nat.le_of_ble_eq_true rfl⟩ rfl (Nat.le_of_ble_eq_true rfl) dX9_init_30 (fun u1 hu => ?_)
  refine n_rot ?_
  subst hu
  refine n_put hc hI (C := RX9) (T := TX9) (N := 7) (ci := 7) 0 0 ([(h, .inr (7, [.ref (u1 1), .null, .null, .null, .null, .null, .int 0]))] ++ wK false (u1, G, iA, bA, fun _ => 0) (s3 false)) tyX9 tyX9_ok nmX9 wu_X9 wtN_43 (Or.inl rfl) (by decide) rfl rfl (Or.inr ⟨rfl, rfl⟩) rfl rfl rfl (Nat.le_of_ble_eq_true rfl) dX9_init_33 rfl ?_
  refine n_widen 6 671 (Nat.le_of_ble_eq_true rfl) (Nat.le_of_ble_eq_true rfl) ?_
  exact n_X9_tail false G iA bA h u1 hc hI
end NE
