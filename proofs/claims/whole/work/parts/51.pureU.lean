section PU
variable {k : Bool} {c sp : Int32} {cr : Bool} {gn : Int64} {S : gSt}
theorem mb_134 {p r a b x : Int32} {T : gSt} (h : ¬ r &&& 3 = 0) : jn_X10_perform_134 p r a b x T = fin p (x, T) := by
  unfold jn_X10_perform_134 fin
  rw [if_neg h]
  rfl
theorem mb_1 {p r : Int32} {T : gSt} (a m b : Int32) (h0 : ¬ r &&& 3 = 0) (h1 : r &&& 3 = 1) (h2 : ¬ r &&& 3 = 2) (h3 : ¬ r = 137) (h4 : r >>> ((5 : Int32) &&& (31 : Int32)) = a) (h5 : (r >>> ((2 : Int32) &&& (31 : Int32))) &&& 7 = b) (h6 : sp_X10_modeOne b T = (m, T)) : mBody p r T = fin p (sp_X10_arithmetic a m T) := by
  unfold mBody
  rw [if_pos h1, if_neg h3, h4, h5, h6]
  show jn_X10_perform_118 p r a b (sp_X10_arithmetic a m T).1 (sp_X10_arithmetic a m T).2 = _
  unfold jn_X10_perform_118
  rw [if_neg h2, mb_134 h0]
theorem mb_3 {p r : Int32} {T : gSt} (h0 : ¬ r &&& 3 = 0) (h1 : ¬ r &&& 3 = 1) (h2 : ¬ r &&& 3 = 2) : mBody p r T = (2, sI T 6 p) := by
  unfold mBody
  rw [if_neg h1]
  unfold jn_X10_perform_118
  rw [if_neg h2, mb_134 h0]
  rfl
theorem mb_137 {p : Int32} {T : gSt} : mBody p 137 T = (2, sI T 6 p) := by
  unfold mBody
  rw [if_pos (by decide), if_pos rfl]
  unfold jn_X10_perform_118
  rw [if_neg (by decide), mb_134 (by decide)]
  rfl
theorem mb_2 {p r : Int32} {T : gSt} (a b : Int32) (X : Int32 × gSt) (h0 : ¬ r &&& 3 = 0) (h1 : ¬ r &&& 3 = 1) (h2 : r &&& 3 = 2) (h4 : r >>> ((5 : Int32) &&& (31 : Int32)) = a) (h5 : (r >>> ((2 : Int32) &&& (31 : Int32))) &&& 7 = b) (h6 : sp_X10_doTwo a b T = X) : mBody p r T = fin p X := by
  unfold mBody
  rw [if_neg h1, h4, h5]
  unfold jn_X10_perform_118
  rw [if_pos h2, h6]
  show jn_X10_perform_134 p r a b X.1 X.2 = _
  rw [mb_134 h0]
theorem mb_0 {p r : Int32} {T : gSt} (a b : Int32) (X : Int32 × gSt) (h0 : r &&& 3 = 0) (h1 : ¬ r &&& 3 = 1) (h2 : ¬ r &&& 3 = 2) (h4 : r >>> ((5 : Int32) &&& (31 : Int32)) = a) (h5 : (r >>> ((2 : Int32) &&& (31 : Int32))) &&& 7 = b) (h6 : sp_X10_doZero a b T = X) : mBody p r T = fin p X := by
  unfold mBody
  rw [if_neg h1, h4, h5]
  unfold jn_X10_perform_118
  rw [if_neg h2]
  unfold jn_X10_perform_134
  rw [if_pos h0, h6]
  rfl
theorem gB_eta (R : Int32 × gSt) : gB R (fun r S => (r, S)) = R := rfl
theorem dz_b (a : Int32) (T : gSt) : sp_X10_doZero a 4 T = sp_X10_branch a T := by
  unfold sp_X10_doZero
  rw [if_pos rfl, gB_eta]
theorem dz_s (a : Int32) (T : gSt) : sp_X10_doZero a 2 T = sp_X10_stacked a T := by
  unfold sp_X10_doZero
  rw [if_neg (by decide), if_pos rfl, gB_eta]
theorem dz_f (a : Int32) (T : gSt) : sp_X10_doZero a 6 T = sp_X10_flagged a T := by
  unfold sp_X10_doZero
  rw [if_neg (by decide), if_neg (by decide), if_pos rfl, gB_eta]
theorem dz_c (a : Int32) (T : gSt) (h : ¬ 4 ≤ a) : sp_X10_doZero a 0 T = sp_X10_called a T := by
  unfold sp_X10_doZero
  rw [if_neg (by decide), if_neg (by decide), if_neg (by decide), if_pos rfl, if_neg h, gB_eta]
theorem cb_0 {p r : Int32} (j : Nat) (h : (r &&& 255).toNatClampNeg = j) (h1 : tOP j = 0) (h2 : tCY j = 2) : cBody k p r S = (2 + 0, sI S 32 p) := by
  unfold cBody
  rw [h, if_pos h1, h2]
theorem cb_1 {p r op mo cy : Int32} (j : Nat) (h : (r &&& 255).toNatClampNeg = j) (h1 : tOP j = op) (h2 : tMO j = mo) (h3 : tCY j = cy) (h4 : ¬ op = 0) : cBody k p r S = CI k op mo cy S := by
  unfold cBody
  rw [h, h1, if_neg h4, h2, h3]
theorem dz_0 (T : gSt) : sp_X10_doZero 0 0 T = sp_X10_called 0 T := dz_c 0 T (by decide)
theorem io_0 : Io k 0 := fun c sp gn S p hI hp => by
  rw [mb_0 0 0 (sp_X10_called 0 (ph k c sp false gn S)) (by decide) (by decide) (by decide) (by decide) (by decide) (dz_0 _), cb_1 (op := 56) (mo := 0) (cy := 7) 0 (by decide) rfl rfl rfl (by decide)]
  exact ins_fin (ins_56 hI)
theorem io_1 : Io k 1 := fun c sp gn S p hI hp => by
  rw [mb_1 0 8 0 (by decide) (by decide) (by decide) (by decide) (by decide) (by decide) rfl, cb_1 (op := 7) (mo := 6) (cy := 6) 1 (by decide) rfl rfl rfl (by decide)]
  exact ins_fin (ins_k0 (hR_of (by decide) (ha_px hI)) (fun _ => rfl) (by decide))
theorem io_2 : Io k 2 := fun c sp gn S p hI hp => by
  rw [(mb_2 0 0 (-1, ph k c sp false gn S) (by decide) (by decide) (by decide) (by decide) (by decide) rfl), show fin p (-1, ph k c sp false gn S) = (2, sI (ph k c sp false gn S) 6 p) from rfl, cb_0 2 (by decide) rfl rfl]
  exact ins_un hI hp
theorem io_3 : Io k 3 := fun c sp gn S p hI hp => by
  rw [mb_3 (by decide) (by decide) (by decide), cb_0 3 (by decide) rfl rfl]
  exact ins_un hI hp
theorem io_4 : Io k 4 := fun c sp gn S p hI hp => by
  rw [(mb_0 0 1 (-1, ph k c sp false gn S) (by decide) (by decide) (by decide) (by decide) (by decide) rfl), show fin p (-1, ph k c sp false gn S) = (2, sI (ph k c sp false gn S) 6 p) from rfl, cb_0 4 (by decide) rfl rfl]
  exact ins_un hI hp
theorem io_5 : Io k 5 := fun c sp gn S p hI hp => by
  rw [mb_1 0 2 1 (by decide) (by decide) (by decide) (by decide) (by decide) (by decide) rfl, cb_1 (op := 7) (mo := 3) (cy := 3) 5 (by decide) rfl rfl rfl (by decide)]
  exact ins_fin (ins_k0 (hR_of (by decide) (ha_z hI)) (fun _ => rfl) (by decide))
theorem dz_6 (T : gSt) : sp_X10_doTwo 0 1 T = sp_X10_change 0 2 T := by
  unfold sp_X10_doTwo
  rw [if_neg (by decide), if_neg (by decide), if_neg (by decide), if_neg (by decide)]
  unfold jn_X10_doTwo_51
  rw [if_neg (by decide), if_neg (by decide)]
  unfold jn_X10_doTwo_68
  rw [if_neg (by decide), if_pos (by decide), if_neg (by decide), if_neg (by decide)]
  unfold jn_X10_doTwo_162
  rw [if_neg (by decide), gB_eta]
theorem io_6 : Io k 6 := fun c sp gn S p hI hp => by
  rw [mb_2 0 1 (sp_X10_change 0 2 (ph k c sp false gn S)) (by decide) (by decide) (by decide) (by decide) (by decide) (dz_6 _), cb_1 (op := 16) (mo := 3) (cy := 5) 6 (by decide) rfl rfl rfl (by decide)]
  exact ins_fin (ins_cm hc_0 (fun x S => pc_16 3 x S) (ha_z hI) (by decide) (by decide) (by decide) (by decide))
theorem io_7 : Io k 7 := fun c sp gn S p hI hp => by
  rw [mb_3 (by decide) (by decide) (by decide), cb_0 7 (by decide) rfl rfl]
  exact ins_un hI hp
theorem dz_8 (T : gSt) : sp_X10_doZero 0 2 T = sp_X10_stacked 0 T := dz_s 0 T
theorem io_8 : Io k 8 := fun c sp gn S p hI hp => by
  rw [mb_0 0 2 (sp_X10_stacked 0 (ph k c sp false gn S)) (by decide) (by decide) (by decide) (by decide) (by decide) (dz_8 _), cb_1 (op := 49) (mo := 0) (cy := 3) 8 (by decide) rfl rfl rfl (by decide)]
  exact ins_fin (ins_49 hI)
theorem io_9 : Io k 9 := fun c sp gn S p hI hp => by
  rw [mb_1 0 1 2 (by decide) (by decide) (by decide) (by decide) (by decide) (by decide) rfl, cb_1 (op := 7) (mo := 2) (cy := 2) 9 (by decide) rfl rfl rfl (by decide)]
  exact ins_fin (ins_k0 (hr_i hI) (fun _ => rfl) (by decide))
theorem dz_10 (T : gSt) : sp_X10_doTwo 0 2 T = sp_X10_change 0 0 T := by
  unfold sp_X10_doTwo
  rw [if_neg (by decide), if_neg (by decide), if_neg (by decide), if_pos (by decide), if_pos (by decide)]
  unfold jn_X10_doTwo_51
  rw [if_neg (by decide), if_neg (by decide)]
  unfold jn_X10_doTwo_68
  rw [if_neg (by decide), if_neg (by decide), if_pos (by decide), if_neg (by decide), if_neg (by decide)]
  unfold jn_X10_doTwo_162
  rw [if_neg (by decide), gB_eta]
theorem io_10 : Io k 10 := fun c sp gn S p hI hp => by
  rw [mb_2 0 2 (sp_X10_change 0 0 (ph k c sp false gn S)) (by decide) (by decide) (by decide) (by decide) (by decide) (dz_10 _), cb_1 (op := 16) (mo := 1) (cy := 2) 10 (by decide) rfl rfl rfl (by decide)]
  exact ins_fin (ins_ca hc_0 (fun x S => pc_16 1 x S) hI)
theorem io_11 : Io k 11 := fun c sp gn S p hI hp => by
  rw [mb_3 (by decide) (by decide) (by decide), cb_0 11 (by decide) rfl rfl]
  exact ins_un hI hp
theorem io_12 : Io k 12 := fun c sp gn S p hI hp => by
  rw [(mb_0 0 3 (-1, ph k c sp false gn S) (by decide) (by decide) (by decide) (by decide) (by decide) rfl), show fin p (-1, ph k c sp false gn S) = (2, sI (ph k c sp false gn S) 6 p) from rfl, cb_0 12 (by decide) rfl rfl]
  exact ins_un hI hp
theorem io_13 : Io k 13 := fun c sp gn S p hI hp => by
  rw [mb_1 0 5 3 (by decide) (by decide) (by decide) (by decide) (by decide) (by decide) rfl, cb_1 (op := 7) (mo := 9) (cy := 4) 13 (by decide) rfl rfl rfl (by decide)]
  exact ins_fin (ins_k0 (hR_of (by decide) (ha_a hI)) (fun _ => rfl) (by decide))
theorem dz_14 (T : gSt) : sp_X10_doTwo 0 3 T = sp_X10_change 0 5 T := by
  unfold sp_X10_doTwo
  rw [if_neg (by decide), if_neg (by decide), if_neg (by decide), if_neg (by decide)]
  unfold jn_X10_doTwo_51
  rw [if_neg (by decide), if_neg (by decide)]
  unfold jn_X10_doTwo_68
  rw [if_neg (by decide), if_neg (by decide), if_neg (by decide), if_pos (by decide), if_neg (by decide), if_neg (by decide)]
  unfold jn_X10_doTwo_162
  rw [if_neg (by decide), gB_eta]
theorem io_14 : Io k 14 := fun c sp gn S p hI hp => by
  rw [mb_2 0 3 (sp_X10_change 0 5 (ph k c sp false gn S)) (by decide) (by decide) (by decide) (by decide) (by decide) (dz_14 _), cb_1 (op := 16) (mo := 9) (cy := 6) 14 (by decide) rfl rfl rfl (by decide)]
  exact ins_fin (ins_cm hc_0 (fun x S => pc_16 9 x S) (ha_a hI) (by decide) (by decide) (by decide) (by decide))
theorem io_15 : Io k 15 := fun c sp gn S p hI hp => by
  rw [mb_3 (by decide) (by decide) (by decide), cb_0 15 (by decide) rfl rfl]
  exact ins_un hI hp
theorem dz_16 (T : gSt) : sp_X10_doZero 0 4 T = sp_X10_branch 0 T := dz_b 0 T
theorem io_16 : Io k 16 := fun c sp gn S p hI hp => by
  rw [mb_0 0 4 (sp_X10_branch 0 (ph k c sp false gn S)) (by decide) (by decide) (by decide) (by decide) (by decide) (dz_16 _), cb_1 (op := 22) (mo := 8) (cy := 2) 16 (by decide) rfl rfl rfl (by decide)]
  exact ins_fin (ins_22 hI)
theorem io_17 : Io k 17 := fun c sp gn S p hI hp => by
  rw [mb_1 0 9 4 (by decide) (by decide) (by decide) (by decide) (by decide) (by decide) rfl, cb_1 (op := 7) (mo := 7) (cy := 5) 17 (by decide) rfl rfl rfl (by decide)]
  exact ins_fin (ins_k0 (hR_of (by decide) (ha_py hI)) (fun _ => rfl) (by decide))
theorem io_18 : Io k 18 := fun c sp gn S p hI hp => by
  rw [(mb_2 0 4 (-1, ph k c sp false gn S) (by decide) (by decide) (by decide) (by decide) (by decide) rfl), show fin p (-1, ph k c sp false gn S) = (2, sI (ph k c sp false gn S) 6 p) from rfl, cb_0 18 (by decide) rfl rfl]
  exact ins_un hI hp
theorem io_19 : Io k 19 := fun c sp gn S p hI hp => by
  rw [mb_3 (by decide) (by decide) (by decide), cb_0 19 (by decide) rfl rfl]
  exact ins_un hI hp
theorem io_20 : Io k 20 := fun c sp gn S p hI hp => by
  rw [(mb_0 0 5 (-1, ph k c sp false gn S) (by decide) (by decide) (by decide) (by decide) (by decide) rfl), show fin p (-1, ph k c sp false gn S) = (2, sI (ph k c sp false gn S) 6 p) from rfl, cb_0 20 (by decide) rfl rfl]
  exact ins_un hI hp
theorem io_21 : Io k 21 := fun c sp gn S p hI hp => by
  rw [mb_1 0 3 5 (by decide) (by decide) (by decide) (by decide) (by decide) (by decide) rfl, cb_1 (op := 7) (mo := 4) (cy := 4) 21 (by decide) rfl rfl rfl (by decide)]
  exact ins_fin (ins_k0 (hR_of (by decide) (ha_zx hI)) (fun _ => rfl) (by decide))
theorem dz_22 (T : gSt) : sp_X10_doTwo 0 5 T = sp_X10_change 0 3 T := by
  unfold sp_X10_doTwo
  rw [if_neg (by decide), if_neg (by decide), if_neg (by decide), if_neg (by decide)]
  unfold jn_X10_doTwo_51
  rw [if_neg (by decide), if_neg (by decide)]
  unfold jn_X10_doTwo_68
  rw [if_neg (by decide), if_neg (by decide), if_neg (by decide), if_neg (by decide), if_pos (by decide), if_pos (by decide), if_neg (by decide), if_neg (by decide)]
  unfold jn_X10_doTwo_162
  rw [if_neg (by decide), gB_eta]
theorem io_22 : Io k 22 := fun c sp gn S p hI hp => by
  rw [mb_2 0 5 (sp_X10_change 0 3 (ph k c sp false gn S)) (by decide) (by decide) (by decide) (by decide) (by decide) (dz_22 _), cb_1 (op := 16) (mo := 4) (cy := 6) 22 (by decide) rfl rfl rfl (by decide)]
  exact ins_fin (ins_cm hc_0 (fun x S => pc_16 4 x S) (ha_zx hI) (by decide) (by decide) (by decide) (by decide))
theorem io_23 : Io k 23 := fun c sp gn S p hI hp => by
  rw [mb_3 (by decide) (by decide) (by decide), cb_0 23 (by decide) rfl rfl]
  exact ins_un hI hp
theorem dz_24 (T : gSt) : sp_X10_doZero 0 6 T = sp_X10_flagged 0 T := dz_f 0 T
theorem io_24 : Io k 24 := fun c sp gn S p hI hp => by
  rw [mb_0 0 6 (sp_X10_flagged 0 (ph k c sp false gn S)) (by decide) (by decide) (by decide) (by decide) (by decide) (dz_24 _), cb_1 (op := 40) (mo := 0) (cy := 2) 24 (by decide) rfl rfl rfl (by decide)]
  exact ins_fin (ins_40 hI)
theorem io_25 : Io k 25 := fun c sp gn S p hI hp => by
  rw [mb_1 0 7 6 (by decide) (by decide) (by decide) (by decide) (by decide) (by decide) rfl, cb_1 (op := 7) (mo := 11) (cy := 4) 25 (by decide) rfl rfl rfl (by decide)]
  exact ins_fin (ins_k0 (hR_of (by decide) (ha_ay hI)) (fun _ => rfl) (by decide))
theorem io_26 : Io k 26 := fun c sp gn S p hI hp => by
  rw [(mb_2 0 6 (-1, ph k c sp false gn S) (by decide) (by decide) (by decide) (by decide) (by decide) rfl), show fin p (-1, ph k c sp false gn S) = (2, sI (ph k c sp false gn S) 6 p) from rfl, cb_0 26 (by decide) rfl rfl]
  exact ins_un hI hp
theorem io_27 : Io k 27 := fun c sp gn S p hI hp => by
  rw [mb_3 (by decide) (by decide) (by decide), cb_0 27 (by decide) rfl rfl]
  exact ins_un hI hp
theorem io_28 : Io k 28 := fun c sp gn S p hI hp => by
  rw [(mb_0 0 7 (-1, ph k c sp false gn S) (by decide) (by decide) (by decide) (by decide) (by decide) rfl), show fin p (-1, ph k c sp false gn S) = (2, sI (ph k c sp false gn S) 6 p) from rfl, cb_0 28 (by decide) rfl rfl]
  exact ins_un hI hp
theorem io_29 : Io k 29 := fun c sp gn S p hI hp => by
  rw [mb_1 0 6 7 (by decide) (by decide) (by decide) (by decide) (by decide) (by decide) rfl, cb_1 (op := 7) (mo := 10) (cy := 4) 29 (by decide) rfl rfl rfl (by decide)]
  exact ins_fin (ins_k0 (hR_of (by decide) (ha_ax hI)) (fun _ => rfl) (by decide))
theorem dz_30 (T : gSt) : sp_X10_doTwo 0 7 T = sp_X10_change 0 6 T := by
  unfold sp_X10_doTwo
  rw [if_neg (by decide), if_neg (by decide), if_neg (by decide), if_neg (by decide)]
  unfold jn_X10_doTwo_51
  rw [if_neg (by decide), if_neg (by decide)]
  unfold jn_X10_doTwo_68
  rw [if_neg (by decide), if_neg (by decide), if_neg (by decide), if_neg (by decide), if_neg (by decide), if_pos (by decide), if_neg (by decide), if_neg (by decide)]
  unfold jn_X10_doTwo_162
  rw [if_neg (by decide), gB_eta]
theorem io_30 : Io k 30 := fun c sp gn S p hI hp => by
  rw [mb_2 0 7 (sp_X10_change 0 6 (ph k c sp false gn S)) (by decide) (by decide) (by decide) (by decide) (by decide) (dz_30 _), cb_1 (op := 16) (mo := 10) (cy := 7) 30 (by decide) rfl rfl rfl (by decide)]
  exact ins_fin (ins_cm hc_0 (fun x S => pc_16 10 x S) (ha_ax hI) (by decide) (by decide) (by decide) (by decide))
theorem io_31 : Io k 31 := fun c sp gn S p hI hp => by
  rw [mb_3 (by decide) (by decide) (by decide), cb_0 31 (by decide) rfl rfl]
  exact ins_un hI hp
theorem dz_32 (T : gSt) : sp_X10_doZero 1 0 T = sp_X10_called 1 T := dz_c 1 T (by decide)
theorem io_32 : Io k 32 := fun c sp gn S p hI hp => by
  rw [mb_0 1 0 (sp_X10_called 1 (ph k c sp false gn S)) (by decide) (by decide) (by decide) (by decide) (by decide) (dz_32 _), cb_1 (op := 53) (mo := 9) (cy := 6) 32 (by decide) rfl rfl rfl (by decide)]
  exact ins_fin (ins_53 hI)
theorem io_33 : Io k 33 := fun c sp gn S p hI hp => by
  rw [mb_1 1 8 0 (by decide) (by decide) (by decide) (by decide) (by decide) (by decide) rfl, cb_1 (op := 6) (mo := 6) (cy := 6) 33 (by decide) rfl rfl rfl (by decide)]
  exact ins_fin (ins_k1 (hR_of (by decide) (ha_px hI)) (fun _ => rfl) (by decide))
theorem io_34 : Io k 34 := fun c sp gn S p hI hp => by
  rw [(mb_2 1 0 (-1, ph k c sp false gn S) (by decide) (by decide) (by decide) (by decide) (by decide) rfl), show fin p (-1, ph k c sp false gn S) = (2, sI (ph k c sp false gn S) 6 p) from rfl, cb_0 34 (by decide) rfl rfl]
  exact ins_un hI hp
theorem io_35 : Io k 35 := fun c sp gn S p hI hp => by
  rw [mb_3 (by decide) (by decide) (by decide), cb_0 35 (by decide) rfl rfl]
  exact ins_un hI hp
theorem dz_36 (T : gSt) : sp_X10_doZero 1 1 T = sp_X10_listed 1 2 T := by
  unfold sp_X10_doZero
  rw [if_neg (by decide), if_neg (by decide), if_neg (by decide), if_neg (by decide)]
  unfold jn_X10_doZero_49
  rw [if_neg (by decide)]
  unfold jn_X10_doZero_79
  rw [if_neg (by decide), if_pos (by decide)]
  unfold jn_X10_doZero_106
  rw [if_pos (by decide)]
  unfold jn_X10_doZero_116
  rw [if_neg (by decide), if_pos (by decide), gB_eta]
theorem io_36 : Io k 36 := fun c sp gn S p hI hp => by
  rw [mb_0 1 1 (sp_X10_listed 1 2 (ph k c sp false gn S)) (by decide) (by decide) (by decide) (by decide) (by decide) (dz_36 _), cb_1 (op := 12) (mo := 3) (cy := 3) 36 (by decide) rfl rfl rfl (by decide)]
  exact ins_fin (ins_bit (hR_of (by decide) (ha_z hI)) (fun _ => rfl) (by decide))
theorem io_37 : Io k 37 := fun c sp gn S p hI hp => by
  rw [mb_1 1 2 1 (by decide) (by decide) (by decide) (by decide) (by decide) (by decide) rfl, cb_1 (op := 6) (mo := 3) (cy := 3) 37 (by decide) rfl rfl rfl (by decide)]
  exact ins_fin (ins_k1 (hR_of (by decide) (ha_z hI)) (fun _ => rfl) (by decide))
theorem dz_38 (T : gSt) : sp_X10_doTwo 1 1 T = sp_X10_change 1 2 T := by
  unfold sp_X10_doTwo
  rw [if_neg (by decide), if_neg (by decide), if_neg (by decide), if_neg (by decide)]
  unfold jn_X10_doTwo_51
  rw [if_neg (by decide), if_neg (by decide)]
  unfold jn_X10_doTwo_68
  rw [if_neg (by decide), if_pos (by decide), if_neg (by decide), if_neg (by decide)]
  unfold jn_X10_doTwo_162
  rw [if_neg (by decide), gB_eta]
theorem io_38 : Io k 38 := fun c sp gn S p hI hp => by
  rw [mb_2 1 1 (sp_X10_change 1 2 (ph k c sp false gn S)) (by decide) (by decide) (by decide) (by decide) (by decide) (dz_38 _), cb_1 (op := 18) (mo := 3) (cy := 5) 38 (by decide) rfl rfl rfl (by decide)]
  exact ins_fin (ins_cm hc_1 (fun x S => pc_18 3 x S) (ha_z hI) (by decide) (by decide) (by decide) (by decide))
theorem io_39 : Io k 39 := fun c sp gn S p hI hp => by
  rw [mb_3 (by decide) (by decide) (by decide), cb_0 39 (by decide) rfl rfl]
  exact ins_un hI hp
theorem dz_40 (T : gSt) : sp_X10_doZero 1 2 T = sp_X10_stacked 1 T := dz_s 1 T
theorem io_40 : Io k 40 := fun c sp gn S p hI hp => by
  rw [mb_0 1 2 (sp_X10_stacked 1 (ph k c sp false gn S)) (by decide) (by decide) (by decide) (by decide) (by decide) (dz_40 _), cb_1 (op := 51) (mo := 0) (cy := 4) 40 (by decide) rfl rfl rfl (by decide)]
  exact ins_fin (ins_51 hI)
theorem io_41 : Io k 41 := fun c sp gn S p hI hp => by
  rw [mb_1 1 1 2 (by decide) (by decide) (by decide) (by decide) (by decide) (by decide) rfl, cb_1 (op := 6) (mo := 2) (cy := 2) 41 (by decide) rfl rfl rfl (by decide)]
  exact ins_fin (ins_k1 (hr_i hI) (fun _ => rfl) (by decide))
theorem dz_42 (T : gSt) : sp_X10_doTwo 1 2 T = sp_X10_change 1 0 T := by
  unfold sp_X10_doTwo
  rw [if_neg (by decide), if_neg (by decide), if_neg (by decide), if_pos (by decide), if_pos (by decide)]
  unfold jn_X10_doTwo_51
  rw [if_neg (by decide), if_neg (by decide)]
  unfold jn_X10_doTwo_68
  rw [if_neg (by decide), if_neg (by decide), if_pos (by decide), if_neg (by decide), if_neg (by decide)]
  unfold jn_X10_doTwo_162
  rw [if_neg (by decide), gB_eta]
theorem io_42 : Io k 42 := fun c sp gn S p hI hp => by
  rw [mb_2 1 2 (sp_X10_change 1 0 (ph k c sp false gn S)) (by decide) (by decide) (by decide) (by decide) (by decide) (dz_42 _), cb_1 (op := 18) (mo := 1) (cy := 2) 42 (by decide) rfl rfl rfl (by decide)]
  exact ins_fin (ins_ca hc_1 (fun x S => pc_18 1 x S) hI)
theorem io_43 : Io k 43 := fun c sp gn S p hI hp => by
  rw [mb_3 (by decide) (by decide) (by decide), cb_0 43 (by decide) rfl rfl]
  exact ins_un hI hp
theorem dz_44 (T : gSt) : sp_X10_doZero 1 3 T = sp_X10_listed 1 5 T := by
  unfold sp_X10_doZero
  rw [if_neg (by decide), if_neg (by decide), if_neg (by decide), if_neg (by decide)]
  unfold jn_X10_doZero_49
  rw [if_pos (by decide), if_neg (by decide), if_neg (by decide)]
  unfold jn_X10_doZero_79
  rw [if_neg (by decide), if_neg (by decide), if_pos (by decide)]
  unfold jn_X10_doZero_106
  rw [if_pos (by decide)]
  unfold jn_X10_doZero_116
  rw [if_neg (by decide), if_neg (by decide), if_pos (by decide), gB_eta]
theorem io_44 : Io k 44 := fun c sp gn S p hI hp => by
  rw [mb_0 1 3 (sp_X10_listed 1 5 (ph k c sp false gn S)) (by decide) (by decide) (by decide) (by decide) (by decide) (dz_44 _), cb_1 (op := 12) (mo := 9) (cy := 4) 44 (by decide) rfl rfl rfl (by decide)]
  exact ins_fin (ins_bit (hR_of (by decide) (ha_a hI)) (fun _ => rfl) (by decide))
theorem io_45 : Io k 45 := fun c sp gn S p hI hp => by
  rw [mb_1 1 5 3 (by decide) (by decide) (by decide) (by decide) (by decide) (by decide) rfl, cb_1 (op := 6) (mo := 9) (cy := 4) 45 (by decide) rfl rfl rfl (by decide)]
  exact ins_fin (ins_k1 (hR_of (by decide) (ha_a hI)) (fun _ => rfl) (by decide))
theorem dz_46 (T : gSt) : sp_X10_doTwo 1 3 T = sp_X10_change 1 5 T := by
  unfold sp_X10_doTwo
  rw [if_neg (by decide), if_neg (by decide), if_neg (by decide), if_neg (by decide)]
  unfold jn_X10_doTwo_51
  rw [if_neg (by decide), if_neg (by decide)]
  unfold jn_X10_doTwo_68
  rw [if_neg (by decide), if_neg (by decide), if_neg (by decide), if_pos (by decide), if_neg (by decide), if_neg (by decide)]
  unfold jn_X10_doTwo_162
  rw [if_neg (by decide), gB_eta]
theorem io_46 : Io k 46 := fun c sp gn S p hI hp => by
  rw [mb_2 1 3 (sp_X10_change 1 5 (ph k c sp false gn S)) (by decide) (by decide) (by decide) (by decide) (by decide) (dz_46 _), cb_1 (op := 18) (mo := 9) (cy := 6) 46 (by decide) rfl rfl rfl (by decide)]
  exact ins_fin (ins_cm hc_1 (fun x S => pc_18 9 x S) (ha_a hI) (by decide) (by decide) (by decide) (by decide))
theorem io_47 : Io k 47 := fun c sp gn S p hI hp => by
  rw [mb_3 (by decide) (by decide) (by decide), cb_0 47 (by decide) rfl rfl]
  exact ins_un hI hp
theorem dz_48 (T : gSt) : sp_X10_doZero 1 4 T = sp_X10_branch 1 T := dz_b 1 T
theorem io_48 : Io k 48 := fun c sp gn S p hI hp => by
  rw [mb_0 1 4 (sp_X10_branch 1 (ph k c sp false gn S)) (by decide) (by decide) (by decide) (by decide) (by decide) (dz_48 _), cb_1 (op := 23) (mo := 8) (cy := 2) 48 (by decide) rfl rfl rfl (by decide)]
  exact ins_fin (ins_23 hI)
theorem io_49 : Io k 49 := fun c sp gn S p hI hp => by
  rw [mb_1 1 9 4 (by decide) (by decide) (by decide) (by decide) (by decide) (by decide) rfl, cb_1 (op := 6) (mo := 7) (cy := 5) 49 (by decide) rfl rfl rfl (by decide)]
  exact ins_fin (ins_k1 (hR_of (by decide) (ha_py hI)) (fun _ => rfl) (by decide))
theorem io_50 : Io k 50 := fun c sp gn S p hI hp => by
  rw [(mb_2 1 4 (-1, ph k c sp false gn S) (by decide) (by decide) (by decide) (by decide) (by decide) rfl), show fin p (-1, ph k c sp false gn S) = (2, sI (ph k c sp false gn S) 6 p) from rfl, cb_0 50 (by decide) rfl rfl]
  exact ins_un hI hp
theorem io_51 : Io k 51 := fun c sp gn S p hI hp => by
  rw [mb_3 (by decide) (by decide) (by decide), cb_0 51 (by decide) rfl rfl]
  exact ins_un hI hp
theorem io_52 : Io k 52 := fun c sp gn S p hI hp => by
  rw [(mb_0 1 5 (-1, ph k c sp false gn S) (by decide) (by decide) (by decide) (by decide) (by decide) rfl), show fin p (-1, ph k c sp false gn S) = (2, sI (ph k c sp false gn S) 6 p) from rfl, cb_0 52 (by decide) rfl rfl]
  exact ins_un hI hp
theorem io_53 : Io k 53 := fun c sp gn S p hI hp => by
  rw [mb_1 1 3 5 (by decide) (by decide) (by decide) (by decide) (by decide) (by decide) rfl, cb_1 (op := 6) (mo := 4) (cy := 4) 53 (by decide) rfl rfl rfl (by decide)]
  exact ins_fin (ins_k1 (hR_of (by decide) (ha_zx hI)) (fun _ => rfl) (by decide))
theorem dz_54 (T : gSt) : sp_X10_doTwo 1 5 T = sp_X10_change 1 3 T := by
  unfold sp_X10_doTwo
  rw [if_neg (by decide), if_neg (by decide), if_neg (by decide), if_neg (by decide)]
  unfold jn_X10_doTwo_51
  rw [if_neg (by decide), if_neg (by decide)]
  unfold jn_X10_doTwo_68
  rw [if_neg (by decide), if_neg (by decide), if_neg (by decide), if_neg (by decide), if_pos (by decide), if_pos (by decide), if_neg (by decide), if_neg (by decide)]
  unfold jn_X10_doTwo_162
  rw [if_neg (by decide), gB_eta]
theorem io_54 : Io k 54 := fun c sp gn S p hI hp => by
  rw [mb_2 1 5 (sp_X10_change 1 3 (ph k c sp false gn S)) (by decide) (by decide) (by decide) (by decide) (by decide) (dz_54 _), cb_1 (op := 18) (mo := 4) (cy := 6) 54 (by decide) rfl rfl rfl (by decide)]
  exact ins_fin (ins_cm hc_1 (fun x S => pc_18 4 x S) (ha_zx hI) (by decide) (by decide) (by decide) (by decide))
theorem io_55 : Io k 55 := fun c sp gn S p hI hp => by
  rw [mb_3 (by decide) (by decide) (by decide), cb_0 55 (by decide) rfl rfl]
  exact ins_un hI hp
theorem dz_56 (T : gSt) : sp_X10_doZero 1 6 T = sp_X10_flagged 1 T := dz_f 1 T
theorem io_56 : Io k 56 := fun c sp gn S p hI hp => by
  rw [mb_0 1 6 (sp_X10_flagged 1 (ph k c sp false gn S)) (by decide) (by decide) (by decide) (by decide) (by decide) (dz_56 _), cb_1 (op := 41) (mo := 0) (cy := 2) 56 (by decide) rfl rfl rfl (by decide)]
  exact ins_fin (ins_41 hI)
theorem io_57 : Io k 57 := fun c sp gn S p hI hp => by
  rw [mb_1 1 7 6 (by decide) (by decide) (by decide) (by decide) (by decide) (by decide) rfl, cb_1 (op := 6) (mo := 11) (cy := 4) 57 (by decide) rfl rfl rfl (by decide)]
  exact ins_fin (ins_k1 (hR_of (by decide) (ha_ay hI)) (fun _ => rfl) (by decide))
theorem io_58 : Io k 58 := fun c sp gn S p hI hp => by
  rw [(mb_2 1 6 (-1, ph k c sp false gn S) (by decide) (by decide) (by decide) (by decide) (by decide) rfl), show fin p (-1, ph k c sp false gn S) = (2, sI (ph k c sp false gn S) 6 p) from rfl, cb_0 58 (by decide) rfl rfl]
  exact ins_un hI hp
theorem io_59 : Io k 59 := fun c sp gn S p hI hp => by
  rw [mb_3 (by decide) (by decide) (by decide), cb_0 59 (by decide) rfl rfl]
  exact ins_un hI hp
theorem io_60 : Io k 60 := fun c sp gn S p hI hp => by
  rw [(mb_0 1 7 (-1, ph k c sp false gn S) (by decide) (by decide) (by decide) (by decide) (by decide) rfl), show fin p (-1, ph k c sp false gn S) = (2, sI (ph k c sp false gn S) 6 p) from rfl, cb_0 60 (by decide) rfl rfl]
  exact ins_un hI hp
theorem io_61 : Io k 61 := fun c sp gn S p hI hp => by
  rw [mb_1 1 6 7 (by decide) (by decide) (by decide) (by decide) (by decide) (by decide) rfl, cb_1 (op := 6) (mo := 10) (cy := 4) 61 (by decide) rfl rfl rfl (by decide)]
  exact ins_fin (ins_k1 (hR_of (by decide) (ha_ax hI)) (fun _ => rfl) (by decide))
theorem dz_62 (T : gSt) : sp_X10_doTwo 1 7 T = sp_X10_change 1 6 T := by
  unfold sp_X10_doTwo
  rw [if_neg (by decide), if_neg (by decide), if_neg (by decide), if_neg (by decide)]
  unfold jn_X10_doTwo_51
  rw [if_neg (by decide), if_neg (by decide)]
  unfold jn_X10_doTwo_68
  rw [if_neg (by decide), if_neg (by decide), if_neg (by decide), if_neg (by decide), if_neg (by decide), if_pos (by decide), if_neg (by decide), if_neg (by decide)]
  unfold jn_X10_doTwo_162
  rw [if_neg (by decide), gB_eta]
theorem io_62 : Io k 62 := fun c sp gn S p hI hp => by
  rw [mb_2 1 7 (sp_X10_change 1 6 (ph k c sp false gn S)) (by decide) (by decide) (by decide) (by decide) (by decide) (dz_62 _), cb_1 (op := 18) (mo := 10) (cy := 7) 62 (by decide) rfl rfl rfl (by decide)]
  exact ins_fin (ins_cm hc_1 (fun x S => pc_18 10 x S) (ha_ax hI) (by decide) (by decide) (by decide) (by decide))
theorem io_63 : Io k 63 := fun c sp gn S p hI hp => by
  rw [mb_3 (by decide) (by decide) (by decide), cb_0 63 (by decide) rfl rfl]
  exact ins_un hI hp
theorem dz_64 (T : gSt) : sp_X10_doZero 2 0 T = sp_X10_called 2 T := dz_c 2 T (by decide)
theorem io_64 : Io k 64 := fun c sp gn S p hI hp => by
  rw [mb_0 2 0 (sp_X10_called 2 (ph k c sp false gn S)) (by decide) (by decide) (by decide) (by decide) (by decide) (dz_64 _), cb_1 (op := 55) (mo := 0) (cy := 6) 64 (by decide) rfl rfl rfl (by decide)]
  exact ins_fin (ins_55 hI)
theorem io_65 : Io k 65 := fun c sp gn S p hI hp => by
  rw [mb_1 2 8 0 (by decide) (by decide) (by decide) (by decide) (by decide) (by decide) rfl, cb_1 (op := 8) (mo := 6) (cy := 6) 65 (by decide) rfl rfl rfl (by decide)]
  exact ins_fin (ins_k2 (hR_of (by decide) (ha_px hI)) (fun _ => rfl) (by decide))
theorem io_66 : Io k 66 := fun c sp gn S p hI hp => by
  rw [(mb_2 2 0 (-1, ph k c sp false gn S) (by decide) (by decide) (by decide) (by decide) (by decide) rfl), show fin p (-1, ph k c sp false gn S) = (2, sI (ph k c sp false gn S) 6 p) from rfl, cb_0 66 (by decide) rfl rfl]
  exact ins_un hI hp
theorem io_67 : Io k 67 := fun c sp gn S p hI hp => by
  rw [mb_3 (by decide) (by decide) (by decide), cb_0 67 (by decide) rfl rfl]
  exact ins_un hI hp
theorem io_68 : Io k 68 := fun c sp gn S p hI hp => by
  rw [(mb_0 2 1 (-1, ph k c sp false gn S) (by decide) (by decide) (by decide) (by decide) (by decide) rfl), show fin p (-1, ph k c sp false gn S) = (2, sI (ph k c sp false gn S) 6 p) from rfl, cb_0 68 (by decide) rfl rfl]
  exact ins_un hI hp
theorem io_69 : Io k 69 := fun c sp gn S p hI hp => by
  rw [mb_1 2 2 1 (by decide) (by decide) (by decide) (by decide) (by decide) (by decide) rfl, cb_1 (op := 8) (mo := 3) (cy := 3) 69 (by decide) rfl rfl rfl (by decide)]
  exact ins_fin (ins_k2 (hR_of (by decide) (ha_z hI)) (fun _ => rfl) (by decide))
theorem dz_70 (T : gSt) : sp_X10_doTwo 2 1 T = sp_X10_change 2 2 T := by
  unfold sp_X10_doTwo
  rw [if_neg (by decide), if_neg (by decide), if_neg (by decide), if_neg (by decide)]
  unfold jn_X10_doTwo_51
  rw [if_neg (by decide), if_neg (by decide)]
  unfold jn_X10_doTwo_68
  rw [if_neg (by decide), if_pos (by decide), if_neg (by decide), if_neg (by decide)]
  unfold jn_X10_doTwo_162
  rw [if_neg (by decide), gB_eta]
theorem io_70 : Io k 70 := fun c sp gn S p hI hp => by
  rw [mb_2 2 1 (sp_X10_change 2 2 (ph k c sp false gn S)) (by decide) (by decide) (by decide) (by decide) (by decide) (dz_70 _), cb_1 (op := 17) (mo := 3) (cy := 5) 70 (by decide) rfl rfl rfl (by decide)]
  exact ins_fin (ins_cm hc_2 (fun x S => pc_17 3 x S) (ha_z hI) (by decide) (by decide) (by decide) (by decide))
theorem io_71 : Io k 71 := fun c sp gn S p hI hp => by
  rw [mb_3 (by decide) (by decide) (by decide), cb_0 71 (by decide) rfl rfl]
  exact ins_un hI hp
theorem dz_72 (T : gSt) : sp_X10_doZero 2 2 T = sp_X10_stacked 2 T := dz_s 2 T
theorem io_72 : Io k 72 := fun c sp gn S p hI hp => by
  rw [mb_0 2 2 (sp_X10_stacked 2 (ph k c sp false gn S)) (by decide) (by decide) (by decide) (by decide) (by decide) (dz_72 _), cb_1 (op := 48) (mo := 0) (cy := 3) 72 (by decide) rfl rfl rfl (by decide)]
  exact ins_fin (ins_48 hI)
theorem io_73 : Io k 73 := fun c sp gn S p hI hp => by
  rw [mb_1 2 1 2 (by decide) (by decide) (by decide) (by decide) (by decide) (by decide) rfl, cb_1 (op := 8) (mo := 2) (cy := 2) 73 (by decide) rfl rfl rfl (by decide)]
  exact ins_fin (ins_k2 (hr_i hI) (fun _ => rfl) (by decide))
theorem dz_74 (T : gSt) : sp_X10_doTwo 2 2 T = sp_X10_change 2 0 T := by
  unfold sp_X10_doTwo
  rw [if_neg (by decide), if_neg (by decide), if_neg (by decide), if_pos (by decide), if_pos (by decide)]
  unfold jn_X10_doTwo_51
  rw [if_neg (by decide), if_neg (by decide)]
  unfold jn_X10_doTwo_68
  rw [if_neg (by decide), if_neg (by decide), if_pos (by decide), if_neg (by decide), if_neg (by decide)]
  unfold jn_X10_doTwo_162
  rw [if_neg (by decide), gB_eta]
theorem io_74 : Io k 74 := fun c sp gn S p hI hp => by
  rw [mb_2 2 2 (sp_X10_change 2 0 (ph k c sp false gn S)) (by decide) (by decide) (by decide) (by decide) (by decide) (dz_74 _), cb_1 (op := 17) (mo := 1) (cy := 2) 74 (by decide) rfl rfl rfl (by decide)]
  exact ins_fin (ins_ca hc_2 (fun x S => pc_17 1 x S) hI)
theorem io_75 : Io k 75 := fun c sp gn S p hI hp => by
  rw [mb_3 (by decide) (by decide) (by decide), cb_0 75 (by decide) rfl rfl]
  exact ins_un hI hp
theorem dz_76 (T : gSt) : sp_X10_doZero 2 3 T = sp_X10_jump false T := by
  unfold sp_X10_doZero
  rw [if_neg (by decide), if_neg (by decide), if_neg (by decide), if_neg (by decide)]
  unfold jn_X10_doZero_49
  rw [if_pos (by decide), if_pos (by decide), if_neg (by decide), gB_eta]
theorem io_76 : Io k 76 := fun c sp gn S p hI hp => by
  rw [mb_0 2 3 (sp_X10_jump false (ph k c sp false gn S)) (by decide) (by decide) (by decide) (by decide) (by decide) (dz_76 _), cb_1 (op := 52) (mo := 9) (cy := 3) 76 (by decide) rfl rfl rfl (by decide)]
  exact ins_fin (ins_52 hI)
theorem io_77 : Io k 77 := fun c sp gn S p hI hp => by
  rw [mb_1 2 5 3 (by decide) (by decide) (by decide) (by decide) (by decide) (by decide) rfl, cb_1 (op := 8) (mo := 9) (cy := 4) 77 (by decide) rfl rfl rfl (by decide)]
  exact ins_fin (ins_k2 (hR_of (by decide) (ha_a hI)) (fun _ => rfl) (by decide))
theorem dz_78 (T : gSt) : sp_X10_doTwo 2 3 T = sp_X10_change 2 5 T := by
  unfold sp_X10_doTwo
  rw [if_neg (by decide), if_neg (by decide), if_neg (by decide), if_neg (by decide)]
  unfold jn_X10_doTwo_51
  rw [if_neg (by decide), if_neg (by decide)]
  unfold jn_X10_doTwo_68
  rw [if_neg (by decide), if_neg (by decide), if_neg (by decide), if_pos (by decide), if_neg (by decide), if_neg (by decide)]
  unfold jn_X10_doTwo_162
  rw [if_neg (by decide), gB_eta]
theorem io_78 : Io k 78 := fun c sp gn S p hI hp => by
  rw [mb_2 2 3 (sp_X10_change 2 5 (ph k c sp false gn S)) (by decide) (by decide) (by decide) (by decide) (by decide) (dz_78 _), cb_1 (op := 17) (mo := 9) (cy := 6) 78 (by decide) rfl rfl rfl (by decide)]
  exact ins_fin (ins_cm hc_2 (fun x S => pc_17 9 x S) (ha_a hI) (by decide) (by decide) (by decide) (by decide))
theorem io_79 : Io k 79 := fun c sp gn S p hI hp => by
  rw [mb_3 (by decide) (by decide) (by decide), cb_0 79 (by decide) rfl rfl]
  exact ins_un hI hp
theorem dz_80 (T : gSt) : sp_X10_doZero 2 4 T = sp_X10_branch 2 T := dz_b 2 T
theorem io_80 : Io k 80 := fun c sp gn S p hI hp => by
  rw [mb_0 2 4 (sp_X10_branch 2 (ph k c sp false gn S)) (by decide) (by decide) (by decide) (by decide) (by decide) (dz_80 _), cb_1 (op := 24) (mo := 8) (cy := 2) 80 (by decide) rfl rfl rfl (by decide)]
  exact ins_fin (ins_24 hI)
theorem io_81 : Io k 81 := fun c sp gn S p hI hp => by
  rw [mb_1 2 9 4 (by decide) (by decide) (by decide) (by decide) (by decide) (by decide) rfl, cb_1 (op := 8) (mo := 7) (cy := 5) 81 (by decide) rfl rfl rfl (by decide)]
  exact ins_fin (ins_k2 (hR_of (by decide) (ha_py hI)) (fun _ => rfl) (by decide))
theorem io_82 : Io k 82 := fun c sp gn S p hI hp => by
  rw [(mb_2 2 4 (-1, ph k c sp false gn S) (by decide) (by decide) (by decide) (by decide) (by decide) rfl), show fin p (-1, ph k c sp false gn S) = (2, sI (ph k c sp false gn S) 6 p) from rfl, cb_0 82 (by decide) rfl rfl]
  exact ins_un hI hp
theorem io_83 : Io k 83 := fun c sp gn S p hI hp => by
  rw [mb_3 (by decide) (by decide) (by decide), cb_0 83 (by decide) rfl rfl]
  exact ins_un hI hp
theorem io_84 : Io k 84 := fun c sp gn S p hI hp => by
  rw [(mb_0 2 5 (-1, ph k c sp false gn S) (by decide) (by decide) (by decide) (by decide) (by decide) rfl), show fin p (-1, ph k c sp false gn S) = (2, sI (ph k c sp false gn S) 6 p) from rfl, cb_0 84 (by decide) rfl rfl]
  exact ins_un hI hp
theorem io_85 : Io k 85 := fun c sp gn S p hI hp => by
  rw [mb_1 2 3 5 (by decide) (by decide) (by decide) (by decide) (by decide) (by decide) rfl, cb_1 (op := 8) (mo := 4) (cy := 4) 85 (by decide) rfl rfl rfl (by decide)]
  exact ins_fin (ins_k2 (hR_of (by decide) (ha_zx hI)) (fun _ => rfl) (by decide))
theorem dz_86 (T : gSt) : sp_X10_doTwo 2 5 T = sp_X10_change 2 3 T := by
  unfold sp_X10_doTwo
  rw [if_neg (by decide), if_neg (by decide), if_neg (by decide), if_neg (by decide)]
  unfold jn_X10_doTwo_51
  rw [if_neg (by decide), if_neg (by decide)]
  unfold jn_X10_doTwo_68
  rw [if_neg (by decide), if_neg (by decide), if_neg (by decide), if_neg (by decide), if_pos (by decide), if_pos (by decide), if_neg (by decide), if_neg (by decide)]
  unfold jn_X10_doTwo_162
  rw [if_neg (by decide), gB_eta]
theorem io_86 : Io k 86 := fun c sp gn S p hI hp => by
  rw [mb_2 2 5 (sp_X10_change 2 3 (ph k c sp false gn S)) (by decide) (by decide) (by decide) (by decide) (by decide) (dz_86 _), cb_1 (op := 17) (mo := 4) (cy := 6) 86 (by decide) rfl rfl rfl (by decide)]
  exact ins_fin (ins_cm hc_2 (fun x S => pc_17 4 x S) (ha_zx hI) (by decide) (by decide) (by decide) (by decide))
theorem io_87 : Io k 87 := fun c sp gn S p hI hp => by
  rw [mb_3 (by decide) (by decide) (by decide), cb_0 87 (by decide) rfl rfl]
  exact ins_un hI hp
theorem dz_88 (T : gSt) : sp_X10_doZero 2 6 T = sp_X10_flagged 2 T := dz_f 2 T
theorem io_88 : Io k 88 := fun c sp gn S p hI hp => by
  rw [mb_0 2 6 (sp_X10_flagged 2 (ph k c sp false gn S)) (by decide) (by decide) (by decide) (by decide) (by decide) (dz_88 _), cb_1 (op := 42) (mo := 0) (cy := 2) 88 (by decide) rfl rfl rfl (by decide)]
  exact ins_fin (ins_42 hI)
theorem io_89 : Io k 89 := fun c sp gn S p hI hp => by
  rw [mb_1 2 7 6 (by decide) (by decide) (by decide) (by decide) (by decide) (by decide) rfl, cb_1 (op := 8) (mo := 11) (cy := 4) 89 (by decide) rfl rfl rfl (by decide)]
  exact ins_fin (ins_k2 (hR_of (by decide) (ha_ay hI)) (fun _ => rfl) (by decide))
theorem io_90 : Io k 90 := fun c sp gn S p hI hp => by
  rw [(mb_2 2 6 (-1, ph k c sp false gn S) (by decide) (by decide) (by decide) (by decide) (by decide) rfl), show fin p (-1, ph k c sp false gn S) = (2, sI (ph k c sp false gn S) 6 p) from rfl, cb_0 90 (by decide) rfl rfl]
  exact ins_un hI hp
theorem io_91 : Io k 91 := fun c sp gn S p hI hp => by
  rw [mb_3 (by decide) (by decide) (by decide), cb_0 91 (by decide) rfl rfl]
  exact ins_un hI hp
theorem io_92 : Io k 92 := fun c sp gn S p hI hp => by
  rw [(mb_0 2 7 (-1, ph k c sp false gn S) (by decide) (by decide) (by decide) (by decide) (by decide) rfl), show fin p (-1, ph k c sp false gn S) = (2, sI (ph k c sp false gn S) 6 p) from rfl, cb_0 92 (by decide) rfl rfl]
  exact ins_un hI hp
theorem io_93 : Io k 93 := fun c sp gn S p hI hp => by
  rw [mb_1 2 6 7 (by decide) (by decide) (by decide) (by decide) (by decide) (by decide) rfl, cb_1 (op := 8) (mo := 10) (cy := 4) 93 (by decide) rfl rfl rfl (by decide)]
  exact ins_fin (ins_k2 (hR_of (by decide) (ha_ax hI)) (fun _ => rfl) (by decide))
theorem dz_94 (T : gSt) : sp_X10_doTwo 2 7 T = sp_X10_change 2 6 T := by
  unfold sp_X10_doTwo
  rw [if_neg (by decide), if_neg (by decide), if_neg (by decide), if_neg (by decide)]
  unfold jn_X10_doTwo_51
  rw [if_neg (by decide), if_neg (by decide)]
  unfold jn_X10_doTwo_68
  rw [if_neg (by decide), if_neg (by decide), if_neg (by decide), if_neg (by decide), if_neg (by decide), if_pos (by decide), if_neg (by decide), if_neg (by decide)]
  unfold jn_X10_doTwo_162
  rw [if_neg (by decide), gB_eta]
theorem io_94 : Io k 94 := fun c sp gn S p hI hp => by
  rw [mb_2 2 7 (sp_X10_change 2 6 (ph k c sp false gn S)) (by decide) (by decide) (by decide) (by decide) (by decide) (dz_94 _), cb_1 (op := 17) (mo := 10) (cy := 7) 94 (by decide) rfl rfl rfl (by decide)]
  exact ins_fin (ins_cm hc_2 (fun x S => pc_17 10 x S) (ha_ax hI) (by decide) (by decide) (by decide) (by decide))
theorem io_95 : Io k 95 := fun c sp gn S p hI hp => by
  rw [mb_3 (by decide) (by decide) (by decide), cb_0 95 (by decide) rfl rfl]
  exact ins_un hI hp
theorem dz_96 (T : gSt) : sp_X10_doZero 3 0 T = sp_X10_called 3 T := dz_c 3 T (by decide)
theorem io_96 : Io k 96 := fun c sp gn S p hI hp => by
  rw [mb_0 3 0 (sp_X10_called 3 (ph k c sp false gn S)) (by decide) (by decide) (by decide) (by decide) (by decide) (dz_96 _), cb_1 (op := 54) (mo := 0) (cy := 6) 96 (by decide) rfl rfl rfl (by decide)]
  exact ins_fin (ins_54 hI)
theorem io_97 : Io k 97 := fun c sp gn S p hI hp => by
  rw [mb_1 3 8 0 (by decide) (by decide) (by decide) (by decide) (by decide) (by decide) rfl, cb_1 (op := 4) (mo := 6) (cy := 6) 97 (by decide) rfl rfl rfl (by decide)]
  exact ins_fin (ins_k3 (hR_of (by decide) (ha_px hI)) (fun _ => rfl) (by decide))
theorem io_98 : Io k 98 := fun c sp gn S p hI hp => by
  rw [(mb_2 3 0 (-1, ph k c sp false gn S) (by decide) (by decide) (by decide) (by decide) (by decide) rfl), show fin p (-1, ph k c sp false gn S) = (2, sI (ph k c sp false gn S) 6 p) from rfl, cb_0 98 (by decide) rfl rfl]
  exact ins_un hI hp
theorem io_99 : Io k 99 := fun c sp gn S p hI hp => by
  rw [mb_3 (by decide) (by decide) (by decide), cb_0 99 (by decide) rfl rfl]
  exact ins_un hI hp
theorem io_100 : Io k 100 := fun c sp gn S p hI hp => by
  rw [(mb_0 3 1 (-1, ph k c sp false gn S) (by decide) (by decide) (by decide) (by decide) (by decide) rfl), show fin p (-1, ph k c sp false gn S) = (2, sI (ph k c sp false gn S) 6 p) from rfl, cb_0 100 (by decide) rfl rfl]
  exact ins_un hI hp
theorem io_101 : Io k 101 := fun c sp gn S p hI hp => by
  rw [mb_1 3 2 1 (by decide) (by decide) (by decide) (by decide) (by decide) (by decide) rfl, cb_1 (op := 4) (mo := 3) (cy := 3) 101 (by decide) rfl rfl rfl (by decide)]
  exact ins_fin (ins_k3 (hR_of (by decide) (ha_z hI)) (fun _ => rfl) (by decide))
theorem dz_102 (T : gSt) : sp_X10_doTwo 3 1 T = sp_X10_change 3 2 T := by
  unfold sp_X10_doTwo
  rw [if_neg (by decide), if_neg (by decide), if_neg (by decide), if_neg (by decide)]
  unfold jn_X10_doTwo_51
  rw [if_neg (by decide), if_neg (by decide)]
  unfold jn_X10_doTwo_68
  rw [if_neg (by decide), if_pos (by decide), if_neg (by decide), if_neg (by decide)]
  unfold jn_X10_doTwo_162
  rw [if_neg (by decide), gB_eta]
theorem io_102 : Io k 102 := fun c sp gn S p hI hp => by
  rw [mb_2 3 1 (sp_X10_change 3 2 (ph k c sp false gn S)) (by decide) (by decide) (by decide) (by decide) (by decide) (dz_102 _), cb_1 (op := 19) (mo := 3) (cy := 5) 102 (by decide) rfl rfl rfl (by decide)]
  exact ins_fin (ins_cm hc_3 (fun x S => pc_19 3 x S) (ha_z hI) (by decide) (by decide) (by decide) (by decide))
theorem io_103 : Io k 103 := fun c sp gn S p hI hp => by
  rw [mb_3 (by decide) (by decide) (by decide), cb_0 103 (by decide) rfl rfl]
  exact ins_un hI hp
theorem dz_104 (T : gSt) : sp_X10_doZero 3 2 T = sp_X10_stacked 3 T := dz_s 3 T
theorem io_104 : Io k 104 := fun c sp gn S p hI hp => by
  rw [mb_0 3 2 (sp_X10_stacked 3 (ph k c sp false gn S)) (by decide) (by decide) (by decide) (by decide) (by decide) (dz_104 _), cb_1 (op := 50) (mo := 0) (cy := 4) 104 (by decide) rfl rfl rfl (by decide)]
  exact ins_fin (ins_50 hI)
theorem io_105 : Io k 105 := fun c sp gn S p hI hp => by
  rw [mb_1 3 1 2 (by decide) (by decide) (by decide) (by decide) (by decide) (by decide) rfl, cb_1 (op := 4) (mo := 2) (cy := 2) 105 (by decide) rfl rfl rfl (by decide)]
  exact ins_fin (ins_k3 (hr_i hI) (fun _ => rfl) (by decide))
theorem dz_106 (T : gSt) : sp_X10_doTwo 3 2 T = sp_X10_change 3 0 T := by
  unfold sp_X10_doTwo
  rw [if_neg (by decide), if_neg (by decide), if_neg (by decide), if_pos (by decide), if_pos (by decide)]
  unfold jn_X10_doTwo_51
  rw [if_neg (by decide), if_neg (by decide)]
  unfold jn_X10_doTwo_68
  rw [if_neg (by decide), if_neg (by decide), if_pos (by decide), if_neg (by decide), if_neg (by decide)]
  unfold jn_X10_doTwo_162
  rw [if_neg (by decide), gB_eta]
theorem io_106 : Io k 106 := fun c sp gn S p hI hp => by
  rw [mb_2 3 2 (sp_X10_change 3 0 (ph k c sp false gn S)) (by decide) (by decide) (by decide) (by decide) (by decide) (dz_106 _), cb_1 (op := 19) (mo := 1) (cy := 2) 106 (by decide) rfl rfl rfl (by decide)]
  exact ins_fin (ins_ca hc_3 (fun x S => pc_19 1 x S) hI)
theorem io_107 : Io k 107 := fun c sp gn S p hI hp => by
  rw [mb_3 (by decide) (by decide) (by decide), cb_0 107 (by decide) rfl rfl]
  exact ins_un hI hp
theorem dz_108 (T : gSt) : sp_X10_doZero 3 3 T = sp_X10_jump true T := by
  unfold sp_X10_doZero
  rw [if_neg (by decide), if_neg (by decide), if_neg (by decide), if_neg (by decide)]
  unfold jn_X10_doZero_49
  rw [if_pos (by decide), if_neg (by decide), if_pos (by decide), if_pos (by decide), gB_eta]
theorem io_108 : Io k 108 := fun c sp gn S p hI hp => by
  rw [mb_0 3 3 (sp_X10_jump true (ph k c sp false gn S)) (by decide) (by decide) (by decide) (by decide) (by decide) (dz_108 _), cb_1 (op := 52) (mo := 12) (cy := 5) 108 (by decide) rfl rfl rfl (by decide)]
  exact ins_fin (ins_52i hI)
theorem io_109 : Io k 109 := fun c sp gn S p hI hp => by
  rw [mb_1 3 5 3 (by decide) (by decide) (by decide) (by decide) (by decide) (by decide) rfl, cb_1 (op := 4) (mo := 9) (cy := 4) 109 (by decide) rfl rfl rfl (by decide)]
  exact ins_fin (ins_k3 (hR_of (by decide) (ha_a hI)) (fun _ => rfl) (by decide))
theorem dz_110 (T : gSt) : sp_X10_doTwo 3 3 T = sp_X10_change 3 5 T := by
  unfold sp_X10_doTwo
  rw [if_neg (by decide), if_neg (by decide), if_neg (by decide), if_neg (by decide)]
  unfold jn_X10_doTwo_51
  rw [if_neg (by decide), if_neg (by decide)]
  unfold jn_X10_doTwo_68
  rw [if_neg (by decide), if_neg (by decide), if_neg (by decide), if_pos (by decide), if_neg (by decide), if_neg (by decide)]
  unfold jn_X10_doTwo_162
  rw [if_neg (by decide), gB_eta]
theorem io_110 : Io k 110 := fun c sp gn S p hI hp => by
  rw [mb_2 3 3 (sp_X10_change 3 5 (ph k c sp false gn S)) (by decide) (by decide) (by decide) (by decide) (by decide) (dz_110 _), cb_1 (op := 19) (mo := 9) (cy := 6) 110 (by decide) rfl rfl rfl (by decide)]
  exact ins_fin (ins_cm hc_3 (fun x S => pc_19 9 x S) (ha_a hI) (by decide) (by decide) (by decide) (by decide))
theorem io_111 : Io k 111 := fun c sp gn S p hI hp => by
  rw [mb_3 (by decide) (by decide) (by decide), cb_0 111 (by decide) rfl rfl]
  exact ins_un hI hp
theorem dz_112 (T : gSt) : sp_X10_doZero 3 4 T = sp_X10_branch 3 T := dz_b 3 T
theorem io_112 : Io k 112 := fun c sp gn S p hI hp => by
  rw [mb_0 3 4 (sp_X10_branch 3 (ph k c sp false gn S)) (by decide) (by decide) (by decide) (by decide) (by decide) (dz_112 _), cb_1 (op := 25) (mo := 8) (cy := 2) 112 (by decide) rfl rfl rfl (by decide)]
  exact ins_fin (ins_25 hI)
theorem io_113 : Io k 113 := fun c sp gn S p hI hp => by
  rw [mb_1 3 9 4 (by decide) (by decide) (by decide) (by decide) (by decide) (by decide) rfl, cb_1 (op := 4) (mo := 7) (cy := 5) 113 (by decide) rfl rfl rfl (by decide)]
  exact ins_fin (ins_k3 (hR_of (by decide) (ha_py hI)) (fun _ => rfl) (by decide))
theorem io_114 : Io k 114 := fun c sp gn S p hI hp => by
  rw [(mb_2 3 4 (-1, ph k c sp false gn S) (by decide) (by decide) (by decide) (by decide) (by decide) rfl), show fin p (-1, ph k c sp false gn S) = (2, sI (ph k c sp false gn S) 6 p) from rfl, cb_0 114 (by decide) rfl rfl]
  exact ins_un hI hp
theorem io_115 : Io k 115 := fun c sp gn S p hI hp => by
  rw [mb_3 (by decide) (by decide) (by decide), cb_0 115 (by decide) rfl rfl]
  exact ins_un hI hp
theorem io_116 : Io k 116 := fun c sp gn S p hI hp => by
  rw [(mb_0 3 5 (-1, ph k c sp false gn S) (by decide) (by decide) (by decide) (by decide) (by decide) rfl), show fin p (-1, ph k c sp false gn S) = (2, sI (ph k c sp false gn S) 6 p) from rfl, cb_0 116 (by decide) rfl rfl]
  exact ins_un hI hp
theorem io_117 : Io k 117 := fun c sp gn S p hI hp => by
  rw [mb_1 3 3 5 (by decide) (by decide) (by decide) (by decide) (by decide) (by decide) rfl, cb_1 (op := 4) (mo := 4) (cy := 4) 117 (by decide) rfl rfl rfl (by decide)]
  exact ins_fin (ins_k3 (hR_of (by decide) (ha_zx hI)) (fun _ => rfl) (by decide))
theorem dz_118 (T : gSt) : sp_X10_doTwo 3 5 T = sp_X10_change 3 3 T := by
  unfold sp_X10_doTwo
  rw [if_neg (by decide), if_neg (by decide), if_neg (by decide), if_neg (by decide)]
  unfold jn_X10_doTwo_51
  rw [if_neg (by decide), if_neg (by decide)]
  unfold jn_X10_doTwo_68
  rw [if_neg (by decide), if_neg (by decide), if_neg (by decide), if_neg (by decide), if_pos (by decide), if_pos (by decide), if_neg (by decide), if_neg (by decide)]
  unfold jn_X10_doTwo_162
  rw [if_neg (by decide), gB_eta]
theorem io_118 : Io k 118 := fun c sp gn S p hI hp => by
  rw [mb_2 3 5 (sp_X10_change 3 3 (ph k c sp false gn S)) (by decide) (by decide) (by decide) (by decide) (by decide) (dz_118 _), cb_1 (op := 19) (mo := 4) (cy := 6) 118 (by decide) rfl rfl rfl (by decide)]
  exact ins_fin (ins_cm hc_3 (fun x S => pc_19 4 x S) (ha_zx hI) (by decide) (by decide) (by decide) (by decide))
theorem io_119 : Io k 119 := fun c sp gn S p hI hp => by
  rw [mb_3 (by decide) (by decide) (by decide), cb_0 119 (by decide) rfl rfl]
  exact ins_un hI hp
theorem dz_120 (T : gSt) : sp_X10_doZero 3 6 T = sp_X10_flagged 3 T := dz_f 3 T
theorem io_120 : Io k 120 := fun c sp gn S p hI hp => by
  rw [mb_0 3 6 (sp_X10_flagged 3 (ph k c sp false gn S)) (by decide) (by decide) (by decide) (by decide) (by decide) (dz_120 _), cb_1 (op := 43) (mo := 0) (cy := 2) 120 (by decide) rfl rfl rfl (by decide)]
  exact ins_fin (ins_43 hI)
theorem io_121 : Io k 121 := fun c sp gn S p hI hp => by
  rw [mb_1 3 7 6 (by decide) (by decide) (by decide) (by decide) (by decide) (by decide) rfl, cb_1 (op := 4) (mo := 11) (cy := 4) 121 (by decide) rfl rfl rfl (by decide)]
  exact ins_fin (ins_k3 (hR_of (by decide) (ha_ay hI)) (fun _ => rfl) (by decide))
theorem io_122 : Io k 122 := fun c sp gn S p hI hp => by
  rw [(mb_2 3 6 (-1, ph k c sp false gn S) (by decide) (by decide) (by decide) (by decide) (by decide) rfl), show fin p (-1, ph k c sp false gn S) = (2, sI (ph k c sp false gn S) 6 p) from rfl, cb_0 122 (by decide) rfl rfl]
  exact ins_un hI hp
theorem io_123 : Io k 123 := fun c sp gn S p hI hp => by
  rw [mb_3 (by decide) (by decide) (by decide), cb_0 123 (by decide) rfl rfl]
  exact ins_un hI hp
theorem io_124 : Io k 124 := fun c sp gn S p hI hp => by
  rw [(mb_0 3 7 (-1, ph k c sp false gn S) (by decide) (by decide) (by decide) (by decide) (by decide) rfl), show fin p (-1, ph k c sp false gn S) = (2, sI (ph k c sp false gn S) 6 p) from rfl, cb_0 124 (by decide) rfl rfl]
  exact ins_un hI hp
theorem io_125 : Io k 125 := fun c sp gn S p hI hp => by
  rw [mb_1 3 6 7 (by decide) (by decide) (by decide) (by decide) (by decide) (by decide) rfl, cb_1 (op := 4) (mo := 10) (cy := 4) 125 (by decide) rfl rfl rfl (by decide)]
  exact ins_fin (ins_k3 (hR_of (by decide) (ha_ax hI)) (fun _ => rfl) (by decide))
theorem dz_126 (T : gSt) : sp_X10_doTwo 3 7 T = sp_X10_change 3 6 T := by
  unfold sp_X10_doTwo
  rw [if_neg (by decide), if_neg (by decide), if_neg (by decide), if_neg (by decide)]
  unfold jn_X10_doTwo_51
  rw [if_neg (by decide), if_neg (by decide)]
  unfold jn_X10_doTwo_68
  rw [if_neg (by decide), if_neg (by decide), if_neg (by decide), if_neg (by decide), if_neg (by decide), if_pos (by decide), if_neg (by decide), if_neg (by decide)]
  unfold jn_X10_doTwo_162
  rw [if_neg (by decide), gB_eta]
theorem io_126 : Io k 126 := fun c sp gn S p hI hp => by
  rw [mb_2 3 7 (sp_X10_change 3 6 (ph k c sp false gn S)) (by decide) (by decide) (by decide) (by decide) (by decide) (dz_126 _), cb_1 (op := 19) (mo := 10) (cy := 7) 126 (by decide) rfl rfl rfl (by decide)]
  exact ins_fin (ins_cm hc_3 (fun x S => pc_19 10 x S) (ha_ax hI) (by decide) (by decide) (by decide) (by decide))
theorem io_127 : Io k 127 := fun c sp gn S p hI hp => by
  rw [mb_3 (by decide) (by decide) (by decide), cb_0 127 (by decide) rfl rfl]
  exact ins_un hI hp
theorem io_128 : Io k 128 := fun c sp gn S p hI hp => by
  rw [(mb_0 4 0 (-1, ph k c sp false gn S) (by decide) (by decide) (by decide) (by decide) (by decide) rfl), show fin p (-1, ph k c sp false gn S) = (2, sI (ph k c sp false gn S) 6 p) from rfl, cb_0 128 (by decide) rfl rfl]
  exact ins_un hI hp
theorem io_129 : Io k 129 := fun c sp gn S p hI hp => by
  rw [mb_1 4 8 0 (by decide) (by decide) (by decide) (by decide) (by decide) (by decide) rfl, cb_1 (op := 13) (mo := 6) (cy := 6) 129 (by decide) rfl rfl rfl (by decide)]
  exact ins_fin (ins_k4 (ha_px hI) (fun _ => rfl) (by decide) (by decide))
theorem io_130 : Io k 130 := fun c sp gn S p hI hp => by
  rw [(mb_2 4 0 (-1, ph k c sp false gn S) (by decide) (by decide) (by decide) (by decide) (by decide) rfl), show fin p (-1, ph k c sp false gn S) = (2, sI (ph k c sp false gn S) 6 p) from rfl, cb_0 130 (by decide) rfl rfl]
  exact ins_un hI hp
theorem io_131 : Io k 131 := fun c sp gn S p hI hp => by
  rw [mb_3 (by decide) (by decide) (by decide), cb_0 131 (by decide) rfl rfl]
  exact ins_un hI hp
theorem dz_132 (T : gSt) : sp_X10_doZero 4 1 T = sp_X10_listed 4 2 T := by
  unfold sp_X10_doZero
  rw [if_neg (by decide), if_neg (by decide), if_neg (by decide), if_neg (by decide)]
  unfold jn_X10_doZero_49
  rw [if_neg (by decide)]
  unfold jn_X10_doZero_79
  rw [if_neg (by decide), if_pos (by decide)]
  unfold jn_X10_doZero_106
  rw [if_neg (by decide), if_neg (by decide)]
  unfold jn_X10_doZero_116
  rw [if_neg (by decide), if_pos (by decide), gB_eta]
theorem io_132 : Io k 132 := fun c sp gn S p hI hp => by
  rw [mb_0 4 1 (sp_X10_listed 4 2 (ph k c sp false gn S)) (by decide) (by decide) (by decide) (by decide) (by decide) (dz_132 _), cb_1 (op := 15) (mo := 3) (cy := 3) 132 (by decide) rfl rfl rfl (by decide)]
  exact ins_fin (ins_sty (ha_z hI) (fun _ => rfl) (by decide))
theorem io_133 : Io k 133 := fun c sp gn S p hI hp => by
  rw [mb_1 4 2 1 (by decide) (by decide) (by decide) (by decide) (by decide) (by decide) rfl, cb_1 (op := 13) (mo := 3) (cy := 3) 133 (by decide) rfl rfl rfl (by decide)]
  exact ins_fin (ins_k4 (ha_z hI) (fun _ => rfl) (by decide) (by decide))
theorem dz_134 (T : gSt) : sp_X10_doTwo 4 1 T = jn_X10_doTwo_162 4 2 T := by
  unfold sp_X10_doTwo
  rw [if_pos (by decide)]
  unfold jn_X10_doTwo_10
  rw [if_neg (by decide), if_neg (by decide)]
  unfold jn_X10_doTwo_51
  rw [if_neg (by decide), if_neg (by decide)]
  unfold jn_X10_doTwo_68
  rw [if_neg (by decide), if_pos (by decide), if_neg (by decide), if_pos (by decide), if_neg (by decide)]
theorem io_134 : Io k 134 := fun c sp gn S p hI hp => by
  rw [mb_2 4 1 (jn_X10_doTwo_162 4 2 (ph k c sp false gn S)) (by decide) (by decide) (by decide) (by decide) (by decide) (dz_134 _), cb_1 (op := 14) (mo := 3) (cy := 3) 134 (by decide) rfl rfl rfl (by decide)]
  exact ins_fin (ins_stx (ha_z hI) (fun _ => rfl) (by decide))
theorem io_135 : Io k 135 := fun c sp gn S p hI hp => by
  rw [mb_3 (by decide) (by decide) (by decide), cb_0 135 (by decide) rfl rfl]
  exact ins_un hI hp
theorem dz_136 (T : gSt) : sp_X10_doZero 4 2 T = sp_X10_stacked 4 T := dz_s 4 T
theorem io_136 : Io k 136 := fun c sp gn S p hI hp => by
  rw [mb_0 4 2 (sp_X10_stacked 4 (ph k c sp false gn S)) (by decide) (by decide) (by decide) (by decide) (by decide) (dz_136 _), cb_1 (op := 39) (mo := 0) (cy := 2) 136 (by decide) rfl rfl rfl (by decide)]
  exact ins_fin (ins_39 hI)
theorem io_137 : Io k 137 := fun c sp gn S p hI hp => by
  rw [mb_137, cb_0 137 (by decide) rfl rfl]
  exact ins_un hI hp
theorem dz_138 (T : gSt) : sp_X10_doTwo 4 2 T = sp_X10_moved 4 T := by
  unfold sp_X10_doTwo
  rw [if_pos (by decide)]
  unfold jn_X10_doTwo_10
  rw [if_neg (by decide), if_pos (by decide), if_neg (by decide), gB_eta]
theorem io_138 : Io k 138 := fun c sp gn S p hI hp => by
  rw [mb_2 4 2 (sp_X10_moved 4 (ph k c sp false gn S)) (by decide) (by decide) (by decide) (by decide) (by decide) (dz_138 _), cb_1 (op := 32) (mo := 0) (cy := 2) 138 (by decide) rfl rfl rfl (by decide)]
  exact ins_fin (ins_32 hI)
theorem io_139 : Io k 139 := fun c sp gn S p hI hp => by
  rw [mb_3 (by decide) (by decide) (by decide), cb_0 139 (by decide) rfl rfl]
  exact ins_un hI hp
theorem dz_140 (T : gSt) : sp_X10_doZero 4 3 T = sp_X10_listed 4 5 T := by
  unfold sp_X10_doZero
  rw [if_neg (by decide), if_neg (by decide), if_neg (by decide), if_neg (by decide)]
  unfold jn_X10_doZero_49
  rw [if_pos (by decide), if_neg (by decide), if_neg (by decide)]
  unfold jn_X10_doZero_79
  rw [if_neg (by decide), if_neg (by decide), if_pos (by decide)]
  unfold jn_X10_doZero_106
  rw [if_neg (by decide), if_neg (by decide)]
  unfold jn_X10_doZero_116
  rw [if_neg (by decide), if_neg (by decide), if_pos (by decide), gB_eta]
theorem io_140 : Io k 140 := fun c sp gn S p hI hp => by
  rw [mb_0 4 3 (sp_X10_listed 4 5 (ph k c sp false gn S)) (by decide) (by decide) (by decide) (by decide) (by decide) (dz_140 _), cb_1 (op := 15) (mo := 9) (cy := 4) 140 (by decide) rfl rfl rfl (by decide)]
  exact ins_fin (ins_sty (ha_a hI) (fun _ => rfl) (by decide))
theorem io_141 : Io k 141 := fun c sp gn S p hI hp => by
  rw [mb_1 4 5 3 (by decide) (by decide) (by decide) (by decide) (by decide) (by decide) rfl, cb_1 (op := 13) (mo := 9) (cy := 4) 141 (by decide) rfl rfl rfl (by decide)]
  exact ins_fin (ins_k4 (ha_a hI) (fun _ => rfl) (by decide) (by decide))
theorem dz_142 (T : gSt) : sp_X10_doTwo 4 3 T = jn_X10_doTwo_162 4 5 T := by
  unfold sp_X10_doTwo
  rw [if_pos (by decide)]
  unfold jn_X10_doTwo_10
  rw [if_neg (by decide), if_neg (by decide)]
  unfold jn_X10_doTwo_51
  rw [if_neg (by decide), if_neg (by decide)]
  unfold jn_X10_doTwo_68
  rw [if_neg (by decide), if_neg (by decide), if_neg (by decide), if_pos (by decide), if_neg (by decide), if_pos (by decide), if_neg (by decide)]
theorem io_142 : Io k 142 := fun c sp gn S p hI hp => by
  rw [mb_2 4 3 (jn_X10_doTwo_162 4 5 (ph k c sp false gn S)) (by decide) (by decide) (by decide) (by decide) (by decide) (dz_142 _), cb_1 (op := 14) (mo := 9) (cy := 4) 142 (by decide) rfl rfl rfl (by decide)]
  exact ins_fin (ins_stx (ha_a hI) (fun _ => rfl) (by decide))
theorem io_143 : Io k 143 := fun c sp gn S p hI hp => by
  rw [mb_3 (by decide) (by decide) (by decide), cb_0 143 (by decide) rfl rfl]
  exact ins_un hI hp
theorem dz_144 (T : gSt) : sp_X10_doZero 4 4 T = sp_X10_branch 4 T := dz_b 4 T
theorem io_144 : Io k 144 := fun c sp gn S p hI hp => by
  rw [mb_0 4 4 (sp_X10_branch 4 (ph k c sp false gn S)) (by decide) (by decide) (by decide) (by decide) (by decide) (dz_144 _), cb_1 (op := 26) (mo := 8) (cy := 2) 144 (by decide) rfl rfl rfl (by decide)]
  exact ins_fin (ins_26 hI)
theorem io_145 : Io k 145 := fun c sp gn S p hI hp => by
  rw [mb_1 4 9 4 (by decide) (by decide) (by decide) (by decide) (by decide) (by decide) rfl, cb_1 (op := 13) (mo := 7) (cy := 6) 145 (by decide) rfl rfl rfl (by decide)]
  exact ins_fin (ins_k4 (ha_py hI) (fun _ => rfl) (by decide) (by decide))
theorem io_146 : Io k 146 := fun c sp gn S p hI hp => by
  rw [(mb_2 4 4 (-1, ph k c sp false gn S) (by decide) (by decide) (by decide) (by decide) (by decide) rfl), show fin p (-1, ph k c sp false gn S) = (2, sI (ph k c sp false gn S) 6 p) from rfl, cb_0 146 (by decide) rfl rfl]
  exact ins_un hI hp
theorem io_147 : Io k 147 := fun c sp gn S p hI hp => by
  rw [mb_3 (by decide) (by decide) (by decide), cb_0 147 (by decide) rfl rfl]
  exact ins_un hI hp
theorem dz_148 (T : gSt) : sp_X10_doZero 4 5 T = sp_X10_listed 4 3 T := by
  unfold sp_X10_doZero
  rw [if_neg (by decide), if_neg (by decide), if_neg (by decide), if_neg (by decide)]
  unfold jn_X10_doZero_49
  rw [if_neg (by decide)]
  unfold jn_X10_doZero_79
  rw [if_neg (by decide), if_neg (by decide), if_neg (by decide), if_pos (by decide), if_pos (by decide)]
  unfold jn_X10_doZero_139
  rw [if_neg (by decide), if_neg (by decide), if_neg (by decide), if_pos (by decide), gB_eta]
theorem io_148 : Io k 148 := fun c sp gn S p hI hp => by
  rw [mb_0 4 5 (sp_X10_listed 4 3 (ph k c sp false gn S)) (by decide) (by decide) (by decide) (by decide) (by decide) (dz_148 _), cb_1 (op := 15) (mo := 4) (cy := 4) 148 (by decide) rfl rfl rfl (by decide)]
  exact ins_fin (ins_sty (ha_zx hI) (fun _ => rfl) (by decide))
theorem io_149 : Io k 149 := fun c sp gn S p hI hp => by
  rw [mb_1 4 3 5 (by decide) (by decide) (by decide) (by decide) (by decide) (by decide) rfl, cb_1 (op := 13) (mo := 4) (cy := 4) 149 (by decide) rfl rfl rfl (by decide)]
  exact ins_fin (ins_k4 (ha_zx hI) (fun _ => rfl) (by decide) (by decide))
theorem dz_150 (T : gSt) : sp_X10_doTwo 4 5 T = jn_X10_doTwo_162 4 4 T := by
  unfold sp_X10_doTwo
  rw [if_pos (by decide)]
  unfold jn_X10_doTwo_10
  rw [if_neg (by decide), if_neg (by decide)]
  unfold jn_X10_doTwo_51
  rw [if_neg (by decide), if_neg (by decide)]
  unfold jn_X10_doTwo_68
  rw [if_neg (by decide), if_neg (by decide), if_neg (by decide), if_neg (by decide), if_pos (by decide), if_neg (by decide), if_neg (by decide), if_pos (by decide), if_neg (by decide)]
theorem io_150 : Io k 150 := fun c sp gn S p hI hp => by
  rw [mb_2 4 5 (jn_X10_doTwo_162 4 4 (ph k c sp false gn S)) (by decide) (by decide) (by decide) (by decide) (by decide) (dz_150 _), cb_1 (op := 14) (mo := 5) (cy := 4) 150 (by decide) rfl rfl rfl (by decide)]
  exact ins_fin (ins_stx (ha_zy hI) (fun _ => rfl) (by decide))
theorem io_151 : Io k 151 := fun c sp gn S p hI hp => by
  rw [mb_3 (by decide) (by decide) (by decide), cb_0 151 (by decide) rfl rfl]
  exact ins_un hI hp
theorem dz_152 (T : gSt) : sp_X10_doZero 4 6 T = sp_X10_flagged 4 T := dz_f 4 T
theorem io_152 : Io k 152 := fun c sp gn S p hI hp => by
  rw [mb_0 4 6 (sp_X10_flagged 4 (ph k c sp false gn S)) (by decide) (by decide) (by decide) (by decide) (by decide) (dz_152 _), cb_1 (op := 33) (mo := 0) (cy := 2) 152 (by decide) rfl rfl rfl (by decide)]
  exact ins_fin (ins_33 hI)
theorem io_153 : Io k 153 := fun c sp gn S p hI hp => by
  rw [mb_1 4 7 6 (by decide) (by decide) (by decide) (by decide) (by decide) (by decide) rfl, cb_1 (op := 13) (mo := 11) (cy := 5) 153 (by decide) rfl rfl rfl (by decide)]
  exact ins_fin (ins_k4 (ha_ay hI) (fun _ => rfl) (by decide) (by decide))
theorem dz_154 (T : gSt) : sp_X10_doTwo 4 6 T = sp_X10_stackPointer 4 T := by
  unfold sp_X10_doTwo
  rw [if_pos (by decide)]
  unfold jn_X10_doTwo_10
  rw [if_neg (by decide), if_neg (by decide)]
  unfold jn_X10_doTwo_51
  rw [if_neg (by decide), if_pos (by decide), if_neg (by decide)]
  unfold jn_X10_doTwo_68
  rw [if_pos (by decide), gB_eta]
theorem io_154 : Io k 154 := fun c sp gn S p hI hp => by
  rw [mb_2 4 6 (sp_X10_stackPointer 4 (ph k c sp false gn S)) (by decide) (by decide) (by decide) (by decide) (by decide) (dz_154 _), cb_1 (op := 35) (mo := 0) (cy := 2) 154 (by decide) rfl rfl rfl (by decide)]
  exact ins_fin (ins_35 hI)
theorem io_155 : Io k 155 := fun c sp gn S p hI hp => by
  rw [mb_3 (by decide) (by decide) (by decide), cb_0 155 (by decide) rfl rfl]
  exact ins_un hI hp
theorem io_156 : Io k 156 := fun c sp gn S p hI hp => by
  rw [(mb_0 4 7 (-1, ph k c sp false gn S) (by decide) (by decide) (by decide) (by decide) (by decide) rfl), show fin p (-1, ph k c sp false gn S) = (2, sI (ph k c sp false gn S) 6 p) from rfl, cb_0 156 (by decide) rfl rfl]
  exact ins_un hI hp
theorem io_157 : Io k 157 := fun c sp gn S p hI hp => by
  rw [mb_1 4 6 7 (by decide) (by decide) (by decide) (by decide) (by decide) (by decide) rfl, cb_1 (op := 13) (mo := 10) (cy := 5) 157 (by decide) rfl rfl rfl (by decide)]
  exact ins_fin (ins_k4 (ha_ax hI) (fun _ => rfl) (by decide) (by decide))
theorem io_158 : Io k 158 := fun c sp gn S p hI hp => by
  rw [(mb_2 4 7 (-1, ph k c sp false gn S) (by decide) (by decide) (by decide) (by decide) (by decide) rfl), show fin p (-1, ph k c sp false gn S) = (2, sI (ph k c sp false gn S) 6 p) from rfl, cb_0 158 (by decide) rfl rfl]
  exact ins_un hI hp
theorem io_159 : Io k 159 := fun c sp gn S p hI hp => by
  rw [mb_3 (by decide) (by decide) (by decide), cb_0 159 (by decide) rfl rfl]
  exact ins_un hI hp
theorem dz_160 (T : gSt) : sp_X10_doZero 5 0 T = sp_X10_listed 5 1 T := by
  unfold sp_X10_doZero
  rw [if_neg (by decide), if_neg (by decide), if_neg (by decide), if_pos (by decide), if_pos (by decide)]
  unfold jn_X10_doZero_49
  rw [if_neg (by decide)]
  unfold jn_X10_doZero_79
  rw [if_pos (by decide), if_neg (by decide), if_pos (by decide), gB_eta]
theorem io_160 : Io k 160 := fun c sp gn S p hI hp => by
  rw [mb_0 5 0 (sp_X10_listed 5 1 (ph k c sp false gn S)) (by decide) (by decide) (by decide) (by decide) (by decide) (dz_160 _), cb_1 (op := 3) (mo := 2) (cy := 2) 160 (by decide) rfl rfl rfl (by decide)]
  exact ins_fin (ins_ldy (hr_i hI) (fun _ => rfl) (by decide))
theorem io_161 : Io k 161 := fun c sp gn S p hI hp => by
  rw [mb_1 5 8 0 (by decide) (by decide) (by decide) (by decide) (by decide) (by decide) rfl, cb_1 (op := 1) (mo := 6) (cy := 6) 161 (by decide) rfl rfl rfl (by decide)]
  exact ins_fin (ins_k5 (hR_of (by decide) (ha_px hI)) (fun _ => rfl) (by decide))
theorem dz_162 (T : gSt) : sp_X10_doTwo 5 0 T = sp_X10_loadX 1 T := by
  unfold sp_X10_doTwo
  rw [if_neg (by decide), if_pos (by decide)]
  unfold jn_X10_doTwo_10
  rw [if_pos (by decide), if_pos (by decide), gB_eta]
theorem io_162 : Io k 162 := fun c sp gn S p hI hp => by
  rw [mb_2 5 0 (sp_X10_loadX 1 (ph k c sp false gn S)) (by decide) (by decide) (by decide) (by decide) (by decide) (dz_162 _), cb_1 (op := 2) (mo := 2) (cy := 2) 162 (by decide) rfl rfl rfl (by decide)]
  exact ins_fin (ins_ldx (hr_i hI) (fun _ => rfl) (by decide))
theorem io_163 : Io k 163 := fun c sp gn S p hI hp => by
  rw [mb_3 (by decide) (by decide) (by decide), cb_0 163 (by decide) rfl rfl]
  exact ins_un hI hp
theorem dz_164 (T : gSt) : sp_X10_doZero 5 1 T = sp_X10_listed 5 2 T := by
  unfold sp_X10_doZero
  rw [if_neg (by decide), if_neg (by decide), if_neg (by decide), if_neg (by decide)]
  unfold jn_X10_doZero_49
  rw [if_neg (by decide)]
  unfold jn_X10_doZero_79
  rw [if_neg (by decide), if_pos (by decide)]
  unfold jn_X10_doZero_106
  rw [if_neg (by decide), if_neg (by decide)]
  unfold jn_X10_doZero_116
  rw [if_neg (by decide), if_pos (by decide), gB_eta]
theorem io_164 : Io k 164 := fun c sp gn S p hI hp => by
  rw [mb_0 5 1 (sp_X10_listed 5 2 (ph k c sp false gn S)) (by decide) (by decide) (by decide) (by decide) (by decide) (dz_164 _), cb_1 (op := 3) (mo := 3) (cy := 3) 164 (by decide) rfl rfl rfl (by decide)]
  exact ins_fin (ins_ldy (hR_of (by decide) (ha_z hI)) (fun _ => rfl) (by decide))
theorem io_165 : Io k 165 := fun c sp gn S p hI hp => by
  rw [mb_1 5 2 1 (by decide) (by decide) (by decide) (by decide) (by decide) (by decide) rfl, cb_1 (op := 1) (mo := 3) (cy := 3) 165 (by decide) rfl rfl rfl (by decide)]
  exact ins_fin (ins_k5 (hR_of (by decide) (ha_z hI)) (fun _ => rfl) (by decide))
theorem dz_166 (T : gSt) : sp_X10_doTwo 5 1 T = sp_X10_loadX 2 T := by
  unfold sp_X10_doTwo
  rw [if_neg (by decide), if_pos (by decide)]
  unfold jn_X10_doTwo_10
  rw [if_neg (by decide), if_neg (by decide)]
  unfold jn_X10_doTwo_51
  rw [if_neg (by decide), if_neg (by decide)]
  unfold jn_X10_doTwo_68
  rw [if_neg (by decide), if_pos (by decide), if_pos (by decide), gB_eta]
theorem io_166 : Io k 166 := fun c sp gn S p hI hp => by
  rw [mb_2 5 1 (sp_X10_loadX 2 (ph k c sp false gn S)) (by decide) (by decide) (by decide) (by decide) (by decide) (dz_166 _), cb_1 (op := 2) (mo := 3) (cy := 3) 166 (by decide) rfl rfl rfl (by decide)]
  exact ins_fin (ins_ldx (hR_of (by decide) (ha_z hI)) (fun _ => rfl) (by decide))
theorem io_167 : Io k 167 := fun c sp gn S p hI hp => by
  rw [mb_3 (by decide) (by decide) (by decide), cb_0 167 (by decide) rfl rfl]
  exact ins_un hI hp
theorem dz_168 (T : gSt) : sp_X10_doZero 5 2 T = sp_X10_stacked 5 T := dz_s 5 T
theorem io_168 : Io k 168 := fun c sp gn S p hI hp => by
  rw [mb_0 5 2 (sp_X10_stacked 5 (ph k c sp false gn S)) (by decide) (by decide) (by decide) (by decide) (by decide) (dz_168 _), cb_1 (op := 31) (mo := 0) (cy := 2) 168 (by decide) rfl rfl rfl (by decide)]
  exact ins_fin (ins_31 hI)
theorem io_169 : Io k 169 := fun c sp gn S p hI hp => by
  rw [mb_1 5 1 2 (by decide) (by decide) (by decide) (by decide) (by decide) (by decide) rfl, cb_1 (op := 1) (mo := 2) (cy := 2) 169 (by decide) rfl rfl rfl (by decide)]
  exact ins_fin (ins_k5 (hr_i hI) (fun _ => rfl) (by decide))
theorem dz_170 (T : gSt) : sp_X10_doTwo 5 2 T = sp_X10_moved 5 T := by
  unfold sp_X10_doTwo
  rw [if_neg (by decide), if_pos (by decide)]
  unfold jn_X10_doTwo_10
  rw [if_neg (by decide), if_pos (by decide), if_neg (by decide), gB_eta]
theorem io_170 : Io k 170 := fun c sp gn S p hI hp => by
  rw [mb_2 5 2 (sp_X10_moved 5 (ph k c sp false gn S)) (by decide) (by decide) (by decide) (by decide) (by decide) (dz_170 _), cb_1 (op := 30) (mo := 0) (cy := 2) 170 (by decide) rfl rfl rfl (by decide)]
  exact ins_fin (ins_30 hI)
theorem io_171 : Io k 171 := fun c sp gn S p hI hp => by
  rw [mb_3 (by decide) (by decide) (by decide), cb_0 171 (by decide) rfl rfl]
  exact ins_un hI hp
theorem dz_172 (T : gSt) : sp_X10_doZero 5 3 T = sp_X10_listed 5 5 T := by
  unfold sp_X10_doZero
  rw [if_neg (by decide), if_neg (by decide), if_neg (by decide), if_neg (by decide)]
  unfold jn_X10_doZero_49
  rw [if_pos (by decide), if_neg (by decide), if_neg (by decide)]
  unfold jn_X10_doZero_79
  rw [if_neg (by decide), if_neg (by decide), if_pos (by decide)]
  unfold jn_X10_doZero_106
  rw [if_neg (by decide), if_neg (by decide)]
  unfold jn_X10_doZero_116
  rw [if_neg (by decide), if_neg (by decide), if_pos (by decide), gB_eta]
theorem io_172 : Io k 172 := fun c sp gn S p hI hp => by
  rw [mb_0 5 3 (sp_X10_listed 5 5 (ph k c sp false gn S)) (by decide) (by decide) (by decide) (by decide) (by decide) (dz_172 _), cb_1 (op := 3) (mo := 9) (cy := 4) 172 (by decide) rfl rfl rfl (by decide)]
  exact ins_fin (ins_ldy (hR_of (by decide) (ha_a hI)) (fun _ => rfl) (by decide))
theorem io_173 : Io k 173 := fun c sp gn S p hI hp => by
  rw [mb_1 5 5 3 (by decide) (by decide) (by decide) (by decide) (by decide) (by decide) rfl, cb_1 (op := 1) (mo := 9) (cy := 4) 173 (by decide) rfl rfl rfl (by decide)]
  exact ins_fin (ins_k5 (hR_of (by decide) (ha_a hI)) (fun _ => rfl) (by decide))
theorem dz_174 (T : gSt) : sp_X10_doTwo 5 3 T = sp_X10_loadX 5 T := by
  unfold sp_X10_doTwo
  rw [if_neg (by decide), if_pos (by decide)]
  unfold jn_X10_doTwo_10
  rw [if_neg (by decide), if_neg (by decide)]
  unfold jn_X10_doTwo_51
  rw [if_neg (by decide), if_neg (by decide)]
  unfold jn_X10_doTwo_68
  rw [if_neg (by decide), if_neg (by decide), if_neg (by decide), if_pos (by decide), if_pos (by decide), gB_eta]
theorem io_174 : Io k 174 := fun c sp gn S p hI hp => by
  rw [mb_2 5 3 (sp_X10_loadX 5 (ph k c sp false gn S)) (by decide) (by decide) (by decide) (by decide) (by decide) (dz_174 _), cb_1 (op := 2) (mo := 9) (cy := 4) 174 (by decide) rfl rfl rfl (by decide)]
  exact ins_fin (ins_ldx (hR_of (by decide) (ha_a hI)) (fun _ => rfl) (by decide))
theorem io_175 : Io k 175 := fun c sp gn S p hI hp => by
  rw [mb_3 (by decide) (by decide) (by decide), cb_0 175 (by decide) rfl rfl]
  exact ins_un hI hp
theorem dz_176 (T : gSt) : sp_X10_doZero 5 4 T = sp_X10_branch 5 T := dz_b 5 T
theorem io_176 : Io k 176 := fun c sp gn S p hI hp => by
  rw [mb_0 5 4 (sp_X10_branch 5 (ph k c sp false gn S)) (by decide) (by decide) (by decide) (by decide) (by decide) (dz_176 _), cb_1 (op := 27) (mo := 8) (cy := 2) 176 (by decide) rfl rfl rfl (by decide)]
  exact ins_fin (ins_27 hI)
theorem io_177 : Io k 177 := fun c sp gn S p hI hp => by
  rw [mb_1 5 9 4 (by decide) (by decide) (by decide) (by decide) (by decide) (by decide) rfl, cb_1 (op := 1) (mo := 7) (cy := 5) 177 (by decide) rfl rfl rfl (by decide)]
  exact ins_fin (ins_k5 (hR_of (by decide) (ha_py hI)) (fun _ => rfl) (by decide))
theorem io_178 : Io k 178 := fun c sp gn S p hI hp => by
  rw [(mb_2 5 4 (-1, ph k c sp false gn S) (by decide) (by decide) (by decide) (by decide) (by decide) rfl), show fin p (-1, ph k c sp false gn S) = (2, sI (ph k c sp false gn S) 6 p) from rfl, cb_0 178 (by decide) rfl rfl]
  exact ins_un hI hp
theorem io_179 : Io k 179 := fun c sp gn S p hI hp => by
  rw [mb_3 (by decide) (by decide) (by decide), cb_0 179 (by decide) rfl rfl]
  exact ins_un hI hp
theorem dz_180 (T : gSt) : sp_X10_doZero 5 5 T = sp_X10_listed 5 3 T := by
  unfold sp_X10_doZero
  rw [if_neg (by decide), if_neg (by decide), if_neg (by decide), if_neg (by decide)]
  unfold jn_X10_doZero_49
  rw [if_neg (by decide)]
  unfold jn_X10_doZero_79
  rw [if_neg (by decide), if_neg (by decide), if_neg (by decide), if_pos (by decide), if_neg (by decide), if_pos (by decide)]
  unfold jn_X10_doZero_139
  rw [if_neg (by decide), if_neg (by decide), if_neg (by decide), if_pos (by decide), gB_eta]
theorem io_180 : Io k 180 := fun c sp gn S p hI hp => by
  rw [mb_0 5 5 (sp_X10_listed 5 3 (ph k c sp false gn S)) (by decide) (by decide) (by decide) (by decide) (by decide) (dz_180 _), cb_1 (op := 3) (mo := 4) (cy := 4) 180 (by decide) rfl rfl rfl (by decide)]
  exact ins_fin (ins_ldy (hR_of (by decide) (ha_zx hI)) (fun _ => rfl) (by decide))
theorem io_181 : Io k 181 := fun c sp gn S p hI hp => by
  rw [mb_1 5 3 5 (by decide) (by decide) (by decide) (by decide) (by decide) (by decide) rfl, cb_1 (op := 1) (mo := 4) (cy := 4) 181 (by decide) rfl rfl rfl (by decide)]
  exact ins_fin (ins_k5 (hR_of (by decide) (ha_zx hI)) (fun _ => rfl) (by decide))
theorem dz_182 (T : gSt) : sp_X10_doTwo 5 5 T = sp_X10_loadX 4 T := by
  unfold sp_X10_doTwo
  rw [if_neg (by decide), if_pos (by decide)]
  unfold jn_X10_doTwo_10
  rw [if_neg (by decide), if_neg (by decide)]
  unfold jn_X10_doTwo_51
  rw [if_neg (by decide), if_neg (by decide)]
  unfold jn_X10_doTwo_68
  rw [if_neg (by decide), if_neg (by decide), if_neg (by decide), if_neg (by decide), if_pos (by decide), if_neg (by decide), if_pos (by decide), gB_eta]
theorem io_182 : Io k 182 := fun c sp gn S p hI hp => by
  rw [mb_2 5 5 (sp_X10_loadX 4 (ph k c sp false gn S)) (by decide) (by decide) (by decide) (by decide) (by decide) (dz_182 _), cb_1 (op := 2) (mo := 5) (cy := 4) 182 (by decide) rfl rfl rfl (by decide)]
  exact ins_fin (ins_ldx (hR_of (by decide) (ha_zy hI)) (fun _ => rfl) (by decide))
theorem io_183 : Io k 183 := fun c sp gn S p hI hp => by
  rw [mb_3 (by decide) (by decide) (by decide), cb_0 183 (by decide) rfl rfl]
  exact ins_un hI hp
theorem dz_184 (T : gSt) : sp_X10_doZero 5 6 T = sp_X10_flagged 5 T := dz_f 5 T
theorem io_184 : Io k 184 := fun c sp gn S p hI hp => by
  rw [mb_0 5 6 (sp_X10_flagged 5 (ph k c sp false gn S)) (by decide) (by decide) (by decide) (by decide) (by decide) (dz_184 _), cb_1 (op := 44) (mo := 0) (cy := 2) 184 (by decide) rfl rfl rfl (by decide)]
  exact ins_fin (ins_44 hI)
theorem io_185 : Io k 185 := fun c sp gn S p hI hp => by
  rw [mb_1 5 7 6 (by decide) (by decide) (by decide) (by decide) (by decide) (by decide) rfl, cb_1 (op := 1) (mo := 11) (cy := 4) 185 (by decide) rfl rfl rfl (by decide)]
  exact ins_fin (ins_k5 (hR_of (by decide) (ha_ay hI)) (fun _ => rfl) (by decide))
theorem dz_186 (T : gSt) : sp_X10_doTwo 5 6 T = sp_X10_stackPointer 5 T := by
  unfold sp_X10_doTwo
  rw [if_neg (by decide), if_pos (by decide)]
  unfold jn_X10_doTwo_10
  rw [if_neg (by decide), if_neg (by decide)]
  unfold jn_X10_doTwo_51
  rw [if_neg (by decide), if_pos (by decide), if_neg (by decide)]
  unfold jn_X10_doTwo_68
  rw [if_pos (by decide), gB_eta]
theorem io_186 : Io k 186 := fun c sp gn S p hI hp => by
  rw [mb_2 5 6 (sp_X10_stackPointer 5 (ph k c sp false gn S)) (by decide) (by decide) (by decide) (by decide) (by decide) (dz_186 _), cb_1 (op := 34) (mo := 0) (cy := 2) 186 (by decide) rfl rfl rfl (by decide)]
  exact ins_fin (ins_34 hI)
theorem io_187 : Io k 187 := fun c sp gn S p hI hp => by
  rw [mb_3 (by decide) (by decide) (by decide), cb_0 187 (by decide) rfl rfl]
  exact ins_un hI hp
theorem dz_188 (T : gSt) : sp_X10_doZero 5 7 T = sp_X10_listed 5 6 T := by
  unfold sp_X10_doZero
  rw [if_neg (by decide), if_neg (by decide), if_neg (by decide), if_neg (by decide)]
  unfold jn_X10_doZero_49
  rw [if_neg (by decide)]
  unfold jn_X10_doZero_79
  rw [if_neg (by decide), if_neg (by decide), if_neg (by decide), if_neg (by decide), if_pos (by decide), if_neg (by decide), if_neg (by decide), if_neg (by decide), if_neg (by decide), gB_eta]
theorem io_188 : Io k 188 := fun c sp gn S p hI hp => by
  rw [mb_0 5 7 (sp_X10_listed 5 6 (ph k c sp false gn S)) (by decide) (by decide) (by decide) (by decide) (by decide) (dz_188 _), cb_1 (op := 3) (mo := 10) (cy := 4) 188 (by decide) rfl rfl rfl (by decide)]
  exact ins_fin (ins_ldy (hR_of (by decide) (ha_ax hI)) (fun _ => rfl) (by decide))
theorem io_189 : Io k 189 := fun c sp gn S p hI hp => by
  rw [mb_1 5 6 7 (by decide) (by decide) (by decide) (by decide) (by decide) (by decide) rfl, cb_1 (op := 1) (mo := 10) (cy := 4) 189 (by decide) rfl rfl rfl (by decide)]
  exact ins_fin (ins_k5 (hR_of (by decide) (ha_ax hI)) (fun _ => rfl) (by decide))
theorem dz_190 (T : gSt) : sp_X10_doTwo 5 7 T = sp_X10_loadX 7 T := by
  unfold sp_X10_doTwo
  rw [if_neg (by decide), if_pos (by decide)]
  unfold jn_X10_doTwo_10
  rw [if_neg (by decide), if_neg (by decide)]
  unfold jn_X10_doTwo_51
  rw [if_neg (by decide), if_neg (by decide)]
  unfold jn_X10_doTwo_68
  rw [if_neg (by decide), if_neg (by decide), if_neg (by decide), if_neg (by decide), if_neg (by decide), if_neg (by decide), if_pos (by decide), gB_eta]
theorem io_190 : Io k 190 := fun c sp gn S p hI hp => by
  rw [mb_2 5 7 (sp_X10_loadX 7 (ph k c sp false gn S)) (by decide) (by decide) (by decide) (by decide) (by decide) (dz_190 _), cb_1 (op := 2) (mo := 11) (cy := 4) 190 (by decide) rfl rfl rfl (by decide)]
  exact ins_fin (ins_ldx (hR_of (by decide) (ha_ay hI)) (fun _ => rfl) (by decide))
theorem io_191 : Io k 191 := fun c sp gn S p hI hp => by
  rw [mb_3 (by decide) (by decide) (by decide), cb_0 191 (by decide) rfl rfl]
  exact ins_un hI hp
theorem dz_192 (T : gSt) : sp_X10_doZero 6 0 T = sp_X10_listed 6 1 T := by
  unfold sp_X10_doZero
  rw [if_neg (by decide), if_neg (by decide), if_neg (by decide), if_pos (by decide), if_pos (by decide)]
  unfold jn_X10_doZero_49
  rw [if_neg (by decide)]
  unfold jn_X10_doZero_79
  rw [if_pos (by decide), if_neg (by decide), if_pos (by decide), gB_eta]
theorem io_192 : Io k 192 := fun c sp gn S p hI hp => by
  rw [mb_0 6 0 (sp_X10_listed 6 1 (ph k c sp false gn S)) (by decide) (by decide) (by decide) (by decide) (by decide) (dz_192 _), cb_1 (op := 11) (mo := 2) (cy := 2) 192 (by decide) rfl rfl rfl (by decide)]
  exact ins_fin (ins_cpy (hr_i hI) (fun _ => rfl) (by decide))
theorem io_193 : Io k 193 := fun c sp gn S p hI hp => by
  rw [mb_1 6 8 0 (by decide) (by decide) (by decide) (by decide) (by decide) (by decide) rfl, cb_1 (op := 9) (mo := 6) (cy := 6) 193 (by decide) rfl rfl rfl (by decide)]
  exact ins_fin (ins_k6 (hR_of (by decide) (ha_px hI)) (fun _ => rfl) (by decide))
theorem io_194 : Io k 194 := fun c sp gn S p hI hp => by
  rw [(mb_2 6 0 (-1, ph k c sp false gn S) (by decide) (by decide) (by decide) (by decide) (by decide) rfl), show fin p (-1, ph k c sp false gn S) = (2, sI (ph k c sp false gn S) 6 p) from rfl, cb_0 194 (by decide) rfl rfl]
  exact ins_un hI hp
theorem io_195 : Io k 195 := fun c sp gn S p hI hp => by
  rw [mb_3 (by decide) (by decide) (by decide), cb_0 195 (by decide) rfl rfl]
  exact ins_un hI hp
theorem dz_196 (T : gSt) : sp_X10_doZero 6 1 T = sp_X10_listed 6 2 T := by
  unfold sp_X10_doZero
  rw [if_neg (by decide), if_neg (by decide), if_neg (by decide), if_neg (by decide)]
  unfold jn_X10_doZero_49
  rw [if_neg (by decide)]
  unfold jn_X10_doZero_79
  rw [if_neg (by decide), if_pos (by decide)]
  unfold jn_X10_doZero_106
  rw [if_neg (by decide), if_neg (by decide)]
  unfold jn_X10_doZero_116
  rw [if_neg (by decide), if_pos (by decide), gB_eta]
theorem io_196 : Io k 196 := fun c sp gn S p hI hp => by
  rw [mb_0 6 1 (sp_X10_listed 6 2 (ph k c sp false gn S)) (by decide) (by decide) (by decide) (by decide) (by decide) (dz_196 _), cb_1 (op := 11) (mo := 3) (cy := 3) 196 (by decide) rfl rfl rfl (by decide)]
  exact ins_fin (ins_cpy (hR_of (by decide) (ha_z hI)) (fun _ => rfl) (by decide))
theorem io_197 : Io k 197 := fun c sp gn S p hI hp => by
  rw [mb_1 6 2 1 (by decide) (by decide) (by decide) (by decide) (by decide) (by decide) rfl, cb_1 (op := 9) (mo := 3) (cy := 3) 197 (by decide) rfl rfl rfl (by decide)]
  exact ins_fin (ins_k6 (hR_of (by decide) (ha_z hI)) (fun _ => rfl) (by decide))
theorem dz_198 (T : gSt) : sp_X10_doTwo 6 1 T = sp_X10_change 6 2 T := by
  unfold sp_X10_doTwo
  rw [if_neg (by decide), if_neg (by decide), if_neg (by decide), if_neg (by decide)]
  unfold jn_X10_doTwo_51
  rw [if_neg (by decide), if_neg (by decide)]
  unfold jn_X10_doTwo_68
  rw [if_neg (by decide), if_pos (by decide), if_neg (by decide), if_neg (by decide)]
  unfold jn_X10_doTwo_162
  rw [if_neg (by decide), gB_eta]
theorem io_198 : Io k 198 := fun c sp gn S p hI hp => by
  rw [mb_2 6 1 (sp_X10_change 6 2 (ph k c sp false gn S)) (by decide) (by decide) (by decide) (by decide) (by decide) (dz_198 _), cb_1 (op := 21) (mo := 3) (cy := 5) 198 (by decide) rfl rfl rfl (by decide)]
  exact ins_fin (ins_cm hc_6 (fun x S => pc_21 3 x S) (ha_z hI) (by decide) (by decide) (by decide) (by decide))
theorem io_199 : Io k 199 := fun c sp gn S p hI hp => by
  rw [mb_3 (by decide) (by decide) (by decide), cb_0 199 (by decide) rfl rfl]
  exact ins_un hI hp
theorem dz_200 (T : gSt) : sp_X10_doZero 6 2 T = sp_X10_stacked 6 T := dz_s 6 T
theorem io_200 : Io k 200 := fun c sp gn S p hI hp => by
  rw [mb_0 6 2 (sp_X10_stacked 6 (ph k c sp false gn S)) (by decide) (by decide) (by decide) (by decide) (by decide) (dz_200 _), cb_1 (op := 37) (mo := 0) (cy := 2) 200 (by decide) rfl rfl rfl (by decide)]
  exact ins_fin (ins_37 hI)
theorem io_201 : Io k 201 := fun c sp gn S p hI hp => by
  rw [mb_1 6 1 2 (by decide) (by decide) (by decide) (by decide) (by decide) (by decide) rfl, cb_1 (op := 9) (mo := 2) (cy := 2) 201 (by decide) rfl rfl rfl (by decide)]
  exact ins_fin (ins_k6 (hr_i hI) (fun _ => rfl) (by decide))
theorem dz_202 (T : gSt) : sp_X10_doTwo 6 2 T = sp_X10_moved 6 T := by
  unfold sp_X10_doTwo
  rw [if_neg (by decide), if_neg (by decide), if_neg (by decide), if_pos (by decide), if_neg (by decide), gB_eta]
theorem io_202 : Io k 202 := fun c sp gn S p hI hp => by
  rw [mb_2 6 2 (sp_X10_moved 6 (ph k c sp false gn S)) (by decide) (by decide) (by decide) (by decide) (by decide) (dz_202 _), cb_1 (op := 38) (mo := 0) (cy := 2) 202 (by decide) rfl rfl rfl (by decide)]
  exact ins_fin (ins_38 hI)
theorem io_203 : Io k 203 := fun c sp gn S p hI hp => by
  rw [mb_3 (by decide) (by decide) (by decide), cb_0 203 (by decide) rfl rfl]
  exact ins_un hI hp
theorem dz_204 (T : gSt) : sp_X10_doZero 6 3 T = sp_X10_listed 6 5 T := by
  unfold sp_X10_doZero
  rw [if_neg (by decide), if_neg (by decide), if_neg (by decide), if_neg (by decide)]
  unfold jn_X10_doZero_49
  rw [if_pos (by decide), if_neg (by decide), if_neg (by decide)]
  unfold jn_X10_doZero_79
  rw [if_neg (by decide), if_neg (by decide), if_pos (by decide)]
  unfold jn_X10_doZero_106
  rw [if_neg (by decide), if_neg (by decide)]
  unfold jn_X10_doZero_116
  rw [if_neg (by decide), if_neg (by decide), if_pos (by decide), gB_eta]
theorem io_204 : Io k 204 := fun c sp gn S p hI hp => by
  rw [mb_0 6 3 (sp_X10_listed 6 5 (ph k c sp false gn S)) (by decide) (by decide) (by decide) (by decide) (by decide) (dz_204 _), cb_1 (op := 11) (mo := 9) (cy := 4) 204 (by decide) rfl rfl rfl (by decide)]
  exact ins_fin (ins_cpy (hR_of (by decide) (ha_a hI)) (fun _ => rfl) (by decide))
theorem io_205 : Io k 205 := fun c sp gn S p hI hp => by
  rw [mb_1 6 5 3 (by decide) (by decide) (by decide) (by decide) (by decide) (by decide) rfl, cb_1 (op := 9) (mo := 9) (cy := 4) 205 (by decide) rfl rfl rfl (by decide)]
  exact ins_fin (ins_k6 (hR_of (by decide) (ha_a hI)) (fun _ => rfl) (by decide))
theorem dz_206 (T : gSt) : sp_X10_doTwo 6 3 T = sp_X10_change 6 5 T := by
  unfold sp_X10_doTwo
  rw [if_neg (by decide), if_neg (by decide), if_neg (by decide), if_neg (by decide)]
  unfold jn_X10_doTwo_51
  rw [if_neg (by decide), if_neg (by decide)]
  unfold jn_X10_doTwo_68
  rw [if_neg (by decide), if_neg (by decide), if_neg (by decide), if_pos (by decide), if_neg (by decide), if_neg (by decide)]
  unfold jn_X10_doTwo_162
  rw [if_neg (by decide), gB_eta]
theorem io_206 : Io k 206 := fun c sp gn S p hI hp => by
  rw [mb_2 6 3 (sp_X10_change 6 5 (ph k c sp false gn S)) (by decide) (by decide) (by decide) (by decide) (by decide) (dz_206 _), cb_1 (op := 21) (mo := 9) (cy := 6) 206 (by decide) rfl rfl rfl (by decide)]
  exact ins_fin (ins_cm hc_6 (fun x S => pc_21 9 x S) (ha_a hI) (by decide) (by decide) (by decide) (by decide))
theorem io_207 : Io k 207 := fun c sp gn S p hI hp => by
  rw [mb_3 (by decide) (by decide) (by decide), cb_0 207 (by decide) rfl rfl]
  exact ins_un hI hp
theorem dz_208 (T : gSt) : sp_X10_doZero 6 4 T = sp_X10_branch 6 T := dz_b 6 T
theorem io_208 : Io k 208 := fun c sp gn S p hI hp => by
  rw [mb_0 6 4 (sp_X10_branch 6 (ph k c sp false gn S)) (by decide) (by decide) (by decide) (by decide) (by decide) (dz_208 _), cb_1 (op := 28) (mo := 8) (cy := 2) 208 (by decide) rfl rfl rfl (by decide)]
  exact ins_fin (ins_28 hI)
theorem io_209 : Io k 209 := fun c sp gn S p hI hp => by
  rw [mb_1 6 9 4 (by decide) (by decide) (by decide) (by decide) (by decide) (by decide) rfl, cb_1 (op := 9) (mo := 7) (cy := 5) 209 (by decide) rfl rfl rfl (by decide)]
  exact ins_fin (ins_k6 (hR_of (by decide) (ha_py hI)) (fun _ => rfl) (by decide))
theorem io_210 : Io k 210 := fun c sp gn S p hI hp => by
  rw [(mb_2 6 4 (-1, ph k c sp false gn S) (by decide) (by decide) (by decide) (by decide) (by decide) rfl), show fin p (-1, ph k c sp false gn S) = (2, sI (ph k c sp false gn S) 6 p) from rfl, cb_0 210 (by decide) rfl rfl]
  exact ins_un hI hp
theorem io_211 : Io k 211 := fun c sp gn S p hI hp => by
  rw [mb_3 (by decide) (by decide) (by decide), cb_0 211 (by decide) rfl rfl]
  exact ins_un hI hp
theorem io_212 : Io k 212 := fun c sp gn S p hI hp => by
  rw [(mb_0 6 5 (-1, ph k c sp false gn S) (by decide) (by decide) (by decide) (by decide) (by decide) rfl), show fin p (-1, ph k c sp false gn S) = (2, sI (ph k c sp false gn S) 6 p) from rfl, cb_0 212 (by decide) rfl rfl]
  exact ins_un hI hp
theorem io_213 : Io k 213 := fun c sp gn S p hI hp => by
  rw [mb_1 6 3 5 (by decide) (by decide) (by decide) (by decide) (by decide) (by decide) rfl, cb_1 (op := 9) (mo := 4) (cy := 4) 213 (by decide) rfl rfl rfl (by decide)]
  exact ins_fin (ins_k6 (hR_of (by decide) (ha_zx hI)) (fun _ => rfl) (by decide))
theorem dz_214 (T : gSt) : sp_X10_doTwo 6 5 T = sp_X10_change 6 3 T := by
  unfold sp_X10_doTwo
  rw [if_neg (by decide), if_neg (by decide), if_neg (by decide), if_neg (by decide)]
  unfold jn_X10_doTwo_51
  rw [if_neg (by decide), if_neg (by decide)]
  unfold jn_X10_doTwo_68
  rw [if_neg (by decide), if_neg (by decide), if_neg (by decide), if_neg (by decide), if_pos (by decide), if_pos (by decide), if_neg (by decide), if_neg (by decide)]
  unfold jn_X10_doTwo_162
  rw [if_neg (by decide), gB_eta]
theorem io_214 : Io k 214 := fun c sp gn S p hI hp => by
  rw [mb_2 6 5 (sp_X10_change 6 3 (ph k c sp false gn S)) (by decide) (by decide) (by decide) (by decide) (by decide) (dz_214 _), cb_1 (op := 21) (mo := 4) (cy := 6) 214 (by decide) rfl rfl rfl (by decide)]
  exact ins_fin (ins_cm hc_6 (fun x S => pc_21 4 x S) (ha_zx hI) (by decide) (by decide) (by decide) (by decide))
theorem io_215 : Io k 215 := fun c sp gn S p hI hp => by
  rw [mb_3 (by decide) (by decide) (by decide), cb_0 215 (by decide) rfl rfl]
  exact ins_un hI hp
theorem dz_216 (T : gSt) : sp_X10_doZero 6 6 T = sp_X10_flagged 6 T := dz_f 6 T
theorem io_216 : Io k 216 := fun c sp gn S p hI hp => by
  rw [mb_0 6 6 (sp_X10_flagged 6 (ph k c sp false gn S)) (by decide) (by decide) (by decide) (by decide) (by decide) (dz_216 _), cb_1 (op := 45) (mo := 0) (cy := 2) 216 (by decide) rfl rfl rfl (by decide)]
  exact ins_fin (ins_45 hI)
theorem io_217 : Io k 217 := fun c sp gn S p hI hp => by
  rw [mb_1 6 7 6 (by decide) (by decide) (by decide) (by decide) (by decide) (by decide) rfl, cb_1 (op := 9) (mo := 11) (cy := 4) 217 (by decide) rfl rfl rfl (by decide)]
  exact ins_fin (ins_k6 (hR_of (by decide) (ha_ay hI)) (fun _ => rfl) (by decide))
theorem io_218 : Io k 218 := fun c sp gn S p hI hp => by
  rw [(mb_2 6 6 (-1, ph k c sp false gn S) (by decide) (by decide) (by decide) (by decide) (by decide) rfl), show fin p (-1, ph k c sp false gn S) = (2, sI (ph k c sp false gn S) 6 p) from rfl, cb_0 218 (by decide) rfl rfl]
  exact ins_un hI hp
theorem io_219 : Io k 219 := fun c sp gn S p hI hp => by
  rw [mb_3 (by decide) (by decide) (by decide), cb_0 219 (by decide) rfl rfl]
  exact ins_un hI hp
theorem io_220 : Io k 220 := fun c sp gn S p hI hp => by
  rw [(mb_0 6 7 (-1, ph k c sp false gn S) (by decide) (by decide) (by decide) (by decide) (by decide) rfl), show fin p (-1, ph k c sp false gn S) = (2, sI (ph k c sp false gn S) 6 p) from rfl, cb_0 220 (by decide) rfl rfl]
  exact ins_un hI hp
theorem io_221 : Io k 221 := fun c sp gn S p hI hp => by
  rw [mb_1 6 6 7 (by decide) (by decide) (by decide) (by decide) (by decide) (by decide) rfl, cb_1 (op := 9) (mo := 10) (cy := 4) 221 (by decide) rfl rfl rfl (by decide)]
  exact ins_fin (ins_k6 (hR_of (by decide) (ha_ax hI)) (fun _ => rfl) (by decide))
theorem dz_222 (T : gSt) : sp_X10_doTwo 6 7 T = sp_X10_change 6 6 T := by
  unfold sp_X10_doTwo
  rw [if_neg (by decide), if_neg (by decide), if_neg (by decide), if_neg (by decide)]
  unfold jn_X10_doTwo_51
  rw [if_neg (by decide), if_neg (by decide)]
  unfold jn_X10_doTwo_68
  rw [if_neg (by decide), if_neg (by decide), if_neg (by decide), if_neg (by decide), if_neg (by decide), if_pos (by decide), if_neg (by decide), if_neg (by decide)]
  unfold jn_X10_doTwo_162
  rw [if_neg (by decide), gB_eta]
theorem io_222 : Io k 222 := fun c sp gn S p hI hp => by
  rw [mb_2 6 7 (sp_X10_change 6 6 (ph k c sp false gn S)) (by decide) (by decide) (by decide) (by decide) (by decide) (dz_222 _), cb_1 (op := 21) (mo := 10) (cy := 7) 222 (by decide) rfl rfl rfl (by decide)]
  exact ins_fin (ins_cm hc_6 (fun x S => pc_21 10 x S) (ha_ax hI) (by decide) (by decide) (by decide) (by decide))
theorem io_223 : Io k 223 := fun c sp gn S p hI hp => by
  rw [mb_3 (by decide) (by decide) (by decide), cb_0 223 (by decide) rfl rfl]
  exact ins_un hI hp
theorem dz_224 (T : gSt) : sp_X10_doZero 7 0 T = sp_X10_listed 7 1 T := by
  unfold sp_X10_doZero
  rw [if_neg (by decide), if_neg (by decide), if_neg (by decide), if_pos (by decide), if_pos (by decide)]
  unfold jn_X10_doZero_49
  rw [if_neg (by decide)]
  unfold jn_X10_doZero_79
  rw [if_pos (by decide), if_neg (by decide), if_pos (by decide), gB_eta]
theorem io_224 : Io k 224 := fun c sp gn S p hI hp => by
  rw [mb_0 7 0 (sp_X10_listed 7 1 (ph k c sp false gn S)) (by decide) (by decide) (by decide) (by decide) (by decide) (dz_224 _), cb_1 (op := 10) (mo := 2) (cy := 2) 224 (by decide) rfl rfl rfl (by decide)]
  exact ins_fin (ins_cpx (hr_i hI) (fun _ => rfl) (by decide))
theorem io_225 : Io k 225 := fun c sp gn S p hI hp => by
  rw [mb_1 7 8 0 (by decide) (by decide) (by decide) (by decide) (by decide) (by decide) rfl, cb_1 (op := 5) (mo := 6) (cy := 6) 225 (by decide) rfl rfl rfl (by decide)]
  exact ins_fin (ins_k7 (hR_of (by decide) (ha_px hI)) (fun _ => rfl) (by decide))
theorem io_226 : Io k 226 := fun c sp gn S p hI hp => by
  rw [(mb_2 7 0 (-1, ph k c sp false gn S) (by decide) (by decide) (by decide) (by decide) (by decide) rfl), show fin p (-1, ph k c sp false gn S) = (2, sI (ph k c sp false gn S) 6 p) from rfl, cb_0 226 (by decide) rfl rfl]
  exact ins_un hI hp
theorem io_227 : Io k 227 := fun c sp gn S p hI hp => by
  rw [mb_3 (by decide) (by decide) (by decide), cb_0 227 (by decide) rfl rfl]
  exact ins_un hI hp
theorem dz_228 (T : gSt) : sp_X10_doZero 7 1 T = sp_X10_listed 7 2 T := by
  unfold sp_X10_doZero
  rw [if_neg (by decide), if_neg (by decide), if_neg (by decide), if_neg (by decide)]
  unfold jn_X10_doZero_49
  rw [if_neg (by decide)]
  unfold jn_X10_doZero_79
  rw [if_neg (by decide), if_pos (by decide)]
  unfold jn_X10_doZero_106
  rw [if_neg (by decide), if_neg (by decide)]
  unfold jn_X10_doZero_116
  rw [if_neg (by decide), if_pos (by decide), gB_eta]
theorem io_228 : Io k 228 := fun c sp gn S p hI hp => by
  rw [mb_0 7 1 (sp_X10_listed 7 2 (ph k c sp false gn S)) (by decide) (by decide) (by decide) (by decide) (by decide) (dz_228 _), cb_1 (op := 10) (mo := 3) (cy := 3) 228 (by decide) rfl rfl rfl (by decide)]
  exact ins_fin (ins_cpx (hR_of (by decide) (ha_z hI)) (fun _ => rfl) (by decide))
theorem io_229 : Io k 229 := fun c sp gn S p hI hp => by
  rw [mb_1 7 2 1 (by decide) (by decide) (by decide) (by decide) (by decide) (by decide) rfl, cb_1 (op := 5) (mo := 3) (cy := 3) 229 (by decide) rfl rfl rfl (by decide)]
  exact ins_fin (ins_k7 (hR_of (by decide) (ha_z hI)) (fun _ => rfl) (by decide))
theorem dz_230 (T : gSt) : sp_X10_doTwo 7 1 T = sp_X10_change 7 2 T := by
  unfold sp_X10_doTwo
  rw [if_neg (by decide), if_neg (by decide), if_neg (by decide), if_neg (by decide)]
  unfold jn_X10_doTwo_51
  rw [if_neg (by decide), if_neg (by decide)]
  unfold jn_X10_doTwo_68
  rw [if_neg (by decide), if_pos (by decide), if_neg (by decide), if_neg (by decide)]
  unfold jn_X10_doTwo_162
  rw [if_neg (by decide), gB_eta]
theorem io_230 : Io k 230 := fun c sp gn S p hI hp => by
  rw [mb_2 7 1 (sp_X10_change 7 2 (ph k c sp false gn S)) (by decide) (by decide) (by decide) (by decide) (by decide) (dz_230 _), cb_1 (op := 20) (mo := 3) (cy := 5) 230 (by decide) rfl rfl rfl (by decide)]
  exact ins_fin (ins_cm hc_7 (fun x S => pc_20 3 x S) (ha_z hI) (by decide) (by decide) (by decide) (by decide))
theorem io_231 : Io k 231 := fun c sp gn S p hI hp => by
  rw [mb_3 (by decide) (by decide) (by decide), cb_0 231 (by decide) rfl rfl]
  exact ins_un hI hp
theorem dz_232 (T : gSt) : sp_X10_doZero 7 2 T = sp_X10_stacked 7 T := dz_s 7 T
theorem io_232 : Io k 232 := fun c sp gn S p hI hp => by
  rw [mb_0 7 2 (sp_X10_stacked 7 (ph k c sp false gn S)) (by decide) (by decide) (by decide) (by decide) (by decide) (dz_232 _), cb_1 (op := 36) (mo := 0) (cy := 2) 232 (by decide) rfl rfl rfl (by decide)]
  exact ins_fin (ins_36 hI)
theorem io_233 : Io k 233 := fun c sp gn S p hI hp => by
  rw [mb_1 7 1 2 (by decide) (by decide) (by decide) (by decide) (by decide) (by decide) rfl, cb_1 (op := 5) (mo := 2) (cy := 2) 233 (by decide) rfl rfl rfl (by decide)]
  exact ins_fin (ins_k7 (hr_i hI) (fun _ => rfl) (by decide))
theorem dz_234 (T : gSt) : sp_X10_doTwo 7 2 T = sp_X10_moved 7 T := by
  unfold sp_X10_doTwo
  rw [if_neg (by decide), if_neg (by decide), if_neg (by decide), if_pos (by decide), if_neg (by decide), gB_eta]
theorem io_234 : Io k 234 := fun c sp gn S p hI hp => by
  rw [mb_2 7 2 (sp_X10_moved 7 (ph k c sp false gn S)) (by decide) (by decide) (by decide) (by decide) (by decide) (dz_234 _), cb_1 (op := 47) (mo := 0) (cy := 2) 234 (by decide) rfl rfl rfl (by decide)]
  exact ins_fin (ins_47 hI)
theorem io_235 : Io k 235 := fun c sp gn S p hI hp => by
  rw [mb_3 (by decide) (by decide) (by decide), cb_0 235 (by decide) rfl rfl]
  exact ins_un hI hp
theorem dz_236 (T : gSt) : sp_X10_doZero 7 3 T = sp_X10_listed 7 5 T := by
  unfold sp_X10_doZero
  rw [if_neg (by decide), if_neg (by decide), if_neg (by decide), if_neg (by decide)]
  unfold jn_X10_doZero_49
  rw [if_pos (by decide), if_neg (by decide), if_neg (by decide)]
  unfold jn_X10_doZero_79
  rw [if_neg (by decide), if_neg (by decide), if_pos (by decide)]
  unfold jn_X10_doZero_106
  rw [if_neg (by decide), if_neg (by decide)]
  unfold jn_X10_doZero_116
  rw [if_neg (by decide), if_neg (by decide), if_pos (by decide), gB_eta]
theorem io_236 : Io k 236 := fun c sp gn S p hI hp => by
  rw [mb_0 7 3 (sp_X10_listed 7 5 (ph k c sp false gn S)) (by decide) (by decide) (by decide) (by decide) (by decide) (dz_236 _), cb_1 (op := 10) (mo := 9) (cy := 4) 236 (by decide) rfl rfl rfl (by decide)]
  exact ins_fin (ins_cpx (hR_of (by decide) (ha_a hI)) (fun _ => rfl) (by decide))
theorem io_237 : Io k 237 := fun c sp gn S p hI hp => by
  rw [mb_1 7 5 3 (by decide) (by decide) (by decide) (by decide) (by decide) (by decide) rfl, cb_1 (op := 5) (mo := 9) (cy := 4) 237 (by decide) rfl rfl rfl (by decide)]
  exact ins_fin (ins_k7 (hR_of (by decide) (ha_a hI)) (fun _ => rfl) (by decide))
theorem dz_238 (T : gSt) : sp_X10_doTwo 7 3 T = sp_X10_change 7 5 T := by
  unfold sp_X10_doTwo
  rw [if_neg (by decide), if_neg (by decide), if_neg (by decide), if_neg (by decide)]
  unfold jn_X10_doTwo_51
  rw [if_neg (by decide), if_neg (by decide)]
  unfold jn_X10_doTwo_68
  rw [if_neg (by decide), if_neg (by decide), if_neg (by decide), if_pos (by decide), if_neg (by decide), if_neg (by decide)]
  unfold jn_X10_doTwo_162
  rw [if_neg (by decide), gB_eta]
theorem io_238 : Io k 238 := fun c sp gn S p hI hp => by
  rw [mb_2 7 3 (sp_X10_change 7 5 (ph k c sp false gn S)) (by decide) (by decide) (by decide) (by decide) (by decide) (dz_238 _), cb_1 (op := 20) (mo := 9) (cy := 6) 238 (by decide) rfl rfl rfl (by decide)]
  exact ins_fin (ins_cm hc_7 (fun x S => pc_20 9 x S) (ha_a hI) (by decide) (by decide) (by decide) (by decide))
theorem io_239 : Io k 239 := fun c sp gn S p hI hp => by
  rw [mb_3 (by decide) (by decide) (by decide), cb_0 239 (by decide) rfl rfl]
  exact ins_un hI hp
theorem dz_240 (T : gSt) : sp_X10_doZero 7 4 T = sp_X10_branch 7 T := dz_b 7 T
theorem io_240 : Io k 240 := fun c sp gn S p hI hp => by
  rw [mb_0 7 4 (sp_X10_branch 7 (ph k c sp false gn S)) (by decide) (by decide) (by decide) (by decide) (by decide) (dz_240 _), cb_1 (op := 29) (mo := 8) (cy := 2) 240 (by decide) rfl rfl rfl (by decide)]
  exact ins_fin (ins_29 hI)
theorem io_241 : Io k 241 := fun c sp gn S p hI hp => by
  rw [mb_1 7 9 4 (by decide) (by decide) (by decide) (by decide) (by decide) (by decide) rfl, cb_1 (op := 5) (mo := 7) (cy := 5) 241 (by decide) rfl rfl rfl (by decide)]
  exact ins_fin (ins_k7 (hR_of (by decide) (ha_py hI)) (fun _ => rfl) (by decide))
theorem io_242 : Io k 242 := fun c sp gn S p hI hp => by
  rw [(mb_2 7 4 (-1, ph k c sp false gn S) (by decide) (by decide) (by decide) (by decide) (by decide) rfl), show fin p (-1, ph k c sp false gn S) = (2, sI (ph k c sp false gn S) 6 p) from rfl, cb_0 242 (by decide) rfl rfl]
  exact ins_un hI hp
theorem io_243 : Io k 243 := fun c sp gn S p hI hp => by
  rw [mb_3 (by decide) (by decide) (by decide), cb_0 243 (by decide) rfl rfl]
  exact ins_un hI hp
theorem io_244 : Io k 244 := fun c sp gn S p hI hp => by
  rw [(mb_0 7 5 (-1, ph k c sp false gn S) (by decide) (by decide) (by decide) (by decide) (by decide) rfl), show fin p (-1, ph k c sp false gn S) = (2, sI (ph k c sp false gn S) 6 p) from rfl, cb_0 244 (by decide) rfl rfl]
  exact ins_un hI hp
theorem io_245 : Io k 245 := fun c sp gn S p hI hp => by
  rw [mb_1 7 3 5 (by decide) (by decide) (by decide) (by decide) (by decide) (by decide) rfl, cb_1 (op := 5) (mo := 4) (cy := 4) 245 (by decide) rfl rfl rfl (by decide)]
  exact ins_fin (ins_k7 (hR_of (by decide) (ha_zx hI)) (fun _ => rfl) (by decide))
theorem dz_246 (T : gSt) : sp_X10_doTwo 7 5 T = sp_X10_change 7 3 T := by
  unfold sp_X10_doTwo
  rw [if_neg (by decide), if_neg (by decide), if_neg (by decide), if_neg (by decide)]
  unfold jn_X10_doTwo_51
  rw [if_neg (by decide), if_neg (by decide)]
  unfold jn_X10_doTwo_68
  rw [if_neg (by decide), if_neg (by decide), if_neg (by decide), if_neg (by decide), if_pos (by decide), if_pos (by decide), if_neg (by decide), if_neg (by decide)]
  unfold jn_X10_doTwo_162
  rw [if_neg (by decide), gB_eta]
theorem io_246 : Io k 246 := fun c sp gn S p hI hp => by
  rw [mb_2 7 5 (sp_X10_change 7 3 (ph k c sp false gn S)) (by decide) (by decide) (by decide) (by decide) (by decide) (dz_246 _), cb_1 (op := 20) (mo := 4) (cy := 6) 246 (by decide) rfl rfl rfl (by decide)]
  exact ins_fin (ins_cm hc_7 (fun x S => pc_20 4 x S) (ha_zx hI) (by decide) (by decide) (by decide) (by decide))
theorem io_247 : Io k 247 := fun c sp gn S p hI hp => by
  rw [mb_3 (by decide) (by decide) (by decide), cb_0 247 (by decide) rfl rfl]
  exact ins_un hI hp
theorem dz_248 (T : gSt) : sp_X10_doZero 7 6 T = sp_X10_flagged 7 T := dz_f 7 T
theorem io_248 : Io k 248 := fun c sp gn S p hI hp => by
  rw [mb_0 7 6 (sp_X10_flagged 7 (ph k c sp false gn S)) (by decide) (by decide) (by decide) (by decide) (by decide) (dz_248 _), cb_1 (op := 46) (mo := 0) (cy := 2) 248 (by decide) rfl rfl rfl (by decide)]
  exact ins_fin (ins_46 hI)
theorem io_249 : Io k 249 := fun c sp gn S p hI hp => by
  rw [mb_1 7 7 6 (by decide) (by decide) (by decide) (by decide) (by decide) (by decide) rfl, cb_1 (op := 5) (mo := 11) (cy := 4) 249 (by decide) rfl rfl rfl (by decide)]
  exact ins_fin (ins_k7 (hR_of (by decide) (ha_ay hI)) (fun _ => rfl) (by decide))
theorem io_250 : Io k 250 := fun c sp gn S p hI hp => by
  rw [(mb_2 7 6 (-1, ph k c sp false gn S) (by decide) (by decide) (by decide) (by decide) (by decide) rfl), show fin p (-1, ph k c sp false gn S) = (2, sI (ph k c sp false gn S) 6 p) from rfl, cb_0 250 (by decide) rfl rfl]
  exact ins_un hI hp
theorem io_251 : Io k 251 := fun c sp gn S p hI hp => by
  rw [mb_3 (by decide) (by decide) (by decide), cb_0 251 (by decide) rfl rfl]
  exact ins_un hI hp
theorem io_252 : Io k 252 := fun c sp gn S p hI hp => by
  rw [(mb_0 7 7 (-1, ph k c sp false gn S) (by decide) (by decide) (by decide) (by decide) (by decide) rfl), show fin p (-1, ph k c sp false gn S) = (2, sI (ph k c sp false gn S) 6 p) from rfl, cb_0 252 (by decide) rfl rfl]
  exact ins_un hI hp
theorem io_253 : Io k 253 := fun c sp gn S p hI hp => by
  rw [mb_1 7 6 7 (by decide) (by decide) (by decide) (by decide) (by decide) (by decide) rfl, cb_1 (op := 5) (mo := 10) (cy := 4) 253 (by decide) rfl rfl rfl (by decide)]
  exact ins_fin (ins_k7 (hR_of (by decide) (ha_ax hI)) (fun _ => rfl) (by decide))
theorem dz_254 (T : gSt) : sp_X10_doTwo 7 7 T = sp_X10_change 7 6 T := by
  unfold sp_X10_doTwo
  rw [if_neg (by decide), if_neg (by decide), if_neg (by decide), if_neg (by decide)]
  unfold jn_X10_doTwo_51
  rw [if_neg (by decide), if_neg (by decide)]
  unfold jn_X10_doTwo_68
  rw [if_neg (by decide), if_neg (by decide), if_neg (by decide), if_neg (by decide), if_neg (by decide), if_pos (by decide), if_neg (by decide), if_neg (by decide)]
  unfold jn_X10_doTwo_162
  rw [if_neg (by decide), gB_eta]
theorem io_254 : Io k 254 := fun c sp gn S p hI hp => by
  rw [mb_2 7 7 (sp_X10_change 7 6 (ph k c sp false gn S)) (by decide) (by decide) (by decide) (by decide) (by decide) (dz_254 _), cb_1 (op := 20) (mo := 10) (cy := 7) 254 (by decide) rfl rfl rfl (by decide)]
  exact ins_fin (ins_cm hc_7 (fun x S => pc_20 10 x S) (ha_ax hI) (by decide) (by decide) (by decide) (by decide))
theorem io_255 : Io k 255 := fun c sp gn S p hI hp => by
  rw [mb_3 (by decide) (by decide) (by decide), cb_0 255 (by decide) rfl rfl]
  exact ins_un hI hp
end PU
