section PM
variable {k : Bool} {c sp : Int32} {cr : Bool} {gn : Int64} {S : gSt}
theorem nI_mod (x : Int32) : ∃ j : Nat, j < 65536 ∧ x &&& 65535 = nI j := pk_andE x (m := 65535) 16 (by decide)
theorem iv_pc (hI : Iv k S) : ∃ j : Nat, j < 65536 ∧ S.1 32 = nI j := by_m (x := S.1 32) (m := 65535) 16 (by decide) (hI.1 32)
theorem and_w (x : Int32) : (x &&& 65535) &&& 65535 = x &&& 65535 := by rw [Int32.and_assoc]; rfl
theorem h_fetch (hI : Iv k S) : sp_X10_fetch (ph k c sp cr gn S) = ((sp_X2_fetch k S).1, ph k c sp cr gn (sp_X2_fetch k S).2) := by
  obtain ⟨j, hj, e⟩ := iv_pc hI
  unfold sp_X10_fetch sp_X2_fetch
  simp only [phr_pc, gB, gL]
  rw [e, h_get hI j hj]
  simp only [phr_pc, phw_pc]
theorem iv_fetch (hI : Iv k S) : Iv k (sp_X2_fetch k S).2 ∧ (sp_X2_fetch k S).1 &&& 255 = (sp_X2_fetch k S).1 := by
  unfold sp_X2_fetch
  simp only [gB, gL]
  have h := iv_Load hI (S.1 32)
  exact ⟨iv_sI 32 h.1 (and_w _) h.1.2.2, h.2⟩
theorem wd_b {x y : Int32} (hx : x &&& 255 = x) (hy : y &&& 255 = y) : ∃ j : Nat, j < 65536 ∧ x ||| (y <<< ((8 : Int32) &&& (31 : Int32))) = nI j := by
  obtain ⟨i, hi, e1⟩ := by_of hx
  obtain ⟨w, hw, e2⟩ := by_of hy
  refine ⟨256 * w + i, by omega, ?_⟩
  rw [e1, e2, Int32.or_comm]
  exact (pg_i w hw i hi).1
theorem h_fetchWord (hI : Iv k S) : sp_X10_fetchWord (ph k c sp cr gn S) = ((sp_X2_fetch k S).1 ||| ((sp_X2_fetch k (sp_X2_fetch k S).2).1 <<< ((8 : Int32) &&& (31 : Int32))), ph k c sp cr gn (sp_X2_fetch k (sp_X2_fetch k S).2).2) := by
  unfold sp_X10_fetchWord
  simp only [gB, h_fetch hI, h_fetch (iv_fetch hI).1]
theorem st_i {s : Int32} (h : s &&& 255 = s) : 256 + s = 256 ||| (s &&& 255) := by
  obtain ⟨j, hj, e⟩ := by_of h
  subst e
  exact (by decide +kernel : ∀ j, j < 256 → 256 + nI j = 256 ||| (nI j &&& 255)) j hj
theorem h_push (hI : Iv k S) (v : Int32) : sp_X10_push v (ph k c sp cr gn S) = ((), ph k c sp cr gn (sp_X2_push k v S).2) := by
  unfold sp_X10_push sp_X2_push sp_X0_storeStack
  simp only [gL, gB, phr_s, phs_ram, phw_s, st_i (iv_b hI 30 (m := 255) rfl)]
theorem iv_push (hI : Iv k S) {v : Int32} (hv : v &&& 255 = v) : Iv k (sp_X2_push k v S).2 := by
  unfold sp_X2_push sp_X0_storeStack
  simp only [gL, gB]
  exact iv_sI 30 (iv_aP 16 _ hI hv hI.2.2) (by_and _) hI.2.2
theorem hi_b {w : Int32} (hw : w &&& 65535 = w) : (w >>> ((8 : Int32) &&& (31 : Int32))) &&& 255 = w >>> ((8 : Int32) &&& (31 : Int32)) := by
  obtain ⟨j, hj, e⟩ := by_m (x := w) (m := 65535) 16 (by decide) hw
  have e2 : nI j >>> ((8 : Int32) &&& (31 : Int32)) = nI (j / 2 ^ 8) := pk_shrN (by omega) _ 8 (by decide)
  rw [e, e2]
  exact (by decide +kernel : ∀ q, q < 256 → nI q &&& 255 = nI q) _ (by omega)
theorem h_pushWord (hI : Iv k S) {w : Int32} (hw : w &&& 65535 = w) : sp_X10_pushWord w (ph k c sp cr gn S) = ((), ph k c sp cr gn (sp_X2_pushWord k w S).2) := by
  unfold sp_X10_pushWord sp_X2_pushWord
  simp only [gB]
  rw [hi_b hw, h_push hI, h_push (iv_push hI (hi_b hw))]
theorem iv_pushWord (hI : Iv k S) (w : Int32) : Iv k (sp_X2_pushWord k w S).2 := by
  unfold sp_X2_pushWord
  simp only [gB]
  exact iv_push (iv_push hI (by_and _)) (by_and _)
theorem h_pull (hI : Iv k S) : sp_X10_pull (ph k c sp cr gn S) = ((sp_X2_pull k S).1, ph k c sp cr gn (sp_X2_pull k S).2) := by
  unfold sp_X10_pull sp_X2_pull sp_X0_loadStack
  simp only [gL, gB, phr_s, phw_s, pha_ram]
  rw [st_i (show (sI S 30 ((S.1 30 + 1) &&& 255)).1 30 &&& 255 = (sI S 30 ((S.1 30 + 1) &&& 255)).1 30 from by_and _)]
theorem iv_pull (hI : Iv k S) : Iv k (sp_X2_pull k S).2 ∧ (sp_X2_pull k S).1 &&& 255 = (sp_X2_pull k S).1 := by
  unfold sp_X2_pull sp_X0_loadStack
  simp only [gL, gB]
  have h : Iv k (sI S 30 ((S.1 30 + 1) &&& 255)) := iv_sI 30 hI (by_and _) hI.2.2
  exact ⟨h, iv_g h 16 _⟩
theorem h_pullWord (hI : Iv k S) : sp_X10_pullWord (ph k c sp cr gn S) = ((sp_X2_pullWord k S).1, ph k c sp cr gn (sp_X2_pullWord k S).2) := by
  unfold sp_X10_pullWord sp_X2_pullWord
  simp only [gB, h_pull hI, h_pull (iv_pull hI).1]
theorem iv_pullWord (hI : Iv k S) : Iv k (sp_X2_pullWord k S).2 ∧ ∃ j : Nat, j < 65536 ∧ (sp_X2_pullWord k S).1 = nI j := by
  unfold sp_X2_pullWord
  simp only [gB]
  have h1 := iv_pull hI
  have h2 := iv_pull h1.1
  exact ⟨h2.1, wd_b h1.2 h2.2⟩
theorem nIw {j : Nat} (hj : j < 65536) : nI j &&& 65535 = nI j := by
  rw [pk_andN (by omega) 16 (by decide)]
  exact congrArg nI (Nat.mod_eq_of_lt hj)
/-- the word at a vector -/
theorem h_word (hI : Iv k S) (j : Nat) (hj : 32768 ≤ j) (hj2 : j + 1 < 65536) : sp_X10_word (nI j) (ph k c sp cr gn S) = ((sp_X0_vector k (nI j) S).1, ph k c sp cr gn S) ∧ (sp_X0_vector k (nI j) S).2 = S ∧ ∃ w : Nat, w < 65536 ∧ (sp_X0_vector k (nI j) S).1 = nI w := by
  have e : ∀ i : Nat, 32768 ≤ i → i < 65536 → sp_X0_load k (nI i) S = sp_X1_romByte k (nI i) S := by
    intro i h1 h2
    unfold sp_X0_load
    have p1 : (8192 : Int32) ≤ nI i := (nI_leI (a := 8192) (by omega) (by omega)).mpr (by omega)
    have p2 : (16384 : Int32) ≤ nI i := (nI_leI (a := 16384) (by omega) (by omega)).mpr (by omega)
    have p3 : (24576 : Int32) ≤ nI i := (nI_leI (a := 24576) (by omega) (by omega)).mpr (by omega)
    have p4 : (32768 : Int32) ≤ nI i := (nI_leI (a := 32768) (by omega) (by omega)).mpr (by omega)
    rw [if_pos p1, if_pos p2, if_pos p3, if_pos p4]
    rfl
  have h0 := h_get (c := c) (sp := sp) (cr := cr) (gn := gn) hI j (by omega)
  have h1 := h_get (c := c) (sp := sp) (cr := cr) (gn := gn) hI (j + 1) hj2
  rw [e j hj (by omega), c_rom2] at h0
  rw [e (j + 1) (by omega) hj2, c_rom2] at h1
  have b0 : (sp_X1_romByte k (nI j) S).1 &&& 255 = (sp_X1_romByte k (nI j) S).1 := iv_g hI 2 _
  have b1 : (sp_X1_romByte k (nI (j + 1)) S).1 &&& 255 = (sp_X1_romByte k (nI (j + 1)) S).1 := iv_g hI 2 _
  refine ⟨?_, rfl, ?_⟩
  · unfold sp_X10_word sp_X0_vector
    simp only [gB]
    rw [nI_1, nIw hj2, h0]
    simp only [h1, c_rom2]
  · unfold sp_X0_vector
    simp only [gB]
    rw [nI_1]
    exact wd_b b0 b1
theorem h_interrupt (hI : Iv k S) (j : Nat) (hj : 32768 ≤ j) (hj2 : j + 1 < 65536) {v : Int32} (hv : v &&& 255 = v) : sp_X10_interrupt (nI j) v (ph k c sp cr gn S) = ((), ph k c sp cr gn (sp_X2_enter k (nI j) (S.1 32) v S).2) ∧ Iv k (sp_X2_enter k (nI j) (S.1 32) v S).2 := by
  have hw : S.1 32 &&& 65535 = S.1 32 := iv_b hI 32 rfl
  have i1 := iv_pushWord hI (S.1 32)
  have i2 := iv_push i1 hv
  have i3 : Iv k (sI (sp_X2_push k v (sp_X2_pushWord k (S.1 32) S).2).2 31 (((sp_X2_push k v (sp_X2_pushWord k (S.1 32) S).2).2.1 31) ||| 4)) := iv_sI 31 i2 (or_m (iv_b i2 31 (m := 255) rfl) (by decide)) i2.2.2
  obtain ⟨r1, r2, w, hw2, e⟩ := h_word (c := c) (sp := sp) (cr := cr) (gn := gn) i3 j hj hj2
  unfold sp_X10_interrupt sp_X2_enter
  simp only [gB, gL, phr_pc]
  rw [h_pushWord hI hw, h_push i1, h_flag]
  have e4 : (sp_X2_setFlag k 4 true (sp_X2_push k v (sp_X2_pushWord k (S.1 32) S).2).2).2 = sI (sp_X2_push k v (sp_X2_pushWord k (S.1 32) S).2).2 31 (((sp_X2_push k v (sp_X2_pushWord k (S.1 32) S).2).2.1 31) ||| 4) := rfl
  rw [e4, r1, r2]
  simp only [phw_pc]
  refine ⟨trivial, iv_sI 32 i3 ?_ i3.2.2⟩
  rw [e]
  exact nIw hw2
end PM
