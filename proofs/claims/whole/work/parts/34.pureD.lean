section PD
variable {k : Bool} {c sp : Int32} {cr : Bool} {gn : Int64} {S : gSt}
theorem b128 (x : Int32) : x &&& 128 = 0 ↔ bt x 7 = false := by
  constructor
  · intro h
    have h2 := congrArg (fun z => bt z 7) h
    simp only [b_and, b_0] at h2
    rwa [show bt 128 7 = true from by decide, Bool.and_true] at h2
  · intro h
    apply b_ext
    intro i hi
    rw [b_and, b_0]
    by_cases e : i = 7
    · subst e
      rw [h]; rfl
    · rw [(by decide : ∀ i, i < 32 → i ≠ 7 → bt 128 i = false) i hi e, Bool.and_false]
theorem bit_ctl (v x : Int32) : (v &&& (x ^^^ (-1))) &&& 128 = 0 ↔ ¬ (x &&& 128 = 0 ∧ ¬ v &&& 128 = 0) := by
  rw [b128, b128, b128, b_and, b_xor, b_m1 7 (by decide)]
  cases bt v 7 <;> cases bt x 7 <;> decide
theorem and_or (x y m : Int32) : (x ||| y) &&& m = (x &&& m) ||| (y &&& m) := by
  apply b_ext
  intro i _
  simp only [b_and, b_or]
  cases bt x i <;> cases bt y i <;> cases bt m i <;> rfl
theorem and_l {x m n : Int32} (h : x &&& m = x) : (x &&& n) &&& m = x &&& n := by
  rw [Int32.and_assoc, Int32.and_comm n, ← Int32.and_assoc, h]
theorem h_writePicture (hI : Iv k S) (a v : Int32) : sp_X10_writePicture a v (ph k c sp cr gn S) = ((), ph k c sp cr gn (sp_X7_store k a v S).2) := by
  have ht : S.1 17 &&& 32767 = S.1 17 := iv_b hI 17 rfl
  have e1 : (S.1 17 &&& (-29665)) &&& 32767 = S.1 17 &&& (-29665) := and_l ht
  have e2 : S.1 17 &&& (-256) = S.1 17 &&& 32512 := by
    have h := Int32.and_assoc (S.1 17) 32767 (-256)
    rw [ht] at h
    rw [h]
    rfl
  have e3 : S.1 15 &&& 255 = S.1 15 := iv_b hI 15 rfl
  unfold sp_X10_writePicture sp_X7_store jn_X10_writePicture_76
  simp only [h_keep, h_goOn, gB, gL, phr_vblank, phr_ctrl, phr_temporary, phr_oamAddress, phr_second, phr_vram, phw_ctrl, phw_temporary, phw_mask, phw_oamAddress, phw_fine, phw_second, phw_vram, phs_sprites, phx_nmi, e1, e2, e3]
  split
  · unfold sp_X7_storeControl
    simp only [gL]
    by_cases h1 : S.1 12 &&& 128 = 0
    · by_cases h2 : v &&& 128 = 0
      · rw [if_pos h1, if_pos h2, if_pos ((bit_ctl _ _).mpr (fun h => h.2 h2))]
        split <;> rfl
      · rw [if_pos h1, if_neg h2, if_neg (fun h => (bit_ctl _ _).mp h ⟨h1, h2⟩)]
        show _ = ((), ph k c sp cr gn (if S.1 14 = 1 then _ else _ : Unit × gSt).2)
        split <;> rfl
    · rw [if_neg h1, if_pos ((bit_ctl _ _).mpr (fun h => h1 h.1))]
      split <;> rfl
  split
  · rfl
  split
  · rfl
  split
  · rfl
  split
  · rfl
  split
  · unfold sp_X7_storeScroll
    simp only [gL]
    split <;> rfl
  split
  · unfold sp_X7_storeAddress
    simp only [gL]
    split <;> rfl
  split <;> rfl
theorem iv_sI (j : Nat) {v : Int32} (hI : Iv k S) (hv : v &&& mk j = v) (hx : Xv k (sI S j v)) : Iv k (sI S j v) := ⟨iv_I hI.1 j hv, hI.2.1, hx⟩
theorem iv_sZ (j : Nat) (b : Bool) (hI : Iv k S) (hx : Xv k (sZ S j b)) : Iv k (sZ S j b) := ⟨hI.1, hI.2.1, hx⟩
theorem iv_aP (q : Nat) (i : Int32) {v : Int32} (hI : Iv k S) (hv : v &&& 255 = v) (hx : Xv k (aP S q i v)) : Iv k (aP S q i v) := ⟨hI.1, iv_A hI.2.1 q i hv, hx⟩
theorem iv_g (hI : Iv k S) (q : Nat) (i : Int32) : aG S q i &&& 255 = aG S q i := hI.2.1 q i.toNatClampNeg
theorem iv_growV (hI : Iv k S) : Iv k (sp_X7_growV k S).2 := by
  unfold sp_X7_growV
  simp only [gL]
  split
  · exact iv_sI 16 hI (by rw [show mk 16 = 32767 from rfl, Int32.and_assoc]; rfl) hI.2.2
  · exact iv_sI 16 hI (by rw [show mk 16 = 32767 from rfl, Int32.and_assoc]; rfl) hI.2.2
end PD
