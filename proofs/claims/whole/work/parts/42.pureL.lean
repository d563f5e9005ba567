section PL
variable {k : Bool} {c sp : Int32} {cr : Bool} {gn : Int64} {S : gSt}
theorem or_add {x y : Int32} (h : x &&& y = 0) : x ||| y = x + y := by
  apply Int32.toBitVec_inj.mp
  rw [Int32.toBitVec_or, Int32.toBitVec_add]
  refine (BitVec.add_eq_or_of_and_eq_zero _ _ ?_).symm
  rw [← Int32.toBitVec_and, h]
  rfl
theorem pg_i (w : Nat) (hw : w < 256) (i : Nat) (hi : i < 256) : ((nI w) <<< ((8 : Int32) &&& (31 : Int32))) ||| nI i = nI (256 * w + i) ∧ 256 * nI w + nI i = nI (256 * w + i) := by
  have e1 : (nI w) <<< ((8 : Int32) &&& (31 : Int32)) = nI (w * 2 ^ 8) := pk_shlN _ 8 (by decide) (by omega)
  have e2 : (256 : Int32) * nI w = nI (256 * w) := pk_mul 256 w
  refine ⟨?_, by rw [e2, nI_add]⟩
  have h : ((nI w) <<< ((8 : Int32) &&& (31 : Int32))) &&& nI i = 0 := by
    have h1 := (by decide +kernel : ∀ w, w < 256 → ((nI w) <<< ((8 : Int32) &&& (31 : Int32))) &&& 255 = 0) w hw
    have h2 := (by decide +kernel : ∀ i, i < 256 → nI i = 255 &&& nI i) i hi
    rw [h2, ← Int32.and_assoc, h1, Int32.zero_and]
  rw [or_add h, e1, nI_add]
  exact congrArg nI (by omega)
theorem le256 {j : Nat} (h : j ≤ 256) : (256 : Int32) ≤ nI j ↔ ¬ j < 256 := by
  rw [show (256 : Int32) = nI 256 from rfl, nI_leI (by omega) (by omega)]
  omega
/-- DMA's loop, on both sides -/
theorem h_dmaL (w : Nat) (hw : w < 256) (o : Int32) (n : Nat) : ∀ (i : Nat) (S : gSt), i ≤ 256 → 256 < i + n → Iv k S → lp_X10_dma_2 n (nI w) (nI i) (ph k c sp cr gn S) = ((), ph k c (sp + (513 + ((gn &&& 1)).toInt32)) cr gn (lp_X0_copyPageAsked_25 k n o ((nI w) <<< ((8 : Int32) &&& (31 : Int32))) (nI i) S).2) ∧ (lp_X0_copyPageAsked_25 k n o ((nI w) <<< ((8 : Int32) &&& (31 : Int32))) (nI i) S).1 = 513 + o ∧ Iv k (lp_X0_copyPageAsked_25 k n o ((nI w) <<< ((8 : Int32) &&& (31 : Int32))) (nI i) S).2 := by
  induction n with
  | zero => intro i S h1 h2; omega
  | succ n ih =>
    intro i S hi h2 hI
    rw [lp_X10_dma_2, lp_X0_copyPageAsked_25]
    by_cases h : i < 256
    · rw [if_neg (fun z => (le256 hi).mp z h), if_neg (fun z => (le256 hi).mp z h), (pg_i w hw i h).1, (pg_i w hw i h).2]
      simp only [gB, h_get hI _ (show 256 * w + i < 65536 by omega)]
      have hL := iv_Load hI (nI (256 * w + i))
      rw [h_writePicture hL.1]
      simp only [nI_1]
      exact ih (i + 1) _ (by omega) (by omega) (iv_store7 hL.1 4 hL.2)
    · rw [if_pos ((le256 hi).mpr h), if_pos ((le256 hi).mpr h)]
      simp only [gL, phr_spent, phj_gone, phw_spent]
      refine ⟨?_, ?_, hI⟩ <;> first | trivial | rfl
theorem sI_same (S : gSt) (j : Nat) (v w : Int32) : sI (sI S j v) j w = sI S j w := by
  obtain ⟨I, Z, J, A⟩ := S
  refine ph_ext (fun a => ?_) (fun _ => rfl) (fun _ => rfl) (fun _ => rfl)
  show upd (upd I j v) j w a = upd I j w a
  by_cases e : a = j
  · subst e; rw [pk_us, pk_us]
  · rw [pk_un e, pk_un e, pk_un e]
theorem sI_eq (S : gSt) {j : Nat} {v : Int32} (h : S.1 j = v) : sI S j v = S := by rw [← h]; exact sI_self S j
theorem iv_26 (hI : Iv k S) : S.1 26 = (-1) := hI.2.2.2.2.2.2.1.2
theorem c_ask0 (h : S.1 26 = (-1)) (o : Int32) : sp_X0_copyPageAsked k o S = (0, S) := by
  unfold sp_X0_copyPageAsked
  rw [if_pos h]
theorem c_ask1 (hI : Iv k S) {v : Int32} (hv : v &&& 255 = v) (o : Int32) : sp_X0_copyPageAsked k o (sI S 26 v) = lp_X0_copyPageAsked_25 k 257 o (v <<< ((8 : Int32) &&& (31 : Int32))) 0 S := by
  unfold sp_X0_copyPageAsked
  have e : (sI S 26 v).1 26 = v := rfl
  obtain ⟨w, hw, ew⟩ := by_of hv
  rw [e, if_neg (show ¬ v = (-1) by rw [ew]; exact (by decide +kernel : ∀ w, w < 256 → ¬ nI w = (-1 : Int32)) w hw)]
  simp only [gL]
  rw [sI_same, sI_eq S (iv_26 hI)]
/-- what the reference's put gives: the class's store, and DMA behind it if it was asked for -/
def Pt (k : Bool) (c sp : Int32) (cr : Bool) (gn : Int64) (S1 : gSt) (R : Unit × gSt) : Prop := R = ((), ph k c (sp + (sp_X0_copyPageAsked k ((gn &&& 1)).toInt32 S1).1) cr gn (sp_X0_copyPageAsked k ((gn &&& 1)).toInt32 S1).2) ∧ Iv k (sp_X0_copyPageAsked k ((gn &&& 1)).toInt32 S1).2
theorem pt_of {S1 : gSt} (hI : Iv k S1) {R : Unit × gSt} (h : R = ((), ph k c sp cr gn S1)) : Pt k c sp cr gn S1 R := by
  unfold Pt
  rw [c_ask0 (iv_26 hI)]
  exact ⟨by rw [h, Int32.add_zero], hI⟩
theorem c_ws20 (v : Int32) (T : gSt) : sp_X10_writeSound 20 v T = ((), (sp_X10_dma v T).2) := by
  unfold sp_X10_writeSound
  rw [if_pos (by decide : (16 : Int32) ≤ 20), if_pos rfl, gB]
theorem h_put20 (hI : Iv k S) {v : Int32} (hv : v &&& 255 = v) : Pt k c sp cr gn (gL (sI S 26 v) (fun S1 => (((), S1) : Unit × gSt))).2 (gB (sp_X10_writeSound 20 v (ph k c sp cr gn S)) (fun (_ : Unit) S4 => ((), S4))) := by
  obtain ⟨w, hw, ew⟩ := by_of hv
  have hd := h_dmaL (k := k) (c := c) (sp := sp) (cr := cr) (gn := gn) w hw ((gn &&& 1)).toInt32 257 0 S (by omega) (by omega) hI
  rw [nI_0, ← ew] at hd
  have e1 : sp_X10_dma v (ph k c sp cr gn S) = _ := hd.1
  unfold Pt
  simp only [gL, gB]
  rw [c_ask1 hI hv, c_ws20, e1, hd.2.1]
  generalize lp_X0_copyPageAsked_25 k 257 ((gn &&& 1)).toInt32 (v <<< ((8 : Int32) &&& (31 : Int32))) 0 S = R at hd
  exact ⟨rfl, hd.2.2⟩
theorem c_ws22 (v : Int32) (T : gSt) : sp_X10_writeSound 22 v T = lp_X10_writeSound_161 3 22 v ((22 : Int32) >>> ((2 : Int32) &&& (31 : Int32))) 0 T := by
  unfold sp_X10_writeSound
  rw [if_pos (by decide : (16 : Int32) ≤ 22), if_neg (by decide : ¬ (22 : Int32) = 20), if_neg (by decide : ¬ (22 : Int32) = 21), if_pos rfl]
theorem h_putS (hI : Iv k S) (r : Nat) (hr : r < 24) {v : Int32} (hv : v &&& 255 = v) : Pt k c sp cr gn (if r = 20 then gL (sI S 26 v) (fun S1 => (((), S1) : Unit × gSt)) else (if r = 22 then (if (v &&& 1) = 1 then gB (sp_X6_setStrobe k true S) (fun (_ : Unit) S2 => ((), S2)) else gB (sp_X6_setStrobe k false S) (fun (_ : Unit) S3 => ((), S3))) else gB (sp_X8_store k (nI r) v S) (fun (_ : Unit) S6 => ((), S6)))).2 (gB (sp_X10_writeSound (nI r) v (ph k c sp cr gn S)) (fun (_ : Unit) S4 => ((), S4))) := by
  by_cases f20 : r = 20
  · subst f20
    rw [if_pos rfl]
    exact h_put20 hI hv
  rw [if_neg f20]
  by_cases f22 : r = 22
  · subst f22
    rw [if_pos rfl, show nI 22 = 22 from rfl, c_ws22]
    simp only [gB, h_strobe]
    by_cases g : v &&& 1 = 1
    · rw [if_pos g, decide_eq_true g]
      exact pt_of (iv_strobe hI true) rfl
    · rw [if_neg g, decide_eq_false g]
      exact pt_of (iv_strobe hI false) rfl
  rw [if_neg f22]
  unfold sp_X8_store
  simp only [gB]
  by_cases f21 : r = 21
  · subst f21
    obtain ⟨r1, r2⟩ := h_enable (c := c) (sp := sp) (cr := cr) (gn := gn) hI v
    rw [show nI 21 = 21 from rfl, if_pos rfl, r1]
    exact pt_of r2 rfl
  have n21 : ¬ nI r = (21 : Int32) := fun z => f21 ((nI_eq (a := r) (b := 21) (by omega) (by omega)).mp z)
  rw [if_neg n21]
  by_cases f23 : r = 23
  · subst f23
    obtain ⟨r1, r2⟩ := h_frame (c := c) (sp := sp) (cr := cr) (gn := gn) hI v
    rw [show nI 23 = 23 from rfl, if_pos rfl, r1]
    exact pt_of r2 rfl
  have n23 : ¬ nI r = (23 : Int32) := fun z => f23 ((nI_eq (a := r) (b := 23) (by omega) (by omega)).mp z)
  have n20 : ¬ nI r = (20 : Int32) := fun z => f20 ((nI_eq (a := r) (b := 20) (by omega) (by omega)).mp z)
  have n22 : ¬ nI r = (22 : Int32) := fun z => f22 ((nI_eq (a := r) (b := 22) (by omega) (by omega)).mp z)
  rw [if_neg n23]
  by_cases f16 : 16 ≤ r
  · have p16 : (16 : Int32) ≤ nI r := (nI_leI (a := 16) (by omega) (by omega)).mpr f16
    unfold sp_X10_writeSound
    rw [if_pos p16, if_pos p16, if_neg n20, if_neg n21, if_neg n22, if_neg n23]
    exact pt_of hI rfl
  · have p16 : ¬ (16 : Int32) ≤ nI r := fun z => f16 ((nI_leI (a := 16) (by omega) (by omega)).mp z)
    rw [if_neg p16]
    obtain ⟨r1, r2⟩ := h_channel (c := c) (sp := sp) (cr := cr) (gn := gn) hI r (by omega) v hv
    rw [r1]
    exact pt_of r2 rfl
theorem h_put (hI : Iv k S) (j : Nat) (hj : j < 65536) {v : Int32} (hv : v &&& 255 = v) : Pt k c sp cr gn (sp_X0_store k (nI j) v S).2 (sp_X10_put (nI j) v (ph k c sp cr gn S)) := by
  have c1 : (8192 : Int32) ≤ nI j ↔ 8192 ≤ j := nI_leI (a := 8192) (by omega) (by omega)
  have c2 : (16384 : Int32) ≤ nI j ↔ 16384 ≤ j := nI_leI (a := 16384) (by omega) (by omega)
  have c3 : (16408 : Int32) ≤ nI j ↔ 16408 ≤ j := nI_leI (a := 16408) (by omega) (by omega)
  have c4 : nI j < (32768 : Int32) ↔ j < 32768 := nI_ltI (b := 32768) (by omega) (by omega)
  have c5 : nI j < (24576 : Int32) ↔ j < 24576 := nI_ltI (b := 24576) (by omega) (by omega)
  have c8 : nI j = (16404 : Int32) ↔ j = 16404 := nI_eq (b := 16404) (by omega) (by omega)
  have c9 : nI j = (16406 : Int32) ↔ j = 16406 := nI_eq (b := 16406) (by omega) (by omega)
  unfold sp_X10_put sp_X0_store jn_X10_put_82
  simp only [c1, c2, c3, c4, c5, c8, c9, phz_mmc3]
  by_cases d1 : 8192 ≤ j
  · by_cases d2 : 16384 ≤ j
    · by_cases d3 : 16408 ≤ j
      · rw [if_pos d1, if_pos d1, if_pos d2, if_pos d2, if_pos d3, if_neg (show ¬ j = 16404 by omega), if_neg (show ¬ j = 16406 by omega), if_pos d3]
        by_cases d4 : j < 32768
        · rw [if_pos d4, if_pos d4, if_pos d4]
          by_cases d5 : j < 24576
          · rw [if_pos d5, if_pos d5]
            exact pt_of hI rfl
          · rw [if_neg d5, if_neg d5]
            simp only [gL, phs_own]
            exact pt_of (iv_aP 17 _ hI hv hI.2.2) rfl
        · rw [if_neg d4, if_neg d4, if_neg d4]
          cases k
          · rw [if_pos (by decide : bI false = 0)]
            obtain ⟨r1, r2⟩ := h_writeOne (c := c) (sp := sp) (cr := cr) (gn := gn) hI (nI j) v hv
            simp only [gB, r1]
            exact pt_of r2 rfl
          · rw [if_neg (by decide : ¬ bI true = 0)]
            obtain ⟨r1, r2⟩ := h_writeThree (c := c) (sp := sp) (cr := cr) (gn := gn) hI (nI j) v hv
            simp only [gB, r1]
            exact pt_of r2 rfl
      · rw [if_pos d1, if_pos d1, if_pos d2, if_pos d2, if_neg d3, if_neg d3]
        have e0 : nI j - 16384 = nI (j - 16384) := pk_sub (b := 16384) d2
        rw [e0]
        obtain ⟨r, hr, er⟩ : ∃ r, r < 24 ∧ j = 16384 + r := ⟨j - 16384, by omega, by omega⟩
        have e1 : j - 16384 = r := by omega
        have e2 : nI j &&& 31 = nI r := by
          rw [pk_andN (by omega) 5 (by decide)]
          exact congrArg nI (by omega)
        rw [e1, e2]
        have g20 : j = 16404 ↔ r = 20 := by omega
        have g22 : j = 16406 ↔ r = 22 := by omega
        simp only [g20, g22]
        exact h_putS hI r hr hv
    · rw [if_pos d1, if_pos d1, if_neg d2, if_neg d2]
      simp only [gB, h_writePicture hI]
      exact pt_of (iv_store7 hI _ hv) rfl
  · rw [if_neg d1, if_neg d1]
    simp only [gL, phs_ram]
    exact pt_of (iv_aP 16 _ hI hv hI.2.2) rfl
end PL
