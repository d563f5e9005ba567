section PT
variable {k : Bool} {c sp : Int32} {cr : Bool} {gn : Int64} {S : gSt}
theorem hi_w (w : Int32) : (w >>> ((8 : Int32) &&& (31 : Int32))) &&& 255 = ((w &&& 65535) >>> ((8 : Int32) &&& (31 : Int32))) &&& 255 := by
  apply b_ext
  intro i hi
  rw [b_and, b_and, b_255, b_sshr8 _ hi, b_sshr8 _ hi, b_and, b_and, b_65535, b_65535]
  by_cases h : i < 8
  · have h1 : 8 + i < 32 := by omega
    have h2 : 8 + i < 16 := by omega
    simp [h, h1, h2]
  · simp [h]
theorem lo_w (w : Int32) : w &&& 255 = (w &&& 65535) &&& 255 := by rw [Int32.and_assoc]; rfl
theorem pw_m (w : Int32) : sp_X2_pushWord k w S = sp_X2_pushWord k (w &&& 65535) S := by
  unfold sp_X2_pushWord
  rw [hi_w w, lo_w w]
theorem p32_push (v x : Int32) (S : gSt) : sp_X2_push k v (sI S 32 x) = ((), sI (sp_X2_push k v S).2 32 x) := by
  unfold sp_X2_push sp_X0_storeStack
  simp only [gB, gL]
  exact Prod.ext rfl (sI_comm (aP S 16 (256 ||| (S.1 30 &&& 255)) v) (show (32 : Nat) ≠ 30 by decide) x ((S.1 30 - 1) &&& 255))
theorem p32_pushWord (v x : Int32) (S : gSt) : sp_X2_pushWord k v (sI S 32 x) = ((), sI (sp_X2_pushWord k v S).2 32 x) := by
  unfold sp_X2_pushWord
  simp only [gB, p32_push]
theorem p32_enter (a w v x : Int32) (S : gSt) : (sp_X2_enter k a w v (sI S 32 x)).2 = (sp_X2_enter k a w v S).2 := by
  unfold sp_X2_enter
  simp only [gB, gL, p32_pushWord, p32_push]
  generalize (sp_X2_push k v (sp_X2_pushWord k w S).2).2 = U
  show sI (sI (sI U 32 x) 31 _) 32 _ = sI (sI U 31 _) 32 _
  rw [sI_comm U (show (32 : Nat) ≠ 31 by decide) x, sI_same]
  rfl
theorem mf_56 (T : gSt) : sp_X10_called 0 T = (7, (sp_X10_interrupt 65534 ((sI T 6 ((T.1 6 + 1) &&& 65535)).1 5 ||| 16) (sI T 6 ((T.1 6 + 1) &&& 65535))).2) := rfl
theorem pf_56 (x : Int32) (S : gSt) : sp_X2_perform k 56 0 x S = (0, (sp_X2_enter k 65534 (S.1 32 + 1) (S.1 31 ||| 16) S).2) := rfl
theorem en_m (a w v : Int32) (S : gSt) : sp_X2_enter k a w v S = sp_X2_enter k a (w &&& 65535) v S := by
  unfold sp_X2_enter
  rw [pw_m]
theorem ins_56 (hI : Iv k S) : Ins k c sp gn (sp_X10_called 0 (ph k c sp false gn S)) (CI k 56 0 7 S) := by
  have h0 := iv_33 hI 0
  rw [← phd_crossed k c sp false gn S 0]
  have hs : Iv k (sI (sI S 33 0) 32 (((sI S 33 0).1 32 + 1) &&& 65535)) := iv_sI 32 h0 (and_w _) h0.2.2
  have hi := h_interrupt (c := c) (sp := sp) (cr := false) (gn := gn) hs 65534 (by decide) (by decide) (v := (sI S 33 0).1 31 ||| 16) (or_m (iv_b h0 31 (m := 255) rfl) (by decide))
  have e : (sp_X2_enter k (nI 65534) ((sI (sI S 33 0) 32 (((sI S 33 0).1 32 + 1) &&& 65535)).1 32) ((sI S 33 0).1 31 ||| 16) (sI (sI S 33 0) 32 (((sI S 33 0).1 32 + 1) &&& 65535))).2 = (sp_X2_enter k 65534 ((sI S 33 0).1 32 + 1) ((sI S 33 0).1 31 ||| 16) (sI S 33 0)).2 := by
    rw [p32_enter, en_m _ ((sI S 33 0).1 32 + 1)]
    rfl
  rw [e] at hi
  refine ins_of (cr := false) (r := 7 + 0) ?_ (CI_of aC_0 (pf_56 0 _)) hi.2 (by decide)
  rw [mf_56, phr_pc, phw_pc, phr_p]
  have h1 := hi.1
  rw [show ((nI 65534 : Int32)) = 65534 from rfl] at h1
  rw [show ((sI (sI S 33 0) 32 (((sI S 33 0).1 32 + 1) &&& 65535)).1 31) = (sI S 33 0).1 31 from rfl, h1]
  rfl
theorem aC_9 : aC k 9 S = ((sp_X2_fetch k S).1 ||| ((sp_X2_fetch k (sp_X2_fetch k S).2).1 <<< ((8 : Int32) &&& (31 : Int32))), sI (sp_X2_fetch k (sp_X2_fetch k S).2).2 33 0) := by
  unfold aC
  rw [fo_2 9 (by decide) (by decide)]
  rfl
theorem aC_12 : aC k 12 S = sp_X2_wordWithinPage k ((sp_X2_fetch k S).1 ||| ((sp_X2_fetch k (sp_X2_fetch k S).2).1 <<< ((8 : Int32) &&& (31 : Int32)))) (sI (sp_X2_fetch k (sp_X2_fetch k S).2).2 33 0) := by
  unfold aC
  rw [fo_2 12 (by decide) (by decide)]
  rfl
theorem mf_53 (T : gSt) : sp_X10_called 1 T = (6, sI (sp_X10_pushWord (((sp_X10_fetchWord T).2.1 6 - 1) &&& 65535) (sp_X10_fetchWord T).2).2 6 (sp_X10_fetchWord T).1) := rfl
theorem pf_53 (m x : Int32) (S : gSt) : sp_X2_perform k 53 m x S = (0, sI (sp_X2_pushWord k (S.1 32 - 1) S).2 32 x) := rfl
theorem ins_53 (hI : Iv k S) : Ins k c sp gn (sp_X10_called 1 (ph k c sp false gn S)) (CI k 53 9 6 S) := by
  have hf := iv_fetch hI
  have hg := iv_fetch hf.1
  have h0 := iv_33 hg.1 0
  obtain ⟨w, hw, ew⟩ := wd_b hf.2 hg.2
  have hp := iv_pushWord h0 ((sI (sp_X2_fetch k (sp_X2_fetch k S).2).2 33 0).1 32 - 1)
  refine ins_of (cr := false) (r := 6 + 0) ?_ (CI_of aC_9 (pf_53 9 _ _)) (iv_sI 32 hp (by rw [ew]; exact nIw hw) hp.2.2) (by decide)
  rw [mf_53, h_fetchWord hI]
  simp only []
  rw [← phd_crossed k c sp false gn (sp_X2_fetch k (sp_X2_fetch k S).2).2 0, phr_pc, h_pushWord h0 (and_w _), ← pw_m, phw_pc]
  rfl
theorem mf_52 (T : gSt) : sp_X10_jump false T = (3, sI (sp_X10_fetchWord T).2 6 (sp_X10_fetchWord T).1) := rfl
theorem pf_52 (m x : Int32) (S : gSt) : sp_X2_perform k 52 m x S = (0, sI S 32 x) := rfl
theorem ins_52 (hI : Iv k S) : Ins k c sp gn (sp_X10_jump false (ph k c sp false gn S)) (CI k 52 9 3 S) := by
  have hf := iv_fetch hI
  have hg := iv_fetch hf.1
  have h0 := iv_33 hg.1 0
  obtain ⟨w, hw, ew⟩ := wd_b hf.2 hg.2
  refine ins_of (cr := false) (r := 3 + 0) ?_ (CI_of aC_9 (pf_52 9 _ _)) (iv_sI 32 h0 (by rw [ew]; exact nIw hw) h0.2.2) (by decide)
  rw [mf_52, h_fetchWord hI]
  simp only []
  rw [← phd_crossed k c sp false gn (sp_X2_fetch k (sp_X2_fetch k S).2).2 0, phw_pc]
  rfl
theorem mf_52i (T : gSt) : sp_X10_jump true T = (5, sI (sp_X10_get (((sp_X10_fetchWord T).1 &&& 65280) ||| (((sp_X10_fetchWord T).1 + 1) &&& 255)) (sp_X10_get (sp_X10_fetchWord T).1 (sp_X10_fetchWord T).2).2).2 6 ((sp_X10_get (sp_X10_fetchWord T).1 (sp_X10_fetchWord T).2).1 ||| ((sp_X10_get (((sp_X10_fetchWord T).1 &&& 65280) ||| (((sp_X10_fetchWord T).1 + 1) &&& 255)) (sp_X10_get (sp_X10_fetchWord T).1 (sp_X10_fetchWord T).2).2).1 <<< ((8 : Int32) &&& (31 : Int32))))) := rfl
theorem wp_n (x y : Int32) : ∃ j : Nat, j < 65536 ∧ (x &&& 65280) ||| (y &&& 255) = nI j := by
  have e : ((x &&& 65280) ||| (y &&& 255)) &&& 65535 = (x &&& 65280) ||| (y &&& 255) := by rw [and_or, Int32.and_assoc, Int32.and_assoc]; rfl
  rw [← e]
  exact nI_mod _
theorem h_wwp (hI : Iv k S) {j : Nat} (hj : j < 65536) : sp_X10_get (((nI j) &&& 65280) ||| ((nI j + 1) &&& 255)) (sp_X10_get (nI j) (ph k c sp cr gn S)).2 = ((sp_X0_load k (((nI j) &&& 65280) ||| ((nI j + 1) &&& 255)) (sp_X0_load k (nI j) S).2).1, ph k c sp cr gn (sp_X2_wordWithinPage k (nI j) S).2) ∧ (sp_X10_get (nI j) (ph k c sp cr gn S)).1 = (sp_X0_load k (nI j) S).1 := by
  obtain ⟨q, hq, e⟩ := wp_n (nI j) (nI j + 1)
  have hL := iv_Load hI (nI j)
  unfold sp_X2_wordWithinPage
  simp only [gB]
  rw [h_get hI j hj, e]
  simp only []
  rw [h_get hL.1 q hq]
  exact ⟨rfl, trivial⟩
theorem ins_52i (hI : Iv k S) : Ins k c sp gn (sp_X10_jump true (ph k c sp false gn S)) (CI k 52 12 5 S) := by
  have hf := iv_fetch hI
  have hg := iv_fetch hf.1
  have h0 := iv_33 hg.1 0
  obtain ⟨w, hw, ew⟩ := wd_b hf.2 hg.2
  obtain ⟨hI2, j, hj, ej⟩ := iv_wwp h0 (nI w)
  have hh := h_wwp (c := c) (sp := sp) (cr := false) (gn := gn) h0 hw
  refine ins_of (cr := false) (r := 5 + 0) (S2 := sI (sp_X2_wordWithinPage k (nI w) (sI (sp_X2_fetch k (sp_X2_fetch k S).2).2 33 0)).2 32 (sp_X2_wordWithinPage k (nI w) (sI (sp_X2_fetch k (sp_X2_fetch k S).2).2 33 0)).1) ?_ (CI_of (by rw [aC_12, ew]) (pf_52 12 _ _)) (iv_sI 32 hI2 (by rw [ej]; exact nIw hj) hI2.2.2) (by decide)
  rw [mf_52i, h_fetchWord hI]
  simp only []
  rw [ew, ← phd_crossed k c sp false gn (sp_X2_fetch k (sp_X2_fetch k S).2).2 0, hh.1, hh.2, phw_pc]
  rfl
/-- the reference behind the fetch of its opcode r at the place p -/
def mBody (p r : Int32) (T : gSt) : Int32 × gSt := (if (r &&& 3) = 1 then (if r = 137 then jn_X10_perform_118 p r (r >>> ((5 : Int32) &&& (31 : Int32))) ((r >>> ((2 : Int32) &&& (31 : Int32))) &&& 7) (-1) T else gB (sp_X10_modeOne ((r >>> ((2 : Int32) &&& (31 : Int32))) &&& 7) T) (fun r7 S7 => gB (sp_X10_arithmetic (r >>> ((5 : Int32) &&& (31 : Int32))) r7 S7) (fun r8 S8 => jn_X10_perform_118 p r (r >>> ((5 : Int32) &&& (31 : Int32))) ((r >>> ((2 : Int32) &&& (31 : Int32))) &&& 7) r8 S8))) else jn_X10_perform_118 p r (r >>> ((5 : Int32) &&& (31 : Int32))) ((r >>> ((2 : Int32) &&& (31 : Int32))) &&& 7) (-1) T)
/-- the class behind the fetch of its opcode r at the place p -/
def cBody (k : Bool) (p r : Int32) (S : gSt) : Int32 × gSt := (if (tOP (r &&& 255).toNatClampNeg) = 0 then ((tCY (r &&& 255).toNatClampNeg) + 0, sI S 32 p) else CI k (tOP (r &&& 255).toNatClampNeg) (tMO (r &&& 255).toNatClampNeg) (tCY (r &&& 255).toNatClampNeg) S)
def fin (p : Int32) (R : Int32 × gSt) : Int32 × gSt := (if R.1 ≤ 0 then (2, sI R.2 6 p) else R)
theorem ins_fin {p : Int32} {MR CR : Int32 × gSt} (h : Ins k c sp gn MR CR) : Ins k c sp gn (fin p MR) CR := by
  have h2 := h
  obtain ⟨⟨cr, e⟩, hI, hp⟩ := h2
  unfold fin
  rw [if_neg (show ¬ MR.1 ≤ 0 from by rw [e]; exact Int32.not_le.mpr hp)]
  exact h
theorem ins_un (hI : Iv k S) {p : Int32} (hp : p &&& 65535 = p) : Ins k c sp gn (2, sI (ph k c sp false gn S) 6 p) (2 + 0, sI S 32 p) := ins_of (cr := false) (r := 2) (by rw [phw_pc]) rfl (iv_sI 32 hI hp hI.2.2) (by decide)
def Io (k : Bool) (n : Int32) : Prop := ∀ (c sp : Int32) (gn : Int64) (S : gSt) (p : Int32), Iv k S → p &&& 65535 = p → Ins k c sp gn (mBody p n (ph k c sp false gn S)) (cBody k p n S)
end PT
