section PA
variable {k : Bool} {c sp : Int32} {cr : Bool} {gn : Int64} {S : gSt}
theorem h_flag (b : Int32) (on : Bool) : sp_X10_flag b on (ph k c sp cr gn S) = ((), ph k c sp cr gn (sp_X2_setFlag k b on S).2) := by
  unfold sp_X10_flag sp_X2_setFlag
  split <;> simp only [gL, phr_p, phw_p]
theorem h_judged1 (v : Int32) : (sp_X2_judged k v S).1 = v &&& 255 := by
  unfold sp_X2_judged
  simp only [gB]
  split <;> split <;> rfl
theorem h_shown (v : Int32) : sp_X10_shown (v &&& 255) (ph k c sp cr gn S) = (v &&& 255, ph k c sp cr gn (sp_X2_judged k v S).2) := by
  unfold sp_X10_shown sp_X2_judged
  simp only [h_flag, gB]
  split <;> split <;> rfl
theorem h_shownB {v : Int32} (hv : v &&& 255 = v) : sp_X10_shown v (ph k c sp cr gn S) = (v, ph k c sp cr gn (sp_X2_judged k v S).2) := by
  have h := h_shown (k := k) (c := c) (sp := sp) (cr := cr) (gn := gn) (S := S) v
  rwa [hv] at h
theorem h_compare (r v : Int32) : sp_X10_compare r v (ph k c sp cr gn S) = ((), ph k c sp cr gn (sp_X2_compare k r v S).2) := by
  unfold sp_X10_compare sp_X2_compare
  simp only [h_flag, gB, h_shown]
  split <;> rfl
theorem bit_v (a v s : Int32) : ((a ^^^ v) ^^^ (-1)) &&& (a ^^^ s) = (a ^^^ s) &&& (v ^^^ s) := by
  apply b_ext
  intro i hi
  simp only [b_and, b_xor, b_m1 i hi]
  cases bt a i <;> cases bt v i <;> cases bt s i <;> rfl
theorem h_setFlag_a (b : Int32) (on : Bool) : (sp_X2_setFlag k b on S).2.1 27 = S.1 27 := by
  unfold sp_X2_setFlag
  split <;> rfl
theorem h_add (v : Int32) : sp_X10_add v (ph k c sp cr gn S) = ((), ph k c sp cr gn (sp_X2_add k v S).2) := by
  unfold sp_X10_add sp_X2_add
  simp only [h_flag, gB, gL, phr_a, phr_p, h_shown, h_judged1, h_setFlag_a, bit_v, phw_a]
  split <;> split <;> rfl
end PA
