section PZa
variable {k : Bool} {c sp : Int32} {cr : Bool} {gn : Int64} {S : gSt}
def it (f : gSt → gSt) : Nat → gSt → gSt
  | 0, S => S
  | n + 1, S => it f n (f S)
theorem it_s (f : gSt → gSt) (n : Nat) : ∀ S, it f (n + 1) S = f (it f n S) := by
  induction n with
  | zero => intro S; rfl
  | succ n ih =>
    intro S
    show it f (n + 1) (f S) = f (it f n (f S))
    exact ih (f S)
theorem it_add (f : gSt → gSt) (m : Nat) : ∀ (n : Nat) (S : gSt), it f (m + n) S = it f n (it f m S) := by
  induction m with
  | zero => intro n S; rw [Nat.zero_add]; rfl
  | succ m ih =>
    intro n S
    rw [Nat.succ_add]
    show it f (m + n) (f S) = it f n (it f m (f S))
    exact ih n (f S)
theorem it_com {f g : gSt → gSt} (h : ∀ S, f (g S) = g (f S)) (n : Nat) : ∀ S, it g n (f S) = f (it g n S) := by
  induction n with
  | zero => intro S; rfl
  | succ n ih =>
    intro S
    show it g n (g (f S)) = f (it g n (g S))
    rw [← h, ih]
def gi : Nat → Int64 → Int64
  | 0, g => g
  | n + 1, g => gi n (g + 1)
def tk (k : Bool) (S : gSt) : gSt := fC k (dC k (dC k (dC k S)))
theorem it_tk' {f d : gSt → gSt} (h : ∀ S, f (d S) = d (f S)) (n : Nat) : ∀ S, it (fun S => f (d (d (d S)))) n S = it f n (it d (3 * n) S) := by
  induction n with
  | zero => intro S; rfl
  | succ n ih =>
    intro S
    show it (fun S => f (d (d (d S)))) n (f (d (d (d S)))) = it f n (f (it d (3 * n) (d (d (d S)))))
    rw [ih, it_com h]
theorem it_tk (n : Nat) (S : gSt) : it (tk k) n S = it (fC k) n (it (dC k) (3 * n) S) := it_tk' (f := fC k) (d := dC k) fC_dC n S
theorem h_elL {n : Nat} (hn : n < 2 ^ 31) (m : Nat) : ∀ (i : Nat) (S : gSt) (gn : Int64), i + m = n → lp_X10_elapse_2 (m + 1) (nI n) (nI i) (ph k c sp cr gn S) = ((), ph k c sp cr (gi m gn) (it (tk k) m S)) := by
  induction m with
  | zero =>
    intro i S gn h
    rw [lp_X10_elapse_2, if_pos (nI_le (by omega) (by omega))]
    rfl
  | succ m ih =>
    intro i S gn h
    rw [lp_X10_elapse_2, if_neg (nI_ge (by omega) (by omega)), h_tick, gB, nI_1]
    exact ih (i + 1) (tk k S) (gn + 1) (by omega)
theorem h_elapse {n : Nat} (hn : n < 2 ^ 31) : sp_X10_elapse (nI n) (ph k c sp cr gn S) = ((), ph k c sp cr (gi n gn) (it (fC k) n (it (dC k) (3 * n) S))) := by
  unfold sp_X10_elapse
  rw [nI_clamp hn, ← it_tk]
  exact h_elL hn n 0 S gn (by omega)
end PZa
