section PJ
variable {k : Bool} {c sp : Int32} {cr : Bool} {gn : Int64} {S : gSt}
theorem hal_1 : ∀ h, h < 16 → ∀ q, q < 4 → ∀ i, i < 4 → (if i = q then (1 : Int32) else ((nI h) >>> (Int32.ofNat i &&& 31)) &&& 1) = ((nI h ||| ((1 : Int32) <<< ((nI q) &&& (31 : Int32)))) >>> (Int32.ofNat i &&& 31)) &&& 1 := by decide +kernel
theorem hal_0 : ∀ h, h < 16 → ∀ q, q < 4 → ∀ i, i < 4 → (if i = q then (0 : Int32) else ((nI h) >>> (Int32.ofNat i &&& 31)) &&& 1) = ((nI h &&& (((1 : Int32) <<< ((nI q) &&& (31 : Int32))) ^^^ (-1))) >>> (Int32.ofNat i &&& 31)) &&& 1 := by decide +kernel
theorem phH_up {h : Nat} (hh : h < 16) {q : Nat} (hq : q < 4) (v w : Int32) (hv : ∀ i, i < 4 → (if i = q then v else ((nI h) >>> (Int32.ofNat i &&& 31)) &&& 1) = (w >>> (Int32.ofNat i &&& 31)) &&& 1) : upd (phH (nI h)) (nI q).toNatClampNeg v = phH w := by
  rw [nI_clamp (by omega)]
  funext i
  unfold phH
  by_cases hi : i < 4
  · rw [if_pos hi, ← hv i hi]
    by_cases e : i = q
    · subst e; rw [pk_us, if_pos rfl]
    · rw [pk_un e, if_pos hi, if_neg e]
  · rw [if_neg hi, pk_un (by omega), if_neg hi]
theorem phs_halts1 (hI : Iw k S) {q : Nat} (hq : q < 4) : aP (ph k c sp cr gn S) 10 (nI q) 1 = ph k c sp cr gn (sI S 23 ((S.1 23) ||| ((1 : Int32) <<< ((nI q) &&& (31 : Int32))))) := by
  obtain ⟨h, hh, e⟩ := by_m (x := S.1 23) (m := 15) 4 (by decide) (hI.1 23)
  have hx : upd (phH (S.1 23)) (nI q).toNatClampNeg 1 = phH ((S.1 23) ||| ((1 : Int32) <<< ((nI q) &&& (31 : Int32)))) := by rw [e]; exact phH_up hh hq _ _ (hal_1 h hh q hq)
  exact ph_ext (fun i => match i with
    | 0 => rfl
    | 1 => rfl
    | 2 => rfl
    | 3 => rfl
    | 4 => rfl
    | 5 => rfl
    | 6 => rfl
    | 7 => rfl
    | 8 => rfl
    | 9 => rfl
    | 10 => rfl
    | 11 => rfl
    | 12 => rfl
    | 13 => rfl
    | 14 => rfl
    | 15 => rfl
    | 16 => rfl
    | 17 => rfl
    | 18 => rfl
    | 19 => rfl
    | 20 => rfl
    | 21 => rfl
    | 22 => rfl
    | 23 => rfl
    | 24 => rfl
    | 25 => rfl
    | 26 => rfl
    | 27 => rfl
    | 28 => rfl
    | 29 => rfl
    | 30 => rfl
    | 31 => rfl
    | 32 => rfl
    | 33 => rfl
    | n + 34 => rfl) (fun _ => rfl) (fun _ => rfl) (fun i => match i with
    | 0 => rfl
    | 1 => rfl
    | 2 => rfl
    | 3 => rfl
    | 4 => rfl
    | 5 => rfl
    | 6 => rfl
    | 7 => rfl
    | 8 => rfl
    | 9 => rfl
    | 10 => hx
    | 11 => rfl
    | 12 => rfl
    | n + 13 => rfl)
theorem phs_halts0 (hI : Iw k S) {q : Nat} (hq : q < 4) : aP (ph k c sp cr gn S) 10 (nI q) 0 = ph k c sp cr gn (sI S 23 ((S.1 23) &&& (((1 : Int32) <<< ((nI q) &&& (31 : Int32))) ^^^ (-1)))) := by
  obtain ⟨h, hh, e⟩ := by_m (x := S.1 23) (m := 15) 4 (by decide) (hI.1 23)
  have hx : upd (phH (S.1 23)) (nI q).toNatClampNeg 0 = phH ((S.1 23) &&& (((1 : Int32) <<< ((nI q) &&& (31 : Int32))) ^^^ (-1))) := by rw [e]; exact phH_up hh hq _ _ (hal_0 h hh q hq)
  exact ph_ext (fun i => match i with
    | 0 => rfl
    | 1 => rfl
    | 2 => rfl
    | 3 => rfl
    | 4 => rfl
    | 5 => rfl
    | 6 => rfl
    | 7 => rfl
    | 8 => rfl
    | 9 => rfl
    | 10 => rfl
    | 11 => rfl
    | 12 => rfl
    | 13 => rfl
    | 14 => rfl
    | 15 => rfl
    | 16 => rfl
    | 17 => rfl
    | 18 => rfl
    | 19 => rfl
    | 20 => rfl
    | 21 => rfl
    | 22 => rfl
    | 23 => rfl
    | 24 => rfl
    | 25 => rfl
    | 26 => rfl
    | 27 => rfl
    | 28 => rfl
    | 29 => rfl
    | 30 => rfl
    | 31 => rfl
    | 32 => rfl
    | 33 => rfl
    | n + 34 => rfl) (fun _ => rfl) (fun _ => rfl) (fun i => match i with
    | 0 => rfl
    | 1 => rfl
    | 2 => rfl
    | 3 => rfl
    | 4 => rfl
    | 5 => rfl
    | 6 => rfl
    | 7 => rfl
    | 8 => rfl
    | 9 => rfl
    | 10 => hx
    | 11 => rfl
    | 12 => rfl
    | n + 13 => rfl)
theorem hal_m : ∀ h, h < 16 → ∀ q, q < 4 → (nI h ||| ((1 : Int32) <<< ((nI q) &&& (31 : Int32)))) &&& 15 = nI h ||| ((1 : Int32) <<< ((nI q) &&& (31 : Int32))) ∧ (nI h &&& (((1 : Int32) <<< ((nI q) &&& (31 : Int32))) ^^^ (-1))) &&& 15 = nI h &&& (((1 : Int32) <<< ((nI q) &&& (31 : Int32))) ^^^ (-1)) := by decide +kernel
theorem en_q : ∀ h, h < 16 → ∀ q, q < 4 → (((nI h) >>> ((nI q) &&& (31 : Int32))) &&& 1 = 1 ↔ ¬ (nI h &&& ((1 : Int32) <<< ((nI q) &&& (31 : Int32)))) = 0) := by decide +kernel
theorem len_n : ∀ j, j < 32 → (if nI j = 0 then (10 : Int32) else (if nI j = 1 then 254 else (if nI j = 2 then 20 else (if nI j = 3 then nI j - 1 else (if nI j = 4 then 40 else (if nI j = 5 then nI j - 1 else (if nI j = 6 then 80 else (if nI j = 7 then nI j - 1 else (if nI j = 8 then 160 else (if nI j = 9 then nI j - 1 else (if nI j = 10 then 60 else (if nI j = 11 then nI j - 1 else (if nI j = 12 then 14 else (if nI j = 13 then nI j - 1 else (if nI j = 14 then 26 else (if nI j = 15 then nI j - 1 else (if nI j = 16 then 12 else (if nI j = 17 then nI j - 1 else (if nI j = 18 then 24 else (if nI j = 19 then nI j - 1 else (if nI j = 20 then 48 else (if nI j = 21 then nI j - 1 else (if nI j = 22 then 96 else (if nI j = 23 then nI j - 1 else (if nI j = 24 then 192 else (if nI j = 25 then nI j - 1 else (if nI j = 26 then 72 else (if nI j = 27 then nI j - 1 else (if nI j = 28 then 16 else (if nI j = 29 then nI j - 1 else (if nI j = 30 then 32 else nI j - 1))))))))))))))))))))))))))))))) = tLE j ∧ tLE j &&& 255 = tLE j := by decide +kernel
theorem h_lengthOf {j : Nat} (hj : j < 32) (T : gSt) : sp_X10_lengthOf (nI j) T = (tLE j, T) := by
  unfold sp_X10_lengthOf
  simp only [ip]
  rw [(len_n j hj).1]
theorem h_channel (hI : Iv k S) (r : Nat) (hr : r < 16) (v : Int32) (hv : v &&& 255 = v) : sp_X10_writeSound (nI r) v (ph k c sp cr gn S) = ((), ph k c sp cr gn (sp_X8_storeChannel k (((nI r) >>> ((2 : Int32) &&& (31 : Int32))) &&& 3) ((nI r) &&& 3) v S).2) ∧ Iv k (sp_X8_storeChannel k (((nI r) >>> ((2 : Int32) &&& (31 : Int32))) &&& 3) ((nI r) &&& 3) v S).2 := by
  have hW := iw_of hI
  obtain ⟨h, hh, eh⟩ := by_m (x := S.1 23) (m := 15) 4 (by decide) (hI.1 23)
  obtain ⟨en, hen, een⟩ := by_m (x := S.1 24) (m := 15) 4 (by decide) (hI.1 24)
  obtain ⟨w, hw, ew⟩ := by_of hv
  have e1 : (nI r) >>> ((2 : Int32) &&& (31 : Int32)) = nI (r / 4) := pk_shrN (by omega) _ 2 (by decide)
  have e2 : nI (r / 4) &&& 3 = nI (r / 4) := (by decide +kernel : ∀ q, q < 4 → nI q &&& 3 = nI q) _ (by omega)
  have e3 : (nI r) &&& 3 = nI (r % 4) := pk_andN (by omega) 2 (by decide)
  have hq : r / 4 < 4 := by omega
  have hs : v >>> ((3 : Int32) &&& (31 : Int32)) = nI (w / 8) := by rw [ew]; exact pk_shrN (by omega) _ 3 (by decide)
  have hs2 : nI (w / 8) &&& 31 = nI (w / 8) := (by decide +kernel : ∀ q, q < 32 → nI q &&& 31 = nI q) _ (by omega)
  unfold sp_X10_writeSound sp_X8_storeChannel
  rw [e1, e2, e3, if_neg (show ¬ (16 : Int32) ≤ nI r from fun z => by have := (nI_leI (a := 16) (b := r) (by omega) (by omega)).mp z; omega)]
  generalize hqq : r / 4 = q at hq
  have hm := hal_m h hh q hq
  rw [← eh] at hm
  have i1 : Iv k (sI S 23 ((S.1 23) ||| ((1 : Int32) <<< ((nI q) &&& (31 : Int32))))) := iv_sI 23 hI hm.1 hI.2.2
  have i0 : Iv k (sI S 23 ((S.1 23) &&& (((1 : Int32) <<< ((nI q) &&& (31 : Int32))) ^^^ (-1)))) := iv_sI 23 hI hm.2 hI.2.2
  rcases (show r % 4 = 0 ∨ r % 4 = 3 ∨ (r % 4 ≠ 0 ∧ r % 4 ≠ 3) by omega) with f | f | f
  · unfold jn_X10_writeSound_45
    rw [e3, f, if_pos (show nI 0 = 0 from rfl), if_pos (show nI 0 = 0 from rfl)]
    simp only [gL, phs_halts0 hW hq, phs_halts1 hW hq, if_neg (show ¬ nI 0 = (3 : Int32) by decide)]
    by_cases g2 : nI q = 2
    · simp only [if_pos g2]
      split
      · exact ⟨rfl, i0⟩
      · exact ⟨rfl, i1⟩
    · simp only [if_neg g2]
      split
      · exact ⟨rfl, i0⟩
      · exact ⟨rfl, i1⟩
  · unfold jn_X10_writeSound_45
    rw [e3, f, if_neg (show ¬ nI 3 = (0 : Int32) by decide), if_neg (show ¬ nI 3 = (0 : Int32) by decide), if_pos (show nI 3 = (3 : Int32) by decide), if_pos (show nI 3 = (3 : Int32) by decide)]
    simp only [phr_enabled, hs, hs2, h_lengthOf (show w / 8 < 32 by omega), gB, gL, phs_lengths, e2, nI_clamp (show w / 8 < 2 ^ 31 by omega)]
    have he := en_q en hen q hq
    rw [← een] at he
    have e4 : nI q &&& 3 = nI q := (by decide +kernel : ∀ q, q < 4 → nI q &&& 3 = nI q) q hq
    by_cases g : (S.1 24 &&& ((1 : Int32) <<< ((nI q) &&& (31 : Int32)))) = 0
    · rw [if_pos g, if_neg (fun z => he.mp z g)]
      exact ⟨rfl, hI⟩
    · rw [if_neg g, if_pos (he.mpr g), e4]
      exact ⟨rfl, iv_aP 11 _ hI (len_n (w / 8) (by omega)).2 hI.2.2⟩
  · unfold jn_X10_writeSound_45
    have n0 : ¬ nI (r % 4) = (0 : Int32) := fun z => f.1 ((nI_eq (a := r % 4) (b := 0) (by omega) (by omega)).mp z)
    have n3 : ¬ nI (r % 4) = (3 : Int32) := fun z => f.2 ((nI_eq (a := r % 4) (b := 3) (by omega) (by omega)).mp z)
    rw [e3, if_neg n0, if_neg n0, if_neg n3, if_neg n3]
    exact ⟨rfl, hI⟩
end PJ
