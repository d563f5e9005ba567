section PZk
theorem w_sp_word (a0 : Int32) {S : gSt} (hW : Wv S) : OW (ok_X10_word a0 S) (sp_X10_word a0 S) (fun r => r &&& 65535 = r) := by
  unfold ok_X10_word sp_X10_word
  exact ow_B (w_sp_get _ hW) (fun r1 S1 hr1 wS1 => ow_B (w_sp_get _ wS1) (fun r2 S2 hr2 wS2 => ow_r wS2 (by_or (by_wd hr1) (by_w8 hr2))))
theorem w_jn_tick_226 (x1 : Int32) {S : gSt} (hW : Wv S) : OW (ok_jn_X10_tick_226 x1 S) (jn_X10_tick_226 x1 S) (fun _ => True) := by
  unfold ok_jn_X10_tick_226 jn_X10_tick_226
  exact ow_if (fun c121 => ow_if (fun c122 => ow_if (fun c123 => ow_L (w_I hW (by decide)) (fun S4 eS4 wS4 => ow_if (fun c124 => ow_r wS4 trivial) (fun c124 => ow_L (w_I wS4 Int32.and_neg_one) (fun S5 eS5 wS5 => ow_r wS5 trivial)))) (fun c123 => ow_if (fun c125 => ow_r hW trivial) (fun c125 => ow_L (w_I hW Int32.and_neg_one) (fun S6 eS6 wS6 => ow_r wS6 trivial)))) (fun c122 => ow_if (fun c126 => ow_r hW trivial) (fun c126 => ow_L (w_I hW Int32.and_neg_one) (fun S7 eS7 wS7 => ow_r wS7 trivial)))) (fun c121 => ow_if (fun c127 => ow_r hW trivial) (fun c127 => ow_L (w_I hW Int32.and_neg_one) (fun S8 eS8 wS8 => ow_r wS8 trivial)))
theorem w_jn_tick_222 (x1 : Int32) {S : gSt} (hW : Wv S) : OW (ok_jn_X10_tick_222 x1 S) (jn_X10_tick_222 x1 S) (fun _ => True) := by
  unfold ok_jn_X10_tick_222 jn_X10_tick_222
  exact ow_B (w_sp_count hW) (fun _ S3 _ wS3 => w_jn_tick_226 _ wS3)
theorem w_jn_tick_172 (x1 : Int32) {K : gSt → Unit × gSt} {oK : gSt → Prop} (hK : ∀ T, Wv T → OW (oK T) (K T) (fun _ => True)) {S : gSt} (hW : Wv S) : OW (ok_jn_X10_tick_172 x1 oK S) (jn_X10_tick_172 x1 K S) (fun _ => True) := hK S hW
theorem w_jn_tick_158 (x1 : Int32) {K : gSt → Unit × gSt} {oK : gSt → Prop} (hK : ∀ T, Wv T → OW (oK T) (K T) (fun _ => True)) {S : gSt} (hW : Wv S) : OW (ok_jn_X10_tick_158 x1 oK S) (jn_X10_tick_158 x1 K S) (fun _ => True) := by
  unfold ok_jn_X10_tick_158 jn_X10_tick_158
  exact ow_if (fun c128 => w_jn_tick_172 _ hK hW) (fun c128 => ow_B (w_sp_tellLine hW) (fun _ S14 _ wS14 => w_jn_tick_172 _ hK wS14))
theorem w_jn_tick_128 (x1 : Int32) {K : gSt → Unit × gSt} {oK : gSt → Prop} (hK : ∀ T, Wv T → OW (oK T) (K T) (fun _ => True)) {S : gSt} (hW : Wv S) : OW (ok_jn_X10_tick_128 x1 oK S) (jn_X10_tick_128 x1 K S) (fun _ => True) := by
  unfold ok_jn_X10_tick_128 jn_X10_tick_128
  exact ow_if (fun c129 => ow_if (fun c130 => w_jn_tick_158 _ hK hW) (fun c130 => ow_if (fun c131 => w_jn_tick_158 _ hK hW) (fun c131 => w_jn_tick_172 _ hK hW))) (fun c129 => w_jn_tick_172 _ hK hW)
theorem w_jn_tick_105 (x1 : Int32) {K : gSt → Unit × gSt} {oK : gSt → Prop} (hK : ∀ T, Wv T → OW (oK T) (K T) (fun _ => True)) {S : gSt} (hW : Wv S) : OW (ok_jn_X10_tick_105 x1 oK S) (jn_X10_tick_105 x1 K S) (fun _ => True) := by
  unfold ok_jn_X10_tick_105 jn_X10_tick_105
  exact ow_if (fun c132 => ow_if (fun c133 => ow_L (w_I hW (by decide)) (fun S13 eS13 wS13 => w_jn_tick_128 _ hK wS13)) (fun c133 => w_jn_tick_128 _ hK hW)) (fun c132 => w_jn_tick_128 _ hK hW)
theorem w_jn_tick_66 (x1 : Int32) {K : gSt → Unit × gSt} {oK : gSt → Prop} (hK : ∀ T, Wv T → OW (oK T) (K T) (fun _ => True)) {S : gSt} (hW : Wv S) : OW (ok_jn_X10_tick_66 x1 oK S) (jn_X10_tick_66 x1 K S) (fun _ => True) := by
  unfold ok_jn_X10_tick_66 jn_X10_tick_66
  exact ow_if (fun c134 => ow_if (fun c135 => ow_L (w_I hW (by decide)) (fun S12 eS12 wS12 => ow_if (fun c136 => w_jn_tick_105 _ hK wS12) (fun c136 => ow_L (w_Z wS12) (fun S15 eS15 wS15 => w_jn_tick_105 _ hK wS15)))) (fun c135 => w_jn_tick_105 _ hK hW)) (fun c134 => w_jn_tick_105 _ hK hW)
theorem w_lp_tick_12 (n : Nat) : ∀ (x1 : Int32) (S : gSt), Wv S → OW (ok_lp_X10_tick_12 n x1 S) (lp_X10_tick_12 n x1 S) (fun _ => True) := by
  induction n with
  | zero => intro x1 S hW; exact ⟨trivial, hW, trivial⟩
  | succ n ih =>
    intro x1 S hW
    rw [ok_lp_X10_tick_12, lp_X10_tick_12]
    exact ow_if (fun c137 => ow_L (w_I hW Int32.and_neg_one) (fun S2 eS2 wS2 => ow_if (fun c138 => ow_if (fun c139 => w_jn_tick_222 _ wS2) (fun c139 => ow_if (fun c140 => w_jn_tick_222 _ wS2) (fun c140 => w_jn_tick_226 _ wS2))) (fun c138 => ow_if (fun c141 => w_jn_tick_222 _ wS2) (fun c141 => ow_if (fun c142 => w_jn_tick_222 _ wS2) (fun c142 => w_jn_tick_226 _ wS2))))) (fun c137 => ow_L (w_I hW Int32.and_neg_one) (fun S9 eS9 wS9 => ow_if (fun c143 => ow_L (w_I wS9 Int32.and_neg_one) (fun S10 eS10 wS10 => ow_if (fun c144 => ow_L (w_I wS10 Int32.and_neg_one) (fun S11 eS11 wS11 => w_jn_tick_66 _ (fun T hT => ih _ _ hT) wS11)) (fun c144 => ow_L (w_I wS10 Int32.and_neg_one) (fun S16 eS16 wS16 => w_jn_tick_66 _ (fun T hT => ih _ _ hT) wS16)))) (fun c143 => w_jn_tick_66 _ (fun T hT => ih _ _ hT) wS9)))
theorem w_sp_tick {S : gSt} (hW : Wv S) : OW (ok_X10_tick S) (sp_X10_tick S) (fun _ => True) := by
  unfold ok_X10_tick sp_X10_tick
  exact ow_L (w_J hW) (fun T hT hw => w_lp_tick_12 4 0 T hw)
theorem w_lp_elapse_2 (n : Nat) : ∀ (x1 x2 : Int32) (S : gSt), Wv S → OW (ok_lp_X10_elapse_2 n x1 x2 S) (lp_X10_elapse_2 n x1 x2 S) (fun _ => True) := by
  induction n with
  | zero => intro x1 x2 S hW; exact ⟨trivial, hW, trivial⟩
  | succ n ih =>
    intro x1 x2 S hW
    rw [ok_lp_X10_elapse_2, lp_X10_elapse_2]
    exact ow_if (fun c145 => ow_r hW trivial) (fun c145 => ow_B (w_sp_tick hW) (fun _ S1 _ wS1 => ih _ _ _ wS1))
theorem w_sp_elapse (a0 : Int32) {S : gSt} (hW : Wv S) : OW (ok_X10_elapse a0 S) (sp_X10_elapse a0 S) (fun _ => True) := w_lp_elapse_2 _ a0 0 S hW
theorem w_sp_fetch {S : gSt} (hW : Wv S) : OW (ok_X10_fetch  S) (sp_X10_fetch  S) (fun r => r &&& 255 = r) := by
  unfold ok_X10_fetch sp_X10_fetch
  exact ow_B (w_sp_get _ hW) (fun r1 S1 hr1 wS1 => ow_L (w_I wS1 (by_ar (by decide))) (fun S2 eS2 wS2 => ow_r wS2 hr1))
theorem w_sp_fetchWord {S : gSt} (hW : Wv S) : OW (ok_X10_fetchWord  S) (sp_X10_fetchWord  S) (fun r => r &&& 65535 = r) := by
  unfold ok_X10_fetchWord sp_X10_fetchWord
  exact ow_B (w_sp_fetch hW) (fun r1 S1 hr1 wS1 => ow_B (w_sp_fetch wS1) (fun r2 S2 hr2 wS2 => ow_r wS2 (by_or (by_wd hr1) (by_w8 hr2))))
theorem w_sp_push (a0 : Int32) {S : gSt} (hW : Wv S) (ha0 : a0 &&& 255 = a0) : OW (ok_X10_push a0 S) (sp_X10_push a0 S) (fun _ => True) := by
  unfold ok_X10_push sp_X10_push
  exact ow_i (in_s (w_b hW rfl)) (ow_L (w_A hW ha0) (fun S1 eS1 wS1 => ow_L (w_I wS1 (by_ar (by decide))) (fun S2 eS2 wS2 => ow_r wS2 trivial)))
theorem w_sp_pull {S : gSt} (hW : Wv S) : OW (ok_X10_pull  S) (sp_X10_pull  S) (fun r => r &&& 255 = r) := by
  unfold ok_X10_pull sp_X10_pull
  exact ow_L (w_I hW (by_ar (by decide))) (fun S1 eS1 wS1 => ow_i (in_s (w_b wS1 rfl)) (ow_r wS1 (w_g wS1 rfl)))
theorem w_sp_pushWord (a0 : Int32) {S : gSt} (hW : Wv S) (ha0 : a0 &&& 65535 = a0) : OW (ok_X10_pushWord a0 S) (sp_X10_pushWord a0 S) (fun _ => True) := by
  unfold ok_X10_pushWord sp_X10_pushWord
  exact ow_B (w_sp_push _ hW (by_hi ha0)) (fun _ S1 _ wS1 => ow_B (w_sp_push _ wS1 (by_ar (by decide))) (fun _ S2 _ wS2 => ow_r wS2 trivial))
theorem w_sp_pullWord {S : gSt} (hW : Wv S) : OW (ok_X10_pullWord  S) (sp_X10_pullWord  S) (fun r => r &&& 65535 = r) := by
  unfold ok_X10_pullWord sp_X10_pullWord
  exact ow_B (w_sp_pull hW) (fun r1 S1 hr1 wS1 => ow_B (w_sp_pull wS1) (fun r2 S2 hr2 wS2 => ow_r wS2 (by_or (by_wd hr1) (by_w8 hr2))))
theorem w_sp_flag (a0 : Int32) (a1 : Bool) {S : gSt} (hW : Wv S) (ha0 : a0 &&& 255 = a0) : OW (ok_X10_flag a0 a1 S) (sp_X10_flag a0 a1 S) (fun _ => True) := by
  unfold ok_X10_flag sp_X10_flag
  exact ow_if (fun c146 => ow_L (w_I hW (and_l (w_b hW rfl))) (fun S1 eS1 wS1 => ow_r wS1 trivial)) (fun c146 => ow_L (w_I hW (by_or (w_b hW rfl) ha0)) (fun S2 eS2 wS2 => ow_r wS2 trivial))
theorem w_sp_shown (a0 : Int32) {S : gSt} (hW : Wv S) (ha0 : a0 &&& 255 = a0) : OW (ok_X10_shown a0 S) (sp_X10_shown a0 S) (fun r => r &&& 255 = r) := by
  unfold ok_X10_shown sp_X10_shown
  exact ow_if (fun c147 => ow_B (w_sp_flag _ _ hW (by decide)) (fun _ S1 _ wS1 => ow_if (fun c148 => ow_B (w_sp_flag _ _ wS1 (by decide)) (fun _ S2 _ wS2 => ow_r wS2 ha0)) (fun c148 => ow_B (w_sp_flag _ _ wS1 (by decide)) (fun _ S3 _ wS3 => ow_r wS3 ha0)))) (fun c147 => ow_B (w_sp_flag _ _ hW (by decide)) (fun _ S4 _ wS4 => ow_if (fun c149 => ow_B (w_sp_flag _ _ wS4 (by decide)) (fun _ S5 _ wS5 => ow_r wS5 ha0)) (fun c149 => ow_B (w_sp_flag _ _ wS4 (by decide)) (fun _ S6 _ wS6 => ow_r wS6 ha0))))
theorem w_sp_interrupt (a0 : Int32) (a1 : Int32) {S : gSt} (hW : Wv S) (ha1 : a1 &&& 255 = a1) : OW (ok_X10_interrupt a0 a1 S) (sp_X10_interrupt a0 a1 S) (fun _ => True) := by
  unfold ok_X10_interrupt sp_X10_interrupt
  exact ow_B (w_sp_pushWord _ hW (w_w hW rfl)) (fun _ S1 _ wS1 => ow_B (w_sp_push _ wS1 ha1) (fun _ S2 _ wS2 => ow_B (w_sp_flag _ _ wS2 (by decide)) (fun _ S3 _ wS3 => ow_B (w_sp_word _ wS3) (fun r4 S4 hr4 wS4 => ow_L (w_I wS4 hr4) (fun S5 eS5 wS5 => ow_r wS5 trivial)))))
theorem w_sp_indexed (a0 : Int32) (a1 : Int32) {S : gSt} (hW : Wv S) : OW (ok_X10_indexed a0 a1 S) (sp_X10_indexed a0 a1 S) (fun _ => True) := by
  unfold ok_X10_indexed sp_X10_indexed
  exact ow_if (fun c150 => ow_L (w_Z hW) (fun S1 eS1 wS1 => ow_r wS1 trivial)) (fun c150 => ow_L (w_Z hW) (fun S2 eS2 wS2 => ow_r wS2 trivial))
theorem w_sp_pointed (a0 : Int32) {S : gSt} (hW : Wv S) (ha0 : a0 &&& 255 = a0) : OW (ok_X10_pointed a0 S) (sp_X10_pointed a0 S) (fun _ => True) := by
  unfold ok_X10_pointed sp_X10_pointed
  exact ow_i (in_b2 ha0) (ow_i (in_b2 (by_ar (by decide))) (ow_r hW trivial))
end PZk
