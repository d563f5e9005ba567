section PV
variable {k : Bool} {c sp : Int32} {cr : Bool} {gn : Int64} {S : gSt}
theorem ioq_0 : ∀ j, j < 16 → Io k (nI (0 + j)) := fun j hj => match j, hj with
  | 0, _ => io_0
  | 1, _ => io_1
  | 2, _ => io_2
  | 3, _ => io_3
  | 4, _ => io_4
  | 5, _ => io_5
  | 6, _ => io_6
  | 7, _ => io_7
  | 8, _ => io_8
  | 9, _ => io_9
  | 10, _ => io_10
  | 11, _ => io_11
  | 12, _ => io_12
  | 13, _ => io_13
  | 14, _ => io_14
  | 15, _ => io_15
  | n + 16, h => absurd h (by omega)
theorem ioq_1 : ∀ j, j < 16 → Io k (nI (16 + j)) := fun j hj => match j, hj with
  | 0, _ => io_16
  | 1, _ => io_17
  | 2, _ => io_18
  | 3, _ => io_19
  | 4, _ => io_20
  | 5, _ => io_21
  | 6, _ => io_22
  | 7, _ => io_23
  | 8, _ => io_24
  | 9, _ => io_25
  | 10, _ => io_26
  | 11, _ => io_27
  | 12, _ => io_28
  | 13, _ => io_29
  | 14, _ => io_30
  | 15, _ => io_31
  | n + 16, h => absurd h (by omega)
theorem ioq_2 : ∀ j, j < 16 → Io k (nI (32 + j)) := fun j hj => match j, hj with
  | 0, _ => io_32
  | 1, _ => io_33
  | 2, _ => io_34
  | 3, _ => io_35
  | 4, _ => io_36
  | 5, _ => io_37
  | 6, _ => io_38
  | 7, _ => io_39
  | 8, _ => io_40
  | 9, _ => io_41
  | 10, _ => io_42
  | 11, _ => io_43
  | 12, _ => io_44
  | 13, _ => io_45
  | 14, _ => io_46
  | 15, _ => io_47
  | n + 16, h => absurd h (by omega)
theorem ioq_3 : ∀ j, j < 16 → Io k (nI (48 + j)) := fun j hj => match j, hj with
  | 0, _ => io_48
  | 1, _ => io_49
  | 2, _ => io_50
  | 3, _ => io_51
  | 4, _ => io_52
  | 5, _ => io_53
  | 6, _ => io_54
  | 7, _ => io_55
  | 8, _ => io_56
  | 9, _ => io_57
  | 10, _ => io_58
  | 11, _ => io_59
  | 12, _ => io_60
  | 13, _ => io_61
  | 14, _ => io_62
  | 15, _ => io_63
  | n + 16, h => absurd h (by omega)
theorem ioq_4 : ∀ j, j < 16 → Io k (nI (64 + j)) := fun j hj => match j, hj with
  | 0, _ => io_64
  | 1, _ => io_65
  | 2, _ => io_66
  | 3, _ => io_67
  | 4, _ => io_68
  | 5, _ => io_69
  | 6, _ => io_70
  | 7, _ => io_71
  | 8, _ => io_72
  | 9, _ => io_73
  | 10, _ => io_74
  | 11, _ => io_75
  | 12, _ => io_76
  | 13, _ => io_77
  | 14, _ => io_78
  | 15, _ => io_79
  | n + 16, h => absurd h (by omega)
theorem ioq_5 : ∀ j, j < 16 → Io k (nI (80 + j)) := fun j hj => match j, hj with
  | 0, _ => io_80
  | 1, _ => io_81
  | 2, _ => io_82
  | 3, _ => io_83
  | 4, _ => io_84
  | 5, _ => io_85
  | 6, _ => io_86
  | 7, _ => io_87
  | 8, _ => io_88
  | 9, _ => io_89
  | 10, _ => io_90
  | 11, _ => io_91
  | 12, _ => io_92
  | 13, _ => io_93
  | 14, _ => io_94
  | 15, _ => io_95
  | n + 16, h => absurd h (by omega)
theorem ioq_6 : ∀ j, j < 16 → Io k (nI (96 + j)) := fun j hj => match j, hj with
  | 0, _ => io_96
  | 1, _ => io_97
  | 2, _ => io_98
  | 3, _ => io_99
  | 4, _ => io_100
  | 5, _ => io_101
  | 6, _ => io_102
  | 7, _ => io_103
  | 8, _ => io_104
  | 9, _ => io_105
  | 10, _ => io_106
  | 11, _ => io_107
  | 12, _ => io_108
  | 13, _ => io_109
  | 14, _ => io_110
  | 15, _ => io_111
  | n + 16, h => absurd h (by omega)
theorem ioq_7 : ∀ j, j < 16 → Io k (nI (112 + j)) := fun j hj => match j, hj with
  | 0, _ => io_112
  | 1, _ => io_113
  | 2, _ => io_114
  | 3, _ => io_115
  | 4, _ => io_116
  | 5, _ => io_117
  | 6, _ => io_118
  | 7, _ => io_119
  | 8, _ => io_120
  | 9, _ => io_121
  | 10, _ => io_122
  | 11, _ => io_123
  | 12, _ => io_124
  | 13, _ => io_125
  | 14, _ => io_126
  | 15, _ => io_127
  | n + 16, h => absurd h (by omega)
theorem ioq_8 : ∀ j, j < 16 → Io k (nI (128 + j)) := fun j hj => match j, hj with
  | 0, _ => io_128
  | 1, _ => io_129
  | 2, _ => io_130
  | 3, _ => io_131
  | 4, _ => io_132
  | 5, _ => io_133
  | 6, _ => io_134
  | 7, _ => io_135
  | 8, _ => io_136
  | 9, _ => io_137
  | 10, _ => io_138
  | 11, _ => io_139
  | 12, _ => io_140
  | 13, _ => io_141
  | 14, _ => io_142
  | 15, _ => io_143
  | n + 16, h => absurd h (by omega)
theorem ioq_9 : ∀ j, j < 16 → Io k (nI (144 + j)) := fun j hj => match j, hj with
  | 0, _ => io_144
  | 1, _ => io_145
  | 2, _ => io_146
  | 3, _ => io_147
  | 4, _ => io_148
  | 5, _ => io_149
  | 6, _ => io_150
  | 7, _ => io_151
  | 8, _ => io_152
  | 9, _ => io_153
  | 10, _ => io_154
  | 11, _ => io_155
  | 12, _ => io_156
  | 13, _ => io_157
  | 14, _ => io_158
  | 15, _ => io_159
  | n + 16, h => absurd h (by omega)
theorem ioq_10 : ∀ j, j < 16 → Io k (nI (160 + j)) := fun j hj => match j, hj with
  | 0, _ => io_160
  | 1, _ => io_161
  | 2, _ => io_162
  | 3, _ => io_163
  | 4, _ => io_164
  | 5, _ => io_165
  | 6, _ => io_166
  | 7, _ => io_167
  | 8, _ => io_168
  | 9, _ => io_169
  | 10, _ => io_170
  | 11, _ => io_171
  | 12, _ => io_172
  | 13, _ => io_173
  | 14, _ => io_174
  | 15, _ => io_175
  | n + 16, h => absurd h (by omega)
theorem ioq_11 : ∀ j, j < 16 → Io k (nI (176 + j)) := fun j hj => match j, hj with
  | 0, _ => io_176
  | 1, _ => io_177
  | 2, _ => io_178
  | 3, _ => io_179
  | 4, _ => io_180
  | 5, _ => io_181
  | 6, _ => io_182
  | 7, _ => io_183
  | 8, _ => io_184
  | 9, _ => io_185
  | 10, _ => io_186
  | 11, _ => io_187
  | 12, _ => io_188
  | 13, _ => io_189
  | 14, _ => io_190
  | 15, _ => io_191
  | n + 16, h => absurd h (by omega)
theorem ioq_12 : ∀ j, j < 16 → Io k (nI (192 + j)) := fun j hj => match j, hj with
  | 0, _ => io_192
  | 1, _ => io_193
  | 2, _ => io_194
  | 3, _ => io_195
  | 4, _ => io_196
  | 5, _ => io_197
  | 6, _ => io_198
  | 7, _ => io_199
  | 8, _ => io_200
  | 9, _ => io_201
  | 10, _ => io_202
  | 11, _ => io_203
  | 12, _ => io_204
  | 13, _ => io_205
  | 14, _ => io_206
  | 15, _ => io_207
  | n + 16, h => absurd h (by omega)
theorem ioq_13 : ∀ j, j < 16 → Io k (nI (208 + j)) := fun j hj => match j, hj with
  | 0, _ => io_208
  | 1, _ => io_209
  | 2, _ => io_210
  | 3, _ => io_211
  | 4, _ => io_212
  | 5, _ => io_213
  | 6, _ => io_214
  | 7, _ => io_215
  | 8, _ => io_216
  | 9, _ => io_217
  | 10, _ => io_218
  | 11, _ => io_219
  | 12, _ => io_220
  | 13, _ => io_221
  | 14, _ => io_222
  | 15, _ => io_223
  | n + 16, h => absurd h (by omega)
theorem ioq_14 : ∀ j, j < 16 → Io k (nI (224 + j)) := fun j hj => match j, hj with
  | 0, _ => io_224
  | 1, _ => io_225
  | 2, _ => io_226
  | 3, _ => io_227
  | 4, _ => io_228
  | 5, _ => io_229
  | 6, _ => io_230
  | 7, _ => io_231
  | 8, _ => io_232
  | 9, _ => io_233
  | 10, _ => io_234
  | 11, _ => io_235
  | 12, _ => io_236
  | 13, _ => io_237
  | 14, _ => io_238
  | 15, _ => io_239
  | n + 16, h => absurd h (by omega)
theorem ioq_15 : ∀ j, j < 16 → Io k (nI (240 + j)) := fun j hj => match j, hj with
  | 0, _ => io_240
  | 1, _ => io_241
  | 2, _ => io_242
  | 3, _ => io_243
  | 4, _ => io_244
  | 5, _ => io_245
  | 6, _ => io_246
  | 7, _ => io_247
  | 8, _ => io_248
  | 9, _ => io_249
  | 10, _ => io_250
  | 11, _ => io_251
  | 12, _ => io_252
  | 13, _ => io_253
  | 14, _ => io_254
  | 15, _ => io_255
  | n + 16, h => absurd h (by omega)
theorem io_all (j : Nat) (hj : j < 256) : Io k (nI j) := by
  have h := Nat.div_add_mod j 16
  have h2 : j % 16 < 16 := Nat.mod_lt _ (by omega)
  have h3 : j / 16 < 16 := by omega
  rw [← h]
  generalize j / 16 = q at h3
  generalize j % 16 = i at h2
  match q, h3 with
  | 0, _ => exact ioq_0 i h2
  | 1, _ => exact ioq_1 i h2
  | 2, _ => exact ioq_2 i h2
  | 3, _ => exact ioq_3 i h2
  | 4, _ => exact ioq_4 i h2
  | 5, _ => exact ioq_5 i h2
  | 6, _ => exact ioq_6 i h2
  | 7, _ => exact ioq_7 i h2
  | 8, _ => exact ioq_8 i h2
  | 9, _ => exact ioq_9 i h2
  | 10, _ => exact ioq_10 i h2
  | 11, _ => exact ioq_11 i h2
  | 12, _ => exact ioq_12 i h2
  | 13, _ => exact ioq_13 i h2
  | 14, _ => exact ioq_14 i h2
  | 15, _ => exact ioq_15 i h2
  | n + 16, h => exact absurd h (by omega)
theorem pf_66 (T : gSt) : jn_X10_perform_66 T = mBody (T.1 6) (sp_X10_fetch T).1 (sp_X10_fetch T).2 := by
  unfold jn_X10_perform_66 mBody
  rw [gB]
theorem ins_66 (hI : Iv k S) : Ins k c sp gn (jn_X10_perform_66 (ph k c sp false gn S)) (cBody k (S.1 32) (sp_X2_fetch k S).1 (sp_X2_fetch k S).2) := by
  have hf := iv_fetch hI
  obtain ⟨j, hj, e⟩ := by_of hf.2
  rw [pf_66, h_fetch hI, phr_pc, e]
  exact io_all j hj c sp gn (sp_X2_fetch k S).2 (S.1 32) hf.1 (iv_b hI 32 rfl)
theorem ts_0 : sp_X2_takeStep k false false S = cBody k (S.1 32) (sp_X2_fetch k S).1 (sp_X2_fetch k S).2 := by
  unfold sp_X2_takeStep
  rw [if_pos (show bI false = 0 from rfl), if_pos (show bI false = 0 from rfl)]
  rfl
theorem ts_1 : sp_X2_takeStep k false true S = (if (S.1 31 &&& 4) = 0 then (7, (sp_X2_enter k 65534 (S.1 32) (S.1 31) S).2) else cBody k (S.1 32) (sp_X2_fetch k S).1 (sp_X2_fetch k S).2) := by
  unfold sp_X2_takeStep
  rw [if_pos (show bI false = 0 from rfl), if_neg (show ¬ bI true = 0 by decide)]
  rfl
theorem ts_n (i : Bool) : sp_X2_takeStep k true i S = (7, (sp_X2_enter k 65530 (S.1 32) (S.1 31) S).2) := by
  unfold sp_X2_takeStep
  rw [if_neg (by decide)]
  rfl
theorem ins_int (hI : Iv k S) (j : Nat) (hj : 32768 ≤ j) (hj2 : j + 1 < 65536) : Ins k c sp gn (7, (sp_X10_interrupt (nI j) (S.1 31) (ph k c sp false gn S)).2) (7, (sp_X2_enter k (nI j) (S.1 32) (S.1 31) S).2) := by
  have h := h_interrupt (c := c) (sp := sp) (cr := false) (gn := gn) hI j hj hj2 (v := S.1 31) (iv_b hI 31 rfl)
  exact ins_of (cr := false) (r := 7) (by rw [h.1]) rfl h.2 (by decide)
/-- a step of the class before its time passes -/
def cStep (k : Bool) (S : gSt) : Int32 × gSt := (if (sp_X9_irqLines k (sZ S 2 false)).1 = 0 then sp_X2_takeStep k (S.2.1 2) false (sZ S 2 false) else sp_X2_takeStep k (S.2.1 2) true (sZ S 2 false))
theorem mp_e (T : gSt) : sp_X10_perform T = (if (bI ((sZ T 2 false).2.1 1)) = 0 then (if (((sZ T 2 false).1 31) ||| ((sZ T 2 false).1 29)) = 0 then jn_X10_perform_66 (sZ T 2 false) else (if (((sZ T 2 false).1 5) &&& 4) = 0 then (7, (sp_X10_interrupt 65534 ((sZ T 2 false).1 5) (sZ T 2 false)).2) else jn_X10_perform_66 (sZ T 2 false))) else (7, (sp_X10_interrupt 65530 ((sZ (sZ T 2 false) 1 false).1 5) (sZ (sZ T 2 false) 1 false)).2)) := by
  unfold sp_X10_perform
  rw [gL]
  rfl
theorem irq_e : ((sp_X9_irqLines k S).1 = 0) ↔ (bI (S.2.1 5) ||| bI (S.2.1 0) = 0) := by
  have e : (sp_X9_irqLines k S).1 = (if bI (S.2.1 5) = 0 then (if bI (S.2.1 0) = 0 then (0 ||| 0 : Int32) else 0 ||| 2) else (if bI (S.2.1 0) = 0 then (1 ||| 0 : Int32) else 1 ||| 2)) := by
    unfold sp_X9_irqLines
    split <;> split <;> rfl
  rw [e]
  cases S.2.1 5 <;> cases S.2.1 0 <;> decide
theorem iv_nmi (hI : Iv k S) (b : Bool) : Iv k (sZ S 2 b) := iv_sZ 2 b hI hI.2.2
theorem sZ_eq (S : gSt) (j : Nat) (b : Bool) (h : S.2.1 j = b) : sZ S j b = S := by
  subst h
  exact Prod.ext rfl (Prod.ext (funext fun i => by by_cases h : i = j <;> simp [sZ, va_up, h]) rfl)
theorem ins_step (hI : Iv k S) : Ins k c sp gn (sp_X10_perform (ph k c sp cr gn S)) (cStep k S) := by
  have hn := iv_nmi hI false
  rw [mp_e, phx_crossed]
  unfold cStep
  cases hb : S.2.1 2
  · have e : sZ S 2 false = S := sZ_eq S 2 false hb
    rw [if_pos (show bI ((ph k c sp false gn S).2.1 1) = 0 from by rw [phz_nmi, hb]; rfl), e]
    by_cases hi : (sp_X9_irqLines k S).1 = 0
    · rw [if_pos hi, if_pos (show ((ph k c sp false gn S).1 31 ||| (ph k c sp false gn S).1 29) = 0 from irq_e.mp hi), ts_0]
      exact ins_66 hI
    · rw [if_neg hi, if_neg (show ¬ ((ph k c sp false gn S).1 31 ||| (ph k c sp false gn S).1 29) = 0 from fun z => hi (irq_e.mpr z)), ts_1]
      by_cases hp : S.1 31 &&& 4 = 0
      · rw [if_pos hp, if_pos (show ((ph k c sp false gn S).1 5 &&& 4) = 0 from hp), phr_p]
        exact ins_int hI 65534 (by decide) (by decide)
      · rw [if_neg hp, if_neg (show ¬ ((ph k c sp false gn S).1 5 &&& 4) = 0 from hp)]
        exact ins_66 hI
  · rw [if_neg (show ¬ bI ((ph k c sp false gn S).2.1 1) = 0 from by rw [phz_nmi, hb]; decide), phx_nmi, phr_p, ts_n, ts_n]
    have h := ins_int (c := c) (sp := sp) (gn := gn) hn 65530 (by decide) (by decide)
    split <;> exact h
end PV
