theorem cr_b0 : ∀ n : Nat, n < 16 → CR (nI (0 + n)) := by
  intro n hn
  rcases (show n = 0 ∨ n = 1 ∨ n = 2 ∨ n = 3 ∨ n = 4 ∨ n = 5 ∨ n = 6 ∨ n = 7 ∨ n = 8 ∨ n = 9 ∨ n = 10 ∨ n = 11 ∨ n = 12 ∨ n = 13 ∨ n = 14 ∨ n = 15 by omega) with rfl | rfl | rfl | rfl | rfl | rfl | rfl | rfl | rfl | rfl | rfl | rfl | rfl | rfl | rfl | rfl
  · exact cr_0
  · exact cr_1
  · exact cr_2
  · exact cr_3
  · exact cr_4
  · exact cr_5
  · exact cr_6
  · exact cr_7
  · exact cr_8
  · exact cr_9
  · exact cr_10
  · exact cr_11
  · exact cr_12
  · exact cr_13
  · exact cr_14
  · exact cr_15
theorem cr_b1 : ∀ n : Nat, n < 16 → CR (nI (16 + n)) := by
  intro n hn
  rcases (show n = 0 ∨ n = 1 ∨ n = 2 ∨ n = 3 ∨ n = 4 ∨ n = 5 ∨ n = 6 ∨ n = 7 ∨ n = 8 ∨ n = 9 ∨ n = 10 ∨ n = 11 ∨ n = 12 ∨ n = 13 ∨ n = 14 ∨ n = 15 by omega) with rfl | rfl | rfl | rfl | rfl | rfl | rfl | rfl | rfl | rfl | rfl | rfl | rfl | rfl | rfl | rfl
  · exact cr_16
  · exact cr_17
  · exact cr_18
  · exact cr_19
  · exact cr_20
  · exact cr_21
  · exact cr_22
  · exact cr_23
  · exact cr_24
  · exact cr_25
  · exact cr_26
  · exact cr_27
  · exact cr_28
  · exact cr_29
  · exact cr_30
  · exact cr_31
theorem cr_b2 : ∀ n : Nat, n < 16 → CR (nI (32 + n)) := by
  intro n hn
  rcases (show n = 0 ∨ n = 1 ∨ n = 2 ∨ n = 3 ∨ n = 4 ∨ n = 5 ∨ n = 6 ∨ n = 7 ∨ n = 8 ∨ n = 9 ∨ n = 10 ∨ n = 11 ∨ n = 12 ∨ n = 13 ∨ n = 14 ∨ n = 15 by omega) with rfl | rfl | rfl | rfl | rfl | rfl | rfl | rfl | rfl | rfl | rfl | rfl | rfl | rfl | rfl | rfl
  · exact cr_32
  · exact cr_33
  · exact cr_34
  · exact cr_35
  · exact cr_36
  · exact cr_37
  · exact cr_38
  · exact cr_39
  · exact cr_40
  · exact cr_41
  · exact cr_42
  · exact cr_43
  · exact cr_44
  · exact cr_45
  · exact cr_46
  · exact cr_47
theorem cr_b3 : ∀ n : Nat, n < 16 → CR (nI (48 + n)) := by
  intro n hn
  rcases (show n = 0 ∨ n = 1 ∨ n = 2 ∨ n = 3 ∨ n = 4 ∨ n = 5 ∨ n = 6 ∨ n = 7 ∨ n = 8 ∨ n = 9 ∨ n = 10 ∨ n = 11 ∨ n = 12 ∨ n = 13 ∨ n = 14 ∨ n = 15 by omega) with rfl | rfl | rfl | rfl | rfl | rfl | rfl | rfl | rfl | rfl | rfl | rfl | rfl | rfl | rfl | rfl
  · exact cr_48
  · exact cr_49
  · exact cr_50
  · exact cr_51
  · exact cr_52
  · exact cr_53
  · exact cr_54
  · exact cr_55
  · exact cr_56
  · exact cr_57
  · exact cr_58
  · exact cr_59
  · exact cr_60
  · exact cr_61
  · exact cr_62
  · exact cr_63
theorem cr_b4 : ∀ n : Nat, n < 16 → CR (nI (64 + n)) := by
  intro n hn
  rcases (show n = 0 ∨ n = 1 ∨ n = 2 ∨ n = 3 ∨ n = 4 ∨ n = 5 ∨ n = 6 ∨ n = 7 ∨ n = 8 ∨ n = 9 ∨ n = 10 ∨ n = 11 ∨ n = 12 ∨ n = 13 ∨ n = 14 ∨ n = 15 by omega) with rfl | rfl | rfl | rfl | rfl | rfl | rfl | rfl | rfl | rfl | rfl | rfl | rfl | rfl | rfl | rfl
  · exact cr_64
  · exact cr_65
  · exact cr_66
  · exact cr_67
  · exact cr_68
  · exact cr_69
  · exact cr_70
  · exact cr_71
  · exact cr_72
  · exact cr_73
  · exact cr_74
  · exact cr_75
  · exact cr_76
  · exact cr_77
  · exact cr_78
  · exact cr_79
theorem cr_b5 : ∀ n : Nat, n < 16 → CR (nI (80 + n)) := by
  intro n hn
  rcases (show n = 0 ∨ n = 1 ∨ n = 2 ∨ n = 3 ∨ n = 4 ∨ n = 5 ∨ n = 6 ∨ n = 7 ∨ n = 8 ∨ n = 9 ∨ n = 10 ∨ n = 11 ∨ n = 12 ∨ n = 13 ∨ n = 14 ∨ n = 15 by omega) with rfl | rfl | rfl | rfl | rfl | rfl | rfl | rfl | rfl | rfl | rfl | rfl | rfl | rfl | rfl | rfl
  · exact cr_80
  · exact cr_81
  · exact cr_82
  · exact cr_83
  · exact cr_84
  · exact cr_85
  · exact cr_86
  · exact cr_87
  · exact cr_88
  · exact cr_89
  · exact cr_90
  · exact cr_91
  · exact cr_92
  · exact cr_93
  · exact cr_94
  · exact cr_95
theorem cr_b6 : ∀ n : Nat, n < 16 → CR (nI (96 + n)) := by
  intro n hn
  rcases (show n = 0 ∨ n = 1 ∨ n = 2 ∨ n = 3 ∨ n = 4 ∨ n = 5 ∨ n = 6 ∨ n = 7 ∨ n = 8 ∨ n = 9 ∨ n = 10 ∨ n = 11 ∨ n = 12 ∨ n = 13 ∨ n = 14 ∨ n = 15 by omega) with rfl | rfl | rfl | rfl | rfl | rfl | rfl | rfl | rfl | rfl | rfl | rfl | rfl | rfl | rfl | rfl
  · exact cr_96
  · exact cr_97
  · exact cr_98
  · exact cr_99
  · exact cr_100
  · exact cr_101
  · exact cr_102
  · exact cr_103
  · exact cr_104
  · exact cr_105
  · exact cr_106
  · exact cr_107
  · exact cr_108
  · exact cr_109
  · exact cr_110
  · exact cr_111
theorem cr_b7 : ∀ n : Nat, n < 16 → CR (nI (112 + n)) := by
  intro n hn
  rcases (show n = 0 ∨ n = 1 ∨ n = 2 ∨ n = 3 ∨ n = 4 ∨ n = 5 ∨ n = 6 ∨ n = 7 ∨ n = 8 ∨ n = 9 ∨ n = 10 ∨ n = 11 ∨ n = 12 ∨ n = 13 ∨ n = 14 ∨ n = 15 by omega) with rfl | rfl | rfl | rfl | rfl | rfl | rfl | rfl | rfl | rfl | rfl | rfl | rfl | rfl | rfl | rfl
  · exact cr_112
  · exact cr_113
  · exact cr_114
  · exact cr_115
  · exact cr_116
  · exact cr_117
  · exact cr_118
  · exact cr_119
  · exact cr_120
  · exact cr_121
  · exact cr_122
  · exact cr_123
  · exact cr_124
  · exact cr_125
  · exact cr_126
  · exact cr_127
theorem cr_b8 : ∀ n : Nat, n < 16 → CR (nI (128 + n)) := by
  intro n hn
  rcases (show n = 0 ∨ n = 1 ∨ n = 2 ∨ n = 3 ∨ n = 4 ∨ n = 5 ∨ n = 6 ∨ n = 7 ∨ n = 8 ∨ n = 9 ∨ n = 10 ∨ n = 11 ∨ n = 12 ∨ n = 13 ∨ n = 14 ∨ n = 15 by omega) with rfl | rfl | rfl | rfl | rfl | rfl | rfl | rfl | rfl | rfl | rfl | rfl | rfl | rfl | rfl | rfl
  · exact cr_128
  · exact cr_129
  · exact cr_130
  · exact cr_131
  · exact cr_132
  · exact cr_133
  · exact cr_134
  · exact cr_135
  · exact cr_136
  · exact cr_137
  · exact cr_138
  · exact cr_139
  · exact cr_140
  · exact cr_141
  · exact cr_142
  · exact cr_143
theorem cr_b9 : ∀ n : Nat, n < 16 → CR (nI (144 + n)) := by
  intro n hn
  rcases (show n = 0 ∨ n = 1 ∨ n = 2 ∨ n = 3 ∨ n = 4 ∨ n = 5 ∨ n = 6 ∨ n = 7 ∨ n = 8 ∨ n = 9 ∨ n = 10 ∨ n = 11 ∨ n = 12 ∨ n = 13 ∨ n = 14 ∨ n = 15 by omega) with rfl | rfl | rfl | rfl | rfl | rfl | rfl | rfl | rfl | rfl | rfl | rfl | rfl | rfl | rfl | rfl
  · exact cr_144
  · exact cr_145
  · exact cr_146
  · exact cr_147
  · exact cr_148
  · exact cr_149
  · exact cr_150
  · exact cr_151
  · exact cr_152
  · exact cr_153
  · exact cr_154
  · exact cr_155
  · exact cr_156
  · exact cr_157
  · exact cr_158
  · exact cr_159
theorem cr_b10 : ∀ n : Nat, n < 16 → CR (nI (160 + n)) := by
  intro n hn
  rcases (show n = 0 ∨ n = 1 ∨ n = 2 ∨ n = 3 ∨ n = 4 ∨ n = 5 ∨ n = 6 ∨ n = 7 ∨ n = 8 ∨ n = 9 ∨ n = 10 ∨ n = 11 ∨ n = 12 ∨ n = 13 ∨ n = 14 ∨ n = 15 by omega) with rfl | rfl | rfl | rfl | rfl | rfl | rfl | rfl | rfl | rfl | rfl | rfl | rfl | rfl | rfl | rfl
  · exact cr_160
  · exact cr_161
  · exact cr_162
  · exact cr_163
  · exact cr_164
  · exact cr_165
  · exact cr_166
  · exact cr_167
  · exact cr_168
  · exact cr_169
  · exact cr_170
  · exact cr_171
  · exact cr_172
  · exact cr_173
  · exact cr_174
  · exact cr_175
theorem cr_b11 : ∀ n : Nat, n < 16 → CR (nI (176 + n)) := by
  intro n hn
  rcases (show n = 0 ∨ n = 1 ∨ n = 2 ∨ n = 3 ∨ n = 4 ∨ n = 5 ∨ n = 6 ∨ n = 7 ∨ n = 8 ∨ n = 9 ∨ n = 10 ∨ n = 11 ∨ n = 12 ∨ n = 13 ∨ n = 14 ∨ n = 15 by omega) with rfl | rfl | rfl | rfl | rfl | rfl | rfl | rfl | rfl | rfl | rfl | rfl | rfl | rfl | rfl | rfl
  · exact cr_176
  · exact cr_177
  · exact cr_178
  · exact cr_179
  · exact cr_180
  · exact cr_181
  · exact cr_182
  · exact cr_183
  · exact cr_184
  · exact cr_185
  · exact cr_186
  · exact cr_187
  · exact cr_188
  · exact cr_189
  · exact cr_190
  · exact cr_191
theorem cr_b12 : ∀ n : Nat, n < 16 → CR (nI (192 + n)) := by
  intro n hn
  rcases (show n = 0 ∨ n = 1 ∨ n = 2 ∨ n = 3 ∨ n = 4 ∨ n = 5 ∨ n = 6 ∨ n = 7 ∨ n = 8 ∨ n = 9 ∨ n = 10 ∨ n = 11 ∨ n = 12 ∨ n = 13 ∨ n = 14 ∨ n = 15 by omega) with rfl | rfl | rfl | rfl | rfl | rfl | rfl | rfl | rfl | rfl | rfl | rfl | rfl | rfl | rfl | rfl
  · exact cr_192
  · exact cr_193
  · exact cr_194
  · exact cr_195
  · exact cr_196
  · exact cr_197
  · exact cr_198
  · exact cr_199
  · exact cr_200
  · exact cr_201
  · exact cr_202
  · exact cr_203
  · exact cr_204
  · exact cr_205
  · exact cr_206
  · exact cr_207
theorem cr_b13 : ∀ n : Nat, n < 16 → CR (nI (208 + n)) := by
  intro n hn
  rcases (show n = 0 ∨ n = 1 ∨ n = 2 ∨ n = 3 ∨ n = 4 ∨ n = 5 ∨ n = 6 ∨ n = 7 ∨ n = 8 ∨ n = 9 ∨ n = 10 ∨ n = 11 ∨ n = 12 ∨ n = 13 ∨ n = 14 ∨ n = 15 by omega) with rfl | rfl | rfl | rfl | rfl | rfl | rfl | rfl | rfl | rfl | rfl | rfl | rfl | rfl | rfl | rfl
  · exact cr_208
  · exact cr_209
  · exact cr_210
  · exact cr_211
  · exact cr_212
  · exact cr_213
  · exact cr_214
  · exact cr_215
  · exact cr_216
  · exact cr_217
  · exact cr_218
  · exact cr_219
  · exact cr_220
  · exact cr_221
  · exact cr_222
  · exact cr_223
theorem cr_b14 : ∀ n : Nat, n < 16 → CR (nI (224 + n)) := by
  intro n hn
  rcases (show n = 0 ∨ n = 1 ∨ n = 2 ∨ n = 3 ∨ n = 4 ∨ n = 5 ∨ n = 6 ∨ n = 7 ∨ n = 8 ∨ n = 9 ∨ n = 10 ∨ n = 11 ∨ n = 12 ∨ n = 13 ∨ n = 14 ∨ n = 15 by omega) with rfl | rfl | rfl | rfl | rfl | rfl | rfl | rfl | rfl | rfl | rfl | rfl | rfl | rfl | rfl | rfl
  · exact cr_224
  · exact cr_225
  · exact cr_226
  · exact cr_227
  · exact cr_228
  · exact cr_229
  · exact cr_230
  · exact cr_231
  · exact cr_232
  · exact cr_233
  · exact cr_234
  · exact cr_235
  · exact cr_236
  · exact cr_237
  · exact cr_238
  · exact cr_239
theorem cr_b15 : ∀ n : Nat, n < 16 → CR (nI (240 + n)) := by
  intro n hn
  rcases (show n = 0 ∨ n = 1 ∨ n = 2 ∨ n = 3 ∨ n = 4 ∨ n = 5 ∨ n = 6 ∨ n = 7 ∨ n = 8 ∨ n = 9 ∨ n = 10 ∨ n = 11 ∨ n = 12 ∨ n = 13 ∨ n = 14 ∨ n = 15 by omega) with rfl | rfl | rfl | rfl | rfl | rfl | rfl | rfl | rfl | rfl | rfl | rfl | rfl | rfl | rfl | rfl
  · exact cr_240
  · exact cr_241
  · exact cr_242
  · exact cr_243
  · exact cr_244
  · exact cr_245
  · exact cr_246
  · exact cr_247
  · exact cr_248
  · exact cr_249
  · exact cr_250
  · exact cr_251
  · exact cr_252
  · exact cr_253
  · exact cr_254
  · exact cr_255
theorem cr_all {c : Int32} (h : isB c) : CR c := by
  obtain ⟨n, hn, rfl⟩ := h
  obtain ⟨q, e⟩ : ∃ q, q = n / 16 := ⟨_, rfl⟩
  have hm : n % 16 < 16 := Nat.mod_lt _ (by decide)
  rcases (show q = 0 ∨ q = 1 ∨ q = 2 ∨ q = 3 ∨ q = 4 ∨ q = 5 ∨ q = 6 ∨ q = 7 ∨ q = 8 ∨ q = 9 ∨ q = 10 ∨ q = 11 ∨ q = 12 ∨ q = 13 ∨ q = 14 ∨ q = 15 by omega) with e2 | e2 | e2 | e2 | e2 | e2 | e2 | e2 | e2 | e2 | e2 | e2 | e2 | e2 | e2 | e2
  · have := cr_b0 (n % 16) hm; rw [show 0 + n % 16 = n by omega] at this; exact this
  · have := cr_b1 (n % 16) hm; rw [show 16 + n % 16 = n by omega] at this; exact this
  · have := cr_b2 (n % 16) hm; rw [show 32 + n % 16 = n by omega] at this; exact this
  · have := cr_b3 (n % 16) hm; rw [show 48 + n % 16 = n by omega] at this; exact this
  · have := cr_b4 (n % 16) hm; rw [show 64 + n % 16 = n by omega] at this; exact this
  · have := cr_b5 (n % 16) hm; rw [show 80 + n % 16 = n by omega] at this; exact this
  · have := cr_b6 (n % 16) hm; rw [show 96 + n % 16 = n by omega] at this; exact this
  · have := cr_b7 (n % 16) hm; rw [show 112 + n % 16 = n by omega] at this; exact this
  · have := cr_b8 (n % 16) hm; rw [show 128 + n % 16 = n by omega] at this; exact this
  · have := cr_b9 (n % 16) hm; rw [show 144 + n % 16 = n by omega] at this; exact this
  · have := cr_b10 (n % 16) hm; rw [show 160 + n % 16 = n by omega] at this; exact this
  · have := cr_b11 (n % 16) hm; rw [show 176 + n % 16 = n by omega] at this; exact this
  · have := cr_b12 (n % 16) hm; rw [show 192 + n % 16 = n by omega] at this; exact this
  · have := cr_b13 (n % 16) hm; rw [show 208 + n % 16 = n by omega] at this; exact this
  · have := cr_b14 (n % 16) hm; rw [show 224 + n % 16 = n by omega] at this; exact this
  · have := cr_b15 (n % 16) hm; rw [show 240 + n % 16 = n by omega] at this; exact this
/-- an instruction's end: the class's, the reference's -/
def pfin (z : Int32 × (Nat → Int32) × (Nat → Int32) × (Nat → Int32) × (Nat → Int32)) : Int32 × (Nat → Int32) × (Nat → Int32) × (Nat → Int32) × (Nat → Int32) := if z.1 = 0 then (z.1, upd z.2.1 4 (z.2.1 11), z.2.2.1, z.2.2.2.1, z.2.2.2.2) else z
def xfin (m3 m4 : Nat → Int32) (w : (Nat → Int32) × (Nat → Int32) × (Nat → Int32) × (Nat → Int32)) : (Nat → Int32) × (Nat → Int32) × (Nat → Int32) × (Nat → Int32) × (Nat → Int32) := if w.1 4 = 0 then (upd w.1 3 (w.1 3 + 1), w.2.1, w.2.2.1, w.2.2.2, va_cpy m3 m4 0 0 9) else (upd w.1 5 (w.1 4), w.2.1, w.2.2.1, va_cpy (va_cpy m3 m4 0 0 9) w.2.2.2 0 0 9, va_cpy m3 m4 0 0 9)
theorem step_eq (r k M D : Nat → Int32) : f_P_step r k M D = pfin (pz (f_B_readByte (r 4) k M D).1 r (f_B_readByte (r 4) k M D).2 M D) := by
  unfold f_P_step
  generalize f_B_readByte (r 4) k M D = Q
  unfold pz
  by_cases c0 : Q.1 = 0
  · rw [if_pos c0, if_pos c0]; rfl
  rw [if_neg c0, if_neg c0]
  by_cases c1 : f_P_modeOf Q.1 = 11
  · rw [if_pos c1, if_pos c1]; rfl
  rw [if_neg c1, if_neg c1]
  generalize f_P_fetch (f_P_modeOf Q.1) r Q.2 M D = F
  by_cases c2 : Q.1 - Q.1 / 4 * 4 = 1
  · rw [if_pos c2, if_pos c2]
    generalize f_P_executeG1 (Q.1 / 32) (f_P_modeOf Q.1) F.1 F.2 M D = Z
    unfold pfin
    by_cases c3 : Z.1 = 0
    · rw [if_pos c3]
    · rw [if_neg c3]
  rw [if_neg c2, if_neg c2]
  by_cases c4 : Q.1 - Q.1 / 4 * 4 = 2
  · rw [if_pos c4, if_pos c4]
    generalize f_P_executeG2 (Q.1 / 32) (f_P_modeOf Q.1) F.1 F.2 M D = Z
    unfold pfin
    by_cases c3 : Z.1 = 0
    · rw [if_pos c3]
    · rw [if_neg c3]
  rw [if_neg c4, if_neg c4]
  generalize f_P_executeG0 Q.1 (f_P_modeOf Q.1) F.1 F.2 M D = Z
  unfold pfin
  by_cases c3 : Z.1 = 0
  · rw [if_pos c3]
  · rw [if_neg c3]
theorem ins_eq (u M D m3 m4 : Nat → Int32) : f_X_instruction u M D m3 m4 = xfin m3 m4 (px (f_X_fetch (upd u 4 0) M m3).1 (f_X_fetch (upd u 4 0) M m3).2.1 M D (f_X_fetch (upd u 4 0) M m3).2.2) := by
  unfold f_X_instruction
  generalize f_X_fetch (upd u 4 0) M m3 = z1
  unfold f_X_instruction_k1 px
  by_cases c1 : z1.1 - z1.1 / 4 * 4 = 1
  · rw [if_pos c1, if_pos c1]; rfl
  rw [if_neg c1, if_neg c1]
  by_cases c2 : z1.1 - z1.1 / 4 * 4 = 2
  · rw [if_pos c2, if_pos c2]
    by_cases c4 : z1.1 / 32 = 4
    · rw [if_pos c4, if_pos c4]; rfl
    rw [if_neg c4, if_neg c4]
    by_cases c5 : z1.1 / 32 = 5
    · rw [if_pos c5, if_pos c5]; rfl
    rw [if_neg c5, if_neg c5]; rfl
  rw [if_neg c2, if_neg c2]
  by_cases c0 : z1.1 - z1.1 / 4 * 4 = 0
  · rw [if_pos c0, if_pos c0]; rfl
  rw [if_neg c0, if_neg c0]
  rfl
/-- AN INSTRUCTION, ON BOTH SIDES -/
theorem step_rel {r k u M D m3 m4 : Nat → Int32} {d f t : Int32} (ho : OkF r) (hA : isA (r 4)) (he : EqF r m3) (h4 : m3 4 = r 4) (hK : OkK k) (hM : AllB M) (hD : AllB D) (h : RK k u d f t) :
    (f_X_instruction u M D m3 m4).2.1 = (f_P_step r k M D).2.2.2.1 ∧ (f_X_instruction u M D m3 m4).2.2.1 = (f_P_step r k M D).2.2.2.2 ∧ OkK (f_P_step r k M D).2.2.1 ∧ AllB (f_P_step r k M D).2.2.2.1 ∧ AllB (f_P_step r k M D).2.2.2.2 ∧ OkF (f_P_step r k M D).2.1 ∧ isA ((f_P_step r k M D).2.1 4) ∧ EqF (f_P_step r k M D).2.1 (f_X_instruction u M D m3 m4).2.2.2.1 ∧ (f_X_instruction u M D m3 m4).2.2.2.1 4 = (f_P_step r k M D).2.1 4 ∧
    (((f_P_step r k M D).1 = 0 ∧ RK (f_P_step r k M D).2.2.1 (f_X_instruction u M D m3 m4).1 (d + 1) 0 t) ∨ (flt (f_P_step r k M D).1 ∧ RK (f_P_step r k M D).2.2.1 (f_X_instruction u M D m3 m4).1 d (f_P_step r k M D).1 (f_P_step r k M D).1)) := by
  have h0 : RK k (upd u 4 0) d 0 t := ⟨h.1, h.2.1, h.2.2.1, h.2.2.2.1, rfl, h.2.2.2.2.2⟩
  rw [step_eq, ins_eq]
  have e1 : f_X_fetch (upd u 4 0) M m3 = ((f_X_read (r 4) (upd u 4 0) M).1, (f_X_read (r 4) (upd u 4 0) M).2, upd m3 4 ((r 4 + 1) &&& 1023)) := by
    unfold f_X_fetch
    rw [h4]
  obtain ⟨a1, a2, a3, a4, -⟩ := read_rel (p := r 4) (D := D) hK hM h0
  rw [e1]
  dsimp only
  rw [a1]
  have hC := cr_all a2 r _ _ M D (upd m3 4 ((r 4 + 1) &&& 1023)) d t ho he rfl a3 hM hD a4
  generalize pz (f_B_readByte (r 4) k M D).1 r (f_B_readByte (r 4) k M D).2 M D = z at hC ⊢
  generalize px (f_B_readByte (r 4) k M D).1 (f_X_read (r 4) (upd u 4 0) M).2 M D (upd m3 4 ((r 4 + 1) &&& 1023)) = w at hC ⊢
  obtain ⟨b1, b2, b3, b4, b5, b6, b7⟩ := hC
  have b34 : w.1 4 = z.1 := b3.2.2.2.2.1
  unfold pfin xfin
  rcases b7 with ⟨hz, hR⟩ | ⟨hz, hE, hp⟩
  · rw [if_pos hz, if_pos (b34.trans hz)]
    refine ⟨b1, b2, b4, b5, b6, hR.2.1, hR.2.2.2, hR.1, hR.2.2.1, Or.inl ⟨hz, b3.1, b3.2.1, b3.2.2.1, ⟨?_, b3.2.2.2.1.2⟩, b34.trans hz, b3.2.2.2.2.2⟩⟩
    show w.1 3 + 1 = d + 1
    rw [b3.2.2.2.1.1]
  · have hnz : ¬ z.1 = 0 := by
      rcases hz with e | e | e | e <;> rw [e] <;> decide
    rw [if_neg hnz, if_neg (fun q => hnz (b34.symm.trans q))]
    refine ⟨b1, b2, b4, b5, b6, ho.of hE, ?_, hE.two he, h4.trans hp.symm, Or.inr ⟨hz, b3.1, b3.2.1, b3.2.2.1, b3.2.2.2.1, b34, b34⟩⟩
    rw [hp]
    exact hA

