/-! ===== the check, for any method ===== -/
theorem chk_b0 : ∀ k, k < 16 → isMM (0 + k) = false → chkM (0 + k) = true := by
  intro k hk hs
  match k, hk with
  | 0, _ => exact chk_0
  | 1, _ => exact chk_1
  | 2, _ => exact chk_2
  | 3, _ => exact chk_3
  | 4, _ => exact chk_4
  | 5, _ => exact chk_5
  | 6, _ => exact chk_6
  | 7, _ => exact chk_7
  | 8, _ => exact chk_8
  | 9, _ => exact chk_9
  | 10, _ => exact chk_10
  | 11, _ => exact chk_11
  | 12, _ => exact chk_12
  | 13, _ => exact chk_13
  | 14, _ => exact chk_14
  | 15, _ => exact chk_15
  | k + 16, hk => exact absurd hk (by omega)
theorem chk_b1 : ∀ k, k < 16 → isMM (16 + k) = false → chkM (16 + k) = true := by
  intro k hk hs
  match k, hk with
  | 0, _ => exact chk_16
  | 1, _ => exact chk_17
  | 2, _ => exact chk_18
  | 3, _ => exact chk_19
  | 4, _ => exact chk_20
  | 5, _ => exact chk_21
  | 6, _ => exact chk_22
  | 7, _ => exact chk_23
  | 8, _ => exact chk_24
  | 9, _ => exact chk_25
  | 10, _ => exact chk_26
  | 11, _ => exact chk_27
  | 12, _ => exact chk_28
  | 13, _ => exact chk_29
  | 14, _ => exact chk_30
  | 15, _ => exact chk_31
  | k + 16, hk => exact absurd hk (by omega)
theorem chk_b2 : ∀ k, k < 16 → isMM (32 + k) = false → chkM (32 + k) = true := by
  intro k hk hs
  match k, hk with
  | 0, _ => exact chk_32
  | 1, _ => exact chk_33
  | 2, _ => exact chk_34
  | 3, _ => exact chk_35
  | 4, _ => exact chk_36
  | 5, _ => exact chk_37
  | 6, _ => exact chk_38
  | 7, _ => exact chk_39
  | 8, _ => exact chk_40
  | 9, _ => exact chk_41
  | 10, _ => exact chk_42
  | 11, _ => exact chk_43
  | 12, _ => exact chk_44
  | 13, _ => exact chk_45
  | 14, _ => exact chk_46
  | 15, _ => exact chk_47
  | k + 16, hk => exact absurd hk (by omega)
theorem chk_b3 : ∀ k, k < 16 → isMM (48 + k) = false → chkM (48 + k) = true := by
  intro k hk hs
  match k, hk with
  | 0, _ => exact chk_48
  | 1, _ => exact chk_49
  | 2, _ => exact chk_50
  | 3, _ => exact chk_51
  | 4, _ => exact chk_52
  | 5, _ => exact chk_53
  | 6, _ => exact chk_54
  | 7, _ => exact chk_55
  | 8, _ => exact chk_56
  | 9, _ => exact chk_57
  | 10, _ => exact chk_58
  | 11, _ => exact chk_59
  | 12, _ => exact chk_60
  | 13, _ => exact chk_61
  | 14, _ => exact chk_62
  | 15, _ => exact chk_63
  | k + 16, hk => exact absurd hk (by omega)
theorem chk_b4 : ∀ k, k < 16 → isMM (64 + k) = false → chkM (64 + k) = true := by
  intro k hk hs
  match k, hk with
  | 0, _ => exact chk_64
  | 1, _ => exact chk_65
  | 2, _ => exact chk_66
  | 3, _ => exact chk_67
  | 4, _ => exact chk_68
  | 5, _ => exact chk_69
  | 6, _ => exact chk_70
  | 7, _ => exact chk_71
  | 8, _ => exact chk_72
  | 9, _ => exact chk_73
  | 10, _ => exact chk_74
  | 11, _ => exact chk_75
  | 12, _ => exact chk_76
  | 13, _ => exact chk_77
  | 14, _ => exact chk_78
  | 15, _ => exact chk_79
  | k + 16, hk => exact absurd hk (by omega)
theorem chk_b5 : ∀ k, k < 16 → isMM (80 + k) = false → chkM (80 + k) = true := by
  intro k hk hs
  match k, hk with
  | 0, _ => exact chk_80
  | 1, _ => exact chk_81
  | 2, _ => exact chk_82
  | 3, _ => exact chk_83
  | 4, _ => exact chk_84
  | 5, _ => exact chk_85
  | 6, _ => exact chk_86
  | 7, _ => exact chk_87
  | 8, _ => exact chk_88
  | 9, _ => exact chk_89
  | 10, _ => exact chk_90
  | 11, _ => exact chk_91
  | 12, _ => exact chk_92
  | 13, _ => exact chk_93
  | 14, _ => exact chk_94
  | 15, _ => exact chk_95
  | k + 16, hk => exact absurd hk (by omega)
theorem chk_b6 : ∀ k, k < 16 → isMM (96 + k) = false → chkM (96 + k) = true := by
  intro k hk hs
  match k, hk with
  | 0, _ => exact chk_96
  | 1, _ => exact chk_97
  | 2, _ => exact chk_98
  | 3, _ => exact chk_99
  | 4, _ => exact chk_100
  | 5, _ => exact chk_101
  | 6, _ => exact chk_102
  | 7, _ => exact chk_103
  | 8, _ => exact chk_104
  | 9, _ => exact chk_105
  | 10, _ => exact chk_106
  | 11, _ => exact chk_107
  | 12, _ => exact chk_108
  | 13, _ => exact chk_109
  | 14, _ => exact chk_110
  | 15, _ => exact chk_111
  | k + 16, hk => exact absurd hk (by omega)
theorem chk_b7 : ∀ k, k < 16 → isMM (112 + k) = false → chkM (112 + k) = true := by
  intro k hk hs
  match k, hk with
  | 0, _ => exact chk_112
  | 1, _ => exact chk_113
  | 2, _ => exact chk_114
  | 3, _ => exact chk_115
  | 4, _ => exact chk_116
  | 5, _ => exact chk_117
  | 6, _ => exact chk_118
  | 7, _ => exact chk_119
  | 8, _ => exact chk_120
  | 9, _ => exact chk_121
  | 10, _ => exact chk_122
  | 11, _ => exact chk_123
  | 12, _ => exact chk_124
  | 13, _ => exact chk_125
  | 14, _ => exact chk_126
  | 15, _ => exact chk_127
  | k + 16, hk => exact absurd hk (by omega)
theorem chk_b8 : ∀ k, k < 16 → isMM (128 + k) = false → chkM (128 + k) = true := by
  intro k hk hs
  match k, hk with
  | 0, _ => exact chk_128
  | 1, _ => exact chk_129
  | 2, _ => exact chk_130
  | 3, _ => exact chk_131
  | 4, _ => exact chk_132
  | 5, _ => exact chk_133
  | 6, _ => exact chk_134
  | 7, _ => exact chk_135
  | 8, _ => exact chk_136
  | 9, _ => exact chk_137
  | 10, _ => exact chk_138
  | 11, _ => exact chk_139
  | 12, _ => exact chk_140
  | 13, _ => exact chk_141
  | 14, _ => exact chk_142
  | 15, _ => exact chk_143
  | k + 16, hk => exact absurd hk (by omega)
theorem chk_b9 : ∀ k, k < 16 → isMM (144 + k) = false → chkM (144 + k) = true := by
  intro k hk hs
  match k, hk with
  | 0, _ => exact chk_144
  | 1, _ => exact chk_145
  | 2, _ => exact chk_146
  | 3, _ => exact chk_147
  | 4, _ => exact chk_148
  | 5, _ => exact chk_149
  | 6, _ => exact chk_150
  | 7, _ => exact chk_151
  | 8, _ => exact chk_152
  | 9, _ => exact chk_153
  | 10, _ => exact chk_154
  | 11, _ => exact chk_155
  | 12, _ => exact chk_156
  | 13, _ => exact chk_157
  | 14, _ => exact chk_158
  | 15, _ => exact chk_159
  | k + 16, hk => exact absurd hk (by omega)
theorem chk_b10 : ∀ k, k < 16 → isMM (160 + k) = false → chkM (160 + k) = true := by
  intro k hk hs
  match k, hk with
  | 0, _ => exact chk_160
  | 1, _ => exact chk_161
  | 2, _ => exact chk_162
  | 3, _ => exact chk_163
  | 4, _ => exact chk_164
  | 5, _ => exact chk_165
  | 6, _ => exact chk_166
  | 7, _ => exact chk_167
  | 8, _ => exact chk_168
  | 9, _ => exact chk_169
  | 10, _ => exact chk_170
  | 11, _ => exact chk_171
  | 12, _ => exact chk_172
  | 13, _ => exact chk_173
  | 14, _ => exact chk_174
  | 15, _ => exact chk_175
  | k + 16, hk => exact absurd hk (by omega)
theorem chk_b11 : ∀ k, k < 16 → isMM (176 + k) = false → chkM (176 + k) = true := by
  intro k hk hs
  match k, hk with
  | 0, _ => exact chk_176
  | 1, _ => exact chk_177
  | 2, _ => exact chk_178
  | 3, _ => exact chk_179
  | 4, _ => exact chk_180
  | 5, _ => exact chk_181
  | 6, _ => exact chk_182
  | 7, _ => exact chk_183
  | 8, _ => exact chk_184
  | 9, _ => exact chk_185
  | 10, _ => exact chk_186
  | 11, _ => exact chk_187
  | 12, _ => exact chk_188
  | 13, _ => exact chk_189
  | 14, _ => exact chk_190
  | 15, _ => exact chk_191
  | k + 16, hk => exact absurd hk (by omega)
theorem chk_b12 : ∀ k, k < 16 → isMM (192 + k) = false → chkM (192 + k) = true := by
  intro k hk hs
  match k, hk with
  | 0, _ => exact chk_192
  | 1, _ => exact chk_193
  | 2, _ => exact chk_194
  | 3, _ => exact chk_195
  | 4, _ => exact chk_196
  | 5, _ => exact chk_197
  | 6, _ => exact chk_198
  | 7, _ => exact chk_199
  | 8, _ => exact chk_200
  | 9, _ => exact chk_201
  | 10, _ => exact chk_202
  | 11, _ => exact chk_203
  | 12, _ => exact chk_204
  | 13, _ => exact chk_205
  | 14, _ => exact chk_206
  | 15, _ => exact chk_207
  | k + 16, hk => exact absurd hk (by omega)
theorem chk_b13 : ∀ k, k < 16 → isMM (208 + k) = false → chkM (208 + k) = true := by
  intro k hk hs
  match k, hk with
  | 0, _ => exact chk_208
  | 1, _ => exact chk_209
  | 2, _ => exact chk_210
  | 3, _ => exact chk_211
  | 4, _ => exact chk_212
  | 5, _ => exact chk_213
  | 6, _ => exact chk_214
  | 7, _ => exact chk_215
  | 8, _ => exact chk_216
  | 9, _ => exact chk_217
  | 10, _ => exact chk_218
  | 11, _ => exact chk_219
  | 12, _ => exact chk_220
  | 13, _ => exact chk_221
  | 14, _ => exact chk_222
  | 15, _ => exact chk_223
  | k + 16, hk => exact absurd hk (by omega)
theorem chk_b14 : ∀ k, k < 13 → isMM (224 + k) = false → chkM (224 + k) = true := by
  intro k hk hs
  match k, hk with
  | 0, _ => exact chk_224
  | 1, _ => exact chk_225
  | 2, _ => exact chk_226
  | 3, _ => exact nomatch hs
  | 4, _ => exact nomatch hs
  | 5, _ => exact chk_229
  | 6, _ => exact chk_230
  | 7, _ => exact chk_231
  | 8, _ => exact chk_232
  | 9, _ => exact chk_233
  | 10, _ => exact chk_234
  | 11, _ => exact chk_235
  | 12, _ => exact chk_law
  | k + 13, hk => exact absurd hk (by omega)
theorem chk_of : ∀ M, M < 237 → isMM M = false → chkM M = true := by
  intro M hM hs
  have e : M = 16 * (M / 16) + M % 16 := by omega
  have h2 : M % 16 < 16 := by omega
  have h1 : M / 16 < 15 := by omega
  rw [e] at hs ⊢
  generalize M / 16 = q at *
  generalize M % 16 = k at *
  match q, h1 with
  | 0, _ => exact chk_b0 k (by omega) hs
  | 1, _ => exact chk_b1 k (by omega) hs
  | 2, _ => exact chk_b2 k (by omega) hs
  | 3, _ => exact chk_b3 k (by omega) hs
  | 4, _ => exact chk_b4 k (by omega) hs
  | 5, _ => exact chk_b5 k (by omega) hs
  | 6, _ => exact chk_b6 k (by omega) hs
  | 7, _ => exact chk_b7 k (by omega) hs
  | 8, _ => exact chk_b8 k (by omega) hs
  | 9, _ => exact chk_b9 k (by omega) hs
  | 10, _ => exact chk_b10 k (by omega) hs
  | 11, _ => exact chk_b11 k (by omega) hs
  | 12, _ => exact chk_b12 k (by omega) hs
  | 13, _ => exact chk_b13 k (by omega) hs
  | 14, _ => exact chk_b14 k (by omega) hs
  | q + 15, hq => exact absurd hq (by omega)
/-- a branch's other way stands in the bytes -/
def jok (pc : Nat) (i : Instr) : Bool := match i with
  | .if_icmp _ off => decide (0 ≤ (pc : Int) + off)
  | .ifCond _ off => decide (0 ≤ (pc : Int) + off)
  | _ => true
def jchk (M : Nat) : Bool := match mrow M with
  | some r => r.2.all (fun ch => ch.2.all (fun q => jok q.1 q.2.1))
  | none => false
set_option maxRecDepth 100000 in
theorem jchk_all : (List.range 237).all jchk = true := by decide +kernel
