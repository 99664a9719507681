/-! ===== every instruction of the small machine's program, checked against the bytes and the tables ===== -/
set_option maxRecDepth 100000 in
theorem chk_0 : chkM 0 = true := by decide +kernel
set_option maxRecDepth 100000 in
theorem chk_1 : chkM 1 = true := by decide +kernel
set_option maxRecDepth 100000 in
theorem chk_2 : chkM 2 = true := by decide +kernel
set_option maxRecDepth 100000 in
theorem chk_3 : chkM 3 = true := by decide +kernel
set_option maxRecDepth 100000 in
theorem chk_4 : chkM 4 = true := by decide +kernel
set_option maxRecDepth 100000 in
theorem chk_5 : chkM 5 = true := by decide +kernel
set_option maxRecDepth 100000 in
theorem chk_6 : chkM 6 = true := by decide +kernel
set_option maxRecDepth 100000 in
theorem chk_7 : chkM 7 = true := by decide +kernel
set_option maxRecDepth 100000 in
theorem chk_8 : chkM 8 = true := by decide +kernel
set_option maxRecDepth 100000 in
theorem chk_9 : chkM 9 = true := by decide +kernel
set_option maxRecDepth 100000 in
theorem chk_10 : chkM 10 = true := by decide +kernel
set_option maxRecDepth 100000 in
theorem chk_11 : chkM 11 = true := by decide +kernel
set_option maxRecDepth 100000 in
theorem chk_12 : chkM 12 = true := by decide +kernel
set_option maxRecDepth 100000 in
theorem chk_13 : chkM 13 = true := by decide +kernel
set_option maxRecDepth 100000 in
theorem chk_14 : chkM 14 = true := by decide +kernel
set_option maxRecDepth 100000 in
theorem chk_15 : chkM 15 = true := by decide +kernel
set_option maxRecDepth 100000 in
theorem chk_16 : chkM 16 = true := by decide +kernel
set_option maxRecDepth 100000 in
theorem chk_17 : chkM 17 = true := by decide +kernel
set_option maxRecDepth 100000 in
theorem chk_18 : chkM 18 = true := by decide +kernel
set_option maxRecDepth 100000 in
theorem chk_19 : chkM 19 = true := by decide +kernel
set_option maxRecDepth 100000 in
theorem chk_20 : chkM 20 = true := by decide +kernel
set_option maxRecDepth 100000 in
theorem chk_21 : chkM 21 = true := by decide +kernel
set_option maxRecDepth 100000 in
theorem chk_22 : chkM 22 = true := by decide +kernel
set_option maxRecDepth 100000 in
theorem chk_23 : chkM 23 = true := by decide +kernel
set_option maxRecDepth 100000 in
theorem chk_24 : chkM 24 = true := by decide +kernel
set_option maxRecDepth 100000 in
theorem chk_25 : chkM 25 = true := by decide +kernel
set_option maxRecDepth 100000 in
theorem chk_26 : chkM 26 = true := by decide +kernel
set_option maxRecDepth 100000 in
theorem chk_27 : chkM 27 = true := by decide +kernel
set_option maxRecDepth 100000 in
theorem chk_28 : chkM 28 = true := by decide +kernel
set_option maxRecDepth 100000 in
theorem chk_29 : chkM 29 = true := by decide +kernel
set_option maxRecDepth 100000 in
theorem chk_30 : chkM 30 = true := by decide +kernel
set_option maxRecDepth 100000 in
theorem chk_31 : chkM 31 = true := by decide +kernel
set_option maxRecDepth 100000 in
theorem chk_32 : chkM 32 = true := by decide +kernel
set_option maxRecDepth 100000 in
theorem chk_33 : chkM 33 = true := by decide +kernel
set_option maxRecDepth 100000 in
theorem chk_34 : chkM 34 = true := by decide +kernel
set_option maxRecDepth 100000 in
theorem chk_35 : chkM 35 = true := by decide +kernel
set_option maxRecDepth 100000 in
theorem chk_36 : chkM 36 = true := by decide +kernel
set_option maxRecDepth 100000 in
theorem chk_37 : chkM 37 = true := by decide +kernel
set_option maxRecDepth 100000 in
theorem chk_38 : chkM 38 = true := by decide +kernel
set_option maxRecDepth 100000 in
theorem chk_39 : chkM 39 = true := by decide +kernel
set_option maxRecDepth 100000 in
theorem chk_40 : chkM 40 = true := by decide +kernel
set_option maxRecDepth 100000 in
theorem chk_41 : chkM 41 = true := by decide +kernel
set_option maxRecDepth 100000 in
theorem chk_42 : chkM 42 = true := by decide +kernel
set_option maxRecDepth 100000 in
theorem chk_43 : chkM 43 = true := by decide +kernel
set_option maxRecDepth 100000 in
theorem chk_44 : chkM 44 = true := by decide +kernel
set_option maxRecDepth 100000 in
theorem chk_45 : chkM 45 = true := by decide +kernel
set_option maxRecDepth 100000 in
theorem chk_46 : chkM 46 = true := by decide +kernel
set_option maxRecDepth 100000 in
theorem chk_47 : chkM 47 = true := by decide +kernel
set_option maxRecDepth 100000 in
theorem chk_48 : chkM 48 = true := by decide +kernel
set_option maxRecDepth 100000 in
theorem chk_49 : chkM 49 = true := by decide +kernel
set_option maxRecDepth 100000 in
theorem chk_50 : chkM 50 = true := by decide +kernel
set_option maxRecDepth 100000 in
theorem chk_51 : chkM 51 = true := by decide +kernel
set_option maxRecDepth 100000 in
theorem chk_52 : chkM 52 = true := by decide +kernel
set_option maxRecDepth 100000 in
theorem chk_53 : chkM 53 = true := by decide +kernel
set_option maxRecDepth 100000 in
theorem chk_54 : chkM 54 = true := by decide +kernel
set_option maxRecDepth 100000 in
theorem chk_55 : chkM 55 = true := by decide +kernel
set_option maxRecDepth 100000 in
theorem chk_56 : chkM 56 = true := by decide +kernel
set_option maxRecDepth 100000 in
theorem chk_57 : chkM 57 = true := by decide +kernel
set_option maxRecDepth 100000 in
theorem chk_58 : chkM 58 = true := by decide +kernel
set_option maxRecDepth 100000 in
theorem chk_59 : chkM 59 = true := by decide +kernel
set_option maxRecDepth 100000 in
theorem chk_60 : chkM 60 = true := by decide +kernel
set_option maxRecDepth 100000 in
theorem chk_61 : chkM 61 = true := by decide +kernel
set_option maxRecDepth 100000 in
theorem chk_62 : chkM 62 = true := by decide +kernel
set_option maxRecDepth 100000 in
theorem chk_63 : chkM 63 = true := by decide +kernel
set_option maxRecDepth 100000 in
theorem chk_64 : chkM 64 = true := by decide +kernel
set_option maxRecDepth 100000 in
theorem chk_65 : chkM 65 = true := by decide +kernel
set_option maxRecDepth 100000 in
theorem chk_66 : chkM 66 = true := by decide +kernel
set_option maxRecDepth 100000 in
theorem chk_67 : chkM 67 = true := by decide +kernel
set_option maxRecDepth 100000 in
theorem chk_68 : chkM 68 = true := by decide +kernel
set_option maxRecDepth 100000 in
theorem chk_69 : chkM 69 = true := by decide +kernel
set_option maxRecDepth 100000 in
theorem chk_70 : chkM 70 = true := by decide +kernel
set_option maxRecDepth 100000 in
theorem chk_71 : chkM 71 = true := by decide +kernel
set_option maxRecDepth 100000 in
theorem chk_72 : chkM 72 = true := by decide +kernel
set_option maxRecDepth 100000 in
theorem chk_73 : chkM 73 = true := by decide +kernel
set_option maxRecDepth 100000 in
theorem chk_74 : chkM 74 = true := by decide +kernel
set_option maxRecDepth 100000 in
theorem chk_75 : chkM 75 = true := by decide +kernel
set_option maxRecDepth 100000 in
theorem chk_76 : chkM 76 = true := by decide +kernel
set_option maxRecDepth 100000 in
theorem chk_77 : chkM 77 = true := by decide +kernel
set_option maxRecDepth 100000 in
theorem chk_78 : chkM 78 = true := by decide +kernel
set_option maxRecDepth 100000 in
theorem chk_79 : chkM 79 = true := by decide +kernel
set_option maxRecDepth 100000 in
theorem chk_80 : chkM 80 = true := by decide +kernel
set_option maxRecDepth 100000 in
theorem chk_81 : chkM 81 = true := by decide +kernel
set_option maxRecDepth 100000 in
theorem chk_82 : chkM 82 = true := by decide +kernel
set_option maxRecDepth 100000 in
theorem chk_83 : chkM 83 = true := by decide +kernel
set_option maxRecDepth 100000 in
theorem chk_84 : chkM 84 = true := by decide +kernel
set_option maxRecDepth 100000 in
theorem chk_85 : chkM 85 = true := by decide +kernel
set_option maxRecDepth 100000 in
theorem chk_86 : chkM 86 = true := by decide +kernel
set_option maxRecDepth 100000 in
theorem chk_87 : chkM 87 = true := by decide +kernel
set_option maxRecDepth 100000 in
theorem chk_88 : chkM 88 = true := by decide +kernel
set_option maxRecDepth 100000 in
theorem chk_89 : chkM 89 = true := by decide +kernel
set_option maxRecDepth 100000 in
theorem chk_90 : chkM 90 = true := by decide +kernel
set_option maxRecDepth 100000 in
theorem chk_91 : chkM 91 = true := by decide +kernel
set_option maxRecDepth 100000 in
theorem chk_92 : chkM 92 = true := by decide +kernel
set_option maxRecDepth 100000 in
theorem chk_93 : chkM 93 = true := by decide +kernel
set_option maxRecDepth 100000 in
theorem chk_94 : chkM 94 = true := by decide +kernel
set_option maxRecDepth 100000 in
theorem chk_95 : chkM 95 = true := by decide +kernel
set_option maxRecDepth 100000 in
theorem chk_96 : chkM 96 = true := by decide +kernel
set_option maxRecDepth 100000 in
theorem chk_97 : chkM 97 = true := by decide +kernel
set_option maxRecDepth 100000 in
theorem chk_98 : chkM 98 = true := by decide +kernel
set_option maxRecDepth 100000 in
theorem chk_99 : chkM 99 = true := by decide +kernel
set_option maxRecDepth 100000 in
theorem chk_100 : chkM 100 = true := by decide +kernel
set_option maxRecDepth 100000 in
theorem chk_101 : chkM 101 = true := by decide +kernel
set_option maxRecDepth 100000 in
theorem chk_102 : chkM 102 = true := by decide +kernel
set_option maxRecDepth 100000 in
theorem chk_103 : chkM 103 = true := by decide +kernel
set_option maxRecDepth 100000 in
theorem chk_104 : chkM 104 = true := by decide +kernel
set_option maxRecDepth 100000 in
theorem chk_105 : chkM 105 = true := by decide +kernel
set_option maxRecDepth 100000 in
theorem chk_106 : chkM 106 = true := by decide +kernel
set_option maxRecDepth 100000 in
theorem chk_107 : chkM 107 = true := by decide +kernel
set_option maxRecDepth 100000 in
theorem chk_108 : chkM 108 = true := by decide +kernel
set_option maxRecDepth 100000 in
theorem chk_109 : chkM 109 = true := by decide +kernel
set_option maxRecDepth 100000 in
theorem chk_110 : chkM 110 = true := by decide +kernel
set_option maxRecDepth 100000 in
theorem chk_111 : chkM 111 = true := by decide +kernel
set_option maxRecDepth 100000 in
theorem chk_112 : chkM 112 = true := by decide +kernel
set_option maxRecDepth 100000 in
theorem chk_113 : chkM 113 = true := by decide +kernel
set_option maxRecDepth 100000 in
theorem chk_114 : chkM 114 = true := by decide +kernel
set_option maxRecDepth 100000 in
theorem chk_115 : chkM 115 = true := by decide +kernel
set_option maxRecDepth 100000 in
theorem chk_116 : chkM 116 = true := by decide +kernel
set_option maxRecDepth 100000 in
theorem chk_117 : chkM 117 = true := by decide +kernel
set_option maxRecDepth 100000 in
theorem chk_118 : chkM 118 = true := by decide +kernel
set_option maxRecDepth 100000 in
theorem chk_119 : chkM 119 = true := by decide +kernel
set_option maxRecDepth 100000 in
theorem chk_120 : chkM 120 = true := by decide +kernel
set_option maxRecDepth 100000 in
theorem chk_121 : chkM 121 = true := by decide +kernel
set_option maxRecDepth 100000 in
theorem chk_122 : chkM 122 = true := by decide +kernel
set_option maxRecDepth 100000 in
theorem chk_123 : chkM 123 = true := by decide +kernel
set_option maxRecDepth 100000 in
theorem chk_124 : chkM 124 = true := by decide +kernel
set_option maxRecDepth 100000 in
theorem chk_125 : chkM 125 = true := by decide +kernel
set_option maxRecDepth 100000 in
theorem chk_126 : chkM 126 = true := by decide +kernel
set_option maxRecDepth 100000 in
theorem chk_127 : chkM 127 = true := by decide +kernel
set_option maxRecDepth 100000 in
theorem chk_128 : chkM 128 = true := by decide +kernel
set_option maxRecDepth 100000 in
theorem chk_129 : chkM 129 = true := by decide +kernel
set_option maxRecDepth 100000 in
theorem chk_130 : chkM 130 = true := by decide +kernel
set_option maxRecDepth 100000 in
theorem chk_131 : chkM 131 = true := by decide +kernel
set_option maxRecDepth 100000 in
theorem chk_132 : chkM 132 = true := by decide +kernel
set_option maxRecDepth 100000 in
theorem chk_133 : chkM 133 = true := by decide +kernel
set_option maxRecDepth 100000 in
theorem chk_134 : chkM 134 = true := by decide +kernel
set_option maxRecDepth 100000 in
theorem chk_135 : chkM 135 = true := by decide +kernel
set_option maxRecDepth 100000 in
theorem chk_136 : chkM 136 = true := by decide +kernel
set_option maxRecDepth 100000 in
theorem chk_137 : chkM 137 = true := by decide +kernel
set_option maxRecDepth 100000 in
theorem chk_138 : chkM 138 = true := by decide +kernel
set_option maxRecDepth 100000 in
theorem chk_139 : chkM 139 = true := by decide +kernel
set_option maxRecDepth 100000 in
theorem chk_140 : chkM 140 = true := by decide +kernel
set_option maxRecDepth 100000 in
theorem chk_141 : chkM 141 = true := by decide +kernel
set_option maxRecDepth 100000 in
theorem chk_142 : chkM 142 = true := by decide +kernel
set_option maxRecDepth 100000 in
theorem chk_143 : chkM 143 = true := by decide +kernel
set_option maxRecDepth 100000 in
theorem chk_144 : chkM 144 = true := by decide +kernel
set_option maxRecDepth 100000 in
theorem chk_145 : chkM 145 = true := by decide +kernel
set_option maxRecDepth 100000 in
theorem chk_146 : chkM 146 = true := by decide +kernel
set_option maxRecDepth 100000 in
theorem chk_147 : chkM 147 = true := by decide +kernel
set_option maxRecDepth 100000 in
theorem chk_148 : chkM 148 = true := by decide +kernel
set_option maxRecDepth 100000 in
theorem chk_149 : chkM 149 = true := by decide +kernel
set_option maxRecDepth 100000 in
theorem chk_150 : chkM 150 = true := by decide +kernel
set_option maxRecDepth 100000 in
theorem chk_151 : chkM 151 = true := by decide +kernel
set_option maxRecDepth 100000 in
theorem chk_152 : chkM 152 = true := by decide +kernel
set_option maxRecDepth 100000 in
theorem chk_153 : chkM 153 = true := by decide +kernel
set_option maxRecDepth 100000 in
theorem chk_154 : chkM 154 = true := by decide +kernel
set_option maxRecDepth 100000 in
theorem chk_155 : chkM 155 = true := by decide +kernel
set_option maxRecDepth 100000 in
theorem chk_156 : chkM 156 = true := by decide +kernel
set_option maxRecDepth 100000 in
theorem chk_157 : chkM 157 = true := by decide +kernel
set_option maxRecDepth 100000 in
theorem chk_158 : chkM 158 = true := by decide +kernel
set_option maxRecDepth 100000 in
theorem chk_159 : chkM 159 = true := by decide +kernel
set_option maxRecDepth 100000 in
theorem chk_160 : chkM 160 = true := by decide +kernel
set_option maxRecDepth 100000 in
theorem chk_161 : chkM 161 = true := by decide +kernel
set_option maxRecDepth 100000 in
theorem chk_162 : chkM 162 = true := by decide +kernel
set_option maxRecDepth 100000 in
theorem chk_163 : chkM 163 = true := by decide +kernel
set_option maxRecDepth 100000 in
theorem chk_164 : chkM 164 = true := by decide +kernel
set_option maxRecDepth 100000 in
theorem chk_165 : chkM 165 = true := by decide +kernel
set_option maxRecDepth 100000 in
theorem chk_166 : chkM 166 = true := by decide +kernel
set_option maxRecDepth 100000 in
theorem chk_167 : chkM 167 = true := by decide +kernel
set_option maxRecDepth 100000 in
theorem chk_168 : chkM 168 = true := by decide +kernel
set_option maxRecDepth 100000 in
theorem chk_169 : chkM 169 = true := by decide +kernel
set_option maxRecDepth 100000 in
theorem chk_170 : chkM 170 = true := by decide +kernel
set_option maxRecDepth 100000 in
theorem chk_171 : chkM 171 = true := by decide +kernel
set_option maxRecDepth 100000 in
theorem chk_172 : chkM 172 = true := by decide +kernel
set_option maxRecDepth 100000 in
theorem chk_173 : chkM 173 = true := by decide +kernel
set_option maxRecDepth 100000 in
theorem chk_174 : chkM 174 = true := by decide +kernel
set_option maxRecDepth 100000 in
theorem chk_175 : chkM 175 = true := by decide +kernel
set_option maxRecDepth 100000 in
theorem chk_176 : chkM 176 = true := by decide +kernel
set_option maxRecDepth 100000 in
theorem chk_177 : chkM 177 = true := by decide +kernel
set_option maxRecDepth 100000 in
theorem chk_178 : chkM 178 = true := by decide +kernel
set_option maxRecDepth 100000 in
theorem chk_179 : chkM 179 = true := by decide +kernel
set_option maxRecDepth 100000 in
theorem chk_180 : chkM 180 = true := by decide +kernel
set_option maxRecDepth 100000 in
theorem chk_181 : chkM 181 = true := by decide +kernel
set_option maxRecDepth 100000 in
theorem chk_182 : chkM 182 = true := by decide +kernel
set_option maxRecDepth 100000 in
theorem chk_183 : chkM 183 = true := by decide +kernel
set_option maxRecDepth 100000 in
theorem chk_184 : chkM 184 = true := by decide +kernel
set_option maxRecDepth 100000 in
theorem chk_185 : chkM 185 = true := by decide +kernel
set_option maxRecDepth 100000 in
theorem chk_186 : chkM 186 = true := by decide +kernel
set_option maxRecDepth 100000 in
theorem chk_187 : chkM 187 = true := by decide +kernel
set_option maxRecDepth 100000 in
theorem chk_188 : chkM 188 = true := by decide +kernel
set_option maxRecDepth 100000 in
theorem chk_189 : chkM 189 = true := by decide +kernel
set_option maxRecDepth 100000 in
theorem chk_190 : chkM 190 = true := by decide +kernel
set_option maxRecDepth 100000 in
theorem chk_191 : chkM 191 = true := by decide +kernel
set_option maxRecDepth 100000 in
theorem chk_192 : chkM 192 = true := by decide +kernel
set_option maxRecDepth 100000 in
theorem chk_193 : chkM 193 = true := by decide +kernel
set_option maxRecDepth 100000 in
theorem chk_194 : chkM 194 = true := by decide +kernel
set_option maxRecDepth 100000 in
theorem chk_195 : chkM 195 = true := by decide +kernel
set_option maxRecDepth 100000 in
theorem chk_196 : chkM 196 = true := by decide +kernel
set_option maxRecDepth 100000 in
theorem chk_197 : chkM 197 = true := by decide +kernel
set_option maxRecDepth 100000 in
theorem chk_198 : chkM 198 = true := by decide +kernel
set_option maxRecDepth 100000 in
theorem chk_199 : chkM 199 = true := by decide +kernel
set_option maxRecDepth 100000 in
theorem chk_200 : chkM 200 = true := by decide +kernel
set_option maxRecDepth 100000 in
theorem chk_201 : chkM 201 = true := by decide +kernel
set_option maxRecDepth 100000 in
theorem chk_202 : chkM 202 = true := by decide +kernel
set_option maxRecDepth 100000 in
theorem chk_203 : chkM 203 = true := by decide +kernel
set_option maxRecDepth 100000 in
theorem chk_204 : chkM 204 = true := by decide +kernel
set_option maxRecDepth 100000 in
theorem chk_205 : chkM 205 = true := by decide +kernel
set_option maxRecDepth 100000 in
theorem chk_206 : chkM 206 = true := by decide +kernel
set_option maxRecDepth 100000 in
theorem chk_207 : chkM 207 = true := by decide +kernel
set_option maxRecDepth 100000 in
theorem chk_208 : chkM 208 = true := by decide +kernel
set_option maxRecDepth 100000 in
theorem chk_209 : chkM 209 = true := by decide +kernel
set_option maxRecDepth 100000 in
theorem chk_210 : chkM 210 = true := by decide +kernel
set_option maxRecDepth 100000 in
theorem chk_211 : chkM 211 = true := by decide +kernel
set_option maxRecDepth 100000 in
theorem chk_212 : chkM 212 = true := by decide +kernel
set_option maxRecDepth 100000 in
theorem chk_213 : chkM 213 = true := by decide +kernel
set_option maxRecDepth 100000 in
theorem chk_214 : chkM 214 = true := by decide +kernel
set_option maxRecDepth 100000 in
theorem chk_215 : chkM 215 = true := by decide +kernel
set_option maxRecDepth 100000 in
theorem chk_216 : chkM 216 = true := by decide +kernel
set_option maxRecDepth 100000 in
theorem chk_217 : chkM 217 = true := by decide +kernel
set_option maxRecDepth 100000 in
theorem chk_218 : chkM 218 = true := by decide +kernel
set_option maxRecDepth 100000 in
theorem chk_219 : chkM 219 = true := by decide +kernel
set_option maxRecDepth 100000 in
theorem chk_220 : chkM 220 = true := by decide +kernel
set_option maxRecDepth 100000 in
theorem chk_221 : chkM 221 = true := by decide +kernel
set_option maxRecDepth 100000 in
theorem chk_222 : chkM 222 = true := by decide +kernel
set_option maxRecDepth 100000 in
theorem chk_223 : chkM 223 = true := by decide +kernel
set_option maxRecDepth 100000 in
theorem chk_224 : chkM 224 = true := by decide +kernel
set_option maxRecDepth 100000 in
theorem chk_225 : chkM 225 = true := by decide +kernel
set_option maxRecDepth 100000 in
theorem chk_226 : chkM 226 = true := by decide +kernel
set_option maxRecDepth 100000 in
theorem chk_229 : chkM 229 = true := by decide +kernel
set_option maxRecDepth 100000 in
theorem chk_230 : chkM 230 = true := by decide +kernel
set_option maxRecDepth 100000 in
theorem chk_231 : chkM 231 = true := by decide +kernel
set_option maxRecDepth 100000 in
theorem chk_232 : chkM 232 = true := by decide +kernel
set_option maxRecDepth 100000 in
theorem chk_233 : chkM 233 = true := by decide +kernel
set_option maxRecDepth 100000 in
theorem chk_234 : chkM 234 = true := by decide +kernel
set_option maxRecDepth 100000 in
theorem chk_235 : chkM 235 = true := by decide +kernel
def lawI : MInfo := (12, ⟨"SoakTubLaw", "law", "([I)Z"⟩, code, (some .boolean), 11, 0)
theorem lawI_eq : mnfo 236 = some lawI := rfl
set_option maxRecDepth 100000 in
theorem chkl_0 : (match mc_236[0]? with | some ch => chkC lawI ch | none => true) = true := by decide +kernel
set_option maxRecDepth 100000 in
theorem chkl_1 : (match mc_236[1]? with | some ch => chkC lawI ch | none => true) = true := by decide +kernel
set_option maxRecDepth 100000 in
theorem chkl_2 : (match mc_236[2]? with | some ch => chkC lawI ch | none => true) = true := by decide +kernel
set_option maxRecDepth 100000 in
theorem chkl_3 : (match mc_236[3]? with | some ch => chkC lawI ch | none => true) = true := by decide +kernel
set_option maxRecDepth 100000 in
theorem chkl_4 : (match mc_236[4]? with | some ch => chkC lawI ch | none => true) = true := by decide +kernel
set_option maxRecDepth 100000 in
theorem chkl_5 : (match mc_236[5]? with | some ch => chkC lawI ch | none => true) = true := by decide +kernel
set_option maxRecDepth 100000 in
theorem chkl_6 : (match mc_236[6]? with | some ch => chkC lawI ch | none => true) = true := by decide +kernel
set_option maxRecDepth 100000 in
theorem chkl_7 : (match mc_236[7]? with | some ch => chkC lawI ch | none => true) = true := by decide +kernel
set_option maxRecDepth 100000 in
theorem chkl_8 : (match mc_236[8]? with | some ch => chkC lawI ch | none => true) = true := by decide +kernel
set_option maxRecDepth 100000 in
theorem chkl_9 : (match mc_236[9]? with | some ch => chkC lawI ch | none => true) = true := by decide +kernel
set_option maxRecDepth 100000 in
theorem chkl_10 : (match mc_236[10]? with | some ch => chkC lawI ch | none => true) = true := by decide +kernel
set_option maxRecDepth 100000 in
theorem chkl_11 : (match mc_236[11]? with | some ch => chkC lawI ch | none => true) = true := by decide +kernel
set_option maxRecDepth 100000 in
theorem chkl_12 : (match mc_236[12]? with | some ch => chkC lawI ch | none => true) = true := by decide +kernel
set_option maxRecDepth 100000 in
theorem chkl_13 : (match mc_236[13]? with | some ch => chkC lawI ch | none => true) = true := by decide +kernel
set_option maxRecDepth 100000 in
theorem chkl_14 : (match mc_236[14]? with | some ch => chkC lawI ch | none => true) = true := by decide +kernel
set_option maxRecDepth 100000 in
theorem chkl_15 : (match mc_236[15]? with | some ch => chkC lawI ch | none => true) = true := by decide +kernel
set_option maxRecDepth 100000 in
theorem chkl_16 : (match mc_236[16]? with | some ch => chkC lawI ch | none => true) = true := by decide +kernel
set_option maxRecDepth 100000 in
theorem chkl_17 : (match mc_236[17]? with | some ch => chkC lawI ch | none => true) = true := by decide +kernel
set_option maxRecDepth 100000 in
theorem chkl_18 : (match mc_236[18]? with | some ch => chkC lawI ch | none => true) = true := by decide +kernel
set_option maxRecDepth 100000 in
theorem chkl_19 : (match mc_236[19]? with | some ch => chkC lawI ch | none => true) = true := by decide +kernel
set_option maxRecDepth 100000 in
theorem chkl_20 : (match mc_236[20]? with | some ch => chkC lawI ch | none => true) = true := by decide +kernel
set_option maxRecDepth 100000 in
theorem chkl_21 : (match mc_236[21]? with | some ch => chkC lawI ch | none => true) = true := by decide +kernel
set_option maxRecDepth 100000 in
theorem chkl_22 : (match mc_236[22]? with | some ch => chkC lawI ch | none => true) = true := by decide +kernel
set_option maxRecDepth 100000 in
theorem chkl_23 : (match mc_236[23]? with | some ch => chkC lawI ch | none => true) = true := by decide +kernel
set_option maxRecDepth 100000 in
theorem chkl_24 : (match mc_236[24]? with | some ch => chkC lawI ch | none => true) = true := by decide +kernel
set_option maxRecDepth 100000 in
theorem chkl_25 : (match mc_236[25]? with | some ch => chkC lawI ch | none => true) = true := by decide +kernel
set_option maxRecDepth 100000 in
theorem chkl_26 : (match mc_236[26]? with | some ch => chkC lawI ch | none => true) = true := by decide +kernel
set_option maxRecDepth 100000 in
theorem chkl_27 : (match mc_236[27]? with | some ch => chkC lawI ch | none => true) = true := by decide +kernel
set_option maxRecDepth 100000 in
theorem chkl_28 : (match mc_236[28]? with | some ch => chkC lawI ch | none => true) = true := by decide +kernel
set_option maxRecDepth 100000 in
theorem chkl_29 : (match mc_236[29]? with | some ch => chkC lawI ch | none => true) = true := by decide +kernel
set_option maxRecDepth 100000 in
theorem chkl_30 : (match mc_236[30]? with | some ch => chkC lawI ch | none => true) = true := by decide +kernel
set_option maxRecDepth 100000 in
theorem chkl_31 : (match mc_236[31]? with | some ch => chkC lawI ch | none => true) = true := by decide +kernel
set_option maxRecDepth 100000 in
theorem chkl_32 : (match mc_236[32]? with | some ch => chkC lawI ch | none => true) = true := by decide +kernel
set_option maxRecDepth 100000 in
theorem chkl_33 : (match mc_236[33]? with | some ch => chkC lawI ch | none => true) = true := by decide +kernel
set_option maxRecDepth 100000 in
theorem chkl_34 : (match mc_236[34]? with | some ch => chkC lawI ch | none => true) = true := by decide +kernel
set_option maxRecDepth 100000 in
theorem chkl_35 : (match mc_236[35]? with | some ch => chkC lawI ch | none => true) = true := by decide +kernel
set_option maxRecDepth 100000 in
theorem chkl_36 : (match mc_236[36]? with | some ch => chkC lawI ch | none => true) = true := by decide +kernel
set_option maxRecDepth 100000 in
theorem chkl_37 : (match mc_236[37]? with | some ch => chkC lawI ch | none => true) = true := by decide +kernel
set_option maxRecDepth 100000 in
theorem chkl_38 : (match mc_236[38]? with | some ch => chkC lawI ch | none => true) = true := by decide +kernel
set_option maxRecDepth 100000 in
theorem chkl_39 : (match mc_236[39]? with | some ch => chkC lawI ch | none => true) = true := by decide +kernel
set_option maxRecDepth 100000 in
theorem chkl_40 : (match mc_236[40]? with | some ch => chkC lawI ch | none => true) = true := by decide +kernel
set_option maxRecDepth 100000 in
theorem chkl_41 : (match mc_236[41]? with | some ch => chkC lawI ch | none => true) = true := by decide +kernel
set_option maxRecDepth 100000 in
theorem chkl_42 : (match mc_236[42]? with | some ch => chkC lawI ch | none => true) = true := by decide +kernel
set_option maxRecDepth 100000 in
theorem chkl_43 : (match mc_236[43]? with | some ch => chkC lawI ch | none => true) = true := by decide +kernel
set_option maxRecDepth 100000 in
theorem chkl_44 : (match mc_236[44]? with | some ch => chkC lawI ch | none => true) = true := by decide +kernel
theorem mc_law_len : mc_236.length = 45 := rfl
theorem chkl_all : mc_236.all (chkC lawI) = true := by
  rw [List.all_eq_true]
  intro ch hc
  obtain ⟨k, hk, e⟩ := List.getElem_of_mem hc
  have hk' : k < 45 := by rw [← mc_law_len]; exact hk
  have e' : mc_236[k]? = some ch := by rw [List.getElem?_eq_getElem hk, e]
  have key : (match mc_236[k]? with | some ch => chkC lawI ch | none => true) = true := by
    match k, hk' with
    | 0, _ => exact chkl_0
    | 1, _ => exact chkl_1
    | 2, _ => exact chkl_2
    | 3, _ => exact chkl_3
    | 4, _ => exact chkl_4
    | 5, _ => exact chkl_5
    | 6, _ => exact chkl_6
    | 7, _ => exact chkl_7
    | 8, _ => exact chkl_8
    | 9, _ => exact chkl_9
    | 10, _ => exact chkl_10
    | 11, _ => exact chkl_11
    | 12, _ => exact chkl_12
    | 13, _ => exact chkl_13
    | 14, _ => exact chkl_14
    | 15, _ => exact chkl_15
    | 16, _ => exact chkl_16
    | 17, _ => exact chkl_17
    | 18, _ => exact chkl_18
    | 19, _ => exact chkl_19
    | 20, _ => exact chkl_20
    | 21, _ => exact chkl_21
    | 22, _ => exact chkl_22
    | 23, _ => exact chkl_23
    | 24, _ => exact chkl_24
    | 25, _ => exact chkl_25
    | 26, _ => exact chkl_26
    | 27, _ => exact chkl_27
    | 28, _ => exact chkl_28
    | 29, _ => exact chkl_29
    | 30, _ => exact chkl_30
    | 31, _ => exact chkl_31
    | 32, _ => exact chkl_32
    | 33, _ => exact chkl_33
    | 34, _ => exact chkl_34
    | 35, _ => exact chkl_35
    | 36, _ => exact chkl_36
    | 37, _ => exact chkl_37
    | 38, _ => exact chkl_38
    | 39, _ => exact chkl_39
    | 40, _ => exact chkl_40
    | 41, _ => exact chkl_41
    | 42, _ => exact chkl_42
    | 43, _ => exact chkl_43
    | 44, _ => exact chkl_44
  rw [e'] at key
  exact key
theorem chk_law : chkM 236 = true := by
  show (mok0 lawI 4 && mc_236.all (chkC lawI)) = true
  rw [chkl_all, Bool.and_true]
  decide +kernel
/-- the two that the machine does itself -/
def isMM (M : Nat) : Bool := M == 227 || M == 228
