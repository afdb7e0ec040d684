theorem dX9_init_0 : decode cX9_init 0 = .ok (.aload_n 0, 1) := by decide +kernel
theorem dX9_init_1 : decode cX9_init 1 = .ok (.invokespecial 1, 3) := by decide +kernel
theorem dX9_init_4 : decode cX9_init 4 = .ok (.aload_n 0, 1) := by decide +kernel
theorem dX9_init_5 : decode cX9_init 5 = .ok (.bipush 40, 2) := by decide +kernel
theorem dX9_init_7 : decode cX9_init 7 = .ok (.newarray .int, 2) := by decide +kernel
theorem dX9_init_9 : decode cX9_init 9 = .ok (.putfield 7, 3) := by decide +kernel
theorem dX9_init_12 : decode cX9_init 12 = .ok (.aload_n 0, 1) := by decide +kernel
theorem dX9_init_13 : decode cX9_init 13 = .ok (.bipush 40, 2) := by decide +kernel
theorem dX9_init_15 : decode cX9_init 15 = .ok (.newarray .int, 2) := by decide +kernel
theorem dX9_init_17 : decode cX9_init 17 = .ok (.putfield 13, 3) := by decide +kernel
theorem dX9_init_20 : decode cX9_init 20 = .ok (.aload_n 0, 1) := by decide +kernel
theorem dX9_init_21 : decode cX9_init 21 = .ok (.bipush 40, 2) := by decide +kernel
theorem dX9_init_23 : decode cX9_init 23 = .ok (.newarray .int, 2) := by decide +kernel
theorem dX9_init_25 : decode cX9_init 25 = .ok (.putfield 16, 3) := by decide +kernel
theorem dX9_init_28 : decode cX9_init 28 = .ok (.aload_n 0, 1) := by decide +kernel
theorem dX9_init_29 : decode cX9_init 29 = .ok (.bipush 40, 2) := by decide +kernel
theorem dX9_init_31 : decode cX9_init 31 = .ok (.newarray .int, 2) := by decide +kernel
theorem dX9_init_33 : decode cX9_init 33 = .ok (.putfield 19, 3) := by decide +kernel
theorem dX9_init_36 : decode cX9_init 36 = .ok (.aload_n 0, 1) := by decide +kernel
theorem dX9_init_37 : decode cX9_init 37 = .ok (.bipush 40, 2) := by decide +kernel
theorem dX9_init_39 : decode cX9_init 39 = .ok (.newarray .int, 2) := by decide +kernel
theorem dX9_init_41 : decode cX9_init 41 = .ok (.putfield 22, 3) := by decide +kernel
theorem dX9_init_44 : decode cX9_init 44 = .ok (.aload_n 0, 1) := by decide +kernel
theorem dX9_init_45 : decode cX9_init 45 = .ok (.bipush 40, 2) := by decide +kernel
theorem dX9_init_47 : decode cX9_init 47 = .ok (.newarray .int, 2) := by decide +kernel
theorem dX9_init_49 : decode cX9_init 49 = .ok (.putfield 25, 3) := by decide +kernel
theorem dX9_init_52 : decode cX9_init 52 = .ok (.aload_n 0, 1) := by decide +kernel
theorem dX9_init_53 : decode cX9_init 53 = .ok (.iconst 5, 1) := by decide +kernel
theorem dX9_init_54 : decode cX9_init 54 = .ok (.newarray .int, 2) := by decide +kernel
theorem dX9_init_56 : decode cX9_init 56 = .ok (.dup, 1) := by decide +kernel
theorem dX9_init_57 : decode cX9_init 57 = .ok (.iconst 0, 1) := by decide +kernel
theorem dX9_init_58 : decode cX9_init 58 = .ok (.iconst 2, 1) := by decide +kernel
theorem dX9_init_59 : decode cX9_init 59 = .ok (.iastore, 1) := by decide +kernel
theorem dX9_init_60 : decode cX9_init 60 = .ok (.dup, 1) := by decide +kernel
theorem dX9_init_61 : decode cX9_init 61 = .ok (.iconst 1, 1) := by decide +kernel
theorem dX9_init_62 : decode cX9_init 62 = .ok (.iconst 2, 1) := by decide +kernel
theorem dX9_init_63 : decode cX9_init 63 = .ok (.iastore, 1) := by decide +kernel
theorem dX9_init_64 : decode cX9_init 64 = .ok (.dup, 1) := by decide +kernel
theorem dX9_init_65 : decode cX9_init 65 = .ok (.iconst 2, 1) := by decide +kernel
theorem dX9_init_66 : decode cX9_init 66 = .ok (.iconst 2, 1) := by decide +kernel
theorem dX9_init_67 : decode cX9_init 67 = .ok (.iastore, 1) := by decide +kernel
theorem dX9_init_68 : decode cX9_init 68 = .ok (.dup, 1) := by decide +kernel
theorem dX9_init_69 : decode cX9_init 69 = .ok (.iconst 3, 1) := by decide +kernel
theorem dX9_init_70 : decode cX9_init 70 = .ok (.iconst 2, 1) := by decide +kernel
theorem dX9_init_71 : decode cX9_init 71 = .ok (.iastore, 1) := by decide +kernel
theorem dX9_init_72 : decode cX9_init 72 = .ok (.dup, 1) := by decide +kernel
theorem dX9_init_73 : decode cX9_init 73 = .ok (.iconst 4, 1) := by decide +kernel
theorem dX9_init_74 : decode cX9_init 74 = .ok (.iconst 2, 1) := by decide +kernel
theorem dX9_init_75 : decode cX9_init 75 = .ok (.iastore, 1) := by decide +kernel
theorem dX9_init_76 : decode cX9_init 76 = .ok (.putfield 28, 3) := by decide +kernel
theorem dX9_init_79 : decode cX9_init 79 = .ok (.aload_n 0, 1) := by decide +kernel
theorem dX9_init_80 : decode cX9_init 80 = .ok (.iconst 5, 1) := by decide +kernel
theorem dX9_init_81 : decode cX9_init 81 = .ok (.newarray .int, 2) := by decide +kernel
theorem dX9_init_83 : decode cX9_init 83 = .ok (.dup, 1) := by decide +kernel
theorem dX9_init_84 : decode cX9_init 84 = .ok (.iconst 0, 1) := by decide +kernel
theorem dX9_init_85 : decode cX9_init 85 = .ok (.bipush 30, 2) := by decide +kernel
theorem dX9_init_87 : decode cX9_init 87 = .ok (.iastore, 1) := by decide +kernel
theorem dX9_init_88 : decode cX9_init 88 = .ok (.dup, 1) := by decide +kernel
theorem dX9_init_89 : decode cX9_init 89 = .ok (.iconst 1, 1) := by decide +kernel
theorem dX9_init_90 : decode cX9_init 90 = .ok (.bipush 30, 2) := by decide +kernel
theorem dX9_init_92 : decode cX9_init 92 = .ok (.iastore, 1) := by decide +kernel
theorem dX9_init_93 : decode cX9_init 93 = .ok (.dup, 1) := by decide +kernel
theorem dX9_init_94 : decode cX9_init 94 = .ok (.iconst 2, 1) := by decide +kernel
theorem dX9_init_95 : decode cX9_init 95 = .ok (.bipush 30, 2) := by decide +kernel
theorem dX9_init_97 : decode cX9_init 97 = .ok (.iastore, 1) := by decide +kernel
theorem dX9_init_98 : decode cX9_init 98 = .ok (.dup, 1) := by decide +kernel
theorem dX9_init_99 : decode cX9_init 99 = .ok (.iconst 3, 1) := by decide +kernel
theorem dX9_init_100 : decode cX9_init 100 = .ok (.bipush 30, 2) := by decide +kernel
theorem dX9_init_102 : decode cX9_init 102 = .ok (.iastore, 1) := by decide +kernel
theorem dX9_init_103 : decode cX9_init 103 = .ok (.dup, 1) := by decide +kernel
theorem dX9_init_104 : decode cX9_init 104 = .ok (.iconst 4, 1) := by decide +kernel
theorem dX9_init_105 : decode cX9_init 105 = .ok (.bipush 30, 2) := by decide +kernel
theorem dX9_init_107 : decode cX9_init 107 = .ok (.iastore, 1) := by decide +kernel
theorem dX9_init_108 : decode cX9_init 108 = .ok (.putfield 31, 3) := by decide +kernel
theorem dX9_init_111 : decode cX9_init 111 = .ok (.aload_n 0, 1) := by decide +kernel
theorem dX9_init_112 : decode cX9_init 112 = .ok (.bipush 40, 2) := by decide +kernel
theorem dX9_init_114 : decode cX9_init 114 = .ok (.newarray .int, 2) := by decide +kernel
theorem dX9_init_116 : decode cX9_init 116 = .ok (.putfield 34, 3) := by decide +kernel
theorem dX9_init_119 : decode cX9_init 119 = .ok (.aload_n 0, 1) := by decide +kernel
theorem dX9_init_120 : decode cX9_init 120 = .ok (.bipush 40, 2) := by decide +kernel
theorem dX9_init_122 : decode cX9_init 122 = .ok (.newarray .boolean, 2) := by decide +kernel
theorem dX9_init_124 : decode cX9_init 124 = .ok (.putfield 37, 3) := by decide +kernel
theorem dX9_init_127 : decode cX9_init 127 = .ok (.aload_n 0, 1) := by decide +kernel
theorem dX9_init_128 : decode cX9_init 128 = .ok (.bipush 40, 2) := by decide +kernel
theorem dX9_init_130 : decode cX9_init 130 = .ok (.newarray .int, 2) := by decide +kernel
theorem dX9_init_132 : decode cX9_init 132 = .ok (.putfield 41, 3) := by decide +kernel
theorem dX9_init_135 : decode cX9_init 135 = .ok (.aload_n 0, 1) := by decide +kernel
theorem dX9_init_136 : decode cX9_init 136 = .ok (.bipush 40, 2) := by decide +kernel
theorem dX9_init_138 : decode cX9_init 138 = .ok (.newarray .int, 2) := by decide +kernel
theorem dX9_init_140 : decode cX9_init 140 = .ok (.putfield 44, 3) := by decide +kernel
theorem dX9_init_143 : decode cX9_init 143 = .ok (.aload_n 0, 1) := by decide +kernel
theorem dX9_init_144 : decode cX9_init 144 = .ok (.bipush 40, 2) := by decide +kernel
theorem dX9_init_146 : decode cX9_init 146 = .ok (.newarray .int, 2) := by decide +kernel
theorem dX9_init_148 : decode cX9_init 148 = .ok (.putfield 47, 3) := by decide +kernel
theorem dX9_init_151 : decode cX9_init 151 = .ok (.aload_n 0, 1) := by decide +kernel
theorem dX9_init_152 : decode cX9_init 152 = .ok (.bipush 40, 2) := by decide +kernel
theorem dX9_init_154 : decode cX9_init 154 = .ok (.newarray .boolean, 2) := by decide +kernel
theorem dX9_init_156 : decode cX9_init 156 = .ok (.putfield 50, 3) := by decide +kernel
theorem dX9_init_159 : decode cX9_init 159 = .ok (.aload_n 0, 1) := by decide +kernel
theorem dX9_init_160 : decode cX9_init 160 = .ok (.bipush 80, 2) := by decide +kernel
theorem dX9_init_162 : decode cX9_init 162 = .ok (.newarray .int, 2) := by decide +kernel
theorem dX9_init_164 : decode cX9_init 164 = .ok (.putfield 53, 3) := by decide +kernel
theorem dX9_init_167 : decode cX9_init 167 = .ok (.aload_n 0, 1) := by decide +kernel
theorem dX9_init_168 : decode cX9_init 168 = .ok (.bipush 48, 2) := by decide +kernel
theorem dX9_init_170 : decode cX9_init 170 = .ok (.newarray .int, 2) := by decide +kernel
theorem dX9_init_172 : decode cX9_init 172 = .ok (.putfield 56, 3) := by decide +kernel
theorem dX9_init_175 : decode cX9_init 175 = .ok (.aload_n 0, 1) := by decide +kernel
theorem dX9_init_176 : decode cX9_init 176 = .ok (.iconst 5, 1) := by decide +kernel
theorem dX9_init_177 : decode cX9_init 177 = .ok (.newarray .int, 2) := by decide +kernel
theorem dX9_init_179 : decode cX9_init 179 = .ok (.dup, 1) := by decide +kernel
theorem dX9_init_180 : decode cX9_init 180 = .ok (.iconst 0, 1) := by decide +kernel
theorem dX9_init_181 : decode cX9_init 181 = .ok (.iconst 4, 1) := by decide +kernel
theorem dX9_init_182 : decode cX9_init 182 = .ok (.iastore, 1) := by decide +kernel
theorem dX9_init_183 : decode cX9_init 183 = .ok (.dup, 1) := by decide +kernel
theorem dX9_init_184 : decode cX9_init 184 = .ok (.iconst 1, 1) := by decide +kernel
theorem dX9_init_185 : decode cX9_init 185 = .ok (.iconst 4, 1) := by decide +kernel
theorem dX9_init_186 : decode cX9_init 186 = .ok (.iastore, 1) := by decide +kernel
theorem dX9_init_187 : decode cX9_init 187 = .ok (.dup, 1) := by decide +kernel
theorem dX9_init_188 : decode cX9_init 188 = .ok (.iconst 2, 1) := by decide +kernel
theorem dX9_init_189 : decode cX9_init 189 = .ok (.iconst 4, 1) := by decide +kernel
theorem dX9_init_190 : decode cX9_init 190 = .ok (.iastore, 1) := by decide +kernel
theorem dX9_init_191 : decode cX9_init 191 = .ok (.dup, 1) := by decide +kernel
theorem dX9_init_192 : decode cX9_init 192 = .ok (.iconst 3, 1) := by decide +kernel
theorem dX9_init_193 : decode cX9_init 193 = .ok (.iconst 4, 1) := by decide +kernel
theorem dX9_init_194 : decode cX9_init 194 = .ok (.iastore, 1) := by decide +kernel
theorem dX9_init_195 : decode cX9_init 195 = .ok (.dup, 1) := by decide +kernel
theorem dX9_init_196 : decode cX9_init 196 = .ok (.iconst 4, 1) := by decide +kernel
theorem dX9_init_197 : decode cX9_init 197 = .ok (.iconst 4, 1) := by decide +kernel
theorem dX9_init_198 : decode cX9_init 198 = .ok (.iastore, 1) := by decide +kernel
theorem dX9_init_199 : decode cX9_init 199 = .ok (.putfield 59, 3) := by decide +kernel
theorem dX9_init_202 : decode cX9_init 202 = .ok (.aload_n 0, 1) := by decide +kernel
theorem dX9_init_203 : decode cX9_init 203 = .ok (.bipush 6, 2) := by decide +kernel
theorem dX9_init_205 : decode cX9_init 205 = .ok (.newarray .int, 2) := by decide +kernel
theorem dX9_init_207 : decode cX9_init 207 = .ok (.putfield 62, 3) := by decide +kernel
theorem dX9_init_210 : decode cX9_init 210 = .ok (.aload_n 0, 1) := by decide +kernel
theorem dX9_init_211 : decode cX9_init 211 = .ok (.bipush 6, 2) := by decide +kernel
theorem dX9_init_213 : decode cX9_init 213 = .ok (.newarray .int, 2) := by decide +kernel
theorem dX9_init_215 : decode cX9_init 215 = .ok (.putfield 65, 3) := by decide +kernel
theorem dX9_init_218 : decode cX9_init 218 = .ok (.aload_n 0, 1) := by decide +kernel
theorem dX9_init_219 : decode cX9_init 219 = .ok (.bipush 6, 2) := by decide +kernel
theorem dX9_init_221 : decode cX9_init 221 = .ok (.newarray .int, 2) := by decide +kernel
theorem dX9_init_223 : decode cX9_init 223 = .ok (.putfield 68, 3) := by decide +kernel
theorem dX9_init_226 : decode cX9_init 226 = .ok (.aload_n 0, 1) := by decide +kernel
theorem dX9_init_227 : decode cX9_init 227 = .ok (.iconst 4, 1) := by decide +kernel
theorem dX9_init_228 : decode cX9_init 228 = .ok (.newarray .int, 2) := by decide +kernel
theorem dX9_init_230 : decode cX9_init 230 = .ok (.putfield 71, 3) := by decide +kernel
theorem dX9_init_233 : decode cX9_init 233 = .ok (.aload_n 0, 1) := by decide +kernel
theorem dX9_init_234 : decode cX9_init 234 = .ok (.iconst 4, 1) := by decide +kernel
theorem dX9_init_235 : decode cX9_init 235 = .ok (.newarray .int, 2) := by decide +kernel
theorem dX9_init_237 : decode cX9_init 237 = .ok (.putfield 74, 3) := by decide +kernel
theorem dX9_init_240 : decode cX9_init 240 = .ok (.aload_n 0, 1) := by decide +kernel
theorem dX9_init_241 : decode cX9_init 241 = .ok (.iconst 4, 1) := by decide +kernel
theorem dX9_init_242 : decode cX9_init 242 = .ok (.newarray .int, 2) := by decide +kernel
theorem dX9_init_244 : decode cX9_init 244 = .ok (.putfield 77, 3) := by decide +kernel
theorem dX9_init_247 : decode cX9_init 247 = .ok (.aload_n 0, 1) := by decide +kernel
theorem dX9_init_248 : decode cX9_init 248 = .ok (.iconst 4, 1) := by decide +kernel
theorem dX9_init_249 : decode cX9_init 249 = .ok (.newarray .int, 2) := by decide +kernel
theorem dX9_init_251 : decode cX9_init 251 = .ok (.putfield 80, 3) := by decide +kernel
theorem dX9_init_254 : decode cX9_init 254 = .ok (.aload_n 0, 1) := by decide +kernel
theorem dX9_init_255 : decode cX9_init 255 = .ok (.bipush 48, 2) := by decide +kernel
theorem dX9_init_257 : decode cX9_init 257 = .ok (.newarray .int, 2) := by decide +kernel
theorem dX9_init_259 : decode cX9_init 259 = .ok (.putfield 83, 3) := by decide +kernel
theorem dX9_init_262 : decode cX9_init 262 = .ok (.aload_n 0, 1) := by decide +kernel
theorem dX9_init_263 : decode cX9_init 263 = .ok (.sipush 4096, 3) := by decide +kernel
theorem dX9_init_266 : decode cX9_init 266 = .ok (.newarray .boolean, 2) := by decide +kernel
theorem dX9_init_268 : decode cX9_init 268 = .ok (.putfield 86, 3) := by decide +kernel
theorem dX9_init_271 : decode cX9_init 271 = .ok (.aload_n 0, 1) := by decide +kernel
theorem dX9_init_272 : decode cX9_init 272 = .ok (.sipush 4096, 3) := by decide +kernel
theorem dX9_init_275 : decode cX9_init 275 = .ok (.newarray .int, 2) := by decide +kernel
theorem dX9_init_277 : decode cX9_init 277 = .ok (.putfield 89, 3) := by decide +kernel
theorem dX9_init_280 : decode cX9_init 280 = .ok (.aload_n 0, 1) := by decide +kernel
theorem dX9_init_281 : decode cX9_init 281 = .ok (.bipush 12, 2) := by decide +kernel
theorem dX9_init_283 : decode cX9_init 283 = .ok (.newarray .int, 2) := by decide +kernel
theorem dX9_init_285 : decode cX9_init 285 = .ok (.putfield 92, 3) := by decide +kernel
theorem dX9_init_288 : decode cX9_init 288 = .ok (.aload_n 0, 1) := by decide +kernel
theorem dX9_init_289 : decode cX9_init 289 = .ok (.bipush 6, 2) := by decide +kernel
theorem dX9_init_291 : decode cX9_init 291 = .ok (.newarray .int, 2) := by decide +kernel
theorem dX9_init_293 : decode cX9_init 293 = .ok (.putfield 95, 3) := by decide +kernel
theorem dX9_init_296 : decode cX9_init 296 = .ok (.aload_n 0, 1) := by decide +kernel
theorem dX9_init_297 : decode cX9_init 297 = .ok (.bipush 7, 2) := by decide +kernel
theorem dX9_init_299 : decode cX9_init 299 = .ok (.newarray .int, 2) := by decide +kernel
theorem dX9_init_301 : decode cX9_init 301 = .ok (.putfield 98, 3) := by decide +kernel
theorem dX9_init_304 : decode cX9_init 304 = .ok (.aload_n 0, 1) := by decide +kernel
theorem dX9_init_305 : decode cX9_init 305 = .ok (.bipush 6, 2) := by decide +kernel
theorem dX9_init_307 : decode cX9_init 307 = .ok (.newarray .int, 2) := by decide +kernel
theorem dX9_init_309 : decode cX9_init 309 = .ok (.putfield 101, 3) := by decide +kernel
theorem dX9_init_312 : decode cX9_init 312 = .ok (.aload_n 0, 1) := by decide +kernel
theorem dX9_init_313 : decode cX9_init 313 = .ok (.bipush 12, 2) := by decide +kernel
theorem dX9_init_315 : decode cX9_init 315 = .ok (.newarray .int, 2) := by decide +kernel
theorem dX9_init_317 : decode cX9_init 317 = .ok (.putfield 104, 3) := by decide +kernel
theorem dX9_init_320 : decode cX9_init 320 = .ok (.return_, 1) := by decide +kernel
theorem dX9_in_0 : decode cX9_in 0 = .ok (.iload_n 0, 1) := by decide +kernel
theorem dX9_in_1 : decode cX9_in 1 = .ok (.iload_n 1, 1) := by decide +kernel
theorem dX9_in_2 : decode cX9_in 2 = .ok (.if_icmp .lt 12, 3) := by decide +kernel
theorem dX9_in_5 : decode cX9_in 5 = .ok (.iload_n 0, 1) := by decide +kernel
theorem dX9_in_6 : decode cX9_in 6 = .ok (.iload_n 2, 1) := by decide +kernel
theorem dX9_in_7 : decode cX9_in 7 = .ok (.if_icmp .gt 7, 3) := by decide +kernel
theorem dX9_in_10 : decode cX9_in 10 = .ok (.iconst 1, 1) := by decide +kernel
theorem dX9_in_11 : decode cX9_in 11 = .ok (.goto 4, 3) := by decide +kernel
theorem dX9_in_14 : decode cX9_in 14 = .ok (.iconst 0, 1) := by decide +kernel
theorem dX9_in_15 : decode cX9_in 15 = .ok (.ireturn, 1) := by decide +kernel
theorem dX9_finding_0 : decode cX9_finding 0 = .ok (.aload_n 0, 1) := by decide +kernel
theorem dX9_finding_1 : decode cX9_finding 1 = .ok (.dup, 1) := by decide +kernel
theorem dX9_finding_2 : decode cX9_finding 2 = .ok (.getfield 107, 3) := by decide +kernel
theorem dX9_finding_5 : decode cX9_finding 5 = .ok (.iconst 1, 1) := by decide +kernel
theorem dX9_finding_6 : decode cX9_finding 6 = .ok (.iadd, 1) := by decide +kernel
theorem dX9_finding_7 : decode cX9_finding 7 = .ok (.putfield 107, 3) := by decide +kernel
theorem dX9_finding_10 : decode cX9_finding 10 = .ok (.iload_n 1, 1) := by decide +kernel
theorem dX9_finding_11 : decode cX9_finding 11 = .ok (.ireturn, 1) := by decide +kernel
theorem dX9_away_0 : decode cX9_away 0 = .ok (.iload_n 0, 1) := by decide +kernel
theorem dX9_away_1 : decode cX9_away 1 = .ok (.iload_n 1, 1) := by decide +kernel
theorem dX9_away_2 : decode cX9_away 2 = .ok (.if_icmp .ge 9, 3) := by decide +kernel
theorem dX9_away_5 : decode cX9_away 5 = .ok (.iload_n 1, 1) := by decide +kernel
theorem dX9_away_6 : decode cX9_away 6 = .ok (.iload_n 0, 1) := by decide +kernel
theorem dX9_away_7 : decode cX9_away 7 = .ok (.isub, 1) := by decide +kernel
theorem dX9_away_8 : decode cX9_away 8 = .ok (.goto 6, 3) := by decide +kernel
theorem dX9_away_11 : decode cX9_away 11 = .ok (.iload_n 0, 1) := by decide +kernel
theorem dX9_away_12 : decode cX9_away 12 = .ok (.iload_n 1, 1) := by decide +kernel
theorem dX9_away_13 : decode cX9_away 13 = .ok (.isub, 1) := by decide +kernel
theorem dX9_away_14 : decode cX9_away 14 = .ok (.ireturn, 1) := by decide +kernel
theorem dX9_isKind_0 : decode cX9_isKind 0 = .ok (.iload_n 0, 1) := by decide +kernel
theorem dX9_isKind_1 : decode cX9_isKind 1 = .ok (.iconst 0, 1) := by decide +kernel
theorem dX9_isKind_2 : decode cX9_isKind 2 = .ok (.iconst 4, 1) := by decide +kernel
theorem dX9_isKind_3 : decode cX9_isKind 3 = .ok (.invokestatic 111, 3) := by decide +kernel
theorem dX9_isKind_6 : decode cX9_isKind 6 = .ok (.ireturn, 1) := by decide +kernel
theorem dX9_isAsk_0 : decode cX9_isAsk 0 = .ok (.iload_n 1, 1) := by decide +kernel
theorem dX9_isAsk_1 : decode cX9_isAsk 1 = .ok (.iconst 0, 1) := by decide +kernel
theorem dX9_isAsk_2 : decode cX9_isAsk 2 = .ok (.aload_n 0, 1) := by decide +kernel
theorem dX9_isAsk_3 : decode cX9_isAsk 3 = .ok (.getfield 115, 3) := by decide +kernel
theorem dX9_isAsk_6 : decode cX9_isAsk 6 = .ok (.iconst 1, 1) := by decide +kernel
theorem dX9_isAsk_7 : decode cX9_isAsk 7 = .ok (.isub, 1) := by decide +kernel
theorem dX9_isAsk_8 : decode cX9_isAsk 8 = .ok (.invokestatic 111, 3) := by decide +kernel
theorem dX9_isAsk_11 : decode cX9_isAsk 11 = .ok (.ireturn, 1) := by decide +kernel
theorem dX9_isThing_0 : decode cX9_isThing 0 = .ok (.iload_n 1, 1) := by decide +kernel
theorem dX9_isThing_1 : decode cX9_isThing 1 = .ok (.iconst 0, 1) := by decide +kernel
theorem dX9_isThing_2 : decode cX9_isThing 2 = .ok (.aload_n 0, 1) := by decide +kernel
theorem dX9_isThing_3 : decode cX9_isThing 3 = .ok (.getfield 118, 3) := by decide +kernel
theorem dX9_isThing_6 : decode cX9_isThing 6 = .ok (.iconst 1, 1) := by decide +kernel
theorem dX9_isThing_7 : decode cX9_isThing 7 = .ok (.isub, 1) := by decide +kernel
theorem dX9_isThing_8 : decode cX9_isThing 8 = .ok (.invokestatic 111, 3) := by decide +kernel
theorem dX9_isThing_11 : decode cX9_isThing 11 = .ok (.ireturn, 1) := by decide +kernel
theorem dX9_isDay_0 : decode cX9_isDay 0 = .ok (.iload_n 0, 1) := by decide +kernel
theorem dX9_isDay_1 : decode cX9_isDay 1 = .ok (.iconst 0, 1) := by decide +kernel
theorem dX9_isDay_2 : decode cX9_isDay 2 = .ok (.sipush 999, 3) := by decide +kernel
theorem dX9_isDay_5 : decode cX9_isDay 5 = .ok (.invokestatic 111, 3) := by decide +kernel
theorem dX9_isDay_8 : decode cX9_isDay 8 = .ok (.ireturn, 1) := by decide +kernel
theorem dX9_above_0 : decode cX9_above 0 = .ok (.iload_n 0, 1) := by decide +kernel
theorem dX9_above_1 : decode cX9_above 1 = .ok (.ifCond .ne 7, 3) := by decide +kernel
theorem dX9_above_4 : decode cX9_above 4 = .ok (.iconst (-1), 1) := by decide +kernel
theorem dX9_above_5 : decode cX9_above 5 = .ok (.goto 13, 3) := by decide +kernel
theorem dX9_above_8 : decode cX9_above 8 = .ok (.iload_n 0, 1) := by decide +kernel
theorem dX9_above_9 : decode cX9_above 9 = .ok (.iconst 4, 1) := by decide +kernel
theorem dX9_above_10 : decode cX9_above 10 = .ok (.if_icmp .ne 7, 3) := by decide +kernel
theorem dX9_above_13 : decode cX9_above 13 = .ok (.iconst 2, 1) := by decide +kernel
theorem dX9_above_14 : decode cX9_above 14 = .ok (.goto 4, 3) := by decide +kernel
theorem dX9_above_17 : decode cX9_above 17 = .ok (.iconst 0, 1) := by decide +kernel
theorem dX9_above_18 : decode cX9_above 18 = .ok (.ireturn, 1) := by decide +kernel
theorem dX9_isUnder_0 : decode cX9_isUnder 0 = .ok (.iload_n 0, 1) := by decide +kernel
theorem dX9_isUnder_1 : decode cX9_isUnder 1 = .ok (.istore_n 2, 1) := by decide +kernel
theorem dX9_isUnder_2 : decode cX9_isUnder 2 = .ok (.iload_n 2, 1) := by decide +kernel
theorem dX9_isUnder_3 : decode cX9_isUnder 3 = .ok (.ifCond .lt 16, 3) := by decide +kernel
theorem dX9_isUnder_6 : decode cX9_isUnder 6 = .ok (.iload_n 2, 1) := by decide +kernel
theorem dX9_isUnder_7 : decode cX9_isUnder 7 = .ok (.iload_n 1, 1) := by decide +kernel
theorem dX9_isUnder_8 : decode cX9_isUnder 8 = .ok (.if_icmp .eq 11, 3) := by decide +kernel
theorem dX9_isUnder_11 : decode cX9_isUnder 11 = .ok (.iload_n 2, 1) := by decide +kernel
theorem dX9_isUnder_12 : decode cX9_isUnder 12 = .ok (.invokestatic 121, 3) := by decide +kernel
theorem dX9_isUnder_15 : decode cX9_isUnder 15 = .ok (.istore_n 2, 1) := by decide +kernel
theorem dX9_isUnder_16 : decode cX9_isUnder 16 = .ok (.goto (-14), 3) := by decide +kernel
theorem dX9_isUnder_19 : decode cX9_isUnder 19 = .ok (.iload_n 2, 1) := by decide +kernel
theorem dX9_isUnder_20 : decode cX9_isUnder 20 = .ok (.iload_n 1, 1) := by decide +kernel
theorem dX9_isUnder_21 : decode cX9_isUnder 21 = .ok (.if_icmp .ne 7, 3) := by decide +kernel
theorem dX9_isUnder_24 : decode cX9_isUnder 24 = .ok (.iconst 1, 1) := by decide +kernel
theorem dX9_isUnder_25 : decode cX9_isUnder 25 = .ok (.goto 4, 3) := by decide +kernel
theorem dX9_isUnder_28 : decode cX9_isUnder 28 = .ok (.iconst 0, 1) := by decide +kernel
theorem dX9_isUnder_29 : decode cX9_isUnder 29 = .ok (.ireturn, 1) := by decide +kernel
theorem dX9_quarterOf_0 : decode cX9_quarterOf 0 = .ok (.iload_n 0, 1) := by decide +kernel
theorem dX9_quarterOf_1 : decode cX9_quarterOf 1 = .ok (.bipush 15, 2) := by decide +kernel
theorem dX9_quarterOf_3 : decode cX9_quarterOf 3 = .ok (.if_icmp .le 7, 3) := by decide +kernel
theorem dX9_quarterOf_6 : decode cX9_quarterOf 6 = .ok (.iconst 1, 1) := by decide +kernel
theorem dX9_quarterOf_7 : decode cX9_quarterOf 7 = .ok (.goto 4, 3) := by decide +kernel
theorem dX9_quarterOf_10 : decode cX9_quarterOf 10 = .ok (.iconst 0, 1) := by decide +kernel
theorem dX9_quarterOf_11 : decode cX9_quarterOf 11 = .ok (.iload_n 1, 1) := by decide +kernel
theorem dX9_quarterOf_12 : decode cX9_quarterOf 12 = .ok (.bipush 15, 2) := by decide +kernel
theorem dX9_quarterOf_14 : decode cX9_quarterOf 14 = .ok (.if_icmp .le 7, 3) := by decide +kernel
theorem dX9_quarterOf_17 : decode cX9_quarterOf 17 = .ok (.iconst 2, 1) := by decide +kernel
theorem dX9_quarterOf_18 : decode cX9_quarterOf 18 = .ok (.goto 4, 3) := by decide +kernel
theorem dX9_quarterOf_21 : decode cX9_quarterOf 21 = .ok (.iconst 0, 1) := by decide +kernel
theorem dX9_quarterOf_22 : decode cX9_quarterOf 22 = .ok (.iadd, 1) := by decide +kernel
theorem dX9_quarterOf_23 : decode cX9_quarterOf 23 = .ok (.ireturn, 1) := by decide +kernel
theorem dX9_latest_0 : decode cX9_latest 0 = .ok (.aload_n 0, 1) := by decide +kernel
theorem dX9_latest_1 : decode cX9_latest 1 = .ok (.getfield 115, 3) := by decide +kernel
theorem dX9_latest_4 : decode cX9_latest 4 = .ok (.ifCond .ne 7, 3) := by decide +kernel
theorem dX9_latest_7 : decode cX9_latest 7 = .ok (.iconst 0, 1) := by decide +kernel
theorem dX9_latest_8 : decode cX9_latest 8 = .ok (.goto 14, 3) := by decide +kernel
theorem dX9_latest_11 : decode cX9_latest 11 = .ok (.aload_n 0, 1) := by decide +kernel
theorem dX9_latest_12 : decode cX9_latest 12 = .ok (.getfield 22, 3) := by decide +kernel
theorem dX9_latest_15 : decode cX9_latest 15 = .ok (.aload_n 0, 1) := by decide +kernel
theorem dX9_latest_16 : decode cX9_latest 16 = .ok (.getfield 115, 3) := by decide +kernel
theorem dX9_latest_19 : decode cX9_latest 19 = .ok (.iconst 1, 1) := by decide +kernel
theorem dX9_latest_20 : decode cX9_latest 20 = .ok (.isub, 1) := by decide +kernel
theorem dX9_latest_21 : decode cX9_latest 21 = .ok (.iaload, 1) := by decide +kernel
theorem dX9_latest_22 : decode cX9_latest 22 = .ok (.ireturn, 1) := by decide +kernel
theorem dX9_doMeet_0 : decode cX9_doMeet 0 = .ok (.aload_n 0, 1) := by decide +kernel
theorem dX9_doMeet_1 : decode cX9_doMeet 1 = .ok (.getfield 7, 3) := by decide +kernel
theorem dX9_doMeet_4 : decode cX9_doMeet 4 = .ok (.iload_n 1, 1) := by decide +kernel
theorem dX9_doMeet_5 : decode cX9_doMeet 5 = .ok (.iaload, 1) := by decide +kernel
theorem dX9_doMeet_6 : decode cX9_doMeet 6 = .ok (.istore_n 3, 1) := by decide +kernel
theorem dX9_doMeet_7 : decode cX9_doMeet 7 = .ok (.aload_n 0, 1) := by decide +kernel
theorem dX9_doMeet_8 : decode cX9_doMeet 8 = .ok (.getfield 13, 3) := by decide +kernel
theorem dX9_doMeet_11 : decode cX9_doMeet 11 = .ok (.iload_n 1, 1) := by decide +kernel
theorem dX9_doMeet_12 : decode cX9_doMeet 12 = .ok (.iaload, 1) := by decide +kernel
theorem dX9_doMeet_13 : decode cX9_doMeet 13 = .ok (.aload_n 0, 1) := by decide +kernel
theorem dX9_doMeet_14 : decode cX9_doMeet 14 = .ok (.getfield 13, 3) := by decide +kernel
theorem dX9_doMeet_17 : decode cX9_doMeet 17 = .ok (.iload_n 2, 1) := by decide +kernel
theorem dX9_doMeet_18 : decode cX9_doMeet 18 = .ok (.iaload, 1) := by decide +kernel
theorem dX9_doMeet_19 : decode cX9_doMeet 19 = .ok (.invokestatic 125, 3) := by decide +kernel
theorem dX9_doMeet_22 : decode cX9_doMeet 22 = .ok (.aload_n 0, 1) := by decide +kernel
theorem dX9_doMeet_23 : decode cX9_doMeet 23 = .ok (.getfield 16, 3) := by decide +kernel
theorem dX9_doMeet_26 : decode cX9_doMeet 26 = .ok (.iload_n 1, 1) := by decide +kernel
theorem dX9_doMeet_27 : decode cX9_doMeet 27 = .ok (.iaload, 1) := by decide +kernel
theorem dX9_doMeet_28 : decode cX9_doMeet 28 = .ok (.aload_n 0, 1) := by decide +kernel
theorem dX9_doMeet_29 : decode cX9_doMeet 29 = .ok (.getfield 16, 3) := by decide +kernel
theorem dX9_doMeet_32 : decode cX9_doMeet 32 = .ok (.iload_n 2, 1) := by decide +kernel
theorem dX9_doMeet_33 : decode cX9_doMeet 33 = .ok (.iaload, 1) := by decide +kernel
theorem dX9_doMeet_34 : decode cX9_doMeet 34 = .ok (.invokestatic 125, 3) := by decide +kernel
theorem dX9_doMeet_37 : decode cX9_doMeet 37 = .ok (.iadd, 1) := by decide +kernel
theorem dX9_doMeet_38 : decode cX9_doMeet 38 = .ok (.istore 4, 2) := by decide +kernel
theorem dX9_doMeet_40 : decode cX9_doMeet 40 = .ok (.iload_n 3, 1) := by decide +kernel
theorem dX9_doMeet_41 : decode cX9_doMeet 41 = .ok (.aload_n 0, 1) := by decide +kernel
theorem dX9_doMeet_42 : decode cX9_doMeet 42 = .ok (.getfield 7, 3) := by decide +kernel
theorem dX9_doMeet_45 : decode cX9_doMeet 45 = .ok (.iload_n 2, 1) := by decide +kernel
theorem dX9_doMeet_46 : decode cX9_doMeet 46 = .ok (.iaload, 1) := by decide +kernel
theorem dX9_doMeet_47 : decode cX9_doMeet 47 = .ok (.if_icmp .ne 56, 3) := by decide +kernel
theorem dX9_doMeet_50 : decode cX9_doMeet 50 = .ok (.iload 4, 2) := by decide +kernel
theorem dX9_doMeet_52 : decode cX9_doMeet 52 = .ok (.aload_n 0, 1) := by decide +kernel
theorem dX9_doMeet_53 : decode cX9_doMeet 53 = .ok (.getfield 28, 3) := by decide +kernel
theorem dX9_doMeet_56 : decode cX9_doMeet 56 = .ok (.iload_n 3, 1) := by decide +kernel
theorem dX9_doMeet_57 : decode cX9_doMeet 57 = .ok (.iaload, 1) := by decide +kernel
theorem dX9_doMeet_58 : decode cX9_doMeet 58 = .ok (.aload_n 0, 1) := by decide +kernel
theorem dX9_doMeet_59 : decode cX9_doMeet 59 = .ok (.getfield 19, 3) := by decide +kernel
theorem dX9_doMeet_62 : decode cX9_doMeet 62 = .ok (.iload_n 1, 1) := by decide +kernel
theorem dX9_doMeet_63 : decode cX9_doMeet 63 = .ok (.iaload, 1) := by decide +kernel
theorem dX9_doMeet_64 : decode cX9_doMeet 64 = .ok (.iadd, 1) := by decide +kernel
theorem dX9_doMeet_65 : decode cX9_doMeet 65 = .ok (.aload_n 0, 1) := by decide +kernel
theorem dX9_doMeet_66 : decode cX9_doMeet 66 = .ok (.getfield 19, 3) := by decide +kernel
theorem dX9_doMeet_69 : decode cX9_doMeet 69 = .ok (.iload_n 2, 1) := by decide +kernel
theorem dX9_doMeet_70 : decode cX9_doMeet 70 = .ok (.iaload, 1) := by decide +kernel
theorem dX9_doMeet_71 : decode cX9_doMeet 71 = .ok (.iadd, 1) := by decide +kernel
theorem dX9_doMeet_72 : decode cX9_doMeet 72 = .ok (.if_icmp .gt 31, 3) := by decide +kernel
theorem dX9_doMeet_75 : decode cX9_doMeet 75 = .ok (.aload_n 0, 1) := by decide +kernel
theorem dX9_doMeet_76 : decode cX9_doMeet 76 = .ok (.getfield 22, 3) := by decide +kernel
theorem dX9_doMeet_79 : decode cX9_doMeet 79 = .ok (.iload_n 1, 1) := by decide +kernel
theorem dX9_doMeet_80 : decode cX9_doMeet 80 = .ok (.iaload, 1) := by decide +kernel
theorem dX9_doMeet_81 : decode cX9_doMeet 81 = .ok (.aload_n 0, 1) := by decide +kernel
theorem dX9_doMeet_82 : decode cX9_doMeet 82 = .ok (.getfield 22, 3) := by decide +kernel
theorem dX9_doMeet_85 : decode cX9_doMeet 85 = .ok (.iload_n 2, 1) := by decide +kernel
theorem dX9_doMeet_86 : decode cX9_doMeet 86 = .ok (.iaload, 1) := by decide +kernel
theorem dX9_doMeet_87 : decode cX9_doMeet 87 = .ok (.invokestatic 125, 3) := by decide +kernel
theorem dX9_doMeet_90 : decode cX9_doMeet 90 = .ok (.aload_n 0, 1) := by decide +kernel
theorem dX9_doMeet_91 : decode cX9_doMeet 91 = .ok (.getfield 31, 3) := by decide +kernel
theorem dX9_doMeet_94 : decode cX9_doMeet 94 = .ok (.iload_n 3, 1) := by decide +kernel
theorem dX9_doMeet_95 : decode cX9_doMeet 95 = .ok (.iaload, 1) := by decide +kernel
theorem dX9_doMeet_96 : decode cX9_doMeet 96 = .ok (.if_icmp .gt 7, 3) := by decide +kernel
theorem dX9_doMeet_99 : decode cX9_doMeet 99 = .ok (.iconst 1, 1) := by decide +kernel
theorem dX9_doMeet_100 : decode cX9_doMeet 100 = .ok (.goto 4, 3) := by decide +kernel
theorem dX9_doMeet_103 : decode cX9_doMeet 103 = .ok (.iconst 0, 1) := by decide +kernel
theorem dX9_doMeet_104 : decode cX9_doMeet 104 = .ok (.ireturn, 1) := by decide +kernel
theorem dX9_comes_0 : decode cX9_comes 0 = .ok (.aload_n 0, 1) := by decide +kernel
theorem dX9_comes_1 : decode cX9_comes 1 = .ok (.getfield 7, 3) := by decide +kernel
theorem dX9_comes_4 : decode cX9_comes 4 = .ok (.aload_n 0, 1) := by decide +kernel
theorem dX9_comes_5 : decode cX9_comes 5 = .ok (.getfield 115, 3) := by decide +kernel
theorem dX9_comes_8 : decode cX9_comes 8 = .ok (.iload_n 1, 1) := by decide +kernel
theorem dX9_comes_9 : decode cX9_comes 9 = .ok (.iastore, 1) := by decide +kernel
theorem dX9_comes_10 : decode cX9_comes 10 = .ok (.aload_n 0, 1) := by decide +kernel
theorem dX9_comes_11 : decode cX9_comes 11 = .ok (.getfield 13, 3) := by decide +kernel
theorem dX9_comes_14 : decode cX9_comes 14 = .ok (.aload_n 0, 1) := by decide +kernel
theorem dX9_comes_15 : decode cX9_comes 15 = .ok (.getfield 115, 3) := by decide +kernel
theorem dX9_comes_18 : decode cX9_comes 18 = .ok (.iload_n 2, 1) := by decide +kernel
theorem dX9_comes_19 : decode cX9_comes 19 = .ok (.iastore, 1) := by decide +kernel
theorem dX9_comes_20 : decode cX9_comes 20 = .ok (.aload_n 0, 1) := by decide +kernel
theorem dX9_comes_21 : decode cX9_comes 21 = .ok (.getfield 16, 3) := by decide +kernel
theorem dX9_comes_24 : decode cX9_comes 24 = .ok (.aload_n 0, 1) := by decide +kernel
theorem dX9_comes_25 : decode cX9_comes 25 = .ok (.getfield 115, 3) := by decide +kernel
theorem dX9_comes_28 : decode cX9_comes 28 = .ok (.iload_n 3, 1) := by decide +kernel
theorem dX9_comes_29 : decode cX9_comes 29 = .ok (.iastore, 1) := by decide +kernel
theorem dX9_comes_30 : decode cX9_comes 30 = .ok (.aload_n 0, 1) := by decide +kernel
theorem dX9_comes_31 : decode cX9_comes 31 = .ok (.getfield 19, 3) := by decide +kernel
theorem dX9_comes_34 : decode cX9_comes 34 = .ok (.aload_n 0, 1) := by decide +kernel
theorem dX9_comes_35 : decode cX9_comes 35 = .ok (.getfield 115, 3) := by decide +kernel
theorem dX9_comes_38 : decode cX9_comes 38 = .ok (.iload 4, 2) := by decide +kernel
theorem dX9_comes_40 : decode cX9_comes 40 = .ok (.iastore, 1) := by decide +kernel
theorem dX9_comes_41 : decode cX9_comes 41 = .ok (.aload_n 0, 1) := by decide +kernel
theorem dX9_comes_42 : decode cX9_comes 42 = .ok (.getfield 22, 3) := by decide +kernel
theorem dX9_comes_45 : decode cX9_comes 45 = .ok (.aload_n 0, 1) := by decide +kernel
theorem dX9_comes_46 : decode cX9_comes 46 = .ok (.getfield 115, 3) := by decide +kernel
theorem dX9_comes_49 : decode cX9_comes 49 = .ok (.iload 5, 2) := by decide +kernel
theorem dX9_comes_51 : decode cX9_comes 51 = .ok (.iastore, 1) := by decide +kernel
theorem dX9_comes_52 : decode cX9_comes 52 = .ok (.iconst (-1), 1) := by decide +kernel
theorem dX9_comes_53 : decode cX9_comes 53 = .ok (.istore 6, 2) := by decide +kernel
theorem dX9_comes_55 : decode cX9_comes 55 = .ok (.iconst 0, 1) := by decide +kernel
theorem dX9_comes_56 : decode cX9_comes 56 = .ok (.istore 7, 2) := by decide +kernel
theorem dX9_comes_58 : decode cX9_comes 58 = .ok (.iload 7, 2) := by decide +kernel
theorem dX9_comes_60 : decode cX9_comes 60 = .ok (.aload_n 0, 1) := by decide +kernel
theorem dX9_comes_61 : decode cX9_comes 61 = .ok (.getfield 118, 3) := by decide +kernel
theorem dX9_comes_64 : decode cX9_comes 64 = .ok (.if_icmp .ge 92, 3) := by decide +kernel
theorem dX9_comes_67 : decode cX9_comes 67 = .ok (.iload 6, 2) := by decide +kernel
theorem dX9_comes_69 : decode cX9_comes 69 = .ok (.ifCond .ge 87, 3) := by decide +kernel
theorem dX9_comes_72 : decode cX9_comes 72 = .ok (.aload_n 0, 1) := by decide +kernel
theorem dX9_comes_73 : decode cX9_comes 73 = .ok (.getfield 37, 3) := by decide +kernel
theorem dX9_comes_76 : decode cX9_comes 76 = .ok (.iload 7, 2) := by decide +kernel
theorem dX9_comes_78 : decode cX9_comes 78 = .ok (.baload, 1) := by decide +kernel
theorem dX9_comes_79 : decode cX9_comes 79 = .ok (.istore 8, 2) := by decide +kernel
theorem dX9_comes_81 : decode cX9_comes 81 = .ok (.iconst 0, 1) := by decide +kernel
theorem dX9_comes_82 : decode cX9_comes 82 = .ok (.istore 9, 2) := by decide +kernel
theorem dX9_comes_84 : decode cX9_comes 84 = .ok (.iload 9, 2) := by decide +kernel
theorem dX9_comes_86 : decode cX9_comes 86 = .ok (.aload_n 0, 1) := by decide +kernel
theorem dX9_comes_87 : decode cX9_comes 87 = .ok (.getfield 115, 3) := by decide +kernel
theorem dX9_comes_90 : decode cX9_comes 90 = .ok (.if_icmp .ge 46, 3) := by decide +kernel
theorem dX9_comes_93 : decode cX9_comes 93 = .ok (.iload 8, 2) := by decide +kernel
theorem dX9_comes_95 : decode cX9_comes 95 = .ok (.ifCond .eq 32, 3) := by decide +kernel
theorem dX9_comes_98 : decode cX9_comes 98 = .ok (.aload_n 0, 1) := by decide +kernel
theorem dX9_comes_99 : decode cX9_comes 99 = .ok (.getfield 25, 3) := by decide +kernel
theorem dX9_comes_102 : decode cX9_comes 102 = .ok (.iload 9, 2) := by decide +kernel
theorem dX9_comes_104 : decode cX9_comes 104 = .ok (.iaload, 1) := by decide +kernel
theorem dX9_comes_105 : decode cX9_comes 105 = .ok (.iload 7, 2) := by decide +kernel
theorem dX9_comes_107 : decode cX9_comes 107 = .ok (.if_icmp .ne 16, 3) := by decide +kernel
theorem dX9_comes_110 : decode cX9_comes 110 = .ok (.aload_n 0, 1) := by decide +kernel
theorem dX9_comes_111 : decode cX9_comes 111 = .ok (.iload 9, 2) := by decide +kernel
theorem dX9_comes_113 : decode cX9_comes 113 = .ok (.aload_n 0, 1) := by decide +kernel
theorem dX9_comes_114 : decode cX9_comes 114 = .ok (.getfield 115, 3) := by decide +kernel
theorem dX9_comes_117 : decode cX9_comes 117 = .ok (.invokevirtual 129, 3) := by decide +kernel
theorem dX9_comes_120 : decode cX9_comes 120 = .ok (.ifCond .eq 7, 3) := by decide +kernel
theorem dX9_comes_123 : decode cX9_comes 123 = .ok (.iconst 1, 1) := by decide +kernel
theorem dX9_comes_124 : decode cX9_comes 124 = .ok (.goto 4, 3) := by decide +kernel
theorem dX9_comes_127 : decode cX9_comes 127 = .ok (.iconst 0, 1) := by decide +kernel
theorem dX9_comes_128 : decode cX9_comes 128 = .ok (.istore 8, 2) := by decide +kernel
theorem dX9_comes_130 : decode cX9_comes 130 = .ok (.iinc 9 1, 3) := by decide +kernel
theorem dX9_comes_133 : decode cX9_comes 133 = .ok (.goto (-49), 3) := by decide +kernel
theorem dX9_comes_136 : decode cX9_comes 136 = .ok (.iload 8, 2) := by decide +kernel
theorem dX9_comes_138 : decode cX9_comes 138 = .ok (.ifCond .eq 8, 3) := by decide +kernel
theorem dX9_comes_141 : decode cX9_comes 141 = .ok (.iload 7, 2) := by decide +kernel
theorem dX9_comes_143 : decode cX9_comes 143 = .ok (.goto 5, 3) := by decide +kernel
theorem dX9_comes_146 : decode cX9_comes 146 = .ok (.iload 6, 2) := by decide +kernel
theorem dX9_comes_148 : decode cX9_comes 148 = .ok (.istore 6, 2) := by decide +kernel
theorem dX9_comes_150 : decode cX9_comes 150 = .ok (.iinc 7 1, 3) := by decide +kernel
theorem dX9_comes_153 : decode cX9_comes 153 = .ok (.goto (-95), 3) := by decide +kernel
theorem dX9_comes_156 : decode cX9_comes 156 = .ok (.iload 6, 2) := by decide +kernel
theorem dX9_comes_158 : decode cX9_comes 158 = .ok (.ifCond .ge 72, 3) := by decide +kernel
theorem dX9_comes_161 : decode cX9_comes 161 = .ok (.aload_n 0, 1) := by decide +kernel
theorem dX9_comes_162 : decode cX9_comes 162 = .ok (.getfield 118, 3) := by decide +kernel
theorem dX9_comes_165 : decode cX9_comes 165 = .ok (.istore 6, 2) := by decide +kernel
theorem dX9_comes_167 : decode cX9_comes 167 = .ok (.aload_n 0, 1) := by decide +kernel
theorem dX9_comes_168 : decode cX9_comes 168 = .ok (.getfield 34, 3) := by decide +kernel
theorem dX9_comes_171 : decode cX9_comes 171 = .ok (.aload_n 0, 1) := by decide +kernel
theorem dX9_comes_172 : decode cX9_comes 172 = .ok (.getfield 118, 3) := by decide +kernel
theorem dX9_comes_175 : decode cX9_comes 175 = .ok (.aload_n 0, 1) := by decide +kernel
theorem dX9_comes_176 : decode cX9_comes 176 = .ok (.getfield 115, 3) := by decide +kernel
theorem dX9_comes_179 : decode cX9_comes 179 = .ok (.iastore, 1) := by decide +kernel
theorem dX9_comes_180 : decode cX9_comes 180 = .ok (.aload_n 0, 1) := by decide +kernel
theorem dX9_comes_181 : decode cX9_comes 181 = .ok (.getfield 37, 3) := by decide +kernel
theorem dX9_comes_184 : decode cX9_comes 184 = .ok (.aload_n 0, 1) := by decide +kernel
theorem dX9_comes_185 : decode cX9_comes 185 = .ok (.getfield 118, 3) := by decide +kernel
theorem dX9_comes_188 : decode cX9_comes 188 = .ok (.iconst 1, 1) := by decide +kernel
theorem dX9_comes_189 : decode cX9_comes 189 = .ok (.bastore, 1) := by decide +kernel
theorem dX9_comes_190 : decode cX9_comes 190 = .ok (.aload_n 0, 1) := by decide +kernel
theorem dX9_comes_191 : decode cX9_comes 191 = .ok (.getfield 41, 3) := by decide +kernel
theorem dX9_comes_194 : decode cX9_comes 194 = .ok (.aload_n 0, 1) := by decide +kernel
theorem dX9_comes_195 : decode cX9_comes 195 = .ok (.getfield 118, 3) := by decide +kernel
theorem dX9_comes_198 : decode cX9_comes 198 = .ok (.iconst 0, 1) := by decide +kernel
theorem dX9_comes_199 : decode cX9_comes 199 = .ok (.iastore, 1) := by decide +kernel
theorem dX9_comes_200 : decode cX9_comes 200 = .ok (.aload_n 0, 1) := by decide +kernel
theorem dX9_comes_201 : decode cX9_comes 201 = .ok (.getfield 44, 3) := by decide +kernel
theorem dX9_comes_204 : decode cX9_comes 204 = .ok (.aload_n 0, 1) := by decide +kernel
theorem dX9_comes_205 : decode cX9_comes 205 = .ok (.getfield 118, 3) := by decide +kernel
theorem dX9_comes_208 : decode cX9_comes 208 = .ok (.iconst (-1), 1) := by decide +kernel
theorem dX9_comes_209 : decode cX9_comes 209 = .ok (.iastore, 1) := by decide +kernel
theorem dX9_comes_210 : decode cX9_comes 210 = .ok (.aload_n 0, 1) := by decide +kernel
theorem dX9_comes_211 : decode cX9_comes 211 = .ok (.getfield 50, 3) := by decide +kernel
theorem dX9_comes_214 : decode cX9_comes 214 = .ok (.aload_n 0, 1) := by decide +kernel
theorem dX9_comes_215 : decode cX9_comes 215 = .ok (.getfield 118, 3) := by decide +kernel
theorem dX9_comes_218 : decode cX9_comes 218 = .ok (.iconst 0, 1) := by decide +kernel
theorem dX9_comes_219 : decode cX9_comes 219 = .ok (.bastore, 1) := by decide +kernel
theorem dX9_comes_220 : decode cX9_comes 220 = .ok (.aload_n 0, 1) := by decide +kernel
theorem dX9_comes_221 : decode cX9_comes 221 = .ok (.dup, 1) := by decide +kernel
theorem dX9_comes_222 : decode cX9_comes 222 = .ok (.getfield 118, 3) := by decide +kernel
theorem dX9_comes_225 : decode cX9_comes 225 = .ok (.iconst 1, 1) := by decide +kernel
theorem dX9_comes_226 : decode cX9_comes 226 = .ok (.iadd, 1) := by decide +kernel
theorem dX9_comes_227 : decode cX9_comes 227 = .ok (.putfield 118, 3) := by decide +kernel
theorem dX9_comes_230 : decode cX9_comes 230 = .ok (.aload_n 0, 1) := by decide +kernel
theorem dX9_comes_231 : decode cX9_comes 231 = .ok (.getfield 25, 3) := by decide +kernel
theorem dX9_comes_234 : decode cX9_comes 234 = .ok (.aload_n 0, 1) := by decide +kernel
theorem dX9_comes_235 : decode cX9_comes 235 = .ok (.getfield 115, 3) := by decide +kernel
theorem dX9_comes_238 : decode cX9_comes 238 = .ok (.iload 6, 2) := by decide +kernel
theorem dX9_comes_240 : decode cX9_comes 240 = .ok (.iastore, 1) := by decide +kernel
theorem dX9_comes_241 : decode cX9_comes 241 = .ok (.aload_n 0, 1) := by decide +kernel
theorem dX9_comes_242 : decode cX9_comes 242 = .ok (.dup, 1) := by decide +kernel
theorem dX9_comes_243 : decode cX9_comes 243 = .ok (.getfield 115, 3) := by decide +kernel
theorem dX9_comes_246 : decode cX9_comes 246 = .ok (.iconst 1, 1) := by decide +kernel
theorem dX9_comes_247 : decode cX9_comes 247 = .ok (.iadd, 1) := by decide +kernel
theorem dX9_comes_248 : decode cX9_comes 248 = .ok (.putfield 115, 3) := by decide +kernel
theorem dX9_comes_251 : decode cX9_comes 251 = .ok (.iload 6, 2) := by decide +kernel
theorem dX9_comes_253 : decode cX9_comes 253 = .ok (.ireturn, 1) := by decide +kernel
theorem dX9_ask_0 : decode cX9_ask 0 = .ok (.iload_n 1, 1) := by decide +kernel
theorem dX9_ask_1 : decode cX9_ask 1 = .ok (.invokestatic 133, 3) := by decide +kernel
theorem dX9_ask_4 : decode cX9_ask 4 = .ok (.ifCond .eq 51, 3) := by decide +kernel
theorem dX9_ask_7 : decode cX9_ask 7 = .ok (.iload_n 2, 1) := by decide +kernel
theorem dX9_ask_8 : decode cX9_ask 8 = .ok (.iconst 0, 1) := by decide +kernel
theorem dX9_ask_9 : decode cX9_ask 9 = .ok (.bipush 31, 2) := by decide +kernel
theorem dX9_ask_11 : decode cX9_ask 11 = .ok (.invokestatic 111, 3) := by decide +kernel
theorem dX9_ask_14 : decode cX9_ask 14 = .ok (.ifCond .eq 41, 3) := by decide +kernel
theorem dX9_ask_17 : decode cX9_ask 17 = .ok (.iload_n 3, 1) := by decide +kernel
theorem dX9_ask_18 : decode cX9_ask 18 = .ok (.iconst 0, 1) := by decide +kernel
theorem dX9_ask_19 : decode cX9_ask 19 = .ok (.bipush 31, 2) := by decide +kernel
theorem dX9_ask_21 : decode cX9_ask 21 = .ok (.invokestatic 111, 3) := by decide +kernel
theorem dX9_ask_24 : decode cX9_ask 24 = .ok (.ifCond .eq 31, 3) := by decide +kernel
theorem dX9_ask_27 : decode cX9_ask 27 = .ok (.iload 4, 2) := by decide +kernel
theorem dX9_ask_29 : decode cX9_ask 29 = .ok (.iconst 0, 1) := by decide +kernel
theorem dX9_ask_30 : decode cX9_ask 30 = .ok (.bipush 9, 2) := by decide +kernel
theorem dX9_ask_32 : decode cX9_ask 32 = .ok (.invokestatic 111, 3) := by decide +kernel
theorem dX9_ask_35 : decode cX9_ask 35 = .ok (.ifCond .eq 20, 3) := by decide +kernel
theorem dX9_ask_38 : decode cX9_ask 38 = .ok (.iload 5, 2) := by decide +kernel
theorem dX9_ask_40 : decode cX9_ask 40 = .ok (.invokestatic 137, 3) := by decide +kernel
theorem dX9_ask_43 : decode cX9_ask 43 = .ok (.ifCond .eq 12, 3) := by decide +kernel
theorem dX9_ask_46 : decode cX9_ask 46 = .ok (.iload 5, 2) := by decide +kernel
theorem dX9_ask_48 : decode cX9_ask 48 = .ok (.aload_n 0, 1) := by decide +kernel
theorem dX9_ask_49 : decode cX9_ask 49 = .ok (.invokevirtual 140, 3) := by decide +kernel
theorem dX9_ask_52 : decode cX9_ask 52 = .ok (.if_icmp .ge 10, 3) := by decide +kernel
theorem dX9_ask_55 : decode cX9_ask 55 = .ok (.aload_n 0, 1) := by decide +kernel
theorem dX9_ask_56 : decode cX9_ask 56 = .ok (.ldc 144, 2) := by decide +kernel
theorem dX9_ask_58 : decode cX9_ask 58 = .ok (.invokevirtual 145, 3) := by decide +kernel
theorem dX9_ask_61 : decode cX9_ask 61 = .ok (.ireturn, 1) := by decide +kernel
theorem dX9_ask_62 : decode cX9_ask 62 = .ok (.aload_n 0, 1) := by decide +kernel
theorem dX9_ask_63 : decode cX9_ask 63 = .ok (.getfield 115, 3) := by decide +kernel
theorem dX9_ask_66 : decode cX9_ask 66 = .ok (.bipush 40, 2) := by decide +kernel
theorem dX9_ask_68 : decode cX9_ask 68 = .ok (.if_icmp .ne 10, 3) := by decide +kernel
theorem dX9_ask_71 : decode cX9_ask 71 = .ok (.aload_n 0, 1) := by decide +kernel
theorem dX9_ask_72 : decode cX9_ask 72 = .ok (.ldc 148, 2) := by decide +kernel
theorem dX9_ask_74 : decode cX9_ask 74 = .ok (.invokevirtual 145, 3) := by decide +kernel
theorem dX9_ask_77 : decode cX9_ask 77 = .ok (.ireturn, 1) := by decide +kernel
theorem dX9_ask_78 : decode cX9_ask 78 = .ok (.aload_n 0, 1) := by decide +kernel
theorem dX9_ask_79 : decode cX9_ask 79 = .ok (.iload_n 1, 1) := by decide +kernel
theorem dX9_ask_80 : decode cX9_ask 80 = .ok (.iload_n 2, 1) := by decide +kernel
theorem dX9_ask_81 : decode cX9_ask 81 = .ok (.iload_n 3, 1) := by decide +kernel
theorem dX9_ask_82 : decode cX9_ask 82 = .ok (.iload 4, 2) := by decide +kernel
theorem dX9_ask_84 : decode cX9_ask 84 = .ok (.iload 5, 2) := by decide +kernel
theorem dX9_ask_86 : decode cX9_ask 86 = .ok (.invokevirtual 149, 3) := by decide +kernel
theorem dX9_ask_89 : decode cX9_ask 89 = .ok (.ireturn, 1) := by decide +kernel
theorem dX9_marks_0 : decode cX9_marks 0 = .ok (.iload_n 1, 1) := by decide +kernel
theorem dX9_marks_1 : decode cX9_marks 1 = .ok (.invokestatic 133, 3) := by decide +kernel
theorem dX9_marks_4 : decode cX9_marks 4 = .ok (.ifCond .eq 23, 3) := by decide +kernel
theorem dX9_marks_7 : decode cX9_marks 7 = .ok (.iload_n 2, 1) := by decide +kernel
theorem dX9_marks_8 : decode cX9_marks 8 = .ok (.iconst 0, 1) := by decide +kernel
theorem dX9_marks_9 : decode cX9_marks 9 = .ok (.bipush 20, 2) := by decide +kernel
theorem dX9_marks_11 : decode cX9_marks 11 = .ok (.invokestatic 111, 3) := by decide +kernel
theorem dX9_marks_14 : decode cX9_marks 14 = .ok (.ifCond .eq 13, 3) := by decide +kernel
theorem dX9_marks_17 : decode cX9_marks 17 = .ok (.iload_n 3, 1) := by decide +kernel
theorem dX9_marks_18 : decode cX9_marks 18 = .ok (.iconst 0, 1) := by decide +kernel
theorem dX9_marks_19 : decode cX9_marks 19 = .ok (.bipush 99, 2) := by decide +kernel
theorem dX9_marks_21 : decode cX9_marks 21 = .ok (.invokestatic 111, 3) := by decide +kernel
theorem dX9_marks_24 : decode cX9_marks 24 = .ok (.ifCond .ne 10, 3) := by decide +kernel
theorem dX9_marks_27 : decode cX9_marks 27 = .ok (.aload_n 0, 1) := by decide +kernel
theorem dX9_marks_28 : decode cX9_marks 28 = .ok (.ldc 144, 2) := by decide +kernel
theorem dX9_marks_30 : decode cX9_marks 30 = .ok (.invokevirtual 145, 3) := by decide +kernel
theorem dX9_marks_33 : decode cX9_marks 33 = .ok (.ireturn, 1) := by decide +kernel
theorem dX9_marks_34 : decode cX9_marks 34 = .ok (.aload_n 0, 1) := by decide +kernel
theorem dX9_marks_35 : decode cX9_marks 35 = .ok (.getfield 28, 3) := by decide +kernel
theorem dX9_marks_38 : decode cX9_marks 38 = .ok (.iload_n 1, 1) := by decide +kernel
theorem dX9_marks_39 : decode cX9_marks 39 = .ok (.iload_n 2, 1) := by decide +kernel
theorem dX9_marks_40 : decode cX9_marks 40 = .ok (.iastore, 1) := by decide +kernel
theorem dX9_marks_41 : decode cX9_marks 41 = .ok (.aload_n 0, 1) := by decide +kernel
theorem dX9_marks_42 : decode cX9_marks 42 = .ok (.getfield 31, 3) := by decide +kernel
theorem dX9_marks_45 : decode cX9_marks 45 = .ok (.iload_n 1, 1) := by decide +kernel
theorem dX9_marks_46 : decode cX9_marks 46 = .ok (.iload_n 3, 1) := by decide +kernel
theorem dX9_marks_47 : decode cX9_marks 47 = .ok (.iastore, 1) := by decide +kernel
theorem dX9_marks_48 : decode cX9_marks 48 = .ok (.iconst 1, 1) := by decide +kernel
theorem dX9_marks_49 : decode cX9_marks 49 = .ok (.ireturn, 1) := by decide +kernel
theorem dX9_meet_0 : decode cX9_meet 0 = .ok (.aload_n 0, 1) := by decide +kernel
theorem dX9_meet_1 : decode cX9_meet 1 = .ok (.iload_n 1, 1) := by decide +kernel
theorem dX9_meet_2 : decode cX9_meet 2 = .ok (.invokevirtual 153, 3) := by decide +kernel
theorem dX9_meet_5 : decode cX9_meet 5 = .ok (.ifCond .eq 16, 3) := by decide +kernel
theorem dX9_meet_8 : decode cX9_meet 8 = .ok (.aload_n 0, 1) := by decide +kernel
theorem dX9_meet_9 : decode cX9_meet 9 = .ok (.iload_n 2, 1) := by decide +kernel
theorem dX9_meet_10 : decode cX9_meet 10 = .ok (.invokevirtual 153, 3) := by decide +kernel
theorem dX9_meet_13 : decode cX9_meet 13 = .ok (.ifCond .eq 8, 3) := by decide +kernel
theorem dX9_meet_16 : decode cX9_meet 16 = .ok (.iload_n 1, 1) := by decide +kernel
theorem dX9_meet_17 : decode cX9_meet 17 = .ok (.iload_n 2, 1) := by decide +kernel
theorem dX9_meet_18 : decode cX9_meet 18 = .ok (.if_icmp .ne 10, 3) := by decide +kernel
theorem dX9_meet_21 : decode cX9_meet 21 = .ok (.aload_n 0, 1) := by decide +kernel
theorem dX9_meet_22 : decode cX9_meet 22 = .ok (.ldc 144, 2) := by decide +kernel
theorem dX9_meet_24 : decode cX9_meet 24 = .ok (.invokevirtual 145, 3) := by decide +kernel
theorem dX9_meet_27 : decode cX9_meet 27 = .ok (.ireturn, 1) := by decide +kernel
theorem dX9_meet_28 : decode cX9_meet 28 = .ok (.aload_n 0, 1) := by decide +kernel
theorem dX9_meet_29 : decode cX9_meet 29 = .ok (.iload_n 1, 1) := by decide +kernel
theorem dX9_meet_30 : decode cX9_meet 30 = .ok (.iload_n 2, 1) := by decide +kernel
theorem dX9_meet_31 : decode cX9_meet 31 = .ok (.invokevirtual 129, 3) := by decide +kernel
theorem dX9_meet_34 : decode cX9_meet 34 = .ok (.ifCond .eq 7, 3) := by decide +kernel
theorem dX9_meet_37 : decode cX9_meet 37 = .ok (.iconst 1, 1) := by decide +kernel
theorem dX9_meet_38 : decode cX9_meet 38 = .ok (.goto 4, 3) := by decide +kernel
theorem dX9_meet_41 : decode cX9_meet 41 = .ok (.iconst 0, 1) := by decide +kernel
theorem dX9_meet_42 : decode cX9_meet 42 = .ok (.ireturn, 1) := by decide +kernel
theorem dX9_of_0 : decode cX9_of 0 = .ok (.aload_n 0, 1) := by decide +kernel
theorem dX9_of_1 : decode cX9_of 1 = .ok (.iload_n 1, 1) := by decide +kernel
theorem dX9_of_2 : decode cX9_of 2 = .ok (.invokevirtual 153, 3) := by decide +kernel
theorem dX9_of_5 : decode cX9_of 5 = .ok (.ifCond .eq 13, 3) := by decide +kernel
theorem dX9_of_8 : decode cX9_of 8 = .ok (.iload_n 2, 1) := by decide +kernel
theorem dX9_of_9 : decode cX9_of 9 = .ok (.iconst 0, 1) := by decide +kernel
theorem dX9_of_10 : decode cX9_of 10 = .ok (.bipush 6, 2) := by decide +kernel
theorem dX9_of_12 : decode cX9_of 12 = .ok (.invokestatic 111, 3) := by decide +kernel
theorem dX9_of_15 : decode cX9_of 15 = .ok (.ifCond .ne 10, 3) := by decide +kernel
theorem dX9_of_18 : decode cX9_of 18 = .ok (.aload_n 0, 1) := by decide +kernel
theorem dX9_of_19 : decode cX9_of 19 = .ok (.ldc 144, 2) := by decide +kernel
theorem dX9_of_21 : decode cX9_of 21 = .ok (.invokevirtual 145, 3) := by decide +kernel
theorem dX9_of_24 : decode cX9_of 24 = .ok (.ireturn, 1) := by decide +kernel
theorem dX9_of_25 : decode cX9_of 25 = .ok (.iload_n 2, 1) := by decide +kernel
theorem dX9_of_26 : decode cX9_of 26 = .ok (.tableswitch 80 0 5 #[38, 45, 52, 59, 66, 73], 38) := by decide +kernel
theorem dX9_of_64 : decode cX9_of 64 = .ok (.aload_n 0, 1) := by decide +kernel
theorem dX9_of_65 : decode cX9_of 65 = .ok (.getfield 7, 3) := by decide +kernel
theorem dX9_of_68 : decode cX9_of 68 = .ok (.iload_n 1, 1) := by decide +kernel
theorem dX9_of_69 : decode cX9_of 69 = .ok (.iaload, 1) := by decide +kernel
theorem dX9_of_70 : decode cX9_of 70 = .ok (.ireturn, 1) := by decide +kernel
theorem dX9_of_71 : decode cX9_of 71 = .ok (.aload_n 0, 1) := by decide +kernel
theorem dX9_of_72 : decode cX9_of 72 = .ok (.getfield 13, 3) := by decide +kernel
theorem dX9_of_75 : decode cX9_of 75 = .ok (.iload_n 1, 1) := by decide +kernel
theorem dX9_of_76 : decode cX9_of 76 = .ok (.iaload, 1) := by decide +kernel
theorem dX9_of_77 : decode cX9_of 77 = .ok (.ireturn, 1) := by decide +kernel
theorem dX9_of_78 : decode cX9_of 78 = .ok (.aload_n 0, 1) := by decide +kernel
theorem dX9_of_79 : decode cX9_of 79 = .ok (.getfield 16, 3) := by decide +kernel
theorem dX9_of_82 : decode cX9_of 82 = .ok (.iload_n 1, 1) := by decide +kernel
theorem dX9_of_83 : decode cX9_of 83 = .ok (.iaload, 1) := by decide +kernel
theorem dX9_of_84 : decode cX9_of 84 = .ok (.ireturn, 1) := by decide +kernel
theorem dX9_of_85 : decode cX9_of 85 = .ok (.aload_n 0, 1) := by decide +kernel
theorem dX9_of_86 : decode cX9_of 86 = .ok (.getfield 19, 3) := by decide +kernel
theorem dX9_of_89 : decode cX9_of 89 = .ok (.iload_n 1, 1) := by decide +kernel
theorem dX9_of_90 : decode cX9_of 90 = .ok (.iaload, 1) := by decide +kernel
theorem dX9_of_91 : decode cX9_of 91 = .ok (.ireturn, 1) := by decide +kernel
theorem dX9_of_92 : decode cX9_of 92 = .ok (.aload_n 0, 1) := by decide +kernel
theorem dX9_of_93 : decode cX9_of 93 = .ok (.getfield 22, 3) := by decide +kernel
theorem dX9_of_96 : decode cX9_of 96 = .ok (.iload_n 1, 1) := by decide +kernel
theorem dX9_of_97 : decode cX9_of 97 = .ok (.iaload, 1) := by decide +kernel
theorem dX9_of_98 : decode cX9_of 98 = .ok (.ireturn, 1) := by decide +kernel
theorem dX9_of_99 : decode cX9_of 99 = .ok (.aload_n 0, 1) := by decide +kernel
theorem dX9_of_100 : decode cX9_of 100 = .ok (.getfield 25, 3) := by decide +kernel
theorem dX9_of_103 : decode cX9_of 103 = .ok (.iload_n 1, 1) := by decide +kernel
theorem dX9_of_104 : decode cX9_of 104 = .ok (.iaload, 1) := by decide +kernel
theorem dX9_of_105 : decode cX9_of 105 = .ok (.ireturn, 1) := by decide +kernel
theorem dX9_of_106 : decode cX9_of 106 = .ok (.aload_n 0, 1) := by decide +kernel
theorem dX9_of_107 : decode cX9_of 107 = .ok (.getfield 13, 3) := by decide +kernel
theorem dX9_of_110 : decode cX9_of 110 = .ok (.iload_n 1, 1) := by decide +kernel
theorem dX9_of_111 : decode cX9_of 111 = .ok (.iaload, 1) := by decide +kernel
theorem dX9_of_112 : decode cX9_of 112 = .ok (.aload_n 0, 1) := by decide +kernel
theorem dX9_of_113 : decode cX9_of 113 = .ok (.getfield 16, 3) := by decide +kernel
theorem dX9_of_116 : decode cX9_of 116 = .ok (.iload_n 1, 1) := by decide +kernel
theorem dX9_of_117 : decode cX9_of 117 = .ok (.iaload, 1) := by decide +kernel
theorem dX9_of_118 : decode cX9_of 118 = .ok (.invokestatic 156, 3) := by decide +kernel
theorem dX9_of_121 : decode cX9_of 121 = .ok (.ireturn, 1) := by decide +kernel
theorem dX9_as_0 : decode cX9_as 0 = .ok (.aload_n 0, 1) := by decide +kernel
theorem dX9_as_1 : decode cX9_as 1 = .ok (.iload_n 1, 1) := by decide +kernel
theorem dX9_as_2 : decode cX9_as 2 = .ok (.invokevirtual 153, 3) := by decide +kernel
theorem dX9_as_5 : decode cX9_as 5 = .ok (.ifCond .eq 10, 3) := by decide +kernel
theorem dX9_as_8 : decode cX9_as 8 = .ok (.iload_n 2, 1) := by decide +kernel
theorem dX9_as_9 : decode cX9_as 9 = .ok (.invokestatic 133, 3) := by decide +kernel
theorem dX9_as_12 : decode cX9_as 12 = .ok (.ifCond .ne 10, 3) := by decide +kernel
theorem dX9_as_15 : decode cX9_as 15 = .ok (.aload_n 0, 1) := by decide +kernel
theorem dX9_as_16 : decode cX9_as 16 = .ok (.ldc 144, 2) := by decide +kernel
theorem dX9_as_18 : decode cX9_as 18 = .ok (.invokevirtual 145, 3) := by decide +kernel
theorem dX9_as_21 : decode cX9_as 21 = .ok (.ireturn, 1) := by decide +kernel
theorem dX9_as_22 : decode cX9_as 22 = .ok (.aload_n 0, 1) := by decide +kernel
theorem dX9_as_23 : decode cX9_as 23 = .ok (.getfield 7, 3) := by decide +kernel
theorem dX9_as_26 : decode cX9_as 26 = .ok (.iload_n 1, 1) := by decide +kernel
theorem dX9_as_27 : decode cX9_as 27 = .ok (.iaload, 1) := by decide +kernel
theorem dX9_as_28 : decode cX9_as 28 = .ok (.iload_n 2, 1) := by decide +kernel
theorem dX9_as_29 : decode cX9_as 29 = .ok (.invokestatic 159, 3) := by decide +kernel
theorem dX9_as_32 : decode cX9_as 32 = .ok (.ifCond .eq 12, 3) := by decide +kernel
theorem dX9_as_35 : decode cX9_as 35 = .ok (.aload_n 0, 1) := by decide +kernel
theorem dX9_as_36 : decode cX9_as 36 = .ok (.getfield 25, 3) := by decide +kernel
theorem dX9_as_39 : decode cX9_as 39 = .ok (.iload_n 1, 1) := by decide +kernel
theorem dX9_as_40 : decode cX9_as 40 = .ok (.iaload, 1) := by decide +kernel
theorem dX9_as_41 : decode cX9_as 41 = .ok (.goto 9, 3) := by decide +kernel
theorem dX9_as_44 : decode cX9_as 44 = .ok (.aload_n 0, 1) := by decide +kernel
theorem dX9_as_45 : decode cX9_as 45 = .ok (.ldc 162, 2) := by decide +kernel
theorem dX9_as_47 : decode cX9_as 47 = .ok (.invokevirtual 145, 3) := by decide +kernel
theorem dX9_as_50 : decode cX9_as 50 = .ok (.ireturn, 1) := by decide +kernel
theorem dX9_fewest_0 : decode cX9_fewest 0 = .ok (.iload_n 1, 1) := by decide +kernel
theorem dX9_fewest_1 : decode cX9_fewest 1 = .ok (.ifCond .lt 25, 3) := by decide +kernel
theorem dX9_fewest_4 : decode cX9_fewest 4 = .ok (.iload_n 2, 1) := by decide +kernel
theorem dX9_fewest_5 : decode cX9_fewest 5 = .ok (.ifCond .lt 21, 3) := by decide +kernel
theorem dX9_fewest_8 : decode cX9_fewest 8 = .ok (.iload_n 2, 1) := by decide +kernel
theorem dX9_fewest_9 : decode cX9_fewest 9 = .ok (.aload_n 0, 1) := by decide +kernel
theorem dX9_fewest_10 : decode cX9_fewest 10 = .ok (.getfield 115, 3) := by decide +kernel
theorem dX9_fewest_13 : decode cX9_fewest 13 = .ok (.if_icmp .gt 13, 3) := by decide +kernel
theorem dX9_fewest_16 : decode cX9_fewest 16 = .ok (.iload_n 1, 1) := by decide +kernel
theorem dX9_fewest_17 : decode cX9_fewest 17 = .ok (.aload_n 0, 1) := by decide +kernel
theorem dX9_fewest_18 : decode cX9_fewest 18 = .ok (.getfield 115, 3) := by decide +kernel
theorem dX9_fewest_21 : decode cX9_fewest 21 = .ok (.iload_n 2, 1) := by decide +kernel
theorem dX9_fewest_22 : decode cX9_fewest 22 = .ok (.isub, 1) := by decide +kernel
theorem dX9_fewest_23 : decode cX9_fewest 23 = .ok (.if_icmp .le 10, 3) := by decide +kernel
theorem dX9_fewest_26 : decode cX9_fewest 26 = .ok (.aload_n 0, 1) := by decide +kernel
theorem dX9_fewest_27 : decode cX9_fewest 27 = .ok (.ldc 144, 2) := by decide +kernel
theorem dX9_fewest_29 : decode cX9_fewest 29 = .ok (.invokevirtual 145, 3) := by decide +kernel
theorem dX9_fewest_32 : decode cX9_fewest 32 = .ok (.ireturn, 1) := by decide +kernel
theorem dX9_fewest_33 : decode cX9_fewest 33 = .ok (.iload_n 2, 1) := by decide +kernel
theorem dX9_fewest_34 : decode cX9_fewest 34 = .ok (.bipush 12, 2) := by decide +kernel
theorem dX9_fewest_36 : decode cX9_fewest 36 = .ok (.if_icmp .le 10, 3) := by decide +kernel
theorem dX9_fewest_39 : decode cX9_fewest 39 = .ok (.aload_n 0, 1) := by decide +kernel
theorem dX9_fewest_40 : decode cX9_fewest 40 = .ok (.ldc 163, 2) := by decide +kernel
theorem dX9_fewest_42 : decode cX9_fewest 42 = .ok (.invokevirtual 145, 3) := by decide +kernel
theorem dX9_fewest_45 : decode cX9_fewest 45 = .ok (.ireturn, 1) := by decide +kernel
theorem dX9_fewest_46 : decode cX9_fewest 46 = .ok (.iconst 0, 1) := by decide +kernel
theorem dX9_fewest_47 : decode cX9_fewest 47 = .ok (.istore_n 3, 1) := by decide +kernel
theorem dX9_fewest_48 : decode cX9_fewest 48 = .ok (.iload_n 3, 1) := by decide +kernel
theorem dX9_fewest_49 : decode cX9_fewest 49 = .ok (.iload_n 2, 1) := by decide +kernel
theorem dX9_fewest_50 : decode cX9_fewest 50 = .ok (.if_icmp .ge 70, 3) := by decide +kernel
theorem dX9_fewest_53 : decode cX9_fewest 53 = .ok (.aload_n 0, 1) := by decide +kernel
theorem dX9_fewest_54 : decode cX9_fewest 54 = .ok (.getfield 92, 3) := by decide +kernel
theorem dX9_fewest_57 : decode cX9_fewest 57 = .ok (.iload_n 3, 1) := by decide +kernel
theorem dX9_fewest_58 : decode cX9_fewest 58 = .ok (.iconst 1, 1) := by decide +kernel
theorem dX9_fewest_59 : decode cX9_fewest 59 = .ok (.iload_n 3, 1) := by decide +kernel
theorem dX9_fewest_60 : decode cX9_fewest 60 = .ok (.ishl, 1) := by decide +kernel
theorem dX9_fewest_61 : decode cX9_fewest 61 = .ok (.iastore, 1) := by decide +kernel
theorem dX9_fewest_62 : decode cX9_fewest 62 = .ok (.iconst 0, 1) := by decide +kernel
theorem dX9_fewest_63 : decode cX9_fewest 63 = .ok (.istore 4, 2) := by decide +kernel
theorem dX9_fewest_65 : decode cX9_fewest 65 = .ok (.iload 4, 2) := by decide +kernel
theorem dX9_fewest_67 : decode cX9_fewest 67 = .ok (.iload_n 2, 1) := by decide +kernel
theorem dX9_fewest_68 : decode cX9_fewest 68 = .ok (.if_icmp .ge 46, 3) := by decide +kernel
theorem dX9_fewest_71 : decode cX9_fewest 71 = .ok (.aload_n 0, 1) := by decide +kernel
theorem dX9_fewest_72 : decode cX9_fewest 72 = .ok (.getfield 92, 3) := by decide +kernel
theorem dX9_fewest_75 : decode cX9_fewest 75 = .ok (.iload_n 3, 1) := by decide +kernel
theorem dX9_fewest_76 : decode cX9_fewest 76 = .ok (.dup2, 1) := by decide +kernel
theorem dX9_fewest_77 : decode cX9_fewest 77 = .ok (.iaload, 1) := by decide +kernel
theorem dX9_fewest_78 : decode cX9_fewest 78 = .ok (.iload_n 3, 1) := by decide +kernel
theorem dX9_fewest_79 : decode cX9_fewest 79 = .ok (.iload 4, 2) := by decide +kernel
theorem dX9_fewest_81 : decode cX9_fewest 81 = .ok (.if_icmp .eq 24, 3) := by decide +kernel
theorem dX9_fewest_84 : decode cX9_fewest 84 = .ok (.aload_n 0, 1) := by decide +kernel
theorem dX9_fewest_85 : decode cX9_fewest 85 = .ok (.iload_n 1, 1) := by decide +kernel
theorem dX9_fewest_86 : decode cX9_fewest 86 = .ok (.iload_n 3, 1) := by decide +kernel
theorem dX9_fewest_87 : decode cX9_fewest 87 = .ok (.iadd, 1) := by decide +kernel
theorem dX9_fewest_88 : decode cX9_fewest 88 = .ok (.iload_n 1, 1) := by decide +kernel
theorem dX9_fewest_89 : decode cX9_fewest 89 = .ok (.iload 4, 2) := by decide +kernel
theorem dX9_fewest_91 : decode cX9_fewest 91 = .ok (.iadd, 1) := by decide +kernel
theorem dX9_fewest_92 : decode cX9_fewest 92 = .ok (.invokevirtual 129, 3) := by decide +kernel
theorem dX9_fewest_95 : decode cX9_fewest 95 = .ok (.ifCond .eq 10, 3) := by decide +kernel
theorem dX9_fewest_98 : decode cX9_fewest 98 = .ok (.iconst 1, 1) := by decide +kernel
theorem dX9_fewest_99 : decode cX9_fewest 99 = .ok (.iload 4, 2) := by decide +kernel
theorem dX9_fewest_101 : decode cX9_fewest 101 = .ok (.ishl, 1) := by decide +kernel
theorem dX9_fewest_102 : decode cX9_fewest 102 = .ok (.goto 4, 3) := by decide +kernel
theorem dX9_fewest_105 : decode cX9_fewest 105 = .ok (.iconst 0, 1) := by decide +kernel
theorem dX9_fewest_106 : decode cX9_fewest 106 = .ok (.ior, 1) := by decide +kernel
theorem dX9_fewest_107 : decode cX9_fewest 107 = .ok (.iastore, 1) := by decide +kernel
theorem dX9_fewest_108 : decode cX9_fewest 108 = .ok (.iinc 4 1, 3) := by decide +kernel
theorem dX9_fewest_111 : decode cX9_fewest 111 = .ok (.goto (-46), 3) := by decide +kernel
theorem dX9_fewest_114 : decode cX9_fewest 114 = .ok (.iinc 3 1, 3) := by decide +kernel
theorem dX9_fewest_117 : decode cX9_fewest 117 = .ok (.goto (-69), 3) := by decide +kernel
theorem dX9_fewest_120 : decode cX9_fewest 120 = .ok (.aload_n 0, 1) := by decide +kernel
theorem dX9_fewest_121 : decode cX9_fewest 121 = .ok (.getfield 86, 3) := by decide +kernel
theorem dX9_fewest_124 : decode cX9_fewest 124 = .ok (.iconst 0, 1) := by decide +kernel
theorem dX9_fewest_125 : decode cX9_fewest 125 = .ok (.iconst 1, 1) := by decide +kernel
theorem dX9_fewest_126 : decode cX9_fewest 126 = .ok (.bastore, 1) := by decide +kernel
theorem dX9_fewest_127 : decode cX9_fewest 127 = .ok (.aload_n 0, 1) := by decide +kernel
theorem dX9_fewest_128 : decode cX9_fewest 128 = .ok (.getfield 89, 3) := by decide +kernel
theorem dX9_fewest_131 : decode cX9_fewest 131 = .ok (.iconst 0, 1) := by decide +kernel
theorem dX9_fewest_132 : decode cX9_fewest 132 = .ok (.iconst 0, 1) := by decide +kernel
theorem dX9_fewest_133 : decode cX9_fewest 133 = .ok (.iastore, 1) := by decide +kernel
theorem dX9_fewest_134 : decode cX9_fewest 134 = .ok (.iconst 1, 1) := by decide +kernel
theorem dX9_fewest_135 : decode cX9_fewest 135 = .ok (.istore_n 3, 1) := by decide +kernel
theorem dX9_fewest_136 : decode cX9_fewest 136 = .ok (.iload_n 3, 1) := by decide +kernel
theorem dX9_fewest_137 : decode cX9_fewest 137 = .ok (.iconst 1, 1) := by decide +kernel
theorem dX9_fewest_138 : decode cX9_fewest 138 = .ok (.iload_n 2, 1) := by decide +kernel
theorem dX9_fewest_139 : decode cX9_fewest 139 = .ok (.ishl, 1) := by decide +kernel
theorem dX9_fewest_140 : decode cX9_fewest 140 = .ok (.if_icmp .ge 171, 3) := by decide +kernel
theorem dX9_fewest_143 : decode cX9_fewest 143 = .ok (.iconst 0, 1) := by decide +kernel
theorem dX9_fewest_144 : decode cX9_fewest 144 = .ok (.istore 4, 2) := by decide +kernel
theorem dX9_fewest_146 : decode cX9_fewest 146 = .ok (.iload_n 3, 1) := by decide +kernel
theorem dX9_fewest_147 : decode cX9_fewest 147 = .ok (.iload 4, 2) := by decide +kernel
theorem dX9_fewest_149 : decode cX9_fewest 149 = .ok (.ishr, 1) := by decide +kernel
theorem dX9_fewest_150 : decode cX9_fewest 150 = .ok (.iconst 1, 1) := by decide +kernel
theorem dX9_fewest_151 : decode cX9_fewest 151 = .ok (.iand, 1) := by decide +kernel
theorem dX9_fewest_152 : decode cX9_fewest 152 = .ok (.ifCond .ne 9, 3) := by decide +kernel
theorem dX9_fewest_155 : decode cX9_fewest 155 = .ok (.iinc 4 1, 3) := by decide +kernel
theorem dX9_fewest_158 : decode cX9_fewest 158 = .ok (.goto (-12), 3) := by decide +kernel
theorem dX9_fewest_161 : decode cX9_fewest 161 = .ok (.iload_n 3, 1) := by decide +kernel
theorem dX9_fewest_162 : decode cX9_fewest 162 = .ok (.iconst 1, 1) := by decide +kernel
theorem dX9_fewest_163 : decode cX9_fewest 163 = .ok (.iload 4, 2) := by decide +kernel
theorem dX9_fewest_165 : decode cX9_fewest 165 = .ok (.ishl, 1) := by decide +kernel
theorem dX9_fewest_166 : decode cX9_fewest 166 = .ok (.iconst (-1), 1) := by decide +kernel
theorem dX9_fewest_167 : decode cX9_fewest 167 = .ok (.ixor, 1) := by decide +kernel
theorem dX9_fewest_168 : decode cX9_fewest 168 = .ok (.iand, 1) := by decide +kernel
theorem dX9_fewest_169 : decode cX9_fewest 169 = .ok (.istore 5, 2) := by decide +kernel
theorem dX9_fewest_171 : decode cX9_fewest 171 = .ok (.aload_n 0, 1) := by decide +kernel
theorem dX9_fewest_172 : decode cX9_fewest 172 = .ok (.getfield 86, 3) := by decide +kernel
theorem dX9_fewest_175 : decode cX9_fewest 175 = .ok (.iload_n 3, 1) := by decide +kernel
theorem dX9_fewest_176 : decode cX9_fewest 176 = .ok (.aload_n 0, 1) := by decide +kernel
theorem dX9_fewest_177 : decode cX9_fewest 177 = .ok (.getfield 86, 3) := by decide +kernel
theorem dX9_fewest_180 : decode cX9_fewest 180 = .ok (.iload 5, 2) := by decide +kernel
theorem dX9_fewest_182 : decode cX9_fewest 182 = .ok (.baload, 1) := by decide +kernel
theorem dX9_fewest_183 : decode cX9_fewest 183 = .ok (.ifCond .eq 22, 3) := by decide +kernel
theorem dX9_fewest_186 : decode cX9_fewest 186 = .ok (.iload 5, 2) := by decide +kernel
theorem dX9_fewest_188 : decode cX9_fewest 188 = .ok (.aload_n 0, 1) := by decide +kernel
theorem dX9_fewest_189 : decode cX9_fewest 189 = .ok (.getfield 92, 3) := by decide +kernel
theorem dX9_fewest_192 : decode cX9_fewest 192 = .ok (.iload 4, 2) := by decide +kernel
theorem dX9_fewest_194 : decode cX9_fewest 194 = .ok (.iaload, 1) := by decide +kernel
theorem dX9_fewest_195 : decode cX9_fewest 195 = .ok (.iconst (-1), 1) := by decide +kernel
theorem dX9_fewest_196 : decode cX9_fewest 196 = .ok (.ixor, 1) := by decide +kernel
theorem dX9_fewest_197 : decode cX9_fewest 197 = .ok (.iand, 1) := by decide +kernel
theorem dX9_fewest_198 : decode cX9_fewest 198 = .ok (.ifCond .ne 7, 3) := by decide +kernel
theorem dX9_fewest_201 : decode cX9_fewest 201 = .ok (.iconst 1, 1) := by decide +kernel
theorem dX9_fewest_202 : decode cX9_fewest 202 = .ok (.goto 4, 3) := by decide +kernel
theorem dX9_fewest_205 : decode cX9_fewest 205 = .ok (.iconst 0, 1) := by decide +kernel
theorem dX9_fewest_206 : decode cX9_fewest 206 = .ok (.bastore, 1) := by decide +kernel
theorem dX9_fewest_207 : decode cX9_fewest 207 = .ok (.bipush 100, 2) := by decide +kernel
theorem dX9_fewest_209 : decode cX9_fewest 209 = .ok (.istore 6, 2) := by decide +kernel
theorem dX9_fewest_211 : decode cX9_fewest 211 = .ok (.iload 5, 2) := by decide +kernel
theorem dX9_fewest_213 : decode cX9_fewest 213 = .ok (.istore 7, 2) := by decide +kernel
theorem dX9_fewest_215 : decode cX9_fewest 215 = .ok (.iconst 1, 1) := by decide +kernel
theorem dX9_fewest_216 : decode cX9_fewest 216 = .ok (.istore 8, 2) := by decide +kernel
theorem dX9_fewest_218 : decode cX9_fewest 218 = .ok (.iload 8, 2) := by decide +kernel
theorem dX9_fewest_220 : decode cX9_fewest 220 = .ok (.ifCond .eq 77, 3) := by decide +kernel
theorem dX9_fewest_223 : decode cX9_fewest 223 = .ok (.iload 7, 2) := by decide +kernel
theorem dX9_fewest_225 : decode cX9_fewest 225 = .ok (.iconst 1, 1) := by decide +kernel
theorem dX9_fewest_226 : decode cX9_fewest 226 = .ok (.iload 4, 2) := by decide +kernel
theorem dX9_fewest_228 : decode cX9_fewest 228 = .ok (.ishl, 1) := by decide +kernel
theorem dX9_fewest_229 : decode cX9_fewest 229 = .ok (.ior, 1) := by decide +kernel
theorem dX9_fewest_230 : decode cX9_fewest 230 = .ok (.istore 9, 2) := by decide +kernel
theorem dX9_fewest_232 : decode cX9_fewest 232 = .ok (.iconst 1, 1) := by decide +kernel
theorem dX9_fewest_233 : decode cX9_fewest 233 = .ok (.aload_n 0, 1) := by decide +kernel
theorem dX9_fewest_234 : decode cX9_fewest 234 = .ok (.getfield 89, 3) := by decide +kernel
theorem dX9_fewest_237 : decode cX9_fewest 237 = .ok (.iload_n 3, 1) := by decide +kernel
theorem dX9_fewest_238 : decode cX9_fewest 238 = .ok (.iload 9, 2) := by decide +kernel
theorem dX9_fewest_240 : decode cX9_fewest 240 = .ok (.iconst (-1), 1) := by decide +kernel
theorem dX9_fewest_241 : decode cX9_fewest 241 = .ok (.ixor, 1) := by decide +kernel
theorem dX9_fewest_242 : decode cX9_fewest 242 = .ok (.iand, 1) := by decide +kernel
theorem dX9_fewest_243 : decode cX9_fewest 243 = .ok (.iaload, 1) := by decide +kernel
theorem dX9_fewest_244 : decode cX9_fewest 244 = .ok (.iadd, 1) := by decide +kernel
theorem dX9_fewest_245 : decode cX9_fewest 245 = .ok (.istore 10, 2) := by decide +kernel
theorem dX9_fewest_247 : decode cX9_fewest 247 = .ok (.aload_n 0, 1) := by decide +kernel
theorem dX9_fewest_248 : decode cX9_fewest 248 = .ok (.getfield 86, 3) := by decide +kernel
theorem dX9_fewest_251 : decode cX9_fewest 251 = .ok (.iload 9, 2) := by decide +kernel
theorem dX9_fewest_253 : decode cX9_fewest 253 = .ok (.baload, 1) := by decide +kernel
theorem dX9_fewest_254 : decode cX9_fewest 254 = .ok (.ifCond .eq 15, 3) := by decide +kernel
theorem dX9_fewest_257 : decode cX9_fewest 257 = .ok (.iload 10, 2) := by decide +kernel
theorem dX9_fewest_259 : decode cX9_fewest 259 = .ok (.iload 6, 2) := by decide +kernel
theorem dX9_fewest_261 : decode cX9_fewest 261 = .ok (.if_icmp .ge 8, 3) := by decide +kernel
theorem dX9_fewest_264 : decode cX9_fewest 264 = .ok (.iload 10, 2) := by decide +kernel
theorem dX9_fewest_266 : decode cX9_fewest 266 = .ok (.goto 5, 3) := by decide +kernel
theorem dX9_fewest_269 : decode cX9_fewest 269 = .ok (.iload 6, 2) := by decide +kernel
theorem dX9_fewest_271 : decode cX9_fewest 271 = .ok (.istore 6, 2) := by decide +kernel
theorem dX9_fewest_273 : decode cX9_fewest 273 = .ok (.iload 7, 2) := by decide +kernel
theorem dX9_fewest_275 : decode cX9_fewest 275 = .ok (.ifCond .eq 7, 3) := by decide +kernel
theorem dX9_fewest_278 : decode cX9_fewest 278 = .ok (.iconst 1, 1) := by decide +kernel
theorem dX9_fewest_279 : decode cX9_fewest 279 = .ok (.goto 4, 3) := by decide +kernel
theorem dX9_fewest_282 : decode cX9_fewest 282 = .ok (.iconst 0, 1) := by decide +kernel
theorem dX9_fewest_283 : decode cX9_fewest 283 = .ok (.istore 8, 2) := by decide +kernel
theorem dX9_fewest_285 : decode cX9_fewest 285 = .ok (.iload 7, 2) := by decide +kernel
theorem dX9_fewest_287 : decode cX9_fewest 287 = .ok (.iconst 1, 1) := by decide +kernel
theorem dX9_fewest_288 : decode cX9_fewest 288 = .ok (.isub, 1) := by decide +kernel
theorem dX9_fewest_289 : decode cX9_fewest 289 = .ok (.iload 5, 2) := by decide +kernel
theorem dX9_fewest_291 : decode cX9_fewest 291 = .ok (.iand, 1) := by decide +kernel
theorem dX9_fewest_292 : decode cX9_fewest 292 = .ok (.istore 7, 2) := by decide +kernel
theorem dX9_fewest_294 : decode cX9_fewest 294 = .ok (.goto (-76), 3) := by decide +kernel
theorem dX9_fewest_297 : decode cX9_fewest 297 = .ok (.aload_n 0, 1) := by decide +kernel
theorem dX9_fewest_298 : decode cX9_fewest 298 = .ok (.getfield 89, 3) := by decide +kernel
theorem dX9_fewest_301 : decode cX9_fewest 301 = .ok (.iload_n 3, 1) := by decide +kernel
theorem dX9_fewest_302 : decode cX9_fewest 302 = .ok (.iload 6, 2) := by decide +kernel
theorem dX9_fewest_304 : decode cX9_fewest 304 = .ok (.iastore, 1) := by decide +kernel
theorem dX9_fewest_305 : decode cX9_fewest 305 = .ok (.iinc 3 1, 3) := by decide +kernel
theorem dX9_fewest_308 : decode cX9_fewest 308 = .ok (.goto (-172), 3) := by decide +kernel
theorem dX9_fewest_311 : decode cX9_fewest 311 = .ok (.aload_n 0, 1) := by decide +kernel
theorem dX9_fewest_312 : decode cX9_fewest 312 = .ok (.getfield 89, 3) := by decide +kernel
theorem dX9_fewest_315 : decode cX9_fewest 315 = .ok (.iconst 1, 1) := by decide +kernel
theorem dX9_fewest_316 : decode cX9_fewest 316 = .ok (.iload_n 2, 1) := by decide +kernel
theorem dX9_fewest_317 : decode cX9_fewest 317 = .ok (.ishl, 1) := by decide +kernel
theorem dX9_fewest_318 : decode cX9_fewest 318 = .ok (.iconst 1, 1) := by decide +kernel
theorem dX9_fewest_319 : decode cX9_fewest 319 = .ok (.isub, 1) := by decide +kernel
theorem dX9_fewest_320 : decode cX9_fewest 320 = .ok (.iaload, 1) := by decide +kernel
theorem dX9_fewest_321 : decode cX9_fewest 321 = .ok (.ireturn, 1) := by decide +kernel
theorem dX9_asksOf_0 : decode cX9_asksOf 0 = .ok (.iconst 0, 1) := by decide +kernel
theorem dX9_asksOf_1 : decode cX9_asksOf 1 = .ok (.istore_n 2, 1) := by decide +kernel
theorem dX9_asksOf_2 : decode cX9_asksOf 2 = .ok (.iconst 0, 1) := by decide +kernel
theorem dX9_asksOf_3 : decode cX9_asksOf 3 = .ok (.istore_n 3, 1) := by decide +kernel
theorem dX9_asksOf_4 : decode cX9_asksOf 4 = .ok (.iload_n 3, 1) := by decide +kernel
theorem dX9_asksOf_5 : decode cX9_asksOf 5 = .ok (.aload_n 0, 1) := by decide +kernel
theorem dX9_asksOf_6 : decode cX9_asksOf 6 = .ok (.getfield 115, 3) := by decide +kernel
theorem dX9_asksOf_9 : decode cX9_asksOf 9 = .ok (.if_icmp .ge 27, 3) := by decide +kernel
theorem dX9_asksOf_12 : decode cX9_asksOf 12 = .ok (.iload_n 2, 1) := by decide +kernel
theorem dX9_asksOf_13 : decode cX9_asksOf 13 = .ok (.aload_n 0, 1) := by decide +kernel
theorem dX9_asksOf_14 : decode cX9_asksOf 14 = .ok (.getfield 25, 3) := by decide +kernel
theorem dX9_asksOf_17 : decode cX9_asksOf 17 = .ok (.iload_n 3, 1) := by decide +kernel
theorem dX9_asksOf_18 : decode cX9_asksOf 18 = .ok (.iaload, 1) := by decide +kernel
theorem dX9_asksOf_19 : decode cX9_asksOf 19 = .ok (.iload_n 1, 1) := by decide +kernel
theorem dX9_asksOf_20 : decode cX9_asksOf 20 = .ok (.if_icmp .ne 7, 3) := by decide +kernel
theorem dX9_asksOf_23 : decode cX9_asksOf 23 = .ok (.iconst 1, 1) := by decide +kernel
theorem dX9_asksOf_24 : decode cX9_asksOf 24 = .ok (.goto 4, 3) := by decide +kernel
theorem dX9_asksOf_27 : decode cX9_asksOf 27 = .ok (.iconst 0, 1) := by decide +kernel
theorem dX9_asksOf_28 : decode cX9_asksOf 28 = .ok (.iadd, 1) := by decide +kernel
theorem dX9_asksOf_29 : decode cX9_asksOf 29 = .ok (.istore_n 2, 1) := by decide +kernel
theorem dX9_asksOf_30 : decode cX9_asksOf 30 = .ok (.iinc 3 1, 3) := by decide +kernel
theorem dX9_asksOf_33 : decode cX9_asksOf 33 = .ok (.goto (-29), 3) := by decide +kernel
theorem dX9_asksOf_36 : decode cX9_asksOf 36 = .ok (.iload_n 2, 1) := by decide +kernel
theorem dX9_asksOf_37 : decode cX9_asksOf 37 = .ok (.ireturn, 1) := by decide +kernel
theorem dX9_thing_0 : decode cX9_thing 0 = .ok (.aload_n 0, 1) := by decide +kernel
theorem dX9_thing_1 : decode cX9_thing 1 = .ok (.iload_n 1, 1) := by decide +kernel
theorem dX9_thing_2 : decode cX9_thing 2 = .ok (.invokevirtual 164, 3) := by decide +kernel
theorem dX9_thing_5 : decode cX9_thing 5 = .ok (.ifCond .eq 13, 3) := by decide +kernel
theorem dX9_thing_8 : decode cX9_thing 8 = .ok (.iload_n 2, 1) := by decide +kernel
theorem dX9_thing_9 : decode cX9_thing 9 = .ok (.iconst 0, 1) := by decide +kernel
theorem dX9_thing_10 : decode cX9_thing 10 = .ok (.bipush 8, 2) := by decide +kernel
theorem dX9_thing_12 : decode cX9_thing 12 = .ok (.invokestatic 111, 3) := by decide +kernel
theorem dX9_thing_15 : decode cX9_thing 15 = .ok (.ifCond .ne 10, 3) := by decide +kernel
theorem dX9_thing_18 : decode cX9_thing 18 = .ok (.aload_n 0, 1) := by decide +kernel
theorem dX9_thing_19 : decode cX9_thing 19 = .ok (.ldc 144, 2) := by decide +kernel
theorem dX9_thing_21 : decode cX9_thing 21 = .ok (.invokevirtual 145, 3) := by decide +kernel
theorem dX9_thing_24 : decode cX9_thing 24 = .ok (.ireturn, 1) := by decide +kernel
theorem dX9_thing_25 : decode cX9_thing 25 = .ok (.iload_n 2, 1) := by decide +kernel
theorem dX9_thing_26 : decode cX9_thing 26 = .ok (.tableswitch 129 0 7 #[46, 58, 70, 82, 94, 100, 115, 122], 46) := by decide +kernel
theorem dX9_thing_72 : decode cX9_thing 72 = .ok (.aload_n 0, 1) := by decide +kernel
theorem dX9_thing_73 : decode cX9_thing 73 = .ok (.getfield 7, 3) := by decide +kernel
theorem dX9_thing_76 : decode cX9_thing 76 = .ok (.aload_n 0, 1) := by decide +kernel
theorem dX9_thing_77 : decode cX9_thing 77 = .ok (.getfield 34, 3) := by decide +kernel
theorem dX9_thing_80 : decode cX9_thing 80 = .ok (.iload_n 1, 1) := by decide +kernel
theorem dX9_thing_81 : decode cX9_thing 81 = .ok (.iaload, 1) := by decide +kernel
theorem dX9_thing_82 : decode cX9_thing 82 = .ok (.iaload, 1) := by decide +kernel
theorem dX9_thing_83 : decode cX9_thing 83 = .ok (.ireturn, 1) := by decide +kernel
theorem dX9_thing_84 : decode cX9_thing 84 = .ok (.aload_n 0, 1) := by decide +kernel
theorem dX9_thing_85 : decode cX9_thing 85 = .ok (.getfield 13, 3) := by decide +kernel
theorem dX9_thing_88 : decode cX9_thing 88 = .ok (.aload_n 0, 1) := by decide +kernel
theorem dX9_thing_89 : decode cX9_thing 89 = .ok (.getfield 34, 3) := by decide +kernel
theorem dX9_thing_92 : decode cX9_thing 92 = .ok (.iload_n 1, 1) := by decide +kernel
theorem dX9_thing_93 : decode cX9_thing 93 = .ok (.iaload, 1) := by decide +kernel
theorem dX9_thing_94 : decode cX9_thing 94 = .ok (.iaload, 1) := by decide +kernel
theorem dX9_thing_95 : decode cX9_thing 95 = .ok (.ireturn, 1) := by decide +kernel
theorem dX9_thing_96 : decode cX9_thing 96 = .ok (.aload_n 0, 1) := by decide +kernel
theorem dX9_thing_97 : decode cX9_thing 97 = .ok (.getfield 16, 3) := by decide +kernel
theorem dX9_thing_100 : decode cX9_thing 100 = .ok (.aload_n 0, 1) := by decide +kernel
theorem dX9_thing_101 : decode cX9_thing 101 = .ok (.getfield 34, 3) := by decide +kernel
theorem dX9_thing_104 : decode cX9_thing 104 = .ok (.iload_n 1, 1) := by decide +kernel
theorem dX9_thing_105 : decode cX9_thing 105 = .ok (.iaload, 1) := by decide +kernel
theorem dX9_thing_106 : decode cX9_thing 106 = .ok (.iaload, 1) := by decide +kernel
theorem dX9_thing_107 : decode cX9_thing 107 = .ok (.ireturn, 1) := by decide +kernel
theorem dX9_thing_108 : decode cX9_thing 108 = .ok (.aload_n 0, 1) := by decide +kernel
theorem dX9_thing_109 : decode cX9_thing 109 = .ok (.getfield 22, 3) := by decide +kernel
theorem dX9_thing_112 : decode cX9_thing 112 = .ok (.aload_n 0, 1) := by decide +kernel
theorem dX9_thing_113 : decode cX9_thing 113 = .ok (.getfield 34, 3) := by decide +kernel
theorem dX9_thing_116 : decode cX9_thing 116 = .ok (.iload_n 1, 1) := by decide +kernel
theorem dX9_thing_117 : decode cX9_thing 117 = .ok (.iaload, 1) := by decide +kernel
theorem dX9_thing_118 : decode cX9_thing 118 = .ok (.iaload, 1) := by decide +kernel
theorem dX9_thing_119 : decode cX9_thing 119 = .ok (.ireturn, 1) := by decide +kernel
theorem dX9_thing_120 : decode cX9_thing 120 = .ok (.aload_n 0, 1) := by decide +kernel
theorem dX9_thing_121 : decode cX9_thing 121 = .ok (.iload_n 1, 1) := by decide +kernel
theorem dX9_thing_122 : decode cX9_thing 122 = .ok (.invokevirtual 167, 3) := by decide +kernel
theorem dX9_thing_125 : decode cX9_thing 125 = .ok (.ireturn, 1) := by decide +kernel
theorem dX9_thing_126 : decode cX9_thing 126 = .ok (.aload_n 0, 1) := by decide +kernel
theorem dX9_thing_127 : decode cX9_thing 127 = .ok (.getfield 37, 3) := by decide +kernel
theorem dX9_thing_130 : decode cX9_thing 130 = .ok (.iload_n 1, 1) := by decide +kernel
theorem dX9_thing_131 : decode cX9_thing 131 = .ok (.baload, 1) := by decide +kernel
theorem dX9_thing_132 : decode cX9_thing 132 = .ok (.ifCond .eq 7, 3) := by decide +kernel
theorem dX9_thing_135 : decode cX9_thing 135 = .ok (.iconst 1, 1) := by decide +kernel
theorem dX9_thing_136 : decode cX9_thing 136 = .ok (.goto 4, 3) := by decide +kernel
theorem dX9_thing_139 : decode cX9_thing 139 = .ok (.iconst 0, 1) := by decide +kernel
theorem dX9_thing_140 : decode cX9_thing 140 = .ok (.ireturn, 1) := by decide +kernel
theorem dX9_thing_141 : decode cX9_thing 141 = .ok (.aload_n 0, 1) := by decide +kernel
theorem dX9_thing_142 : decode cX9_thing 142 = .ok (.getfield 41, 3) := by decide +kernel
theorem dX9_thing_145 : decode cX9_thing 145 = .ok (.iload_n 1, 1) := by decide +kernel
theorem dX9_thing_146 : decode cX9_thing 146 = .ok (.iaload, 1) := by decide +kernel
theorem dX9_thing_147 : decode cX9_thing 147 = .ok (.ireturn, 1) := by decide +kernel
theorem dX9_thing_148 : decode cX9_thing 148 = .ok (.aload_n 0, 1) := by decide +kernel
theorem dX9_thing_149 : decode cX9_thing 149 = .ok (.getfield 44, 3) := by decide +kernel
theorem dX9_thing_152 : decode cX9_thing 152 = .ok (.iload_n 1, 1) := by decide +kernel
theorem dX9_thing_153 : decode cX9_thing 153 = .ok (.iaload, 1) := by decide +kernel
theorem dX9_thing_154 : decode cX9_thing 154 = .ok (.ireturn, 1) := by decide +kernel
theorem dX9_thing_155 : decode cX9_thing 155 = .ok (.aload_n 0, 1) := by decide +kernel
theorem dX9_thing_156 : decode cX9_thing 156 = .ok (.getfield 37, 3) := by decide +kernel
theorem dX9_thing_159 : decode cX9_thing 159 = .ok (.iload_n 1, 1) := by decide +kernel
theorem dX9_thing_160 : decode cX9_thing 160 = .ok (.baload, 1) := by decide +kernel
theorem dX9_thing_161 : decode cX9_thing 161 = .ok (.ifCond .ne 16, 3) := by decide +kernel
theorem dX9_thing_164 : decode cX9_thing 164 = .ok (.aload_n 0, 1) := by decide +kernel
theorem dX9_thing_165 : decode cX9_thing 165 = .ok (.getfield 50, 3) := by decide +kernel
theorem dX9_thing_168 : decode cX9_thing 168 = .ok (.iload_n 1, 1) := by decide +kernel
theorem dX9_thing_169 : decode cX9_thing 169 = .ok (.baload, 1) := by decide +kernel
theorem dX9_thing_170 : decode cX9_thing 170 = .ok (.ifCond .eq 7, 3) := by decide +kernel
theorem dX9_thing_173 : decode cX9_thing 173 = .ok (.iconst 1, 1) := by decide +kernel
theorem dX9_thing_174 : decode cX9_thing 174 = .ok (.goto 4, 3) := by decide +kernel
theorem dX9_thing_177 : decode cX9_thing 177 = .ok (.iconst 0, 1) := by decide +kernel
theorem dX9_thing_178 : decode cX9_thing 178 = .ok (.ireturn, 1) := by decide +kernel
theorem dX9_asked_0 : decode cX9_asked 0 = .ok (.aload_n 0, 1) := by decide +kernel
theorem dX9_asked_1 : decode cX9_asked 1 = .ok (.iload_n 1, 1) := by decide +kernel
theorem dX9_asked_2 : decode cX9_asked 2 = .ok (.invokevirtual 164, 3) := by decide +kernel
theorem dX9_asked_5 : decode cX9_asked 5 = .ok (.ifCond .eq 7, 3) := by decide +kernel
theorem dX9_asked_8 : decode cX9_asked 8 = .ok (.iload_n 2, 1) := by decide +kernel
theorem dX9_asked_9 : decode cX9_asked 9 = .ok (.ifCond .ge 10, 3) := by decide +kernel
theorem dX9_asked_12 : decode cX9_asked 12 = .ok (.aload_n 0, 1) := by decide +kernel
theorem dX9_asked_13 : decode cX9_asked 13 = .ok (.ldc 144, 2) := by decide +kernel
theorem dX9_asked_15 : decode cX9_asked 15 = .ok (.invokevirtual 145, 3) := by decide +kernel
theorem dX9_asked_18 : decode cX9_asked 18 = .ok (.ireturn, 1) := by decide +kernel
theorem dX9_asked_19 : decode cX9_asked 19 = .ok (.iload_n 2, 1) := by decide +kernel
theorem dX9_asked_20 : decode cX9_asked 20 = .ok (.istore_n 3, 1) := by decide +kernel
theorem dX9_asked_21 : decode cX9_asked 21 = .ok (.iconst 0, 1) := by decide +kernel
theorem dX9_asked_22 : decode cX9_asked 22 = .ok (.istore 4, 2) := by decide +kernel
theorem dX9_asked_24 : decode cX9_asked 24 = .ok (.iload 4, 2) := by decide +kernel
theorem dX9_asked_26 : decode cX9_asked 26 = .ok (.aload_n 0, 1) := by decide +kernel
theorem dX9_asked_27 : decode cX9_asked 27 = .ok (.getfield 115, 3) := by decide +kernel
theorem dX9_asked_30 : decode cX9_asked 30 = .ok (.if_icmp .ge 30, 3) := by decide +kernel
theorem dX9_asked_33 : decode cX9_asked 33 = .ok (.aload_n 0, 1) := by decide +kernel
theorem dX9_asked_34 : decode cX9_asked 34 = .ok (.getfield 25, 3) := by decide +kernel
theorem dX9_asked_37 : decode cX9_asked 37 = .ok (.iload 4, 2) := by decide +kernel
theorem dX9_asked_39 : decode cX9_asked 39 = .ok (.iaload, 1) := by decide +kernel
theorem dX9_asked_40 : decode cX9_asked 40 = .ok (.iload_n 1, 1) := by decide +kernel
theorem dX9_asked_41 : decode cX9_asked 41 = .ok (.if_icmp .ne 13, 3) := by decide +kernel
theorem dX9_asked_44 : decode cX9_asked 44 = .ok (.iload_n 3, 1) := by decide +kernel
theorem dX9_asked_45 : decode cX9_asked 45 = .ok (.ifCond .ne 6, 3) := by decide +kernel
theorem dX9_asked_48 : decode cX9_asked 48 = .ok (.iload 4, 2) := by decide +kernel
theorem dX9_asked_50 : decode cX9_asked 50 = .ok (.ireturn, 1) := by decide +kernel
theorem dX9_asked_51 : decode cX9_asked 51 = .ok (.iinc 3 (-1), 3) := by decide +kernel
theorem dX9_asked_54 : decode cX9_asked 54 = .ok (.iinc 4 1, 3) := by decide +kernel
theorem dX9_asked_57 : decode cX9_asked 57 = .ok (.goto (-33), 3) := by decide +kernel
theorem dX9_asked_60 : decode cX9_asked 60 = .ok (.iconst (-1), 1) := by decide +kernel
theorem dX9_asked_61 : decode cX9_asked 61 = .ok (.ireturn, 1) := by decide +kernel
theorem dX9_feed_0 : decode cX9_feed 0 = .ok (.iload_n 3, 1) := by decide +kernel
theorem dX9_feed_1 : decode cX9_feed 1 = .ok (.iconst 1, 1) := by decide +kernel
theorem dX9_feed_2 : decode cX9_feed 2 = .ok (.bipush 8, 2) := by decide +kernel
theorem dX9_feed_4 : decode cX9_feed 4 = .ok (.invokestatic 111, 3) := by decide +kernel
theorem dX9_feed_7 : decode cX9_feed 7 = .ok (.ifCond .ne 10, 3) := by decide +kernel
theorem dX9_feed_10 : decode cX9_feed 10 = .ok (.aload_n 0, 1) := by decide +kernel
theorem dX9_feed_11 : decode cX9_feed 11 = .ok (.ldc 144, 2) := by decide +kernel
theorem dX9_feed_13 : decode cX9_feed 13 = .ok (.invokevirtual 145, 3) := by decide +kernel
theorem dX9_feed_16 : decode cX9_feed 16 = .ok (.ireturn, 1) := by decide +kernel
theorem dX9_feed_17 : decode cX9_feed 17 = .ok (.aload_n 0, 1) := by decide +kernel
theorem dX9_feed_18 : decode cX9_feed 18 = .ok (.getfield 170, 3) := by decide +kernel
theorem dX9_feed_21 : decode cX9_feed 21 = .ok (.iload_n 3, 1) := by decide +kernel
theorem dX9_feed_22 : decode cX9_feed 22 = .ok (.iadd, 1) := by decide +kernel
theorem dX9_feed_23 : decode cX9_feed 23 = .ok (.bipush 80, 2) := by decide +kernel
theorem dX9_feed_25 : decode cX9_feed 25 = .ok (.if_icmp .le 10, 3) := by decide +kernel
theorem dX9_feed_28 : decode cX9_feed 28 = .ok (.aload_n 0, 1) := by decide +kernel
theorem dX9_feed_29 : decode cX9_feed 29 = .ok (.ldc 148, 2) := by decide +kernel
theorem dX9_feed_31 : decode cX9_feed 31 = .ok (.invokevirtual 145, 3) := by decide +kernel
theorem dX9_feed_34 : decode cX9_feed 34 = .ok (.ireturn, 1) := by decide +kernel
theorem dX9_feed_35 : decode cX9_feed 35 = .ok (.iconst 0, 1) := by decide +kernel
theorem dX9_feed_36 : decode cX9_feed 36 = .ok (.istore 4, 2) := by decide +kernel
theorem dX9_feed_38 : decode cX9_feed 38 = .ok (.iload 4, 2) := by decide +kernel
theorem dX9_feed_40 : decode cX9_feed 40 = .ok (.iload_n 3, 1) := by decide +kernel
theorem dX9_feed_41 : decode cX9_feed 41 = .ok (.if_icmp .ge 33, 3) := by decide +kernel
theorem dX9_feed_44 : decode cX9_feed 44 = .ok (.aload_n 0, 1) := by decide +kernel
theorem dX9_feed_45 : decode cX9_feed 45 = .ok (.getfield 53, 3) := by decide +kernel
theorem dX9_feed_48 : decode cX9_feed 48 = .ok (.aload_n 0, 1) := by decide +kernel
theorem dX9_feed_49 : decode cX9_feed 49 = .ok (.getfield 170, 3) := by decide +kernel
theorem dX9_feed_52 : decode cX9_feed 52 = .ok (.iload 4, 2) := by decide +kernel
theorem dX9_feed_54 : decode cX9_feed 54 = .ok (.iadd, 1) := by decide +kernel
theorem dX9_feed_55 : decode cX9_feed 55 = .ok (.lload_n 1, 1) := by decide +kernel
theorem dX9_feed_56 : decode cX9_feed 56 = .ok (.bipush 8, 2) := by decide +kernel
theorem dX9_feed_58 : decode cX9_feed 58 = .ok (.iload 4, 2) := by decide +kernel
theorem dX9_feed_60 : decode cX9_feed 60 = .ok (.imul, 1) := by decide +kernel
theorem dX9_feed_61 : decode cX9_feed 61 = .ok (.lshr, 1) := by decide +kernel
theorem dX9_feed_62 : decode cX9_feed 62 = .ok (.ldc2_w 173, 3) := by decide +kernel
theorem dX9_feed_65 : decode cX9_feed 65 = .ok (.land, 1) := by decide +kernel
theorem dX9_feed_66 : decode cX9_feed 66 = .ok (.l2i, 1) := by decide +kernel
theorem dX9_feed_67 : decode cX9_feed 67 = .ok (.iastore, 1) := by decide +kernel
theorem dX9_feed_68 : decode cX9_feed 68 = .ok (.iinc 4 1, 3) := by decide +kernel
theorem dX9_feed_71 : decode cX9_feed 71 = .ok (.goto (-33), 3) := by decide +kernel
theorem dX9_feed_74 : decode cX9_feed 74 = .ok (.aload_n 0, 1) := by decide +kernel
theorem dX9_feed_75 : decode cX9_feed 75 = .ok (.dup, 1) := by decide +kernel
theorem dX9_feed_76 : decode cX9_feed 76 = .ok (.getfield 170, 3) := by decide +kernel
theorem dX9_feed_79 : decode cX9_feed 79 = .ok (.iload_n 3, 1) := by decide +kernel
theorem dX9_feed_80 : decode cX9_feed 80 = .ok (.iadd, 1) := by decide +kernel
theorem dX9_feed_81 : decode cX9_feed 81 = .ok (.putfield 170, 3) := by decide +kernel
theorem dX9_feed_84 : decode cX9_feed 84 = .ok (.aload_n 0, 1) := by decide +kernel
theorem dX9_feed_85 : decode cX9_feed 85 = .ok (.getfield 170, 3) := by decide +kernel
theorem dX9_feed_88 : decode cX9_feed 88 = .ok (.ireturn, 1) := by decide +kernel
theorem dX9_fits_0 : decode cX9_fits 0 = .ok (.aload_n 0, 1) := by decide +kernel
theorem dX9_fits_1 : decode cX9_fits 1 = .ok (.getfield 53, 3) := by decide +kernel
theorem dX9_fits_4 : decode cX9_fits 4 = .ok (.iload_n 1, 1) := by decide +kernel
theorem dX9_fits_5 : decode cX9_fits 5 = .ok (.iaload, 1) := by decide +kernel
theorem dX9_fits_6 : decode cX9_fits 6 = .ok (.istore_n 2, 1) := by decide +kernel
theorem dX9_fits_7 : decode cX9_fits 7 = .ok (.iload_n 1, 1) := by decide +kernel
theorem dX9_fits_8 : decode cX9_fits 8 = .ok (.iload_n 1, 1) := by decide +kernel
theorem dX9_fits_9 : decode cX9_fits 9 = .ok (.iconst 5, 1) := by decide +kernel
theorem dX9_fits_10 : decode cX9_fits 10 = .ok (.irem, 1) := by decide +kernel
theorem dX9_fits_11 : decode cX9_fits 11 = .ok (.isub, 1) := by decide +kernel
theorem dX9_fits_12 : decode cX9_fits 12 = .ok (.istore_n 3, 1) := by decide +kernel
theorem dX9_fits_13 : decode cX9_fits 13 = .ok (.aload_n 0, 1) := by decide +kernel
theorem dX9_fits_14 : decode cX9_fits 14 = .ok (.getfield 53, 3) := by decide +kernel
theorem dX9_fits_17 : decode cX9_fits 17 = .ok (.iload_n 3, 1) := by decide +kernel
theorem dX9_fits_18 : decode cX9_fits 18 = .ok (.iaload, 1) := by decide +kernel
theorem dX9_fits_19 : decode cX9_fits 19 = .ok (.bipush 97, 2) := by decide +kernel
theorem dX9_fits_21 : decode cX9_fits 21 = .ok (.if_icmp .ne 7, 3) := by decide +kernel
theorem dX9_fits_24 : decode cX9_fits 24 = .ok (.iconst 1, 1) := by decide +kernel
theorem dX9_fits_25 : decode cX9_fits 25 = .ok (.goto 4, 3) := by decide +kernel
theorem dX9_fits_28 : decode cX9_fits 28 = .ok (.iconst 0, 1) := by decide +kernel
theorem dX9_fits_29 : decode cX9_fits 29 = .ok (.istore 4, 2) := by decide +kernel
theorem dX9_fits_31 : decode cX9_fits 31 = .ok (.iload_n 1, 1) := by decide +kernel
theorem dX9_fits_32 : decode cX9_fits 32 = .ok (.iconst 5, 1) := by decide +kernel
theorem dX9_fits_33 : decode cX9_fits 33 = .ok (.irem, 1) := by decide +kernel
theorem dX9_fits_34 : decode cX9_fits 34 = .ok (.tableswitch 137 0 3 #[30, 54, 73, 92], 30) := by decide +kernel
theorem dX9_fits_64 : decode cX9_fits 64 = .ok (.iload_n 2, 1) := by decide +kernel
theorem dX9_fits_65 : decode cX9_fits 65 = .ok (.bipush 97, 2) := by decide +kernel
theorem dX9_fits_67 : decode cX9_fits 67 = .ok (.if_icmp .eq 9, 3) := by decide +kernel
theorem dX9_fits_70 : decode cX9_fits 70 = .ok (.iload_n 2, 1) := by decide +kernel
theorem dX9_fits_71 : decode cX9_fits 71 = .ok (.bipush 115, 2) := by decide +kernel
theorem dX9_fits_73 : decode cX9_fits 73 = .ok (.if_icmp .ne 13, 3) := by decide +kernel
theorem dX9_fits_76 : decode cX9_fits 76 = .ok (.iload_n 1, 1) := by decide +kernel
theorem dX9_fits_77 : decode cX9_fits 77 = .ok (.bipush 60, 2) := by decide +kernel
theorem dX9_fits_79 : decode cX9_fits 79 = .ok (.if_icmp .ge 7, 3) := by decide +kernel
theorem dX9_fits_82 : decode cX9_fits 82 = .ok (.iconst 1, 1) := by decide +kernel
theorem dX9_fits_83 : decode cX9_fits 83 = .ok (.goto 4, 3) := by decide +kernel
theorem dX9_fits_86 : decode cX9_fits 86 = .ok (.iconst 0, 1) := by decide +kernel
theorem dX9_fits_87 : decode cX9_fits 87 = .ok (.ireturn, 1) := by decide +kernel
theorem dX9_fits_88 : decode cX9_fits 88 = .ok (.iload_n 2, 1) := by decide +kernel
theorem dX9_fits_89 : decode cX9_fits 89 = .ok (.bipush 48, 2) := by decide +kernel
theorem dX9_fits_91 : decode cX9_fits 91 = .ok (.iload 4, 2) := by decide +kernel
theorem dX9_fits_93 : decode cX9_fits 93 = .ok (.ifCond .eq 8, 3) := by decide +kernel
theorem dX9_fits_96 : decode cX9_fits 96 = .ok (.bipush 52, 2) := by decide +kernel
theorem dX9_fits_98 : decode cX9_fits 98 = .ok (.goto 5, 3) := by decide +kernel
theorem dX9_fits_101 : decode cX9_fits 101 = .ok (.bipush 53, 2) := by decide +kernel
theorem dX9_fits_103 : decode cX9_fits 103 = .ok (.invokestatic 111, 3) := by decide +kernel
theorem dX9_fits_106 : decode cX9_fits 106 = .ok (.ireturn, 1) := by decide +kernel
theorem dX9_fits_107 : decode cX9_fits 107 = .ok (.iload_n 2, 1) := by decide +kernel
theorem dX9_fits_108 : decode cX9_fits 108 = .ok (.bipush 48, 2) := by decide +kernel
theorem dX9_fits_110 : decode cX9_fits 110 = .ok (.iload 4, 2) := by decide +kernel
theorem dX9_fits_112 : decode cX9_fits 112 = .ok (.ifCond .eq 8, 3) := by decide +kernel
theorem dX9_fits_115 : decode cX9_fits 115 = .ok (.bipush 53, 2) := by decide +kernel
theorem dX9_fits_117 : decode cX9_fits 117 = .ok (.goto 5, 3) := by decide +kernel
theorem dX9_fits_120 : decode cX9_fits 120 = .ok (.bipush 51, 2) := by decide +kernel
theorem dX9_fits_122 : decode cX9_fits 122 = .ok (.invokestatic 111, 3) := by decide +kernel
theorem dX9_fits_125 : decode cX9_fits 125 = .ok (.ireturn, 1) := by decide +kernel
theorem dX9_fits_126 : decode cX9_fits 126 = .ok (.iload 4, 2) := by decide +kernel
theorem dX9_fits_128 : decode cX9_fits 128 = .ok (.ifCond .eq 14, 3) := by decide +kernel
theorem dX9_fits_131 : decode cX9_fits 131 = .ok (.iload_n 2, 1) := by decide +kernel
theorem dX9_fits_132 : decode cX9_fits 132 = .ok (.bipush 49, 2) := by decide +kernel
theorem dX9_fits_134 : decode cX9_fits 134 = .ok (.bipush 57, 2) := by decide +kernel
theorem dX9_fits_136 : decode cX9_fits 136 = .ok (.invokestatic 111, 3) := by decide +kernel
theorem dX9_fits_139 : decode cX9_fits 139 = .ok (.goto 31, 3) := by decide +kernel
theorem dX9_fits_142 : decode cX9_fits 142 = .ok (.iload_n 2, 1) := by decide +kernel
theorem dX9_fits_143 : decode cX9_fits 143 = .ok (.bipush 48, 2) := by decide +kernel
theorem dX9_fits_145 : decode cX9_fits 145 = .ok (.bipush 53, 2) := by decide +kernel
theorem dX9_fits_147 : decode cX9_fits 147 = .ok (.invokestatic 111, 3) := by decide +kernel
theorem dX9_fits_150 : decode cX9_fits 150 = .ok (.ifCond .eq 19, 3) := by decide +kernel
theorem dX9_fits_153 : decode cX9_fits 153 = .ok (.iload_n 2, 1) := by decide +kernel
theorem dX9_fits_154 : decode cX9_fits 154 = .ok (.aload_n 0, 1) := by decide +kernel
theorem dX9_fits_155 : decode cX9_fits 155 = .ok (.getfield 53, 3) := by decide +kernel
theorem dX9_fits_158 : decode cX9_fits 158 = .ok (.iload_n 3, 1) := by decide +kernel
theorem dX9_fits_159 : decode cX9_fits 159 = .ok (.iconst 1, 1) := by decide +kernel
theorem dX9_fits_160 : decode cX9_fits 160 = .ok (.iadd, 1) := by decide +kernel
theorem dX9_fits_161 : decode cX9_fits 161 = .ok (.iaload, 1) := by decide +kernel
theorem dX9_fits_162 : decode cX9_fits 162 = .ok (.if_icmp .eq 7, 3) := by decide +kernel
theorem dX9_fits_165 : decode cX9_fits 165 = .ok (.iconst 1, 1) := by decide +kernel
theorem dX9_fits_166 : decode cX9_fits 166 = .ok (.goto 4, 3) := by decide +kernel
theorem dX9_fits_169 : decode cX9_fits 169 = .ok (.iconst 0, 1) := by decide +kernel
theorem dX9_fits_170 : decode cX9_fits 170 = .ok (.ireturn, 1) := by decide +kernel
theorem dX9_fits_171 : decode cX9_fits 171 = .ok (.iload_n 2, 1) := by decide +kernel
theorem dX9_fits_172 : decode cX9_fits 172 = .ok (.bipush 59, 2) := by decide +kernel
theorem dX9_fits_174 : decode cX9_fits 174 = .ok (.if_icmp .ne 7, 3) := by decide +kernel
theorem dX9_fits_177 : decode cX9_fits 177 = .ok (.iconst 1, 1) := by decide +kernel
theorem dX9_fits_178 : decode cX9_fits 178 = .ok (.goto 4, 3) := by decide +kernel
theorem dX9_fits_181 : decode cX9_fits 181 = .ok (.iconst 0, 1) := by decide +kernel
theorem dX9_fits_182 : decode cX9_fits 182 = .ok (.ireturn, 1) := by decide +kernel
theorem dX9_text_0 : decode cX9_text 0 = .ok (.aload_n 0, 1) := by decide +kernel
theorem dX9_text_1 : decode cX9_text 1 = .ok (.getfield 170, 3) := by decide +kernel
theorem dX9_text_4 : decode cX9_text 4 = .ok (.istore_n 1, 1) := by decide +kernel
theorem dX9_text_5 : decode cX9_text 5 = .ok (.iconst 0, 1) := by decide +kernel
theorem dX9_text_6 : decode cX9_text 6 = .ok (.istore_n 2, 1) := by decide +kernel
theorem dX9_text_7 : decode cX9_text 7 = .ok (.iload_n 2, 1) := by decide +kernel
theorem dX9_text_8 : decode cX9_text 8 = .ok (.iload_n 1, 1) := by decide +kernel
theorem dX9_text_9 : decode cX9_text 9 = .ok (.if_icmp .ge 17, 3) := by decide +kernel
theorem dX9_text_12 : decode cX9_text 12 = .ok (.aload_n 0, 1) := by decide +kernel
theorem dX9_text_13 : decode cX9_text 13 = .ok (.iload_n 2, 1) := by decide +kernel
theorem dX9_text_14 : decode cX9_text 14 = .ok (.invokevirtual 175, 3) := by decide +kernel
theorem dX9_text_17 : decode cX9_text 17 = .ok (.ifCond .eq 9, 3) := by decide +kernel
theorem dX9_text_20 : decode cX9_text 20 = .ok (.iinc 2 1, 3) := by decide +kernel
theorem dX9_text_23 : decode cX9_text 23 = .ok (.goto (-16), 3) := by decide +kernel
theorem dX9_text_26 : decode cX9_text 26 = .ok (.aload_n 0, 1) := by decide +kernel
theorem dX9_text_27 : decode cX9_text 27 = .ok (.iconst 0, 1) := by decide +kernel
theorem dX9_text_28 : decode cX9_text 28 = .ok (.putfield 170, 3) := by decide +kernel
theorem dX9_text_31 : decode cX9_text 31 = .ok (.iload_n 2, 1) := by decide +kernel
theorem dX9_text_32 : decode cX9_text 32 = .ok (.iload_n 1, 1) := by decide +kernel
theorem dX9_text_33 : decode cX9_text 33 = .ok (.if_icmp .lt 9, 3) := by decide +kernel
theorem dX9_text_36 : decode cX9_text 36 = .ok (.iload_n 1, 1) := by decide +kernel
theorem dX9_text_37 : decode cX9_text 37 = .ok (.iconst 5, 1) := by decide +kernel
theorem dX9_text_38 : decode cX9_text 38 = .ok (.irem, 1) := by decide +kernel
theorem dX9_text_39 : decode cX9_text 39 = .ok (.ifCond .eq 12, 3) := by decide +kernel
theorem dX9_text_42 : decode cX9_text 42 = .ok (.aload_n 0, 1) := by decide +kernel
theorem dX9_text_43 : decode cX9_text 43 = .ok (.ldc 178, 2) := by decide +kernel
theorem dX9_text_45 : decode cX9_text 45 = .ok (.iload_n 2, 1) := by decide +kernel
theorem dX9_text_46 : decode cX9_text 46 = .ok (.isub, 1) := by decide +kernel
theorem dX9_text_47 : decode cX9_text 47 = .ok (.invokevirtual 145, 3) := by decide +kernel
theorem dX9_text_50 : decode cX9_text 50 = .ok (.ireturn, 1) := by decide +kernel
theorem dX9_text_51 : decode cX9_text 51 = .ok (.aload_n 0, 1) := by decide +kernel
theorem dX9_text_52 : decode cX9_text 52 = .ok (.iload_n 1, 1) := by decide +kernel
theorem dX9_text_53 : decode cX9_text 53 = .ok (.iconst 5, 1) := by decide +kernel
theorem dX9_text_54 : decode cX9_text 54 = .ok (.idiv, 1) := by decide +kernel
theorem dX9_text_55 : decode cX9_text 55 = .ok (.putfield 179, 3) := by decide +kernel
theorem dX9_text_58 : decode cX9_text 58 = .ok (.iconst 0, 1) := by decide +kernel
theorem dX9_text_59 : decode cX9_text 59 = .ok (.istore_n 3, 1) := by decide +kernel
theorem dX9_text_60 : decode cX9_text 60 = .ok (.iload_n 3, 1) := by decide +kernel
theorem dX9_text_61 : decode cX9_text 61 = .ok (.aload_n 0, 1) := by decide +kernel
theorem dX9_text_62 : decode cX9_text 62 = .ok (.getfield 179, 3) := by decide +kernel
theorem dX9_text_65 : decode cX9_text 65 = .ok (.if_icmp .ge 75, 3) := by decide +kernel
theorem dX9_text_68 : decode cX9_text 68 = .ok (.aload_n 0, 1) := by decide +kernel
theorem dX9_text_69 : decode cX9_text 69 = .ok (.getfield 56, 3) := by decide +kernel
theorem dX9_text_72 : decode cX9_text 72 = .ok (.iconst 4, 1) := by decide +kernel
theorem dX9_text_73 : decode cX9_text 73 = .ok (.iload_n 3, 1) := by decide +kernel
theorem dX9_text_74 : decode cX9_text 74 = .ok (.imul, 1) := by decide +kernel
theorem dX9_text_75 : decode cX9_text 75 = .ok (.aload_n 0, 1) := by decide +kernel
theorem dX9_text_76 : decode cX9_text 76 = .ok (.getfield 53, 3) := by decide +kernel
theorem dX9_text_79 : decode cX9_text 79 = .ok (.iconst 5, 1) := by decide +kernel
theorem dX9_text_80 : decode cX9_text 80 = .ok (.iload_n 3, 1) := by decide +kernel
theorem dX9_text_81 : decode cX9_text 81 = .ok (.imul, 1) := by decide +kernel
theorem dX9_text_82 : decode cX9_text 82 = .ok (.iaload, 1) := by decide +kernel
theorem dX9_text_83 : decode cX9_text 83 = .ok (.bipush 97, 2) := by decide +kernel
theorem dX9_text_85 : decode cX9_text 85 = .ok (.if_icmp .ne 7, 3) := by decide +kernel
theorem dX9_text_88 : decode cX9_text 88 = .ok (.iconst 1, 1) := by decide +kernel
theorem dX9_text_89 : decode cX9_text 89 = .ok (.goto 4, 3) := by decide +kernel
theorem dX9_text_92 : decode cX9_text 92 = .ok (.iconst 0, 1) := by decide +kernel
theorem dX9_text_93 : decode cX9_text 93 = .ok (.iastore, 1) := by decide +kernel
theorem dX9_text_94 : decode cX9_text 94 = .ok (.iconst 1, 1) := by decide +kernel
theorem dX9_text_95 : decode cX9_text 95 = .ok (.istore 4, 2) := by decide +kernel
theorem dX9_text_97 : decode cX9_text 97 = .ok (.iload 4, 2) := by decide +kernel
theorem dX9_text_99 : decode cX9_text 99 = .ok (.iconst 4, 1) := by decide +kernel
theorem dX9_text_100 : decode cX9_text 100 = .ok (.if_icmp .ge 34, 3) := by decide +kernel
theorem dX9_text_103 : decode cX9_text 103 = .ok (.aload_n 0, 1) := by decide +kernel
theorem dX9_text_104 : decode cX9_text 104 = .ok (.getfield 56, 3) := by decide +kernel
theorem dX9_text_107 : decode cX9_text 107 = .ok (.iconst 4, 1) := by decide +kernel
theorem dX9_text_108 : decode cX9_text 108 = .ok (.iload_n 3, 1) := by decide +kernel
theorem dX9_text_109 : decode cX9_text 109 = .ok (.imul, 1) := by decide +kernel
theorem dX9_text_110 : decode cX9_text 110 = .ok (.iload 4, 2) := by decide +kernel
theorem dX9_text_112 : decode cX9_text 112 = .ok (.iadd, 1) := by decide +kernel
theorem dX9_text_113 : decode cX9_text 113 = .ok (.aload_n 0, 1) := by decide +kernel
theorem dX9_text_114 : decode cX9_text 114 = .ok (.getfield 53, 3) := by decide +kernel
theorem dX9_text_117 : decode cX9_text 117 = .ok (.iconst 5, 1) := by decide +kernel
theorem dX9_text_118 : decode cX9_text 118 = .ok (.iload_n 3, 1) := by decide +kernel
theorem dX9_text_119 : decode cX9_text 119 = .ok (.imul, 1) := by decide +kernel
theorem dX9_text_120 : decode cX9_text 120 = .ok (.iload 4, 2) := by decide +kernel
theorem dX9_text_122 : decode cX9_text 122 = .ok (.iadd, 1) := by decide +kernel
theorem dX9_text_123 : decode cX9_text 123 = .ok (.iaload, 1) := by decide +kernel
theorem dX9_text_124 : decode cX9_text 124 = .ok (.bipush 48, 2) := by decide +kernel
theorem dX9_text_126 : decode cX9_text 126 = .ok (.isub, 1) := by decide +kernel
theorem dX9_text_127 : decode cX9_text 127 = .ok (.iastore, 1) := by decide +kernel
theorem dX9_text_128 : decode cX9_text 128 = .ok (.iinc 4 1, 3) := by decide +kernel
theorem dX9_text_131 : decode cX9_text 131 = .ok (.goto (-34), 3) := by decide +kernel
theorem dX9_text_134 : decode cX9_text 134 = .ok (.iinc 3 1, 3) := by decide +kernel
theorem dX9_text_137 : decode cX9_text 137 = .ok (.goto (-77), 3) := by decide +kernel
theorem dX9_text_140 : decode cX9_text 140 = .ok (.aload_n 0, 1) := by decide +kernel
theorem dX9_text_141 : decode cX9_text 141 = .ok (.getfield 179, 3) := by decide +kernel
theorem dX9_text_144 : decode cX9_text 144 = .ok (.ireturn, 1) := by decide +kernel
theorem dX9_rowFor_0 : decode cX9_rowFor 0 = .ok (.iload_n 1, 1) := by decide +kernel
theorem dX9_rowFor_1 : decode cX9_rowFor 1 = .ok (.istore_n 2, 1) := by decide +kernel
theorem dX9_rowFor_2 : decode cX9_rowFor 2 = .ok (.iload_n 2, 1) := by decide +kernel
theorem dX9_rowFor_3 : decode cX9_rowFor 3 = .ok (.ifCond .lt 55, 3) := by decide +kernel
theorem dX9_rowFor_6 : decode cX9_rowFor 6 = .ok (.iconst 0, 1) := by decide +kernel
theorem dX9_rowFor_7 : decode cX9_rowFor 7 = .ok (.istore_n 3, 1) := by decide +kernel
theorem dX9_rowFor_8 : decode cX9_rowFor 8 = .ok (.iload_n 3, 1) := by decide +kernel
theorem dX9_rowFor_9 : decode cX9_rowFor 9 = .ok (.aload_n 0, 1) := by decide +kernel
theorem dX9_rowFor_10 : decode cX9_rowFor 10 = .ok (.getfield 179, 3) := by decide +kernel
theorem dX9_rowFor_13 : decode cX9_rowFor 13 = .ok (.if_icmp .ge 37, 3) := by decide +kernel
theorem dX9_rowFor_16 : decode cX9_rowFor 16 = .ok (.aload_n 0, 1) := by decide +kernel
theorem dX9_rowFor_17 : decode cX9_rowFor 17 = .ok (.getfield 56, 3) := by decide +kernel
theorem dX9_rowFor_20 : decode cX9_rowFor 20 = .ok (.iconst 4, 1) := by decide +kernel
theorem dX9_rowFor_21 : decode cX9_rowFor 21 = .ok (.iload_n 3, 1) := by decide +kernel
theorem dX9_rowFor_22 : decode cX9_rowFor 22 = .ok (.imul, 1) := by decide +kernel
theorem dX9_rowFor_23 : decode cX9_rowFor 23 = .ok (.iaload, 1) := by decide +kernel
theorem dX9_rowFor_24 : decode cX9_rowFor 24 = .ok (.iconst 1, 1) := by decide +kernel
theorem dX9_rowFor_25 : decode cX9_rowFor 25 = .ok (.if_icmp .ne 19, 3) := by decide +kernel
theorem dX9_rowFor_28 : decode cX9_rowFor 28 = .ok (.aload_n 0, 1) := by decide +kernel
theorem dX9_rowFor_29 : decode cX9_rowFor 29 = .ok (.getfield 56, 3) := by decide +kernel
theorem dX9_rowFor_32 : decode cX9_rowFor 32 = .ok (.iconst 4, 1) := by decide +kernel
theorem dX9_rowFor_33 : decode cX9_rowFor 33 = .ok (.iload_n 3, 1) := by decide +kernel
theorem dX9_rowFor_34 : decode cX9_rowFor 34 = .ok (.imul, 1) := by decide +kernel
theorem dX9_rowFor_35 : decode cX9_rowFor 35 = .ok (.iconst 1, 1) := by decide +kernel
theorem dX9_rowFor_36 : decode cX9_rowFor 36 = .ok (.iadd, 1) := by decide +kernel
theorem dX9_rowFor_37 : decode cX9_rowFor 37 = .ok (.iaload, 1) := by decide +kernel
theorem dX9_rowFor_38 : decode cX9_rowFor 38 = .ok (.iload_n 2, 1) := by decide +kernel
theorem dX9_rowFor_39 : decode cX9_rowFor 39 = .ok (.if_icmp .ne 5, 3) := by decide +kernel
theorem dX9_rowFor_42 : decode cX9_rowFor 42 = .ok (.iload_n 3, 1) := by decide +kernel
theorem dX9_rowFor_43 : decode cX9_rowFor 43 = .ok (.ireturn, 1) := by decide +kernel
theorem dX9_rowFor_44 : decode cX9_rowFor 44 = .ok (.iinc 3 1, 3) := by decide +kernel
theorem dX9_rowFor_47 : decode cX9_rowFor 47 = .ok (.goto (-39), 3) := by decide +kernel
theorem dX9_rowFor_50 : decode cX9_rowFor 50 = .ok (.iload_n 2, 1) := by decide +kernel
theorem dX9_rowFor_51 : decode cX9_rowFor 51 = .ok (.invokestatic 121, 3) := by decide +kernel
theorem dX9_rowFor_54 : decode cX9_rowFor 54 = .ok (.istore_n 2, 1) := by decide +kernel
theorem dX9_rowFor_55 : decode cX9_rowFor 55 = .ok (.goto (-53), 3) := by decide +kernel
theorem dX9_rowFor_58 : decode cX9_rowFor 58 = .ok (.iconst (-1), 1) := by decide +kernel
theorem dX9_rowFor_59 : decode cX9_rowFor 59 = .ok (.ireturn, 1) := by decide +kernel
theorem dX9_sends_0 : decode cX9_sends 0 = .ok (.iconst 0, 1) := by decide +kernel
theorem dX9_sends_1 : decode cX9_sends 1 = .ok (.istore_n 3, 1) := by decide +kernel
theorem dX9_sends_2 : decode cX9_sends 2 = .ok (.iload_n 3, 1) := by decide +kernel
theorem dX9_sends_3 : decode cX9_sends 3 = .ok (.aload_n 0, 1) := by decide +kernel
theorem dX9_sends_4 : decode cX9_sends 4 = .ok (.getfield 179, 3) := by decide +kernel
theorem dX9_sends_7 : decode cX9_sends 7 = .ok (.if_icmp .ge 59, 3) := by decide +kernel
theorem dX9_sends_10 : decode cX9_sends 10 = .ok (.aload_n 0, 1) := by decide +kernel
theorem dX9_sends_11 : decode cX9_sends 11 = .ok (.getfield 56, 3) := by decide +kernel
theorem dX9_sends_14 : decode cX9_sends 14 = .ok (.iconst 4, 1) := by decide +kernel
theorem dX9_sends_15 : decode cX9_sends 15 = .ok (.iload_n 3, 1) := by decide +kernel
theorem dX9_sends_16 : decode cX9_sends 16 = .ok (.imul, 1) := by decide +kernel
theorem dX9_sends_17 : decode cX9_sends 17 = .ok (.iaload, 1) := by decide +kernel
theorem dX9_sends_18 : decode cX9_sends 18 = .ok (.ifCond .ne 42, 3) := by decide +kernel
theorem dX9_sends_21 : decode cX9_sends 21 = .ok (.aload_n 0, 1) := by decide +kernel
theorem dX9_sends_22 : decode cX9_sends 22 = .ok (.getfield 56, 3) := by decide +kernel
theorem dX9_sends_25 : decode cX9_sends 25 = .ok (.iconst 4, 1) := by decide +kernel
theorem dX9_sends_26 : decode cX9_sends 26 = .ok (.iload_n 3, 1) := by decide +kernel
theorem dX9_sends_27 : decode cX9_sends 27 = .ok (.imul, 1) := by decide +kernel
theorem dX9_sends_28 : decode cX9_sends 28 = .ok (.iconst 1, 1) := by decide +kernel
theorem dX9_sends_29 : decode cX9_sends 29 = .ok (.iadd, 1) := by decide +kernel
theorem dX9_sends_30 : decode cX9_sends 30 = .ok (.iaload, 1) := by decide +kernel
theorem dX9_sends_31 : decode cX9_sends 31 = .ok (.iload_n 1, 1) := by decide +kernel
theorem dX9_sends_32 : decode cX9_sends 32 = .ok (.if_icmp .ne 28, 3) := by decide +kernel
theorem dX9_sends_35 : decode cX9_sends 35 = .ok (.aload_n 0, 1) := by decide +kernel
theorem dX9_sends_36 : decode cX9_sends 36 = .ok (.getfield 56, 3) := by decide +kernel
theorem dX9_sends_39 : decode cX9_sends 39 = .ok (.iconst 4, 1) := by decide +kernel
theorem dX9_sends_40 : decode cX9_sends 40 = .ok (.iload_n 3, 1) := by decide +kernel
theorem dX9_sends_41 : decode cX9_sends 41 = .ok (.imul, 1) := by decide +kernel
theorem dX9_sends_42 : decode cX9_sends 42 = .ok (.iconst 2, 1) := by decide +kernel
theorem dX9_sends_43 : decode cX9_sends 43 = .ok (.iadd, 1) := by decide +kernel
theorem dX9_sends_44 : decode cX9_sends 44 = .ok (.iaload, 1) := by decide +kernel
theorem dX9_sends_45 : decode cX9_sends 45 = .ok (.iload_n 2, 1) := by decide +kernel
theorem dX9_sends_46 : decode cX9_sends 46 = .ok (.if_icmp .ne 14, 3) := by decide +kernel
theorem dX9_sends_49 : decode cX9_sends 49 = .ok (.aload_n 0, 1) := by decide +kernel
theorem dX9_sends_50 : decode cX9_sends 50 = .ok (.getfield 56, 3) := by decide +kernel
theorem dX9_sends_53 : decode cX9_sends 53 = .ok (.iconst 4, 1) := by decide +kernel
theorem dX9_sends_54 : decode cX9_sends 54 = .ok (.iload_n 3, 1) := by decide +kernel
theorem dX9_sends_55 : decode cX9_sends 55 = .ok (.imul, 1) := by decide +kernel
theorem dX9_sends_56 : decode cX9_sends 56 = .ok (.iconst 3, 1) := by decide +kernel
theorem dX9_sends_57 : decode cX9_sends 57 = .ok (.iadd, 1) := by decide +kernel
theorem dX9_sends_58 : decode cX9_sends 58 = .ok (.iaload, 1) := by decide +kernel
theorem dX9_sends_59 : decode cX9_sends 59 = .ok (.ireturn, 1) := by decide +kernel
theorem dX9_sends_60 : decode cX9_sends 60 = .ok (.iinc 3 1, 3) := by decide +kernel
theorem dX9_sends_63 : decode cX9_sends 63 = .ok (.goto (-61), 3) := by decide +kernel
theorem dX9_sends_66 : decode cX9_sends 66 = .ok (.iconst (-1), 1) := by decide +kernel
theorem dX9_sends_67 : decode cX9_sends 67 = .ok (.ireturn, 1) := by decide +kernel
theorem dX9_owner_0 : decode cX9_owner 0 = .ok (.aload_n 0, 1) := by decide +kernel
theorem dX9_owner_1 : decode cX9_owner 1 = .ok (.getfield 34, 3) := by decide +kernel
theorem dX9_owner_4 : decode cX9_owner 4 = .ok (.iload_n 1, 1) := by decide +kernel
theorem dX9_owner_5 : decode cX9_owner 5 = .ok (.iaload, 1) := by decide +kernel
theorem dX9_owner_6 : decode cX9_owner 6 = .ok (.istore_n 2, 1) := by decide +kernel
theorem dX9_owner_7 : decode cX9_owner 7 = .ok (.aload_n 0, 1) := by decide +kernel
theorem dX9_owner_8 : decode cX9_owner 8 = .ok (.aload_n 0, 1) := by decide +kernel
theorem dX9_owner_9 : decode cX9_owner 9 = .ok (.getfield 7, 3) := by decide +kernel
theorem dX9_owner_12 : decode cX9_owner 12 = .ok (.iload_n 2, 1) := by decide +kernel
theorem dX9_owner_13 : decode cX9_owner 13 = .ok (.iaload, 1) := by decide +kernel
theorem dX9_owner_14 : decode cX9_owner 14 = .ok (.invokevirtual 182, 3) := by decide +kernel
theorem dX9_owner_17 : decode cX9_owner 17 = .ok (.istore_n 3, 1) := by decide +kernel
theorem dX9_owner_18 : decode cX9_owner 18 = .ok (.aload_n 0, 1) := by decide +kernel
theorem dX9_owner_19 : decode cX9_owner 19 = .ok (.iconst 0, 1) := by decide +kernel
theorem dX9_owner_20 : decode cX9_owner 20 = .ok (.putfield 185, 3) := by decide +kernel
theorem dX9_owner_23 : decode cX9_owner 23 = .ok (.iload_n 3, 1) := by decide +kernel
theorem dX9_owner_24 : decode cX9_owner 24 = .ok (.ifCond .ge 6, 3) := by decide +kernel
theorem dX9_owner_27 : decode cX9_owner 27 = .ok (.ldc 188, 2) := by decide +kernel
theorem dX9_owner_29 : decode cX9_owner 29 = .ok (.ireturn, 1) := by decide +kernel
theorem dX9_owner_30 : decode cX9_owner 30 = .ok (.aload_n 0, 1) := by decide +kernel
theorem dX9_owner_31 : decode cX9_owner 31 = .ok (.getfield 56, 3) := by decide +kernel
theorem dX9_owner_34 : decode cX9_owner 34 = .ok (.iconst 4, 1) := by decide +kernel
theorem dX9_owner_35 : decode cX9_owner 35 = .ok (.iload_n 3, 1) := by decide +kernel
theorem dX9_owner_36 : decode cX9_owner 36 = .ok (.imul, 1) := by decide +kernel
theorem dX9_owner_37 : decode cX9_owner 37 = .ok (.iconst 2, 1) := by decide +kernel
theorem dX9_owner_38 : decode cX9_owner 38 = .ok (.iadd, 1) := by decide +kernel
theorem dX9_owner_39 : decode cX9_owner 39 = .ok (.iaload, 1) := by decide +kernel
theorem dX9_owner_40 : decode cX9_owner 40 = .ok (.istore 4, 2) := by decide +kernel
theorem dX9_owner_42 : decode cX9_owner 42 = .ok (.iconst 1, 1) := by decide +kernel
theorem dX9_owner_43 : decode cX9_owner 43 = .ok (.iload 4, 2) := by decide +kernel
theorem dX9_owner_45 : decode cX9_owner 45 = .ok (.ishl, 1) := by decide +kernel
theorem dX9_owner_46 : decode cX9_owner 46 = .ok (.istore 5, 2) := by decide +kernel
theorem dX9_owner_48 : decode cX9_owner 48 = .ok (.aload_n 0, 1) := by decide +kernel
theorem dX9_owner_49 : decode cX9_owner 49 = .ok (.iload 4, 2) := by decide +kernel
theorem dX9_owner_51 : decode cX9_owner 51 = .ok (.aload_n 0, 1) := by decide +kernel
theorem dX9_owner_52 : decode cX9_owner 52 = .ok (.getfield 13, 3) := by decide +kernel
theorem dX9_owner_55 : decode cX9_owner 55 = .ok (.iload_n 2, 1) := by decide +kernel
theorem dX9_owner_56 : decode cX9_owner 56 = .ok (.iaload, 1) := by decide +kernel
theorem dX9_owner_57 : decode cX9_owner 57 = .ok (.aload_n 0, 1) := by decide +kernel
theorem dX9_owner_58 : decode cX9_owner 58 = .ok (.getfield 16, 3) := by decide +kernel
theorem dX9_owner_61 : decode cX9_owner 61 = .ok (.iload_n 2, 1) := by decide +kernel
theorem dX9_owner_62 : decode cX9_owner 62 = .ok (.iaload, 1) := by decide +kernel
theorem dX9_owner_63 : decode cX9_owner 63 = .ok (.invokestatic 156, 3) := by decide +kernel
theorem dX9_owner_66 : decode cX9_owner 66 = .ok (.invokevirtual 189, 3) := by decide +kernel
theorem dX9_owner_69 : decode cX9_owner 69 = .ok (.istore 6, 2) := by decide +kernel
theorem dX9_owner_71 : decode cX9_owner 71 = .ok (.iload 6, 2) := by decide +kernel
theorem dX9_owner_73 : decode cX9_owner 73 = .ok (.ifCond .lt 66, 3) := by decide +kernel
theorem dX9_owner_76 : decode cX9_owner 76 = .ok (.aload_n 0, 1) := by decide +kernel
theorem dX9_owner_77 : decode cX9_owner 77 = .ok (.dup, 1) := by decide +kernel
theorem dX9_owner_78 : decode cX9_owner 78 = .ok (.getfield 185, 3) := by decide +kernel
theorem dX9_owner_81 : decode cX9_owner 81 = .ok (.iconst 1, 1) := by decide +kernel
theorem dX9_owner_82 : decode cX9_owner 82 = .ok (.iadd, 1) := by decide +kernel
theorem dX9_owner_83 : decode cX9_owner 83 = .ok (.putfield 185, 3) := by decide +kernel
theorem dX9_owner_86 : decode cX9_owner 86 = .ok (.iload 5, 2) := by decide +kernel
theorem dX9_owner_88 : decode cX9_owner 88 = .ok (.iload 6, 2) := by decide +kernel
theorem dX9_owner_90 : decode cX9_owner 90 = .ok (.ishr, 1) := by decide +kernel
theorem dX9_owner_91 : decode cX9_owner 91 = .ok (.iconst 1, 1) := by decide +kernel
theorem dX9_owner_92 : decode cX9_owner 92 = .ok (.iand, 1) := by decide +kernel
theorem dX9_owner_93 : decode cX9_owner 93 = .ok (.iconst 1, 1) := by decide +kernel
theorem dX9_owner_94 : decode cX9_owner 94 = .ok (.if_icmp .ne 6, 3) := by decide +kernel
theorem dX9_owner_97 : decode cX9_owner 97 = .ok (.ldc 192, 2) := by decide +kernel
theorem dX9_owner_99 : decode cX9_owner 99 = .ok (.ireturn, 1) := by decide +kernel
theorem dX9_owner_100 : decode cX9_owner 100 = .ok (.iload 5, 2) := by decide +kernel
theorem dX9_owner_102 : decode cX9_owner 102 = .ok (.iconst 1, 1) := by decide +kernel
theorem dX9_owner_103 : decode cX9_owner 103 = .ok (.iload 6, 2) := by decide +kernel
theorem dX9_owner_105 : decode cX9_owner 105 = .ok (.ishl, 1) := by decide +kernel
theorem dX9_owner_106 : decode cX9_owner 106 = .ok (.ior, 1) := by decide +kernel
theorem dX9_owner_107 : decode cX9_owner 107 = .ok (.istore 5, 2) := by decide +kernel
theorem dX9_owner_109 : decode cX9_owner 109 = .ok (.iload 6, 2) := by decide +kernel
theorem dX9_owner_111 : decode cX9_owner 111 = .ok (.istore 4, 2) := by decide +kernel
theorem dX9_owner_113 : decode cX9_owner 113 = .ok (.aload_n 0, 1) := by decide +kernel
theorem dX9_owner_114 : decode cX9_owner 114 = .ok (.iload 4, 2) := by decide +kernel
theorem dX9_owner_116 : decode cX9_owner 116 = .ok (.aload_n 0, 1) := by decide +kernel
theorem dX9_owner_117 : decode cX9_owner 117 = .ok (.getfield 13, 3) := by decide +kernel
theorem dX9_owner_120 : decode cX9_owner 120 = .ok (.iload_n 2, 1) := by decide +kernel
theorem dX9_owner_121 : decode cX9_owner 121 = .ok (.iaload, 1) := by decide +kernel
theorem dX9_owner_122 : decode cX9_owner 122 = .ok (.aload_n 0, 1) := by decide +kernel
theorem dX9_owner_123 : decode cX9_owner 123 = .ok (.getfield 16, 3) := by decide +kernel
theorem dX9_owner_126 : decode cX9_owner 126 = .ok (.iload_n 2, 1) := by decide +kernel
theorem dX9_owner_127 : decode cX9_owner 127 = .ok (.iaload, 1) := by decide +kernel
theorem dX9_owner_128 : decode cX9_owner 128 = .ok (.invokestatic 156, 3) := by decide +kernel
theorem dX9_owner_131 : decode cX9_owner 131 = .ok (.invokevirtual 189, 3) := by decide +kernel
theorem dX9_owner_134 : decode cX9_owner 134 = .ok (.istore 6, 2) := by decide +kernel
theorem dX9_owner_136 : decode cX9_owner 136 = .ok (.goto (-65), 3) := by decide +kernel
theorem dX9_owner_139 : decode cX9_owner 139 = .ok (.iload 4, 2) := by decide +kernel
theorem dX9_owner_141 : decode cX9_owner 141 = .ok (.ireturn, 1) := by decide +kernel
theorem dX9_whose_0 : decode cX9_whose 0 = .ok (.aload_n 0, 1) := by decide +kernel
theorem dX9_whose_1 : decode cX9_whose 1 = .ok (.iload_n 1, 1) := by decide +kernel
theorem dX9_whose_2 : decode cX9_whose 2 = .ok (.invokevirtual 164, 3) := by decide +kernel
theorem dX9_whose_5 : decode cX9_whose 5 = .ok (.ifCond .ne 10, 3) := by decide +kernel
theorem dX9_whose_8 : decode cX9_whose 8 = .ok (.aload_n 0, 1) := by decide +kernel
theorem dX9_whose_9 : decode cX9_whose 9 = .ok (.ldc 144, 2) := by decide +kernel
theorem dX9_whose_11 : decode cX9_whose 11 = .ok (.invokevirtual 145, 3) := by decide +kernel
theorem dX9_whose_14 : decode cX9_whose 14 = .ok (.ireturn, 1) := by decide +kernel
theorem dX9_whose_15 : decode cX9_whose 15 = .ok (.aload_n 0, 1) := by decide +kernel
theorem dX9_whose_16 : decode cX9_whose 16 = .ok (.iload_n 1, 1) := by decide +kernel
theorem dX9_whose_17 : decode cX9_whose 17 = .ok (.invokevirtual 193, 3) := by decide +kernel
theorem dX9_whose_20 : decode cX9_whose 20 = .ok (.istore_n 2, 1) := by decide +kernel
theorem dX9_whose_21 : decode cX9_whose 21 = .ok (.iload_n 2, 1) := by decide +kernel
theorem dX9_whose_22 : decode cX9_whose 22 = .ok (.ifCond .ge 11, 3) := by decide +kernel
theorem dX9_whose_25 : decode cX9_whose 25 = .ok (.aload_n 0, 1) := by decide +kernel
theorem dX9_whose_26 : decode cX9_whose 26 = .ok (.iload_n 2, 1) := by decide +kernel
theorem dX9_whose_27 : decode cX9_whose 27 = .ok (.invokevirtual 145, 3) := by decide +kernel
theorem dX9_whose_30 : decode cX9_whose 30 = .ok (.goto 4, 3) := by decide +kernel
theorem dX9_whose_33 : decode cX9_whose 33 = .ok (.iload_n 2, 1) := by decide +kernel
theorem dX9_whose_34 : decode cX9_whose 34 = .ok (.ireturn, 1) := by decide +kernel
theorem dX9_promised_0 : decode cX9_promised 0 = .ok (.aload_n 0, 1) := by decide +kernel
theorem dX9_promised_1 : decode cX9_promised 1 = .ok (.aload_n 0, 1) := by decide +kernel
theorem dX9_promised_2 : decode cX9_promised 2 = .ok (.getfield 7, 3) := by decide +kernel
theorem dX9_promised_5 : decode cX9_promised 5 = .ok (.aload_n 0, 1) := by decide +kernel
theorem dX9_promised_6 : decode cX9_promised 6 = .ok (.getfield 34, 3) := by decide +kernel
theorem dX9_promised_9 : decode cX9_promised 9 = .ok (.iload_n 1, 1) := by decide +kernel
theorem dX9_promised_10 : decode cX9_promised 10 = .ok (.iaload, 1) := by decide +kernel
theorem dX9_promised_11 : decode cX9_promised 11 = .ok (.iaload, 1) := by decide +kernel
theorem dX9_promised_12 : decode cX9_promised 12 = .ok (.invokevirtual 182, 3) := by decide +kernel
theorem dX9_promised_15 : decode cX9_promised 15 = .ok (.istore_n 2, 1) := by decide +kernel
theorem dX9_promised_16 : decode cX9_promised 16 = .ok (.iload_n 2, 1) := by decide +kernel
theorem dX9_promised_17 : decode cX9_promised 17 = .ok (.ifCond .ge 7, 3) := by decide +kernel
theorem dX9_promised_20 : decode cX9_promised 20 = .ok (.iconst (-1), 1) := by decide +kernel
theorem dX9_promised_21 : decode cX9_promised 21 = .ok (.goto 25, 3) := by decide +kernel
theorem dX9_promised_24 : decode cX9_promised 24 = .ok (.aload_n 0, 1) := by decide +kernel
theorem dX9_promised_25 : decode cX9_promised 25 = .ok (.getfield 22, 3) := by decide +kernel
theorem dX9_promised_28 : decode cX9_promised 28 = .ok (.aload_n 0, 1) := by decide +kernel
theorem dX9_promised_29 : decode cX9_promised 29 = .ok (.getfield 34, 3) := by decide +kernel
theorem dX9_promised_32 : decode cX9_promised 32 = .ok (.iload_n 1, 1) := by decide +kernel
theorem dX9_promised_33 : decode cX9_promised 33 = .ok (.iaload, 1) := by decide +kernel
theorem dX9_promised_34 : decode cX9_promised 34 = .ok (.iaload, 1) := by decide +kernel
theorem dX9_promised_35 : decode cX9_promised 35 = .ok (.aload_n 0, 1) := by decide +kernel
theorem dX9_promised_36 : decode cX9_promised 36 = .ok (.getfield 56, 3) := by decide +kernel
theorem dX9_promised_39 : decode cX9_promised 39 = .ok (.iconst 4, 1) := by decide +kernel
theorem dX9_promised_40 : decode cX9_promised 40 = .ok (.iload_n 2, 1) := by decide +kernel
theorem dX9_promised_41 : decode cX9_promised 41 = .ok (.imul, 1) := by decide +kernel
theorem dX9_promised_42 : decode cX9_promised 42 = .ok (.iconst 3, 1) := by decide +kernel
theorem dX9_promised_43 : decode cX9_promised 43 = .ok (.iadd, 1) := by decide +kernel
theorem dX9_promised_44 : decode cX9_promised 44 = .ok (.iaload, 1) := by decide +kernel
theorem dX9_promised_45 : decode cX9_promised 45 = .ok (.iadd, 1) := by decide +kernel
theorem dX9_promised_46 : decode cX9_promised 46 = .ok (.ireturn, 1) := by decide +kernel
theorem dX9_promise_0 : decode cX9_promise 0 = .ok (.aload_n 0, 1) := by decide +kernel
theorem dX9_promise_1 : decode cX9_promise 1 = .ok (.iload_n 1, 1) := by decide +kernel
theorem dX9_promise_2 : decode cX9_promise 2 = .ok (.invokevirtual 164, 3) := by decide +kernel
theorem dX9_promise_5 : decode cX9_promise 5 = .ok (.ifCond .ne 10, 3) := by decide +kernel
theorem dX9_promise_8 : decode cX9_promise 8 = .ok (.aload_n 0, 1) := by decide +kernel
theorem dX9_promise_9 : decode cX9_promise 9 = .ok (.ldc 144, 2) := by decide +kernel
theorem dX9_promise_11 : decode cX9_promise 11 = .ok (.invokevirtual 145, 3) := by decide +kernel
theorem dX9_promise_14 : decode cX9_promise 14 = .ok (.ireturn, 1) := by decide +kernel
theorem dX9_promise_15 : decode cX9_promise 15 = .ok (.aload_n 0, 1) := by decide +kernel
theorem dX9_promise_16 : decode cX9_promise 16 = .ok (.iload_n 1, 1) := by decide +kernel
theorem dX9_promise_17 : decode cX9_promise 17 = .ok (.invokevirtual 196, 3) := by decide +kernel
theorem dX9_promise_20 : decode cX9_promise 20 = .ok (.istore_n 2, 1) := by decide +kernel
theorem dX9_promise_21 : decode cX9_promise 21 = .ok (.iload_n 2, 1) := by decide +kernel
theorem dX9_promise_22 : decode cX9_promise 22 = .ok (.ifCond .ge 12, 3) := by decide +kernel
theorem dX9_promise_25 : decode cX9_promise 25 = .ok (.aload_n 0, 1) := by decide +kernel
theorem dX9_promise_26 : decode cX9_promise 26 = .ok (.ldc 188, 2) := by decide +kernel
theorem dX9_promise_28 : decode cX9_promise 28 = .ok (.invokevirtual 145, 3) := by decide +kernel
theorem dX9_promise_31 : decode cX9_promise 31 = .ok (.goto 4, 3) := by decide +kernel
theorem dX9_promise_34 : decode cX9_promise 34 = .ok (.iload_n 2, 1) := by decide +kernel
theorem dX9_promise_35 : decode cX9_promise 35 = .ok (.ireturn, 1) := by decide +kernel
theorem dX9_sent_0 : decode cX9_sent 0 = .ok (.aload_n 0, 1) := by decide +kernel
theorem dX9_sent_1 : decode cX9_sent 1 = .ok (.iload_n 1, 1) := by decide +kernel
theorem dX9_sent_2 : decode cX9_sent 2 = .ok (.invokevirtual 164, 3) := by decide +kernel
theorem dX9_sent_5 : decode cX9_sent 5 = .ok (.ifCond .ne 10, 3) := by decide +kernel
theorem dX9_sent_8 : decode cX9_sent 8 = .ok (.aload_n 0, 1) := by decide +kernel
theorem dX9_sent_9 : decode cX9_sent 9 = .ok (.ldc 144, 2) := by decide +kernel
theorem dX9_sent_11 : decode cX9_sent 11 = .ok (.invokevirtual 145, 3) := by decide +kernel
theorem dX9_sent_14 : decode cX9_sent 14 = .ok (.ireturn, 1) := by decide +kernel
theorem dX9_sent_15 : decode cX9_sent 15 = .ok (.aload_n 0, 1) := by decide +kernel
theorem dX9_sent_16 : decode cX9_sent 16 = .ok (.iload_n 1, 1) := by decide +kernel
theorem dX9_sent_17 : decode cX9_sent 17 = .ok (.invokevirtual 193, 3) := by decide +kernel
theorem dX9_sent_20 : decode cX9_sent 20 = .ok (.ldc 188, 2) := by decide +kernel
theorem dX9_sent_22 : decode cX9_sent 22 = .ok (.if_icmp .ne 12, 3) := by decide +kernel
theorem dX9_sent_25 : decode cX9_sent 25 = .ok (.aload_n 0, 1) := by decide +kernel
theorem dX9_sent_26 : decode cX9_sent 26 = .ok (.ldc 188, 2) := by decide +kernel
theorem dX9_sent_28 : decode cX9_sent 28 = .ok (.invokevirtual 145, 3) := by decide +kernel
theorem dX9_sent_31 : decode cX9_sent 31 = .ok (.goto 7, 3) := by decide +kernel
theorem dX9_sent_34 : decode cX9_sent 34 = .ok (.aload_n 0, 1) := by decide +kernel
theorem dX9_sent_35 : decode cX9_sent 35 = .ok (.getfield 185, 3) := by decide +kernel
theorem dX9_sent_38 : decode cX9_sent 38 = .ok (.ireturn, 1) := by decide +kernel
theorem dX9_effort_0 : decode cX9_effort 0 = .ok (.iload_n 1, 1) := by decide +kernel
theorem dX9_effort_1 : decode cX9_effort 1 = .ok (.invokestatic 133, 3) := by decide +kernel
theorem dX9_effort_4 : decode cX9_effort 4 = .ok (.ifCond .eq 13, 3) := by decide +kernel
theorem dX9_effort_7 : decode cX9_effort 7 = .ok (.iload_n 2, 1) := by decide +kernel
theorem dX9_effort_8 : decode cX9_effort 8 = .ok (.iconst 1, 1) := by decide +kernel
theorem dX9_effort_9 : decode cX9_effort 9 = .ok (.bipush 40, 2) := by decide +kernel
theorem dX9_effort_11 : decode cX9_effort 11 = .ok (.invokestatic 111, 3) := by decide +kernel
theorem dX9_effort_14 : decode cX9_effort 14 = .ok (.ifCond .ne 10, 3) := by decide +kernel
theorem dX9_effort_17 : decode cX9_effort 17 = .ok (.aload_n 0, 1) := by decide +kernel
theorem dX9_effort_18 : decode cX9_effort 18 = .ok (.ldc 144, 2) := by decide +kernel
theorem dX9_effort_20 : decode cX9_effort 20 = .ok (.invokevirtual 145, 3) := by decide +kernel
theorem dX9_effort_23 : decode cX9_effort 23 = .ok (.ireturn, 1) := by decide +kernel
theorem dX9_effort_24 : decode cX9_effort 24 = .ok (.aload_n 0, 1) := by decide +kernel
theorem dX9_effort_25 : decode cX9_effort 25 = .ok (.getfield 59, 3) := by decide +kernel
theorem dX9_effort_28 : decode cX9_effort 28 = .ok (.iload_n 1, 1) := by decide +kernel
theorem dX9_effort_29 : decode cX9_effort 29 = .ok (.iaload, 1) := by decide +kernel
theorem dX9_effort_30 : decode cX9_effort 30 = .ok (.istore_n 3, 1) := by decide +kernel
theorem dX9_effort_31 : decode cX9_effort 31 = .ok (.aload_n 0, 1) := by decide +kernel
theorem dX9_effort_32 : decode cX9_effort 32 = .ok (.getfield 59, 3) := by decide +kernel
theorem dX9_effort_35 : decode cX9_effort 35 = .ok (.iload_n 1, 1) := by decide +kernel
theorem dX9_effort_36 : decode cX9_effort 36 = .ok (.iload_n 2, 1) := by decide +kernel
theorem dX9_effort_37 : decode cX9_effort 37 = .ok (.iastore, 1) := by decide +kernel
theorem dX9_effort_38 : decode cX9_effort 38 = .ok (.iload_n 3, 1) := by decide +kernel
theorem dX9_effort_39 : decode cX9_effort 39 = .ok (.ireturn, 1) := by decide +kernel
theorem dX9_isChosen_0 : decode cX9_isChosen 0 = .ok (.iconst 0, 1) := by decide +kernel
theorem dX9_isChosen_1 : decode cX9_isChosen 1 = .ok (.istore_n 3, 1) := by decide +kernel
theorem dX9_isChosen_2 : decode cX9_isChosen 2 = .ok (.iconst 0, 1) := by decide +kernel
theorem dX9_isChosen_3 : decode cX9_isChosen 3 = .ok (.istore 4, 2) := by decide +kernel
theorem dX9_isChosen_5 : decode cX9_isChosen 5 = .ok (.iload 4, 2) := by decide +kernel
theorem dX9_isChosen_7 : decode cX9_isChosen 7 = .ok (.iload_n 1, 1) := by decide +kernel
theorem dX9_isChosen_8 : decode cX9_isChosen 8 = .ok (.if_icmp .ge 30, 3) := by decide +kernel
theorem dX9_isChosen_11 : decode cX9_isChosen 11 = .ok (.iload_n 3, 1) := by decide +kernel
theorem dX9_isChosen_12 : decode cX9_isChosen 12 = .ok (.ifCond .ne 14, 3) := by decide +kernel
theorem dX9_isChosen_15 : decode cX9_isChosen 15 = .ok (.aload_n 0, 1) := by decide +kernel
theorem dX9_isChosen_16 : decode cX9_isChosen 16 = .ok (.getfield 98, 3) := by decide +kernel
theorem dX9_isChosen_19 : decode cX9_isChosen 19 = .ok (.iload 4, 2) := by decide +kernel
theorem dX9_isChosen_21 : decode cX9_isChosen 21 = .ok (.iaload, 1) := by decide +kernel
theorem dX9_isChosen_22 : decode cX9_isChosen 22 = .ok (.iload_n 2, 1) := by decide +kernel
theorem dX9_isChosen_23 : decode cX9_isChosen 23 = .ok (.if_icmp .ne 7, 3) := by decide +kernel
theorem dX9_isChosen_26 : decode cX9_isChosen 26 = .ok (.iconst 1, 1) := by decide +kernel
theorem dX9_isChosen_27 : decode cX9_isChosen 27 = .ok (.goto 4, 3) := by decide +kernel
theorem dX9_isChosen_30 : decode cX9_isChosen 30 = .ok (.iconst 0, 1) := by decide +kernel
theorem dX9_isChosen_31 : decode cX9_isChosen 31 = .ok (.istore_n 3, 1) := by decide +kernel
theorem dX9_isChosen_32 : decode cX9_isChosen 32 = .ok (.iinc 4 1, 3) := by decide +kernel
theorem dX9_isChosen_35 : decode cX9_isChosen 35 = .ok (.goto (-30), 3) := by decide +kernel
theorem dX9_isChosen_38 : decode cX9_isChosen 38 = .ok (.iload_n 3, 1) := by decide +kernel
theorem dX9_isChosen_39 : decode cX9_isChosen 39 = .ok (.ireturn, 1) := by decide +kernel
theorem dX9_takes_0 : decode cX9_takes 0 = .ok (.iconst 0, 1) := by decide +kernel
theorem dX9_takes_1 : decode cX9_takes 1 = .ok (.istore_n 3, 1) := by decide +kernel
theorem dX9_takes_2 : decode cX9_takes 2 = .ok (.iconst 0, 1) := by decide +kernel
theorem dX9_takes_3 : decode cX9_takes 3 = .ok (.istore 4, 2) := by decide +kernel
theorem dX9_takes_5 : decode cX9_takes 5 = .ok (.iload_n 1, 1) := by decide +kernel
theorem dX9_takes_6 : decode cX9_takes 6 = .ok (.bipush 32, 2) := by decide +kernel
theorem dX9_takes_8 : decode cX9_takes 8 = .ok (.idiv, 1) := by decide +kernel
theorem dX9_takes_9 : decode cX9_takes 9 = .ok (.istore 5, 2) := by decide +kernel
theorem dX9_takes_11 : decode cX9_takes 11 = .ok (.iload_n 1, 1) := by decide +kernel
theorem dX9_takes_12 : decode cX9_takes 12 = .ok (.bipush 32, 2) := by decide +kernel
theorem dX9_takes_14 : decode cX9_takes 14 = .ok (.irem, 1) := by decide +kernel
theorem dX9_takes_15 : decode cX9_takes 15 = .ok (.istore 6, 2) := by decide +kernel
theorem dX9_takes_17 : decode cX9_takes 17 = .ok (.iconst 0, 1) := by decide +kernel
theorem dX9_takes_18 : decode cX9_takes 18 = .ok (.istore 7, 2) := by decide +kernel
theorem dX9_takes_20 : decode cX9_takes 20 = .ok (.iload 7, 2) := by decide +kernel
theorem dX9_takes_22 : decode cX9_takes 22 = .ok (.aload_n 0, 1) := by decide +kernel
theorem dX9_takes_23 : decode cX9_takes 23 = .ok (.getfield 199, 3) := by decide +kernel
theorem dX9_takes_26 : decode cX9_takes 26 = .ok (.if_icmp .ge 130, 3) := by decide +kernel
theorem dX9_takes_29 : decode cX9_takes 29 = .ok (.aload_n 0, 1) := by decide +kernel
theorem dX9_takes_30 : decode cX9_takes 30 = .ok (.getfield 95, 3) := by decide +kernel
theorem dX9_takes_33 : decode cX9_takes 33 = .ok (.aload_n 0, 1) := by decide +kernel
theorem dX9_takes_34 : decode cX9_takes 34 = .ok (.getfield 98, 3) := by decide +kernel
theorem dX9_takes_37 : decode cX9_takes 37 = .ok (.iload 7, 2) := by decide +kernel
theorem dX9_takes_39 : decode cX9_takes 39 = .ok (.iaload, 1) := by decide +kernel
theorem dX9_takes_40 : decode cX9_takes 40 = .ok (.iaload, 1) := by decide +kernel
theorem dX9_takes_41 : decode cX9_takes 41 = .ok (.istore 8, 2) := by decide +kernel
theorem dX9_takes_43 : decode cX9_takes 43 = .ok (.aload_n 0, 1) := by decide +kernel
theorem dX9_takes_44 : decode cX9_takes 44 = .ok (.getfield 34, 3) := by decide +kernel
theorem dX9_takes_47 : decode cX9_takes 47 = .ok (.iload 8, 2) := by decide +kernel
theorem dX9_takes_49 : decode cX9_takes 49 = .ok (.iaload, 1) := by decide +kernel
theorem dX9_takes_50 : decode cX9_takes 50 = .ok (.istore 9, 2) := by decide +kernel
theorem dX9_takes_52 : decode cX9_takes 52 = .ok (.iload_n 3, 1) := by decide +kernel
theorem dX9_takes_53 : decode cX9_takes 53 = .ok (.iload 5, 2) := by decide +kernel
theorem dX9_takes_55 : decode cX9_takes 55 = .ok (.aload_n 0, 1) := by decide +kernel
theorem dX9_takes_56 : decode cX9_takes 56 = .ok (.getfield 13, 3) := by decide +kernel
theorem dX9_takes_59 : decode cX9_takes 59 = .ok (.iload 9, 2) := by decide +kernel
theorem dX9_takes_61 : decode cX9_takes 61 = .ok (.iaload, 1) := by decide +kernel
theorem dX9_takes_62 : decode cX9_takes 62 = .ok (.invokestatic 125, 3) := by decide +kernel
theorem dX9_takes_65 : decode cX9_takes 65 = .ok (.iload 6, 2) := by decide +kernel
theorem dX9_takes_67 : decode cX9_takes 67 = .ok (.aload_n 0, 1) := by decide +kernel
theorem dX9_takes_68 : decode cX9_takes 68 = .ok (.getfield 16, 3) := by decide +kernel
theorem dX9_takes_71 : decode cX9_takes 71 = .ok (.iload 9, 2) := by decide +kernel
theorem dX9_takes_73 : decode cX9_takes 73 = .ok (.iaload, 1) := by decide +kernel
theorem dX9_takes_74 : decode cX9_takes 74 = .ok (.invokestatic 125, 3) := by decide +kernel
theorem dX9_takes_77 : decode cX9_takes 77 = .ok (.iadd, 1) := by decide +kernel
theorem dX9_takes_78 : decode cX9_takes 78 = .ok (.bipush 8, 2) := by decide +kernel
theorem dX9_takes_80 : decode cX9_takes 80 = .ok (.idiv, 1) := by decide +kernel
theorem dX9_takes_81 : decode cX9_takes 81 = .ok (.aload_n 0, 1) := by decide +kernel
theorem dX9_takes_82 : decode cX9_takes 82 = .ok (.getfield 59, 3) := by decide +kernel
theorem dX9_takes_85 : decode cX9_takes 85 = .ok (.aload_n 0, 1) := by decide +kernel
theorem dX9_takes_86 : decode cX9_takes 86 = .ok (.getfield 7, 3) := by decide +kernel
theorem dX9_takes_89 : decode cX9_takes 89 = .ok (.iload 9, 2) := by decide +kernel
theorem dX9_takes_91 : decode cX9_takes 91 = .ok (.iaload, 1) := by decide +kernel
theorem dX9_takes_92 : decode cX9_takes 92 = .ok (.iaload, 1) := by decide +kernel
theorem dX9_takes_93 : decode cX9_takes 93 = .ok (.iadd, 1) := by decide +kernel
theorem dX9_takes_94 : decode cX9_takes 94 = .ok (.iadd, 1) := by decide +kernel
theorem dX9_takes_95 : decode cX9_takes 95 = .ok (.istore_n 3, 1) := by decide +kernel
theorem dX9_takes_96 : decode cX9_takes 96 = .ok (.aload_n 0, 1) := by decide +kernel
theorem dX9_takes_97 : decode cX9_takes 97 = .ok (.getfield 13, 3) := by decide +kernel
theorem dX9_takes_100 : decode cX9_takes 100 = .ok (.iload 9, 2) := by decide +kernel
theorem dX9_takes_102 : decode cX9_takes 102 = .ok (.iaload, 1) := by decide +kernel
theorem dX9_takes_103 : decode cX9_takes 103 = .ok (.istore 5, 2) := by decide +kernel
theorem dX9_takes_105 : decode cX9_takes 105 = .ok (.aload_n 0, 1) := by decide +kernel
theorem dX9_takes_106 : decode cX9_takes 106 = .ok (.getfield 16, 3) := by decide +kernel
theorem dX9_takes_109 : decode cX9_takes 109 = .ok (.iload 9, 2) := by decide +kernel
theorem dX9_takes_111 : decode cX9_takes 111 = .ok (.iaload, 1) := by decide +kernel
theorem dX9_takes_112 : decode cX9_takes 112 = .ok (.istore 6, 2) := by decide +kernel
theorem dX9_takes_114 : decode cX9_takes 114 = .ok (.aload_n 0, 1) := by decide +kernel
theorem dX9_takes_115 : decode cX9_takes 115 = .ok (.iload 8, 2) := by decide +kernel
theorem dX9_takes_117 : decode cX9_takes 117 = .ok (.invokevirtual 196, 3) := by decide +kernel
theorem dX9_takes_120 : decode cX9_takes 120 = .ok (.istore 10, 2) := by decide +kernel
theorem dX9_takes_122 : decode cX9_takes 122 = .ok (.iload 4, 2) := by decide +kernel
theorem dX9_takes_124 : decode cX9_takes 124 = .ok (.iload 10, 2) := by decide +kernel
theorem dX9_takes_126 : decode cX9_takes 126 = .ok (.ifCond .lt 20, 3) := by decide +kernel
theorem dX9_takes_129 : decode cX9_takes 129 = .ok (.iload_n 2, 1) := by decide +kernel
theorem dX9_takes_130 : decode cX9_takes 130 = .ok (.iload_n 3, 1) := by decide +kernel
theorem dX9_takes_131 : decode cX9_takes 131 = .ok (.iconst 1, 1) := by decide +kernel
theorem dX9_takes_132 : decode cX9_takes 132 = .ok (.isub, 1) := by decide +kernel
theorem dX9_takes_133 : decode cX9_takes 133 = .ok (.bipush 8, 2) := by decide +kernel
theorem dX9_takes_135 : decode cX9_takes 135 = .ok (.idiv, 1) := by decide +kernel
theorem dX9_takes_136 : decode cX9_takes 136 = .ok (.iadd, 1) := by decide +kernel
theorem dX9_takes_137 : decode cX9_takes 137 = .ok (.iload 10, 2) := by decide +kernel
theorem dX9_takes_139 : decode cX9_takes 139 = .ok (.if_icmp .le 7, 3) := by decide +kernel
theorem dX9_takes_142 : decode cX9_takes 142 = .ok (.iconst 1, 1) := by decide +kernel
theorem dX9_takes_143 : decode cX9_takes 143 = .ok (.goto 4, 3) := by decide +kernel
theorem dX9_takes_146 : decode cX9_takes 146 = .ok (.iconst 0, 1) := by decide +kernel
theorem dX9_takes_147 : decode cX9_takes 147 = .ok (.iadd, 1) := by decide +kernel
theorem dX9_takes_148 : decode cX9_takes 148 = .ok (.istore 4, 2) := by decide +kernel
theorem dX9_takes_150 : decode cX9_takes 150 = .ok (.iinc 7 1, 3) := by decide +kernel
theorem dX9_takes_153 : decode cX9_takes 153 = .ok (.goto (-133), 3) := by decide +kernel
theorem dX9_takes_156 : decode cX9_takes 156 = .ok (.aload_n 0, 1) := by decide +kernel
theorem dX9_takes_157 : decode cX9_takes 157 = .ok (.getfield 202, 3) := by decide +kernel
theorem dX9_takes_160 : decode cX9_takes 160 = .ok (.ifCond .lt 29, 3) := by decide +kernel
theorem dX9_takes_163 : decode cX9_takes 163 = .ok (.iload 4, 2) := by decide +kernel
theorem dX9_takes_165 : decode cX9_takes 165 = .ok (.aload_n 0, 1) := by decide +kernel
theorem dX9_takes_166 : decode cX9_takes 166 = .ok (.getfield 202, 3) := by decide +kernel
theorem dX9_takes_169 : decode cX9_takes 169 = .ok (.if_icmp .lt 20, 3) := by decide +kernel
theorem dX9_takes_172 : decode cX9_takes 172 = .ok (.iload 4, 2) := by decide +kernel
theorem dX9_takes_174 : decode cX9_takes 174 = .ok (.aload_n 0, 1) := by decide +kernel
theorem dX9_takes_175 : decode cX9_takes 175 = .ok (.getfield 202, 3) := by decide +kernel
theorem dX9_takes_178 : decode cX9_takes 178 = .ok (.if_icmp .ne 54, 3) := by decide +kernel
theorem dX9_takes_181 : decode cX9_takes 181 = .ok (.iload_n 3, 1) := by decide +kernel
theorem dX9_takes_182 : decode cX9_takes 182 = .ok (.aload_n 0, 1) := by decide +kernel
theorem dX9_takes_183 : decode cX9_takes 183 = .ok (.getfield 205, 3) := by decide +kernel
theorem dX9_takes_186 : decode cX9_takes 186 = .ok (.if_icmp .ge 46, 3) := by decide +kernel
theorem dX9_takes_189 : decode cX9_takes 189 = .ok (.aload_n 0, 1) := by decide +kernel
theorem dX9_takes_190 : decode cX9_takes 190 = .ok (.iload 4, 2) := by decide +kernel
theorem dX9_takes_192 : decode cX9_takes 192 = .ok (.putfield 202, 3) := by decide +kernel
theorem dX9_takes_195 : decode cX9_takes 195 = .ok (.aload_n 0, 1) := by decide +kernel
theorem dX9_takes_196 : decode cX9_takes 196 = .ok (.iload_n 3, 1) := by decide +kernel
theorem dX9_takes_197 : decode cX9_takes 197 = .ok (.putfield 205, 3) := by decide +kernel
theorem dX9_takes_200 : decode cX9_takes 200 = .ok (.iconst 0, 1) := by decide +kernel
theorem dX9_takes_201 : decode cX9_takes 201 = .ok (.istore 7, 2) := by decide +kernel
theorem dX9_takes_203 : decode cX9_takes 203 = .ok (.iload 7, 2) := by decide +kernel
theorem dX9_takes_205 : decode cX9_takes 205 = .ok (.aload_n 0, 1) := by decide +kernel
theorem dX9_takes_206 : decode cX9_takes 206 = .ok (.getfield 199, 3) := by decide +kernel
theorem dX9_takes_209 : decode cX9_takes 209 = .ok (.if_icmp .ge 23, 3) := by decide +kernel
theorem dX9_takes_212 : decode cX9_takes 212 = .ok (.aload_n 0, 1) := by decide +kernel
theorem dX9_takes_213 : decode cX9_takes 213 = .ok (.getfield 101, 3) := by decide +kernel
theorem dX9_takes_216 : decode cX9_takes 216 = .ok (.iload 7, 2) := by decide +kernel
theorem dX9_takes_218 : decode cX9_takes 218 = .ok (.aload_n 0, 1) := by decide +kernel
theorem dX9_takes_219 : decode cX9_takes 219 = .ok (.getfield 98, 3) := by decide +kernel
theorem dX9_takes_222 : decode cX9_takes 222 = .ok (.iload 7, 2) := by decide +kernel
theorem dX9_takes_224 : decode cX9_takes 224 = .ok (.iaload, 1) := by decide +kernel
theorem dX9_takes_225 : decode cX9_takes 225 = .ok (.iastore, 1) := by decide +kernel
theorem dX9_takes_226 : decode cX9_takes 226 = .ok (.iinc 7 1, 3) := by decide +kernel
theorem dX9_takes_229 : decode cX9_takes 229 = .ok (.goto (-26), 3) := by decide +kernel
theorem dX9_takes_232 : decode cX9_takes 232 = .ok (.return_, 1) := by decide +kernel
theorem dX9_findOrder_0 : decode cX9_findOrder 0 = .ok (.aload_n 0, 1) := by decide +kernel
theorem dX9_findOrder_1 : decode cX9_findOrder 1 = .ok (.iconst (-1), 1) := by decide +kernel
theorem dX9_findOrder_2 : decode cX9_findOrder 2 = .ok (.putfield 202, 3) := by decide +kernel
theorem dX9_findOrder_5 : decode cX9_findOrder 5 = .ok (.aload_n 0, 1) := by decide +kernel
theorem dX9_findOrder_6 : decode cX9_findOrder 6 = .ok (.iconst 0, 1) := by decide +kernel
theorem dX9_findOrder_7 : decode cX9_findOrder 7 = .ok (.putfield 205, 3) := by decide +kernel
theorem dX9_findOrder_10 : decode cX9_findOrder 10 = .ok (.iconst 0, 1) := by decide +kernel
theorem dX9_findOrder_11 : decode cX9_findOrder 11 = .ok (.istore_n 3, 1) := by decide +kernel
theorem dX9_findOrder_12 : decode cX9_findOrder 12 = .ok (.aload_n 0, 1) := by decide +kernel
theorem dX9_findOrder_13 : decode cX9_findOrder 13 = .ok (.getfield 98, 3) := by decide +kernel
theorem dX9_findOrder_16 : decode cX9_findOrder 16 = .ok (.iconst 0, 1) := by decide +kernel
theorem dX9_findOrder_17 : decode cX9_findOrder 17 = .ok (.iconst (-1), 1) := by decide +kernel
theorem dX9_findOrder_18 : decode cX9_findOrder 18 = .ok (.iastore, 1) := by decide +kernel
theorem dX9_findOrder_19 : decode cX9_findOrder 19 = .ok (.iload_n 3, 1) := by decide +kernel
theorem dX9_findOrder_20 : decode cX9_findOrder 20 = .ok (.ifCond .lt 81, 3) := by decide +kernel
theorem dX9_findOrder_23 : decode cX9_findOrder 23 = .ok (.aload_n 0, 1) := by decide +kernel
theorem dX9_findOrder_24 : decode cX9_findOrder 24 = .ok (.getfield 98, 3) := by decide +kernel
theorem dX9_findOrder_27 : decode cX9_findOrder 27 = .ok (.iload_n 3, 1) := by decide +kernel
theorem dX9_findOrder_28 : decode cX9_findOrder 28 = .ok (.dup2, 1) := by decide +kernel
theorem dX9_findOrder_29 : decode cX9_findOrder 29 = .ok (.iaload, 1) := by decide +kernel
theorem dX9_findOrder_30 : decode cX9_findOrder 30 = .ok (.iconst 1, 1) := by decide +kernel
theorem dX9_findOrder_31 : decode cX9_findOrder 31 = .ok (.iadd, 1) := by decide +kernel
theorem dX9_findOrder_32 : decode cX9_findOrder 32 = .ok (.iastore, 1) := by decide +kernel
theorem dX9_findOrder_33 : decode cX9_findOrder 33 = .ok (.aload_n 0, 1) := by decide +kernel
theorem dX9_findOrder_34 : decode cX9_findOrder 34 = .ok (.getfield 98, 3) := by decide +kernel
theorem dX9_findOrder_37 : decode cX9_findOrder 37 = .ok (.iload_n 3, 1) := by decide +kernel
theorem dX9_findOrder_38 : decode cX9_findOrder 38 = .ok (.iaload, 1) := by decide +kernel
theorem dX9_findOrder_39 : decode cX9_findOrder 39 = .ok (.aload_n 0, 1) := by decide +kernel
theorem dX9_findOrder_40 : decode cX9_findOrder 40 = .ok (.getfield 199, 3) := by decide +kernel
theorem dX9_findOrder_43 : decode cX9_findOrder 43 = .ok (.if_icmp .ne 9, 3) := by decide +kernel
theorem dX9_findOrder_46 : decode cX9_findOrder 46 = .ok (.iinc 3 (-1), 3) := by decide +kernel
theorem dX9_findOrder_49 : decode cX9_findOrder 49 = .ok (.goto (-30), 3) := by decide +kernel
theorem dX9_findOrder_52 : decode cX9_findOrder 52 = .ok (.aload_n 0, 1) := by decide +kernel
theorem dX9_findOrder_53 : decode cX9_findOrder 53 = .ok (.iload_n 3, 1) := by decide +kernel
theorem dX9_findOrder_54 : decode cX9_findOrder 54 = .ok (.aload_n 0, 1) := by decide +kernel
theorem dX9_findOrder_55 : decode cX9_findOrder 55 = .ok (.getfield 98, 3) := by decide +kernel
theorem dX9_findOrder_58 : decode cX9_findOrder 58 = .ok (.iload_n 3, 1) := by decide +kernel
theorem dX9_findOrder_59 : decode cX9_findOrder 59 = .ok (.iaload, 1) := by decide +kernel
theorem dX9_findOrder_60 : decode cX9_findOrder 60 = .ok (.invokevirtual 208, 3) := by decide +kernel
theorem dX9_findOrder_63 : decode cX9_findOrder 63 = .ok (.ifCond .eq 6, 3) := by decide +kernel
theorem dX9_findOrder_66 : decode cX9_findOrder 66 = .ok (.goto (-47), 3) := by decide +kernel
theorem dX9_findOrder_69 : decode cX9_findOrder 69 = .ok (.iload_n 3, 1) := by decide +kernel
theorem dX9_findOrder_70 : decode cX9_findOrder 70 = .ok (.iconst 1, 1) := by decide +kernel
theorem dX9_findOrder_71 : decode cX9_findOrder 71 = .ok (.iadd, 1) := by decide +kernel
theorem dX9_findOrder_72 : decode cX9_findOrder 72 = .ok (.aload_n 0, 1) := by decide +kernel
theorem dX9_findOrder_73 : decode cX9_findOrder 73 = .ok (.getfield 199, 3) := by decide +kernel
theorem dX9_findOrder_76 : decode cX9_findOrder 76 = .ok (.if_icmp .ne 12, 3) := by decide +kernel
theorem dX9_findOrder_79 : decode cX9_findOrder 79 = .ok (.aload_n 0, 1) := by decide +kernel
theorem dX9_findOrder_80 : decode cX9_findOrder 80 = .ok (.iload_n 1, 1) := by decide +kernel
theorem dX9_findOrder_81 : decode cX9_findOrder 81 = .ok (.iload_n 2, 1) := by decide +kernel
theorem dX9_findOrder_82 : decode cX9_findOrder 82 = .ok (.invokevirtual 211, 3) := by decide +kernel
theorem dX9_findOrder_85 : decode cX9_findOrder 85 = .ok (.goto (-66), 3) := by decide +kernel
theorem dX9_findOrder_88 : decode cX9_findOrder 88 = .ok (.iinc 3 1, 3) := by decide +kernel
theorem dX9_findOrder_91 : decode cX9_findOrder 91 = .ok (.aload_n 0, 1) := by decide +kernel
theorem dX9_findOrder_92 : decode cX9_findOrder 92 = .ok (.getfield 98, 3) := by decide +kernel
theorem dX9_findOrder_95 : decode cX9_findOrder 95 = .ok (.iload_n 3, 1) := by decide +kernel
theorem dX9_findOrder_96 : decode cX9_findOrder 96 = .ok (.iconst (-1), 1) := by decide +kernel
theorem dX9_findOrder_97 : decode cX9_findOrder 97 = .ok (.iastore, 1) := by decide +kernel
theorem dX9_findOrder_98 : decode cX9_findOrder 98 = .ok (.goto (-79), 3) := by decide +kernel
theorem dX9_findOrder_101 : decode cX9_findOrder 101 = .ok (.return_, 1) := by decide +kernel
theorem dX9_order_0 : decode cX9_order 0 = .ok (.iload_n 1, 1) := by decide +kernel
theorem dX9_order_1 : decode cX9_order 1 = .ok (.ifCond .lt 38, 3) := by decide +kernel
theorem dX9_order_4 : decode cX9_order 4 = .ok (.iload_n 3, 1) := by decide +kernel
theorem dX9_order_5 : decode cX9_order 5 = .ok (.iconst 0, 1) := by decide +kernel
theorem dX9_order_6 : decode cX9_order 6 = .ok (.sipush 1023, 3) := by decide +kernel
theorem dX9_order_9 : decode cX9_order 9 = .ok (.invokestatic 111, 3) := by decide +kernel
theorem dX9_order_12 : decode cX9_order 12 = .ok (.ifCond .eq 27, 3) := by decide +kernel
theorem dX9_order_15 : decode cX9_order 15 = .ok (.iload 4, 2) := by decide +kernel
theorem dX9_order_17 : decode cX9_order 17 = .ok (.invokestatic 137, 3) := by decide +kernel
theorem dX9_order_20 : decode cX9_order 20 = .ok (.ifCond .eq 19, 3) := by decide +kernel
theorem dX9_order_23 : decode cX9_order 23 = .ok (.iload 5, 2) := by decide +kernel
theorem dX9_order_25 : decode cX9_order 25 = .ok (.ifCond .lt 14, 3) := by decide +kernel
theorem dX9_order_28 : decode cX9_order 28 = .ok (.iload_n 2, 1) := by decide +kernel
theorem dX9_order_29 : decode cX9_order 29 = .ok (.iconst 1, 1) := by decide +kernel
theorem dX9_order_30 : decode cX9_order 30 = .ok (.sipush 255, 3) := by decide +kernel
theorem dX9_order_33 : decode cX9_order 33 = .ok (.invokestatic 111, 3) := by decide +kernel
theorem dX9_order_36 : decode cX9_order 36 = .ok (.ifCond .ne 10, 3) := by decide +kernel
theorem dX9_order_39 : decode cX9_order 39 = .ok (.aload_n 0, 1) := by decide +kernel
theorem dX9_order_40 : decode cX9_order 40 = .ok (.ldc 144, 2) := by decide +kernel
theorem dX9_order_42 : decode cX9_order 42 = .ok (.invokevirtual 145, 3) := by decide +kernel
theorem dX9_order_45 : decode cX9_order 45 = .ok (.ireturn, 1) := by decide +kernel
theorem dX9_order_46 : decode cX9_order 46 = .ok (.iconst 0, 1) := by decide +kernel
theorem dX9_order_47 : decode cX9_order 47 = .ok (.istore 6, 2) := by decide +kernel
theorem dX9_order_49 : decode cX9_order 49 = .ok (.iconst 0, 1) := by decide +kernel
theorem dX9_order_50 : decode cX9_order 50 = .ok (.istore 7, 2) := by decide +kernel
theorem dX9_order_52 : decode cX9_order 52 = .ok (.iload 7, 2) := by decide +kernel
theorem dX9_order_54 : decode cX9_order 54 = .ok (.bipush 8, 2) := by decide +kernel
theorem dX9_order_56 : decode cX9_order 56 = .ok (.if_icmp .ge 48, 3) := by decide +kernel
theorem dX9_order_59 : decode cX9_order 59 = .ok (.iload_n 2, 1) := by decide +kernel
theorem dX9_order_60 : decode cX9_order 60 = .ok (.iload 7, 2) := by decide +kernel
theorem dX9_order_62 : decode cX9_order 62 = .ok (.ishr, 1) := by decide +kernel
theorem dX9_order_63 : decode cX9_order 63 = .ok (.iconst 1, 1) := by decide +kernel
theorem dX9_order_64 : decode cX9_order 64 = .ok (.iand, 1) := by decide +kernel
theorem dX9_order_65 : decode cX9_order 65 = .ok (.iconst 1, 1) := by decide +kernel
theorem dX9_order_66 : decode cX9_order 66 = .ok (.if_icmp .ne 32, 3) := by decide +kernel
theorem dX9_order_69 : decode cX9_order 69 = .ok (.iload_n 1, 1) := by decide +kernel
theorem dX9_order_70 : decode cX9_order 70 = .ok (.aload_n 0, 1) := by decide +kernel
theorem dX9_order_71 : decode cX9_order 71 = .ok (.getfield 118, 3) := by decide +kernel
theorem dX9_order_74 : decode cX9_order 74 = .ok (.if_icmp .ge 14, 3) := by decide +kernel
theorem dX9_order_77 : decode cX9_order 77 = .ok (.iload_n 1, 1) := by decide +kernel
theorem dX9_order_78 : decode cX9_order 78 = .ok (.iload 7, 2) := by decide +kernel
theorem dX9_order_80 : decode cX9_order 80 = .ok (.iadd, 1) := by decide +kernel
theorem dX9_order_81 : decode cX9_order 81 = .ok (.aload_n 0, 1) := by decide +kernel
theorem dX9_order_82 : decode cX9_order 82 = .ok (.getfield 118, 3) := by decide +kernel
theorem dX9_order_85 : decode cX9_order 85 = .ok (.if_icmp .lt 10, 3) := by decide +kernel
theorem dX9_order_88 : decode cX9_order 88 = .ok (.aload_n 0, 1) := by decide +kernel
theorem dX9_order_89 : decode cX9_order 89 = .ok (.ldc 144, 2) := by decide +kernel
theorem dX9_order_91 : decode cX9_order 91 = .ok (.invokevirtual 145, 3) := by decide +kernel
theorem dX9_order_94 : decode cX9_order 94 = .ok (.ireturn, 1) := by decide +kernel
theorem dX9_order_95 : decode cX9_order 95 = .ok (.iinc 6 1, 3) := by decide +kernel
theorem dX9_order_98 : decode cX9_order 98 = .ok (.iinc 7 1, 3) := by decide +kernel
theorem dX9_order_101 : decode cX9_order 101 = .ok (.goto (-49), 3) := by decide +kernel
theorem dX9_order_104 : decode cX9_order 104 = .ok (.iload 6, 2) := by decide +kernel
theorem dX9_order_106 : decode cX9_order 106 = .ok (.bipush 6, 2) := by decide +kernel
theorem dX9_order_108 : decode cX9_order 108 = .ok (.if_icmp .le 10, 3) := by decide +kernel
theorem dX9_order_111 : decode cX9_order 111 = .ok (.aload_n 0, 1) := by decide +kernel
theorem dX9_order_112 : decode cX9_order 112 = .ok (.ldc 163, 2) := by decide +kernel
theorem dX9_order_114 : decode cX9_order 114 = .ok (.invokevirtual 145, 3) := by decide +kernel
theorem dX9_order_117 : decode cX9_order 117 = .ok (.ireturn, 1) := by decide +kernel
theorem dX9_order_118 : decode cX9_order 118 = .ok (.aload_n 0, 1) := by decide +kernel
theorem dX9_order_119 : decode cX9_order 119 = .ok (.iconst 0, 1) := by decide +kernel
theorem dX9_order_120 : decode cX9_order 120 = .ok (.putfield 199, 3) := by decide +kernel
theorem dX9_order_123 : decode cX9_order 123 = .ok (.iconst 0, 1) := by decide +kernel
theorem dX9_order_124 : decode cX9_order 124 = .ok (.istore 7, 2) := by decide +kernel
theorem dX9_order_126 : decode cX9_order 126 = .ok (.iload 7, 2) := by decide +kernel
theorem dX9_order_128 : decode cX9_order 128 = .ok (.bipush 8, 2) := by decide +kernel
theorem dX9_order_130 : decode cX9_order 130 = .ok (.if_icmp .ge 42, 3) := by decide +kernel
theorem dX9_order_133 : decode cX9_order 133 = .ok (.iload_n 2, 1) := by decide +kernel
theorem dX9_order_134 : decode cX9_order 134 = .ok (.iload 7, 2) := by decide +kernel
theorem dX9_order_136 : decode cX9_order 136 = .ok (.ishr, 1) := by decide +kernel
theorem dX9_order_137 : decode cX9_order 137 = .ok (.iconst 1, 1) := by decide +kernel
theorem dX9_order_138 : decode cX9_order 138 = .ok (.iand, 1) := by decide +kernel
theorem dX9_order_139 : decode cX9_order 139 = .ok (.iconst 1, 1) := by decide +kernel
theorem dX9_order_140 : decode cX9_order 140 = .ok (.if_icmp .ne 26, 3) := by decide +kernel
theorem dX9_order_143 : decode cX9_order 143 = .ok (.aload_n 0, 1) := by decide +kernel
theorem dX9_order_144 : decode cX9_order 144 = .ok (.getfield 95, 3) := by decide +kernel
theorem dX9_order_147 : decode cX9_order 147 = .ok (.aload_n 0, 1) := by decide +kernel
theorem dX9_order_148 : decode cX9_order 148 = .ok (.getfield 199, 3) := by decide +kernel
theorem dX9_order_151 : decode cX9_order 151 = .ok (.iload_n 1, 1) := by decide +kernel
theorem dX9_order_152 : decode cX9_order 152 = .ok (.iload 7, 2) := by decide +kernel
theorem dX9_order_154 : decode cX9_order 154 = .ok (.iadd, 1) := by decide +kernel
theorem dX9_order_155 : decode cX9_order 155 = .ok (.iastore, 1) := by decide +kernel
theorem dX9_order_156 : decode cX9_order 156 = .ok (.aload_n 0, 1) := by decide +kernel
theorem dX9_order_157 : decode cX9_order 157 = .ok (.dup, 1) := by decide +kernel
theorem dX9_order_158 : decode cX9_order 158 = .ok (.getfield 199, 3) := by decide +kernel
theorem dX9_order_161 : decode cX9_order 161 = .ok (.iconst 1, 1) := by decide +kernel
theorem dX9_order_162 : decode cX9_order 162 = .ok (.iadd, 1) := by decide +kernel
theorem dX9_order_163 : decode cX9_order 163 = .ok (.putfield 199, 3) := by decide +kernel
theorem dX9_order_166 : decode cX9_order 166 = .ok (.iinc 7 1, 3) := by decide +kernel
theorem dX9_order_169 : decode cX9_order 169 = .ok (.goto (-43), 3) := by decide +kernel
theorem dX9_order_172 : decode cX9_order 172 = .ok (.aload_n 0, 1) := by decide +kernel
theorem dX9_order_173 : decode cX9_order 173 = .ok (.iload_n 3, 1) := by decide +kernel
theorem dX9_order_174 : decode cX9_order 174 = .ok (.iload 4, 2) := by decide +kernel
theorem dX9_order_176 : decode cX9_order 176 = .ok (.invokevirtual 215, 3) := by decide +kernel
theorem dX9_order_179 : decode cX9_order 179 = .ok (.iload 5, 2) := by decide +kernel
theorem dX9_order_181 : decode cX9_order 181 = .ok (.iconst 2, 1) := by decide +kernel
theorem dX9_order_182 : decode cX9_order 182 = .ok (.if_icmp .ge 20, 3) := by decide +kernel
theorem dX9_order_185 : decode cX9_order 185 = .ok (.iload 5, 2) := by decide +kernel
theorem dX9_order_187 : decode cX9_order 187 = .ok (.ifCond .ne 10, 3) := by decide +kernel
theorem dX9_order_190 : decode cX9_order 190 = .ok (.aload_n 0, 1) := by decide +kernel
theorem dX9_order_191 : decode cX9_order 191 = .ok (.getfield 202, 3) := by decide +kernel
theorem dX9_order_194 : decode cX9_order 194 = .ok (.goto 7, 3) := by decide +kernel
theorem dX9_order_197 : decode cX9_order 197 = .ok (.aload_n 0, 1) := by decide +kernel
theorem dX9_order_198 : decode cX9_order 198 = .ok (.getfield 205, 3) := by decide +kernel
theorem dX9_order_201 : decode cX9_order 201 = .ok (.ireturn, 1) := by decide +kernel
theorem dX9_order_202 : decode cX9_order 202 = .ok (.iload 5, 2) := by decide +kernel
theorem dX9_order_204 : decode cX9_order 204 = .ok (.iconst 2, 1) := by decide +kernel
theorem dX9_order_205 : decode cX9_order 205 = .ok (.isub, 1) := by decide +kernel
theorem dX9_order_206 : decode cX9_order 206 = .ok (.aload_n 0, 1) := by decide +kernel
theorem dX9_order_207 : decode cX9_order 207 = .ok (.getfield 199, 3) := by decide +kernel
theorem dX9_order_210 : decode cX9_order 210 = .ok (.if_icmp .ge 20, 3) := by decide +kernel
theorem dX9_order_213 : decode cX9_order 213 = .ok (.aload_n 0, 1) := by decide +kernel
theorem dX9_order_214 : decode cX9_order 214 = .ok (.getfield 95, 3) := by decide +kernel
theorem dX9_order_217 : decode cX9_order 217 = .ok (.aload_n 0, 1) := by decide +kernel
theorem dX9_order_218 : decode cX9_order 218 = .ok (.getfield 101, 3) := by decide +kernel
theorem dX9_order_221 : decode cX9_order 221 = .ok (.iload 5, 2) := by decide +kernel
theorem dX9_order_223 : decode cX9_order 223 = .ok (.iconst 2, 1) := by decide +kernel
theorem dX9_order_224 : decode cX9_order 224 = .ok (.isub, 1) := by decide +kernel
theorem dX9_order_225 : decode cX9_order 225 = .ok (.iaload, 1) := by decide +kernel
theorem dX9_order_226 : decode cX9_order 226 = .ok (.iaload, 1) := by decide +kernel
theorem dX9_order_227 : decode cX9_order 227 = .ok (.goto 4, 3) := by decide +kernel
theorem dX9_order_230 : decode cX9_order 230 = .ok (.iconst (-1), 1) := by decide +kernel
theorem dX9_order_231 : decode cX9_order 231 = .ok (.ireturn, 1) := by decide +kernel
theorem dX9_close_0 : decode cX9_close 0 = .ok (.aload_n 0, 1) := by decide +kernel
theorem dX9_close_1 : decode cX9_close 1 = .ok (.iload_n 1, 1) := by decide +kernel
theorem dX9_close_2 : decode cX9_close 2 = .ok (.invokevirtual 164, 3) := by decide +kernel
theorem dX9_close_5 : decode cX9_close 5 = .ok (.ifCond .eq 10, 3) := by decide +kernel
theorem dX9_close_8 : decode cX9_close 8 = .ok (.iload_n 2, 1) := by decide +kernel
theorem dX9_close_9 : decode cX9_close 9 = .ok (.invokestatic 137, 3) := by decide +kernel
theorem dX9_close_12 : decode cX9_close 12 = .ok (.ifCond .ne 10, 3) := by decide +kernel
theorem dX9_close_15 : decode cX9_close 15 = .ok (.aload_n 0, 1) := by decide +kernel
theorem dX9_close_16 : decode cX9_close 16 = .ok (.ldc 144, 2) := by decide +kernel
theorem dX9_close_18 : decode cX9_close 18 = .ok (.invokevirtual 145, 3) := by decide +kernel
theorem dX9_close_21 : decode cX9_close 21 = .ok (.ireturn, 1) := by decide +kernel
theorem dX9_close_22 : decode cX9_close 22 = .ok (.aload_n 0, 1) := by decide +kernel
theorem dX9_close_23 : decode cX9_close 23 = .ok (.getfield 37, 3) := by decide +kernel
theorem dX9_close_26 : decode cX9_close 26 = .ok (.iload_n 1, 1) := by decide +kernel
theorem dX9_close_27 : decode cX9_close 27 = .ok (.baload, 1) := by decide +kernel
theorem dX9_close_28 : decode cX9_close 28 = .ok (.ifCond .eq 18, 3) := by decide +kernel
theorem dX9_close_31 : decode cX9_close 31 = .ok (.iload_n 2, 1) := by decide +kernel
theorem dX9_close_32 : decode cX9_close 32 = .ok (.aload_n 0, 1) := by decide +kernel
theorem dX9_close_33 : decode cX9_close 33 = .ok (.getfield 22, 3) := by decide +kernel
theorem dX9_close_36 : decode cX9_close 36 = .ok (.aload_n 0, 1) := by decide +kernel
theorem dX9_close_37 : decode cX9_close 37 = .ok (.getfield 34, 3) := by decide +kernel
theorem dX9_close_40 : decode cX9_close 40 = .ok (.iload_n 1, 1) := by decide +kernel
theorem dX9_close_41 : decode cX9_close 41 = .ok (.iaload, 1) := by decide +kernel
theorem dX9_close_42 : decode cX9_close 42 = .ok (.iaload, 1) := by decide +kernel
theorem dX9_close_43 : decode cX9_close 43 = .ok (.if_icmp .ge 10, 3) := by decide +kernel
theorem dX9_close_46 : decode cX9_close 46 = .ok (.aload_n 0, 1) := by decide +kernel
theorem dX9_close_47 : decode cX9_close 47 = .ok (.ldc 218, 2) := by decide +kernel
theorem dX9_close_49 : decode cX9_close 49 = .ok (.invokevirtual 145, 3) := by decide +kernel
theorem dX9_close_52 : decode cX9_close 52 = .ok (.ireturn, 1) := by decide +kernel
theorem dX9_close_53 : decode cX9_close 53 = .ok (.aload_n 0, 1) := by decide +kernel
theorem dX9_close_54 : decode cX9_close 54 = .ok (.iload_n 1, 1) := by decide +kernel
theorem dX9_close_55 : decode cX9_close 55 = .ok (.invokevirtual 193, 3) := by decide +kernel
theorem dX9_close_58 : decode cX9_close 58 = .ok (.istore_n 3, 1) := by decide +kernel
theorem dX9_close_59 : decode cX9_close 59 = .ok (.iload_n 3, 1) := by decide +kernel
theorem dX9_close_60 : decode cX9_close 60 = .ok (.ifCond .ge 9, 3) := by decide +kernel
theorem dX9_close_63 : decode cX9_close 63 = .ok (.aload_n 0, 1) := by decide +kernel
theorem dX9_close_64 : decode cX9_close 64 = .ok (.iload_n 3, 1) := by decide +kernel
theorem dX9_close_65 : decode cX9_close 65 = .ok (.invokevirtual 145, 3) := by decide +kernel
theorem dX9_close_68 : decode cX9_close 68 = .ok (.ireturn, 1) := by decide +kernel
theorem dX9_close_69 : decode cX9_close 69 = .ok (.aload_n 0, 1) := by decide +kernel
theorem dX9_close_70 : decode cX9_close 70 = .ok (.getfield 37, 3) := by decide +kernel
theorem dX9_close_73 : decode cX9_close 73 = .ok (.iload_n 1, 1) := by decide +kernel
theorem dX9_close_74 : decode cX9_close 74 = .ok (.iconst 0, 1) := by decide +kernel
theorem dX9_close_75 : decode cX9_close 75 = .ok (.bastore, 1) := by decide +kernel
theorem dX9_close_76 : decode cX9_close 76 = .ok (.aload_n 0, 1) := by decide +kernel
theorem dX9_close_77 : decode cX9_close 77 = .ok (.getfield 50, 3) := by decide +kernel
theorem dX9_close_80 : decode cX9_close 80 = .ok (.iload_n 1, 1) := by decide +kernel
theorem dX9_close_81 : decode cX9_close 81 = .ok (.iconst 0, 1) := by decide +kernel
theorem dX9_close_82 : decode cX9_close 82 = .ok (.bastore, 1) := by decide +kernel
theorem dX9_close_83 : decode cX9_close 83 = .ok (.aload_n 0, 1) := by decide +kernel
theorem dX9_close_84 : decode cX9_close 84 = .ok (.getfield 41, 3) := by decide +kernel
theorem dX9_close_87 : decode cX9_close 87 = .ok (.iload_n 1, 1) := by decide +kernel
theorem dX9_close_88 : decode cX9_close 88 = .ok (.dup2, 1) := by decide +kernel
theorem dX9_close_89 : decode cX9_close 89 = .ok (.iaload, 1) := by decide +kernel
theorem dX9_close_90 : decode cX9_close 90 = .ok (.iconst 1, 1) := by decide +kernel
theorem dX9_close_91 : decode cX9_close 91 = .ok (.iadd, 1) := by decide +kernel
theorem dX9_close_92 : decode cX9_close 92 = .ok (.iastore, 1) := by decide +kernel
theorem dX9_close_93 : decode cX9_close 93 = .ok (.aload_n 0, 1) := by decide +kernel
theorem dX9_close_94 : decode cX9_close 94 = .ok (.getfield 44, 3) := by decide +kernel
theorem dX9_close_97 : decode cX9_close 97 = .ok (.iload_n 1, 1) := by decide +kernel
theorem dX9_close_98 : decode cX9_close 98 = .ok (.iload_n 2, 1) := by decide +kernel
theorem dX9_close_99 : decode cX9_close 99 = .ok (.iastore, 1) := by decide +kernel
theorem dX9_close_100 : decode cX9_close 100 = .ok (.aload_n 0, 1) := by decide +kernel
theorem dX9_close_101 : decode cX9_close 101 = .ok (.getfield 47, 3) := by decide +kernel
theorem dX9_close_104 : decode cX9_close 104 = .ok (.iload_n 1, 1) := by decide +kernel
theorem dX9_close_105 : decode cX9_close 105 = .ok (.iload_n 3, 1) := by decide +kernel
theorem dX9_close_106 : decode cX9_close 106 = .ok (.iastore, 1) := by decide +kernel
theorem dX9_close_107 : decode cX9_close 107 = .ok (.aload_n 0, 1) := by decide +kernel
theorem dX9_close_108 : decode cX9_close 108 = .ok (.getfield 62, 3) := by decide +kernel
theorem dX9_close_111 : decode cX9_close 111 = .ok (.iload_n 3, 1) := by decide +kernel
theorem dX9_close_112 : decode cX9_close 112 = .ok (.dup2, 1) := by decide +kernel
theorem dX9_close_113 : decode cX9_close 113 = .ok (.iaload, 1) := by decide +kernel
theorem dX9_close_114 : decode cX9_close 114 = .ok (.iconst 1, 1) := by decide +kernel
theorem dX9_close_115 : decode cX9_close 115 = .ok (.iadd, 1) := by decide +kernel
theorem dX9_close_116 : decode cX9_close 116 = .ok (.iastore, 1) := by decide +kernel
theorem dX9_close_117 : decode cX9_close 117 = .ok (.iload_n 3, 1) := by decide +kernel
theorem dX9_close_118 : decode cX9_close 118 = .ok (.ireturn, 1) := by decide +kernel
theorem dX9_look_0 : decode cX9_look 0 = .ok (.aload_n 0, 1) := by decide +kernel
theorem dX9_look_1 : decode cX9_look 1 = .ok (.iload_n 1, 1) := by decide +kernel
theorem dX9_look_2 : decode cX9_look 2 = .ok (.invokevirtual 164, 3) := by decide +kernel
theorem dX9_look_5 : decode cX9_look 5 = .ok (.ifCond .ne 10, 3) := by decide +kernel
theorem dX9_look_8 : decode cX9_look 8 = .ok (.aload_n 0, 1) := by decide +kernel
theorem dX9_look_9 : decode cX9_look 9 = .ok (.ldc 144, 2) := by decide +kernel
theorem dX9_look_11 : decode cX9_look 11 = .ok (.invokevirtual 145, 3) := by decide +kernel
theorem dX9_look_14 : decode cX9_look 14 = .ok (.ireturn, 1) := by decide +kernel
theorem dX9_look_15 : decode cX9_look 15 = .ok (.aload_n 0, 1) := by decide +kernel
theorem dX9_look_16 : decode cX9_look 16 = .ok (.getfield 37, 3) := by decide +kernel
theorem dX9_look_19 : decode cX9_look 19 = .ok (.iload_n 1, 1) := by decide +kernel
theorem dX9_look_20 : decode cX9_look 20 = .ok (.baload, 1) := by decide +kernel
theorem dX9_look_21 : decode cX9_look 21 = .ok (.ifCond .ne 12, 3) := by decide +kernel
theorem dX9_look_24 : decode cX9_look 24 = .ok (.aload_n 0, 1) := by decide +kernel
theorem dX9_look_25 : decode cX9_look 25 = .ok (.getfield 50, 3) := by decide +kernel
theorem dX9_look_28 : decode cX9_look 28 = .ok (.iload_n 1, 1) := by decide +kernel
theorem dX9_look_29 : decode cX9_look 29 = .ok (.baload, 1) := by decide +kernel
theorem dX9_look_30 : decode cX9_look 30 = .ok (.ifCond .eq 10, 3) := by decide +kernel
theorem dX9_look_33 : decode cX9_look 33 = .ok (.aload_n 0, 1) := by decide +kernel
theorem dX9_look_34 : decode cX9_look 34 = .ok (.ldc 218, 2) := by decide +kernel
theorem dX9_look_36 : decode cX9_look 36 = .ok (.invokevirtual 145, 3) := by decide +kernel
theorem dX9_look_39 : decode cX9_look 39 = .ok (.ireturn, 1) := by decide +kernel
theorem dX9_look_40 : decode cX9_look 40 = .ok (.aload_n 0, 1) := by decide +kernel
theorem dX9_look_41 : decode cX9_look 41 = .ok (.getfield 65, 3) := by decide +kernel
theorem dX9_look_44 : decode cX9_look 44 = .ok (.aload_n 0, 1) := by decide +kernel
theorem dX9_look_45 : decode cX9_look 45 = .ok (.getfield 47, 3) := by decide +kernel
theorem dX9_look_48 : decode cX9_look 48 = .ok (.iload_n 1, 1) := by decide +kernel
theorem dX9_look_49 : decode cX9_look 49 = .ok (.iaload, 1) := by decide +kernel
theorem dX9_look_50 : decode cX9_look 50 = .ok (.dup2, 1) := by decide +kernel
theorem dX9_look_51 : decode cX9_look 51 = .ok (.iaload, 1) := by decide +kernel
theorem dX9_look_52 : decode cX9_look 52 = .ok (.iconst 1, 1) := by decide +kernel
theorem dX9_look_53 : decode cX9_look 53 = .ok (.iadd, 1) := by decide +kernel
theorem dX9_look_54 : decode cX9_look 54 = .ok (.iastore, 1) := by decide +kernel
theorem dX9_look_55 : decode cX9_look 55 = .ok (.aload_n 0, 1) := by decide +kernel
theorem dX9_look_56 : decode cX9_look 56 = .ok (.getfield 50, 3) := by decide +kernel
theorem dX9_look_59 : decode cX9_look 59 = .ok (.iload_n 1, 1) := by decide +kernel
theorem dX9_look_60 : decode cX9_look 60 = .ok (.iconst 1, 1) := by decide +kernel
theorem dX9_look_61 : decode cX9_look 61 = .ok (.bastore, 1) := by decide +kernel
theorem dX9_look_62 : decode cX9_look 62 = .ok (.iload_n 2, 1) := by decide +kernel
theorem dX9_look_63 : decode cX9_look 63 = .ok (.ifCond .ne 25, 3) := by decide +kernel
theorem dX9_look_66 : decode cX9_look 66 = .ok (.aload_n 0, 1) := by decide +kernel
theorem dX9_look_67 : decode cX9_look 67 = .ok (.getfield 68, 3) := by decide +kernel
theorem dX9_look_70 : decode cX9_look 70 = .ok (.aload_n 0, 1) := by decide +kernel
theorem dX9_look_71 : decode cX9_look 71 = .ok (.getfield 47, 3) := by decide +kernel
theorem dX9_look_74 : decode cX9_look 74 = .ok (.iload_n 1, 1) := by decide +kernel
theorem dX9_look_75 : decode cX9_look 75 = .ok (.iaload, 1) := by decide +kernel
theorem dX9_look_76 : decode cX9_look 76 = .ok (.dup2, 1) := by decide +kernel
theorem dX9_look_77 : decode cX9_look 77 = .ok (.iaload, 1) := by decide +kernel
theorem dX9_look_78 : decode cX9_look 78 = .ok (.iconst 1, 1) := by decide +kernel
theorem dX9_look_79 : decode cX9_look 79 = .ok (.iadd, 1) := by decide +kernel
theorem dX9_look_80 : decode cX9_look 80 = .ok (.iastore, 1) := by decide +kernel
theorem dX9_look_81 : decode cX9_look 81 = .ok (.aload_n 0, 1) := by decide +kernel
theorem dX9_look_82 : decode cX9_look 82 = .ok (.getfield 37, 3) := by decide +kernel
theorem dX9_look_85 : decode cX9_look 85 = .ok (.iload_n 1, 1) := by decide +kernel
theorem dX9_look_86 : decode cX9_look 86 = .ok (.iconst 1, 1) := by decide +kernel
theorem dX9_look_87 : decode cX9_look 87 = .ok (.bastore, 1) := by decide +kernel
theorem dX9_look_88 : decode cX9_look 88 = .ok (.iconst 1, 1) := by decide +kernel
theorem dX9_look_89 : decode cX9_look 89 = .ok (.ireturn, 1) := by decide +kernel
theorem dX9_closings_0 : decode cX9_closings 0 = .ok (.iload_n 1, 1) := by decide +kernel
theorem dX9_closings_1 : decode cX9_closings 1 = .ok (.iconst 0, 1) := by decide +kernel
theorem dX9_closings_2 : decode cX9_closings 2 = .ok (.iconst 5, 1) := by decide +kernel
theorem dX9_closings_3 : decode cX9_closings 3 = .ok (.invokestatic 111, 3) := by decide +kernel
theorem dX9_closings_6 : decode cX9_closings 6 = .ok (.ifCond .eq 12, 3) := by decide +kernel
theorem dX9_closings_9 : decode cX9_closings 9 = .ok (.iload_n 2, 1) := by decide +kernel
theorem dX9_closings_10 : decode cX9_closings 10 = .ok (.iconst 0, 1) := by decide +kernel
theorem dX9_closings_11 : decode cX9_closings 11 = .ok (.iconst 3, 1) := by decide +kernel
theorem dX9_closings_12 : decode cX9_closings 12 = .ok (.invokestatic 111, 3) := by decide +kernel
theorem dX9_closings_15 : decode cX9_closings 15 = .ok (.ifCond .ne 10, 3) := by decide +kernel
theorem dX9_closings_18 : decode cX9_closings 18 = .ok (.aload_n 0, 1) := by decide +kernel
theorem dX9_closings_19 : decode cX9_closings 19 = .ok (.ldc 144, 2) := by decide +kernel
theorem dX9_closings_21 : decode cX9_closings 21 = .ok (.invokevirtual 145, 3) := by decide +kernel
theorem dX9_closings_24 : decode cX9_closings 24 = .ok (.ireturn, 1) := by decide +kernel
theorem dX9_closings_25 : decode cX9_closings 25 = .ok (.iload_n 2, 1) := by decide +kernel
theorem dX9_closings_26 : decode cX9_closings 26 = .ok (.ifCond .ne 12, 3) := by decide +kernel
theorem dX9_closings_29 : decode cX9_closings 29 = .ok (.aload_n 0, 1) := by decide +kernel
theorem dX9_closings_30 : decode cX9_closings 30 = .ok (.getfield 62, 3) := by decide +kernel
theorem dX9_closings_33 : decode cX9_closings 33 = .ok (.iload_n 1, 1) := by decide +kernel
theorem dX9_closings_34 : decode cX9_closings 34 = .ok (.iaload, 1) := by decide +kernel
theorem dX9_closings_35 : decode cX9_closings 35 = .ok (.goto 51, 3) := by decide +kernel
theorem dX9_closings_38 : decode cX9_closings 38 = .ok (.iload_n 2, 1) := by decide +kernel
theorem dX9_closings_39 : decode cX9_closings 39 = .ok (.iconst 1, 1) := by decide +kernel
theorem dX9_closings_40 : decode cX9_closings 40 = .ok (.if_icmp .ne 12, 3) := by decide +kernel
theorem dX9_closings_43 : decode cX9_closings 43 = .ok (.aload_n 0, 1) := by decide +kernel
theorem dX9_closings_44 : decode cX9_closings 44 = .ok (.getfield 65, 3) := by decide +kernel
theorem dX9_closings_47 : decode cX9_closings 47 = .ok (.iload_n 1, 1) := by decide +kernel
theorem dX9_closings_48 : decode cX9_closings 48 = .ok (.iaload, 1) := by decide +kernel
theorem dX9_closings_49 : decode cX9_closings 49 = .ok (.goto 37, 3) := by decide +kernel
theorem dX9_closings_52 : decode cX9_closings 52 = .ok (.iload_n 2, 1) := by decide +kernel
theorem dX9_closings_53 : decode cX9_closings 53 = .ok (.iconst 2, 1) := by decide +kernel
theorem dX9_closings_54 : decode cX9_closings 54 = .ok (.if_icmp .ne 12, 3) := by decide +kernel
theorem dX9_closings_57 : decode cX9_closings 57 = .ok (.aload_n 0, 1) := by decide +kernel
theorem dX9_closings_58 : decode cX9_closings 58 = .ok (.getfield 68, 3) := by decide +kernel
theorem dX9_closings_61 : decode cX9_closings 61 = .ok (.iload_n 1, 1) := by decide +kernel
theorem dX9_closings_62 : decode cX9_closings 62 = .ok (.iaload, 1) := by decide +kernel
theorem dX9_closings_63 : decode cX9_closings 63 = .ok (.goto 23, 3) := by decide +kernel
theorem dX9_closings_66 : decode cX9_closings 66 = .ok (.aload_n 0, 1) := by decide +kernel
theorem dX9_closings_67 : decode cX9_closings 67 = .ok (.getfield 68, 3) := by decide +kernel
theorem dX9_closings_70 : decode cX9_closings 70 = .ok (.iload_n 1, 1) := by decide +kernel
theorem dX9_closings_71 : decode cX9_closings 71 = .ok (.iaload, 1) := by decide +kernel
theorem dX9_closings_72 : decode cX9_closings 72 = .ok (.aload_n 0, 1) := by decide +kernel
theorem dX9_closings_73 : decode cX9_closings 73 = .ok (.getfield 62, 3) := by decide +kernel
theorem dX9_closings_76 : decode cX9_closings 76 = .ok (.iload_n 1, 1) := by decide +kernel
theorem dX9_closings_77 : decode cX9_closings 77 = .ok (.iaload, 1) := by decide +kernel
theorem dX9_closings_78 : decode cX9_closings 78 = .ok (.iadd, 1) := by decide +kernel
theorem dX9_closings_79 : decode cX9_closings 79 = .ok (.aload_n 0, 1) := by decide +kernel
theorem dX9_closings_80 : decode cX9_closings 80 = .ok (.getfield 65, 3) := by decide +kernel
theorem dX9_closings_83 : decode cX9_closings 83 = .ok (.iload_n 1, 1) := by decide +kernel
theorem dX9_closings_84 : decode cX9_closings 84 = .ok (.iaload, 1) := by decide +kernel
theorem dX9_closings_85 : decode cX9_closings 85 = .ok (.isub, 1) := by decide +kernel
theorem dX9_closings_86 : decode cX9_closings 86 = .ok (.ireturn, 1) := by decide +kernel
theorem dX9_walk_0 : decode cX9_walk 0 = .ok (.iload_n 1, 1) := by decide +kernel
theorem dX9_walk_1 : decode cX9_walk 1 = .ok (.iconst 0, 1) := by decide +kernel
theorem dX9_walk_2 : decode cX9_walk 2 = .ok (.iconst 3, 1) := by decide +kernel
theorem dX9_walk_3 : decode cX9_walk 3 = .ok (.invokestatic 111, 3) := by decide +kernel
theorem dX9_walk_6 : decode cX9_walk 6 = .ok (.ifCond .eq 23, 3) := by decide +kernel
theorem dX9_walk_9 : decode cX9_walk 9 = .ok (.iload_n 2, 1) := by decide +kernel
theorem dX9_walk_10 : decode cX9_walk 10 = .ok (.iconst 0, 1) := by decide +kernel
theorem dX9_walk_11 : decode cX9_walk 11 = .ok (.sipush 1000, 3) := by decide +kernel
theorem dX9_walk_14 : decode cX9_walk 14 = .ok (.invokestatic 111, 3) := by decide +kernel
theorem dX9_walk_17 : decode cX9_walk 17 = .ok (.ifCond .eq 12, 3) := by decide +kernel
theorem dX9_walk_20 : decode cX9_walk 20 = .ok (.iload_n 3, 1) := by decide +kernel
theorem dX9_walk_21 : decode cX9_walk 21 = .ok (.iconst 0, 1) := by decide +kernel
theorem dX9_walk_22 : decode cX9_walk 22 = .ok (.iload_n 2, 1) := by decide +kernel
theorem dX9_walk_23 : decode cX9_walk 23 = .ok (.invokestatic 111, 3) := by decide +kernel
theorem dX9_walk_26 : decode cX9_walk 26 = .ok (.ifCond .ne 10, 3) := by decide +kernel
theorem dX9_walk_29 : decode cX9_walk 29 = .ok (.aload_n 0, 1) := by decide +kernel
theorem dX9_walk_30 : decode cX9_walk 30 = .ok (.ldc 144, 2) := by decide +kernel
theorem dX9_walk_32 : decode cX9_walk 32 = .ok (.invokevirtual 145, 3) := by decide +kernel
theorem dX9_walk_35 : decode cX9_walk 35 = .ok (.ireturn, 1) := by decide +kernel
theorem dX9_walk_36 : decode cX9_walk 36 = .ok (.aload_n 0, 1) := by decide +kernel
theorem dX9_walk_37 : decode cX9_walk 37 = .ok (.getfield 71, 3) := by decide +kernel
theorem dX9_walk_40 : decode cX9_walk 40 = .ok (.iload_n 1, 1) := by decide +kernel
theorem dX9_walk_41 : decode cX9_walk 41 = .ok (.iload_n 2, 1) := by decide +kernel
theorem dX9_walk_42 : decode cX9_walk 42 = .ok (.iastore, 1) := by decide +kernel
theorem dX9_walk_43 : decode cX9_walk 43 = .ok (.aload_n 0, 1) := by decide +kernel
theorem dX9_walk_44 : decode cX9_walk 44 = .ok (.getfield 74, 3) := by decide +kernel
theorem dX9_walk_47 : decode cX9_walk 47 = .ok (.iload_n 1, 1) := by decide +kernel
theorem dX9_walk_48 : decode cX9_walk 48 = .ok (.iload_n 3, 1) := by decide +kernel
theorem dX9_walk_49 : decode cX9_walk 49 = .ok (.iastore, 1) := by decide +kernel
theorem dX9_walk_50 : decode cX9_walk 50 = .ok (.iconst 1, 1) := by decide +kernel
theorem dX9_walk_51 : decode cX9_walk 51 = .ok (.ireturn, 1) := by decide +kernel
theorem dX9_quarter_0 : decode cX9_quarter 0 = .ok (.iload_n 1, 1) := by decide +kernel
theorem dX9_quarter_1 : decode cX9_quarter 1 = .ok (.iconst 0, 1) := by decide +kernel
theorem dX9_quarter_2 : decode cX9_quarter 2 = .ok (.iconst 3, 1) := by decide +kernel
theorem dX9_quarter_3 : decode cX9_quarter 3 = .ok (.invokestatic 111, 3) := by decide +kernel
theorem dX9_quarter_6 : decode cX9_quarter 6 = .ok (.ifCond .eq 12, 3) := by decide +kernel
theorem dX9_quarter_9 : decode cX9_quarter 9 = .ok (.iload_n 2, 1) := by decide +kernel
theorem dX9_quarter_10 : decode cX9_quarter 10 = .ok (.iconst 0, 1) := by decide +kernel
theorem dX9_quarter_11 : decode cX9_quarter 11 = .ok (.iconst 4, 1) := by decide +kernel
theorem dX9_quarter_12 : decode cX9_quarter 12 = .ok (.invokestatic 111, 3) := by decide +kernel
theorem dX9_quarter_15 : decode cX9_quarter 15 = .ok (.ifCond .ne 10, 3) := by decide +kernel
theorem dX9_quarter_18 : decode cX9_quarter 18 = .ok (.aload_n 0, 1) := by decide +kernel
theorem dX9_quarter_19 : decode cX9_quarter 19 = .ok (.ldc 144, 2) := by decide +kernel
theorem dX9_quarter_21 : decode cX9_quarter 21 = .ok (.invokevirtual 145, 3) := by decide +kernel
theorem dX9_quarter_24 : decode cX9_quarter 24 = .ok (.ireturn, 1) := by decide +kernel
theorem dX9_quarter_25 : decode cX9_quarter 25 = .ok (.iconst 0, 1) := by decide +kernel
theorem dX9_quarter_26 : decode cX9_quarter 26 = .ok (.istore_n 3, 1) := by decide +kernel
theorem dX9_quarter_27 : decode cX9_quarter 27 = .ok (.iconst 0, 1) := by decide +kernel
theorem dX9_quarter_28 : decode cX9_quarter 28 = .ok (.istore 4, 2) := by decide +kernel
theorem dX9_quarter_30 : decode cX9_quarter 30 = .ok (.iconst 0, 1) := by decide +kernel
theorem dX9_quarter_31 : decode cX9_quarter 31 = .ok (.istore 5, 2) := by decide +kernel
theorem dX9_quarter_33 : decode cX9_quarter 33 = .ok (.iload 5, 2) := by decide +kernel
theorem dX9_quarter_35 : decode cX9_quarter 35 = .ok (.aload_n 0, 1) := by decide +kernel
theorem dX9_quarter_36 : decode cX9_quarter 36 = .ok (.getfield 118, 3) := by decide +kernel
theorem dX9_quarter_39 : decode cX9_quarter 39 = .ok (.if_icmp .ge 85, 3) := by decide +kernel
theorem dX9_quarter_42 : decode cX9_quarter 42 = .ok (.aload_n 0, 1) := by decide +kernel
theorem dX9_quarter_43 : decode cX9_quarter 43 = .ok (.getfield 13, 3) := by decide +kernel
theorem dX9_quarter_46 : decode cX9_quarter 46 = .ok (.aload_n 0, 1) := by decide +kernel
theorem dX9_quarter_47 : decode cX9_quarter 47 = .ok (.getfield 34, 3) := by decide +kernel
theorem dX9_quarter_50 : decode cX9_quarter 50 = .ok (.iload 5, 2) := by decide +kernel
theorem dX9_quarter_52 : decode cX9_quarter 52 = .ok (.iaload, 1) := by decide +kernel
theorem dX9_quarter_53 : decode cX9_quarter 53 = .ok (.iaload, 1) := by decide +kernel
theorem dX9_quarter_54 : decode cX9_quarter 54 = .ok (.aload_n 0, 1) := by decide +kernel
theorem dX9_quarter_55 : decode cX9_quarter 55 = .ok (.getfield 16, 3) := by decide +kernel
theorem dX9_quarter_58 : decode cX9_quarter 58 = .ok (.aload_n 0, 1) := by decide +kernel
theorem dX9_quarter_59 : decode cX9_quarter 59 = .ok (.getfield 34, 3) := by decide +kernel
theorem dX9_quarter_62 : decode cX9_quarter 62 = .ok (.iload 5, 2) := by decide +kernel
theorem dX9_quarter_64 : decode cX9_quarter 64 = .ok (.iaload, 1) := by decide +kernel
theorem dX9_quarter_65 : decode cX9_quarter 65 = .ok (.iaload, 1) := by decide +kernel
theorem dX9_quarter_66 : decode cX9_quarter 66 = .ok (.invokestatic 156, 3) := by decide +kernel
theorem dX9_quarter_69 : decode cX9_quarter 69 = .ok (.iload_n 1, 1) := by decide +kernel
theorem dX9_quarter_70 : decode cX9_quarter 70 = .ok (.if_icmp .ne 7, 3) := by decide +kernel
theorem dX9_quarter_73 : decode cX9_quarter 73 = .ok (.iconst 1, 1) := by decide +kernel
theorem dX9_quarter_74 : decode cX9_quarter 74 = .ok (.goto 4, 3) := by decide +kernel
theorem dX9_quarter_77 : decode cX9_quarter 77 = .ok (.iconst 0, 1) := by decide +kernel
theorem dX9_quarter_78 : decode cX9_quarter 78 = .ok (.istore 6, 2) := by decide +kernel
theorem dX9_quarter_80 : decode cX9_quarter 80 = .ok (.iload_n 3, 1) := by decide +kernel
theorem dX9_quarter_81 : decode cX9_quarter 81 = .ok (.iload 6, 2) := by decide +kernel
theorem dX9_quarter_83 : decode cX9_quarter 83 = .ok (.ifCond .eq 7, 3) := by decide +kernel
theorem dX9_quarter_86 : decode cX9_quarter 86 = .ok (.iconst 1, 1) := by decide +kernel
theorem dX9_quarter_87 : decode cX9_quarter 87 = .ok (.goto 4, 3) := by decide +kernel
theorem dX9_quarter_90 : decode cX9_quarter 90 = .ok (.iconst 0, 1) := by decide +kernel
theorem dX9_quarter_91 : decode cX9_quarter 91 = .ok (.iadd, 1) := by decide +kernel
theorem dX9_quarter_92 : decode cX9_quarter 92 = .ok (.istore_n 3, 1) := by decide +kernel
theorem dX9_quarter_93 : decode cX9_quarter 93 = .ok (.iload 4, 2) := by decide +kernel
theorem dX9_quarter_95 : decode cX9_quarter 95 = .ok (.iload 6, 2) := by decide +kernel
theorem dX9_quarter_97 : decode cX9_quarter 97 = .ok (.ifCond .eq 17, 3) := by decide +kernel
theorem dX9_quarter_100 : decode cX9_quarter 100 = .ok (.aload_n 0, 1) := by decide +kernel
theorem dX9_quarter_101 : decode cX9_quarter 101 = .ok (.getfield 37, 3) := by decide +kernel
theorem dX9_quarter_104 : decode cX9_quarter 104 = .ok (.iload 5, 2) := by decide +kernel
theorem dX9_quarter_106 : decode cX9_quarter 106 = .ok (.baload, 1) := by decide +kernel
theorem dX9_quarter_107 : decode cX9_quarter 107 = .ok (.ifCond .ne 7, 3) := by decide +kernel
theorem dX9_quarter_110 : decode cX9_quarter 110 = .ok (.iconst 1, 1) := by decide +kernel
theorem dX9_quarter_111 : decode cX9_quarter 111 = .ok (.goto 4, 3) := by decide +kernel
theorem dX9_quarter_114 : decode cX9_quarter 114 = .ok (.iconst 0, 1) := by decide +kernel
theorem dX9_quarter_115 : decode cX9_quarter 115 = .ok (.iadd, 1) := by decide +kernel
theorem dX9_quarter_116 : decode cX9_quarter 116 = .ok (.istore 4, 2) := by decide +kernel
theorem dX9_quarter_118 : decode cX9_quarter 118 = .ok (.iinc 5 1, 3) := by decide +kernel
theorem dX9_quarter_121 : decode cX9_quarter 121 = .ok (.goto (-88), 3) := by decide +kernel
theorem dX9_quarter_124 : decode cX9_quarter 124 = .ok (.iconst 0, 1) := by decide +kernel
theorem dX9_quarter_125 : decode cX9_quarter 125 = .ok (.istore 5, 2) := by decide +kernel
theorem dX9_quarter_127 : decode cX9_quarter 127 = .ok (.iconst 0, 1) := by decide +kernel
theorem dX9_quarter_128 : decode cX9_quarter 128 = .ok (.istore 6, 2) := by decide +kernel
theorem dX9_quarter_130 : decode cX9_quarter 130 = .ok (.iload 6, 2) := by decide +kernel
theorem dX9_quarter_132 : decode cX9_quarter 132 = .ok (.aload_n 0, 1) := by decide +kernel
theorem dX9_quarter_133 : decode cX9_quarter 133 = .ok (.getfield 115, 3) := by decide +kernel
theorem dX9_quarter_136 : decode cX9_quarter 136 = .ok (.if_icmp .ge 40, 3) := by decide +kernel
theorem dX9_quarter_139 : decode cX9_quarter 139 = .ok (.iload 5, 2) := by decide +kernel
theorem dX9_quarter_141 : decode cX9_quarter 141 = .ok (.aload_n 0, 1) := by decide +kernel
theorem dX9_quarter_142 : decode cX9_quarter 142 = .ok (.getfield 13, 3) := by decide +kernel
theorem dX9_quarter_145 : decode cX9_quarter 145 = .ok (.iload 6, 2) := by decide +kernel
theorem dX9_quarter_147 : decode cX9_quarter 147 = .ok (.iaload, 1) := by decide +kernel
theorem dX9_quarter_148 : decode cX9_quarter 148 = .ok (.aload_n 0, 1) := by decide +kernel
theorem dX9_quarter_149 : decode cX9_quarter 149 = .ok (.getfield 16, 3) := by decide +kernel
theorem dX9_quarter_152 : decode cX9_quarter 152 = .ok (.iload 6, 2) := by decide +kernel
theorem dX9_quarter_154 : decode cX9_quarter 154 = .ok (.iaload, 1) := by decide +kernel
theorem dX9_quarter_155 : decode cX9_quarter 155 = .ok (.invokestatic 156, 3) := by decide +kernel
theorem dX9_quarter_158 : decode cX9_quarter 158 = .ok (.iload_n 1, 1) := by decide +kernel
theorem dX9_quarter_159 : decode cX9_quarter 159 = .ok (.if_icmp .ne 7, 3) := by decide +kernel
theorem dX9_quarter_162 : decode cX9_quarter 162 = .ok (.iconst 1, 1) := by decide +kernel
theorem dX9_quarter_163 : decode cX9_quarter 163 = .ok (.goto 4, 3) := by decide +kernel
theorem dX9_quarter_166 : decode cX9_quarter 166 = .ok (.iconst 0, 1) := by decide +kernel
theorem dX9_quarter_167 : decode cX9_quarter 167 = .ok (.iadd, 1) := by decide +kernel
theorem dX9_quarter_168 : decode cX9_quarter 168 = .ok (.istore 5, 2) := by decide +kernel
theorem dX9_quarter_170 : decode cX9_quarter 170 = .ok (.iinc 6 1, 3) := by decide +kernel
theorem dX9_quarter_173 : decode cX9_quarter 173 = .ok (.goto (-43), 3) := by decide +kernel
theorem dX9_quarter_176 : decode cX9_quarter 176 = .ok (.aload_n 0, 1) := by decide +kernel
theorem dX9_quarter_177 : decode cX9_quarter 177 = .ok (.getfield 71, 3) := by decide +kernel
theorem dX9_quarter_180 : decode cX9_quarter 180 = .ok (.iload_n 1, 1) := by decide +kernel
theorem dX9_quarter_181 : decode cX9_quarter 181 = .ok (.iaload, 1) := by decide +kernel
theorem dX9_quarter_182 : decode cX9_quarter 182 = .ok (.ifCond .ne 8, 3) := by decide +kernel
theorem dX9_quarter_185 : decode cX9_quarter 185 = .ok (.bipush 100, 2) := by decide +kernel
theorem dX9_quarter_187 : decode cX9_quarter 187 = .ok (.goto 19, 3) := by decide +kernel
theorem dX9_quarter_190 : decode cX9_quarter 190 = .ok (.bipush 100, 2) := by decide +kernel
theorem dX9_quarter_192 : decode cX9_quarter 192 = .ok (.aload_n 0, 1) := by decide +kernel
theorem dX9_quarter_193 : decode cX9_quarter 193 = .ok (.getfield 74, 3) := by decide +kernel
theorem dX9_quarter_196 : decode cX9_quarter 196 = .ok (.iload_n 1, 1) := by decide +kernel
theorem dX9_quarter_197 : decode cX9_quarter 197 = .ok (.iaload, 1) := by decide +kernel
theorem dX9_quarter_198 : decode cX9_quarter 198 = .ok (.imul, 1) := by decide +kernel
theorem dX9_quarter_199 : decode cX9_quarter 199 = .ok (.aload_n 0, 1) := by decide +kernel
theorem dX9_quarter_200 : decode cX9_quarter 200 = .ok (.getfield 71, 3) := by decide +kernel
theorem dX9_quarter_203 : decode cX9_quarter 203 = .ok (.iload_n 1, 1) := by decide +kernel
theorem dX9_quarter_204 : decode cX9_quarter 204 = .ok (.iaload, 1) := by decide +kernel
theorem dX9_quarter_205 : decode cX9_quarter 205 = .ok (.idiv, 1) := by decide +kernel
theorem dX9_quarter_206 : decode cX9_quarter 206 = .ok (.istore 6, 2) := by decide +kernel
theorem dX9_quarter_208 : decode cX9_quarter 208 = .ok (.iload_n 2, 1) := by decide +kernel
theorem dX9_quarter_209 : decode cX9_quarter 209 = .ok (.tableswitch 42 0 3 #[31, 33, 36, 39], 31) := by decide +kernel
theorem dX9_quarter_240 : decode cX9_quarter 240 = .ok (.iload_n 3, 1) := by decide +kernel
theorem dX9_quarter_241 : decode cX9_quarter 241 = .ok (.ireturn, 1) := by decide +kernel
theorem dX9_quarter_242 : decode cX9_quarter 242 = .ok (.iload 5, 2) := by decide +kernel
theorem dX9_quarter_244 : decode cX9_quarter 244 = .ok (.ireturn, 1) := by decide +kernel
theorem dX9_quarter_245 : decode cX9_quarter 245 = .ok (.iload 4, 2) := by decide +kernel
theorem dX9_quarter_247 : decode cX9_quarter 247 = .ok (.ireturn, 1) := by decide +kernel
theorem dX9_quarter_248 : decode cX9_quarter 248 = .ok (.iload 6, 2) := by decide +kernel
theorem dX9_quarter_250 : decode cX9_quarter 250 = .ok (.ireturn, 1) := by decide +kernel
theorem dX9_quarter_251 : decode cX9_quarter 251 = .ok (.iload 6, 2) := by decide +kernel
theorem dX9_quarter_253 : decode cX9_quarter 253 = .ok (.ifCond .ne 12, 3) := by decide +kernel
theorem dX9_quarter_256 : decode cX9_quarter 256 = .ok (.aload_n 0, 1) := by decide +kernel
theorem dX9_quarter_257 : decode cX9_quarter 257 = .ok (.ldc 188, 2) := by decide +kernel
theorem dX9_quarter_259 : decode cX9_quarter 259 = .ok (.invokevirtual 145, 3) := by decide +kernel
theorem dX9_quarter_262 : decode cX9_quarter 262 = .ok (.goto 10, 3) := by decide +kernel
theorem dX9_quarter_265 : decode cX9_quarter 265 = .ok (.bipush 100, 2) := by decide +kernel
theorem dX9_quarter_267 : decode cX9_quarter 267 = .ok (.iload_n 3, 1) := by decide +kernel
theorem dX9_quarter_268 : decode cX9_quarter 268 = .ok (.imul, 1) := by decide +kernel
theorem dX9_quarter_269 : decode cX9_quarter 269 = .ok (.iload 6, 2) := by decide +kernel
theorem dX9_quarter_271 : decode cX9_quarter 271 = .ok (.idiv, 1) := by decide +kernel
theorem dX9_quarter_272 : decode cX9_quarter 272 = .ok (.ireturn, 1) := by decide +kernel
theorem dX9_isSheet_0 : decode cX9_isSheet 0 = .ok (.iload_n 0, 1) := by decide +kernel
theorem dX9_isSheet_1 : decode cX9_isSheet 1 = .ok (.iconst 0, 1) := by decide +kernel
theorem dX9_isSheet_2 : decode cX9_isSheet 2 = .ok (.iconst 3, 1) := by decide +kernel
theorem dX9_isSheet_3 : decode cX9_isSheet 3 = .ok (.invokestatic 111, 3) := by decide +kernel
theorem dX9_isSheet_6 : decode cX9_isSheet 6 = .ok (.ireturn, 1) := by decide +kernel
theorem dX9_sheet_0 : decode cX9_sheet 0 = .ok (.iload_n 1, 1) := by decide +kernel
theorem dX9_sheet_1 : decode cX9_sheet 1 = .ok (.invokestatic 219, 3) := by decide +kernel
theorem dX9_sheet_4 : decode cX9_sheet 4 = .ok (.ifCond .eq 25, 3) := by decide +kernel
theorem dX9_sheet_7 : decode cX9_sheet 7 = .ok (.iload_n 2, 1) := by decide +kernel
theorem dX9_sheet_8 : decode cX9_sheet 8 = .ok (.ifCond .eq 28, 3) := by decide +kernel
theorem dX9_sheet_11 : decode cX9_sheet 11 = .ok (.iload_n 2, 1) := by decide +kernel
theorem dX9_sheet_12 : decode cX9_sheet 12 = .ok (.bipush 8, 2) := by decide +kernel
theorem dX9_sheet_14 : decode cX9_sheet 14 = .ok (.if_icmp .eq 22, 3) := by decide +kernel
theorem dX9_sheet_17 : decode cX9_sheet 17 = .ok (.iload_n 2, 1) := by decide +kernel
theorem dX9_sheet_18 : decode cX9_sheet 18 = .ok (.bipush 16, 2) := by decide +kernel
theorem dX9_sheet_20 : decode cX9_sheet 20 = .ok (.if_icmp .eq 16, 3) := by decide +kernel
theorem dX9_sheet_23 : decode cX9_sheet 23 = .ok (.iload_n 2, 1) := by decide +kernel
theorem dX9_sheet_24 : decode cX9_sheet 24 = .ok (.bipush 32, 2) := by decide +kernel
theorem dX9_sheet_26 : decode cX9_sheet 26 = .ok (.if_icmp .eq 10, 3) := by decide +kernel
theorem dX9_sheet_29 : decode cX9_sheet 29 = .ok (.aload_n 0, 1) := by decide +kernel
theorem dX9_sheet_30 : decode cX9_sheet 30 = .ok (.ldc 144, 2) := by decide +kernel
theorem dX9_sheet_32 : decode cX9_sheet 32 = .ok (.invokevirtual 145, 3) := by decide +kernel
theorem dX9_sheet_35 : decode cX9_sheet 35 = .ok (.ireturn, 1) := by decide +kernel
theorem dX9_sheet_36 : decode cX9_sheet 36 = .ok (.iload_n 3, 1) := by decide +kernel
theorem dX9_sheet_37 : decode cX9_sheet 37 = .ok (.ifCond .ge 10, 3) := by decide +kernel
theorem dX9_sheet_40 : decode cX9_sheet 40 = .ok (.aload_n 0, 1) := by decide +kernel
theorem dX9_sheet_41 : decode cX9_sheet 41 = .ok (.ldc 222, 2) := by decide +kernel
theorem dX9_sheet_43 : decode cX9_sheet 43 = .ok (.invokevirtual 145, 3) := by decide +kernel
theorem dX9_sheet_46 : decode cX9_sheet 46 = .ok (.ireturn, 1) := by decide +kernel
theorem dX9_sheet_47 : decode cX9_sheet 47 = .ok (.iload_n 3, 1) := by decide +kernel
theorem dX9_sheet_48 : decode cX9_sheet 48 = .ok (.bipush 12, 2) := by decide +kernel
theorem dX9_sheet_50 : decode cX9_sheet 50 = .ok (.if_icmp .le 10, 3) := by decide +kernel
theorem dX9_sheet_53 : decode cX9_sheet 53 = .ok (.aload_n 0, 1) := by decide +kernel
theorem dX9_sheet_54 : decode cX9_sheet 54 = .ok (.ldc 144, 2) := by decide +kernel
theorem dX9_sheet_56 : decode cX9_sheet 56 = .ok (.invokevirtual 145, 3) := by decide +kernel
theorem dX9_sheet_59 : decode cX9_sheet 59 = .ok (.ireturn, 1) := by decide +kernel
theorem dX9_sheet_60 : decode cX9_sheet 60 = .ok (.iload_n 2, 1) := by decide +kernel
theorem dX9_sheet_61 : decode cX9_sheet 61 = .ok (.ifCond .ne 19, 3) := by decide +kernel
theorem dX9_sheet_64 : decode cX9_sheet 64 = .ok (.aload_n 0, 1) := by decide +kernel
theorem dX9_sheet_65 : decode cX9_sheet 65 = .ok (.getfield 77, 3) := by decide +kernel
theorem dX9_sheet_68 : decode cX9_sheet 68 = .ok (.iload_n 1, 1) := by decide +kernel
theorem dX9_sheet_69 : decode cX9_sheet 69 = .ok (.iconst 0, 1) := by decide +kernel
theorem dX9_sheet_70 : decode cX9_sheet 70 = .ok (.iastore, 1) := by decide +kernel
theorem dX9_sheet_71 : decode cX9_sheet 71 = .ok (.aload_n 0, 1) := by decide +kernel
theorem dX9_sheet_72 : decode cX9_sheet 72 = .ok (.getfield 80, 3) := by decide +kernel
theorem dX9_sheet_75 : decode cX9_sheet 75 = .ok (.iload_n 1, 1) := by decide +kernel
theorem dX9_sheet_76 : decode cX9_sheet 76 = .ok (.iconst 0, 1) := by decide +kernel
theorem dX9_sheet_77 : decode cX9_sheet 77 = .ok (.iastore, 1) := by decide +kernel
theorem dX9_sheet_78 : decode cX9_sheet 78 = .ok (.iconst 0, 1) := by decide +kernel
theorem dX9_sheet_79 : decode cX9_sheet 79 = .ok (.ireturn, 1) := by decide +kernel
theorem dX9_sheet_80 : decode cX9_sheet 80 = .ok (.aload_n 0, 1) := by decide +kernel
theorem dX9_sheet_81 : decode cX9_sheet 81 = .ok (.getfield 77, 3) := by decide +kernel
theorem dX9_sheet_84 : decode cX9_sheet 84 = .ok (.iload_n 1, 1) := by decide +kernel
theorem dX9_sheet_85 : decode cX9_sheet 85 = .ok (.iload_n 2, 1) := by decide +kernel
theorem dX9_sheet_86 : decode cX9_sheet 86 = .ok (.iastore, 1) := by decide +kernel
theorem dX9_sheet_87 : decode cX9_sheet 87 = .ok (.aload_n 0, 1) := by decide +kernel
theorem dX9_sheet_88 : decode cX9_sheet 88 = .ok (.getfield 80, 3) := by decide +kernel
theorem dX9_sheet_91 : decode cX9_sheet 91 = .ok (.iload_n 1, 1) := by decide +kernel
theorem dX9_sheet_92 : decode cX9_sheet 92 = .ok (.iload_n 3, 1) := by decide +kernel
theorem dX9_sheet_93 : decode cX9_sheet 93 = .ok (.iastore, 1) := by decide +kernel
theorem dX9_sheet_94 : decode cX9_sheet 94 = .ok (.iconst 0, 1) := by decide +kernel
theorem dX9_sheet_95 : decode cX9_sheet 95 = .ok (.istore 4, 2) := by decide +kernel
theorem dX9_sheet_97 : decode cX9_sheet 97 = .ok (.iload 4, 2) := by decide +kernel
theorem dX9_sheet_99 : decode cX9_sheet 99 = .ok (.bipush 12, 2) := by decide +kernel
theorem dX9_sheet_101 : decode cX9_sheet 101 = .ok (.if_icmp .ge 22, 3) := by decide +kernel
theorem dX9_sheet_104 : decode cX9_sheet 104 = .ok (.aload_n 0, 1) := by decide +kernel
theorem dX9_sheet_105 : decode cX9_sheet 105 = .ok (.getfield 83, 3) := by decide +kernel
theorem dX9_sheet_108 : decode cX9_sheet 108 = .ok (.bipush 12, 2) := by decide +kernel
theorem dX9_sheet_110 : decode cX9_sheet 110 = .ok (.iload_n 1, 1) := by decide +kernel
theorem dX9_sheet_111 : decode cX9_sheet 111 = .ok (.imul, 1) := by decide +kernel
theorem dX9_sheet_112 : decode cX9_sheet 112 = .ok (.iload 4, 2) := by decide +kernel
theorem dX9_sheet_114 : decode cX9_sheet 114 = .ok (.iadd, 1) := by decide +kernel
theorem dX9_sheet_115 : decode cX9_sheet 115 = .ok (.iconst 0, 1) := by decide +kernel
theorem dX9_sheet_116 : decode cX9_sheet 116 = .ok (.iastore, 1) := by decide +kernel
theorem dX9_sheet_117 : decode cX9_sheet 117 = .ok (.iinc 4 1, 3) := by decide +kernel
theorem dX9_sheet_120 : decode cX9_sheet 120 = .ok (.goto (-23), 3) := by decide +kernel
theorem dX9_sheet_123 : decode cX9_sheet 123 = .ok (.iload_n 3, 1) := by decide +kernel
theorem dX9_sheet_124 : decode cX9_sheet 124 = .ok (.ireturn, 1) := by decide +kernel
theorem dX9_cut_0 : decode cX9_cut 0 = .ok (.iload_n 1, 1) := by decide +kernel
theorem dX9_cut_1 : decode cX9_cut 1 = .ok (.bipush 8, 2) := by decide +kernel
theorem dX9_cut_3 : decode cX9_cut 3 = .ok (.if_icmp .ne 8, 3) := by decide +kernel
theorem dX9_cut_6 : decode cX9_cut 6 = .ok (.iload_n 0, 1) := by decide +kernel
theorem dX9_cut_7 : decode cX9_cut 7 = .ok (.i2b, 1) := by decide +kernel
theorem dX9_cut_8 : decode cX9_cut 8 = .ok (.goto 15, 3) := by decide +kernel
theorem dX9_cut_11 : decode cX9_cut 11 = .ok (.iload_n 1, 1) := by decide +kernel
theorem dX9_cut_12 : decode cX9_cut 12 = .ok (.bipush 16, 2) := by decide +kernel
theorem dX9_cut_14 : decode cX9_cut 14 = .ok (.if_icmp .ne 8, 3) := by decide +kernel
theorem dX9_cut_17 : decode cX9_cut 17 = .ok (.iload_n 0, 1) := by decide +kernel
theorem dX9_cut_18 : decode cX9_cut 18 = .ok (.i2s, 1) := by decide +kernel
theorem dX9_cut_19 : decode cX9_cut 19 = .ok (.goto 4, 3) := by decide +kernel
theorem dX9_cut_22 : decode cX9_cut 22 = .ok (.iload_n 0, 1) := by decide +kernel
theorem dX9_cut_23 : decode cX9_cut 23 = .ok (.ireturn, 1) := by decide +kernel
theorem dX9_write_0 : decode cX9_write 0 = .ok (.iload_n 1, 1) := by decide +kernel
theorem dX9_write_1 : decode cX9_write 1 = .ok (.invokestatic 219, 3) := by decide +kernel
theorem dX9_write_4 : decode cX9_write 4 = .ok (.ifCond .ne 10, 3) := by decide +kernel
theorem dX9_write_7 : decode cX9_write 7 = .ok (.aload_n 0, 1) := by decide +kernel
theorem dX9_write_8 : decode cX9_write 8 = .ok (.ldc 144, 2) := by decide +kernel
theorem dX9_write_10 : decode cX9_write 10 = .ok (.invokevirtual 145, 3) := by decide +kernel
theorem dX9_write_13 : decode cX9_write 13 = .ok (.ireturn, 1) := by decide +kernel
theorem dX9_write_14 : decode cX9_write 14 = .ok (.aload_n 0, 1) := by decide +kernel
theorem dX9_write_15 : decode cX9_write 15 = .ok (.getfield 77, 3) := by decide +kernel
theorem dX9_write_18 : decode cX9_write 18 = .ok (.iload_n 1, 1) := by decide +kernel
theorem dX9_write_19 : decode cX9_write 19 = .ok (.iaload, 1) := by decide +kernel
theorem dX9_write_20 : decode cX9_write 20 = .ok (.ifCond .ne 10, 3) := by decide +kernel
theorem dX9_write_23 : decode cX9_write 23 = .ok (.aload_n 0, 1) := by decide +kernel
theorem dX9_write_24 : decode cX9_write 24 = .ok (.ldc 223, 2) := by decide +kernel
theorem dX9_write_26 : decode cX9_write 26 = .ok (.invokevirtual 145, 3) := by decide +kernel
theorem dX9_write_29 : decode cX9_write 29 = .ok (.ireturn, 1) := by decide +kernel
theorem dX9_write_30 : decode cX9_write 30 = .ok (.iload_n 2, 1) := by decide +kernel
theorem dX9_write_31 : decode cX9_write 31 = .ok (.iconst 0, 1) := by decide +kernel
theorem dX9_write_32 : decode cX9_write 32 = .ok (.aload_n 0, 1) := by decide +kernel
theorem dX9_write_33 : decode cX9_write 33 = .ok (.getfield 80, 3) := by decide +kernel
theorem dX9_write_36 : decode cX9_write 36 = .ok (.iload_n 1, 1) := by decide +kernel
theorem dX9_write_37 : decode cX9_write 37 = .ok (.iaload, 1) := by decide +kernel
theorem dX9_write_38 : decode cX9_write 38 = .ok (.iconst 1, 1) := by decide +kernel
theorem dX9_write_39 : decode cX9_write 39 = .ok (.isub, 1) := by decide +kernel
theorem dX9_write_40 : decode cX9_write 40 = .ok (.invokestatic 111, 3) := by decide +kernel
theorem dX9_write_43 : decode cX9_write 43 = .ok (.ifCond .ne 10, 3) := by decide +kernel
theorem dX9_write_46 : decode cX9_write 46 = .ok (.aload_n 0, 1) := by decide +kernel
theorem dX9_write_47 : decode cX9_write 47 = .ok (.ldc 144, 2) := by decide +kernel
theorem dX9_write_49 : decode cX9_write 49 = .ok (.invokevirtual 145, 3) := by decide +kernel
theorem dX9_write_52 : decode cX9_write 52 = .ok (.ireturn, 1) := by decide +kernel
theorem dX9_write_53 : decode cX9_write 53 = .ok (.aload_n 0, 1) := by decide +kernel
theorem dX9_write_54 : decode cX9_write 54 = .ok (.getfield 83, 3) := by decide +kernel
theorem dX9_write_57 : decode cX9_write 57 = .ok (.bipush 12, 2) := by decide +kernel
theorem dX9_write_59 : decode cX9_write 59 = .ok (.iload_n 1, 1) := by decide +kernel
theorem dX9_write_60 : decode cX9_write 60 = .ok (.imul, 1) := by decide +kernel
theorem dX9_write_61 : decode cX9_write 61 = .ok (.iload_n 2, 1) := by decide +kernel
theorem dX9_write_62 : decode cX9_write 62 = .ok (.iadd, 1) := by decide +kernel
theorem dX9_write_63 : decode cX9_write 63 = .ok (.iaload, 1) := by decide +kernel
theorem dX9_write_64 : decode cX9_write 64 = .ok (.istore 4, 2) := by decide +kernel
theorem dX9_write_66 : decode cX9_write 66 = .ok (.aload_n 0, 1) := by decide +kernel
theorem dX9_write_67 : decode cX9_write 67 = .ok (.getfield 83, 3) := by decide +kernel
theorem dX9_write_70 : decode cX9_write 70 = .ok (.bipush 12, 2) := by decide +kernel
theorem dX9_write_72 : decode cX9_write 72 = .ok (.iload_n 1, 1) := by decide +kernel
theorem dX9_write_73 : decode cX9_write 73 = .ok (.imul, 1) := by decide +kernel
theorem dX9_write_74 : decode cX9_write 74 = .ok (.iload_n 2, 1) := by decide +kernel
theorem dX9_write_75 : decode cX9_write 75 = .ok (.iadd, 1) := by decide +kernel
theorem dX9_write_76 : decode cX9_write 76 = .ok (.iload_n 3, 1) := by decide +kernel
theorem dX9_write_77 : decode cX9_write 77 = .ok (.aload_n 0, 1) := by decide +kernel
theorem dX9_write_78 : decode cX9_write 78 = .ok (.getfield 77, 3) := by decide +kernel
theorem dX9_write_81 : decode cX9_write 81 = .ok (.iload_n 1, 1) := by decide +kernel
theorem dX9_write_82 : decode cX9_write 82 = .ok (.iaload, 1) := by decide +kernel
theorem dX9_write_83 : decode cX9_write 83 = .ok (.invokestatic 224, 3) := by decide +kernel
theorem dX9_write_86 : decode cX9_write 86 = .ok (.iastore, 1) := by decide +kernel
theorem dX9_write_87 : decode cX9_write 87 = .ok (.iload 4, 2) := by decide +kernel
theorem dX9_write_89 : decode cX9_write 89 = .ok (.ireturn, 1) := by decide +kernel
theorem dX9_copy_0 : decode cX9_copy 0 = .ok (.iload_n 1, 1) := by decide +kernel
theorem dX9_copy_1 : decode cX9_copy 1 = .ok (.invokestatic 219, 3) := by decide +kernel
theorem dX9_copy_4 : decode cX9_copy 4 = .ok (.ifCond .eq 10, 3) := by decide +kernel
theorem dX9_copy_7 : decode cX9_copy 7 = .ok (.iload_n 3, 1) := by decide +kernel
theorem dX9_copy_8 : decode cX9_copy 8 = .ok (.invokestatic 219, 3) := by decide +kernel
theorem dX9_copy_11 : decode cX9_copy 11 = .ok (.ifCond .ne 10, 3) := by decide +kernel
theorem dX9_copy_14 : decode cX9_copy 14 = .ok (.aload_n 0, 1) := by decide +kernel
theorem dX9_copy_15 : decode cX9_copy 15 = .ok (.ldc 144, 2) := by decide +kernel
theorem dX9_copy_17 : decode cX9_copy 17 = .ok (.invokevirtual 145, 3) := by decide +kernel
theorem dX9_copy_20 : decode cX9_copy 20 = .ok (.ireturn, 1) := by decide +kernel
theorem dX9_copy_21 : decode cX9_copy 21 = .ok (.aload_n 0, 1) := by decide +kernel
theorem dX9_copy_22 : decode cX9_copy 22 = .ok (.getfield 77, 3) := by decide +kernel
theorem dX9_copy_25 : decode cX9_copy 25 = .ok (.iload_n 1, 1) := by decide +kernel
theorem dX9_copy_26 : decode cX9_copy 26 = .ok (.iaload, 1) := by decide +kernel
theorem dX9_copy_27 : decode cX9_copy 27 = .ok (.ifCond .eq 12, 3) := by decide +kernel
theorem dX9_copy_30 : decode cX9_copy 30 = .ok (.aload_n 0, 1) := by decide +kernel
theorem dX9_copy_31 : decode cX9_copy 31 = .ok (.getfield 77, 3) := by decide +kernel
theorem dX9_copy_34 : decode cX9_copy 34 = .ok (.iload_n 3, 1) := by decide +kernel
theorem dX9_copy_35 : decode cX9_copy 35 = .ok (.iaload, 1) := by decide +kernel
theorem dX9_copy_36 : decode cX9_copy 36 = .ok (.ifCond .ne 10, 3) := by decide +kernel
theorem dX9_copy_39 : decode cX9_copy 39 = .ok (.aload_n 0, 1) := by decide +kernel
theorem dX9_copy_40 : decode cX9_copy 40 = .ok (.ldc 223, 2) := by decide +kernel
theorem dX9_copy_42 : decode cX9_copy 42 = .ok (.invokevirtual 145, 3) := by decide +kernel
theorem dX9_copy_45 : decode cX9_copy 45 = .ok (.ireturn, 1) := by decide +kernel
theorem dX9_copy_46 : decode cX9_copy 46 = .ok (.aload_n 0, 1) := by decide +kernel
theorem dX9_copy_47 : decode cX9_copy 47 = .ok (.getfield 77, 3) := by decide +kernel
theorem dX9_copy_50 : decode cX9_copy 50 = .ok (.iload_n 1, 1) := by decide +kernel
theorem dX9_copy_51 : decode cX9_copy 51 = .ok (.iaload, 1) := by decide +kernel
theorem dX9_copy_52 : decode cX9_copy 52 = .ok (.aload_n 0, 1) := by decide +kernel
theorem dX9_copy_53 : decode cX9_copy 53 = .ok (.getfield 77, 3) := by decide +kernel
theorem dX9_copy_56 : decode cX9_copy 56 = .ok (.iload_n 3, 1) := by decide +kernel
theorem dX9_copy_57 : decode cX9_copy 57 = .ok (.iaload, 1) := by decide +kernel
theorem dX9_copy_58 : decode cX9_copy 58 = .ok (.if_icmp .eq 10, 3) := by decide +kernel
theorem dX9_copy_61 : decode cX9_copy 61 = .ok (.aload_n 0, 1) := by decide +kernel
theorem dX9_copy_62 : decode cX9_copy 62 = .ok (.ldc 162, 2) := by decide +kernel
theorem dX9_copy_64 : decode cX9_copy 64 = .ok (.invokevirtual 145, 3) := by decide +kernel
theorem dX9_copy_67 : decode cX9_copy 67 = .ok (.ireturn, 1) := by decide +kernel
theorem dX9_copy_68 : decode cX9_copy 68 = .ok (.iload_n 2, 1) := by decide +kernel
theorem dX9_copy_69 : decode cX9_copy 69 = .ok (.ifCond .lt 62, 3) := by decide +kernel
theorem dX9_copy_72 : decode cX9_copy 72 = .ok (.iload 4, 2) := by decide +kernel
theorem dX9_copy_74 : decode cX9_copy 74 = .ok (.ifCond .lt 57, 3) := by decide +kernel
theorem dX9_copy_77 : decode cX9_copy 77 = .ok (.iload 5, 2) := by decide +kernel
theorem dX9_copy_79 : decode cX9_copy 79 = .ok (.ifCond .lt 52, 3) := by decide +kernel
theorem dX9_copy_82 : decode cX9_copy 82 = .ok (.iload 5, 2) := by decide +kernel
theorem dX9_copy_84 : decode cX9_copy 84 = .ok (.aload_n 0, 1) := by decide +kernel
theorem dX9_copy_85 : decode cX9_copy 85 = .ok (.getfield 80, 3) := by decide +kernel
theorem dX9_copy_88 : decode cX9_copy 88 = .ok (.iload_n 1, 1) := by decide +kernel
theorem dX9_copy_89 : decode cX9_copy 89 = .ok (.iaload, 1) := by decide +kernel
theorem dX9_copy_90 : decode cX9_copy 90 = .ok (.if_icmp .gt 41, 3) := by decide +kernel
theorem dX9_copy_93 : decode cX9_copy 93 = .ok (.iload_n 2, 1) := by decide +kernel
theorem dX9_copy_94 : decode cX9_copy 94 = .ok (.aload_n 0, 1) := by decide +kernel
theorem dX9_copy_95 : decode cX9_copy 95 = .ok (.getfield 80, 3) := by decide +kernel
theorem dX9_copy_98 : decode cX9_copy 98 = .ok (.iload_n 1, 1) := by decide +kernel
theorem dX9_copy_99 : decode cX9_copy 99 = .ok (.iaload, 1) := by decide +kernel
theorem dX9_copy_100 : decode cX9_copy 100 = .ok (.iload 5, 2) := by decide +kernel
theorem dX9_copy_102 : decode cX9_copy 102 = .ok (.isub, 1) := by decide +kernel
theorem dX9_copy_103 : decode cX9_copy 103 = .ok (.if_icmp .gt 28, 3) := by decide +kernel
theorem dX9_copy_106 : decode cX9_copy 106 = .ok (.iload 5, 2) := by decide +kernel
theorem dX9_copy_108 : decode cX9_copy 108 = .ok (.aload_n 0, 1) := by decide +kernel
theorem dX9_copy_109 : decode cX9_copy 109 = .ok (.getfield 80, 3) := by decide +kernel
theorem dX9_copy_112 : decode cX9_copy 112 = .ok (.iload_n 3, 1) := by decide +kernel
theorem dX9_copy_113 : decode cX9_copy 113 = .ok (.iaload, 1) := by decide +kernel
theorem dX9_copy_114 : decode cX9_copy 114 = .ok (.if_icmp .gt 17, 3) := by decide +kernel
theorem dX9_copy_117 : decode cX9_copy 117 = .ok (.iload 4, 2) := by decide +kernel
theorem dX9_copy_119 : decode cX9_copy 119 = .ok (.aload_n 0, 1) := by decide +kernel
theorem dX9_copy_120 : decode cX9_copy 120 = .ok (.getfield 80, 3) := by decide +kernel
theorem dX9_copy_123 : decode cX9_copy 123 = .ok (.iload_n 3, 1) := by decide +kernel
theorem dX9_copy_124 : decode cX9_copy 124 = .ok (.iaload, 1) := by decide +kernel
theorem dX9_copy_125 : decode cX9_copy 125 = .ok (.iload 5, 2) := by decide +kernel
theorem dX9_copy_127 : decode cX9_copy 127 = .ok (.isub, 1) := by decide +kernel
theorem dX9_copy_128 : decode cX9_copy 128 = .ok (.if_icmp .le 10, 3) := by decide +kernel
theorem dX9_copy_131 : decode cX9_copy 131 = .ok (.aload_n 0, 1) := by decide +kernel
theorem dX9_copy_132 : decode cX9_copy 132 = .ok (.ldc 144, 2) := by decide +kernel
theorem dX9_copy_134 : decode cX9_copy 134 = .ok (.invokevirtual 145, 3) := by decide +kernel
theorem dX9_copy_137 : decode cX9_copy 137 = .ok (.ireturn, 1) := by decide +kernel
theorem dX9_copy_138 : decode cX9_copy 138 = .ok (.iconst 0, 1) := by decide +kernel
theorem dX9_copy_139 : decode cX9_copy 139 = .ok (.istore 6, 2) := by decide +kernel
theorem dX9_copy_141 : decode cX9_copy 141 = .ok (.iload 6, 2) := by decide +kernel
theorem dX9_copy_143 : decode cX9_copy 143 = .ok (.iload 5, 2) := by decide +kernel
theorem dX9_copy_145 : decode cX9_copy 145 = .ok (.if_icmp .ge 30, 3) := by decide +kernel
theorem dX9_copy_148 : decode cX9_copy 148 = .ok (.aload_n 0, 1) := by decide +kernel
theorem dX9_copy_149 : decode cX9_copy 149 = .ok (.getfield 104, 3) := by decide +kernel
theorem dX9_copy_152 : decode cX9_copy 152 = .ok (.iload 6, 2) := by decide +kernel
theorem dX9_copy_154 : decode cX9_copy 154 = .ok (.aload_n 0, 1) := by decide +kernel
theorem dX9_copy_155 : decode cX9_copy 155 = .ok (.getfield 83, 3) := by decide +kernel
theorem dX9_copy_158 : decode cX9_copy 158 = .ok (.bipush 12, 2) := by decide +kernel
theorem dX9_copy_160 : decode cX9_copy 160 = .ok (.iload_n 1, 1) := by decide +kernel
theorem dX9_copy_161 : decode cX9_copy 161 = .ok (.imul, 1) := by decide +kernel
theorem dX9_copy_162 : decode cX9_copy 162 = .ok (.iload_n 2, 1) := by decide +kernel
theorem dX9_copy_163 : decode cX9_copy 163 = .ok (.iadd, 1) := by decide +kernel
theorem dX9_copy_164 : decode cX9_copy 164 = .ok (.iload 6, 2) := by decide +kernel
theorem dX9_copy_166 : decode cX9_copy 166 = .ok (.iadd, 1) := by decide +kernel
theorem dX9_copy_167 : decode cX9_copy 167 = .ok (.iaload, 1) := by decide +kernel
theorem dX9_copy_168 : decode cX9_copy 168 = .ok (.iastore, 1) := by decide +kernel
theorem dX9_copy_169 : decode cX9_copy 169 = .ok (.iinc 6 1, 3) := by decide +kernel
theorem dX9_copy_172 : decode cX9_copy 172 = .ok (.goto (-31), 3) := by decide +kernel
theorem dX9_copy_175 : decode cX9_copy 175 = .ok (.iconst 0, 1) := by decide +kernel
theorem dX9_copy_176 : decode cX9_copy 176 = .ok (.istore 6, 2) := by decide +kernel
theorem dX9_copy_178 : decode cX9_copy 178 = .ok (.iload 6, 2) := by decide +kernel
theorem dX9_copy_180 : decode cX9_copy 180 = .ok (.iload 5, 2) := by decide +kernel
theorem dX9_copy_182 : decode cX9_copy 182 = .ok (.if_icmp .ge 31, 3) := by decide +kernel
theorem dX9_copy_185 : decode cX9_copy 185 = .ok (.aload_n 0, 1) := by decide +kernel
theorem dX9_copy_186 : decode cX9_copy 186 = .ok (.getfield 83, 3) := by decide +kernel
theorem dX9_copy_189 : decode cX9_copy 189 = .ok (.bipush 12, 2) := by decide +kernel
theorem dX9_copy_191 : decode cX9_copy 191 = .ok (.iload_n 3, 1) := by decide +kernel
theorem dX9_copy_192 : decode cX9_copy 192 = .ok (.imul, 1) := by decide +kernel
theorem dX9_copy_193 : decode cX9_copy 193 = .ok (.iload 4, 2) := by decide +kernel
theorem dX9_copy_195 : decode cX9_copy 195 = .ok (.iadd, 1) := by decide +kernel
theorem dX9_copy_196 : decode cX9_copy 196 = .ok (.iload 6, 2) := by decide +kernel
theorem dX9_copy_198 : decode cX9_copy 198 = .ok (.iadd, 1) := by decide +kernel
theorem dX9_copy_199 : decode cX9_copy 199 = .ok (.aload_n 0, 1) := by decide +kernel
theorem dX9_copy_200 : decode cX9_copy 200 = .ok (.getfield 104, 3) := by decide +kernel
theorem dX9_copy_203 : decode cX9_copy 203 = .ok (.iload 6, 2) := by decide +kernel
theorem dX9_copy_205 : decode cX9_copy 205 = .ok (.iaload, 1) := by decide +kernel
theorem dX9_copy_206 : decode cX9_copy 206 = .ok (.iastore, 1) := by decide +kernel
theorem dX9_copy_207 : decode cX9_copy 207 = .ok (.iinc 6 1, 3) := by decide +kernel
theorem dX9_copy_210 : decode cX9_copy 210 = .ok (.goto (-32), 3) := by decide +kernel
theorem dX9_copy_213 : decode cX9_copy 213 = .ok (.iload 5, 2) := by decide +kernel
theorem dX9_copy_215 : decode cX9_copy 215 = .ok (.ireturn, 1) := by decide +kernel
theorem dX9_read_0 : decode cX9_read 0 = .ok (.iload_n 1, 1) := by decide +kernel
theorem dX9_read_1 : decode cX9_read 1 = .ok (.invokestatic 219, 3) := by decide +kernel
theorem dX9_read_4 : decode cX9_read 4 = .ok (.ifCond .eq 25, 3) := by decide +kernel
theorem dX9_read_7 : decode cX9_read 7 = .ok (.iload_n 2, 1) := by decide +kernel
theorem dX9_read_8 : decode cX9_read 8 = .ok (.invokestatic 133, 3) := by decide +kernel
theorem dX9_read_11 : decode cX9_read 11 = .ok (.ifCond .eq 18, 3) := by decide +kernel
theorem dX9_read_14 : decode cX9_read 14 = .ok (.iload_n 3, 1) := by decide +kernel
theorem dX9_read_15 : decode cX9_read 15 = .ok (.invokestatic 137, 3) := by decide +kernel
theorem dX9_read_18 : decode cX9_read 18 = .ok (.ifCond .eq 11, 3) := by decide +kernel
theorem dX9_read_21 : decode cX9_read 21 = .ok (.iload_n 3, 1) := by decide +kernel
theorem dX9_read_22 : decode cX9_read 22 = .ok (.aload_n 0, 1) := by decide +kernel
theorem dX9_read_23 : decode cX9_read 23 = .ok (.invokevirtual 140, 3) := by decide +kernel
theorem dX9_read_26 : decode cX9_read 26 = .ok (.if_icmp .ge 10, 3) := by decide +kernel
theorem dX9_read_29 : decode cX9_read 29 = .ok (.aload_n 0, 1) := by decide +kernel
theorem dX9_read_30 : decode cX9_read 30 = .ok (.ldc 144, 2) := by decide +kernel
theorem dX9_read_32 : decode cX9_read 32 = .ok (.invokevirtual 145, 3) := by decide +kernel
theorem dX9_read_35 : decode cX9_read 35 = .ok (.ireturn, 1) := by decide +kernel
theorem dX9_read_36 : decode cX9_read 36 = .ok (.aload_n 0, 1) := by decide +kernel
theorem dX9_read_37 : decode cX9_read 37 = .ok (.getfield 77, 3) := by decide +kernel
theorem dX9_read_40 : decode cX9_read 40 = .ok (.iload_n 1, 1) := by decide +kernel
theorem dX9_read_41 : decode cX9_read 41 = .ok (.iaload, 1) := by decide +kernel
theorem dX9_read_42 : decode cX9_read 42 = .ok (.ifCond .ne 10, 3) := by decide +kernel
theorem dX9_read_45 : decode cX9_read 45 = .ok (.aload_n 0, 1) := by decide +kernel
theorem dX9_read_46 : decode cX9_read 46 = .ok (.ldc 223, 2) := by decide +kernel
theorem dX9_read_48 : decode cX9_read 48 = .ok (.invokevirtual 145, 3) := by decide +kernel
theorem dX9_read_51 : decode cX9_read 51 = .ok (.ireturn, 1) := by decide +kernel
theorem dX9_read_52 : decode cX9_read 52 = .ok (.iconst 0, 1) := by decide +kernel
theorem dX9_read_53 : decode cX9_read 53 = .ok (.istore 4, 2) := by decide +kernel
theorem dX9_read_55 : decode cX9_read 55 = .ok (.iload 4, 2) := by decide +kernel
theorem dX9_read_57 : decode cX9_read 57 = .ok (.aload_n 0, 1) := by decide +kernel
theorem dX9_read_58 : decode cX9_read 58 = .ok (.getfield 80, 3) := by decide +kernel
theorem dX9_read_61 : decode cX9_read 61 = .ok (.iload_n 1, 1) := by decide +kernel
theorem dX9_read_62 : decode cX9_read 62 = .ok (.iaload, 1) := by decide +kernel
theorem dX9_read_63 : decode cX9_read 63 = .ok (.if_icmp .ge 38, 3) := by decide +kernel
theorem dX9_read_66 : decode cX9_read 66 = .ok (.aload_n 0, 1) := by decide +kernel
theorem dX9_read_67 : decode cX9_read 67 = .ok (.getfield 83, 3) := by decide +kernel
theorem dX9_read_70 : decode cX9_read 70 = .ok (.bipush 12, 2) := by decide +kernel
theorem dX9_read_72 : decode cX9_read 72 = .ok (.iload_n 1, 1) := by decide +kernel
theorem dX9_read_73 : decode cX9_read 73 = .ok (.imul, 1) := by decide +kernel
theorem dX9_read_74 : decode cX9_read 74 = .ok (.iload 4, 2) := by decide +kernel
theorem dX9_read_76 : decode cX9_read 76 = .ok (.iadd, 1) := by decide +kernel
theorem dX9_read_77 : decode cX9_read 77 = .ok (.iaload, 1) := by decide +kernel
theorem dX9_read_78 : decode cX9_read 78 = .ok (.iconst 0, 1) := by decide +kernel
theorem dX9_read_79 : decode cX9_read 79 = .ok (.sipush 1023, 3) := by decide +kernel
theorem dX9_read_82 : decode cX9_read 82 = .ok (.invokestatic 111, 3) := by decide +kernel
theorem dX9_read_85 : decode cX9_read 85 = .ok (.ifCond .ne 10, 3) := by decide +kernel
theorem dX9_read_88 : decode cX9_read 88 = .ok (.aload_n 0, 1) := by decide +kernel
theorem dX9_read_89 : decode cX9_read 89 = .ok (.ldc 144, 2) := by decide +kernel
theorem dX9_read_91 : decode cX9_read 91 = .ok (.invokevirtual 145, 3) := by decide +kernel
theorem dX9_read_94 : decode cX9_read 94 = .ok (.ireturn, 1) := by decide +kernel
theorem dX9_read_95 : decode cX9_read 95 = .ok (.iinc 4 1, 3) := by decide +kernel
theorem dX9_read_98 : decode cX9_read 98 = .ok (.goto (-43), 3) := by decide +kernel
theorem dX9_read_101 : decode cX9_read 101 = .ok (.aload_n 0, 1) := by decide +kernel
theorem dX9_read_102 : decode cX9_read 102 = .ok (.getfield 115, 3) := by decide +kernel
theorem dX9_read_105 : decode cX9_read 105 = .ok (.aload_n 0, 1) := by decide +kernel
theorem dX9_read_106 : decode cX9_read 106 = .ok (.getfield 80, 3) := by decide +kernel
theorem dX9_read_109 : decode cX9_read 109 = .ok (.iload_n 1, 1) := by decide +kernel
theorem dX9_read_110 : decode cX9_read 110 = .ok (.iaload, 1) := by decide +kernel
theorem dX9_read_111 : decode cX9_read 111 = .ok (.iadd, 1) := by decide +kernel
theorem dX9_read_112 : decode cX9_read 112 = .ok (.bipush 40, 2) := by decide +kernel
theorem dX9_read_114 : decode cX9_read 114 = .ok (.if_icmp .le 10, 3) := by decide +kernel
theorem dX9_read_117 : decode cX9_read 117 = .ok (.aload_n 0, 1) := by decide +kernel
theorem dX9_read_118 : decode cX9_read 118 = .ok (.ldc 148, 2) := by decide +kernel
theorem dX9_read_120 : decode cX9_read 120 = .ok (.invokevirtual 145, 3) := by decide +kernel
theorem dX9_read_123 : decode cX9_read 123 = .ok (.ireturn, 1) := by decide +kernel
theorem dX9_read_124 : decode cX9_read 124 = .ok (.iconst 0, 1) := by decide +kernel
theorem dX9_read_125 : decode cX9_read 125 = .ok (.istore 4, 2) := by decide +kernel
theorem dX9_read_127 : decode cX9_read 127 = .ok (.iload 4, 2) := by decide +kernel
theorem dX9_read_129 : decode cX9_read 129 = .ok (.aload_n 0, 1) := by decide +kernel
theorem dX9_read_130 : decode cX9_read 130 = .ok (.getfield 80, 3) := by decide +kernel
theorem dX9_read_133 : decode cX9_read 133 = .ok (.iload_n 1, 1) := by decide +kernel
theorem dX9_read_134 : decode cX9_read 134 = .ok (.iaload, 1) := by decide +kernel
theorem dX9_read_135 : decode cX9_read 135 = .ok (.if_icmp .ge 48, 3) := by decide +kernel
theorem dX9_read_138 : decode cX9_read 138 = .ok (.aload_n 0, 1) := by decide +kernel
theorem dX9_read_139 : decode cX9_read 139 = .ok (.iload_n 2, 1) := by decide +kernel
theorem dX9_read_140 : decode cX9_read 140 = .ok (.aload_n 0, 1) := by decide +kernel
theorem dX9_read_141 : decode cX9_read 141 = .ok (.getfield 83, 3) := by decide +kernel
theorem dX9_read_144 : decode cX9_read 144 = .ok (.bipush 12, 2) := by decide +kernel
theorem dX9_read_146 : decode cX9_read 146 = .ok (.iload_n 1, 1) := by decide +kernel
theorem dX9_read_147 : decode cX9_read 147 = .ok (.imul, 1) := by decide +kernel
theorem dX9_read_148 : decode cX9_read 148 = .ok (.iload 4, 2) := by decide +kernel
theorem dX9_read_150 : decode cX9_read 150 = .ok (.iadd, 1) := by decide +kernel
theorem dX9_read_151 : decode cX9_read 151 = .ok (.iaload, 1) := by decide +kernel
theorem dX9_read_152 : decode cX9_read 152 = .ok (.bipush 32, 2) := by decide +kernel
theorem dX9_read_154 : decode cX9_read 154 = .ok (.idiv, 1) := by decide +kernel
theorem dX9_read_155 : decode cX9_read 155 = .ok (.aload_n 0, 1) := by decide +kernel
theorem dX9_read_156 : decode cX9_read 156 = .ok (.getfield 83, 3) := by decide +kernel
theorem dX9_read_159 : decode cX9_read 159 = .ok (.bipush 12, 2) := by decide +kernel
theorem dX9_read_161 : decode cX9_read 161 = .ok (.iload_n 1, 1) := by decide +kernel
theorem dX9_read_162 : decode cX9_read 162 = .ok (.imul, 1) := by decide +kernel
theorem dX9_read_163 : decode cX9_read 163 = .ok (.iload 4, 2) := by decide +kernel
theorem dX9_read_165 : decode cX9_read 165 = .ok (.iadd, 1) := by decide +kernel
theorem dX9_read_166 : decode cX9_read 166 = .ok (.iaload, 1) := by decide +kernel
theorem dX9_read_167 : decode cX9_read 167 = .ok (.bipush 32, 2) := by decide +kernel
theorem dX9_read_169 : decode cX9_read 169 = .ok (.irem, 1) := by decide +kernel
theorem dX9_read_170 : decode cX9_read 170 = .ok (.iconst 0, 1) := by decide +kernel
theorem dX9_read_171 : decode cX9_read 171 = .ok (.iload_n 3, 1) := by decide +kernel
theorem dX9_read_172 : decode cX9_read 172 = .ok (.invokevirtual 149, 3) := by decide +kernel
theorem dX9_read_175 : decode cX9_read 175 = .ok (.istore 5, 2) := by decide +kernel
theorem dX9_read_177 : decode cX9_read 177 = .ok (.iinc 4 1, 3) := by decide +kernel
theorem dX9_read_180 : decode cX9_read 180 = .ok (.goto (-53), 3) := by decide +kernel
theorem dX9_read_183 : decode cX9_read 183 = .ok (.aload_n 0, 1) := by decide +kernel
theorem dX9_read_184 : decode cX9_read 184 = .ok (.getfield 115, 3) := by decide +kernel
theorem dX9_read_187 : decode cX9_read 187 = .ok (.ireturn, 1) := by decide +kernel
theorem dX9_openMany_0 : decode cX9_openMany 0 = .ok (.iconst 0, 1) := by decide +kernel
theorem dX9_openMany_1 : decode cX9_openMany 1 = .ok (.istore_n 1, 1) := by decide +kernel
theorem dX9_openMany_2 : decode cX9_openMany 2 = .ok (.iconst 0, 1) := by decide +kernel
theorem dX9_openMany_3 : decode cX9_openMany 3 = .ok (.istore_n 2, 1) := by decide +kernel
theorem dX9_openMany_4 : decode cX9_openMany 4 = .ok (.iload_n 2, 1) := by decide +kernel
theorem dX9_openMany_5 : decode cX9_openMany 5 = .ok (.aload_n 0, 1) := by decide +kernel
theorem dX9_openMany_6 : decode cX9_openMany 6 = .ok (.getfield 118, 3) := by decide +kernel
theorem dX9_openMany_9 : decode cX9_openMany 9 = .ok (.if_icmp .ge 26, 3) := by decide +kernel
theorem dX9_openMany_12 : decode cX9_openMany 12 = .ok (.iload_n 1, 1) := by decide +kernel
theorem dX9_openMany_13 : decode cX9_openMany 13 = .ok (.aload_n 0, 1) := by decide +kernel
theorem dX9_openMany_14 : decode cX9_openMany 14 = .ok (.getfield 37, 3) := by decide +kernel
theorem dX9_openMany_17 : decode cX9_openMany 17 = .ok (.iload_n 2, 1) := by decide +kernel
theorem dX9_openMany_18 : decode cX9_openMany 18 = .ok (.baload, 1) := by decide +kernel
theorem dX9_openMany_19 : decode cX9_openMany 19 = .ok (.ifCond .eq 7, 3) := by decide +kernel
theorem dX9_openMany_22 : decode cX9_openMany 22 = .ok (.iconst 1, 1) := by decide +kernel
theorem dX9_openMany_23 : decode cX9_openMany 23 = .ok (.goto 4, 3) := by decide +kernel
theorem dX9_openMany_26 : decode cX9_openMany 26 = .ok (.iconst 0, 1) := by decide +kernel
theorem dX9_openMany_27 : decode cX9_openMany 27 = .ok (.iadd, 1) := by decide +kernel
theorem dX9_openMany_28 : decode cX9_openMany 28 = .ok (.istore_n 1, 1) := by decide +kernel
theorem dX9_openMany_29 : decode cX9_openMany 29 = .ok (.iinc 2 1, 3) := by decide +kernel
theorem dX9_openMany_32 : decode cX9_openMany 32 = .ok (.goto (-28), 3) := by decide +kernel
theorem dX9_openMany_35 : decode cX9_openMany 35 = .ok (.iload_n 1, 1) := by decide +kernel
theorem dX9_openMany_36 : decode cX9_openMany 36 = .ok (.ireturn, 1) := by decide +kernel
theorem dX9_allClosings_0 : decode cX9_allClosings 0 = .ok (.iconst 0, 1) := by decide +kernel
theorem dX9_allClosings_1 : decode cX9_allClosings 1 = .ok (.istore_n 1, 1) := by decide +kernel
theorem dX9_allClosings_2 : decode cX9_allClosings 2 = .ok (.iconst 0, 1) := by decide +kernel
theorem dX9_allClosings_3 : decode cX9_allClosings 3 = .ok (.istore_n 2, 1) := by decide +kernel
theorem dX9_allClosings_4 : decode cX9_allClosings 4 = .ok (.iload_n 2, 1) := by decide +kernel
theorem dX9_allClosings_5 : decode cX9_allClosings 5 = .ok (.bipush 6, 2) := by decide +kernel
theorem dX9_allClosings_7 : decode cX9_allClosings 7 = .ok (.if_icmp .ge 18, 3) := by decide +kernel
theorem dX9_allClosings_10 : decode cX9_allClosings 10 = .ok (.iload_n 1, 1) := by decide +kernel
theorem dX9_allClosings_11 : decode cX9_allClosings 11 = .ok (.aload_n 0, 1) := by decide +kernel
theorem dX9_allClosings_12 : decode cX9_allClosings 12 = .ok (.getfield 62, 3) := by decide +kernel
theorem dX9_allClosings_15 : decode cX9_allClosings 15 = .ok (.iload_n 2, 1) := by decide +kernel
theorem dX9_allClosings_16 : decode cX9_allClosings 16 = .ok (.iaload, 1) := by decide +kernel
theorem dX9_allClosings_17 : decode cX9_allClosings 17 = .ok (.iadd, 1) := by decide +kernel
theorem dX9_allClosings_18 : decode cX9_allClosings 18 = .ok (.istore_n 1, 1) := by decide +kernel
theorem dX9_allClosings_19 : decode cX9_allClosings 19 = .ok (.iinc 2 1, 3) := by decide +kernel
theorem dX9_allClosings_22 : decode cX9_allClosings 22 = .ok (.goto (-18), 3) := by decide +kernel
theorem dX9_allClosings_25 : decode cX9_allClosings 25 = .ok (.iload_n 1, 1) := by decide +kernel
theorem dX9_allClosings_26 : decode cX9_allClosings 26 = .ok (.ireturn, 1) := by decide +kernel
theorem dX9_told_0 : decode cX9_told 0 = .ok (.iload_n 1, 1) := by decide +kernel
theorem dX9_told_1 : decode cX9_told 1 = .ok (.tableswitch 87 0 7 #[47, 52, 57, 62, 67, 72, 77, 82], 47) := by decide +kernel
theorem dX9_told_48 : decode cX9_told 48 = .ok (.aload_n 0, 1) := by decide +kernel
theorem dX9_told_49 : decode cX9_told 49 = .ok (.getfield 115, 3) := by decide +kernel
theorem dX9_told_52 : decode cX9_told 52 = .ok (.ireturn, 1) := by decide +kernel
theorem dX9_told_53 : decode cX9_told 53 = .ok (.aload_n 0, 1) := by decide +kernel
theorem dX9_told_54 : decode cX9_told 54 = .ok (.getfield 118, 3) := by decide +kernel
theorem dX9_told_57 : decode cX9_told 57 = .ok (.ireturn, 1) := by decide +kernel
theorem dX9_told_58 : decode cX9_told 58 = .ok (.aload_n 0, 1) := by decide +kernel
theorem dX9_told_59 : decode cX9_told 59 = .ok (.invokevirtual 227, 3) := by decide +kernel
theorem dX9_told_62 : decode cX9_told 62 = .ok (.ireturn, 1) := by decide +kernel
theorem dX9_told_63 : decode cX9_told 63 = .ok (.aload_n 0, 1) := by decide +kernel
theorem dX9_told_64 : decode cX9_told 64 = .ok (.getfield 179, 3) := by decide +kernel
theorem dX9_told_67 : decode cX9_told 67 = .ok (.ireturn, 1) := by decide +kernel
theorem dX9_told_68 : decode cX9_told 68 = .ok (.aload_n 0, 1) := by decide +kernel
theorem dX9_told_69 : decode cX9_told 69 = .ok (.getfield 170, 3) := by decide +kernel
theorem dX9_told_72 : decode cX9_told 72 = .ok (.ireturn, 1) := by decide +kernel
theorem dX9_told_73 : decode cX9_told 73 = .ok (.aload_n 0, 1) := by decide +kernel
theorem dX9_told_74 : decode cX9_told 74 = .ok (.invokevirtual 230, 3) := by decide +kernel
theorem dX9_told_77 : decode cX9_told 77 = .ok (.ireturn, 1) := by decide +kernel
theorem dX9_told_78 : decode cX9_told 78 = .ok (.aload_n 0, 1) := by decide +kernel
theorem dX9_told_79 : decode cX9_told 79 = .ok (.invokevirtual 140, 3) := by decide +kernel
theorem dX9_told_82 : decode cX9_told 82 = .ok (.ireturn, 1) := by decide +kernel
theorem dX9_told_83 : decode cX9_told 83 = .ok (.aload_n 0, 1) := by decide +kernel
theorem dX9_told_84 : decode cX9_told 84 = .ok (.getfield 107, 3) := by decide +kernel
theorem dX9_told_87 : decode cX9_told 87 = .ok (.ireturn, 1) := by decide +kernel
theorem dX9_told_88 : decode cX9_told 88 = .ok (.aload_n 0, 1) := by decide +kernel
theorem dX9_told_89 : decode cX9_told 89 = .ok (.ldc 144, 2) := by decide +kernel
theorem dX9_told_91 : decode cX9_told 91 = .ok (.invokevirtual 145, 3) := by decide +kernel
theorem dX9_told_94 : decode cX9_told 94 = .ok (.ireturn, 1) := by decide +kernel
