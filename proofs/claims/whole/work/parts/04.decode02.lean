theorem dX3_placeScripts_227 : decode cX3_placeScripts 227 = .ok (.aload_n 0, 1) := by decide +kernel
theorem dX3_placeScripts_228 : decode cX3_placeScripts 228 = .ok (.getfield 12, 3) := by decide +kernel
theorem dX3_placeScripts_231 : decode cX3_placeScripts 231 = .ok (.iload 6, 2) := by decide +kernel
theorem dX3_placeScripts_233 : decode cX3_placeScripts 233 = .ok (.invokevirtual 153, 3) := by decide +kernel
theorem dX3_placeScripts_236 : decode cX3_placeScripts 236 = .ok (.invokestatic 156, 3) := by decide +kernel
theorem dX3_placeScripts_239 : decode cX3_placeScripts 239 = .ok (.iadd, 1) := by decide +kernel
theorem dX3_placeScripts_240 : decode cX3_placeScripts 240 = .ok (.iload_n 2, 1) := by decide +kernel
theorem dX3_placeScripts_241 : decode cX3_placeScripts 241 = .ok (.iconst 2, 1) := by decide +kernel
theorem dX3_placeScripts_242 : decode cX3_placeScripts 242 = .ok (.idiv, 1) := by decide +kernel
theorem dX3_placeScripts_243 : decode cX3_placeScripts 243 = .ok (.iadd, 1) := by decide +kernel
theorem dX3_placeScripts_244 : decode cX3_placeScripts 244 = .ok (.iastore, 1) := by decide +kernel
theorem dX3_placeScripts_245 : decode cX3_placeScripts 245 = .ok (.return_, 1) := by decide +kernel
theorem dX3_place_0 : decode cX3_place 0 = .ok (.iload_n 2, 1) := by decide +kernel
theorem dX3_place_1 : decode cX3_place 1 = .ok (.iconst (-1), 1) := by decide +kernel
theorem dX3_place_2 : decode cX3_place 2 = .ok (.if_icmp .ne 4, 3) := by decide +kernel
theorem dX3_place_5 : decode cX3_place 5 = .ok (.return_, 1) := by decide +kernel
theorem dX3_place_6 : decode cX3_place 6 = .ok (.aload_n 0, 1) := by decide +kernel
theorem dX3_place_7 : decode cX3_place 7 = .ok (.getfield 21, 3) := by decide +kernel
theorem dX3_place_10 : decode cX3_place 10 = .ok (.aload_n 0, 1) := by decide +kernel
theorem dX3_place_11 : decode cX3_place 11 = .ok (.getfield 12, 3) := by decide +kernel
theorem dX3_place_14 : decode cX3_place 14 = .ok (.getfield 99, 3) := by decide +kernel
theorem dX3_place_17 : decode cX3_place 17 = .ok (.iload_n 2, 1) := by decide +kernel
theorem dX3_place_18 : decode cX3_place 18 = .ok (.iaload, 1) := by decide +kernel
theorem dX3_place_19 : decode cX3_place 19 = .ok (.aload_n 0, 1) := by decide +kernel
theorem dX3_place_20 : decode cX3_place 20 = .ok (.getfield 12, 3) := by decide +kernel
theorem dX3_place_23 : decode cX3_place 23 = .ok (.getfield 93, 3) := by decide +kernel
theorem dX3_place_26 : decode cX3_place 26 = .ok (.iload_n 2, 1) := by decide +kernel
theorem dX3_place_27 : decode cX3_place 27 = .ok (.iaload, 1) := by decide +kernel
theorem dX3_place_28 : decode cX3_place 28 = .ok (.iload_n 3, 1) := by decide +kernel
theorem dX3_place_29 : decode cX3_place 29 = .ok (.iload 4, 2) := by decide +kernel
theorem dX3_place_31 : decode cX3_place 31 = .ok (.invokevirtual 102, 3) := by decide +kernel
theorem dX3_place_34 : decode cX3_place 34 = .ok (.aload_n 0, 1) := by decide +kernel
theorem dX3_place_35 : decode cX3_place 35 = .ok (.getfield 12, 3) := by decide +kernel
theorem dX3_place_38 : decode cX3_place 38 = .ok (.iload_n 1, 1) := by decide +kernel
theorem dX3_place_39 : decode cX3_place 39 = .ok (.iload 4, 2) := by decide +kernel
theorem dX3_place_41 : decode cX3_place 41 = .ok (.aload_n 0, 1) := by decide +kernel
theorem dX3_place_42 : decode cX3_place 42 = .ok (.getfield 12, 3) := by decide +kernel
theorem dX3_place_45 : decode cX3_place 45 = .ok (.getfield 49, 3) := by decide +kernel
theorem dX3_place_48 : decode cX3_place 48 = .ok (.iload_n 2, 1) := by decide +kernel
theorem dX3_place_49 : decode cX3_place 49 = .ok (.iaload, 1) := by decide +kernel
theorem dX3_place_50 : decode cX3_place 50 = .ok (.aload_n 0, 1) := by decide +kernel
theorem dX3_place_51 : decode cX3_place 51 = .ok (.getfield 12, 3) := by decide +kernel
theorem dX3_place_54 : decode cX3_place 54 = .ok (.getfield 51, 3) := by decide +kernel
theorem dX3_place_57 : decode cX3_place 57 = .ok (.iload_n 2, 1) := by decide +kernel
theorem dX3_place_58 : decode cX3_place 58 = .ok (.iaload, 1) := by decide +kernel
theorem dX3_place_59 : decode cX3_place 59 = .ok (.invokevirtual 106, 3) := by decide +kernel
theorem dX3_place_62 : decode cX3_place 62 = .ok (.return_, 1) := by decide +kernel
theorem dX3_layFraction_0 : decode cX3_layFraction 0 = .ok (.aload_n 0, 1) := by decide +kernel
theorem dX3_layFraction_1 : decode cX3_layFraction 1 = .ok (.getfield 35, 3) := by decide +kernel
theorem dX3_layFraction_4 : decode cX3_layFraction 4 = .ok (.getfield 68, 3) := by decide +kernel
theorem dX3_layFraction_7 : decode cX3_layFraction 7 = .ok (.iload_n 1, 1) := by decide +kernel
theorem dX3_layFraction_8 : decode cX3_layFraction 8 = .ok (.iaload, 1) := by decide +kernel
theorem dX3_layFraction_9 : decode cX3_layFraction 9 = .ok (.istore 5, 2) := by decide +kernel
theorem dX3_layFraction_11 : decode cX3_layFraction 11 = .ok (.aload_n 0, 1) := by decide +kernel
theorem dX3_layFraction_12 : decode cX3_layFraction 12 = .ok (.getfield 35, 3) := by decide +kernel
theorem dX3_layFraction_15 : decode cX3_layFraction 15 = .ok (.getfield 71, 3) := by decide +kernel
theorem dX3_layFraction_18 : decode cX3_layFraction 18 = .ok (.iload_n 1, 1) := by decide +kernel
theorem dX3_layFraction_19 : decode cX3_layFraction 19 = .ok (.iaload, 1) := by decide +kernel
theorem dX3_layFraction_20 : decode cX3_layFraction 20 = .ok (.istore 6, 2) := by decide +kernel
theorem dX3_layFraction_22 : decode cX3_layFraction 22 = .ok (.iload_n 2, 1) := by decide +kernel
theorem dX3_layFraction_23 : decode cX3_layFraction 23 = .ok (.iconst 2, 1) := by decide +kernel
theorem dX3_layFraction_24 : decode cX3_layFraction 24 = .ok (.if_icmp .lt 7, 3) := by decide +kernel
theorem dX3_layFraction_27 : decode cX3_layFraction 27 = .ok (.iconst 3, 1) := by decide +kernel
theorem dX3_layFraction_28 : decode cX3_layFraction 28 = .ok (.goto 6, 3) := by decide +kernel
theorem dX3_layFraction_31 : decode cX3_layFraction 31 = .ok (.iload_n 2, 1) := by decide +kernel
theorem dX3_layFraction_32 : decode cX3_layFraction 32 = .ok (.iconst 1, 1) := by decide +kernel
theorem dX3_layFraction_33 : decode cX3_layFraction 33 = .ok (.iadd, 1) := by decide +kernel
theorem dX3_layFraction_34 : decode cX3_layFraction 34 = .ok (.istore 7, 2) := by decide +kernel
theorem dX3_layFraction_36 : decode cX3_layFraction 36 = .ok (.aload_n 0, 1) := by decide +kernel
theorem dX3_layFraction_37 : decode cX3_layFraction 37 = .ok (.iload 5, 2) := by decide +kernel
theorem dX3_layFraction_39 : decode cX3_layFraction 39 = .ok (.iload 7, 2) := by decide +kernel
theorem dX3_layFraction_41 : decode cX3_layFraction 41 = .ok (.iload_n 3, 1) := by decide +kernel
theorem dX3_layFraction_42 : decode cX3_layFraction 42 = .ok (.iload 4, 2) := by decide +kernel
theorem dX3_layFraction_44 : decode cX3_layFraction 44 = .ok (.iconst 1, 1) := by decide +kernel
theorem dX3_layFraction_45 : decode cX3_layFraction 45 = .ok (.iadd, 1) := by decide +kernel
theorem dX3_layFraction_46 : decode cX3_layFraction 46 = .ok (.invokevirtual 42, 3) := by decide +kernel
theorem dX3_layFraction_49 : decode cX3_layFraction 49 = .ok (.aload_n 0, 1) := by decide +kernel
theorem dX3_layFraction_50 : decode cX3_layFraction 50 = .ok (.iload 6, 2) := by decide +kernel
theorem dX3_layFraction_52 : decode cX3_layFraction 52 = .ok (.iload 7, 2) := by decide +kernel
theorem dX3_layFraction_54 : decode cX3_layFraction 54 = .ok (.iconst 1, 1) := by decide +kernel
theorem dX3_layFraction_55 : decode cX3_layFraction 55 = .ok (.iload 4, 2) := by decide +kernel
theorem dX3_layFraction_57 : decode cX3_layFraction 57 = .ok (.iconst 1, 1) := by decide +kernel
theorem dX3_layFraction_58 : decode cX3_layFraction 58 = .ok (.iadd, 1) := by decide +kernel
theorem dX3_layFraction_59 : decode cX3_layFraction 59 = .ok (.invokevirtual 42, 3) := by decide +kernel
theorem dX3_layFraction_62 : decode cX3_layFraction 62 = .ok (.iload_n 2, 1) := by decide +kernel
theorem dX3_layFraction_63 : decode cX3_layFraction 63 = .ok (.invokestatic 85, 3) := by decide +kernel
theorem dX3_layFraction_66 : decode cX3_layFraction 66 = .ok (.istore 8, 2) := by decide +kernel
theorem dX3_layFraction_68 : decode cX3_layFraction 68 = .ok (.aload_n 0, 1) := by decide +kernel
theorem dX3_layFraction_69 : decode cX3_layFraction 69 = .ok (.getfield 35, 3) := by decide +kernel
theorem dX3_layFraction_72 : decode cX3_layFraction 72 = .ok (.getfield 170, 3) := by decide +kernel
theorem dX3_layFraction_75 : decode cX3_layFraction 75 = .ok (.iload_n 1, 1) := by decide +kernel
theorem dX3_layFraction_76 : decode cX3_layFraction 76 = .ok (.iaload, 1) := by decide +kernel
theorem dX3_layFraction_77 : decode cX3_layFraction 77 = .ok (.ifCond .ge 10, 3) := by decide +kernel
theorem dX3_layFraction_80 : decode cX3_layFraction 80 = .ok (.iload 8, 2) := by decide +kernel
theorem dX3_layFraction_82 : decode cX3_layFraction 82 = .ok (.iconst 2, 1) := by decide +kernel
theorem dX3_layFraction_83 : decode cX3_layFraction 83 = .ok (.idiv, 1) := by decide +kernel
theorem dX3_layFraction_84 : decode cX3_layFraction 84 = .ok (.goto 12, 3) := by decide +kernel
theorem dX3_layFraction_87 : decode cX3_layFraction 87 = .ok (.aload_n 0, 1) := by decide +kernel
theorem dX3_layFraction_88 : decode cX3_layFraction 88 = .ok (.getfield 35, 3) := by decide +kernel
theorem dX3_layFraction_91 : decode cX3_layFraction 91 = .ok (.getfield 170, 3) := by decide +kernel
theorem dX3_layFraction_94 : decode cX3_layFraction 94 = .ok (.iload_n 1, 1) := by decide +kernel
theorem dX3_layFraction_95 : decode cX3_layFraction 95 = .ok (.iaload, 1) := by decide +kernel
theorem dX3_layFraction_96 : decode cX3_layFraction 96 = .ok (.istore 9, 2) := by decide +kernel
theorem dX3_layFraction_98 : decode cX3_layFraction 98 = .ok (.iload 9, 2) := by decide +kernel
theorem dX3_layFraction_100 : decode cX3_layFraction 100 = .ok (.iload 9, 2) := by decide +kernel
theorem dX3_layFraction_102 : decode cX3_layFraction 102 = .ok (.iconst 2, 1) := by decide +kernel
theorem dX3_layFraction_103 : decode cX3_layFraction 103 = .ok (.idiv, 1) := by decide +kernel
theorem dX3_layFraction_104 : decode cX3_layFraction 104 = .ok (.isub, 1) := by decide +kernel
theorem dX3_layFraction_105 : decode cX3_layFraction 105 = .ok (.istore 10, 2) := by decide +kernel
theorem dX3_layFraction_107 : decode cX3_layFraction 107 = .ok (.iload_n 2, 1) := by decide +kernel
theorem dX3_layFraction_108 : decode cX3_layFraction 108 = .ok (.ifCond .ne 10, 3) := by decide +kernel
theorem dX3_layFraction_111 : decode cX3_layFraction 111 = .ok (.iconst 3, 1) := by decide +kernel
theorem dX3_layFraction_112 : decode cX3_layFraction 112 = .ok (.iload 8, 2) := by decide +kernel
theorem dX3_layFraction_114 : decode cX3_layFraction 114 = .ok (.imul, 1) := by decide +kernel
theorem dX3_layFraction_115 : decode cX3_layFraction 115 = .ok (.goto 5, 3) := by decide +kernel
theorem dX3_layFraction_118 : decode cX3_layFraction 118 = .ok (.iload 8, 2) := by decide +kernel
theorem dX3_layFraction_120 : decode cX3_layFraction 120 = .ok (.istore 11, 2) := by decide +kernel
theorem dX3_layFraction_122 : decode cX3_layFraction 122 = .ok (.iload_n 1, 1) := by decide +kernel
theorem dX3_layFraction_123 : decode cX3_layFraction 123 = .ok (.invokestatic 96, 3) := by decide +kernel
theorem dX3_layFraction_126 : decode cX3_layFraction 126 = .ok (.istore 12, 2) := by decide +kernel
theorem dX3_layFraction_128 : decode cX3_layFraction 128 = .ok (.aload_n 0, 1) := by decide +kernel
theorem dX3_layFraction_129 : decode cX3_layFraction 129 = .ok (.getfield 12, 3) := by decide +kernel
theorem dX3_layFraction_132 : decode cX3_layFraction 132 = .ok (.getfield 46, 3) := by decide +kernel
theorem dX3_layFraction_135 : decode cX3_layFraction 135 = .ok (.iload 5, 2) := by decide +kernel
theorem dX3_layFraction_137 : decode cX3_layFraction 137 = .ok (.iaload, 1) := by decide +kernel
theorem dX3_layFraction_138 : decode cX3_layFraction 138 = .ok (.aload_n 0, 1) := by decide +kernel
theorem dX3_layFraction_139 : decode cX3_layFraction 139 = .ok (.getfield 12, 3) := by decide +kernel
theorem dX3_layFraction_142 : decode cX3_layFraction 142 = .ok (.getfield 46, 3) := by decide +kernel
theorem dX3_layFraction_145 : decode cX3_layFraction 145 = .ok (.iload 6, 2) := by decide +kernel
theorem dX3_layFraction_147 : decode cX3_layFraction 147 = .ok (.iaload, 1) := by decide +kernel
theorem dX3_layFraction_148 : decode cX3_layFraction 148 = .ok (.invokestatic 156, 3) := by decide +kernel
theorem dX3_layFraction_151 : decode cX3_layFraction 151 = .ok (.iload 8, 2) := by decide +kernel
theorem dX3_layFraction_153 : decode cX3_layFraction 153 = .ok (.iadd, 1) := by decide +kernel
theorem dX3_layFraction_154 : decode cX3_layFraction 154 = .ok (.istore 13, 2) := by decide +kernel
theorem dX3_layFraction_156 : decode cX3_layFraction 156 = .ok (.iload_n 2, 1) := by decide +kernel
theorem dX3_layFraction_157 : decode cX3_layFraction 157 = .ok (.invokestatic 173, 3) := by decide +kernel
theorem dX3_layFraction_160 : decode cX3_layFraction 160 = .ok (.iload 9, 2) := by decide +kernel
theorem dX3_layFraction_162 : decode cX3_layFraction 162 = .ok (.iconst 2, 1) := by decide +kernel
theorem dX3_layFraction_163 : decode cX3_layFraction 163 = .ok (.idiv, 1) := by decide +kernel
theorem dX3_layFraction_164 : decode cX3_layFraction 164 = .ok (.iadd, 1) := by decide +kernel
theorem dX3_layFraction_165 : decode cX3_layFraction 165 = .ok (.iload 11, 2) := by decide +kernel
theorem dX3_layFraction_167 : decode cX3_layFraction 167 = .ok (.iadd, 1) := by decide +kernel
theorem dX3_layFraction_168 : decode cX3_layFraction 168 = .ok (.aload_n 0, 1) := by decide +kernel
theorem dX3_layFraction_169 : decode cX3_layFraction 169 = .ok (.getfield 12, 3) := by decide +kernel
theorem dX3_layFraction_172 : decode cX3_layFraction 172 = .ok (.getfield 51, 3) := by decide +kernel
theorem dX3_layFraction_175 : decode cX3_layFraction 175 = .ok (.iload 5, 2) := by decide +kernel
theorem dX3_layFraction_177 : decode cX3_layFraction 177 = .ok (.iaload, 1) := by decide +kernel
theorem dX3_layFraction_178 : decode cX3_layFraction 178 = .ok (.iadd, 1) := by decide +kernel
theorem dX3_layFraction_179 : decode cX3_layFraction 179 = .ok (.istore 14, 2) := by decide +kernel
theorem dX3_layFraction_181 : decode cX3_layFraction 181 = .ok (.aload_n 0, 1) := by decide +kernel
theorem dX3_layFraction_182 : decode cX3_layFraction 182 = .ok (.getfield 12, 3) := by decide +kernel
theorem dX3_layFraction_185 : decode cX3_layFraction 185 = .ok (.getfield 49, 3) := by decide +kernel
theorem dX3_layFraction_188 : decode cX3_layFraction 188 = .ok (.iload 6, 2) := by decide +kernel
theorem dX3_layFraction_190 : decode cX3_layFraction 190 = .ok (.iaload, 1) := by decide +kernel
theorem dX3_layFraction_191 : decode cX3_layFraction 191 = .ok (.iload 11, 2) := by decide +kernel
theorem dX3_layFraction_193 : decode cX3_layFraction 193 = .ok (.iadd, 1) := by decide +kernel
theorem dX3_layFraction_194 : decode cX3_layFraction 194 = .ok (.iload 10, 2) := by decide +kernel
theorem dX3_layFraction_196 : decode cX3_layFraction 196 = .ok (.iadd, 1) := by decide +kernel
theorem dX3_layFraction_197 : decode cX3_layFraction 197 = .ok (.iload_n 2, 1) := by decide +kernel
theorem dX3_layFraction_198 : decode cX3_layFraction 198 = .ok (.invokestatic 173, 3) := by decide +kernel
theorem dX3_layFraction_201 : decode cX3_layFraction 201 = .ok (.isub, 1) := by decide +kernel
theorem dX3_layFraction_202 : decode cX3_layFraction 202 = .ok (.istore 15, 2) := by decide +kernel
theorem dX3_layFraction_204 : decode cX3_layFraction 204 = .ok (.aload_n 0, 1) := by decide +kernel
theorem dX3_layFraction_205 : decode cX3_layFraction 205 = .ok (.iload 12, 2) := by decide +kernel
theorem dX3_layFraction_207 : decode cX3_layFraction 207 = .ok (.iload 5, 2) := by decide +kernel
theorem dX3_layFraction_209 : decode cX3_layFraction 209 = .ok (.iload 13, 2) := by decide +kernel
theorem dX3_layFraction_211 : decode cX3_layFraction 211 = .ok (.aload_n 0, 1) := by decide +kernel
theorem dX3_layFraction_212 : decode cX3_layFraction 212 = .ok (.getfield 12, 3) := by decide +kernel
theorem dX3_layFraction_215 : decode cX3_layFraction 215 = .ok (.getfield 46, 3) := by decide +kernel
theorem dX3_layFraction_218 : decode cX3_layFraction 218 = .ok (.iload 5, 2) := by decide +kernel
theorem dX3_layFraction_220 : decode cX3_layFraction 220 = .ok (.iaload, 1) := by decide +kernel
theorem dX3_layFraction_221 : decode cX3_layFraction 221 = .ok (.isub, 1) := by decide +kernel
theorem dX3_layFraction_222 : decode cX3_layFraction 222 = .ok (.iconst 2, 1) := by decide +kernel
theorem dX3_layFraction_223 : decode cX3_layFraction 223 = .ok (.idiv, 1) := by decide +kernel
theorem dX3_layFraction_224 : decode cX3_layFraction 224 = .ok (.iload 14, 2) := by decide +kernel
theorem dX3_layFraction_226 : decode cX3_layFraction 226 = .ok (.invokevirtual 167, 3) := by decide +kernel
theorem dX3_layFraction_229 : decode cX3_layFraction 229 = .ok (.aload_n 0, 1) := by decide +kernel
theorem dX3_layFraction_230 : decode cX3_layFraction 230 = .ok (.iload 12, 2) := by decide +kernel
theorem dX3_layFraction_232 : decode cX3_layFraction 232 = .ok (.iload 6, 2) := by decide +kernel
theorem dX3_layFraction_234 : decode cX3_layFraction 234 = .ok (.iload 13, 2) := by decide +kernel
theorem dX3_layFraction_236 : decode cX3_layFraction 236 = .ok (.aload_n 0, 1) := by decide +kernel
theorem dX3_layFraction_237 : decode cX3_layFraction 237 = .ok (.getfield 12, 3) := by decide +kernel
theorem dX3_layFraction_240 : decode cX3_layFraction 240 = .ok (.getfield 46, 3) := by decide +kernel
theorem dX3_layFraction_243 : decode cX3_layFraction 243 = .ok (.iload 6, 2) := by decide +kernel
theorem dX3_layFraction_245 : decode cX3_layFraction 245 = .ok (.iaload, 1) := by decide +kernel
theorem dX3_layFraction_246 : decode cX3_layFraction 246 = .ok (.isub, 1) := by decide +kernel
theorem dX3_layFraction_247 : decode cX3_layFraction 247 = .ok (.iconst 2, 1) := by decide +kernel
theorem dX3_layFraction_248 : decode cX3_layFraction 248 = .ok (.idiv, 1) := by decide +kernel
theorem dX3_layFraction_249 : decode cX3_layFraction 249 = .ok (.iload 15, 2) := by decide +kernel
theorem dX3_layFraction_251 : decode cX3_layFraction 251 = .ok (.ineg, 1) := by decide +kernel
theorem dX3_layFraction_252 : decode cX3_layFraction 252 = .ok (.invokevirtual 167, 3) := by decide +kernel
theorem dX3_layFraction_255 : decode cX3_layFraction 255 = .ok (.iload 9, 2) := by decide +kernel
theorem dX3_layFraction_257 : decode cX3_layFraction 257 = .ok (.ifCond .le 68, 3) := by decide +kernel
theorem dX3_layFraction_260 : decode cX3_layFraction 260 = .ok (.aload_n 0, 1) := by decide +kernel
theorem dX3_layFraction_261 : decode cX3_layFraction 261 = .ok (.getfield 21, 3) := by decide +kernel
theorem dX3_layFraction_264 : decode cX3_layFraction 264 = .ok (.iconst 1, 1) := by decide +kernel
theorem dX3_layFraction_265 : decode cX3_layFraction 265 = .ok (.iload_n 1, 1) := by decide +kernel
theorem dX3_layFraction_266 : decode cX3_layFraction 266 = .ok (.iconst 0, 1) := by decide +kernel
theorem dX3_layFraction_267 : decode cX3_layFraction 267 = .ok (.invokevirtual 134, 3) := by decide +kernel
theorem dX3_layFraction_270 : decode cX3_layFraction 270 = .ok (.istore 16, 2) := by decide +kernel
theorem dX3_layFraction_272 : decode cX3_layFraction 272 = .ok (.aload_n 0, 1) := by decide +kernel
theorem dX3_layFraction_273 : decode cX3_layFraction 273 = .ok (.getfield 21, 3) := by decide +kernel
theorem dX3_layFraction_276 : decode cX3_layFraction 276 = .ok (.iload 16, 2) := by decide +kernel
theorem dX3_layFraction_278 : decode cX3_layFraction 278 = .ok (.iload 9, 2) := by decide +kernel
theorem dX3_layFraction_280 : decode cX3_layFraction 280 = .ok (.iload 13, 2) := by decide +kernel
theorem dX3_layFraction_282 : decode cX3_layFraction 282 = .ok (.invokevirtual 137, 3) := by decide +kernel
theorem dX3_layFraction_285 : decode cX3_layFraction 285 = .ok (.aload_n 0, 1) := by decide +kernel
theorem dX3_layFraction_286 : decode cX3_layFraction 286 = .ok (.getfield 21, 3) := by decide +kernel
theorem dX3_layFraction_289 : decode cX3_layFraction 289 = .ok (.iload 16, 2) := by decide +kernel
theorem dX3_layFraction_291 : decode cX3_layFraction 291 = .ok (.iload 16, 2) := by decide +kernel
theorem dX3_layFraction_293 : decode cX3_layFraction 293 = .ok (.iconst 1, 1) := by decide +kernel
theorem dX3_layFraction_294 : decode cX3_layFraction 294 = .ok (.iadd, 1) := by decide +kernel
theorem dX3_layFraction_295 : decode cX3_layFraction 295 = .ok (.iconst 0, 1) := by decide +kernel
theorem dX3_layFraction_296 : decode cX3_layFraction 296 = .ok (.iload_n 2, 1) := by decide +kernel
theorem dX3_layFraction_297 : decode cX3_layFraction 297 = .ok (.invokestatic 173, 3) := by decide +kernel
theorem dX3_layFraction_300 : decode cX3_layFraction 300 = .ok (.iload 10, 2) := by decide +kernel
theorem dX3_layFraction_302 : decode cX3_layFraction 302 = .ok (.isub, 1) := by decide +kernel
theorem dX3_layFraction_303 : decode cX3_layFraction 303 = .ok (.invokevirtual 102, 3) := by decide +kernel
theorem dX3_layFraction_306 : decode cX3_layFraction 306 = .ok (.aload_n 0, 1) := by decide +kernel
theorem dX3_layFraction_307 : decode cX3_layFraction 307 = .ok (.getfield 12, 3) := by decide +kernel
theorem dX3_layFraction_310 : decode cX3_layFraction 310 = .ok (.iload 12, 2) := by decide +kernel
theorem dX3_layFraction_312 : decode cX3_layFraction 312 = .ok (.iload_n 2, 1) := by decide +kernel
theorem dX3_layFraction_313 : decode cX3_layFraction 313 = .ok (.invokestatic 173, 3) := by decide +kernel
theorem dX3_layFraction_316 : decode cX3_layFraction 316 = .ok (.iload 10, 2) := by decide +kernel
theorem dX3_layFraction_318 : decode cX3_layFraction 318 = .ok (.isub, 1) := by decide +kernel
theorem dX3_layFraction_319 : decode cX3_layFraction 319 = .ok (.iload 9, 2) := by decide +kernel
theorem dX3_layFraction_321 : decode cX3_layFraction 321 = .ok (.iconst 0, 1) := by decide +kernel
theorem dX3_layFraction_322 : decode cX3_layFraction 322 = .ok (.invokevirtual 106, 3) := by decide +kernel
theorem dX3_layFraction_325 : decode cX3_layFraction 325 = .ok (.aload_n 0, 1) := by decide +kernel
theorem dX3_layFraction_326 : decode cX3_layFraction 326 = .ok (.getfield 12, 3) := by decide +kernel
theorem dX3_layFraction_329 : decode cX3_layFraction 329 = .ok (.getfield 46, 3) := by decide +kernel
theorem dX3_layFraction_332 : decode cX3_layFraction 332 = .ok (.iload 12, 2) := by decide +kernel
theorem dX3_layFraction_334 : decode cX3_layFraction 334 = .ok (.iload 13, 2) := by decide +kernel
theorem dX3_layFraction_336 : decode cX3_layFraction 336 = .ok (.iastore, 1) := by decide +kernel
theorem dX3_layFraction_337 : decode cX3_layFraction 337 = .ok (.return_, 1) := by decide +kernel
theorem dX3_layFence_0 : decode cX3_layFence 0 = .ok (.aload_n 0, 1) := by decide +kernel
theorem dX3_layFence_1 : decode cX3_layFence 1 = .ok (.getfield 35, 3) := by decide +kernel
theorem dX3_layFence_4 : decode cX3_layFence 4 = .ok (.getfield 71, 3) := by decide +kernel
theorem dX3_layFence_7 : decode cX3_layFence 7 = .ok (.iload_n 1, 1) := by decide +kernel
theorem dX3_layFence_8 : decode cX3_layFence 8 = .ok (.iaload, 1) := by decide +kernel
theorem dX3_layFence_9 : decode cX3_layFence 9 = .ok (.istore 5, 2) := by decide +kernel
theorem dX3_layFence_11 : decode cX3_layFence 11 = .ok (.aload_n 0, 1) := by decide +kernel
theorem dX3_layFence_12 : decode cX3_layFence 12 = .ok (.iload_n 1, 1) := by decide +kernel
theorem dX3_layFence_13 : decode cX3_layFence 13 = .ok (.aload_n 0, 1) := by decide +kernel
theorem dX3_layFence_14 : decode cX3_layFence 14 = .ok (.getfield 35, 3) := by decide +kernel
theorem dX3_layFence_17 : decode cX3_layFence 17 = .ok (.getfield 68, 3) := by decide +kernel
theorem dX3_layFence_20 : decode cX3_layFence 20 = .ok (.iload_n 1, 1) := by decide +kernel
theorem dX3_layFence_21 : decode cX3_layFence 21 = .ok (.iaload, 1) := by decide +kernel
theorem dX3_layFence_22 : decode cX3_layFence 22 = .ok (.invokevirtual 176, 3) := by decide +kernel
theorem dX3_layFence_25 : decode cX3_layFence 25 = .ok (.istore 6, 2) := by decide +kernel
theorem dX3_layFence_27 : decode cX3_layFence 27 = .ok (.aload_n 0, 1) := by decide +kernel
theorem dX3_layFence_28 : decode cX3_layFence 28 = .ok (.iload 5, 2) := by decide +kernel
theorem dX3_layFence_30 : decode cX3_layFence 30 = .ok (.iload_n 2, 1) := by decide +kernel
theorem dX3_layFence_31 : decode cX3_layFence 31 = .ok (.iload_n 3, 1) := by decide +kernel
theorem dX3_layFence_32 : decode cX3_layFence 32 = .ok (.iload 4, 2) := by decide +kernel
theorem dX3_layFence_34 : decode cX3_layFence 34 = .ok (.iconst 1, 1) := by decide +kernel
theorem dX3_layFence_35 : decode cX3_layFence 35 = .ok (.iadd, 1) := by decide +kernel
theorem dX3_layFence_36 : decode cX3_layFence 36 = .ok (.invokevirtual 42, 3) := by decide +kernel
theorem dX3_layFence_39 : decode cX3_layFence 39 = .ok (.aload_n 0, 1) := by decide +kernel
theorem dX3_layFence_40 : decode cX3_layFence 40 = .ok (.iload_n 1, 1) := by decide +kernel
theorem dX3_layFence_41 : decode cX3_layFence 41 = .ok (.aload_n 0, 1) := by decide +kernel
theorem dX3_layFence_42 : decode cX3_layFence 42 = .ok (.getfield 35, 3) := by decide +kernel
theorem dX3_layFence_45 : decode cX3_layFence 45 = .ok (.getfield 170, 3) := by decide +kernel
theorem dX3_layFence_48 : decode cX3_layFence 48 = .ok (.iload_n 1, 1) := by decide +kernel
theorem dX3_layFence_49 : decode cX3_layFence 49 = .ok (.iaload, 1) := by decide +kernel
theorem dX3_layFence_50 : decode cX3_layFence 50 = .ok (.invokevirtual 176, 3) := by decide +kernel
theorem dX3_layFence_53 : decode cX3_layFence 53 = .ok (.istore 7, 2) := by decide +kernel
theorem dX3_layFence_55 : decode cX3_layFence 55 = .ok (.iconst 2, 1) := by decide +kernel
theorem dX3_layFence_56 : decode cX3_layFence 56 = .ok (.aload_n 0, 1) := by decide +kernel
theorem dX3_layFence_57 : decode cX3_layFence 57 = .ok (.getfield 12, 3) := by decide +kernel
theorem dX3_layFence_60 : decode cX3_layFence 60 = .ok (.getfield 49, 3) := by decide +kernel
theorem dX3_layFence_63 : decode cX3_layFence 63 = .ok (.iload 5, 2) := by decide +kernel
theorem dX3_layFence_65 : decode cX3_layFence 65 = .ok (.iaload, 1) := by decide +kernel
theorem dX3_layFence_66 : decode cX3_layFence 66 = .ok (.iload_n 2, 1) := by decide +kernel
theorem dX3_layFence_67 : decode cX3_layFence 67 = .ok (.invokestatic 173, 3) := by decide +kernel
theorem dX3_layFence_70 : decode cX3_layFence 70 = .ok (.isub, 1) := by decide +kernel
theorem dX3_layFence_71 : decode cX3_layFence 71 = .ok (.aload_n 0, 1) := by decide +kernel
theorem dX3_layFence_72 : decode cX3_layFence 72 = .ok (.getfield 12, 3) := by decide +kernel
theorem dX3_layFence_75 : decode cX3_layFence 75 = .ok (.getfield 51, 3) := by decide +kernel
theorem dX3_layFence_78 : decode cX3_layFence 78 = .ok (.iload 5, 2) := by decide +kernel
theorem dX3_layFence_80 : decode cX3_layFence 80 = .ok (.iaload, 1) := by decide +kernel
theorem dX3_layFence_81 : decode cX3_layFence 81 = .ok (.iload_n 2, 1) := by decide +kernel
theorem dX3_layFence_82 : decode cX3_layFence 82 = .ok (.invokestatic 173, 3) := by decide +kernel
theorem dX3_layFence_85 : decode cX3_layFence 85 = .ok (.iadd, 1) := by decide +kernel
theorem dX3_layFence_86 : decode cX3_layFence 86 = .ok (.invokestatic 156, 3) := by decide +kernel
theorem dX3_layFence_89 : decode cX3_layFence 89 = .ok (.imul, 1) := by decide +kernel
theorem dX3_layFence_90 : decode cX3_layFence 90 = .ok (.istore 8, 2) := by decide +kernel
theorem dX3_layFence_92 : decode cX3_layFence 92 = .ok (.iload_n 1, 1) := by decide +kernel
theorem dX3_layFence_93 : decode cX3_layFence 93 = .ok (.invokestatic 96, 3) := by decide +kernel
theorem dX3_layFence_96 : decode cX3_layFence 96 = .ok (.istore 9, 2) := by decide +kernel
theorem dX3_layFence_98 : decode cX3_layFence 98 = .ok (.aload_n 0, 1) := by decide +kernel
theorem dX3_layFence_99 : decode cX3_layFence 99 = .ok (.iload 9, 2) := by decide +kernel
theorem dX3_layFence_101 : decode cX3_layFence 101 = .ok (.iload 6, 2) := by decide +kernel
theorem dX3_layFence_103 : decode cX3_layFence 103 = .ok (.iload_n 2, 1) := by decide +kernel
theorem dX3_layFence_104 : decode cX3_layFence 104 = .ok (.iload 8, 2) := by decide +kernel
theorem dX3_layFence_106 : decode cX3_layFence 106 = .ok (.invokevirtual 179, 3) := by decide +kernel
theorem dX3_layFence_109 : decode cX3_layFence 109 = .ok (.istore 10, 2) := by decide +kernel
theorem dX3_layFence_111 : decode cX3_layFence 111 = .ok (.aload_n 0, 1) := by decide +kernel
theorem dX3_layFence_112 : decode cX3_layFence 112 = .ok (.iload 9, 2) := by decide +kernel
theorem dX3_layFence_114 : decode cX3_layFence 114 = .ok (.iload 5, 2) := by decide +kernel
theorem dX3_layFence_116 : decode cX3_layFence 116 = .ok (.iload 10, 2) := by decide +kernel
theorem dX3_layFence_118 : decode cX3_layFence 118 = .ok (.iconst 0, 1) := by decide +kernel
theorem dX3_layFence_119 : decode cX3_layFence 119 = .ok (.invokevirtual 167, 3) := by decide +kernel
theorem dX3_layFence_122 : decode cX3_layFence 122 = .ok (.iload 10, 2) := by decide +kernel
theorem dX3_layFence_124 : decode cX3_layFence 124 = .ok (.aload_n 0, 1) := by decide +kernel
theorem dX3_layFence_125 : decode cX3_layFence 125 = .ok (.getfield 12, 3) := by decide +kernel
theorem dX3_layFence_128 : decode cX3_layFence 128 = .ok (.getfield 46, 3) := by decide +kernel
theorem dX3_layFence_131 : decode cX3_layFence 131 = .ok (.iload 5, 2) := by decide +kernel
theorem dX3_layFence_133 : decode cX3_layFence 133 = .ok (.iaload, 1) := by decide +kernel
theorem dX3_layFence_134 : decode cX3_layFence 134 = .ok (.iadd, 1) := by decide +kernel
theorem dX3_layFence_135 : decode cX3_layFence 135 = .ok (.istore 10, 2) := by decide +kernel
theorem dX3_layFence_137 : decode cX3_layFence 137 = .ok (.aload_n 0, 1) := by decide +kernel
theorem dX3_layFence_138 : decode cX3_layFence 138 = .ok (.iload 9, 2) := by decide +kernel
theorem dX3_layFence_140 : decode cX3_layFence 140 = .ok (.iload 7, 2) := by decide +kernel
theorem dX3_layFence_142 : decode cX3_layFence 142 = .ok (.iload_n 2, 1) := by decide +kernel
theorem dX3_layFence_143 : decode cX3_layFence 143 = .ok (.iload 8, 2) := by decide +kernel
theorem dX3_layFence_145 : decode cX3_layFence 145 = .ok (.invokevirtual 179, 3) := by decide +kernel
theorem dX3_layFence_148 : decode cX3_layFence 148 = .ok (.istore 11, 2) := by decide +kernel
theorem dX3_layFence_150 : decode cX3_layFence 150 = .ok (.iload 7, 2) := by decide +kernel
theorem dX3_layFence_152 : decode cX3_layFence 152 = .ok (.iconst (-1), 1) := by decide +kernel
theorem dX3_layFence_153 : decode cX3_layFence 153 = .ok (.if_icmp .eq 19, 3) := by decide +kernel
theorem dX3_layFence_156 : decode cX3_layFence 156 = .ok (.aload_n 0, 1) := by decide +kernel
theorem dX3_layFence_157 : decode cX3_layFence 157 = .ok (.getfield 21, 3) := by decide +kernel
theorem dX3_layFence_160 : decode cX3_layFence 160 = .ok (.iload 7, 2) := by decide +kernel
theorem dX3_layFence_162 : decode cX3_layFence 162 = .ok (.iload 7, 2) := by decide +kernel
theorem dX3_layFence_164 : decode cX3_layFence 164 = .ok (.iconst 1, 1) := by decide +kernel
theorem dX3_layFence_165 : decode cX3_layFence 165 = .ok (.iadd, 1) := by decide +kernel
theorem dX3_layFence_166 : decode cX3_layFence 166 = .ok (.iload 10, 2) := by decide +kernel
theorem dX3_layFence_168 : decode cX3_layFence 168 = .ok (.iconst 0, 1) := by decide +kernel
theorem dX3_layFence_169 : decode cX3_layFence 169 = .ok (.invokevirtual 102, 3) := by decide +kernel
theorem dX3_layFence_172 : decode cX3_layFence 172 = .ok (.aload_n 0, 1) := by decide +kernel
theorem dX3_layFence_173 : decode cX3_layFence 173 = .ok (.getfield 12, 3) := by decide +kernel
theorem dX3_layFence_176 : decode cX3_layFence 176 = .ok (.getfield 46, 3) := by decide +kernel
theorem dX3_layFence_179 : decode cX3_layFence 179 = .ok (.iload 9, 2) := by decide +kernel
theorem dX3_layFence_181 : decode cX3_layFence 181 = .ok (.iload 10, 2) := by decide +kernel
theorem dX3_layFence_183 : decode cX3_layFence 183 = .ok (.iload 11, 2) := by decide +kernel
theorem dX3_layFence_185 : decode cX3_layFence 185 = .ok (.iadd, 1) := by decide +kernel
theorem dX3_layFence_186 : decode cX3_layFence 186 = .ok (.iastore, 1) := by decide +kernel
theorem dX3_layFence_187 : decode cX3_layFence 187 = .ok (.return_, 1) := by decide +kernel
theorem dX3_addDelimiter_0 : decode cX3_addDelimiter 0 = .ok (.iload_n 2, 1) := by decide +kernel
theorem dX3_addDelimiter_1 : decode cX3_addDelimiter 1 = .ok (.ifCond .ne 7, 3) := by decide +kernel
theorem dX3_addDelimiter_4 : decode cX3_addDelimiter 4 = .ok (.iconst (-1), 1) := by decide +kernel
theorem dX3_addDelimiter_5 : decode cX3_addDelimiter 5 = .ok (.goto 13, 3) := by decide +kernel
theorem dX3_addDelimiter_8 : decode cX3_addDelimiter 8 = .ok (.aload_n 0, 1) := by decide +kernel
theorem dX3_addDelimiter_9 : decode cX3_addDelimiter 9 = .ok (.getfield 21, 3) := by decide +kernel
theorem dX3_addDelimiter_12 : decode cX3_addDelimiter 12 = .ok (.iconst 2, 1) := by decide +kernel
theorem dX3_addDelimiter_13 : decode cX3_addDelimiter 13 = .ok (.iload_n 1, 1) := by decide +kernel
theorem dX3_addDelimiter_14 : decode cX3_addDelimiter 14 = .ok (.iload_n 2, 1) := by decide +kernel
theorem dX3_addDelimiter_15 : decode cX3_addDelimiter 15 = .ok (.invokevirtual 134, 3) := by decide +kernel
theorem dX3_addDelimiter_18 : decode cX3_addDelimiter 18 = .ok (.ireturn, 1) := by decide +kernel
theorem dX3_setDelimiter_0 : decode cX3_setDelimiter 0 = .ok (.iload_n 3, 1) := by decide +kernel
theorem dX3_setDelimiter_1 : decode cX3_setDelimiter 1 = .ok (.invokestatic 85, 3) := by decide +kernel
theorem dX3_setDelimiter_4 : decode cX3_setDelimiter 4 = .ok (.istore 5, 2) := by decide +kernel
theorem dX3_setDelimiter_6 : decode cX3_setDelimiter 6 = .ok (.iload_n 2, 1) := by decide +kernel
theorem dX3_setDelimiter_7 : decode cX3_setDelimiter 7 = .ok (.iconst (-1), 1) := by decide +kernel
theorem dX3_setDelimiter_8 : decode cX3_setDelimiter 8 = .ok (.if_icmp .ne 8, 3) := by decide +kernel
theorem dX3_setDelimiter_11 : decode cX3_setDelimiter 11 = .ok (.iload 5, 2) := by decide +kernel
theorem dX3_setDelimiter_13 : decode cX3_setDelimiter 13 = .ok (.iconst 2, 1) := by decide +kernel
theorem dX3_setDelimiter_14 : decode cX3_setDelimiter 14 = .ok (.idiv, 1) := by decide +kernel
theorem dX3_setDelimiter_15 : decode cX3_setDelimiter 15 = .ok (.ireturn, 1) := by decide +kernel
theorem dX3_setDelimiter_16 : decode cX3_setDelimiter 16 = .ok (.iconst 0, 1) := by decide +kernel
theorem dX3_setDelimiter_17 : decode cX3_setDelimiter 17 = .ok (.istore 6, 2) := by decide +kernel
theorem dX3_setDelimiter_19 : decode cX3_setDelimiter 19 = .ok (.iload 6, 2) := by decide +kernel
theorem dX3_setDelimiter_21 : decode cX3_setDelimiter 21 = .ok (.iconst 4, 1) := by decide +kernel
theorem dX3_setDelimiter_22 : decode cX3_setDelimiter 22 = .ok (.if_icmp .ge 21, 3) := by decide +kernel
theorem dX3_setDelimiter_25 : decode cX3_setDelimiter 25 = .ok (.iload 5, 2) := by decide +kernel
theorem dX3_setDelimiter_27 : decode cX3_setDelimiter 27 = .ok (.iload 6, 2) := by decide +kernel
theorem dX3_setDelimiter_29 : decode cX3_setDelimiter 29 = .ok (.iload 4, 2) := by decide +kernel
theorem dX3_setDelimiter_31 : decode cX3_setDelimiter 31 = .ok (.invokestatic 183, 3) := by decide +kernel
theorem dX3_setDelimiter_34 : decode cX3_setDelimiter 34 = .ok (.ifCond .ne 9, 3) := by decide +kernel
theorem dX3_setDelimiter_37 : decode cX3_setDelimiter 37 = .ok (.iinc 6 1, 3) := by decide +kernel
theorem dX3_setDelimiter_40 : decode cX3_setDelimiter 40 = .ok (.goto (-21), 3) := by decide +kernel
theorem dX3_setDelimiter_43 : decode cX3_setDelimiter 43 = .ok (.iload 5, 2) := by decide +kernel
theorem dX3_setDelimiter_45 : decode cX3_setDelimiter 45 = .ok (.iload 6, 2) := by decide +kernel
theorem dX3_setDelimiter_47 : decode cX3_setDelimiter 47 = .ok (.iload 4, 2) := by decide +kernel
theorem dX3_setDelimiter_49 : decode cX3_setDelimiter 49 = .ok (.invokestatic 183, 3) := by decide +kernel
theorem dX3_setDelimiter_52 : decode cX3_setDelimiter 52 = .ok (.ifCond .ne 11, 3) := by decide +kernel
theorem dX3_setDelimiter_55 : decode cX3_setDelimiter 55 = .ok (.aload_n 0, 1) := by decide +kernel
theorem dX3_setDelimiter_56 : decode cX3_setDelimiter 56 = .ok (.getfield 21, 3) := by decide +kernel
theorem dX3_setDelimiter_59 : decode cX3_setDelimiter 59 = .ok (.iload_n 2, 1) := by decide +kernel
theorem dX3_setDelimiter_60 : decode cX3_setDelimiter 60 = .ok (.invokevirtual 187, 3) := by decide +kernel
theorem dX3_setDelimiter_63 : decode cX3_setDelimiter 63 = .ok (.iload 5, 2) := by decide +kernel
theorem dX3_setDelimiter_65 : decode cX3_setDelimiter 65 = .ok (.iconst 2, 1) := by decide +kernel
theorem dX3_setDelimiter_66 : decode cX3_setDelimiter 66 = .ok (.aload_n 0, 1) := by decide +kernel
theorem dX3_setDelimiter_67 : decode cX3_setDelimiter 67 = .ok (.getfield 21, 3) := by decide +kernel
theorem dX3_setDelimiter_70 : decode cX3_setDelimiter 70 = .ok (.iload_n 2, 1) := by decide +kernel
theorem dX3_setDelimiter_71 : decode cX3_setDelimiter 71 = .ok (.iconst 5, 1) := by decide +kernel
theorem dX3_setDelimiter_72 : decode cX3_setDelimiter 72 = .ok (.invokevirtual 191, 3) := by decide +kernel
theorem dX3_setDelimiter_75 : decode cX3_setDelimiter 75 = .ok (.iconst 3, 1) := by decide +kernel
theorem dX3_setDelimiter_76 : decode cX3_setDelimiter 76 = .ok (.irem, 1) := by decide +kernel
theorem dX3_setDelimiter_77 : decode cX3_setDelimiter 77 = .ok (.iadd, 1) := by decide +kernel
theorem dX3_setDelimiter_78 : decode cX3_setDelimiter 78 = .ok (.imul, 1) := by decide +kernel
theorem dX3_setDelimiter_79 : decode cX3_setDelimiter 79 = .ok (.istore 7, 2) := by decide +kernel
theorem dX3_setDelimiter_81 : decode cX3_setDelimiter 81 = .ok (.aload_n 0, 1) := by decide +kernel
theorem dX3_setDelimiter_82 : decode cX3_setDelimiter 82 = .ok (.getfield 21, 3) := by decide +kernel
theorem dX3_setDelimiter_85 : decode cX3_setDelimiter 85 = .ok (.iload_n 2, 1) := by decide +kernel
theorem dX3_setDelimiter_86 : decode cX3_setDelimiter 86 = .ok (.iload 6, 2) := by decide +kernel
theorem dX3_setDelimiter_88 : decode cX3_setDelimiter 88 = .ok (.iload 7, 2) := by decide +kernel
theorem dX3_setDelimiter_90 : decode cX3_setDelimiter 90 = .ok (.invokevirtual 137, 3) := by decide +kernel
theorem dX3_setDelimiter_93 : decode cX3_setDelimiter 93 = .ok (.iload 5, 2) := by decide +kernel
theorem dX3_setDelimiter_95 : decode cX3_setDelimiter 95 = .ok (.iload 6, 2) := by decide +kernel
theorem dX3_setDelimiter_97 : decode cX3_setDelimiter 97 = .ok (.invokestatic 194, 3) := by decide +kernel
theorem dX3_setDelimiter_100 : decode cX3_setDelimiter 100 = .ok (.istore 8, 2) := by decide +kernel
theorem dX3_setDelimiter_102 : decode cX3_setDelimiter 102 = .ok (.iload_n 3, 1) := by decide +kernel
theorem dX3_setDelimiter_103 : decode cX3_setDelimiter 103 = .ok (.invokestatic 173, 3) := by decide +kernel
theorem dX3_setDelimiter_106 : decode cX3_setDelimiter 106 = .ok (.iload 8, 2) := by decide +kernel
theorem dX3_setDelimiter_108 : decode cX3_setDelimiter 108 = .ok (.iconst 2, 1) := by decide +kernel
theorem dX3_setDelimiter_109 : decode cX3_setDelimiter 109 = .ok (.idiv, 1) := by decide +kernel
theorem dX3_setDelimiter_110 : decode cX3_setDelimiter 110 = .ok (.iadd, 1) := by decide +kernel
theorem dX3_setDelimiter_111 : decode cX3_setDelimiter 111 = .ok (.istore 9, 2) := by decide +kernel
theorem dX3_setDelimiter_113 : decode cX3_setDelimiter 113 = .ok (.aload_n 0, 1) := by decide +kernel
theorem dX3_setDelimiter_114 : decode cX3_setDelimiter 114 = .ok (.getfield 12, 3) := by decide +kernel
theorem dX3_setDelimiter_117 : decode cX3_setDelimiter 117 = .ok (.iload_n 1, 1) := by decide +kernel
theorem dX3_setDelimiter_118 : decode cX3_setDelimiter 118 = .ok (.iconst 0, 1) := by decide +kernel
theorem dX3_setDelimiter_119 : decode cX3_setDelimiter 119 = .ok (.iload 9, 2) := by decide +kernel
theorem dX3_setDelimiter_121 : decode cX3_setDelimiter 121 = .ok (.iload 8, 2) := by decide +kernel
theorem dX3_setDelimiter_123 : decode cX3_setDelimiter 123 = .ok (.iload 9, 2) := by decide +kernel
theorem dX3_setDelimiter_125 : decode cX3_setDelimiter 125 = .ok (.isub, 1) := by decide +kernel
theorem dX3_setDelimiter_126 : decode cX3_setDelimiter 126 = .ok (.invokevirtual 106, 3) := by decide +kernel
theorem dX3_setDelimiter_129 : decode cX3_setDelimiter 129 = .ok (.iload 7, 2) := by decide +kernel
theorem dX3_setDelimiter_131 : decode cX3_setDelimiter 131 = .ok (.ireturn, 1) := by decide +kernel
theorem dX3_stepHeight_0 : decode cX3_stepHeight 0 = .ok (.iload_n 0, 1) := by decide +kernel
theorem dX3_stepHeight_1 : decode cX3_stepHeight 1 = .ok (.bipush 6, 2) := by decide +kernel
theorem dX3_stepHeight_3 : decode cX3_stepHeight 3 = .ok (.iconst 4, 1) := by decide +kernel
theorem dX3_stepHeight_4 : decode cX3_stepHeight 4 = .ok (.iload_n 1, 1) := by decide +kernel
theorem dX3_stepHeight_5 : decode cX3_stepHeight 5 = .ok (.imul, 1) := by decide +kernel
theorem dX3_stepHeight_6 : decode cX3_stepHeight 6 = .ok (.iadd, 1) := by decide +kernel
theorem dX3_stepHeight_7 : decode cX3_stepHeight 7 = .ok (.imul, 1) := by decide +kernel
theorem dX3_stepHeight_8 : decode cX3_stepHeight 8 = .ok (.ireturn, 1) := by decide +kernel
theorem dX3_reaches_0 : decode cX3_reaches 0 = .ok (.bipush 10, 2) := by decide +kernel
theorem dX3_reaches_2 : decode cX3_reaches 2 = .ok (.iload_n 0, 1) := by decide +kernel
theorem dX3_reaches_3 : decode cX3_reaches 3 = .ok (.iload_n 1, 1) := by decide +kernel
theorem dX3_reaches_4 : decode cX3_reaches 4 = .ok (.invokestatic 194, 3) := by decide +kernel
theorem dX3_reaches_7 : decode cX3_reaches 7 = .ok (.imul, 1) := by decide +kernel
theorem dX3_reaches_8 : decode cX3_reaches 8 = .ok (.bipush 9, 2) := by decide +kernel
theorem dX3_reaches_10 : decode cX3_reaches 10 = .ok (.iload_n 2, 1) := by decide +kernel
theorem dX3_reaches_11 : decode cX3_reaches 11 = .ok (.imul, 1) := by decide +kernel
theorem dX3_reaches_12 : decode cX3_reaches 12 = .ok (.if_icmp .lt 7, 3) := by decide +kernel
theorem dX3_reaches_15 : decode cX3_reaches 15 = .ok (.iconst 1, 1) := by decide +kernel
theorem dX3_reaches_16 : decode cX3_reaches 16 = .ok (.goto 4, 3) := by decide +kernel
theorem dX3_reaches_19 : decode cX3_reaches 19 = .ok (.iconst 0, 1) := by decide +kernel
theorem dX3_reaches_20 : decode cX3_reaches 20 = .ok (.ireturn, 1) := by decide +kernel
theorem dX3_layMatrix_0 : decode cX3_layMatrix 0 = .ok (.aload_n 0, 1) := by decide +kernel
theorem dX3_layMatrix_1 : decode cX3_layMatrix 1 = .ok (.getfield 35, 3) := by decide +kernel
theorem dX3_layMatrix_4 : decode cX3_layMatrix 4 = .ok (.getfield 71, 3) := by decide +kernel
theorem dX3_layMatrix_7 : decode cX3_layMatrix 7 = .ok (.iload_n 1, 1) := by decide +kernel
theorem dX3_layMatrix_8 : decode cX3_layMatrix 8 = .ok (.iaload, 1) := by decide +kernel
theorem dX3_layMatrix_9 : decode cX3_layMatrix 9 = .ok (.istore 4, 2) := by decide +kernel
theorem dX3_layMatrix_11 : decode cX3_layMatrix 11 = .ok (.aload_n 0, 1) := by decide +kernel
theorem dX3_layMatrix_12 : decode cX3_layMatrix 12 = .ok (.getfield 35, 3) := by decide +kernel
theorem dX3_layMatrix_15 : decode cX3_layMatrix 15 = .ok (.getfield 170, 3) := by decide +kernel
theorem dX3_layMatrix_18 : decode cX3_layMatrix 18 = .ok (.iload_n 1, 1) := by decide +kernel
theorem dX3_layMatrix_19 : decode cX3_layMatrix 19 = .ok (.iaload, 1) := by decide +kernel
theorem dX3_layMatrix_20 : decode cX3_layMatrix 20 = .ok (.istore 5, 2) := by decide +kernel
theorem dX3_layMatrix_22 : decode cX3_layMatrix 22 = .ok (.iload_n 2, 1) := by decide +kernel
theorem dX3_layMatrix_23 : decode cX3_layMatrix 23 = .ok (.iconst 1, 1) := by decide +kernel
theorem dX3_layMatrix_24 : decode cX3_layMatrix 24 = .ok (.invokestatic 156, 3) := by decide +kernel
theorem dX3_layMatrix_27 : decode cX3_layMatrix 27 = .ok (.istore 6, 2) := by decide +kernel
theorem dX3_layMatrix_29 : decode cX3_layMatrix 29 = .ok (.iconst 0, 1) := by decide +kernel
theorem dX3_layMatrix_30 : decode cX3_layMatrix 30 = .ok (.istore 7, 2) := by decide +kernel
theorem dX3_layMatrix_32 : decode cX3_layMatrix 32 = .ok (.iload 7, 2) := by decide +kernel
theorem dX3_layMatrix_34 : decode cX3_layMatrix 34 = .ok (.iload 4, 2) := by decide +kernel
theorem dX3_layMatrix_36 : decode cX3_layMatrix 36 = .ok (.iload 5, 2) := by decide +kernel
theorem dX3_layMatrix_38 : decode cX3_layMatrix 38 = .ok (.imul, 1) := by decide +kernel
theorem dX3_layMatrix_39 : decode cX3_layMatrix 39 = .ok (.if_icmp .ge 26, 3) := by decide +kernel
theorem dX3_layMatrix_42 : decode cX3_layMatrix 42 = .ok (.aload_n 0, 1) := by decide +kernel
theorem dX3_layMatrix_43 : decode cX3_layMatrix 43 = .ok (.aload_n 0, 1) := by decide +kernel
theorem dX3_layMatrix_44 : decode cX3_layMatrix 44 = .ok (.iload_n 1, 1) := by decide +kernel
theorem dX3_layMatrix_45 : decode cX3_layMatrix 45 = .ok (.iload 7, 2) := by decide +kernel
theorem dX3_layMatrix_47 : decode cX3_layMatrix 47 = .ok (.invokevirtual 197, 3) := by decide +kernel
theorem dX3_layMatrix_50 : decode cX3_layMatrix 50 = .ok (.iload 6, 2) := by decide +kernel
theorem dX3_layMatrix_52 : decode cX3_layMatrix 52 = .ok (.iconst 0, 1) := by decide +kernel
theorem dX3_layMatrix_53 : decode cX3_layMatrix 53 = .ok (.iload_n 3, 1) := by decide +kernel
theorem dX3_layMatrix_54 : decode cX3_layMatrix 54 = .ok (.iconst 1, 1) := by decide +kernel
theorem dX3_layMatrix_55 : decode cX3_layMatrix 55 = .ok (.iadd, 1) := by decide +kernel
theorem dX3_layMatrix_56 : decode cX3_layMatrix 56 = .ok (.invokevirtual 42, 3) := by decide +kernel
theorem dX3_layMatrix_59 : decode cX3_layMatrix 59 = .ok (.iinc 7 1, 3) := by decide +kernel
theorem dX3_layMatrix_62 : decode cX3_layMatrix 62 = .ok (.goto (-30), 3) := by decide +kernel
theorem dX3_layMatrix_65 : decode cX3_layMatrix 65 = .ok (.iload_n 2, 1) := by decide +kernel
theorem dX3_layMatrix_66 : decode cX3_layMatrix 66 = .ok (.invokestatic 85, 3) := by decide +kernel
theorem dX3_layMatrix_69 : decode cX3_layMatrix 69 = .ok (.istore 7, 2) := by decide +kernel
theorem dX3_layMatrix_71 : decode cX3_layMatrix 71 = .ok (.iconst 2, 1) := by decide +kernel
theorem dX3_layMatrix_72 : decode cX3_layMatrix 72 = .ok (.iload 7, 2) := by decide +kernel
theorem dX3_layMatrix_74 : decode cX3_layMatrix 74 = .ok (.imul, 1) := by decide +kernel
theorem dX3_layMatrix_75 : decode cX3_layMatrix 75 = .ok (.iload 4, 2) := by decide +kernel
theorem dX3_layMatrix_77 : decode cX3_layMatrix 77 = .ok (.iconst 1, 1) := by decide +kernel
theorem dX3_layMatrix_78 : decode cX3_layMatrix 78 = .ok (.isub, 1) := by decide +kernel
theorem dX3_layMatrix_79 : decode cX3_layMatrix 79 = .ok (.imul, 1) := by decide +kernel
theorem dX3_layMatrix_80 : decode cX3_layMatrix 80 = .ok (.istore 8, 2) := by decide +kernel
theorem dX3_layMatrix_82 : decode cX3_layMatrix 82 = .ok (.iconst 0, 1) := by decide +kernel
theorem dX3_layMatrix_83 : decode cX3_layMatrix 83 = .ok (.istore 9, 2) := by decide +kernel
theorem dX3_layMatrix_85 : decode cX3_layMatrix 85 = .ok (.iload 9, 2) := by decide +kernel
theorem dX3_layMatrix_87 : decode cX3_layMatrix 87 = .ok (.iload 4, 2) := by decide +kernel
theorem dX3_layMatrix_89 : decode cX3_layMatrix 89 = .ok (.if_icmp .ge 29, 3) := by decide +kernel
theorem dX3_layMatrix_92 : decode cX3_layMatrix 92 = .ok (.iload 8, 2) := by decide +kernel
theorem dX3_layMatrix_94 : decode cX3_layMatrix 94 = .ok (.aload_n 0, 1) := by decide +kernel
theorem dX3_layMatrix_95 : decode cX3_layMatrix 95 = .ok (.iload_n 1, 1) := by decide +kernel
theorem dX3_layMatrix_96 : decode cX3_layMatrix 96 = .ok (.iload 9, 2) := by decide +kernel
theorem dX3_layMatrix_98 : decode cX3_layMatrix 98 = .ok (.invokevirtual 200, 3) := by decide +kernel
theorem dX3_layMatrix_101 : decode cX3_layMatrix 101 = .ok (.aload_n 0, 1) := by decide +kernel
theorem dX3_layMatrix_102 : decode cX3_layMatrix 102 = .ok (.iload_n 1, 1) := by decide +kernel
theorem dX3_layMatrix_103 : decode cX3_layMatrix 103 = .ok (.iload 9, 2) := by decide +kernel
theorem dX3_layMatrix_105 : decode cX3_layMatrix 105 = .ok (.invokevirtual 203, 3) := by decide +kernel
theorem dX3_layMatrix_108 : decode cX3_layMatrix 108 = .ok (.iadd, 1) := by decide +kernel
theorem dX3_layMatrix_109 : decode cX3_layMatrix 109 = .ok (.iadd, 1) := by decide +kernel
theorem dX3_layMatrix_110 : decode cX3_layMatrix 110 = .ok (.istore 8, 2) := by decide +kernel
theorem dX3_layMatrix_112 : decode cX3_layMatrix 112 = .ok (.iinc 9 1, 3) := by decide +kernel
theorem dX3_layMatrix_115 : decode cX3_layMatrix 115 = .ok (.goto (-30), 3) := by decide +kernel
theorem dX3_layMatrix_118 : decode cX3_layMatrix 118 = .ok (.iload_n 2, 1) := by decide +kernel
theorem dX3_layMatrix_119 : decode cX3_layMatrix 119 = .ok (.invokestatic 173, 3) := by decide +kernel
theorem dX3_layMatrix_122 : decode cX3_layMatrix 122 = .ok (.iload 8, 2) := by decide +kernel
theorem dX3_layMatrix_124 : decode cX3_layMatrix 124 = .ok (.iconst 2, 1) := by decide +kernel
theorem dX3_layMatrix_125 : decode cX3_layMatrix 125 = .ok (.idiv, 1) := by decide +kernel
theorem dX3_layMatrix_126 : decode cX3_layMatrix 126 = .ok (.isub, 1) := by decide +kernel
theorem dX3_layMatrix_127 : decode cX3_layMatrix 127 = .ok (.iload 8, 2) := by decide +kernel
theorem dX3_layMatrix_129 : decode cX3_layMatrix 129 = .ok (.iadd, 1) := by decide +kernel
theorem dX3_layMatrix_130 : decode cX3_layMatrix 130 = .ok (.istore 9, 2) := by decide +kernel
theorem dX3_layMatrix_132 : decode cX3_layMatrix 132 = .ok (.iconst 0, 1) := by decide +kernel
theorem dX3_layMatrix_133 : decode cX3_layMatrix 133 = .ok (.istore 10, 2) := by decide +kernel
theorem dX3_layMatrix_135 : decode cX3_layMatrix 135 = .ok (.iload 10, 2) := by decide +kernel
theorem dX3_layMatrix_137 : decode cX3_layMatrix 137 = .ok (.iload 4, 2) := by decide +kernel
theorem dX3_layMatrix_139 : decode cX3_layMatrix 139 = .ok (.if_icmp .ge 51, 3) := by decide +kernel
theorem dX3_layMatrix_142 : decode cX3_layMatrix 142 = .ok (.iload 9, 2) := by decide +kernel
theorem dX3_layMatrix_144 : decode cX3_layMatrix 144 = .ok (.aload_n 0, 1) := by decide +kernel
theorem dX3_layMatrix_145 : decode cX3_layMatrix 145 = .ok (.iload_n 1, 1) := by decide +kernel
theorem dX3_layMatrix_146 : decode cX3_layMatrix 146 = .ok (.iload 10, 2) := by decide +kernel
theorem dX3_layMatrix_148 : decode cX3_layMatrix 148 = .ok (.invokevirtual 200, 3) := by decide +kernel
theorem dX3_layMatrix_151 : decode cX3_layMatrix 151 = .ok (.isub, 1) := by decide +kernel
theorem dX3_layMatrix_152 : decode cX3_layMatrix 152 = .ok (.istore 11, 2) := by decide +kernel
theorem dX3_layMatrix_154 : decode cX3_layMatrix 154 = .ok (.aload_n 0, 1) := by decide +kernel
theorem dX3_layMatrix_155 : decode cX3_layMatrix 155 = .ok (.iload_n 1, 1) := by decide +kernel
theorem dX3_layMatrix_156 : decode cX3_layMatrix 156 = .ok (.iload 10, 2) := by decide +kernel
theorem dX3_layMatrix_158 : decode cX3_layMatrix 158 = .ok (.iload 11, 2) := by decide +kernel
theorem dX3_layMatrix_160 : decode cX3_layMatrix 160 = .ok (.iconst 3, 1) := by decide +kernel
theorem dX3_layMatrix_161 : decode cX3_layMatrix 161 = .ok (.iload 7, 2) := by decide +kernel
theorem dX3_layMatrix_163 : decode cX3_layMatrix 163 = .ok (.imul, 1) := by decide +kernel
theorem dX3_layMatrix_164 : decode cX3_layMatrix 164 = .ok (.invokevirtual 206, 3) := by decide +kernel
theorem dX3_layMatrix_167 : decode cX3_layMatrix 167 = .ok (.iload 11, 2) := by decide +kernel
theorem dX3_layMatrix_169 : decode cX3_layMatrix 169 = .ok (.aload_n 0, 1) := by decide +kernel
theorem dX3_layMatrix_170 : decode cX3_layMatrix 170 = .ok (.iload_n 1, 1) := by decide +kernel
theorem dX3_layMatrix_171 : decode cX3_layMatrix 171 = .ok (.iload 10, 2) := by decide +kernel
theorem dX3_layMatrix_173 : decode cX3_layMatrix 173 = .ok (.invokevirtual 203, 3) := by decide +kernel
theorem dX3_layMatrix_176 : decode cX3_layMatrix 176 = .ok (.isub, 1) := by decide +kernel
theorem dX3_layMatrix_177 : decode cX3_layMatrix 177 = .ok (.iconst 2, 1) := by decide +kernel
theorem dX3_layMatrix_178 : decode cX3_layMatrix 178 = .ok (.iload 7, 2) := by decide +kernel
theorem dX3_layMatrix_180 : decode cX3_layMatrix 180 = .ok (.imul, 1) := by decide +kernel
theorem dX3_layMatrix_181 : decode cX3_layMatrix 181 = .ok (.isub, 1) := by decide +kernel
theorem dX3_layMatrix_182 : decode cX3_layMatrix 182 = .ok (.istore 9, 2) := by decide +kernel
theorem dX3_layMatrix_184 : decode cX3_layMatrix 184 = .ok (.iinc 10 1, 3) := by decide +kernel
theorem dX3_layMatrix_187 : decode cX3_layMatrix 187 = .ok (.goto (-52), 3) := by decide +kernel
theorem dX3_layMatrix_190 : decode cX3_layMatrix 190 = .ok (.return_, 1) := by decide +kernel
theorem dX3_placeRow_0 : decode cX3_placeRow 0 = .ok (.aload_n 0, 1) := by decide +kernel
theorem dX3_placeRow_1 : decode cX3_placeRow 1 = .ok (.getfield 35, 3) := by decide +kernel
theorem dX3_placeRow_4 : decode cX3_placeRow 4 = .ok (.getfield 170, 3) := by decide +kernel
theorem dX3_placeRow_7 : decode cX3_placeRow 7 = .ok (.iload_n 1, 1) := by decide +kernel
theorem dX3_placeRow_8 : decode cX3_placeRow 8 = .ok (.iaload, 1) := by decide +kernel
theorem dX3_placeRow_9 : decode cX3_placeRow 9 = .ok (.istore 5, 2) := by decide +kernel
theorem dX3_placeRow_11 : decode cX3_placeRow 11 = .ok (.iload_n 1, 1) := by decide +kernel
theorem dX3_placeRow_12 : decode cX3_placeRow 12 = .ok (.invokestatic 96, 3) := by decide +kernel
theorem dX3_placeRow_15 : decode cX3_placeRow 15 = .ok (.istore 6, 2) := by decide +kernel
theorem dX3_placeRow_17 : decode cX3_placeRow 17 = .ok (.iconst 0, 1) := by decide +kernel
theorem dX3_placeRow_18 : decode cX3_placeRow 18 = .ok (.istore 7, 2) := by decide +kernel
theorem dX3_placeRow_20 : decode cX3_placeRow 20 = .ok (.iconst 0, 1) := by decide +kernel
theorem dX3_placeRow_21 : decode cX3_placeRow 21 = .ok (.istore 8, 2) := by decide +kernel
theorem dX3_placeRow_23 : decode cX3_placeRow 23 = .ok (.iload 8, 2) := by decide +kernel
theorem dX3_placeRow_25 : decode cX3_placeRow 25 = .ok (.iload 5, 2) := by decide +kernel
theorem dX3_placeRow_27 : decode cX3_placeRow 27 = .ok (.if_icmp .ge 82, 3) := by decide +kernel
theorem dX3_placeRow_30 : decode cX3_placeRow 30 = .ok (.aload_n 0, 1) := by decide +kernel
theorem dX3_placeRow_31 : decode cX3_placeRow 31 = .ok (.iload_n 1, 1) := by decide +kernel
theorem dX3_placeRow_32 : decode cX3_placeRow 32 = .ok (.iload_n 2, 1) := by decide +kernel
theorem dX3_placeRow_33 : decode cX3_placeRow 33 = .ok (.iload 5, 2) := by decide +kernel
theorem dX3_placeRow_35 : decode cX3_placeRow 35 = .ok (.imul, 1) := by decide +kernel
theorem dX3_placeRow_36 : decode cX3_placeRow 36 = .ok (.iload 8, 2) := by decide +kernel
theorem dX3_placeRow_38 : decode cX3_placeRow 38 = .ok (.iadd, 1) := by decide +kernel
theorem dX3_placeRow_39 : decode cX3_placeRow 39 = .ok (.invokevirtual 197, 3) := by decide +kernel
theorem dX3_placeRow_42 : decode cX3_placeRow 42 = .ok (.istore 9, 2) := by decide +kernel
theorem dX3_placeRow_44 : decode cX3_placeRow 44 = .ok (.aload_n 0, 1) := by decide +kernel
theorem dX3_placeRow_45 : decode cX3_placeRow 45 = .ok (.iload_n 1, 1) := by decide +kernel
theorem dX3_placeRow_46 : decode cX3_placeRow 46 = .ok (.iload 8, 2) := by decide +kernel
theorem dX3_placeRow_48 : decode cX3_placeRow 48 = .ok (.invokevirtual 209, 3) := by decide +kernel
theorem dX3_placeRow_51 : decode cX3_placeRow 51 = .ok (.istore 10, 2) := by decide +kernel
theorem dX3_placeRow_53 : decode cX3_placeRow 53 = .ok (.iload 7, 2) := by decide +kernel
theorem dX3_placeRow_55 : decode cX3_placeRow 55 = .ok (.iload 8, 2) := by decide +kernel
theorem dX3_placeRow_57 : decode cX3_placeRow 57 = .ok (.ifCond .le 8, 3) := by decide +kernel
theorem dX3_placeRow_60 : decode cX3_placeRow 60 = .ok (.iload 4, 2) := by decide +kernel
theorem dX3_placeRow_62 : decode cX3_placeRow 62 = .ok (.goto 4, 3) := by decide +kernel
theorem dX3_placeRow_65 : decode cX3_placeRow 65 = .ok (.iconst 0, 1) := by decide +kernel
theorem dX3_placeRow_66 : decode cX3_placeRow 66 = .ok (.iadd, 1) := by decide +kernel
theorem dX3_placeRow_67 : decode cX3_placeRow 67 = .ok (.istore 7, 2) := by decide +kernel
theorem dX3_placeRow_69 : decode cX3_placeRow 69 = .ok (.aload_n 0, 1) := by decide +kernel
theorem dX3_placeRow_70 : decode cX3_placeRow 70 = .ok (.iload 6, 2) := by decide +kernel
theorem dX3_placeRow_72 : decode cX3_placeRow 72 = .ok (.iload 9, 2) := by decide +kernel
theorem dX3_placeRow_74 : decode cX3_placeRow 74 = .ok (.iload 7, 2) := by decide +kernel
theorem dX3_placeRow_76 : decode cX3_placeRow 76 = .ok (.iload 10, 2) := by decide +kernel
theorem dX3_placeRow_78 : decode cX3_placeRow 78 = .ok (.aload_n 0, 1) := by decide +kernel
theorem dX3_placeRow_79 : decode cX3_placeRow 79 = .ok (.getfield 12, 3) := by decide +kernel
theorem dX3_placeRow_82 : decode cX3_placeRow 82 = .ok (.getfield 46, 3) := by decide +kernel
theorem dX3_placeRow_85 : decode cX3_placeRow 85 = .ok (.iload 9, 2) := by decide +kernel
theorem dX3_placeRow_87 : decode cX3_placeRow 87 = .ok (.iaload, 1) := by decide +kernel
theorem dX3_placeRow_88 : decode cX3_placeRow 88 = .ok (.isub, 1) := by decide +kernel
theorem dX3_placeRow_89 : decode cX3_placeRow 89 = .ok (.iconst 2, 1) := by decide +kernel
theorem dX3_placeRow_90 : decode cX3_placeRow 90 = .ok (.idiv, 1) := by decide +kernel
theorem dX3_placeRow_91 : decode cX3_placeRow 91 = .ok (.iadd, 1) := by decide +kernel
theorem dX3_placeRow_92 : decode cX3_placeRow 92 = .ok (.iload_n 3, 1) := by decide +kernel
theorem dX3_placeRow_93 : decode cX3_placeRow 93 = .ok (.invokevirtual 167, 3) := by decide +kernel
theorem dX3_placeRow_96 : decode cX3_placeRow 96 = .ok (.iload 7, 2) := by decide +kernel
theorem dX3_placeRow_98 : decode cX3_placeRow 98 = .ok (.iload 10, 2) := by decide +kernel
theorem dX3_placeRow_100 : decode cX3_placeRow 100 = .ok (.iadd, 1) := by decide +kernel
theorem dX3_placeRow_101 : decode cX3_placeRow 101 = .ok (.istore 7, 2) := by decide +kernel
theorem dX3_placeRow_103 : decode cX3_placeRow 103 = .ok (.iinc 8 1, 3) := by decide +kernel
theorem dX3_placeRow_106 : decode cX3_placeRow 106 = .ok (.goto (-83), 3) := by decide +kernel
theorem dX3_placeRow_109 : decode cX3_placeRow 109 = .ok (.aload_n 0, 1) := by decide +kernel
theorem dX3_placeRow_110 : decode cX3_placeRow 110 = .ok (.getfield 12, 3) := by decide +kernel
theorem dX3_placeRow_113 : decode cX3_placeRow 113 = .ok (.getfield 46, 3) := by decide +kernel
theorem dX3_placeRow_116 : decode cX3_placeRow 116 = .ok (.iload 6, 2) := by decide +kernel
theorem dX3_placeRow_118 : decode cX3_placeRow 118 = .ok (.iload 7, 2) := by decide +kernel
theorem dX3_placeRow_120 : decode cX3_placeRow 120 = .ok (.iastore, 1) := by decide +kernel
theorem dX3_placeRow_121 : decode cX3_placeRow 121 = .ok (.return_, 1) := by decide +kernel
theorem dX3_cellAt_0 : decode cX3_cellAt 0 = .ok (.aload_n 0, 1) := by decide +kernel
theorem dX3_cellAt_1 : decode cX3_cellAt 1 = .ok (.getfield 35, 3) := by decide +kernel
theorem dX3_cellAt_4 : decode cX3_cellAt 4 = .ok (.getfield 68, 3) := by decide +kernel
theorem dX3_cellAt_7 : decode cX3_cellAt 7 = .ok (.iload_n 1, 1) := by decide +kernel
theorem dX3_cellAt_8 : decode cX3_cellAt 8 = .ok (.iaload, 1) := by decide +kernel
theorem dX3_cellAt_9 : decode cX3_cellAt 9 = .ok (.iload_n 2, 1) := by decide +kernel
theorem dX3_cellAt_10 : decode cX3_cellAt 10 = .ok (.iadd, 1) := by decide +kernel
theorem dX3_cellAt_11 : decode cX3_cellAt 11 = .ok (.istore_n 3, 1) := by decide +kernel
theorem dX3_cellAt_12 : decode cX3_cellAt 12 = .ok (.iload_n 3, 1) := by decide +kernel
theorem dX3_cellAt_13 : decode cX3_cellAt 13 = .ok (.aload_n 0, 1) := by decide +kernel
theorem dX3_cellAt_14 : decode cX3_cellAt 14 = .ok (.getfield 35, 3) := by decide +kernel
theorem dX3_cellAt_17 : decode cX3_cellAt 17 = .ok (.getfield 212, 3) := by decide +kernel
theorem dX3_cellAt_20 : decode cX3_cellAt 20 = .ok (.if_icmp .ge 15, 3) := by decide +kernel
theorem dX3_cellAt_23 : decode cX3_cellAt 23 = .ok (.aload_n 0, 1) := by decide +kernel
theorem dX3_cellAt_24 : decode cX3_cellAt 24 = .ok (.getfield 35, 3) := by decide +kernel
theorem dX3_cellAt_27 : decode cX3_cellAt 27 = .ok (.getfield 215, 3) := by decide +kernel
theorem dX3_cellAt_30 : decode cX3_cellAt 30 = .ok (.iload_n 3, 1) := by decide +kernel
theorem dX3_cellAt_31 : decode cX3_cellAt 31 = .ok (.iaload, 1) := by decide +kernel
theorem dX3_cellAt_32 : decode cX3_cellAt 32 = .ok (.goto 4, 3) := by decide +kernel
theorem dX3_cellAt_35 : decode cX3_cellAt 35 = .ok (.iconst 0, 1) := by decide +kernel
theorem dX3_cellAt_36 : decode cX3_cellAt 36 = .ok (.ireturn, 1) := by decide +kernel
theorem dX3_columnWidth_0 : decode cX3_columnWidth 0 = .ok (.aload_n 0, 1) := by decide +kernel
theorem dX3_columnWidth_1 : decode cX3_columnWidth 1 = .ok (.getfield 35, 3) := by decide +kernel
theorem dX3_columnWidth_4 : decode cX3_columnWidth 4 = .ok (.getfield 71, 3) := by decide +kernel
theorem dX3_columnWidth_7 : decode cX3_columnWidth 7 = .ok (.iload_n 1, 1) := by decide +kernel
theorem dX3_columnWidth_8 : decode cX3_columnWidth 8 = .ok (.iaload, 1) := by decide +kernel
theorem dX3_columnWidth_9 : decode cX3_columnWidth 9 = .ok (.istore_n 3, 1) := by decide +kernel
theorem dX3_columnWidth_10 : decode cX3_columnWidth 10 = .ok (.aload_n 0, 1) := by decide +kernel
theorem dX3_columnWidth_11 : decode cX3_columnWidth 11 = .ok (.getfield 35, 3) := by decide +kernel
theorem dX3_columnWidth_14 : decode cX3_columnWidth 14 = .ok (.getfield 170, 3) := by decide +kernel
theorem dX3_columnWidth_17 : decode cX3_columnWidth 17 = .ok (.iload_n 1, 1) := by decide +kernel
theorem dX3_columnWidth_18 : decode cX3_columnWidth 18 = .ok (.iaload, 1) := by decide +kernel
theorem dX3_columnWidth_19 : decode cX3_columnWidth 19 = .ok (.istore 4, 2) := by decide +kernel
theorem dX3_columnWidth_21 : decode cX3_columnWidth 21 = .ok (.iconst 0, 1) := by decide +kernel
theorem dX3_columnWidth_22 : decode cX3_columnWidth 22 = .ok (.istore 5, 2) := by decide +kernel
theorem dX3_columnWidth_24 : decode cX3_columnWidth 24 = .ok (.iconst 0, 1) := by decide +kernel
theorem dX3_columnWidth_25 : decode cX3_columnWidth 25 = .ok (.istore 6, 2) := by decide +kernel
theorem dX3_columnWidth_27 : decode cX3_columnWidth 27 = .ok (.iload 6, 2) := by decide +kernel
theorem dX3_columnWidth_29 : decode cX3_columnWidth 29 = .ok (.iload_n 3, 1) := by decide +kernel
theorem dX3_columnWidth_30 : decode cX3_columnWidth 30 = .ok (.if_icmp .ge 36, 3) := by decide +kernel
theorem dX3_columnWidth_33 : decode cX3_columnWidth 33 = .ok (.iload 5, 2) := by decide +kernel
theorem dX3_columnWidth_35 : decode cX3_columnWidth 35 = .ok (.aload_n 0, 1) := by decide +kernel
theorem dX3_columnWidth_36 : decode cX3_columnWidth 36 = .ok (.getfield 12, 3) := by decide +kernel
theorem dX3_columnWidth_39 : decode cX3_columnWidth 39 = .ok (.getfield 46, 3) := by decide +kernel
theorem dX3_columnWidth_42 : decode cX3_columnWidth 42 = .ok (.aload_n 0, 1) := by decide +kernel
theorem dX3_columnWidth_43 : decode cX3_columnWidth 43 = .ok (.iload_n 1, 1) := by decide +kernel
theorem dX3_columnWidth_44 : decode cX3_columnWidth 44 = .ok (.iload 6, 2) := by decide +kernel
theorem dX3_columnWidth_46 : decode cX3_columnWidth 46 = .ok (.iload 4, 2) := by decide +kernel
theorem dX3_columnWidth_48 : decode cX3_columnWidth 48 = .ok (.imul, 1) := by decide +kernel
theorem dX3_columnWidth_49 : decode cX3_columnWidth 49 = .ok (.iload_n 2, 1) := by decide +kernel
theorem dX3_columnWidth_50 : decode cX3_columnWidth 50 = .ok (.iadd, 1) := by decide +kernel
theorem dX3_columnWidth_51 : decode cX3_columnWidth 51 = .ok (.invokevirtual 197, 3) := by decide +kernel
theorem dX3_columnWidth_54 : decode cX3_columnWidth 54 = .ok (.iaload, 1) := by decide +kernel
theorem dX3_columnWidth_55 : decode cX3_columnWidth 55 = .ok (.invokestatic 156, 3) := by decide +kernel
theorem dX3_columnWidth_58 : decode cX3_columnWidth 58 = .ok (.istore 5, 2) := by decide +kernel
theorem dX3_columnWidth_60 : decode cX3_columnWidth 60 = .ok (.iinc 6 1, 3) := by decide +kernel
theorem dX3_columnWidth_63 : decode cX3_columnWidth 63 = .ok (.goto (-36), 3) := by decide +kernel
theorem dX3_columnWidth_66 : decode cX3_columnWidth 66 = .ok (.iload 5, 2) := by decide +kernel
theorem dX3_columnWidth_68 : decode cX3_columnWidth 68 = .ok (.ireturn, 1) := by decide +kernel
theorem dX3_rowHeight_0 : decode cX3_rowHeight 0 = .ok (.aload_n 0, 1) := by decide +kernel
theorem dX3_rowHeight_1 : decode cX3_rowHeight 1 = .ok (.iload_n 1, 1) := by decide +kernel
theorem dX3_rowHeight_2 : decode cX3_rowHeight 2 = .ok (.iload_n 2, 1) := by decide +kernel
theorem dX3_rowHeight_3 : decode cX3_rowHeight 3 = .ok (.aload_n 0, 1) := by decide +kernel
theorem dX3_rowHeight_4 : decode cX3_rowHeight 4 = .ok (.getfield 12, 3) := by decide +kernel
theorem dX3_rowHeight_7 : decode cX3_rowHeight 7 = .ok (.getfield 49, 3) := by decide +kernel
theorem dX3_rowHeight_10 : decode cX3_rowHeight 10 = .ok (.invokevirtual 218, 3) := by decide +kernel
theorem dX3_rowHeight_13 : decode cX3_rowHeight 13 = .ok (.ireturn, 1) := by decide +kernel
theorem dX3_rowDepth_0 : decode cX3_rowDepth 0 = .ok (.aload_n 0, 1) := by decide +kernel
theorem dX3_rowDepth_1 : decode cX3_rowDepth 1 = .ok (.iload_n 1, 1) := by decide +kernel
theorem dX3_rowDepth_2 : decode cX3_rowDepth 2 = .ok (.iload_n 2, 1) := by decide +kernel
theorem dX3_rowDepth_3 : decode cX3_rowDepth 3 = .ok (.aload_n 0, 1) := by decide +kernel
theorem dX3_rowDepth_4 : decode cX3_rowDepth 4 = .ok (.getfield 12, 3) := by decide +kernel
theorem dX3_rowDepth_7 : decode cX3_rowDepth 7 = .ok (.getfield 51, 3) := by decide +kernel
theorem dX3_rowDepth_10 : decode cX3_rowDepth 10 = .ok (.invokevirtual 218, 3) := by decide +kernel
theorem dX3_rowDepth_13 : decode cX3_rowDepth 13 = .ok (.ireturn, 1) := by decide +kernel
theorem dX3_mostInRow_0 : decode cX3_mostInRow 0 = .ok (.aload_n 0, 1) := by decide +kernel
theorem dX3_mostInRow_1 : decode cX3_mostInRow 1 = .ok (.getfield 35, 3) := by decide +kernel
theorem dX3_mostInRow_4 : decode cX3_mostInRow 4 = .ok (.getfield 170, 3) := by decide +kernel
theorem dX3_mostInRow_7 : decode cX3_mostInRow 7 = .ok (.iload_n 1, 1) := by decide +kernel
theorem dX3_mostInRow_8 : decode cX3_mostInRow 8 = .ok (.iaload, 1) := by decide +kernel
theorem dX3_mostInRow_9 : decode cX3_mostInRow 9 = .ok (.istore 4, 2) := by decide +kernel
theorem dX3_mostInRow_11 : decode cX3_mostInRow 11 = .ok (.iconst 0, 1) := by decide +kernel
theorem dX3_mostInRow_12 : decode cX3_mostInRow 12 = .ok (.istore 5, 2) := by decide +kernel
theorem dX3_mostInRow_14 : decode cX3_mostInRow 14 = .ok (.iconst 0, 1) := by decide +kernel
theorem dX3_mostInRow_15 : decode cX3_mostInRow 15 = .ok (.istore 6, 2) := by decide +kernel
theorem dX3_mostInRow_17 : decode cX3_mostInRow 17 = .ok (.iload 6, 2) := by decide +kernel
theorem dX3_mostInRow_19 : decode cX3_mostInRow 19 = .ok (.iload 4, 2) := by decide +kernel
theorem dX3_mostInRow_21 : decode cX3_mostInRow 21 = .ok (.if_icmp .ge 30, 3) := by decide +kernel
theorem dX3_mostInRow_24 : decode cX3_mostInRow 24 = .ok (.iload 5, 2) := by decide +kernel
theorem dX3_mostInRow_26 : decode cX3_mostInRow 26 = .ok (.aload_n 3, 1) := by decide +kernel
theorem dX3_mostInRow_27 : decode cX3_mostInRow 27 = .ok (.aload_n 0, 1) := by decide +kernel
theorem dX3_mostInRow_28 : decode cX3_mostInRow 28 = .ok (.iload_n 1, 1) := by decide +kernel
theorem dX3_mostInRow_29 : decode cX3_mostInRow 29 = .ok (.iload_n 2, 1) := by decide +kernel
theorem dX3_mostInRow_30 : decode cX3_mostInRow 30 = .ok (.iload 4, 2) := by decide +kernel
theorem dX3_mostInRow_32 : decode cX3_mostInRow 32 = .ok (.imul, 1) := by decide +kernel
theorem dX3_mostInRow_33 : decode cX3_mostInRow 33 = .ok (.iload 6, 2) := by decide +kernel
theorem dX3_mostInRow_35 : decode cX3_mostInRow 35 = .ok (.iadd, 1) := by decide +kernel
theorem dX3_mostInRow_36 : decode cX3_mostInRow 36 = .ok (.invokevirtual 197, 3) := by decide +kernel
theorem dX3_mostInRow_39 : decode cX3_mostInRow 39 = .ok (.iaload, 1) := by decide +kernel
theorem dX3_mostInRow_40 : decode cX3_mostInRow 40 = .ok (.invokestatic 156, 3) := by decide +kernel
theorem dX3_mostInRow_43 : decode cX3_mostInRow 43 = .ok (.istore 5, 2) := by decide +kernel
theorem dX3_mostInRow_45 : decode cX3_mostInRow 45 = .ok (.iinc 6 1, 3) := by decide +kernel
theorem dX3_mostInRow_48 : decode cX3_mostInRow 48 = .ok (.goto (-31), 3) := by decide +kernel
theorem dX3_mostInRow_51 : decode cX3_mostInRow 51 = .ok (.iload 5, 2) := by decide +kernel
theorem dX3_mostInRow_53 : decode cX3_mostInRow 53 = .ok (.ireturn, 1) := by decide +kernel
theorem dX4_init_0 : decode cX4_init 0 = .ok (.aload_n 0, 1) := by decide +kernel
theorem dX4_init_1 : decode cX4_init 1 = .ok (.invokespecial 3, 3) := by decide +kernel
theorem dX4_init_4 : decode cX4_init 4 = .ok (.aload_n 0, 1) := by decide +kernel
theorem dX4_init_5 : decode cX4_init 5 = .ok (.new 9, 3) := by decide +kernel
theorem dX4_init_8 : decode cX4_init 8 = .ok (.dup, 1) := by decide +kernel
theorem dX4_init_9 : decode cX4_init 9 = .ok (.invokespecial 11, 3) := by decide +kernel
theorem dX4_init_12 : decode cX4_init 12 = .ok (.putfield 12, 3) := by decide +kernel
theorem dX4_init_15 : decode cX4_init 15 = .ok (.aload_n 0, 1) := by decide +kernel
theorem dX4_init_16 : decode cX4_init 16 = .ok (.new 16, 3) := by decide +kernel
theorem dX4_init_19 : decode cX4_init 19 = .ok (.dup, 1) := by decide +kernel
theorem dX4_init_20 : decode cX4_init 20 = .ok (.aload_n 0, 1) := by decide +kernel
theorem dX4_init_21 : decode cX4_init 21 = .ok (.getfield 12, 3) := by decide +kernel
theorem dX4_init_24 : decode cX4_init 24 = .ok (.invokespecial 18, 3) := by decide +kernel
theorem dX4_init_27 : decode cX4_init 27 = .ok (.putfield 21, 3) := by decide +kernel
theorem dX4_init_30 : decode cX4_init 30 = .ok (.return_, 1) := by decide +kernel
theorem dX4_atom_0 : decode cX4_atom 0 = .ok (.iload_n 1, 1) := by decide +kernel
theorem dX4_atom_1 : decode cX4_atom 1 = .ok (.bipush 8, 2) := by decide +kernel
theorem dX4_atom_3 : decode cX4_atom 3 = .ok (.if_icmp .ne 25, 3) := by decide +kernel
theorem dX4_atom_6 : decode cX4_atom 6 = .ok (.aload_n 0, 1) := by decide +kernel
theorem dX4_atom_7 : decode cX4_atom 7 = .ok (.invokevirtual 25, 3) := by decide +kernel
theorem dX4_atom_10 : decode cX4_atom 10 = .ok (.aload_n 0, 1) := by decide +kernel
theorem dX4_atom_11 : decode cX4_atom 11 = .ok (.getfield 12, 3) := by decide +kernel
theorem dX4_atom_14 : decode cX4_atom 14 = .ok (.invokevirtual 28, 3) := by decide +kernel
theorem dX4_atom_17 : decode cX4_atom 17 = .ok (.istore_n 3, 1) := by decide +kernel
theorem dX4_atom_18 : decode cX4_atom 18 = .ok (.aload_n 0, 1) := by decide +kernel
theorem dX4_atom_19 : decode cX4_atom 19 = .ok (.getfield 12, 3) := by decide +kernel
theorem dX4_atom_22 : decode cX4_atom 22 = .ok (.iload_n 3, 1) := by decide +kernel
theorem dX4_atom_23 : decode cX4_atom 23 = .ok (.putfield 32, 3) := by decide +kernel
theorem dX4_atom_26 : decode cX4_atom 26 = .ok (.iload_n 3, 1) := by decide +kernel
theorem dX4_atom_27 : decode cX4_atom 27 = .ok (.ireturn, 1) := by decide +kernel
theorem dX4_atom_28 : decode cX4_atom 28 = .ok (.iload_n 1, 1) := by decide +kernel
theorem dX4_atom_29 : decode cX4_atom 29 = .ok (.invokestatic 36, 3) := by decide +kernel
theorem dX4_atom_32 : decode cX4_atom 32 = .ok (.ifCond .ne 13, 3) := by decide +kernel
theorem dX4_atom_35 : decode cX4_atom 35 = .ok (.new 40, 3) := by decide +kernel
theorem dX4_atom_38 : decode cX4_atom 38 = .ok (.dup, 1) := by decide +kernel
theorem dX4_atom_39 : decode cX4_atom 39 = .ok (.ldc 42, 2) := by decide +kernel
theorem dX4_atom_41 : decode cX4_atom 41 = .ok (.invokespecial 44, 3) := by decide +kernel
theorem dX4_atom_44 : decode cX4_atom 44 = .ok (.athrow, 1) := by decide +kernel
theorem dX4_atom_45 : decode cX4_atom 45 = .ok (.iload_n 2, 1) := by decide +kernel
theorem dX4_atom_46 : decode cX4_atom 46 = .ok (.ifCond .lt 10, 3) := by decide +kernel
theorem dX4_atom_49 : decode cX4_atom 49 = .ok (.iload_n 2, 1) := by decide +kernel
theorem dX4_atom_50 : decode cX4_atom 50 = .ok (.sipush 255, 3) := by decide +kernel
theorem dX4_atom_53 : decode cX4_atom 53 = .ok (.if_icmp .le 13, 3) := by decide +kernel
theorem dX4_atom_56 : decode cX4_atom 56 = .ok (.new 40, 3) := by decide +kernel
theorem dX4_atom_59 : decode cX4_atom 59 = .ok (.dup, 1) := by decide +kernel
theorem dX4_atom_60 : decode cX4_atom 60 = .ok (.ldc 47, 2) := by decide +kernel
theorem dX4_atom_62 : decode cX4_atom 62 = .ok (.invokespecial 44, 3) := by decide +kernel
theorem dX4_atom_65 : decode cX4_atom 65 = .ok (.athrow, 1) := by decide +kernel
theorem dX4_atom_66 : decode cX4_atom 66 = .ok (.aload_n 0, 1) := by decide +kernel
theorem dX4_atom_67 : decode cX4_atom 67 = .ok (.invokevirtual 49, 3) := by decide +kernel
theorem dX4_atom_70 : decode cX4_atom 70 = .ok (.aload_n 0, 1) := by decide +kernel
theorem dX4_atom_71 : decode cX4_atom 71 = .ok (.getfield 12, 3) := by decide +kernel
theorem dX4_atom_74 : decode cX4_atom 74 = .ok (.iconst 0, 1) := by decide +kernel
theorem dX4_atom_75 : decode cX4_atom 75 = .ok (.iload_n 1, 1) := by decide +kernel
theorem dX4_atom_76 : decode cX4_atom 76 = .ok (.iload_n 2, 1) := by decide +kernel
theorem dX4_atom_77 : decode cX4_atom 77 = .ok (.iconst 0, 1) := by decide +kernel
theorem dX4_atom_78 : decode cX4_atom 78 = .ok (.iconst 0, 1) := by decide +kernel
theorem dX4_atom_79 : decode cX4_atom 79 = .ok (.invokevirtual 52, 3) := by decide +kernel
theorem dX4_atom_82 : decode cX4_atom 82 = .ok (.ireturn, 1) := by decide +kernel
theorem dX4_script_0 : decode cX4_script 0 = .ok (.aload_n 0, 1) := by decide +kernel
theorem dX4_script_1 : decode cX4_script 1 = .ok (.iload_n 1, 1) := by decide +kernel
theorem dX4_script_2 : decode cX4_script 2 = .ok (.invokevirtual 56, 3) := by decide +kernel
theorem dX4_script_5 : decode cX4_script 5 = .ok (.aload_n 0, 1) := by decide +kernel
theorem dX4_script_6 : decode cX4_script 6 = .ok (.iload_n 3, 1) := by decide +kernel
theorem dX4_script_7 : decode cX4_script 7 = .ok (.invokevirtual 60, 3) := by decide +kernel
theorem dX4_script_10 : decode cX4_script 10 = .ok (.iload_n 2, 1) := by decide +kernel
theorem dX4_script_11 : decode cX4_script 11 = .ok (.ifCond .eq 13, 3) := by decide +kernel
theorem dX4_script_14 : decode cX4_script 14 = .ok (.aload_n 0, 1) := by decide +kernel
theorem dX4_script_15 : decode cX4_script 15 = .ok (.getfield 12, 3) := by decide +kernel
theorem dX4_script_18 : decode cX4_script 18 = .ok (.getfield 63, 3) := by decide +kernel
theorem dX4_script_21 : decode cX4_script 21 = .ok (.goto 10, 3) := by decide +kernel
theorem dX4_script_24 : decode cX4_script 24 = .ok (.aload_n 0, 1) := by decide +kernel
theorem dX4_script_25 : decode cX4_script 25 = .ok (.getfield 12, 3) := by decide +kernel
theorem dX4_script_28 : decode cX4_script 28 = .ok (.getfield 67, 3) := by decide +kernel
theorem dX4_script_31 : decode cX4_script 31 = .ok (.astore 4, 2) := by decide +kernel
theorem dX4_script_33 : decode cX4_script 33 = .ok (.aload 4, 2) := by decide +kernel
theorem dX4_script_35 : decode cX4_script 35 = .ok (.iload_n 1, 1) := by decide +kernel
theorem dX4_script_36 : decode cX4_script 36 = .ok (.iaload, 1) := by decide +kernel
theorem dX4_script_37 : decode cX4_script 37 = .ok (.iconst (-1), 1) := by decide +kernel
theorem dX4_script_38 : decode cX4_script 38 = .ok (.if_icmp .eq 13, 3) := by decide +kernel
theorem dX4_script_41 : decode cX4_script 41 = .ok (.new 70, 3) := by decide +kernel
theorem dX4_script_44 : decode cX4_script 44 = .ok (.dup, 1) := by decide +kernel
theorem dX4_script_45 : decode cX4_script 45 = .ok (.ldc 72, 2) := by decide +kernel
theorem dX4_script_47 : decode cX4_script 47 = .ok (.invokespecial 74, 3) := by decide +kernel
theorem dX4_script_50 : decode cX4_script 50 = .ok (.athrow, 1) := by decide +kernel
theorem dX4_script_51 : decode cX4_script 51 = .ok (.aload_n 0, 1) := by decide +kernel
theorem dX4_script_52 : decode cX4_script 52 = .ok (.iload_n 3, 1) := by decide +kernel
theorem dX4_script_53 : decode cX4_script 53 = .ok (.aload_n 0, 1) := by decide +kernel
theorem dX4_script_54 : decode cX4_script 54 = .ok (.getfield 12, 3) := by decide +kernel
theorem dX4_script_57 : decode cX4_script 57 = .ok (.getfield 75, 3) := by decide +kernel
theorem dX4_script_60 : decode cX4_script 60 = .ok (.iload_n 1, 1) := by decide +kernel
theorem dX4_script_61 : decode cX4_script 61 = .ok (.iaload, 1) := by decide +kernel
theorem dX4_script_62 : decode cX4_script 62 = .ok (.invokevirtual 78, 3) := by decide +kernel
theorem dX4_script_65 : decode cX4_script 65 = .ok (.aload 4, 2) := by decide +kernel
theorem dX4_script_67 : decode cX4_script 67 = .ok (.iload_n 1, 1) := by decide +kernel
theorem dX4_script_68 : decode cX4_script 68 = .ok (.iload_n 3, 1) := by decide +kernel
theorem dX4_script_69 : decode cX4_script 69 = .ok (.iastore, 1) := by decide +kernel
theorem dX4_script_70 : decode cX4_script 70 = .ok (.aload_n 0, 1) := by decide +kernel
theorem dX4_script_71 : decode cX4_script 71 = .ok (.getfield 12, 3) := by decide +kernel
theorem dX4_script_74 : decode cX4_script 74 = .ok (.getfield 82, 3) := by decide +kernel
theorem dX4_script_77 : decode cX4_script 77 = .ok (.iload_n 3, 1) := by decide +kernel
theorem dX4_script_78 : decode cX4_script 78 = .ok (.iload_n 1, 1) := by decide +kernel
theorem dX4_script_79 : decode cX4_script 79 = .ok (.iastore, 1) := by decide +kernel
theorem dX4_script_80 : decode cX4_script 80 = .ok (.aload_n 0, 1) := by decide +kernel
theorem dX4_script_81 : decode cX4_script 81 = .ok (.getfield 12, 3) := by decide +kernel
theorem dX4_script_84 : decode cX4_script 84 = .ok (.iload_n 1, 1) := by decide +kernel
theorem dX4_script_85 : decode cX4_script 85 = .ok (.invokevirtual 85, 3) := by decide +kernel
theorem dX4_script_88 : decode cX4_script 88 = .ok (.ireturn, 1) := by decide +kernel
theorem dX4_fraction_0 : decode cX4_fraction 0 = .ok (.aload_n 0, 1) := by decide +kernel
theorem dX4_fraction_1 : decode cX4_fraction 1 = .ok (.iload_n 1, 1) := by decide +kernel
theorem dX4_fraction_2 : decode cX4_fraction 2 = .ok (.invokevirtual 60, 3) := by decide +kernel
theorem dX4_fraction_5 : decode cX4_fraction 5 = .ok (.aload_n 0, 1) := by decide +kernel
theorem dX4_fraction_6 : decode cX4_fraction 6 = .ok (.iload_n 2, 1) := by decide +kernel
theorem dX4_fraction_7 : decode cX4_fraction 7 = .ok (.invokevirtual 60, 3) := by decide +kernel
theorem dX4_fraction_10 : decode cX4_fraction 10 = .ok (.lload_n 3, 1) := by decide +kernel
theorem dX4_fraction_11 : decode cX4_fraction 11 = .ok (.ldc2_w 89, 3) := by decide +kernel
theorem dX4_fraction_14 : decode cX4_fraction 14 = .ok (.lcmp, 1) := by decide +kernel
theorem dX4_fraction_15 : decode cX4_fraction 15 = .ok (.ifCond .le 13, 3) := by decide +kernel
theorem dX4_fraction_18 : decode cX4_fraction 18 = .ok (.new 40, 3) := by decide +kernel
theorem dX4_fraction_21 : decode cX4_fraction 21 = .ok (.dup, 1) := by decide +kernel
theorem dX4_fraction_22 : decode cX4_fraction 22 = .ok (.ldc 91, 2) := by decide +kernel
theorem dX4_fraction_24 : decode cX4_fraction 24 = .ok (.invokespecial 44, 3) := by decide +kernel
theorem dX4_fraction_27 : decode cX4_fraction 27 = .ok (.athrow, 1) := by decide +kernel
theorem dX4_fraction_28 : decode cX4_fraction 28 = .ok (.iload_n 1, 1) := by decide +kernel
theorem dX4_fraction_29 : decode cX4_fraction 29 = .ok (.iload_n 2, 1) := by decide +kernel
theorem dX4_fraction_30 : decode cX4_fraction 30 = .ok (.if_icmp .ne 13, 3) := by decide +kernel
theorem dX4_fraction_33 : decode cX4_fraction 33 = .ok (.new 70, 3) := by decide +kernel
theorem dX4_fraction_36 : decode cX4_fraction 36 = .ok (.dup, 1) := by decide +kernel
theorem dX4_fraction_37 : decode cX4_fraction 37 = .ok (.ldc 93, 2) := by decide +kernel
theorem dX4_fraction_39 : decode cX4_fraction 39 = .ok (.invokespecial 74, 3) := by decide +kernel
theorem dX4_fraction_42 : decode cX4_fraction 42 = .ok (.athrow, 1) := by decide +kernel
theorem dX4_fraction_43 : decode cX4_fraction 43 = .ok (.aload_n 0, 1) := by decide +kernel
theorem dX4_fraction_44 : decode cX4_fraction 44 = .ok (.iload_n 1, 1) := by decide +kernel
theorem dX4_fraction_45 : decode cX4_fraction 45 = .ok (.aload_n 0, 1) := by decide +kernel
theorem dX4_fraction_46 : decode cX4_fraction 46 = .ok (.getfield 12, 3) := by decide +kernel
theorem dX4_fraction_49 : decode cX4_fraction 49 = .ok (.getfield 32, 3) := by decide +kernel
theorem dX4_fraction_52 : decode cX4_fraction 52 = .ok (.invokevirtual 78, 3) := by decide +kernel
theorem dX4_fraction_55 : decode cX4_fraction 55 = .ok (.aload_n 0, 1) := by decide +kernel
theorem dX4_fraction_56 : decode cX4_fraction 56 = .ok (.iload_n 2, 1) := by decide +kernel
theorem dX4_fraction_57 : decode cX4_fraction 57 = .ok (.aload_n 0, 1) := by decide +kernel
theorem dX4_fraction_58 : decode cX4_fraction 58 = .ok (.getfield 12, 3) := by decide +kernel
theorem dX4_fraction_61 : decode cX4_fraction 61 = .ok (.getfield 32, 3) := by decide +kernel
theorem dX4_fraction_64 : decode cX4_fraction 64 = .ok (.invokevirtual 78, 3) := by decide +kernel
theorem dX4_fraction_67 : decode cX4_fraction 67 = .ok (.aload_n 0, 1) := by decide +kernel
theorem dX4_fraction_68 : decode cX4_fraction 68 = .ok (.invokevirtual 49, 3) := by decide +kernel
theorem dX4_fraction_71 : decode cX4_fraction 71 = .ok (.aload_n 0, 1) := by decide +kernel
theorem dX4_fraction_72 : decode cX4_fraction 72 = .ok (.getfield 12, 3) := by decide +kernel
theorem dX4_fraction_75 : decode cX4_fraction 75 = .ok (.iconst 1, 1) := by decide +kernel
theorem dX4_fraction_76 : decode cX4_fraction 76 = .ok (.bipush 7, 2) := by decide +kernel
theorem dX4_fraction_78 : decode cX4_fraction 78 = .ok (.iload_n 1, 1) := by decide +kernel
theorem dX4_fraction_79 : decode cX4_fraction 79 = .ok (.iload_n 2, 1) := by decide +kernel
theorem dX4_fraction_80 : decode cX4_fraction 80 = .ok (.lload_n 3, 1) := by decide +kernel
theorem dX4_fraction_81 : decode cX4_fraction 81 = .ok (.lconst 0, 1) := by decide +kernel
theorem dX4_fraction_82 : decode cX4_fraction 82 = .ok (.lcmp, 1) := by decide +kernel
theorem dX4_fraction_83 : decode cX4_fraction 83 = .ok (.ifCond .ge 7, 3) := by decide +kernel
theorem dX4_fraction_86 : decode cX4_fraction 86 = .ok (.iconst (-1), 1) := by decide +kernel
theorem dX4_fraction_87 : decode cX4_fraction 87 = .ok (.goto 5, 3) := by decide +kernel
theorem dX4_fraction_90 : decode cX4_fraction 90 = .ok (.lload_n 3, 1) := by decide +kernel
theorem dX4_fraction_91 : decode cX4_fraction 91 = .ok (.l2i, 1) := by decide +kernel
theorem dX4_fraction_92 : decode cX4_fraction 92 = .ok (.invokevirtual 52, 3) := by decide +kernel
theorem dX4_fraction_95 : decode cX4_fraction 95 = .ok (.istore 5, 2) := by decide +kernel
theorem dX4_fraction_97 : decode cX4_fraction 97 = .ok (.aload_n 0, 1) := by decide +kernel
theorem dX4_fraction_98 : decode cX4_fraction 98 = .ok (.getfield 12, 3) := by decide +kernel
theorem dX4_fraction_101 : decode cX4_fraction 101 = .ok (.getfield 82, 3) := by decide +kernel
theorem dX4_fraction_104 : decode cX4_fraction 104 = .ok (.iload_n 1, 1) := by decide +kernel
theorem dX4_fraction_105 : decode cX4_fraction 105 = .ok (.iload 5, 2) := by decide +kernel
theorem dX4_fraction_107 : decode cX4_fraction 107 = .ok (.iastore, 1) := by decide +kernel
theorem dX4_fraction_108 : decode cX4_fraction 108 = .ok (.aload_n 0, 1) := by decide +kernel
theorem dX4_fraction_109 : decode cX4_fraction 109 = .ok (.getfield 12, 3) := by decide +kernel
theorem dX4_fraction_112 : decode cX4_fraction 112 = .ok (.getfield 82, 3) := by decide +kernel
theorem dX4_fraction_115 : decode cX4_fraction 115 = .ok (.iload_n 2, 1) := by decide +kernel
theorem dX4_fraction_116 : decode cX4_fraction 116 = .ok (.iload 5, 2) := by decide +kernel
theorem dX4_fraction_118 : decode cX4_fraction 118 = .ok (.iastore, 1) := by decide +kernel
theorem dX4_fraction_119 : decode cX4_fraction 119 = .ok (.iload 5, 2) := by decide +kernel
theorem dX4_fraction_121 : decode cX4_fraction 121 = .ok (.ireturn, 1) := by decide +kernel
theorem dX4_fence_0 : decode cX4_fence 0 = .ok (.aload_n 0, 1) := by decide +kernel
theorem dX4_fence_1 : decode cX4_fence 1 = .ok (.iload_n 2, 1) := by decide +kernel
theorem dX4_fence_2 : decode cX4_fence 2 = .ok (.invokevirtual 60, 3) := by decide +kernel
theorem dX4_fence_5 : decode cX4_fence 5 = .ok (.iload_n 1, 1) := by decide +kernel
theorem dX4_fence_6 : decode cX4_fence 6 = .ok (.ifCond .lt 17, 3) := by decide +kernel
theorem dX4_fence_9 : decode cX4_fence 9 = .ok (.iload_n 1, 1) := by decide +kernel
theorem dX4_fence_10 : decode cX4_fence 10 = .ok (.iconst 5, 1) := by decide +kernel
theorem dX4_fence_11 : decode cX4_fence 11 = .ok (.if_icmp .gt 12, 3) := by decide +kernel
theorem dX4_fence_14 : decode cX4_fence 14 = .ok (.iload_n 3, 1) := by decide +kernel
theorem dX4_fence_15 : decode cX4_fence 15 = .ok (.ifCond .lt 8, 3) := by decide +kernel
theorem dX4_fence_18 : decode cX4_fence 18 = .ok (.iload_n 3, 1) := by decide +kernel
theorem dX4_fence_19 : decode cX4_fence 19 = .ok (.iconst 5, 1) := by decide +kernel
theorem dX4_fence_20 : decode cX4_fence 20 = .ok (.if_icmp .le 13, 3) := by decide +kernel
theorem dX4_fence_23 : decode cX4_fence 23 = .ok (.new 40, 3) := by decide +kernel
theorem dX4_fence_26 : decode cX4_fence 26 = .ok (.dup, 1) := by decide +kernel
theorem dX4_fence_27 : decode cX4_fence 27 = .ok (.ldc 95, 2) := by decide +kernel
theorem dX4_fence_29 : decode cX4_fence 29 = .ok (.invokespecial 44, 3) := by decide +kernel
theorem dX4_fence_32 : decode cX4_fence 32 = .ok (.athrow, 1) := by decide +kernel
theorem dX4_fence_33 : decode cX4_fence 33 = .ok (.aload_n 0, 1) := by decide +kernel
theorem dX4_fence_34 : decode cX4_fence 34 = .ok (.iload_n 2, 1) := by decide +kernel
theorem dX4_fence_35 : decode cX4_fence 35 = .ok (.aload_n 0, 1) := by decide +kernel
theorem dX4_fence_36 : decode cX4_fence 36 = .ok (.getfield 12, 3) := by decide +kernel
theorem dX4_fence_39 : decode cX4_fence 39 = .ok (.getfield 32, 3) := by decide +kernel
theorem dX4_fence_42 : decode cX4_fence 42 = .ok (.invokevirtual 78, 3) := by decide +kernel
theorem dX4_fence_45 : decode cX4_fence 45 = .ok (.aload_n 0, 1) := by decide +kernel
theorem dX4_fence_46 : decode cX4_fence 46 = .ok (.invokevirtual 49, 3) := by decide +kernel
theorem dX4_fence_49 : decode cX4_fence 49 = .ok (.iload_n 1, 1) := by decide +kernel
theorem dX4_fence_50 : decode cX4_fence 50 = .ok (.iload_n 3, 1) := by decide +kernel
theorem dX4_fence_51 : decode cX4_fence 51 = .ok (.invokestatic 97, 3) := by decide +kernel
theorem dX4_fence_54 : decode cX4_fence 54 = .ok (.ifCond .ne 5, 3) := by decide +kernel
theorem dX4_fence_57 : decode cX4_fence 57 = .ok (.iconst 0, 1) := by decide +kernel
theorem dX4_fence_58 : decode cX4_fence 58 = .ok (.ireturn, 1) := by decide +kernel
theorem dX4_fence_59 : decode cX4_fence 59 = .ok (.aload_n 0, 1) := by decide +kernel
theorem dX4_fence_60 : decode cX4_fence 60 = .ok (.getfield 12, 3) := by decide +kernel
theorem dX4_fence_63 : decode cX4_fence 63 = .ok (.iconst 2, 1) := by decide +kernel
theorem dX4_fence_64 : decode cX4_fence 64 = .ok (.bipush 7, 2) := by decide +kernel
theorem dX4_fence_66 : decode cX4_fence 66 = .ok (.iload_n 1, 1) := by decide +kernel
theorem dX4_fence_67 : decode cX4_fence 67 = .ok (.iload_n 2, 1) := by decide +kernel
theorem dX4_fence_68 : decode cX4_fence 68 = .ok (.iload_n 3, 1) := by decide +kernel
theorem dX4_fence_69 : decode cX4_fence 69 = .ok (.invokevirtual 52, 3) := by decide +kernel
theorem dX4_fence_72 : decode cX4_fence 72 = .ok (.istore 4, 2) := by decide +kernel
theorem dX4_fence_74 : decode cX4_fence 74 = .ok (.aload_n 0, 1) := by decide +kernel
theorem dX4_fence_75 : decode cX4_fence 75 = .ok (.getfield 12, 3) := by decide +kernel
theorem dX4_fence_78 : decode cX4_fence 78 = .ok (.getfield 82, 3) := by decide +kernel
theorem dX4_fence_81 : decode cX4_fence 81 = .ok (.iload_n 2, 1) := by decide +kernel
theorem dX4_fence_82 : decode cX4_fence 82 = .ok (.iload 4, 2) := by decide +kernel
theorem dX4_fence_84 : decode cX4_fence 84 = .ok (.iastore, 1) := by decide +kernel
theorem dX4_fence_85 : decode cX4_fence 85 = .ok (.iload 4, 2) := by decide +kernel
theorem dX4_fence_87 : decode cX4_fence 87 = .ok (.iconst 1, 1) := by decide +kernel
theorem dX4_fence_88 : decode cX4_fence 88 = .ok (.iadd, 1) := by decide +kernel
theorem dX4_fence_89 : decode cX4_fence 89 = .ok (.ireturn, 1) := by decide +kernel
theorem dX4_matrix_0 : decode cX4_matrix 0 = .ok (.aload_n 0, 1) := by decide +kernel
theorem dX4_matrix_1 : decode cX4_matrix 1 = .ok (.invokevirtual 49, 3) := by decide +kernel
theorem dX4_matrix_4 : decode cX4_matrix 4 = .ok (.iload_n 1, 1) := by decide +kernel
theorem dX4_matrix_5 : decode cX4_matrix 5 = .ok (.iconst 1, 1) := by decide +kernel
theorem dX4_matrix_6 : decode cX4_matrix 6 = .ok (.if_icmp .lt 18, 3) := by decide +kernel
theorem dX4_matrix_9 : decode cX4_matrix 9 = .ok (.iload_n 1, 1) := by decide +kernel
theorem dX4_matrix_10 : decode cX4_matrix 10 = .ok (.iconst 5, 1) := by decide +kernel
theorem dX4_matrix_11 : decode cX4_matrix 11 = .ok (.if_icmp .gt 13, 3) := by decide +kernel
theorem dX4_matrix_14 : decode cX4_matrix 14 = .ok (.iload_n 2, 1) := by decide +kernel
theorem dX4_matrix_15 : decode cX4_matrix 15 = .ok (.iconst 1, 1) := by decide +kernel
theorem dX4_matrix_16 : decode cX4_matrix 16 = .ok (.if_icmp .lt 8, 3) := by decide +kernel
theorem dX4_matrix_19 : decode cX4_matrix 19 = .ok (.iload_n 2, 1) := by decide +kernel
theorem dX4_matrix_20 : decode cX4_matrix 20 = .ok (.iconst 5, 1) := by decide +kernel
theorem dX4_matrix_21 : decode cX4_matrix 21 = .ok (.if_icmp .le 5, 3) := by decide +kernel
theorem dX4_matrix_24 : decode cX4_matrix 24 = .ok (.iconst 0, 1) := by decide +kernel
theorem dX4_matrix_25 : decode cX4_matrix 25 = .ok (.ireturn, 1) := by decide +kernel
theorem dX4_matrix_26 : decode cX4_matrix 26 = .ok (.aload_n 0, 1) := by decide +kernel
theorem dX4_matrix_27 : decode cX4_matrix 27 = .ok (.getfield 12, 3) := by decide +kernel
theorem dX4_matrix_30 : decode cX4_matrix 30 = .ok (.iload_n 1, 1) := by decide +kernel
theorem dX4_matrix_31 : decode cX4_matrix 31 = .ok (.iload_n 2, 1) := by decide +kernel
theorem dX4_matrix_32 : decode cX4_matrix 32 = .ok (.imul, 1) := by decide +kernel
theorem dX4_matrix_33 : decode cX4_matrix 33 = .ok (.invokevirtual 101, 3) := by decide +kernel
theorem dX4_matrix_36 : decode cX4_matrix 36 = .ok (.istore_n 3, 1) := by decide +kernel
theorem dX4_matrix_37 : decode cX4_matrix 37 = .ok (.iload_n 3, 1) := by decide +kernel
theorem dX4_matrix_38 : decode cX4_matrix 38 = .ok (.iconst (-1), 1) := by decide +kernel
theorem dX4_matrix_39 : decode cX4_matrix 39 = .ok (.if_icmp .eq 14, 3) := by decide +kernel
theorem dX4_matrix_42 : decode cX4_matrix 42 = .ok (.aload_n 0, 1) := by decide +kernel
theorem dX4_matrix_43 : decode cX4_matrix 43 = .ok (.getfield 12, 3) := by decide +kernel
theorem dX4_matrix_46 : decode cX4_matrix 46 = .ok (.iload_n 3, 1) := by decide +kernel
theorem dX4_matrix_47 : decode cX4_matrix 47 = .ok (.invokevirtual 104, 3) := by decide +kernel
theorem dX4_matrix_50 : decode cX4_matrix 50 = .ok (.ifCond .eq 5, 3) := by decide +kernel
theorem dX4_matrix_53 : decode cX4_matrix 53 = .ok (.iconst 0, 1) := by decide +kernel
theorem dX4_matrix_54 : decode cX4_matrix 54 = .ok (.ireturn, 1) := by decide +kernel
theorem dX4_matrix_55 : decode cX4_matrix 55 = .ok (.aload_n 0, 1) := by decide +kernel
theorem dX4_matrix_56 : decode cX4_matrix 56 = .ok (.getfield 12, 3) := by decide +kernel
theorem dX4_matrix_59 : decode cX4_matrix 59 = .ok (.iconst 3, 1) := by decide +kernel
theorem dX4_matrix_60 : decode cX4_matrix 60 = .ok (.bipush 7, 2) := by decide +kernel
theorem dX4_matrix_62 : decode cX4_matrix 62 = .ok (.aload_n 0, 1) := by decide +kernel
theorem dX4_matrix_63 : decode cX4_matrix 63 = .ok (.getfield 12, 3) := by decide +kernel
theorem dX4_matrix_66 : decode cX4_matrix 66 = .ok (.getfield 107, 3) := by decide +kernel
theorem dX4_matrix_69 : decode cX4_matrix 69 = .ok (.iload_n 1, 1) := by decide +kernel
theorem dX4_matrix_70 : decode cX4_matrix 70 = .ok (.iload_n 2, 1) := by decide +kernel
theorem dX4_matrix_71 : decode cX4_matrix 71 = .ok (.invokevirtual 52, 3) := by decide +kernel
theorem dX4_matrix_74 : decode cX4_matrix 74 = .ok (.istore 4, 2) := by decide +kernel
theorem dX4_matrix_76 : decode cX4_matrix 76 = .ok (.aload_n 0, 1) := by decide +kernel
theorem dX4_matrix_77 : decode cX4_matrix 77 = .ok (.getfield 12, 3) := by decide +kernel
theorem dX4_matrix_80 : decode cX4_matrix 80 = .ok (.iload_n 3, 1) := by decide +kernel
theorem dX4_matrix_81 : decode cX4_matrix 81 = .ok (.iload 4, 2) := by decide +kernel
theorem dX4_matrix_83 : decode cX4_matrix 83 = .ok (.invokevirtual 110, 3) := by decide +kernel
theorem dX4_matrix_86 : decode cX4_matrix 86 = .ok (.iload 4, 2) := by decide +kernel
theorem dX4_matrix_88 : decode cX4_matrix 88 = .ok (.iconst 1, 1) := by decide +kernel
theorem dX4_matrix_89 : decode cX4_matrix 89 = .ok (.iadd, 1) := by decide +kernel
theorem dX4_matrix_90 : decode cX4_matrix 90 = .ok (.ireturn, 1) := by decide +kernel
theorem dX4_style_0 : decode cX4_style 0 = .ok (.iload_n 1, 1) := by decide +kernel
theorem dX4_style_1 : decode cX4_style 1 = .ok (.ifCond .lt 8, 3) := by decide +kernel
theorem dX4_style_4 : decode cX4_style 4 = .ok (.iload_n 1, 1) := by decide +kernel
theorem dX4_style_5 : decode cX4_style 5 = .ok (.iconst 3, 1) := by decide +kernel
theorem dX4_style_6 : decode cX4_style 6 = .ok (.if_icmp .le 13, 3) := by decide +kernel
theorem dX4_style_9 : decode cX4_style 9 = .ok (.new 40, 3) := by decide +kernel
theorem dX4_style_12 : decode cX4_style 12 = .ok (.dup, 1) := by decide +kernel
theorem dX4_style_13 : decode cX4_style 13 = .ok (.ldc 113, 2) := by decide +kernel
theorem dX4_style_15 : decode cX4_style 15 = .ok (.invokespecial 44, 3) := by decide +kernel
theorem dX4_style_18 : decode cX4_style 18 = .ok (.athrow, 1) := by decide +kernel
theorem dX4_style_19 : decode cX4_style 19 = .ok (.aload_n 0, 1) := by decide +kernel
theorem dX4_style_20 : decode cX4_style 20 = .ok (.invokevirtual 49, 3) := by decide +kernel
theorem dX4_style_23 : decode cX4_style 23 = .ok (.aload_n 0, 1) := by decide +kernel
theorem dX4_style_24 : decode cX4_style 24 = .ok (.getfield 12, 3) := by decide +kernel
theorem dX4_style_27 : decode cX4_style 27 = .ok (.iconst 4, 1) := by decide +kernel
theorem dX4_style_28 : decode cX4_style 28 = .ok (.iconst 0, 1) := by decide +kernel
theorem dX4_style_29 : decode cX4_style 29 = .ok (.iload_n 1, 1) := by decide +kernel
theorem dX4_style_30 : decode cX4_style 30 = .ok (.iload_n 2, 1) := by decide +kernel
theorem dX4_style_31 : decode cX4_style 31 = .ok (.ifCond .eq 7, 3) := by decide +kernel
theorem dX4_style_34 : decode cX4_style 34 = .ok (.iconst 1, 1) := by decide +kernel
theorem dX4_style_35 : decode cX4_style 35 = .ok (.goto 4, 3) := by decide +kernel
theorem dX4_style_38 : decode cX4_style 38 = .ok (.iconst 0, 1) := by decide +kernel
theorem dX4_style_39 : decode cX4_style 39 = .ok (.iconst 0, 1) := by decide +kernel
theorem dX4_style_40 : decode cX4_style 40 = .ok (.invokevirtual 52, 3) := by decide +kernel
theorem dX4_style_43 : decode cX4_style 43 = .ok (.ireturn, 1) := by decide +kernel
theorem dX4_run_0 : decode cX4_run 0 = .ok (.aload_n 0, 1) := by decide +kernel
theorem dX4_run_1 : decode cX4_run 1 = .ok (.iload_n 1, 1) := by decide +kernel
theorem dX4_run_2 : decode cX4_run 2 = .ok (.invokevirtual 60, 3) := by decide +kernel
theorem dX4_run_5 : decode cX4_run 5 = .ok (.aload_n 0, 1) := by decide +kernel
theorem dX4_run_6 : decode cX4_run 6 = .ok (.getfield 21, 3) := by decide +kernel
theorem dX4_run_9 : decode cX4_run 9 = .ok (.iload_n 1, 1) := by decide +kernel
theorem dX4_run_10 : decode cX4_run 10 = .ok (.invokevirtual 115, 3) := by decide +kernel
theorem dX4_run_13 : decode cX4_run 13 = .ok (.aload_n 0, 1) := by decide +kernel
theorem dX4_run_14 : decode cX4_run 14 = .ok (.getfield 21, 3) := by decide +kernel
theorem dX4_run_17 : decode cX4_run 17 = .ok (.getfield 118, 3) := by decide +kernel
theorem dX4_run_20 : decode cX4_run 20 = .ok (.getfield 122, 3) := by decide +kernel
theorem dX4_run_23 : decode cX4_run 23 = .ok (.ireturn, 1) := by decide +kernel
theorem dX4_item_0 : decode cX4_item 0 = .ok (.iload_n 1, 1) := by decide +kernel
theorem dX4_item_1 : decode cX4_item 1 = .ok (.iconst (-1), 1) := by decide +kernel
theorem dX4_item_2 : decode cX4_item 2 = .ok (.if_icmp .ne 49, 3) := by decide +kernel
theorem dX4_item_5 : decode cX4_item 5 = .ok (.iload_n 2, 1) := by decide +kernel
theorem dX4_item_6 : decode cX4_item 6 = .ok (.ifCond .lt 45, 3) := by decide +kernel
theorem dX4_item_9 : decode cX4_item 9 = .ok (.iload_n 2, 1) := by decide +kernel
theorem dX4_item_10 : decode cX4_item 10 = .ok (.iconst 2, 1) := by decide +kernel
theorem dX4_item_11 : decode cX4_item 11 = .ok (.if_icmp .gt 40, 3) := by decide +kernel
theorem dX4_item_14 : decode cX4_item 14 = .ok (.iload_n 2, 1) := by decide +kernel
theorem dX4_item_15 : decode cX4_item 15 = .ok (.ifCond .ne 13, 3) := by decide +kernel
theorem dX4_item_18 : decode cX4_item 18 = .ok (.aload_n 0, 1) := by decide +kernel
theorem dX4_item_19 : decode cX4_item 19 = .ok (.getfield 21, 3) := by decide +kernel
theorem dX4_item_22 : decode cX4_item 22 = .ok (.getfield 127, 3) := by decide +kernel
theorem dX4_item_25 : decode cX4_item 25 = .ok (.goto 25, 3) := by decide +kernel
theorem dX4_item_28 : decode cX4_item 28 = .ok (.iload_n 2, 1) := by decide +kernel
theorem dX4_item_29 : decode cX4_item 29 = .ok (.iconst 1, 1) := by decide +kernel
theorem dX4_item_30 : decode cX4_item 30 = .ok (.if_icmp .ne 13, 3) := by decide +kernel
theorem dX4_item_33 : decode cX4_item 33 = .ok (.aload_n 0, 1) := by decide +kernel
theorem dX4_item_34 : decode cX4_item 34 = .ok (.getfield 21, 3) := by decide +kernel
theorem dX4_item_37 : decode cX4_item 37 = .ok (.getfield 130, 3) := by decide +kernel
theorem dX4_item_40 : decode cX4_item 40 = .ok (.goto 10, 3) := by decide +kernel
theorem dX4_item_43 : decode cX4_item 43 = .ok (.aload_n 0, 1) := by decide +kernel
theorem dX4_item_44 : decode cX4_item 44 = .ok (.getfield 21, 3) := by decide +kernel
theorem dX4_item_47 : decode cX4_item 47 = .ok (.getfield 133, 3) := by decide +kernel
theorem dX4_item_50 : decode cX4_item 50 = .ok (.ireturn, 1) := by decide +kernel
theorem dX4_item_51 : decode cX4_item 51 = .ok (.aload_n 0, 1) := by decide +kernel
theorem dX4_item_52 : decode cX4_item 52 = .ok (.getfield 21, 3) := by decide +kernel
theorem dX4_item_55 : decode cX4_item 55 = .ok (.getfield 118, 3) := by decide +kernel
theorem dX4_item_58 : decode cX4_item 58 = .ok (.iload_n 1, 1) := by decide +kernel
theorem dX4_item_59 : decode cX4_item 59 = .ok (.invokevirtual 136, 3) := by decide +kernel
theorem dX4_item_62 : decode cX4_item 62 = .ok (.ifCond .eq 13, 3) := by decide +kernel
theorem dX4_item_65 : decode cX4_item 65 = .ok (.iload_n 2, 1) := by decide +kernel
theorem dX4_item_66 : decode cX4_item 66 = .ok (.ifCond .lt 9, 3) := by decide +kernel
theorem dX4_item_69 : decode cX4_item 69 = .ok (.iload_n 2, 1) := by decide +kernel
theorem dX4_item_70 : decode cX4_item 70 = .ok (.bipush 8, 2) := by decide +kernel
theorem dX4_item_72 : decode cX4_item 72 = .ok (.if_icmp .lt 13, 3) := by decide +kernel
theorem dX4_item_75 : decode cX4_item 75 = .ok (.new 139, 3) := by decide +kernel
theorem dX4_item_78 : decode cX4_item 78 = .ok (.dup, 1) := by decide +kernel
theorem dX4_item_79 : decode cX4_item 79 = .ok (.ldc 141, 2) := by decide +kernel
theorem dX4_item_81 : decode cX4_item 81 = .ok (.invokespecial 143, 3) := by decide +kernel
theorem dX4_item_84 : decode cX4_item 84 = .ok (.athrow, 1) := by decide +kernel
theorem dX4_item_85 : decode cX4_item 85 = .ok (.aload_n 0, 1) := by decide +kernel
theorem dX4_item_86 : decode cX4_item 86 = .ok (.getfield 21, 3) := by decide +kernel
theorem dX4_item_89 : decode cX4_item 89 = .ok (.getfield 118, 3) := by decide +kernel
theorem dX4_item_92 : decode cX4_item 92 = .ok (.iload_n 1, 1) := by decide +kernel
theorem dX4_item_93 : decode cX4_item 93 = .ok (.iload_n 2, 1) := by decide +kernel
theorem dX4_item_94 : decode cX4_item 94 = .ok (.invokevirtual 144, 3) := by decide +kernel
theorem dX4_item_97 : decode cX4_item 97 = .ok (.ireturn, 1) := by decide +kernel
theorem dX4_space_0 : decode cX4_space 0 = .ok (.iload_n 1, 1) := by decide +kernel
theorem dX4_space_1 : decode cX4_space 1 = .ok (.invokestatic 36, 3) := by decide +kernel
theorem dX4_space_4 : decode cX4_space 4 = .ok (.ifCond .eq 10, 3) := by decide +kernel
theorem dX4_space_7 : decode cX4_space 7 = .ok (.iload_n 2, 1) := by decide +kernel
theorem dX4_space_8 : decode cX4_space 8 = .ok (.invokestatic 36, 3) := by decide +kernel
theorem dX4_space_11 : decode cX4_space 11 = .ok (.ifCond .ne 13, 3) := by decide +kernel
theorem dX4_space_14 : decode cX4_space 14 = .ok (.new 40, 3) := by decide +kernel
theorem dX4_space_17 : decode cX4_space 17 = .ok (.dup, 1) := by decide +kernel
theorem dX4_space_18 : decode cX4_space 18 = .ok (.ldc 42, 2) := by decide +kernel
theorem dX4_space_20 : decode cX4_space 20 = .ok (.invokespecial 44, 3) := by decide +kernel
theorem dX4_space_23 : decode cX4_space 23 = .ok (.athrow, 1) := by decide +kernel
theorem dX4_space_24 : decode cX4_space 24 = .ok (.iload_n 1, 1) := by decide +kernel
theorem dX4_space_25 : decode cX4_space 25 = .ok (.iload_n 2, 1) := by decide +kernel
