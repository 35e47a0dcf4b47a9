theorem d_join_19 : decode prog_1_method_13_code 19 = .ok (.if_icmp .le 5, 3) := by decide +kernel
theorem d_join_22 : decode prog_1_method_13_code 22 = .ok (.iconst (-1), 1) := by decide +kernel
theorem d_join_23 : decode prog_1_method_13_code 23 = .ok (.ireturn, 1) := by decide +kernel
theorem d_join_24 : decode prog_1_method_13_code 24 = .ok (.aload_n 0, 1) := by decide +kernel
theorem d_join_25 : decode prog_1_method_13_code 25 = .ok (.getfield 34, 3) := by decide +kernel
theorem d_join_28 : decode prog_1_method_13_code 28 = .ok (.aload_n 0, 1) := by decide +kernel
theorem d_join_29 : decode prog_1_method_13_code 29 = .ok (.getfield 34, 3) := by decide +kernel
theorem d_join_32 : decode prog_1_method_13_code 32 = .ok (.getfield 137, 3) := by decide +kernel
theorem d_join_35 : decode prog_1_method_13_code 35 = .ok (.invokevirtual 140, 3) := by decide +kernel
theorem d_join_38 : decode prog_1_method_13_code 38 = .ok (.iconst 0, 1) := by decide +kernel
theorem d_join_39 : decode prog_1_method_13_code 39 = .ok (.istore_n 2, 1) := by decide +kernel
theorem d_join_40 : decode prog_1_method_13_code 40 = .ok (.iload_n 2, 1) := by decide +kernel
theorem d_join_41 : decode prog_1_method_13_code 41 = .ok (.iload_n 1, 1) := by decide +kernel
theorem d_join_42 : decode prog_1_method_13_code 42 = .ok (.if_icmp .ge 31, 3) := by decide +kernel
theorem d_join_45 : decode prog_1_method_13_code 45 = .ok (.aload_n 0, 1) := by decide +kernel
theorem d_join_46 : decode prog_1_method_13_code 46 = .ok (.aload_n 0, 1) := by decide +kernel
theorem d_join_47 : decode prog_1_method_13_code 47 = .ok (.getfield 30, 3) := by decide +kernel
theorem d_join_50 : decode prog_1_method_13_code 50 = .ok (.getfield 143, 3) := by decide +kernel
theorem d_join_53 : decode prog_1_method_13_code 53 = .ok (.iload_n 2, 1) := by decide +kernel
theorem d_join_54 : decode prog_1_method_13_code 54 = .ok (.iaload, 1) := by decide +kernel
theorem d_join_55 : decode prog_1_method_13_code 55 = .ok (.aload_n 0, 1) := by decide +kernel
theorem d_join_56 : decode prog_1_method_13_code 56 = .ok (.getfield 30, 3) := by decide +kernel
theorem d_join_59 : decode prog_1_method_13_code 59 = .ok (.getfield 146, 3) := by decide +kernel
theorem d_join_62 : decode prog_1_method_13_code 62 = .ok (.iload_n 2, 1) := by decide +kernel
theorem d_join_63 : decode prog_1_method_13_code 63 = .ok (.iaload, 1) := by decide +kernel
theorem d_join_64 : decode prog_1_method_13_code 64 = .ok (.invokevirtual 149, 3) := by decide +kernel
theorem d_join_67 : decode prog_1_method_13_code 67 = .ok (.iinc 2 1, 3) := by decide +kernel
theorem d_join_70 : decode prog_1_method_13_code 70 = .ok (.goto (-30), 3) := by decide +kernel
theorem d_join_73 : decode prog_1_method_13_code 73 = .ok (.aload_n 0, 1) := by decide +kernel
theorem d_join_74 : decode prog_1_method_13_code 74 = .ok (.getfield 30, 3) := by decide +kernel
theorem d_join_77 : decode prog_1_method_13_code 77 = .ok (.iload_n 1, 1) := by decide +kernel
theorem d_join_78 : decode prog_1_method_13_code 78 = .ok (.invokevirtual 140, 3) := by decide +kernel
theorem d_join_81 : decode prog_1_method_13_code 81 = .ok (.aload_n 0, 1) := by decide +kernel
theorem d_join_82 : decode prog_1_method_13_code 82 = .ok (.getfield 34, 3) := by decide +kernel
theorem d_join_85 : decode prog_1_method_13_code 85 = .ok (.getfield 137, 3) := by decide +kernel
theorem d_join_88 : decode prog_1_method_13_code 88 = .ok (.ireturn, 1) := by decide +kernel
theorem d_joinR_0 : decode prog_1_method_27_code 0 = .ok (.iload_n 2, 1) := by decide +kernel
theorem d_joinR_1 : decode prog_1_method_27_code 1 = .ok (.iconst (-1), 1) := by decide +kernel
theorem d_joinR_2 : decode prog_1_method_27_code 2 = .ok (.if_icmp .ne 24, 3) := by decide +kernel
theorem d_joinR_5 : decode prog_1_method_27_code 5 = .ok (.aload_n 0, 1) := by decide +kernel
theorem d_joinR_6 : decode prog_1_method_27_code 6 = .ok (.getfield 21, 3) := by decide +kernel
theorem d_joinR_9 : decode prog_1_method_27_code 9 = .ok (.iload_n 1, 1) := by decide +kernel
theorem d_joinR_10 : decode prog_1_method_27_code 10 = .ok (.invokevirtual 127, 3) := by decide +kernel
theorem d_joinR_13 : decode prog_1_method_27_code 13 = .ok (.iconst 2, 1) := by decide +kernel
theorem d_joinR_14 : decode prog_1_method_27_code 14 = .ok (.if_icmp .ne 7, 3) := by decide +kernel
theorem d_joinR_17 : decode prog_1_method_27_code 17 = .ok (.iconst 1, 1) := by decide +kernel
theorem d_joinR_18 : decode prog_1_method_27_code 18 = .ok (.goto 4, 3) := by decide +kernel
theorem d_joinR_21 : decode prog_1_method_27_code 21 = .ok (.iconst 0, 1) := by decide +kernel
theorem d_joinR_22 : decode prog_1_method_27_code 22 = .ok (.istore_n 3, 1) := by decide +kernel
theorem d_joinR_23 : decode prog_1_method_27_code 23 = .ok (.goto 34, 3) := by decide +kernel
theorem d_joinR_26 : decode prog_1_method_27_code 26 = .ok (.aload_n 0, 1) := by decide +kernel
theorem d_joinR_27 : decode prog_1_method_27_code 27 = .ok (.getfield 21, 3) := by decide +kernel
theorem d_joinR_30 : decode prog_1_method_27_code 30 = .ok (.iload_n 1, 1) := by decide +kernel
theorem d_joinR_31 : decode prog_1_method_27_code 31 = .ok (.iload_n 2, 1) := by decide +kernel
theorem d_joinR_32 : decode prog_1_method_27_code 32 = .ok (.invokevirtual 108, 3) := by decide +kernel
theorem d_joinR_35 : decode prog_1_method_27_code 35 = .ok (.ifCond .eq 7, 3) := by decide +kernel
theorem d_joinR_38 : decode prog_1_method_27_code 38 = .ok (.iconst 1, 1) := by decide +kernel
theorem d_joinR_39 : decode prog_1_method_27_code 39 = .ok (.goto 4, 3) := by decide +kernel
theorem d_joinR_42 : decode prog_1_method_27_code 42 = .ok (.iconst 0, 1) := by decide +kernel
theorem d_joinR_43 : decode prog_1_method_27_code 43 = .ok (.istore_n 3, 1) := by decide +kernel
theorem d_joinR_44 : decode prog_1_method_27_code 44 = .ok (.iload_n 3, 1) := by decide +kernel
theorem d_joinR_45 : decode prog_1_method_27_code 45 = .ok (.ifCond .ne 12, 3) := by decide +kernel
theorem d_joinR_48 : decode prog_1_method_27_code 48 = .ok (.aload_n 0, 1) := by decide +kernel
theorem d_joinR_49 : decode prog_1_method_27_code 49 = .ok (.getfield 21, 3) := by decide +kernel
theorem d_joinR_52 : decode prog_1_method_27_code 52 = .ok (.iload_n 1, 1) := by decide +kernel
theorem d_joinR_53 : decode prog_1_method_27_code 53 = .ok (.iload_n 2, 1) := by decide +kernel
theorem d_joinR_54 : decode prog_1_method_27_code 54 = .ok (.invokevirtual 118, 3) := by decide +kernel
theorem d_joinR_57 : decode prog_1_method_27_code 57 = .ok (.iload_n 3, 1) := by decide +kernel
theorem d_joinR_58 : decode prog_1_method_27_code 58 = .ok (.ifCond .eq 12, 3) := by decide +kernel
theorem d_joinR_61 : decode prog_1_method_27_code 61 = .ok (.aload_n 0, 1) := by decide +kernel
theorem d_joinR_62 : decode prog_1_method_27_code 62 = .ok (.getfield 34, 3) := by decide +kernel
theorem d_joinR_65 : decode prog_1_method_27_code 65 = .ok (.iload_n 1, 1) := by decide +kernel
theorem d_joinR_66 : decode prog_1_method_27_code 66 = .ok (.iload_n 2, 1) := by decide +kernel
theorem d_joinR_67 : decode prog_1_method_27_code 67 = .ok (.invokevirtual 111, 3) := by decide +kernel
theorem d_joinR_70 : decode prog_1_method_27_code 70 = .ok (.return_, 1) := by decide +kernel
theorem d_law_0 : decode code 0 = .ok (.new 7, 3) := by decide +kernel
theorem d_law_3 : decode code 3 = .ok (.dup, 1) := by decide +kernel
theorem d_law_4 : decode code 4 = .ok (.aload_n 0, 1) := by decide +kernel
theorem d_law_5 : decode code 5 = .ok (.iconst 0, 1) := by decide +kernel
theorem d_law_6 : decode code 6 = .ok (.invokestatic 9, 3) := by decide +kernel
theorem d_law_9 : decode code 9 = .ok (.invokespecial 15, 3) := by decide +kernel
theorem d_law_12 : decode code 12 = .ok (.astore_n 1, 1) := by decide +kernel
theorem d_law_13 : decode code 13 = .ok (.new 18, 3) := by decide +kernel
theorem d_law_16 : decode code 16 = .ok (.dup, 1) := by decide +kernel
theorem d_law_17 : decode code 17 = .ok (.aload_n 0, 1) := by decide +kernel
theorem d_law_18 : decode code 18 = .ok (.iconst 0, 1) := by decide +kernel
theorem d_law_19 : decode code 19 = .ok (.invokestatic 9, 3) := by decide +kernel
theorem d_law_22 : decode code 22 = .ok (.invokespecial 20, 3) := by decide +kernel
theorem d_law_25 : decode code 25 = .ok (.astore_n 2, 1) := by decide +kernel
theorem d_law_26 : decode code 26 = .ok (.iconst 1, 1) := by decide +kernel
theorem d_law_27 : decode code 27 = .ok (.istore_n 3, 1) := by decide +kernel
theorem d_law_28 : decode code 28 = .ok (.iload_n 3, 1) := by decide +kernel
theorem d_law_29 : decode code 29 = .ok (.aload_n 0, 1) := by decide +kernel
theorem d_law_30 : decode code 30 = .ok (.arraylength, 1) := by decide +kernel
theorem d_law_31 : decode code 31 = .ok (.iconst 4, 1) := by decide +kernel
theorem d_law_32 : decode code 32 = .ok (.isub, 1) := by decide +kernel
theorem d_law_33 : decode code 33 = .ok (.if_icmp .gt 647, 3) := by decide +kernel
theorem d_law_36 : decode code 36 = .ok (.aload_n 0, 1) := by decide +kernel
theorem d_law_37 : decode code 37 = .ok (.iload_n 3, 1) := by decide +kernel
theorem d_law_38 : decode code 38 = .ok (.iaload, 1) := by decide +kernel
theorem d_law_39 : decode code 39 = .ok (.bipush 31, 2) := by decide +kernel
theorem d_law_41 : decode code 41 = .ok (.iand, 1) := by decide +kernel
theorem d_law_42 : decode code 42 = .ok (.tableswitch 632 0 19 #[94, 137, 186, 219, 242, 265, 288, 301, 314, 337, 376, 415, 438, 471, 494, 527, 550, 573, 586, 619], 94) := by decide +kernel
theorem d_law_136 : decode code 136 = .ok (.aload_n 1, 1) := by decide +kernel
theorem d_law_137 : decode code 137 = .ok (.aload_n 0, 1) := by decide +kernel
theorem d_law_138 : decode code 138 = .ok (.iload_n 3, 1) := by decide +kernel
theorem d_law_139 : decode code 139 = .ok (.iconst 1, 1) := by decide +kernel
theorem d_law_140 : decode code 140 = .ok (.iadd, 1) := by decide +kernel
theorem d_law_141 : decode code 141 = .ok (.iaload, 1) := by decide +kernel
theorem d_law_142 : decode code 142 = .ok (.aload_n 0, 1) := by decide +kernel
theorem d_law_143 : decode code 143 = .ok (.iload_n 3, 1) := by decide +kernel
theorem d_law_144 : decode code 144 = .ok (.iconst 2, 1) := by decide +kernel
theorem d_law_145 : decode code 145 = .ok (.iadd, 1) := by decide +kernel
theorem d_law_146 : decode code 146 = .ok (.iaload, 1) := by decide +kernel
theorem d_law_147 : decode code 147 = .ok (.aload_n 0, 1) := by decide +kernel
theorem d_law_148 : decode code 148 = .ok (.iload_n 3, 1) := by decide +kernel
theorem d_law_149 : decode code 149 = .ok (.iconst 3, 1) := by decide +kernel
theorem d_law_150 : decode code 150 = .ok (.iadd, 1) := by decide +kernel
theorem d_law_151 : decode code 151 = .ok (.iaload, 1) := by decide +kernel
theorem d_law_152 : decode code 152 = .ok (.invokevirtual 21, 3) := by decide +kernel
theorem d_law_155 : decode code 155 = .ok (.pop, 1) := by decide +kernel
theorem d_law_156 : decode code 156 = .ok (.aload_n 2, 1) := by decide +kernel
theorem d_law_157 : decode code 157 = .ok (.aload_n 0, 1) := by decide +kernel
theorem d_law_158 : decode code 158 = .ok (.iload_n 3, 1) := by decide +kernel
theorem d_law_159 : decode code 159 = .ok (.iconst 1, 1) := by decide +kernel
theorem d_law_160 : decode code 160 = .ok (.iadd, 1) := by decide +kernel
theorem d_law_161 : decode code 161 = .ok (.iaload, 1) := by decide +kernel
theorem d_law_162 : decode code 162 = .ok (.aload_n 0, 1) := by decide +kernel
theorem d_law_163 : decode code 163 = .ok (.iload_n 3, 1) := by decide +kernel
theorem d_law_164 : decode code 164 = .ok (.iconst 2, 1) := by decide +kernel
theorem d_law_165 : decode code 165 = .ok (.iadd, 1) := by decide +kernel
theorem d_law_166 : decode code 166 = .ok (.iaload, 1) := by decide +kernel
theorem d_law_167 : decode code 167 = .ok (.aload_n 0, 1) := by decide +kernel
theorem d_law_168 : decode code 168 = .ok (.iload_n 3, 1) := by decide +kernel
theorem d_law_169 : decode code 169 = .ok (.iconst 3, 1) := by decide +kernel
theorem d_law_170 : decode code 170 = .ok (.iadd, 1) := by decide +kernel
theorem d_law_171 : decode code 171 = .ok (.iaload, 1) := by decide +kernel
theorem d_law_172 : decode code 172 = .ok (.invokevirtual 25, 3) := by decide +kernel
theorem d_law_175 : decode code 175 = .ok (.pop, 1) := by decide +kernel
theorem d_law_176 : decode code 176 = .ok (.goto 498, 3) := by decide +kernel
theorem d_law_179 : decode code 179 = .ok (.aload_n 1, 1) := by decide +kernel
theorem d_law_180 : decode code 180 = .ok (.aload_n 0, 1) := by decide +kernel
theorem d_law_181 : decode code 181 = .ok (.iload_n 3, 1) := by decide +kernel
theorem d_law_182 : decode code 182 = .ok (.iconst 1, 1) := by decide +kernel
theorem d_law_183 : decode code 183 = .ok (.iadd, 1) := by decide +kernel
theorem d_law_184 : decode code 184 = .ok (.iaload, 1) := by decide +kernel
theorem d_law_185 : decode code 185 = .ok (.aload_n 0, 1) := by decide +kernel
theorem d_law_186 : decode code 186 = .ok (.iload_n 3, 1) := by decide +kernel
theorem d_law_187 : decode code 187 = .ok (.iconst 2, 1) := by decide +kernel
theorem d_law_188 : decode code 188 = .ok (.iadd, 1) := by decide +kernel
theorem d_law_189 : decode code 189 = .ok (.iaload, 1) := by decide +kernel
theorem d_law_190 : decode code 190 = .ok (.ifCond .eq 7, 3) := by decide +kernel
theorem d_law_193 : decode code 193 = .ok (.iconst 1, 1) := by decide +kernel
theorem d_law_194 : decode code 194 = .ok (.goto 4, 3) := by decide +kernel
theorem d_law_197 : decode code 197 = .ok (.iconst 0, 1) := by decide +kernel
theorem d_law_198 : decode code 198 = .ok (.invokevirtual 26, 3) := by decide +kernel
theorem d_law_201 : decode code 201 = .ok (.pop, 1) := by decide +kernel
theorem d_law_202 : decode code 202 = .ok (.aload_n 2, 1) := by decide +kernel
theorem d_law_203 : decode code 203 = .ok (.aload_n 0, 1) := by decide +kernel
theorem d_law_204 : decode code 204 = .ok (.iload_n 3, 1) := by decide +kernel
theorem d_law_205 : decode code 205 = .ok (.iconst 1, 1) := by decide +kernel
theorem d_law_206 : decode code 206 = .ok (.iadd, 1) := by decide +kernel
theorem d_law_207 : decode code 207 = .ok (.iaload, 1) := by decide +kernel
theorem d_law_208 : decode code 208 = .ok (.aload_n 0, 1) := by decide +kernel
theorem d_law_209 : decode code 209 = .ok (.iload_n 3, 1) := by decide +kernel
theorem d_law_210 : decode code 210 = .ok (.iconst 2, 1) := by decide +kernel
theorem d_law_211 : decode code 211 = .ok (.iadd, 1) := by decide +kernel
theorem d_law_212 : decode code 212 = .ok (.iaload, 1) := by decide +kernel
theorem d_law_213 : decode code 213 = .ok (.ifCond .eq 7, 3) := by decide +kernel
theorem d_law_216 : decode code 216 = .ok (.iconst 1, 1) := by decide +kernel
theorem d_law_217 : decode code 217 = .ok (.goto 4, 3) := by decide +kernel
theorem d_law_220 : decode code 220 = .ok (.iconst 0, 1) := by decide +kernel
theorem d_law_221 : decode code 221 = .ok (.invokevirtual 30, 3) := by decide +kernel
theorem d_law_224 : decode code 224 = .ok (.pop, 1) := by decide +kernel
theorem d_law_225 : decode code 225 = .ok (.goto 449, 3) := by decide +kernel
theorem d_law_228 : decode code 228 = .ok (.aload_n 1, 1) := by decide +kernel
theorem d_law_229 : decode code 229 = .ok (.aload_n 0, 1) := by decide +kernel
theorem d_law_230 : decode code 230 = .ok (.iload_n 3, 1) := by decide +kernel
theorem d_law_231 : decode code 231 = .ok (.iconst 1, 1) := by decide +kernel
theorem d_law_232 : decode code 232 = .ok (.iadd, 1) := by decide +kernel
theorem d_law_233 : decode code 233 = .ok (.iaload, 1) := by decide +kernel
theorem d_law_234 : decode code 234 = .ok (.aload_n 0, 1) := by decide +kernel
theorem d_law_235 : decode code 235 = .ok (.iload_n 3, 1) := by decide +kernel
theorem d_law_236 : decode code 236 = .ok (.iconst 2, 1) := by decide +kernel
theorem d_law_237 : decode code 237 = .ok (.iadd, 1) := by decide +kernel
theorem d_law_238 : decode code 238 = .ok (.iaload, 1) := by decide +kernel
theorem d_law_239 : decode code 239 = .ok (.invokevirtual 31, 3) := by decide +kernel
theorem d_law_242 : decode code 242 = .ok (.pop, 1) := by decide +kernel
theorem d_law_243 : decode code 243 = .ok (.aload_n 2, 1) := by decide +kernel
theorem d_law_244 : decode code 244 = .ok (.aload_n 0, 1) := by decide +kernel
theorem d_law_245 : decode code 245 = .ok (.iload_n 3, 1) := by decide +kernel
theorem d_law_246 : decode code 246 = .ok (.iconst 1, 1) := by decide +kernel
theorem d_law_247 : decode code 247 = .ok (.iadd, 1) := by decide +kernel
theorem d_law_248 : decode code 248 = .ok (.iaload, 1) := by decide +kernel
theorem d_law_249 : decode code 249 = .ok (.aload_n 0, 1) := by decide +kernel
theorem d_law_250 : decode code 250 = .ok (.iload_n 3, 1) := by decide +kernel
theorem d_law_251 : decode code 251 = .ok (.iconst 2, 1) := by decide +kernel
theorem d_law_252 : decode code 252 = .ok (.iadd, 1) := by decide +kernel
theorem d_law_253 : decode code 253 = .ok (.iaload, 1) := by decide +kernel
theorem d_law_254 : decode code 254 = .ok (.invokevirtual 35, 3) := by decide +kernel
theorem d_law_257 : decode code 257 = .ok (.pop, 1) := by decide +kernel
theorem d_law_258 : decode code 258 = .ok (.goto 416, 3) := by decide +kernel
theorem d_law_261 : decode code 261 = .ok (.aload_n 1, 1) := by decide +kernel
theorem d_law_262 : decode code 262 = .ok (.aload_n 0, 1) := by decide +kernel
theorem d_law_263 : decode code 263 = .ok (.iload_n 3, 1) := by decide +kernel
theorem d_law_264 : decode code 264 = .ok (.iconst 1, 1) := by decide +kernel
theorem d_law_265 : decode code 265 = .ok (.iadd, 1) := by decide +kernel
theorem d_law_266 : decode code 266 = .ok (.iaload, 1) := by decide +kernel
theorem d_law_267 : decode code 267 = .ok (.invokevirtual 36, 3) := by decide +kernel
theorem d_law_270 : decode code 270 = .ok (.pop, 1) := by decide +kernel
theorem d_law_271 : decode code 271 = .ok (.aload_n 2, 1) := by decide +kernel
theorem d_law_272 : decode code 272 = .ok (.aload_n 0, 1) := by decide +kernel
theorem d_law_273 : decode code 273 = .ok (.iload_n 3, 1) := by decide +kernel
theorem d_law_274 : decode code 274 = .ok (.iconst 1, 1) := by decide +kernel
theorem d_law_275 : decode code 275 = .ok (.iadd, 1) := by decide +kernel
theorem d_law_276 : decode code 276 = .ok (.iaload, 1) := by decide +kernel
theorem d_law_277 : decode code 277 = .ok (.invokevirtual 40, 3) := by decide +kernel
theorem d_law_280 : decode code 280 = .ok (.pop, 1) := by decide +kernel
theorem d_law_281 : decode code 281 = .ok (.goto 393, 3) := by decide +kernel
theorem d_law_284 : decode code 284 = .ok (.aload_n 1, 1) := by decide +kernel
theorem d_law_285 : decode code 285 = .ok (.aload_n 0, 1) := by decide +kernel
theorem d_law_286 : decode code 286 = .ok (.iload_n 3, 1) := by decide +kernel
theorem d_law_287 : decode code 287 = .ok (.iconst 1, 1) := by decide +kernel
theorem d_law_288 : decode code 288 = .ok (.iadd, 1) := by decide +kernel
theorem d_law_289 : decode code 289 = .ok (.iaload, 1) := by decide +kernel
theorem d_law_290 : decode code 290 = .ok (.invokevirtual 41, 3) := by decide +kernel
theorem d_law_293 : decode code 293 = .ok (.pop, 1) := by decide +kernel
theorem d_law_294 : decode code 294 = .ok (.aload_n 2, 1) := by decide +kernel
theorem d_law_295 : decode code 295 = .ok (.aload_n 0, 1) := by decide +kernel
theorem d_law_296 : decode code 296 = .ok (.iload_n 3, 1) := by decide +kernel
theorem d_law_297 : decode code 297 = .ok (.iconst 1, 1) := by decide +kernel
theorem d_law_298 : decode code 298 = .ok (.iadd, 1) := by decide +kernel
theorem d_law_299 : decode code 299 = .ok (.iaload, 1) := by decide +kernel
theorem d_law_300 : decode code 300 = .ok (.invokevirtual 44, 3) := by decide +kernel
theorem d_law_303 : decode code 303 = .ok (.pop, 1) := by decide +kernel
theorem d_law_304 : decode code 304 = .ok (.goto 370, 3) := by decide +kernel
theorem d_law_307 : decode code 307 = .ok (.aload_n 1, 1) := by decide +kernel
theorem d_law_308 : decode code 308 = .ok (.aload_n 0, 1) := by decide +kernel
theorem d_law_309 : decode code 309 = .ok (.iload_n 3, 1) := by decide +kernel
theorem d_law_310 : decode code 310 = .ok (.iconst 1, 1) := by decide +kernel
theorem d_law_311 : decode code 311 = .ok (.iadd, 1) := by decide +kernel
theorem d_law_312 : decode code 312 = .ok (.iaload, 1) := by decide +kernel
theorem d_law_313 : decode code 313 = .ok (.invokevirtual 45, 3) := by decide +kernel
theorem d_law_316 : decode code 316 = .ok (.pop, 1) := by decide +kernel
theorem d_law_317 : decode code 317 = .ok (.aload_n 2, 1) := by decide +kernel
theorem d_law_318 : decode code 318 = .ok (.aload_n 0, 1) := by decide +kernel
theorem d_law_319 : decode code 319 = .ok (.iload_n 3, 1) := by decide +kernel
theorem d_law_320 : decode code 320 = .ok (.iconst 1, 1) := by decide +kernel
theorem d_law_321 : decode code 321 = .ok (.iadd, 1) := by decide +kernel
theorem d_law_322 : decode code 322 = .ok (.iaload, 1) := by decide +kernel
theorem d_law_323 : decode code 323 = .ok (.invokevirtual 48, 3) := by decide +kernel
theorem d_law_326 : decode code 326 = .ok (.pop, 1) := by decide +kernel
theorem d_law_327 : decode code 327 = .ok (.goto 347, 3) := by decide +kernel
theorem d_law_330 : decode code 330 = .ok (.aload_n 1, 1) := by decide +kernel
theorem d_law_331 : decode code 331 = .ok (.invokevirtual 49, 3) := by decide +kernel
theorem d_law_334 : decode code 334 = .ok (.pop, 1) := by decide +kernel
theorem d_law_335 : decode code 335 = .ok (.aload_n 2, 1) := by decide +kernel
theorem d_law_336 : decode code 336 = .ok (.invokevirtual 53, 3) := by decide +kernel
theorem d_law_339 : decode code 339 = .ok (.pop, 1) := by decide +kernel
theorem d_law_340 : decode code 340 = .ok (.goto 334, 3) := by decide +kernel
theorem d_law_343 : decode code 343 = .ok (.aload_n 1, 1) := by decide +kernel
theorem d_law_344 : decode code 344 = .ok (.invokevirtual 54, 3) := by decide +kernel
theorem d_law_347 : decode code 347 = .ok (.pop, 1) := by decide +kernel
theorem d_law_348 : decode code 348 = .ok (.aload_n 2, 1) := by decide +kernel
theorem d_law_349 : decode code 349 = .ok (.invokevirtual 57, 3) := by decide +kernel
theorem d_law_352 : decode code 352 = .ok (.pop, 1) := by decide +kernel
theorem d_law_353 : decode code 353 = .ok (.goto 321, 3) := by decide +kernel
theorem d_law_356 : decode code 356 = .ok (.aload_n 1, 1) := by decide +kernel
theorem d_law_357 : decode code 357 = .ok (.aload_n 0, 1) := by decide +kernel
theorem d_law_358 : decode code 358 = .ok (.iload_n 3, 1) := by decide +kernel
theorem d_law_359 : decode code 359 = .ok (.iconst 1, 1) := by decide +kernel
theorem d_law_360 : decode code 360 = .ok (.iadd, 1) := by decide +kernel
theorem d_law_361 : decode code 361 = .ok (.iaload, 1) := by decide +kernel
theorem d_law_362 : decode code 362 = .ok (.invokevirtual 58, 3) := by decide +kernel
theorem d_law_365 : decode code 365 = .ok (.pop, 1) := by decide +kernel
theorem d_law_366 : decode code 366 = .ok (.aload_n 2, 1) := by decide +kernel
theorem d_law_367 : decode code 367 = .ok (.aload_n 0, 1) := by decide +kernel
theorem d_law_368 : decode code 368 = .ok (.iload_n 3, 1) := by decide +kernel
theorem d_law_369 : decode code 369 = .ok (.iconst 1, 1) := by decide +kernel
theorem d_law_370 : decode code 370 = .ok (.iadd, 1) := by decide +kernel
theorem d_law_371 : decode code 371 = .ok (.iaload, 1) := by decide +kernel
theorem d_law_372 : decode code 372 = .ok (.invokevirtual 61, 3) := by decide +kernel
theorem d_law_375 : decode code 375 = .ok (.pop, 1) := by decide +kernel
theorem d_law_376 : decode code 376 = .ok (.goto 298, 3) := by decide +kernel
theorem d_law_379 : decode code 379 = .ok (.aload_n 1, 1) := by decide +kernel
theorem d_law_380 : decode code 380 = .ok (.aload_n 0, 1) := by decide +kernel
theorem d_law_381 : decode code 381 = .ok (.iload_n 3, 1) := by decide +kernel
theorem d_law_382 : decode code 382 = .ok (.iconst 1, 1) := by decide +kernel
theorem d_law_383 : decode code 383 = .ok (.iadd, 1) := by decide +kernel
theorem d_law_384 : decode code 384 = .ok (.iaload, 1) := by decide +kernel
theorem d_law_385 : decode code 385 = .ok (.ifCond .eq 7, 3) := by decide +kernel
theorem d_law_388 : decode code 388 = .ok (.iconst 1, 1) := by decide +kernel
theorem d_law_389 : decode code 389 = .ok (.goto 4, 3) := by decide +kernel
theorem d_law_392 : decode code 392 = .ok (.iconst 0, 1) := by decide +kernel
theorem d_law_393 : decode code 393 = .ok (.invokevirtual 62, 3) := by decide +kernel
theorem d_law_396 : decode code 396 = .ok (.pop, 1) := by decide +kernel
theorem d_law_397 : decode code 397 = .ok (.aload_n 2, 1) := by decide +kernel
theorem d_law_398 : decode code 398 = .ok (.aload_n 0, 1) := by decide +kernel
theorem d_law_399 : decode code 399 = .ok (.iload_n 3, 1) := by decide +kernel
theorem d_law_400 : decode code 400 = .ok (.iconst 1, 1) := by decide +kernel
theorem d_law_401 : decode code 401 = .ok (.iadd, 1) := by decide +kernel
theorem d_law_402 : decode code 402 = .ok (.iaload, 1) := by decide +kernel
theorem d_law_403 : decode code 403 = .ok (.ifCond .eq 7, 3) := by decide +kernel
theorem d_law_406 : decode code 406 = .ok (.iconst 1, 1) := by decide +kernel
theorem d_law_407 : decode code 407 = .ok (.goto 4, 3) := by decide +kernel
theorem d_law_410 : decode code 410 = .ok (.iconst 0, 1) := by decide +kernel
theorem d_law_411 : decode code 411 = .ok (.invokevirtual 66, 3) := by decide +kernel
theorem d_law_414 : decode code 414 = .ok (.pop, 1) := by decide +kernel
theorem d_law_415 : decode code 415 = .ok (.goto 259, 3) := by decide +kernel
theorem d_law_418 : decode code 418 = .ok (.aload_n 1, 1) := by decide +kernel
theorem d_law_419 : decode code 419 = .ok (.aload_n 0, 1) := by decide +kernel
theorem d_law_420 : decode code 420 = .ok (.iload_n 3, 1) := by decide +kernel
theorem d_law_421 : decode code 421 = .ok (.iconst 1, 1) := by decide +kernel
theorem d_law_422 : decode code 422 = .ok (.iadd, 1) := by decide +kernel
theorem d_law_423 : decode code 423 = .ok (.iaload, 1) := by decide +kernel
theorem d_law_424 : decode code 424 = .ok (.ifCond .eq 7, 3) := by decide +kernel
theorem d_law_427 : decode code 427 = .ok (.iconst 1, 1) := by decide +kernel
theorem d_law_428 : decode code 428 = .ok (.goto 4, 3) := by decide +kernel
theorem d_law_431 : decode code 431 = .ok (.iconst 0, 1) := by decide +kernel
theorem d_law_432 : decode code 432 = .ok (.invokevirtual 67, 3) := by decide +kernel
theorem d_law_435 : decode code 435 = .ok (.pop, 1) := by decide +kernel
theorem d_law_436 : decode code 436 = .ok (.aload_n 2, 1) := by decide +kernel
theorem d_law_437 : decode code 437 = .ok (.aload_n 0, 1) := by decide +kernel
theorem d_law_438 : decode code 438 = .ok (.iload_n 3, 1) := by decide +kernel
theorem d_law_439 : decode code 439 = .ok (.iconst 1, 1) := by decide +kernel
theorem d_law_440 : decode code 440 = .ok (.iadd, 1) := by decide +kernel
theorem d_law_441 : decode code 441 = .ok (.iaload, 1) := by decide +kernel
theorem d_law_442 : decode code 442 = .ok (.ifCond .eq 7, 3) := by decide +kernel
theorem d_law_445 : decode code 445 = .ok (.iconst 1, 1) := by decide +kernel
theorem d_law_446 : decode code 446 = .ok (.goto 4, 3) := by decide +kernel
theorem d_law_449 : decode code 449 = .ok (.iconst 0, 1) := by decide +kernel
theorem d_law_450 : decode code 450 = .ok (.invokevirtual 71, 3) := by decide +kernel
theorem d_law_453 : decode code 453 = .ok (.pop, 1) := by decide +kernel
theorem d_law_454 : decode code 454 = .ok (.goto 220, 3) := by decide +kernel
theorem d_law_457 : decode code 457 = .ok (.aload_n 1, 1) := by decide +kernel
theorem d_law_458 : decode code 458 = .ok (.aload_n 0, 1) := by decide +kernel
theorem d_law_459 : decode code 459 = .ok (.iload_n 3, 1) := by decide +kernel
theorem d_law_460 : decode code 460 = .ok (.iconst 1, 1) := by decide +kernel
theorem d_law_461 : decode code 461 = .ok (.iadd, 1) := by decide +kernel
theorem d_law_462 : decode code 462 = .ok (.iaload, 1) := by decide +kernel
theorem d_law_463 : decode code 463 = .ok (.invokevirtual 72, 3) := by decide +kernel
theorem d_law_466 : decode code 466 = .ok (.pop, 1) := by decide +kernel
theorem d_law_467 : decode code 467 = .ok (.aload_n 2, 1) := by decide +kernel
theorem d_law_468 : decode code 468 = .ok (.aload_n 0, 1) := by decide +kernel
theorem d_law_469 : decode code 469 = .ok (.iload_n 3, 1) := by decide +kernel
theorem d_law_470 : decode code 470 = .ok (.iconst 1, 1) := by decide +kernel
theorem d_law_471 : decode code 471 = .ok (.iadd, 1) := by decide +kernel
theorem d_law_472 : decode code 472 = .ok (.iaload, 1) := by decide +kernel
theorem d_law_473 : decode code 473 = .ok (.invokevirtual 75, 3) := by decide +kernel
theorem d_law_476 : decode code 476 = .ok (.pop, 1) := by decide +kernel
