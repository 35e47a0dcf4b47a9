theorem d_mIsP_7 : decode prog_6_method_3_code 7 = .ok (.if_icmp .ge 7, 3) := by decide +kernel
theorem d_mIsP_10 : decode prog_6_method_3_code 10 = .ok (.iconst 1, 1) := by decide +kernel
theorem d_mIsP_11 : decode prog_6_method_3_code 11 = .ok (.goto 4, 3) := by decide +kernel
theorem d_mIsP_14 : decode prog_6_method_3_code 14 = .ok (.iconst 0, 1) := by decide +kernel
theorem d_mIsP_15 : decode prog_6_method_3_code 15 = .ok (.ireturn, 1) := by decide +kernel
theorem d_mItem_0 : decode prog_6_method_30_code 0 = .ok (.aload_n 0, 1) := by decide +kernel
theorem d_mItem_1 : decode prog_6_method_30_code 1 = .ok (.iconst 0, 1) := by decide +kernel
theorem d_mItem_2 : decode prog_6_method_30_code 2 = .ok (.putfield 60, 3) := by decide +kernel
theorem d_mItem_5 : decode prog_6_method_30_code 5 = .ok (.iload_n 1, 1) := by decide +kernel
theorem d_mItem_6 : decode prog_6_method_30_code 6 = .ok (.invokestatic 70, 3) := by decide +kernel
theorem d_mItem_9 : decode prog_6_method_30_code 9 = .ok (.ifCond .eq 12, 3) := by decide +kernel
theorem d_mItem_12 : decode prog_6_method_30_code 12 = .ok (.iload_n 2, 1) := by decide +kernel
theorem d_mItem_13 : decode prog_6_method_30_code 13 = .ok (.ifCond .lt 8, 3) := by decide +kernel
theorem d_mItem_16 : decode prog_6_method_30_code 16 = .ok (.iload_n 2, 1) := by decide +kernel
theorem d_mItem_17 : decode prog_6_method_30_code 17 = .ok (.iconst 2, 1) := by decide +kernel
theorem d_mItem_18 : decode prog_6_method_30_code 18 = .ok (.if_icmp .le 6, 3) := by decide +kernel
theorem d_mItem_21 : decode prog_6_method_30_code 21 = .ok (.bipush (-2), 2) := by decide +kernel
theorem d_mItem_23 : decode prog_6_method_30_code 23 = .ok (.ireturn, 1) := by decide +kernel
theorem d_mItem_24 : decode prog_6_method_30_code 24 = .ok (.iload_n 2, 1) := by decide +kernel
theorem d_mItem_25 : decode prog_6_method_30_code 25 = .ok (.ifCond .ne 12, 3) := by decide +kernel
theorem d_mItem_28 : decode prog_6_method_30_code 28 = .ok (.aload_n 0, 1) := by decide +kernel
theorem d_mItem_29 : decode prog_6_method_30_code 29 = .ok (.getfield 26, 3) := by decide +kernel
theorem d_mItem_32 : decode prog_6_method_30_code 32 = .ok (.iload_n 1, 1) := by decide +kernel
theorem d_mItem_33 : decode prog_6_method_30_code 33 = .ok (.iaload, 1) := by decide +kernel
theorem d_mItem_34 : decode prog_6_method_30_code 34 = .ok (.goto 23, 3) := by decide +kernel
theorem d_mItem_37 : decode prog_6_method_30_code 37 = .ok (.iload_n 2, 1) := by decide +kernel
theorem d_mItem_38 : decode prog_6_method_30_code 38 = .ok (.iconst 1, 1) := by decide +kernel
theorem d_mItem_39 : decode prog_6_method_30_code 39 = .ok (.if_icmp .ne 12, 3) := by decide +kernel
theorem d_mItem_42 : decode prog_6_method_30_code 42 = .ok (.aload_n 0, 1) := by decide +kernel
theorem d_mItem_43 : decode prog_6_method_30_code 43 = .ok (.getfield 29, 3) := by decide +kernel
theorem d_mItem_46 : decode prog_6_method_30_code 46 = .ok (.iload_n 1, 1) := by decide +kernel
theorem d_mItem_47 : decode prog_6_method_30_code 47 = .ok (.iaload, 1) := by decide +kernel
theorem d_mItem_48 : decode prog_6_method_30_code 48 = .ok (.goto 9, 3) := by decide +kernel
theorem d_mItem_51 : decode prog_6_method_30_code 51 = .ok (.aload_n 0, 1) := by decide +kernel
theorem d_mItem_52 : decode prog_6_method_30_code 52 = .ok (.getfield 35, 3) := by decide +kernel
theorem d_mItem_55 : decode prog_6_method_30_code 55 = .ok (.iload_n 1, 1) := by decide +kernel
theorem d_mItem_56 : decode prog_6_method_30_code 56 = .ok (.iaload, 1) := by decide +kernel
theorem d_mItem_57 : decode prog_6_method_30_code 57 = .ok (.ireturn, 1) := by decide +kernel
theorem d_mJoin_0 : decode prog_6_method_23_code 0 = .ok (.aload_n 0, 1) := by decide +kernel
theorem d_mJoin_1 : decode prog_6_method_23_code 1 = .ok (.iconst 0, 1) := by decide +kernel
theorem d_mJoin_2 : decode prog_6_method_23_code 2 = .ok (.putfield 60, 3) := by decide +kernel
theorem d_mJoin_5 : decode prog_6_method_23_code 5 = .ok (.aload_n 0, 1) := by decide +kernel
theorem d_mJoin_6 : decode prog_6_method_23_code 6 = .ok (.getfield 76, 3) := by decide +kernel
theorem d_mJoin_9 : decode prog_6_method_23_code 9 = .ok (.ifCond .ne 15, 3) := by decide +kernel
theorem d_mJoin_12 : decode prog_6_method_23_code 12 = .ok (.iload_n 1, 1) := by decide +kernel
theorem d_mJoin_13 : decode prog_6_method_23_code 13 = .ok (.ifCond .lt 11, 3) := by decide +kernel
theorem d_mJoin_16 : decode prog_6_method_23_code 16 = .ok (.iload_n 1, 1) := by decide +kernel
theorem d_mJoin_17 : decode prog_6_method_23_code 17 = .ok (.aload_n 0, 1) := by decide +kernel
theorem d_mJoin_18 : decode prog_6_method_23_code 18 = .ok (.getfield 97, 3) := by decide +kernel
theorem d_mJoin_21 : decode prog_6_method_23_code 21 = .ok (.if_icmp .le 5, 3) := by decide +kernel
theorem d_mJoin_24 : decode prog_6_method_23_code 24 = .ok (.iconst (-1), 1) := by decide +kernel
theorem d_mJoin_25 : decode prog_6_method_23_code 25 = .ok (.ireturn, 1) := by decide +kernel
theorem d_mJoin_26 : decode prog_6_method_23_code 26 = .ok (.aload_n 0, 1) := by decide +kernel
theorem d_mJoin_27 : decode prog_6_method_23_code 27 = .ok (.iconst 0, 1) := by decide +kernel
theorem d_mJoin_28 : decode prog_6_method_23_code 28 = .ok (.putfield 114, 3) := by decide +kernel
theorem d_mJoin_31 : decode prog_6_method_23_code 31 = .ok (.iconst 0, 1) := by decide +kernel
theorem d_mJoin_32 : decode prog_6_method_23_code 32 = .ok (.istore_n 2, 1) := by decide +kernel
theorem d_mJoin_33 : decode prog_6_method_23_code 33 = .ok (.iload_n 2, 1) := by decide +kernel
theorem d_mJoin_34 : decode prog_6_method_23_code 34 = .ok (.iload_n 1, 1) := by decide +kernel
theorem d_mJoin_35 : decode prog_6_method_23_code 35 = .ok (.if_icmp .ge 156, 3) := by decide +kernel
theorem d_mJoin_38 : decode prog_6_method_23_code 38 = .ok (.aload_n 0, 1) := by decide +kernel
theorem d_mJoin_39 : decode prog_6_method_23_code 39 = .ok (.getfield 44, 3) := by decide +kernel
theorem d_mJoin_42 : decode prog_6_method_23_code 42 = .ok (.iload_n 2, 1) := by decide +kernel
theorem d_mJoin_43 : decode prog_6_method_23_code 43 = .ok (.iaload, 1) := by decide +kernel
theorem d_mJoin_44 : decode prog_6_method_23_code 44 = .ok (.istore_n 3, 1) := by decide +kernel
theorem d_mJoin_45 : decode prog_6_method_23_code 45 = .ok (.aload_n 0, 1) := by decide +kernel
theorem d_mJoin_46 : decode prog_6_method_23_code 46 = .ok (.getfield 47, 3) := by decide +kernel
theorem d_mJoin_49 : decode prog_6_method_23_code 49 = .ok (.iload_n 2, 1) := by decide +kernel
theorem d_mJoin_50 : decode prog_6_method_23_code 50 = .ok (.iaload, 1) := by decide +kernel
theorem d_mJoin_51 : decode prog_6_method_23_code 51 = .ok (.istore 4, 2) := by decide +kernel
theorem d_mJoin_53 : decode prog_6_method_23_code 53 = .ok (.iload 4, 2) := by decide +kernel
theorem d_mJoin_55 : decode prog_6_method_23_code 55 = .ok (.iconst (-1), 1) := by decide +kernel
theorem d_mJoin_56 : decode prog_6_method_23_code 56 = .ok (.if_icmp .ne 21, 3) := by decide +kernel
theorem d_mJoin_59 : decode prog_6_method_23_code 59 = .ok (.aload_n 0, 1) := by decide +kernel
theorem d_mJoin_60 : decode prog_6_method_23_code 60 = .ok (.getfield 26, 3) := by decide +kernel
theorem d_mJoin_63 : decode prog_6_method_23_code 63 = .ok (.iload_n 3, 1) := by decide +kernel
theorem d_mJoin_64 : decode prog_6_method_23_code 64 = .ok (.iaload, 1) := by decide +kernel
theorem d_mJoin_65 : decode prog_6_method_23_code 65 = .ok (.iconst (-1), 1) := by decide +kernel
theorem d_mJoin_66 : decode prog_6_method_23_code 66 = .ok (.if_icmp .ne 7, 3) := by decide +kernel
theorem d_mJoin_69 : decode prog_6_method_23_code 69 = .ok (.iconst 1, 1) := by decide +kernel
theorem d_mJoin_70 : decode prog_6_method_23_code 70 = .ok (.goto 22, 3) := by decide +kernel
theorem d_mJoin_73 : decode prog_6_method_23_code 73 = .ok (.iconst 0, 1) := by decide +kernel
theorem d_mJoin_74 : decode prog_6_method_23_code 74 = .ok (.goto 18, 3) := by decide +kernel
theorem d_mJoin_77 : decode prog_6_method_23_code 77 = .ok (.aload_n 0, 1) := by decide +kernel
theorem d_mJoin_78 : decode prog_6_method_23_code 78 = .ok (.iload_n 3, 1) := by decide +kernel
theorem d_mJoin_79 : decode prog_6_method_23_code 79 = .ok (.iload 4, 2) := by decide +kernel
theorem d_mJoin_81 : decode prog_6_method_23_code 81 = .ok (.invokevirtual 100, 3) := by decide +kernel
theorem d_mJoin_84 : decode prog_6_method_23_code 84 = .ok (.ifCond .ge 7, 3) := by decide +kernel
theorem d_mJoin_87 : decode prog_6_method_23_code 87 = .ok (.iconst 1, 1) := by decide +kernel
theorem d_mJoin_88 : decode prog_6_method_23_code 88 = .ok (.goto 4, 3) := by decide +kernel
theorem d_mJoin_91 : decode prog_6_method_23_code 91 = .ok (.iconst 0, 1) := by decide +kernel
theorem d_mJoin_92 : decode prog_6_method_23_code 92 = .ok (.istore 5, 2) := by decide +kernel
theorem d_mJoin_94 : decode prog_6_method_23_code 94 = .ok (.iload 5, 2) := by decide +kernel
theorem d_mJoin_96 : decode prog_6_method_23_code 96 = .ok (.ifCond .eq 67, 3) := by decide +kernel
theorem d_mJoin_99 : decode prog_6_method_23_code 99 = .ok (.aload_n 0, 1) := by decide +kernel
theorem d_mJoin_100 : decode prog_6_method_23_code 100 = .ok (.getfield 50, 3) := by decide +kernel
theorem d_mJoin_103 : decode prog_6_method_23_code 103 = .ok (.iconst 3, 1) := by decide +kernel
theorem d_mJoin_104 : decode prog_6_method_23_code 104 = .ok (.aload_n 0, 1) := by decide +kernel
theorem d_mJoin_105 : decode prog_6_method_23_code 105 = .ok (.getfield 114, 3) := by decide +kernel
theorem d_mJoin_108 : decode prog_6_method_23_code 108 = .ok (.imul, 1) := by decide +kernel
theorem d_mJoin_109 : decode prog_6_method_23_code 109 = .ok (.iload_n 3, 1) := by decide +kernel
theorem d_mJoin_110 : decode prog_6_method_23_code 110 = .ok (.iastore, 1) := by decide +kernel
theorem d_mJoin_111 : decode prog_6_method_23_code 111 = .ok (.aload_n 0, 1) := by decide +kernel
theorem d_mJoin_112 : decode prog_6_method_23_code 112 = .ok (.getfield 50, 3) := by decide +kernel
theorem d_mJoin_115 : decode prog_6_method_23_code 115 = .ok (.iconst 3, 1) := by decide +kernel
theorem d_mJoin_116 : decode prog_6_method_23_code 116 = .ok (.aload_n 0, 1) := by decide +kernel
theorem d_mJoin_117 : decode prog_6_method_23_code 117 = .ok (.getfield 114, 3) := by decide +kernel
theorem d_mJoin_120 : decode prog_6_method_23_code 120 = .ok (.imul, 1) := by decide +kernel
theorem d_mJoin_121 : decode prog_6_method_23_code 121 = .ok (.iconst 1, 1) := by decide +kernel
theorem d_mJoin_122 : decode prog_6_method_23_code 122 = .ok (.iadd, 1) := by decide +kernel
theorem d_mJoin_123 : decode prog_6_method_23_code 123 = .ok (.iload 4, 2) := by decide +kernel
theorem d_mJoin_125 : decode prog_6_method_23_code 125 = .ok (.iastore, 1) := by decide +kernel
theorem d_mJoin_126 : decode prog_6_method_23_code 126 = .ok (.aload_n 0, 1) := by decide +kernel
theorem d_mJoin_127 : decode prog_6_method_23_code 127 = .ok (.getfield 50, 3) := by decide +kernel
theorem d_mJoin_130 : decode prog_6_method_23_code 130 = .ok (.iconst 3, 1) := by decide +kernel
theorem d_mJoin_131 : decode prog_6_method_23_code 131 = .ok (.aload_n 0, 1) := by decide +kernel
theorem d_mJoin_132 : decode prog_6_method_23_code 132 = .ok (.getfield 114, 3) := by decide +kernel
theorem d_mJoin_135 : decode prog_6_method_23_code 135 = .ok (.imul, 1) := by decide +kernel
theorem d_mJoin_136 : decode prog_6_method_23_code 136 = .ok (.iconst 2, 1) := by decide +kernel
theorem d_mJoin_137 : decode prog_6_method_23_code 137 = .ok (.iadd, 1) := by decide +kernel
theorem d_mJoin_138 : decode prog_6_method_23_code 138 = .ok (.iload 4, 2) := by decide +kernel
theorem d_mJoin_140 : decode prog_6_method_23_code 140 = .ok (.iconst (-1), 1) := by decide +kernel
theorem d_mJoin_141 : decode prog_6_method_23_code 141 = .ok (.if_icmp .ne 7, 3) := by decide +kernel
theorem d_mJoin_144 : decode prog_6_method_23_code 144 = .ok (.iconst 1, 1) := by decide +kernel
theorem d_mJoin_145 : decode prog_6_method_23_code 145 = .ok (.goto 4, 3) := by decide +kernel
theorem d_mJoin_148 : decode prog_6_method_23_code 148 = .ok (.iconst 0, 1) := by decide +kernel
theorem d_mJoin_149 : decode prog_6_method_23_code 149 = .ok (.iastore, 1) := by decide +kernel
theorem d_mJoin_150 : decode prog_6_method_23_code 150 = .ok (.aload_n 0, 1) := by decide +kernel
theorem d_mJoin_151 : decode prog_6_method_23_code 151 = .ok (.dup, 1) := by decide +kernel
theorem d_mJoin_152 : decode prog_6_method_23_code 152 = .ok (.getfield 114, 3) := by decide +kernel
theorem d_mJoin_155 : decode prog_6_method_23_code 155 = .ok (.iconst 1, 1) := by decide +kernel
theorem d_mJoin_156 : decode prog_6_method_23_code 156 = .ok (.iadd, 1) := by decide +kernel
theorem d_mJoin_157 : decode prog_6_method_23_code 157 = .ok (.putfield 114, 3) := by decide +kernel
theorem d_mJoin_160 : decode prog_6_method_23_code 160 = .ok (.goto 25, 3) := by decide +kernel
theorem d_mJoin_163 : decode prog_6_method_23_code 163 = .ok (.iload 4, 2) := by decide +kernel
theorem d_mJoin_165 : decode prog_6_method_23_code 165 = .ok (.iconst (-1), 1) := by decide +kernel
theorem d_mJoin_166 : decode prog_6_method_23_code 166 = .ok (.if_icmp .ne 12, 3) := by decide +kernel
theorem d_mJoin_169 : decode prog_6_method_23_code 169 = .ok (.aload_n 0, 1) := by decide +kernel
theorem d_mJoin_170 : decode prog_6_method_23_code 170 = .ok (.iload_n 3, 1) := by decide +kernel
theorem d_mJoin_171 : decode prog_6_method_23_code 171 = .ok (.invokevirtual 108, 3) := by decide +kernel
theorem d_mJoin_174 : decode prog_6_method_23_code 174 = .ok (.pop, 1) := by decide +kernel
theorem d_mJoin_175 : decode prog_6_method_23_code 175 = .ok (.goto 10, 3) := by decide +kernel
theorem d_mJoin_178 : decode prog_6_method_23_code 178 = .ok (.aload_n 0, 1) := by decide +kernel
theorem d_mJoin_179 : decode prog_6_method_23_code 179 = .ok (.iload_n 3, 1) := by decide +kernel
theorem d_mJoin_180 : decode prog_6_method_23_code 180 = .ok (.iload 4, 2) := by decide +kernel
theorem d_mJoin_182 : decode prog_6_method_23_code 182 = .ok (.invokevirtual 104, 3) := by decide +kernel
theorem d_mJoin_185 : decode prog_6_method_23_code 185 = .ok (.iinc 2 1, 3) := by decide +kernel
theorem d_mJoin_188 : decode prog_6_method_23_code 188 = .ok (.goto (-155), 3) := by decide +kernel
theorem d_mJoin_191 : decode prog_6_method_23_code 191 = .ok (.iload_n 1, 1) := by decide +kernel
theorem d_mJoin_192 : decode prog_6_method_23_code 192 = .ok (.istore_n 2, 1) := by decide +kernel
theorem d_mJoin_193 : decode prog_6_method_23_code 193 = .ok (.iload_n 2, 1) := by decide +kernel
theorem d_mJoin_194 : decode prog_6_method_23_code 194 = .ok (.aload_n 0, 1) := by decide +kernel
theorem d_mJoin_195 : decode prog_6_method_23_code 195 = .ok (.getfield 97, 3) := by decide +kernel
theorem d_mJoin_198 : decode prog_6_method_23_code 198 = .ok (.if_icmp .ge 37, 3) := by decide +kernel
theorem d_mJoin_201 : decode prog_6_method_23_code 201 = .ok (.aload_n 0, 1) := by decide +kernel
theorem d_mJoin_202 : decode prog_6_method_23_code 202 = .ok (.getfield 44, 3) := by decide +kernel
theorem d_mJoin_205 : decode prog_6_method_23_code 205 = .ok (.iload_n 2, 1) := by decide +kernel
theorem d_mJoin_206 : decode prog_6_method_23_code 206 = .ok (.iload_n 1, 1) := by decide +kernel
theorem d_mJoin_207 : decode prog_6_method_23_code 207 = .ok (.isub, 1) := by decide +kernel
theorem d_mJoin_208 : decode prog_6_method_23_code 208 = .ok (.aload_n 0, 1) := by decide +kernel
theorem d_mJoin_209 : decode prog_6_method_23_code 209 = .ok (.getfield 44, 3) := by decide +kernel
theorem d_mJoin_212 : decode prog_6_method_23_code 212 = .ok (.iload_n 2, 1) := by decide +kernel
theorem d_mJoin_213 : decode prog_6_method_23_code 213 = .ok (.iaload, 1) := by decide +kernel
theorem d_mJoin_214 : decode prog_6_method_23_code 214 = .ok (.iastore, 1) := by decide +kernel
theorem d_mJoin_215 : decode prog_6_method_23_code 215 = .ok (.aload_n 0, 1) := by decide +kernel
theorem d_mJoin_216 : decode prog_6_method_23_code 216 = .ok (.getfield 47, 3) := by decide +kernel
theorem d_mJoin_219 : decode prog_6_method_23_code 219 = .ok (.iload_n 2, 1) := by decide +kernel
theorem d_mJoin_220 : decode prog_6_method_23_code 220 = .ok (.iload_n 1, 1) := by decide +kernel
theorem d_mJoin_221 : decode prog_6_method_23_code 221 = .ok (.isub, 1) := by decide +kernel
theorem d_mJoin_222 : decode prog_6_method_23_code 222 = .ok (.aload_n 0, 1) := by decide +kernel
theorem d_mJoin_223 : decode prog_6_method_23_code 223 = .ok (.getfield 47, 3) := by decide +kernel
theorem d_mJoin_226 : decode prog_6_method_23_code 226 = .ok (.iload_n 2, 1) := by decide +kernel
theorem d_mJoin_227 : decode prog_6_method_23_code 227 = .ok (.iaload, 1) := by decide +kernel
theorem d_mJoin_228 : decode prog_6_method_23_code 228 = .ok (.iastore, 1) := by decide +kernel
theorem d_mJoin_229 : decode prog_6_method_23_code 229 = .ok (.iinc 2 1, 3) := by decide +kernel
theorem d_mJoin_232 : decode prog_6_method_23_code 232 = .ok (.goto (-39), 3) := by decide +kernel
theorem d_mJoin_235 : decode prog_6_method_23_code 235 = .ok (.aload_n 0, 1) := by decide +kernel
theorem d_mJoin_236 : decode prog_6_method_23_code 236 = .ok (.dup, 1) := by decide +kernel
theorem d_mJoin_237 : decode prog_6_method_23_code 237 = .ok (.getfield 97, 3) := by decide +kernel
theorem d_mJoin_240 : decode prog_6_method_23_code 240 = .ok (.iload_n 1, 1) := by decide +kernel
theorem d_mJoin_241 : decode prog_6_method_23_code 241 = .ok (.isub, 1) := by decide +kernel
theorem d_mJoin_242 : decode prog_6_method_23_code 242 = .ok (.putfield 97, 3) := by decide +kernel
theorem d_mJoin_245 : decode prog_6_method_23_code 245 = .ok (.aload_n 0, 1) := by decide +kernel
theorem d_mJoin_246 : decode prog_6_method_23_code 246 = .ok (.getfield 114, 3) := by decide +kernel
theorem d_mJoin_249 : decode prog_6_method_23_code 249 = .ok (.ireturn, 1) := by decide +kernel
theorem d_mLeave_0 : decode prog_6_method_14_code 0 = .ok (.aload_n 0, 1) := by decide +kernel
theorem d_mLeave_1 : decode prog_6_method_14_code 1 = .ok (.getfield 35, 3) := by decide +kernel
theorem d_mLeave_4 : decode prog_6_method_14_code 4 = .ok (.iload_n 1, 1) := by decide +kernel
theorem d_mLeave_5 : decode prog_6_method_14_code 5 = .ok (.iaload, 1) := by decide +kernel
theorem d_mLeave_6 : decode prog_6_method_14_code 6 = .ok (.iconst (-1), 1) := by decide +kernel
theorem d_mLeave_7 : decode prog_6_method_14_code 7 = .ok (.if_icmp .eq 22, 3) := by decide +kernel
theorem d_mLeave_10 : decode prog_6_method_14_code 10 = .ok (.aload_n 0, 1) := by decide +kernel
theorem d_mLeave_11 : decode prog_6_method_14_code 11 = .ok (.getfield 38, 3) := by decide +kernel
theorem d_mLeave_14 : decode prog_6_method_14_code 14 = .ok (.aload_n 0, 1) := by decide +kernel
theorem d_mLeave_15 : decode prog_6_method_14_code 15 = .ok (.getfield 35, 3) := by decide +kernel
theorem d_mLeave_18 : decode prog_6_method_14_code 18 = .ok (.iload_n 1, 1) := by decide +kernel
theorem d_mLeave_19 : decode prog_6_method_14_code 19 = .ok (.iaload, 1) := by decide +kernel
theorem d_mLeave_20 : decode prog_6_method_14_code 20 = .ok (.iconst (-1), 1) := by decide +kernel
theorem d_mLeave_21 : decode prog_6_method_14_code 21 = .ok (.iastore, 1) := by decide +kernel
theorem d_mLeave_22 : decode prog_6_method_14_code 22 = .ok (.aload_n 0, 1) := by decide +kernel
theorem d_mLeave_23 : decode prog_6_method_14_code 23 = .ok (.getfield 35, 3) := by decide +kernel
theorem d_mLeave_26 : decode prog_6_method_14_code 26 = .ok (.iload_n 1, 1) := by decide +kernel
theorem d_mLeave_27 : decode prog_6_method_14_code 27 = .ok (.iconst (-1), 1) := by decide +kernel
theorem d_mLeave_28 : decode prog_6_method_14_code 28 = .ok (.iastore, 1) := by decide +kernel
theorem d_mLeave_29 : decode prog_6_method_14_code 29 = .ok (.return_, 1) := by decide +kernel
theorem d_mLend_0 : decode prog_6_method_17_code 0 = .ok (.aload_n 0, 1) := by decide +kernel
theorem d_mLend_1 : decode prog_6_method_17_code 1 = .ok (.iconst 0, 1) := by decide +kernel
theorem d_mLend_2 : decode prog_6_method_17_code 2 = .ok (.putfield 60, 3) := by decide +kernel
theorem d_mLend_5 : decode prog_6_method_17_code 5 = .ok (.aload_n 0, 1) := by decide +kernel
theorem d_mLend_6 : decode prog_6_method_17_code 6 = .ok (.getfield 73, 3) := by decide +kernel
theorem d_mLend_9 : decode prog_6_method_17_code 9 = .ok (.iconst 2, 1) := by decide +kernel
theorem d_mLend_10 : decode prog_6_method_17_code 10 = .ok (.if_icmp .eq 6, 3) := by decide +kernel
theorem d_mLend_13 : decode prog_6_method_17_code 13 = .ok (.bipush (-8), 2) := by decide +kernel
theorem d_mLend_15 : decode prog_6_method_17_code 15 = .ok (.ireturn, 1) := by decide +kernel
theorem d_mLend_16 : decode prog_6_method_17_code 16 = .ok (.aload_n 0, 1) := by decide +kernel
theorem d_mLend_17 : decode prog_6_method_17_code 17 = .ok (.getfield 57, 3) := by decide +kernel
theorem d_mLend_20 : decode prog_6_method_17_code 20 = .ok (.iconst (-1), 1) := by decide +kernel
theorem d_mLend_21 : decode prog_6_method_17_code 21 = .ok (.if_icmp .eq 10, 3) := by decide +kernel
theorem d_mLend_24 : decode prog_6_method_17_code 24 = .ok (.aload_n 0, 1) := by decide +kernel
theorem d_mLend_25 : decode prog_6_method_17_code 25 = .ok (.getfield 86, 3) := by decide +kernel
theorem d_mLend_28 : decode prog_6_method_17_code 28 = .ok (.ifCond .eq 5, 3) := by decide +kernel
theorem d_mLend_31 : decode prog_6_method_17_code 31 = .ok (.iconst (-1), 1) := by decide +kernel
theorem d_mLend_32 : decode prog_6_method_17_code 32 = .ok (.ireturn, 1) := by decide +kernel
theorem d_mLend_33 : decode prog_6_method_17_code 33 = .ok (.aload_n 0, 1) := by decide +kernel
theorem d_mLend_34 : decode prog_6_method_17_code 34 = .ok (.getfield 76, 3) := by decide +kernel
theorem d_mLend_37 : decode prog_6_method_17_code 37 = .ok (.ifCond .eq 77, 3) := by decide +kernel
theorem d_mLend_40 : decode prog_6_method_17_code 40 = .ok (.aload_n 0, 1) := by decide +kernel
theorem d_mLend_41 : decode prog_6_method_17_code 41 = .ok (.getfield 83, 3) := by decide +kernel
theorem d_mLend_44 : decode prog_6_method_17_code 44 = .ok (.iconst 5, 1) := by decide +kernel
theorem d_mLend_45 : decode prog_6_method_17_code 45 = .ok (.if_icmp .ne 6, 3) := by decide +kernel
theorem d_mLend_48 : decode prog_6_method_17_code 48 = .ok (.bipush (-6), 2) := by decide +kernel
theorem d_mLend_50 : decode prog_6_method_17_code 50 = .ok (.ireturn, 1) := by decide +kernel
theorem d_mLend_51 : decode prog_6_method_17_code 51 = .ok (.aload_n 0, 1) := by decide +kernel
theorem d_mLend_52 : decode prog_6_method_17_code 52 = .ok (.getfield 97, 3) := by decide +kernel
theorem d_mLend_55 : decode prog_6_method_17_code 55 = .ok (.aload_n 0, 1) := by decide +kernel
theorem d_mLend_56 : decode prog_6_method_17_code 56 = .ok (.getfield 53, 3) := by decide +kernel
theorem d_mLend_59 : decode prog_6_method_17_code 59 = .ok (.if_icmp .ne 6, 3) := by decide +kernel
theorem d_mLend_62 : decode prog_6_method_17_code 62 = .ok (.bipush (-7), 2) := by decide +kernel
theorem d_mLend_64 : decode prog_6_method_17_code 64 = .ok (.ireturn, 1) := by decide +kernel
theorem d_mLend_65 : decode prog_6_method_17_code 65 = .ok (.aload_n 0, 1) := by decide +kernel
theorem d_mLend_66 : decode prog_6_method_17_code 66 = .ok (.getfield 44, 3) := by decide +kernel
theorem d_mLend_69 : decode prog_6_method_17_code 69 = .ok (.aload_n 0, 1) := by decide +kernel
theorem d_mLend_70 : decode prog_6_method_17_code 70 = .ok (.getfield 97, 3) := by decide +kernel
theorem d_mLend_73 : decode prog_6_method_17_code 73 = .ok (.aload_n 0, 1) := by decide +kernel
theorem d_mLend_74 : decode prog_6_method_17_code 74 = .ok (.getfield 57, 3) := by decide +kernel
theorem d_mLend_77 : decode prog_6_method_17_code 77 = .ok (.iastore, 1) := by decide +kernel
theorem d_mLend_78 : decode prog_6_method_17_code 78 = .ok (.aload_n 0, 1) := by decide +kernel
theorem d_mLend_79 : decode prog_6_method_17_code 79 = .ok (.getfield 47, 3) := by decide +kernel
theorem d_mLend_82 : decode prog_6_method_17_code 82 = .ok (.aload_n 0, 1) := by decide +kernel
theorem d_mLend_83 : decode prog_6_method_17_code 83 = .ok (.getfield 97, 3) := by decide +kernel
theorem d_mLend_86 : decode prog_6_method_17_code 86 = .ok (.aload_n 0, 1) := by decide +kernel
theorem d_mLend_87 : decode prog_6_method_17_code 87 = .ok (.getfield 80, 3) := by decide +kernel
theorem d_mLend_90 : decode prog_6_method_17_code 90 = .ok (.iastore, 1) := by decide +kernel
theorem d_mLend_91 : decode prog_6_method_17_code 91 = .ok (.aload_n 0, 1) := by decide +kernel
theorem d_mLend_92 : decode prog_6_method_17_code 92 = .ok (.dup, 1) := by decide +kernel
theorem d_mLend_93 : decode prog_6_method_17_code 93 = .ok (.getfield 97, 3) := by decide +kernel
theorem d_mLend_96 : decode prog_6_method_17_code 96 = .ok (.iconst 1, 1) := by decide +kernel
theorem d_mLend_97 : decode prog_6_method_17_code 97 = .ok (.iadd, 1) := by decide +kernel
theorem d_mLend_98 : decode prog_6_method_17_code 98 = .ok (.putfield 97, 3) := by decide +kernel
theorem d_mLend_101 : decode prog_6_method_17_code 101 = .ok (.aload_n 0, 1) := by decide +kernel
theorem d_mLend_102 : decode prog_6_method_17_code 102 = .ok (.getfield 32, 3) := by decide +kernel
theorem d_mLend_105 : decode prog_6_method_17_code 105 = .ok (.aload_n 0, 1) := by decide +kernel
theorem d_mLend_106 : decode prog_6_method_17_code 106 = .ok (.getfield 57, 3) := by decide +kernel
theorem d_mLend_109 : decode prog_6_method_17_code 109 = .ok (.iconst 1, 1) := by decide +kernel
theorem d_mLend_110 : decode prog_6_method_17_code 110 = .ok (.bastore, 1) := by decide +kernel
theorem d_mLend_111 : decode prog_6_method_17_code 111 = .ok (.goto 34, 3) := by decide +kernel
theorem d_mLend_114 : decode prog_6_method_17_code 114 = .ok (.aload_n 0, 1) := by decide +kernel
theorem d_mLend_115 : decode prog_6_method_17_code 115 = .ok (.aload_n 0, 1) := by decide +kernel
theorem d_mLend_116 : decode prog_6_method_17_code 116 = .ok (.getfield 57, 3) := by decide +kernel
theorem d_mLend_119 : decode prog_6_method_17_code 119 = .ok (.aload_n 0, 1) := by decide +kernel
theorem d_mLend_120 : decode prog_6_method_17_code 120 = .ok (.getfield 80, 3) := by decide +kernel
theorem d_mLend_123 : decode prog_6_method_17_code 123 = .ok (.invokevirtual 100, 3) := by decide +kernel
theorem d_mLend_126 : decode prog_6_method_17_code 126 = .ok (.istore_n 1, 1) := by decide +kernel
theorem d_mLend_127 : decode prog_6_method_17_code 127 = .ok (.iload_n 1, 1) := by decide +kernel
theorem d_mLend_128 : decode prog_6_method_17_code 128 = .ok (.ifCond .ge 5, 3) := by decide +kernel
theorem d_mLend_131 : decode prog_6_method_17_code 131 = .ok (.iload_n 1, 1) := by decide +kernel
theorem d_mLend_132 : decode prog_6_method_17_code 132 = .ok (.ireturn, 1) := by decide +kernel
theorem d_mLend_133 : decode prog_6_method_17_code 133 = .ok (.aload_n 0, 1) := by decide +kernel
theorem d_mLend_134 : decode prog_6_method_17_code 134 = .ok (.aload_n 0, 1) := by decide +kernel
theorem d_mLend_135 : decode prog_6_method_17_code 135 = .ok (.getfield 57, 3) := by decide +kernel
theorem d_mLend_138 : decode prog_6_method_17_code 138 = .ok (.aload_n 0, 1) := by decide +kernel
theorem d_mLend_139 : decode prog_6_method_17_code 139 = .ok (.getfield 80, 3) := by decide +kernel
theorem d_mLend_142 : decode prog_6_method_17_code 142 = .ok (.invokevirtual 104, 3) := by decide +kernel
theorem d_mLend_145 : decode prog_6_method_17_code 145 = .ok (.aload_n 0, 1) := by decide +kernel
theorem d_mLend_146 : decode prog_6_method_17_code 146 = .ok (.iconst 1, 1) := by decide +kernel
theorem d_mLend_147 : decode prog_6_method_17_code 147 = .ok (.putfield 86, 3) := by decide +kernel
theorem d_mLend_150 : decode prog_6_method_17_code 150 = .ok (.aload_n 0, 1) := by decide +kernel
theorem d_mLend_151 : decode prog_6_method_17_code 151 = .ok (.getfield 41, 3) := by decide +kernel
theorem d_mLend_154 : decode prog_6_method_17_code 154 = .ok (.aload_n 0, 1) := by decide +kernel
theorem d_mLend_155 : decode prog_6_method_17_code 155 = .ok (.getfield 83, 3) := by decide +kernel
theorem d_mLend_158 : decode prog_6_method_17_code 158 = .ok (.aload_n 0, 1) := by decide +kernel
theorem d_mLend_159 : decode prog_6_method_17_code 159 = .ok (.getfield 57, 3) := by decide +kernel
theorem d_mLend_162 : decode prog_6_method_17_code 162 = .ok (.iastore, 1) := by decide +kernel
theorem d_mLend_163 : decode prog_6_method_17_code 163 = .ok (.aload_n 0, 1) := by decide +kernel
theorem d_mLend_164 : decode prog_6_method_17_code 164 = .ok (.dup, 1) := by decide +kernel
theorem d_mLend_165 : decode prog_6_method_17_code 165 = .ok (.getfield 83, 3) := by decide +kernel
theorem d_mLend_168 : decode prog_6_method_17_code 168 = .ok (.iconst 1, 1) := by decide +kernel
theorem d_mLend_169 : decode prog_6_method_17_code 169 = .ok (.iadd, 1) := by decide +kernel
theorem d_mLend_170 : decode prog_6_method_17_code 170 = .ok (.putfield 83, 3) := by decide +kernel
theorem d_mLend_173 : decode prog_6_method_17_code 173 = .ok (.aload_n 0, 1) := by decide +kernel
theorem d_mLend_174 : decode prog_6_method_17_code 174 = .ok (.getfield 83, 3) := by decide +kernel
theorem d_mLend_177 : decode prog_6_method_17_code 177 = .ok (.ireturn, 1) := by decide +kernel
theorem d_mLocker_0 : decode prog_6_method_25_code 0 = .ok (.aload_n 0, 1) := by decide +kernel
theorem d_mLocker_1 : decode prog_6_method_25_code 1 = .ok (.iconst 0, 1) := by decide +kernel
theorem d_mLocker_2 : decode prog_6_method_25_code 2 = .ok (.putfield 60, 3) := by decide +kernel
theorem d_mLocker_5 : decode prog_6_method_25_code 5 = .ok (.iload_n 1, 1) := by decide +kernel
theorem d_mLocker_6 : decode prog_6_method_25_code 6 = .ok (.invokestatic 70, 3) := by decide +kernel
theorem d_mLocker_9 : decode prog_6_method_25_code 9 = .ok (.ifCond .eq 33, 3) := by decide +kernel
theorem d_mLocker_12 : decode prog_6_method_25_code 12 = .ok (.aload_n 0, 1) := by decide +kernel
theorem d_mLocker_13 : decode prog_6_method_25_code 13 = .ok (.getfield 26, 3) := by decide +kernel
theorem d_mLocker_16 : decode prog_6_method_25_code 16 = .ok (.iload_n 1, 1) := by decide +kernel
theorem d_mLocker_17 : decode prog_6_method_25_code 17 = .ok (.iaload, 1) := by decide +kernel
theorem d_mLocker_18 : decode prog_6_method_25_code 18 = .ok (.iconst (-1), 1) := by decide +kernel
theorem d_mLocker_19 : decode prog_6_method_25_code 19 = .ok (.if_icmp .ne 23, 3) := by decide +kernel
theorem d_mLocker_22 : decode prog_6_method_25_code 22 = .ok (.aload_n 0, 1) := by decide +kernel
theorem d_mLocker_23 : decode prog_6_method_25_code 23 = .ok (.getfield 29, 3) := by decide +kernel
theorem d_mLocker_26 : decode prog_6_method_25_code 26 = .ok (.iload_n 1, 1) := by decide +kernel
theorem d_mLocker_27 : decode prog_6_method_25_code 27 = .ok (.iaload, 1) := by decide +kernel
theorem d_mLocker_28 : decode prog_6_method_25_code 28 = .ok (.iconst (-1), 1) := by decide +kernel
theorem d_mLocker_29 : decode prog_6_method_25_code 29 = .ok (.if_icmp .eq 13, 3) := by decide +kernel
theorem d_mLocker_32 : decode prog_6_method_25_code 32 = .ok (.aload_n 0, 1) := by decide +kernel
theorem d_mLocker_33 : decode prog_6_method_25_code 33 = .ok (.getfield 35, 3) := by decide +kernel
theorem d_mLocker_36 : decode prog_6_method_25_code 36 = .ok (.iload_n 1, 1) := by decide +kernel
theorem d_mLocker_37 : decode prog_6_method_25_code 37 = .ok (.iaload, 1) := by decide +kernel
theorem d_mLocker_38 : decode prog_6_method_25_code 38 = .ok (.iconst (-1), 1) := by decide +kernel
theorem d_mLocker_39 : decode prog_6_method_25_code 39 = .ok (.if_icmp .eq 5, 3) := by decide +kernel
theorem d_mLocker_42 : decode prog_6_method_25_code 42 = .ok (.iconst (-1), 1) := by decide +kernel
theorem d_mLocker_43 : decode prog_6_method_25_code 43 = .ok (.ireturn, 1) := by decide +kernel
theorem d_mLocker_44 : decode prog_6_method_25_code 44 = .ok (.iconst 0, 1) := by decide +kernel
theorem d_mLocker_45 : decode prog_6_method_25_code 45 = .ok (.istore_n 2, 1) := by decide +kernel
theorem d_mLocker_46 : decode prog_6_method_25_code 46 = .ok (.iload_n 2, 1) := by decide +kernel
theorem d_mLocker_47 : decode prog_6_method_25_code 47 = .ok (.bipush 10, 2) := by decide +kernel
theorem d_mLocker_49 : decode prog_6_method_25_code 49 = .ok (.if_icmp .ge 35, 3) := by decide +kernel
theorem d_mLocker_52 : decode prog_6_method_25_code 52 = .ok (.aload_n 0, 1) := by decide +kernel
theorem d_mLocker_53 : decode prog_6_method_25_code 53 = .ok (.getfield 38, 3) := by decide +kernel
theorem d_mLocker_56 : decode prog_6_method_25_code 56 = .ok (.iload_n 2, 1) := by decide +kernel
theorem d_mLocker_57 : decode prog_6_method_25_code 57 = .ok (.iaload, 1) := by decide +kernel
theorem d_mLocker_58 : decode prog_6_method_25_code 58 = .ok (.iconst (-1), 1) := by decide +kernel
theorem d_mLocker_59 : decode prog_6_method_25_code 59 = .ok (.if_icmp .ne 19, 3) := by decide +kernel
theorem d_mLocker_62 : decode prog_6_method_25_code 62 = .ok (.aload_n 0, 1) := by decide +kernel
theorem d_mLocker_63 : decode prog_6_method_25_code 63 = .ok (.getfield 38, 3) := by decide +kernel
theorem d_mLocker_66 : decode prog_6_method_25_code 66 = .ok (.iload_n 2, 1) := by decide +kernel
theorem d_mLocker_67 : decode prog_6_method_25_code 67 = .ok (.iload_n 1, 1) := by decide +kernel
theorem d_mLocker_68 : decode prog_6_method_25_code 68 = .ok (.iastore, 1) := by decide +kernel
theorem d_mLocker_69 : decode prog_6_method_25_code 69 = .ok (.aload_n 0, 1) := by decide +kernel
theorem d_mLocker_70 : decode prog_6_method_25_code 70 = .ok (.getfield 35, 3) := by decide +kernel
theorem d_mLocker_73 : decode prog_6_method_25_code 73 = .ok (.iload_n 1, 1) := by decide +kernel
theorem d_mLocker_74 : decode prog_6_method_25_code 74 = .ok (.iload_n 2, 1) := by decide +kernel
theorem d_mLocker_75 : decode prog_6_method_25_code 75 = .ok (.iastore, 1) := by decide +kernel
theorem d_mLocker_76 : decode prog_6_method_25_code 76 = .ok (.iload_n 2, 1) := by decide +kernel
