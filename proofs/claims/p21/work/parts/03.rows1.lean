theorem d_HouseI_0 : decode prog_2_method_1_code 0 = .ok (.aload_n 0, 1) := by decide +kernel
theorem d_HouseI_1 : decode prog_2_method_1_code 1 = .ok (.invokespecial 3, 3) := by decide +kernel
theorem d_HouseI_4 : decode prog_2_method_1_code 4 = .ok (.aload_n 0, 1) := by decide +kernel
theorem d_HouseI_5 : decode prog_2_method_1_code 5 = .ok (.bipush 40, 2) := by decide +kernel
theorem d_HouseI_7 : decode prog_2_method_1_code 7 = .ok (.newarray .int, 2) := by decide +kernel
theorem d_HouseI_9 : decode prog_2_method_1_code 9 = .ok (.putfield 9, 3) := by decide +kernel
theorem d_HouseI_12 : decode prog_2_method_1_code 12 = .ok (.aload_n 0, 1) := by decide +kernel
theorem d_HouseI_13 : decode prog_2_method_1_code 13 = .ok (.bipush 40, 2) := by decide +kernel
theorem d_HouseI_15 : decode prog_2_method_1_code 15 = .ok (.newarray .int, 2) := by decide +kernel
theorem d_HouseI_17 : decode prog_2_method_1_code 17 = .ok (.putfield 15, 3) := by decide +kernel
theorem d_HouseI_20 : decode prog_2_method_1_code 20 = .ok (.aload_n 0, 1) := by decide +kernel
theorem d_HouseI_21 : decode prog_2_method_1_code 21 = .ok (.bipush 40, 2) := by decide +kernel
theorem d_HouseI_23 : decode prog_2_method_1_code 23 = .ok (.newarray .boolean, 2) := by decide +kernel
theorem d_HouseI_25 : decode prog_2_method_1_code 25 = .ok (.putfield 18, 3) := by decide +kernel
theorem d_HouseI_28 : decode prog_2_method_1_code 28 = .ok (.aload_n 0, 1) := by decide +kernel
theorem d_HouseI_29 : decode prog_2_method_1_code 29 = .ok (.bipush 40, 2) := by decide +kernel
theorem d_HouseI_31 : decode prog_2_method_1_code 31 = .ok (.newarray .int, 2) := by decide +kernel
theorem d_HouseI_33 : decode prog_2_method_1_code 33 = .ok (.putfield 22, 3) := by decide +kernel
theorem d_HouseI_36 : decode prog_2_method_1_code 36 = .ok (.aload_n 0, 1) := by decide +kernel
theorem d_HouseI_37 : decode prog_2_method_1_code 37 = .ok (.bipush 60, 2) := by decide +kernel
theorem d_HouseI_39 : decode prog_2_method_1_code 39 = .ok (.newarray .int, 2) := by decide +kernel
theorem d_HouseI_41 : decode prog_2_method_1_code 41 = .ok (.putfield 25, 3) := by decide +kernel
theorem d_HouseI_44 : decode prog_2_method_1_code 44 = .ok (.aload_n 0, 1) := by decide +kernel
theorem d_HouseI_45 : decode prog_2_method_1_code 45 = .ok (.bipush 60, 2) := by decide +kernel
theorem d_HouseI_47 : decode prog_2_method_1_code 47 = .ok (.newarray .int, 2) := by decide +kernel
theorem d_HouseI_49 : decode prog_2_method_1_code 49 = .ok (.putfield 28, 3) := by decide +kernel
theorem d_HouseI_52 : decode prog_2_method_1_code 52 = .ok (.aload_n 0, 1) := by decide +kernel
theorem d_HouseI_53 : decode prog_2_method_1_code 53 = .ok (.bipush 60, 2) := by decide +kernel
theorem d_HouseI_55 : decode prog_2_method_1_code 55 = .ok (.newarray .boolean, 2) := by decide +kernel
theorem d_HouseI_57 : decode prog_2_method_1_code 57 = .ok (.putfield 31, 3) := by decide +kernel
theorem d_HouseI_60 : decode prog_2_method_1_code 60 = .ok (.aload_n 0, 1) := by decide +kernel
theorem d_HouseI_61 : decode prog_2_method_1_code 61 = .ok (.bipush 60, 2) := by decide +kernel
theorem d_HouseI_63 : decode prog_2_method_1_code 63 = .ok (.newarray .int, 2) := by decide +kernel
theorem d_HouseI_65 : decode prog_2_method_1_code 65 = .ok (.putfield 34, 3) := by decide +kernel
theorem d_HouseI_68 : decode prog_2_method_1_code 68 = .ok (.aload_n 0, 1) := by decide +kernel
theorem d_HouseI_69 : decode prog_2_method_1_code 69 = .ok (.bipush 10, 2) := by decide +kernel
theorem d_HouseI_71 : decode prog_2_method_1_code 71 = .ok (.newarray .int, 2) := by decide +kernel
theorem d_HouseI_73 : decode prog_2_method_1_code 73 = .ok (.putfield 37, 3) := by decide +kernel
theorem d_HouseI_76 : decode prog_2_method_1_code 76 = .ok (.aload_n 0, 1) := by decide +kernel
theorem d_HouseI_77 : decode prog_2_method_1_code 77 = .ok (.getfield 25, 3) := by decide +kernel
theorem d_HouseI_80 : decode prog_2_method_1_code 80 = .ok (.iconst (-1), 1) := by decide +kernel
theorem d_HouseI_81 : decode prog_2_method_1_code 81 = .ok (.invokestatic 40, 3) := by decide +kernel
theorem d_HouseI_84 : decode prog_2_method_1_code 84 = .ok (.aload_n 0, 1) := by decide +kernel
theorem d_HouseI_85 : decode prog_2_method_1_code 85 = .ok (.getfield 28, 3) := by decide +kernel
theorem d_HouseI_88 : decode prog_2_method_1_code 88 = .ok (.iconst (-1), 1) := by decide +kernel
theorem d_HouseI_89 : decode prog_2_method_1_code 89 = .ok (.invokestatic 40, 3) := by decide +kernel
theorem d_HouseI_92 : decode prog_2_method_1_code 92 = .ok (.aload_n 0, 1) := by decide +kernel
theorem d_HouseI_93 : decode prog_2_method_1_code 93 = .ok (.getfield 34, 3) := by decide +kernel
theorem d_HouseI_96 : decode prog_2_method_1_code 96 = .ok (.iconst (-1), 1) := by decide +kernel
theorem d_HouseI_97 : decode prog_2_method_1_code 97 = .ok (.invokestatic 40, 3) := by decide +kernel
theorem d_HouseI_100 : decode prog_2_method_1_code 100 = .ok (.aload_n 0, 1) := by decide +kernel
theorem d_HouseI_101 : decode prog_2_method_1_code 101 = .ok (.getfield 37, 3) := by decide +kernel
theorem d_HouseI_104 : decode prog_2_method_1_code 104 = .ok (.iconst (-1), 1) := by decide +kernel
theorem d_HouseI_105 : decode prog_2_method_1_code 105 = .ok (.invokestatic 40, 3) := by decide +kernel
theorem d_HouseI_108 : decode prog_2_method_1_code 108 = .ok (.iconst 0, 1) := by decide +kernel
theorem d_HouseI_109 : decode prog_2_method_1_code 109 = .ok (.istore_n 1, 1) := by decide +kernel
theorem d_HouseI_110 : decode prog_2_method_1_code 110 = .ok (.iload_n 1, 1) := by decide +kernel
theorem d_HouseI_111 : decode prog_2_method_1_code 111 = .ok (.bipush 60, 2) := by decide +kernel
theorem d_HouseI_113 : decode prog_2_method_1_code 113 = .ok (.if_icmp .ge 16, 3) := by decide +kernel
theorem d_HouseI_116 : decode prog_2_method_1_code 116 = .ok (.aload_n 0, 1) := by decide +kernel
theorem d_HouseI_117 : decode prog_2_method_1_code 117 = .ok (.getfield 31, 3) := by decide +kernel
theorem d_HouseI_120 : decode prog_2_method_1_code 120 = .ok (.iload_n 1, 1) := by decide +kernel
theorem d_HouseI_121 : decode prog_2_method_1_code 121 = .ok (.iconst 1, 1) := by decide +kernel
theorem d_HouseI_122 : decode prog_2_method_1_code 122 = .ok (.bastore, 1) := by decide +kernel
theorem d_HouseI_123 : decode prog_2_method_1_code 123 = .ok (.iinc 1 1, 3) := by decide +kernel
theorem d_HouseI_126 : decode prog_2_method_1_code 126 = .ok (.goto (-16), 3) := by decide +kernel
theorem d_HouseI_129 : decode prog_2_method_1_code 129 = .ok (.return_, 1) := by decide +kernel
theorem d_MainI_0 : decode prog_1_method_1_code 0 = .ok (.aload_n 0, 1) := by decide +kernel
theorem d_MainI_1 : decode prog_1_method_1_code 1 = .ok (.invokespecial 1, 3) := by decide +kernel
theorem d_MainI_4 : decode prog_1_method_1_code 4 = .ok (.iconst 0, 1) := by decide +kernel
theorem d_MainI_5 : decode prog_1_method_1_code 5 = .ok (.bipush 100, 2) := by decide +kernel
theorem d_MainI_7 : decode prog_1_method_1_code 7 = .ok (.iload_n 1, 1) := by decide +kernel
theorem d_MainI_8 : decode prog_1_method_1_code 8 = .ok (.invokestatic 9, 3) := by decide +kernel
theorem d_MainI_11 : decode prog_1_method_1_code 11 = .ok (.invokestatic 15, 3) := by decide +kernel
theorem d_MainI_14 : decode prog_1_method_1_code 14 = .ok (.istore_n 2, 1) := by decide +kernel
theorem d_MainI_15 : decode prog_1_method_1_code 15 = .ok (.aload_n 0, 1) := by decide +kernel
theorem d_MainI_16 : decode prog_1_method_1_code 16 = .ok (.new 18, 3) := by decide +kernel
theorem d_MainI_19 : decode prog_1_method_1_code 19 = .ok (.dup, 1) := by decide +kernel
theorem d_MainI_20 : decode prog_1_method_1_code 20 = .ok (.invokespecial 20, 3) := by decide +kernel
theorem d_MainI_23 : decode prog_1_method_1_code 23 = .ok (.putfield 21, 3) := by decide +kernel
theorem d_MainI_26 : decode prog_1_method_1_code 26 = .ok (.aload_n 0, 1) := by decide +kernel
theorem d_MainI_27 : decode prog_1_method_1_code 27 = .ok (.new 25, 3) := by decide +kernel
theorem d_MainI_30 : decode prog_1_method_1_code 30 = .ok (.dup, 1) := by decide +kernel
theorem d_MainI_31 : decode prog_1_method_1_code 31 = .ok (.iload_n 2, 1) := by decide +kernel
theorem d_MainI_32 : decode prog_1_method_1_code 32 = .ok (.invokespecial 27, 3) := by decide +kernel
theorem d_MainI_35 : decode prog_1_method_1_code 35 = .ok (.putfield 30, 3) := by decide +kernel
theorem d_MainI_38 : decode prog_1_method_1_code 38 = .ok (.aload_n 0, 1) := by decide +kernel
theorem d_MainI_39 : decode prog_1_method_1_code 39 = .ok (.new 25, 3) := by decide +kernel
theorem d_MainI_42 : decode prog_1_method_1_code 42 = .ok (.dup, 1) := by decide +kernel
theorem d_MainI_43 : decode prog_1_method_1_code 43 = .ok (.iload_n 2, 1) := by decide +kernel
theorem d_MainI_44 : decode prog_1_method_1_code 44 = .ok (.invokespecial 27, 3) := by decide +kernel
theorem d_MainI_47 : decode prog_1_method_1_code 47 = .ok (.putfield 34, 3) := by decide +kernel
theorem d_MainI_50 : decode prog_1_method_1_code 50 = .ok (.aload_n 0, 1) := by decide +kernel
theorem d_MainI_51 : decode prog_1_method_1_code 51 = .ok (.new 37, 3) := by decide +kernel
theorem d_MainI_54 : decode prog_1_method_1_code 54 = .ok (.dup, 1) := by decide +kernel
theorem d_MainI_55 : decode prog_1_method_1_code 55 = .ok (.invokespecial 39, 3) := by decide +kernel
theorem d_MainI_58 : decode prog_1_method_1_code 58 = .ok (.putfield 40, 3) := by decide +kernel
theorem d_MainI_61 : decode prog_1_method_1_code 61 = .ok (.aload_n 0, 1) := by decide +kernel
theorem d_MainI_62 : decode prog_1_method_1_code 62 = .ok (.iconst 0, 1) := by decide +kernel
theorem d_MainI_63 : decode prog_1_method_1_code 63 = .ok (.putfield 44, 3) := by decide +kernel
theorem d_MainI_66 : decode prog_1_method_1_code 66 = .ok (.return_, 1) := by decide +kernel
theorem d_ModI_0 : decode prog_6_method_1_code 0 = .ok (.aload_n 0, 1) := by decide +kernel
theorem d_ModI_1 : decode prog_6_method_1_code 1 = .ok (.invokespecial 1, 3) := by decide +kernel
theorem d_ModI_4 : decode prog_6_method_1_code 4 = .ok (.aload_n 0, 1) := by decide +kernel
theorem d_ModI_5 : decode prog_6_method_1_code 5 = .ok (.bipush 40, 2) := by decide +kernel
theorem d_ModI_7 : decode prog_6_method_1_code 7 = .ok (.newarray .int, 2) := by decide +kernel
theorem d_ModI_9 : decode prog_6_method_1_code 9 = .ok (.putfield 7, 3) := by decide +kernel
theorem d_ModI_12 : decode prog_6_method_1_code 12 = .ok (.aload_n 0, 1) := by decide +kernel
theorem d_ModI_13 : decode prog_6_method_1_code 13 = .ok (.bipush 40, 2) := by decide +kernel
theorem d_ModI_15 : decode prog_6_method_1_code 15 = .ok (.newarray .int, 2) := by decide +kernel
theorem d_ModI_17 : decode prog_6_method_1_code 17 = .ok (.putfield 13, 3) := by decide +kernel
theorem d_ModI_20 : decode prog_6_method_1_code 20 = .ok (.aload_n 0, 1) := by decide +kernel
theorem d_ModI_21 : decode prog_6_method_1_code 21 = .ok (.bipush 40, 2) := by decide +kernel
theorem d_ModI_23 : decode prog_6_method_1_code 23 = .ok (.newarray .boolean, 2) := by decide +kernel
theorem d_ModI_25 : decode prog_6_method_1_code 25 = .ok (.putfield 16, 3) := by decide +kernel
theorem d_ModI_28 : decode prog_6_method_1_code 28 = .ok (.aload_n 0, 1) := by decide +kernel
theorem d_ModI_29 : decode prog_6_method_1_code 29 = .ok (.bipush 40, 2) := by decide +kernel
theorem d_ModI_31 : decode prog_6_method_1_code 31 = .ok (.newarray .boolean, 2) := by decide +kernel
theorem d_ModI_33 : decode prog_6_method_1_code 33 = .ok (.putfield 20, 3) := by decide +kernel
theorem d_ModI_36 : decode prog_6_method_1_code 36 = .ok (.aload_n 0, 1) := by decide +kernel
theorem d_ModI_37 : decode prog_6_method_1_code 37 = .ok (.bipush 40, 2) := by decide +kernel
theorem d_ModI_39 : decode prog_6_method_1_code 39 = .ok (.newarray .int, 2) := by decide +kernel
theorem d_ModI_41 : decode prog_6_method_1_code 41 = .ok (.putfield 23, 3) := by decide +kernel
theorem d_ModI_44 : decode prog_6_method_1_code 44 = .ok (.aload_n 0, 1) := by decide +kernel
theorem d_ModI_45 : decode prog_6_method_1_code 45 = .ok (.bipush 60, 2) := by decide +kernel
theorem d_ModI_47 : decode prog_6_method_1_code 47 = .ok (.newarray .int, 2) := by decide +kernel
theorem d_ModI_49 : decode prog_6_method_1_code 49 = .ok (.putfield 26, 3) := by decide +kernel
theorem d_ModI_52 : decode prog_6_method_1_code 52 = .ok (.aload_n 0, 1) := by decide +kernel
theorem d_ModI_53 : decode prog_6_method_1_code 53 = .ok (.bipush 60, 2) := by decide +kernel
theorem d_ModI_55 : decode prog_6_method_1_code 55 = .ok (.newarray .int, 2) := by decide +kernel
theorem d_ModI_57 : decode prog_6_method_1_code 57 = .ok (.putfield 29, 3) := by decide +kernel
theorem d_ModI_60 : decode prog_6_method_1_code 60 = .ok (.aload_n 0, 1) := by decide +kernel
theorem d_ModI_61 : decode prog_6_method_1_code 61 = .ok (.bipush 60, 2) := by decide +kernel
theorem d_ModI_63 : decode prog_6_method_1_code 63 = .ok (.newarray .boolean, 2) := by decide +kernel
theorem d_ModI_65 : decode prog_6_method_1_code 65 = .ok (.putfield 32, 3) := by decide +kernel
theorem d_ModI_68 : decode prog_6_method_1_code 68 = .ok (.aload_n 0, 1) := by decide +kernel
theorem d_ModI_69 : decode prog_6_method_1_code 69 = .ok (.bipush 60, 2) := by decide +kernel
theorem d_ModI_71 : decode prog_6_method_1_code 71 = .ok (.newarray .int, 2) := by decide +kernel
theorem d_ModI_73 : decode prog_6_method_1_code 73 = .ok (.putfield 35, 3) := by decide +kernel
theorem d_ModI_76 : decode prog_6_method_1_code 76 = .ok (.aload_n 0, 1) := by decide +kernel
theorem d_ModI_77 : decode prog_6_method_1_code 77 = .ok (.bipush 10, 2) := by decide +kernel
theorem d_ModI_79 : decode prog_6_method_1_code 79 = .ok (.newarray .int, 2) := by decide +kernel
theorem d_ModI_81 : decode prog_6_method_1_code 81 = .ok (.putfield 38, 3) := by decide +kernel
theorem d_ModI_84 : decode prog_6_method_1_code 84 = .ok (.aload_n 0, 1) := by decide +kernel
theorem d_ModI_85 : decode prog_6_method_1_code 85 = .ok (.sipush 6000, 3) := by decide +kernel
theorem d_ModI_88 : decode prog_6_method_1_code 88 = .ok (.newarray .int, 2) := by decide +kernel
theorem d_ModI_90 : decode prog_6_method_1_code 90 = .ok (.putfield 41, 3) := by decide +kernel
theorem d_ModI_93 : decode prog_6_method_1_code 93 = .ok (.aload_n 0, 1) := by decide +kernel
theorem d_ModI_94 : decode prog_6_method_1_code 94 = .ok (.bipush 100, 2) := by decide +kernel
theorem d_ModI_96 : decode prog_6_method_1_code 96 = .ok (.newarray .int, 2) := by decide +kernel
theorem d_ModI_98 : decode prog_6_method_1_code 98 = .ok (.putfield 44, 3) := by decide +kernel
theorem d_ModI_101 : decode prog_6_method_1_code 101 = .ok (.aload_n 0, 1) := by decide +kernel
theorem d_ModI_102 : decode prog_6_method_1_code 102 = .ok (.bipush 100, 2) := by decide +kernel
theorem d_ModI_104 : decode prog_6_method_1_code 104 = .ok (.newarray .int, 2) := by decide +kernel
theorem d_ModI_106 : decode prog_6_method_1_code 106 = .ok (.putfield 47, 3) := by decide +kernel
theorem d_ModI_109 : decode prog_6_method_1_code 109 = .ok (.aload_n 0, 1) := by decide +kernel
theorem d_ModI_110 : decode prog_6_method_1_code 110 = .ok (.sipush 300, 3) := by decide +kernel
theorem d_ModI_113 : decode prog_6_method_1_code 113 = .ok (.newarray .int, 2) := by decide +kernel
theorem d_ModI_115 : decode prog_6_method_1_code 115 = .ok (.putfield 50, 3) := by decide +kernel
theorem d_ModI_118 : decode prog_6_method_1_code 118 = .ok (.aload_n 0, 1) := by decide +kernel
theorem d_ModI_119 : decode prog_6_method_1_code 119 = .ok (.iload_n 1, 1) := by decide +kernel
theorem d_ModI_120 : decode prog_6_method_1_code 120 = .ok (.ifCond .ge 7, 3) := by decide +kernel
theorem d_ModI_123 : decode prog_6_method_1_code 123 = .ok (.iconst 0, 1) := by decide +kernel
theorem d_ModI_124 : decode prog_6_method_1_code 124 = .ok (.goto 15, 3) := by decide +kernel
theorem d_ModI_127 : decode prog_6_method_1_code 127 = .ok (.iload_n 1, 1) := by decide +kernel
theorem d_ModI_128 : decode prog_6_method_1_code 128 = .ok (.bipush 100, 2) := by decide +kernel
theorem d_ModI_130 : decode prog_6_method_1_code 130 = .ok (.if_icmp .le 8, 3) := by decide +kernel
theorem d_ModI_133 : decode prog_6_method_1_code 133 = .ok (.bipush 100, 2) := by decide +kernel
theorem d_ModI_135 : decode prog_6_method_1_code 135 = .ok (.goto 4, 3) := by decide +kernel
theorem d_ModI_138 : decode prog_6_method_1_code 138 = .ok (.iload_n 1, 1) := by decide +kernel
theorem d_ModI_139 : decode prog_6_method_1_code 139 = .ok (.putfield 53, 3) := by decide +kernel
theorem d_ModI_142 : decode prog_6_method_1_code 142 = .ok (.iconst 0, 1) := by decide +kernel
theorem d_ModI_143 : decode prog_6_method_1_code 143 = .ok (.istore_n 2, 1) := by decide +kernel
theorem d_ModI_144 : decode prog_6_method_1_code 144 = .ok (.iload_n 2, 1) := by decide +kernel
theorem d_ModI_145 : decode prog_6_method_1_code 145 = .ok (.bipush 60, 2) := by decide +kernel
theorem d_ModI_147 : decode prog_6_method_1_code 147 = .ok (.if_icmp .ge 30, 3) := by decide +kernel
theorem d_ModI_150 : decode prog_6_method_1_code 150 = .ok (.aload_n 0, 1) := by decide +kernel
theorem d_ModI_151 : decode prog_6_method_1_code 151 = .ok (.getfield 26, 3) := by decide +kernel
theorem d_ModI_154 : decode prog_6_method_1_code 154 = .ok (.iload_n 2, 1) := by decide +kernel
theorem d_ModI_155 : decode prog_6_method_1_code 155 = .ok (.iconst (-1), 1) := by decide +kernel
theorem d_ModI_156 : decode prog_6_method_1_code 156 = .ok (.iastore, 1) := by decide +kernel
theorem d_ModI_157 : decode prog_6_method_1_code 157 = .ok (.aload_n 0, 1) := by decide +kernel
theorem d_ModI_158 : decode prog_6_method_1_code 158 = .ok (.getfield 29, 3) := by decide +kernel
theorem d_ModI_161 : decode prog_6_method_1_code 161 = .ok (.iload_n 2, 1) := by decide +kernel
theorem d_ModI_162 : decode prog_6_method_1_code 162 = .ok (.iconst (-1), 1) := by decide +kernel
theorem d_ModI_163 : decode prog_6_method_1_code 163 = .ok (.iastore, 1) := by decide +kernel
theorem d_ModI_164 : decode prog_6_method_1_code 164 = .ok (.aload_n 0, 1) := by decide +kernel
theorem d_ModI_165 : decode prog_6_method_1_code 165 = .ok (.getfield 35, 3) := by decide +kernel
theorem d_ModI_168 : decode prog_6_method_1_code 168 = .ok (.iload_n 2, 1) := by decide +kernel
theorem d_ModI_169 : decode prog_6_method_1_code 169 = .ok (.iconst (-1), 1) := by decide +kernel
theorem d_ModI_170 : decode prog_6_method_1_code 170 = .ok (.iastore, 1) := by decide +kernel
theorem d_ModI_171 : decode prog_6_method_1_code 171 = .ok (.iinc 2 1, 3) := by decide +kernel
theorem d_ModI_174 : decode prog_6_method_1_code 174 = .ok (.goto (-30), 3) := by decide +kernel
theorem d_ModI_177 : decode prog_6_method_1_code 177 = .ok (.iconst 0, 1) := by decide +kernel
theorem d_ModI_178 : decode prog_6_method_1_code 178 = .ok (.istore_n 2, 1) := by decide +kernel
theorem d_ModI_179 : decode prog_6_method_1_code 179 = .ok (.iload_n 2, 1) := by decide +kernel
theorem d_ModI_180 : decode prog_6_method_1_code 180 = .ok (.bipush 10, 2) := by decide +kernel
theorem d_ModI_182 : decode prog_6_method_1_code 182 = .ok (.if_icmp .ge 16, 3) := by decide +kernel
theorem d_ModI_185 : decode prog_6_method_1_code 185 = .ok (.aload_n 0, 1) := by decide +kernel
theorem d_ModI_186 : decode prog_6_method_1_code 186 = .ok (.getfield 38, 3) := by decide +kernel
theorem d_ModI_189 : decode prog_6_method_1_code 189 = .ok (.iload_n 2, 1) := by decide +kernel
theorem d_ModI_190 : decode prog_6_method_1_code 190 = .ok (.iconst (-1), 1) := by decide +kernel
theorem d_ModI_191 : decode prog_6_method_1_code 191 = .ok (.iastore, 1) := by decide +kernel
theorem d_ModI_192 : decode prog_6_method_1_code 192 = .ok (.iinc 2 1, 3) := by decide +kernel
theorem d_ModI_195 : decode prog_6_method_1_code 195 = .ok (.goto (-16), 3) := by decide +kernel
theorem d_ModI_198 : decode prog_6_method_1_code 198 = .ok (.aload_n 0, 1) := by decide +kernel
theorem d_ModI_199 : decode prog_6_method_1_code 199 = .ok (.iconst (-1), 1) := by decide +kernel
theorem d_ModI_200 : decode prog_6_method_1_code 200 = .ok (.putfield 57, 3) := by decide +kernel
theorem d_ModI_203 : decode prog_6_method_1_code 203 = .ok (.return_, 1) := by decide +kernel
theorem d_RowI_0 : decode prog_3_method_1_code 0 = .ok (.aload_n 0, 1) := by decide +kernel
theorem d_RowI_1 : decode prog_3_method_1_code 1 = .ok (.invokespecial 3, 3) := by decide +kernel
theorem d_RowI_4 : decode prog_3_method_1_code 4 = .ok (.iconst 0, 1) := by decide +kernel
theorem d_RowI_5 : decode prog_3_method_1_code 5 = .ok (.iload_n 1, 1) := by decide +kernel
theorem d_RowI_6 : decode prog_3_method_1_code 6 = .ok (.invokestatic 9, 3) := by decide +kernel
theorem d_RowI_9 : decode prog_3_method_1_code 9 = .ok (.istore_n 2, 1) := by decide +kernel
theorem d_RowI_10 : decode prog_3_method_1_code 10 = .ok (.aload_n 0, 1) := by decide +kernel
theorem d_RowI_11 : decode prog_3_method_1_code 11 = .ok (.iload_n 2, 1) := by decide +kernel
theorem d_RowI_12 : decode prog_3_method_1_code 12 = .ok (.newarray .int, 2) := by decide +kernel
theorem d_RowI_14 : decode prog_3_method_1_code 14 = .ok (.putfield 15, 3) := by decide +kernel
theorem d_RowI_17 : decode prog_3_method_1_code 17 = .ok (.aload_n 0, 1) := by decide +kernel
theorem d_RowI_18 : decode prog_3_method_1_code 18 = .ok (.iload_n 2, 1) := by decide +kernel
theorem d_RowI_19 : decode prog_3_method_1_code 19 = .ok (.newarray .int, 2) := by decide +kernel
theorem d_RowI_21 : decode prog_3_method_1_code 21 = .ok (.putfield 21, 3) := by decide +kernel
theorem d_RowI_24 : decode prog_3_method_1_code 24 = .ok (.aload_n 0, 1) := by decide +kernel
theorem d_RowI_25 : decode prog_3_method_1_code 25 = .ok (.iconst 0, 1) := by decide +kernel
theorem d_RowI_26 : decode prog_3_method_1_code 26 = .ok (.putfield 24, 3) := by decide +kernel
theorem d_RowI_29 : decode prog_3_method_1_code 29 = .ok (.return_, 1) := by decide +kernel
theorem d_SesI_0 : decode prog_4_method_1_code 0 = .ok (.aload_n 0, 1) := by decide +kernel
theorem d_SesI_1 : decode prog_4_method_1_code 1 = .ok (.invokespecial 3, 3) := by decide +kernel
theorem d_SesI_4 : decode prog_4_method_1_code 4 = .ok (.aload_n 0, 1) := by decide +kernel
theorem d_SesI_5 : decode prog_4_method_1_code 5 = .ok (.sipush 256, 3) := by decide +kernel
theorem d_SesI_8 : decode prog_4_method_1_code 8 = .ok (.newarray .int, 2) := by decide +kernel
theorem d_SesI_10 : decode prog_4_method_1_code 10 = .ok (.putfield 9, 3) := by decide +kernel
theorem d_SesI_13 : decode prog_4_method_1_code 13 = .ok (.aload_n 0, 1) := by decide +kernel
theorem d_SesI_14 : decode prog_4_method_1_code 14 = .ok (.iconst 0, 1) := by decide +kernel
theorem d_SesI_15 : decode prog_4_method_1_code 15 = .ok (.putfield 15, 3) := by decide +kernel
theorem d_SesI_18 : decode prog_4_method_1_code 18 = .ok (.aload_n 0, 1) := by decide +kernel
theorem d_SesI_19 : decode prog_4_method_1_code 19 = .ok (.iconst 0, 1) := by decide +kernel
theorem d_SesI_20 : decode prog_4_method_1_code 20 = .ok (.putfield 19, 3) := by decide +kernel
theorem d_SesI_23 : decode prog_4_method_1_code 23 = .ok (.aload_n 0, 1) := by decide +kernel
theorem d_SesI_24 : decode prog_4_method_1_code 24 = .ok (.iconst 0, 1) := by decide +kernel
theorem d_SesI_25 : decode prog_4_method_1_code 25 = .ok (.putfield 22, 3) := by decide +kernel
theorem d_SesI_28 : decode prog_4_method_1_code 28 = .ok (.aload_n 0, 1) := by decide +kernel
theorem d_SesI_29 : decode prog_4_method_1_code 29 = .ok (.iconst (-1), 1) := by decide +kernel
theorem d_SesI_30 : decode prog_4_method_1_code 30 = .ok (.putfield 25, 3) := by decide +kernel
theorem d_SesI_33 : decode prog_4_method_1_code 33 = .ok (.aload_n 0, 1) := by decide +kernel
theorem d_SesI_34 : decode prog_4_method_1_code 34 = .ok (.iconst 0, 1) := by decide +kernel
theorem d_SesI_35 : decode prog_4_method_1_code 35 = .ok (.putfield 28, 3) := by decide +kernel
theorem d_SesI_38 : decode prog_4_method_1_code 38 = .ok (.return_, 1) := by decide +kernel
theorem d_addL_0 : decode prog_4_method_5_code 0 = .ok (.aload_n 0, 1) := by decide +kernel
theorem d_addL_1 : decode prog_4_method_5_code 1 = .ok (.getfield 15, 3) := by decide +kernel
theorem d_addL_4 : decode prog_4_method_5_code 4 = .ok (.aload_n 0, 1) := by decide +kernel
theorem d_addL_5 : decode prog_4_method_5_code 5 = .ok (.getfield 9, 3) := by decide +kernel
theorem d_addL_8 : decode prog_4_method_5_code 8 = .ok (.arraylength, 1) := by decide +kernel
theorem d_addL_9 : decode prog_4_method_5_code 9 = .ok (.if_icmp .lt 4, 3) := by decide +kernel
theorem d_addL_12 : decode prog_4_method_5_code 12 = .ok (.return_, 1) := by decide +kernel
theorem d_addL_13 : decode prog_4_method_5_code 13 = .ok (.aload_n 0, 1) := by decide +kernel
theorem d_addL_14 : decode prog_4_method_5_code 14 = .ok (.getfield 9, 3) := by decide +kernel
theorem d_addL_17 : decode prog_4_method_5_code 17 = .ok (.aload_n 0, 1) := by decide +kernel
theorem d_addL_18 : decode prog_4_method_5_code 18 = .ok (.getfield 15, 3) := by decide +kernel
theorem d_addL_21 : decode prog_4_method_5_code 21 = .ok (.aload_n 0, 1) := by decide +kernel
theorem d_addL_22 : decode prog_4_method_5_code 22 = .ok (.getfield 25, 3) := by decide +kernel
theorem d_addL_25 : decode prog_4_method_5_code 25 = .ok (.iastore, 1) := by decide +kernel
theorem d_addL_26 : decode prog_4_method_5_code 26 = .ok (.aload_n 0, 1) := by decide +kernel
theorem d_addL_27 : decode prog_4_method_5_code 27 = .ok (.dup, 1) := by decide +kernel
theorem d_addL_28 : decode prog_4_method_5_code 28 = .ok (.getfield 15, 3) := by decide +kernel
theorem d_addL_31 : decode prog_4_method_5_code 31 = .ok (.iconst 1, 1) := by decide +kernel
theorem d_addL_32 : decode prog_4_method_5_code 32 = .ok (.iadd, 1) := by decide +kernel
theorem d_addL_33 : decode prog_4_method_5_code 33 = .ok (.putfield 15, 3) := by decide +kernel
theorem d_addL_36 : decode prog_4_method_5_code 36 = .ok (.aload_n 0, 1) := by decide +kernel
theorem d_addL_37 : decode prog_4_method_5_code 37 = .ok (.iconst 1, 1) := by decide +kernel
theorem d_addL_38 : decode prog_4_method_5_code 38 = .ok (.putfield 28, 3) := by decide +kernel
theorem d_addL_41 : decode prog_4_method_5_code 41 = .ok (.return_, 1) := by decide +kernel
theorem d_back_0 : decode prog_1_method_10_code 0 = .ok (.iload_n 1, 1) := by decide +kernel
theorem d_back_1 : decode prog_1_method_10_code 1 = .ok (.invokestatic 69, 3) := by decide +kernel
theorem d_back_4 : decode prog_1_method_10_code 4 = .ok (.ifCond .ne 5, 3) := by decide +kernel
theorem d_back_7 : decode prog_1_method_10_code 7 = .ok (.iconst (-1), 1) := by decide +kernel
theorem d_back_8 : decode prog_1_method_10_code 8 = .ok (.ireturn, 1) := by decide +kernel
theorem d_back_9 : decode prog_1_method_10_code 9 = .ok (.aload_n 0, 1) := by decide +kernel
theorem d_back_10 : decode prog_1_method_10_code 10 = .ok (.getfield 44, 3) := by decide +kernel
theorem d_back_13 : decode prog_1_method_10_code 13 = .ok (.ifCond .ne 12, 3) := by decide +kernel
theorem d_back_16 : decode prog_1_method_10_code 16 = .ok (.aload_n 0, 1) := by decide +kernel
theorem d_back_17 : decode prog_1_method_10_code 17 = .ok (.getfield 21, 3) := by decide +kernel
theorem d_back_20 : decode prog_1_method_10_code 20 = .ok (.iload_n 1, 1) := by decide +kernel
theorem d_back_21 : decode prog_1_method_10_code 21 = .ok (.invokevirtual 127, 3) := by decide +kernel
theorem d_back_24 : decode prog_1_method_10_code 24 = .ok (.ireturn, 1) := by decide +kernel
theorem d_back_25 : decode prog_1_method_10_code 25 = .ok (.aload_n 0, 1) := by decide +kernel
theorem d_back_26 : decode prog_1_method_10_code 26 = .ok (.getfield 30, 3) := by decide +kernel
theorem d_back_29 : decode prog_1_method_10_code 29 = .ok (.invokevirtual 131, 3) := by decide +kernel
theorem d_back_32 : decode prog_1_method_10_code 32 = .ok (.ifCond .eq 6, 3) := by decide +kernel
theorem d_back_35 : decode prog_1_method_10_code 35 = .ok (.bipush (-7), 2) := by decide +kernel
theorem d_back_37 : decode prog_1_method_10_code 37 = .ok (.ireturn, 1) := by decide +kernel
theorem d_back_38 : decode prog_1_method_10_code 38 = .ok (.aload_n 0, 1) := by decide +kernel
theorem d_back_39 : decode prog_1_method_10_code 39 = .ok (.getfield 30, 3) := by decide +kernel
theorem d_back_42 : decode prog_1_method_10_code 42 = .ok (.iload_n 1, 1) := by decide +kernel
theorem d_back_43 : decode prog_1_method_10_code 43 = .ok (.iconst (-1), 1) := by decide +kernel
theorem d_back_44 : decode prog_1_method_10_code 44 = .ok (.invokevirtual 111, 3) := by decide +kernel
theorem d_back_47 : decode prog_1_method_10_code 47 = .ok (.aload_n 0, 1) := by decide +kernel
theorem d_back_48 : decode prog_1_method_10_code 48 = .ok (.getfield 21, 3) := by decide +kernel
theorem d_back_51 : decode prog_1_method_10_code 51 = .ok (.getfield 115, 3) := by decide +kernel
theorem d_back_54 : decode prog_1_method_10_code 54 = .ok (.iload_n 1, 1) := by decide +kernel
theorem d_back_55 : decode prog_1_method_10_code 55 = .ok (.iconst 1, 1) := by decide +kernel
theorem d_back_56 : decode prog_1_method_10_code 56 = .ok (.bastore, 1) := by decide +kernel
theorem d_back_57 : decode prog_1_method_10_code 57 = .ok (.iconst 0, 1) := by decide +kernel
theorem d_back_58 : decode prog_1_method_10_code 58 = .ok (.ireturn, 1) := by decide +kernel
theorem d_block_0 : decode prog_1_method_3_code 0 = .ok (.iload_n 1, 1) := by decide +kernel
theorem d_block_1 : decode prog_1_method_3_code 1 = .ok (.invokestatic 48, 3) := by decide +kernel
theorem d_block_4 : decode prog_1_method_3_code 4 = .ok (.ifCond .ne 5, 3) := by decide +kernel
theorem d_block_7 : decode prog_1_method_3_code 7 = .ok (.iconst 0, 1) := by decide +kernel
theorem d_block_8 : decode prog_1_method_3_code 8 = .ok (.ireturn, 1) := by decide +kernel
theorem d_block_9 : decode prog_1_method_3_code 9 = .ok (.aload_n 0, 1) := by decide +kernel
theorem d_block_10 : decode prog_1_method_3_code 10 = .ok (.getfield 21, 3) := by decide +kernel
theorem d_block_13 : decode prog_1_method_3_code 13 = .ok (.iload_n 1, 1) := by decide +kernel
theorem d_block_14 : decode prog_1_method_3_code 14 = .ok (.invokevirtual 59, 3) := by decide +kernel
theorem d_block_17 : decode prog_1_method_3_code 17 = .ok (.istore_n 3, 1) := by decide +kernel
theorem d_block_18 : decode prog_1_method_3_code 18 = .ok (.aload_n 0, 1) := by decide +kernel
theorem d_block_19 : decode prog_1_method_3_code 19 = .ok (.getfield 21, 3) := by decide +kernel
theorem d_block_22 : decode prog_1_method_3_code 22 = .ok (.getfield 62, 3) := by decide +kernel
theorem d_block_25 : decode prog_1_method_3_code 25 = .ok (.iload_n 1, 1) := by decide +kernel
theorem d_block_26 : decode prog_1_method_3_code 26 = .ok (.iload_n 2, 1) := by decide +kernel
theorem d_block_27 : decode prog_1_method_3_code 27 = .ok (.bastore, 1) := by decide +kernel
theorem d_block_28 : decode prog_1_method_3_code 28 = .ok (.aload_n 0, 1) := by decide +kernel
theorem d_block_29 : decode prog_1_method_3_code 29 = .ok (.getfield 21, 3) := by decide +kernel
theorem d_block_32 : decode prog_1_method_3_code 32 = .ok (.getfield 66, 3) := by decide +kernel
theorem d_block_35 : decode prog_1_method_3_code 35 = .ok (.iload_n 1, 1) := by decide +kernel
theorem d_block_36 : decode prog_1_method_3_code 36 = .ok (.iconst 0, 1) := by decide +kernel
theorem d_block_37 : decode prog_1_method_3_code 37 = .ok (.iastore, 1) := by decide +kernel
theorem d_block_38 : decode prog_1_method_3_code 38 = .ok (.iload_n 3, 1) := by decide +kernel
theorem d_block_39 : decode prog_1_method_3_code 39 = .ok (.ireturn, 1) := by decide +kernel
theorem d_card_0 : decode prog_1_method_5_code 0 = .ok (.iload_n 1, 1) := by decide +kernel
theorem d_card_1 : decode prog_1_method_5_code 1 = .ok (.invokestatic 48, 3) := by decide +kernel
theorem d_card_4 : decode prog_1_method_5_code 4 = .ok (.ifCond .eq 13, 3) := by decide +kernel
theorem d_card_7 : decode prog_1_method_5_code 7 = .ok (.aload_n 0, 1) := by decide +kernel
theorem d_card_8 : decode prog_1_method_5_code 8 = .ok (.getfield 40, 3) := by decide +kernel
theorem d_card_11 : decode prog_1_method_5_code 11 = .ok (.getfield 75, 3) := by decide +kernel
theorem d_card_14 : decode prog_1_method_5_code 14 = .ok (.ifCond .eq 5, 3) := by decide +kernel
theorem d_card_17 : decode prog_1_method_5_code 17 = .ok (.iconst 0, 1) := by decide +kernel
theorem d_card_18 : decode prog_1_method_5_code 18 = .ok (.ireturn, 1) := by decide +kernel
theorem d_card_19 : decode prog_1_method_5_code 19 = .ok (.aload_n 0, 1) := by decide +kernel
theorem d_card_20 : decode prog_1_method_5_code 20 = .ok (.iload_n 1, 1) := by decide +kernel
theorem d_card_21 : decode prog_1_method_5_code 21 = .ok (.invokevirtual 79, 3) := by decide +kernel
theorem d_card_24 : decode prog_1_method_5_code 24 = .ok (.ifCond .eq 5, 3) := by decide +kernel
theorem d_card_27 : decode prog_1_method_5_code 27 = .ok (.iconst (-1), 1) := by decide +kernel
theorem d_card_28 : decode prog_1_method_5_code 28 = .ok (.ireturn, 1) := by decide +kernel
theorem d_card_29 : decode prog_1_method_5_code 29 = .ok (.aload_n 0, 1) := by decide +kernel
theorem d_card_30 : decode prog_1_method_5_code 30 = .ok (.getfield 40, 3) := by decide +kernel
theorem d_card_33 : decode prog_1_method_5_code 33 = .ok (.iconst 1, 1) := by decide +kernel
theorem d_card_34 : decode prog_1_method_5_code 34 = .ok (.putfield 75, 3) := by decide +kernel
theorem d_card_37 : decode prog_1_method_5_code 37 = .ok (.aload_n 0, 1) := by decide +kernel
theorem d_card_38 : decode prog_1_method_5_code 38 = .ok (.getfield 40, 3) := by decide +kernel
