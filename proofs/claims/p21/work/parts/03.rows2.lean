theorem d_card_41 : decode prog_1_method_5_code 41 = .ok (.iload_n 1, 1) := by decide +kernel
theorem d_card_42 : decode prog_1_method_5_code 42 = .ok (.putfield 82, 3) := by decide +kernel
theorem d_card_45 : decode prog_1_method_5_code 45 = .ok (.iconst 1, 1) := by decide +kernel
theorem d_card_46 : decode prog_1_method_5_code 46 = .ok (.ireturn, 1) := by decide +kernel
theorem d_cell_0 : decode method_2_code 0 = .ok (.iload_n 1, 1) := by decide +kernel
theorem d_cell_1 : decode method_2_code 1 = .ok (.aload_n 0, 1) := by decide +kernel
theorem d_cell_2 : decode method_2_code 2 = .ok (.arraylength, 1) := by decide +kernel
theorem d_cell_3 : decode method_2_code 3 = .ok (.if_icmp .ge 9, 3) := by decide +kernel
theorem d_cell_6 : decode method_2_code 6 = .ok (.aload_n 0, 1) := by decide +kernel
theorem d_cell_7 : decode method_2_code 7 = .ok (.iload_n 1, 1) := by decide +kernel
theorem d_cell_8 : decode method_2_code 8 = .ok (.iaload, 1) := by decide +kernel
theorem d_cell_9 : decode method_2_code 9 = .ok (.goto 4, 3) := by decide +kernel
theorem d_cell_12 : decode method_2_code 12 = .ok (.iconst 0, 1) := by decide +kernel
theorem d_cell_13 : decode method_2_code 13 = .ok (.ireturn, 1) := by decide +kernel
theorem d_clash_0 : decode prog_1_method_14_code 0 = .ok (.iload_n 1, 1) := by decide +kernel
theorem d_clash_1 : decode prog_1_method_14_code 1 = .ok (.ifCond .lt 14, 3) := by decide +kernel
theorem d_clash_4 : decode prog_1_method_14_code 4 = .ok (.iload_n 1, 1) := by decide +kernel
theorem d_clash_5 : decode prog_1_method_14_code 5 = .ok (.aload_n 0, 1) := by decide +kernel
theorem d_clash_6 : decode prog_1_method_14_code 6 = .ok (.getfield 34, 3) := by decide +kernel
theorem d_clash_9 : decode prog_1_method_14_code 9 = .ok (.getfield 137, 3) := by decide +kernel
theorem d_clash_12 : decode prog_1_method_14_code 12 = .ok (.if_icmp .lt 5, 3) := by decide +kernel
theorem d_clash_15 : decode prog_1_method_14_code 15 = .ok (.iconst (-1), 1) := by decide +kernel
theorem d_clash_16 : decode prog_1_method_14_code 16 = .ok (.ireturn, 1) := by decide +kernel
theorem d_clash_17 : decode prog_1_method_14_code 17 = .ok (.iload_n 2, 1) := by decide +kernel
theorem d_clash_18 : decode prog_1_method_14_code 18 = .ok (.tableswitch 63 0 2 #[26, 36, 46], 26) := by decide +kernel
theorem d_clash_44 : decode prog_1_method_14_code 44 = .ok (.aload_n 0, 1) := by decide +kernel
theorem d_clash_45 : decode prog_1_method_14_code 45 = .ok (.getfield 34, 3) := by decide +kernel
theorem d_clash_48 : decode prog_1_method_14_code 48 = .ok (.getfield 143, 3) := by decide +kernel
theorem d_clash_51 : decode prog_1_method_14_code 51 = .ok (.iload_n 1, 1) := by decide +kernel
theorem d_clash_52 : decode prog_1_method_14_code 52 = .ok (.iaload, 1) := by decide +kernel
theorem d_clash_53 : decode prog_1_method_14_code 53 = .ok (.ireturn, 1) := by decide +kernel
theorem d_clash_54 : decode prog_1_method_14_code 54 = .ok (.aload_n 0, 1) := by decide +kernel
theorem d_clash_55 : decode prog_1_method_14_code 55 = .ok (.getfield 34, 3) := by decide +kernel
theorem d_clash_58 : decode prog_1_method_14_code 58 = .ok (.getfield 146, 3) := by decide +kernel
theorem d_clash_61 : decode prog_1_method_14_code 61 = .ok (.iload_n 1, 1) := by decide +kernel
theorem d_clash_62 : decode prog_1_method_14_code 62 = .ok (.iaload, 1) := by decide +kernel
theorem d_clash_63 : decode prog_1_method_14_code 63 = .ok (.ireturn, 1) := by decide +kernel
theorem d_clash_64 : decode prog_1_method_14_code 64 = .ok (.aload_n 0, 1) := by decide +kernel
theorem d_clash_65 : decode prog_1_method_14_code 65 = .ok (.getfield 34, 3) := by decide +kernel
theorem d_clash_68 : decode prog_1_method_14_code 68 = .ok (.iload_n 1, 1) := by decide +kernel
theorem d_clash_69 : decode prog_1_method_14_code 69 = .ok (.invokevirtual 152, 3) := by decide +kernel
theorem d_clash_72 : decode prog_1_method_14_code 72 = .ok (.ifCond .eq 7, 3) := by decide +kernel
theorem d_clash_75 : decode prog_1_method_14_code 75 = .ok (.iconst 0, 1) := by decide +kernel
theorem d_clash_76 : decode prog_1_method_14_code 76 = .ok (.goto 4, 3) := by decide +kernel
theorem d_clash_79 : decode prog_1_method_14_code 79 = .ok (.iconst 1, 1) := by decide +kernel
theorem d_clash_80 : decode prog_1_method_14_code 80 = .ok (.ireturn, 1) := by decide +kernel
theorem d_clash_81 : decode prog_1_method_14_code 81 = .ok (.iconst (-1), 1) := by decide +kernel
theorem d_clash_82 : decode prog_1_method_14_code 82 = .ok (.ireturn, 1) := by decide +kernel
theorem d_cntI_0 : decode prog_2_method_4_code 0 = .ok (.iconst 0, 1) := by decide +kernel
theorem d_cntI_1 : decode prog_2_method_4_code 1 = .ok (.istore_n 2, 1) := by decide +kernel
theorem d_cntI_2 : decode prog_2_method_4_code 2 = .ok (.iconst 0, 1) := by decide +kernel
theorem d_cntI_3 : decode prog_2_method_4_code 3 = .ok (.istore_n 3, 1) := by decide +kernel
theorem d_cntI_4 : decode prog_2_method_4_code 4 = .ok (.iload_n 3, 1) := by decide +kernel
theorem d_cntI_5 : decode prog_2_method_4_code 5 = .ok (.bipush 60, 2) := by decide +kernel
theorem d_cntI_7 : decode prog_2_method_4_code 7 = .ok (.if_icmp .ge 22, 3) := by decide +kernel
theorem d_cntI_10 : decode prog_2_method_4_code 10 = .ok (.aload_n 0, 1) := by decide +kernel
theorem d_cntI_11 : decode prog_2_method_4_code 11 = .ok (.getfield 25, 3) := by decide +kernel
theorem d_cntI_14 : decode prog_2_method_4_code 14 = .ok (.iload_n 3, 1) := by decide +kernel
theorem d_cntI_15 : decode prog_2_method_4_code 15 = .ok (.iaload, 1) := by decide +kernel
theorem d_cntI_16 : decode prog_2_method_4_code 16 = .ok (.iload_n 1, 1) := by decide +kernel
theorem d_cntI_17 : decode prog_2_method_4_code 17 = .ok (.if_icmp .ne 6, 3) := by decide +kernel
theorem d_cntI_20 : decode prog_2_method_4_code 20 = .ok (.iinc 2 1, 3) := by decide +kernel
theorem d_cntI_23 : decode prog_2_method_4_code 23 = .ok (.iinc 3 1, 3) := by decide +kernel
theorem d_cntI_26 : decode prog_2_method_4_code 26 = .ok (.goto (-22), 3) := by decide +kernel
theorem d_cntI_29 : decode prog_2_method_4_code 29 = .ok (.iload_n 2, 1) := by decide +kernel
theorem d_cntI_30 : decode prog_2_method_4_code 30 = .ok (.ireturn, 1) := by decide +kernel
theorem d_codeM_0 : decode prog_1_method_6_code 0 = .ok (.aload_n 0, 1) := by decide +kernel
theorem d_codeM_1 : decode prog_1_method_6_code 1 = .ok (.getfield 40, 3) := by decide +kernel
theorem d_codeM_4 : decode prog_1_method_6_code 4 = .ok (.getfield 75, 3) := by decide +kernel
theorem d_codeM_7 : decode prog_1_method_6_code 7 = .ok (.iconst 1, 1) := by decide +kernel
theorem d_codeM_8 : decode prog_1_method_6_code 8 = .ok (.if_icmp .eq 6, 3) := by decide +kernel
theorem d_codeM_11 : decode prog_1_method_6_code 11 = .ok (.bipush (-2), 2) := by decide +kernel
theorem d_codeM_13 : decode prog_1_method_6_code 13 = .ok (.ireturn, 1) := by decide +kernel
theorem d_codeM_14 : decode prog_1_method_6_code 14 = .ok (.aload_n 0, 1) := by decide +kernel
theorem d_codeM_15 : decode prog_1_method_6_code 15 = .ok (.getfield 40, 3) := by decide +kernel
theorem d_codeM_18 : decode prog_1_method_6_code 18 = .ok (.getfield 82, 3) := by decide +kernel
theorem d_codeM_21 : decode prog_1_method_6_code 21 = .ok (.istore_n 2, 1) := by decide +kernel
theorem d_codeM_22 : decode prog_1_method_6_code 22 = .ok (.aload_n 0, 1) := by decide +kernel
theorem d_codeM_23 : decode prog_1_method_6_code 23 = .ok (.getfield 21, 3) := by decide +kernel
theorem d_codeM_26 : decode prog_1_method_6_code 26 = .ok (.getfield 52, 3) := by decide +kernel
theorem d_codeM_29 : decode prog_1_method_6_code 29 = .ok (.iload_n 2, 1) := by decide +kernel
theorem d_codeM_30 : decode prog_1_method_6_code 30 = .ok (.iaload, 1) := by decide +kernel
theorem d_codeM_31 : decode prog_1_method_6_code 31 = .ok (.iload_n 1, 1) := by decide +kernel
theorem d_codeM_32 : decode prog_1_method_6_code 32 = .ok (.if_icmp .ne 22, 3) := by decide +kernel
theorem d_codeM_35 : decode prog_1_method_6_code 35 = .ok (.aload_n 0, 1) := by decide +kernel
theorem d_codeM_36 : decode prog_1_method_6_code 36 = .ok (.getfield 21, 3) := by decide +kernel
theorem d_codeM_39 : decode prog_1_method_6_code 39 = .ok (.getfield 66, 3) := by decide +kernel
theorem d_codeM_42 : decode prog_1_method_6_code 42 = .ok (.iload_n 2, 1) := by decide +kernel
theorem d_codeM_43 : decode prog_1_method_6_code 43 = .ok (.iconst 0, 1) := by decide +kernel
theorem d_codeM_44 : decode prog_1_method_6_code 44 = .ok (.iastore, 1) := by decide +kernel
theorem d_codeM_45 : decode prog_1_method_6_code 45 = .ok (.aload_n 0, 1) := by decide +kernel
theorem d_codeM_46 : decode prog_1_method_6_code 46 = .ok (.getfield 40, 3) := by decide +kernel
theorem d_codeM_49 : decode prog_1_method_6_code 49 = .ok (.invokevirtual 85, 3) := by decide +kernel
theorem d_codeM_52 : decode prog_1_method_6_code 52 = .ok (.iconst 1, 1) := by decide +kernel
theorem d_codeM_53 : decode prog_1_method_6_code 53 = .ok (.ireturn, 1) := by decide +kernel
theorem d_codeM_54 : decode prog_1_method_6_code 54 = .ok (.aload_n 0, 1) := by decide +kernel
theorem d_codeM_55 : decode prog_1_method_6_code 55 = .ok (.getfield 21, 3) := by decide +kernel
theorem d_codeM_58 : decode prog_1_method_6_code 58 = .ok (.getfield 66, 3) := by decide +kernel
theorem d_codeM_61 : decode prog_1_method_6_code 61 = .ok (.iload_n 2, 1) := by decide +kernel
theorem d_codeM_62 : decode prog_1_method_6_code 62 = .ok (.dup2, 1) := by decide +kernel
theorem d_codeM_63 : decode prog_1_method_6_code 63 = .ok (.iaload, 1) := by decide +kernel
theorem d_codeM_64 : decode prog_1_method_6_code 64 = .ok (.iconst 1, 1) := by decide +kernel
theorem d_codeM_65 : decode prog_1_method_6_code 65 = .ok (.iadd, 1) := by decide +kernel
theorem d_codeM_66 : decode prog_1_method_6_code 66 = .ok (.iastore, 1) := by decide +kernel
theorem d_codeM_67 : decode prog_1_method_6_code 67 = .ok (.aload_n 0, 1) := by decide +kernel
theorem d_codeM_68 : decode prog_1_method_6_code 68 = .ok (.getfield 40, 3) := by decide +kernel
theorem d_codeM_71 : decode prog_1_method_6_code 71 = .ok (.invokevirtual 88, 3) := by decide +kernel
theorem d_codeM_74 : decode prog_1_method_6_code 74 = .ok (.aload_n 0, 1) := by decide +kernel
theorem d_codeM_75 : decode prog_1_method_6_code 75 = .ok (.getfield 21, 3) := by decide +kernel
theorem d_codeM_78 : decode prog_1_method_6_code 78 = .ok (.iload_n 2, 1) := by decide +kernel
theorem d_codeM_79 : decode prog_1_method_6_code 79 = .ok (.invokevirtual 91, 3) := by decide +kernel
theorem d_codeM_82 : decode prog_1_method_6_code 82 = .ok (.ifCond .eq 7, 3) := by decide +kernel
theorem d_codeM_85 : decode prog_1_method_6_code 85 = .ok (.iconst (-1), 1) := by decide +kernel
theorem d_codeM_86 : decode prog_1_method_6_code 86 = .ok (.goto 4, 3) := by decide +kernel
theorem d_codeM_89 : decode prog_1_method_6_code 89 = .ok (.iconst 0, 1) := by decide +kernel
theorem d_codeM_90 : decode prog_1_method_6_code 90 = .ok (.ireturn, 1) := by decide +kernel
theorem d_door_0 : decode prog_1_method_17_code 0 = .ok (.iload_n 1, 1) := by decide +kernel
theorem d_door_1 : decode prog_1_method_17_code 1 = .ok (.invokestatic 69, 3) := by decide +kernel
theorem d_door_4 : decode prog_1_method_17_code 4 = .ok (.ifCond .eq 19, 3) := by decide +kernel
theorem d_door_7 : decode prog_1_method_17_code 7 = .ok (.aload_n 0, 1) := by decide +kernel
theorem d_door_8 : decode prog_1_method_17_code 8 = .ok (.getfield 21, 3) := by decide +kernel
theorem d_door_11 : decode prog_1_method_17_code 11 = .ok (.getfield 115, 3) := by decide +kernel
theorem d_door_14 : decode prog_1_method_17_code 14 = .ok (.iload_n 1, 1) := by decide +kernel
theorem d_door_15 : decode prog_1_method_17_code 15 = .ok (.baload, 1) := by decide +kernel
theorem d_door_16 : decode prog_1_method_17_code 16 = .ok (.ifCond .eq 7, 3) := by decide +kernel
theorem d_door_19 : decode prog_1_method_17_code 19 = .ok (.iconst 1, 1) := by decide +kernel
theorem d_door_20 : decode prog_1_method_17_code 20 = .ok (.goto 4, 3) := by decide +kernel
theorem d_door_23 : decode prog_1_method_17_code 23 = .ok (.iconst 0, 1) := by decide +kernel
theorem d_door_24 : decode prog_1_method_17_code 24 = .ok (.ireturn, 1) := by decide +kernel
theorem d_endM_0 : decode prog_1_method_11_code 0 = .ok (.aload_n 0, 1) := by decide +kernel
theorem d_endM_1 : decode prog_1_method_11_code 1 = .ok (.getfield 40, 3) := by decide +kernel
theorem d_endM_4 : decode prog_1_method_11_code 4 = .ok (.getfield 75, 3) := by decide +kernel
theorem d_endM_7 : decode prog_1_method_11_code 7 = .ok (.iconst 2, 1) := by decide +kernel
theorem d_endM_8 : decode prog_1_method_11_code 8 = .ok (.if_icmp .eq 5, 3) := by decide +kernel
theorem d_endM_11 : decode prog_1_method_11_code 11 = .ok (.iconst (-1), 1) := by decide +kernel
theorem d_endM_12 : decode prog_1_method_11_code 12 = .ok (.ireturn, 1) := by decide +kernel
theorem d_endM_13 : decode prog_1_method_11_code 13 = .ok (.iload_n 1, 1) := by decide +kernel
theorem d_endM_14 : decode prog_1_method_11_code 14 = .ok (.ifCond .eq 17, 3) := by decide +kernel
theorem d_endM_17 : decode prog_1_method_11_code 17 = .ok (.aload_n 0, 1) := by decide +kernel
theorem d_endM_18 : decode prog_1_method_11_code 18 = .ok (.getfield 40, 3) := by decide +kernel
theorem d_endM_21 : decode prog_1_method_11_code 21 = .ok (.getfield 124, 3) := by decide +kernel
theorem d_endM_24 : decode prog_1_method_11_code 24 = .ok (.ifCond .le 7, 3) := by decide +kernel
theorem d_endM_27 : decode prog_1_method_11_code 27 = .ok (.aload_n 0, 1) := by decide +kernel
theorem d_endM_28 : decode prog_1_method_11_code 28 = .ok (.invokevirtual 134, 3) := by decide +kernel
theorem d_endM_31 : decode prog_1_method_11_code 31 = .ok (.aload_n 0, 1) := by decide +kernel
theorem d_endM_32 : decode prog_1_method_11_code 32 = .ok (.getfield 40, 3) := by decide +kernel
theorem d_endM_35 : decode prog_1_method_11_code 35 = .ok (.invokevirtual 88, 3) := by decide +kernel
theorem d_endM_38 : decode prog_1_method_11_code 38 = .ok (.aload_n 0, 1) := by decide +kernel
theorem d_endM_39 : decode prog_1_method_11_code 39 = .ok (.getfield 40, 3) := by decide +kernel
theorem d_endM_42 : decode prog_1_method_11_code 42 = .ok (.getfield 124, 3) := by decide +kernel
theorem d_endM_45 : decode prog_1_method_11_code 45 = .ok (.ireturn, 1) := by decide +kernel
theorem d_fel_0 : decode prog_2_method_9_code 0 = .ok (.iconst 0, 1) := by decide +kernel
theorem d_fel_1 : decode prog_2_method_9_code 1 = .ok (.istore_n 1, 1) := by decide +kernel
theorem d_fel_2 : decode prog_2_method_9_code 2 = .ok (.iload_n 1, 1) := by decide +kernel
theorem d_fel_3 : decode prog_2_method_9_code 3 = .ok (.bipush 10, 2) := by decide +kernel
theorem d_fel_5 : decode prog_2_method_9_code 5 = .ok (.if_icmp .ge 21, 3) := by decide +kernel
theorem d_fel_8 : decode prog_2_method_9_code 8 = .ok (.aload_n 0, 1) := by decide +kernel
theorem d_fel_9 : decode prog_2_method_9_code 9 = .ok (.getfield 37, 3) := by decide +kernel
theorem d_fel_12 : decode prog_2_method_9_code 12 = .ok (.iload_n 1, 1) := by decide +kernel
theorem d_fel_13 : decode prog_2_method_9_code 13 = .ok (.iaload, 1) := by decide +kernel
theorem d_fel_14 : decode prog_2_method_9_code 14 = .ok (.iconst (-1), 1) := by decide +kernel
theorem d_fel_15 : decode prog_2_method_9_code 15 = .ok (.if_icmp .ne 5, 3) := by decide +kernel
theorem d_fel_18 : decode prog_2_method_9_code 18 = .ok (.iload_n 1, 1) := by decide +kernel
theorem d_fel_19 : decode prog_2_method_9_code 19 = .ok (.ireturn, 1) := by decide +kernel
theorem d_fel_20 : decode prog_2_method_9_code 20 = .ok (.iinc 1 1, 3) := by decide +kernel
theorem d_fel_23 : decode prog_2_method_9_code 23 = .ok (.goto (-21), 3) := by decide +kernel
theorem d_fel_26 : decode prog_2_method_9_code 26 = .ok (.iconst (-1), 1) := by decide +kernel
theorem d_fel_27 : decode prog_2_method_9_code 27 = .ok (.ireturn, 1) := by decide +kernel
theorem d_fill_0 : decode prog_8_method_103_code 0 = .ok (.iconst 0, 1) := by decide +kernel
theorem d_fill_1 : decode prog_8_method_103_code 1 = .ok (.istore_n 2, 1) := by decide +kernel
theorem d_fill_2 : decode prog_8_method_103_code 2 = .ok (.aload_n 0, 1) := by decide +kernel
theorem d_fill_3 : decode prog_8_method_103_code 3 = .ok (.arraylength, 1) := by decide +kernel
theorem d_fill_4 : decode prog_8_method_103_code 4 = .ok (.istore_n 3, 1) := by decide +kernel
theorem d_fill_5 : decode prog_8_method_103_code 5 = .ok (.iload_n 2, 1) := by decide +kernel
theorem d_fill_6 : decode prog_8_method_103_code 6 = .ok (.iload_n 3, 1) := by decide +kernel
theorem d_fill_7 : decode prog_8_method_103_code 7 = .ok (.if_icmp .ge 13, 3) := by decide +kernel
theorem d_fill_10 : decode prog_8_method_103_code 10 = .ok (.aload_n 0, 1) := by decide +kernel
theorem d_fill_11 : decode prog_8_method_103_code 11 = .ok (.iload_n 2, 1) := by decide +kernel
theorem d_fill_12 : decode prog_8_method_103_code 12 = .ok (.iload_n 1, 1) := by decide +kernel
theorem d_fill_13 : decode prog_8_method_103_code 13 = .ok (.iastore, 1) := by decide +kernel
theorem d_fill_14 : decode prog_8_method_103_code 14 = .ok (.iinc 2 1, 3) := by decide +kernel
theorem d_fill_17 : decode prog_8_method_103_code 17 = .ok (.goto (-12), 3) := by decide +kernel
theorem d_fill_20 : decode prog_8_method_103_code 20 = .ok (.return_, 1) := by decide +kernel
theorem d_giveO_0 : decode prog_2_method_6_code 0 = .ok (.aload_n 0, 1) := by decide +kernel
theorem d_giveO_1 : decode prog_2_method_6_code 1 = .ok (.getfield 25, 3) := by decide +kernel
theorem d_giveO_4 : decode prog_2_method_6_code 4 = .ok (.iload_n 1, 1) := by decide +kernel
theorem d_giveO_5 : decode prog_2_method_6_code 5 = .ok (.iload_n 2, 1) := by decide +kernel
theorem d_giveO_6 : decode prog_2_method_6_code 6 = .ok (.iastore, 1) := by decide +kernel
theorem d_giveO_7 : decode prog_2_method_6_code 7 = .ok (.aload_n 0, 1) := by decide +kernel
theorem d_giveO_8 : decode prog_2_method_6_code 8 = .ok (.getfield 31, 3) := by decide +kernel
theorem d_giveO_11 : decode prog_2_method_6_code 11 = .ok (.iload_n 1, 1) := by decide +kernel
theorem d_giveO_12 : decode prog_2_method_6_code 12 = .ok (.iconst 0, 1) := by decide +kernel
theorem d_giveO_13 : decode prog_2_method_6_code 13 = .ok (.bastore, 1) := by decide +kernel
theorem d_giveO_14 : decode prog_2_method_6_code 14 = .ok (.aload_n 0, 1) := by decide +kernel
theorem d_giveO_15 : decode prog_2_method_6_code 15 = .ok (.getfield 28, 3) := by decide +kernel
theorem d_giveO_18 : decode prog_2_method_6_code 18 = .ok (.iload_n 1, 1) := by decide +kernel
theorem d_giveO_19 : decode prog_2_method_6_code 19 = .ok (.iaload, 1) := by decide +kernel
theorem d_giveO_20 : decode prog_2_method_6_code 20 = .ok (.iload_n 2, 1) := by decide +kernel
theorem d_giveO_21 : decode prog_2_method_6_code 21 = .ok (.if_icmp .ne 10, 3) := by decide +kernel
theorem d_giveO_24 : decode prog_2_method_6_code 24 = .ok (.aload_n 0, 1) := by decide +kernel
theorem d_giveO_25 : decode prog_2_method_6_code 25 = .ok (.getfield 28, 3) := by decide +kernel
theorem d_giveO_28 : decode prog_2_method_6_code 28 = .ok (.iload_n 1, 1) := by decide +kernel
theorem d_giveO_29 : decode prog_2_method_6_code 29 = .ok (.iconst (-1), 1) := by decide +kernel
theorem d_giveO_30 : decode prog_2_method_6_code 30 = .ok (.iastore, 1) := by decide +kernel
theorem d_giveO_31 : decode prog_2_method_6_code 31 = .ok (.aload_n 0, 1) := by decide +kernel
theorem d_giveO_32 : decode prog_2_method_6_code 32 = .ok (.getfield 34, 3) := by decide +kernel
theorem d_giveO_35 : decode prog_2_method_6_code 35 = .ok (.iload_n 1, 1) := by decide +kernel
theorem d_giveO_36 : decode prog_2_method_6_code 36 = .ok (.iaload, 1) := by decide +kernel
theorem d_giveO_37 : decode prog_2_method_6_code 37 = .ok (.istore_n 3, 1) := by decide +kernel
theorem d_giveO_38 : decode prog_2_method_6_code 38 = .ok (.iload_n 3, 1) := by decide +kernel
theorem d_giveO_39 : decode prog_2_method_6_code 39 = .ok (.iconst (-1), 1) := by decide +kernel
theorem d_giveO_40 : decode prog_2_method_6_code 40 = .ok (.if_icmp .eq 17, 3) := by decide +kernel
theorem d_giveO_43 : decode prog_2_method_6_code 43 = .ok (.aload_n 0, 1) := by decide +kernel
theorem d_giveO_44 : decode prog_2_method_6_code 44 = .ok (.getfield 37, 3) := by decide +kernel
theorem d_giveO_47 : decode prog_2_method_6_code 47 = .ok (.iload_n 3, 1) := by decide +kernel
theorem d_giveO_48 : decode prog_2_method_6_code 48 = .ok (.iconst (-1), 1) := by decide +kernel
theorem d_giveO_49 : decode prog_2_method_6_code 49 = .ok (.iastore, 1) := by decide +kernel
theorem d_giveO_50 : decode prog_2_method_6_code 50 = .ok (.aload_n 0, 1) := by decide +kernel
theorem d_giveO_51 : decode prog_2_method_6_code 51 = .ok (.getfield 34, 3) := by decide +kernel
theorem d_giveO_54 : decode prog_2_method_6_code 54 = .ok (.iload_n 1, 1) := by decide +kernel
theorem d_giveO_55 : decode prog_2_method_6_code 55 = .ok (.iconst (-1), 1) := by decide +kernel
theorem d_giveO_56 : decode prog_2_method_6_code 56 = .ok (.iastore, 1) := by decide +kernel
theorem d_giveO_57 : decode prog_2_method_6_code 57 = .ok (.return_, 1) := by decide +kernel
theorem d_hasI_0 : decode prog_4_method_4_code 0 = .ok (.aload_n 0, 1) := by decide +kernel
theorem d_hasI_1 : decode prog_4_method_4_code 1 = .ok (.getfield 25, 3) := by decide +kernel
theorem d_hasI_4 : decode prog_4_method_4_code 4 = .ok (.iconst (-1), 1) := by decide +kernel
theorem d_hasI_5 : decode prog_4_method_4_code 5 = .ok (.if_icmp .eq 26, 3) := by decide +kernel
theorem d_hasI_8 : decode prog_4_method_4_code 8 = .ok (.aload_n 0, 1) := by decide +kernel
theorem d_hasI_9 : decode prog_4_method_4_code 9 = .ok (.getfield 28, 3) := by decide +kernel
theorem d_hasI_12 : decode prog_4_method_4_code 12 = .ok (.ifCond .ne 19, 3) := by decide +kernel
theorem d_hasI_15 : decode prog_4_method_4_code 15 = .ok (.aload_n 0, 1) := by decide +kernel
theorem d_hasI_16 : decode prog_4_method_4_code 16 = .ok (.getfield 15, 3) := by decide +kernel
theorem d_hasI_19 : decode prog_4_method_4_code 19 = .ok (.aload_n 0, 1) := by decide +kernel
theorem d_hasI_20 : decode prog_4_method_4_code 20 = .ok (.getfield 9, 3) := by decide +kernel
theorem d_hasI_23 : decode prog_4_method_4_code 23 = .ok (.arraylength, 1) := by decide +kernel
theorem d_hasI_24 : decode prog_4_method_4_code 24 = .ok (.if_icmp .ge 7, 3) := by decide +kernel
theorem d_hasI_27 : decode prog_4_method_4_code 27 = .ok (.iconst 1, 1) := by decide +kernel
theorem d_hasI_28 : decode prog_4_method_4_code 28 = .ok (.goto 4, 3) := by decide +kernel
theorem d_hasI_31 : decode prog_4_method_4_code 31 = .ok (.iconst 0, 1) := by decide +kernel
theorem d_hasI_32 : decode prog_4_method_4_code 32 = .ok (.ireturn, 1) := by decide +kernel
theorem d_isBBC_0 : decode prog_2_method_2_code 0 = .ok (.aload_n 0, 1) := by decide +kernel
theorem d_isBBC_1 : decode prog_2_method_2_code 1 = .ok (.getfield 22, 3) := by decide +kernel
theorem d_isBBC_4 : decode prog_2_method_2_code 4 = .ok (.iload_n 1, 1) := by decide +kernel
theorem d_isBBC_5 : decode prog_2_method_2_code 5 = .ok (.iaload, 1) := by decide +kernel
theorem d_isBBC_6 : decode prog_2_method_2_code 6 = .ok (.iconst 3, 1) := by decide +kernel
theorem d_isBBC_7 : decode prog_2_method_2_code 7 = .ok (.if_icmp .lt 7, 3) := by decide +kernel
theorem d_isBBC_10 : decode prog_2_method_2_code 10 = .ok (.iconst 1, 1) := by decide +kernel
theorem d_isBBC_11 : decode prog_2_method_2_code 11 = .ok (.goto 4, 3) := by decide +kernel
theorem d_isBBC_14 : decode prog_2_method_2_code 14 = .ok (.iconst 0, 1) := by decide +kernel
theorem d_isBBC_15 : decode prog_2_method_2_code 15 = .ok (.ireturn, 1) := by decide +kernel
theorem d_isBl_0 : decode prog_2_method_3_code 0 = .ok (.aload_n 0, 1) := by decide +kernel
theorem d_isBl_1 : decode prog_2_method_3_code 1 = .ok (.getfield 18, 3) := by decide +kernel
theorem d_isBl_4 : decode prog_2_method_3_code 4 = .ok (.iload_n 1, 1) := by decide +kernel
theorem d_isBl_5 : decode prog_2_method_3_code 5 = .ok (.baload, 1) := by decide +kernel
theorem d_isBl_6 : decode prog_2_method_3_code 6 = .ok (.ifCond .ne 11, 3) := by decide +kernel
theorem d_isBl_9 : decode prog_2_method_3_code 9 = .ok (.aload_n 0, 1) := by decide +kernel
theorem d_isBl_10 : decode prog_2_method_3_code 10 = .ok (.iload_n 1, 1) := by decide +kernel
theorem d_isBl_11 : decode prog_2_method_3_code 11 = .ok (.invokevirtual 46, 3) := by decide +kernel
theorem d_isBl_14 : decode prog_2_method_3_code 14 = .ok (.ifCond .eq 7, 3) := by decide +kernel
theorem d_isBl_17 : decode prog_2_method_3_code 17 = .ok (.iconst 1, 1) := by decide +kernel
theorem d_isBl_18 : decode prog_2_method_3_code 18 = .ok (.goto 4, 3) := by decide +kernel
theorem d_isBl_21 : decode prog_2_method_3_code 21 = .ok (.iconst 0, 1) := by decide +kernel
theorem d_isBl_22 : decode prog_2_method_3_code 22 = .ok (.ireturn, 1) := by decide +kernel
theorem d_isFull_0 : decode prog_3_method_2_code 0 = .ok (.aload_n 0, 1) := by decide +kernel
theorem d_isFull_1 : decode prog_3_method_2_code 1 = .ok (.getfield 24, 3) := by decide +kernel
theorem d_isFull_4 : decode prog_3_method_2_code 4 = .ok (.aload_n 0, 1) := by decide +kernel
theorem d_isFull_5 : decode prog_3_method_2_code 5 = .ok (.getfield 15, 3) := by decide +kernel
theorem d_isFull_8 : decode prog_3_method_2_code 8 = .ok (.arraylength, 1) := by decide +kernel
theorem d_isFull_9 : decode prog_3_method_2_code 9 = .ok (.if_icmp .lt 7, 3) := by decide +kernel
theorem d_isFull_12 : decode prog_3_method_2_code 12 = .ok (.iconst 1, 1) := by decide +kernel
theorem d_isFull_13 : decode prog_3_method_2_code 13 = .ok (.goto 4, 3) := by decide +kernel
theorem d_isFull_16 : decode prog_3_method_2_code 16 = .ok (.iconst 0, 1) := by decide +kernel
theorem d_isFull_17 : decode prog_3_method_2_code 17 = .ok (.ireturn, 1) := by decide +kernel
theorem d_isItem_0 : decode prog_1_method_23_code 0 = .ok (.iload_n 0, 1) := by decide +kernel
theorem d_isItem_1 : decode prog_1_method_23_code 1 = .ok (.ifCond .lt 13, 3) := by decide +kernel
theorem d_isItem_4 : decode prog_1_method_23_code 4 = .ok (.iload_n 0, 1) := by decide +kernel
theorem d_isItem_5 : decode prog_1_method_23_code 5 = .ok (.bipush 60, 2) := by decide +kernel
theorem d_isItem_7 : decode prog_1_method_23_code 7 = .ok (.if_icmp .ge 7, 3) := by decide +kernel
theorem d_isItem_10 : decode prog_1_method_23_code 10 = .ok (.iconst 1, 1) := by decide +kernel
theorem d_isItem_11 : decode prog_1_method_23_code 11 = .ok (.goto 4, 3) := by decide +kernel
theorem d_isItem_14 : decode prog_1_method_23_code 14 = .ok (.iconst 0, 1) := by decide +kernel
theorem d_isItem_15 : decode prog_1_method_23_code 15 = .ok (.ireturn, 1) := by decide +kernel
theorem d_isLend_0 : decode prog_3_method_3_code 0 = .ok (.aload_n 0, 1) := by decide +kernel
theorem d_isLend_1 : decode prog_3_method_3_code 1 = .ok (.getfield 21, 3) := by decide +kernel
theorem d_isLend_4 : decode prog_3_method_3_code 4 = .ok (.iload_n 1, 1) := by decide +kernel
theorem d_isLend_5 : decode prog_3_method_3_code 5 = .ok (.iaload, 1) := by decide +kernel
theorem d_isLend_6 : decode prog_3_method_3_code 6 = .ok (.iconst (-1), 1) := by decide +kernel
theorem d_isLend_7 : decode prog_3_method_3_code 7 = .ok (.if_icmp .eq 7, 3) := by decide +kernel
theorem d_isLend_10 : decode prog_3_method_3_code 10 = .ok (.iconst 1, 1) := by decide +kernel
theorem d_isLend_11 : decode prog_3_method_3_code 11 = .ok (.goto 4, 3) := by decide +kernel
theorem d_isLend_14 : decode prog_3_method_3_code 14 = .ok (.iconst 0, 1) := by decide +kernel
theorem d_isLend_15 : decode prog_3_method_3_code 15 = .ok (.ireturn, 1) := by decide +kernel
theorem d_isPerson_0 : decode prog_1_method_22_code 0 = .ok (.iload_n 0, 1) := by decide +kernel
theorem d_isPerson_1 : decode prog_1_method_22_code 1 = .ok (.ifCond .lt 13, 3) := by decide +kernel
theorem d_isPerson_4 : decode prog_1_method_22_code 4 = .ok (.iload_n 0, 1) := by decide +kernel
theorem d_isPerson_5 : decode prog_1_method_22_code 5 = .ok (.bipush 40, 2) := by decide +kernel
theorem d_isPerson_7 : decode prog_1_method_22_code 7 = .ok (.if_icmp .ge 7, 3) := by decide +kernel
theorem d_isPerson_10 : decode prog_1_method_22_code 10 = .ok (.iconst 1, 1) := by decide +kernel
theorem d_isPerson_11 : decode prog_1_method_22_code 11 = .ok (.goto 4, 3) := by decide +kernel
theorem d_isPerson_14 : decode prog_1_method_22_code 14 = .ok (.iconst 0, 1) := by decide +kernel
theorem d_isPerson_15 : decode prog_1_method_22_code 15 = .ok (.ireturn, 1) := by decide +kernel
theorem d_isRef_0 : decode prog_1_method_24_code 0 = .ok (.aload_n 0, 1) := by decide +kernel
theorem d_isRef_1 : decode prog_1_method_24_code 1 = .ok (.getfield 44, 3) := by decide +kernel
theorem d_isRef_4 : decode prog_1_method_24_code 4 = .ok (.ifCond .eq 14, 3) := by decide +kernel
theorem d_isRef_7 : decode prog_1_method_24_code 7 = .ok (.aload_n 0, 1) := by decide +kernel
theorem d_isRef_8 : decode prog_1_method_24_code 8 = .ok (.getfield 21, 3) := by decide +kernel
theorem d_isRef_11 : decode prog_1_method_24_code 11 = .ok (.iload_n 1, 1) := by decide +kernel
theorem d_isRef_12 : decode prog_1_method_24_code 12 = .ok (.invokevirtual 91, 3) := by decide +kernel
theorem d_isRef_15 : decode prog_1_method_24_code 15 = .ok (.goto 11, 3) := by decide +kernel
theorem d_isRef_18 : decode prog_1_method_24_code 18 = .ok (.aload_n 0, 1) := by decide +kernel
theorem d_isRef_19 : decode prog_1_method_24_code 19 = .ok (.getfield 21, 3) := by decide +kernel
theorem d_isRef_22 : decode prog_1_method_24_code 22 = .ok (.iload_n 1, 1) := by decide +kernel
theorem d_isRef_23 : decode prog_1_method_24_code 23 = .ok (.invokevirtual 59, 3) := by decide +kernel
theorem d_isRef_26 : decode prog_1_method_24_code 26 = .ok (.ireturn, 1) := by decide +kernel
theorem d_itemM_0 : decode prog_1_method_20_code 0 = .ok (.iload_n 1, 1) := by decide +kernel
theorem d_itemM_1 : decode prog_1_method_20_code 1 = .ok (.invokestatic 69, 3) := by decide +kernel
theorem d_itemM_4 : decode prog_1_method_20_code 4 = .ok (.ifCond .ne 6, 3) := by decide +kernel
theorem d_itemM_7 : decode prog_1_method_20_code 7 = .ok (.bipush (-2), 2) := by decide +kernel
theorem d_itemM_9 : decode prog_1_method_20_code 9 = .ok (.ireturn, 1) := by decide +kernel
theorem d_itemM_10 : decode prog_1_method_20_code 10 = .ok (.iload_n 2, 1) := by decide +kernel
theorem d_itemM_11 : decode prog_1_method_20_code 11 = .ok (.tableswitch 55 0 2 #[25, 35, 45], 25) := by decide +kernel
theorem d_itemM_36 : decode prog_1_method_20_code 36 = .ok (.aload_n 0, 1) := by decide +kernel
theorem d_itemM_37 : decode prog_1_method_20_code 37 = .ok (.getfield 21, 3) := by decide +kernel
theorem d_itemM_40 : decode prog_1_method_20_code 40 = .ok (.getfield 170, 3) := by decide +kernel
theorem d_itemM_43 : decode prog_1_method_20_code 43 = .ok (.iload_n 1, 1) := by decide +kernel
theorem d_itemM_44 : decode prog_1_method_20_code 44 = .ok (.iaload, 1) := by decide +kernel
theorem d_itemM_45 : decode prog_1_method_20_code 45 = .ok (.ireturn, 1) := by decide +kernel
theorem d_itemM_46 : decode prog_1_method_20_code 46 = .ok (.aload_n 0, 1) := by decide +kernel
theorem d_itemM_47 : decode prog_1_method_20_code 47 = .ok (.getfield 21, 3) := by decide +kernel
theorem d_itemM_50 : decode prog_1_method_20_code 50 = .ok (.getfield 72, 3) := by decide +kernel
theorem d_itemM_53 : decode prog_1_method_20_code 53 = .ok (.iload_n 1, 1) := by decide +kernel
theorem d_itemM_54 : decode prog_1_method_20_code 54 = .ok (.iaload, 1) := by decide +kernel
theorem d_itemM_55 : decode prog_1_method_20_code 55 = .ok (.ireturn, 1) := by decide +kernel
theorem d_itemM_56 : decode prog_1_method_20_code 56 = .ok (.aload_n 0, 1) := by decide +kernel
theorem d_itemM_57 : decode prog_1_method_20_code 57 = .ok (.getfield 21, 3) := by decide +kernel
theorem d_itemM_60 : decode prog_1_method_20_code 60 = .ok (.getfield 164, 3) := by decide +kernel
theorem d_itemM_63 : decode prog_1_method_20_code 63 = .ok (.iload_n 1, 1) := by decide +kernel
theorem d_itemM_64 : decode prog_1_method_20_code 64 = .ok (.iaload, 1) := by decide +kernel
theorem d_itemM_65 : decode prog_1_method_20_code 65 = .ok (.ireturn, 1) := by decide +kernel
theorem d_itemM_66 : decode prog_1_method_20_code 66 = .ok (.bipush (-2), 2) := by decide +kernel
theorem d_itemM_68 : decode prog_1_method_20_code 68 = .ok (.ireturn, 1) := by decide +kernel
theorem d_join_0 : decode prog_1_method_13_code 0 = .ok (.aload_n 0, 1) := by decide +kernel
theorem d_join_1 : decode prog_1_method_13_code 1 = .ok (.getfield 44, 3) := by decide +kernel
theorem d_join_4 : decode prog_1_method_13_code 4 = .ok (.ifCond .ne 18, 3) := by decide +kernel
theorem d_join_7 : decode prog_1_method_13_code 7 = .ok (.iload_n 1, 1) := by decide +kernel
theorem d_join_8 : decode prog_1_method_13_code 8 = .ok (.ifCond .lt 14, 3) := by decide +kernel
theorem d_join_11 : decode prog_1_method_13_code 11 = .ok (.iload_n 1, 1) := by decide +kernel
theorem d_join_12 : decode prog_1_method_13_code 12 = .ok (.aload_n 0, 1) := by decide +kernel
theorem d_join_13 : decode prog_1_method_13_code 13 = .ok (.getfield 30, 3) := by decide +kernel
theorem d_join_16 : decode prog_1_method_13_code 16 = .ok (.getfield 137, 3) := by decide +kernel
