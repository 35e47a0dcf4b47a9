theorem d_rLL_8 : decode prog_3_method_5_code 8 = .ok (.ifCond .lt 26, 3) := by decide +kernel
theorem d_rLL_11 : decode prog_3_method_5_code 11 = .ok (.aload_n 0, 1) := by decide +kernel
theorem d_rLL_12 : decode prog_3_method_5_code 12 = .ok (.iload_n 1, 1) := by decide +kernel
theorem d_rLL_13 : decode prog_3_method_5_code 13 = .ok (.invokevirtual 32, 3) := by decide +kernel
theorem d_rLL_16 : decode prog_3_method_5_code 16 = .ok (.ifCond .eq 12, 3) := by decide +kernel
theorem d_rLL_19 : decode prog_3_method_5_code 19 = .ok (.aload_n 0, 1) := by decide +kernel
theorem d_rLL_20 : decode prog_3_method_5_code 20 = .ok (.iload_n 1, 1) := by decide +kernel
theorem d_rLL_21 : decode prog_3_method_5_code 21 = .ok (.iload_n 1, 1) := by decide +kernel
theorem d_rLL_22 : decode prog_3_method_5_code 22 = .ok (.iconst 1, 1) := by decide +kernel
theorem d_rLL_23 : decode prog_3_method_5_code 23 = .ok (.iadd, 1) := by decide +kernel
theorem d_rLL_24 : decode prog_3_method_5_code 24 = .ok (.invokevirtual 36, 3) := by decide +kernel
theorem d_rLL_27 : decode prog_3_method_5_code 27 = .ok (.return_, 1) := by decide +kernel
theorem d_rLL_28 : decode prog_3_method_5_code 28 = .ok (.iinc 1 (-1), 3) := by decide +kernel
theorem d_rLL_31 : decode prog_3_method_5_code 31 = .ok (.goto (-24), 3) := by decide +kernel
theorem d_rLL_34 : decode prog_3_method_5_code 34 = .ok (.return_, 1) := by decide +kernel
theorem d_receipt_0 : decode prog_1_method_18_code 0 = .ok (.iload_n 1, 1) := by decide +kernel
theorem d_receipt_1 : decode prog_1_method_18_code 1 = .ok (.ifCond .lt 26, 3) := by decide +kernel
theorem d_receipt_4 : decode prog_1_method_18_code 4 = .ok (.iload_n 1, 1) := by decide +kernel
theorem d_receipt_5 : decode prog_1_method_18_code 5 = .ok (.aload_n 0, 1) := by decide +kernel
theorem d_receipt_6 : decode prog_1_method_18_code 6 = .ok (.getfield 40, 3) := by decide +kernel
theorem d_receipt_9 : decode prog_1_method_18_code 9 = .ok (.getfield 124, 3) := by decide +kernel
theorem d_receipt_12 : decode prog_1_method_18_code 12 = .ok (.if_icmp .ge 15, 3) := by decide +kernel
theorem d_receipt_15 : decode prog_1_method_18_code 15 = .ok (.aload_n 0, 1) := by decide +kernel
theorem d_receipt_16 : decode prog_1_method_18_code 16 = .ok (.getfield 40, 3) := by decide +kernel
theorem d_receipt_19 : decode prog_1_method_18_code 19 = .ok (.getfield 167, 3) := by decide +kernel
theorem d_receipt_22 : decode prog_1_method_18_code 22 = .ok (.iload_n 1, 1) := by decide +kernel
theorem d_receipt_23 : decode prog_1_method_18_code 23 = .ok (.iaload, 1) := by decide +kernel
theorem d_receipt_24 : decode prog_1_method_18_code 24 = .ok (.goto 4, 3) := by decide +kernel
theorem d_receipt_27 : decode prog_1_method_18_code 27 = .ok (.iconst (-1), 1) := by decide +kernel
theorem d_receipt_28 : decode prog_1_method_18_code 28 = .ok (.ireturn, 1) := by decide +kernel
theorem d_refO_0 : decode prog_1_method_25_code 0 = .ok (.aload_n 0, 1) := by decide +kernel
theorem d_refO_1 : decode prog_1_method_25_code 1 = .ok (.getfield 40, 3) := by decide +kernel
theorem d_refO_4 : decode prog_1_method_25_code 4 = .ok (.getfield 124, 3) := by decide +kernel
theorem d_refO_7 : decode prog_1_method_25_code 7 = .ok (.iconst 5, 1) := by decide +kernel
theorem d_refO_8 : decode prog_1_method_25_code 8 = .ok (.if_icmp .lt 6, 3) := by decide +kernel
theorem d_refO_11 : decode prog_1_method_25_code 11 = .ok (.bipush (-6), 2) := by decide +kernel
theorem d_refO_13 : decode prog_1_method_25_code 13 = .ok (.ireturn, 1) := by decide +kernel
theorem d_refO_14 : decode prog_1_method_25_code 14 = .ok (.aload_n 0, 1) := by decide +kernel
theorem d_refO_15 : decode prog_1_method_25_code 15 = .ok (.getfield 30, 3) := by decide +kernel
theorem d_refO_18 : decode prog_1_method_25_code 18 = .ok (.invokevirtual 131, 3) := by decide +kernel
theorem d_refO_21 : decode prog_1_method_25_code 21 = .ok (.ifCond .eq 8, 3) := by decide +kernel
theorem d_refO_24 : decode prog_1_method_25_code 24 = .ok (.bipush (-7), 2) := by decide +kernel
theorem d_refO_26 : decode prog_1_method_25_code 26 = .ok (.goto 4, 3) := by decide +kernel
theorem d_refO_29 : decode prog_1_method_25_code 29 = .ok (.iconst 0, 1) := by decide +kernel
theorem d_refO_30 : decode prog_1_method_25_code 30 = .ok (.ireturn, 1) := by decide +kernel
theorem d_refu_0 : decode prog_2_method_5_code 0 = .ok (.aload_n 0, 1) := by decide +kernel
theorem d_refu_1 : decode prog_2_method_5_code 1 = .ok (.getfield 25, 3) := by decide +kernel
theorem d_refu_4 : decode prog_2_method_5_code 4 = .ok (.iload_n 1, 1) := by decide +kernel
theorem d_refu_5 : decode prog_2_method_5_code 5 = .ok (.iaload, 1) := by decide +kernel
theorem d_refu_6 : decode prog_2_method_5_code 6 = .ok (.iconst (-1), 1) := by decide +kernel
theorem d_refu_7 : decode prog_2_method_5_code 7 = .ok (.if_icmp .eq 6, 3) := by decide +kernel
theorem d_refu_10 : decode prog_2_method_5_code 10 = .ok (.bipush (-2), 2) := by decide +kernel
theorem d_refu_12 : decode prog_2_method_5_code 12 = .ok (.ireturn, 1) := by decide +kernel
theorem d_refu_13 : decode prog_2_method_5_code 13 = .ok (.aload_n 0, 1) := by decide +kernel
theorem d_refu_14 : decode prog_2_method_5_code 14 = .ok (.getfield 28, 3) := by decide +kernel
theorem d_refu_17 : decode prog_2_method_5_code 17 = .ok (.iload_n 1, 1) := by decide +kernel
theorem d_refu_18 : decode prog_2_method_5_code 18 = .ok (.iaload, 1) := by decide +kernel
theorem d_refu_19 : decode prog_2_method_5_code 19 = .ok (.iconst (-1), 1) := by decide +kernel
theorem d_refu_20 : decode prog_2_method_5_code 20 = .ok (.if_icmp .eq 16, 3) := by decide +kernel
theorem d_refu_23 : decode prog_2_method_5_code 23 = .ok (.aload_n 0, 1) := by decide +kernel
theorem d_refu_24 : decode prog_2_method_5_code 24 = .ok (.getfield 28, 3) := by decide +kernel
theorem d_refu_27 : decode prog_2_method_5_code 27 = .ok (.iload_n 1, 1) := by decide +kernel
theorem d_refu_28 : decode prog_2_method_5_code 28 = .ok (.iaload, 1) := by decide +kernel
theorem d_refu_29 : decode prog_2_method_5_code 29 = .ok (.iload_n 2, 1) := by decide +kernel
theorem d_refu_30 : decode prog_2_method_5_code 30 = .ok (.if_icmp .eq 6, 3) := by decide +kernel
theorem d_refu_33 : decode prog_2_method_5_code 33 = .ok (.bipush (-3), 2) := by decide +kernel
theorem d_refu_35 : decode prog_2_method_5_code 35 = .ok (.ireturn, 1) := by decide +kernel
theorem d_refu_36 : decode prog_2_method_5_code 36 = .ok (.aload_n 0, 1) := by decide +kernel
theorem d_refu_37 : decode prog_2_method_5_code 37 = .ok (.iload_n 2, 1) := by decide +kernel
theorem d_refu_38 : decode prog_2_method_5_code 38 = .ok (.invokevirtual 50, 3) := by decide +kernel
theorem d_refu_41 : decode prog_2_method_5_code 41 = .ok (.ifCond .eq 6, 3) := by decide +kernel
theorem d_refu_44 : decode prog_2_method_5_code 44 = .ok (.bipush (-4), 2) := by decide +kernel
theorem d_refu_46 : decode prog_2_method_5_code 46 = .ok (.ireturn, 1) := by decide +kernel
theorem d_refu_47 : decode prog_2_method_5_code 47 = .ok (.aload_n 0, 1) := by decide +kernel
theorem d_refu_48 : decode prog_2_method_5_code 48 = .ok (.iload_n 2, 1) := by decide +kernel
theorem d_refu_49 : decode prog_2_method_5_code 49 = .ok (.invokevirtual 53, 3) := by decide +kernel
theorem d_refu_52 : decode prog_2_method_5_code 52 = .ok (.bipush 10, 2) := by decide +kernel
theorem d_refu_54 : decode prog_2_method_5_code 54 = .ok (.if_icmp .lt 8, 3) := by decide +kernel
theorem d_refu_57 : decode prog_2_method_5_code 57 = .ok (.bipush (-5), 2) := by decide +kernel
theorem d_refu_59 : decode prog_2_method_5_code 59 = .ok (.goto 4, 3) := by decide +kernel
theorem d_refu_62 : decode prog_2_method_5_code 62 = .ok (.iconst 0, 1) := by decide +kernel
theorem d_refu_63 : decode prog_2_method_5_code 63 = .ok (.ireturn, 1) := by decide +kernel
theorem d_remF_0 : decode prog_3_method_6_code 0 = .ok (.aload_n 0, 1) := by decide +kernel
theorem d_remF_1 : decode prog_3_method_6_code 1 = .ok (.iconst 0, 1) := by decide +kernel
theorem d_remF_2 : decode prog_3_method_6_code 2 = .ok (.iload_n 1, 1) := by decide +kernel
theorem d_remF_3 : decode prog_3_method_6_code 3 = .ok (.invokevirtual 36, 3) := by decide +kernel
theorem d_remF_6 : decode prog_3_method_6_code 6 = .ok (.return_, 1) := by decide +kernel
theorem d_remLL_0 : decode prog_4_method_6_code 0 = .ok (.aload_n 0, 1) := by decide +kernel
theorem d_remLL_1 : decode prog_4_method_6_code 1 = .ok (.dup, 1) := by decide +kernel
theorem d_remLL_2 : decode prog_4_method_6_code 2 = .ok (.getfield 15, 3) := by decide +kernel
theorem d_remLL_5 : decode prog_4_method_6_code 5 = .ok (.iconst 1, 1) := by decide +kernel
theorem d_remLL_6 : decode prog_4_method_6_code 6 = .ok (.isub, 1) := by decide +kernel
theorem d_remLL_7 : decode prog_4_method_6_code 7 = .ok (.putfield 15, 3) := by decide +kernel
theorem d_remLL_10 : decode prog_4_method_6_code 10 = .ok (.aload_n 0, 1) := by decide +kernel
theorem d_remLL_11 : decode prog_4_method_6_code 11 = .ok (.getfield 9, 3) := by decide +kernel
theorem d_remLL_14 : decode prog_4_method_6_code 14 = .ok (.aload_n 0, 1) := by decide +kernel
theorem d_remLL_15 : decode prog_4_method_6_code 15 = .ok (.getfield 15, 3) := by decide +kernel
theorem d_remLL_18 : decode prog_4_method_6_code 18 = .ok (.iaload, 1) := by decide +kernel
theorem d_remLL_19 : decode prog_4_method_6_code 19 = .ok (.ireturn, 1) := by decide +kernel
theorem d_remR_0 : decode prog_3_method_7_code 0 = .ok (.iload_n 1, 1) := by decide +kernel
theorem d_remR_1 : decode prog_3_method_7_code 1 = .ok (.ifCond .lt 16, 3) := by decide +kernel
theorem d_remR_4 : decode prog_3_method_7_code 4 = .ok (.iload_n 2, 1) := by decide +kernel
theorem d_remR_5 : decode prog_3_method_7_code 5 = .ok (.iload_n 1, 1) := by decide +kernel
theorem d_remR_6 : decode prog_3_method_7_code 6 = .ok (.if_icmp .lt 11, 3) := by decide +kernel
theorem d_remR_9 : decode prog_3_method_7_code 9 = .ok (.iload_n 2, 1) := by decide +kernel
theorem d_remR_10 : decode prog_3_method_7_code 10 = .ok (.aload_n 0, 1) := by decide +kernel
theorem d_remR_11 : decode prog_3_method_7_code 11 = .ok (.getfield 24, 3) := by decide +kernel
theorem d_remR_14 : decode prog_3_method_7_code 14 = .ok (.if_icmp .le 4, 3) := by decide +kernel
theorem d_remR_17 : decode prog_3_method_7_code 17 = .ok (.return_, 1) := by decide +kernel
theorem d_remR_18 : decode prog_3_method_7_code 18 = .ok (.iload_n 2, 1) := by decide +kernel
theorem d_remR_19 : decode prog_3_method_7_code 19 = .ok (.istore_n 3, 1) := by decide +kernel
theorem d_remR_20 : decode prog_3_method_7_code 20 = .ok (.iload_n 3, 1) := by decide +kernel
theorem d_remR_21 : decode prog_3_method_7_code 21 = .ok (.aload_n 0, 1) := by decide +kernel
theorem d_remR_22 : decode prog_3_method_7_code 22 = .ok (.getfield 24, 3) := by decide +kernel
theorem d_remR_25 : decode prog_3_method_7_code 25 = .ok (.if_icmp .ge 41, 3) := by decide +kernel
theorem d_remR_28 : decode prog_3_method_7_code 28 = .ok (.aload_n 0, 1) := by decide +kernel
theorem d_remR_29 : decode prog_3_method_7_code 29 = .ok (.getfield 15, 3) := by decide +kernel
theorem d_remR_32 : decode prog_3_method_7_code 32 = .ok (.iload_n 1, 1) := by decide +kernel
theorem d_remR_33 : decode prog_3_method_7_code 33 = .ok (.iload_n 3, 1) := by decide +kernel
theorem d_remR_34 : decode prog_3_method_7_code 34 = .ok (.iadd, 1) := by decide +kernel
theorem d_remR_35 : decode prog_3_method_7_code 35 = .ok (.iload_n 2, 1) := by decide +kernel
theorem d_remR_36 : decode prog_3_method_7_code 36 = .ok (.isub, 1) := by decide +kernel
theorem d_remR_37 : decode prog_3_method_7_code 37 = .ok (.aload_n 0, 1) := by decide +kernel
theorem d_remR_38 : decode prog_3_method_7_code 38 = .ok (.getfield 15, 3) := by decide +kernel
theorem d_remR_41 : decode prog_3_method_7_code 41 = .ok (.iload_n 3, 1) := by decide +kernel
theorem d_remR_42 : decode prog_3_method_7_code 42 = .ok (.iaload, 1) := by decide +kernel
theorem d_remR_43 : decode prog_3_method_7_code 43 = .ok (.iastore, 1) := by decide +kernel
theorem d_remR_44 : decode prog_3_method_7_code 44 = .ok (.aload_n 0, 1) := by decide +kernel
theorem d_remR_45 : decode prog_3_method_7_code 45 = .ok (.getfield 21, 3) := by decide +kernel
theorem d_remR_48 : decode prog_3_method_7_code 48 = .ok (.iload_n 1, 1) := by decide +kernel
theorem d_remR_49 : decode prog_3_method_7_code 49 = .ok (.iload_n 3, 1) := by decide +kernel
theorem d_remR_50 : decode prog_3_method_7_code 50 = .ok (.iadd, 1) := by decide +kernel
theorem d_remR_51 : decode prog_3_method_7_code 51 = .ok (.iload_n 2, 1) := by decide +kernel
theorem d_remR_52 : decode prog_3_method_7_code 52 = .ok (.isub, 1) := by decide +kernel
theorem d_remR_53 : decode prog_3_method_7_code 53 = .ok (.aload_n 0, 1) := by decide +kernel
theorem d_remR_54 : decode prog_3_method_7_code 54 = .ok (.getfield 21, 3) := by decide +kernel
theorem d_remR_57 : decode prog_3_method_7_code 57 = .ok (.iload_n 3, 1) := by decide +kernel
theorem d_remR_58 : decode prog_3_method_7_code 58 = .ok (.iaload, 1) := by decide +kernel
theorem d_remR_59 : decode prog_3_method_7_code 59 = .ok (.iastore, 1) := by decide +kernel
theorem d_remR_60 : decode prog_3_method_7_code 60 = .ok (.iinc 3 1, 3) := by decide +kernel
theorem d_remR_63 : decode prog_3_method_7_code 63 = .ok (.goto (-43), 3) := by decide +kernel
theorem d_remR_66 : decode prog_3_method_7_code 66 = .ok (.aload_n 0, 1) := by decide +kernel
theorem d_remR_67 : decode prog_3_method_7_code 67 = .ok (.dup, 1) := by decide +kernel
theorem d_remR_68 : decode prog_3_method_7_code 68 = .ok (.getfield 24, 3) := by decide +kernel
theorem d_remR_71 : decode prog_3_method_7_code 71 = .ok (.iload_n 2, 1) := by decide +kernel
theorem d_remR_72 : decode prog_3_method_7_code 72 = .ok (.iload_n 1, 1) := by decide +kernel
theorem d_remR_73 : decode prog_3_method_7_code 73 = .ok (.isub, 1) := by decide +kernel
theorem d_remR_74 : decode prog_3_method_7_code 74 = .ok (.isub, 1) := by decide +kernel
theorem d_remR_75 : decode prog_3_method_7_code 75 = .ok (.putfield 24, 3) := by decide +kernel
theorem d_remR_78 : decode prog_3_method_7_code 78 = .ok (.return_, 1) := by decide +kernel
theorem d_reserve_0 : decode prog_1_method_4_code 0 = .ok (.iload_n 1, 1) := by decide +kernel
theorem d_reserve_1 : decode prog_1_method_4_code 1 = .ok (.invokestatic 69, 3) := by decide +kernel
theorem d_reserve_4 : decode prog_1_method_4_code 4 = .ok (.ifCond .eq 15, 3) := by decide +kernel
theorem d_reserve_7 : decode prog_1_method_4_code 7 = .ok (.iload_n 2, 1) := by decide +kernel
theorem d_reserve_8 : decode prog_1_method_4_code 8 = .ok (.iconst (-1), 1) := by decide +kernel
theorem d_reserve_9 : decode prog_1_method_4_code 9 = .ok (.if_icmp .eq 12, 3) := by decide +kernel
theorem d_reserve_12 : decode prog_1_method_4_code 12 = .ok (.iload_n 2, 1) := by decide +kernel
theorem d_reserve_13 : decode prog_1_method_4_code 13 = .ok (.invokestatic 48, 3) := by decide +kernel
theorem d_reserve_16 : decode prog_1_method_4_code 16 = .ok (.ifCond .ne 5, 3) := by decide +kernel
theorem d_reserve_19 : decode prog_1_method_4_code 19 = .ok (.iconst 0, 1) := by decide +kernel
theorem d_reserve_20 : decode prog_1_method_4_code 20 = .ok (.ireturn, 1) := by decide +kernel
theorem d_reserve_21 : decode prog_1_method_4_code 21 = .ok (.aload_n 0, 1) := by decide +kernel
theorem d_reserve_22 : decode prog_1_method_4_code 22 = .ok (.getfield 21, 3) := by decide +kernel
theorem d_reserve_25 : decode prog_1_method_4_code 25 = .ok (.getfield 72, 3) := by decide +kernel
theorem d_reserve_28 : decode prog_1_method_4_code 28 = .ok (.iload_n 1, 1) := by decide +kernel
theorem d_reserve_29 : decode prog_1_method_4_code 29 = .ok (.iload_n 2, 1) := by decide +kernel
theorem d_reserve_30 : decode prog_1_method_4_code 30 = .ok (.iastore, 1) := by decide +kernel
theorem d_reserve_31 : decode prog_1_method_4_code 31 = .ok (.iconst 1, 1) := by decide +kernel
theorem d_reserve_32 : decode prog_1_method_4_code 32 = .ok (.ireturn, 1) := by decide +kernel
theorem d_rowsM_0 : decode prog_1_method_21_code 0 = .ok (.aload_n 0, 1) := by decide +kernel
theorem d_rowsM_1 : decode prog_1_method_21_code 1 = .ok (.getfield 30, 3) := by decide +kernel
theorem d_rowsM_4 : decode prog_1_method_21_code 4 = .ok (.getfield 137, 3) := by decide +kernel
theorem d_rowsM_7 : decode prog_1_method_21_code 7 = .ok (.ireturn, 1) := by decide +kernel
theorem d_sBegin_0 : decode prog_4_method_2_code 0 = .ok (.aload_n 0, 1) := by decide +kernel
theorem d_sBegin_1 : decode prog_4_method_2_code 1 = .ok (.iconst 2, 1) := by decide +kernel
theorem d_sBegin_2 : decode prog_4_method_2_code 2 = .ok (.putfield 19, 3) := by decide +kernel
theorem d_sBegin_5 : decode prog_4_method_2_code 5 = .ok (.aload_n 0, 1) := by decide +kernel
theorem d_sBegin_6 : decode prog_4_method_2_code 6 = .ok (.iconst (-1), 1) := by decide +kernel
theorem d_sBegin_7 : decode prog_4_method_2_code 7 = .ok (.putfield 25, 3) := by decide +kernel
theorem d_sBegin_10 : decode prog_4_method_2_code 10 = .ok (.aload_n 0, 1) := by decide +kernel
theorem d_sBegin_11 : decode prog_4_method_2_code 11 = .ok (.iconst 0, 1) := by decide +kernel
theorem d_sBegin_12 : decode prog_4_method_2_code 12 = .ok (.putfield 28, 3) := by decide +kernel
theorem d_sBegin_15 : decode prog_4_method_2_code 15 = .ok (.aload_n 0, 1) := by decide +kernel
theorem d_sBegin_16 : decode prog_4_method_2_code 16 = .ok (.iconst 0, 1) := by decide +kernel
theorem d_sBegin_17 : decode prog_4_method_2_code 17 = .ok (.putfield 15, 3) := by decide +kernel
theorem d_sBegin_20 : decode prog_4_method_2_code 20 = .ok (.return_, 1) := by decide +kernel
theorem d_sClose_0 : decode prog_4_method_3_code 0 = .ok (.aload_n 0, 1) := by decide +kernel
theorem d_sClose_1 : decode prog_4_method_3_code 1 = .ok (.iconst 0, 1) := by decide +kernel
theorem d_sClose_2 : decode prog_4_method_3_code 2 = .ok (.putfield 19, 3) := by decide +kernel
theorem d_sClose_5 : decode prog_4_method_3_code 5 = .ok (.return_, 1) := by decide +kernel
theorem d_scan_0 : decode prog_1_method_7_code 0 = .ok (.iload_n 1, 1) := by decide +kernel
theorem d_scan_1 : decode prog_1_method_7_code 1 = .ok (.invokestatic 69, 3) := by decide +kernel
theorem d_scan_4 : decode prog_1_method_7_code 4 = .ok (.ifCond .eq 14, 3) := by decide +kernel
theorem d_scan_7 : decode prog_1_method_7_code 7 = .ok (.aload_n 0, 1) := by decide +kernel
theorem d_scan_8 : decode prog_1_method_7_code 8 = .ok (.getfield 40, 3) := by decide +kernel
theorem d_scan_11 : decode prog_1_method_7_code 11 = .ok (.getfield 75, 3) := by decide +kernel
theorem d_scan_14 : decode prog_1_method_7_code 14 = .ok (.iconst 2, 1) := by decide +kernel
theorem d_scan_15 : decode prog_1_method_7_code 15 = .ok (.if_icmp .eq 5, 3) := by decide +kernel
theorem d_scan_18 : decode prog_1_method_7_code 18 = .ok (.iconst 0, 1) := by decide +kernel
theorem d_scan_19 : decode prog_1_method_7_code 19 = .ok (.ireturn, 1) := by decide +kernel
theorem d_scan_20 : decode prog_1_method_7_code 20 = .ok (.aload_n 0, 1) := by decide +kernel
theorem d_scan_21 : decode prog_1_method_7_code 21 = .ok (.getfield 40, 3) := by decide +kernel
theorem d_scan_24 : decode prog_1_method_7_code 24 = .ok (.getfield 94, 3) := by decide +kernel
theorem d_scan_27 : decode prog_1_method_7_code 27 = .ok (.iload_n 1, 1) := by decide +kernel
theorem d_scan_28 : decode prog_1_method_7_code 28 = .ok (.if_icmp .ne 5, 3) := by decide +kernel
theorem d_scan_31 : decode prog_1_method_7_code 31 = .ok (.iconst 2, 1) := by decide +kernel
theorem d_scan_32 : decode prog_1_method_7_code 32 = .ok (.ireturn, 1) := by decide +kernel
theorem d_scan_33 : decode prog_1_method_7_code 33 = .ok (.aload_n 0, 1) := by decide +kernel
theorem d_scan_34 : decode prog_1_method_7_code 34 = .ok (.getfield 40, 3) := by decide +kernel
theorem d_scan_37 : decode prog_1_method_7_code 37 = .ok (.iload_n 1, 1) := by decide +kernel
theorem d_scan_38 : decode prog_1_method_7_code 38 = .ok (.putfield 94, 3) := by decide +kernel
theorem d_scan_41 : decode prog_1_method_7_code 41 = .ok (.aload_n 0, 1) := by decide +kernel
theorem d_scan_42 : decode prog_1_method_7_code 42 = .ok (.getfield 40, 3) := by decide +kernel
theorem d_scan_45 : decode prog_1_method_7_code 45 = .ok (.iconst 0, 1) := by decide +kernel
theorem d_scan_46 : decode prog_1_method_7_code 46 = .ok (.putfield 97, 3) := by decide +kernel
theorem d_scan_49 : decode prog_1_method_7_code 49 = .ok (.iconst 1, 1) := by decide +kernel
theorem d_scan_50 : decode prog_1_method_7_code 50 = .ok (.ireturn, 1) := by decide +kernel
theorem d_screen_0 : decode prog_1_method_19_code 0 = .ok (.aload_n 0, 1) := by decide +kernel
theorem d_screen_1 : decode prog_1_method_19_code 1 = .ok (.getfield 40, 3) := by decide +kernel
theorem d_screen_4 : decode prog_1_method_19_code 4 = .ok (.getfield 75, 3) := by decide +kernel
theorem d_screen_7 : decode prog_1_method_19_code 7 = .ok (.ifCond .ne 7, 3) := by decide +kernel
theorem d_screen_10 : decode prog_1_method_19_code 10 = .ok (.iconst 0, 1) := by decide +kernel
theorem d_screen_11 : decode prog_1_method_19_code 11 = .ok (.goto 18, 3) := by decide +kernel
theorem d_screen_14 : decode prog_1_method_19_code 14 = .ok (.aload_n 0, 1) := by decide +kernel
theorem d_screen_15 : decode prog_1_method_19_code 15 = .ok (.getfield 21, 3) := by decide +kernel
theorem d_screen_18 : decode prog_1_method_19_code 18 = .ok (.getfield 56, 3) := by decide +kernel
theorem d_screen_21 : decode prog_1_method_19_code 21 = .ok (.aload_n 0, 1) := by decide +kernel
theorem d_screen_22 : decode prog_1_method_19_code 22 = .ok (.getfield 40, 3) := by decide +kernel
theorem d_screen_25 : decode prog_1_method_19_code 25 = .ok (.getfield 82, 3) := by decide +kernel
theorem d_screen_28 : decode prog_1_method_19_code 28 = .ok (.iaload, 1) := by decide +kernel
theorem d_screen_29 : decode prog_1_method_19_code 29 = .ok (.istore_n 1, 1) := by decide +kernel
theorem d_screen_30 : decode prog_1_method_19_code 30 = .ok (.iload_n 1, 1) := by decide +kernel
theorem d_screen_31 : decode prog_1_method_19_code 31 = .ok (.bipush 10, 2) := by decide +kernel
theorem d_screen_33 : decode prog_1_method_19_code 33 = .ok (.imul, 1) := by decide +kernel
theorem d_screen_34 : decode prog_1_method_19_code 34 = .ok (.aload_n 0, 1) := by decide +kernel
theorem d_screen_35 : decode prog_1_method_19_code 35 = .ok (.getfield 40, 3) := by decide +kernel
theorem d_screen_38 : decode prog_1_method_19_code 38 = .ok (.getfield 75, 3) := by decide +kernel
theorem d_screen_41 : decode prog_1_method_19_code 41 = .ok (.iadd, 1) := by decide +kernel
theorem d_screen_42 : decode prog_1_method_19_code 42 = .ok (.aload_n 0, 1) := by decide +kernel
theorem d_screen_43 : decode prog_1_method_19_code 43 = .ok (.getfield 44, 3) := by decide +kernel
theorem d_screen_46 : decode prog_1_method_19_code 46 = .ok (.ifCond .eq 7, 3) := by decide +kernel
theorem d_screen_49 : decode prog_1_method_19_code 49 = .ok (.iconst 5, 1) := by decide +kernel
theorem d_screen_50 : decode prog_1_method_19_code 50 = .ok (.goto 4, 3) := by decide +kernel
theorem d_screen_53 : decode prog_1_method_19_code 53 = .ok (.iconst 0, 1) := by decide +kernel
theorem d_screen_54 : decode prog_1_method_19_code 54 = .ok (.iadd, 1) := by decide +kernel
theorem d_screen_55 : decode prog_1_method_19_code 55 = .ok (.ireturn, 1) := by decide +kernel
theorem d_takeB_0 : decode prog_2_method_7_code 0 = .ok (.aload_n 0, 1) := by decide +kernel
theorem d_takeB_1 : decode prog_2_method_7_code 1 = .ok (.getfield 31, 3) := by decide +kernel
theorem d_takeB_4 : decode prog_2_method_7_code 4 = .ok (.iload_n 1, 1) := by decide +kernel
theorem d_takeB_5 : decode prog_2_method_7_code 5 = .ok (.iconst 1, 1) := by decide +kernel
theorem d_takeB_6 : decode prog_2_method_7_code 6 = .ok (.bastore, 1) := by decide +kernel
theorem d_takeB_7 : decode prog_2_method_7_code 7 = .ok (.aload_n 0, 1) := by decide +kernel
theorem d_takeB_8 : decode prog_2_method_7_code 8 = .ok (.getfield 25, 3) := by decide +kernel
theorem d_takeB_11 : decode prog_2_method_7_code 11 = .ok (.iload_n 1, 1) := by decide +kernel
theorem d_takeB_12 : decode prog_2_method_7_code 12 = .ok (.iaload, 1) := by decide +kernel
theorem d_takeB_13 : decode prog_2_method_7_code 13 = .ok (.iconst (-1), 1) := by decide +kernel
theorem d_takeB_14 : decode prog_2_method_7_code 14 = .ok (.if_icmp .ne 5, 3) := by decide +kernel
theorem d_takeB_17 : decode prog_2_method_7_code 17 = .ok (.iconst 2, 1) := by decide +kernel
theorem d_takeB_18 : decode prog_2_method_7_code 18 = .ok (.ireturn, 1) := by decide +kernel
theorem d_takeB_19 : decode prog_2_method_7_code 19 = .ok (.aload_n 0, 1) := by decide +kernel
theorem d_takeB_20 : decode prog_2_method_7_code 20 = .ok (.getfield 25, 3) := by decide +kernel
theorem d_takeB_23 : decode prog_2_method_7_code 23 = .ok (.iload_n 1, 1) := by decide +kernel
theorem d_takeB_24 : decode prog_2_method_7_code 24 = .ok (.iconst (-1), 1) := by decide +kernel
theorem d_takeB_25 : decode prog_2_method_7_code 25 = .ok (.iastore, 1) := by decide +kernel
theorem d_takeB_26 : decode prog_2_method_7_code 26 = .ok (.aload_n 0, 1) := by decide +kernel
theorem d_takeB_27 : decode prog_2_method_7_code 27 = .ok (.getfield 28, 3) := by decide +kernel
theorem d_takeB_30 : decode prog_2_method_7_code 30 = .ok (.iload_n 1, 1) := by decide +kernel
theorem d_takeB_31 : decode prog_2_method_7_code 31 = .ok (.iaload, 1) := by decide +kernel
theorem d_takeB_32 : decode prog_2_method_7_code 32 = .ok (.iconst (-1), 1) := by decide +kernel
theorem d_takeB_33 : decode prog_2_method_7_code 33 = .ok (.if_icmp .ne 7, 3) := by decide +kernel
theorem d_takeB_36 : decode prog_2_method_7_code 36 = .ok (.iconst 0, 1) := by decide +kernel
theorem d_takeB_37 : decode prog_2_method_7_code 37 = .ok (.goto 4, 3) := by decide +kernel
theorem d_takeB_40 : decode prog_2_method_7_code 40 = .ok (.iconst 1, 1) := by decide +kernel
theorem d_takeB_41 : decode prog_2_method_7_code 41 = .ok (.ireturn, 1) := by decide +kernel
theorem d_twice_0 : decode prog_1_method_8_code 0 = .ok (.aload_n 0, 1) := by decide +kernel
theorem d_twice_1 : decode prog_1_method_8_code 1 = .ok (.getfield 40, 3) := by decide +kernel
theorem d_twice_4 : decode prog_1_method_8_code 4 = .ok (.getfield 75, 3) := by decide +kernel
theorem d_twice_7 : decode prog_1_method_8_code 7 = .ok (.iconst 2, 1) := by decide +kernel
theorem d_twice_8 : decode prog_1_method_8_code 8 = .ok (.if_icmp .eq 5, 3) := by decide +kernel
theorem d_twice_11 : decode prog_1_method_8_code 11 = .ok (.iconst 0, 1) := by decide +kernel
theorem d_twice_12 : decode prog_1_method_8_code 12 = .ok (.ireturn, 1) := by decide +kernel
theorem d_twice_13 : decode prog_1_method_8_code 13 = .ok (.aload_n 0, 1) := by decide +kernel
theorem d_twice_14 : decode prog_1_method_8_code 14 = .ok (.getfield 40, 3) := by decide +kernel
theorem d_twice_17 : decode prog_1_method_8_code 17 = .ok (.iconst (-1), 1) := by decide +kernel
theorem d_twice_18 : decode prog_1_method_8_code 18 = .ok (.putfield 94, 3) := by decide +kernel
theorem d_twice_21 : decode prog_1_method_8_code 21 = .ok (.iconst 1, 1) := by decide +kernel
theorem d_twice_22 : decode prog_1_method_8_code 22 = .ok (.ireturn, 1) := by decide +kernel
theorem d_undo_0 : decode prog_1_method_26_code 0 = .ok (.aload_n 0, 1) := by decide +kernel
theorem d_undo_1 : decode prog_1_method_26_code 1 = .ok (.getfield 40, 3) := by decide +kernel
theorem d_undo_4 : decode prog_1_method_26_code 4 = .ok (.invokevirtual 173, 3) := by decide +kernel
theorem d_undo_7 : decode prog_1_method_26_code 7 = .ok (.istore_n 1, 1) := by decide +kernel
theorem d_undo_8 : decode prog_1_method_26_code 8 = .ok (.aload_n 0, 1) := by decide +kernel
theorem d_undo_9 : decode prog_1_method_26_code 9 = .ok (.getfield 44, 3) := by decide +kernel
theorem d_undo_12 : decode prog_1_method_26_code 12 = .ok (.ifCond .eq 23, 3) := by decide +kernel
theorem d_undo_15 : decode prog_1_method_26_code 15 = .ok (.aload_n 0, 1) := by decide +kernel
theorem d_undo_16 : decode prog_1_method_26_code 16 = .ok (.getfield 30, 3) := by decide +kernel
theorem d_undo_19 : decode prog_1_method_26_code 19 = .ok (.invokevirtual 176, 3) := by decide +kernel
theorem d_undo_22 : decode prog_1_method_26_code 22 = .ok (.aload_n 0, 1) := by decide +kernel
theorem d_undo_23 : decode prog_1_method_26_code 23 = .ok (.getfield 21, 3) := by decide +kernel
theorem d_undo_26 : decode prog_1_method_26_code 26 = .ok (.getfield 115, 3) := by decide +kernel
theorem d_undo_29 : decode prog_1_method_26_code 29 = .ok (.iload_n 1, 1) := by decide +kernel
theorem d_undo_30 : decode prog_1_method_26_code 30 = .ok (.iconst 1, 1) := by decide +kernel
theorem d_undo_31 : decode prog_1_method_26_code 31 = .ok (.bastore, 1) := by decide +kernel
theorem d_undo_32 : decode prog_1_method_26_code 32 = .ok (.goto 12, 3) := by decide +kernel
theorem d_undo_35 : decode prog_1_method_26_code 35 = .ok (.aload_n 0, 1) := by decide +kernel
theorem d_undo_36 : decode prog_1_method_26_code 36 = .ok (.getfield 21, 3) := by decide +kernel
theorem d_undo_39 : decode prog_1_method_26_code 39 = .ok (.iload_n 1, 1) := by decide +kernel
theorem d_undo_40 : decode prog_1_method_26_code 40 = .ok (.invokevirtual 127, 3) := by decide +kernel
theorem d_undo_43 : decode prog_1_method_26_code 43 = .ok (.pop, 1) := by decide +kernel
theorem d_undo_44 : decode prog_1_method_26_code 44 = .ok (.return_, 1) := by decide +kernel
