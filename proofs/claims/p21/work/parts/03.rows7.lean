theorem d_mLocker_77 : decode prog_6_method_25_code 77 = .ok (.ireturn, 1) := by decide +kernel
theorem d_mLocker_78 : decode prog_6_method_25_code 78 = .ok (.iinc 2 1, 3) := by decide +kernel
theorem d_mLocker_81 : decode prog_6_method_25_code 81 = .ok (.goto (-35), 3) := by decide +kernel
theorem d_mLocker_84 : decode prog_6_method_25_code 84 = .ok (.iconst (-1), 1) := by decide +kernel
theorem d_mLocker_85 : decode prog_6_method_25_code 85 = .ok (.ireturn, 1) := by decide +kernel
theorem d_mOffl_0 : decode prog_6_method_22_code 0 = .ok (.aload_n 0, 1) := by decide +kernel
theorem d_mOffl_1 : decode prog_6_method_22_code 1 = .ok (.iconst 0, 1) := by decide +kernel
theorem d_mOffl_2 : decode prog_6_method_22_code 2 = .ok (.putfield 60, 3) := by decide +kernel
theorem d_mOffl_5 : decode prog_6_method_22_code 5 = .ok (.aload_n 0, 1) := by decide +kernel
theorem d_mOffl_6 : decode prog_6_method_22_code 6 = .ok (.getfield 76, 3) := by decide +kernel
theorem d_mOffl_9 : decode prog_6_method_22_code 9 = .ok (.istore_n 2, 1) := by decide +kernel
theorem d_mOffl_10 : decode prog_6_method_22_code 10 = .ok (.aload_n 0, 1) := by decide +kernel
theorem d_mOffl_11 : decode prog_6_method_22_code 11 = .ok (.iload_n 1, 1) := by decide +kernel
theorem d_mOffl_12 : decode prog_6_method_22_code 12 = .ok (.putfield 76, 3) := by decide +kernel
theorem d_mOffl_15 : decode prog_6_method_22_code 15 = .ok (.aload_n 0, 1) := by decide +kernel
theorem d_mOffl_16 : decode prog_6_method_22_code 16 = .ok (.iconst 0, 1) := by decide +kernel
theorem d_mOffl_17 : decode prog_6_method_22_code 17 = .ok (.putfield 73, 3) := by decide +kernel
theorem d_mOffl_20 : decode prog_6_method_22_code 20 = .ok (.iload_n 2, 1) := by decide +kernel
theorem d_mOffl_21 : decode prog_6_method_22_code 21 = .ok (.ireturn, 1) := by decide +kernel
theorem d_mOpn_0 : decode prog_6_method_26_code 0 = .ok (.aload_n 0, 1) := by decide +kernel
theorem d_mOpn_1 : decode prog_6_method_26_code 1 = .ok (.iconst 0, 1) := by decide +kernel
theorem d_mOpn_2 : decode prog_6_method_26_code 2 = .ok (.putfield 60, 3) := by decide +kernel
theorem d_mOpn_5 : decode prog_6_method_26_code 5 = .ok (.iload_n 1, 1) := by decide +kernel
theorem d_mOpn_6 : decode prog_6_method_26_code 6 = .ok (.ifCond .lt 19, 3) := by decide +kernel
theorem d_mOpn_9 : decode prog_6_method_26_code 9 = .ok (.iload_n 1, 1) := by decide +kernel
theorem d_mOpn_10 : decode prog_6_method_26_code 10 = .ok (.bipush 9, 2) := by decide +kernel
theorem d_mOpn_12 : decode prog_6_method_26_code 12 = .ok (.if_icmp .gt 13, 3) := by decide +kernel
theorem d_mOpn_15 : decode prog_6_method_26_code 15 = .ok (.aload_n 0, 1) := by decide +kernel
theorem d_mOpn_16 : decode prog_6_method_26_code 16 = .ok (.getfield 38, 3) := by decide +kernel
theorem d_mOpn_19 : decode prog_6_method_26_code 19 = .ok (.iload_n 1, 1) := by decide +kernel
theorem d_mOpn_20 : decode prog_6_method_26_code 20 = .ok (.iaload, 1) := by decide +kernel
theorem d_mOpn_21 : decode prog_6_method_26_code 21 = .ok (.iconst (-1), 1) := by decide +kernel
theorem d_mOpn_22 : decode prog_6_method_26_code 22 = .ok (.if_icmp .ne 5, 3) := by decide +kernel
theorem d_mOpn_25 : decode prog_6_method_26_code 25 = .ok (.iconst (-1), 1) := by decide +kernel
theorem d_mOpn_26 : decode prog_6_method_26_code 26 = .ok (.ireturn, 1) := by decide +kernel
theorem d_mOpn_27 : decode prog_6_method_26_code 27 = .ok (.aload_n 0, 1) := by decide +kernel
theorem d_mOpn_28 : decode prog_6_method_26_code 28 = .ok (.getfield 38, 3) := by decide +kernel
theorem d_mOpn_31 : decode prog_6_method_26_code 31 = .ok (.iload_n 1, 1) := by decide +kernel
theorem d_mOpn_32 : decode prog_6_method_26_code 32 = .ok (.iaload, 1) := by decide +kernel
theorem d_mOpn_33 : decode prog_6_method_26_code 33 = .ok (.istore_n 3, 1) := by decide +kernel
theorem d_mOpn_34 : decode prog_6_method_26_code 34 = .ok (.aload_n 0, 1) := by decide +kernel
theorem d_mOpn_35 : decode prog_6_method_26_code 35 = .ok (.getfield 29, 3) := by decide +kernel
theorem d_mOpn_38 : decode prog_6_method_26_code 38 = .ok (.iload_n 3, 1) := by decide +kernel
theorem d_mOpn_39 : decode prog_6_method_26_code 39 = .ok (.iaload, 1) := by decide +kernel
theorem d_mOpn_40 : decode prog_6_method_26_code 40 = .ok (.istore 4, 2) := by decide +kernel
theorem d_mOpn_42 : decode prog_6_method_26_code 42 = .ok (.iload 4, 2) := by decide +kernel
theorem d_mOpn_44 : decode prog_6_method_26_code 44 = .ok (.iconst (-1), 1) := by decide +kernel
theorem d_mOpn_45 : decode prog_6_method_26_code 45 = .ok (.if_icmp .eq 14, 3) := by decide +kernel
theorem d_mOpn_48 : decode prog_6_method_26_code 48 = .ok (.aload_n 0, 1) := by decide +kernel
theorem d_mOpn_49 : decode prog_6_method_26_code 49 = .ok (.getfield 7, 3) := by decide +kernel
theorem d_mOpn_52 : decode prog_6_method_26_code 52 = .ok (.iload 4, 2) := by decide +kernel
theorem d_mOpn_54 : decode prog_6_method_26_code 54 = .ok (.iaload, 1) := by decide +kernel
theorem d_mOpn_55 : decode prog_6_method_26_code 55 = .ok (.iload_n 2, 1) := by decide +kernel
theorem d_mOpn_56 : decode prog_6_method_26_code 56 = .ok (.if_icmp .eq 5, 3) := by decide +kernel
theorem d_mOpn_59 : decode prog_6_method_26_code 59 = .ok (.iconst (-1), 1) := by decide +kernel
theorem d_mOpn_60 : decode prog_6_method_26_code 60 = .ok (.ireturn, 1) := by decide +kernel
theorem d_mOpn_61 : decode prog_6_method_26_code 61 = .ok (.aload_n 0, 1) := by decide +kernel
theorem d_mOpn_62 : decode prog_6_method_26_code 62 = .ok (.iload 4, 2) := by decide +kernel
theorem d_mOpn_64 : decode prog_6_method_26_code 64 = .ok (.invokevirtual 67, 3) := by decide +kernel
theorem d_mOpn_67 : decode prog_6_method_26_code 67 = .ok (.ifCond .eq 6, 3) := by decide +kernel
theorem d_mOpn_70 : decode prog_6_method_26_code 70 = .ok (.bipush (-4), 2) := by decide +kernel
theorem d_mOpn_72 : decode prog_6_method_26_code 72 = .ok (.ireturn, 1) := by decide +kernel
theorem d_mOpn_73 : decode prog_6_method_26_code 73 = .ok (.aload_n 0, 1) := by decide +kernel
theorem d_mOpn_74 : decode prog_6_method_26_code 74 = .ok (.iload 4, 2) := by decide +kernel
theorem d_mOpn_76 : decode prog_6_method_26_code 76 = .ok (.invokevirtual 89, 3) := by decide +kernel
theorem d_mOpn_79 : decode prog_6_method_26_code 79 = .ok (.bipush 10, 2) := by decide +kernel
theorem d_mOpn_81 : decode prog_6_method_26_code 81 = .ok (.if_icmp .lt 6, 3) := by decide +kernel
theorem d_mOpn_84 : decode prog_6_method_26_code 84 = .ok (.bipush (-5), 2) := by decide +kernel
theorem d_mOpn_86 : decode prog_6_method_26_code 86 = .ok (.ireturn, 1) := by decide +kernel
theorem d_mOpn_87 : decode prog_6_method_26_code 87 = .ok (.aload_n 0, 1) := by decide +kernel
theorem d_mOpn_88 : decode prog_6_method_26_code 88 = .ok (.iload_n 3, 1) := by decide +kernel
theorem d_mOpn_89 : decode prog_6_method_26_code 89 = .ok (.iload 4, 2) := by decide +kernel
theorem d_mOpn_91 : decode prog_6_method_26_code 91 = .ok (.invokevirtual 104, 3) := by decide +kernel
theorem d_mOpn_94 : decode prog_6_method_26_code 94 = .ok (.iload_n 3, 1) := by decide +kernel
theorem d_mOpn_95 : decode prog_6_method_26_code 95 = .ok (.ireturn, 1) := by decide +kernel
theorem d_mPerson_0 : decode prog_6_method_5_code 0 = .ok (.aload_n 0, 1) := by decide +kernel
theorem d_mPerson_1 : decode prog_6_method_5_code 1 = .ok (.iconst 0, 1) := by decide +kernel
theorem d_mPerson_2 : decode prog_6_method_5_code 2 = .ok (.putfield 60, 3) := by decide +kernel
theorem d_mPerson_5 : decode prog_6_method_5_code 5 = .ok (.iload_n 1, 1) := by decide +kernel
theorem d_mPerson_6 : decode prog_6_method_5_code 6 = .ok (.invokestatic 63, 3) := by decide +kernel
theorem d_mPerson_9 : decode prog_6_method_5_code 9 = .ok (.ifCond .eq 12, 3) := by decide +kernel
theorem d_mPerson_12 : decode prog_6_method_5_code 12 = .ok (.iload_n 3, 1) := by decide +kernel
theorem d_mPerson_13 : decode prog_6_method_5_code 13 = .ok (.ifCond .lt 8, 3) := by decide +kernel
theorem d_mPerson_16 : decode prog_6_method_5_code 16 = .ok (.iload_n 3, 1) := by decide +kernel
theorem d_mPerson_17 : decode prog_6_method_5_code 17 = .ok (.iconst 2, 1) := by decide +kernel
theorem d_mPerson_18 : decode prog_6_method_5_code 18 = .ok (.if_icmp .le 5, 3) := by decide +kernel
theorem d_mPerson_21 : decode prog_6_method_5_code 21 = .ok (.iconst 0, 1) := by decide +kernel
theorem d_mPerson_22 : decode prog_6_method_5_code 22 = .ok (.ireturn, 1) := by decide +kernel
theorem d_mPerson_23 : decode prog_6_method_5_code 23 = .ok (.aload_n 0, 1) := by decide +kernel
theorem d_mPerson_24 : decode prog_6_method_5_code 24 = .ok (.getfield 7, 3) := by decide +kernel
theorem d_mPerson_27 : decode prog_6_method_5_code 27 = .ok (.iload_n 1, 1) := by decide +kernel
theorem d_mPerson_28 : decode prog_6_method_5_code 28 = .ok (.iload_n 2, 1) := by decide +kernel
theorem d_mPerson_29 : decode prog_6_method_5_code 29 = .ok (.iastore, 1) := by decide +kernel
theorem d_mPerson_30 : decode prog_6_method_5_code 30 = .ok (.aload_n 0, 1) := by decide +kernel
theorem d_mPerson_31 : decode prog_6_method_5_code 31 = .ok (.getfield 13, 3) := by decide +kernel
theorem d_mPerson_34 : decode prog_6_method_5_code 34 = .ok (.iload_n 1, 1) := by decide +kernel
theorem d_mPerson_35 : decode prog_6_method_5_code 35 = .ok (.iload_n 3, 1) := by decide +kernel
theorem d_mPerson_36 : decode prog_6_method_5_code 36 = .ok (.iastore, 1) := by decide +kernel
theorem d_mPerson_37 : decode prog_6_method_5_code 37 = .ok (.iconst 1, 1) := by decide +kernel
theorem d_mPerson_38 : decode prog_6_method_5_code 38 = .ok (.ireturn, 1) := by decide +kernel
theorem d_mReceipt_0 : decode prog_6_method_28_code 0 = .ok (.aload_n 0, 1) := by decide +kernel
theorem d_mReceipt_1 : decode prog_6_method_28_code 1 = .ok (.iconst 0, 1) := by decide +kernel
theorem d_mReceipt_2 : decode prog_6_method_28_code 2 = .ok (.putfield 60, 3) := by decide +kernel
theorem d_mReceipt_5 : decode prog_6_method_28_code 5 = .ok (.iload_n 1, 1) := by decide +kernel
theorem d_mReceipt_6 : decode prog_6_method_28_code 6 = .ok (.ifCond .lt 11, 3) := by decide +kernel
theorem d_mReceipt_9 : decode prog_6_method_28_code 9 = .ok (.iload_n 1, 1) := by decide +kernel
theorem d_mReceipt_10 : decode prog_6_method_28_code 10 = .ok (.aload_n 0, 1) := by decide +kernel
theorem d_mReceipt_11 : decode prog_6_method_28_code 11 = .ok (.getfield 83, 3) := by decide +kernel
theorem d_mReceipt_14 : decode prog_6_method_28_code 14 = .ok (.if_icmp .lt 7, 3) := by decide +kernel
theorem d_mReceipt_17 : decode prog_6_method_28_code 17 = .ok (.iconst (-1), 1) := by decide +kernel
theorem d_mReceipt_18 : decode prog_6_method_28_code 18 = .ok (.goto 9, 3) := by decide +kernel
theorem d_mReceipt_21 : decode prog_6_method_28_code 21 = .ok (.aload_n 0, 1) := by decide +kernel
theorem d_mReceipt_22 : decode prog_6_method_28_code 22 = .ok (.getfield 41, 3) := by decide +kernel
theorem d_mReceipt_25 : decode prog_6_method_28_code 25 = .ok (.iload_n 1, 1) := by decide +kernel
theorem d_mReceipt_26 : decode prog_6_method_28_code 26 = .ok (.iaload, 1) := by decide +kernel
theorem d_mReceipt_27 : decode prog_6_method_28_code 27 = .ok (.ireturn, 1) := by decide +kernel
theorem d_mReserve_0 : decode prog_6_method_8_code 0 = .ok (.aload_n 0, 1) := by decide +kernel
theorem d_mReserve_1 : decode prog_6_method_8_code 1 = .ok (.iconst 0, 1) := by decide +kernel
theorem d_mReserve_2 : decode prog_6_method_8_code 2 = .ok (.putfield 60, 3) := by decide +kernel
theorem d_mReserve_5 : decode prog_6_method_8_code 5 = .ok (.iload_n 1, 1) := by decide +kernel
theorem d_mReserve_6 : decode prog_6_method_8_code 6 = .ok (.invokestatic 70, 3) := by decide +kernel
theorem d_mReserve_9 : decode prog_6_method_8_code 9 = .ok (.ifCond .eq 15, 3) := by decide +kernel
theorem d_mReserve_12 : decode prog_6_method_8_code 12 = .ok (.iload_n 2, 1) := by decide +kernel
theorem d_mReserve_13 : decode prog_6_method_8_code 13 = .ok (.iconst (-1), 1) := by decide +kernel
theorem d_mReserve_14 : decode prog_6_method_8_code 14 = .ok (.if_icmp .eq 12, 3) := by decide +kernel
theorem d_mReserve_17 : decode prog_6_method_8_code 17 = .ok (.iload_n 2, 1) := by decide +kernel
theorem d_mReserve_18 : decode prog_6_method_8_code 18 = .ok (.invokestatic 63, 3) := by decide +kernel
theorem d_mReserve_21 : decode prog_6_method_8_code 21 = .ok (.ifCond .ne 5, 3) := by decide +kernel
theorem d_mReserve_24 : decode prog_6_method_8_code 24 = .ok (.iconst 0, 1) := by decide +kernel
theorem d_mReserve_25 : decode prog_6_method_8_code 25 = .ok (.ireturn, 1) := by decide +kernel
theorem d_mReserve_26 : decode prog_6_method_8_code 26 = .ok (.aload_n 0, 1) := by decide +kernel
theorem d_mReserve_27 : decode prog_6_method_8_code 27 = .ok (.getfield 29, 3) := by decide +kernel
theorem d_mReserve_30 : decode prog_6_method_8_code 30 = .ok (.iload_n 1, 1) := by decide +kernel
theorem d_mReserve_31 : decode prog_6_method_8_code 31 = .ok (.iload_n 2, 1) := by decide +kernel
theorem d_mReserve_32 : decode prog_6_method_8_code 32 = .ok (.iastore, 1) := by decide +kernel
theorem d_mReserve_33 : decode prog_6_method_8_code 33 = .ok (.iconst 1, 1) := by decide +kernel
theorem d_mReserve_34 : decode prog_6_method_8_code 34 = .ok (.ireturn, 1) := by decide +kernel
theorem d_mRows_0 : decode prog_6_method_31_code 0 = .ok (.aload_n 0, 1) := by decide +kernel
theorem d_mRows_1 : decode prog_6_method_31_code 1 = .ok (.iconst 0, 1) := by decide +kernel
theorem d_mRows_2 : decode prog_6_method_31_code 2 = .ok (.putfield 60, 3) := by decide +kernel
theorem d_mRows_5 : decode prog_6_method_31_code 5 = .ok (.aload_n 0, 1) := by decide +kernel
theorem d_mRows_6 : decode prog_6_method_31_code 6 = .ok (.getfield 97, 3) := by decide +kernel
theorem d_mRows_9 : decode prog_6_method_31_code 9 = .ok (.ireturn, 1) := by decide +kernel
theorem d_mScan_0 : decode prog_6_method_11_code 0 = .ok (.aload_n 0, 1) := by decide +kernel
theorem d_mScan_1 : decode prog_6_method_11_code 1 = .ok (.iconst 0, 1) := by decide +kernel
theorem d_mScan_2 : decode prog_6_method_11_code 2 = .ok (.putfield 60, 3) := by decide +kernel
theorem d_mScan_5 : decode prog_6_method_11_code 5 = .ok (.iload_n 1, 1) := by decide +kernel
theorem d_mScan_6 : decode prog_6_method_11_code 6 = .ok (.invokestatic 70, 3) := by decide +kernel
theorem d_mScan_9 : decode prog_6_method_11_code 9 = .ok (.ifCond .eq 11, 3) := by decide +kernel
theorem d_mScan_12 : decode prog_6_method_11_code 12 = .ok (.aload_n 0, 1) := by decide +kernel
theorem d_mScan_13 : decode prog_6_method_11_code 13 = .ok (.getfield 73, 3) := by decide +kernel
theorem d_mScan_16 : decode prog_6_method_11_code 16 = .ok (.iconst 2, 1) := by decide +kernel
theorem d_mScan_17 : decode prog_6_method_11_code 17 = .ok (.if_icmp .eq 5, 3) := by decide +kernel
theorem d_mScan_20 : decode prog_6_method_11_code 20 = .ok (.iconst 0, 1) := by decide +kernel
theorem d_mScan_21 : decode prog_6_method_11_code 21 = .ok (.ireturn, 1) := by decide +kernel
theorem d_mScan_22 : decode prog_6_method_11_code 22 = .ok (.iload_n 1, 1) := by decide +kernel
theorem d_mScan_23 : decode prog_6_method_11_code 23 = .ok (.aload_n 0, 1) := by decide +kernel
theorem d_mScan_24 : decode prog_6_method_11_code 24 = .ok (.getfield 57, 3) := by decide +kernel
theorem d_mScan_27 : decode prog_6_method_11_code 27 = .ok (.if_icmp .ne 5, 3) := by decide +kernel
theorem d_mScan_30 : decode prog_6_method_11_code 30 = .ok (.iconst 2, 1) := by decide +kernel
theorem d_mScan_31 : decode prog_6_method_11_code 31 = .ok (.ireturn, 1) := by decide +kernel
theorem d_mScan_32 : decode prog_6_method_11_code 32 = .ok (.aload_n 0, 1) := by decide +kernel
theorem d_mScan_33 : decode prog_6_method_11_code 33 = .ok (.iload_n 1, 1) := by decide +kernel
theorem d_mScan_34 : decode prog_6_method_11_code 34 = .ok (.putfield 57, 3) := by decide +kernel
theorem d_mScan_37 : decode prog_6_method_11_code 37 = .ok (.aload_n 0, 1) := by decide +kernel
theorem d_mScan_38 : decode prog_6_method_11_code 38 = .ok (.iconst 0, 1) := by decide +kernel
theorem d_mScan_39 : decode prog_6_method_11_code 39 = .ok (.putfield 86, 3) := by decide +kernel
theorem d_mScan_42 : decode prog_6_method_11_code 42 = .ok (.iconst 1, 1) := by decide +kernel
theorem d_mScan_43 : decode prog_6_method_11_code 43 = .ok (.ireturn, 1) := by decide +kernel
theorem d_mScreen_0 : decode prog_6_method_29_code 0 = .ok (.aload_n 0, 1) := by decide +kernel
theorem d_mScreen_1 : decode prog_6_method_29_code 1 = .ok (.iconst 0, 1) := by decide +kernel
theorem d_mScreen_2 : decode prog_6_method_29_code 2 = .ok (.putfield 60, 3) := by decide +kernel
theorem d_mScreen_5 : decode prog_6_method_29_code 5 = .ok (.aload_n 0, 1) := by decide +kernel
theorem d_mScreen_6 : decode prog_6_method_29_code 6 = .ok (.getfield 73, 3) := by decide +kernel
theorem d_mScreen_9 : decode prog_6_method_29_code 9 = .ok (.ifCond .ne 7, 3) := by decide +kernel
theorem d_mScreen_12 : decode prog_6_method_29_code 12 = .ok (.iconst 0, 1) := by decide +kernel
theorem d_mScreen_13 : decode prog_6_method_29_code 13 = .ok (.goto 15, 3) := by decide +kernel
theorem d_mScreen_16 : decode prog_6_method_29_code 16 = .ok (.bipush 10, 2) := by decide +kernel
theorem d_mScreen_18 : decode prog_6_method_29_code 18 = .ok (.aload_n 0, 1) := by decide +kernel
theorem d_mScreen_19 : decode prog_6_method_29_code 19 = .ok (.getfield 13, 3) := by decide +kernel
theorem d_mScreen_22 : decode prog_6_method_29_code 22 = .ok (.aload_n 0, 1) := by decide +kernel
theorem d_mScreen_23 : decode prog_6_method_29_code 23 = .ok (.getfield 80, 3) := by decide +kernel
theorem d_mScreen_26 : decode prog_6_method_29_code 26 = .ok (.iaload, 1) := by decide +kernel
theorem d_mScreen_27 : decode prog_6_method_29_code 27 = .ok (.imul, 1) := by decide +kernel
theorem d_mScreen_28 : decode prog_6_method_29_code 28 = .ok (.aload_n 0, 1) := by decide +kernel
theorem d_mScreen_29 : decode prog_6_method_29_code 29 = .ok (.getfield 73, 3) := by decide +kernel
theorem d_mScreen_32 : decode prog_6_method_29_code 32 = .ok (.iadd, 1) := by decide +kernel
theorem d_mScreen_33 : decode prog_6_method_29_code 33 = .ok (.aload_n 0, 1) := by decide +kernel
theorem d_mScreen_34 : decode prog_6_method_29_code 34 = .ok (.getfield 76, 3) := by decide +kernel
theorem d_mScreen_37 : decode prog_6_method_29_code 37 = .ok (.ifCond .eq 7, 3) := by decide +kernel
theorem d_mScreen_40 : decode prog_6_method_29_code 40 = .ok (.iconst 5, 1) := by decide +kernel
theorem d_mScreen_41 : decode prog_6_method_29_code 41 = .ok (.goto 4, 3) := by decide +kernel
theorem d_mScreen_44 : decode prog_6_method_29_code 44 = .ok (.iconst 0, 1) := by decide +kernel
theorem d_mScreen_45 : decode prog_6_method_29_code 45 = .ok (.iadd, 1) := by decide +kernel
theorem d_mScreen_46 : decode prog_6_method_29_code 46 = .ok (.ireturn, 1) := by decide +kernel
theorem d_mTwice_0 : decode prog_6_method_12_code 0 = .ok (.aload_n 0, 1) := by decide +kernel
theorem d_mTwice_1 : decode prog_6_method_12_code 1 = .ok (.iconst 0, 1) := by decide +kernel
theorem d_mTwice_2 : decode prog_6_method_12_code 2 = .ok (.putfield 60, 3) := by decide +kernel
theorem d_mTwice_5 : decode prog_6_method_12_code 5 = .ok (.aload_n 0, 1) := by decide +kernel
theorem d_mTwice_6 : decode prog_6_method_12_code 6 = .ok (.getfield 73, 3) := by decide +kernel
theorem d_mTwice_9 : decode prog_6_method_12_code 9 = .ok (.iconst 2, 1) := by decide +kernel
theorem d_mTwice_10 : decode prog_6_method_12_code 10 = .ok (.if_icmp .eq 5, 3) := by decide +kernel
theorem d_mTwice_13 : decode prog_6_method_12_code 13 = .ok (.iconst 0, 1) := by decide +kernel
theorem d_mTwice_14 : decode prog_6_method_12_code 14 = .ok (.ireturn, 1) := by decide +kernel
theorem d_mTwice_15 : decode prog_6_method_12_code 15 = .ok (.aload_n 0, 1) := by decide +kernel
theorem d_mTwice_16 : decode prog_6_method_12_code 16 = .ok (.iconst (-1), 1) := by decide +kernel
theorem d_mTwice_17 : decode prog_6_method_12_code 17 = .ok (.putfield 57, 3) := by decide +kernel
theorem d_mTwice_20 : decode prog_6_method_12_code 20 = .ok (.iconst 1, 1) := by decide +kernel
theorem d_mTwice_21 : decode prog_6_method_12_code 21 = .ok (.ireturn, 1) := by decide +kernel
theorem d_mayG_0 : decode prog_2_method_8_code 0 = .ok (.aload_n 0, 1) := by decide +kernel
theorem d_mayG_1 : decode prog_2_method_8_code 1 = .ok (.getfield 25, 3) := by decide +kernel
theorem d_mayG_4 : decode prog_2_method_8_code 4 = .ok (.iload_n 1, 1) := by decide +kernel
theorem d_mayG_5 : decode prog_2_method_8_code 5 = .ok (.iaload, 1) := by decide +kernel
theorem d_mayG_6 : decode prog_2_method_8_code 6 = .ok (.iconst (-1), 1) := by decide +kernel
theorem d_mayG_7 : decode prog_2_method_8_code 7 = .ok (.if_icmp .ne 27, 3) := by decide +kernel
theorem d_mayG_10 : decode prog_2_method_8_code 10 = .ok (.aload_n 0, 1) := by decide +kernel
theorem d_mayG_11 : decode prog_2_method_8_code 11 = .ok (.getfield 28, 3) := by decide +kernel
theorem d_mayG_14 : decode prog_2_method_8_code 14 = .ok (.iload_n 1, 1) := by decide +kernel
theorem d_mayG_15 : decode prog_2_method_8_code 15 = .ok (.iaload, 1) := by decide +kernel
theorem d_mayG_16 : decode prog_2_method_8_code 16 = .ok (.iconst (-1), 1) := by decide +kernel
theorem d_mayG_17 : decode prog_2_method_8_code 17 = .ok (.if_icmp .eq 17, 3) := by decide +kernel
theorem d_mayG_20 : decode prog_2_method_8_code 20 = .ok (.aload_n 0, 1) := by decide +kernel
theorem d_mayG_21 : decode prog_2_method_8_code 21 = .ok (.getfield 34, 3) := by decide +kernel
theorem d_mayG_24 : decode prog_2_method_8_code 24 = .ok (.iload_n 1, 1) := by decide +kernel
theorem d_mayG_25 : decode prog_2_method_8_code 25 = .ok (.iaload, 1) := by decide +kernel
theorem d_mayG_26 : decode prog_2_method_8_code 26 = .ok (.iconst (-1), 1) := by decide +kernel
theorem d_mayG_27 : decode prog_2_method_8_code 27 = .ok (.if_icmp .ne 7, 3) := by decide +kernel
theorem d_mayG_30 : decode prog_2_method_8_code 30 = .ok (.iconst 1, 1) := by decide +kernel
theorem d_mayG_31 : decode prog_2_method_8_code 31 = .ok (.goto 4, 3) := by decide +kernel
theorem d_mayG_34 : decode prog_2_method_8_code 34 = .ok (.iconst 0, 1) := by decide +kernel
theorem d_mayG_35 : decode prog_2_method_8_code 35 = .ok (.ireturn, 1) := by decide +kernel
theorem d_offl_0 : decode prog_1_method_12_code 0 = .ok (.aload_n 0, 1) := by decide +kernel
theorem d_offl_1 : decode prog_1_method_12_code 1 = .ok (.getfield 44, 3) := by decide +kernel
theorem d_offl_4 : decode prog_1_method_12_code 4 = .ok (.istore_n 2, 1) := by decide +kernel
theorem d_offl_5 : decode prog_1_method_12_code 5 = .ok (.aload_n 0, 1) := by decide +kernel
theorem d_offl_6 : decode prog_1_method_12_code 6 = .ok (.iload_n 1, 1) := by decide +kernel
theorem d_offl_7 : decode prog_1_method_12_code 7 = .ok (.putfield 44, 3) := by decide +kernel
theorem d_offl_10 : decode prog_1_method_12_code 10 = .ok (.aload_n 0, 1) := by decide +kernel
theorem d_offl_11 : decode prog_1_method_12_code 11 = .ok (.getfield 40, 3) := by decide +kernel
theorem d_offl_14 : decode prog_1_method_12_code 14 = .ok (.invokevirtual 88, 3) := by decide +kernel
theorem d_offl_17 : decode prog_1_method_12_code 17 = .ok (.iload_n 2, 1) := by decide +kernel
theorem d_offl_18 : decode prog_1_method_12_code 18 = .ok (.ireturn, 1) := by decide +kernel
theorem d_opn_0 : decode prog_1_method_16_code 0 = .ok (.iload_n 1, 1) := by decide +kernel
theorem d_opn_1 : decode prog_1_method_16_code 1 = .ok (.ifCond .lt 22, 3) := by decide +kernel
theorem d_opn_4 : decode prog_1_method_16_code 4 = .ok (.iload_n 1, 1) := by decide +kernel
theorem d_opn_5 : decode prog_1_method_16_code 5 = .ok (.bipush 10, 2) := by decide +kernel
theorem d_opn_7 : decode prog_1_method_16_code 7 = .ok (.if_icmp .ge 16, 3) := by decide +kernel
theorem d_opn_10 : decode prog_1_method_16_code 10 = .ok (.aload_n 0, 1) := by decide +kernel
theorem d_opn_11 : decode prog_1_method_16_code 11 = .ok (.getfield 21, 3) := by decide +kernel
theorem d_opn_14 : decode prog_1_method_16_code 14 = .ok (.getfield 161, 3) := by decide +kernel
theorem d_opn_17 : decode prog_1_method_16_code 17 = .ok (.iload_n 1, 1) := by decide +kernel
theorem d_opn_18 : decode prog_1_method_16_code 18 = .ok (.iaload, 1) := by decide +kernel
theorem d_opn_19 : decode prog_1_method_16_code 19 = .ok (.iconst (-1), 1) := by decide +kernel
theorem d_opn_20 : decode prog_1_method_16_code 20 = .ok (.if_icmp .ne 5, 3) := by decide +kernel
theorem d_opn_23 : decode prog_1_method_16_code 23 = .ok (.iconst (-1), 1) := by decide +kernel
theorem d_opn_24 : decode prog_1_method_16_code 24 = .ok (.ireturn, 1) := by decide +kernel
theorem d_opn_25 : decode prog_1_method_16_code 25 = .ok (.aload_n 0, 1) := by decide +kernel
theorem d_opn_26 : decode prog_1_method_16_code 26 = .ok (.getfield 21, 3) := by decide +kernel
theorem d_opn_29 : decode prog_1_method_16_code 29 = .ok (.getfield 161, 3) := by decide +kernel
theorem d_opn_32 : decode prog_1_method_16_code 32 = .ok (.iload_n 1, 1) := by decide +kernel
theorem d_opn_33 : decode prog_1_method_16_code 33 = .ok (.iaload, 1) := by decide +kernel
theorem d_opn_34 : decode prog_1_method_16_code 34 = .ok (.istore_n 3, 1) := by decide +kernel
theorem d_opn_35 : decode prog_1_method_16_code 35 = .ok (.aload_n 0, 1) := by decide +kernel
theorem d_opn_36 : decode prog_1_method_16_code 36 = .ok (.getfield 21, 3) := by decide +kernel
theorem d_opn_39 : decode prog_1_method_16_code 39 = .ok (.getfield 72, 3) := by decide +kernel
theorem d_opn_42 : decode prog_1_method_16_code 42 = .ok (.iload_n 3, 1) := by decide +kernel
theorem d_opn_43 : decode prog_1_method_16_code 43 = .ok (.iaload, 1) := by decide +kernel
theorem d_opn_44 : decode prog_1_method_16_code 44 = .ok (.istore 4, 2) := by decide +kernel
theorem d_opn_46 : decode prog_1_method_16_code 46 = .ok (.iload 4, 2) := by decide +kernel
theorem d_opn_48 : decode prog_1_method_16_code 48 = .ok (.iconst (-1), 1) := by decide +kernel
theorem d_opn_49 : decode prog_1_method_16_code 49 = .ok (.if_icmp .eq 17, 3) := by decide +kernel
theorem d_opn_52 : decode prog_1_method_16_code 52 = .ok (.aload_n 0, 1) := by decide +kernel
theorem d_opn_53 : decode prog_1_method_16_code 53 = .ok (.getfield 21, 3) := by decide +kernel
theorem d_opn_56 : decode prog_1_method_16_code 56 = .ok (.getfield 52, 3) := by decide +kernel
theorem d_opn_59 : decode prog_1_method_16_code 59 = .ok (.iload 4, 2) := by decide +kernel
theorem d_opn_61 : decode prog_1_method_16_code 61 = .ok (.iaload, 1) := by decide +kernel
theorem d_opn_62 : decode prog_1_method_16_code 62 = .ok (.iload_n 2, 1) := by decide +kernel
theorem d_opn_63 : decode prog_1_method_16_code 63 = .ok (.if_icmp .eq 5, 3) := by decide +kernel
theorem d_opn_66 : decode prog_1_method_16_code 66 = .ok (.iconst (-1), 1) := by decide +kernel
theorem d_opn_67 : decode prog_1_method_16_code 67 = .ok (.ireturn, 1) := by decide +kernel
theorem d_opn_68 : decode prog_1_method_16_code 68 = .ok (.aload_n 0, 1) := by decide +kernel
theorem d_opn_69 : decode prog_1_method_16_code 69 = .ok (.getfield 21, 3) := by decide +kernel
theorem d_opn_72 : decode prog_1_method_16_code 72 = .ok (.iload_n 3, 1) := by decide +kernel
theorem d_opn_73 : decode prog_1_method_16_code 73 = .ok (.iload 4, 2) := by decide +kernel
theorem d_opn_75 : decode prog_1_method_16_code 75 = .ok (.invokevirtual 108, 3) := by decide +kernel
theorem d_opn_78 : decode prog_1_method_16_code 78 = .ok (.istore 5, 2) := by decide +kernel
theorem d_opn_80 : decode prog_1_method_16_code 80 = .ok (.iload 5, 2) := by decide +kernel
theorem d_opn_82 : decode prog_1_method_16_code 82 = .ok (.ifCond .eq 6, 3) := by decide +kernel
theorem d_opn_85 : decode prog_1_method_16_code 85 = .ok (.iload 5, 2) := by decide +kernel
theorem d_opn_87 : decode prog_1_method_16_code 87 = .ok (.ireturn, 1) := by decide +kernel
theorem d_opn_88 : decode prog_1_method_16_code 88 = .ok (.aload_n 0, 1) := by decide +kernel
theorem d_opn_89 : decode prog_1_method_16_code 89 = .ok (.getfield 21, 3) := by decide +kernel
theorem d_opn_92 : decode prog_1_method_16_code 92 = .ok (.iload_n 3, 1) := by decide +kernel
theorem d_opn_93 : decode prog_1_method_16_code 93 = .ok (.iload 4, 2) := by decide +kernel
theorem d_opn_95 : decode prog_1_method_16_code 95 = .ok (.invokevirtual 118, 3) := by decide +kernel
theorem d_opn_98 : decode prog_1_method_16_code 98 = .ok (.iload_n 3, 1) := by decide +kernel
theorem d_opn_99 : decode prog_1_method_16_code 99 = .ok (.ireturn, 1) := by decide +kernel
theorem d_person_0 : decode prog_1_method_2_code 0 = .ok (.iload_n 1, 1) := by decide +kernel
theorem d_person_1 : decode prog_1_method_2_code 1 = .ok (.invokestatic 48, 3) := by decide +kernel
theorem d_person_4 : decode prog_1_method_2_code 4 = .ok (.ifCond .eq 12, 3) := by decide +kernel
theorem d_person_7 : decode prog_1_method_2_code 7 = .ok (.iload_n 3, 1) := by decide +kernel
theorem d_person_8 : decode prog_1_method_2_code 8 = .ok (.ifCond .lt 8, 3) := by decide +kernel
theorem d_person_11 : decode prog_1_method_2_code 11 = .ok (.iload_n 3, 1) := by decide +kernel
theorem d_person_12 : decode prog_1_method_2_code 12 = .ok (.iconst 3, 1) := by decide +kernel
theorem d_person_13 : decode prog_1_method_2_code 13 = .ok (.if_icmp .lt 5, 3) := by decide +kernel
theorem d_person_16 : decode prog_1_method_2_code 16 = .ok (.iconst 0, 1) := by decide +kernel
theorem d_person_17 : decode prog_1_method_2_code 17 = .ok (.ireturn, 1) := by decide +kernel
theorem d_person_18 : decode prog_1_method_2_code 18 = .ok (.aload_n 0, 1) := by decide +kernel
theorem d_person_19 : decode prog_1_method_2_code 19 = .ok (.getfield 21, 3) := by decide +kernel
theorem d_person_22 : decode prog_1_method_2_code 22 = .ok (.getfield 52, 3) := by decide +kernel
theorem d_person_25 : decode prog_1_method_2_code 25 = .ok (.iload_n 1, 1) := by decide +kernel
theorem d_person_26 : decode prog_1_method_2_code 26 = .ok (.iload_n 2, 1) := by decide +kernel
theorem d_person_27 : decode prog_1_method_2_code 27 = .ok (.iastore, 1) := by decide +kernel
theorem d_person_28 : decode prog_1_method_2_code 28 = .ok (.aload_n 0, 1) := by decide +kernel
theorem d_person_29 : decode prog_1_method_2_code 29 = .ok (.getfield 21, 3) := by decide +kernel
theorem d_person_32 : decode prog_1_method_2_code 32 = .ok (.getfield 56, 3) := by decide +kernel
theorem d_person_35 : decode prog_1_method_2_code 35 = .ok (.iload_n 1, 1) := by decide +kernel
theorem d_person_36 : decode prog_1_method_2_code 36 = .ok (.iload_n 3, 1) := by decide +kernel
theorem d_person_37 : decode prog_1_method_2_code 37 = .ok (.iastore, 1) := by decide +kernel
theorem d_person_38 : decode prog_1_method_2_code 38 = .ok (.iconst 1, 1) := by decide +kernel
theorem d_person_39 : decode prog_1_method_2_code 39 = .ok (.ireturn, 1) := by decide +kernel
theorem d_rAdd_0 : decode prog_3_method_4_code 0 = .ok (.aload_n 0, 1) := by decide +kernel
theorem d_rAdd_1 : decode prog_3_method_4_code 1 = .ok (.invokevirtual 28, 3) := by decide +kernel
theorem d_rAdd_4 : decode prog_3_method_4_code 4 = .ok (.ifCond .eq 4, 3) := by decide +kernel
theorem d_rAdd_7 : decode prog_3_method_4_code 7 = .ok (.return_, 1) := by decide +kernel
theorem d_rAdd_8 : decode prog_3_method_4_code 8 = .ok (.aload_n 0, 1) := by decide +kernel
theorem d_rAdd_9 : decode prog_3_method_4_code 9 = .ok (.getfield 15, 3) := by decide +kernel
theorem d_rAdd_12 : decode prog_3_method_4_code 12 = .ok (.aload_n 0, 1) := by decide +kernel
theorem d_rAdd_13 : decode prog_3_method_4_code 13 = .ok (.getfield 24, 3) := by decide +kernel
theorem d_rAdd_16 : decode prog_3_method_4_code 16 = .ok (.iload_n 1, 1) := by decide +kernel
theorem d_rAdd_17 : decode prog_3_method_4_code 17 = .ok (.iastore, 1) := by decide +kernel
theorem d_rAdd_18 : decode prog_3_method_4_code 18 = .ok (.aload_n 0, 1) := by decide +kernel
theorem d_rAdd_19 : decode prog_3_method_4_code 19 = .ok (.getfield 21, 3) := by decide +kernel
theorem d_rAdd_22 : decode prog_3_method_4_code 22 = .ok (.aload_n 0, 1) := by decide +kernel
theorem d_rAdd_23 : decode prog_3_method_4_code 23 = .ok (.getfield 24, 3) := by decide +kernel
theorem d_rAdd_26 : decode prog_3_method_4_code 26 = .ok (.iload_n 2, 1) := by decide +kernel
theorem d_rAdd_27 : decode prog_3_method_4_code 27 = .ok (.iastore, 1) := by decide +kernel
theorem d_rAdd_28 : decode prog_3_method_4_code 28 = .ok (.aload_n 0, 1) := by decide +kernel
theorem d_rAdd_29 : decode prog_3_method_4_code 29 = .ok (.dup, 1) := by decide +kernel
theorem d_rAdd_30 : decode prog_3_method_4_code 30 = .ok (.getfield 24, 3) := by decide +kernel
theorem d_rAdd_33 : decode prog_3_method_4_code 33 = .ok (.iconst 1, 1) := by decide +kernel
theorem d_rAdd_34 : decode prog_3_method_4_code 34 = .ok (.iadd, 1) := by decide +kernel
theorem d_rAdd_35 : decode prog_3_method_4_code 35 = .ok (.putfield 24, 3) := by decide +kernel
theorem d_rAdd_38 : decode prog_3_method_4_code 38 = .ok (.return_, 1) := by decide +kernel
theorem d_rLL_0 : decode prog_3_method_5_code 0 = .ok (.aload_n 0, 1) := by decide +kernel
theorem d_rLL_1 : decode prog_3_method_5_code 1 = .ok (.getfield 24, 3) := by decide +kernel
theorem d_rLL_4 : decode prog_3_method_5_code 4 = .ok (.iconst 1, 1) := by decide +kernel
theorem d_rLL_5 : decode prog_3_method_5_code 5 = .ok (.isub, 1) := by decide +kernel
theorem d_rLL_6 : decode prog_3_method_5_code 6 = .ok (.istore_n 1, 1) := by decide +kernel
theorem d_rLL_7 : decode prog_3_method_5_code 7 = .ok (.iload_n 1, 1) := by decide +kernel
