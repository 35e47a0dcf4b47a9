theorem d_mBlock_24 : decode prog_6_method_7_code 24 = .ok (.iload_n 1, 1) := by decide +kernel
theorem d_mBlock_25 : decode prog_6_method_7_code 25 = .ok (.iload_n 2, 1) := by decide +kernel
theorem d_mBlock_26 : decode prog_6_method_7_code 26 = .ok (.bastore, 1) := by decide +kernel
theorem d_mBlock_27 : decode prog_6_method_7_code 27 = .ok (.aload_n 0, 1) := by decide +kernel
theorem d_mBlock_28 : decode prog_6_method_7_code 28 = .ok (.getfield 20, 3) := by decide +kernel
theorem d_mBlock_31 : decode prog_6_method_7_code 31 = .ok (.iload_n 1, 1) := by decide +kernel
theorem d_mBlock_32 : decode prog_6_method_7_code 32 = .ok (.iconst 0, 1) := by decide +kernel
theorem d_mBlock_33 : decode prog_6_method_7_code 33 = .ok (.bastore, 1) := by decide +kernel
theorem d_mBlock_34 : decode prog_6_method_7_code 34 = .ok (.aload_n 0, 1) := by decide +kernel
theorem d_mBlock_35 : decode prog_6_method_7_code 35 = .ok (.getfield 23, 3) := by decide +kernel
theorem d_mBlock_38 : decode prog_6_method_7_code 38 = .ok (.iload_n 1, 1) := by decide +kernel
theorem d_mBlock_39 : decode prog_6_method_7_code 39 = .ok (.iconst 0, 1) := by decide +kernel
theorem d_mBlock_40 : decode prog_6_method_7_code 40 = .ok (.iastore, 1) := by decide +kernel
theorem d_mBlock_41 : decode prog_6_method_7_code 41 = .ok (.iload_n 3, 1) := by decide +kernel
theorem d_mBlock_42 : decode prog_6_method_7_code 42 = .ok (.ireturn, 1) := by decide +kernel
theorem d_mCard_0 : decode prog_6_method_9_code 0 = .ok (.aload_n 0, 1) := by decide +kernel
theorem d_mCard_1 : decode prog_6_method_9_code 1 = .ok (.iconst 0, 1) := by decide +kernel
theorem d_mCard_2 : decode prog_6_method_9_code 2 = .ok (.putfield 60, 3) := by decide +kernel
theorem d_mCard_5 : decode prog_6_method_9_code 5 = .ok (.iload_n 1, 1) := by decide +kernel
theorem d_mCard_6 : decode prog_6_method_9_code 6 = .ok (.invokestatic 63, 3) := by decide +kernel
theorem d_mCard_9 : decode prog_6_method_9_code 9 = .ok (.ifCond .eq 10, 3) := by decide +kernel
theorem d_mCard_12 : decode prog_6_method_9_code 12 = .ok (.aload_n 0, 1) := by decide +kernel
theorem d_mCard_13 : decode prog_6_method_9_code 13 = .ok (.getfield 73, 3) := by decide +kernel
theorem d_mCard_16 : decode prog_6_method_9_code 16 = .ok (.ifCond .eq 5, 3) := by decide +kernel
theorem d_mCard_19 : decode prog_6_method_9_code 19 = .ok (.iconst 0, 1) := by decide +kernel
theorem d_mCard_20 : decode prog_6_method_9_code 20 = .ok (.ireturn, 1) := by decide +kernel
theorem d_mCard_21 : decode prog_6_method_9_code 21 = .ok (.aload_n 0, 1) := by decide +kernel
theorem d_mCard_22 : decode prog_6_method_9_code 22 = .ok (.getfield 76, 3) := by decide +kernel
theorem d_mCard_25 : decode prog_6_method_9_code 25 = .ok (.ifCond .eq 15, 3) := by decide +kernel
theorem d_mCard_28 : decode prog_6_method_9_code 28 = .ok (.aload_n 0, 1) := by decide +kernel
theorem d_mCard_29 : decode prog_6_method_9_code 29 = .ok (.getfield 20, 3) := by decide +kernel
theorem d_mCard_32 : decode prog_6_method_9_code 32 = .ok (.iload_n 1, 1) := by decide +kernel
theorem d_mCard_33 : decode prog_6_method_9_code 33 = .ok (.baload, 1) := by decide +kernel
theorem d_mCard_34 : decode prog_6_method_9_code 34 = .ok (.ifCond .eq 16, 3) := by decide +kernel
theorem d_mCard_37 : decode prog_6_method_9_code 37 = .ok (.goto 11, 3) := by decide +kernel
theorem d_mCard_40 : decode prog_6_method_9_code 40 = .ok (.aload_n 0, 1) := by decide +kernel
theorem d_mCard_41 : decode prog_6_method_9_code 41 = .ok (.iload_n 1, 1) := by decide +kernel
theorem d_mCard_42 : decode prog_6_method_9_code 42 = .ok (.invokevirtual 67, 3) := by decide +kernel
theorem d_mCard_45 : decode prog_6_method_9_code 45 = .ok (.ifCond .eq 5, 3) := by decide +kernel
theorem d_mCard_48 : decode prog_6_method_9_code 48 = .ok (.iconst (-1), 1) := by decide +kernel
theorem d_mCard_49 : decode prog_6_method_9_code 49 = .ok (.ireturn, 1) := by decide +kernel
theorem d_mCard_50 : decode prog_6_method_9_code 50 = .ok (.aload_n 0, 1) := by decide +kernel
theorem d_mCard_51 : decode prog_6_method_9_code 51 = .ok (.iconst 1, 1) := by decide +kernel
theorem d_mCard_52 : decode prog_6_method_9_code 52 = .ok (.putfield 73, 3) := by decide +kernel
theorem d_mCard_55 : decode prog_6_method_9_code 55 = .ok (.aload_n 0, 1) := by decide +kernel
theorem d_mCard_56 : decode prog_6_method_9_code 56 = .ok (.iload_n 1, 1) := by decide +kernel
theorem d_mCard_57 : decode prog_6_method_9_code 57 = .ok (.putfield 80, 3) := by decide +kernel
theorem d_mCard_60 : decode prog_6_method_9_code 60 = .ok (.iconst 1, 1) := by decide +kernel
theorem d_mCard_61 : decode prog_6_method_9_code 61 = .ok (.ireturn, 1) := by decide +kernel
theorem d_mClash_0 : decode prog_6_method_24_code 0 = .ok (.aload_n 0, 1) := by decide +kernel
theorem d_mClash_1 : decode prog_6_method_24_code 1 = .ok (.iconst 0, 1) := by decide +kernel
theorem d_mClash_2 : decode prog_6_method_24_code 2 = .ok (.putfield 60, 3) := by decide +kernel
theorem d_mClash_5 : decode prog_6_method_24_code 5 = .ok (.iload_n 1, 1) := by decide +kernel
theorem d_mClash_6 : decode prog_6_method_24_code 6 = .ok (.ifCond .lt 20, 3) := by decide +kernel
theorem d_mClash_9 : decode prog_6_method_24_code 9 = .ok (.iload_n 1, 1) := by decide +kernel
theorem d_mClash_10 : decode prog_6_method_24_code 10 = .ok (.aload_n 0, 1) := by decide +kernel
theorem d_mClash_11 : decode prog_6_method_24_code 11 = .ok (.getfield 114, 3) := by decide +kernel
theorem d_mClash_14 : decode prog_6_method_24_code 14 = .ok (.if_icmp .ge 12, 3) := by decide +kernel
theorem d_mClash_17 : decode prog_6_method_24_code 17 = .ok (.iload_n 2, 1) := by decide +kernel
theorem d_mClash_18 : decode prog_6_method_24_code 18 = .ok (.ifCond .lt 8, 3) := by decide +kernel
theorem d_mClash_21 : decode prog_6_method_24_code 21 = .ok (.iload_n 2, 1) := by decide +kernel
theorem d_mClash_22 : decode prog_6_method_24_code 22 = .ok (.iconst 2, 1) := by decide +kernel
theorem d_mClash_23 : decode prog_6_method_24_code 23 = .ok (.if_icmp .le 7, 3) := by decide +kernel
theorem d_mClash_26 : decode prog_6_method_24_code 26 = .ok (.iconst (-1), 1) := by decide +kernel
theorem d_mClash_27 : decode prog_6_method_24_code 27 = .ok (.goto 13, 3) := by decide +kernel
theorem d_mClash_30 : decode prog_6_method_24_code 30 = .ok (.aload_n 0, 1) := by decide +kernel
theorem d_mClash_31 : decode prog_6_method_24_code 31 = .ok (.getfield 50, 3) := by decide +kernel
theorem d_mClash_34 : decode prog_6_method_24_code 34 = .ok (.iconst 3, 1) := by decide +kernel
theorem d_mClash_35 : decode prog_6_method_24_code 35 = .ok (.iload_n 1, 1) := by decide +kernel
theorem d_mClash_36 : decode prog_6_method_24_code 36 = .ok (.imul, 1) := by decide +kernel
theorem d_mClash_37 : decode prog_6_method_24_code 37 = .ok (.iload_n 2, 1) := by decide +kernel
theorem d_mClash_38 : decode prog_6_method_24_code 38 = .ok (.iadd, 1) := by decide +kernel
theorem d_mClash_39 : decode prog_6_method_24_code 39 = .ok (.iaload, 1) := by decide +kernel
theorem d_mClash_40 : decode prog_6_method_24_code 40 = .ok (.ireturn, 1) := by decide +kernel
theorem d_mCode_0 : decode prog_6_method_10_code 0 = .ok (.aload_n 0, 1) := by decide +kernel
theorem d_mCode_1 : decode prog_6_method_10_code 1 = .ok (.iconst 0, 1) := by decide +kernel
theorem d_mCode_2 : decode prog_6_method_10_code 2 = .ok (.putfield 60, 3) := by decide +kernel
theorem d_mCode_5 : decode prog_6_method_10_code 5 = .ok (.aload_n 0, 1) := by decide +kernel
theorem d_mCode_6 : decode prog_6_method_10_code 6 = .ok (.getfield 73, 3) := by decide +kernel
theorem d_mCode_9 : decode prog_6_method_10_code 9 = .ok (.iconst 1, 1) := by decide +kernel
theorem d_mCode_10 : decode prog_6_method_10_code 10 = .ok (.if_icmp .eq 6, 3) := by decide +kernel
theorem d_mCode_13 : decode prog_6_method_10_code 13 = .ok (.bipush (-2), 2) := by decide +kernel
theorem d_mCode_15 : decode prog_6_method_10_code 15 = .ok (.ireturn, 1) := by decide +kernel
theorem d_mCode_16 : decode prog_6_method_10_code 16 = .ok (.iload_n 1, 1) := by decide +kernel
theorem d_mCode_17 : decode prog_6_method_10_code 17 = .ok (.aload_n 0, 1) := by decide +kernel
theorem d_mCode_18 : decode prog_6_method_10_code 18 = .ok (.getfield 7, 3) := by decide +kernel
theorem d_mCode_21 : decode prog_6_method_10_code 21 = .ok (.aload_n 0, 1) := by decide +kernel
theorem d_mCode_22 : decode prog_6_method_10_code 22 = .ok (.getfield 80, 3) := by decide +kernel
theorem d_mCode_25 : decode prog_6_method_10_code 25 = .ok (.iaload, 1) := by decide +kernel
theorem d_mCode_26 : decode prog_6_method_10_code 26 = .ok (.if_icmp .ne 30, 3) := by decide +kernel
theorem d_mCode_29 : decode prog_6_method_10_code 29 = .ok (.aload_n 0, 1) := by decide +kernel
theorem d_mCode_30 : decode prog_6_method_10_code 30 = .ok (.getfield 23, 3) := by decide +kernel
theorem d_mCode_33 : decode prog_6_method_10_code 33 = .ok (.aload_n 0, 1) := by decide +kernel
theorem d_mCode_34 : decode prog_6_method_10_code 34 = .ok (.getfield 80, 3) := by decide +kernel
theorem d_mCode_37 : decode prog_6_method_10_code 37 = .ok (.iconst 0, 1) := by decide +kernel
theorem d_mCode_38 : decode prog_6_method_10_code 38 = .ok (.iastore, 1) := by decide +kernel
theorem d_mCode_39 : decode prog_6_method_10_code 39 = .ok (.aload_n 0, 1) := by decide +kernel
theorem d_mCode_40 : decode prog_6_method_10_code 40 = .ok (.iconst 2, 1) := by decide +kernel
theorem d_mCode_41 : decode prog_6_method_10_code 41 = .ok (.putfield 73, 3) := by decide +kernel
theorem d_mCode_44 : decode prog_6_method_10_code 44 = .ok (.aload_n 0, 1) := by decide +kernel
theorem d_mCode_45 : decode prog_6_method_10_code 45 = .ok (.iconst 0, 1) := by decide +kernel
theorem d_mCode_46 : decode prog_6_method_10_code 46 = .ok (.putfield 83, 3) := by decide +kernel
theorem d_mCode_49 : decode prog_6_method_10_code 49 = .ok (.aload_n 0, 1) := by decide +kernel
theorem d_mCode_50 : decode prog_6_method_10_code 50 = .ok (.iconst (-1), 1) := by decide +kernel
theorem d_mCode_51 : decode prog_6_method_10_code 51 = .ok (.putfield 57, 3) := by decide +kernel
theorem d_mCode_54 : decode prog_6_method_10_code 54 = .ok (.iconst 1, 1) := by decide +kernel
theorem d_mCode_55 : decode prog_6_method_10_code 55 = .ok (.ireturn, 1) := by decide +kernel
theorem d_mCode_56 : decode prog_6_method_10_code 56 = .ok (.aload_n 0, 1) := by decide +kernel
theorem d_mCode_57 : decode prog_6_method_10_code 57 = .ok (.iconst 0, 1) := by decide +kernel
theorem d_mCode_58 : decode prog_6_method_10_code 58 = .ok (.putfield 73, 3) := by decide +kernel
theorem d_mCode_61 : decode prog_6_method_10_code 61 = .ok (.aload_n 0, 1) := by decide +kernel
theorem d_mCode_62 : decode prog_6_method_10_code 62 = .ok (.getfield 23, 3) := by decide +kernel
theorem d_mCode_65 : decode prog_6_method_10_code 65 = .ok (.aload_n 0, 1) := by decide +kernel
theorem d_mCode_66 : decode prog_6_method_10_code 66 = .ok (.getfield 80, 3) := by decide +kernel
theorem d_mCode_69 : decode prog_6_method_10_code 69 = .ok (.dup2, 1) := by decide +kernel
theorem d_mCode_70 : decode prog_6_method_10_code 70 = .ok (.iaload, 1) := by decide +kernel
theorem d_mCode_71 : decode prog_6_method_10_code 71 = .ok (.iconst 1, 1) := by decide +kernel
theorem d_mCode_72 : decode prog_6_method_10_code 72 = .ok (.iadd, 1) := by decide +kernel
theorem d_mCode_73 : decode prog_6_method_10_code 73 = .ok (.iastore, 1) := by decide +kernel
theorem d_mCode_74 : decode prog_6_method_10_code 74 = .ok (.aload_n 0, 1) := by decide +kernel
theorem d_mCode_75 : decode prog_6_method_10_code 75 = .ok (.getfield 23, 3) := by decide +kernel
theorem d_mCode_78 : decode prog_6_method_10_code 78 = .ok (.aload_n 0, 1) := by decide +kernel
theorem d_mCode_79 : decode prog_6_method_10_code 79 = .ok (.getfield 80, 3) := by decide +kernel
theorem d_mCode_82 : decode prog_6_method_10_code 82 = .ok (.iaload, 1) := by decide +kernel
theorem d_mCode_83 : decode prog_6_method_10_code 83 = .ok (.iconst 3, 1) := by decide +kernel
theorem d_mCode_84 : decode prog_6_method_10_code 84 = .ok (.if_icmp .ne 15, 3) := by decide +kernel
theorem d_mCode_87 : decode prog_6_method_10_code 87 = .ok (.aload_n 0, 1) := by decide +kernel
theorem d_mCode_88 : decode prog_6_method_10_code 88 = .ok (.getfield 20, 3) := by decide +kernel
theorem d_mCode_91 : decode prog_6_method_10_code 91 = .ok (.aload_n 0, 1) := by decide +kernel
theorem d_mCode_92 : decode prog_6_method_10_code 92 = .ok (.getfield 80, 3) := by decide +kernel
theorem d_mCode_95 : decode prog_6_method_10_code 95 = .ok (.iconst 1, 1) := by decide +kernel
theorem d_mCode_96 : decode prog_6_method_10_code 96 = .ok (.bastore, 1) := by decide +kernel
theorem d_mCode_97 : decode prog_6_method_10_code 97 = .ok (.iconst (-1), 1) := by decide +kernel
theorem d_mCode_98 : decode prog_6_method_10_code 98 = .ok (.ireturn, 1) := by decide +kernel
theorem d_mCode_99 : decode prog_6_method_10_code 99 = .ok (.iconst 0, 1) := by decide +kernel
theorem d_mCode_100 : decode prog_6_method_10_code 100 = .ok (.ireturn, 1) := by decide +kernel
theorem d_mCome_0 : decode prog_6_method_18_code 0 = .ok (.aload_n 0, 1) := by decide +kernel
theorem d_mCome_1 : decode prog_6_method_18_code 1 = .ok (.getfield 26, 3) := by decide +kernel
theorem d_mCome_4 : decode prog_6_method_18_code 4 = .ok (.iload_n 1, 1) := by decide +kernel
theorem d_mCome_5 : decode prog_6_method_18_code 5 = .ok (.iaload, 1) := by decide +kernel
theorem d_mCome_6 : decode prog_6_method_18_code 6 = .ok (.iconst (-1), 1) := by decide +kernel
theorem d_mCome_7 : decode prog_6_method_18_code 7 = .ok (.if_icmp .eq 7, 3) := by decide +kernel
theorem d_mCome_10 : decode prog_6_method_18_code 10 = .ok (.iconst 1, 1) := by decide +kernel
theorem d_mCome_11 : decode prog_6_method_18_code 11 = .ok (.goto 4, 3) := by decide +kernel
theorem d_mCome_14 : decode prog_6_method_18_code 14 = .ok (.iconst 0, 1) := by decide +kernel
theorem d_mCome_15 : decode prog_6_method_18_code 15 = .ok (.istore_n 2, 1) := by decide +kernel
theorem d_mCome_16 : decode prog_6_method_18_code 16 = .ok (.aload_n 0, 1) := by decide +kernel
theorem d_mCome_17 : decode prog_6_method_18_code 17 = .ok (.getfield 26, 3) := by decide +kernel
theorem d_mCome_20 : decode prog_6_method_18_code 20 = .ok (.iload_n 1, 1) := by decide +kernel
theorem d_mCome_21 : decode prog_6_method_18_code 21 = .ok (.iconst (-1), 1) := by decide +kernel
theorem d_mCome_22 : decode prog_6_method_18_code 22 = .ok (.iastore, 1) := by decide +kernel
theorem d_mCome_23 : decode prog_6_method_18_code 23 = .ok (.aload_n 0, 1) := by decide +kernel
theorem d_mCome_24 : decode prog_6_method_18_code 24 = .ok (.getfield 32, 3) := by decide +kernel
theorem d_mCome_27 : decode prog_6_method_18_code 27 = .ok (.iload_n 1, 1) := by decide +kernel
theorem d_mCome_28 : decode prog_6_method_18_code 28 = .ok (.iconst 0, 1) := by decide +kernel
theorem d_mCome_29 : decode prog_6_method_18_code 29 = .ok (.bastore, 1) := by decide +kernel
theorem d_mCome_30 : decode prog_6_method_18_code 30 = .ok (.iload_n 2, 1) := by decide +kernel
theorem d_mCome_31 : decode prog_6_method_18_code 31 = .ok (.ifCond .ne 7, 3) := by decide +kernel
theorem d_mCome_34 : decode prog_6_method_18_code 34 = .ok (.iconst 2, 1) := by decide +kernel
theorem d_mCome_35 : decode prog_6_method_18_code 35 = .ok (.goto 18, 3) := by decide +kernel
theorem d_mCome_38 : decode prog_6_method_18_code 38 = .ok (.aload_n 0, 1) := by decide +kernel
theorem d_mCome_39 : decode prog_6_method_18_code 39 = .ok (.getfield 29, 3) := by decide +kernel
theorem d_mCome_42 : decode prog_6_method_18_code 42 = .ok (.iload_n 1, 1) := by decide +kernel
theorem d_mCome_43 : decode prog_6_method_18_code 43 = .ok (.iaload, 1) := by decide +kernel
theorem d_mCome_44 : decode prog_6_method_18_code 44 = .ok (.iconst (-1), 1) := by decide +kernel
theorem d_mCome_45 : decode prog_6_method_18_code 45 = .ok (.if_icmp .eq 7, 3) := by decide +kernel
theorem d_mCome_48 : decode prog_6_method_18_code 48 = .ok (.iconst 1, 1) := by decide +kernel
theorem d_mCome_49 : decode prog_6_method_18_code 49 = .ok (.goto 4, 3) := by decide +kernel
theorem d_mCome_52 : decode prog_6_method_18_code 52 = .ok (.iconst 0, 1) := by decide +kernel
theorem d_mCome_53 : decode prog_6_method_18_code 53 = .ok (.ireturn, 1) := by decide +kernel
theorem d_mDoor_0 : decode prog_6_method_27_code 0 = .ok (.aload_n 0, 1) := by decide +kernel
theorem d_mDoor_1 : decode prog_6_method_27_code 1 = .ok (.iconst 0, 1) := by decide +kernel
theorem d_mDoor_2 : decode prog_6_method_27_code 2 = .ok (.putfield 60, 3) := by decide +kernel
theorem d_mDoor_5 : decode prog_6_method_27_code 5 = .ok (.iload_n 1, 1) := by decide +kernel
theorem d_mDoor_6 : decode prog_6_method_27_code 6 = .ok (.invokestatic 70, 3) := by decide +kernel
theorem d_mDoor_9 : decode prog_6_method_27_code 9 = .ok (.ifCond .eq 16, 3) := by decide +kernel
theorem d_mDoor_12 : decode prog_6_method_27_code 12 = .ok (.aload_n 0, 1) := by decide +kernel
theorem d_mDoor_13 : decode prog_6_method_27_code 13 = .ok (.getfield 32, 3) := by decide +kernel
theorem d_mDoor_16 : decode prog_6_method_27_code 16 = .ok (.iload_n 1, 1) := by decide +kernel
theorem d_mDoor_17 : decode prog_6_method_27_code 17 = .ok (.baload, 1) := by decide +kernel
theorem d_mDoor_18 : decode prog_6_method_27_code 18 = .ok (.ifCond .ne 7, 3) := by decide +kernel
theorem d_mDoor_21 : decode prog_6_method_27_code 21 = .ok (.iconst 1, 1) := by decide +kernel
theorem d_mDoor_22 : decode prog_6_method_27_code 22 = .ok (.goto 4, 3) := by decide +kernel
theorem d_mDoor_25 : decode prog_6_method_27_code 25 = .ok (.iconst 0, 1) := by decide +kernel
theorem d_mDoor_26 : decode prog_6_method_27_code 26 = .ok (.ireturn, 1) := by decide +kernel
theorem d_mDrop_0 : decode prog_6_method_20_code 0 = .ok (.aload_n 0, 1) := by decide +kernel
theorem d_mDrop_1 : decode prog_6_method_20_code 1 = .ok (.dup, 1) := by decide +kernel
theorem d_mDrop_2 : decode prog_6_method_20_code 2 = .ok (.getfield 97, 3) := by decide +kernel
theorem d_mDrop_5 : decode prog_6_method_20_code 5 = .ok (.iconst 1, 1) := by decide +kernel
theorem d_mDrop_6 : decode prog_6_method_20_code 6 = .ok (.isub, 1) := by decide +kernel
theorem d_mDrop_7 : decode prog_6_method_20_code 7 = .ok (.putfield 97, 3) := by decide +kernel
theorem d_mDrop_10 : decode prog_6_method_20_code 10 = .ok (.iload_n 1, 1) := by decide +kernel
theorem d_mDrop_11 : decode prog_6_method_20_code 11 = .ok (.istore_n 2, 1) := by decide +kernel
theorem d_mDrop_12 : decode prog_6_method_20_code 12 = .ok (.iload_n 2, 1) := by decide +kernel
theorem d_mDrop_13 : decode prog_6_method_20_code 13 = .ok (.aload_n 0, 1) := by decide +kernel
theorem d_mDrop_14 : decode prog_6_method_20_code 14 = .ok (.getfield 97, 3) := by decide +kernel
theorem d_mDrop_17 : decode prog_6_method_20_code 17 = .ok (.if_icmp .ge 37, 3) := by decide +kernel
theorem d_mDrop_20 : decode prog_6_method_20_code 20 = .ok (.aload_n 0, 1) := by decide +kernel
theorem d_mDrop_21 : decode prog_6_method_20_code 21 = .ok (.getfield 44, 3) := by decide +kernel
theorem d_mDrop_24 : decode prog_6_method_20_code 24 = .ok (.iload_n 2, 1) := by decide +kernel
theorem d_mDrop_25 : decode prog_6_method_20_code 25 = .ok (.aload_n 0, 1) := by decide +kernel
theorem d_mDrop_26 : decode prog_6_method_20_code 26 = .ok (.getfield 44, 3) := by decide +kernel
theorem d_mDrop_29 : decode prog_6_method_20_code 29 = .ok (.iload_n 2, 1) := by decide +kernel
theorem d_mDrop_30 : decode prog_6_method_20_code 30 = .ok (.iconst 1, 1) := by decide +kernel
theorem d_mDrop_31 : decode prog_6_method_20_code 31 = .ok (.iadd, 1) := by decide +kernel
theorem d_mDrop_32 : decode prog_6_method_20_code 32 = .ok (.iaload, 1) := by decide +kernel
theorem d_mDrop_33 : decode prog_6_method_20_code 33 = .ok (.iastore, 1) := by decide +kernel
theorem d_mDrop_34 : decode prog_6_method_20_code 34 = .ok (.aload_n 0, 1) := by decide +kernel
theorem d_mDrop_35 : decode prog_6_method_20_code 35 = .ok (.getfield 47, 3) := by decide +kernel
theorem d_mDrop_38 : decode prog_6_method_20_code 38 = .ok (.iload_n 2, 1) := by decide +kernel
theorem d_mDrop_39 : decode prog_6_method_20_code 39 = .ok (.aload_n 0, 1) := by decide +kernel
theorem d_mDrop_40 : decode prog_6_method_20_code 40 = .ok (.getfield 47, 3) := by decide +kernel
theorem d_mDrop_43 : decode prog_6_method_20_code 43 = .ok (.iload_n 2, 1) := by decide +kernel
theorem d_mDrop_44 : decode prog_6_method_20_code 44 = .ok (.iconst 1, 1) := by decide +kernel
theorem d_mDrop_45 : decode prog_6_method_20_code 45 = .ok (.iadd, 1) := by decide +kernel
theorem d_mDrop_46 : decode prog_6_method_20_code 46 = .ok (.iaload, 1) := by decide +kernel
theorem d_mDrop_47 : decode prog_6_method_20_code 47 = .ok (.iastore, 1) := by decide +kernel
theorem d_mDrop_48 : decode prog_6_method_20_code 48 = .ok (.iinc 2 1, 3) := by decide +kernel
theorem d_mDrop_51 : decode prog_6_method_20_code 51 = .ok (.goto (-39), 3) := by decide +kernel
theorem d_mDrop_54 : decode prog_6_method_20_code 54 = .ok (.return_, 1) := by decide +kernel
theorem d_mEnd_0 : decode prog_6_method_21_code 0 = .ok (.aload_n 0, 1) := by decide +kernel
theorem d_mEnd_1 : decode prog_6_method_21_code 1 = .ok (.iconst 0, 1) := by decide +kernel
theorem d_mEnd_2 : decode prog_6_method_21_code 2 = .ok (.putfield 60, 3) := by decide +kernel
theorem d_mEnd_5 : decode prog_6_method_21_code 5 = .ok (.aload_n 0, 1) := by decide +kernel
theorem d_mEnd_6 : decode prog_6_method_21_code 6 = .ok (.getfield 73, 3) := by decide +kernel
theorem d_mEnd_9 : decode prog_6_method_21_code 9 = .ok (.iconst 2, 1) := by decide +kernel
theorem d_mEnd_10 : decode prog_6_method_21_code 10 = .ok (.if_icmp .eq 5, 3) := by decide +kernel
theorem d_mEnd_13 : decode prog_6_method_21_code 13 = .ok (.iconst (-1), 1) := by decide +kernel
theorem d_mEnd_14 : decode prog_6_method_21_code 14 = .ok (.ireturn, 1) := by decide +kernel
theorem d_mEnd_15 : decode prog_6_method_21_code 15 = .ok (.aload_n 0, 1) := by decide +kernel
theorem d_mEnd_16 : decode prog_6_method_21_code 16 = .ok (.iconst 0, 1) := by decide +kernel
theorem d_mEnd_17 : decode prog_6_method_21_code 17 = .ok (.putfield 73, 3) := by decide +kernel
theorem d_mEnd_20 : decode prog_6_method_21_code 20 = .ok (.iload_n 1, 1) := by decide +kernel
theorem d_mEnd_21 : decode prog_6_method_21_code 21 = .ok (.ifCond .eq 81, 3) := by decide +kernel
theorem d_mEnd_24 : decode prog_6_method_21_code 24 = .ok (.aload_n 0, 1) := by decide +kernel
theorem d_mEnd_25 : decode prog_6_method_21_code 25 = .ok (.getfield 83, 3) := by decide +kernel
theorem d_mEnd_28 : decode prog_6_method_21_code 28 = .ok (.ifCond .le 74, 3) := by decide +kernel
theorem d_mEnd_31 : decode prog_6_method_21_code 31 = .ok (.aload_n 0, 1) := by decide +kernel
theorem d_mEnd_32 : decode prog_6_method_21_code 32 = .ok (.dup, 1) := by decide +kernel
theorem d_mEnd_33 : decode prog_6_method_21_code 33 = .ok (.getfield 83, 3) := by decide +kernel
theorem d_mEnd_36 : decode prog_6_method_21_code 36 = .ok (.iconst 1, 1) := by decide +kernel
theorem d_mEnd_37 : decode prog_6_method_21_code 37 = .ok (.isub, 1) := by decide +kernel
theorem d_mEnd_38 : decode prog_6_method_21_code 38 = .ok (.putfield 83, 3) := by decide +kernel
theorem d_mEnd_41 : decode prog_6_method_21_code 41 = .ok (.aload_n 0, 1) := by decide +kernel
theorem d_mEnd_42 : decode prog_6_method_21_code 42 = .ok (.getfield 41, 3) := by decide +kernel
theorem d_mEnd_45 : decode prog_6_method_21_code 45 = .ok (.aload_n 0, 1) := by decide +kernel
theorem d_mEnd_46 : decode prog_6_method_21_code 46 = .ok (.getfield 83, 3) := by decide +kernel
theorem d_mEnd_49 : decode prog_6_method_21_code 49 = .ok (.iaload, 1) := by decide +kernel
theorem d_mEnd_50 : decode prog_6_method_21_code 50 = .ok (.istore_n 2, 1) := by decide +kernel
theorem d_mEnd_51 : decode prog_6_method_21_code 51 = .ok (.aload_n 0, 1) := by decide +kernel
theorem d_mEnd_52 : decode prog_6_method_21_code 52 = .ok (.getfield 76, 3) := by decide +kernel
theorem d_mEnd_55 : decode prog_6_method_21_code 55 = .ok (.ifCond .eq 41, 3) := by decide +kernel
theorem d_mEnd_58 : decode prog_6_method_21_code 58 = .ok (.aload_n 0, 1) := by decide +kernel
theorem d_mEnd_59 : decode prog_6_method_21_code 59 = .ok (.getfield 97, 3) := by decide +kernel
theorem d_mEnd_62 : decode prog_6_method_21_code 62 = .ok (.iconst 1, 1) := by decide +kernel
theorem d_mEnd_63 : decode prog_6_method_21_code 63 = .ok (.isub, 1) := by decide +kernel
theorem d_mEnd_64 : decode prog_6_method_21_code 64 = .ok (.istore_n 3, 1) := by decide +kernel
theorem d_mEnd_65 : decode prog_6_method_21_code 65 = .ok (.aload_n 0, 1) := by decide +kernel
theorem d_mEnd_66 : decode prog_6_method_21_code 66 = .ok (.getfield 47, 3) := by decide +kernel
theorem d_mEnd_69 : decode prog_6_method_21_code 69 = .ok (.iload_n 3, 1) := by decide +kernel
theorem d_mEnd_70 : decode prog_6_method_21_code 70 = .ok (.iaload, 1) := by decide +kernel
theorem d_mEnd_71 : decode prog_6_method_21_code 71 = .ok (.iconst (-1), 1) := by decide +kernel
theorem d_mEnd_72 : decode prog_6_method_21_code 72 = .ok (.if_icmp .ne 9, 3) := by decide +kernel
theorem d_mEnd_75 : decode prog_6_method_21_code 75 = .ok (.iinc 3 (-1), 3) := by decide +kernel
theorem d_mEnd_78 : decode prog_6_method_21_code 78 = .ok (.goto (-13), 3) := by decide +kernel
theorem d_mEnd_81 : decode prog_6_method_21_code 81 = .ok (.aload_n 0, 1) := by decide +kernel
theorem d_mEnd_82 : decode prog_6_method_21_code 82 = .ok (.iload_n 3, 1) := by decide +kernel
theorem d_mEnd_83 : decode prog_6_method_21_code 83 = .ok (.invokevirtual 111, 3) := by decide +kernel
theorem d_mEnd_86 : decode prog_6_method_21_code 86 = .ok (.aload_n 0, 1) := by decide +kernel
theorem d_mEnd_87 : decode prog_6_method_21_code 87 = .ok (.getfield 32, 3) := by decide +kernel
theorem d_mEnd_90 : decode prog_6_method_21_code 90 = .ok (.iload_n 2, 1) := by decide +kernel
theorem d_mEnd_91 : decode prog_6_method_21_code 91 = .ok (.iconst 0, 1) := by decide +kernel
theorem d_mEnd_92 : decode prog_6_method_21_code 92 = .ok (.bastore, 1) := by decide +kernel
theorem d_mEnd_93 : decode prog_6_method_21_code 93 = .ok (.goto 9, 3) := by decide +kernel
theorem d_mEnd_96 : decode prog_6_method_21_code 96 = .ok (.aload_n 0, 1) := by decide +kernel
theorem d_mEnd_97 : decode prog_6_method_21_code 97 = .ok (.iload_n 2, 1) := by decide +kernel
theorem d_mEnd_98 : decode prog_6_method_21_code 98 = .ok (.invokevirtual 108, 3) := by decide +kernel
theorem d_mEnd_101 : decode prog_6_method_21_code 101 = .ok (.pop, 1) := by decide +kernel
theorem d_mEnd_102 : decode prog_6_method_21_code 102 = .ok (.aload_n 0, 1) := by decide +kernel
theorem d_mEnd_103 : decode prog_6_method_21_code 103 = .ok (.getfield 83, 3) := by decide +kernel
theorem d_mEnd_106 : decode prog_6_method_21_code 106 = .ok (.ireturn, 1) := by decide +kernel
theorem d_mGo_0 : decode prog_6_method_16_code 0 = .ok (.aload_n 0, 1) := by decide +kernel
theorem d_mGo_1 : decode prog_6_method_16_code 1 = .ok (.getfield 26, 3) := by decide +kernel
theorem d_mGo_4 : decode prog_6_method_16_code 4 = .ok (.iload_n 1, 1) := by decide +kernel
theorem d_mGo_5 : decode prog_6_method_16_code 5 = .ok (.iload_n 2, 1) := by decide +kernel
theorem d_mGo_6 : decode prog_6_method_16_code 6 = .ok (.iastore, 1) := by decide +kernel
theorem d_mGo_7 : decode prog_6_method_16_code 7 = .ok (.aload_n 0, 1) := by decide +kernel
theorem d_mGo_8 : decode prog_6_method_16_code 8 = .ok (.getfield 29, 3) := by decide +kernel
theorem d_mGo_11 : decode prog_6_method_16_code 11 = .ok (.iload_n 1, 1) := by decide +kernel
theorem d_mGo_12 : decode prog_6_method_16_code 12 = .ok (.iconst (-1), 1) := by decide +kernel
theorem d_mGo_13 : decode prog_6_method_16_code 13 = .ok (.iastore, 1) := by decide +kernel
theorem d_mGo_14 : decode prog_6_method_16_code 14 = .ok (.aload_n 0, 1) := by decide +kernel
theorem d_mGo_15 : decode prog_6_method_16_code 15 = .ok (.getfield 32, 3) := by decide +kernel
theorem d_mGo_18 : decode prog_6_method_16_code 18 = .ok (.iload_n 1, 1) := by decide +kernel
theorem d_mGo_19 : decode prog_6_method_16_code 19 = .ok (.iconst 1, 1) := by decide +kernel
theorem d_mGo_20 : decode prog_6_method_16_code 20 = .ok (.bastore, 1) := by decide +kernel
theorem d_mGo_21 : decode prog_6_method_16_code 21 = .ok (.aload_n 0, 1) := by decide +kernel
theorem d_mGo_22 : decode prog_6_method_16_code 22 = .ok (.iload_n 1, 1) := by decide +kernel
theorem d_mGo_23 : decode prog_6_method_16_code 23 = .ok (.invokevirtual 93, 3) := by decide +kernel
theorem d_mGo_26 : decode prog_6_method_16_code 26 = .ok (.return_, 1) := by decide +kernel
theorem d_mHas_0 : decode prog_6_method_13_code 0 = .ok (.iconst 0, 1) := by decide +kernel
theorem d_mHas_1 : decode prog_6_method_13_code 1 = .ok (.istore_n 2, 1) := by decide +kernel
theorem d_mHas_2 : decode prog_6_method_13_code 2 = .ok (.iconst 0, 1) := by decide +kernel
theorem d_mHas_3 : decode prog_6_method_13_code 3 = .ok (.istore_n 3, 1) := by decide +kernel
theorem d_mHas_4 : decode prog_6_method_13_code 4 = .ok (.iload_n 3, 1) := by decide +kernel
theorem d_mHas_5 : decode prog_6_method_13_code 5 = .ok (.bipush 60, 2) := by decide +kernel
theorem d_mHas_7 : decode prog_6_method_13_code 7 = .ok (.if_icmp .ge 27, 3) := by decide +kernel
theorem d_mHas_10 : decode prog_6_method_13_code 10 = .ok (.iload_n 2, 1) := by decide +kernel
theorem d_mHas_11 : decode prog_6_method_13_code 11 = .ok (.aload_n 0, 1) := by decide +kernel
theorem d_mHas_12 : decode prog_6_method_13_code 12 = .ok (.getfield 26, 3) := by decide +kernel
theorem d_mHas_15 : decode prog_6_method_13_code 15 = .ok (.iload_n 3, 1) := by decide +kernel
theorem d_mHas_16 : decode prog_6_method_13_code 16 = .ok (.iaload, 1) := by decide +kernel
theorem d_mHas_17 : decode prog_6_method_13_code 17 = .ok (.iload_n 1, 1) := by decide +kernel
theorem d_mHas_18 : decode prog_6_method_13_code 18 = .ok (.if_icmp .ne 7, 3) := by decide +kernel
theorem d_mHas_21 : decode prog_6_method_13_code 21 = .ok (.iconst 1, 1) := by decide +kernel
theorem d_mHas_22 : decode prog_6_method_13_code 22 = .ok (.goto 4, 3) := by decide +kernel
theorem d_mHas_25 : decode prog_6_method_13_code 25 = .ok (.iconst 0, 1) := by decide +kernel
theorem d_mHas_26 : decode prog_6_method_13_code 26 = .ok (.iadd, 1) := by decide +kernel
theorem d_mHas_27 : decode prog_6_method_13_code 27 = .ok (.istore_n 2, 1) := by decide +kernel
theorem d_mHas_28 : decode prog_6_method_13_code 28 = .ok (.iinc 3 1, 3) := by decide +kernel
theorem d_mHas_31 : decode prog_6_method_13_code 31 = .ok (.goto (-27), 3) := by decide +kernel
theorem d_mHas_34 : decode prog_6_method_13_code 34 = .ok (.iload_n 2, 1) := by decide +kernel
theorem d_mHas_35 : decode prog_6_method_13_code 35 = .ok (.ireturn, 1) := by decide +kernel
theorem d_mIsB_0 : decode prog_6_method_6_code 0 = .ok (.aload_n 0, 1) := by decide +kernel
theorem d_mIsB_1 : decode prog_6_method_6_code 1 = .ok (.getfield 16, 3) := by decide +kernel
theorem d_mIsB_4 : decode prog_6_method_6_code 4 = .ok (.iload_n 1, 1) := by decide +kernel
theorem d_mIsB_5 : decode prog_6_method_6_code 5 = .ok (.baload, 1) := by decide +kernel
theorem d_mIsB_6 : decode prog_6_method_6_code 6 = .ok (.ifCond .ne 12, 3) := by decide +kernel
theorem d_mIsB_9 : decode prog_6_method_6_code 9 = .ok (.aload_n 0, 1) := by decide +kernel
theorem d_mIsB_10 : decode prog_6_method_6_code 10 = .ok (.getfield 20, 3) := by decide +kernel
theorem d_mIsB_13 : decode prog_6_method_6_code 13 = .ok (.iload_n 1, 1) := by decide +kernel
theorem d_mIsB_14 : decode prog_6_method_6_code 14 = .ok (.baload, 1) := by decide +kernel
theorem d_mIsB_15 : decode prog_6_method_6_code 15 = .ok (.ifCond .eq 7, 3) := by decide +kernel
theorem d_mIsB_18 : decode prog_6_method_6_code 18 = .ok (.iconst 1, 1) := by decide +kernel
theorem d_mIsB_19 : decode prog_6_method_6_code 19 = .ok (.goto 4, 3) := by decide +kernel
theorem d_mIsB_22 : decode prog_6_method_6_code 22 = .ok (.iconst 0, 1) := by decide +kernel
theorem d_mIsB_23 : decode prog_6_method_6_code 23 = .ok (.ireturn, 1) := by decide +kernel
theorem d_mIsI_0 : decode prog_6_method_4_code 0 = .ok (.iload_n 0, 1) := by decide +kernel
theorem d_mIsI_1 : decode prog_6_method_4_code 1 = .ok (.ifCond .lt 13, 3) := by decide +kernel
theorem d_mIsI_4 : decode prog_6_method_4_code 4 = .ok (.iload_n 0, 1) := by decide +kernel
theorem d_mIsI_5 : decode prog_6_method_4_code 5 = .ok (.bipush 60, 2) := by decide +kernel
theorem d_mIsI_7 : decode prog_6_method_4_code 7 = .ok (.if_icmp .ge 7, 3) := by decide +kernel
theorem d_mIsI_10 : decode prog_6_method_4_code 10 = .ok (.iconst 1, 1) := by decide +kernel
theorem d_mIsI_11 : decode prog_6_method_4_code 11 = .ok (.goto 4, 3) := by decide +kernel
theorem d_mIsI_14 : decode prog_6_method_4_code 14 = .ok (.iconst 0, 1) := by decide +kernel
theorem d_mIsI_15 : decode prog_6_method_4_code 15 = .ok (.ireturn, 1) := by decide +kernel
theorem d_mIsP_0 : decode prog_6_method_3_code 0 = .ok (.iload_n 0, 1) := by decide +kernel
theorem d_mIsP_1 : decode prog_6_method_3_code 1 = .ok (.ifCond .lt 13, 3) := by decide +kernel
theorem d_mIsP_4 : decode prog_6_method_3_code 4 = .ok (.iload_n 0, 1) := by decide +kernel
theorem d_mIsP_5 : decode prog_6_method_3_code 5 = .ok (.bipush 40, 2) := by decide +kernel
