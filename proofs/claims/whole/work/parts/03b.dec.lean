theorem dX7_readFees_20 : decode cX7_readFees 20 = .ok (.invokevirtual 93, 3) := by decide +kernel
theorem dX7_readFees_23 : decode cX7_readFees 23 = .ok (.ifCond .ne 5, 3) := by decide +kernel
theorem dX7_readFees_26 : decode cX7_readFees 26 = .ok (.iconst 0, 1) := by decide +kernel
theorem dX7_readFees_27 : decode cX7_readFees 27 = .ok (.ireturn, 1) := by decide +kernel
theorem dX7_readFees_28 : decode cX7_readFees 28 = .ok (.aload_n 0, 1) := by decide +kernel
theorem dX7_readFees_29 : decode cX7_readFees 29 = .ok (.invokevirtual 22, 3) := by decide +kernel
theorem dX7_readFees_32 : decode cX7_readFees 32 = .ok (.iconst (-1), 1) := by decide +kernel
theorem dX7_readFees_33 : decode cX7_readFees 33 = .ok (.if_icmp .ne 5, 3) := by decide +kernel
theorem dX7_readFees_36 : decode cX7_readFees 36 = .ok (.iconst 1, 1) := by decide +kernel
theorem dX7_readFees_37 : decode cX7_readFees 37 = .ok (.ireturn, 1) := by decide +kernel
theorem dX7_readFees_38 : decode cX7_readFees 38 = .ok (.iload_n 2, 1) := by decide +kernel
theorem dX7_readFees_39 : decode cX7_readFees 39 = .ok (.bipush 6, 2) := by decide +kernel
theorem dX7_readFees_41 : decode cX7_readFees 41 = .ok (.if_icmp .eq 12, 3) := by decide +kernel
theorem dX7_readFees_44 : decode cX7_readFees 44 = .ok (.aload_n 0, 1) := by decide +kernel
theorem dX7_readFees_45 : decode cX7_readFees 45 = .ok (.bipush 59, 2) := by decide +kernel
theorem dX7_readFees_47 : decode cX7_readFees 47 = .ok (.invokevirtual 49, 3) := by decide +kernel
theorem dX7_readFees_50 : decode cX7_readFees 50 = .ok (.ifCond .ne 5, 3) := by decide +kernel
theorem dX7_readFees_53 : decode cX7_readFees 53 = .ok (.iconst 0, 1) := by decide +kernel
theorem dX7_readFees_54 : decode cX7_readFees 54 = .ok (.ireturn, 1) := by decide +kernel
theorem dX7_readFees_55 : decode cX7_readFees 55 = .ok (.iinc 2 1, 3) := by decide +kernel
theorem dX7_readFees_58 : decode cX7_readFees 58 = .ok (.goto (-46), 3) := by decide +kernel
theorem dX7_readFees_61 : decode cX7_readFees 61 = .ok (.iconst 0, 1) := by decide +kernel
theorem dX7_readFees_62 : decode cX7_readFees 62 = .ok (.ireturn, 1) := by decide +kernel
theorem dX7_readFee_0 : decode cX7_readFee 0 = .ok (.aload_n 0, 1) := by decide +kernel
theorem dX7_readFee_1 : decode cX7_readFee 1 = .ok (.bipush 112, 2) := by decide +kernel
theorem dX7_readFee_3 : decode cX7_readFee 3 = .ok (.invokevirtual 49, 3) := by decide +kernel
theorem dX7_readFee_6 : decode cX7_readFee 6 = .ok (.istore_n 2, 1) := by decide +kernel
theorem dX7_readFee_7 : decode cX7_readFee 7 = .ok (.iload_n 2, 1) := by decide +kernel
theorem dX7_readFee_8 : decode cX7_readFee 8 = .ok (.ifCond .ne 14, 3) := by decide +kernel
theorem dX7_readFee_11 : decode cX7_readFee 11 = .ok (.aload_n 0, 1) := by decide +kernel
theorem dX7_readFee_12 : decode cX7_readFee 12 = .ok (.bipush 98, 2) := by decide +kernel
theorem dX7_readFee_14 : decode cX7_readFee 14 = .ok (.invokevirtual 49, 3) := by decide +kernel
theorem dX7_readFee_17 : decode cX7_readFee 17 = .ok (.ifCond .ne 5, 3) := by decide +kernel
theorem dX7_readFee_20 : decode cX7_readFee 20 = .ok (.iconst 0, 1) := by decide +kernel
theorem dX7_readFee_21 : decode cX7_readFee 21 = .ok (.ireturn, 1) := by decide +kernel
theorem dX7_readFee_22 : decode cX7_readFee 22 = .ok (.aload_n 0, 1) := by decide +kernel
theorem dX7_readFee_23 : decode cX7_readFee 23 = .ok (.sipush 999, 3) := by decide +kernel
theorem dX7_readFee_26 : decode cX7_readFee 26 = .ok (.invokevirtual 59, 3) := by decide +kernel
theorem dX7_readFee_29 : decode cX7_readFee 29 = .ok (.istore_n 3, 1) := by decide +kernel
theorem dX7_readFee_30 : decode cX7_readFee 30 = .ok (.iload_n 3, 1) := by decide +kernel
theorem dX7_readFee_31 : decode cX7_readFee 31 = .ok (.ifCond .lt 12, 3) := by decide +kernel
theorem dX7_readFee_34 : decode cX7_readFee 34 = .ok (.aload_n 0, 1) := by decide +kernel
theorem dX7_readFee_35 : decode cX7_readFee 35 = .ok (.bipush 61, 2) := by decide +kernel
theorem dX7_readFee_37 : decode cX7_readFee 37 = .ok (.invokevirtual 49, 3) := by decide +kernel
theorem dX7_readFee_40 : decode cX7_readFee 40 = .ok (.ifCond .ne 5, 3) := by decide +kernel
theorem dX7_readFee_43 : decode cX7_readFee 43 = .ok (.iconst 0, 1) := by decide +kernel
theorem dX7_readFee_44 : decode cX7_readFee 44 = .ok (.ireturn, 1) := by decide +kernel
theorem dX7_readFee_45 : decode cX7_readFee 45 = .ok (.aload_n 0, 1) := by decide +kernel
theorem dX7_readFee_46 : decode cX7_readFee 46 = .ok (.iload_n 2, 1) := by decide +kernel
theorem dX7_readFee_47 : decode cX7_readFee 47 = .ok (.ifCond .eq 8, 3) := by decide +kernel
theorem dX7_readFee_50 : decode cX7_readFee 50 = .ok (.ldc 97, 2) := by decide +kernel
theorem dX7_readFee_52 : decode cX7_readFee 52 = .ok (.goto 5, 3) := by decide +kernel
theorem dX7_readFee_55 : decode cX7_readFee 55 = .ok (.bipush 100, 2) := by decide +kernel
theorem dX7_readFee_57 : decode cX7_readFee 57 = .ok (.invokevirtual 59, 3) := by decide +kernel
theorem dX7_readFee_60 : decode cX7_readFee 60 = .ok (.istore 4, 2) := by decide +kernel
theorem dX7_readFee_62 : decode cX7_readFee 62 = .ok (.iload 4, 2) := by decide +kernel
theorem dX7_readFee_64 : decode cX7_readFee 64 = .ok (.ifCond .ge 5, 3) := by decide +kernel
theorem dX7_readFee_67 : decode cX7_readFee 67 = .ok (.iconst 0, 1) := by decide +kernel
theorem dX7_readFee_68 : decode cX7_readFee 68 = .ok (.ireturn, 1) := by decide +kernel
theorem dX7_readFee_69 : decode cX7_readFee 69 = .ok (.aload_n 1, 1) := by decide +kernel
theorem dX7_readFee_70 : decode cX7_readFee 70 = .ok (.iload_n 2, 1) := by decide +kernel
theorem dX7_readFee_71 : decode cX7_readFee 71 = .ok (.iload_n 3, 1) := by decide +kernel
theorem dX7_readFee_72 : decode cX7_readFee 72 = .ok (.iload 4, 2) := by decide +kernel
theorem dX7_readFee_74 : decode cX7_readFee 74 = .ok (.invokevirtual 98, 3) := by decide +kernel
theorem dX7_readFee_77 : decode cX7_readFee 77 = .ok (.iconst 1, 1) := by decide +kernel
theorem dX7_readFee_78 : decode cX7_readFee 78 = .ok (.ireturn, 1) := by decide +kernel
theorem dX8_init_0 : decode cX8_init 0 = .ok (.aload_n 0, 1) := by decide +kernel
theorem dX8_init_1 : decode cX8_init 1 = .ok (.invokespecial 3, 3) := by decide +kernel
theorem dX8_init_4 : decode cX8_init 4 = .ok (.aload_n 0, 1) := by decide +kernel
theorem dX8_init_5 : decode cX8_init 5 = .ok (.bipush 20, 2) := by decide +kernel
theorem dX8_init_7 : decode cX8_init 7 = .ok (.newarray .byte, 2) := by decide +kernel
theorem dX8_init_9 : decode cX8_init 9 = .ok (.putfield 9, 3) := by decide +kernel
theorem dX8_init_12 : decode cX8_init 12 = .ok (.aload_n 0, 1) := by decide +kernel
theorem dX8_init_13 : decode cX8_init 13 = .ok (.iconst 0, 1) := by decide +kernel
theorem dX8_init_14 : decode cX8_init 14 = .ok (.putfield 15, 3) := by decide +kernel
theorem dX8_init_17 : decode cX8_init 17 = .ok (.aload_n 0, 1) := by decide +kernel
theorem dX8_init_18 : decode cX8_init 18 = .ok (.iconst 0, 1) := by decide +kernel
theorem dX8_init_19 : decode cX8_init 19 = .ok (.putfield 19, 3) := by decide +kernel
theorem dX8_init_22 : decode cX8_init 22 = .ok (.aload_n 0, 1) := by decide +kernel
theorem dX8_init_23 : decode cX8_init 23 = .ok (.bipush (-4), 2) := by decide +kernel
theorem dX8_init_25 : decode cX8_init 25 = .ok (.putfield 22, 3) := by decide +kernel
theorem dX8_init_28 : decode cX8_init 28 = .ok (.aload_n 0, 1) := by decide +kernel
theorem dX8_init_29 : decode cX8_init 29 = .ok (.bipush (-4), 2) := by decide +kernel
theorem dX8_init_31 : decode cX8_init 31 = .ok (.putfield 25, 3) := by decide +kernel
theorem dX8_init_34 : decode cX8_init 34 = .ok (.aload_n 0, 1) := by decide +kernel
theorem dX8_init_35 : decode cX8_init 35 = .ok (.iconst 0, 1) := by decide +kernel
theorem dX8_init_36 : decode cX8_init 36 = .ok (.putfield 28, 3) := by decide +kernel
theorem dX8_init_39 : decode cX8_init 39 = .ok (.aload_n 0, 1) := by decide +kernel
theorem dX8_init_40 : decode cX8_init 40 = .ok (.iconst 0, 1) := by decide +kernel
theorem dX8_init_41 : decode cX8_init 41 = .ok (.putfield 31, 3) := by decide +kernel
theorem dX8_init_44 : decode cX8_init 44 = .ok (.aload_n 0, 1) := by decide +kernel
theorem dX8_init_45 : decode cX8_init 45 = .ok (.iconst 0, 1) := by decide +kernel
theorem dX8_init_46 : decode cX8_init 46 = .ok (.putfield 34, 3) := by decide +kernel
theorem dX8_init_49 : decode cX8_init 49 = .ok (.aload_n 0, 1) := by decide +kernel
theorem dX8_init_50 : decode cX8_init 50 = .ok (.iconst 0, 1) := by decide +kernel
theorem dX8_init_51 : decode cX8_init 51 = .ok (.putfield 37, 3) := by decide +kernel
theorem dX8_init_54 : decode cX8_init 54 = .ok (.aload_n 0, 1) := by decide +kernel
theorem dX8_init_55 : decode cX8_init 55 = .ok (.bipush (-4), 2) := by decide +kernel
theorem dX8_init_57 : decode cX8_init 57 = .ok (.putfield 40, 3) := by decide +kernel
theorem dX8_init_60 : decode cX8_init 60 = .ok (.aload_n 0, 1) := by decide +kernel
theorem dX8_init_61 : decode cX8_init 61 = .ok (.bipush (-4), 2) := by decide +kernel
theorem dX8_init_63 : decode cX8_init 63 = .ok (.putfield 43, 3) := by decide +kernel
theorem dX8_init_66 : decode cX8_init 66 = .ok (.aload_n 0, 1) := by decide +kernel
theorem dX8_init_67 : decode cX8_init 67 = .ok (.iload_n 1, 1) := by decide +kernel
theorem dX8_init_68 : decode cX8_init 68 = .ok (.putfield 46, 3) := by decide +kernel
theorem dX8_init_71 : decode cX8_init 71 = .ok (.aload_n 0, 1) := by decide +kernel
theorem dX8_init_72 : decode cX8_init 72 = .ok (.iload_n 2, 1) := by decide +kernel
theorem dX8_init_73 : decode cX8_init 73 = .ok (.putfield 49, 3) := by decide +kernel
theorem dX8_init_76 : decode cX8_init 76 = .ok (.aload_n 0, 1) := by decide +kernel
theorem dX8_init_77 : decode cX8_init 77 = .ok (.iload_n 3, 1) := by decide +kernel
theorem dX8_init_78 : decode cX8_init 78 = .ok (.putfield 52, 3) := by decide +kernel
theorem dX8_init_81 : decode cX8_init 81 = .ok (.aload_n 0, 1) := by decide +kernel
theorem dX8_init_82 : decode cX8_init 82 = .ok (.iload 4, 2) := by decide +kernel
theorem dX8_init_84 : decode cX8_init 84 = .ok (.putfield 55, 3) := by decide +kernel
theorem dX8_init_87 : decode cX8_init 87 = .ok (.return_, 1) := by decide +kernel
theorem dX8_isAnswer_0 : decode cX8_isAnswer 0 = .ok (.aload_n 0, 1) := by decide +kernel
theorem dX8_isAnswer_1 : decode cX8_isAnswer 1 = .ok (.getfield 15, 3) := by decide +kernel
theorem dX8_isAnswer_4 : decode cX8_isAnswer 4 = .ok (.iconst 1, 1) := by decide +kernel
theorem dX8_isAnswer_5 : decode cX8_isAnswer 5 = .ok (.if_icmp .eq 19, 3) := by decide +kernel
theorem dX8_isAnswer_8 : decode cX8_isAnswer 8 = .ok (.aload_n 0, 1) := by decide +kernel
theorem dX8_isAnswer_9 : decode cX8_isAnswer 9 = .ok (.getfield 15, 3) := by decide +kernel
theorem dX8_isAnswer_12 : decode cX8_isAnswer 12 = .ok (.iconst 2, 1) := by decide +kernel
theorem dX8_isAnswer_13 : decode cX8_isAnswer 13 = .ok (.if_icmp .eq 11, 3) := by decide +kernel
theorem dX8_isAnswer_16 : decode cX8_isAnswer 16 = .ok (.aload_n 0, 1) := by decide +kernel
theorem dX8_isAnswer_17 : decode cX8_isAnswer 17 = .ok (.getfield 15, 3) := by decide +kernel
theorem dX8_isAnswer_20 : decode cX8_isAnswer 20 = .ok (.iconst 3, 1) := by decide +kernel
theorem dX8_isAnswer_21 : decode cX8_isAnswer 21 = .ok (.if_icmp .ne 7, 3) := by decide +kernel
theorem dX8_isAnswer_24 : decode cX8_isAnswer 24 = .ok (.iconst 1, 1) := by decide +kernel
theorem dX8_isAnswer_25 : decode cX8_isAnswer 25 = .ok (.goto 4, 3) := by decide +kernel
theorem dX8_isAnswer_28 : decode cX8_isAnswer 28 = .ok (.iconst 0, 1) := by decide +kernel
theorem dX8_isAnswer_29 : decode cX8_isAnswer 29 = .ok (.ireturn, 1) := by decide +kernel
theorem dX8_isOpenBy_0 : decode cX8_isOpenBy 0 = .ok (.aload_n 0, 1) := by decide +kernel
theorem dX8_isOpenBy_1 : decode cX8_isOpenBy 1 = .ok (.getfield 15, 3) := by decide +kernel
theorem dX8_isOpenBy_4 : decode cX8_isOpenBy 4 = .ok (.iconst 1, 1) := by decide +kernel
theorem dX8_isOpenBy_5 : decode cX8_isOpenBy 5 = .ok (.if_icmp .ne 24, 3) := by decide +kernel
theorem dX8_isOpenBy_8 : decode cX8_isOpenBy 8 = .ok (.aload_n 0, 1) := by decide +kernel
theorem dX8_isOpenBy_9 : decode cX8_isOpenBy 9 = .ok (.getfield 25, 3) := by decide +kernel
theorem dX8_isOpenBy_12 : decode cX8_isOpenBy 12 = .ok (.bipush (-4), 2) := by decide +kernel
theorem dX8_isOpenBy_14 : decode cX8_isOpenBy 14 = .ok (.if_icmp .ne 15, 3) := by decide +kernel
theorem dX8_isOpenBy_17 : decode cX8_isOpenBy 17 = .ok (.aload_n 0, 1) := by decide +kernel
theorem dX8_isOpenBy_18 : decode cX8_isOpenBy 18 = .ok (.getfield 22, 3) := by decide +kernel
theorem dX8_isOpenBy_21 : decode cX8_isOpenBy 21 = .ok (.iload_n 1, 1) := by decide +kernel
theorem dX8_isOpenBy_22 : decode cX8_isOpenBy 22 = .ok (.if_icmp .gt 7, 3) := by decide +kernel
theorem dX8_isOpenBy_25 : decode cX8_isOpenBy 25 = .ok (.iconst 1, 1) := by decide +kernel
theorem dX8_isOpenBy_26 : decode cX8_isOpenBy 26 = .ok (.goto 4, 3) := by decide +kernel
theorem dX8_isOpenBy_29 : decode cX8_isOpenBy 29 = .ok (.iconst 0, 1) := by decide +kernel
theorem dX8_isOpenBy_30 : decode cX8_isOpenBy 30 = .ok (.ireturn, 1) := by decide +kernel
theorem dX8_isGivenBy_0 : decode cX8_isGivenBy 0 = .ok (.aload_n 0, 1) := by decide +kernel
theorem dX8_isGivenBy_1 : decode cX8_isGivenBy 1 = .ok (.getfield 15, 3) := by decide +kernel
theorem dX8_isGivenBy_4 : decode cX8_isGivenBy 4 = .ok (.iconst 1, 1) := by decide +kernel
theorem dX8_isGivenBy_5 : decode cX8_isGivenBy 5 = .ok (.if_icmp .ne 24, 3) := by decide +kernel
theorem dX8_isGivenBy_8 : decode cX8_isGivenBy 8 = .ok (.aload_n 0, 1) := by decide +kernel
theorem dX8_isGivenBy_9 : decode cX8_isGivenBy 9 = .ok (.getfield 25, 3) := by decide +kernel
theorem dX8_isGivenBy_12 : decode cX8_isGivenBy 12 = .ok (.bipush (-4), 2) := by decide +kernel
theorem dX8_isGivenBy_14 : decode cX8_isGivenBy 14 = .ok (.if_icmp .eq 15, 3) := by decide +kernel
theorem dX8_isGivenBy_17 : decode cX8_isGivenBy 17 = .ok (.aload_n 0, 1) := by decide +kernel
theorem dX8_isGivenBy_18 : decode cX8_isGivenBy 18 = .ok (.getfield 28, 3) := by decide +kernel
theorem dX8_isGivenBy_21 : decode cX8_isGivenBy 21 = .ok (.iload_n 1, 1) := by decide +kernel
theorem dX8_isGivenBy_22 : decode cX8_isGivenBy 22 = .ok (.if_icmp .gt 7, 3) := by decide +kernel
theorem dX8_isGivenBy_25 : decode cX8_isGivenBy 25 = .ok (.iconst 1, 1) := by decide +kernel
theorem dX8_isGivenBy_26 : decode cX8_isGivenBy 26 = .ok (.goto 4, 3) := by decide +kernel
theorem dX8_isGivenBy_29 : decode cX8_isGivenBy 29 = .ok (.iconst 0, 1) := by decide +kernel
theorem dX8_isGivenBy_30 : decode cX8_isGivenBy 30 = .ok (.ireturn, 1) := by decide +kernel
theorem dX8_isMarkedByBoth_0 : decode cX8_isMarkedByBoth 0 = .ok (.aload_n 0, 1) := by decide +kernel
theorem dX8_isMarkedByBoth_1 : decode cX8_isMarkedByBoth 1 = .ok (.getfield 15, 3) := by decide +kernel
theorem dX8_isMarkedByBoth_4 : decode cX8_isMarkedByBoth 4 = .ok (.iconst 2, 1) := by decide +kernel
theorem dX8_isMarkedByBoth_5 : decode cX8_isMarkedByBoth 5 = .ok (.if_icmp .ne 39, 3) := by decide +kernel
theorem dX8_isMarkedByBoth_8 : decode cX8_isMarkedByBoth 8 = .ok (.aload_n 0, 1) := by decide +kernel
theorem dX8_isMarkedByBoth_9 : decode cX8_isMarkedByBoth 9 = .ok (.getfield 25, 3) := by decide +kernel
theorem dX8_isMarkedByBoth_12 : decode cX8_isMarkedByBoth 12 = .ok (.iload_n 1, 1) := by decide +kernel
theorem dX8_isMarkedByBoth_13 : decode cX8_isMarkedByBoth 13 = .ok (.if_icmp .ne 11, 3) := by decide +kernel
theorem dX8_isMarkedByBoth_16 : decode cX8_isMarkedByBoth 16 = .ok (.aload_n 0, 1) := by decide +kernel
theorem dX8_isMarkedByBoth_17 : decode cX8_isMarkedByBoth 17 = .ok (.getfield 40, 3) := by decide +kernel
theorem dX8_isMarkedByBoth_20 : decode cX8_isMarkedByBoth 20 = .ok (.iload_n 2, 1) := by decide +kernel
theorem dX8_isMarkedByBoth_21 : decode cX8_isMarkedByBoth 21 = .ok (.if_icmp .eq 19, 3) := by decide +kernel
theorem dX8_isMarkedByBoth_24 : decode cX8_isMarkedByBoth 24 = .ok (.aload_n 0, 1) := by decide +kernel
theorem dX8_isMarkedByBoth_25 : decode cX8_isMarkedByBoth 25 = .ok (.getfield 25, 3) := by decide +kernel
theorem dX8_isMarkedByBoth_28 : decode cX8_isMarkedByBoth 28 = .ok (.iload_n 2, 1) := by decide +kernel
theorem dX8_isMarkedByBoth_29 : decode cX8_isMarkedByBoth 29 = .ok (.if_icmp .ne 15, 3) := by decide +kernel
theorem dX8_isMarkedByBoth_32 : decode cX8_isMarkedByBoth 32 = .ok (.aload_n 0, 1) := by decide +kernel
theorem dX8_isMarkedByBoth_33 : decode cX8_isMarkedByBoth 33 = .ok (.getfield 40, 3) := by decide +kernel
theorem dX8_isMarkedByBoth_36 : decode cX8_isMarkedByBoth 36 = .ok (.iload_n 1, 1) := by decide +kernel
theorem dX8_isMarkedByBoth_37 : decode cX8_isMarkedByBoth 37 = .ok (.if_icmp .ne 7, 3) := by decide +kernel
theorem dX8_isMarkedByBoth_40 : decode cX8_isMarkedByBoth 40 = .ok (.iconst 1, 1) := by decide +kernel
theorem dX8_isMarkedByBoth_41 : decode cX8_isMarkedByBoth 41 = .ok (.goto 4, 3) := by decide +kernel
theorem dX8_isMarkedByBoth_44 : decode cX8_isMarkedByBoth 44 = .ok (.iconst 0, 1) := by decide +kernel
theorem dX8_isMarkedByBoth_45 : decode cX8_isMarkedByBoth 45 = .ok (.ireturn, 1) := by decide +kernel
theorem dX9_init_0 : decode cX9_init 0 = .ok (.aload_n 0, 1) := by decide +kernel
theorem dX9_init_1 : decode cX9_init 1 = .ok (.invokespecial 1, 3) := by decide +kernel
theorem dX9_init_4 : decode cX9_init 4 = .ok (.aload_n 0, 1) := by decide +kernel
theorem dX9_init_5 : decode cX9_init 5 = .ok (.iconst 0, 1) := by decide +kernel
theorem dX9_init_6 : decode cX9_init 6 = .ok (.putfield 7, 3) := by decide +kernel
theorem dX9_init_9 : decode cX9_init 9 = .ok (.aload_n 0, 1) := by decide +kernel
theorem dX9_init_10 : decode cX9_init 10 = .ok (.iconst 0, 1) := by decide +kernel
theorem dX9_init_11 : decode cX9_init 11 = .ok (.putfield 13, 3) := by decide +kernel
theorem dX9_init_14 : decode cX9_init 14 = .ok (.aload_n 0, 1) := by decide +kernel
theorem dX9_init_15 : decode cX9_init 15 = .ok (.iload_n 1, 1) := by decide +kernel
theorem dX9_init_16 : decode cX9_init 16 = .ok (.putfield 16, 3) := by decide +kernel
theorem dX9_init_19 : decode cX9_init 19 = .ok (.aload_n 0, 1) := by decide +kernel
theorem dX9_init_20 : decode cX9_init 20 = .ok (.iload_n 2, 1) := by decide +kernel
theorem dX9_init_21 : decode cX9_init 21 = .ok (.putfield 19, 3) := by decide +kernel
theorem dX9_init_24 : decode cX9_init 24 = .ok (.return_, 1) := by decide +kernel
theorem dX9_mayMark_0 : decode cX9_mayMark 0 = .ok (.aload_n 0, 1) := by decide +kernel
theorem dX9_mayMark_1 : decode cX9_mayMark 1 = .ok (.getfield 16, 3) := by decide +kernel
theorem dX9_mayMark_4 : decode cX9_mayMark 4 = .ok (.aload_n 1, 1) := by decide +kernel
theorem dX9_mayMark_5 : decode cX9_mayMark 5 = .ok (.getfield 22, 3) := by decide +kernel
theorem dX9_mayMark_8 : decode cX9_mayMark 8 = .ok (.bipush 10, 2) := by decide +kernel
theorem dX9_mayMark_10 : decode cX9_mayMark 10 = .ok (.idiv, 1) := by decide +kernel
theorem dX9_mayMark_11 : decode cX9_mayMark 11 = .ok (.ishr, 1) := by decide +kernel
theorem dX9_mayMark_12 : decode cX9_mayMark 12 = .ok (.iconst 1, 1) := by decide +kernel
theorem dX9_mayMark_13 : decode cX9_mayMark 13 = .ok (.iand, 1) := by decide +kernel
theorem dX9_mayMark_14 : decode cX9_mayMark 14 = .ok (.iconst 1, 1) := by decide +kernel
theorem dX9_mayMark_15 : decode cX9_mayMark 15 = .ok (.if_icmp .ne 21, 3) := by decide +kernel
theorem dX9_mayMark_18 : decode cX9_mayMark 18 = .ok (.aload_n 0, 1) := by decide +kernel
theorem dX9_mayMark_19 : decode cX9_mayMark 19 = .ok (.getfield 7, 3) := by decide +kernel
theorem dX9_mayMark_22 : decode cX9_mayMark 22 = .ok (.aload_n 1, 1) := by decide +kernel
theorem dX9_mayMark_23 : decode cX9_mayMark 23 = .ok (.getfield 27, 3) := by decide +kernel
theorem dX9_mayMark_26 : decode cX9_mayMark 26 = .ok (.ishr, 1) := by decide +kernel
theorem dX9_mayMark_27 : decode cX9_mayMark 27 = .ok (.iconst 1, 1) := by decide +kernel
theorem dX9_mayMark_28 : decode cX9_mayMark 28 = .ok (.iand, 1) := by decide +kernel
theorem dX9_mayMark_29 : decode cX9_mayMark 29 = .ok (.ifCond .ne 7, 3) := by decide +kernel
theorem dX9_mayMark_32 : decode cX9_mayMark 32 = .ok (.iconst 1, 1) := by decide +kernel
theorem dX9_mayMark_33 : decode cX9_mayMark 33 = .ok (.goto 4, 3) := by decide +kernel
theorem dX9_mayMark_36 : decode cX9_mayMark 36 = .ok (.iconst 0, 1) := by decide +kernel
theorem dX9_mayMark_37 : decode cX9_mayMark 37 = .ok (.ireturn, 1) := by decide +kernel
theorem dX10_init_0 : decode cX10_init 0 = .ok (.aload_n 0, 1) := by decide +kernel
theorem dX10_init_1 : decode cX10_init 1 = .ok (.invokespecial 3, 3) := by decide +kernel
theorem dX10_init_4 : decode cX10_init 4 = .ok (.aload_n 0, 1) := by decide +kernel
theorem dX10_init_5 : decode cX10_init 5 = .ok (.sipush 256, 3) := by decide +kernel
theorem dX10_init_8 : decode cX10_init 8 = .ok (.newarray .int, 2) := by decide +kernel
theorem dX10_init_10 : decode cX10_init 10 = .ok (.putfield 11, 3) := by decide +kernel
theorem dX10_init_13 : decode cX10_init 13 = .ok (.aload_n 0, 1) := by decide +kernel
theorem dX10_init_14 : decode cX10_init 14 = .ok (.sipush 256, 3) := by decide +kernel
theorem dX10_init_17 : decode cX10_init 17 = .ok (.newarray .int, 2) := by decide +kernel
theorem dX10_init_19 : decode cX10_init 19 = .ok (.putfield 15, 3) := by decide +kernel
theorem dX10_init_22 : decode cX10_init 22 = .ok (.aload_n 0, 1) := by decide +kernel
theorem dX10_init_23 : decode cX10_init 23 = .ok (.bipush 8, 2) := by decide +kernel
theorem dX10_init_25 : decode cX10_init 25 = .ok (.newarray .int, 2) := by decide +kernel
theorem dX10_init_27 : decode cX10_init 27 = .ok (.putfield 18, 3) := by decide +kernel
theorem dX10_init_30 : decode cX10_init 30 = .ok (.return_, 1) := by decide +kernel
theorem dX10_shortest_0 : decode cX10_shortest 0 = .ok (.aload_n 0, 1) := by decide +kernel
theorem dX10_shortest_1 : decode cX10_shortest 1 = .ok (.getfield 11, 3) := by decide +kernel
theorem dX10_shortest_4 : decode cX10_shortest 4 = .ok (.bipush (-4), 2) := by decide +kernel
theorem dX10_shortest_6 : decode cX10_shortest 6 = .ok (.invokestatic 21, 3) := by decide +kernel
theorem dX10_shortest_9 : decode cX10_shortest 9 = .ok (.aload_n 0, 1) := by decide +kernel
theorem dX10_shortest_10 : decode cX10_shortest 10 = .ok (.getfield 11, 3) := by decide +kernel
theorem dX10_shortest_13 : decode cX10_shortest 13 = .ok (.iconst 0, 1) := by decide +kernel
theorem dX10_shortest_14 : decode cX10_shortest 14 = .ok (.iconst 0, 1) := by decide +kernel
theorem dX10_shortest_15 : decode cX10_shortest 15 = .ok (.iastore, 1) := by decide +kernel
theorem dX10_shortest_16 : decode cX10_shortest 16 = .ok (.aload_n 0, 1) := by decide +kernel
theorem dX10_shortest_17 : decode cX10_shortest 17 = .ok (.getfield 15, 3) := by decide +kernel
theorem dX10_shortest_20 : decode cX10_shortest 20 = .ok (.iconst 0, 1) := by decide +kernel
theorem dX10_shortest_21 : decode cX10_shortest 21 = .ok (.iconst 0, 1) := by decide +kernel
theorem dX10_shortest_22 : decode cX10_shortest 22 = .ok (.iastore, 1) := by decide +kernel
theorem dX10_shortest_23 : decode cX10_shortest 23 = .ok (.iconst 1, 1) := by decide +kernel
theorem dX10_shortest_24 : decode cX10_shortest 24 = .ok (.istore 4, 2) := by decide +kernel
theorem dX10_shortest_26 : decode cX10_shortest 26 = .ok (.iconst 0, 1) := by decide +kernel
theorem dX10_shortest_27 : decode cX10_shortest 27 = .ok (.istore 5, 2) := by decide +kernel
theorem dX10_shortest_29 : decode cX10_shortest 29 = .ok (.iload 5, 2) := by decide +kernel
theorem dX10_shortest_31 : decode cX10_shortest 31 = .ok (.iload 4, 2) := by decide +kernel
theorem dX10_shortest_33 : decode cX10_shortest 33 = .ok (.if_icmp .ge 68, 3) := by decide +kernel
theorem dX10_shortest_36 : decode cX10_shortest 36 = .ok (.iload 5, 2) := by decide +kernel
theorem dX10_shortest_38 : decode cX10_shortest 38 = .ok (.sipush 256, 3) := by decide +kernel
theorem dX10_shortest_41 : decode cX10_shortest 41 = .ok (.if_icmp .ge 60, 3) := by decide +kernel
theorem dX10_shortest_44 : decode cX10_shortest 44 = .ok (.aload_n 0, 1) := by decide +kernel
theorem dX10_shortest_45 : decode cX10_shortest 45 = .ok (.getfield 15, 3) := by decide +kernel
theorem dX10_shortest_48 : decode cX10_shortest 48 = .ok (.iload 5, 2) := by decide +kernel
theorem dX10_shortest_50 : decode cX10_shortest 50 = .ok (.iaload, 1) := by decide +kernel
theorem dX10_shortest_51 : decode cX10_shortest 51 = .ok (.istore 6, 2) := by decide +kernel
theorem dX10_shortest_53 : decode cX10_shortest 53 = .ok (.aload_n 0, 1) := by decide +kernel
theorem dX10_shortest_54 : decode cX10_shortest 54 = .ok (.aload_n 2, 1) := by decide +kernel
theorem dX10_shortest_55 : decode cX10_shortest 55 = .ok (.iload 6, 2) := by decide +kernel
theorem dX10_shortest_57 : decode cX10_shortest 57 = .ok (.invokevirtual 27, 3) := by decide +kernel
theorem dX10_shortest_60 : decode cX10_shortest 60 = .ok (.aload_n 1, 1) := by decide +kernel
theorem dX10_shortest_61 : decode cX10_shortest 61 = .ok (.aload_n 0, 1) := by decide +kernel
theorem dX10_shortest_62 : decode cX10_shortest 62 = .ok (.getfield 18, 3) := by decide +kernel
theorem dX10_shortest_65 : decode cX10_shortest 65 = .ok (.invokevirtual 30, 3) := by decide +kernel
theorem dX10_shortest_68 : decode cX10_shortest 68 = .ok (.iload_n 3, 1) := by decide +kernel
theorem dX10_shortest_69 : decode cX10_shortest 69 = .ok (.ishr, 1) := by decide +kernel
theorem dX10_shortest_70 : decode cX10_shortest 70 = .ok (.iconst 1, 1) := by decide +kernel
theorem dX10_shortest_71 : decode cX10_shortest 71 = .ok (.iand, 1) := by decide +kernel
theorem dX10_shortest_72 : decode cX10_shortest 72 = .ok (.iconst 1, 1) := by decide +kernel
theorem dX10_shortest_73 : decode cX10_shortest 73 = .ok (.if_icmp .ne 11, 3) := by decide +kernel
theorem dX10_shortest_76 : decode cX10_shortest 76 = .ok (.aload_n 0, 1) := by decide +kernel
theorem dX10_shortest_77 : decode cX10_shortest 77 = .ok (.getfield 11, 3) := by decide +kernel
theorem dX10_shortest_80 : decode cX10_shortest 80 = .ok (.iload 6, 2) := by decide +kernel
theorem dX10_shortest_82 : decode cX10_shortest 82 = .ok (.iaload, 1) := by decide +kernel
theorem dX10_shortest_83 : decode cX10_shortest 83 = .ok (.ireturn, 1) := by decide +kernel
theorem dX10_shortest_84 : decode cX10_shortest 84 = .ok (.aload_n 0, 1) := by decide +kernel
theorem dX10_shortest_85 : decode cX10_shortest 85 = .ok (.aload_n 1, 1) := by decide +kernel
theorem dX10_shortest_86 : decode cX10_shortest 86 = .ok (.iload 6, 2) := by decide +kernel
theorem dX10_shortest_88 : decode cX10_shortest 88 = .ok (.iload 4, 2) := by decide +kernel
theorem dX10_shortest_90 : decode cX10_shortest 90 = .ok (.invokevirtual 36, 3) := by decide +kernel
theorem dX10_shortest_93 : decode cX10_shortest 93 = .ok (.istore 4, 2) := by decide +kernel
theorem dX10_shortest_95 : decode cX10_shortest 95 = .ok (.iinc 5 1, 3) := by decide +kernel
theorem dX10_shortest_98 : decode cX10_shortest 98 = .ok (.goto (-69), 3) := by decide +kernel
theorem dX10_shortest_101 : decode cX10_shortest 101 = .ok (.bipush (-4), 2) := by decide +kernel
theorem dX10_shortest_103 : decode cX10_shortest 103 = .ok (.ireturn, 1) := by decide +kernel
theorem dX10_raise_0 : decode cX10_raise 0 = .ok (.iconst 0, 1) := by decide +kernel
theorem dX10_raise_1 : decode cX10_raise 1 = .ok (.istore_n 3, 1) := by decide +kernel
theorem dX10_raise_2 : decode cX10_raise 2 = .ok (.iload_n 3, 1) := by decide +kernel
theorem dX10_raise_3 : decode cX10_raise 3 = .ok (.bipush 8, 2) := by decide +kernel
theorem dX10_raise_5 : decode cX10_raise 5 = .ok (.if_icmp .ge 32, 3) := by decide +kernel
theorem dX10_raise_8 : decode cX10_raise 8 = .ok (.aload_n 0, 1) := by decide +kernel
theorem dX10_raise_9 : decode cX10_raise 9 = .ok (.getfield 18, 3) := by decide +kernel
theorem dX10_raise_12 : decode cX10_raise 12 = .ok (.iload_n 3, 1) := by decide +kernel
theorem dX10_raise_13 : decode cX10_raise 13 = .ok (.iload_n 2, 1) := by decide +kernel
theorem dX10_raise_14 : decode cX10_raise 14 = .ok (.iload_n 3, 1) := by decide +kernel
theorem dX10_raise_15 : decode cX10_raise 15 = .ok (.ishr, 1) := by decide +kernel
theorem dX10_raise_16 : decode cX10_raise 16 = .ok (.iconst 1, 1) := by decide +kernel
theorem dX10_raise_17 : decode cX10_raise 17 = .ok (.iand, 1) := by decide +kernel
theorem dX10_raise_18 : decode cX10_raise 18 = .ok (.iconst 1, 1) := by decide +kernel
theorem dX10_raise_19 : decode cX10_raise 19 = .ok (.if_icmp .ne 8, 3) := by decide +kernel
theorem dX10_raise_22 : decode cX10_raise 22 = .ok (.bipush 100, 2) := by decide +kernel
theorem dX10_raise_24 : decode cX10_raise 24 = .ok (.goto 6, 3) := by decide +kernel
theorem dX10_raise_27 : decode cX10_raise 27 = .ok (.aload_n 1, 1) := by decide +kernel
theorem dX10_raise_28 : decode cX10_raise 28 = .ok (.iload_n 3, 1) := by decide +kernel
theorem dX10_raise_29 : decode cX10_raise 29 = .ok (.iaload, 1) := by decide +kernel
theorem dX10_raise_30 : decode cX10_raise 30 = .ok (.iastore, 1) := by decide +kernel
theorem dX10_raise_31 : decode cX10_raise 31 = .ok (.iinc 3 1, 3) := by decide +kernel
theorem dX10_raise_34 : decode cX10_raise 34 = .ok (.goto (-32), 3) := by decide +kernel
theorem dX10_raise_37 : decode cX10_raise 37 = .ok (.return_, 1) := by decide +kernel
theorem dX10_reach_0 : decode cX10_reach 0 = .ok (.aload_n 1, 1) := by decide +kernel
theorem dX10_reach_1 : decode cX10_reach 1 = .ok (.aload_n 0, 1) := by decide +kernel
theorem dX10_reach_2 : decode cX10_reach 2 = .ok (.getfield 18, 3) := by decide +kernel
theorem dX10_reach_5 : decode cX10_reach 5 = .ok (.invokevirtual 40, 3) := by decide +kernel
theorem dX10_reach_8 : decode cX10_reach 8 = .ok (.istore 4, 2) := by decide +kernel
theorem dX10_reach_10 : decode cX10_reach 10 = .ok (.iload_n 3, 1) := by decide +kernel
theorem dX10_reach_11 : decode cX10_reach 11 = .ok (.istore 5, 2) := by decide +kernel
theorem dX10_reach_13 : decode cX10_reach 13 = .ok (.iconst 0, 1) := by decide +kernel
theorem dX10_reach_14 : decode cX10_reach 14 = .ok (.istore 6, 2) := by decide +kernel
theorem dX10_reach_16 : decode cX10_reach 16 = .ok (.iload 6, 2) := by decide +kernel
theorem dX10_reach_18 : decode cX10_reach 18 = .ok (.bipush 8, 2) := by decide +kernel
theorem dX10_reach_20 : decode cX10_reach 20 = .ok (.if_icmp .ge 79, 3) := by decide +kernel
theorem dX10_reach_23 : decode cX10_reach 23 = .ok (.iload 4, 2) := by decide +kernel
theorem dX10_reach_25 : decode cX10_reach 25 = .ok (.iload 6, 2) := by decide +kernel
theorem dX10_reach_27 : decode cX10_reach 27 = .ok (.ishr, 1) := by decide +kernel
theorem dX10_reach_28 : decode cX10_reach 28 = .ok (.iconst 1, 1) := by decide +kernel
theorem dX10_reach_29 : decode cX10_reach 29 = .ok (.iand, 1) := by decide +kernel
theorem dX10_reach_30 : decode cX10_reach 30 = .ok (.ifCond .ne 6, 3) := by decide +kernel
theorem dX10_reach_33 : decode cX10_reach 33 = .ok (.goto 60, 3) := by decide +kernel
theorem dX10_reach_36 : decode cX10_reach 36 = .ok (.iload_n 2, 1) := by decide +kernel
theorem dX10_reach_37 : decode cX10_reach 37 = .ok (.aload_n 1, 1) := by decide +kernel
theorem dX10_reach_38 : decode cX10_reach 38 = .ok (.iload 6, 2) := by decide +kernel
theorem dX10_reach_40 : decode cX10_reach 40 = .ok (.invokevirtual 43, 3) := by decide +kernel
theorem dX10_reach_43 : decode cX10_reach 43 = .ok (.ior, 1) := by decide +kernel
theorem dX10_reach_44 : decode cX10_reach 44 = .ok (.istore 7, 2) := by decide +kernel
theorem dX10_reach_46 : decode cX10_reach 46 = .ok (.aload_n 0, 1) := by decide +kernel
theorem dX10_reach_47 : decode cX10_reach 47 = .ok (.getfield 11, 3) := by decide +kernel
theorem dX10_reach_50 : decode cX10_reach 50 = .ok (.iload 7, 2) := by decide +kernel
theorem dX10_reach_52 : decode cX10_reach 52 = .ok (.iaload, 1) := by decide +kernel
theorem dX10_reach_53 : decode cX10_reach 53 = .ok (.bipush (-4), 2) := by decide +kernel
theorem dX10_reach_55 : decode cX10_reach 55 = .ok (.if_icmp .ne 38, 3) := by decide +kernel
theorem dX10_reach_58 : decode cX10_reach 58 = .ok (.iload 5, 2) := by decide +kernel
theorem dX10_reach_60 : decode cX10_reach 60 = .ok (.sipush 256, 3) := by decide +kernel
theorem dX10_reach_63 : decode cX10_reach 63 = .ok (.if_icmp .ge 30, 3) := by decide +kernel
theorem dX10_reach_66 : decode cX10_reach 66 = .ok (.aload_n 0, 1) := by decide +kernel
theorem dX10_reach_67 : decode cX10_reach 67 = .ok (.getfield 11, 3) := by decide +kernel
theorem dX10_reach_70 : decode cX10_reach 70 = .ok (.iload 7, 2) := by decide +kernel
theorem dX10_reach_72 : decode cX10_reach 72 = .ok (.aload_n 0, 1) := by decide +kernel
theorem dX10_reach_73 : decode cX10_reach 73 = .ok (.getfield 11, 3) := by decide +kernel
theorem dX10_reach_76 : decode cX10_reach 76 = .ok (.iload_n 2, 1) := by decide +kernel
theorem dX10_reach_77 : decode cX10_reach 77 = .ok (.iaload, 1) := by decide +kernel
theorem dX10_reach_78 : decode cX10_reach 78 = .ok (.iconst 1, 1) := by decide +kernel
theorem dX10_reach_79 : decode cX10_reach 79 = .ok (.iadd, 1) := by decide +kernel
theorem dX10_reach_80 : decode cX10_reach 80 = .ok (.iastore, 1) := by decide +kernel
theorem dX10_reach_81 : decode cX10_reach 81 = .ok (.aload_n 0, 1) := by decide +kernel
theorem dX10_reach_82 : decode cX10_reach 82 = .ok (.getfield 15, 3) := by decide +kernel
theorem dX10_reach_85 : decode cX10_reach 85 = .ok (.iload 5, 2) := by decide +kernel
theorem dX10_reach_87 : decode cX10_reach 87 = .ok (.iload 7, 2) := by decide +kernel
theorem dX10_reach_89 : decode cX10_reach 89 = .ok (.iastore, 1) := by decide +kernel
theorem dX10_reach_90 : decode cX10_reach 90 = .ok (.iinc 5 1, 3) := by decide +kernel
theorem dX10_reach_93 : decode cX10_reach 93 = .ok (.iinc 6 1, 3) := by decide +kernel
theorem dX10_reach_96 : decode cX10_reach 96 = .ok (.goto (-80), 3) := by decide +kernel
theorem dX10_reach_99 : decode cX10_reach 99 = .ok (.iload 5, 2) := by decide +kernel
theorem dX10_reach_101 : decode cX10_reach 101 = .ok (.ireturn, 1) := by decide +kernel
theorem dX11_init_0 : decode cX11_init 0 = .ok (.aload_n 0, 1) := by decide +kernel
theorem dX11_init_1 : decode cX11_init 1 = .ok (.invokespecial 1, 3) := by decide +kernel
theorem dX11_init_4 : decode cX11_init 4 = .ok (.aload_n 0, 1) := by decide +kernel
theorem dX11_init_5 : decode cX11_init 5 = .ok (.new 7, 3) := by decide +kernel
theorem dX11_init_8 : decode cX11_init 8 = .ok (.dup, 1) := by decide +kernel
theorem dX11_init_9 : decode cX11_init 9 = .ok (.invokespecial 9, 3) := by decide +kernel
theorem dX11_init_12 : decode cX11_init 12 = .ok (.putfield 10, 3) := by decide +kernel
theorem dX11_init_15 : decode cX11_init 15 = .ok (.aload_n 0, 1) := by decide +kernel
theorem dX11_init_16 : decode cX11_init 16 = .ok (.bipush 24, 2) := by decide +kernel
theorem dX11_init_18 : decode cX11_init 18 = .ok (.anewarray 16, 3) := by decide +kernel
theorem dX11_init_21 : decode cX11_init 21 = .ok (.putfield 18, 3) := by decide +kernel
theorem dX11_init_24 : decode cX11_init 24 = .ok (.aload_n 0, 1) := by decide +kernel
theorem dX11_init_25 : decode cX11_init 25 = .ok (.iconst 4, 1) := by decide +kernel
theorem dX11_init_26 : decode cX11_init 26 = .ok (.newarray .int, 2) := by decide +kernel
theorem dX11_init_28 : decode cX11_init 28 = .ok (.putfield 22, 3) := by decide +kernel
theorem dX11_init_31 : decode cX11_init 31 = .ok (.aload_n 0, 1) := by decide +kernel
theorem dX11_init_32 : decode cX11_init 32 = .ok (.iconst 4, 1) := by decide +kernel
theorem dX11_init_33 : decode cX11_init 33 = .ok (.anewarray 26, 3) := by decide +kernel
theorem dX11_init_36 : decode cX11_init 36 = .ok (.putfield 28, 3) := by decide +kernel
theorem dX11_init_39 : decode cX11_init 39 = .ok (.aload_n 0, 1) := by decide +kernel
theorem dX11_init_40 : decode cX11_init 40 = .ok (.new 16, 3) := by decide +kernel
theorem dX11_init_43 : decode cX11_init 43 = .ok (.dup, 1) := by decide +kernel
theorem dX11_init_44 : decode cX11_init 44 = .ok (.invokespecial 32, 3) := by decide +kernel
theorem dX11_init_47 : decode cX11_init 47 = .ok (.putfield 33, 3) := by decide +kernel
theorem dX11_init_50 : decode cX11_init 50 = .ok (.aload_n 0, 1) := by decide +kernel
theorem dX11_init_51 : decode cX11_init 51 = .ok (.new 26, 3) := by decide +kernel
theorem dX11_init_54 : decode cX11_init 54 = .ok (.dup, 1) := by decide +kernel
theorem dX11_init_55 : decode cX11_init 55 = .ok (.invokespecial 37, 3) := by decide +kernel
theorem dX11_init_58 : decode cX11_init 58 = .ok (.putfield 38, 3) := by decide +kernel
theorem dX11_init_61 : decode cX11_init 61 = .ok (.aload_n 0, 1) := by decide +kernel
theorem dX11_init_62 : decode cX11_init 62 = .ok (.bipush 12, 2) := by decide +kernel
theorem dX11_init_64 : decode cX11_init 64 = .ok (.anewarray 42, 3) := by decide +kernel
theorem dX11_init_67 : decode cX11_init 67 = .ok (.putfield 44, 3) := by decide +kernel
theorem dX11_init_70 : decode cX11_init 70 = .ok (.aload_n 0, 1) := by decide +kernel
theorem dX11_init_71 : decode cX11_init 71 = .ok (.iconst 0, 1) := by decide +kernel
theorem dX11_init_72 : decode cX11_init 72 = .ok (.putfield 48, 3) := by decide +kernel
theorem dX11_init_75 : decode cX11_init 75 = .ok (.aload_n 0, 1) := by decide +kernel
theorem dX11_init_76 : decode cX11_init 76 = .ok (.bipush 6, 2) := by decide +kernel
theorem dX11_init_78 : decode cX11_init 78 = .ok (.anewarray 52, 3) := by decide +kernel
theorem dX11_init_81 : decode cX11_init 81 = .ok (.putfield 54, 3) := by decide +kernel
theorem dX11_init_84 : decode cX11_init 84 = .ok (.aload_n 0, 1) := by decide +kernel
theorem dX11_init_85 : decode cX11_init 85 = .ok (.iconst 0, 1) := by decide +kernel
theorem dX11_init_86 : decode cX11_init 86 = .ok (.putfield 58, 3) := by decide +kernel
theorem dX11_init_89 : decode cX11_init 89 = .ok (.aload_n 0, 1) := by decide +kernel
theorem dX11_init_90 : decode cX11_init 90 = .ok (.bipush 80, 2) := by decide +kernel
theorem dX11_init_92 : decode cX11_init 92 = .ok (.anewarray 61, 3) := by decide +kernel
theorem dX11_init_95 : decode cX11_init 95 = .ok (.putfield 63, 3) := by decide +kernel
theorem dX11_init_98 : decode cX11_init 98 = .ok (.aload_n 0, 1) := by decide +kernel
theorem dX11_init_99 : decode cX11_init 99 = .ok (.iconst 0, 1) := by decide +kernel
theorem dX11_init_100 : decode cX11_init 100 = .ok (.putfield 67, 3) := by decide +kernel
theorem dX11_init_103 : decode cX11_init 103 = .ok (.aload_n 0, 1) := by decide +kernel
theorem dX11_init_104 : decode cX11_init 104 = .ok (.bipush 6, 2) := by decide +kernel
theorem dX11_init_106 : decode cX11_init 106 = .ok (.anewarray 70, 3) := by decide +kernel
theorem dX11_init_109 : decode cX11_init 109 = .ok (.putfield 72, 3) := by decide +kernel
theorem dX11_init_112 : decode cX11_init 112 = .ok (.aload_n 0, 1) := by decide +kernel
theorem dX11_init_113 : decode cX11_init 113 = .ok (.new 76, 3) := by decide +kernel
theorem dX11_init_116 : decode cX11_init 116 = .ok (.dup, 1) := by decide +kernel
theorem dX11_init_117 : decode cX11_init 117 = .ok (.invokespecial 78, 3) := by decide +kernel
theorem dX11_init_120 : decode cX11_init 120 = .ok (.putfield 79, 3) := by decide +kernel
theorem dX11_init_123 : decode cX11_init 123 = .ok (.aload_n 0, 1) := by decide +kernel
theorem dX11_init_124 : decode cX11_init 124 = .ok (.sipush 800, 3) := by decide +kernel
theorem dX11_init_127 : decode cX11_init 127 = .ok (.newarray .byte, 2) := by decide +kernel
theorem dX11_init_129 : decode cX11_init 129 = .ok (.putfield 83, 3) := by decide +kernel
theorem dX11_init_132 : decode cX11_init 132 = .ok (.aload_n 0, 1) := by decide +kernel
theorem dX11_init_133 : decode cX11_init 133 = .ok (.iconst 5, 1) := by decide +kernel
theorem dX11_init_134 : decode cX11_init 134 = .ok (.putfield 87, 3) := by decide +kernel
theorem dX11_init_137 : decode cX11_init 137 = .ok (.aload_n 0, 1) := by decide +kernel
theorem dX11_init_138 : decode cX11_init 138 = .ok (.iconst 4, 1) := by decide +kernel
theorem dX11_init_139 : decode cX11_init 139 = .ok (.anewarray 90, 3) := by decide +kernel
theorem dX11_init_142 : decode cX11_init 142 = .ok (.putfield 92, 3) := by decide +kernel
theorem dX11_init_145 : decode cX11_init 145 = .ok (.aload_n 0, 1) := by decide +kernel
theorem dX11_init_146 : decode cX11_init 146 = .ok (.new 96, 3) := by decide +kernel
theorem dX11_init_149 : decode cX11_init 149 = .ok (.dup, 1) := by decide +kernel
theorem dX11_init_150 : decode cX11_init 150 = .ok (.invokespecial 98, 3) := by decide +kernel
theorem dX11_init_153 : decode cX11_init 153 = .ok (.putfield 99, 3) := by decide +kernel
theorem dX11_init_156 : decode cX11_init 156 = .ok (.aload_n 0, 1) := by decide +kernel
theorem dX11_init_157 : decode cX11_init 157 = .ok (.new 103, 3) := by decide +kernel
theorem dX11_init_160 : decode cX11_init 160 = .ok (.dup, 1) := by decide +kernel
theorem dX11_init_161 : decode cX11_init 161 = .ok (.invokespecial 105, 3) := by decide +kernel
theorem dX11_init_164 : decode cX11_init 164 = .ok (.putfield 106, 3) := by decide +kernel
theorem dX11_init_167 : decode cX11_init 167 = .ok (.aload_n 0, 1) := by decide +kernel
theorem dX11_init_168 : decode cX11_init 168 = .ok (.bipush 8, 2) := by decide +kernel
theorem dX11_init_170 : decode cX11_init 170 = .ok (.newarray .int, 2) := by decide +kernel
theorem dX11_init_172 : decode cX11_init 172 = .ok (.putfield 110, 3) := by decide +kernel
theorem dX11_init_175 : decode cX11_init 175 = .ok (.iconst 0, 1) := by decide +kernel
theorem dX11_init_176 : decode cX11_init 176 = .ok (.istore_n 1, 1) := by decide +kernel
theorem dX11_init_177 : decode cX11_init 177 = .ok (.iload_n 1, 1) := by decide +kernel
theorem dX11_init_178 : decode cX11_init 178 = .ok (.iconst 4, 1) := by decide +kernel
theorem dX11_init_179 : decode cX11_init 179 = .ok (.if_icmp .ge 22, 3) := by decide +kernel
theorem dX11_init_182 : decode cX11_init 182 = .ok (.aload_n 0, 1) := by decide +kernel
theorem dX11_init_183 : decode cX11_init 183 = .ok (.getfield 28, 3) := by decide +kernel
theorem dX11_init_186 : decode cX11_init 186 = .ok (.iload_n 1, 1) := by decide +kernel
theorem dX11_init_187 : decode cX11_init 187 = .ok (.new 26, 3) := by decide +kernel
theorem dX11_init_190 : decode cX11_init 190 = .ok (.dup, 1) := by decide +kernel
theorem dX11_init_191 : decode cX11_init 191 = .ok (.invokespecial 37, 3) := by decide +kernel
theorem dX11_init_194 : decode cX11_init 194 = .ok (.aastore, 1) := by decide +kernel
theorem dX11_init_195 : decode cX11_init 195 = .ok (.iinc 1 1, 3) := by decide +kernel
theorem dX11_init_198 : decode cX11_init 198 = .ok (.goto (-21), 3) := by decide +kernel
theorem dX11_init_201 : decode cX11_init 201 = .ok (.iconst 0, 1) := by decide +kernel
theorem dX11_init_202 : decode cX11_init 202 = .ok (.istore_n 1, 1) := by decide +kernel
theorem dX11_init_203 : decode cX11_init 203 = .ok (.iload_n 1, 1) := by decide +kernel
theorem dX11_init_204 : decode cX11_init 204 = .ok (.bipush 6, 2) := by decide +kernel
theorem dX11_init_206 : decode cX11_init 206 = .ok (.if_icmp .ge 22, 3) := by decide +kernel
theorem dX11_init_209 : decode cX11_init 209 = .ok (.aload_n 0, 1) := by decide +kernel
theorem dX11_init_210 : decode cX11_init 210 = .ok (.getfield 72, 3) := by decide +kernel
theorem dX11_init_213 : decode cX11_init 213 = .ok (.iload_n 1, 1) := by decide +kernel
theorem dX11_init_214 : decode cX11_init 214 = .ok (.new 70, 3) := by decide +kernel
theorem dX11_init_217 : decode cX11_init 217 = .ok (.dup, 1) := by decide +kernel
theorem dX11_init_218 : decode cX11_init 218 = .ok (.invokespecial 113, 3) := by decide +kernel
theorem dX11_init_221 : decode cX11_init 221 = .ok (.aastore, 1) := by decide +kernel
theorem dX11_init_222 : decode cX11_init 222 = .ok (.iinc 1 1, 3) := by decide +kernel
theorem dX11_init_225 : decode cX11_init 225 = .ok (.goto (-22), 3) := by decide +kernel
theorem dX11_init_228 : decode cX11_init 228 = .ok (.iconst 0, 1) := by decide +kernel
theorem dX11_init_229 : decode cX11_init 229 = .ok (.istore_n 1, 1) := by decide +kernel
theorem dX11_init_230 : decode cX11_init 230 = .ok (.iload_n 1, 1) := by decide +kernel
theorem dX11_init_231 : decode cX11_init 231 = .ok (.iconst 4, 1) := by decide +kernel
theorem dX11_init_232 : decode cX11_init 232 = .ok (.if_icmp .ge 22, 3) := by decide +kernel
theorem dX11_init_235 : decode cX11_init 235 = .ok (.aload_n 0, 1) := by decide +kernel
theorem dX11_init_236 : decode cX11_init 236 = .ok (.getfield 92, 3) := by decide +kernel
theorem dX11_init_239 : decode cX11_init 239 = .ok (.iload_n 1, 1) := by decide +kernel
theorem dX11_init_240 : decode cX11_init 240 = .ok (.new 90, 3) := by decide +kernel
theorem dX11_init_243 : decode cX11_init 243 = .ok (.dup, 1) := by decide +kernel
theorem dX11_init_244 : decode cX11_init 244 = .ok (.invokespecial 114, 3) := by decide +kernel
theorem dX11_init_247 : decode cX11_init 247 = .ok (.aastore, 1) := by decide +kernel
theorem dX11_init_248 : decode cX11_init 248 = .ok (.iinc 1 1, 3) := by decide +kernel
theorem dX11_init_251 : decode cX11_init 251 = .ok (.goto (-21), 3) := by decide +kernel
theorem dX11_init_254 : decode cX11_init 254 = .ok (.return_, 1) := by decide +kernel
theorem dX11_type_0 : decode cX11_type 0 = .ok (.iload_n 3, 1) := by decide +kernel
theorem dX11_type_1 : decode cX11_type 1 = .ok (.iconst 1, 1) := by decide +kernel
theorem dX11_type_2 : decode cX11_type 2 = .ok (.if_icmp .lt 9, 3) := by decide +kernel
theorem dX11_type_5 : decode cX11_type 5 = .ok (.iload_n 3, 1) := by decide +kernel
theorem dX11_type_6 : decode cX11_type 6 = .ok (.bipush 8, 2) := by decide +kernel
theorem dX11_type_8 : decode cX11_type 8 = .ok (.if_icmp .le 5, 3) := by decide +kernel
theorem dX11_type_11 : decode cX11_type 11 = .ok (.iconst (-1), 1) := by decide +kernel
theorem dX11_type_12 : decode cX11_type 12 = .ok (.ireturn, 1) := by decide +kernel
theorem dX11_type_13 : decode cX11_type 13 = .ok (.iconst 0, 1) := by decide +kernel
theorem dX11_type_14 : decode cX11_type 14 = .ok (.istore 4, 2) := by decide +kernel
theorem dX11_type_16 : decode cX11_type 16 = .ok (.iload 4, 2) := by decide +kernel
theorem dX11_type_18 : decode cX11_type 18 = .ok (.iload_n 3, 1) := by decide +kernel
theorem dX11_type_19 : decode cX11_type 19 = .ok (.if_icmp .ge 39, 3) := by decide +kernel
theorem dX11_type_22 : decode cX11_type 22 = .ok (.lload_n 1, 1) := by decide +kernel
theorem dX11_type_23 : decode cX11_type 23 = .ok (.bipush 8, 2) := by decide +kernel
theorem dX11_type_25 : decode cX11_type 25 = .ok (.iload 4, 2) := by decide +kernel
theorem dX11_type_27 : decode cX11_type 27 = .ok (.imul, 1) := by decide +kernel
theorem dX11_type_28 : decode cX11_type 28 = .ok (.lushr, 1) := by decide +kernel
theorem dX11_type_29 : decode cX11_type 29 = .ok (.l2i, 1) := by decide +kernel
theorem dX11_type_30 : decode cX11_type 30 = .ok (.sipush 255, 3) := by decide +kernel
theorem dX11_type_33 : decode cX11_type 33 = .ok (.iand, 1) := by decide +kernel
theorem dX11_type_34 : decode cX11_type 34 = .ok (.istore 5, 2) := by decide +kernel
theorem dX11_type_36 : decode cX11_type 36 = .ok (.iload 5, 2) := by decide +kernel
theorem dX11_type_38 : decode cX11_type 38 = .ok (.bipush 32, 2) := by decide +kernel
theorem dX11_type_40 : decode cX11_type 40 = .ok (.if_icmp .lt 10, 3) := by decide +kernel
theorem dX11_type_43 : decode cX11_type 43 = .ok (.iload 5, 2) := by decide +kernel
theorem dX11_type_45 : decode cX11_type 45 = .ok (.bipush 126, 2) := by decide +kernel
theorem dX11_type_47 : decode cX11_type 47 = .ok (.if_icmp .le 5, 3) := by decide +kernel
theorem dX11_type_50 : decode cX11_type 50 = .ok (.iconst (-1), 1) := by decide +kernel
theorem dX11_type_51 : decode cX11_type 51 = .ok (.ireturn, 1) := by decide +kernel
theorem dX11_type_52 : decode cX11_type 52 = .ok (.iinc 4 1, 3) := by decide +kernel
theorem dX11_type_55 : decode cX11_type 55 = .ok (.goto (-39), 3) := by decide +kernel
theorem dX11_type_58 : decode cX11_type 58 = .ok (.aload_n 0, 1) := by decide +kernel
theorem dX11_type_59 : decode cX11_type 59 = .ok (.getfield 10, 3) := by decide +kernel
theorem dX11_type_62 : decode cX11_type 62 = .ok (.getfield 115, 3) := by decide +kernel
theorem dX11_type_65 : decode cX11_type 65 = .ok (.iload_n 3, 1) := by decide +kernel
theorem dX11_type_66 : decode cX11_type 66 = .ok (.iadd, 1) := by decide +kernel
theorem dX11_type_67 : decode cX11_type 67 = .ok (.bipush 120, 2) := by decide +kernel
theorem dX11_type_69 : decode cX11_type 69 = .ok (.if_icmp .le 6, 3) := by decide +kernel
theorem dX11_type_72 : decode cX11_type 72 = .ok (.bipush (-3), 2) := by decide +kernel
theorem dX11_type_74 : decode cX11_type 74 = .ok (.ireturn, 1) := by decide +kernel
theorem dX11_type_75 : decode cX11_type 75 = .ok (.iload_n 3, 1) := by decide +kernel
theorem dX11_type_76 : decode cX11_type 76 = .ok (.iconst 1, 1) := by decide +kernel
theorem dX11_type_77 : decode cX11_type 77 = .ok (.isub, 1) := by decide +kernel
theorem dX11_type_78 : decode cX11_type 78 = .ok (.istore 4, 2) := by decide +kernel
theorem dX11_type_80 : decode cX11_type 80 = .ok (.iload 4, 2) := by decide +kernel
theorem dX11_type_82 : decode cX11_type 82 = .ok (.ifCond .lt 28, 3) := by decide +kernel
theorem dX11_type_85 : decode cX11_type 85 = .ok (.aload_n 0, 1) := by decide +kernel
theorem dX11_type_86 : decode cX11_type 86 = .ok (.getfield 10, 3) := by decide +kernel
theorem dX11_type_89 : decode cX11_type 89 = .ok (.lload_n 1, 1) := by decide +kernel
theorem dX11_type_90 : decode cX11_type 90 = .ok (.bipush 8, 2) := by decide +kernel
theorem dX11_type_92 : decode cX11_type 92 = .ok (.iload 4, 2) := by decide +kernel
theorem dX11_type_94 : decode cX11_type 94 = .ok (.imul, 1) := by decide +kernel
theorem dX11_type_95 : decode cX11_type 95 = .ok (.lushr, 1) := by decide +kernel
theorem dX11_type_96 : decode cX11_type 96 = .ok (.l2i, 1) := by decide +kernel
theorem dX11_type_97 : decode cX11_type 97 = .ok (.sipush 255, 3) := by decide +kernel
theorem dX11_type_100 : decode cX11_type 100 = .ok (.iand, 1) := by decide +kernel
theorem dX11_type_101 : decode cX11_type 101 = .ok (.invokevirtual 118, 3) := by decide +kernel
theorem dX11_type_104 : decode cX11_type 104 = .ok (.iinc 4 (-1), 3) := by decide +kernel
theorem dX11_type_107 : decode cX11_type 107 = .ok (.goto (-27), 3) := by decide +kernel
theorem dX11_type_110 : decode cX11_type 110 = .ok (.aload_n 0, 1) := by decide +kernel
theorem dX11_type_111 : decode cX11_type 111 = .ok (.getfield 10, 3) := by decide +kernel
theorem dX11_type_114 : decode cX11_type 114 = .ok (.getfield 115, 3) := by decide +kernel
theorem dX11_type_117 : decode cX11_type 117 = .ok (.ireturn, 1) := by decide +kernel
theorem dX11_edition_0 : decode cX11_edition 0 = .ok (.iload_n 1, 1) := by decide +kernel
theorem dX11_edition_1 : decode cX11_edition 1 = .ok (.iconst 4, 1) := by decide +kernel
theorem dX11_edition_2 : decode cX11_edition 2 = .ok (.invokestatic 122, 3) := by decide +kernel
theorem dX11_edition_5 : decode cX11_edition 5 = .ok (.ifCond .eq 19, 3) := by decide +kernel
theorem dX11_edition_8 : decode cX11_edition 8 = .ok (.iload_n 2, 1) := by decide +kernel
theorem dX11_edition_9 : decode cX11_edition 9 = .ok (.invokestatic 126, 3) := by decide +kernel
theorem dX11_edition_12 : decode cX11_edition 12 = .ok (.ifCond .eq 12, 3) := by decide +kernel
theorem dX11_edition_15 : decode cX11_edition 15 = .ok (.iload_n 2, 1) := by decide +kernel
theorem dX11_edition_16 : decode cX11_edition 16 = .ok (.aload_n 0, 1) := by decide +kernel
theorem dX11_edition_17 : decode cX11_edition 17 = .ok (.iload_n 1, 1) := by decide +kernel
theorem dX11_edition_18 : decode cX11_edition 18 = .ok (.invokevirtual 130, 3) := by decide +kernel
theorem dX11_edition_21 : decode cX11_edition 21 = .ok (.if_icmp .ge 5, 3) := by decide +kernel
theorem dX11_edition_24 : decode cX11_edition 24 = .ok (.iconst (-1), 1) := by decide +kernel
theorem dX11_edition_25 : decode cX11_edition 25 = .ok (.ireturn, 1) := by decide +kernel
theorem dX11_edition_26 : decode cX11_edition 26 = .ok (.aload_n 0, 1) := by decide +kernel
theorem dX11_edition_27 : decode cX11_edition 27 = .ok (.getfield 10, 3) := by decide +kernel
theorem dX11_edition_30 : decode cX11_edition 30 = .ok (.aload_n 0, 1) := by decide +kernel
theorem dX11_edition_31 : decode cX11_edition 31 = .ok (.getfield 33, 3) := by decide +kernel
theorem dX11_edition_34 : decode cX11_edition 34 = .ok (.invokevirtual 134, 3) := by decide +kernel
theorem dX11_edition_37 : decode cX11_edition 37 = .ok (.istore_n 3, 1) := by decide +kernel
theorem dX11_edition_38 : decode cX11_edition 38 = .ok (.aload_n 0, 1) := by decide +kernel
theorem dX11_edition_39 : decode cX11_edition 39 = .ok (.getfield 10, 3) := by decide +kernel
theorem dX11_edition_42 : decode cX11_edition 42 = .ok (.iconst 0, 1) := by decide +kernel
theorem dX11_edition_43 : decode cX11_edition 43 = .ok (.putfield 115, 3) := by decide +kernel
theorem dX11_edition_46 : decode cX11_edition 46 = .ok (.iload_n 3, 1) := by decide +kernel
theorem dX11_edition_47 : decode cX11_edition 47 = .ok (.ifCond .ne 14, 3) := by decide +kernel
theorem dX11_edition_50 : decode cX11_edition 50 = .ok (.bipush (-20), 2) := by decide +kernel
theorem dX11_edition_52 : decode cX11_edition 52 = .ok (.aload_n 0, 1) := by decide +kernel
theorem dX11_edition_53 : decode cX11_edition 53 = .ok (.getfield 10, 3) := by decide +kernel
theorem dX11_edition_56 : decode cX11_edition 56 = .ok (.getfield 138, 3) := by decide +kernel
theorem dX11_edition_59 : decode cX11_edition 59 = .ok (.isub, 1) := by decide +kernel
theorem dX11_edition_60 : decode cX11_edition 60 = .ok (.ireturn, 1) := by decide +kernel
theorem dX11_edition_61 : decode cX11_edition 61 = .ok (.aload_n 0, 1) := by decide +kernel
theorem dX11_edition_62 : decode cX11_edition 62 = .ok (.getfield 22, 3) := by decide +kernel
theorem dX11_edition_65 : decode cX11_edition 65 = .ok (.iload_n 1, 1) := by decide +kernel
theorem dX11_edition_66 : decode cX11_edition 66 = .ok (.iaload, 1) := by decide +kernel
theorem dX11_edition_67 : decode cX11_edition 67 = .ok (.istore 4, 2) := by decide +kernel
theorem dX11_edition_69 : decode cX11_edition 69 = .ok (.iload 4, 2) := by decide +kernel
theorem dX11_edition_71 : decode cX11_edition 71 = .ok (.bipush 6, 2) := by decide +kernel
theorem dX11_edition_73 : decode cX11_edition 73 = .ok (.if_icmp .lt 6, 3) := by decide +kernel
theorem dX11_edition_76 : decode cX11_edition 76 = .ok (.bipush (-3), 2) := by decide +kernel
theorem dX11_edition_78 : decode cX11_edition 78 = .ok (.ireturn, 1) := by decide +kernel
theorem dX11_edition_79 : decode cX11_edition 79 = .ok (.aload_n 0, 1) := by decide +kernel
theorem dX11_edition_80 : decode cX11_edition 80 = .ok (.getfield 33, 3) := by decide +kernel
theorem dX11_edition_83 : decode cX11_edition 83 = .ok (.iload_n 2, 1) := by decide +kernel
theorem dX11_edition_84 : decode cX11_edition 84 = .ok (.putfield 141, 3) := by decide +kernel
theorem dX11_edition_87 : decode cX11_edition 87 = .ok (.aload_n 0, 1) := by decide +kernel
theorem dX11_edition_88 : decode cX11_edition 88 = .ok (.getfield 18, 3) := by decide +kernel
theorem dX11_edition_91 : decode cX11_edition 91 = .ok (.iload_n 1, 1) := by decide +kernel
theorem dX11_edition_92 : decode cX11_edition 92 = .ok (.bipush 6, 2) := by decide +kernel
theorem dX11_edition_94 : decode cX11_edition 94 = .ok (.imul, 1) := by decide +kernel
theorem dX11_edition_95 : decode cX11_edition 95 = .ok (.iload 4, 2) := by decide +kernel
theorem dX11_edition_97 : decode cX11_edition 97 = .ok (.iadd, 1) := by decide +kernel
theorem dX11_edition_98 : decode cX11_edition 98 = .ok (.aload_n 0, 1) := by decide +kernel
theorem dX11_edition_99 : decode cX11_edition 99 = .ok (.getfield 33, 3) := by decide +kernel
theorem dX11_edition_102 : decode cX11_edition 102 = .ok (.aastore, 1) := by decide +kernel
theorem dX11_edition_103 : decode cX11_edition 103 = .ok (.aload_n 0, 1) := by decide +kernel
theorem dX11_edition_104 : decode cX11_edition 104 = .ok (.getfield 22, 3) := by decide +kernel
theorem dX11_edition_107 : decode cX11_edition 107 = .ok (.iload_n 1, 1) := by decide +kernel
theorem dX11_edition_108 : decode cX11_edition 108 = .ok (.iload 4, 2) := by decide +kernel
theorem dX11_edition_110 : decode cX11_edition 110 = .ok (.iconst 1, 1) := by decide +kernel
theorem dX11_edition_111 : decode cX11_edition 111 = .ok (.iadd, 1) := by decide +kernel
theorem dX11_edition_112 : decode cX11_edition 112 = .ok (.iastore, 1) := by decide +kernel
theorem dX11_edition_113 : decode cX11_edition 113 = .ok (.aload_n 0, 1) := by decide +kernel
theorem dX11_edition_114 : decode cX11_edition 114 = .ok (.new 16, 3) := by decide +kernel
theorem dX11_edition_117 : decode cX11_edition 117 = .ok (.dup, 1) := by decide +kernel
theorem dX11_edition_118 : decode cX11_edition 118 = .ok (.invokespecial 32, 3) := by decide +kernel
theorem dX11_edition_121 : decode cX11_edition 121 = .ok (.putfield 33, 3) := by decide +kernel
theorem dX11_edition_124 : decode cX11_edition 124 = .ok (.iload 4, 2) := by decide +kernel
theorem dX11_edition_126 : decode cX11_edition 126 = .ok (.ireturn, 1) := by decide +kernel
theorem dX11_told_0 : decode cX11_told 0 = .ok (.aload_n 0, 1) := by decide +kernel
theorem dX11_told_1 : decode cX11_told 1 = .ok (.iload_n 1, 1) := by decide +kernel
theorem dX11_told_2 : decode cX11_told 2 = .ok (.iload_n 2, 1) := by decide +kernel
theorem dX11_told_3 : decode cX11_told 3 = .ok (.invokevirtual 144, 3) := by decide +kernel
theorem dX11_told_6 : decode cX11_told 6 = .ok (.astore 4, 2) := by decide +kernel
theorem dX11_told_8 : decode cX11_told 8 = .ok (.aload 4, 2) := by decide +kernel
theorem dX11_told_10 : decode cX11_told 10 = .ok (.ifnull 11, 3) := by decide +kernel
theorem dX11_told_13 : decode cX11_told 13 = .ok (.iload_n 3, 1) := by decide +kernel
theorem dX11_told_14 : decode cX11_told 14 = .ok (.iconst 3, 1) := by decide +kernel
theorem dX11_told_15 : decode cX11_told 15 = .ok (.invokestatic 122, 3) := by decide +kernel
theorem dX11_told_18 : decode cX11_told 18 = .ok (.ifCond .ne 5, 3) := by decide +kernel
theorem dX11_told_21 : decode cX11_told 21 = .ok (.iconst (-1), 1) := by decide +kernel
theorem dX11_told_22 : decode cX11_told 22 = .ok (.ireturn, 1) := by decide +kernel
theorem dX11_told_23 : decode cX11_told 23 = .ok (.iload_n 3, 1) := by decide +kernel
theorem dX11_told_24 : decode cX11_told 24 = .ok (.ifCond .ne 9, 3) := by decide +kernel
theorem dX11_told_27 : decode cX11_told 27 = .ok (.aload 4, 2) := by decide +kernel
theorem dX11_told_29 : decode cX11_told 29 = .ok (.getfield 141, 3) := by decide +kernel
theorem dX11_told_32 : decode cX11_told 32 = .ok (.ireturn, 1) := by decide +kernel
theorem dX11_told_33 : decode cX11_told 33 = .ok (.iload_n 3, 1) := by decide +kernel
theorem dX11_told_34 : decode cX11_told 34 = .ok (.iconst 1, 1) := by decide +kernel
theorem dX11_told_35 : decode cX11_told 35 = .ok (.if_icmp .ne 14, 3) := by decide +kernel
theorem dX11_told_38 : decode cX11_told 38 = .ok (.aload 4, 2) := by decide +kernel
theorem dX11_told_40 : decode cX11_told 40 = .ok (.getfield 148, 3) := by decide +kernel
theorem dX11_told_43 : decode cX11_told 43 = .ok (.invokestatic 151, 3) := by decide +kernel
theorem dX11_told_46 : decode cX11_told 46 = .ok (.goto 8, 3) := by decide +kernel
theorem dX11_told_49 : decode cX11_told 49 = .ok (.aload 4, 2) := by decide +kernel
theorem dX11_told_51 : decode cX11_told 51 = .ok (.getfield 148, 3) := by decide +kernel
theorem dX11_told_54 : decode cX11_told 54 = .ok (.ireturn, 1) := by decide +kernel
theorem dX11_lesson_0 : decode cX11_lesson 0 = .ok (.aload_n 0, 1) := by decide +kernel
theorem dX11_lesson_1 : decode cX11_lesson 1 = .ok (.iload_n 1, 1) := by decide +kernel
theorem dX11_lesson_2 : decode cX11_lesson 2 = .ok (.iload_n 2, 1) := by decide +kernel
theorem dX11_lesson_3 : decode cX11_lesson 3 = .ok (.invokevirtual 144, 3) := by decide +kernel
theorem dX11_lesson_6 : decode cX11_lesson 6 = .ok (.astore 5, 2) := by decide +kernel
theorem dX11_lesson_8 : decode cX11_lesson 8 = .ok (.aload 5, 2) := by decide +kernel
theorem dX11_lesson_10 : decode cX11_lesson 10 = .ok (.ifnull 21, 3) := by decide +kernel
theorem dX11_lesson_13 : decode cX11_lesson 13 = .ok (.aload 5, 2) := by decide +kernel
theorem dX11_lesson_15 : decode cX11_lesson 15 = .ok (.iload_n 3, 1) := by decide +kernel
theorem dX11_lesson_16 : decode cX11_lesson 16 = .ok (.invokevirtual 156, 3) := by decide +kernel
theorem dX11_lesson_19 : decode cX11_lesson 19 = .ok (.ifCond .eq 12, 3) := by decide +kernel
theorem dX11_lesson_22 : decode cX11_lesson 22 = .ok (.iload 4, 2) := by decide +kernel
theorem dX11_lesson_24 : decode cX11_lesson 24 = .ok (.iconst 3, 1) := by decide +kernel
theorem dX11_lesson_25 : decode cX11_lesson 25 = .ok (.invokestatic 122, 3) := by decide +kernel
theorem dX11_lesson_28 : decode cX11_lesson 28 = .ok (.ifCond .ne 5, 3) := by decide +kernel
theorem dX11_lesson_31 : decode cX11_lesson 31 = .ok (.iconst (-1), 1) := by decide +kernel
theorem dX11_lesson_32 : decode cX11_lesson 32 = .ok (.ireturn, 1) := by decide +kernel
theorem dX11_lesson_33 : decode cX11_lesson 33 = .ok (.iload 4, 2) := by decide +kernel
theorem dX11_lesson_35 : decode cX11_lesson 35 = .ok (.ifCond .ne 11, 3) := by decide +kernel
theorem dX11_lesson_38 : decode cX11_lesson 38 = .ok (.aload 5, 2) := by decide +kernel
theorem dX11_lesson_40 : decode cX11_lesson 40 = .ok (.getfield 159, 3) := by decide +kernel
theorem dX11_lesson_43 : decode cX11_lesson 43 = .ok (.iload_n 3, 1) := by decide +kernel
theorem dX11_lesson_44 : decode cX11_lesson 44 = .ok (.iaload, 1) := by decide +kernel
theorem dX11_lesson_45 : decode cX11_lesson 45 = .ok (.ireturn, 1) := by decide +kernel
theorem dX11_lesson_46 : decode cX11_lesson 46 = .ok (.iload 4, 2) := by decide +kernel
theorem dX11_lesson_48 : decode cX11_lesson 48 = .ok (.iconst 1, 1) := by decide +kernel
theorem dX11_lesson_49 : decode cX11_lesson 49 = .ok (.if_icmp .ne 13, 3) := by decide +kernel
theorem dX11_lesson_52 : decode cX11_lesson 52 = .ok (.aload 5, 2) := by decide +kernel
theorem dX11_lesson_54 : decode cX11_lesson 54 = .ok (.getfield 162, 3) := by decide +kernel
theorem dX11_lesson_57 : decode cX11_lesson 57 = .ok (.iload_n 3, 1) := by decide +kernel
theorem dX11_lesson_58 : decode cX11_lesson 58 = .ok (.iaload, 1) := by decide +kernel
theorem dX11_lesson_59 : decode cX11_lesson 59 = .ok (.goto 10, 3) := by decide +kernel
theorem dX11_lesson_62 : decode cX11_lesson 62 = .ok (.aload 5, 2) := by decide +kernel
theorem dX11_lesson_64 : decode cX11_lesson 64 = .ok (.getfield 165, 3) := by decide +kernel
theorem dX11_lesson_67 : decode cX11_lesson 67 = .ok (.iload_n 3, 1) := by decide +kernel
theorem dX11_lesson_68 : decode cX11_lesson 68 = .ok (.iaload, 1) := by decide +kernel
theorem dX11_lesson_69 : decode cX11_lesson 69 = .ok (.ireturn, 1) := by decide +kernel
theorem dX11_pupil_0 : decode cX11_pupil 0 = .ok (.iload_n 1, 1) := by decide +kernel
theorem dX11_pupil_1 : decode cX11_pupil 1 = .ok (.bipush 6, 2) := by decide +kernel
theorem dX11_pupil_3 : decode cX11_pupil 3 = .ok (.invokestatic 122, 3) := by decide +kernel
theorem dX11_pupil_6 : decode cX11_pupil 6 = .ok (.ifCond .eq 18, 3) := by decide +kernel
theorem dX11_pupil_9 : decode cX11_pupil 9 = .ok (.iload_n 2, 1) := by decide +kernel
theorem dX11_pupil_10 : decode cX11_pupil 10 = .ok (.iconst 4, 1) := by decide +kernel
theorem dX11_pupil_11 : decode cX11_pupil 11 = .ok (.invokestatic 122, 3) := by decide +kernel
theorem dX11_pupil_14 : decode cX11_pupil 14 = .ok (.ifCond .eq 10, 3) := by decide +kernel
theorem dX11_pupil_17 : decode cX11_pupil 17 = .ok (.iload_n 3, 1) := by decide +kernel
theorem dX11_pupil_18 : decode cX11_pupil 18 = .ok (.invokestatic 126, 3) := by decide +kernel
theorem dX11_pupil_21 : decode cX11_pupil 21 = .ok (.ifCond .ne 5, 3) := by decide +kernel
theorem dX11_pupil_24 : decode cX11_pupil 24 = .ok (.iconst (-1), 1) := by decide +kernel
theorem dX11_pupil_25 : decode cX11_pupil 25 = .ok (.ireturn, 1) := by decide +kernel
theorem dX11_pupil_26 : decode cX11_pupil 26 = .ok (.aload_n 0, 1) := by decide +kernel
theorem dX11_pupil_27 : decode cX11_pupil 27 = .ok (.iload_n 2, 1) := by decide +kernel
theorem dX11_pupil_28 : decode cX11_pupil 28 = .ok (.iload_n 3, 1) := by decide +kernel
theorem dX11_pupil_29 : decode cX11_pupil 29 = .ok (.invokevirtual 168, 3) := by decide +kernel
theorem dX11_pupil_32 : decode cX11_pupil 32 = .ok (.istore 4, 2) := by decide +kernel
theorem dX11_pupil_34 : decode cX11_pupil 34 = .ok (.aload_n 0, 1) := by decide +kernel
theorem dX11_pupil_35 : decode cX11_pupil 35 = .ok (.iload_n 2, 1) := by decide +kernel
theorem dX11_pupil_36 : decode cX11_pupil 36 = .ok (.iload 4, 2) := by decide +kernel
theorem dX11_pupil_38 : decode cX11_pupil 38 = .ok (.invokevirtual 144, 3) := by decide +kernel
theorem dX11_pupil_41 : decode cX11_pupil 41 = .ok (.astore 5, 2) := by decide +kernel
theorem dX11_pupil_43 : decode cX11_pupil 43 = .ok (.aload 5, 2) := by decide +kernel
theorem dX11_pupil_45 : decode cX11_pupil 45 = .ok (.ifnonnull 6, 3) := by decide +kernel
theorem dX11_pupil_48 : decode cX11_pupil 48 = .ok (.bipush (-2), 2) := by decide +kernel
theorem dX11_pupil_50 : decode cX11_pupil 50 = .ok (.ireturn, 1) := by decide +kernel
theorem dX11_pupil_51 : decode cX11_pupil 51 = .ok (.aload_n 0, 1) := by decide +kernel
theorem dX11_pupil_52 : decode cX11_pupil 52 = .ok (.getfield 48, 3) := by decide +kernel
theorem dX11_pupil_55 : decode cX11_pupil 55 = .ok (.bipush 12, 2) := by decide +kernel
theorem dX11_pupil_57 : decode cX11_pupil 57 = .ok (.if_icmp .lt 6, 3) := by decide +kernel
theorem dX11_pupil_60 : decode cX11_pupil 60 = .ok (.bipush (-3), 2) := by decide +kernel
theorem dX11_pupil_62 : decode cX11_pupil 62 = .ok (.ireturn, 1) := by decide +kernel
theorem dX11_pupil_63 : decode cX11_pupil 63 = .ok (.aload_n 0, 1) := by decide +kernel
theorem dX11_pupil_64 : decode cX11_pupil 64 = .ok (.getfield 44, 3) := by decide +kernel
theorem dX11_pupil_67 : decode cX11_pupil 67 = .ok (.aload_n 0, 1) := by decide +kernel
theorem dX11_pupil_68 : decode cX11_pupil 68 = .ok (.getfield 48, 3) := by decide +kernel
theorem dX11_pupil_71 : decode cX11_pupil 71 = .ok (.new 42, 3) := by decide +kernel
theorem dX11_pupil_74 : decode cX11_pupil 74 = .ok (.dup, 1) := by decide +kernel
theorem dX11_pupil_75 : decode cX11_pupil 75 = .ok (.iload_n 1, 1) := by decide +kernel
theorem dX11_pupil_76 : decode cX11_pupil 76 = .ok (.iload_n 3, 1) := by decide +kernel
theorem dX11_pupil_77 : decode cX11_pupil 77 = .ok (.iload_n 2, 1) := by decide +kernel
theorem dX11_pupil_78 : decode cX11_pupil 78 = .ok (.iload 4, 2) := by decide +kernel
theorem dX11_pupil_80 : decode cX11_pupil 80 = .ok (.aload 5, 2) := by decide +kernel
theorem dX11_pupil_82 : decode cX11_pupil 82 = .ok (.invokespecial 172, 3) := by decide +kernel
theorem dX11_pupil_85 : decode cX11_pupil 85 = .ok (.aastore, 1) := by decide +kernel
theorem dX11_pupil_86 : decode cX11_pupil 86 = .ok (.aload_n 0, 1) := by decide +kernel
theorem dX11_pupil_87 : decode cX11_pupil 87 = .ok (.dup, 1) := by decide +kernel
theorem dX11_pupil_88 : decode cX11_pupil 88 = .ok (.getfield 48, 3) := by decide +kernel
theorem dX11_pupil_91 : decode cX11_pupil 91 = .ok (.iconst 1, 1) := by decide +kernel
theorem dX11_pupil_92 : decode cX11_pupil 92 = .ok (.iadd, 1) := by decide +kernel
theorem dX11_pupil_93 : decode cX11_pupil 93 = .ok (.putfield 48, 3) := by decide +kernel
theorem dX11_pupil_96 : decode cX11_pupil 96 = .ok (.aload_n 0, 1) := by decide +kernel
theorem dX11_pupil_97 : decode cX11_pupil 97 = .ok (.getfield 48, 3) := by decide +kernel
theorem dX11_pupil_100 : decode cX11_pupil 100 = .ok (.iconst 1, 1) := by decide +kernel
theorem dX11_pupil_101 : decode cX11_pupil 101 = .ok (.isub, 1) := by decide +kernel
theorem dX11_pupil_102 : decode cX11_pupil 102 = .ok (.ireturn, 1) := by decide +kernel
theorem dX11_who_0 : decode cX11_who 0 = .ok (.aload_n 0, 1) := by decide +kernel
theorem dX11_who_1 : decode cX11_who 1 = .ok (.iload_n 1, 1) := by decide +kernel
theorem dX11_who_2 : decode cX11_who 2 = .ok (.invokevirtual 175, 3) := by decide +kernel
theorem dX11_who_5 : decode cX11_who 5 = .ok (.astore_n 3, 1) := by decide +kernel
theorem dX11_who_6 : decode cX11_who 6 = .ok (.aload_n 3, 1) := by decide +kernel
theorem dX11_who_7 : decode cX11_who 7 = .ok (.ifnonnull 5, 3) := by decide +kernel
theorem dX11_who_10 : decode cX11_who 10 = .ok (.iconst (-1), 1) := by decide +kernel
theorem dX11_who_11 : decode cX11_who 11 = .ok (.ireturn, 1) := by decide +kernel
theorem dX11_who_12 : decode cX11_who 12 = .ok (.iload_n 2, 1) := by decide +kernel
theorem dX11_who_13 : decode cX11_who 13 = .ok (.tableswitch 85 0 6 #[43, 48, 53, 58, 63, 68, 73], 43) := by decide +kernel
theorem dX11_who_56 : decode cX11_who 56 = .ok (.aload_n 3, 1) := by decide +kernel
theorem dX11_who_57 : decode cX11_who 57 = .ok (.getfield 179, 3) := by decide +kernel
theorem dX11_who_60 : decode cX11_who 60 = .ok (.ireturn, 1) := by decide +kernel
theorem dX11_who_61 : decode cX11_who 61 = .ok (.aload_n 3, 1) := by decide +kernel
theorem dX11_who_62 : decode cX11_who 62 = .ok (.getfield 180, 3) := by decide +kernel
theorem dX11_who_65 : decode cX11_who 65 = .ok (.ireturn, 1) := by decide +kernel
theorem dX11_who_66 : decode cX11_who 66 = .ok (.aload_n 3, 1) := by decide +kernel
theorem dX11_who_67 : decode cX11_who 67 = .ok (.getfield 183, 3) := by decide +kernel
theorem dX11_who_70 : decode cX11_who 70 = .ok (.ireturn, 1) := by decide +kernel
theorem dX11_who_71 : decode cX11_who 71 = .ok (.aload_n 3, 1) := by decide +kernel
theorem dX11_who_72 : decode cX11_who 72 = .ok (.getfield 186, 3) := by decide +kernel
theorem dX11_who_75 : decode cX11_who 75 = .ok (.ireturn, 1) := by decide +kernel
theorem dX11_who_76 : decode cX11_who 76 = .ok (.aload_n 3, 1) := by decide +kernel
theorem dX11_who_77 : decode cX11_who 77 = .ok (.getfield 189, 3) := by decide +kernel
theorem dX11_who_80 : decode cX11_who 80 = .ok (.ireturn, 1) := by decide +kernel
theorem dX11_who_81 : decode cX11_who 81 = .ok (.aload_n 3, 1) := by decide +kernel
theorem dX11_who_82 : decode cX11_who 82 = .ok (.getfield 192, 3) := by decide +kernel
theorem dX11_who_85 : decode cX11_who 85 = .ok (.ireturn, 1) := by decide +kernel
theorem dX11_who_86 : decode cX11_who 86 = .ok (.aload_n 0, 1) := by decide +kernel
theorem dX11_who_87 : decode cX11_who 87 = .ok (.getfield 79, 3) := by decide +kernel
theorem dX11_who_90 : decode cX11_who 90 = .ok (.iload_n 1, 1) := by decide +kernel
theorem dX11_who_91 : decode cX11_who 91 = .ok (.sipush 3999, 3) := by decide +kernel
theorem dX11_who_94 : decode cX11_who 94 = .ok (.invokevirtual 195, 3) := by decide +kernel
theorem dX11_who_97 : decode cX11_who 97 = .ok (.ireturn, 1) := by decide +kernel
theorem dX11_who_98 : decode cX11_who 98 = .ok (.iconst (-1), 1) := by decide +kernel
theorem dX11_who_99 : decode cX11_who 99 = .ok (.ireturn, 1) := by decide +kernel
theorem dX11_habit_0 : decode cX11_habit 0 = .ok (.aload_n 0, 1) := by decide +kernel
theorem dX11_habit_1 : decode cX11_habit 1 = .ok (.iload_n 1, 1) := by decide +kernel
theorem dX11_habit_2 : decode cX11_habit 2 = .ok (.invokevirtual 175, 3) := by decide +kernel
theorem dX11_habit_5 : decode cX11_habit 5 = .ok (.astore_n 3, 1) := by decide +kernel
theorem dX11_habit_6 : decode cX11_habit 6 = .ok (.aload_n 3, 1) := by decide +kernel
theorem dX11_habit_7 : decode cX11_habit 7 = .ok (.ifnull 12, 3) := by decide +kernel
theorem dX11_habit_10 : decode cX11_habit 10 = .ok (.iload_n 2, 1) := by decide +kernel
theorem dX11_habit_11 : decode cX11_habit 11 = .ok (.bipush 61, 2) := by decide +kernel
theorem dX11_habit_13 : decode cX11_habit 13 = .ok (.invokestatic 122, 3) := by decide +kernel
theorem dX11_habit_16 : decode cX11_habit 16 = .ok (.ifCond .ne 5, 3) := by decide +kernel
theorem dX11_habit_19 : decode cX11_habit 19 = .ok (.iconst (-1), 1) := by decide +kernel
theorem dX11_habit_20 : decode cX11_habit 20 = .ok (.ireturn, 1) := by decide +kernel
theorem dX11_habit_21 : decode cX11_habit 21 = .ok (.aload_n 3, 1) := by decide +kernel
theorem dX11_habit_22 : decode cX11_habit 22 = .ok (.getfield 189, 3) := by decide +kernel
theorem dX11_habit_25 : decode cX11_habit 25 = .ok (.istore 4, 2) := by decide +kernel
theorem dX11_habit_27 : decode cX11_habit 27 = .ok (.aload_n 3, 1) := by decide +kernel
theorem dX11_habit_28 : decode cX11_habit 28 = .ok (.iload_n 2, 1) := by decide +kernel
theorem dX11_habit_29 : decode cX11_habit 29 = .ok (.putfield 189, 3) := by decide +kernel
theorem dX11_habit_32 : decode cX11_habit 32 = .ok (.iload 4, 2) := by decide +kernel
theorem dX11_habit_34 : decode cX11_habit 34 = .ok (.ireturn, 1) := by decide +kernel
theorem dX11_best_0 : decode cX11_best 0 = .ok (.aload_n 0, 1) := by decide +kernel
theorem dX11_best_1 : decode cX11_best 1 = .ok (.iload_n 1, 1) := by decide +kernel
theorem dX11_best_2 : decode cX11_best 2 = .ok (.invokevirtual 175, 3) := by decide +kernel
theorem dX11_best_5 : decode cX11_best 5 = .ok (.astore 4, 2) := by decide +kernel
theorem dX11_best_7 : decode cX11_best 7 = .ok (.aload 4, 2) := by decide +kernel
theorem dX11_best_9 : decode cX11_best 9 = .ok (.ifnull 22, 3) := by decide +kernel
theorem dX11_best_12 : decode cX11_best 12 = .ok (.aload 4, 2) := by decide +kernel
theorem dX11_best_14 : decode cX11_best 14 = .ok (.getfield 198, 3) := by decide +kernel
theorem dX11_best_17 : decode cX11_best 17 = .ok (.iload_n 2, 1) := by decide +kernel
theorem dX11_best_18 : decode cX11_best 18 = .ok (.invokevirtual 156, 3) := by decide +kernel
theorem dX11_best_21 : decode cX11_best 21 = .ok (.ifCond .eq 10, 3) := by decide +kernel
theorem dX11_best_24 : decode cX11_best 24 = .ok (.iload_n 3, 1) := by decide +kernel
theorem dX11_best_25 : decode cX11_best 25 = .ok (.invokestatic 126, 3) := by decide +kernel
theorem dX11_best_28 : decode cX11_best 28 = .ok (.ifCond .ne 5, 3) := by decide +kernel
theorem dX11_best_31 : decode cX11_best 31 = .ok (.iconst (-1), 1) := by decide +kernel
theorem dX11_best_32 : decode cX11_best 32 = .ok (.ireturn, 1) := by decide +kernel
theorem dX11_best_33 : decode cX11_best 33 = .ok (.aload_n 0, 1) := by decide +kernel
theorem dX11_best_34 : decode cX11_best 34 = .ok (.iload_n 1, 1) := by decide +kernel
theorem dX11_best_35 : decode cX11_best 35 = .ok (.aload 4, 2) := by decide +kernel
theorem dX11_best_37 : decode cX11_best 37 = .ok (.getfield 198, 3) := by decide +kernel
theorem dX11_best_40 : decode cX11_best 40 = .ok (.getfield 159, 3) := by decide +kernel
theorem dX11_best_43 : decode cX11_best 43 = .ok (.iload_n 2, 1) := by decide +kernel
theorem dX11_best_44 : decode cX11_best 44 = .ok (.iaload, 1) := by decide +kernel
theorem dX11_best_45 : decode cX11_best 45 = .ok (.iload_n 3, 1) := by decide +kernel
theorem dX11_best_46 : decode cX11_best 46 = .ok (.invokevirtual 201, 3) := by decide +kernel
theorem dX11_best_49 : decode cX11_best 49 = .ok (.istore 5, 2) := by decide +kernel
theorem dX11_best_51 : decode cX11_best 51 = .ok (.iload 5, 2) := by decide +kernel
theorem dX11_best_53 : decode cX11_best 53 = .ok (.ifCond .ge 8, 3) := by decide +kernel
theorem dX11_best_56 : decode cX11_best 56 = .ok (.bipush (-4), 2) := by decide +kernel
theorem dX11_best_58 : decode cX11_best 58 = .ok (.goto 5, 3) := by decide +kernel
theorem dX11_best_61 : decode cX11_best 61 = .ok (.iload 5, 2) := by decide +kernel
theorem dX11_best_63 : decode cX11_best 63 = .ok (.ireturn, 1) := by decide +kernel
theorem dX11_may_0 : decode cX11_may 0 = .ok (.aload_n 0, 1) := by decide +kernel
theorem dX11_may_1 : decode cX11_may 1 = .ok (.iload_n 1, 1) := by decide +kernel
theorem dX11_may_2 : decode cX11_may 2 = .ok (.invokevirtual 175, 3) := by decide +kernel
theorem dX11_may_5 : decode cX11_may 5 = .ok (.astore_n 3, 1) := by decide +kernel
theorem dX11_may_6 : decode cX11_may 6 = .ok (.aload_n 3, 1) := by decide +kernel
theorem dX11_may_7 : decode cX11_may 7 = .ok (.ifnull 11, 3) := by decide +kernel
theorem dX11_may_10 : decode cX11_may 10 = .ok (.iload_n 2, 1) := by decide +kernel
theorem dX11_may_11 : decode cX11_may 11 = .ok (.iconst 3, 1) := by decide +kernel
theorem dX11_may_12 : decode cX11_may 12 = .ok (.invokestatic 122, 3) := by decide +kernel
theorem dX11_may_15 : decode cX11_may 15 = .ok (.ifCond .ne 5, 3) := by decide +kernel
theorem dX11_may_18 : decode cX11_may 18 = .ok (.iconst (-1), 1) := by decide +kernel
theorem dX11_may_19 : decode cX11_may 19 = .ok (.ireturn, 1) := by decide +kernel
theorem dX11_may_20 : decode cX11_may 20 = .ok (.aload_n 0, 1) := by decide +kernel
theorem dX11_may_21 : decode cX11_may 21 = .ok (.iload_n 1, 1) := by decide +kernel
theorem dX11_may_22 : decode cX11_may 22 = .ok (.aload_n 3, 1) := by decide +kernel
theorem dX11_may_23 : decode cX11_may 23 = .ok (.getfield 198, 3) := by decide +kernel
theorem dX11_may_26 : decode cX11_may 26 = .ok (.invokevirtual 205, 3) := by decide +kernel
theorem dX11_may_29 : decode cX11_may 29 = .ok (.iload_n 2, 1) := by decide +kernel
theorem dX11_may_30 : decode cX11_may 30 = .ok (.ifCond .ne 15, 3) := by decide +kernel
theorem dX11_may_33 : decode cX11_may 33 = .ok (.aload_n 3, 1) := by decide +kernel
theorem dX11_may_34 : decode cX11_may 34 = .ok (.getfield 198, 3) := by decide +kernel
theorem dX11_may_37 : decode cX11_may 37 = .ok (.aload_n 0, 1) := by decide +kernel
theorem dX11_may_38 : decode cX11_may 38 = .ok (.getfield 110, 3) := by decide +kernel
theorem dX11_may_41 : decode cX11_may 41 = .ok (.invokevirtual 209, 3) := by decide +kernel
theorem dX11_may_44 : decode cX11_may 44 = .ok (.ireturn, 1) := by decide +kernel
theorem dX11_may_45 : decode cX11_may 45 = .ok (.aload_n 3, 1) := by decide +kernel
theorem dX11_may_46 : decode cX11_may 46 = .ok (.getfield 198, 3) := by decide +kernel
theorem dX11_may_49 : decode cX11_may 49 = .ok (.aload_n 0, 1) := by decide +kernel
theorem dX11_may_50 : decode cX11_may 50 = .ok (.getfield 110, 3) := by decide +kernel
theorem dX11_may_53 : decode cX11_may 53 = .ok (.invokevirtual 213, 3) := by decide +kernel
theorem dX11_may_56 : decode cX11_may 56 = .ok (.istore 4, 2) := by decide +kernel
theorem dX11_may_58 : decode cX11_may 58 = .ok (.iload_n 2, 1) := by decide +kernel
theorem dX11_may_59 : decode cX11_may 59 = .ok (.iconst 1, 1) := by decide +kernel
theorem dX11_may_60 : decode cX11_may 60 = .ok (.if_icmp .ne 8, 3) := by decide +kernel
theorem dX11_may_63 : decode cX11_may 63 = .ok (.iload 4, 2) := by decide +kernel
theorem dX11_may_65 : decode cX11_may 65 = .ok (.goto 15, 3) := by decide +kernel
theorem dX11_may_68 : decode cX11_may 68 = .ok (.aload_n 3, 1) := by decide +kernel
theorem dX11_may_69 : decode cX11_may 69 = .ok (.getfield 198, 3) := by decide +kernel
theorem dX11_may_72 : decode cX11_may 72 = .ok (.getfield 148, 3) := by decide +kernel
theorem dX11_may_75 : decode cX11_may 75 = .ok (.iload 4, 2) := by decide +kernel
theorem dX11_may_77 : decode cX11_may 77 = .ok (.iconst (-1), 1) := by decide +kernel
theorem dX11_may_78 : decode cX11_may 78 = .ok (.ixor, 1) := by decide +kernel
theorem dX11_may_79 : decode cX11_may 79 = .ok (.iand, 1) := by decide +kernel
theorem dX11_may_80 : decode cX11_may 80 = .ok (.ireturn, 1) := by decide +kernel
theorem dX11_lean_0 : decode cX11_lean 0 = .ok (.aload_n 0, 1) := by decide +kernel
theorem dX11_lean_1 : decode cX11_lean 1 = .ok (.iload_n 1, 1) := by decide +kernel
theorem dX11_lean_2 : decode cX11_lean 2 = .ok (.invokevirtual 175, 3) := by decide +kernel
theorem dX11_lean_5 : decode cX11_lean 5 = .ok (.astore_n 3, 1) := by decide +kernel
theorem dX11_lean_6 : decode cX11_lean 6 = .ok (.aload_n 3, 1) := by decide +kernel
theorem dX11_lean_7 : decode cX11_lean 7 = .ok (.ifnull 14, 3) := by decide +kernel
theorem dX11_lean_10 : decode cX11_lean 10 = .ok (.aload_n 3, 1) := by decide +kernel
theorem dX11_lean_11 : decode cX11_lean 11 = .ok (.getfield 198, 3) := by decide +kernel
theorem dX11_lean_14 : decode cX11_lean 14 = .ok (.iload_n 2, 1) := by decide +kernel
theorem dX11_lean_15 : decode cX11_lean 15 = .ok (.invokevirtual 156, 3) := by decide +kernel
theorem dX11_lean_18 : decode cX11_lean 18 = .ok (.ifCond .ne 5, 3) := by decide +kernel
theorem dX11_lean_21 : decode cX11_lean 21 = .ok (.iconst (-1), 1) := by decide +kernel
theorem dX11_lean_22 : decode cX11_lean 22 = .ok (.ireturn, 1) := by decide +kernel
theorem dX11_lean_23 : decode cX11_lean 23 = .ok (.aload_n 0, 1) := by decide +kernel
theorem dX11_lean_24 : decode cX11_lean 24 = .ok (.iload_n 1, 1) := by decide +kernel
theorem dX11_lean_25 : decode cX11_lean 25 = .ok (.aload_n 3, 1) := by decide +kernel
theorem dX11_lean_26 : decode cX11_lean 26 = .ok (.getfield 198, 3) := by decide +kernel
theorem dX11_lean_29 : decode cX11_lean 29 = .ok (.invokevirtual 205, 3) := by decide +kernel
theorem dX11_lean_32 : decode cX11_lean 32 = .ok (.aload_n 0, 1) := by decide +kernel
theorem dX11_lean_33 : decode cX11_lean 33 = .ok (.getfield 106, 3) := by decide +kernel
theorem dX11_lean_36 : decode cX11_lean 36 = .ok (.aload_n 3, 1) := by decide +kernel
theorem dX11_lean_37 : decode cX11_lean 37 = .ok (.getfield 198, 3) := by decide +kernel
theorem dX11_lean_40 : decode cX11_lean 40 = .ok (.aload_n 0, 1) := by decide +kernel
theorem dX11_lean_41 : decode cX11_lean 41 = .ok (.getfield 110, 3) := by decide +kernel
theorem dX11_lean_44 : decode cX11_lean 44 = .ok (.iload_n 2, 1) := by decide +kernel
theorem dX11_lean_45 : decode cX11_lean 45 = .ok (.invokevirtual 216, 3) := by decide +kernel
theorem dX11_lean_48 : decode cX11_lean 48 = .ok (.ireturn, 1) := by decide +kernel
theorem dX11_post_0 : decode cX11_post 0 = .ok (.iload_n 1, 1) := by decide +kernel
theorem dX11_post_1 : decode cX11_post 1 = .ok (.bipush 6, 2) := by decide +kernel
theorem dX11_post_3 : decode cX11_post 3 = .ok (.invokestatic 122, 3) := by decide +kernel
theorem dX11_post_6 : decode cX11_post 6 = .ok (.ifCond .eq 28, 3) := by decide +kernel
theorem dX11_post_9 : decode cX11_post 9 = .ok (.iload_n 2, 1) := by decide +kernel
theorem dX11_post_10 : decode cX11_post 10 = .ok (.iconst 1, 1) := by decide +kernel
theorem dX11_post_11 : decode cX11_post 11 = .ok (.if_icmp .lt 23, 3) := by decide +kernel
theorem dX11_post_14 : decode cX11_post 14 = .ok (.iload_n 2, 1) := by decide +kernel
theorem dX11_post_15 : decode cX11_post 15 = .ok (.bipush 60, 2) := by decide +kernel
theorem dX11_post_17 : decode cX11_post 17 = .ok (.if_icmp .gt 17, 3) := by decide +kernel
theorem dX11_post_20 : decode cX11_post 20 = .ok (.iload_n 3, 1) := by decide +kernel
theorem dX11_post_21 : decode cX11_post 21 = .ok (.bipush 10, 2) := by decide +kernel
theorem dX11_post_23 : decode cX11_post 23 = .ok (.invokestatic 122, 3) := by decide +kernel
theorem dX11_post_26 : decode cX11_post 26 = .ok (.ifCond .eq 8, 3) := by decide +kernel
theorem dX11_post_29 : decode cX11_post 29 = .ok (.iload_n 3, 1) := by decide +kernel
theorem dX11_post_30 : decode cX11_post 30 = .ok (.iconst 1, 1) := by decide +kernel
theorem dX11_post_31 : decode cX11_post 31 = .ok (.if_icmp .ne 5, 3) := by decide +kernel
theorem dX11_post_34 : decode cX11_post 34 = .ok (.iconst (-1), 1) := by decide +kernel
theorem dX11_post_35 : decode cX11_post 35 = .ok (.ireturn, 1) := by decide +kernel
theorem dX11_post_36 : decode cX11_post 36 = .ok (.aload_n 0, 1) := by decide +kernel
theorem dX11_post_37 : decode cX11_post 37 = .ok (.getfield 72, 3) := by decide +kernel
theorem dX11_post_40 : decode cX11_post 40 = .ok (.iload_n 1, 1) := by decide +kernel
theorem dX11_post_41 : decode cX11_post 41 = .ok (.aaload, 1) := by decide +kernel
theorem dX11_post_42 : decode cX11_post 42 = .ok (.iload_n 2, 1) := by decide +kernel
theorem dX11_post_43 : decode cX11_post 43 = .ok (.putfield 220, 3) := by decide +kernel
theorem dX11_post_46 : decode cX11_post 46 = .ok (.aload_n 0, 1) := by decide +kernel
theorem dX11_post_47 : decode cX11_post 47 = .ok (.getfield 72, 3) := by decide +kernel
theorem dX11_post_50 : decode cX11_post 50 = .ok (.iload_n 1, 1) := by decide +kernel
theorem dX11_post_51 : decode cX11_post 51 = .ok (.aaload, 1) := by decide +kernel
theorem dX11_post_52 : decode cX11_post 52 = .ok (.iload_n 3, 1) := by decide +kernel
theorem dX11_post_53 : decode cX11_post 53 = .ok (.putfield 223, 3) := by decide +kernel
theorem dX11_post_56 : decode cX11_post 56 = .ok (.aload_n 0, 1) := by decide +kernel
theorem dX11_post_57 : decode cX11_post 57 = .ok (.getfield 72, 3) := by decide +kernel
theorem dX11_post_60 : decode cX11_post 60 = .ok (.iload_n 1, 1) := by decide +kernel
theorem dX11_post_61 : decode cX11_post 61 = .ok (.aaload, 1) := by decide +kernel
theorem dX11_post_62 : decode cX11_post 62 = .ok (.iconst 0, 1) := by decide +kernel
theorem dX11_post_63 : decode cX11_post 63 = .ok (.putfield 226, 3) := by decide +kernel
theorem dX11_post_66 : decode cX11_post 66 = .ok (.iconst 1, 1) := by decide +kernel
theorem dX11_post_67 : decode cX11_post 67 = .ok (.ireturn, 1) := by decide +kernel
theorem dX11_send_0 : decode cX11_send 0 = .ok (.aload_n 0, 1) := by decide +kernel
theorem dX11_send_1 : decode cX11_send 1 = .ok (.iload_n 1, 1) := by decide +kernel
theorem dX11_send_2 : decode cX11_send 2 = .ok (.invokevirtual 175, 3) := by decide +kernel
theorem dX11_send_5 : decode cX11_send 5 = .ok (.astore 4, 2) := by decide +kernel
theorem dX11_send_7 : decode cX11_send 7 = .ok (.aload 4, 2) := by decide +kernel
theorem dX11_send_9 : decode cX11_send 9 = .ok (.ifnull 31, 3) := by decide +kernel
theorem dX11_send_12 : decode cX11_send 12 = .ok (.aload 4, 2) := by decide +kernel
theorem dX11_send_14 : decode cX11_send 14 = .ok (.getfield 198, 3) := by decide +kernel
theorem dX11_send_17 : decode cX11_send 17 = .ok (.iload_n 2, 1) := by decide +kernel
theorem dX11_send_18 : decode cX11_send 18 = .ok (.invokevirtual 156, 3) := by decide +kernel
theorem dX11_send_21 : decode cX11_send 21 = .ok (.ifCond .eq 19, 3) := by decide +kernel
theorem dX11_send_24 : decode cX11_send 24 = .ok (.iload_n 3, 1) := by decide +kernel
theorem dX11_send_25 : decode cX11_send 25 = .ok (.invokestatic 126, 3) := by decide +kernel
theorem dX11_send_28 : decode cX11_send 28 = .ok (.ifCond .eq 12, 3) := by decide +kernel
theorem dX11_send_31 : decode cX11_send 31 = .ok (.iload_n 3, 1) := by decide +kernel
theorem dX11_send_32 : decode cX11_send 32 = .ok (.aload 4, 2) := by decide +kernel
theorem dX11_send_34 : decode cX11_send 34 = .ok (.getfield 186, 3) := by decide +kernel
theorem dX11_send_37 : decode cX11_send 37 = .ok (.if_icmp .ge 5, 3) := by decide +kernel
theorem dX11_send_40 : decode cX11_send 40 = .ok (.iconst (-1), 1) := by decide +kernel
theorem dX11_send_41 : decode cX11_send 41 = .ok (.ireturn, 1) := by decide +kernel
theorem dX11_send_42 : decode cX11_send 42 = .ok (.aload_n 0, 1) := by decide +kernel
theorem dX11_send_43 : decode cX11_send 43 = .ok (.iload_n 1, 1) := by decide +kernel
theorem dX11_send_44 : decode cX11_send 44 = .ok (.aload 4, 2) := by decide +kernel
theorem dX11_send_46 : decode cX11_send 46 = .ok (.getfield 198, 3) := by decide +kernel
theorem dX11_send_49 : decode cX11_send 49 = .ok (.invokevirtual 205, 3) := by decide +kernel
theorem dX11_send_52 : decode cX11_send 52 = .ok (.aload 4, 2) := by decide +kernel
theorem dX11_send_54 : decode cX11_send 54 = .ok (.getfield 198, 3) := by decide +kernel
theorem dX11_send_57 : decode cX11_send 57 = .ok (.aload_n 0, 1) := by decide +kernel
theorem dX11_send_58 : decode cX11_send 58 = .ok (.getfield 110, 3) := by decide +kernel
theorem dX11_send_61 : decode cX11_send 61 = .ok (.invokevirtual 209, 3) := by decide +kernel
theorem dX11_send_64 : decode cX11_send 64 = .ok (.iload_n 2, 1) := by decide +kernel
theorem dX11_send_65 : decode cX11_send 65 = .ok (.ishr, 1) := by decide +kernel
theorem dX11_send_66 : decode cX11_send 66 = .ok (.iconst 1, 1) := by decide +kernel
theorem dX11_send_67 : decode cX11_send 67 = .ok (.iand, 1) := by decide +kernel
theorem dX11_send_68 : decode cX11_send 68 = .ok (.ifCond .eq 12, 3) := by decide +kernel
theorem dX11_send_71 : decode cX11_send 71 = .ok (.aload 4, 2) := by decide +kernel
theorem dX11_send_73 : decode cX11_send 73 = .ok (.iload_n 3, 1) := by decide +kernel
theorem dX11_send_74 : decode cX11_send 74 = .ok (.invokevirtual 229, 3) := by decide +kernel
theorem dX11_send_77 : decode cX11_send 77 = .ok (.ifCond .eq 6, 3) := by decide +kernel
theorem dX11_send_80 : decode cX11_send 80 = .ok (.bipush (-2), 2) := by decide +kernel
theorem dX11_send_82 : decode cX11_send 82 = .ok (.ireturn, 1) := by decide +kernel
theorem dX11_send_83 : decode cX11_send 83 = .ok (.aload_n 0, 1) := by decide +kernel
theorem dX11_send_84 : decode cX11_send 84 = .ok (.getfield 67, 3) := by decide +kernel
theorem dX11_send_87 : decode cX11_send 87 = .ok (.bipush 80, 2) := by decide +kernel
theorem dX11_send_89 : decode cX11_send 89 = .ok (.if_icmp .lt 6, 3) := by decide +kernel
theorem dX11_send_92 : decode cX11_send 92 = .ok (.bipush (-3), 2) := by decide +kernel
theorem dX11_send_94 : decode cX11_send 94 = .ok (.ireturn, 1) := by decide +kernel
theorem dX11_send_95 : decode cX11_send 95 = .ok (.new 61, 3) := by decide +kernel
theorem dX11_send_98 : decode cX11_send 98 = .ok (.dup, 1) := by decide +kernel
theorem dX11_send_99 : decode cX11_send 99 = .ok (.iload_n 1, 1) := by decide +kernel
theorem dX11_send_100 : decode cX11_send 100 = .ok (.aload 4, 2) := by decide +kernel
theorem dX11_send_102 : decode cX11_send 102 = .ok (.getfield 198, 3) := by decide +kernel
theorem dX11_send_105 : decode cX11_send 105 = .ok (.getfield 159, 3) := by decide +kernel
theorem dX11_send_108 : decode cX11_send 108 = .ok (.iload_n 2, 1) := by decide +kernel
theorem dX11_send_109 : decode cX11_send 109 = .ok (.iaload, 1) := by decide +kernel
theorem dX11_send_110 : decode cX11_send 110 = .ok (.iload_n 2, 1) := by decide +kernel
theorem dX11_send_111 : decode cX11_send 111 = .ok (.iload_n 3, 1) := by decide +kernel
theorem dX11_send_112 : decode cX11_send 112 = .ok (.invokespecial 232, 3) := by decide +kernel
theorem dX11_send_115 : decode cX11_send 115 = .ok (.astore 5, 2) := by decide +kernel
theorem dX11_send_117 : decode cX11_send 117 = .ok (.aload_n 0, 1) := by decide +kernel
theorem dX11_send_118 : decode cX11_send 118 = .ok (.getfield 63, 3) := by decide +kernel
theorem dX11_send_121 : decode cX11_send 121 = .ok (.aload_n 0, 1) := by decide +kernel
theorem dX11_send_122 : decode cX11_send 122 = .ok (.getfield 67, 3) := by decide +kernel
theorem dX11_send_125 : decode cX11_send 125 = .ok (.aload 5, 2) := by decide +kernel
theorem dX11_send_127 : decode cX11_send 127 = .ok (.aastore, 1) := by decide +kernel
theorem dX11_send_128 : decode cX11_send 128 = .ok (.aload_n 0, 1) := by decide +kernel
theorem dX11_send_129 : decode cX11_send 129 = .ok (.dup, 1) := by decide +kernel
theorem dX11_send_130 : decode cX11_send 130 = .ok (.getfield 67, 3) := by decide +kernel
theorem dX11_send_133 : decode cX11_send 133 = .ok (.iconst 1, 1) := by decide +kernel
theorem dX11_send_134 : decode cX11_send 134 = .ok (.iadd, 1) := by decide +kernel
theorem dX11_send_135 : decode cX11_send 135 = .ok (.putfield 67, 3) := by decide +kernel
theorem dX11_send_138 : decode cX11_send 138 = .ok (.aload_n 0, 1) := by decide +kernel
theorem dX11_send_139 : decode cX11_send 139 = .ok (.aload 5, 2) := by decide +kernel
theorem dX11_send_141 : decode cX11_send 141 = .ok (.aload 4, 2) := by decide +kernel
theorem dX11_send_143 : decode cX11_send 143 = .ok (.iload_n 3, 1) := by decide +kernel
theorem dX11_send_144 : decode cX11_send 144 = .ok (.invokevirtual 235, 3) := by decide +kernel
theorem dX11_send_147 : decode cX11_send 147 = .ok (.pop, 1) := by decide +kernel
theorem dX11_send_148 : decode cX11_send 148 = .ok (.aload_n 0, 1) := by decide +kernel
theorem dX11_send_149 : decode cX11_send 149 = .ok (.getfield 67, 3) := by decide +kernel
theorem dX11_send_152 : decode cX11_send 152 = .ok (.iconst 1, 1) := by decide +kernel
theorem dX11_send_153 : decode cX11_send 153 = .ok (.isub, 1) := by decide +kernel
theorem dX11_send_154 : decode cX11_send 154 = .ok (.ireturn, 1) := by decide +kernel
theorem dX11_answer_0 : decode cX11_answer 0 = .ok (.aload_n 0, 1) := by decide +kernel
theorem dX11_answer_1 : decode cX11_answer 1 = .ok (.iload_n 1, 1) := by decide +kernel
theorem dX11_answer_2 : decode cX11_answer 2 = .ok (.invokevirtual 239, 3) := by decide +kernel
theorem dX11_answer_5 : decode cX11_answer 5 = .ok (.astore_n 3, 1) := by decide +kernel
theorem dX11_answer_6 : decode cX11_answer 6 = .ok (.aload_n 3, 1) := by decide +kernel
theorem dX11_answer_7 : decode cX11_answer 7 = .ok (.ifnull 10, 3) := by decide +kernel
theorem dX11_answer_10 : decode cX11_answer 10 = .ok (.iload_n 2, 1) := by decide +kernel
theorem dX11_answer_11 : decode cX11_answer 11 = .ok (.invokestatic 126, 3) := by decide +kernel
theorem dX11_answer_14 : decode cX11_answer 14 = .ok (.ifCond .ne 5, 3) := by decide +kernel
theorem dX11_answer_17 : decode cX11_answer 17 = .ok (.iconst (-1), 1) := by decide +kernel
theorem dX11_answer_18 : decode cX11_answer 18 = .ok (.ireturn, 1) := by decide +kernel
theorem dX11_answer_19 : decode cX11_answer 19 = .ok (.aload_n 3, 1) := by decide +kernel
theorem dX11_answer_20 : decode cX11_answer 20 = .ok (.getfield 243, 3) := by decide +kernel
theorem dX11_answer_23 : decode cX11_answer 23 = .ok (.iconst 4, 1) := by decide +kernel
theorem dX11_answer_24 : decode cX11_answer 24 = .ok (.if_icmp .ne 6, 3) := by decide +kernel
theorem dX11_answer_27 : decode cX11_answer 27 = .ok (.bipush (-12), 2) := by decide +kernel
theorem dX11_answer_29 : decode cX11_answer 29 = .ok (.ireturn, 1) := by decide +kernel
theorem dX11_answer_30 : decode cX11_answer 30 = .ok (.aload_n 0, 1) := by decide +kernel
theorem dX11_answer_31 : decode cX11_answer 31 = .ok (.aload_n 3, 1) := by decide +kernel
theorem dX11_answer_32 : decode cX11_answer 32 = .ok (.getfield 246, 3) := by decide +kernel
theorem dX11_answer_35 : decode cX11_answer 35 = .ok (.invokevirtual 175, 3) := by decide +kernel
theorem dX11_answer_38 : decode cX11_answer 38 = .ok (.astore 4, 2) := by decide +kernel
theorem dX11_answer_40 : decode cX11_answer 40 = .ok (.aload 4, 2) := by decide +kernel
theorem dX11_answer_42 : decode cX11_answer 42 = .ok (.ifnull 36, 3) := by decide +kernel
theorem dX11_answer_45 : decode cX11_answer 45 = .ok (.aload_n 3, 1) := by decide +kernel
theorem dX11_answer_46 : decode cX11_answer 46 = .ok (.getfield 243, 3) := by decide +kernel
theorem dX11_answer_49 : decode cX11_answer 49 = .ok (.iconst 1, 1) := by decide +kernel
theorem dX11_answer_50 : decode cX11_answer 50 = .ok (.if_icmp .eq 28, 3) := by decide +kernel
theorem dX11_answer_53 : decode cX11_answer 53 = .ok (.aload_n 3, 1) := by decide +kernel
theorem dX11_answer_54 : decode cX11_answer 54 = .ok (.getfield 243, 3) := by decide +kernel
theorem dX11_answer_57 : decode cX11_answer 57 = .ok (.iconst 2, 1) := by decide +kernel
theorem dX11_answer_58 : decode cX11_answer 58 = .ok (.if_icmp .eq 20, 3) := by decide +kernel
theorem dX11_answer_61 : decode cX11_answer 61 = .ok (.aload_n 3, 1) := by decide +kernel
theorem dX11_answer_62 : decode cX11_answer 62 = .ok (.getfield 249, 3) := by decide +kernel
theorem dX11_answer_65 : decode cX11_answer 65 = .ok (.iload_n 2, 1) := by decide +kernel
theorem dX11_answer_66 : decode cX11_answer 66 = .ok (.if_icmp .gt 12, 3) := by decide +kernel
theorem dX11_answer_69 : decode cX11_answer 69 = .ok (.aload 4, 2) := by decide +kernel
theorem dX11_answer_71 : decode cX11_answer 71 = .ok (.iload_n 2, 1) := by decide +kernel
theorem dX11_answer_72 : decode cX11_answer 72 = .ok (.invokevirtual 229, 3) := by decide +kernel
theorem dX11_answer_75 : decode cX11_answer 75 = .ok (.ifCond .eq 6, 3) := by decide +kernel
theorem dX11_answer_78 : decode cX11_answer 78 = .ok (.bipush (-2), 2) := by decide +kernel
theorem dX11_answer_80 : decode cX11_answer 80 = .ok (.ireturn, 1) := by decide +kernel
theorem dX11_answer_81 : decode cX11_answer 81 = .ok (.aload_n 3, 1) := by decide +kernel
theorem dX11_answer_82 : decode cX11_answer 82 = .ok (.iconst 1, 1) := by decide +kernel
theorem dX11_answer_83 : decode cX11_answer 83 = .ok (.putfield 243, 3) := by decide +kernel
theorem dX11_answer_86 : decode cX11_answer 86 = .ok (.aload_n 0, 1) := by decide +kernel
theorem dX11_answer_87 : decode cX11_answer 87 = .ok (.aload_n 3, 1) := by decide +kernel
theorem dX11_answer_88 : decode cX11_answer 88 = .ok (.aload 4, 2) := by decide +kernel
theorem dX11_answer_90 : decode cX11_answer 90 = .ok (.iload_n 2, 1) := by decide +kernel
theorem dX11_answer_91 : decode cX11_answer 91 = .ok (.invokevirtual 235, 3) := by decide +kernel
theorem dX11_answer_94 : decode cX11_answer 94 = .ok (.ireturn, 1) := by decide +kernel
theorem dX11_give_0 : decode cX11_give 0 = .ok (.aload_n 0, 1) := by decide +kernel
theorem dX11_give_1 : decode cX11_give 1 = .ok (.iload_n 1, 1) := by decide +kernel
theorem dX11_give_2 : decode cX11_give 2 = .ok (.invokevirtual 239, 3) := by decide +kernel
theorem dX11_give_5 : decode cX11_give 5 = .ok (.astore 4, 2) := by decide +kernel
theorem dX11_give_7 : decode cX11_give 7 = .ok (.aload_n 0, 1) := by decide +kernel
theorem dX11_give_8 : decode cX11_give 8 = .ok (.iload_n 2, 1) := by decide +kernel
theorem dX11_give_9 : decode cX11_give 9 = .ok (.invokevirtual 252, 3) := by decide +kernel
theorem dX11_give_12 : decode cX11_give 12 = .ok (.astore 5, 2) := by decide +kernel
theorem dX11_give_14 : decode cX11_give 14 = .ok (.aload 4, 2) := by decide +kernel
theorem dX11_give_16 : decode cX11_give 16 = .ok (.ifnull 15, 3) := by decide +kernel
theorem dX11_give_19 : decode cX11_give 19 = .ok (.aload 5, 2) := by decide +kernel
theorem dX11_give_21 : decode cX11_give 21 = .ok (.ifnull 10, 3) := by decide +kernel
theorem dX11_give_24 : decode cX11_give 24 = .ok (.iload_n 3, 1) := by decide +kernel
theorem dX11_give_25 : decode cX11_give 25 = .ok (.invokestatic 126, 3) := by decide +kernel
theorem dX11_give_28 : decode cX11_give 28 = .ok (.ifCond .ne 5, 3) := by decide +kernel
theorem dX11_give_31 : decode cX11_give 31 = .ok (.iconst (-1), 1) := by decide +kernel
theorem dX11_give_32 : decode cX11_give 32 = .ok (.ireturn, 1) := by decide +kernel
theorem dX11_give_33 : decode cX11_give 33 = .ok (.aload 4, 2) := by decide +kernel
theorem dX11_give_35 : decode cX11_give 35 = .ok (.invokevirtual 256, 3) := by decide +kernel
theorem dX11_give_38 : decode cX11_give 38 = .ok (.ifCond .ne 6, 3) := by decide +kernel
theorem dX11_give_41 : decode cX11_give 41 = .ok (.bipush (-12), 2) := by decide +kernel
theorem dX11_give_43 : decode cX11_give 43 = .ok (.ireturn, 1) := by decide +kernel
theorem dX11_give_44 : decode cX11_give 44 = .ok (.aload 4, 2) := by decide +kernel
theorem dX11_give_46 : decode cX11_give 46 = .ok (.iload_n 3, 1) := by decide +kernel
theorem dX11_give_47 : decode cX11_give 47 = .ok (.invokevirtual 260, 3) := by decide +kernel
theorem dX11_give_50 : decode cX11_give 50 = .ok (.ifCond .eq 13, 3) := by decide +kernel
theorem dX11_give_53 : decode cX11_give 53 = .ok (.aload 5, 2) := by decide +kernel
theorem dX11_give_55 : decode cX11_give 55 = .ok (.aload 4, 2) := by decide +kernel
theorem dX11_give_57 : decode cX11_give 57 = .ok (.invokevirtual 263, 3) := by decide +kernel
theorem dX11_give_60 : decode cX11_give 60 = .ok (.ifCond .ne 6, 3) := by decide +kernel
theorem dX11_give_63 : decode cX11_give 63 = .ok (.bipush (-2), 2) := by decide +kernel
theorem dX11_give_65 : decode cX11_give 65 = .ok (.ireturn, 1) := by decide +kernel
theorem dX11_give_66 : decode cX11_give 66 = .ok (.aload 5, 2) := by decide +kernel
theorem dX11_give_68 : decode cX11_give 68 = .ok (.getfield 267, 3) := by decide +kernel
theorem dX11_give_71 : decode cX11_give 71 = .ok (.bipush 12, 2) := by decide +kernel
theorem dX11_give_73 : decode cX11_give 73 = .ok (.if_icmp .lt 6, 3) := by decide +kernel
theorem dX11_give_76 : decode cX11_give 76 = .ok (.bipush (-3), 2) := by decide +kernel
theorem dX11_give_78 : decode cX11_give 78 = .ok (.ireturn, 1) := by decide +kernel
theorem dX11_give_79 : decode cX11_give 79 = .ok (.aload 4, 2) := by decide +kernel
theorem dX11_give_81 : decode cX11_give 81 = .ok (.iload_n 2, 1) := by decide +kernel
theorem dX11_give_82 : decode cX11_give 82 = .ok (.putfield 270, 3) := by decide +kernel
theorem dX11_give_85 : decode cX11_give 85 = .ok (.aload 4, 2) := by decide +kernel
theorem dX11_give_87 : decode cX11_give 87 = .ok (.iload_n 3, 1) := by decide +kernel
theorem dX11_give_88 : decode cX11_give 88 = .ok (.putfield 273, 3) := by decide +kernel
theorem dX11_give_91 : decode cX11_give 91 = .ok (.aload 5, 2) := by decide +kernel
theorem dX11_give_93 : decode cX11_give 93 = .ok (.dup, 1) := by decide +kernel
theorem dX11_give_94 : decode cX11_give 94 = .ok (.getfield 267, 3) := by decide +kernel
theorem dX11_give_97 : decode cX11_give 97 = .ok (.iconst 1, 1) := by decide +kernel
theorem dX11_give_98 : decode cX11_give 98 = .ok (.iadd, 1) := by decide +kernel
theorem dX11_give_99 : decode cX11_give 99 = .ok (.putfield 267, 3) := by decide +kernel
theorem dX11_give_102 : decode cX11_give 102 = .ok (.aload 5, 2) := by decide +kernel
theorem dX11_give_104 : decode cX11_give 104 = .ok (.getfield 267, 3) := by decide +kernel
theorem dX11_give_107 : decode cX11_give 107 = .ok (.ireturn, 1) := by decide +kernel
theorem dX11_mark_0 : decode cX11_mark 0 = .ok (.aload_n 0, 1) := by decide +kernel
theorem dX11_mark_1 : decode cX11_mark 1 = .ok (.iload_n 1, 1) := by decide +kernel
theorem dX11_mark_2 : decode cX11_mark 2 = .ok (.invokevirtual 239, 3) := by decide +kernel
theorem dX11_mark_5 : decode cX11_mark 5 = .ok (.astore 6, 2) := by decide +kernel
theorem dX11_mark_7 : decode cX11_mark 7 = .ok (.aload 6, 2) := by decide +kernel
theorem dX11_mark_9 : decode cX11_mark 9 = .ok (.ifnull 21, 3) := by decide +kernel
theorem dX11_mark_12 : decode cX11_mark 12 = .ok (.iload_n 2, 1) := by decide +kernel
theorem dX11_mark_13 : decode cX11_mark 13 = .ok (.iload_n 3, 1) := by decide +kernel
theorem dX11_mark_14 : decode cX11_mark 14 = .ok (.iload 4, 2) := by decide +kernel
theorem dX11_mark_16 : decode cX11_mark 16 = .ok (.invokestatic 276, 3) := by decide +kernel
theorem dX11_mark_19 : decode cX11_mark 19 = .ok (.ifCond .eq 11, 3) := by decide +kernel
theorem dX11_mark_22 : decode cX11_mark 22 = .ok (.iload 5, 2) := by decide +kernel
theorem dX11_mark_24 : decode cX11_mark 24 = .ok (.invokestatic 126, 3) := by decide +kernel
theorem dX11_mark_27 : decode cX11_mark 27 = .ok (.ifCond .ne 5, 3) := by decide +kernel
theorem dX11_mark_30 : decode cX11_mark 30 = .ok (.iconst (-1), 1) := by decide +kernel
theorem dX11_mark_31 : decode cX11_mark 31 = .ok (.ireturn, 1) := by decide +kernel
theorem dX11_mark_32 : decode cX11_mark 32 = .ok (.aload 6, 2) := by decide +kernel
theorem dX11_mark_34 : decode cX11_mark 34 = .ok (.invokevirtual 256, 3) := by decide +kernel
theorem dX11_mark_37 : decode cX11_mark 37 = .ok (.ifCond .ne 6, 3) := by decide +kernel
theorem dX11_mark_40 : decode cX11_mark 40 = .ok (.bipush (-12), 2) := by decide +kernel
theorem dX11_mark_42 : decode cX11_mark 42 = .ok (.ireturn, 1) := by decide +kernel
theorem dX11_mark_43 : decode cX11_mark 43 = .ok (.aload 6, 2) := by decide +kernel
theorem dX11_mark_45 : decode cX11_mark 45 = .ok (.iload 5, 2) := by decide +kernel
theorem dX11_mark_47 : decode cX11_mark 47 = .ok (.invokevirtual 280, 3) := by decide +kernel
theorem dX11_mark_50 : decode cX11_mark 50 = .ok (.ifCond .ne 6, 3) := by decide +kernel
theorem dX11_mark_53 : decode cX11_mark 53 = .ok (.bipush (-2), 2) := by decide +kernel
theorem dX11_mark_55 : decode cX11_mark 55 = .ok (.ireturn, 1) := by decide +kernel
theorem dX11_mark_56 : decode cX11_mark 56 = .ok (.aload_n 0, 1) := by decide +kernel
theorem dX11_mark_57 : decode cX11_mark 57 = .ok (.aload 6, 2) := by decide +kernel
theorem dX11_mark_59 : decode cX11_mark 59 = .ok (.invokevirtual 283, 3) := by decide +kernel
theorem dX11_mark_62 : decode cX11_mark 62 = .ok (.aload 6, 2) := by decide +kernel
theorem dX11_mark_64 : decode cX11_mark 64 = .ok (.iconst 2, 1) := by decide +kernel
theorem dX11_mark_65 : decode cX11_mark 65 = .ok (.putfield 243, 3) := by decide +kernel
theorem dX11_mark_68 : decode cX11_mark 68 = .ok (.aload 6, 2) := by decide +kernel
theorem dX11_mark_70 : decode cX11_mark 70 = .ok (.iload_n 2, 1) := by decide +kernel
theorem dX11_mark_71 : decode cX11_mark 71 = .ok (.iload_n 3, 1) := by decide +kernel
theorem dX11_mark_72 : decode cX11_mark 72 = .ok (.iload 4, 2) := by decide +kernel
theorem dX11_mark_74 : decode cX11_mark 74 = .ok (.invokestatic 287, 3) := by decide +kernel
theorem dX11_mark_77 : decode cX11_mark 77 = .ok (.putfield 290, 3) := by decide +kernel
theorem dX11_mark_80 : decode cX11_mark 80 = .ok (.aload 6, 2) := by decide +kernel
theorem dX11_mark_82 : decode cX11_mark 82 = .ok (.iload 5, 2) := by decide +kernel
theorem dX11_mark_84 : decode cX11_mark 84 = .ok (.putfield 293, 3) := by decide +kernel
theorem dX11_mark_87 : decode cX11_mark 87 = .ok (.aload 6, 2) := by decide +kernel
theorem dX11_mark_89 : decode cX11_mark 89 = .ok (.getfield 290, 3) := by decide +kernel
theorem dX11_mark_92 : decode cX11_mark 92 = .ok (.ireturn, 1) := by decide +kernel
theorem dX11_again_0 : decode cX11_again 0 = .ok (.aload_n 0, 1) := by decide +kernel
theorem dX11_again_1 : decode cX11_again 1 = .ok (.iload_n 1, 1) := by decide +kernel
theorem dX11_again_2 : decode cX11_again 2 = .ok (.invokevirtual 239, 3) := by decide +kernel
theorem dX11_again_5 : decode cX11_again 5 = .ok (.astore_n 3, 1) := by decide +kernel
theorem dX11_again_6 : decode cX11_again 6 = .ok (.aload_n 3, 1) := by decide +kernel
theorem dX11_again_7 : decode cX11_again 7 = .ok (.ifnull 10, 3) := by decide +kernel
theorem dX11_again_10 : decode cX11_again 10 = .ok (.iload_n 2, 1) := by decide +kernel
theorem dX11_again_11 : decode cX11_again 11 = .ok (.invokestatic 126, 3) := by decide +kernel
theorem dX11_again_14 : decode cX11_again 14 = .ok (.ifCond .ne 5, 3) := by decide +kernel
theorem dX11_again_17 : decode cX11_again 17 = .ok (.iconst (-1), 1) := by decide +kernel
theorem dX11_again_18 : decode cX11_again 18 = .ok (.ireturn, 1) := by decide +kernel
theorem dX11_again_19 : decode cX11_again 19 = .ok (.aload_n 3, 1) := by decide +kernel
theorem dX11_again_20 : decode cX11_again 20 = .ok (.invokevirtual 256, 3) := by decide +kernel
theorem dX11_again_23 : decode cX11_again 23 = .ok (.ifCond .ne 6, 3) := by decide +kernel
theorem dX11_again_26 : decode cX11_again 26 = .ok (.bipush (-12), 2) := by decide +kernel
theorem dX11_again_28 : decode cX11_again 28 = .ok (.ireturn, 1) := by decide +kernel
theorem dX11_again_29 : decode cX11_again 29 = .ok (.aload_n 0, 1) := by decide +kernel
theorem dX11_again_30 : decode cX11_again 30 = .ok (.aload_n 3, 1) := by decide +kernel
theorem dX11_again_31 : decode cX11_again 31 = .ok (.getfield 246, 3) := by decide +kernel
theorem dX11_again_34 : decode cX11_again 34 = .ok (.invokevirtual 175, 3) := by decide +kernel
theorem dX11_again_37 : decode cX11_again 37 = .ok (.astore 4, 2) := by decide +kernel
theorem dX11_again_39 : decode cX11_again 39 = .ok (.aload 4, 2) := by decide +kernel
theorem dX11_again_41 : decode cX11_again 41 = .ok (.ifnull 19, 3) := by decide +kernel
theorem dX11_again_44 : decode cX11_again 44 = .ok (.aload_n 3, 1) := by decide +kernel
theorem dX11_again_45 : decode cX11_again 45 = .ok (.iload_n 2, 1) := by decide +kernel
theorem dX11_again_46 : decode cX11_again 46 = .ok (.invokevirtual 280, 3) := by decide +kernel
theorem dX11_again_49 : decode cX11_again 49 = .ok (.ifCond .eq 11, 3) := by decide +kernel
theorem dX11_again_52 : decode cX11_again 52 = .ok (.aload_n 3, 1) := by decide +kernel
theorem dX11_again_53 : decode cX11_again 53 = .ok (.getfield 296, 3) := by decide +kernel
theorem dX11_again_56 : decode cX11_again 56 = .ok (.iconst 2, 1) := by decide +kernel
theorem dX11_again_57 : decode cX11_again 57 = .ok (.if_icmp .lt 6, 3) := by decide +kernel
theorem dX11_again_60 : decode cX11_again 60 = .ok (.bipush (-2), 2) := by decide +kernel
theorem dX11_again_62 : decode cX11_again 62 = .ok (.ireturn, 1) := by decide +kernel
theorem dX11_again_63 : decode cX11_again 63 = .ok (.aload_n 0, 1) := by decide +kernel
theorem dX11_again_64 : decode cX11_again 64 = .ok (.aload_n 3, 1) := by decide +kernel
theorem dX11_again_65 : decode cX11_again 65 = .ok (.invokevirtual 283, 3) := by decide +kernel
theorem dX11_again_68 : decode cX11_again 68 = .ok (.aload_n 3, 1) := by decide +kernel
theorem dX11_again_69 : decode cX11_again 69 = .ok (.iconst 3, 1) := by decide +kernel
theorem dX11_again_70 : decode cX11_again 70 = .ok (.putfield 243, 3) := by decide +kernel
theorem dX11_again_73 : decode cX11_again 73 = .ok (.aload_n 3, 1) := by decide +kernel
theorem dX11_again_74 : decode cX11_again 74 = .ok (.bipush (-4), 2) := by decide +kernel
theorem dX11_again_76 : decode cX11_again 76 = .ok (.putfield 270, 3) := by decide +kernel
theorem dX11_again_79 : decode cX11_again 79 = .ok (.aload_n 3, 1) := by decide +kernel
theorem dX11_again_80 : decode cX11_again 80 = .ok (.dup, 1) := by decide +kernel
theorem dX11_again_81 : decode cX11_again 81 = .ok (.getfield 296, 3) := by decide +kernel
theorem dX11_again_84 : decode cX11_again 84 = .ok (.iconst 1, 1) := by decide +kernel
theorem dX11_again_85 : decode cX11_again 85 = .ok (.iadd, 1) := by decide +kernel
theorem dX11_again_86 : decode cX11_again 86 = .ok (.putfield 296, 3) := by decide +kernel
theorem dX11_again_89 : decode cX11_again 89 = .ok (.aload_n 0, 1) := by decide +kernel
theorem dX11_again_90 : decode cX11_again 90 = .ok (.aload_n 3, 1) := by decide +kernel
theorem dX11_again_91 : decode cX11_again 91 = .ok (.aload 4, 2) := by decide +kernel
theorem dX11_again_93 : decode cX11_again 93 = .ok (.iload_n 2, 1) := by decide +kernel
theorem dX11_again_94 : decode cX11_again 94 = .ok (.invokevirtual 235, 3) := by decide +kernel
theorem dX11_again_97 : decode cX11_again 97 = .ok (.ireturn, 1) := by decide +kernel
theorem dX11_second_0 : decode cX11_second 0 = .ok (.aload_n 0, 1) := by decide +kernel
theorem dX11_second_1 : decode cX11_second 1 = .ok (.iload_n 1, 1) := by decide +kernel
theorem dX11_second_2 : decode cX11_second 2 = .ok (.invokevirtual 239, 3) := by decide +kernel
theorem dX11_second_5 : decode cX11_second 5 = .ok (.astore 6, 2) := by decide +kernel
theorem dX11_second_7 : decode cX11_second 7 = .ok (.aload 6, 2) := by decide +kernel
theorem dX11_second_9 : decode cX11_second 9 = .ok (.ifnull 22, 3) := by decide +kernel
theorem dX11_second_12 : decode cX11_second 12 = .ok (.aload_n 0, 1) := by decide +kernel
theorem dX11_second_13 : decode cX11_second 13 = .ok (.iload_n 2, 1) := by decide +kernel
theorem dX11_second_14 : decode cX11_second 14 = .ok (.invokevirtual 252, 3) := by decide +kernel
theorem dX11_second_17 : decode cX11_second 17 = .ok (.ifnull 14, 3) := by decide +kernel
theorem dX11_second_20 : decode cX11_second 20 = .ok (.iload_n 3, 1) := by decide +kernel
theorem dX11_second_21 : decode cX11_second 21 = .ok (.iload 4, 2) := by decide +kernel
theorem dX11_second_23 : decode cX11_second 23 = .ok (.iload 5, 2) := by decide +kernel
theorem dX11_second_25 : decode cX11_second 25 = .ok (.invokestatic 276, 3) := by decide +kernel
theorem dX11_second_28 : decode cX11_second 28 = .ok (.ifCond .ne 5, 3) := by decide +kernel
theorem dX11_second_31 : decode cX11_second 31 = .ok (.iconst (-1), 1) := by decide +kernel
theorem dX11_second_32 : decode cX11_second 32 = .ok (.ireturn, 1) := by decide +kernel
theorem dX11_second_33 : decode cX11_second 33 = .ok (.aload 6, 2) := by decide +kernel
theorem dX11_second_35 : decode cX11_second 35 = .ok (.getfield 243, 3) := by decide +kernel
theorem dX11_second_38 : decode cX11_second 38 = .ok (.iconst 2, 1) := by decide +kernel
theorem dX11_second_39 : decode cX11_second 39 = .ok (.if_icmp .eq 6, 3) := by decide +kernel
theorem dX11_second_42 : decode cX11_second 42 = .ok (.bipush (-12), 2) := by decide +kernel
theorem dX11_second_44 : decode cX11_second 44 = .ok (.ireturn, 1) := by decide +kernel
theorem dX11_second_45 : decode cX11_second 45 = .ok (.aload 6, 2) := by decide +kernel
theorem dX11_second_47 : decode cX11_second 47 = .ok (.getfield 270, 3) := by decide +kernel
theorem dX11_second_50 : decode cX11_second 50 = .ok (.iload_n 2, 1) := by decide +kernel
theorem dX11_second_51 : decode cX11_second 51 = .ok (.if_icmp .eq 13, 3) := by decide +kernel
theorem dX11_second_54 : decode cX11_second 54 = .ok (.aload 6, 2) := by decide +kernel
theorem dX11_second_56 : decode cX11_second 56 = .ok (.getfield 299, 3) := by decide +kernel
theorem dX11_second_59 : decode cX11_second 59 = .ok (.bipush (-4), 2) := by decide +kernel
theorem dX11_second_61 : decode cX11_second 61 = .ok (.if_icmp .eq 6, 3) := by decide +kernel
theorem dX11_second_64 : decode cX11_second 64 = .ok (.bipush (-2), 2) := by decide +kernel
theorem dX11_second_66 : decode cX11_second 66 = .ok (.ireturn, 1) := by decide +kernel
theorem dX11_second_67 : decode cX11_second 67 = .ok (.aload 6, 2) := by decide +kernel
theorem dX11_second_69 : decode cX11_second 69 = .ok (.iload_n 2, 1) := by decide +kernel
theorem dX11_second_70 : decode cX11_second 70 = .ok (.putfield 299, 3) := by decide +kernel
theorem dX11_second_73 : decode cX11_second 73 = .ok (.aload 6, 2) := by decide +kernel
theorem dX11_second_75 : decode cX11_second 75 = .ok (.iload_n 3, 1) := by decide +kernel
theorem dX11_second_76 : decode cX11_second 76 = .ok (.iload 4, 2) := by decide +kernel
theorem dX11_second_78 : decode cX11_second 78 = .ok (.iload 5, 2) := by decide +kernel
theorem dX11_second_80 : decode cX11_second 80 = .ok (.invokestatic 287, 3) := by decide +kernel
theorem dX11_second_83 : decode cX11_second 83 = .ok (.putfield 302, 3) := by decide +kernel
theorem dX11_second_86 : decode cX11_second 86 = .ok (.aload 6, 2) := by decide +kernel
theorem dX11_second_88 : decode cX11_second 88 = .ok (.getfield 302, 3) := by decide +kernel
theorem dX11_second_91 : decode cX11_second 91 = .ok (.ireturn, 1) := by decide +kernel
theorem dX11_thing_0 : decode cX11_thing 0 = .ok (.aload_n 0, 1) := by decide +kernel
theorem dX11_thing_1 : decode cX11_thing 1 = .ok (.iload_n 1, 1) := by decide +kernel
theorem dX11_thing_2 : decode cX11_thing 2 = .ok (.invokevirtual 239, 3) := by decide +kernel
theorem dX11_thing_5 : decode cX11_thing 5 = .ok (.astore_n 3, 1) := by decide +kernel
theorem dX11_thing_6 : decode cX11_thing 6 = .ok (.aload_n 3, 1) := by decide +kernel
theorem dX11_thing_7 : decode cX11_thing 7 = .ok (.ifnonnull 5, 3) := by decide +kernel
theorem dX11_thing_10 : decode cX11_thing 10 = .ok (.iconst (-1), 1) := by decide +kernel
theorem dX11_thing_11 : decode cX11_thing 11 = .ok (.ireturn, 1) := by decide +kernel
theorem dX11_thing_12 : decode cX11_thing 12 = .ok (.iload_n 2, 1) := by decide +kernel
theorem dX11_thing_13 : decode cX11_thing 13 = .ok (.tableswitch 87 0 7 #[47, 52, 57, 62, 67, 72, 77, 82], 47) := by decide +kernel
theorem dX11_thing_60 : decode cX11_thing 60 = .ok (.aload_n 3, 1) := by decide +kernel
theorem dX11_thing_61 : decode cX11_thing 61 = .ok (.getfield 243, 3) := by decide +kernel
theorem dX11_thing_64 : decode cX11_thing 64 = .ok (.ireturn, 1) := by decide +kernel
theorem dX11_thing_65 : decode cX11_thing 65 = .ok (.aload_n 3, 1) := by decide +kernel
theorem dX11_thing_66 : decode cX11_thing 66 = .ok (.getfield 246, 3) := by decide +kernel
theorem dX11_thing_69 : decode cX11_thing 69 = .ok (.ireturn, 1) := by decide +kernel
theorem dX11_thing_70 : decode cX11_thing 70 = .ok (.aload_n 3, 1) := by decide +kernel
theorem dX11_thing_71 : decode cX11_thing 71 = .ok (.getfield 305, 3) := by decide +kernel
theorem dX11_thing_74 : decode cX11_thing 74 = .ok (.ireturn, 1) := by decide +kernel
theorem dX11_thing_75 : decode cX11_thing 75 = .ok (.aload_n 3, 1) := by decide +kernel
theorem dX11_thing_76 : decode cX11_thing 76 = .ok (.getfield 307, 3) := by decide +kernel
theorem dX11_thing_79 : decode cX11_thing 79 = .ok (.ireturn, 1) := by decide +kernel
theorem dX11_thing_80 : decode cX11_thing 80 = .ok (.aload_n 3, 1) := by decide +kernel
theorem dX11_thing_81 : decode cX11_thing 81 = .ok (.getfield 310, 3) := by decide +kernel
theorem dX11_thing_84 : decode cX11_thing 84 = .ok (.ireturn, 1) := by decide +kernel
theorem dX11_thing_85 : decode cX11_thing 85 = .ok (.aload_n 3, 1) := by decide +kernel
theorem dX11_thing_86 : decode cX11_thing 86 = .ok (.getfield 249, 3) := by decide +kernel
theorem dX11_thing_89 : decode cX11_thing 89 = .ok (.ireturn, 1) := by decide +kernel
theorem dX11_thing_90 : decode cX11_thing 90 = .ok (.aload_n 3, 1) := by decide +kernel
theorem dX11_thing_91 : decode cX11_thing 91 = .ok (.getfield 270, 3) := by decide +kernel
theorem dX11_thing_94 : decode cX11_thing 94 = .ok (.ireturn, 1) := by decide +kernel
theorem dX11_thing_95 : decode cX11_thing 95 = .ok (.aload_n 3, 1) := by decide +kernel
theorem dX11_thing_96 : decode cX11_thing 96 = .ok (.getfield 296, 3) := by decide +kernel
theorem dX11_thing_99 : decode cX11_thing 99 = .ok (.ireturn, 1) := by decide +kernel
theorem dX11_thing_100 : decode cX11_thing 100 = .ok (.iconst (-1), 1) := by decide +kernel
theorem dX11_thing_101 : decode cX11_thing 101 = .ok (.ireturn, 1) := by decide +kernel
theorem dX11_marks_0 : decode cX11_marks 0 = .ok (.aload_n 0, 1) := by decide +kernel
theorem dX11_marks_1 : decode cX11_marks 1 = .ok (.iload_n 1, 1) := by decide +kernel
theorem dX11_marks_2 : decode cX11_marks 2 = .ok (.invokevirtual 239, 3) := by decide +kernel
theorem dX11_marks_5 : decode cX11_marks 5 = .ok (.astore_n 3, 1) := by decide +kernel
theorem dX11_marks_6 : decode cX11_marks 6 = .ok (.aload_n 3, 1) := by decide +kernel
theorem dX11_marks_7 : decode cX11_marks 7 = .ok (.ifnull 11, 3) := by decide +kernel
theorem dX11_marks_10 : decode cX11_marks 10 = .ok (.iload_n 2, 1) := by decide +kernel
theorem dX11_marks_11 : decode cX11_marks 11 = .ok (.iconst 4, 1) := by decide +kernel
theorem dX11_marks_12 : decode cX11_marks 12 = .ok (.invokestatic 122, 3) := by decide +kernel
theorem dX11_marks_15 : decode cX11_marks 15 = .ok (.ifCond .ne 5, 3) := by decide +kernel
theorem dX11_marks_18 : decode cX11_marks 18 = .ok (.iconst (-1), 1) := by decide +kernel
theorem dX11_marks_19 : decode cX11_marks 19 = .ok (.ireturn, 1) := by decide +kernel
theorem dX11_marks_20 : decode cX11_marks 20 = .ok (.aload_n 3, 1) := by decide +kernel
theorem dX11_marks_21 : decode cX11_marks 21 = .ok (.getfield 243, 3) := by decide +kernel
theorem dX11_marks_24 : decode cX11_marks 24 = .ok (.iconst 2, 1) := by decide +kernel
theorem dX11_marks_25 : decode cX11_marks 25 = .ok (.if_icmp .eq 6, 3) := by decide +kernel
theorem dX11_marks_28 : decode cX11_marks 28 = .ok (.bipush (-12), 2) := by decide +kernel
theorem dX11_marks_30 : decode cX11_marks 30 = .ok (.ireturn, 1) := by decide +kernel
theorem dX11_marks_31 : decode cX11_marks 31 = .ok (.iload_n 2, 1) := by decide +kernel
theorem dX11_marks_32 : decode cX11_marks 32 = .ok (.tableswitch 43 0 2 #[28, 33, 38], 28) := by decide +kernel
theorem dX11_marks_60 : decode cX11_marks 60 = .ok (.aload_n 3, 1) := by decide +kernel
theorem dX11_marks_61 : decode cX11_marks 61 = .ok (.getfield 290, 3) := by decide +kernel
theorem dX11_marks_64 : decode cX11_marks 64 = .ok (.ireturn, 1) := by decide +kernel
theorem dX11_marks_65 : decode cX11_marks 65 = .ok (.aload_n 3, 1) := by decide +kernel
theorem dX11_marks_66 : decode cX11_marks 66 = .ok (.getfield 293, 3) := by decide +kernel
theorem dX11_marks_69 : decode cX11_marks 69 = .ok (.ireturn, 1) := by decide +kernel
theorem dX11_marks_70 : decode cX11_marks 70 = .ok (.aload_n 3, 1) := by decide +kernel
theorem dX11_marks_71 : decode cX11_marks 71 = .ok (.getfield 302, 3) := by decide +kernel
theorem dX11_marks_74 : decode cX11_marks 74 = .ok (.ireturn, 1) := by decide +kernel
theorem dX11_marks_75 : decode cX11_marks 75 = .ok (.aload_n 0, 1) := by decide +kernel
theorem dX11_marks_76 : decode cX11_marks 76 = .ok (.aload_n 3, 1) := by decide +kernel
theorem dX11_marks_77 : decode cX11_marks 77 = .ok (.invokevirtual 313, 3) := by decide +kernel
theorem dX11_marks_80 : decode cX11_marks 80 = .ok (.ireturn, 1) := by decide +kernel
theorem dX11_count_0 : decode cX11_count 0 = .ok (.iload_n 1, 1) := by decide +kernel
theorem dX11_count_1 : decode cX11_count 1 = .ok (.bipush 8, 2) := by decide +kernel
theorem dX11_count_3 : decode cX11_count 3 = .ok (.invokestatic 122, 3) := by decide +kernel
theorem dX11_count_6 : decode cX11_count 6 = .ok (.ifCond .ne 5, 3) := by decide +kernel
theorem dX11_count_9 : decode cX11_count 9 = .ok (.iconst (-1), 1) := by decide +kernel
theorem dX11_count_10 : decode cX11_count 10 = .ok (.ireturn, 1) := by decide +kernel
theorem dX11_count_11 : decode cX11_count 11 = .ok (.iload_n 1, 1) := by decide +kernel
theorem dX11_count_12 : decode cX11_count 12 = .ok (.ifCond .ne 8, 3) := by decide +kernel
theorem dX11_count_15 : decode cX11_count 15 = .ok (.aload_n 0, 1) := by decide +kernel
theorem dX11_count_16 : decode cX11_count 16 = .ok (.getfield 48, 3) := by decide +kernel
theorem dX11_count_19 : decode cX11_count 19 = .ok (.ireturn, 1) := by decide +kernel
theorem dX11_count_20 : decode cX11_count 20 = .ok (.iload_n 1, 1) := by decide +kernel
theorem dX11_count_21 : decode cX11_count 21 = .ok (.iconst 1, 1) := by decide +kernel
theorem dX11_count_22 : decode cX11_count 22 = .ok (.if_icmp .ne 8, 3) := by decide +kernel
theorem dX11_count_25 : decode cX11_count 25 = .ok (.aload_n 0, 1) := by decide +kernel
theorem dX11_count_26 : decode cX11_count 26 = .ok (.getfield 58, 3) := by decide +kernel
theorem dX11_count_29 : decode cX11_count 29 = .ok (.ireturn, 1) := by decide +kernel
theorem dX11_count_30 : decode cX11_count 30 = .ok (.iload_n 1, 1) := by decide +kernel
theorem dX11_count_31 : decode cX11_count 31 = .ok (.iconst 2, 1) := by decide +kernel
theorem dX11_count_32 : decode cX11_count 32 = .ok (.if_icmp .ne 8, 3) := by decide +kernel
theorem dX11_count_35 : decode cX11_count 35 = .ok (.aload_n 0, 1) := by decide +kernel
theorem dX11_count_36 : decode cX11_count 36 = .ok (.getfield 67, 3) := by decide +kernel
theorem dX11_count_39 : decode cX11_count 39 = .ok (.ireturn, 1) := by decide +kernel
theorem dX11_count_40 : decode cX11_count 40 = .ok (.iconst 0, 1) := by decide +kernel
theorem dX11_count_41 : decode cX11_count 41 = .ok (.istore_n 2, 1) := by decide +kernel
theorem dX11_count_42 : decode cX11_count 42 = .ok (.iconst 0, 1) := by decide +kernel
theorem dX11_count_43 : decode cX11_count 43 = .ok (.istore_n 3, 1) := by decide +kernel
theorem dX11_count_44 : decode cX11_count 44 = .ok (.iload_n 3, 1) := by decide +kernel
theorem dX11_count_45 : decode cX11_count 45 = .ok (.aload_n 0, 1) := by decide +kernel
theorem dX11_count_46 : decode cX11_count 46 = .ok (.getfield 67, 3) := by decide +kernel
theorem dX11_count_49 : decode cX11_count 49 = .ok (.if_icmp .ge 27, 3) := by decide +kernel
theorem dX11_count_52 : decode cX11_count 52 = .ok (.aload_n 0, 1) := by decide +kernel
theorem dX11_count_53 : decode cX11_count 53 = .ok (.getfield 63, 3) := by decide +kernel
theorem dX11_count_56 : decode cX11_count 56 = .ok (.iload_n 3, 1) := by decide +kernel
theorem dX11_count_57 : decode cX11_count 57 = .ok (.aaload, 1) := by decide +kernel
theorem dX11_count_58 : decode cX11_count 58 = .ok (.getfield 243, 3) := by decide +kernel
theorem dX11_count_61 : decode cX11_count 61 = .ok (.iload_n 1, 1) := by decide +kernel
theorem dX11_count_62 : decode cX11_count 62 = .ok (.iconst 3, 1) := by decide +kernel
theorem dX11_count_63 : decode cX11_count 63 = .ok (.isub, 1) := by decide +kernel
theorem dX11_count_64 : decode cX11_count 64 = .ok (.if_icmp .ne 6, 3) := by decide +kernel
theorem dX11_count_67 : decode cX11_count 67 = .ok (.iinc 2 1, 3) := by decide +kernel
theorem dX11_count_70 : decode cX11_count 70 = .ok (.iinc 3 1, 3) := by decide +kernel
theorem dX11_count_73 : decode cX11_count 73 = .ok (.goto (-29), 3) := by decide +kernel
theorem dX11_count_76 : decode cX11_count 76 = .ok (.iload_n 2, 1) := by decide +kernel
theorem dX11_count_77 : decode cX11_count 77 = .ok (.ireturn, 1) := by decide +kernel
theorem dX11_tutor_0 : decode cX11_tutor 0 = .ok (.iload_n 1, 1) := by decide +kernel
theorem dX11_tutor_1 : decode cX11_tutor 1 = .ok (.bipush 16, 2) := by decide +kernel
theorem dX11_tutor_3 : decode cX11_tutor 3 = .ok (.invokestatic 122, 3) := by decide +kernel
theorem dX11_tutor_6 : decode cX11_tutor 6 = .ok (.ifCond .eq 14, 3) := by decide +kernel
theorem dX11_tutor_9 : decode cX11_tutor 9 = .ok (.iload_n 2, 1) := by decide +kernel
theorem dX11_tutor_10 : decode cX11_tutor 10 = .ok (.iconst 1, 1) := by decide +kernel
theorem dX11_tutor_11 : decode cX11_tutor 11 = .ok (.if_icmp .lt 9, 3) := by decide +kernel
theorem dX11_tutor_14 : decode cX11_tutor 14 = .ok (.iload_n 2, 1) := by decide +kernel
theorem dX11_tutor_15 : decode cX11_tutor 15 = .ok (.bipush 9, 2) := by decide +kernel
theorem dX11_tutor_17 : decode cX11_tutor 17 = .ok (.if_icmp .le 5, 3) := by decide +kernel
theorem dX11_tutor_20 : decode cX11_tutor 20 = .ok (.iconst (-1), 1) := by decide +kernel
theorem dX11_tutor_21 : decode cX11_tutor 21 = .ok (.ireturn, 1) := by decide +kernel
theorem dX11_tutor_22 : decode cX11_tutor 22 = .ok (.aload_n 0, 1) := by decide +kernel
theorem dX11_tutor_23 : decode cX11_tutor 23 = .ok (.getfield 58, 3) := by decide +kernel
theorem dX11_tutor_26 : decode cX11_tutor 26 = .ok (.bipush 6, 2) := by decide +kernel
theorem dX11_tutor_28 : decode cX11_tutor 28 = .ok (.if_icmp .lt 6, 3) := by decide +kernel
theorem dX11_tutor_31 : decode cX11_tutor 31 = .ok (.bipush (-3), 2) := by decide +kernel
theorem dX11_tutor_33 : decode cX11_tutor 33 = .ok (.ireturn, 1) := by decide +kernel
theorem dX11_tutor_34 : decode cX11_tutor 34 = .ok (.aload_n 0, 1) := by decide +kernel
theorem dX11_tutor_35 : decode cX11_tutor 35 = .ok (.getfield 54, 3) := by decide +kernel
theorem dX11_tutor_38 : decode cX11_tutor 38 = .ok (.aload_n 0, 1) := by decide +kernel
theorem dX11_tutor_39 : decode cX11_tutor 39 = .ok (.getfield 58, 3) := by decide +kernel
theorem dX11_tutor_42 : decode cX11_tutor 42 = .ok (.new 52, 3) := by decide +kernel
theorem dX11_tutor_45 : decode cX11_tutor 45 = .ok (.dup, 1) := by decide +kernel
theorem dX11_tutor_46 : decode cX11_tutor 46 = .ok (.iload_n 1, 1) := by decide +kernel
theorem dX11_tutor_47 : decode cX11_tutor 47 = .ok (.iload_n 2, 1) := by decide +kernel
theorem dX11_tutor_48 : decode cX11_tutor 48 = .ok (.invokespecial 317, 3) := by decide +kernel
theorem dX11_tutor_51 : decode cX11_tutor 51 = .ok (.aastore, 1) := by decide +kernel
theorem dX11_tutor_52 : decode cX11_tutor 52 = .ok (.aload_n 0, 1) := by decide +kernel
theorem dX11_tutor_53 : decode cX11_tutor 53 = .ok (.dup, 1) := by decide +kernel
theorem dX11_tutor_54 : decode cX11_tutor 54 = .ok (.getfield 58, 3) := by decide +kernel
theorem dX11_tutor_57 : decode cX11_tutor 57 = .ok (.iconst 1, 1) := by decide +kernel
theorem dX11_tutor_58 : decode cX11_tutor 58 = .ok (.iadd, 1) := by decide +kernel
theorem dX11_tutor_59 : decode cX11_tutor 59 = .ok (.putfield 58, 3) := by decide +kernel
theorem dX11_tutor_62 : decode cX11_tutor 62 = .ok (.aload_n 0, 1) := by decide +kernel
theorem dX11_tutor_63 : decode cX11_tutor 63 = .ok (.getfield 58, 3) := by decide +kernel
theorem dX11_tutor_66 : decode cX11_tutor 66 = .ok (.iconst 1, 1) := by decide +kernel
theorem dX11_tutor_67 : decode cX11_tutor 67 = .ok (.isub, 1) := by decide +kernel
theorem dX11_tutor_68 : decode cX11_tutor 68 = .ok (.ireturn, 1) := by decide +kernel
theorem dX11_kin_0 : decode cX11_kin 0 = .ok (.aload_n 0, 1) := by decide +kernel
theorem dX11_kin_1 : decode cX11_kin 1 = .ok (.iload_n 1, 1) := by decide +kernel
theorem dX11_kin_2 : decode cX11_kin 2 = .ok (.invokevirtual 252, 3) := by decide +kernel
theorem dX11_kin_5 : decode cX11_kin 5 = .ok (.astore_n 3, 1) := by decide +kernel
theorem dX11_kin_6 : decode cX11_kin 6 = .ok (.aload_n 3, 1) := by decide +kernel
theorem dX11_kin_7 : decode cX11_kin 7 = .ok (.ifnull 13, 3) := by decide +kernel
theorem dX11_kin_10 : decode cX11_kin 10 = .ok (.iload_n 2, 1) := by decide +kernel
theorem dX11_kin_11 : decode cX11_kin 11 = .ok (.sipush 4096, 3) := by decide +kernel
theorem dX11_kin_14 : decode cX11_kin 14 = .ok (.invokestatic 122, 3) := by decide +kernel
theorem dX11_kin_17 : decode cX11_kin 17 = .ok (.ifCond .ne 5, 3) := by decide +kernel
theorem dX11_kin_20 : decode cX11_kin 20 = .ok (.iconst (-1), 1) := by decide +kernel
theorem dX11_kin_21 : decode cX11_kin 21 = .ok (.ireturn, 1) := by decide +kernel
theorem dX11_kin_22 : decode cX11_kin 22 = .ok (.aload_n 3, 1) := by decide +kernel
theorem dX11_kin_23 : decode cX11_kin 23 = .ok (.getfield 320, 3) := by decide +kernel
theorem dX11_kin_26 : decode cX11_kin 26 = .ok (.istore 4, 2) := by decide +kernel
theorem dX11_kin_28 : decode cX11_kin 28 = .ok (.aload_n 3, 1) := by decide +kernel
theorem dX11_kin_29 : decode cX11_kin 29 = .ok (.iload_n 2, 1) := by decide +kernel
theorem dX11_kin_30 : decode cX11_kin 30 = .ok (.putfield 320, 3) := by decide +kernel
theorem dX11_kin_33 : decode cX11_kin 33 = .ok (.iload 4, 2) := by decide +kernel
theorem dX11_kin_35 : decode cX11_kin 35 = .ok (.ireturn, 1) := by decide +kernel
theorem dX11_load_0 : decode cX11_load 0 = .ok (.aload_n 0, 1) := by decide +kernel
theorem dX11_load_1 : decode cX11_load 1 = .ok (.iload_n 1, 1) := by decide +kernel
theorem dX11_load_2 : decode cX11_load 2 = .ok (.invokevirtual 252, 3) := by decide +kernel
theorem dX11_load_5 : decode cX11_load 5 = .ok (.astore_n 2, 1) := by decide +kernel
theorem dX11_load_6 : decode cX11_load 6 = .ok (.aload_n 2, 1) := by decide +kernel
theorem dX11_load_7 : decode cX11_load 7 = .ok (.ifnonnull 7, 3) := by decide +kernel
theorem dX11_load_10 : decode cX11_load 10 = .ok (.iconst (-1), 1) := by decide +kernel
theorem dX11_load_11 : decode cX11_load 11 = .ok (.goto 7, 3) := by decide +kernel
theorem dX11_load_14 : decode cX11_load 14 = .ok (.aload_n 2, 1) := by decide +kernel
theorem dX11_load_15 : decode cX11_load 15 = .ok (.getfield 267, 3) := by decide +kernel
theorem dX11_load_18 : decode cX11_load 18 = .ok (.ireturn, 1) := by decide +kernel
theorem dX11_wait_0 : decode cX11_wait 0 = .ok (.aload_n 0, 1) := by decide +kernel
theorem dX11_wait_1 : decode cX11_wait 1 = .ok (.iload_n 1, 1) := by decide +kernel
theorem dX11_wait_2 : decode cX11_wait 2 = .ok (.invokevirtual 175, 3) := by decide +kernel
theorem dX11_wait_5 : decode cX11_wait 5 = .ok (.astore_n 3, 1) := by decide +kernel
theorem dX11_wait_6 : decode cX11_wait 6 = .ok (.aload_n 0, 1) := by decide +kernel
theorem dX11_wait_7 : decode cX11_wait 7 = .ok (.iload_n 2, 1) := by decide +kernel
theorem dX11_wait_8 : decode cX11_wait 8 = .ok (.invokevirtual 252, 3) := by decide +kernel
theorem dX11_wait_11 : decode cX11_wait 11 = .ok (.astore 4, 2) := by decide +kernel
theorem dX11_wait_13 : decode cX11_wait 13 = .ok (.aload_n 3, 1) := by decide +kernel
theorem dX11_wait_14 : decode cX11_wait 14 = .ok (.ifnull 8, 3) := by decide +kernel
theorem dX11_wait_17 : decode cX11_wait 17 = .ok (.aload 4, 2) := by decide +kernel
theorem dX11_wait_19 : decode cX11_wait 19 = .ok (.ifnonnull 5, 3) := by decide +kernel
theorem dX11_wait_22 : decode cX11_wait 22 = .ok (.iconst (-1), 1) := by decide +kernel
theorem dX11_wait_23 : decode cX11_wait 23 = .ok (.ireturn, 1) := by decide +kernel
theorem dX11_wait_24 : decode cX11_wait 24 = .ok (.iconst 2, 1) := by decide +kernel
theorem dX11_wait_25 : decode cX11_wait 25 = .ok (.aload_n 0, 1) := by decide +kernel
theorem dX11_wait_26 : decode cX11_wait 26 = .ok (.getfield 72, 3) := by decide +kernel
theorem dX11_wait_29 : decode cX11_wait 29 = .ok (.aload_n 3, 1) := by decide +kernel
theorem dX11_wait_30 : decode cX11_wait 30 = .ok (.getfield 179, 3) := by decide +kernel
theorem dX11_wait_33 : decode cX11_wait 33 = .ok (.aaload, 1) := by decide +kernel
theorem dX11_wait_34 : decode cX11_wait 34 = .ok (.getfield 220, 3) := by decide +kernel
theorem dX11_wait_37 : decode cX11_wait 37 = .ok (.imul, 1) := by decide +kernel
theorem dX11_wait_38 : decode cX11_wait 38 = .ok (.aload_n 3, 1) := by decide +kernel
theorem dX11_wait_39 : decode cX11_wait 39 = .ok (.getfield 189, 3) := by decide +kernel
theorem dX11_wait_42 : decode cX11_wait 42 = .ok (.iadd, 1) := by decide +kernel
theorem dX11_wait_43 : decode cX11_wait 43 = .ok (.aload 4, 2) := by decide +kernel
theorem dX11_wait_45 : decode cX11_wait 45 = .ok (.getfield 267, 3) := by decide +kernel
theorem dX11_wait_48 : decode cX11_wait 48 = .ok (.iconst 1, 1) := by decide +kernel
theorem dX11_wait_49 : decode cX11_wait 49 = .ok (.iadd, 1) := by decide +kernel
