theorem dX0_init_0 : decode cX0_init 0 = .ok (.aload_n 0, 1) := by decide +kernel
theorem dX0_init_1 : decode cX0_init 1 = .ok (.invokespecial 3, 3) := by decide +kernel
theorem dX0_init_4 : decode cX0_init 4 = .ok (.aload_n 0, 1) := by decide +kernel
theorem dX0_init_5 : decode cX0_init 5 = .ok (.iconst 0, 1) := by decide +kernel
theorem dX0_init_6 : decode cX0_init 6 = .ok (.putfield 9, 3) := by decide +kernel
theorem dX0_init_9 : decode cX0_init 9 = .ok (.aload_n 0, 1) := by decide +kernel
theorem dX0_init_10 : decode cX0_init 10 = .ok (.iconst 0, 1) := by decide +kernel
theorem dX0_init_11 : decode cX0_init 11 = .ok (.putfield 15, 3) := by decide +kernel
theorem dX0_init_14 : decode cX0_init 14 = .ok (.aload_n 0, 1) := by decide +kernel
theorem dX0_init_15 : decode cX0_init 15 = .ok (.bipush 8, 2) := by decide +kernel
theorem dX0_init_17 : decode cX0_init 17 = .ok (.newarray .int, 2) := by decide +kernel
theorem dX0_init_19 : decode cX0_init 19 = .ok (.putfield 18, 3) := by decide +kernel
theorem dX0_init_22 : decode cX0_init 22 = .ok (.aload_n 0, 1) := by decide +kernel
theorem dX0_init_23 : decode cX0_init 23 = .ok (.bipush 8, 2) := by decide +kernel
theorem dX0_init_25 : decode cX0_init 25 = .ok (.newarray .int, 2) := by decide +kernel
theorem dX0_init_27 : decode cX0_init 27 = .ok (.putfield 22, 3) := by decide +kernel
theorem dX0_init_30 : decode cX0_init 30 = .ok (.aload_n 0, 1) := by decide +kernel
theorem dX0_init_31 : decode cX0_init 31 = .ok (.bipush 8, 2) := by decide +kernel
theorem dX0_init_33 : decode cX0_init 33 = .ok (.newarray .int, 2) := by decide +kernel
theorem dX0_init_35 : decode cX0_init 35 = .ok (.putfield 25, 3) := by decide +kernel
theorem dX0_init_38 : decode cX0_init 38 = .ok (.aload_n 0, 1) := by decide +kernel
theorem dX0_init_39 : decode cX0_init 39 = .ok (.bipush 8, 2) := by decide +kernel
theorem dX0_init_41 : decode cX0_init 41 = .ok (.newarray .int, 2) := by decide +kernel
theorem dX0_init_43 : decode cX0_init 43 = .ok (.putfield 28, 3) := by decide +kernel
theorem dX0_init_46 : decode cX0_init 46 = .ok (.aload_n 0, 1) := by decide +kernel
theorem dX0_init_47 : decode cX0_init 47 = .ok (.bipush 8, 2) := by decide +kernel
theorem dX0_init_49 : decode cX0_init 49 = .ok (.newarray .int, 2) := by decide +kernel
theorem dX0_init_51 : decode cX0_init 51 = .ok (.putfield 31, 3) := by decide +kernel
theorem dX0_init_54 : decode cX0_init 54 = .ok (.aload_n 0, 1) := by decide +kernel
theorem dX0_init_55 : decode cX0_init 55 = .ok (.bipush 120, 2) := by decide +kernel
theorem dX0_init_57 : decode cX0_init 57 = .ok (.newarray .short, 2) := by decide +kernel
theorem dX0_init_59 : decode cX0_init 59 = .ok (.putfield 36, 3) := by decide +kernel
theorem dX0_init_62 : decode cX0_init 62 = .ok (.aload_n 0, 1) := by decide +kernel
theorem dX0_init_63 : decode cX0_init 63 = .ok (.iconst 0, 1) := by decide +kernel
theorem dX0_init_64 : decode cX0_init 64 = .ok (.putfield 40, 3) := by decide +kernel
theorem dX0_init_67 : decode cX0_init 67 = .ok (.return_, 1) := by decide +kernel
theorem dX0_clear_0 : decode cX0_clear 0 = .ok (.aload_n 0, 1) := by decide +kernel
theorem dX0_clear_1 : decode cX0_clear 1 = .ok (.iconst 0, 1) := by decide +kernel
theorem dX0_clear_2 : decode cX0_clear 2 = .ok (.putfield 15, 3) := by decide +kernel
theorem dX0_clear_5 : decode cX0_clear 5 = .ok (.aload_n 0, 1) := by decide +kernel
theorem dX0_clear_6 : decode cX0_clear 6 = .ok (.iconst 0, 1) := by decide +kernel
theorem dX0_clear_7 : decode cX0_clear 7 = .ok (.putfield 40, 3) := by decide +kernel
theorem dX0_clear_10 : decode cX0_clear 10 = .ok (.return_, 1) := by decide +kernel
theorem dX0_tells_0 : decode cX0_tells 0 = .ok (.iload_n 1, 1) := by decide +kernel
theorem dX0_tells_1 : decode cX0_tells 1 = .ok (.bipush 8, 2) := by decide +kernel
theorem dX0_tells_3 : decode cX0_tells 3 = .ok (.invokestatic 43, 3) := by decide +kernel
theorem dX0_tells_6 : decode cX0_tells 6 = .ok (.ifCond .eq 19, 3) := by decide +kernel
theorem dX0_tells_9 : decode cX0_tells 9 = .ok (.aload_n 0, 1) := by decide +kernel
theorem dX0_tells_10 : decode cX0_tells 10 = .ok (.getfield 15, 3) := by decide +kernel
theorem dX0_tells_13 : decode cX0_tells 13 = .ok (.iload_n 1, 1) := by decide +kernel
theorem dX0_tells_14 : decode cX0_tells 14 = .ok (.ishr, 1) := by decide +kernel
theorem dX0_tells_15 : decode cX0_tells 15 = .ok (.iconst 1, 1) := by decide +kernel
theorem dX0_tells_16 : decode cX0_tells 16 = .ok (.iand, 1) := by decide +kernel
theorem dX0_tells_17 : decode cX0_tells 17 = .ok (.iconst 1, 1) := by decide +kernel
theorem dX0_tells_18 : decode cX0_tells 18 = .ok (.if_icmp .ne 7, 3) := by decide +kernel
theorem dX0_tells_21 : decode cX0_tells 21 = .ok (.iconst 1, 1) := by decide +kernel
theorem dX0_tells_22 : decode cX0_tells 22 = .ok (.goto 4, 3) := by decide +kernel
theorem dX0_tells_25 : decode cX0_tells 25 = .ok (.iconst 0, 1) := by decide +kernel
theorem dX0_tells_26 : decode cX0_tells 26 = .ok (.ireturn, 1) := by decide +kernel
theorem dX0_tell_0 : decode cX0_tell 0 = .ok (.aload_n 0, 1) := by decide +kernel
theorem dX0_tell_1 : decode cX0_tell 1 = .ok (.dup, 1) := by decide +kernel
theorem dX0_tell_2 : decode cX0_tell 2 = .ok (.getfield 15, 3) := by decide +kernel
theorem dX0_tell_5 : decode cX0_tell 5 = .ok (.iconst 1, 1) := by decide +kernel
theorem dX0_tell_6 : decode cX0_tell 6 = .ok (.iload_n 1, 1) := by decide +kernel
theorem dX0_tell_7 : decode cX0_tell 7 = .ok (.ishl, 1) := by decide +kernel
theorem dX0_tell_8 : decode cX0_tell 8 = .ok (.ior, 1) := by decide +kernel
theorem dX0_tell_9 : decode cX0_tell 9 = .ok (.putfield 15, 3) := by decide +kernel
theorem dX0_tell_12 : decode cX0_tell 12 = .ok (.aload_n 0, 1) := by decide +kernel
theorem dX0_tell_13 : decode cX0_tell 13 = .ok (.getfield 18, 3) := by decide +kernel
theorem dX0_tell_16 : decode cX0_tell 16 = .ok (.iload_n 1, 1) := by decide +kernel
theorem dX0_tell_17 : decode cX0_tell 17 = .ok (.iload_n 2, 1) := by decide +kernel
theorem dX0_tell_18 : decode cX0_tell 18 = .ok (.iastore, 1) := by decide +kernel
theorem dX0_tell_19 : decode cX0_tell 19 = .ok (.aload_n 0, 1) := by decide +kernel
theorem dX0_tell_20 : decode cX0_tell 20 = .ok (.getfield 22, 3) := by decide +kernel
theorem dX0_tell_23 : decode cX0_tell 23 = .ok (.iload_n 1, 1) := by decide +kernel
theorem dX0_tell_24 : decode cX0_tell 24 = .ok (.iload_n 3, 1) := by decide +kernel
theorem dX0_tell_25 : decode cX0_tell 25 = .ok (.iastore, 1) := by decide +kernel
theorem dX0_tell_26 : decode cX0_tell 26 = .ok (.aload_n 0, 1) := by decide +kernel
theorem dX0_tell_27 : decode cX0_tell 27 = .ok (.getfield 25, 3) := by decide +kernel
theorem dX0_tell_30 : decode cX0_tell 30 = .ok (.iload_n 1, 1) := by decide +kernel
theorem dX0_tell_31 : decode cX0_tell 31 = .ok (.iconst 0, 1) := by decide +kernel
theorem dX0_tell_32 : decode cX0_tell 32 = .ok (.iastore, 1) := by decide +kernel
theorem dX0_tell_33 : decode cX0_tell 33 = .ok (.aload_n 0, 1) := by decide +kernel
theorem dX0_tell_34 : decode cX0_tell 34 = .ok (.getfield 28, 3) := by decide +kernel
theorem dX0_tell_37 : decode cX0_tell 37 = .ok (.iload_n 1, 1) := by decide +kernel
theorem dX0_tell_38 : decode cX0_tell 38 = .ok (.aload_n 0, 1) := by decide +kernel
theorem dX0_tell_39 : decode cX0_tell 39 = .ok (.getfield 40, 3) := by decide +kernel
theorem dX0_tell_42 : decode cX0_tell 42 = .ok (.iastore, 1) := by decide +kernel
theorem dX0_tell_43 : decode cX0_tell 43 = .ok (.aload_n 0, 1) := by decide +kernel
theorem dX0_tell_44 : decode cX0_tell 44 = .ok (.getfield 31, 3) := by decide +kernel
theorem dX0_tell_47 : decode cX0_tell 47 = .ok (.iload_n 1, 1) := by decide +kernel
theorem dX0_tell_48 : decode cX0_tell 48 = .ok (.aload_n 0, 1) := by decide +kernel
theorem dX0_tell_49 : decode cX0_tell 49 = .ok (.getfield 40, 3) := by decide +kernel
theorem dX0_tell_52 : decode cX0_tell 52 = .ok (.iastore, 1) := by decide +kernel
theorem dX0_tell_53 : decode cX0_tell 53 = .ok (.return_, 1) := by decide +kernel
theorem dX0_addPassed_0 : decode cX0_addPassed 0 = .ok (.aload_n 0, 1) := by decide +kernel
theorem dX0_addPassed_1 : decode cX0_addPassed 1 = .ok (.getfield 25, 3) := by decide +kernel
theorem dX0_addPassed_4 : decode cX0_addPassed 4 = .ok (.iload_n 1, 1) := by decide +kernel
theorem dX0_addPassed_5 : decode cX0_addPassed 5 = .ok (.dup2, 1) := by decide +kernel
theorem dX0_addPassed_6 : decode cX0_addPassed 6 = .ok (.iaload, 1) := by decide +kernel
theorem dX0_addPassed_7 : decode cX0_addPassed 7 = .ok (.iconst 1, 1) := by decide +kernel
theorem dX0_addPassed_8 : decode cX0_addPassed 8 = .ok (.iload_n 2, 1) := by decide +kernel
theorem dX0_addPassed_9 : decode cX0_addPassed 9 = .ok (.ishl, 1) := by decide +kernel
theorem dX0_addPassed_10 : decode cX0_addPassed 10 = .ok (.ior, 1) := by decide +kernel
theorem dX0_addPassed_11 : decode cX0_addPassed 11 = .ok (.iastore, 1) := by decide +kernel
theorem dX0_addPassed_12 : decode cX0_addPassed 12 = .ok (.aload_n 0, 1) := by decide +kernel
theorem dX0_addPassed_13 : decode cX0_addPassed 13 = .ok (.iload_n 1, 1) := by decide +kernel
theorem dX0_addPassed_14 : decode cX0_addPassed 14 = .ok (.iload_n 2, 1) := by decide +kernel
theorem dX0_addPassed_15 : decode cX0_addPassed 15 = .ok (.invokevirtual 47, 3) := by decide +kernel
theorem dX0_addPassed_18 : decode cX0_addPassed 18 = .ok (.return_, 1) := by decide +kernel
theorem dX0_addAbove_0 : decode cX0_addAbove 0 = .ok (.aload_n 0, 1) := by decide +kernel
theorem dX0_addAbove_1 : decode cX0_addAbove 1 = .ok (.getfield 25, 3) := by decide +kernel
theorem dX0_addAbove_4 : decode cX0_addAbove 4 = .ok (.iload_n 1, 1) := by decide +kernel
theorem dX0_addAbove_5 : decode cX0_addAbove 5 = .ok (.dup2, 1) := by decide +kernel
theorem dX0_addAbove_6 : decode cX0_addAbove 6 = .ok (.iaload, 1) := by decide +kernel
theorem dX0_addAbove_7 : decode cX0_addAbove 7 = .ok (.iconst 1, 1) := by decide +kernel
theorem dX0_addAbove_8 : decode cX0_addAbove 8 = .ok (.iload_n 2, 1) := by decide +kernel
theorem dX0_addAbove_9 : decode cX0_addAbove 9 = .ok (.ishl, 1) := by decide +kernel
theorem dX0_addAbove_10 : decode cX0_addAbove 10 = .ok (.ior, 1) := by decide +kernel
theorem dX0_addAbove_11 : decode cX0_addAbove 11 = .ok (.iastore, 1) := by decide +kernel
theorem dX0_addAbove_12 : decode cX0_addAbove 12 = .ok (.aload_n 0, 1) := by decide +kernel
theorem dX0_addAbove_13 : decode cX0_addAbove 13 = .ok (.iload_n 1, 1) := by decide +kernel
theorem dX0_addAbove_14 : decode cX0_addAbove 14 = .ok (.bipush 8, 2) := by decide +kernel
theorem dX0_addAbove_16 : decode cX0_addAbove 16 = .ok (.iload_n 3, 1) := by decide +kernel
theorem dX0_addAbove_17 : decode cX0_addAbove 17 = .ok (.iconst 1, 1) := by decide +kernel
theorem dX0_addAbove_18 : decode cX0_addAbove 18 = .ok (.iadd, 1) := by decide +kernel
theorem dX0_addAbove_19 : decode cX0_addAbove 19 = .ok (.imul, 1) := by decide +kernel
theorem dX0_addAbove_20 : decode cX0_addAbove 20 = .ok (.iload_n 2, 1) := by decide +kernel
theorem dX0_addAbove_21 : decode cX0_addAbove 21 = .ok (.iadd, 1) := by decide +kernel
theorem dX0_addAbove_22 : decode cX0_addAbove 22 = .ok (.invokevirtual 47, 3) := by decide +kernel
theorem dX0_addAbove_25 : decode cX0_addAbove 25 = .ok (.return_, 1) := by decide +kernel
theorem dX0_add_0 : decode cX0_add 0 = .ok (.aload_n 0, 1) := by decide +kernel
theorem dX0_add_1 : decode cX0_add 1 = .ok (.getfield 40, 3) := by decide +kernel
theorem dX0_add_4 : decode cX0_add 4 = .ok (.aload_n 0, 1) := by decide +kernel
theorem dX0_add_5 : decode cX0_add 5 = .ok (.getfield 36, 3) := by decide +kernel
theorem dX0_add_8 : decode cX0_add 8 = .ok (.arraylength, 1) := by decide +kernel
theorem dX0_add_9 : decode cX0_add 9 = .ok (.if_icmp .ge 34, 3) := by decide +kernel
theorem dX0_add_12 : decode cX0_add 12 = .ok (.aload_n 0, 1) := by decide +kernel
theorem dX0_add_13 : decode cX0_add 13 = .ok (.getfield 36, 3) := by decide +kernel
theorem dX0_add_16 : decode cX0_add 16 = .ok (.aload_n 0, 1) := by decide +kernel
theorem dX0_add_17 : decode cX0_add 17 = .ok (.getfield 40, 3) := by decide +kernel
theorem dX0_add_20 : decode cX0_add 20 = .ok (.iload_n 2, 1) := by decide +kernel
theorem dX0_add_21 : decode cX0_add 21 = .ok (.i2s, 1) := by decide +kernel
theorem dX0_add_22 : decode cX0_add 22 = .ok (.sastore, 1) := by decide +kernel
theorem dX0_add_23 : decode cX0_add 23 = .ok (.aload_n 0, 1) := by decide +kernel
theorem dX0_add_24 : decode cX0_add 24 = .ok (.dup, 1) := by decide +kernel
theorem dX0_add_25 : decode cX0_add 25 = .ok (.getfield 40, 3) := by decide +kernel
theorem dX0_add_28 : decode cX0_add 28 = .ok (.iconst 1, 1) := by decide +kernel
theorem dX0_add_29 : decode cX0_add 29 = .ok (.iadd, 1) := by decide +kernel
theorem dX0_add_30 : decode cX0_add 30 = .ok (.putfield 40, 3) := by decide +kernel
theorem dX0_add_33 : decode cX0_add 33 = .ok (.aload_n 0, 1) := by decide +kernel
theorem dX0_add_34 : decode cX0_add 34 = .ok (.getfield 31, 3) := by decide +kernel
theorem dX0_add_37 : decode cX0_add 37 = .ok (.iload_n 1, 1) := by decide +kernel
theorem dX0_add_38 : decode cX0_add 38 = .ok (.aload_n 0, 1) := by decide +kernel
theorem dX0_add_39 : decode cX0_add 39 = .ok (.getfield 40, 3) := by decide +kernel
theorem dX0_add_42 : decode cX0_add 42 = .ok (.iastore, 1) := by decide +kernel
theorem dX0_add_43 : decode cX0_add 43 = .ok (.return_, 1) := by decide +kernel
theorem dX0_leansOnToldAlone_0 : decode cX0_leansOnToldAlone 0 = .ok (.iconst 0, 1) := by decide +kernel
theorem dX0_leansOnToldAlone_1 : decode cX0_leansOnToldAlone 1 = .ok (.istore_n 1, 1) := by decide +kernel
theorem dX0_leansOnToldAlone_2 : decode cX0_leansOnToldAlone 2 = .ok (.iconst 0, 1) := by decide +kernel
theorem dX0_leansOnToldAlone_3 : decode cX0_leansOnToldAlone 3 = .ok (.istore_n 2, 1) := by decide +kernel
theorem dX0_leansOnToldAlone_4 : decode cX0_leansOnToldAlone 4 = .ok (.iload_n 2, 1) := by decide +kernel
theorem dX0_leansOnToldAlone_5 : decode cX0_leansOnToldAlone 5 = .ok (.bipush 8, 2) := by decide +kernel
theorem dX0_leansOnToldAlone_7 : decode cX0_leansOnToldAlone 7 = .ok (.if_icmp .ge 26, 3) := by decide +kernel
theorem dX0_leansOnToldAlone_10 : decode cX0_leansOnToldAlone 10 = .ok (.aload_n 0, 1) := by decide +kernel
theorem dX0_leansOnToldAlone_11 : decode cX0_leansOnToldAlone 11 = .ok (.iload_n 2, 1) := by decide +kernel
theorem dX0_leansOnToldAlone_12 : decode cX0_leansOnToldAlone 12 = .ok (.invokevirtual 51, 3) := by decide +kernel
theorem dX0_leansOnToldAlone_15 : decode cX0_leansOnToldAlone 15 = .ok (.ifCond .eq 12, 3) := by decide +kernel
theorem dX0_leansOnToldAlone_18 : decode cX0_leansOnToldAlone 18 = .ok (.iload_n 1, 1) := by decide +kernel
theorem dX0_leansOnToldAlone_19 : decode cX0_leansOnToldAlone 19 = .ok (.aload_n 0, 1) := by decide +kernel
theorem dX0_leansOnToldAlone_20 : decode cX0_leansOnToldAlone 20 = .ok (.getfield 25, 3) := by decide +kernel
theorem dX0_leansOnToldAlone_23 : decode cX0_leansOnToldAlone 23 = .ok (.iload_n 2, 1) := by decide +kernel
theorem dX0_leansOnToldAlone_24 : decode cX0_leansOnToldAlone 24 = .ok (.iaload, 1) := by decide +kernel
theorem dX0_leansOnToldAlone_25 : decode cX0_leansOnToldAlone 25 = .ok (.ior, 1) := by decide +kernel
theorem dX0_leansOnToldAlone_26 : decode cX0_leansOnToldAlone 26 = .ok (.istore_n 1, 1) := by decide +kernel
theorem dX0_leansOnToldAlone_27 : decode cX0_leansOnToldAlone 27 = .ok (.iinc 2 1, 3) := by decide +kernel
theorem dX0_leansOnToldAlone_30 : decode cX0_leansOnToldAlone 30 = .ok (.goto (-26), 3) := by decide +kernel
theorem dX0_leansOnToldAlone_33 : decode cX0_leansOnToldAlone 33 = .ok (.iload_n 1, 1) := by decide +kernel
theorem dX0_leansOnToldAlone_34 : decode cX0_leansOnToldAlone 34 = .ok (.aload_n 0, 1) := by decide +kernel
theorem dX0_leansOnToldAlone_35 : decode cX0_leansOnToldAlone 35 = .ok (.getfield 15, 3) := by decide +kernel
theorem dX0_leansOnToldAlone_38 : decode cX0_leansOnToldAlone 38 = .ok (.iconst (-1), 1) := by decide +kernel
theorem dX0_leansOnToldAlone_39 : decode cX0_leansOnToldAlone 39 = .ok (.ixor, 1) := by decide +kernel
theorem dX0_leansOnToldAlone_40 : decode cX0_leansOnToldAlone 40 = .ok (.iand, 1) := by decide +kernel
theorem dX0_leansOnToldAlone_41 : decode cX0_leansOnToldAlone 41 = .ok (.ifCond .ne 7, 3) := by decide +kernel
theorem dX0_leansOnToldAlone_44 : decode cX0_leansOnToldAlone 44 = .ok (.iconst 1, 1) := by decide +kernel
theorem dX0_leansOnToldAlone_45 : decode cX0_leansOnToldAlone 45 = .ok (.goto 4, 3) := by decide +kernel
theorem dX0_leansOnToldAlone_48 : decode cX0_leansOnToldAlone 48 = .ok (.iconst 0, 1) := by decide +kernel
theorem dX0_leansOnToldAlone_49 : decode cX0_leansOnToldAlone 49 = .ok (.ireturn, 1) := by decide +kernel
theorem dX0_isPassed_0 : decode cX0_isPassed 0 = .ok (.aload_n 2, 1) := by decide +kernel
theorem dX0_isPassed_1 : decode cX0_isPassed 1 = .ok (.iload_n 1, 1) := by decide +kernel
theorem dX0_isPassed_2 : decode cX0_isPassed 2 = .ok (.iaload, 1) := by decide +kernel
theorem dX0_isPassed_3 : decode cX0_isPassed 3 = .ok (.aload_n 0, 1) := by decide +kernel
theorem dX0_isPassed_4 : decode cX0_isPassed 4 = .ok (.getfield 22, 3) := by decide +kernel
theorem dX0_isPassed_7 : decode cX0_isPassed 7 = .ok (.iload_n 1, 1) := by decide +kernel
theorem dX0_isPassed_8 : decode cX0_isPassed 8 = .ok (.iaload, 1) := by decide +kernel
theorem dX0_isPassed_9 : decode cX0_isPassed 9 = .ok (.if_icmp .lt 7, 3) := by decide +kernel
theorem dX0_isPassed_12 : decode cX0_isPassed 12 = .ok (.iconst 1, 1) := by decide +kernel
theorem dX0_isPassed_13 : decode cX0_isPassed 13 = .ok (.goto 4, 3) := by decide +kernel
theorem dX0_isPassed_16 : decode cX0_isPassed 16 = .ok (.iconst 0, 1) := by decide +kernel
theorem dX0_isPassed_17 : decode cX0_isPassed 17 = .ok (.ireturn, 1) := by decide +kernel
theorem dX0_claimHolds_0 : decode cX0_claimHolds 0 = .ok (.iload_n 1, 1) := by decide +kernel
theorem dX0_claimHolds_1 : decode cX0_claimHolds 1 = .ok (.bipush 7, 2) := by decide +kernel
theorem dX0_claimHolds_3 : decode cX0_claimHolds 3 = .ok (.iand, 1) := by decide +kernel
theorem dX0_claimHolds_4 : decode cX0_claimHolds 4 = .ok (.istore_n 3, 1) := by decide +kernel
theorem dX0_claimHolds_5 : decode cX0_claimHolds 5 = .ok (.iload_n 1, 1) := by decide +kernel
theorem dX0_claimHolds_6 : decode cX0_claimHolds 6 = .ok (.bipush 8, 2) := by decide +kernel
theorem dX0_claimHolds_8 : decode cX0_claimHolds 8 = .ok (.if_icmp .ge 12, 3) := by decide +kernel
theorem dX0_claimHolds_11 : decode cX0_claimHolds 11 = .ok (.aload_n 0, 1) := by decide +kernel
theorem dX0_claimHolds_12 : decode cX0_claimHolds 12 = .ok (.iload_n 3, 1) := by decide +kernel
theorem dX0_claimHolds_13 : decode cX0_claimHolds 13 = .ok (.aload_n 2, 1) := by decide +kernel
theorem dX0_claimHolds_14 : decode cX0_claimHolds 14 = .ok (.invokevirtual 55, 3) := by decide +kernel
theorem dX0_claimHolds_17 : decode cX0_claimHolds 17 = .ok (.goto 20, 3) := by decide +kernel
theorem dX0_claimHolds_20 : decode cX0_claimHolds 20 = .ok (.aload_n 2, 1) := by decide +kernel
theorem dX0_claimHolds_21 : decode cX0_claimHolds 21 = .ok (.iload_n 3, 1) := by decide +kernel
theorem dX0_claimHolds_22 : decode cX0_claimHolds 22 = .ok (.iaload, 1) := by decide +kernel
theorem dX0_claimHolds_23 : decode cX0_claimHolds 23 = .ok (.iload_n 1, 1) := by decide +kernel
theorem dX0_claimHolds_24 : decode cX0_claimHolds 24 = .ok (.bipush 8, 2) := by decide +kernel
theorem dX0_claimHolds_26 : decode cX0_claimHolds 26 = .ok (.idiv, 1) := by decide +kernel
theorem dX0_claimHolds_27 : decode cX0_claimHolds 27 = .ok (.iconst 1, 1) := by decide +kernel
theorem dX0_claimHolds_28 : decode cX0_claimHolds 28 = .ok (.isub, 1) := by decide +kernel
theorem dX0_claimHolds_29 : decode cX0_claimHolds 29 = .ok (.if_icmp .le 7, 3) := by decide +kernel
theorem dX0_claimHolds_32 : decode cX0_claimHolds 32 = .ok (.iconst 1, 1) := by decide +kernel
theorem dX0_claimHolds_33 : decode cX0_claimHolds 33 = .ok (.goto 4, 3) := by decide +kernel
theorem dX0_claimHolds_36 : decode cX0_claimHolds 36 = .ok (.iconst 0, 1) := by decide +kernel
theorem dX0_claimHolds_37 : decode cX0_claimHolds 37 = .ok (.ireturn, 1) := by decide +kernel
theorem dX0_holds_0 : decode cX0_holds 0 = .ok (.iconst 1, 1) := by decide +kernel
theorem dX0_holds_1 : decode cX0_holds 1 = .ok (.istore_n 3, 1) := by decide +kernel
theorem dX0_holds_2 : decode cX0_holds 2 = .ok (.aload_n 0, 1) := by decide +kernel
theorem dX0_holds_3 : decode cX0_holds 3 = .ok (.getfield 28, 3) := by decide +kernel
theorem dX0_holds_6 : decode cX0_holds 6 = .ok (.iload_n 1, 1) := by decide +kernel
theorem dX0_holds_7 : decode cX0_holds 7 = .ok (.iaload, 1) := by decide +kernel
theorem dX0_holds_8 : decode cX0_holds 8 = .ok (.istore 4, 2) := by decide +kernel
theorem dX0_holds_10 : decode cX0_holds 10 = .ok (.iload 4, 2) := by decide +kernel
theorem dX0_holds_12 : decode cX0_holds 12 = .ok (.aload_n 0, 1) := by decide +kernel
theorem dX0_holds_13 : decode cX0_holds 13 = .ok (.getfield 31, 3) := by decide +kernel
theorem dX0_holds_16 : decode cX0_holds 16 = .ok (.iload_n 1, 1) := by decide +kernel
theorem dX0_holds_17 : decode cX0_holds 17 = .ok (.iaload, 1) := by decide +kernel
theorem dX0_holds_18 : decode cX0_holds 18 = .ok (.if_icmp .ge 112, 3) := by decide +kernel
theorem dX0_holds_21 : decode cX0_holds 21 = .ok (.iload_n 3, 1) := by decide +kernel
theorem dX0_holds_22 : decode cX0_holds 22 = .ok (.iconst 1, 1) := by decide +kernel
theorem dX0_holds_23 : decode cX0_holds 23 = .ok (.iand, 1) := by decide +kernel
theorem dX0_holds_24 : decode cX0_holds 24 = .ok (.istore 5, 2) := by decide +kernel
theorem dX0_holds_26 : decode cX0_holds 26 = .ok (.aload_n 0, 1) := by decide +kernel
theorem dX0_holds_27 : decode cX0_holds 27 = .ok (.getfield 36, 3) := by decide +kernel
theorem dX0_holds_30 : decode cX0_holds 30 = .ok (.iload 4, 2) := by decide +kernel
theorem dX0_holds_32 : decode cX0_holds 32 = .ok (.saload, 1) := by decide +kernel
theorem dX0_holds_33 : decode cX0_holds 33 = .ok (.tableswitch 66 (-3) (-1) #[56, 34, 27], 27) := by decide +kernel
theorem dX0_holds_60 : decode cX0_holds 60 = .ok (.iload_n 3, 1) := by decide +kernel
theorem dX0_holds_61 : decode cX0_holds 61 = .ok (.iconst 1, 1) := by decide +kernel
theorem dX0_holds_62 : decode cX0_holds 62 = .ok (.ixor, 1) := by decide +kernel
theorem dX0_holds_63 : decode cX0_holds 63 = .ok (.istore_n 3, 1) := by decide +kernel
theorem dX0_holds_64 : decode cX0_holds 64 = .ok (.goto 60, 3) := by decide +kernel
theorem dX0_holds_67 : decode cX0_holds 67 = .ok (.iload 5, 2) := by decide +kernel
theorem dX0_holds_69 : decode cX0_holds 69 = .ok (.iconst 1, 1) := by decide +kernel
theorem dX0_holds_70 : decode cX0_holds 70 = .ok (.if_icmp .ne 9, 3) := by decide +kernel
theorem dX0_holds_73 : decode cX0_holds 73 = .ok (.iload_n 3, 1) := by decide +kernel
theorem dX0_holds_74 : decode cX0_holds 74 = .ok (.iconst 1, 1) := by decide +kernel
theorem dX0_holds_75 : decode cX0_holds 75 = .ok (.ishr, 1) := by decide +kernel
theorem dX0_holds_76 : decode cX0_holds 76 = .ok (.goto 9, 3) := by decide +kernel
theorem dX0_holds_79 : decode cX0_holds 79 = .ok (.iload_n 3, 1) := by decide +kernel
theorem dX0_holds_80 : decode cX0_holds 80 = .ok (.iconst 1, 1) := by decide +kernel
theorem dX0_holds_81 : decode cX0_holds 81 = .ok (.ishr, 1) := by decide +kernel
theorem dX0_holds_82 : decode cX0_holds 82 = .ok (.bipush (-2), 2) := by decide +kernel
theorem dX0_holds_84 : decode cX0_holds 84 = .ok (.iand, 1) := by decide +kernel
theorem dX0_holds_85 : decode cX0_holds 85 = .ok (.istore_n 3, 1) := by decide +kernel
theorem dX0_holds_86 : decode cX0_holds 86 = .ok (.goto 38, 3) := by decide +kernel
theorem dX0_holds_89 : decode cX0_holds 89 = .ok (.iload_n 3, 1) := by decide +kernel
theorem dX0_holds_90 : decode cX0_holds 90 = .ok (.iconst 1, 1) := by decide +kernel
theorem dX0_holds_91 : decode cX0_holds 91 = .ok (.ishr, 1) := by decide +kernel
theorem dX0_holds_92 : decode cX0_holds 92 = .ok (.iload 5, 2) := by decide +kernel
theorem dX0_holds_94 : decode cX0_holds 94 = .ok (.ior, 1) := by decide +kernel
theorem dX0_holds_95 : decode cX0_holds 95 = .ok (.istore_n 3, 1) := by decide +kernel
theorem dX0_holds_96 : decode cX0_holds 96 = .ok (.goto 28, 3) := by decide +kernel
theorem dX0_holds_99 : decode cX0_holds 99 = .ok (.iload_n 3, 1) := by decide +kernel
theorem dX0_holds_100 : decode cX0_holds 100 = .ok (.iconst 1, 1) := by decide +kernel
theorem dX0_holds_101 : decode cX0_holds 101 = .ok (.ishl, 1) := by decide +kernel
theorem dX0_holds_102 : decode cX0_holds 102 = .ok (.aload_n 0, 1) := by decide +kernel
theorem dX0_holds_103 : decode cX0_holds 103 = .ok (.aload_n 0, 1) := by decide +kernel
theorem dX0_holds_104 : decode cX0_holds 104 = .ok (.getfield 36, 3) := by decide +kernel
theorem dX0_holds_107 : decode cX0_holds 107 = .ok (.iload 4, 2) := by decide +kernel
theorem dX0_holds_109 : decode cX0_holds 109 = .ok (.saload, 1) := by decide +kernel
theorem dX0_holds_110 : decode cX0_holds 110 = .ok (.aload_n 2, 1) := by decide +kernel
theorem dX0_holds_111 : decode cX0_holds 111 = .ok (.invokevirtual 59, 3) := by decide +kernel
theorem dX0_holds_114 : decode cX0_holds 114 = .ok (.ifCond .eq 7, 3) := by decide +kernel
theorem dX0_holds_117 : decode cX0_holds 117 = .ok (.iconst 1, 1) := by decide +kernel
theorem dX0_holds_118 : decode cX0_holds 118 = .ok (.goto 4, 3) := by decide +kernel
theorem dX0_holds_121 : decode cX0_holds 121 = .ok (.iconst 0, 1) := by decide +kernel
theorem dX0_holds_122 : decode cX0_holds 122 = .ok (.ior, 1) := by decide +kernel
theorem dX0_holds_123 : decode cX0_holds 123 = .ok (.istore_n 3, 1) := by decide +kernel
theorem dX0_holds_124 : decode cX0_holds 124 = .ok (.iinc 4 1, 3) := by decide +kernel
theorem dX0_holds_127 : decode cX0_holds 127 = .ok (.goto (-117), 3) := by decide +kernel
theorem dX0_holds_130 : decode cX0_holds 130 = .ok (.iload_n 3, 1) := by decide +kernel
theorem dX0_holds_131 : decode cX0_holds 131 = .ok (.iconst 1, 1) := by decide +kernel
theorem dX0_holds_132 : decode cX0_holds 132 = .ok (.iand, 1) := by decide +kernel
theorem dX0_holds_133 : decode cX0_holds 133 = .ok (.iconst 1, 1) := by decide +kernel
theorem dX0_holds_134 : decode cX0_holds 134 = .ok (.if_icmp .ne 7, 3) := by decide +kernel
theorem dX0_holds_137 : decode cX0_holds 137 = .ok (.iconst 1, 1) := by decide +kernel
theorem dX0_holds_138 : decode cX0_holds 138 = .ok (.goto 4, 3) := by decide +kernel
theorem dX0_holds_141 : decode cX0_holds 141 = .ok (.iconst 0, 1) := by decide +kernel
theorem dX0_holds_142 : decode cX0_holds 142 = .ok (.ireturn, 1) := by decide +kernel
theorem dX0_passed_0 : decode cX0_passed 0 = .ok (.iconst 0, 1) := by decide +kernel
theorem dX0_passed_1 : decode cX0_passed 1 = .ok (.istore_n 2, 1) := by decide +kernel
theorem dX0_passed_2 : decode cX0_passed 2 = .ok (.iconst 0, 1) := by decide +kernel
theorem dX0_passed_3 : decode cX0_passed 3 = .ok (.istore_n 3, 1) := by decide +kernel
theorem dX0_passed_4 : decode cX0_passed 4 = .ok (.iload_n 3, 1) := by decide +kernel
theorem dX0_passed_5 : decode cX0_passed 5 = .ok (.bipush 8, 2) := by decide +kernel
theorem dX0_passed_7 : decode cX0_passed 7 = .ok (.if_icmp .ge 32, 3) := by decide +kernel
theorem dX0_passed_10 : decode cX0_passed 10 = .ok (.aload_n 0, 1) := by decide +kernel
theorem dX0_passed_11 : decode cX0_passed 11 = .ok (.iload_n 3, 1) := by decide +kernel
theorem dX0_passed_12 : decode cX0_passed 12 = .ok (.invokevirtual 51, 3) := by decide +kernel
theorem dX0_passed_15 : decode cX0_passed 15 = .ok (.ifCond .eq 18, 3) := by decide +kernel
theorem dX0_passed_18 : decode cX0_passed 18 = .ok (.aload_n 0, 1) := by decide +kernel
theorem dX0_passed_19 : decode cX0_passed 19 = .ok (.iload_n 3, 1) := by decide +kernel
theorem dX0_passed_20 : decode cX0_passed 20 = .ok (.aload_n 1, 1) := by decide +kernel
theorem dX0_passed_21 : decode cX0_passed 21 = .ok (.invokevirtual 55, 3) := by decide +kernel
theorem dX0_passed_24 : decode cX0_passed 24 = .ok (.ifCond .eq 9, 3) := by decide +kernel
theorem dX0_passed_27 : decode cX0_passed 27 = .ok (.iload_n 2, 1) := by decide +kernel
theorem dX0_passed_28 : decode cX0_passed 28 = .ok (.iconst 1, 1) := by decide +kernel
theorem dX0_passed_29 : decode cX0_passed 29 = .ok (.iload_n 3, 1) := by decide +kernel
theorem dX0_passed_30 : decode cX0_passed 30 = .ok (.ishl, 1) := by decide +kernel
theorem dX0_passed_31 : decode cX0_passed 31 = .ok (.ior, 1) := by decide +kernel
theorem dX0_passed_32 : decode cX0_passed 32 = .ok (.istore_n 2, 1) := by decide +kernel
theorem dX0_passed_33 : decode cX0_passed 33 = .ok (.iinc 3 1, 3) := by decide +kernel
theorem dX0_passed_36 : decode cX0_passed 36 = .ok (.goto (-32), 3) := by decide +kernel
theorem dX0_passed_39 : decode cX0_passed 39 = .ok (.iload_n 2, 1) := by decide +kernel
theorem dX0_passed_40 : decode cX0_passed 40 = .ok (.ireturn, 1) := by decide +kernel
theorem dX0_open_0 : decode cX0_open 0 = .ok (.iconst 0, 1) := by decide +kernel
theorem dX0_open_1 : decode cX0_open 1 = .ok (.istore_n 2, 1) := by decide +kernel
theorem dX0_open_2 : decode cX0_open 2 = .ok (.iconst 0, 1) := by decide +kernel
theorem dX0_open_3 : decode cX0_open 3 = .ok (.istore_n 3, 1) := by decide +kernel
theorem dX0_open_4 : decode cX0_open 4 = .ok (.iload_n 3, 1) := by decide +kernel
theorem dX0_open_5 : decode cX0_open 5 = .ok (.bipush 8, 2) := by decide +kernel
theorem dX0_open_7 : decode cX0_open 7 = .ok (.if_icmp .ge 41, 3) := by decide +kernel
theorem dX0_open_10 : decode cX0_open 10 = .ok (.aload_n 0, 1) := by decide +kernel
theorem dX0_open_11 : decode cX0_open 11 = .ok (.iload_n 3, 1) := by decide +kernel
theorem dX0_open_12 : decode cX0_open 12 = .ok (.invokevirtual 51, 3) := by decide +kernel
theorem dX0_open_15 : decode cX0_open 15 = .ok (.ifCond .eq 27, 3) := by decide +kernel
theorem dX0_open_18 : decode cX0_open 18 = .ok (.aload_n 0, 1) := by decide +kernel
theorem dX0_open_19 : decode cX0_open 19 = .ok (.iload_n 3, 1) := by decide +kernel
theorem dX0_open_20 : decode cX0_open 20 = .ok (.aload_n 1, 1) := by decide +kernel
theorem dX0_open_21 : decode cX0_open 21 = .ok (.invokevirtual 55, 3) := by decide +kernel
theorem dX0_open_24 : decode cX0_open 24 = .ok (.ifCond .ne 18, 3) := by decide +kernel
theorem dX0_open_27 : decode cX0_open 27 = .ok (.aload_n 0, 1) := by decide +kernel
theorem dX0_open_28 : decode cX0_open 28 = .ok (.iload_n 3, 1) := by decide +kernel
theorem dX0_open_29 : decode cX0_open 29 = .ok (.aload_n 1, 1) := by decide +kernel
theorem dX0_open_30 : decode cX0_open 30 = .ok (.invokevirtual 62, 3) := by decide +kernel
theorem dX0_open_33 : decode cX0_open 33 = .ok (.ifCond .eq 9, 3) := by decide +kernel
theorem dX0_open_36 : decode cX0_open 36 = .ok (.iload_n 2, 1) := by decide +kernel
theorem dX0_open_37 : decode cX0_open 37 = .ok (.iconst 1, 1) := by decide +kernel
theorem dX0_open_38 : decode cX0_open 38 = .ok (.iload_n 3, 1) := by decide +kernel
theorem dX0_open_39 : decode cX0_open 39 = .ok (.ishl, 1) := by decide +kernel
theorem dX0_open_40 : decode cX0_open 40 = .ok (.ior, 1) := by decide +kernel
theorem dX0_open_41 : decode cX0_open 41 = .ok (.istore_n 2, 1) := by decide +kernel
theorem dX0_open_42 : decode cX0_open 42 = .ok (.iinc 3 1, 3) := by decide +kernel
theorem dX0_open_45 : decode cX0_open 45 = .ok (.goto (-41), 3) := by decide +kernel
theorem dX0_open_48 : decode cX0_open 48 = .ok (.iload_n 2, 1) := by decide +kernel
theorem dX0_open_49 : decode cX0_open 49 = .ok (.ireturn, 1) := by decide +kernel
theorem dX0_namedLike_0 : decode cX0_namedLike 0 = .ok (.iconst 0, 1) := by decide +kernel
theorem dX0_namedLike_1 : decode cX0_namedLike 1 = .ok (.istore_n 2, 1) := by decide +kernel
theorem dX0_namedLike_2 : decode cX0_namedLike 2 = .ok (.iconst 0, 1) := by decide +kernel
theorem dX0_namedLike_3 : decode cX0_namedLike 3 = .ok (.istore_n 3, 1) := by decide +kernel
theorem dX0_namedLike_4 : decode cX0_namedLike 4 = .ok (.iload_n 3, 1) := by decide +kernel
theorem dX0_namedLike_5 : decode cX0_namedLike 5 = .ok (.bipush 8, 2) := by decide +kernel
theorem dX0_namedLike_7 : decode cX0_namedLike 7 = .ok (.if_icmp .ge 38, 3) := by decide +kernel
theorem dX0_namedLike_10 : decode cX0_namedLike 10 = .ok (.aload_n 0, 1) := by decide +kernel
theorem dX0_namedLike_11 : decode cX0_namedLike 11 = .ok (.iload_n 3, 1) := by decide +kernel
theorem dX0_namedLike_12 : decode cX0_namedLike 12 = .ok (.invokevirtual 51, 3) := by decide +kernel
theorem dX0_namedLike_15 : decode cX0_namedLike 15 = .ok (.ifCond .eq 24, 3) := by decide +kernel
theorem dX0_namedLike_18 : decode cX0_namedLike 18 = .ok (.aload_n 0, 1) := by decide +kernel
theorem dX0_namedLike_19 : decode cX0_namedLike 19 = .ok (.getfield 18, 3) := by decide +kernel
theorem dX0_namedLike_22 : decode cX0_namedLike 22 = .ok (.iload_n 3, 1) := by decide +kernel
theorem dX0_namedLike_23 : decode cX0_namedLike 23 = .ok (.iaload, 1) := by decide +kernel
theorem dX0_namedLike_24 : decode cX0_namedLike 24 = .ok (.aload_n 0, 1) := by decide +kernel
theorem dX0_namedLike_25 : decode cX0_namedLike 25 = .ok (.getfield 18, 3) := by decide +kernel
theorem dX0_namedLike_28 : decode cX0_namedLike 28 = .ok (.iload_n 1, 1) := by decide +kernel
theorem dX0_namedLike_29 : decode cX0_namedLike 29 = .ok (.iaload, 1) := by decide +kernel
theorem dX0_namedLike_30 : decode cX0_namedLike 30 = .ok (.if_icmp .ne 9, 3) := by decide +kernel
theorem dX0_namedLike_33 : decode cX0_namedLike 33 = .ok (.iload_n 2, 1) := by decide +kernel
theorem dX0_namedLike_34 : decode cX0_namedLike 34 = .ok (.iconst 1, 1) := by decide +kernel
theorem dX0_namedLike_35 : decode cX0_namedLike 35 = .ok (.iload_n 3, 1) := by decide +kernel
theorem dX0_namedLike_36 : decode cX0_namedLike 36 = .ok (.ishl, 1) := by decide +kernel
theorem dX0_namedLike_37 : decode cX0_namedLike 37 = .ok (.ior, 1) := by decide +kernel
theorem dX0_namedLike_38 : decode cX0_namedLike 38 = .ok (.istore_n 2, 1) := by decide +kernel
theorem dX0_namedLike_39 : decode cX0_namedLike 39 = .ok (.iinc 3 1, 3) := by decide +kernel
theorem dX0_namedLike_42 : decode cX0_namedLike 42 = .ok (.goto (-38), 3) := by decide +kernel
theorem dX0_namedLike_45 : decode cX0_namedLike 45 = .ok (.iload_n 2, 1) := by decide +kernel
theorem dX0_namedLike_46 : decode cX0_namedLike 46 = .ok (.ireturn, 1) := by decide +kernel
theorem dX1_init_0 : decode cX1_init 0 = .ok (.aload_n 0, 1) := by decide +kernel
theorem dX1_init_1 : decode cX1_init 1 = .ok (.invokespecial 1, 3) := by decide +kernel
theorem dX1_init_4 : decode cX1_init 4 = .ok (.aload_n 0, 1) := by decide +kernel
theorem dX1_init_5 : decode cX1_init 5 = .ok (.iconst 0, 1) := by decide +kernel
theorem dX1_init_6 : decode cX1_init 6 = .ok (.putfield 7, 3) := by decide +kernel
theorem dX1_init_9 : decode cX1_init 9 = .ok (.aload_n 0, 1) := by decide +kernel
theorem dX1_init_10 : decode cX1_init 10 = .ok (.bipush 6, 2) := by decide +kernel
theorem dX1_init_12 : decode cX1_init 12 = .ok (.newarray .boolean, 2) := by decide +kernel
theorem dX1_init_14 : decode cX1_init 14 = .ok (.putfield 13, 3) := by decide +kernel
theorem dX1_init_17 : decode cX1_init 17 = .ok (.aload_n 0, 1) := by decide +kernel
theorem dX1_init_18 : decode cX1_init 18 = .ok (.bipush 6, 2) := by decide +kernel
theorem dX1_init_20 : decode cX1_init 20 = .ok (.newarray .int, 2) := by decide +kernel
theorem dX1_init_22 : decode cX1_init 22 = .ok (.putfield 17, 3) := by decide +kernel
theorem dX1_init_25 : decode cX1_init 25 = .ok (.aload_n 0, 1) := by decide +kernel
theorem dX1_init_26 : decode cX1_init 26 = .ok (.bipush 6, 2) := by decide +kernel
theorem dX1_init_28 : decode cX1_init 28 = .ok (.newarray .int, 2) := by decide +kernel
theorem dX1_init_30 : decode cX1_init 30 = .ok (.putfield 21, 3) := by decide +kernel
theorem dX1_init_33 : decode cX1_init 33 = .ok (.return_, 1) := by decide +kernel
theorem dX1_add_0 : decode cX1_add 0 = .ok (.aload_n 0, 1) := by decide +kernel
theorem dX1_add_1 : decode cX1_add 1 = .ok (.getfield 7, 3) := by decide +kernel
theorem dX1_add_4 : decode cX1_add 4 = .ok (.bipush 6, 2) := by decide +kernel
theorem dX1_add_6 : decode cX1_add 6 = .ok (.if_icmp .ge 43, 3) := by decide +kernel
theorem dX1_add_9 : decode cX1_add 9 = .ok (.aload_n 0, 1) := by decide +kernel
theorem dX1_add_10 : decode cX1_add 10 = .ok (.getfield 13, 3) := by decide +kernel
theorem dX1_add_13 : decode cX1_add 13 = .ok (.aload_n 0, 1) := by decide +kernel
theorem dX1_add_14 : decode cX1_add 14 = .ok (.getfield 7, 3) := by decide +kernel
theorem dX1_add_17 : decode cX1_add 17 = .ok (.iload_n 1, 1) := by decide +kernel
theorem dX1_add_18 : decode cX1_add 18 = .ok (.bastore, 1) := by decide +kernel
theorem dX1_add_19 : decode cX1_add 19 = .ok (.aload_n 0, 1) := by decide +kernel
theorem dX1_add_20 : decode cX1_add 20 = .ok (.getfield 17, 3) := by decide +kernel
theorem dX1_add_23 : decode cX1_add 23 = .ok (.aload_n 0, 1) := by decide +kernel
theorem dX1_add_24 : decode cX1_add 24 = .ok (.getfield 7, 3) := by decide +kernel
theorem dX1_add_27 : decode cX1_add 27 = .ok (.iload_n 2, 1) := by decide +kernel
theorem dX1_add_28 : decode cX1_add 28 = .ok (.iastore, 1) := by decide +kernel
theorem dX1_add_29 : decode cX1_add 29 = .ok (.aload_n 0, 1) := by decide +kernel
theorem dX1_add_30 : decode cX1_add 30 = .ok (.getfield 21, 3) := by decide +kernel
theorem dX1_add_33 : decode cX1_add 33 = .ok (.aload_n 0, 1) := by decide +kernel
theorem dX1_add_34 : decode cX1_add 34 = .ok (.getfield 7, 3) := by decide +kernel
theorem dX1_add_37 : decode cX1_add 37 = .ok (.iload_n 3, 1) := by decide +kernel
theorem dX1_add_38 : decode cX1_add 38 = .ok (.iastore, 1) := by decide +kernel
theorem dX1_add_39 : decode cX1_add 39 = .ok (.aload_n 0, 1) := by decide +kernel
theorem dX1_add_40 : decode cX1_add 40 = .ok (.dup, 1) := by decide +kernel
theorem dX1_add_41 : decode cX1_add 41 = .ok (.getfield 7, 3) := by decide +kernel
theorem dX1_add_44 : decode cX1_add 44 = .ok (.iconst 1, 1) := by decide +kernel
theorem dX1_add_45 : decode cX1_add 45 = .ok (.iadd, 1) := by decide +kernel
theorem dX1_add_46 : decode cX1_add 46 = .ok (.putfield 7, 3) := by decide +kernel
theorem dX1_add_49 : decode cX1_add 49 = .ok (.return_, 1) := by decide +kernel
theorem dX1_partsBy_0 : decode cX1_partsBy 0 = .ok (.iconst 0, 1) := by decide +kernel
theorem dX1_partsBy_1 : decode cX1_partsBy 1 = .ok (.istore_n 2, 1) := by decide +kernel
theorem dX1_partsBy_2 : decode cX1_partsBy 2 = .ok (.iconst 0, 1) := by decide +kernel
theorem dX1_partsBy_3 : decode cX1_partsBy 3 = .ok (.istore_n 3, 1) := by decide +kernel
theorem dX1_partsBy_4 : decode cX1_partsBy 4 = .ok (.iload_n 3, 1) := by decide +kernel
theorem dX1_partsBy_5 : decode cX1_partsBy 5 = .ok (.aload_n 0, 1) := by decide +kernel
theorem dX1_partsBy_6 : decode cX1_partsBy 6 = .ok (.getfield 7, 3) := by decide +kernel
theorem dX1_partsBy_9 : decode cX1_partsBy 9 = .ok (.if_icmp .ge 37, 3) := by decide +kernel
theorem dX1_partsBy_12 : decode cX1_partsBy 12 = .ok (.aload_n 0, 1) := by decide +kernel
theorem dX1_partsBy_13 : decode cX1_partsBy 13 = .ok (.getfield 13, 3) := by decide +kernel
theorem dX1_partsBy_16 : decode cX1_partsBy 16 = .ok (.iload_n 3, 1) := by decide +kernel
theorem dX1_partsBy_17 : decode cX1_partsBy 17 = .ok (.baload, 1) := by decide +kernel
theorem dX1_partsBy_18 : decode cX1_partsBy 18 = .ok (.ifCond .eq 22, 3) := by decide +kernel
theorem dX1_partsBy_21 : decode cX1_partsBy 21 = .ok (.aload_n 0, 1) := by decide +kernel
theorem dX1_partsBy_22 : decode cX1_partsBy 22 = .ok (.getfield 17, 3) := by decide +kernel
theorem dX1_partsBy_25 : decode cX1_partsBy 25 = .ok (.iload_n 3, 1) := by decide +kernel
theorem dX1_partsBy_26 : decode cX1_partsBy 26 = .ok (.iaload, 1) := by decide +kernel
theorem dX1_partsBy_27 : decode cX1_partsBy 27 = .ok (.iload_n 1, 1) := by decide +kernel
theorem dX1_partsBy_28 : decode cX1_partsBy 28 = .ok (.if_icmp .gt 12, 3) := by decide +kernel
theorem dX1_partsBy_31 : decode cX1_partsBy 31 = .ok (.iload_n 2, 1) := by decide +kernel
theorem dX1_partsBy_32 : decode cX1_partsBy 32 = .ok (.aload_n 0, 1) := by decide +kernel
theorem dX1_partsBy_33 : decode cX1_partsBy 33 = .ok (.getfield 21, 3) := by decide +kernel
theorem dX1_partsBy_36 : decode cX1_partsBy 36 = .ok (.iload_n 3, 1) := by decide +kernel
theorem dX1_partsBy_37 : decode cX1_partsBy 37 = .ok (.iaload, 1) := by decide +kernel
theorem dX1_partsBy_38 : decode cX1_partsBy 38 = .ok (.iadd, 1) := by decide +kernel
theorem dX1_partsBy_39 : decode cX1_partsBy 39 = .ok (.istore_n 2, 1) := by decide +kernel
theorem dX1_partsBy_40 : decode cX1_partsBy 40 = .ok (.iinc 3 1, 3) := by decide +kernel
theorem dX1_partsBy_43 : decode cX1_partsBy 43 = .ok (.goto (-39), 3) := by decide +kernel
theorem dX1_partsBy_46 : decode cX1_partsBy 46 = .ok (.iload_n 2, 1) := by decide +kernel
theorem dX1_partsBy_47 : decode cX1_partsBy 47 = .ok (.ireturn, 1) := by decide +kernel
theorem dX1_backAfter_0 : decode cX1_backAfter 0 = .ok (.iconst 0, 1) := by decide +kernel
theorem dX1_backAfter_1 : decode cX1_backAfter 1 = .ok (.istore_n 2, 1) := by decide +kernel
theorem dX1_backAfter_2 : decode cX1_backAfter 2 = .ok (.iload_n 2, 1) := by decide +kernel
theorem dX1_backAfter_3 : decode cX1_backAfter 3 = .ok (.aload_n 0, 1) := by decide +kernel
theorem dX1_backAfter_4 : decode cX1_backAfter 4 = .ok (.getfield 7, 3) := by decide +kernel
theorem dX1_backAfter_7 : decode cX1_backAfter 7 = .ok (.if_icmp .ge 35, 3) := by decide +kernel
theorem dX1_backAfter_10 : decode cX1_backAfter 10 = .ok (.aload_n 0, 1) := by decide +kernel
theorem dX1_backAfter_11 : decode cX1_backAfter 11 = .ok (.getfield 13, 3) := by decide +kernel
theorem dX1_backAfter_14 : decode cX1_backAfter 14 = .ok (.iload_n 2, 1) := by decide +kernel
theorem dX1_backAfter_15 : decode cX1_backAfter 15 = .ok (.baload, 1) := by decide +kernel
theorem dX1_backAfter_16 : decode cX1_backAfter 16 = .ok (.ifCond .ne 20, 3) := by decide +kernel
theorem dX1_backAfter_19 : decode cX1_backAfter 19 = .ok (.iload_n 1, 1) := by decide +kernel
theorem dX1_backAfter_20 : decode cX1_backAfter 20 = .ok (.aload_n 0, 1) := by decide +kernel
theorem dX1_backAfter_21 : decode cX1_backAfter 21 = .ok (.getfield 17, 3) := by decide +kernel
theorem dX1_backAfter_24 : decode cX1_backAfter 24 = .ok (.iload_n 2, 1) := by decide +kernel
theorem dX1_backAfter_25 : decode cX1_backAfter 25 = .ok (.iaload, 1) := by decide +kernel
theorem dX1_backAfter_26 : decode cX1_backAfter 26 = .ok (.if_icmp .gt 10, 3) := by decide +kernel
theorem dX1_backAfter_29 : decode cX1_backAfter 29 = .ok (.aload_n 0, 1) := by decide +kernel
theorem dX1_backAfter_30 : decode cX1_backAfter 30 = .ok (.getfield 21, 3) := by decide +kernel
theorem dX1_backAfter_33 : decode cX1_backAfter 33 = .ok (.iload_n 2, 1) := by decide +kernel
theorem dX1_backAfter_34 : decode cX1_backAfter 34 = .ok (.iaload, 1) := by decide +kernel
theorem dX1_backAfter_35 : decode cX1_backAfter 35 = .ok (.ireturn, 1) := by decide +kernel
theorem dX1_backAfter_36 : decode cX1_backAfter 36 = .ok (.iinc 2 1, 3) := by decide +kernel
theorem dX1_backAfter_39 : decode cX1_backAfter 39 = .ok (.goto (-37), 3) := by decide +kernel
theorem dX1_backAfter_42 : decode cX1_backAfter 42 = .ok (.iconst 0, 1) := by decide +kernel
theorem dX1_backAfter_43 : decode cX1_backAfter 43 = .ok (.ireturn, 1) := by decide +kernel
theorem dX2_init_0 : decode cX2_init 0 = .ok (.aload_n 0, 1) := by decide +kernel
theorem dX2_init_1 : decode cX2_init 1 = .ok (.invokespecial 3, 3) := by decide +kernel
theorem dX2_init_4 : decode cX2_init 4 = .ok (.aload_n 0, 1) := by decide +kernel
theorem dX2_init_5 : decode cX2_init 5 = .ok (.sipush 512, 3) := by decide +kernel
theorem dX2_init_8 : decode cX2_init 8 = .ok (.newarray .byte, 2) := by decide +kernel
theorem dX2_init_10 : decode cX2_init 10 = .ok (.putfield 9, 3) := by decide +kernel
theorem dX2_init_13 : decode cX2_init 13 = .ok (.aload_n 0, 1) := by decide +kernel
theorem dX2_init_14 : decode cX2_init 14 = .ok (.sipush 512, 3) := by decide +kernel
theorem dX2_init_17 : decode cX2_init 17 = .ok (.newarray .int, 2) := by decide +kernel
theorem dX2_init_19 : decode cX2_init 19 = .ok (.putfield 15, 3) := by decide +kernel
theorem dX2_init_22 : decode cX2_init 22 = .ok (.aload_n 0, 1) := by decide +kernel
theorem dX2_init_23 : decode cX2_init 23 = .ok (.sipush 512, 3) := by decide +kernel
theorem dX2_init_26 : decode cX2_init 26 = .ok (.newarray .short, 2) := by decide +kernel
theorem dX2_init_28 : decode cX2_init 28 = .ok (.putfield 19, 3) := by decide +kernel
theorem dX2_init_31 : decode cX2_init 31 = .ok (.aload_n 0, 1) := by decide +kernel
theorem dX2_init_32 : decode cX2_init 32 = .ok (.iconst 0, 1) := by decide +kernel
theorem dX2_init_33 : decode cX2_init 33 = .ok (.putfield 23, 3) := by decide +kernel
theorem dX2_init_36 : decode cX2_init 36 = .ok (.return_, 1) := by decide +kernel
theorem dX2_enter_0 : decode cX2_enter 0 = .ok (.aload_n 0, 1) := by decide +kernel
theorem dX2_enter_1 : decode cX2_enter 1 = .ok (.getfield 23, 3) := by decide +kernel
theorem dX2_enter_4 : decode cX2_enter 4 = .ok (.sipush 512, 3) := by decide +kernel
theorem dX2_enter_7 : decode cX2_enter 7 = .ok (.if_icmp .lt 5, 3) := by decide +kernel
theorem dX2_enter_10 : decode cX2_enter 10 = .ok (.iconst 0, 1) := by decide +kernel
theorem dX2_enter_11 : decode cX2_enter 11 = .ok (.ireturn, 1) := by decide +kernel
theorem dX2_enter_12 : decode cX2_enter 12 = .ok (.aload_n 0, 1) := by decide +kernel
theorem dX2_enter_13 : decode cX2_enter 13 = .ok (.getfield 9, 3) := by decide +kernel
theorem dX2_enter_16 : decode cX2_enter 16 = .ok (.aload_n 0, 1) := by decide +kernel
theorem dX2_enter_17 : decode cX2_enter 17 = .ok (.getfield 23, 3) := by decide +kernel
theorem dX2_enter_20 : decode cX2_enter 20 = .ok (.iload_n 1, 1) := by decide +kernel
theorem dX2_enter_21 : decode cX2_enter 21 = .ok (.i2b, 1) := by decide +kernel
theorem dX2_enter_22 : decode cX2_enter 22 = .ok (.bastore, 1) := by decide +kernel
theorem dX2_enter_23 : decode cX2_enter 23 = .ok (.aload_n 0, 1) := by decide +kernel
theorem dX2_enter_24 : decode cX2_enter 24 = .ok (.getfield 15, 3) := by decide +kernel
theorem dX2_enter_27 : decode cX2_enter 27 = .ok (.aload_n 0, 1) := by decide +kernel
theorem dX2_enter_28 : decode cX2_enter 28 = .ok (.getfield 23, 3) := by decide +kernel
theorem dX2_enter_31 : decode cX2_enter 31 = .ok (.iload_n 2, 1) := by decide +kernel
theorem dX2_enter_32 : decode cX2_enter 32 = .ok (.iastore, 1) := by decide +kernel
theorem dX2_enter_33 : decode cX2_enter 33 = .ok (.aload_n 0, 1) := by decide +kernel
theorem dX2_enter_34 : decode cX2_enter 34 = .ok (.getfield 19, 3) := by decide +kernel
theorem dX2_enter_37 : decode cX2_enter 37 = .ok (.aload_n 0, 1) := by decide +kernel
theorem dX2_enter_38 : decode cX2_enter 38 = .ok (.getfield 23, 3) := by decide +kernel
theorem dX2_enter_41 : decode cX2_enter 41 = .ok (.iload_n 3, 1) := by decide +kernel
theorem dX2_enter_42 : decode cX2_enter 42 = .ok (.i2s, 1) := by decide +kernel
theorem dX2_enter_43 : decode cX2_enter 43 = .ok (.sastore, 1) := by decide +kernel
theorem dX2_enter_44 : decode cX2_enter 44 = .ok (.aload_n 0, 1) := by decide +kernel
theorem dX2_enter_45 : decode cX2_enter 45 = .ok (.dup, 1) := by decide +kernel
theorem dX2_enter_46 : decode cX2_enter 46 = .ok (.getfield 23, 3) := by decide +kernel
theorem dX2_enter_49 : decode cX2_enter 49 = .ok (.iconst 1, 1) := by decide +kernel
theorem dX2_enter_50 : decode cX2_enter 50 = .ok (.iadd, 1) := by decide +kernel
theorem dX2_enter_51 : decode cX2_enter 51 = .ok (.putfield 23, 3) := by decide +kernel
theorem dX2_enter_54 : decode cX2_enter 54 = .ok (.iconst 1, 1) := by decide +kernel
theorem dX2_enter_55 : decode cX2_enter 55 = .ok (.ireturn, 1) := by decide +kernel
theorem dX2_paidBy_0 : decode cX2_paidBy 0 = .ok (.iconst 0, 1) := by decide +kernel
theorem dX2_paidBy_1 : decode cX2_paidBy 1 = .ok (.istore_n 3, 1) := by decide +kernel
theorem dX2_paidBy_2 : decode cX2_paidBy 2 = .ok (.iconst 0, 1) := by decide +kernel
theorem dX2_paidBy_3 : decode cX2_paidBy 3 = .ok (.istore 4, 2) := by decide +kernel
theorem dX2_paidBy_5 : decode cX2_paidBy 5 = .ok (.iload 4, 2) := by decide +kernel
theorem dX2_paidBy_7 : decode cX2_paidBy 7 = .ok (.aload_n 0, 1) := by decide +kernel
theorem dX2_paidBy_8 : decode cX2_paidBy 8 = .ok (.getfield 23, 3) := by decide +kernel
theorem dX2_paidBy_11 : decode cX2_paidBy 11 = .ok (.if_icmp .ge 41, 3) := by decide +kernel
theorem dX2_paidBy_14 : decode cX2_paidBy 14 = .ok (.aload_n 0, 1) := by decide +kernel
theorem dX2_paidBy_15 : decode cX2_paidBy 15 = .ok (.getfield 9, 3) := by decide +kernel
theorem dX2_paidBy_18 : decode cX2_paidBy 18 = .ok (.iload 4, 2) := by decide +kernel
theorem dX2_paidBy_20 : decode cX2_paidBy 20 = .ok (.baload, 1) := by decide +kernel
theorem dX2_paidBy_21 : decode cX2_paidBy 21 = .ok (.iload_n 1, 1) := by decide +kernel
theorem dX2_paidBy_22 : decode cX2_paidBy 22 = .ok (.if_icmp .ne 24, 3) := by decide +kernel
theorem dX2_paidBy_25 : decode cX2_paidBy 25 = .ok (.aload_n 0, 1) := by decide +kernel
theorem dX2_paidBy_26 : decode cX2_paidBy 26 = .ok (.getfield 19, 3) := by decide +kernel
theorem dX2_paidBy_29 : decode cX2_paidBy 29 = .ok (.iload 4, 2) := by decide +kernel
theorem dX2_paidBy_31 : decode cX2_paidBy 31 = .ok (.saload, 1) := by decide +kernel
theorem dX2_paidBy_32 : decode cX2_paidBy 32 = .ok (.iload_n 2, 1) := by decide +kernel
theorem dX2_paidBy_33 : decode cX2_paidBy 33 = .ok (.if_icmp .gt 13, 3) := by decide +kernel
theorem dX2_paidBy_36 : decode cX2_paidBy 36 = .ok (.iload_n 3, 1) := by decide +kernel
theorem dX2_paidBy_37 : decode cX2_paidBy 37 = .ok (.aload_n 0, 1) := by decide +kernel
theorem dX2_paidBy_38 : decode cX2_paidBy 38 = .ok (.getfield 15, 3) := by decide +kernel
theorem dX2_paidBy_41 : decode cX2_paidBy 41 = .ok (.iload 4, 2) := by decide +kernel
theorem dX2_paidBy_43 : decode cX2_paidBy 43 = .ok (.iaload, 1) := by decide +kernel
theorem dX2_paidBy_44 : decode cX2_paidBy 44 = .ok (.iadd, 1) := by decide +kernel
theorem dX2_paidBy_45 : decode cX2_paidBy 45 = .ok (.istore_n 3, 1) := by decide +kernel
theorem dX2_paidBy_46 : decode cX2_paidBy 46 = .ok (.iinc 4 1, 3) := by decide +kernel
theorem dX2_paidBy_49 : decode cX2_paidBy 49 = .ok (.goto (-44), 3) := by decide +kernel
theorem dX2_paidBy_52 : decode cX2_paidBy 52 = .ok (.iload_n 3, 1) := by decide +kernel
theorem dX2_paidBy_53 : decode cX2_paidBy 53 = .ok (.ireturn, 1) := by decide +kernel
theorem dX3_init_0 : decode cX3_init 0 = .ok (.aload_n 0, 1) := by decide +kernel
theorem dX3_init_1 : decode cX3_init 1 = .ok (.invokespecial 1, 3) := by decide +kernel
theorem dX3_init_4 : decode cX3_init 4 = .ok (.aload_n 0, 1) := by decide +kernel
theorem dX3_init_5 : decode cX3_init 5 = .ok (.iconst 3, 1) := by decide +kernel
theorem dX3_init_6 : decode cX3_init 6 = .ok (.putfield 7, 3) := by decide +kernel
theorem dX3_init_9 : decode cX3_init 9 = .ok (.aload_n 0, 1) := by decide +kernel
theorem dX3_init_10 : decode cX3_init 10 = .ok (.iconst 0, 1) := by decide +kernel
theorem dX3_init_11 : decode cX3_init 11 = .ok (.putfield 13, 3) := by decide +kernel
theorem dX3_init_14 : decode cX3_init 14 = .ok (.aload_n 0, 1) := by decide +kernel
theorem dX3_init_15 : decode cX3_init 15 = .ok (.iconst 0, 1) := by decide +kernel
theorem dX3_init_16 : decode cX3_init 16 = .ok (.putfield 16, 3) := by decide +kernel
theorem dX3_init_19 : decode cX3_init 19 = .ok (.return_, 1) := by decide +kernel
theorem dX3_losesNext_0 : decode cX3_losesNext 0 = .ok (.aload_n 0, 1) := by decide +kernel
theorem dX3_losesNext_1 : decode cX3_losesNext 1 = .ok (.getfield 13, 3) := by decide +kernel
theorem dX3_losesNext_4 : decode cX3_losesNext 4 = .ok (.iconst 1, 1) := by decide +kernel
theorem dX3_losesNext_5 : decode cX3_losesNext 5 = .ok (.if_icmp .ge 5, 3) := by decide +kernel
theorem dX3_losesNext_8 : decode cX3_losesNext 8 = .ok (.iconst 0, 1) := by decide +kernel
theorem dX3_losesNext_9 : decode cX3_losesNext 9 = .ok (.ireturn, 1) := by decide +kernel
theorem dX3_losesNext_10 : decode cX3_losesNext 10 = .ok (.aload_n 0, 1) := by decide +kernel
theorem dX3_losesNext_11 : decode cX3_losesNext 11 = .ok (.aload_n 0, 1) := by decide +kernel
theorem dX3_losesNext_12 : decode cX3_losesNext 12 = .ok (.getfield 16, 3) := by decide +kernel
theorem dX3_losesNext_15 : decode cX3_losesNext 15 = .ok (.iconst 1, 1) := by decide +kernel
theorem dX3_losesNext_16 : decode cX3_losesNext 16 = .ok (.iadd, 1) := by decide +kernel
theorem dX3_losesNext_17 : decode cX3_losesNext 17 = .ok (.aload_n 0, 1) := by decide +kernel
theorem dX3_losesNext_18 : decode cX3_losesNext 18 = .ok (.getfield 13, 3) := by decide +kernel
theorem dX3_losesNext_21 : decode cX3_losesNext 21 = .ok (.irem, 1) := by decide +kernel
theorem dX3_losesNext_22 : decode cX3_losesNext 22 = .ok (.putfield 16, 3) := by decide +kernel
theorem dX3_losesNext_25 : decode cX3_losesNext 25 = .ok (.aload_n 0, 1) := by decide +kernel
theorem dX3_losesNext_26 : decode cX3_losesNext 26 = .ok (.getfield 16, 3) := by decide +kernel
theorem dX3_losesNext_29 : decode cX3_losesNext 29 = .ok (.ifCond .ne 7, 3) := by decide +kernel
theorem dX3_losesNext_32 : decode cX3_losesNext 32 = .ok (.iconst 1, 1) := by decide +kernel
theorem dX3_losesNext_33 : decode cX3_losesNext 33 = .ok (.goto 4, 3) := by decide +kernel
theorem dX3_losesNext_36 : decode cX3_losesNext 36 = .ok (.iconst 0, 1) := by decide +kernel
theorem dX3_losesNext_37 : decode cX3_losesNext 37 = .ok (.ireturn, 1) := by decide +kernel
theorem dX4_init_0 : decode cX4_init 0 = .ok (.aload_n 0, 1) := by decide +kernel
theorem dX4_init_1 : decode cX4_init 1 = .ok (.invokespecial 3, 3) := by decide +kernel
theorem dX4_init_4 : decode cX4_init 4 = .ok (.aload_n 0, 1) := by decide +kernel
theorem dX4_init_5 : decode cX4_init 5 = .ok (.iconst 5, 1) := by decide +kernel
theorem dX4_init_6 : decode cX4_init 6 = .ok (.putfield 9, 3) := by decide +kernel
theorem dX4_init_9 : decode cX4_init 9 = .ok (.aload_n 0, 1) := by decide +kernel
theorem dX4_init_10 : decode cX4_init 10 = .ok (.bipush (-4), 2) := by decide +kernel
theorem dX4_init_12 : decode cX4_init 12 = .ok (.putfield 15, 3) := by decide +kernel
theorem dX4_init_15 : decode cX4_init 15 = .ok (.aload_n 0, 1) := by decide +kernel
theorem dX4_init_16 : decode cX4_init 16 = .ok (.iload_n 1, 1) := by decide +kernel
theorem dX4_init_17 : decode cX4_init 17 = .ok (.putfield 18, 3) := by decide +kernel
theorem dX4_init_20 : decode cX4_init 20 = .ok (.aload_n 0, 1) := by decide +kernel
theorem dX4_init_21 : decode cX4_init 21 = .ok (.iload_n 2, 1) := by decide +kernel
theorem dX4_init_22 : decode cX4_init 22 = .ok (.putfield 21, 3) := by decide +kernel
theorem dX4_init_25 : decode cX4_init 25 = .ok (.aload_n 0, 1) := by decide +kernel
theorem dX4_init_26 : decode cX4_init 26 = .ok (.iload_n 3, 1) := by decide +kernel
theorem dX4_init_27 : decode cX4_init 27 = .ok (.putfield 24, 3) := by decide +kernel
theorem dX4_init_30 : decode cX4_init 30 = .ok (.aload_n 0, 1) := by decide +kernel
theorem dX4_init_31 : decode cX4_init 31 = .ok (.iload 4, 2) := by decide +kernel
theorem dX4_init_33 : decode cX4_init 33 = .ok (.putfield 27, 3) := by decide +kernel
theorem dX4_init_36 : decode cX4_init 36 = .ok (.aload_n 0, 1) := by decide +kernel
theorem dX4_init_37 : decode cX4_init 37 = .ok (.aload 5, 2) := by decide +kernel
theorem dX4_init_39 : decode cX4_init 39 = .ok (.putfield 30, 3) := by decide +kernel
theorem dX4_init_42 : decode cX4_init 42 = .ok (.return_, 1) := by decide +kernel
theorem dX4_follow_0 : decode cX4_follow 0 = .ok (.aload_n 0, 1) := by decide +kernel
theorem dX4_follow_1 : decode cX4_follow 1 = .ok (.iload_n 1, 1) := by decide +kernel
theorem dX4_follow_2 : decode cX4_follow 2 = .ok (.putfield 24, 3) := by decide +kernel
theorem dX4_follow_5 : decode cX4_follow 5 = .ok (.aload_n 0, 1) := by decide +kernel
theorem dX4_follow_6 : decode cX4_follow 6 = .ok (.iload_n 2, 1) := by decide +kernel
theorem dX4_follow_7 : decode cX4_follow 7 = .ok (.putfield 27, 3) := by decide +kernel
theorem dX4_follow_10 : decode cX4_follow 10 = .ok (.aload_n 0, 1) := by decide +kernel
theorem dX4_follow_11 : decode cX4_follow 11 = .ok (.aload_n 3, 1) := by decide +kernel
theorem dX4_follow_12 : decode cX4_follow 12 = .ok (.putfield 30, 3) := by decide +kernel
theorem dX4_follow_15 : decode cX4_follow 15 = .ok (.return_, 1) := by decide +kernel
theorem dX4_hasLeftBy_0 : decode cX4_hasLeftBy 0 = .ok (.aload_n 0, 1) := by decide +kernel
theorem dX4_hasLeftBy_1 : decode cX4_hasLeftBy 1 = .ok (.getfield 15, 3) := by decide +kernel
theorem dX4_hasLeftBy_4 : decode cX4_hasLeftBy 4 = .ok (.bipush (-4), 2) := by decide +kernel
theorem dX4_hasLeftBy_6 : decode cX4_hasLeftBy 6 = .ok (.if_icmp .eq 15, 3) := by decide +kernel
theorem dX4_hasLeftBy_9 : decode cX4_hasLeftBy 9 = .ok (.aload_n 0, 1) := by decide +kernel
theorem dX4_hasLeftBy_10 : decode cX4_hasLeftBy 10 = .ok (.getfield 15, 3) := by decide +kernel
theorem dX4_hasLeftBy_13 : decode cX4_hasLeftBy 13 = .ok (.iload_n 1, 1) := by decide +kernel
theorem dX4_hasLeftBy_14 : decode cX4_hasLeftBy 14 = .ok (.if_icmp .gt 7, 3) := by decide +kernel
theorem dX4_hasLeftBy_17 : decode cX4_hasLeftBy 17 = .ok (.iconst 1, 1) := by decide +kernel
theorem dX4_hasLeftBy_18 : decode cX4_hasLeftBy 18 = .ok (.goto 4, 3) := by decide +kernel
theorem dX4_hasLeftBy_21 : decode cX4_hasLeftBy 21 = .ok (.iconst 0, 1) := by decide +kernel
theorem dX4_hasLeftBy_22 : decode cX4_hasLeftBy 22 = .ok (.ireturn, 1) := by decide +kernel
theorem dX5_init_0 : decode cX5_init 0 = .ok (.aload_n 0, 1) := by decide +kernel
theorem dX5_init_1 : decode cX5_init 1 = .ok (.invokespecial 3, 3) := by decide +kernel
theorem dX5_init_4 : decode cX5_init 4 = .ok (.aload_n 0, 1) := by decide +kernel
theorem dX5_init_5 : decode cX5_init 5 = .ok (.bipush 6, 2) := by decide +kernel
theorem dX5_init_7 : decode cX5_init 7 = .ok (.newarray .int, 2) := by decide +kernel
theorem dX5_init_9 : decode cX5_init 9 = .ok (.putfield 9, 3) := by decide +kernel
theorem dX5_init_12 : decode cX5_init 12 = .ok (.aload_n 0, 1) := by decide +kernel
theorem dX5_init_13 : decode cX5_init 13 = .ok (.bipush 6, 2) := by decide +kernel
theorem dX5_init_15 : decode cX5_init 15 = .ok (.newarray .int, 2) := by decide +kernel
theorem dX5_init_17 : decode cX5_init 17 = .ok (.putfield 15, 3) := by decide +kernel
theorem dX5_init_20 : decode cX5_init 20 = .ok (.aload_n 0, 1) := by decide +kernel
theorem dX5_init_21 : decode cX5_init 21 = .ok (.bipush 6, 2) := by decide +kernel
theorem dX5_init_23 : decode cX5_init 23 = .ok (.newarray .int, 2) := by decide +kernel
theorem dX5_init_25 : decode cX5_init 25 = .ok (.putfield 18, 3) := by decide +kernel
theorem dX5_init_28 : decode cX5_init 28 = .ok (.aload_n 0, 1) := by decide +kernel
theorem dX5_init_29 : decode cX5_init 29 = .ok (.bipush 6, 2) := by decide +kernel
theorem dX5_init_31 : decode cX5_init 31 = .ok (.newarray .int, 2) := by decide +kernel
theorem dX5_init_33 : decode cX5_init 33 = .ok (.putfield 21, 3) := by decide +kernel
theorem dX5_init_36 : decode cX5_init 36 = .ok (.aload_n 0, 1) := by decide +kernel
theorem dX5_init_37 : decode cX5_init 37 = .ok (.bipush 7, 2) := by decide +kernel
theorem dX5_init_39 : decode cX5_init 39 = .ok (.newarray .int, 2) := by decide +kernel
theorem dX5_init_41 : decode cX5_init 41 = .ok (.putfield 24, 3) := by decide +kernel
theorem dX5_init_44 : decode cX5_init 44 = .ok (.aload_n 0, 1) := by decide +kernel
theorem dX5_init_45 : decode cX5_init 45 = .ok (.bipush 7, 2) := by decide +kernel
theorem dX5_init_47 : decode cX5_init 47 = .ok (.newarray .int, 2) := by decide +kernel
theorem dX5_init_49 : decode cX5_init 49 = .ok (.putfield 27, 3) := by decide +kernel
theorem dX5_init_52 : decode cX5_init 52 = .ok (.aload_n 0, 1) := by decide +kernel
theorem dX5_init_53 : decode cX5_init 53 = .ok (.bipush 6, 2) := by decide +kernel
theorem dX5_init_55 : decode cX5_init 55 = .ok (.newarray .int, 2) := by decide +kernel
theorem dX5_init_57 : decode cX5_init 57 = .ok (.putfield 30, 3) := by decide +kernel
theorem dX5_init_60 : decode cX5_init 60 = .ok (.aload_n 0, 1) := by decide +kernel
theorem dX5_init_61 : decode cX5_init 61 = .ok (.bipush 6, 2) := by decide +kernel
theorem dX5_init_63 : decode cX5_init 63 = .ok (.newarray .int, 2) := by decide +kernel
theorem dX5_init_65 : decode cX5_init 65 = .ok (.putfield 33, 3) := by decide +kernel
theorem dX5_init_68 : decode cX5_init 68 = .ok (.aload_n 0, 1) := by decide +kernel
theorem dX5_init_69 : decode cX5_init 69 = .ok (.iconst 0, 1) := by decide +kernel
theorem dX5_init_70 : decode cX5_init 70 = .ok (.putfield 36, 3) := by decide +kernel
theorem dX5_init_73 : decode cX5_init 73 = .ok (.aload_n 0, 1) := by decide +kernel
theorem dX5_init_74 : decode cX5_init 74 = .ok (.iconst 0, 1) := by decide +kernel
theorem dX5_init_75 : decode cX5_init 75 = .ok (.putfield 40, 3) := by decide +kernel
theorem dX5_init_78 : decode cX5_init 78 = .ok (.aload_n 0, 1) := by decide +kernel
theorem dX5_init_79 : decode cX5_init 79 = .ok (.iconst 0, 1) := by decide +kernel
theorem dX5_init_80 : decode cX5_init 80 = .ok (.putfield 43, 3) := by decide +kernel
theorem dX5_init_83 : decode cX5_init 83 = .ok (.aload_n 0, 1) := by decide +kernel
theorem dX5_init_84 : decode cX5_init 84 = .ok (.iconst 0, 1) := by decide +kernel
theorem dX5_init_85 : decode cX5_init 85 = .ok (.putfield 46, 3) := by decide +kernel
theorem dX5_init_88 : decode cX5_init 88 = .ok (.return_, 1) := by decide +kernel
theorem dX5_clear_0 : decode cX5_clear 0 = .ok (.aload_n 0, 1) := by decide +kernel
theorem dX5_clear_1 : decode cX5_clear 1 = .ok (.iconst 0, 1) := by decide +kernel
theorem dX5_clear_2 : decode cX5_clear 2 = .ok (.putfield 36, 3) := by decide +kernel
theorem dX5_clear_5 : decode cX5_clear 5 = .ok (.aload_n 0, 1) := by decide +kernel
theorem dX5_clear_6 : decode cX5_clear 6 = .ok (.iconst 0, 1) := by decide +kernel
theorem dX5_clear_7 : decode cX5_clear 7 = .ok (.putfield 40, 3) := by decide +kernel
theorem dX5_clear_10 : decode cX5_clear 10 = .ok (.return_, 1) := by decide +kernel
theorem dX5_addTutor_0 : decode cX5_addTutor 0 = .ok (.aload_n 0, 1) := by decide +kernel
theorem dX5_addTutor_1 : decode cX5_addTutor 1 = .ok (.getfield 40, 3) := by decide +kernel
theorem dX5_addTutor_4 : decode cX5_addTutor 4 = .ok (.bipush 6, 2) := by decide +kernel
theorem dX5_addTutor_6 : decode cX5_addTutor 6 = .ok (.if_icmp .ge 39, 3) := by decide +kernel
theorem dX5_addTutor_9 : decode cX5_addTutor 9 = .ok (.aload_n 0, 1) := by decide +kernel
theorem dX5_addTutor_10 : decode cX5_addTutor 10 = .ok (.getfield 30, 3) := by decide +kernel
theorem dX5_addTutor_13 : decode cX5_addTutor 13 = .ok (.aload_n 0, 1) := by decide +kernel
theorem dX5_addTutor_14 : decode cX5_addTutor 14 = .ok (.getfield 40, 3) := by decide +kernel
theorem dX5_addTutor_17 : decode cX5_addTutor 17 = .ok (.aload_n 1, 1) := by decide +kernel
theorem dX5_addTutor_18 : decode cX5_addTutor 18 = .ok (.getfield 49, 3) := by decide +kernel
theorem dX5_addTutor_21 : decode cX5_addTutor 21 = .ok (.iastore, 1) := by decide +kernel
theorem dX5_addTutor_22 : decode cX5_addTutor 22 = .ok (.aload_n 0, 1) := by decide +kernel
theorem dX5_addTutor_23 : decode cX5_addTutor 23 = .ok (.getfield 33, 3) := by decide +kernel
theorem dX5_addTutor_26 : decode cX5_addTutor 26 = .ok (.aload_n 0, 1) := by decide +kernel
theorem dX5_addTutor_27 : decode cX5_addTutor 27 = .ok (.getfield 40, 3) := by decide +kernel
theorem dX5_addTutor_30 : decode cX5_addTutor 30 = .ok (.aload_n 1, 1) := by decide +kernel
theorem dX5_addTutor_31 : decode cX5_addTutor 31 = .ok (.getfield 53, 3) := by decide +kernel
theorem dX5_addTutor_34 : decode cX5_addTutor 34 = .ok (.iastore, 1) := by decide +kernel
theorem dX5_addTutor_35 : decode cX5_addTutor 35 = .ok (.aload_n 0, 1) := by decide +kernel
theorem dX5_addTutor_36 : decode cX5_addTutor 36 = .ok (.dup, 1) := by decide +kernel
theorem dX5_addTutor_37 : decode cX5_addTutor 37 = .ok (.getfield 40, 3) := by decide +kernel
theorem dX5_addTutor_40 : decode cX5_addTutor 40 = .ok (.iconst 1, 1) := by decide +kernel
theorem dX5_addTutor_41 : decode cX5_addTutor 41 = .ok (.iadd, 1) := by decide +kernel
theorem dX5_addTutor_42 : decode cX5_addTutor 42 = .ok (.putfield 40, 3) := by decide +kernel
theorem dX5_addTutor_45 : decode cX5_addTutor 45 = .ok (.return_, 1) := by decide +kernel
theorem dX5_addThing_0 : decode cX5_addThing 0 = .ok (.aload_n 0, 1) := by decide +kernel
theorem dX5_addThing_1 : decode cX5_addThing 1 = .ok (.getfield 36, 3) := by decide +kernel
theorem dX5_addThing_4 : decode cX5_addThing 4 = .ok (.bipush 6, 2) := by decide +kernel
theorem dX5_addThing_6 : decode cX5_addThing 6 = .ok (.if_icmp .ge 33, 3) := by decide +kernel
theorem dX5_addThing_9 : decode cX5_addThing 9 = .ok (.aload_n 0, 1) := by decide +kernel
theorem dX5_addThing_10 : decode cX5_addThing 10 = .ok (.getfield 9, 3) := by decide +kernel
theorem dX5_addThing_13 : decode cX5_addThing 13 = .ok (.aload_n 0, 1) := by decide +kernel
theorem dX5_addThing_14 : decode cX5_addThing 14 = .ok (.getfield 36, 3) := by decide +kernel
theorem dX5_addThing_17 : decode cX5_addThing 17 = .ok (.iload_n 1, 1) := by decide +kernel
theorem dX5_addThing_18 : decode cX5_addThing 18 = .ok (.iastore, 1) := by decide +kernel
theorem dX5_addThing_19 : decode cX5_addThing 19 = .ok (.aload_n 0, 1) := by decide +kernel
theorem dX5_addThing_20 : decode cX5_addThing 20 = .ok (.getfield 15, 3) := by decide +kernel
theorem dX5_addThing_23 : decode cX5_addThing 23 = .ok (.aload_n 0, 1) := by decide +kernel
theorem dX5_addThing_24 : decode cX5_addThing 24 = .ok (.getfield 36, 3) := by decide +kernel
theorem dX5_addThing_27 : decode cX5_addThing 27 = .ok (.iload_n 2, 1) := by decide +kernel
theorem dX5_addThing_28 : decode cX5_addThing 28 = .ok (.iastore, 1) := by decide +kernel
theorem dX5_addThing_29 : decode cX5_addThing 29 = .ok (.aload_n 0, 1) := by decide +kernel
theorem dX5_addThing_30 : decode cX5_addThing 30 = .ok (.dup, 1) := by decide +kernel
theorem dX5_addThing_31 : decode cX5_addThing 31 = .ok (.getfield 36, 3) := by decide +kernel
theorem dX5_addThing_34 : decode cX5_addThing 34 = .ok (.iconst 1, 1) := by decide +kernel
theorem dX5_addThing_35 : decode cX5_addThing 35 = .ok (.iadd, 1) := by decide +kernel
theorem dX5_addThing_36 : decode cX5_addThing 36 = .ok (.putfield 36, 3) := by decide +kernel
theorem dX5_addThing_39 : decode cX5_addThing 39 = .ok (.return_, 1) := by decide +kernel
theorem dX5_solve_0 : decode cX5_solve 0 = .ok (.aload_n 0, 1) := by decide +kernel
theorem dX5_solve_1 : decode cX5_solve 1 = .ok (.iconst (-1), 1) := by decide +kernel
theorem dX5_solve_2 : decode cX5_solve 2 = .ok (.putfield 43, 3) := by decide +kernel
theorem dX5_solve_5 : decode cX5_solve 5 = .ok (.aload_n 0, 1) := by decide +kernel
theorem dX5_solve_6 : decode cX5_solve 6 = .ok (.iconst 0, 1) := by decide +kernel
theorem dX5_solve_7 : decode cX5_solve 7 = .ok (.putfield 46, 3) := by decide +kernel
theorem dX5_solve_10 : decode cX5_solve 10 = .ok (.aload_n 0, 1) := by decide +kernel
theorem dX5_solve_11 : decode cX5_solve 11 = .ok (.invokevirtual 55, 3) := by decide +kernel
theorem dX5_solve_14 : decode cX5_solve 14 = .ok (.aload_n 0, 1) := by decide +kernel
theorem dX5_solve_15 : decode cX5_solve 15 = .ok (.iconst 0, 1) := by decide +kernel
theorem dX5_solve_16 : decode cX5_solve 16 = .ok (.iconst 0, 1) := by decide +kernel
theorem dX5_solve_17 : decode cX5_solve 17 = .ok (.iconst 0, 1) := by decide +kernel
theorem dX5_solve_18 : decode cX5_solve 18 = .ok (.invokevirtual 58, 3) := by decide +kernel
theorem dX5_solve_21 : decode cX5_solve 21 = .ok (.return_, 1) := by decide +kernel
theorem dX5_lookAhead_0 : decode cX5_lookAhead 0 = .ok (.aload_n 0, 1) := by decide +kernel
theorem dX5_lookAhead_1 : decode cX5_lookAhead 1 = .ok (.getfield 24, 3) := by decide +kernel
theorem dX5_lookAhead_4 : decode cX5_lookAhead 4 = .ok (.aload_n 0, 1) := by decide +kernel
theorem dX5_lookAhead_5 : decode cX5_lookAhead 5 = .ok (.getfield 36, 3) := by decide +kernel
theorem dX5_lookAhead_8 : decode cX5_lookAhead 8 = .ok (.iconst 0, 1) := by decide +kernel
theorem dX5_lookAhead_9 : decode cX5_lookAhead 9 = .ok (.iastore, 1) := by decide +kernel
theorem dX5_lookAhead_10 : decode cX5_lookAhead 10 = .ok (.aload_n 0, 1) := by decide +kernel
theorem dX5_lookAhead_11 : decode cX5_lookAhead 11 = .ok (.getfield 27, 3) := by decide +kernel
theorem dX5_lookAhead_14 : decode cX5_lookAhead 14 = .ok (.aload_n 0, 1) := by decide +kernel
theorem dX5_lookAhead_15 : decode cX5_lookAhead 15 = .ok (.getfield 36, 3) := by decide +kernel
theorem dX5_lookAhead_18 : decode cX5_lookAhead 18 = .ok (.iconst 0, 1) := by decide +kernel
theorem dX5_lookAhead_19 : decode cX5_lookAhead 19 = .ok (.iastore, 1) := by decide +kernel
theorem dX5_lookAhead_20 : decode cX5_lookAhead 20 = .ok (.aload_n 0, 1) := by decide +kernel
theorem dX5_lookAhead_21 : decode cX5_lookAhead 21 = .ok (.getfield 36, 3) := by decide +kernel
theorem dX5_lookAhead_24 : decode cX5_lookAhead 24 = .ok (.iconst 1, 1) := by decide +kernel
theorem dX5_lookAhead_25 : decode cX5_lookAhead 25 = .ok (.isub, 1) := by decide +kernel
theorem dX5_lookAhead_26 : decode cX5_lookAhead 26 = .ok (.istore_n 1, 1) := by decide +kernel
theorem dX5_lookAhead_27 : decode cX5_lookAhead 27 = .ok (.iload_n 1, 1) := by decide +kernel
theorem dX5_lookAhead_28 : decode cX5_lookAhead 28 = .ok (.ifCond .lt 55, 3) := by decide +kernel
theorem dX5_lookAhead_31 : decode cX5_lookAhead 31 = .ok (.aload_n 0, 1) := by decide +kernel
theorem dX5_lookAhead_32 : decode cX5_lookAhead 32 = .ok (.iload_n 1, 1) := by decide +kernel
theorem dX5_lookAhead_33 : decode cX5_lookAhead 33 = .ok (.invokevirtual 62, 3) := by decide +kernel
theorem dX5_lookAhead_36 : decode cX5_lookAhead 36 = .ok (.istore_n 2, 1) := by decide +kernel
theorem dX5_lookAhead_37 : decode cX5_lookAhead 37 = .ok (.aload_n 0, 1) := by decide +kernel
theorem dX5_lookAhead_38 : decode cX5_lookAhead 38 = .ok (.getfield 24, 3) := by decide +kernel
theorem dX5_lookAhead_41 : decode cX5_lookAhead 41 = .ok (.iload_n 1, 1) := by decide +kernel
theorem dX5_lookAhead_42 : decode cX5_lookAhead 42 = .ok (.aload_n 0, 1) := by decide +kernel
theorem dX5_lookAhead_43 : decode cX5_lookAhead 43 = .ok (.getfield 24, 3) := by decide +kernel
theorem dX5_lookAhead_46 : decode cX5_lookAhead 46 = .ok (.iload_n 1, 1) := by decide +kernel
theorem dX5_lookAhead_47 : decode cX5_lookAhead 47 = .ok (.iconst 1, 1) := by decide +kernel
theorem dX5_lookAhead_48 : decode cX5_lookAhead 48 = .ok (.iadd, 1) := by decide +kernel
theorem dX5_lookAhead_49 : decode cX5_lookAhead 49 = .ok (.iaload, 1) := by decide +kernel
theorem dX5_lookAhead_50 : decode cX5_lookAhead 50 = .ok (.iload_n 2, 1) := by decide +kernel
theorem dX5_lookAhead_51 : decode cX5_lookAhead 51 = .ok (.ifCond .le 7, 3) := by decide +kernel
theorem dX5_lookAhead_54 : decode cX5_lookAhead 54 = .ok (.iconst 1, 1) := by decide +kernel
theorem dX5_lookAhead_55 : decode cX5_lookAhead 55 = .ok (.goto 4, 3) := by decide +kernel
theorem dX5_lookAhead_58 : decode cX5_lookAhead 58 = .ok (.iconst 0, 1) := by decide +kernel
theorem dX5_lookAhead_59 : decode cX5_lookAhead 59 = .ok (.iadd, 1) := by decide +kernel
theorem dX5_lookAhead_60 : decode cX5_lookAhead 60 = .ok (.iastore, 1) := by decide +kernel
theorem dX5_lookAhead_61 : decode cX5_lookAhead 61 = .ok (.aload_n 0, 1) := by decide +kernel
theorem dX5_lookAhead_62 : decode cX5_lookAhead 62 = .ok (.getfield 27, 3) := by decide +kernel
theorem dX5_lookAhead_65 : decode cX5_lookAhead 65 = .ok (.iload_n 1, 1) := by decide +kernel
theorem dX5_lookAhead_66 : decode cX5_lookAhead 66 = .ok (.aload_n 0, 1) := by decide +kernel
theorem dX5_lookAhead_67 : decode cX5_lookAhead 67 = .ok (.getfield 27, 3) := by decide +kernel
theorem dX5_lookAhead_70 : decode cX5_lookAhead 70 = .ok (.iload_n 1, 1) := by decide +kernel
theorem dX5_lookAhead_71 : decode cX5_lookAhead 71 = .ok (.iconst 1, 1) := by decide +kernel
theorem dX5_lookAhead_72 : decode cX5_lookAhead 72 = .ok (.iadd, 1) := by decide +kernel
theorem dX5_lookAhead_73 : decode cX5_lookAhead 73 = .ok (.iaload, 1) := by decide +kernel
theorem dX5_lookAhead_74 : decode cX5_lookAhead 74 = .ok (.iload_n 2, 1) := by decide +kernel
theorem dX5_lookAhead_75 : decode cX5_lookAhead 75 = .ok (.iadd, 1) := by decide +kernel
theorem dX5_lookAhead_76 : decode cX5_lookAhead 76 = .ok (.iastore, 1) := by decide +kernel
theorem dX5_lookAhead_77 : decode cX5_lookAhead 77 = .ok (.iinc 1 (-1), 3) := by decide +kernel
theorem dX5_lookAhead_80 : decode cX5_lookAhead 80 = .ok (.goto (-53), 3) := by decide +kernel
theorem dX5_lookAhead_83 : decode cX5_lookAhead 83 = .ok (.return_, 1) := by decide +kernel
theorem dX5_fewestDays_0 : decode cX5_fewestDays 0 = .ok (.iconst 0, 1) := by decide +kernel
theorem dX5_fewestDays_1 : decode cX5_fewestDays 1 = .ok (.istore_n 2, 1) := by decide +kernel
theorem dX5_fewestDays_2 : decode cX5_fewestDays 2 = .ok (.iconst 0, 1) := by decide +kernel
theorem dX5_fewestDays_3 : decode cX5_fewestDays 3 = .ok (.istore_n 3, 1) := by decide +kernel
theorem dX5_fewestDays_4 : decode cX5_fewestDays 4 = .ok (.iload_n 3, 1) := by decide +kernel
theorem dX5_fewestDays_5 : decode cX5_fewestDays 5 = .ok (.aload_n 0, 1) := by decide +kernel
theorem dX5_fewestDays_6 : decode cX5_fewestDays 6 = .ok (.getfield 40, 3) := by decide +kernel
theorem dX5_fewestDays_9 : decode cX5_fewestDays 9 = .ok (.if_icmp .ge 50, 3) := by decide +kernel
theorem dX5_fewestDays_12 : decode cX5_fewestDays 12 = .ok (.aload_n 0, 1) := by decide +kernel
theorem dX5_fewestDays_13 : decode cX5_fewestDays 13 = .ok (.getfield 30, 3) := by decide +kernel
theorem dX5_fewestDays_16 : decode cX5_fewestDays 16 = .ok (.iload_n 3, 1) := by decide +kernel
theorem dX5_fewestDays_17 : decode cX5_fewestDays 17 = .ok (.iaload, 1) := by decide +kernel
theorem dX5_fewestDays_18 : decode cX5_fewestDays 18 = .ok (.iconst 1, 1) := by decide +kernel
theorem dX5_fewestDays_19 : decode cX5_fewestDays 19 = .ok (.iadd, 1) := by decide +kernel
theorem dX5_fewestDays_20 : decode cX5_fewestDays 20 = .ok (.aload_n 0, 1) := by decide +kernel
theorem dX5_fewestDays_21 : decode cX5_fewestDays 21 = .ok (.getfield 33, 3) := by decide +kernel
theorem dX5_fewestDays_24 : decode cX5_fewestDays 24 = .ok (.iload_n 3, 1) := by decide +kernel
theorem dX5_fewestDays_25 : decode cX5_fewestDays 25 = .ok (.iaload, 1) := by decide +kernel
theorem dX5_fewestDays_26 : decode cX5_fewestDays 26 = .ok (.invokestatic 66, 3) := by decide +kernel
theorem dX5_fewestDays_29 : decode cX5_fewestDays 29 = .ok (.istore 4, 2) := by decide +kernel
theorem dX5_fewestDays_31 : decode cX5_fewestDays 31 = .ok (.aload_n 0, 1) := by decide +kernel
theorem dX5_fewestDays_32 : decode cX5_fewestDays 32 = .ok (.iload_n 3, 1) := by decide +kernel
theorem dX5_fewestDays_33 : decode cX5_fewestDays 33 = .ok (.iload_n 1, 1) := by decide +kernel
theorem dX5_fewestDays_34 : decode cX5_fewestDays 34 = .ok (.invokevirtual 70, 3) := by decide +kernel
theorem dX5_fewestDays_37 : decode cX5_fewestDays 37 = .ok (.ifCond .eq 16, 3) := by decide +kernel
theorem dX5_fewestDays_40 : decode cX5_fewestDays 40 = .ok (.iload_n 2, 1) := by decide +kernel
theorem dX5_fewestDays_41 : decode cX5_fewestDays 41 = .ok (.ifCond .eq 9, 3) := by decide +kernel
theorem dX5_fewestDays_44 : decode cX5_fewestDays 44 = .ok (.iload 4, 2) := by decide +kernel
theorem dX5_fewestDays_46 : decode cX5_fewestDays 46 = .ok (.iload_n 2, 1) := by decide +kernel
theorem dX5_fewestDays_47 : decode cX5_fewestDays 47 = .ok (.if_icmp .ge 6, 3) := by decide +kernel
theorem dX5_fewestDays_50 : decode cX5_fewestDays 50 = .ok (.iload 4, 2) := by decide +kernel
theorem dX5_fewestDays_52 : decode cX5_fewestDays 52 = .ok (.istore_n 2, 1) := by decide +kernel
theorem dX5_fewestDays_53 : decode cX5_fewestDays 53 = .ok (.iinc 3 1, 3) := by decide +kernel
theorem dX5_fewestDays_56 : decode cX5_fewestDays 56 = .ok (.goto (-52), 3) := by decide +kernel
theorem dX5_fewestDays_59 : decode cX5_fewestDays 59 = .ok (.iload_n 2, 1) := by decide +kernel
theorem dX5_fewestDays_60 : decode cX5_fewestDays 60 = .ok (.ireturn, 1) := by decide +kernel
theorem dX5_canTake_0 : decode cX5_canTake 0 = .ok (.aload_n 0, 1) := by decide +kernel
theorem dX5_canTake_1 : decode cX5_canTake 1 = .ok (.getfield 15, 3) := by decide +kernel
theorem dX5_canTake_4 : decode cX5_canTake 4 = .ok (.iload_n 2, 1) := by decide +kernel
theorem dX5_canTake_5 : decode cX5_canTake 5 = .ok (.iaload, 1) := by decide +kernel
theorem dX5_canTake_6 : decode cX5_canTake 6 = .ok (.iload_n 1, 1) := by decide +kernel
theorem dX5_canTake_7 : decode cX5_canTake 7 = .ok (.ishr, 1) := by decide +kernel
theorem dX5_canTake_8 : decode cX5_canTake 8 = .ok (.iconst 1, 1) := by decide +kernel
theorem dX5_canTake_9 : decode cX5_canTake 9 = .ok (.iand, 1) := by decide +kernel
theorem dX5_canTake_10 : decode cX5_canTake 10 = .ok (.iconst 1, 1) := by decide +kernel
theorem dX5_canTake_11 : decode cX5_canTake 11 = .ok (.if_icmp .ne 18, 3) := by decide +kernel
theorem dX5_canTake_14 : decode cX5_canTake 14 = .ok (.aload_n 0, 1) := by decide +kernel
theorem dX5_canTake_15 : decode cX5_canTake 15 = .ok (.getfield 30, 3) := by decide +kernel
theorem dX5_canTake_18 : decode cX5_canTake 18 = .ok (.iload_n 1, 1) := by decide +kernel
theorem dX5_canTake_19 : decode cX5_canTake 19 = .ok (.iaload, 1) := by decide +kernel
theorem dX5_canTake_20 : decode cX5_canTake 20 = .ok (.bipush 12, 2) := by decide +kernel
theorem dX5_canTake_22 : decode cX5_canTake 22 = .ok (.if_icmp .ge 7, 3) := by decide +kernel
theorem dX5_canTake_25 : decode cX5_canTake 25 = .ok (.iconst 1, 1) := by decide +kernel
theorem dX5_canTake_26 : decode cX5_canTake 26 = .ok (.goto 4, 3) := by decide +kernel
theorem dX5_canTake_29 : decode cX5_canTake 29 = .ok (.iconst 0, 1) := by decide +kernel
theorem dX5_canTake_30 : decode cX5_canTake 30 = .ok (.ireturn, 1) := by decide +kernel
theorem dX5_seek_0 : decode cX5_seek 0 = .ok (.aload_n 0, 1) := by decide +kernel
theorem dX5_seek_1 : decode cX5_seek 1 = .ok (.iload_n 1, 1) := by decide +kernel
theorem dX5_seek_2 : decode cX5_seek 2 = .ok (.iload_n 2, 1) := by decide +kernel
theorem dX5_seek_3 : decode cX5_seek 3 = .ok (.iload_n 3, 1) := by decide +kernel
theorem dX5_seek_4 : decode cX5_seek 4 = .ok (.invokevirtual 74, 3) := by decide +kernel
theorem dX5_seek_7 : decode cX5_seek 7 = .ok (.ifCond .ne 4, 3) := by decide +kernel
theorem dX5_seek_10 : decode cX5_seek 10 = .ok (.return_, 1) := by decide +kernel
theorem dX5_seek_11 : decode cX5_seek 11 = .ok (.iload_n 1, 1) := by decide +kernel
theorem dX5_seek_12 : decode cX5_seek 12 = .ok (.aload_n 0, 1) := by decide +kernel
theorem dX5_seek_13 : decode cX5_seek 13 = .ok (.getfield 36, 3) := by decide +kernel
theorem dX5_seek_16 : decode cX5_seek 16 = .ok (.if_icmp .lt 29, 3) := by decide +kernel
theorem dX5_seek_19 : decode cX5_seek 19 = .ok (.aload_n 0, 1) := by decide +kernel
theorem dX5_seek_20 : decode cX5_seek 20 = .ok (.iload_n 2, 1) := by decide +kernel
theorem dX5_seek_21 : decode cX5_seek 21 = .ok (.putfield 43, 3) := by decide +kernel
theorem dX5_seek_24 : decode cX5_seek 24 = .ok (.aload_n 0, 1) := by decide +kernel
theorem dX5_seek_25 : decode cX5_seek 25 = .ok (.iload_n 3, 1) := by decide +kernel
theorem dX5_seek_26 : decode cX5_seek 26 = .ok (.putfield 46, 3) := by decide +kernel
theorem dX5_seek_29 : decode cX5_seek 29 = .ok (.aload_n 0, 1) := by decide +kernel
theorem dX5_seek_30 : decode cX5_seek 30 = .ok (.getfield 18, 3) := by decide +kernel
theorem dX5_seek_33 : decode cX5_seek 33 = .ok (.iconst 0, 1) := by decide +kernel
theorem dX5_seek_34 : decode cX5_seek 34 = .ok (.aload_n 0, 1) := by decide +kernel
theorem dX5_seek_35 : decode cX5_seek 35 = .ok (.getfield 21, 3) := by decide +kernel
theorem dX5_seek_38 : decode cX5_seek 38 = .ok (.iconst 0, 1) := by decide +kernel
theorem dX5_seek_39 : decode cX5_seek 39 = .ok (.bipush 6, 2) := by decide +kernel
theorem dX5_seek_41 : decode cX5_seek 41 = .ok (.invokestatic 78, 3) := by decide +kernel
theorem dX5_seek_44 : decode cX5_seek 44 = .ok (.return_, 1) := by decide +kernel
theorem dX5_seek_45 : decode cX5_seek 45 = .ok (.iconst 0, 1) := by decide +kernel
theorem dX5_seek_46 : decode cX5_seek 46 = .ok (.istore 4, 2) := by decide +kernel
theorem dX5_seek_48 : decode cX5_seek 48 = .ok (.iload 4, 2) := by decide +kernel
theorem dX5_seek_50 : decode cX5_seek 50 = .ok (.aload_n 0, 1) := by decide +kernel
theorem dX5_seek_51 : decode cX5_seek 51 = .ok (.getfield 40, 3) := by decide +kernel
theorem dX5_seek_54 : decode cX5_seek 54 = .ok (.if_icmp .ge 78, 3) := by decide +kernel
theorem dX5_seek_57 : decode cX5_seek 57 = .ok (.aload_n 0, 1) := by decide +kernel
theorem dX5_seek_58 : decode cX5_seek 58 = .ok (.iload 4, 2) := by decide +kernel
theorem dX5_seek_60 : decode cX5_seek 60 = .ok (.iload_n 1, 1) := by decide +kernel
theorem dX5_seek_61 : decode cX5_seek 61 = .ok (.invokevirtual 70, 3) := by decide +kernel
theorem dX5_seek_64 : decode cX5_seek 64 = .ok (.ifCond .eq 62, 3) := by decide +kernel
theorem dX5_seek_67 : decode cX5_seek 67 = .ok (.aload_n 0, 1) := by decide +kernel
theorem dX5_seek_68 : decode cX5_seek 68 = .ok (.getfield 30, 3) := by decide +kernel
theorem dX5_seek_71 : decode cX5_seek 71 = .ok (.iload 4, 2) := by decide +kernel
theorem dX5_seek_73 : decode cX5_seek 73 = .ok (.dup2, 1) := by decide +kernel
theorem dX5_seek_74 : decode cX5_seek 74 = .ok (.iaload, 1) := by decide +kernel
theorem dX5_seek_75 : decode cX5_seek 75 = .ok (.iconst 1, 1) := by decide +kernel
theorem dX5_seek_76 : decode cX5_seek 76 = .ok (.iadd, 1) := by decide +kernel
theorem dX5_seek_77 : decode cX5_seek 77 = .ok (.iastore, 1) := by decide +kernel
theorem dX5_seek_78 : decode cX5_seek 78 = .ok (.aload_n 0, 1) := by decide +kernel
theorem dX5_seek_79 : decode cX5_seek 79 = .ok (.getfield 18, 3) := by decide +kernel
theorem dX5_seek_82 : decode cX5_seek 82 = .ok (.iload_n 1, 1) := by decide +kernel
theorem dX5_seek_83 : decode cX5_seek 83 = .ok (.iload 4, 2) := by decide +kernel
theorem dX5_seek_85 : decode cX5_seek 85 = .ok (.iastore, 1) := by decide +kernel
theorem dX5_seek_86 : decode cX5_seek 86 = .ok (.aload_n 0, 1) := by decide +kernel
theorem dX5_seek_87 : decode cX5_seek 87 = .ok (.iload_n 1, 1) := by decide +kernel
theorem dX5_seek_88 : decode cX5_seek 88 = .ok (.iconst 1, 1) := by decide +kernel
theorem dX5_seek_89 : decode cX5_seek 89 = .ok (.iadd, 1) := by decide +kernel
theorem dX5_seek_90 : decode cX5_seek 90 = .ok (.iload_n 2, 1) := by decide +kernel
theorem dX5_seek_91 : decode cX5_seek 91 = .ok (.iconst 1, 1) := by decide +kernel
theorem dX5_seek_92 : decode cX5_seek 92 = .ok (.iadd, 1) := by decide +kernel
theorem dX5_seek_93 : decode cX5_seek 93 = .ok (.iload_n 3, 1) := by decide +kernel
theorem dX5_seek_94 : decode cX5_seek 94 = .ok (.aload_n 0, 1) := by decide +kernel
theorem dX5_seek_95 : decode cX5_seek 95 = .ok (.getfield 30, 3) := by decide +kernel
theorem dX5_seek_98 : decode cX5_seek 98 = .ok (.iload 4, 2) := by decide +kernel
theorem dX5_seek_100 : decode cX5_seek 100 = .ok (.iaload, 1) := by decide +kernel
theorem dX5_seek_101 : decode cX5_seek 101 = .ok (.aload_n 0, 1) := by decide +kernel
theorem dX5_seek_102 : decode cX5_seek 102 = .ok (.getfield 33, 3) := by decide +kernel
theorem dX5_seek_105 : decode cX5_seek 105 = .ok (.iload 4, 2) := by decide +kernel
theorem dX5_seek_107 : decode cX5_seek 107 = .ok (.iaload, 1) := by decide +kernel
theorem dX5_seek_108 : decode cX5_seek 108 = .ok (.invokestatic 66, 3) := by decide +kernel
theorem dX5_seek_111 : decode cX5_seek 111 = .ok (.iadd, 1) := by decide +kernel
theorem dX5_seek_112 : decode cX5_seek 112 = .ok (.invokevirtual 58, 3) := by decide +kernel
theorem dX5_seek_115 : decode cX5_seek 115 = .ok (.aload_n 0, 1) := by decide +kernel
theorem dX5_seek_116 : decode cX5_seek 116 = .ok (.getfield 30, 3) := by decide +kernel
theorem dX5_seek_119 : decode cX5_seek 119 = .ok (.iload 4, 2) := by decide +kernel
theorem dX5_seek_121 : decode cX5_seek 121 = .ok (.dup2, 1) := by decide +kernel
theorem dX5_seek_122 : decode cX5_seek 122 = .ok (.iaload, 1) := by decide +kernel
theorem dX5_seek_123 : decode cX5_seek 123 = .ok (.iconst 1, 1) := by decide +kernel
theorem dX5_seek_124 : decode cX5_seek 124 = .ok (.isub, 1) := by decide +kernel
theorem dX5_seek_125 : decode cX5_seek 125 = .ok (.iastore, 1) := by decide +kernel
theorem dX5_seek_126 : decode cX5_seek 126 = .ok (.iinc 4 1, 3) := by decide +kernel
theorem dX5_seek_129 : decode cX5_seek 129 = .ok (.goto (-81), 3) := by decide +kernel
theorem dX5_seek_132 : decode cX5_seek 132 = .ok (.aload_n 0, 1) := by decide +kernel
theorem dX5_seek_133 : decode cX5_seek 133 = .ok (.getfield 18, 3) := by decide +kernel
theorem dX5_seek_136 : decode cX5_seek 136 = .ok (.iload_n 1, 1) := by decide +kernel
theorem dX5_seek_137 : decode cX5_seek 137 = .ok (.bipush (-4), 2) := by decide +kernel
theorem dX5_seek_139 : decode cX5_seek 139 = .ok (.iastore, 1) := by decide +kernel
theorem dX5_seek_140 : decode cX5_seek 140 = .ok (.aload_n 0, 1) := by decide +kernel
theorem dX5_seek_141 : decode cX5_seek 141 = .ok (.iload_n 1, 1) := by decide +kernel
theorem dX5_seek_142 : decode cX5_seek 142 = .ok (.iconst 1, 1) := by decide +kernel
theorem dX5_seek_143 : decode cX5_seek 143 = .ok (.iadd, 1) := by decide +kernel
theorem dX5_seek_144 : decode cX5_seek 144 = .ok (.iload_n 2, 1) := by decide +kernel
theorem dX5_seek_145 : decode cX5_seek 145 = .ok (.iload_n 3, 1) := by decide +kernel
theorem dX5_seek_146 : decode cX5_seek 146 = .ok (.invokevirtual 58, 3) := by decide +kernel
theorem dX5_seek_149 : decode cX5_seek 149 = .ok (.return_, 1) := by decide +kernel
theorem dX5_canBeBetter_0 : decode cX5_canBeBetter 0 = .ok (.iload_n 2, 1) := by decide +kernel
theorem dX5_canBeBetter_1 : decode cX5_canBeBetter 1 = .ok (.aload_n 0, 1) := by decide +kernel
theorem dX5_canBeBetter_2 : decode cX5_canBeBetter 2 = .ok (.getfield 24, 3) := by decide +kernel
theorem dX5_canBeBetter_5 : decode cX5_canBeBetter 5 = .ok (.iload_n 1, 1) := by decide +kernel
theorem dX5_canBeBetter_6 : decode cX5_canBeBetter 6 = .ok (.iaload, 1) := by decide +kernel
theorem dX5_canBeBetter_7 : decode cX5_canBeBetter 7 = .ok (.iadd, 1) := by decide +kernel
theorem dX5_canBeBetter_8 : decode cX5_canBeBetter 8 = .ok (.istore 4, 2) := by decide +kernel
theorem dX5_canBeBetter_10 : decode cX5_canBeBetter 10 = .ok (.iload 4, 2) := by decide +kernel
theorem dX5_canBeBetter_12 : decode cX5_canBeBetter 12 = .ok (.aload_n 0, 1) := by decide +kernel
theorem dX5_canBeBetter_13 : decode cX5_canBeBetter 13 = .ok (.getfield 43, 3) := by decide +kernel
theorem dX5_canBeBetter_16 : decode cX5_canBeBetter 16 = .ok (.if_icmp .eq 18, 3) := by decide +kernel
theorem dX5_canBeBetter_19 : decode cX5_canBeBetter 19 = .ok (.iload 4, 2) := by decide +kernel
theorem dX5_canBeBetter_21 : decode cX5_canBeBetter 21 = .ok (.aload_n 0, 1) := by decide +kernel
theorem dX5_canBeBetter_22 : decode cX5_canBeBetter 22 = .ok (.getfield 43, 3) := by decide +kernel
theorem dX5_canBeBetter_25 : decode cX5_canBeBetter 25 = .ok (.if_icmp .le 7, 3) := by decide +kernel
theorem dX5_canBeBetter_28 : decode cX5_canBeBetter 28 = .ok (.iconst 1, 1) := by decide +kernel
theorem dX5_canBeBetter_29 : decode cX5_canBeBetter 29 = .ok (.goto 4, 3) := by decide +kernel
theorem dX5_canBeBetter_32 : decode cX5_canBeBetter 32 = .ok (.iconst 0, 1) := by decide +kernel
theorem dX5_canBeBetter_33 : decode cX5_canBeBetter 33 = .ok (.ireturn, 1) := by decide +kernel
theorem dX5_canBeBetter_34 : decode cX5_canBeBetter 34 = .ok (.iload_n 3, 1) := by decide +kernel
theorem dX5_canBeBetter_35 : decode cX5_canBeBetter 35 = .ok (.aload_n 0, 1) := by decide +kernel
theorem dX5_canBeBetter_36 : decode cX5_canBeBetter 36 = .ok (.getfield 27, 3) := by decide +kernel
theorem dX5_canBeBetter_39 : decode cX5_canBeBetter 39 = .ok (.iload_n 1, 1) := by decide +kernel
theorem dX5_canBeBetter_40 : decode cX5_canBeBetter 40 = .ok (.iaload, 1) := by decide +kernel
theorem dX5_canBeBetter_41 : decode cX5_canBeBetter 41 = .ok (.iadd, 1) := by decide +kernel
theorem dX5_canBeBetter_42 : decode cX5_canBeBetter 42 = .ok (.aload_n 0, 1) := by decide +kernel
theorem dX5_canBeBetter_43 : decode cX5_canBeBetter 43 = .ok (.getfield 46, 3) := by decide +kernel
theorem dX5_canBeBetter_46 : decode cX5_canBeBetter 46 = .ok (.if_icmp .ge 7, 3) := by decide +kernel
theorem dX5_canBeBetter_49 : decode cX5_canBeBetter 49 = .ok (.iconst 1, 1) := by decide +kernel
theorem dX5_canBeBetter_50 : decode cX5_canBeBetter 50 = .ok (.goto 4, 3) := by decide +kernel
theorem dX5_canBeBetter_53 : decode cX5_canBeBetter 53 = .ok (.iconst 0, 1) := by decide +kernel
theorem dX5_canBeBetter_54 : decode cX5_canBeBetter 54 = .ok (.ireturn, 1) := by decide +kernel
theorem dX5_tutorOf_0 : decode cX5_tutorOf 0 = .ok (.iconst 0, 1) := by decide +kernel
theorem dX5_tutorOf_1 : decode cX5_tutorOf 1 = .ok (.istore_n 2, 1) := by decide +kernel
theorem dX5_tutorOf_2 : decode cX5_tutorOf 2 = .ok (.iload_n 2, 1) := by decide +kernel
theorem dX5_tutorOf_3 : decode cX5_tutorOf 3 = .ok (.aload_n 0, 1) := by decide +kernel
theorem dX5_tutorOf_4 : decode cX5_tutorOf 4 = .ok (.getfield 36, 3) := by decide +kernel
theorem dX5_tutorOf_7 : decode cX5_tutorOf 7 = .ok (.if_icmp .ge 26, 3) := by decide +kernel
theorem dX5_tutorOf_10 : decode cX5_tutorOf 10 = .ok (.aload_n 0, 1) := by decide +kernel
theorem dX5_tutorOf_11 : decode cX5_tutorOf 11 = .ok (.getfield 9, 3) := by decide +kernel
theorem dX5_tutorOf_14 : decode cX5_tutorOf 14 = .ok (.iload_n 2, 1) := by decide +kernel
theorem dX5_tutorOf_15 : decode cX5_tutorOf 15 = .ok (.iaload, 1) := by decide +kernel
theorem dX5_tutorOf_16 : decode cX5_tutorOf 16 = .ok (.iload_n 1, 1) := by decide +kernel
theorem dX5_tutorOf_17 : decode cX5_tutorOf 17 = .ok (.if_icmp .ne 10, 3) := by decide +kernel
theorem dX5_tutorOf_20 : decode cX5_tutorOf 20 = .ok (.aload_n 0, 1) := by decide +kernel
theorem dX5_tutorOf_21 : decode cX5_tutorOf 21 = .ok (.getfield 21, 3) := by decide +kernel
theorem dX5_tutorOf_24 : decode cX5_tutorOf 24 = .ok (.iload_n 2, 1) := by decide +kernel
theorem dX5_tutorOf_25 : decode cX5_tutorOf 25 = .ok (.iaload, 1) := by decide +kernel
theorem dX5_tutorOf_26 : decode cX5_tutorOf 26 = .ok (.ireturn, 1) := by decide +kernel
theorem dX5_tutorOf_27 : decode cX5_tutorOf 27 = .ok (.iinc 2 1, 3) := by decide +kernel
theorem dX5_tutorOf_30 : decode cX5_tutorOf 30 = .ok (.goto (-28), 3) := by decide +kernel
theorem dX5_tutorOf_33 : decode cX5_tutorOf 33 = .ok (.bipush (-4), 2) := by decide +kernel
theorem dX5_tutorOf_35 : decode cX5_tutorOf 35 = .ok (.ireturn, 1) := by decide +kernel
theorem dX6_init_0 : decode cX6_init 0 = .ok (.aload_n 0, 1) := by decide +kernel
theorem dX6_init_1 : decode cX6_init 1 = .ok (.invokespecial 3, 3) := by decide +kernel
theorem dX6_init_4 : decode cX6_init 4 = .ok (.aload_n 0, 1) := by decide +kernel
theorem dX6_init_5 : decode cX6_init 5 = .ok (.iconst (-1), 1) := by decide +kernel
theorem dX6_init_6 : decode cX6_init 6 = .ok (.putfield 11, 3) := by decide +kernel
theorem dX6_init_9 : decode cX6_init 9 = .ok (.aload_n 0, 1) := by decide +kernel
theorem dX6_init_10 : decode cX6_init 10 = .ok (.iconst 0, 1) := by decide +kernel
theorem dX6_init_11 : decode cX6_init 11 = .ok (.putfield 15, 3) := by decide +kernel
theorem dX6_init_14 : decode cX6_init 14 = .ok (.aload_n 0, 1) := by decide +kernel
theorem dX6_init_15 : decode cX6_init 15 = .ok (.bipush 30, 2) := by decide +kernel
theorem dX6_init_17 : decode cX6_init 17 = .ok (.newarray .int, 2) := by decide +kernel
theorem dX6_init_19 : decode cX6_init 19 = .ok (.putfield 18, 3) := by decide +kernel
theorem dX6_init_22 : decode cX6_init 22 = .ok (.return_, 1) := by decide +kernel
theorem dX6_begin_0 : decode cX6_begin 0 = .ok (.aload_n 0, 1) := by decide +kernel
theorem dX6_begin_1 : decode cX6_begin 1 = .ok (.iload_n 1, 1) := by decide +kernel
theorem dX6_begin_2 : decode cX6_begin 2 = .ok (.putfield 11, 3) := by decide +kernel
theorem dX6_begin_5 : decode cX6_begin 5 = .ok (.aload_n 0, 1) := by decide +kernel
theorem dX6_begin_6 : decode cX6_begin 6 = .ok (.iload_n 2, 1) := by decide +kernel
theorem dX6_begin_7 : decode cX6_begin 7 = .ok (.putfield 15, 3) := by decide +kernel
theorem dX6_begin_10 : decode cX6_begin 10 = .ok (.aload_n 0, 1) := by decide +kernel
theorem dX6_begin_11 : decode cX6_begin 11 = .ok (.getfield 18, 3) := by decide +kernel
theorem dX6_begin_14 : decode cX6_begin 14 = .ok (.iconst 0, 1) := by decide +kernel
theorem dX6_begin_15 : decode cX6_begin 15 = .ok (.invokestatic 22, 3) := by decide +kernel
theorem dX6_begin_18 : decode cX6_begin 18 = .ok (.return_, 1) := by decide +kernel
theorem dX6_refusal_0 : decode cX6_refusal 0 = .ok (.aload_n 0, 1) := by decide +kernel
theorem dX6_refusal_1 : decode cX6_refusal 1 = .ok (.getfield 11, 3) := by decide +kernel
theorem dX6_refusal_4 : decode cX6_refusal 4 = .ok (.iconst (-1), 1) := by decide +kernel
theorem dX6_refusal_5 : decode cX6_refusal 5 = .ok (.if_icmp .ne 6, 3) := by decide +kernel
theorem dX6_refusal_8 : decode cX6_refusal 8 = .ok (.bipush (-11), 2) := by decide +kernel
theorem dX6_refusal_10 : decode cX6_refusal 10 = .ok (.ireturn, 1) := by decide +kernel
theorem dX6_refusal_11 : decode cX6_refusal 11 = .ok (.aload_n 0, 1) := by decide +kernel
theorem dX6_refusal_12 : decode cX6_refusal 12 = .ok (.getfield 11, 3) := by decide +kernel
theorem dX6_refusal_15 : decode cX6_refusal 15 = .ok (.iload_n 1, 1) := by decide +kernel
theorem dX6_refusal_16 : decode cX6_refusal 16 = .ok (.if_icmp .eq 6, 3) := by decide +kernel
theorem dX6_refusal_19 : decode cX6_refusal 19 = .ok (.bipush (-12), 2) := by decide +kernel
theorem dX6_refusal_21 : decode cX6_refusal 21 = .ok (.ireturn, 1) := by decide +kernel
theorem dX6_refusal_22 : decode cX6_refusal 22 = .ok (.iload_n 2, 1) := by decide +kernel
theorem dX6_refusal_23 : decode cX6_refusal 23 = .ok (.ifCond .lt 21, 3) := by decide +kernel
theorem dX6_refusal_26 : decode cX6_refusal 26 = .ok (.iload_n 2, 1) := by decide +kernel
theorem dX6_refusal_27 : decode cX6_refusal 27 = .ok (.aload_n 0, 1) := by decide +kernel
theorem dX6_refusal_28 : decode cX6_refusal 28 = .ok (.getfield 15, 3) := by decide +kernel
theorem dX6_refusal_31 : decode cX6_refusal 31 = .ok (.if_icmp .gt 13, 3) := by decide +kernel
theorem dX6_refusal_34 : decode cX6_refusal 34 = .ok (.iload_n 3, 1) := by decide +kernel
theorem dX6_refusal_35 : decode cX6_refusal 35 = .ok (.aload_n 0, 1) := by decide +kernel
theorem dX6_refusal_36 : decode cX6_refusal 36 = .ok (.getfield 15, 3) := by decide +kernel
theorem dX6_refusal_39 : decode cX6_refusal 39 = .ok (.iload_n 2, 1) := by decide +kernel
theorem dX6_refusal_40 : decode cX6_refusal 40 = .ok (.isub, 1) := by decide +kernel
theorem dX6_refusal_41 : decode cX6_refusal 41 = .ok (.if_icmp .le 8, 3) := by decide +kernel
theorem dX6_refusal_44 : decode cX6_refusal 44 = .ok (.bipush (-13), 2) := by decide +kernel
theorem dX6_refusal_46 : decode cX6_refusal 46 = .ok (.goto 4, 3) := by decide +kernel
theorem dX6_refusal_49 : decode cX6_refusal 49 = .ok (.iconst 0, 1) := by decide +kernel
theorem dX6_refusal_50 : decode cX6_refusal 50 = .ok (.ireturn, 1) := by decide +kernel
theorem dX6_put_0 : decode cX6_put 0 = .ok (.aload_n 0, 1) := by decide +kernel
theorem dX6_put_1 : decode cX6_put 1 = .ok (.getfield 11, 3) := by decide +kernel
theorem dX6_put_4 : decode cX6_put 4 = .ok (.ifCond .ne 14, 3) := by decide +kernel
theorem dX6_put_7 : decode cX6_put 7 = .ok (.aload_n 0, 1) := by decide +kernel
theorem dX6_put_8 : decode cX6_put 8 = .ok (.getfield 18, 3) := by decide +kernel
theorem dX6_put_11 : decode cX6_put 11 = .ok (.iload_n 1, 1) := by decide +kernel
theorem dX6_put_12 : decode cX6_put 12 = .ok (.iload_n 2, 1) := by decide +kernel
theorem dX6_put_13 : decode cX6_put 13 = .ok (.i2b, 1) := by decide +kernel
theorem dX6_put_14 : decode cX6_put 14 = .ok (.iastore, 1) := by decide +kernel
theorem dX6_put_15 : decode cX6_put 15 = .ok (.goto 29, 3) := by decide +kernel
theorem dX6_put_18 : decode cX6_put 18 = .ok (.aload_n 0, 1) := by decide +kernel
theorem dX6_put_19 : decode cX6_put 19 = .ok (.getfield 11, 3) := by decide +kernel
theorem dX6_put_22 : decode cX6_put 22 = .ok (.iconst 1, 1) := by decide +kernel
theorem dX6_put_23 : decode cX6_put 23 = .ok (.if_icmp .ne 14, 3) := by decide +kernel
theorem dX6_put_26 : decode cX6_put 26 = .ok (.aload_n 0, 1) := by decide +kernel
theorem dX6_put_27 : decode cX6_put 27 = .ok (.getfield 18, 3) := by decide +kernel
theorem dX6_put_30 : decode cX6_put 30 = .ok (.iload_n 1, 1) := by decide +kernel
theorem dX6_put_31 : decode cX6_put 31 = .ok (.iload_n 2, 1) := by decide +kernel
theorem dX6_put_32 : decode cX6_put 32 = .ok (.i2s, 1) := by decide +kernel
theorem dX6_put_33 : decode cX6_put 33 = .ok (.iastore, 1) := by decide +kernel
theorem dX6_put_34 : decode cX6_put 34 = .ok (.goto 10, 3) := by decide +kernel
theorem dX6_put_37 : decode cX6_put 37 = .ok (.aload_n 0, 1) := by decide +kernel
theorem dX6_put_38 : decode cX6_put 38 = .ok (.getfield 18, 3) := by decide +kernel
theorem dX6_put_41 : decode cX6_put 41 = .ok (.iload_n 1, 1) := by decide +kernel
theorem dX6_put_42 : decode cX6_put 42 = .ok (.iload_n 2, 1) := by decide +kernel
theorem dX6_put_43 : decode cX6_put 43 = .ok (.iastore, 1) := by decide +kernel
theorem dX6_put_44 : decode cX6_put 44 = .ok (.return_, 1) := by decide +kernel
theorem dX7_init_0 : decode cX7_init 0 = .ok (.aload_n 0, 1) := by decide +kernel
theorem dX7_init_1 : decode cX7_init 1 = .ok (.invokespecial 3, 3) := by decide +kernel
theorem dX7_init_4 : decode cX7_init 4 = .ok (.aload_n 0, 1) := by decide +kernel
theorem dX7_init_5 : decode cX7_init 5 = .ok (.bipush 120, 2) := by decide +kernel
theorem dX7_init_7 : decode cX7_init 7 = .ok (.newarray .byte, 2) := by decide +kernel
theorem dX7_init_9 : decode cX7_init 9 = .ok (.putfield 11, 3) := by decide +kernel
theorem dX7_init_12 : decode cX7_init 12 = .ok (.aload_n 0, 1) := by decide +kernel
theorem dX7_init_13 : decode cX7_init 13 = .ok (.iconst 0, 1) := by decide +kernel
theorem dX7_init_14 : decode cX7_init 14 = .ok (.putfield 15, 3) := by decide +kernel
theorem dX7_init_17 : decode cX7_init 17 = .ok (.aload_n 0, 1) := by decide +kernel
theorem dX7_init_18 : decode cX7_init 18 = .ok (.iconst 0, 1) := by decide +kernel
theorem dX7_init_19 : decode cX7_init 19 = .ok (.putfield 19, 3) := by decide +kernel
theorem dX7_init_22 : decode cX7_init 22 = .ok (.return_, 1) := by decide +kernel
theorem dX7_append_0 : decode cX7_append 0 = .ok (.aload_n 0, 1) := by decide +kernel
theorem dX7_append_1 : decode cX7_append 1 = .ok (.getfield 15, 3) := by decide +kernel
theorem dX7_append_4 : decode cX7_append 4 = .ok (.bipush 120, 2) := by decide +kernel
theorem dX7_append_6 : decode cX7_append 6 = .ok (.if_icmp .ge 24, 3) := by decide +kernel
theorem dX7_append_9 : decode cX7_append 9 = .ok (.aload_n 0, 1) := by decide +kernel
theorem dX7_append_10 : decode cX7_append 10 = .ok (.getfield 11, 3) := by decide +kernel
theorem dX7_append_13 : decode cX7_append 13 = .ok (.aload_n 0, 1) := by decide +kernel
theorem dX7_append_14 : decode cX7_append 14 = .ok (.getfield 15, 3) := by decide +kernel
theorem dX7_append_17 : decode cX7_append 17 = .ok (.iload_n 1, 1) := by decide +kernel
theorem dX7_append_18 : decode cX7_append 18 = .ok (.i2b, 1) := by decide +kernel
theorem dX7_append_19 : decode cX7_append 19 = .ok (.bastore, 1) := by decide +kernel
theorem dX7_append_20 : decode cX7_append 20 = .ok (.aload_n 0, 1) := by decide +kernel
theorem dX7_append_21 : decode cX7_append 21 = .ok (.dup, 1) := by decide +kernel
theorem dX7_append_22 : decode cX7_append 22 = .ok (.getfield 15, 3) := by decide +kernel
theorem dX7_append_25 : decode cX7_append 25 = .ok (.iconst 1, 1) := by decide +kernel
theorem dX7_append_26 : decode cX7_append 26 = .ok (.iadd, 1) := by decide +kernel
theorem dX7_append_27 : decode cX7_append 27 = .ok (.putfield 15, 3) := by decide +kernel
theorem dX7_append_30 : decode cX7_append 30 = .ok (.return_, 1) := by decide +kernel
theorem dX7_next_0 : decode cX7_next 0 = .ok (.iconst 0, 1) := by decide +kernel
theorem dX7_next_1 : decode cX7_next 1 = .ok (.istore_n 1, 1) := by decide +kernel
theorem dX7_next_2 : decode cX7_next 2 = .ok (.iload_n 1, 1) := by decide +kernel
theorem dX7_next_3 : decode cX7_next 3 = .ok (.bipush 120, 2) := by decide +kernel
theorem dX7_next_5 : decode cX7_next 5 = .ok (.if_icmp .ge 44, 3) := by decide +kernel
theorem dX7_next_8 : decode cX7_next 8 = .ok (.aload_n 0, 1) := by decide +kernel
theorem dX7_next_9 : decode cX7_next 9 = .ok (.getfield 19, 3) := by decide +kernel
theorem dX7_next_12 : decode cX7_next 12 = .ok (.aload_n 0, 1) := by decide +kernel
theorem dX7_next_13 : decode cX7_next 13 = .ok (.getfield 15, 3) := by decide +kernel
theorem dX7_next_16 : decode cX7_next 16 = .ok (.if_icmp .ge 33, 3) := by decide +kernel
theorem dX7_next_19 : decode cX7_next 19 = .ok (.aload_n 0, 1) := by decide +kernel
theorem dX7_next_20 : decode cX7_next 20 = .ok (.getfield 11, 3) := by decide +kernel
theorem dX7_next_23 : decode cX7_next 23 = .ok (.aload_n 0, 1) := by decide +kernel
theorem dX7_next_24 : decode cX7_next 24 = .ok (.getfield 19, 3) := by decide +kernel
theorem dX7_next_27 : decode cX7_next 27 = .ok (.baload, 1) := by decide +kernel
theorem dX7_next_28 : decode cX7_next 28 = .ok (.bipush 32, 2) := by decide +kernel
theorem dX7_next_30 : decode cX7_next 30 = .ok (.if_icmp .ne 19, 3) := by decide +kernel
theorem dX7_next_33 : decode cX7_next 33 = .ok (.aload_n 0, 1) := by decide +kernel
theorem dX7_next_34 : decode cX7_next 34 = .ok (.dup, 1) := by decide +kernel
theorem dX7_next_35 : decode cX7_next 35 = .ok (.getfield 19, 3) := by decide +kernel
theorem dX7_next_38 : decode cX7_next 38 = .ok (.iconst 1, 1) := by decide +kernel
theorem dX7_next_39 : decode cX7_next 39 = .ok (.iadd, 1) := by decide +kernel
theorem dX7_next_40 : decode cX7_next 40 = .ok (.putfield 19, 3) := by decide +kernel
theorem dX7_next_43 : decode cX7_next 43 = .ok (.iinc 1 1, 3) := by decide +kernel
theorem dX7_next_46 : decode cX7_next 46 = .ok (.goto (-44), 3) := by decide +kernel
theorem dX7_next_49 : decode cX7_next 49 = .ok (.aload_n 0, 1) := by decide +kernel
theorem dX7_next_50 : decode cX7_next 50 = .ok (.getfield 19, 3) := by decide +kernel
theorem dX7_next_53 : decode cX7_next 53 = .ok (.aload_n 0, 1) := by decide +kernel
theorem dX7_next_54 : decode cX7_next 54 = .ok (.getfield 15, 3) := by decide +kernel
theorem dX7_next_57 : decode cX7_next 57 = .ok (.if_icmp .ge 15, 3) := by decide +kernel
theorem dX7_next_60 : decode cX7_next 60 = .ok (.aload_n 0, 1) := by decide +kernel
theorem dX7_next_61 : decode cX7_next 61 = .ok (.getfield 11, 3) := by decide +kernel
theorem dX7_next_64 : decode cX7_next 64 = .ok (.aload_n 0, 1) := by decide +kernel
theorem dX7_next_65 : decode cX7_next 65 = .ok (.getfield 19, 3) := by decide +kernel
theorem dX7_next_68 : decode cX7_next 68 = .ok (.baload, 1) := by decide +kernel
theorem dX7_next_69 : decode cX7_next 69 = .ok (.goto 4, 3) := by decide +kernel
theorem dX7_next_72 : decode cX7_next 72 = .ok (.iconst (-1), 1) := by decide +kernel
theorem dX7_next_73 : decode cX7_next 73 = .ok (.ireturn, 1) := by decide +kernel
theorem dX7_takes_0 : decode cX7_takes 0 = .ok (.aload_n 0, 1) := by decide +kernel
theorem dX7_takes_1 : decode cX7_takes 1 = .ok (.invokevirtual 22, 3) := by decide +kernel
theorem dX7_takes_4 : decode cX7_takes 4 = .ok (.iload_n 1, 1) := by decide +kernel
theorem dX7_takes_5 : decode cX7_takes 5 = .ok (.if_icmp .eq 5, 3) := by decide +kernel
theorem dX7_takes_8 : decode cX7_takes 8 = .ok (.iconst 0, 1) := by decide +kernel
theorem dX7_takes_9 : decode cX7_takes 9 = .ok (.ireturn, 1) := by decide +kernel
theorem dX7_takes_10 : decode cX7_takes 10 = .ok (.aload_n 0, 1) := by decide +kernel
theorem dX7_takes_11 : decode cX7_takes 11 = .ok (.dup, 1) := by decide +kernel
theorem dX7_takes_12 : decode cX7_takes 12 = .ok (.getfield 19, 3) := by decide +kernel
theorem dX7_takes_15 : decode cX7_takes 15 = .ok (.iconst 1, 1) := by decide +kernel
theorem dX7_takes_16 : decode cX7_takes 16 = .ok (.iadd, 1) := by decide +kernel
theorem dX7_takes_17 : decode cX7_takes 17 = .ok (.putfield 19, 3) := by decide +kernel
theorem dX7_takes_20 : decode cX7_takes 20 = .ok (.iconst 1, 1) := by decide +kernel
theorem dX7_takes_21 : decode cX7_takes 21 = .ok (.ireturn, 1) := by decide +kernel
theorem dX7_isDigit_0 : decode cX7_isDigit 0 = .ok (.iload_n 0, 1) := by decide +kernel
theorem dX7_isDigit_1 : decode cX7_isDigit 1 = .ok (.bipush 48, 2) := by decide +kernel
theorem dX7_isDigit_3 : decode cX7_isDigit 3 = .ok (.if_icmp .lt 13, 3) := by decide +kernel
theorem dX7_isDigit_6 : decode cX7_isDigit 6 = .ok (.iload_n 0, 1) := by decide +kernel
theorem dX7_isDigit_7 : decode cX7_isDigit 7 = .ok (.bipush 57, 2) := by decide +kernel
theorem dX7_isDigit_9 : decode cX7_isDigit 9 = .ok (.if_icmp .gt 7, 3) := by decide +kernel
theorem dX7_isDigit_12 : decode cX7_isDigit 12 = .ok (.iconst 1, 1) := by decide +kernel
theorem dX7_isDigit_13 : decode cX7_isDigit 13 = .ok (.goto 4, 3) := by decide +kernel
theorem dX7_isDigit_16 : decode cX7_isDigit 16 = .ok (.iconst 0, 1) := by decide +kernel
theorem dX7_isDigit_17 : decode cX7_isDigit 17 = .ok (.ireturn, 1) := by decide +kernel
theorem dX7_takeNumber_0 : decode cX7_takeNumber 0 = .ok (.aload_n 0, 1) := by decide +kernel
theorem dX7_takeNumber_1 : decode cX7_takeNumber 1 = .ok (.invokevirtual 22, 3) := by decide +kernel
theorem dX7_takeNumber_4 : decode cX7_takeNumber 4 = .ok (.invokestatic 26, 3) := by decide +kernel
theorem dX7_takeNumber_7 : decode cX7_takeNumber 7 = .ok (.ifCond .ne 5, 3) := by decide +kernel
theorem dX7_takeNumber_10 : decode cX7_takeNumber 10 = .ok (.iconst (-1), 1) := by decide +kernel
theorem dX7_takeNumber_11 : decode cX7_takeNumber 11 = .ok (.ireturn, 1) := by decide +kernel
theorem dX7_takeNumber_12 : decode cX7_takeNumber 12 = .ok (.aload_n 0, 1) := by decide +kernel
theorem dX7_takeNumber_13 : decode cX7_takeNumber 13 = .ok (.getfield 19, 3) := by decide +kernel
theorem dX7_takeNumber_16 : decode cX7_takeNumber 16 = .ok (.istore_n 2, 1) := by decide +kernel
theorem dX7_takeNumber_17 : decode cX7_takeNumber 17 = .ok (.iconst 0, 1) := by decide +kernel
theorem dX7_takeNumber_18 : decode cX7_takeNumber 18 = .ok (.istore_n 3, 1) := by decide +kernel
theorem dX7_takeNumber_19 : decode cX7_takeNumber 19 = .ok (.iload_n 2, 1) := by decide +kernel
theorem dX7_takeNumber_20 : decode cX7_takeNumber 20 = .ok (.istore 4, 2) := by decide +kernel
theorem dX7_takeNumber_22 : decode cX7_takeNumber 22 = .ok (.iload 4, 2) := by decide +kernel
theorem dX7_takeNumber_24 : decode cX7_takeNumber 24 = .ok (.aload_n 0, 1) := by decide +kernel
theorem dX7_takeNumber_25 : decode cX7_takeNumber 25 = .ok (.getfield 15, 3) := by decide +kernel
theorem dX7_takeNumber_28 : decode cX7_takeNumber 28 = .ok (.if_icmp .ge 52, 3) := by decide +kernel
theorem dX7_takeNumber_31 : decode cX7_takeNumber 31 = .ok (.aload_n 0, 1) := by decide +kernel
theorem dX7_takeNumber_32 : decode cX7_takeNumber 32 = .ok (.getfield 11, 3) := by decide +kernel
theorem dX7_takeNumber_35 : decode cX7_takeNumber 35 = .ok (.iload 4, 2) := by decide +kernel
theorem dX7_takeNumber_37 : decode cX7_takeNumber 37 = .ok (.baload, 1) := by decide +kernel
theorem dX7_takeNumber_38 : decode cX7_takeNumber 38 = .ok (.invokestatic 26, 3) := by decide +kernel
theorem dX7_takeNumber_41 : decode cX7_takeNumber 41 = .ok (.ifCond .eq 39, 3) := by decide +kernel
theorem dX7_takeNumber_44 : decode cX7_takeNumber 44 = .ok (.iload_n 3, 1) := by decide +kernel
theorem dX7_takeNumber_45 : decode cX7_takeNumber 45 = .ok (.bipush 10, 2) := by decide +kernel
theorem dX7_takeNumber_47 : decode cX7_takeNumber 47 = .ok (.imul, 1) := by decide +kernel
theorem dX7_takeNumber_48 : decode cX7_takeNumber 48 = .ok (.aload_n 0, 1) := by decide +kernel
theorem dX7_takeNumber_49 : decode cX7_takeNumber 49 = .ok (.getfield 11, 3) := by decide +kernel
theorem dX7_takeNumber_52 : decode cX7_takeNumber 52 = .ok (.iload 4, 2) := by decide +kernel
theorem dX7_takeNumber_54 : decode cX7_takeNumber 54 = .ok (.baload, 1) := by decide +kernel
theorem dX7_takeNumber_55 : decode cX7_takeNumber 55 = .ok (.iadd, 1) := by decide +kernel
theorem dX7_takeNumber_56 : decode cX7_takeNumber 56 = .ok (.bipush 48, 2) := by decide +kernel
theorem dX7_takeNumber_58 : decode cX7_takeNumber 58 = .ok (.isub, 1) := by decide +kernel
theorem dX7_takeNumber_59 : decode cX7_takeNumber 59 = .ok (.iload_n 1, 1) := by decide +kernel
theorem dX7_takeNumber_60 : decode cX7_takeNumber 60 = .ok (.iconst 1, 1) := by decide +kernel
theorem dX7_takeNumber_61 : decode cX7_takeNumber 61 = .ok (.iadd, 1) := by decide +kernel
theorem dX7_takeNumber_62 : decode cX7_takeNumber 62 = .ok (.invokestatic 30, 3) := by decide +kernel
theorem dX7_takeNumber_65 : decode cX7_takeNumber 65 = .ok (.istore_n 3, 1) := by decide +kernel
theorem dX7_takeNumber_66 : decode cX7_takeNumber 66 = .ok (.aload_n 0, 1) := by decide +kernel
theorem dX7_takeNumber_67 : decode cX7_takeNumber 67 = .ok (.iload 4, 2) := by decide +kernel
theorem dX7_takeNumber_69 : decode cX7_takeNumber 69 = .ok (.iconst 1, 1) := by decide +kernel
theorem dX7_takeNumber_70 : decode cX7_takeNumber 70 = .ok (.iadd, 1) := by decide +kernel
theorem dX7_takeNumber_71 : decode cX7_takeNumber 71 = .ok (.putfield 19, 3) := by decide +kernel
theorem dX7_takeNumber_74 : decode cX7_takeNumber 74 = .ok (.iinc 4 1, 3) := by decide +kernel
theorem dX7_takeNumber_77 : decode cX7_takeNumber 77 = .ok (.goto (-55), 3) := by decide +kernel
theorem dX7_takeNumber_80 : decode cX7_takeNumber 80 = .ok (.iload_n 3, 1) := by decide +kernel
theorem dX7_takeNumber_81 : decode cX7_takeNumber 81 = .ok (.iload_n 1, 1) := by decide +kernel
theorem dX7_takeNumber_82 : decode cX7_takeNumber 82 = .ok (.if_icmp .le 10, 3) := by decide +kernel
theorem dX7_takeNumber_85 : decode cX7_takeNumber 85 = .ok (.aload_n 0, 1) := by decide +kernel
theorem dX7_takeNumber_86 : decode cX7_takeNumber 86 = .ok (.iload_n 2, 1) := by decide +kernel
theorem dX7_takeNumber_87 : decode cX7_takeNumber 87 = .ok (.putfield 19, 3) := by decide +kernel
theorem dX7_takeNumber_90 : decode cX7_takeNumber 90 = .ok (.iconst (-1), 1) := by decide +kernel
theorem dX7_takeNumber_91 : decode cX7_takeNumber 91 = .ok (.ireturn, 1) := by decide +kernel
theorem dX7_takeNumber_92 : decode cX7_takeNumber 92 = .ok (.iload_n 3, 1) := by decide +kernel
theorem dX7_takeNumber_93 : decode cX7_takeNumber 93 = .ok (.ireturn, 1) := by decide +kernel
theorem dX7_readEdition_0 : decode cX7_readEdition 0 = .ok (.aload_n 1, 1) := by decide +kernel
theorem dX7_readEdition_1 : decode cX7_readEdition 1 = .ok (.invokevirtual 36, 3) := by decide +kernel
theorem dX7_readEdition_4 : decode cX7_readEdition 4 = .ok (.aload_n 0, 1) := by decide +kernel
theorem dX7_readEdition_5 : decode cX7_readEdition 5 = .ok (.iconst 0, 1) := by decide +kernel
theorem dX7_readEdition_6 : decode cX7_readEdition 6 = .ok (.putfield 19, 3) := by decide +kernel
theorem dX7_readEdition_9 : decode cX7_readEdition 9 = .ok (.iconst 1, 1) := by decide +kernel
theorem dX7_readEdition_10 : decode cX7_readEdition 10 = .ok (.istore_n 2, 1) := by decide +kernel
theorem dX7_readEdition_11 : decode cX7_readEdition 11 = .ok (.iload_n 2, 1) := by decide +kernel
theorem dX7_readEdition_12 : decode cX7_readEdition 12 = .ok (.bipush 8, 2) := by decide +kernel
theorem dX7_readEdition_14 : decode cX7_readEdition 14 = .ok (.if_icmp .gt 49, 3) := by decide +kernel
theorem dX7_readEdition_17 : decode cX7_readEdition 17 = .ok (.aload_n 0, 1) := by decide +kernel
theorem dX7_readEdition_18 : decode cX7_readEdition 18 = .ok (.aload_n 1, 1) := by decide +kernel
theorem dX7_readEdition_19 : decode cX7_readEdition 19 = .ok (.invokevirtual 41, 3) := by decide +kernel
theorem dX7_readEdition_22 : decode cX7_readEdition 22 = .ok (.ifCond .ne 5, 3) := by decide +kernel
theorem dX7_readEdition_25 : decode cX7_readEdition 25 = .ok (.iconst 0, 1) := by decide +kernel
theorem dX7_readEdition_26 : decode cX7_readEdition 26 = .ok (.ireturn, 1) := by decide +kernel
theorem dX7_readEdition_27 : decode cX7_readEdition 27 = .ok (.aload_n 0, 1) := by decide +kernel
theorem dX7_readEdition_28 : decode cX7_readEdition 28 = .ok (.invokevirtual 22, 3) := by decide +kernel
theorem dX7_readEdition_31 : decode cX7_readEdition 31 = .ok (.iconst (-1), 1) := by decide +kernel
theorem dX7_readEdition_32 : decode cX7_readEdition 32 = .ok (.if_icmp .ne 8, 3) := by decide +kernel
theorem dX7_readEdition_35 : decode cX7_readEdition 35 = .ok (.aload_n 1, 1) := by decide +kernel
theorem dX7_readEdition_36 : decode cX7_readEdition 36 = .ok (.invokevirtual 45, 3) := by decide +kernel
theorem dX7_readEdition_39 : decode cX7_readEdition 39 = .ok (.ireturn, 1) := by decide +kernel
theorem dX7_readEdition_40 : decode cX7_readEdition 40 = .ok (.iload_n 2, 1) := by decide +kernel
theorem dX7_readEdition_41 : decode cX7_readEdition 41 = .ok (.bipush 8, 2) := by decide +kernel
theorem dX7_readEdition_43 : decode cX7_readEdition 43 = .ok (.if_icmp .eq 12, 3) := by decide +kernel
theorem dX7_readEdition_46 : decode cX7_readEdition 46 = .ok (.aload_n 0, 1) := by decide +kernel
theorem dX7_readEdition_47 : decode cX7_readEdition 47 = .ok (.bipush 59, 2) := by decide +kernel
theorem dX7_readEdition_49 : decode cX7_readEdition 49 = .ok (.invokevirtual 49, 3) := by decide +kernel
theorem dX7_readEdition_52 : decode cX7_readEdition 52 = .ok (.ifCond .ne 5, 3) := by decide +kernel
theorem dX7_readEdition_55 : decode cX7_readEdition 55 = .ok (.iconst 0, 1) := by decide +kernel
theorem dX7_readEdition_56 : decode cX7_readEdition 56 = .ok (.ireturn, 1) := by decide +kernel
theorem dX7_readEdition_57 : decode cX7_readEdition 57 = .ok (.iinc 2 1, 3) := by decide +kernel
theorem dX7_readEdition_60 : decode cX7_readEdition 60 = .ok (.goto (-49), 3) := by decide +kernel
theorem dX7_readEdition_63 : decode cX7_readEdition 63 = .ok (.iconst 0, 1) := by decide +kernel
theorem dX7_readEdition_64 : decode cX7_readEdition 64 = .ok (.ireturn, 1) := by decide +kernel
theorem dX7_readLesson_0 : decode cX7_readLesson 0 = .ok (.aload_n 0, 1) := by decide +kernel
theorem dX7_readLesson_1 : decode cX7_readLesson 1 = .ok (.invokevirtual 22, 3) := by decide +kernel
theorem dX7_readLesson_4 : decode cX7_readLesson 4 = .ok (.bipush 97, 2) := by decide +kernel
theorem dX7_readLesson_6 : decode cX7_readLesson 6 = .ok (.isub, 1) := by decide +kernel
theorem dX7_readLesson_7 : decode cX7_readLesson 7 = .ok (.istore_n 2, 1) := by decide +kernel
theorem dX7_readLesson_8 : decode cX7_readLesson 8 = .ok (.iload_n 2, 1) := by decide +kernel
theorem dX7_readLesson_9 : decode cX7_readLesson 9 = .ok (.bipush 8, 2) := by decide +kernel
theorem dX7_readLesson_11 : decode cX7_readLesson 11 = .ok (.invokestatic 52, 3) := by decide +kernel
theorem dX7_readLesson_14 : decode cX7_readLesson 14 = .ok (.ifCond .eq 11, 3) := by decide +kernel
theorem dX7_readLesson_17 : decode cX7_readLesson 17 = .ok (.aload_n 1, 1) := by decide +kernel
theorem dX7_readLesson_18 : decode cX7_readLesson 18 = .ok (.iload_n 2, 1) := by decide +kernel
theorem dX7_readLesson_19 : decode cX7_readLesson 19 = .ok (.invokevirtual 56, 3) := by decide +kernel
theorem dX7_readLesson_22 : decode cX7_readLesson 22 = .ok (.ifCond .eq 5, 3) := by decide +kernel
theorem dX7_readLesson_25 : decode cX7_readLesson 25 = .ok (.iconst 0, 1) := by decide +kernel
theorem dX7_readLesson_26 : decode cX7_readLesson 26 = .ok (.ireturn, 1) := by decide +kernel
theorem dX7_readLesson_27 : decode cX7_readLesson 27 = .ok (.aload_n 0, 1) := by decide +kernel
theorem dX7_readLesson_28 : decode cX7_readLesson 28 = .ok (.dup, 1) := by decide +kernel
theorem dX7_readLesson_29 : decode cX7_readLesson 29 = .ok (.getfield 19, 3) := by decide +kernel
theorem dX7_readLesson_32 : decode cX7_readLesson 32 = .ok (.iconst 1, 1) := by decide +kernel
theorem dX7_readLesson_33 : decode cX7_readLesson 33 = .ok (.iadd, 1) := by decide +kernel
theorem dX7_readLesson_34 : decode cX7_readLesson 34 = .ok (.putfield 19, 3) := by decide +kernel
theorem dX7_readLesson_37 : decode cX7_readLesson 37 = .ok (.aload_n 0, 1) := by decide +kernel
theorem dX7_readLesson_38 : decode cX7_readLesson 38 = .ok (.bipush 61, 2) := by decide +kernel
theorem dX7_readLesson_40 : decode cX7_readLesson 40 = .ok (.invokevirtual 49, 3) := by decide +kernel
theorem dX7_readLesson_43 : decode cX7_readLesson 43 = .ok (.ifCond .ne 5, 3) := by decide +kernel
theorem dX7_readLesson_46 : decode cX7_readLesson 46 = .ok (.iconst 0, 1) := by decide +kernel
theorem dX7_readLesson_47 : decode cX7_readLesson 47 = .ok (.ireturn, 1) := by decide +kernel
theorem dX7_readLesson_48 : decode cX7_readLesson 48 = .ok (.aload_n 0, 1) := by decide +kernel
theorem dX7_readLesson_49 : decode cX7_readLesson 49 = .ok (.bipush 39, 2) := by decide +kernel
theorem dX7_readLesson_51 : decode cX7_readLesson 51 = .ok (.invokevirtual 59, 3) := by decide +kernel
theorem dX7_readLesson_54 : decode cX7_readLesson 54 = .ok (.istore_n 3, 1) := by decide +kernel
theorem dX7_readLesson_55 : decode cX7_readLesson 55 = .ok (.iload_n 3, 1) := by decide +kernel
theorem dX7_readLesson_56 : decode cX7_readLesson 56 = .ok (.ifCond .lt 12, 3) := by decide +kernel
theorem dX7_readLesson_59 : decode cX7_readLesson 59 = .ok (.aload_n 0, 1) := by decide +kernel
theorem dX7_readLesson_60 : decode cX7_readLesson 60 = .ok (.bipush 47, 2) := by decide +kernel
theorem dX7_readLesson_62 : decode cX7_readLesson 62 = .ok (.invokevirtual 49, 3) := by decide +kernel
theorem dX7_readLesson_65 : decode cX7_readLesson 65 = .ok (.ifCond .ne 5, 3) := by decide +kernel
theorem dX7_readLesson_68 : decode cX7_readLesson 68 = .ok (.iconst 0, 1) := by decide +kernel
theorem dX7_readLesson_69 : decode cX7_readLesson 69 = .ok (.ireturn, 1) := by decide +kernel
theorem dX7_readLesson_70 : decode cX7_readLesson 70 = .ok (.aload_n 0, 1) := by decide +kernel
theorem dX7_readLesson_71 : decode cX7_readLesson 71 = .ok (.bipush 100, 2) := by decide +kernel
theorem dX7_readLesson_73 : decode cX7_readLesson 73 = .ok (.invokevirtual 59, 3) := by decide +kernel
theorem dX7_readLesson_76 : decode cX7_readLesson 76 = .ok (.istore 4, 2) := by decide +kernel
theorem dX7_readLesson_78 : decode cX7_readLesson 78 = .ok (.iload 4, 2) := by decide +kernel
theorem dX7_readLesson_80 : decode cX7_readLesson 80 = .ok (.ifCond .ge 5, 3) := by decide +kernel
theorem dX7_readLesson_83 : decode cX7_readLesson 83 = .ok (.iconst 0, 1) := by decide +kernel
theorem dX7_readLesson_84 : decode cX7_readLesson 84 = .ok (.ireturn, 1) := by decide +kernel
theorem dX7_readLesson_85 : decode cX7_readLesson 85 = .ok (.aload_n 1, 1) := by decide +kernel
theorem dX7_readLesson_86 : decode cX7_readLesson 86 = .ok (.iload_n 2, 1) := by decide +kernel
theorem dX7_readLesson_87 : decode cX7_readLesson 87 = .ok (.iload_n 3, 1) := by decide +kernel
theorem dX7_readLesson_88 : decode cX7_readLesson 88 = .ok (.iload 4, 2) := by decide +kernel
theorem dX7_readLesson_90 : decode cX7_readLesson 90 = .ok (.invokevirtual 63, 3) := by decide +kernel
theorem dX7_readLesson_93 : decode cX7_readLesson 93 = .ok (.aload_n 0, 1) := by decide +kernel
theorem dX7_readLesson_94 : decode cX7_readLesson 94 = .ok (.bipush 58, 2) := by decide +kernel
theorem dX7_readLesson_96 : decode cX7_readLesson 96 = .ok (.invokevirtual 49, 3) := by decide +kernel
theorem dX7_readLesson_99 : decode cX7_readLesson 99 = .ok (.ifCond .eq 13, 3) := by decide +kernel
theorem dX7_readLesson_102 : decode cX7_readLesson 102 = .ok (.aload_n 0, 1) := by decide +kernel
theorem dX7_readLesson_103 : decode cX7_readLesson 103 = .ok (.aload_n 1, 1) := by decide +kernel
theorem dX7_readLesson_104 : decode cX7_readLesson 104 = .ok (.iload_n 2, 1) := by decide +kernel
theorem dX7_readLesson_105 : decode cX7_readLesson 105 = .ok (.iconst 0, 1) := by decide +kernel
theorem dX7_readLesson_106 : decode cX7_readLesson 106 = .ok (.invokevirtual 67, 3) := by decide +kernel
theorem dX7_readLesson_109 : decode cX7_readLesson 109 = .ok (.ifCond .eq 7, 3) := by decide +kernel
theorem dX7_readLesson_112 : decode cX7_readLesson 112 = .ok (.iconst 1, 1) := by decide +kernel
theorem dX7_readLesson_113 : decode cX7_readLesson 113 = .ok (.goto 4, 3) := by decide +kernel
theorem dX7_readLesson_116 : decode cX7_readLesson 116 = .ok (.iconst 0, 1) := by decide +kernel
theorem dX7_readLesson_117 : decode cX7_readLesson 117 = .ok (.ireturn, 1) := by decide +kernel
theorem dX7_readCases_0 : decode cX7_readCases 0 = .ok (.iconst 0, 1) := by decide +kernel
theorem dX7_readCases_1 : decode cX7_readCases 1 = .ok (.istore 4, 2) := by decide +kernel
theorem dX7_readCases_3 : decode cX7_readCases 3 = .ok (.iload 4, 2) := by decide +kernel
theorem dX7_readCases_5 : decode cX7_readCases 5 = .ok (.bipush 120, 2) := by decide +kernel
theorem dX7_readCases_7 : decode cX7_readCases 7 = .ok (.if_icmp .ge 88, 3) := by decide +kernel
theorem dX7_readCases_10 : decode cX7_readCases 10 = .ok (.aload_n 0, 1) := by decide +kernel
theorem dX7_readCases_11 : decode cX7_readCases 11 = .ok (.aload_n 1, 1) := by decide +kernel
theorem dX7_readCases_12 : decode cX7_readCases 12 = .ok (.iload_n 2, 1) := by decide +kernel
theorem dX7_readCases_13 : decode cX7_readCases 13 = .ok (.iload_n 3, 1) := by decide +kernel
theorem dX7_readCases_14 : decode cX7_readCases 14 = .ok (.invokevirtual 71, 3) := by decide +kernel
theorem dX7_readCases_17 : decode cX7_readCases 17 = .ok (.ifCond .ne 5, 3) := by decide +kernel
theorem dX7_readCases_20 : decode cX7_readCases 20 = .ok (.iconst 0, 1) := by decide +kernel
theorem dX7_readCases_21 : decode cX7_readCases 21 = .ok (.ireturn, 1) := by decide +kernel
theorem dX7_readCases_22 : decode cX7_readCases 22 = .ok (.iconst 0, 1) := by decide +kernel
theorem dX7_readCases_23 : decode cX7_readCases 23 = .ok (.istore 5, 2) := by decide +kernel
theorem dX7_readCases_25 : decode cX7_readCases 25 = .ok (.iload 5, 2) := by decide +kernel
theorem dX7_readCases_27 : decode cX7_readCases 27 = .ok (.bipush 120, 2) := by decide +kernel
theorem dX7_readCases_29 : decode cX7_readCases 29 = .ok (.if_icmp .ge 37, 3) := by decide +kernel
theorem dX7_readCases_32 : decode cX7_readCases 32 = .ok (.aload_n 0, 1) := by decide +kernel
theorem dX7_readCases_33 : decode cX7_readCases 33 = .ok (.bipush 38, 2) := by decide +kernel
theorem dX7_readCases_35 : decode cX7_readCases 35 = .ok (.invokevirtual 49, 3) := by decide +kernel
theorem dX7_readCases_38 : decode cX7_readCases 38 = .ok (.ifCond .eq 28, 3) := by decide +kernel
theorem dX7_readCases_41 : decode cX7_readCases 41 = .ok (.aload_n 0, 1) := by decide +kernel
theorem dX7_readCases_42 : decode cX7_readCases 42 = .ok (.aload_n 1, 1) := by decide +kernel
theorem dX7_readCases_43 : decode cX7_readCases 43 = .ok (.iload_n 2, 1) := by decide +kernel
theorem dX7_readCases_44 : decode cX7_readCases 44 = .ok (.iload_n 3, 1) := by decide +kernel
theorem dX7_readCases_45 : decode cX7_readCases 45 = .ok (.invokevirtual 71, 3) := by decide +kernel
theorem dX7_readCases_48 : decode cX7_readCases 48 = .ok (.ifCond .ne 5, 3) := by decide +kernel
theorem dX7_readCases_51 : decode cX7_readCases 51 = .ok (.iconst 0, 1) := by decide +kernel
theorem dX7_readCases_52 : decode cX7_readCases 52 = .ok (.ireturn, 1) := by decide +kernel
theorem dX7_readCases_53 : decode cX7_readCases 53 = .ok (.aload_n 1, 1) := by decide +kernel
theorem dX7_readCases_54 : decode cX7_readCases 54 = .ok (.iload_n 2, 1) := by decide +kernel
theorem dX7_readCases_55 : decode cX7_readCases 55 = .ok (.bipush (-2), 2) := by decide +kernel
theorem dX7_readCases_57 : decode cX7_readCases 57 = .ok (.invokevirtual 74, 3) := by decide +kernel
theorem dX7_readCases_60 : decode cX7_readCases 60 = .ok (.iinc 5 1, 3) := by decide +kernel
theorem dX7_readCases_63 : decode cX7_readCases 63 = .ok (.goto (-38), 3) := by decide +kernel
theorem dX7_readCases_66 : decode cX7_readCases 66 = .ok (.iload 4, 2) := by decide +kernel
theorem dX7_readCases_68 : decode cX7_readCases 68 = .ok (.ifCond .le 10, 3) := by decide +kernel
theorem dX7_readCases_71 : decode cX7_readCases 71 = .ok (.aload_n 1, 1) := by decide +kernel
theorem dX7_readCases_72 : decode cX7_readCases 72 = .ok (.iload_n 2, 1) := by decide +kernel
theorem dX7_readCases_73 : decode cX7_readCases 73 = .ok (.bipush (-3), 2) := by decide +kernel
theorem dX7_readCases_75 : decode cX7_readCases 75 = .ok (.invokevirtual 74, 3) := by decide +kernel
theorem dX7_readCases_78 : decode cX7_readCases 78 = .ok (.aload_n 0, 1) := by decide +kernel
theorem dX7_readCases_79 : decode cX7_readCases 79 = .ok (.bipush 124, 2) := by decide +kernel
theorem dX7_readCases_81 : decode cX7_readCases 81 = .ok (.invokevirtual 49, 3) := by decide +kernel
theorem dX7_readCases_84 : decode cX7_readCases 84 = .ok (.ifCond .ne 5, 3) := by decide +kernel
theorem dX7_readCases_87 : decode cX7_readCases 87 = .ok (.iconst 1, 1) := by decide +kernel
theorem dX7_readCases_88 : decode cX7_readCases 88 = .ok (.ireturn, 1) := by decide +kernel
theorem dX7_readCases_89 : decode cX7_readCases 89 = .ok (.iinc 4 1, 3) := by decide +kernel
theorem dX7_readCases_92 : decode cX7_readCases 92 = .ok (.goto (-89), 3) := by decide +kernel
theorem dX7_readCases_95 : decode cX7_readCases 95 = .ok (.iconst 0, 1) := by decide +kernel
theorem dX7_readCases_96 : decode cX7_readCases 96 = .ok (.ireturn, 1) := by decide +kernel
theorem dX7_readClaim_0 : decode cX7_readClaim 0 = .ok (.aload_n 0, 1) := by decide +kernel
theorem dX7_readClaim_1 : decode cX7_readClaim 1 = .ok (.bipush 33, 2) := by decide +kernel
theorem dX7_readClaim_3 : decode cX7_readClaim 3 = .ok (.invokevirtual 49, 3) := by decide +kernel
theorem dX7_readClaim_6 : decode cX7_readClaim 6 = .ok (.istore 4, 2) := by decide +kernel
theorem dX7_readClaim_8 : decode cX7_readClaim 8 = .ok (.iload_n 3, 1) := by decide +kernel
theorem dX7_readClaim_9 : decode cX7_readClaim 9 = .ok (.bipush 6, 2) := by decide +kernel
theorem dX7_readClaim_11 : decode cX7_readClaim 11 = .ok (.if_icmp .ge 35, 3) := by decide +kernel
theorem dX7_readClaim_14 : decode cX7_readClaim 14 = .ok (.aload_n 0, 1) := by decide +kernel
theorem dX7_readClaim_15 : decode cX7_readClaim 15 = .ok (.bipush 40, 2) := by decide +kernel
theorem dX7_readClaim_17 : decode cX7_readClaim 17 = .ok (.invokevirtual 49, 3) := by decide +kernel
theorem dX7_readClaim_20 : decode cX7_readClaim 20 = .ok (.ifCond .eq 26, 3) := by decide +kernel
theorem dX7_readClaim_23 : decode cX7_readClaim 23 = .ok (.aload_n 0, 1) := by decide +kernel
theorem dX7_readClaim_24 : decode cX7_readClaim 24 = .ok (.aload_n 1, 1) := by decide +kernel
theorem dX7_readClaim_25 : decode cX7_readClaim 25 = .ok (.iload_n 2, 1) := by decide +kernel
theorem dX7_readClaim_26 : decode cX7_readClaim 26 = .ok (.iload_n 3, 1) := by decide +kernel
theorem dX7_readClaim_27 : decode cX7_readClaim 27 = .ok (.iconst 1, 1) := by decide +kernel
theorem dX7_readClaim_28 : decode cX7_readClaim 28 = .ok (.iadd, 1) := by decide +kernel
theorem dX7_readClaim_29 : decode cX7_readClaim 29 = .ok (.invokevirtual 67, 3) := by decide +kernel
theorem dX7_readClaim_32 : decode cX7_readClaim 32 = .ok (.ifCond .eq 12, 3) := by decide +kernel
theorem dX7_readClaim_35 : decode cX7_readClaim 35 = .ok (.aload_n 0, 1) := by decide +kernel
theorem dX7_readClaim_36 : decode cX7_readClaim 36 = .ok (.bipush 41, 2) := by decide +kernel
theorem dX7_readClaim_38 : decode cX7_readClaim 38 = .ok (.invokevirtual 49, 3) := by decide +kernel
theorem dX7_readClaim_41 : decode cX7_readClaim 41 = .ok (.ifCond .ne 16, 3) := by decide +kernel
theorem dX7_readClaim_44 : decode cX7_readClaim 44 = .ok (.iconst 0, 1) := by decide +kernel
theorem dX7_readClaim_45 : decode cX7_readClaim 45 = .ok (.ireturn, 1) := by decide +kernel
theorem dX7_readClaim_46 : decode cX7_readClaim 46 = .ok (.aload_n 0, 1) := by decide +kernel
theorem dX7_readClaim_47 : decode cX7_readClaim 47 = .ok (.aload_n 1, 1) := by decide +kernel
theorem dX7_readClaim_48 : decode cX7_readClaim 48 = .ok (.iload_n 2, 1) := by decide +kernel
theorem dX7_readClaim_49 : decode cX7_readClaim 49 = .ok (.invokevirtual 78, 3) := by decide +kernel
theorem dX7_readClaim_52 : decode cX7_readClaim 52 = .ok (.ifCond .ne 5, 3) := by decide +kernel
theorem dX7_readClaim_55 : decode cX7_readClaim 55 = .ok (.iconst 0, 1) := by decide +kernel
theorem dX7_readClaim_56 : decode cX7_readClaim 56 = .ok (.ireturn, 1) := by decide +kernel
theorem dX7_readClaim_57 : decode cX7_readClaim 57 = .ok (.iload 4, 2) := by decide +kernel
theorem dX7_readClaim_59 : decode cX7_readClaim 59 = .ok (.ifCond .eq 9, 3) := by decide +kernel
theorem dX7_readClaim_62 : decode cX7_readClaim 62 = .ok (.aload_n 1, 1) := by decide +kernel
theorem dX7_readClaim_63 : decode cX7_readClaim 63 = .ok (.iload_n 2, 1) := by decide +kernel
theorem dX7_readClaim_64 : decode cX7_readClaim 64 = .ok (.iconst (-1), 1) := by decide +kernel
theorem dX7_readClaim_65 : decode cX7_readClaim 65 = .ok (.invokevirtual 74, 3) := by decide +kernel
theorem dX7_readClaim_68 : decode cX7_readClaim 68 = .ok (.iconst 1, 1) := by decide +kernel
theorem dX7_readClaim_69 : decode cX7_readClaim 69 = .ok (.ireturn, 1) := by decide +kernel
theorem dX7_readLeaning_0 : decode cX7_readLeaning 0 = .ok (.aload_n 0, 1) := by decide +kernel
theorem dX7_readLeaning_1 : decode cX7_readLeaning 1 = .ok (.invokevirtual 22, 3) := by decide +kernel
theorem dX7_readLeaning_4 : decode cX7_readLeaning 4 = .ok (.bipush 97, 2) := by decide +kernel
theorem dX7_readLeaning_6 : decode cX7_readLeaning 6 = .ok (.isub, 1) := by decide +kernel
theorem dX7_readLeaning_7 : decode cX7_readLeaning 7 = .ok (.istore_n 3, 1) := by decide +kernel
theorem dX7_readLeaning_8 : decode cX7_readLeaning 8 = .ok (.iload_n 3, 1) := by decide +kernel
theorem dX7_readLeaning_9 : decode cX7_readLeaning 9 = .ok (.bipush 8, 2) := by decide +kernel
theorem dX7_readLeaning_11 : decode cX7_readLeaning 11 = .ok (.invokestatic 52, 3) := by decide +kernel
theorem dX7_readLeaning_14 : decode cX7_readLeaning 14 = .ok (.ifCond .ne 5, 3) := by decide +kernel
theorem dX7_readLeaning_17 : decode cX7_readLeaning 17 = .ok (.iconst 0, 1) := by decide +kernel
theorem dX7_readLeaning_18 : decode cX7_readLeaning 18 = .ok (.ireturn, 1) := by decide +kernel
theorem dX7_readLeaning_19 : decode cX7_readLeaning 19 = .ok (.aload_n 0, 1) := by decide +kernel
theorem dX7_readLeaning_20 : decode cX7_readLeaning 20 = .ok (.dup, 1) := by decide +kernel
theorem dX7_readLeaning_21 : decode cX7_readLeaning 21 = .ok (.getfield 19, 3) := by decide +kernel
theorem dX7_readLeaning_24 : decode cX7_readLeaning 24 = .ok (.iconst 1, 1) := by decide +kernel
theorem dX7_readLeaning_25 : decode cX7_readLeaning 25 = .ok (.iadd, 1) := by decide +kernel
theorem dX7_readLeaning_26 : decode cX7_readLeaning 26 = .ok (.putfield 19, 3) := by decide +kernel
theorem dX7_readLeaning_29 : decode cX7_readLeaning 29 = .ok (.aload_n 0, 1) := by decide +kernel
theorem dX7_readLeaning_30 : decode cX7_readLeaning 30 = .ok (.bipush 62, 2) := by decide +kernel
theorem dX7_readLeaning_32 : decode cX7_readLeaning 32 = .ok (.invokevirtual 49, 3) := by decide +kernel
theorem dX7_readLeaning_35 : decode cX7_readLeaning 35 = .ok (.ifCond .ne 11, 3) := by decide +kernel
theorem dX7_readLeaning_38 : decode cX7_readLeaning 38 = .ok (.aload_n 1, 1) := by decide +kernel
theorem dX7_readLeaning_39 : decode cX7_readLeaning 39 = .ok (.iload_n 2, 1) := by decide +kernel
theorem dX7_readLeaning_40 : decode cX7_readLeaning 40 = .ok (.iload_n 3, 1) := by decide +kernel
theorem dX7_readLeaning_41 : decode cX7_readLeaning 41 = .ok (.invokevirtual 82, 3) := by decide +kernel
theorem dX7_readLeaning_44 : decode cX7_readLeaning 44 = .ok (.iconst 1, 1) := by decide +kernel
theorem dX7_readLeaning_45 : decode cX7_readLeaning 45 = .ok (.ireturn, 1) := by decide +kernel
theorem dX7_readLeaning_46 : decode cX7_readLeaning 46 = .ok (.aload_n 0, 1) := by decide +kernel
theorem dX7_readLeaning_47 : decode cX7_readLeaning 47 = .ok (.bipush 100, 2) := by decide +kernel
theorem dX7_readLeaning_49 : decode cX7_readLeaning 49 = .ok (.invokevirtual 59, 3) := by decide +kernel
theorem dX7_readLeaning_52 : decode cX7_readLeaning 52 = .ok (.istore 4, 2) := by decide +kernel
theorem dX7_readLeaning_54 : decode cX7_readLeaning 54 = .ok (.iload 4, 2) := by decide +kernel
theorem dX7_readLeaning_56 : decode cX7_readLeaning 56 = .ok (.ifCond .ge 5, 3) := by decide +kernel
theorem dX7_readLeaning_59 : decode cX7_readLeaning 59 = .ok (.iconst 0, 1) := by decide +kernel
theorem dX7_readLeaning_60 : decode cX7_readLeaning 60 = .ok (.ireturn, 1) := by decide +kernel
theorem dX7_readLeaning_61 : decode cX7_readLeaning 61 = .ok (.aload_n 1, 1) := by decide +kernel
theorem dX7_readLeaning_62 : decode cX7_readLeaning 62 = .ok (.iload_n 2, 1) := by decide +kernel
theorem dX7_readLeaning_63 : decode cX7_readLeaning 63 = .ok (.iload_n 3, 1) := by decide +kernel
theorem dX7_readLeaning_64 : decode cX7_readLeaning 64 = .ok (.iload 4, 2) := by decide +kernel
theorem dX7_readLeaning_66 : decode cX7_readLeaning 66 = .ok (.invokevirtual 85, 3) := by decide +kernel
theorem dX7_readLeaning_69 : decode cX7_readLeaning 69 = .ok (.iconst 1, 1) := by decide +kernel
theorem dX7_readLeaning_70 : decode cX7_readLeaning 70 = .ok (.ireturn, 1) := by decide +kernel
theorem dX7_readFees_0 : decode cX7_readFees 0 = .ok (.aload_n 1, 1) := by decide +kernel
theorem dX7_readFees_1 : decode cX7_readFees 1 = .ok (.iconst 0, 1) := by decide +kernel
theorem dX7_readFees_2 : decode cX7_readFees 2 = .ok (.putfield 88, 3) := by decide +kernel
theorem dX7_readFees_5 : decode cX7_readFees 5 = .ok (.aload_n 0, 1) := by decide +kernel
theorem dX7_readFees_6 : decode cX7_readFees 6 = .ok (.iconst 0, 1) := by decide +kernel
theorem dX7_readFees_7 : decode cX7_readFees 7 = .ok (.putfield 19, 3) := by decide +kernel
theorem dX7_readFees_10 : decode cX7_readFees 10 = .ok (.iconst 1, 1) := by decide +kernel
theorem dX7_readFees_11 : decode cX7_readFees 11 = .ok (.istore_n 2, 1) := by decide +kernel
theorem dX7_readFees_12 : decode cX7_readFees 12 = .ok (.iload_n 2, 1) := by decide +kernel
theorem dX7_readFees_13 : decode cX7_readFees 13 = .ok (.bipush 6, 2) := by decide +kernel
theorem dX7_readFees_15 : decode cX7_readFees 15 = .ok (.if_icmp .gt 46, 3) := by decide +kernel
theorem dX7_readFees_18 : decode cX7_readFees 18 = .ok (.aload_n 0, 1) := by decide +kernel
theorem dX7_readFees_19 : decode cX7_readFees 19 = .ok (.aload_n 1, 1) := by decide +kernel
