theorem dX11_wait_50 : decode cX11_wait 50 = .ok (.aload 4, 2) := by decide +kernel
theorem dX11_wait_52 : decode cX11_wait 52 = .ok (.getfield 323, 3) := by decide +kernel
theorem dX11_wait_55 : decode cX11_wait 55 = .ok (.invokestatic 326, 3) := by decide +kernel
theorem dX11_wait_58 : decode cX11_wait 58 = .ok (.iadd, 1) := by decide +kernel
theorem dX11_wait_59 : decode cX11_wait 59 = .ok (.ireturn, 1) := by decide +kernel
theorem dX11_took_0 : decode cX11_took 0 = .ok (.aload_n 0, 1) := by decide +kernel
theorem dX11_took_1 : decode cX11_took 1 = .ok (.iload_n 1, 1) := by decide +kernel
theorem dX11_took_2 : decode cX11_took 2 = .ok (.invokevirtual 239, 3) := by decide +kernel
theorem dX11_took_5 : decode cX11_took 5 = .ok (.astore_n 2, 1) := by decide +kernel
theorem dX11_took_6 : decode cX11_took 6 = .ok (.aload_n 2, 1) := by decide +kernel
theorem dX11_took_7 : decode cX11_took 7 = .ok (.ifnonnull 5, 3) := by decide +kernel
theorem dX11_took_10 : decode cX11_took 10 = .ok (.iconst (-1), 1) := by decide +kernel
theorem dX11_took_11 : decode cX11_took 11 = .ok (.ireturn, 1) := by decide +kernel
theorem dX11_took_12 : decode cX11_took 12 = .ok (.aload_n 2, 1) := by decide +kernel
theorem dX11_took_13 : decode cX11_took 13 = .ok (.getfield 243, 3) := by decide +kernel
theorem dX11_took_16 : decode cX11_took 16 = .ok (.iconst 2, 1) := by decide +kernel
theorem dX11_took_17 : decode cX11_took 17 = .ok (.if_icmp .ne 16, 3) := by decide +kernel
theorem dX11_took_20 : decode cX11_took 20 = .ok (.aload_n 0, 1) := by decide +kernel
theorem dX11_took_21 : decode cX11_took 21 = .ok (.aload_n 2, 1) := by decide +kernel
theorem dX11_took_22 : decode cX11_took 22 = .ok (.invokevirtual 313, 3) := by decide +kernel
theorem dX11_took_25 : decode cX11_took 25 = .ok (.aload_n 2, 1) := by decide +kernel
theorem dX11_took_26 : decode cX11_took 26 = .ok (.getfield 329, 3) := by decide +kernel
theorem dX11_took_29 : decode cX11_took 29 = .ok (.isub, 1) := by decide +kernel
theorem dX11_took_30 : decode cX11_took 30 = .ok (.goto 5, 3) := by decide +kernel
theorem dX11_took_33 : decode cX11_took 33 = .ok (.bipush (-12), 2) := by decide +kernel
theorem dX11_took_35 : decode cX11_took 35 = .ok (.ireturn, 1) := by decide +kernel
theorem dX11_share_0 : decode cX11_share 0 = .ok (.iload_n 1, 1) := by decide +kernel
theorem dX11_share_1 : decode cX11_share 1 = .ok (.invokestatic 126, 3) := by decide +kernel
theorem dX11_share_4 : decode cX11_share 4 = .ok (.ifCond .eq 11, 3) := by decide +kernel
theorem dX11_share_7 : decode cX11_share 7 = .ok (.iload_n 2, 1) := by decide +kernel
theorem dX11_share_8 : decode cX11_share 8 = .ok (.iconst 2, 1) := by decide +kernel
theorem dX11_share_9 : decode cX11_share 9 = .ok (.invokestatic 122, 3) := by decide +kernel
theorem dX11_share_12 : decode cX11_share 12 = .ok (.ifCond .ne 5, 3) := by decide +kernel
theorem dX11_share_15 : decode cX11_share 15 = .ok (.iconst (-1), 1) := by decide +kernel
theorem dX11_share_16 : decode cX11_share 16 = .ok (.ireturn, 1) := by decide +kernel
theorem dX11_share_17 : decode cX11_share 17 = .ok (.aload_n 0, 1) := by decide +kernel
theorem dX11_share_18 : decode cX11_share 18 = .ok (.iload_n 1, 1) := by decide +kernel
theorem dX11_share_19 : decode cX11_share 19 = .ok (.invokevirtual 332, 3) := by decide +kernel
theorem dX11_share_22 : decode cX11_share 22 = .ok (.iload_n 2, 1) := by decide +kernel
theorem dX11_share_23 : decode cX11_share 23 = .ok (.ifCond .ne 13, 3) := by decide +kernel
theorem dX11_share_26 : decode cX11_share 26 = .ok (.aload_n 0, 1) := by decide +kernel
theorem dX11_share_27 : decode cX11_share 27 = .ok (.getfield 99, 3) := by decide +kernel
theorem dX11_share_30 : decode cX11_share 30 = .ok (.getfield 335, 3) := by decide +kernel
theorem dX11_share_33 : decode cX11_share 33 = .ok (.goto 10, 3) := by decide +kernel
theorem dX11_share_36 : decode cX11_share 36 = .ok (.aload_n 0, 1) := by decide +kernel
theorem dX11_share_37 : decode cX11_share 37 = .ok (.getfield 99, 3) := by decide +kernel
theorem dX11_share_40 : decode cX11_share 40 = .ok (.getfield 338, 3) := by decide +kernel
theorem dX11_share_43 : decode cX11_share 43 = .ok (.ireturn, 1) := by decide +kernel
theorem dX11_shareOf_0 : decode cX11_shareOf 0 = .ok (.iload_n 1, 1) := by decide +kernel
theorem dX11_shareOf_1 : decode cX11_shareOf 1 = .ok (.invokestatic 126, 3) := by decide +kernel
theorem dX11_shareOf_4 : decode cX11_shareOf 4 = .ok (.ifCond .eq 11, 3) := by decide +kernel
theorem dX11_shareOf_7 : decode cX11_shareOf 7 = .ok (.aload_n 0, 1) := by decide +kernel
theorem dX11_shareOf_8 : decode cX11_shareOf 8 = .ok (.iload_n 2, 1) := by decide +kernel
theorem dX11_shareOf_9 : decode cX11_shareOf 9 = .ok (.invokevirtual 239, 3) := by decide +kernel
theorem dX11_shareOf_12 : decode cX11_shareOf 12 = .ok (.ifnonnull 5, 3) := by decide +kernel
theorem dX11_shareOf_15 : decode cX11_shareOf 15 = .ok (.iconst (-1), 1) := by decide +kernel
theorem dX11_shareOf_16 : decode cX11_shareOf 16 = .ok (.ireturn, 1) := by decide +kernel
theorem dX11_shareOf_17 : decode cX11_shareOf 17 = .ok (.aload_n 0, 1) := by decide +kernel
theorem dX11_shareOf_18 : decode cX11_shareOf 18 = .ok (.iload_n 1, 1) := by decide +kernel
theorem dX11_shareOf_19 : decode cX11_shareOf 19 = .ok (.invokevirtual 332, 3) := by decide +kernel
theorem dX11_shareOf_22 : decode cX11_shareOf 22 = .ok (.aload_n 0, 1) := by decide +kernel
theorem dX11_shareOf_23 : decode cX11_shareOf 23 = .ok (.getfield 99, 3) := by decide +kernel
theorem dX11_shareOf_26 : decode cX11_shareOf 26 = .ok (.iload_n 2, 1) := by decide +kernel
theorem dX11_shareOf_27 : decode cX11_shareOf 27 = .ok (.invokevirtual 341, 3) := by decide +kernel
theorem dX11_shareOf_30 : decode cX11_shareOf 30 = .ok (.ireturn, 1) := by decide +kernel
theorem dX11_offset_0 : decode cX11_offset 0 = .ok (.aload_n 0, 1) := by decide +kernel
theorem dX11_offset_1 : decode cX11_offset 1 = .ok (.iload_n 1, 1) := by decide +kernel
theorem dX11_offset_2 : decode cX11_offset 2 = .ok (.invokevirtual 252, 3) := by decide +kernel
theorem dX11_offset_5 : decode cX11_offset 5 = .ok (.ifnull 24, 3) := by decide +kernel
theorem dX11_offset_8 : decode cX11_offset 8 = .ok (.aload_n 0, 1) := by decide +kernel
theorem dX11_offset_9 : decode cX11_offset 9 = .ok (.iload_n 2, 1) := by decide +kernel
theorem dX11_offset_10 : decode cX11_offset 10 = .ok (.invokevirtual 252, 3) := by decide +kernel
theorem dX11_offset_13 : decode cX11_offset 13 = .ok (.ifnull 16, 3) := by decide +kernel
theorem dX11_offset_16 : decode cX11_offset 16 = .ok (.iload_n 1, 1) := by decide +kernel
theorem dX11_offset_17 : decode cX11_offset 17 = .ok (.iload_n 2, 1) := by decide +kernel
theorem dX11_offset_18 : decode cX11_offset 18 = .ok (.if_icmp .eq 11, 3) := by decide +kernel
theorem dX11_offset_21 : decode cX11_offset 21 = .ok (.iload_n 3, 1) := by decide +kernel
theorem dX11_offset_22 : decode cX11_offset 22 = .ok (.iconst 4, 1) := by decide +kernel
theorem dX11_offset_23 : decode cX11_offset 23 = .ok (.invokestatic 122, 3) := by decide +kernel
theorem dX11_offset_26 : decode cX11_offset 26 = .ok (.ifCond .ne 7, 3) := by decide +kernel
theorem dX11_offset_29 : decode cX11_offset 29 = .ok (.sipush (-1001), 3) := by decide +kernel
theorem dX11_offset_32 : decode cX11_offset 32 = .ok (.ireturn, 1) := by decide +kernel
theorem dX11_offset_33 : decode cX11_offset 33 = .ok (.iconst 0, 1) := by decide +kernel
theorem dX11_offset_34 : decode cX11_offset 34 = .ok (.istore 4, 2) := by decide +kernel
theorem dX11_offset_36 : decode cX11_offset 36 = .ok (.iconst 0, 1) := by decide +kernel
theorem dX11_offset_37 : decode cX11_offset 37 = .ok (.istore 5, 2) := by decide +kernel
theorem dX11_offset_39 : decode cX11_offset 39 = .ok (.bipush 100, 2) := by decide +kernel
theorem dX11_offset_41 : decode cX11_offset 41 = .ok (.istore 6, 2) := by decide +kernel
theorem dX11_offset_43 : decode cX11_offset 43 = .ok (.bipush (-100), 2) := by decide +kernel
theorem dX11_offset_45 : decode cX11_offset 45 = .ok (.istore 7, 2) := by decide +kernel
theorem dX11_offset_47 : decode cX11_offset 47 = .ok (.iconst 0, 1) := by decide +kernel
theorem dX11_offset_48 : decode cX11_offset 48 = .ok (.istore 8, 2) := by decide +kernel
theorem dX11_offset_50 : decode cX11_offset 50 = .ok (.iload 8, 2) := by decide +kernel
theorem dX11_offset_52 : decode cX11_offset 52 = .ok (.aload_n 0, 1) := by decide +kernel
theorem dX11_offset_53 : decode cX11_offset 53 = .ok (.getfield 67, 3) := by decide +kernel
theorem dX11_offset_56 : decode cX11_offset 56 = .ok (.if_icmp .ge 95, 3) := by decide +kernel
theorem dX11_offset_59 : decode cX11_offset 59 = .ok (.aload_n 0, 1) := by decide +kernel
theorem dX11_offset_60 : decode cX11_offset 60 = .ok (.getfield 63, 3) := by decide +kernel
theorem dX11_offset_63 : decode cX11_offset 63 = .ok (.iload 8, 2) := by decide +kernel
theorem dX11_offset_65 : decode cX11_offset 65 = .ok (.aaload, 1) := by decide +kernel
theorem dX11_offset_66 : decode cX11_offset 66 = .ok (.astore 9, 2) := by decide +kernel
theorem dX11_offset_68 : decode cX11_offset 68 = .ok (.aload 9, 2) := by decide +kernel
theorem dX11_offset_70 : decode cX11_offset 70 = .ok (.iload_n 1, 1) := by decide +kernel
theorem dX11_offset_71 : decode cX11_offset 71 = .ok (.iload_n 2, 1) := by decide +kernel
theorem dX11_offset_72 : decode cX11_offset 72 = .ok (.invokevirtual 344, 3) := by decide +kernel
theorem dX11_offset_75 : decode cX11_offset 75 = .ok (.ifCond .ne 6, 3) := by decide +kernel
theorem dX11_offset_78 : decode cX11_offset 78 = .ok (.goto 67, 3) := by decide +kernel
theorem dX11_offset_81 : decode cX11_offset 81 = .ok (.aload 9, 2) := by decide +kernel
theorem dX11_offset_83 : decode cX11_offset 83 = .ok (.getfield 270, 3) := by decide +kernel
theorem dX11_offset_86 : decode cX11_offset 86 = .ok (.iload_n 1, 1) := by decide +kernel
theorem dX11_offset_87 : decode cX11_offset 87 = .ok (.if_icmp .ne 17, 3) := by decide +kernel
theorem dX11_offset_90 : decode cX11_offset 90 = .ok (.aload 9, 2) := by decide +kernel
theorem dX11_offset_92 : decode cX11_offset 92 = .ok (.getfield 290, 3) := by decide +kernel
theorem dX11_offset_95 : decode cX11_offset 95 = .ok (.aload 9, 2) := by decide +kernel
theorem dX11_offset_97 : decode cX11_offset 97 = .ok (.getfield 302, 3) := by decide +kernel
theorem dX11_offset_100 : decode cX11_offset 100 = .ok (.isub, 1) := by decide +kernel
theorem dX11_offset_101 : decode cX11_offset 101 = .ok (.goto 14, 3) := by decide +kernel
theorem dX11_offset_104 : decode cX11_offset 104 = .ok (.aload 9, 2) := by decide +kernel
theorem dX11_offset_106 : decode cX11_offset 106 = .ok (.getfield 302, 3) := by decide +kernel
theorem dX11_offset_109 : decode cX11_offset 109 = .ok (.aload 9, 2) := by decide +kernel
theorem dX11_offset_111 : decode cX11_offset 111 = .ok (.getfield 290, 3) := by decide +kernel
theorem dX11_offset_114 : decode cX11_offset 114 = .ok (.isub, 1) := by decide +kernel
theorem dX11_offset_115 : decode cX11_offset 115 = .ok (.istore 10, 2) := by decide +kernel
theorem dX11_offset_117 : decode cX11_offset 117 = .ok (.iinc 4 1, 3) := by decide +kernel
theorem dX11_offset_120 : decode cX11_offset 120 = .ok (.iload 5, 2) := by decide +kernel
theorem dX11_offset_122 : decode cX11_offset 122 = .ok (.iload 10, 2) := by decide +kernel
theorem dX11_offset_124 : decode cX11_offset 124 = .ok (.iadd, 1) := by decide +kernel
theorem dX11_offset_125 : decode cX11_offset 125 = .ok (.istore 5, 2) := by decide +kernel
theorem dX11_offset_127 : decode cX11_offset 127 = .ok (.iload 6, 2) := by decide +kernel
theorem dX11_offset_129 : decode cX11_offset 129 = .ok (.iload 10, 2) := by decide +kernel
theorem dX11_offset_131 : decode cX11_offset 131 = .ok (.invokestatic 347, 3) := by decide +kernel
theorem dX11_offset_134 : decode cX11_offset 134 = .ok (.istore 6, 2) := by decide +kernel
theorem dX11_offset_136 : decode cX11_offset 136 = .ok (.iload 7, 2) := by decide +kernel
theorem dX11_offset_138 : decode cX11_offset 138 = .ok (.iload 10, 2) := by decide +kernel
theorem dX11_offset_140 : decode cX11_offset 140 = .ok (.invokestatic 352, 3) := by decide +kernel
theorem dX11_offset_143 : decode cX11_offset 143 = .ok (.istore 7, 2) := by decide +kernel
theorem dX11_offset_145 : decode cX11_offset 145 = .ok (.iinc 8 1, 3) := by decide +kernel
theorem dX11_offset_148 : decode cX11_offset 148 = .ok (.goto (-98), 3) := by decide +kernel
theorem dX11_offset_151 : decode cX11_offset 151 = .ok (.iload_n 3, 1) := by decide +kernel
theorem dX11_offset_152 : decode cX11_offset 152 = .ok (.ifCond .ne 6, 3) := by decide +kernel
theorem dX11_offset_155 : decode cX11_offset 155 = .ok (.iload 4, 2) := by decide +kernel
theorem dX11_offset_157 : decode cX11_offset 157 = .ok (.ireturn, 1) := by decide +kernel
theorem dX11_offset_158 : decode cX11_offset 158 = .ok (.iload 4, 2) := by decide +kernel
theorem dX11_offset_160 : decode cX11_offset 160 = .ok (.ifCond .ne 7, 3) := by decide +kernel
theorem dX11_offset_163 : decode cX11_offset 163 = .ok (.sipush (-1004), 3) := by decide +kernel
theorem dX11_offset_166 : decode cX11_offset 166 = .ok (.ireturn, 1) := by decide +kernel
theorem dX11_offset_167 : decode cX11_offset 167 = .ok (.iload_n 3, 1) := by decide +kernel
theorem dX11_offset_168 : decode cX11_offset 168 = .ok (.iconst 1, 1) := by decide +kernel
theorem dX11_offset_169 : decode cX11_offset 169 = .ok (.if_icmp .ne 9, 3) := by decide +kernel
theorem dX11_offset_172 : decode cX11_offset 172 = .ok (.iload 5, 2) := by decide +kernel
theorem dX11_offset_174 : decode cX11_offset 174 = .ok (.iload 4, 2) := by decide +kernel
theorem dX11_offset_176 : decode cX11_offset 176 = .ok (.idiv, 1) := by decide +kernel
theorem dX11_offset_177 : decode cX11_offset 177 = .ok (.ireturn, 1) := by decide +kernel
theorem dX11_offset_178 : decode cX11_offset 178 = .ok (.iload_n 3, 1) := by decide +kernel
theorem dX11_offset_179 : decode cX11_offset 179 = .ok (.iconst 2, 1) := by decide +kernel
theorem dX11_offset_180 : decode cX11_offset 180 = .ok (.if_icmp .ne 8, 3) := by decide +kernel
theorem dX11_offset_183 : decode cX11_offset 183 = .ok (.iload 6, 2) := by decide +kernel
theorem dX11_offset_185 : decode cX11_offset 185 = .ok (.goto 5, 3) := by decide +kernel
theorem dX11_offset_188 : decode cX11_offset 188 = .ok (.iload 7, 2) := by decide +kernel
theorem dX11_offset_190 : decode cX11_offset 190 = .ok (.ireturn, 1) := by decide +kernel
theorem dX11_key_0 : decode cX11_key 0 = .ok (.iload_n 1, 1) := by decide +kernel
theorem dX11_key_1 : decode cX11_key 1 = .ok (.bipush 40, 2) := by decide +kernel
theorem dX11_key_3 : decode cX11_key 3 = .ok (.invokestatic 122, 3) := by decide +kernel
theorem dX11_key_6 : decode cX11_key 6 = .ok (.ifCond .eq 20, 3) := by decide +kernel
theorem dX11_key_9 : decode cX11_key 9 = .ok (.iload_n 2, 1) := by decide +kernel
theorem dX11_key_10 : decode cX11_key 10 = .ok (.bipush 20, 2) := by decide +kernel
theorem dX11_key_12 : decode cX11_key 12 = .ok (.invokestatic 122, 3) := by decide +kernel
theorem dX11_key_15 : decode cX11_key 15 = .ok (.ifCond .eq 11, 3) := by decide +kernel
theorem dX11_key_18 : decode cX11_key 18 = .ok (.iload_n 3, 1) := by decide +kernel
theorem dX11_key_19 : decode cX11_key 19 = .ok (.iconst 5, 1) := by decide +kernel
theorem dX11_key_20 : decode cX11_key 20 = .ok (.invokestatic 122, 3) := by decide +kernel
theorem dX11_key_23 : decode cX11_key 23 = .ok (.ifCond .ne 5, 3) := by decide +kernel
theorem dX11_key_26 : decode cX11_key 26 = .ok (.iconst (-1), 1) := by decide +kernel
theorem dX11_key_27 : decode cX11_key 27 = .ok (.ireturn, 1) := by decide +kernel
theorem dX11_key_28 : decode cX11_key 28 = .ok (.aload_n 0, 1) := by decide +kernel
theorem dX11_key_29 : decode cX11_key 29 = .ok (.getfield 83, 3) := by decide +kernel
theorem dX11_key_32 : decode cX11_key 32 = .ok (.iload_n 1, 1) := by decide +kernel
theorem dX11_key_33 : decode cX11_key 33 = .ok (.bipush 20, 2) := by decide +kernel
theorem dX11_key_35 : decode cX11_key 35 = .ok (.imul, 1) := by decide +kernel
theorem dX11_key_36 : decode cX11_key 36 = .ok (.iload_n 2, 1) := by decide +kernel
theorem dX11_key_37 : decode cX11_key 37 = .ok (.iadd, 1) := by decide +kernel
theorem dX11_key_38 : decode cX11_key 38 = .ok (.baload, 1) := by decide +kernel
theorem dX11_key_39 : decode cX11_key 39 = .ok (.istore 4, 2) := by decide +kernel
theorem dX11_key_41 : decode cX11_key 41 = .ok (.aload_n 0, 1) := by decide +kernel
theorem dX11_key_42 : decode cX11_key 42 = .ok (.getfield 83, 3) := by decide +kernel
theorem dX11_key_45 : decode cX11_key 45 = .ok (.iload_n 1, 1) := by decide +kernel
theorem dX11_key_46 : decode cX11_key 46 = .ok (.bipush 20, 2) := by decide +kernel
theorem dX11_key_48 : decode cX11_key 48 = .ok (.imul, 1) := by decide +kernel
theorem dX11_key_49 : decode cX11_key 49 = .ok (.iload_n 2, 1) := by decide +kernel
theorem dX11_key_50 : decode cX11_key 50 = .ok (.iadd, 1) := by decide +kernel
theorem dX11_key_51 : decode cX11_key 51 = .ok (.iload_n 3, 1) := by decide +kernel
theorem dX11_key_52 : decode cX11_key 52 = .ok (.i2b, 1) := by decide +kernel
theorem dX11_key_53 : decode cX11_key 53 = .ok (.bastore, 1) := by decide +kernel
theorem dX11_key_54 : decode cX11_key 54 = .ok (.iload 4, 2) := by decide +kernel
theorem dX11_key_56 : decode cX11_key 56 = .ok (.ireturn, 1) := by decide +kernel
theorem dX11_choose_0 : decode cX11_choose 0 = .ok (.aload_n 0, 1) := by decide +kernel
theorem dX11_choose_1 : decode cX11_choose 1 = .ok (.iload_n 1, 1) := by decide +kernel
theorem dX11_choose_2 : decode cX11_choose 2 = .ok (.invokevirtual 239, 3) := by decide +kernel
theorem dX11_choose_5 : decode cX11_choose 5 = .ok (.astore 4, 2) := by decide +kernel
theorem dX11_choose_7 : decode cX11_choose 7 = .ok (.aload 4, 2) := by decide +kernel
theorem dX11_choose_9 : decode cX11_choose 9 = .ok (.ifnull 20, 3) := by decide +kernel
theorem dX11_choose_12 : decode cX11_choose 12 = .ok (.iload_n 2, 1) := by decide +kernel
theorem dX11_choose_13 : decode cX11_choose 13 = .ok (.bipush 20, 2) := by decide +kernel
theorem dX11_choose_15 : decode cX11_choose 15 = .ok (.invokestatic 122, 3) := by decide +kernel
theorem dX11_choose_18 : decode cX11_choose 18 = .ok (.ifCond .eq 11, 3) := by decide +kernel
theorem dX11_choose_21 : decode cX11_choose 21 = .ok (.iload_n 3, 1) := by decide +kernel
theorem dX11_choose_22 : decode cX11_choose 22 = .ok (.iconst 5, 1) := by decide +kernel
theorem dX11_choose_23 : decode cX11_choose 23 = .ok (.invokestatic 122, 3) := by decide +kernel
theorem dX11_choose_26 : decode cX11_choose 26 = .ok (.ifCond .ne 5, 3) := by decide +kernel
theorem dX11_choose_29 : decode cX11_choose 29 = .ok (.iconst (-1), 1) := by decide +kernel
theorem dX11_choose_30 : decode cX11_choose 30 = .ok (.ireturn, 1) := by decide +kernel
theorem dX11_choose_31 : decode cX11_choose 31 = .ok (.aload 4, 2) := by decide +kernel
theorem dX11_choose_33 : decode cX11_choose 33 = .ok (.invokevirtual 256, 3) := by decide +kernel
theorem dX11_choose_36 : decode cX11_choose 36 = .ok (.ifCond .ne 6, 3) := by decide +kernel
theorem dX11_choose_39 : decode cX11_choose 39 = .ok (.bipush (-12), 2) := by decide +kernel
theorem dX11_choose_41 : decode cX11_choose 41 = .ok (.ireturn, 1) := by decide +kernel
theorem dX11_choose_42 : decode cX11_choose 42 = .ok (.aload 4, 2) := by decide +kernel
theorem dX11_choose_44 : decode cX11_choose 44 = .ok (.getfield 355, 3) := by decide +kernel
theorem dX11_choose_47 : decode cX11_choose 47 = .ok (.iload_n 2, 1) := by decide +kernel
theorem dX11_choose_48 : decode cX11_choose 48 = .ok (.baload, 1) := by decide +kernel
theorem dX11_choose_49 : decode cX11_choose 49 = .ok (.istore 5, 2) := by decide +kernel
theorem dX11_choose_51 : decode cX11_choose 51 = .ok (.aload 4, 2) := by decide +kernel
theorem dX11_choose_53 : decode cX11_choose 53 = .ok (.getfield 355, 3) := by decide +kernel
theorem dX11_choose_56 : decode cX11_choose 56 = .ok (.iload_n 2, 1) := by decide +kernel
theorem dX11_choose_57 : decode cX11_choose 57 = .ok (.iload_n 3, 1) := by decide +kernel
theorem dX11_choose_58 : decode cX11_choose 58 = .ok (.i2b, 1) := by decide +kernel
theorem dX11_choose_59 : decode cX11_choose 59 = .ok (.bastore, 1) := by decide +kernel
theorem dX11_choose_60 : decode cX11_choose 60 = .ok (.iload 5, 2) := by decide +kernel
theorem dX11_choose_62 : decode cX11_choose 62 = .ok (.ireturn, 1) := by decide +kernel
theorem dX11_like_0 : decode cX11_like 0 = .ok (.aload_n 0, 1) := by decide +kernel
theorem dX11_like_1 : decode cX11_like 1 = .ok (.iload_n 1, 1) := by decide +kernel
theorem dX11_like_2 : decode cX11_like 2 = .ok (.invokevirtual 239, 3) := by decide +kernel
theorem dX11_like_5 : decode cX11_like 5 = .ok (.astore_n 3, 1) := by decide +kernel
theorem dX11_like_6 : decode cX11_like 6 = .ok (.aload_n 0, 1) := by decide +kernel
theorem dX11_like_7 : decode cX11_like 7 = .ok (.iload_n 2, 1) := by decide +kernel
theorem dX11_like_8 : decode cX11_like 8 = .ok (.invokevirtual 239, 3) := by decide +kernel
theorem dX11_like_11 : decode cX11_like 11 = .ok (.astore 4, 2) := by decide +kernel
theorem dX11_like_13 : decode cX11_like 13 = .ok (.aload_n 3, 1) := by decide +kernel
theorem dX11_like_14 : decode cX11_like 14 = .ok (.ifnull 13, 3) := by decide +kernel
theorem dX11_like_17 : decode cX11_like 17 = .ok (.aload 4, 2) := by decide +kernel
theorem dX11_like_19 : decode cX11_like 19 = .ok (.ifnull 8, 3) := by decide +kernel
theorem dX11_like_22 : decode cX11_like 22 = .ok (.iload_n 1, 1) := by decide +kernel
theorem dX11_like_23 : decode cX11_like 23 = .ok (.iload_n 2, 1) := by decide +kernel
theorem dX11_like_24 : decode cX11_like 24 = .ok (.if_icmp .ne 5, 3) := by decide +kernel
theorem dX11_like_27 : decode cX11_like 27 = .ok (.iconst (-1), 1) := by decide +kernel
theorem dX11_like_28 : decode cX11_like 28 = .ok (.ireturn, 1) := by decide +kernel
theorem dX11_like_29 : decode cX11_like 29 = .ok (.aload_n 3, 1) := by decide +kernel
theorem dX11_like_30 : decode cX11_like 30 = .ok (.invokevirtual 256, 3) := by decide +kernel
theorem dX11_like_33 : decode cX11_like 33 = .ok (.ifCond .eq 11, 3) := by decide +kernel
theorem dX11_like_36 : decode cX11_like 36 = .ok (.aload 4, 2) := by decide +kernel
theorem dX11_like_38 : decode cX11_like 38 = .ok (.invokevirtual 256, 3) := by decide +kernel
theorem dX11_like_41 : decode cX11_like 41 = .ok (.ifCond .ne 6, 3) := by decide +kernel
theorem dX11_like_44 : decode cX11_like 44 = .ok (.bipush (-12), 2) := by decide +kernel
theorem dX11_like_46 : decode cX11_like 46 = .ok (.ireturn, 1) := by decide +kernel
theorem dX11_like_47 : decode cX11_like 47 = .ok (.aload_n 3, 1) := by decide +kernel
theorem dX11_like_48 : decode cX11_like 48 = .ok (.aload 4, 2) := by decide +kernel
theorem dX11_like_50 : decode cX11_like 50 = .ok (.invokestatic 358, 3) := by decide +kernel
theorem dX11_like_53 : decode cX11_like 53 = .ok (.ifCond .eq 13, 3) := by decide +kernel
theorem dX11_like_56 : decode cX11_like 56 = .ok (.aload_n 0, 1) := by decide +kernel
theorem dX11_like_57 : decode cX11_like 57 = .ok (.aload_n 3, 1) := by decide +kernel
theorem dX11_like_58 : decode cX11_like 58 = .ok (.aload 4, 2) := by decide +kernel
theorem dX11_like_60 : decode cX11_like 60 = .ok (.invokevirtual 362, 3) := by decide +kernel
theorem dX11_like_63 : decode cX11_like 63 = .ok (.goto 5, 3) := by decide +kernel
theorem dX11_like_66 : decode cX11_like 66 = .ok (.bipush (-2), 2) := by decide +kernel
theorem dX11_like_68 : decode cX11_like 68 = .ok (.ireturn, 1) := by decide +kernel
theorem dX11_limit_0 : decode cX11_limit 0 = .ok (.iload_n 1, 1) := by decide +kernel
theorem dX11_limit_1 : decode cX11_limit 1 = .ok (.bipush 20, 2) := by decide +kernel
theorem dX11_limit_3 : decode cX11_limit 3 = .ok (.invokestatic 122, 3) := by decide +kernel
theorem dX11_limit_6 : decode cX11_limit 6 = .ok (.ifCond .ne 5, 3) := by decide +kernel
theorem dX11_limit_9 : decode cX11_limit 9 = .ok (.iconst (-1), 1) := by decide +kernel
theorem dX11_limit_10 : decode cX11_limit 10 = .ok (.ireturn, 1) := by decide +kernel
theorem dX11_limit_11 : decode cX11_limit 11 = .ok (.aload_n 0, 1) := by decide +kernel
theorem dX11_limit_12 : decode cX11_limit 12 = .ok (.getfield 87, 3) := by decide +kernel
theorem dX11_limit_15 : decode cX11_limit 15 = .ok (.istore_n 2, 1) := by decide +kernel
theorem dX11_limit_16 : decode cX11_limit 16 = .ok (.aload_n 0, 1) := by decide +kernel
theorem dX11_limit_17 : decode cX11_limit 17 = .ok (.iload_n 1, 1) := by decide +kernel
theorem dX11_limit_18 : decode cX11_limit 18 = .ok (.putfield 87, 3) := by decide +kernel
theorem dX11_limit_21 : decode cX11_limit 21 = .ok (.iload_n 2, 1) := by decide +kernel
theorem dX11_limit_22 : decode cX11_limit 22 = .ok (.ireturn, 1) := by decide +kernel
theorem dX11_doubted_0 : decode cX11_doubted 0 = .ok (.iload_n 1, 1) := by decide +kernel
theorem dX11_doubted_1 : decode cX11_doubted 1 = .ok (.ifCond .ge 5, 3) := by decide +kernel
theorem dX11_doubted_4 : decode cX11_doubted 4 = .ok (.iconst (-1), 1) := by decide +kernel
theorem dX11_doubted_5 : decode cX11_doubted 5 = .ok (.ireturn, 1) := by decide +kernel
theorem dX11_doubted_6 : decode cX11_doubted 6 = .ok (.iconst 0, 1) := by decide +kernel
theorem dX11_doubted_7 : decode cX11_doubted 7 = .ok (.istore_n 2, 1) := by decide +kernel
theorem dX11_doubted_8 : decode cX11_doubted 8 = .ok (.iconst 0, 1) := by decide +kernel
theorem dX11_doubted_9 : decode cX11_doubted 9 = .ok (.istore_n 3, 1) := by decide +kernel
theorem dX11_doubted_10 : decode cX11_doubted 10 = .ok (.iload_n 3, 1) := by decide +kernel
theorem dX11_doubted_11 : decode cX11_doubted 11 = .ok (.aload_n 0, 1) := by decide +kernel
theorem dX11_doubted_12 : decode cX11_doubted 12 = .ok (.getfield 67, 3) := by decide +kernel
theorem dX11_doubted_15 : decode cX11_doubted 15 = .ok (.if_icmp .ge 68, 3) := by decide +kernel
theorem dX11_doubted_18 : decode cX11_doubted 18 = .ok (.iload_n 3, 1) := by decide +kernel
theorem dX11_doubted_19 : decode cX11_doubted 19 = .ok (.iconst 1, 1) := by decide +kernel
theorem dX11_doubted_20 : decode cX11_doubted 20 = .ok (.iadd, 1) := by decide +kernel
theorem dX11_doubted_21 : decode cX11_doubted 21 = .ok (.istore 4, 2) := by decide +kernel
theorem dX11_doubted_23 : decode cX11_doubted 23 = .ok (.iload 4, 2) := by decide +kernel
theorem dX11_doubted_25 : decode cX11_doubted 25 = .ok (.aload_n 0, 1) := by decide +kernel
theorem dX11_doubted_26 : decode cX11_doubted 26 = .ok (.getfield 67, 3) := by decide +kernel
theorem dX11_doubted_29 : decode cX11_doubted 29 = .ok (.if_icmp .ge 48, 3) := by decide +kernel
theorem dX11_doubted_32 : decode cX11_doubted 32 = .ok (.aload_n 0, 1) := by decide +kernel
theorem dX11_doubted_33 : decode cX11_doubted 33 = .ok (.aload_n 0, 1) := by decide +kernel
theorem dX11_doubted_34 : decode cX11_doubted 34 = .ok (.getfield 63, 3) := by decide +kernel
theorem dX11_doubted_37 : decode cX11_doubted 37 = .ok (.iload_n 3, 1) := by decide +kernel
theorem dX11_doubted_38 : decode cX11_doubted 38 = .ok (.aaload, 1) := by decide +kernel
theorem dX11_doubted_39 : decode cX11_doubted 39 = .ok (.aload_n 0, 1) := by decide +kernel
theorem dX11_doubted_40 : decode cX11_doubted 40 = .ok (.getfield 63, 3) := by decide +kernel
theorem dX11_doubted_43 : decode cX11_doubted 43 = .ok (.iload 4, 2) := by decide +kernel
theorem dX11_doubted_45 : decode cX11_doubted 45 = .ok (.aaload, 1) := by decide +kernel
theorem dX11_doubted_46 : decode cX11_doubted 46 = .ok (.invokevirtual 366, 3) := by decide +kernel
theorem dX11_doubted_49 : decode cX11_doubted 49 = .ok (.ifCond .ne 6, 3) := by decide +kernel
theorem dX11_doubted_52 : decode cX11_doubted 52 = .ok (.goto 19, 3) := by decide +kernel
theorem dX11_doubted_55 : decode cX11_doubted 55 = .ok (.iload_n 2, 1) := by decide +kernel
theorem dX11_doubted_56 : decode cX11_doubted 56 = .ok (.iload_n 1, 1) := by decide +kernel
theorem dX11_doubted_57 : decode cX11_doubted 57 = .ok (.if_icmp .ne 11, 3) := by decide +kernel
theorem dX11_doubted_60 : decode cX11_doubted 60 = .ok (.iload_n 3, 1) := by decide +kernel
theorem dX11_doubted_61 : decode cX11_doubted 61 = .ok (.bipush 80, 2) := by decide +kernel
theorem dX11_doubted_63 : decode cX11_doubted 63 = .ok (.imul, 1) := by decide +kernel
theorem dX11_doubted_64 : decode cX11_doubted 64 = .ok (.iload 4, 2) := by decide +kernel
theorem dX11_doubted_66 : decode cX11_doubted 66 = .ok (.iadd, 1) := by decide +kernel
theorem dX11_doubted_67 : decode cX11_doubted 67 = .ok (.ireturn, 1) := by decide +kernel
theorem dX11_doubted_68 : decode cX11_doubted 68 = .ok (.iinc 2 1, 3) := by decide +kernel
theorem dX11_doubted_71 : decode cX11_doubted 71 = .ok (.iinc 4 1, 3) := by decide +kernel
theorem dX11_doubted_74 : decode cX11_doubted 74 = .ok (.goto (-51), 3) := by decide +kernel
theorem dX11_doubted_77 : decode cX11_doubted 77 = .ok (.iinc 3 1, 3) := by decide +kernel
theorem dX11_doubted_80 : decode cX11_doubted 80 = .ok (.goto (-70), 3) := by decide +kernel
theorem dX11_doubted_83 : decode cX11_doubted 83 = .ok (.bipush (-4), 2) := by decide +kernel
theorem dX11_doubted_85 : decode cX11_doubted 85 = .ok (.ireturn, 1) := by decide +kernel
theorem dX11_fees_0 : decode cX11_fees 0 = .ok (.iload_n 1, 1) := by decide +kernel
theorem dX11_fees_1 : decode cX11_fees 1 = .ok (.iconst 4, 1) := by decide +kernel
theorem dX11_fees_2 : decode cX11_fees 2 = .ok (.invokestatic 122, 3) := by decide +kernel
theorem dX11_fees_5 : decode cX11_fees 5 = .ok (.ifCond .ne 5, 3) := by decide +kernel
theorem dX11_fees_8 : decode cX11_fees 8 = .ok (.iconst (-1), 1) := by decide +kernel
theorem dX11_fees_9 : decode cX11_fees 9 = .ok (.ireturn, 1) := by decide +kernel
theorem dX11_fees_10 : decode cX11_fees 10 = .ok (.aload_n 0, 1) := by decide +kernel
theorem dX11_fees_11 : decode cX11_fees 11 = .ok (.getfield 10, 3) := by decide +kernel
theorem dX11_fees_14 : decode cX11_fees 14 = .ok (.aload_n 0, 1) := by decide +kernel
theorem dX11_fees_15 : decode cX11_fees 15 = .ok (.getfield 38, 3) := by decide +kernel
theorem dX11_fees_18 : decode cX11_fees 18 = .ok (.invokevirtual 369, 3) := by decide +kernel
theorem dX11_fees_21 : decode cX11_fees 21 = .ok (.istore_n 2, 1) := by decide +kernel
theorem dX11_fees_22 : decode cX11_fees 22 = .ok (.aload_n 0, 1) := by decide +kernel
theorem dX11_fees_23 : decode cX11_fees 23 = .ok (.getfield 10, 3) := by decide +kernel
theorem dX11_fees_26 : decode cX11_fees 26 = .ok (.iconst 0, 1) := by decide +kernel
theorem dX11_fees_27 : decode cX11_fees 27 = .ok (.putfield 115, 3) := by decide +kernel
theorem dX11_fees_30 : decode cX11_fees 30 = .ok (.iload_n 2, 1) := by decide +kernel
theorem dX11_fees_31 : decode cX11_fees 31 = .ok (.ifCond .ne 14, 3) := by decide +kernel
theorem dX11_fees_34 : decode cX11_fees 34 = .ok (.bipush (-20), 2) := by decide +kernel
theorem dX11_fees_36 : decode cX11_fees 36 = .ok (.aload_n 0, 1) := by decide +kernel
theorem dX11_fees_37 : decode cX11_fees 37 = .ok (.getfield 10, 3) := by decide +kernel
theorem dX11_fees_40 : decode cX11_fees 40 = .ok (.getfield 138, 3) := by decide +kernel
theorem dX11_fees_43 : decode cX11_fees 43 = .ok (.isub, 1) := by decide +kernel
theorem dX11_fees_44 : decode cX11_fees 44 = .ok (.ireturn, 1) := by decide +kernel
theorem dX11_fees_45 : decode cX11_fees 45 = .ok (.aload_n 0, 1) := by decide +kernel
theorem dX11_fees_46 : decode cX11_fees 46 = .ok (.getfield 28, 3) := by decide +kernel
theorem dX11_fees_49 : decode cX11_fees 49 = .ok (.iload_n 1, 1) := by decide +kernel
theorem dX11_fees_50 : decode cX11_fees 50 = .ok (.aaload, 1) := by decide +kernel
theorem dX11_fees_51 : decode cX11_fees 51 = .ok (.astore_n 3, 1) := by decide +kernel
theorem dX11_fees_52 : decode cX11_fees 52 = .ok (.aload_n 0, 1) := by decide +kernel
theorem dX11_fees_53 : decode cX11_fees 53 = .ok (.getfield 28, 3) := by decide +kernel
theorem dX11_fees_56 : decode cX11_fees 56 = .ok (.iload_n 1, 1) := by decide +kernel
theorem dX11_fees_57 : decode cX11_fees 57 = .ok (.aload_n 0, 1) := by decide +kernel
theorem dX11_fees_58 : decode cX11_fees 58 = .ok (.getfield 38, 3) := by decide +kernel
theorem dX11_fees_61 : decode cX11_fees 61 = .ok (.aastore, 1) := by decide +kernel
theorem dX11_fees_62 : decode cX11_fees 62 = .ok (.aload_n 0, 1) := by decide +kernel
theorem dX11_fees_63 : decode cX11_fees 63 = .ok (.aload_n 3, 1) := by decide +kernel
theorem dX11_fees_64 : decode cX11_fees 64 = .ok (.putfield 38, 3) := by decide +kernel
theorem dX11_fees_67 : decode cX11_fees 67 = .ok (.aload_n 0, 1) := by decide +kernel
theorem dX11_fees_68 : decode cX11_fees 68 = .ok (.getfield 28, 3) := by decide +kernel
theorem dX11_fees_71 : decode cX11_fees 71 = .ok (.iload_n 1, 1) := by decide +kernel
theorem dX11_fees_72 : decode cX11_fees 72 = .ok (.aaload, 1) := by decide +kernel
theorem dX11_fees_73 : decode cX11_fees 73 = .ok (.getfield 373, 3) := by decide +kernel
theorem dX11_fees_76 : decode cX11_fees 76 = .ok (.ireturn, 1) := by decide +kernel
theorem dX11_pay_0 : decode cX11_pay 0 = .ok (.aload_n 0, 1) := by decide +kernel
theorem dX11_pay_1 : decode cX11_pay 1 = .ok (.iload_n 1, 1) := by decide +kernel
theorem dX11_pay_2 : decode cX11_pay 2 = .ok (.invokevirtual 175, 3) := by decide +kernel
theorem dX11_pay_5 : decode cX11_pay 5 = .ok (.astore 4, 2) := by decide +kernel
theorem dX11_pay_7 : decode cX11_pay 7 = .ok (.aload 4, 2) := by decide +kernel
theorem dX11_pay_9 : decode cX11_pay 9 = .ok (.ifnull 31, 3) := by decide +kernel
theorem dX11_pay_12 : decode cX11_pay 12 = .ok (.iload_n 2, 1) := by decide +kernel
theorem dX11_pay_13 : decode cX11_pay 13 = .ok (.iconst 1, 1) := by decide +kernel
theorem dX11_pay_14 : decode cX11_pay 14 = .ok (.if_icmp .lt 26, 3) := by decide +kernel
theorem dX11_pay_17 : decode cX11_pay 17 = .ok (.iload_n 2, 1) := by decide +kernel
theorem dX11_pay_18 : decode cX11_pay 18 = .ok (.ldc_w 376, 3) := by decide +kernel
theorem dX11_pay_21 : decode cX11_pay 21 = .ok (.if_icmp .gt 19, 3) := by decide +kernel
theorem dX11_pay_24 : decode cX11_pay 24 = .ok (.iload_n 3, 1) := by decide +kernel
theorem dX11_pay_25 : decode cX11_pay 25 = .ok (.invokestatic 126, 3) := by decide +kernel
theorem dX11_pay_28 : decode cX11_pay 28 = .ok (.ifCond .eq 12, 3) := by decide +kernel
theorem dX11_pay_31 : decode cX11_pay 31 = .ok (.iload_n 3, 1) := by decide +kernel
theorem dX11_pay_32 : decode cX11_pay 32 = .ok (.aload 4, 2) := by decide +kernel
theorem dX11_pay_34 : decode cX11_pay 34 = .ok (.getfield 186, 3) := by decide +kernel
theorem dX11_pay_37 : decode cX11_pay 37 = .ok (.if_icmp .ge 5, 3) := by decide +kernel
theorem dX11_pay_40 : decode cX11_pay 40 = .ok (.iconst (-1), 1) := by decide +kernel
theorem dX11_pay_41 : decode cX11_pay 41 = .ok (.ireturn, 1) := by decide +kernel
theorem dX11_pay_42 : decode cX11_pay 42 = .ok (.aload 4, 2) := by decide +kernel
theorem dX11_pay_44 : decode cX11_pay 44 = .ok (.iload_n 3, 1) := by decide +kernel
theorem dX11_pay_45 : decode cX11_pay 45 = .ok (.invokevirtual 229, 3) := by decide +kernel
theorem dX11_pay_48 : decode cX11_pay 48 = .ok (.ifCond .eq 6, 3) := by decide +kernel
theorem dX11_pay_51 : decode cX11_pay 51 = .ok (.bipush (-2), 2) := by decide +kernel
theorem dX11_pay_53 : decode cX11_pay 53 = .ok (.ireturn, 1) := by decide +kernel
theorem dX11_pay_54 : decode cX11_pay 54 = .ok (.aload_n 0, 1) := by decide +kernel
theorem dX11_pay_55 : decode cX11_pay 55 = .ok (.getfield 79, 3) := by decide +kernel
theorem dX11_pay_58 : decode cX11_pay 58 = .ok (.iload_n 1, 1) := by decide +kernel
theorem dX11_pay_59 : decode cX11_pay 59 = .ok (.iload_n 2, 1) := by decide +kernel
theorem dX11_pay_60 : decode cX11_pay 60 = .ok (.iload_n 3, 1) := by decide +kernel
theorem dX11_pay_61 : decode cX11_pay 61 = .ok (.invokevirtual 377, 3) := by decide +kernel
theorem dX11_pay_64 : decode cX11_pay 64 = .ok (.ifCond .eq 17, 3) := by decide +kernel
theorem dX11_pay_67 : decode cX11_pay 67 = .ok (.aload_n 0, 1) := by decide +kernel
theorem dX11_pay_68 : decode cX11_pay 68 = .ok (.getfield 79, 3) := by decide +kernel
theorem dX11_pay_71 : decode cX11_pay 71 = .ok (.iload_n 1, 1) := by decide +kernel
theorem dX11_pay_72 : decode cX11_pay 72 = .ok (.sipush 3999, 3) := by decide +kernel
theorem dX11_pay_75 : decode cX11_pay 75 = .ok (.invokevirtual 195, 3) := by decide +kernel
theorem dX11_pay_78 : decode cX11_pay 78 = .ok (.goto 5, 3) := by decide +kernel
theorem dX11_pay_81 : decode cX11_pay 81 = .ok (.bipush (-3), 2) := by decide +kernel
theorem dX11_pay_83 : decode cX11_pay 83 = .ok (.ireturn, 1) := by decide +kernel
theorem dX11_due_0 : decode cX11_due 0 = .ok (.aload_n 0, 1) := by decide +kernel
theorem dX11_due_1 : decode cX11_due 1 = .ok (.iload_n 1, 1) := by decide +kernel
theorem dX11_due_2 : decode cX11_due 2 = .ok (.invokevirtual 175, 3) := by decide +kernel
theorem dX11_due_5 : decode cX11_due 5 = .ok (.astore_n 3, 1) := by decide +kernel
theorem dX11_due_6 : decode cX11_due 6 = .ok (.aload_n 3, 1) := by decide +kernel
theorem dX11_due_7 : decode cX11_due 7 = .ok (.ifnull 10, 3) := by decide +kernel
theorem dX11_due_10 : decode cX11_due 10 = .ok (.iload_n 2, 1) := by decide +kernel
theorem dX11_due_11 : decode cX11_due 11 = .ok (.invokestatic 126, 3) := by decide +kernel
theorem dX11_due_14 : decode cX11_due 14 = .ok (.ifCond .ne 5, 3) := by decide +kernel
theorem dX11_due_17 : decode cX11_due 17 = .ok (.iconst (-1), 1) := by decide +kernel
theorem dX11_due_18 : decode cX11_due 18 = .ok (.ireturn, 1) := by decide +kernel
theorem dX11_due_19 : decode cX11_due 19 = .ok (.iconst 0, 1) := by decide +kernel
theorem dX11_due_20 : decode cX11_due 20 = .ok (.aload_n 0, 1) := by decide +kernel
theorem dX11_due_21 : decode cX11_due 21 = .ok (.getfield 28, 3) := by decide +kernel
theorem dX11_due_24 : decode cX11_due 24 = .ok (.aload_n 3, 1) := by decide +kernel
theorem dX11_due_25 : decode cX11_due 25 = .ok (.getfield 180, 3) := by decide +kernel
theorem dX11_due_28 : decode cX11_due 28 = .ok (.aaload, 1) := by decide +kernel
theorem dX11_due_29 : decode cX11_due 29 = .ok (.iload_n 2, 1) := by decide +kernel
theorem dX11_due_30 : decode cX11_due 30 = .ok (.aload_n 3, 1) := by decide +kernel
theorem dX11_due_31 : decode cX11_due 31 = .ok (.getfield 186, 3) := by decide +kernel
theorem dX11_due_34 : decode cX11_due 34 = .ok (.isub, 1) := by decide +kernel
theorem dX11_due_35 : decode cX11_due 35 = .ok (.invokevirtual 380, 3) := by decide +kernel
theorem dX11_due_38 : decode cX11_due 38 = .ok (.aload_n 0, 1) := by decide +kernel
theorem dX11_due_39 : decode cX11_due 39 = .ok (.getfield 79, 3) := by decide +kernel
theorem dX11_due_42 : decode cX11_due 42 = .ok (.iload_n 1, 1) := by decide +kernel
theorem dX11_due_43 : decode cX11_due 43 = .ok (.iload_n 2, 1) := by decide +kernel
theorem dX11_due_44 : decode cX11_due 44 = .ok (.invokevirtual 195, 3) := by decide +kernel
theorem dX11_due_47 : decode cX11_due 47 = .ok (.isub, 1) := by decide +kernel
theorem dX11_due_48 : decode cX11_due 48 = .ok (.invokestatic 352, 3) := by decide +kernel
theorem dX11_due_51 : decode cX11_due 51 = .ok (.ireturn, 1) := by decide +kernel
theorem dX11_leave_0 : decode cX11_leave 0 = .ok (.aload_n 0, 1) := by decide +kernel
theorem dX11_leave_1 : decode cX11_leave 1 = .ok (.iload_n 1, 1) := by decide +kernel
theorem dX11_leave_2 : decode cX11_leave 2 = .ok (.invokevirtual 175, 3) := by decide +kernel
theorem dX11_leave_5 : decode cX11_leave 5 = .ok (.astore_n 3, 1) := by decide +kernel
theorem dX11_leave_6 : decode cX11_leave 6 = .ok (.aload_n 3, 1) := by decide +kernel
theorem dX11_leave_7 : decode cX11_leave 7 = .ok (.ifnull 18, 3) := by decide +kernel
theorem dX11_leave_10 : decode cX11_leave 10 = .ok (.iload_n 2, 1) := by decide +kernel
theorem dX11_leave_11 : decode cX11_leave 11 = .ok (.invokestatic 126, 3) := by decide +kernel
theorem dX11_leave_14 : decode cX11_leave 14 = .ok (.ifCond .eq 11, 3) := by decide +kernel
theorem dX11_leave_17 : decode cX11_leave 17 = .ok (.iload_n 2, 1) := by decide +kernel
theorem dX11_leave_18 : decode cX11_leave 18 = .ok (.aload_n 3, 1) := by decide +kernel
theorem dX11_leave_19 : decode cX11_leave 19 = .ok (.getfield 186, 3) := by decide +kernel
theorem dX11_leave_22 : decode cX11_leave 22 = .ok (.if_icmp .ge 5, 3) := by decide +kernel
theorem dX11_leave_25 : decode cX11_leave 25 = .ok (.iconst (-1), 1) := by decide +kernel
theorem dX11_leave_26 : decode cX11_leave 26 = .ok (.ireturn, 1) := by decide +kernel
theorem dX11_leave_27 : decode cX11_leave 27 = .ok (.aload_n 3, 1) := by decide +kernel
theorem dX11_leave_28 : decode cX11_leave 28 = .ok (.getfield 192, 3) := by decide +kernel
theorem dX11_leave_31 : decode cX11_leave 31 = .ok (.bipush (-4), 2) := by decide +kernel
theorem dX11_leave_33 : decode cX11_leave 33 = .ok (.if_icmp .eq 6, 3) := by decide +kernel
theorem dX11_leave_36 : decode cX11_leave 36 = .ok (.bipush (-2), 2) := by decide +kernel
theorem dX11_leave_38 : decode cX11_leave 38 = .ok (.ireturn, 1) := by decide +kernel
theorem dX11_leave_39 : decode cX11_leave 39 = .ok (.aload_n 3, 1) := by decide +kernel
theorem dX11_leave_40 : decode cX11_leave 40 = .ok (.iload_n 2, 1) := by decide +kernel
theorem dX11_leave_41 : decode cX11_leave 41 = .ok (.putfield 192, 3) := by decide +kernel
theorem dX11_leave_44 : decode cX11_leave 44 = .ok (.aload_n 0, 1) := by decide +kernel
theorem dX11_leave_45 : decode cX11_leave 45 = .ok (.getfield 79, 3) := by decide +kernel
theorem dX11_leave_48 : decode cX11_leave 48 = .ok (.iload_n 1, 1) := by decide +kernel
theorem dX11_leave_49 : decode cX11_leave 49 = .ok (.iload_n 2, 1) := by decide +kernel
theorem dX11_leave_50 : decode cX11_leave 50 = .ok (.invokevirtual 195, 3) := by decide +kernel
theorem dX11_leave_53 : decode cX11_leave 53 = .ok (.i2l, 1) := by decide +kernel
theorem dX11_leave_54 : decode cX11_leave 54 = .ok (.aload_n 0, 1) := by decide +kernel
theorem dX11_leave_55 : decode cX11_leave 55 = .ok (.getfield 28, 3) := by decide +kernel
theorem dX11_leave_58 : decode cX11_leave 58 = .ok (.aload_n 3, 1) := by decide +kernel
theorem dX11_leave_59 : decode cX11_leave 59 = .ok (.getfield 180, 3) := by decide +kernel
theorem dX11_leave_62 : decode cX11_leave 62 = .ok (.aaload, 1) := by decide +kernel
theorem dX11_leave_63 : decode cX11_leave 63 = .ok (.iload_n 2, 1) := by decide +kernel
theorem dX11_leave_64 : decode cX11_leave 64 = .ok (.aload_n 3, 1) := by decide +kernel
theorem dX11_leave_65 : decode cX11_leave 65 = .ok (.getfield 186, 3) := by decide +kernel
theorem dX11_leave_68 : decode cX11_leave 68 = .ok (.isub, 1) := by decide +kernel
theorem dX11_leave_69 : decode cX11_leave 69 = .ok (.invokevirtual 383, 3) := by decide +kernel
theorem dX11_leave_72 : decode cX11_leave 72 = .ok (.i2l, 1) := by decide +kernel
theorem dX11_leave_73 : decode cX11_leave 73 = .ok (.lmul, 1) := by decide +kernel
theorem dX11_leave_74 : decode cX11_leave 74 = .ok (.ldc2_w 386, 3) := by decide +kernel
theorem dX11_leave_77 : decode cX11_leave 77 = .ok (.ldiv, 1) := by decide +kernel
theorem dX11_leave_78 : decode cX11_leave 78 = .ok (.l2i, 1) := by decide +kernel
theorem dX11_leave_79 : decode cX11_leave 79 = .ok (.ireturn, 1) := by decide +kernel
theorem dX11_move_0 : decode cX11_move 0 = .ok (.aload_n 0, 1) := by decide +kernel
theorem dX11_move_1 : decode cX11_move 1 = .ok (.iload_n 1, 1) := by decide +kernel
theorem dX11_move_2 : decode cX11_move 2 = .ok (.invokevirtual 175, 3) := by decide +kernel
theorem dX11_move_5 : decode cX11_move 5 = .ok (.astore 4, 2) := by decide +kernel
theorem dX11_move_7 : decode cX11_move 7 = .ok (.aload 4, 2) := by decide +kernel
theorem dX11_move_9 : decode cX11_move 9 = .ok (.ifnull 18, 3) := by decide +kernel
theorem dX11_move_12 : decode cX11_move 12 = .ok (.iload_n 2, 1) := by decide +kernel
theorem dX11_move_13 : decode cX11_move 13 = .ok (.iconst 4, 1) := by decide +kernel
theorem dX11_move_14 : decode cX11_move 14 = .ok (.invokestatic 122, 3) := by decide +kernel
theorem dX11_move_17 : decode cX11_move 17 = .ok (.ifCond .eq 10, 3) := by decide +kernel
theorem dX11_move_20 : decode cX11_move 20 = .ok (.iload_n 3, 1) := by decide +kernel
theorem dX11_move_21 : decode cX11_move 21 = .ok (.invokestatic 126, 3) := by decide +kernel
theorem dX11_move_24 : decode cX11_move 24 = .ok (.ifCond .ne 5, 3) := by decide +kernel
theorem dX11_move_27 : decode cX11_move 27 = .ok (.iconst (-1), 1) := by decide +kernel
theorem dX11_move_28 : decode cX11_move 28 = .ok (.ireturn, 1) := by decide +kernel
theorem dX11_move_29 : decode cX11_move 29 = .ok (.aload_n 0, 1) := by decide +kernel
theorem dX11_move_30 : decode cX11_move 30 = .ok (.iload_n 2, 1) := by decide +kernel
theorem dX11_move_31 : decode cX11_move 31 = .ok (.iload_n 3, 1) := by decide +kernel
theorem dX11_move_32 : decode cX11_move 32 = .ok (.invokevirtual 168, 3) := by decide +kernel
theorem dX11_move_35 : decode cX11_move 35 = .ok (.istore 5, 2) := by decide +kernel
theorem dX11_move_37 : decode cX11_move 37 = .ok (.aload_n 0, 1) := by decide +kernel
theorem dX11_move_38 : decode cX11_move 38 = .ok (.iload_n 2, 1) := by decide +kernel
theorem dX11_move_39 : decode cX11_move 39 = .ok (.iload 5, 2) := by decide +kernel
theorem dX11_move_41 : decode cX11_move 41 = .ok (.invokevirtual 144, 3) := by decide +kernel
theorem dX11_move_44 : decode cX11_move 44 = .ok (.astore 6, 2) := by decide +kernel
theorem dX11_move_46 : decode cX11_move 46 = .ok (.aload 4, 2) := by decide +kernel
theorem dX11_move_48 : decode cX11_move 48 = .ok (.iload_n 3, 1) := by decide +kernel
theorem dX11_move_49 : decode cX11_move 49 = .ok (.invokevirtual 229, 3) := by decide +kernel
theorem dX11_move_52 : decode cX11_move 52 = .ok (.ifCond .ne 8, 3) := by decide +kernel
theorem dX11_move_55 : decode cX11_move 55 = .ok (.aload 6, 2) := by decide +kernel
theorem dX11_move_57 : decode cX11_move 57 = .ok (.ifnonnull 6, 3) := by decide +kernel
theorem dX11_move_60 : decode cX11_move 60 = .ok (.bipush (-2), 2) := by decide +kernel
theorem dX11_move_62 : decode cX11_move 62 = .ok (.ireturn, 1) := by decide +kernel
theorem dX11_move_63 : decode cX11_move 63 = .ok (.aload 4, 2) := by decide +kernel
theorem dX11_move_65 : decode cX11_move 65 = .ok (.iload_n 2, 1) := by decide +kernel
theorem dX11_move_66 : decode cX11_move 66 = .ok (.iload 5, 2) := by decide +kernel
theorem dX11_move_68 : decode cX11_move 68 = .ok (.aload 6, 2) := by decide +kernel
theorem dX11_move_70 : decode cX11_move 70 = .ok (.invokevirtual 388, 3) := by decide +kernel
theorem dX11_move_73 : decode cX11_move 73 = .ok (.aload_n 0, 1) := by decide +kernel
theorem dX11_move_74 : decode cX11_move 74 = .ok (.iload_n 1, 1) := by decide +kernel
theorem dX11_move_75 : decode cX11_move 75 = .ok (.aload 6, 2) := by decide +kernel
theorem dX11_move_77 : decode cX11_move 77 = .ok (.invokevirtual 205, 3) := by decide +kernel
theorem dX11_move_80 : decode cX11_move 80 = .ok (.aload 6, 2) := by decide +kernel
theorem dX11_move_82 : decode cX11_move 82 = .ok (.aload_n 0, 1) := by decide +kernel
theorem dX11_move_83 : decode cX11_move 83 = .ok (.getfield 110, 3) := by decide +kernel
theorem dX11_move_86 : decode cX11_move 86 = .ok (.invokevirtual 213, 3) := by decide +kernel
theorem dX11_move_89 : decode cX11_move 89 = .ok (.invokestatic 151, 3) := by decide +kernel
theorem dX11_move_92 : decode cX11_move 92 = .ok (.ireturn, 1) := by decide +kernel
theorem dX11_sheet_0 : decode cX11_sheet 0 = .ok (.iload_n 1, 1) := by decide +kernel
theorem dX11_sheet_1 : decode cX11_sheet 1 = .ok (.iconst 4, 1) := by decide +kernel
theorem dX11_sheet_2 : decode cX11_sheet 2 = .ok (.invokestatic 122, 3) := by decide +kernel
theorem dX11_sheet_5 : decode cX11_sheet 5 = .ok (.ifCond .eq 17, 3) := by decide +kernel
theorem dX11_sheet_8 : decode cX11_sheet 8 = .ok (.iload_n 2, 1) := by decide +kernel
theorem dX11_sheet_9 : decode cX11_sheet 9 = .ok (.iconst 3, 1) := by decide +kernel
theorem dX11_sheet_10 : decode cX11_sheet 10 = .ok (.invokestatic 122, 3) := by decide +kernel
theorem dX11_sheet_13 : decode cX11_sheet 13 = .ok (.ifCond .eq 9, 3) := by decide +kernel
theorem dX11_sheet_16 : decode cX11_sheet 16 = .ok (.iload_n 3, 1) := by decide +kernel
theorem dX11_sheet_17 : decode cX11_sheet 17 = .ok (.bipush 30, 2) := by decide +kernel
theorem dX11_sheet_19 : decode cX11_sheet 19 = .ok (.if_icmp .le 5, 3) := by decide +kernel
theorem dX11_sheet_22 : decode cX11_sheet 22 = .ok (.iconst (-1), 1) := by decide +kernel
theorem dX11_sheet_23 : decode cX11_sheet 23 = .ok (.ireturn, 1) := by decide +kernel
theorem dX11_sheet_24 : decode cX11_sheet 24 = .ok (.iload_n 3, 1) := by decide +kernel
theorem dX11_sheet_25 : decode cX11_sheet 25 = .ok (.ifCond .ge 6, 3) := by decide +kernel
theorem dX11_sheet_28 : decode cX11_sheet 28 = .ok (.bipush (-14), 2) := by decide +kernel
theorem dX11_sheet_30 : decode cX11_sheet 30 = .ok (.ireturn, 1) := by decide +kernel
theorem dX11_sheet_31 : decode cX11_sheet 31 = .ok (.aload_n 0, 1) := by decide +kernel
theorem dX11_sheet_32 : decode cX11_sheet 32 = .ok (.getfield 92, 3) := by decide +kernel
theorem dX11_sheet_35 : decode cX11_sheet 35 = .ok (.iload_n 1, 1) := by decide +kernel
theorem dX11_sheet_36 : decode cX11_sheet 36 = .ok (.aaload, 1) := by decide +kernel
theorem dX11_sheet_37 : decode cX11_sheet 37 = .ok (.iload_n 2, 1) := by decide +kernel
theorem dX11_sheet_38 : decode cX11_sheet 38 = .ok (.iload_n 3, 1) := by decide +kernel
theorem dX11_sheet_39 : decode cX11_sheet 39 = .ok (.invokevirtual 392, 3) := by decide +kernel
theorem dX11_sheet_42 : decode cX11_sheet 42 = .ok (.iload_n 3, 1) := by decide +kernel
theorem dX11_sheet_43 : decode cX11_sheet 43 = .ok (.ireturn, 1) := by decide +kernel
theorem dX11_drop_0 : decode cX11_drop 0 = .ok (.iload_n 1, 1) := by decide +kernel
theorem dX11_drop_1 : decode cX11_drop 1 = .ok (.iconst 4, 1) := by decide +kernel
theorem dX11_drop_2 : decode cX11_drop 2 = .ok (.invokestatic 122, 3) := by decide +kernel
theorem dX11_drop_5 : decode cX11_drop 5 = .ok (.ifCond .ne 5, 3) := by decide +kernel
theorem dX11_drop_8 : decode cX11_drop 8 = .ok (.iconst (-1), 1) := by decide +kernel
theorem dX11_drop_9 : decode cX11_drop 9 = .ok (.ireturn, 1) := by decide +kernel
theorem dX11_drop_10 : decode cX11_drop 10 = .ok (.aload_n 0, 1) := by decide +kernel
theorem dX11_drop_11 : decode cX11_drop 11 = .ok (.getfield 92, 3) := by decide +kernel
theorem dX11_drop_14 : decode cX11_drop 14 = .ok (.iload_n 1, 1) := by decide +kernel
theorem dX11_drop_15 : decode cX11_drop 15 = .ok (.aaload, 1) := by decide +kernel
theorem dX11_drop_16 : decode cX11_drop 16 = .ok (.astore_n 2, 1) := by decide +kernel
theorem dX11_drop_17 : decode cX11_drop 17 = .ok (.aload_n 2, 1) := by decide +kernel
theorem dX11_drop_18 : decode cX11_drop 18 = .ok (.getfield 394, 3) := by decide +kernel
theorem dX11_drop_21 : decode cX11_drop 21 = .ok (.iconst (-1), 1) := by decide +kernel
theorem dX11_drop_22 : decode cX11_drop 22 = .ok (.if_icmp .ne 6, 3) := by decide +kernel
theorem dX11_drop_25 : decode cX11_drop 25 = .ok (.bipush (-11), 2) := by decide +kernel
theorem dX11_drop_27 : decode cX11_drop 27 = .ok (.ireturn, 1) := by decide +kernel
theorem dX11_drop_28 : decode cX11_drop 28 = .ok (.aload_n 2, 1) := by decide +kernel
theorem dX11_drop_29 : decode cX11_drop 29 = .ok (.iconst (-1), 1) := by decide +kernel
theorem dX11_drop_30 : decode cX11_drop 30 = .ok (.putfield 394, 3) := by decide +kernel
theorem dX11_drop_33 : decode cX11_drop 33 = .ok (.aload_n 2, 1) := by decide +kernel
theorem dX11_drop_34 : decode cX11_drop 34 = .ok (.getfield 397, 3) := by decide +kernel
theorem dX11_drop_37 : decode cX11_drop 37 = .ok (.ireturn, 1) := by decide +kernel
theorem dX11_item_0 : decode cX11_item 0 = .ok (.iload_n 1, 1) := by decide +kernel
theorem dX11_item_1 : decode cX11_item 1 = .ok (.iconst 4, 1) := by decide +kernel
theorem dX11_item_2 : decode cX11_item 2 = .ok (.invokestatic 122, 3) := by decide +kernel
theorem dX11_item_5 : decode cX11_item 5 = .ok (.ifCond .eq 11, 3) := by decide +kernel
theorem dX11_item_8 : decode cX11_item 8 = .ok (.iload_n 2, 1) := by decide +kernel
theorem dX11_item_9 : decode cX11_item 9 = .ok (.iconst 3, 1) := by decide +kernel
theorem dX11_item_10 : decode cX11_item 10 = .ok (.invokestatic 122, 3) := by decide +kernel
theorem dX11_item_13 : decode cX11_item 13 = .ok (.ifCond .ne 5, 3) := by decide +kernel
theorem dX11_item_16 : decode cX11_item 16 = .ok (.iconst (-1), 1) := by decide +kernel
theorem dX11_item_17 : decode cX11_item 17 = .ok (.ireturn, 1) := by decide +kernel
theorem dX11_item_18 : decode cX11_item 18 = .ok (.aload_n 0, 1) := by decide +kernel
theorem dX11_item_19 : decode cX11_item 19 = .ok (.getfield 92, 3) := by decide +kernel
theorem dX11_item_22 : decode cX11_item 22 = .ok (.iload_n 1, 1) := by decide +kernel
theorem dX11_item_23 : decode cX11_item 23 = .ok (.aaload, 1) := by decide +kernel
theorem dX11_item_24 : decode cX11_item 24 = .ok (.iload_n 2, 1) := by decide +kernel
theorem dX11_item_25 : decode cX11_item 25 = .ok (.iload_n 3, 1) := by decide +kernel
theorem dX11_item_26 : decode cX11_item 26 = .ok (.iconst 1, 1) := by decide +kernel
theorem dX11_item_27 : decode cX11_item 27 = .ok (.invokevirtual 400, 3) := by decide +kernel
theorem dX11_item_30 : decode cX11_item 30 = .ok (.istore 5, 2) := by decide +kernel
theorem dX11_item_32 : decode cX11_item 32 = .ok (.iload 5, 2) := by decide +kernel
theorem dX11_item_34 : decode cX11_item 34 = .ok (.ifCond .eq 6, 3) := by decide +kernel
theorem dX11_item_37 : decode cX11_item 37 = .ok (.iload 5, 2) := by decide +kernel
theorem dX11_item_39 : decode cX11_item 39 = .ok (.ireturn, 1) := by decide +kernel
theorem dX11_item_40 : decode cX11_item 40 = .ok (.aload_n 0, 1) := by decide +kernel
theorem dX11_item_41 : decode cX11_item 41 = .ok (.getfield 92, 3) := by decide +kernel
theorem dX11_item_44 : decode cX11_item 44 = .ok (.iload_n 1, 1) := by decide +kernel
theorem dX11_item_45 : decode cX11_item 45 = .ok (.aaload, 1) := by decide +kernel
theorem dX11_item_46 : decode cX11_item 46 = .ok (.iload_n 3, 1) := by decide +kernel
theorem dX11_item_47 : decode cX11_item 47 = .ok (.iload 4, 2) := by decide +kernel
theorem dX11_item_49 : decode cX11_item 49 = .ok (.invokevirtual 403, 3) := by decide +kernel
theorem dX11_item_52 : decode cX11_item 52 = .ok (.iconst 1, 1) := by decide +kernel
theorem dX11_item_53 : decode cX11_item 53 = .ok (.ireturn, 1) := by decide +kernel
theorem dX11_choices_0 : decode cX11_choices 0 = .ok (.aload_n 0, 1) := by decide +kernel
theorem dX11_choices_1 : decode cX11_choices 1 = .ok (.iload_n 1, 1) := by decide +kernel
theorem dX11_choices_2 : decode cX11_choices 2 = .ok (.invokevirtual 239, 3) := by decide +kernel
theorem dX11_choices_5 : decode cX11_choices 5 = .ok (.astore 6, 2) := by decide +kernel
theorem dX11_choices_7 : decode cX11_choices 7 = .ok (.aload 6, 2) := by decide +kernel
theorem dX11_choices_9 : decode cX11_choices 9 = .ok (.ifnull 29, 3) := by decide +kernel
theorem dX11_choices_12 : decode cX11_choices 12 = .ok (.iload_n 2, 1) := by decide +kernel
theorem dX11_choices_13 : decode cX11_choices 13 = .ok (.iconst 4, 1) := by decide +kernel
theorem dX11_choices_14 : decode cX11_choices 14 = .ok (.invokestatic 122, 3) := by decide +kernel
theorem dX11_choices_17 : decode cX11_choices 17 = .ok (.ifCond .eq 21, 3) := by decide +kernel
theorem dX11_choices_20 : decode cX11_choices 20 = .ok (.iload_n 3, 1) := by decide +kernel
theorem dX11_choices_21 : decode cX11_choices 21 = .ok (.iconst 3, 1) := by decide +kernel
theorem dX11_choices_22 : decode cX11_choices 22 = .ok (.invokestatic 122, 3) := by decide +kernel
theorem dX11_choices_25 : decode cX11_choices 25 = .ok (.ifCond .eq 13, 3) := by decide +kernel
theorem dX11_choices_28 : decode cX11_choices 28 = .ok (.iload 5, 2) := by decide +kernel
theorem dX11_choices_30 : decode cX11_choices 30 = .ok (.bipush 21, 2) := by decide +kernel
theorem dX11_choices_32 : decode cX11_choices 32 = .ok (.invokestatic 122, 3) := by decide +kernel
theorem dX11_choices_35 : decode cX11_choices 35 = .ok (.ifCond .ne 5, 3) := by decide +kernel
theorem dX11_choices_38 : decode cX11_choices 38 = .ok (.iconst (-1), 1) := by decide +kernel
theorem dX11_choices_39 : decode cX11_choices 39 = .ok (.ireturn, 1) := by decide +kernel
theorem dX11_choices_40 : decode cX11_choices 40 = .ok (.aload 6, 2) := by decide +kernel
theorem dX11_choices_42 : decode cX11_choices 42 = .ok (.invokevirtual 256, 3) := by decide +kernel
theorem dX11_choices_45 : decode cX11_choices 45 = .ok (.ifCond .ne 6, 3) := by decide +kernel
theorem dX11_choices_48 : decode cX11_choices 48 = .ok (.bipush (-12), 2) := by decide +kernel
theorem dX11_choices_50 : decode cX11_choices 50 = .ok (.ireturn, 1) := by decide +kernel
theorem dX11_choices_51 : decode cX11_choices 51 = .ok (.aload_n 0, 1) := by decide +kernel
theorem dX11_choices_52 : decode cX11_choices 52 = .ok (.getfield 92, 3) := by decide +kernel
theorem dX11_choices_55 : decode cX11_choices 55 = .ok (.iload_n 2, 1) := by decide +kernel
theorem dX11_choices_56 : decode cX11_choices 56 = .ok (.aaload, 1) := by decide +kernel
theorem dX11_choices_57 : decode cX11_choices 57 = .ok (.astore 7, 2) := by decide +kernel
theorem dX11_choices_59 : decode cX11_choices 59 = .ok (.aload 7, 2) := by decide +kernel
theorem dX11_choices_61 : decode cX11_choices 61 = .ok (.iload_n 3, 1) := by decide +kernel
theorem dX11_choices_62 : decode cX11_choices 62 = .ok (.iload 4, 2) := by decide +kernel
theorem dX11_choices_64 : decode cX11_choices 64 = .ok (.iload 5, 2) := by decide +kernel
theorem dX11_choices_66 : decode cX11_choices 66 = .ok (.invokevirtual 400, 3) := by decide +kernel
theorem dX11_choices_69 : decode cX11_choices 69 = .ok (.istore 8, 2) := by decide +kernel
theorem dX11_choices_71 : decode cX11_choices 71 = .ok (.iload 8, 2) := by decide +kernel
theorem dX11_choices_73 : decode cX11_choices 73 = .ok (.ifCond .eq 6, 3) := by decide +kernel
theorem dX11_choices_76 : decode cX11_choices 76 = .ok (.iload 8, 2) := by decide +kernel
theorem dX11_choices_78 : decode cX11_choices 78 = .ok (.ireturn, 1) := by decide +kernel
theorem dX11_choices_79 : decode cX11_choices 79 = .ok (.iconst 0, 1) := by decide +kernel
theorem dX11_choices_80 : decode cX11_choices 80 = .ok (.istore 9, 2) := by decide +kernel
theorem dX11_choices_82 : decode cX11_choices 82 = .ok (.iload 9, 2) := by decide +kernel
theorem dX11_choices_84 : decode cX11_choices 84 = .ok (.iload 5, 2) := by decide +kernel
theorem dX11_choices_86 : decode cX11_choices 86 = .ok (.if_icmp .ge 30, 3) := by decide +kernel
theorem dX11_choices_89 : decode cX11_choices 89 = .ok (.aload 7, 2) := by decide +kernel
theorem dX11_choices_91 : decode cX11_choices 91 = .ok (.getfield 406, 3) := by decide +kernel
theorem dX11_choices_94 : decode cX11_choices 94 = .ok (.iload 4, 2) := by decide +kernel
theorem dX11_choices_96 : decode cX11_choices 96 = .ok (.iload 9, 2) := by decide +kernel
theorem dX11_choices_98 : decode cX11_choices 98 = .ok (.iadd, 1) := by decide +kernel
theorem dX11_choices_99 : decode cX11_choices 99 = .ok (.iaload, 1) := by decide +kernel
theorem dX11_choices_100 : decode cX11_choices 100 = .ok (.iconst 5, 1) := by decide +kernel
theorem dX11_choices_101 : decode cX11_choices 101 = .ok (.invokestatic 122, 3) := by decide +kernel
theorem dX11_choices_104 : decode cX11_choices 104 = .ok (.ifCond .ne 6, 3) := by decide +kernel
theorem dX11_choices_107 : decode cX11_choices 107 = .ok (.bipush (-2), 2) := by decide +kernel
theorem dX11_choices_109 : decode cX11_choices 109 = .ok (.ireturn, 1) := by decide +kernel
theorem dX11_choices_110 : decode cX11_choices 110 = .ok (.iinc 9 1, 3) := by decide +kernel
theorem dX11_choices_113 : decode cX11_choices 113 = .ok (.goto (-31), 3) := by decide +kernel
theorem dX11_choices_116 : decode cX11_choices 116 = .ok (.iconst 0, 1) := by decide +kernel
theorem dX11_choices_117 : decode cX11_choices 117 = .ok (.istore 9, 2) := by decide +kernel
theorem dX11_choices_119 : decode cX11_choices 119 = .ok (.iload 9, 2) := by decide +kernel
theorem dX11_choices_121 : decode cX11_choices 121 = .ok (.iload 5, 2) := by decide +kernel
theorem dX11_choices_123 : decode cX11_choices 123 = .ok (.if_icmp .ge 29, 3) := by decide +kernel
theorem dX11_choices_126 : decode cX11_choices 126 = .ok (.aload 6, 2) := by decide +kernel
theorem dX11_choices_128 : decode cX11_choices 128 = .ok (.getfield 355, 3) := by decide +kernel
theorem dX11_choices_131 : decode cX11_choices 131 = .ok (.iload 9, 2) := by decide +kernel
theorem dX11_choices_133 : decode cX11_choices 133 = .ok (.aload 7, 2) := by decide +kernel
theorem dX11_choices_135 : decode cX11_choices 135 = .ok (.getfield 406, 3) := by decide +kernel
theorem dX11_choices_138 : decode cX11_choices 138 = .ok (.iload 4, 2) := by decide +kernel
theorem dX11_choices_140 : decode cX11_choices 140 = .ok (.iload 9, 2) := by decide +kernel
theorem dX11_choices_142 : decode cX11_choices 142 = .ok (.iadd, 1) := by decide +kernel
theorem dX11_choices_143 : decode cX11_choices 143 = .ok (.iaload, 1) := by decide +kernel
theorem dX11_choices_144 : decode cX11_choices 144 = .ok (.i2b, 1) := by decide +kernel
theorem dX11_choices_145 : decode cX11_choices 145 = .ok (.bastore, 1) := by decide +kernel
theorem dX11_choices_146 : decode cX11_choices 146 = .ok (.iinc 9 1, 3) := by decide +kernel
theorem dX11_choices_149 : decode cX11_choices 149 = .ok (.goto (-30), 3) := by decide +kernel
theorem dX11_choices_152 : decode cX11_choices 152 = .ok (.iload 5, 2) := by decide +kernel
theorem dX11_choices_154 : decode cX11_choices 154 = .ok (.ireturn, 1) := by decide +kernel
theorem dX11_isIn_0 : decode cX11_isIn 0 = .ok (.iload_n 0, 1) := by decide +kernel
theorem dX11_isIn_1 : decode cX11_isIn 1 = .ok (.ifCond .lt 12, 3) := by decide +kernel
theorem dX11_isIn_4 : decode cX11_isIn 4 = .ok (.iload_n 0, 1) := by decide +kernel
theorem dX11_isIn_5 : decode cX11_isIn 5 = .ok (.iload_n 1, 1) := by decide +kernel
theorem dX11_isIn_6 : decode cX11_isIn 6 = .ok (.if_icmp .ge 7, 3) := by decide +kernel
theorem dX11_isIn_9 : decode cX11_isIn 9 = .ok (.iconst 1, 1) := by decide +kernel
theorem dX11_isIn_10 : decode cX11_isIn 10 = .ok (.goto 4, 3) := by decide +kernel
theorem dX11_isIn_13 : decode cX11_isIn 13 = .ok (.iconst 0, 1) := by decide +kernel
theorem dX11_isIn_14 : decode cX11_isIn 14 = .ok (.ireturn, 1) := by decide +kernel
theorem dX11_isDay_0 : decode cX11_isDay 0 = .ok (.iload_n 0, 1) := by decide +kernel
theorem dX11_isDay_1 : decode cX11_isDay 1 = .ok (.sipush 4000, 3) := by decide +kernel
theorem dX11_isDay_4 : decode cX11_isDay 4 = .ok (.invokestatic 122, 3) := by decide +kernel
theorem dX11_isDay_7 : decode cX11_isDay 7 = .ok (.ireturn, 1) := by decide +kernel
theorem dX11_areParts_0 : decode cX11_areParts 0 = .ok (.iload_n 0, 1) := by decide +kernel
theorem dX11_areParts_1 : decode cX11_areParts 1 = .ok (.bipush 101, 2) := by decide +kernel
theorem dX11_areParts_3 : decode cX11_areParts 3 = .ok (.invokestatic 122, 3) := by decide +kernel
theorem dX11_areParts_6 : decode cX11_areParts 6 = .ok (.ifCond .eq 25, 3) := by decide +kernel
theorem dX11_areParts_9 : decode cX11_areParts 9 = .ok (.iload_n 1, 1) := by decide +kernel
theorem dX11_areParts_10 : decode cX11_areParts 10 = .ok (.bipush 101, 2) := by decide +kernel
theorem dX11_areParts_12 : decode cX11_areParts 12 = .ok (.invokestatic 122, 3) := by decide +kernel
theorem dX11_areParts_15 : decode cX11_areParts 15 = .ok (.ifCond .eq 16, 3) := by decide +kernel
theorem dX11_areParts_18 : decode cX11_areParts 18 = .ok (.iload_n 2, 1) := by decide +kernel
theorem dX11_areParts_19 : decode cX11_areParts 19 = .ok (.bipush 101, 2) := by decide +kernel
theorem dX11_areParts_21 : decode cX11_areParts 21 = .ok (.invokestatic 122, 3) := by decide +kernel
theorem dX11_areParts_24 : decode cX11_areParts 24 = .ok (.ifCond .eq 7, 3) := by decide +kernel
theorem dX11_areParts_27 : decode cX11_areParts 27 = .ok (.iconst 1, 1) := by decide +kernel
theorem dX11_areParts_28 : decode cX11_areParts 28 = .ok (.goto 4, 3) := by decide +kernel
theorem dX11_areParts_31 : decode cX11_areParts 31 = .ok (.iconst 0, 1) := by decide +kernel
theorem dX11_areParts_32 : decode cX11_areParts 32 = .ok (.ireturn, 1) := by decide +kernel
theorem dX11_weigh_0 : decode cX11_weigh 0 = .ok (.iconst 2, 1) := by decide +kernel
theorem dX11_weigh_1 : decode cX11_weigh 1 = .ok (.iload_n 0, 1) := by decide +kernel
theorem dX11_weigh_2 : decode cX11_weigh 2 = .ok (.imul, 1) := by decide +kernel
theorem dX11_weigh_3 : decode cX11_weigh 3 = .ok (.iload_n 1, 1) := by decide +kernel
theorem dX11_weigh_4 : decode cX11_weigh 4 = .ok (.iadd, 1) := by decide +kernel
theorem dX11_weigh_5 : decode cX11_weigh 5 = .ok (.iload_n 2, 1) := by decide +kernel
theorem dX11_weigh_6 : decode cX11_weigh 6 = .ok (.iadd, 1) := by decide +kernel
theorem dX11_weigh_7 : decode cX11_weigh 7 = .ok (.iconst 4, 1) := by decide +kernel
theorem dX11_weigh_8 : decode cX11_weigh 8 = .ok (.idiv, 1) := by decide +kernel
theorem dX11_weigh_9 : decode cX11_weigh 9 = .ok (.ireturn, 1) := by decide +kernel
theorem dX11_cutUp_0 : decode cX11_cutUp 0 = .ok (.iload_n 1, 1) := by decide +kernel
theorem dX11_cutUp_1 : decode cX11_cutUp 1 = .ok (.iconst 1, 1) := by decide +kernel
theorem dX11_cutUp_2 : decode cX11_cutUp 2 = .ok (.if_icmp .ge 7, 3) := by decide +kernel
theorem dX11_cutUp_5 : decode cX11_cutUp 5 = .ok (.iconst 0, 1) := by decide +kernel
theorem dX11_cutUp_6 : decode cX11_cutUp 6 = .ok (.goto 10, 3) := by decide +kernel
theorem dX11_cutUp_9 : decode cX11_cutUp 9 = .ok (.iload_n 0, 1) := by decide +kernel
theorem dX11_cutUp_10 : decode cX11_cutUp 10 = .ok (.iload_n 1, 1) := by decide +kernel
theorem dX11_cutUp_11 : decode cX11_cutUp 11 = .ok (.iadd, 1) := by decide +kernel
theorem dX11_cutUp_12 : decode cX11_cutUp 12 = .ok (.iconst 1, 1) := by decide +kernel
theorem dX11_cutUp_13 : decode cX11_cutUp 13 = .ok (.isub, 1) := by decide +kernel
theorem dX11_cutUp_14 : decode cX11_cutUp 14 = .ok (.iload_n 1, 1) := by decide +kernel
theorem dX11_cutUp_15 : decode cX11_cutUp 15 = .ok (.idiv, 1) := by decide +kernel
theorem dX11_cutUp_16 : decode cX11_cutUp 16 = .ok (.ireturn, 1) := by decide +kernel
theorem dX11_pupilAt_0 : decode cX11_pupilAt 0 = .ok (.iload_n 1, 1) := by decide +kernel
theorem dX11_pupilAt_1 : decode cX11_pupilAt 1 = .ok (.aload_n 0, 1) := by decide +kernel
theorem dX11_pupilAt_2 : decode cX11_pupilAt 2 = .ok (.getfield 48, 3) := by decide +kernel
theorem dX11_pupilAt_5 : decode cX11_pupilAt 5 = .ok (.invokestatic 122, 3) := by decide +kernel
theorem dX11_pupilAt_8 : decode cX11_pupilAt 8 = .ok (.ifCond .eq 12, 3) := by decide +kernel
theorem dX11_pupilAt_11 : decode cX11_pupilAt 11 = .ok (.aload_n 0, 1) := by decide +kernel
theorem dX11_pupilAt_12 : decode cX11_pupilAt 12 = .ok (.getfield 44, 3) := by decide +kernel
theorem dX11_pupilAt_15 : decode cX11_pupilAt 15 = .ok (.iload_n 1, 1) := by decide +kernel
theorem dX11_pupilAt_16 : decode cX11_pupilAt 16 = .ok (.aaload, 1) := by decide +kernel
theorem dX11_pupilAt_17 : decode cX11_pupilAt 17 = .ok (.goto 4, 3) := by decide +kernel
theorem dX11_pupilAt_20 : decode cX11_pupilAt 20 = .ok (.aconst_null, 1) := by decide +kernel
theorem dX11_pupilAt_21 : decode cX11_pupilAt 21 = .ok (.areturn, 1) := by decide +kernel
theorem dX11_tutorAt_0 : decode cX11_tutorAt 0 = .ok (.iload_n 1, 1) := by decide +kernel
theorem dX11_tutorAt_1 : decode cX11_tutorAt 1 = .ok (.aload_n 0, 1) := by decide +kernel
theorem dX11_tutorAt_2 : decode cX11_tutorAt 2 = .ok (.getfield 58, 3) := by decide +kernel
theorem dX11_tutorAt_5 : decode cX11_tutorAt 5 = .ok (.invokestatic 122, 3) := by decide +kernel
theorem dX11_tutorAt_8 : decode cX11_tutorAt 8 = .ok (.ifCond .eq 12, 3) := by decide +kernel
theorem dX11_tutorAt_11 : decode cX11_tutorAt 11 = .ok (.aload_n 0, 1) := by decide +kernel
theorem dX11_tutorAt_12 : decode cX11_tutorAt 12 = .ok (.getfield 54, 3) := by decide +kernel
theorem dX11_tutorAt_15 : decode cX11_tutorAt 15 = .ok (.iload_n 1, 1) := by decide +kernel
theorem dX11_tutorAt_16 : decode cX11_tutorAt 16 = .ok (.aaload, 1) := by decide +kernel
theorem dX11_tutorAt_17 : decode cX11_tutorAt 17 = .ok (.goto 4, 3) := by decide +kernel
theorem dX11_tutorAt_20 : decode cX11_tutorAt 20 = .ok (.aconst_null, 1) := by decide +kernel
theorem dX11_tutorAt_21 : decode cX11_tutorAt 21 = .ok (.areturn, 1) := by decide +kernel
theorem dX11_thingAt_0 : decode cX11_thingAt 0 = .ok (.iload_n 1, 1) := by decide +kernel
theorem dX11_thingAt_1 : decode cX11_thingAt 1 = .ok (.aload_n 0, 1) := by decide +kernel
theorem dX11_thingAt_2 : decode cX11_thingAt 2 = .ok (.getfield 67, 3) := by decide +kernel
theorem dX11_thingAt_5 : decode cX11_thingAt 5 = .ok (.invokestatic 122, 3) := by decide +kernel
theorem dX11_thingAt_8 : decode cX11_thingAt 8 = .ok (.ifCond .eq 12, 3) := by decide +kernel
theorem dX11_thingAt_11 : decode cX11_thingAt 11 = .ok (.aload_n 0, 1) := by decide +kernel
theorem dX11_thingAt_12 : decode cX11_thingAt 12 = .ok (.getfield 63, 3) := by decide +kernel
theorem dX11_thingAt_15 : decode cX11_thingAt 15 = .ok (.iload_n 1, 1) := by decide +kernel
theorem dX11_thingAt_16 : decode cX11_thingAt 16 = .ok (.aaload, 1) := by decide +kernel
theorem dX11_thingAt_17 : decode cX11_thingAt 17 = .ok (.goto 4, 3) := by decide +kernel
theorem dX11_thingAt_20 : decode cX11_thingAt 20 = .ok (.aconst_null, 1) := by decide +kernel
theorem dX11_thingAt_21 : decode cX11_thingAt 21 = .ok (.areturn, 1) := by decide +kernel
theorem dX11_editionAt_0 : decode cX11_editionAt 0 = .ok (.iload_n 1, 1) := by decide +kernel
theorem dX11_editionAt_1 : decode cX11_editionAt 1 = .ok (.iconst 4, 1) := by decide +kernel
theorem dX11_editionAt_2 : decode cX11_editionAt 2 = .ok (.invokestatic 122, 3) := by decide +kernel
theorem dX11_editionAt_5 : decode cX11_editionAt 5 = .ok (.ifCond .eq 16, 3) := by decide +kernel
theorem dX11_editionAt_8 : decode cX11_editionAt 8 = .ok (.iload_n 2, 1) := by decide +kernel
theorem dX11_editionAt_9 : decode cX11_editionAt 9 = .ok (.aload_n 0, 1) := by decide +kernel
theorem dX11_editionAt_10 : decode cX11_editionAt 10 = .ok (.getfield 22, 3) := by decide +kernel
theorem dX11_editionAt_13 : decode cX11_editionAt 13 = .ok (.iload_n 1, 1) := by decide +kernel
theorem dX11_editionAt_14 : decode cX11_editionAt 14 = .ok (.iaload, 1) := by decide +kernel
theorem dX11_editionAt_15 : decode cX11_editionAt 15 = .ok (.invokestatic 122, 3) := by decide +kernel
theorem dX11_editionAt_18 : decode cX11_editionAt 18 = .ok (.ifCond .ne 5, 3) := by decide +kernel
theorem dX11_editionAt_21 : decode cX11_editionAt 21 = .ok (.aconst_null, 1) := by decide +kernel
theorem dX11_editionAt_22 : decode cX11_editionAt 22 = .ok (.areturn, 1) := by decide +kernel
theorem dX11_editionAt_23 : decode cX11_editionAt 23 = .ok (.aload_n 0, 1) := by decide +kernel
theorem dX11_editionAt_24 : decode cX11_editionAt 24 = .ok (.getfield 18, 3) := by decide +kernel
theorem dX11_editionAt_27 : decode cX11_editionAt 27 = .ok (.iload_n 1, 1) := by decide +kernel
theorem dX11_editionAt_28 : decode cX11_editionAt 28 = .ok (.bipush 6, 2) := by decide +kernel
theorem dX11_editionAt_30 : decode cX11_editionAt 30 = .ok (.imul, 1) := by decide +kernel
theorem dX11_editionAt_31 : decode cX11_editionAt 31 = .ok (.iload_n 2, 1) := by decide +kernel
theorem dX11_editionAt_32 : decode cX11_editionAt 32 = .ok (.iadd, 1) := by decide +kernel
theorem dX11_editionAt_33 : decode cX11_editionAt 33 = .ok (.aaload, 1) := by decide +kernel
theorem dX11_editionAt_34 : decode cX11_editionAt 34 = .ok (.areturn, 1) := by decide +kernel
theorem dX11_latestFrom_0 : decode cX11_latestFrom 0 = .ok (.aload_n 0, 1) := by decide +kernel
theorem dX11_latestFrom_1 : decode cX11_latestFrom 1 = .ok (.iload_n 1, 1) := by decide +kernel
theorem dX11_latestFrom_2 : decode cX11_latestFrom 2 = .ok (.aload_n 0, 1) := by decide +kernel
theorem dX11_latestFrom_3 : decode cX11_latestFrom 3 = .ok (.getfield 22, 3) := by decide +kernel
theorem dX11_latestFrom_6 : decode cX11_latestFrom 6 = .ok (.iload_n 1, 1) := by decide +kernel
theorem dX11_latestFrom_7 : decode cX11_latestFrom 7 = .ok (.iaload, 1) := by decide +kernel
theorem dX11_latestFrom_8 : decode cX11_latestFrom 8 = .ok (.iconst 1, 1) := by decide +kernel
theorem dX11_latestFrom_9 : decode cX11_latestFrom 9 = .ok (.isub, 1) := by decide +kernel
theorem dX11_latestFrom_10 : decode cX11_latestFrom 10 = .ok (.invokevirtual 144, 3) := by decide +kernel
theorem dX11_latestFrom_13 : decode cX11_latestFrom 13 = .ok (.astore_n 2, 1) := by decide +kernel
theorem dX11_latestFrom_14 : decode cX11_latestFrom 14 = .ok (.aload_n 2, 1) := by decide +kernel
theorem dX11_latestFrom_15 : decode cX11_latestFrom 15 = .ok (.ifnonnull 7, 3) := by decide +kernel
theorem dX11_latestFrom_18 : decode cX11_latestFrom 18 = .ok (.iconst 0, 1) := by decide +kernel
theorem dX11_latestFrom_19 : decode cX11_latestFrom 19 = .ok (.goto 7, 3) := by decide +kernel
theorem dX11_latestFrom_22 : decode cX11_latestFrom 22 = .ok (.aload_n 2, 1) := by decide +kernel
theorem dX11_latestFrom_23 : decode cX11_latestFrom 23 = .ok (.getfield 141, 3) := by decide +kernel
theorem dX11_latestFrom_26 : decode cX11_latestFrom 26 = .ok (.ireturn, 1) := by decide +kernel
theorem dX11_inForce_0 : decode cX11_inForce 0 = .ok (.aload_n 0, 1) := by decide +kernel
theorem dX11_inForce_1 : decode cX11_inForce 1 = .ok (.getfield 22, 3) := by decide +kernel
theorem dX11_inForce_4 : decode cX11_inForce 4 = .ok (.iload_n 1, 1) := by decide +kernel
theorem dX11_inForce_5 : decode cX11_inForce 5 = .ok (.iaload, 1) := by decide +kernel
theorem dX11_inForce_6 : decode cX11_inForce 6 = .ok (.iconst 1, 1) := by decide +kernel
theorem dX11_inForce_7 : decode cX11_inForce 7 = .ok (.isub, 1) := by decide +kernel
theorem dX11_inForce_8 : decode cX11_inForce 8 = .ok (.istore_n 3, 1) := by decide +kernel
theorem dX11_inForce_9 : decode cX11_inForce 9 = .ok (.iload_n 3, 1) := by decide +kernel
theorem dX11_inForce_10 : decode cX11_inForce 10 = .ok (.ifCond .lt 29, 3) := by decide +kernel
theorem dX11_inForce_13 : decode cX11_inForce 13 = .ok (.aload_n 0, 1) := by decide +kernel
theorem dX11_inForce_14 : decode cX11_inForce 14 = .ok (.getfield 18, 3) := by decide +kernel
theorem dX11_inForce_17 : decode cX11_inForce 17 = .ok (.iload_n 1, 1) := by decide +kernel
theorem dX11_inForce_18 : decode cX11_inForce 18 = .ok (.bipush 6, 2) := by decide +kernel
theorem dX11_inForce_20 : decode cX11_inForce 20 = .ok (.imul, 1) := by decide +kernel
theorem dX11_inForce_21 : decode cX11_inForce 21 = .ok (.iload_n 3, 1) := by decide +kernel
theorem dX11_inForce_22 : decode cX11_inForce 22 = .ok (.iadd, 1) := by decide +kernel
theorem dX11_inForce_23 : decode cX11_inForce 23 = .ok (.aaload, 1) := by decide +kernel
theorem dX11_inForce_24 : decode cX11_inForce 24 = .ok (.getfield 141, 3) := by decide +kernel
theorem dX11_inForce_27 : decode cX11_inForce 27 = .ok (.iload_n 2, 1) := by decide +kernel
theorem dX11_inForce_28 : decode cX11_inForce 28 = .ok (.if_icmp .gt 5, 3) := by decide +kernel
theorem dX11_inForce_31 : decode cX11_inForce 31 = .ok (.iload_n 3, 1) := by decide +kernel
theorem dX11_inForce_32 : decode cX11_inForce 32 = .ok (.ireturn, 1) := by decide +kernel
theorem dX11_inForce_33 : decode cX11_inForce 33 = .ok (.iinc 3 (-1), 3) := by decide +kernel
theorem dX11_inForce_36 : decode cX11_inForce 36 = .ok (.goto (-27), 3) := by decide +kernel
theorem dX11_inForce_39 : decode cX11_inForce 39 = .ok (.bipush (-4), 2) := by decide +kernel
theorem dX11_inForce_41 : decode cX11_inForce 41 = .ok (.ireturn, 1) := by decide +kernel
theorem dX11_bestByName_0 : decode cX11_bestByName 0 = .ok (.iconst (-1), 1) := by decide +kernel
theorem dX11_bestByName_1 : decode cX11_bestByName 1 = .ok (.istore 4, 2) := by decide +kernel
theorem dX11_bestByName_3 : decode cX11_bestByName 3 = .ok (.iconst 0, 1) := by decide +kernel
theorem dX11_bestByName_4 : decode cX11_bestByName 4 = .ok (.istore 5, 2) := by decide +kernel
theorem dX11_bestByName_6 : decode cX11_bestByName 6 = .ok (.iload 5, 2) := by decide +kernel
theorem dX11_bestByName_8 : decode cX11_bestByName 8 = .ok (.aload_n 0, 1) := by decide +kernel
theorem dX11_bestByName_9 : decode cX11_bestByName 9 = .ok (.getfield 67, 3) := by decide +kernel
theorem dX11_bestByName_12 : decode cX11_bestByName 12 = .ok (.if_icmp .ge 66, 3) := by decide +kernel
theorem dX11_bestByName_15 : decode cX11_bestByName 15 = .ok (.aload_n 0, 1) := by decide +kernel
theorem dX11_bestByName_16 : decode cX11_bestByName 16 = .ok (.getfield 63, 3) := by decide +kernel
theorem dX11_bestByName_19 : decode cX11_bestByName 19 = .ok (.iload 5, 2) := by decide +kernel
theorem dX11_bestByName_21 : decode cX11_bestByName 21 = .ok (.aaload, 1) := by decide +kernel
theorem dX11_bestByName_22 : decode cX11_bestByName 22 = .ok (.astore 6, 2) := by decide +kernel
theorem dX11_bestByName_24 : decode cX11_bestByName 24 = .ok (.aload 6, 2) := by decide +kernel
theorem dX11_bestByName_26 : decode cX11_bestByName 26 = .ok (.getfield 243, 3) := by decide +kernel
theorem dX11_bestByName_29 : decode cX11_bestByName 29 = .ok (.iconst 2, 1) := by decide +kernel
theorem dX11_bestByName_30 : decode cX11_bestByName 30 = .ok (.if_icmp .ne 42, 3) := by decide +kernel
theorem dX11_bestByName_33 : decode cX11_bestByName 33 = .ok (.aload 6, 2) := by decide +kernel
theorem dX11_bestByName_35 : decode cX11_bestByName 35 = .ok (.getfield 246, 3) := by decide +kernel
theorem dX11_bestByName_38 : decode cX11_bestByName 38 = .ok (.iload_n 1, 1) := by decide +kernel
theorem dX11_bestByName_39 : decode cX11_bestByName 39 = .ok (.if_icmp .ne 33, 3) := by decide +kernel
theorem dX11_bestByName_42 : decode cX11_bestByName 42 = .ok (.aload 6, 2) := by decide +kernel
theorem dX11_bestByName_44 : decode cX11_bestByName 44 = .ok (.getfield 305, 3) := by decide +kernel
theorem dX11_bestByName_47 : decode cX11_bestByName 47 = .ok (.iload_n 2, 1) := by decide +kernel
theorem dX11_bestByName_48 : decode cX11_bestByName 48 = .ok (.if_icmp .ne 24, 3) := by decide +kernel
theorem dX11_bestByName_51 : decode cX11_bestByName 51 = .ok (.aload 6, 2) := by decide +kernel
theorem dX11_bestByName_53 : decode cX11_bestByName 53 = .ok (.getfield 293, 3) := by decide +kernel
theorem dX11_bestByName_56 : decode cX11_bestByName 56 = .ok (.iload_n 3, 1) := by decide +kernel
theorem dX11_bestByName_57 : decode cX11_bestByName 57 = .ok (.if_icmp .gt 15, 3) := by decide +kernel
theorem dX11_bestByName_60 : decode cX11_bestByName 60 = .ok (.iload 4, 2) := by decide +kernel
theorem dX11_bestByName_62 : decode cX11_bestByName 62 = .ok (.aload 6, 2) := by decide +kernel
theorem dX11_bestByName_64 : decode cX11_bestByName 64 = .ok (.getfield 290, 3) := by decide +kernel
theorem dX11_bestByName_67 : decode cX11_bestByName 67 = .ok (.invokestatic 352, 3) := by decide +kernel
theorem dX11_bestByName_70 : decode cX11_bestByName 70 = .ok (.istore 4, 2) := by decide +kernel
theorem dX11_bestByName_72 : decode cX11_bestByName 72 = .ok (.iinc 5 1, 3) := by decide +kernel
theorem dX11_bestByName_75 : decode cX11_bestByName 75 = .ok (.goto (-69), 3) := by decide +kernel
theorem dX11_bestByName_78 : decode cX11_bestByName 78 = .ok (.iload 4, 2) := by decide +kernel
theorem dX11_bestByName_80 : decode cX11_bestByName 80 = .ok (.ireturn, 1) := by decide +kernel
theorem dX11_fillBests_0 : decode cX11_fillBests 0 = .ok (.iconst 0, 1) := by decide +kernel
theorem dX11_fillBests_1 : decode cX11_fillBests 1 = .ok (.istore_n 3, 1) := by decide +kernel
theorem dX11_fillBests_2 : decode cX11_fillBests 2 = .ok (.iload_n 3, 1) := by decide +kernel
theorem dX11_fillBests_3 : decode cX11_fillBests 3 = .ok (.bipush 8, 2) := by decide +kernel
theorem dX11_fillBests_5 : decode cX11_fillBests 5 = .ok (.if_icmp .ge 41, 3) := by decide +kernel
theorem dX11_fillBests_8 : decode cX11_fillBests 8 = .ok (.aload_n 0, 1) := by decide +kernel
theorem dX11_fillBests_9 : decode cX11_fillBests 9 = .ok (.getfield 110, 3) := by decide +kernel
theorem dX11_fillBests_12 : decode cX11_fillBests 12 = .ok (.iload_n 3, 1) := by decide +kernel
theorem dX11_fillBests_13 : decode cX11_fillBests 13 = .ok (.aload_n 2, 1) := by decide +kernel
theorem dX11_fillBests_14 : decode cX11_fillBests 14 = .ok (.iload_n 3, 1) := by decide +kernel
theorem dX11_fillBests_15 : decode cX11_fillBests 15 = .ok (.invokevirtual 156, 3) := by decide +kernel
theorem dX11_fillBests_18 : decode cX11_fillBests 18 = .ok (.ifCond .eq 20, 3) := by decide +kernel
theorem dX11_fillBests_21 : decode cX11_fillBests 21 = .ok (.aload_n 0, 1) := by decide +kernel
theorem dX11_fillBests_22 : decode cX11_fillBests 22 = .ok (.iload_n 1, 1) := by decide +kernel
theorem dX11_fillBests_23 : decode cX11_fillBests 23 = .ok (.aload_n 2, 1) := by decide +kernel
theorem dX11_fillBests_24 : decode cX11_fillBests 24 = .ok (.getfield 159, 3) := by decide +kernel
theorem dX11_fillBests_27 : decode cX11_fillBests 27 = .ok (.iload_n 3, 1) := by decide +kernel
theorem dX11_fillBests_28 : decode cX11_fillBests 28 = .ok (.iaload, 1) := by decide +kernel
theorem dX11_fillBests_29 : decode cX11_fillBests 29 = .ok (.sipush 3999, 3) := by decide +kernel
theorem dX11_fillBests_32 : decode cX11_fillBests 32 = .ok (.invokevirtual 201, 3) := by decide +kernel
theorem dX11_fillBests_35 : decode cX11_fillBests 35 = .ok (.goto 4, 3) := by decide +kernel
theorem dX11_fillBests_38 : decode cX11_fillBests 38 = .ok (.iconst (-1), 1) := by decide +kernel
theorem dX11_fillBests_39 : decode cX11_fillBests 39 = .ok (.iastore, 1) := by decide +kernel
theorem dX11_fillBests_40 : decode cX11_fillBests 40 = .ok (.iinc 3 1, 3) := by decide +kernel
theorem dX11_fillBests_43 : decode cX11_fillBests 43 = .ok (.goto (-41), 3) := by decide +kernel
theorem dX11_fillBests_46 : decode cX11_fillBests 46 = .ok (.return_, 1) := by decide +kernel
theorem dX11_carry_0 : decode cX11_carry 0 = .ok (.aload_n 0, 1) := by decide +kernel
theorem dX11_carry_1 : decode cX11_carry 1 = .ok (.getfield 72, 3) := by decide +kernel
theorem dX11_carry_4 : decode cX11_carry 4 = .ok (.aload_n 2, 1) := by decide +kernel
theorem dX11_carry_5 : decode cX11_carry 5 = .ok (.getfield 179, 3) := by decide +kernel
theorem dX11_carry_8 : decode cX11_carry 8 = .ok (.aaload, 1) := by decide +kernel
theorem dX11_carry_9 : decode cX11_carry 9 = .ok (.astore 4, 2) := by decide +kernel
theorem dX11_carry_11 : decode cX11_carry 11 = .ok (.aload_n 1, 1) := by decide +kernel
theorem dX11_carry_12 : decode cX11_carry 12 = .ok (.iload_n 3, 1) := by decide +kernel
theorem dX11_carry_13 : decode cX11_carry 13 = .ok (.putfield 310, 3) := by decide +kernel
theorem dX11_carry_16 : decode cX11_carry 16 = .ok (.aload 4, 2) := by decide +kernel
theorem dX11_carry_18 : decode cX11_carry 18 = .ok (.invokevirtual 409, 3) := by decide +kernel
theorem dX11_carry_21 : decode cX11_carry 21 = .ok (.ifCond .eq 17, 3) := by decide +kernel
theorem dX11_carry_24 : decode cX11_carry 24 = .ok (.aload_n 1, 1) := by decide +kernel
theorem dX11_carry_25 : decode cX11_carry 25 = .ok (.iconst 4, 1) := by decide +kernel
theorem dX11_carry_26 : decode cX11_carry 26 = .ok (.putfield 243, 3) := by decide +kernel
theorem dX11_carry_29 : decode cX11_carry 29 = .ok (.aload_n 1, 1) := by decide +kernel
theorem dX11_carry_30 : decode cX11_carry 30 = .ok (.bipush (-4), 2) := by decide +kernel
theorem dX11_carry_32 : decode cX11_carry 32 = .ok (.putfield 249, 3) := by decide +kernel
theorem dX11_carry_35 : decode cX11_carry 35 = .ok (.goto 14, 3) := by decide +kernel
theorem dX11_carry_38 : decode cX11_carry 38 = .ok (.aload_n 1, 1) := by decide +kernel
theorem dX11_carry_39 : decode cX11_carry 39 = .ok (.iload_n 3, 1) := by decide +kernel
theorem dX11_carry_40 : decode cX11_carry 40 = .ok (.aload 4, 2) := by decide +kernel
theorem dX11_carry_42 : decode cX11_carry 42 = .ok (.getfield 220, 3) := by decide +kernel
theorem dX11_carry_45 : decode cX11_carry 45 = .ok (.iadd, 1) := by decide +kernel
theorem dX11_carry_46 : decode cX11_carry 46 = .ok (.putfield 249, 3) := by decide +kernel
theorem dX11_carry_49 : decode cX11_carry 49 = .ok (.aload_n 1, 1) := by decide +kernel
theorem dX11_carry_50 : decode cX11_carry 50 = .ok (.getfield 249, 3) := by decide +kernel
theorem dX11_carry_53 : decode cX11_carry 53 = .ok (.ireturn, 1) := by decide +kernel
theorem dX11_unload_0 : decode cX11_unload 0 = .ok (.aload_n 0, 1) := by decide +kernel
theorem dX11_unload_1 : decode cX11_unload 1 = .ok (.aload_n 1, 1) := by decide +kernel
theorem dX11_unload_2 : decode cX11_unload 2 = .ok (.getfield 270, 3) := by decide +kernel
theorem dX11_unload_5 : decode cX11_unload 5 = .ok (.invokevirtual 252, 3) := by decide +kernel
theorem dX11_unload_8 : decode cX11_unload 8 = .ok (.astore_n 2, 1) := by decide +kernel
theorem dX11_unload_9 : decode cX11_unload 9 = .ok (.aload_n 2, 1) := by decide +kernel
theorem dX11_unload_10 : decode cX11_unload 10 = .ok (.ifnull 13, 3) := by decide +kernel
theorem dX11_unload_13 : decode cX11_unload 13 = .ok (.aload_n 2, 1) := by decide +kernel
theorem dX11_unload_14 : decode cX11_unload 14 = .ok (.dup, 1) := by decide +kernel
theorem dX11_unload_15 : decode cX11_unload 15 = .ok (.getfield 267, 3) := by decide +kernel
theorem dX11_unload_18 : decode cX11_unload 18 = .ok (.iconst 1, 1) := by decide +kernel
theorem dX11_unload_19 : decode cX11_unload 19 = .ok (.isub, 1) := by decide +kernel
theorem dX11_unload_20 : decode cX11_unload 20 = .ok (.putfield 267, 3) := by decide +kernel
theorem dX11_unload_23 : decode cX11_unload 23 = .ok (.return_, 1) := by decide +kernel
theorem dX11_knownOn_0 : decode cX11_knownOn 0 = .ok (.aload_n 0, 1) := by decide +kernel
theorem dX11_knownOn_1 : decode cX11_knownOn 1 = .ok (.aload_n 1, 1) := by decide +kernel
theorem dX11_knownOn_2 : decode cX11_knownOn 2 = .ok (.getfield 246, 3) := by decide +kernel
theorem dX11_knownOn_5 : decode cX11_knownOn 5 = .ok (.invokevirtual 175, 3) := by decide +kernel
theorem dX11_knownOn_8 : decode cX11_knownOn 8 = .ok (.astore_n 2, 1) := by decide +kernel
theorem dX11_knownOn_9 : decode cX11_knownOn 9 = .ok (.aload_n 2, 1) := by decide +kernel
theorem dX11_knownOn_10 : decode cX11_knownOn 10 = .ok (.ifnonnull 8, 3) := by decide +kernel
theorem dX11_knownOn_13 : decode cX11_knownOn 13 = .ok (.bipush (-4), 2) := by decide +kernel
theorem dX11_knownOn_15 : decode cX11_knownOn 15 = .ok (.goto 20, 3) := by decide +kernel
theorem dX11_knownOn_18 : decode cX11_knownOn 18 = .ok (.aload_n 1, 1) := by decide +kernel
theorem dX11_knownOn_19 : decode cX11_knownOn 19 = .ok (.getfield 293, 3) := by decide +kernel
theorem dX11_knownOn_22 : decode cX11_knownOn 22 = .ok (.aload_n 0, 1) := by decide +kernel
theorem dX11_knownOn_23 : decode cX11_knownOn 23 = .ok (.getfield 72, 3) := by decide +kernel
theorem dX11_knownOn_26 : decode cX11_knownOn 26 = .ok (.aload_n 2, 1) := by decide +kernel
theorem dX11_knownOn_27 : decode cX11_knownOn 27 = .ok (.getfield 179, 3) := by decide +kernel
theorem dX11_knownOn_30 : decode cX11_knownOn 30 = .ok (.aaload, 1) := by decide +kernel
theorem dX11_knownOn_31 : decode cX11_knownOn 31 = .ok (.getfield 220, 3) := by decide +kernel
theorem dX11_knownOn_34 : decode cX11_knownOn 34 = .ok (.iadd, 1) := by decide +kernel
theorem dX11_knownOn_35 : decode cX11_knownOn 35 = .ok (.ireturn, 1) := by decide +kernel
theorem dX11_shareBy_0 : decode cX11_shareBy 0 = .ok (.aload_n 0, 1) := by decide +kernel
theorem dX11_shareBy_1 : decode cX11_shareBy 1 = .ok (.getfield 99, 3) := by decide +kernel
theorem dX11_shareBy_4 : decode cX11_shareBy 4 = .ok (.invokevirtual 412, 3) := by decide +kernel
theorem dX11_shareBy_7 : decode cX11_shareBy 7 = .ok (.iconst 0, 1) := by decide +kernel
theorem dX11_shareBy_8 : decode cX11_shareBy 8 = .ok (.istore_n 2, 1) := by decide +kernel
theorem dX11_shareBy_9 : decode cX11_shareBy 9 = .ok (.iload_n 2, 1) := by decide +kernel
theorem dX11_shareBy_10 : decode cX11_shareBy 10 = .ok (.aload_n 0, 1) := by decide +kernel
theorem dX11_shareBy_11 : decode cX11_shareBy 11 = .ok (.getfield 58, 3) := by decide +kernel
theorem dX11_shareBy_14 : decode cX11_shareBy 14 = .ok (.if_icmp .ge 22, 3) := by decide +kernel
theorem dX11_shareBy_17 : decode cX11_shareBy 17 = .ok (.aload_n 0, 1) := by decide +kernel
theorem dX11_shareBy_18 : decode cX11_shareBy 18 = .ok (.getfield 99, 3) := by decide +kernel
theorem dX11_shareBy_21 : decode cX11_shareBy 21 = .ok (.aload_n 0, 1) := by decide +kernel
theorem dX11_shareBy_22 : decode cX11_shareBy 22 = .ok (.getfield 54, 3) := by decide +kernel
theorem dX11_shareBy_25 : decode cX11_shareBy 25 = .ok (.iload_n 2, 1) := by decide +kernel
theorem dX11_shareBy_26 : decode cX11_shareBy 26 = .ok (.aaload, 1) := by decide +kernel
theorem dX11_shareBy_27 : decode cX11_shareBy 27 = .ok (.invokevirtual 415, 3) := by decide +kernel
theorem dX11_shareBy_30 : decode cX11_shareBy 30 = .ok (.iinc 2 1, 3) := by decide +kernel
theorem dX11_shareBy_33 : decode cX11_shareBy 33 = .ok (.goto (-24), 3) := by decide +kernel
theorem dX11_shareBy_36 : decode cX11_shareBy 36 = .ok (.iconst 0, 1) := by decide +kernel
theorem dX11_shareBy_37 : decode cX11_shareBy 37 = .ok (.istore_n 2, 1) := by decide +kernel
theorem dX11_shareBy_38 : decode cX11_shareBy 38 = .ok (.iload_n 2, 1) := by decide +kernel
theorem dX11_shareBy_39 : decode cX11_shareBy 39 = .ok (.aload_n 0, 1) := by decide +kernel
theorem dX11_shareBy_40 : decode cX11_shareBy 40 = .ok (.getfield 67, 3) := by decide +kernel
theorem dX11_shareBy_43 : decode cX11_shareBy 43 = .ok (.if_icmp .ge 40, 3) := by decide +kernel
theorem dX11_shareBy_46 : decode cX11_shareBy 46 = .ok (.aload_n 0, 1) := by decide +kernel
theorem dX11_shareBy_47 : decode cX11_shareBy 47 = .ok (.getfield 63, 3) := by decide +kernel
theorem dX11_shareBy_50 : decode cX11_shareBy 50 = .ok (.iload_n 2, 1) := by decide +kernel
theorem dX11_shareBy_51 : decode cX11_shareBy 51 = .ok (.aaload, 1) := by decide +kernel
theorem dX11_shareBy_52 : decode cX11_shareBy 52 = .ok (.iload_n 1, 1) := by decide +kernel
theorem dX11_shareBy_53 : decode cX11_shareBy 53 = .ok (.invokevirtual 260, 3) := by decide +kernel
theorem dX11_shareBy_56 : decode cX11_shareBy 56 = .ok (.ifCond .eq 21, 3) := by decide +kernel
theorem dX11_shareBy_59 : decode cX11_shareBy 59 = .ok (.aload_n 0, 1) := by decide +kernel
theorem dX11_shareBy_60 : decode cX11_shareBy 60 = .ok (.getfield 99, 3) := by decide +kernel
theorem dX11_shareBy_63 : decode cX11_shareBy 63 = .ok (.iload_n 2, 1) := by decide +kernel
theorem dX11_shareBy_64 : decode cX11_shareBy 64 = .ok (.aload_n 0, 1) := by decide +kernel
theorem dX11_shareBy_65 : decode cX11_shareBy 65 = .ok (.aload_n 0, 1) := by decide +kernel
theorem dX11_shareBy_66 : decode cX11_shareBy 66 = .ok (.getfield 63, 3) := by decide +kernel
theorem dX11_shareBy_69 : decode cX11_shareBy 69 = .ok (.iload_n 2, 1) := by decide +kernel
theorem dX11_shareBy_70 : decode cX11_shareBy 70 = .ok (.aaload, 1) := by decide +kernel
theorem dX11_shareBy_71 : decode cX11_shareBy 71 = .ok (.invokevirtual 419, 3) := by decide +kernel
theorem dX11_shareBy_74 : decode cX11_shareBy 74 = .ok (.invokevirtual 422, 3) := by decide +kernel
theorem dX11_shareBy_77 : decode cX11_shareBy 77 = .ok (.iinc 2 1, 3) := by decide +kernel
theorem dX11_shareBy_80 : decode cX11_shareBy 80 = .ok (.goto (-42), 3) := by decide +kernel
theorem dX11_shareBy_83 : decode cX11_shareBy 83 = .ok (.aload_n 0, 1) := by decide +kernel
theorem dX11_shareBy_84 : decode cX11_shareBy 84 = .ok (.getfield 99, 3) := by decide +kernel
theorem dX11_shareBy_87 : decode cX11_shareBy 87 = .ok (.invokevirtual 425, 3) := by decide +kernel
theorem dX11_shareBy_90 : decode cX11_shareBy 90 = .ok (.return_, 1) := by decide +kernel
theorem dX11_tutorsFor_0 : decode cX11_tutorsFor 0 = .ok (.iconst 0, 1) := by decide +kernel
theorem dX11_tutorsFor_1 : decode cX11_tutorsFor 1 = .ok (.istore_n 2, 1) := by decide +kernel
theorem dX11_tutorsFor_2 : decode cX11_tutorsFor 2 = .ok (.iconst 0, 1) := by decide +kernel
theorem dX11_tutorsFor_3 : decode cX11_tutorsFor 3 = .ok (.istore_n 3, 1) := by decide +kernel
theorem dX11_tutorsFor_4 : decode cX11_tutorsFor 4 = .ok (.iload_n 3, 1) := by decide +kernel
theorem dX11_tutorsFor_5 : decode cX11_tutorsFor 5 = .ok (.aload_n 0, 1) := by decide +kernel
theorem dX11_tutorsFor_6 : decode cX11_tutorsFor 6 = .ok (.getfield 58, 3) := by decide +kernel
theorem dX11_tutorsFor_9 : decode cX11_tutorsFor 9 = .ok (.if_icmp .ge 28, 3) := by decide +kernel
theorem dX11_tutorsFor_12 : decode cX11_tutorsFor 12 = .ok (.aload_n 0, 1) := by decide +kernel
theorem dX11_tutorsFor_13 : decode cX11_tutorsFor 13 = .ok (.getfield 54, 3) := by decide +kernel
theorem dX11_tutorsFor_16 : decode cX11_tutorsFor 16 = .ok (.iload_n 3, 1) := by decide +kernel
theorem dX11_tutorsFor_17 : decode cX11_tutorsFor 17 = .ok (.aaload, 1) := by decide +kernel
theorem dX11_tutorsFor_18 : decode cX11_tutorsFor 18 = .ok (.aload_n 1, 1) := by decide +kernel
theorem dX11_tutorsFor_19 : decode cX11_tutorsFor 19 = .ok (.invokevirtual 263, 3) := by decide +kernel
theorem dX11_tutorsFor_22 : decode cX11_tutorsFor 22 = .ok (.ifCond .eq 9, 3) := by decide +kernel
theorem dX11_tutorsFor_25 : decode cX11_tutorsFor 25 = .ok (.iload_n 2, 1) := by decide +kernel
theorem dX11_tutorsFor_26 : decode cX11_tutorsFor 26 = .ok (.iconst 1, 1) := by decide +kernel
theorem dX11_tutorsFor_27 : decode cX11_tutorsFor 27 = .ok (.iload_n 3, 1) := by decide +kernel
theorem dX11_tutorsFor_28 : decode cX11_tutorsFor 28 = .ok (.ishl, 1) := by decide +kernel
theorem dX11_tutorsFor_29 : decode cX11_tutorsFor 29 = .ok (.ior, 1) := by decide +kernel
theorem dX11_tutorsFor_30 : decode cX11_tutorsFor 30 = .ok (.istore_n 2, 1) := by decide +kernel
theorem dX11_tutorsFor_31 : decode cX11_tutorsFor 31 = .ok (.iinc 3 1, 3) := by decide +kernel
theorem dX11_tutorsFor_34 : decode cX11_tutorsFor 34 = .ok (.goto (-30), 3) := by decide +kernel
theorem dX11_tutorsFor_37 : decode cX11_tutorsFor 37 = .ok (.iload_n 2, 1) := by decide +kernel
theorem dX11_tutorsFor_38 : decode cX11_tutorsFor 38 = .ok (.ireturn, 1) := by decide +kernel
theorem dX11_areComparable_0 : decode cX11_areComparable 0 = .ok (.aload_n 0, 1) := by decide +kernel
theorem dX11_areComparable_1 : decode cX11_areComparable 1 = .ok (.getfield 305, 3) := by decide +kernel
theorem dX11_areComparable_4 : decode cX11_areComparable 4 = .ok (.aload_n 1, 1) := by decide +kernel
theorem dX11_areComparable_5 : decode cX11_areComparable 5 = .ok (.getfield 305, 3) := by decide +kernel
theorem dX11_areComparable_8 : decode cX11_areComparable 8 = .ok (.if_icmp .ne 18, 3) := by decide +kernel
theorem dX11_areComparable_11 : decode cX11_areComparable 11 = .ok (.aload_n 0, 1) := by decide +kernel
theorem dX11_areComparable_12 : decode cX11_areComparable 12 = .ok (.getfield 246, 3) := by decide +kernel
theorem dX11_areComparable_15 : decode cX11_areComparable 15 = .ok (.aload_n 1, 1) := by decide +kernel
theorem dX11_areComparable_16 : decode cX11_areComparable 16 = .ok (.getfield 246, 3) := by decide +kernel
theorem dX11_areComparable_19 : decode cX11_areComparable 19 = .ok (.if_icmp .eq 7, 3) := by decide +kernel
theorem dX11_areComparable_22 : decode cX11_areComparable 22 = .ok (.iconst 1, 1) := by decide +kernel
theorem dX11_areComparable_23 : decode cX11_areComparable 23 = .ok (.goto 4, 3) := by decide +kernel
theorem dX11_areComparable_26 : decode cX11_areComparable 26 = .ok (.iconst 0, 1) := by decide +kernel
theorem dX11_areComparable_27 : decode cX11_areComparable 27 = .ok (.ireturn, 1) := by decide +kernel
theorem dX11_likeness_0 : decode cX11_likeness 0 = .ok (.iconst 0, 1) := by decide +kernel
theorem dX11_likeness_1 : decode cX11_likeness 1 = .ok (.istore_n 3, 1) := by decide +kernel
theorem dX11_likeness_2 : decode cX11_likeness 2 = .ok (.iconst 0, 1) := by decide +kernel
theorem dX11_likeness_3 : decode cX11_likeness 3 = .ok (.istore 4, 2) := by decide +kernel
theorem dX11_likeness_5 : decode cX11_likeness 5 = .ok (.iload 4, 2) := by decide +kernel
theorem dX11_likeness_7 : decode cX11_likeness 7 = .ok (.bipush 20, 2) := by decide +kernel
theorem dX11_likeness_9 : decode cX11_likeness 9 = .ok (.if_icmp .ge 54, 3) := by decide +kernel
theorem dX11_likeness_12 : decode cX11_likeness 12 = .ok (.aload_n 1, 1) := by decide +kernel
theorem dX11_likeness_13 : decode cX11_likeness 13 = .ok (.getfield 355, 3) := by decide +kernel
theorem dX11_likeness_16 : decode cX11_likeness 16 = .ok (.iload 4, 2) := by decide +kernel
theorem dX11_likeness_18 : decode cX11_likeness 18 = .ok (.baload, 1) := by decide +kernel
theorem dX11_likeness_19 : decode cX11_likeness 19 = .ok (.aload_n 2, 1) := by decide +kernel
theorem dX11_likeness_20 : decode cX11_likeness 20 = .ok (.getfield 355, 3) := by decide +kernel
theorem dX11_likeness_23 : decode cX11_likeness 23 = .ok (.iload 4, 2) := by decide +kernel
theorem dX11_likeness_25 : decode cX11_likeness 25 = .ok (.baload, 1) := by decide +kernel
theorem dX11_likeness_26 : decode cX11_likeness 26 = .ok (.if_icmp .ne 31, 3) := by decide +kernel
theorem dX11_likeness_29 : decode cX11_likeness 29 = .ok (.aload_n 1, 1) := by decide +kernel
theorem dX11_likeness_30 : decode cX11_likeness 30 = .ok (.getfield 355, 3) := by decide +kernel
theorem dX11_likeness_33 : decode cX11_likeness 33 = .ok (.iload 4, 2) := by decide +kernel
theorem dX11_likeness_35 : decode cX11_likeness 35 = .ok (.baload, 1) := by decide +kernel
theorem dX11_likeness_36 : decode cX11_likeness 36 = .ok (.aload_n 0, 1) := by decide +kernel
theorem dX11_likeness_37 : decode cX11_likeness 37 = .ok (.getfield 83, 3) := by decide +kernel
theorem dX11_likeness_40 : decode cX11_likeness 40 = .ok (.aload_n 1, 1) := by decide +kernel
theorem dX11_likeness_41 : decode cX11_likeness 41 = .ok (.getfield 305, 3) := by decide +kernel
theorem dX11_likeness_44 : decode cX11_likeness 44 = .ok (.bipush 20, 2) := by decide +kernel
theorem dX11_likeness_46 : decode cX11_likeness 46 = .ok (.imul, 1) := by decide +kernel
theorem dX11_likeness_47 : decode cX11_likeness 47 = .ok (.iload 4, 2) := by decide +kernel
theorem dX11_likeness_49 : decode cX11_likeness 49 = .ok (.iadd, 1) := by decide +kernel
theorem dX11_likeness_50 : decode cX11_likeness 50 = .ok (.baload, 1) := by decide +kernel
theorem dX11_likeness_51 : decode cX11_likeness 51 = .ok (.if_icmp .eq 6, 3) := by decide +kernel
theorem dX11_likeness_54 : decode cX11_likeness 54 = .ok (.iinc 3 1, 3) := by decide +kernel
theorem dX11_likeness_57 : decode cX11_likeness 57 = .ok (.iinc 4 1, 3) := by decide +kernel
theorem dX11_likeness_60 : decode cX11_likeness 60 = .ok (.goto (-55), 3) := by decide +kernel
theorem dX11_likeness_63 : decode cX11_likeness 63 = .ok (.iload_n 3, 1) := by decide +kernel
theorem dX11_likeness_64 : decode cX11_likeness 64 = .ok (.ireturn, 1) := by decide +kernel
theorem dX11_isDoubted_0 : decode cX11_isDoubted 0 = .ok (.aload_n 1, 1) := by decide +kernel
theorem dX11_isDoubted_1 : decode cX11_isDoubted 1 = .ok (.invokevirtual 256, 3) := by decide +kernel
theorem dX11_isDoubted_4 : decode cX11_isDoubted 4 = .ok (.ifCond .eq 35, 3) := by decide +kernel
theorem dX11_isDoubted_7 : decode cX11_isDoubted 7 = .ok (.aload_n 2, 1) := by decide +kernel
theorem dX11_isDoubted_8 : decode cX11_isDoubted 8 = .ok (.invokevirtual 256, 3) := by decide +kernel
theorem dX11_isDoubted_11 : decode cX11_isDoubted 11 = .ok (.ifCond .eq 28, 3) := by decide +kernel
theorem dX11_isDoubted_14 : decode cX11_isDoubted 14 = .ok (.aload_n 1, 1) := by decide +kernel
theorem dX11_isDoubted_15 : decode cX11_isDoubted 15 = .ok (.aload_n 2, 1) := by decide +kernel
theorem dX11_isDoubted_16 : decode cX11_isDoubted 16 = .ok (.invokestatic 358, 3) := by decide +kernel
theorem dX11_isDoubted_19 : decode cX11_isDoubted 19 = .ok (.ifCond .eq 20, 3) := by decide +kernel
theorem dX11_isDoubted_22 : decode cX11_isDoubted 22 = .ok (.aload_n 0, 1) := by decide +kernel
theorem dX11_isDoubted_23 : decode cX11_isDoubted 23 = .ok (.aload_n 1, 1) := by decide +kernel
theorem dX11_isDoubted_24 : decode cX11_isDoubted 24 = .ok (.aload_n 2, 1) := by decide +kernel
theorem dX11_isDoubted_25 : decode cX11_isDoubted 25 = .ok (.invokevirtual 362, 3) := by decide +kernel
theorem dX11_isDoubted_28 : decode cX11_isDoubted 28 = .ok (.aload_n 0, 1) := by decide +kernel
theorem dX11_isDoubted_29 : decode cX11_isDoubted 29 = .ok (.getfield 87, 3) := by decide +kernel
theorem dX11_isDoubted_32 : decode cX11_isDoubted 32 = .ok (.if_icmp .le 7, 3) := by decide +kernel
theorem dX11_isDoubted_35 : decode cX11_isDoubted 35 = .ok (.iconst 1, 1) := by decide +kernel
theorem dX11_isDoubted_36 : decode cX11_isDoubted 36 = .ok (.goto 4, 3) := by decide +kernel
theorem dX11_isDoubted_39 : decode cX11_isDoubted 39 = .ok (.iconst 0, 1) := by decide +kernel
theorem dX11_isDoubted_40 : decode cX11_isDoubted 40 = .ok (.ireturn, 1) := by decide +kernel
theorem dJ6_bitCount_0f7a4_0 : decode cJ6_bitCount_0f7a4 0 = .ok (.iload_n 0, 1) := by decide +kernel
theorem dJ6_bitCount_0f7a4_1 : decode cJ6_bitCount_0f7a4 1 = .ok (.iload_n 0, 1) := by decide +kernel
theorem dJ6_bitCount_0f7a4_2 : decode cJ6_bitCount_0f7a4 2 = .ok (.iconst 1, 1) := by decide +kernel
theorem dJ6_bitCount_0f7a4_3 : decode cJ6_bitCount_0f7a4 3 = .ok (.iushr, 1) := by decide +kernel
theorem dJ6_bitCount_0f7a4_4 : decode cJ6_bitCount_0f7a4 4 = .ok (.ldc_w 265, 3) := by decide +kernel
theorem dJ6_bitCount_0f7a4_7 : decode cJ6_bitCount_0f7a4 7 = .ok (.iand, 1) := by decide +kernel
theorem dJ6_bitCount_0f7a4_8 : decode cJ6_bitCount_0f7a4 8 = .ok (.isub, 1) := by decide +kernel
theorem dJ6_bitCount_0f7a4_9 : decode cJ6_bitCount_0f7a4 9 = .ok (.istore_n 0, 1) := by decide +kernel
theorem dJ6_bitCount_0f7a4_10 : decode cJ6_bitCount_0f7a4 10 = .ok (.iload_n 0, 1) := by decide +kernel
theorem dJ6_bitCount_0f7a4_11 : decode cJ6_bitCount_0f7a4 11 = .ok (.ldc_w 266, 3) := by decide +kernel
theorem dJ6_bitCount_0f7a4_14 : decode cJ6_bitCount_0f7a4 14 = .ok (.iand, 1) := by decide +kernel
theorem dJ6_bitCount_0f7a4_15 : decode cJ6_bitCount_0f7a4 15 = .ok (.iload_n 0, 1) := by decide +kernel
theorem dJ6_bitCount_0f7a4_16 : decode cJ6_bitCount_0f7a4 16 = .ok (.iconst 2, 1) := by decide +kernel
theorem dJ6_bitCount_0f7a4_17 : decode cJ6_bitCount_0f7a4 17 = .ok (.iushr, 1) := by decide +kernel
theorem dJ6_bitCount_0f7a4_18 : decode cJ6_bitCount_0f7a4 18 = .ok (.ldc_w 266, 3) := by decide +kernel
theorem dJ6_bitCount_0f7a4_21 : decode cJ6_bitCount_0f7a4 21 = .ok (.iand, 1) := by decide +kernel
theorem dJ6_bitCount_0f7a4_22 : decode cJ6_bitCount_0f7a4 22 = .ok (.iadd, 1) := by decide +kernel
theorem dJ6_bitCount_0f7a4_23 : decode cJ6_bitCount_0f7a4 23 = .ok (.istore_n 0, 1) := by decide +kernel
theorem dJ6_bitCount_0f7a4_24 : decode cJ6_bitCount_0f7a4 24 = .ok (.iload_n 0, 1) := by decide +kernel
theorem dJ6_bitCount_0f7a4_25 : decode cJ6_bitCount_0f7a4 25 = .ok (.iload_n 0, 1) := by decide +kernel
theorem dJ6_bitCount_0f7a4_26 : decode cJ6_bitCount_0f7a4 26 = .ok (.iconst 4, 1) := by decide +kernel
theorem dJ6_bitCount_0f7a4_27 : decode cJ6_bitCount_0f7a4 27 = .ok (.iushr, 1) := by decide +kernel
theorem dJ6_bitCount_0f7a4_28 : decode cJ6_bitCount_0f7a4 28 = .ok (.iadd, 1) := by decide +kernel
theorem dJ6_bitCount_0f7a4_29 : decode cJ6_bitCount_0f7a4 29 = .ok (.ldc_w 267, 3) := by decide +kernel
theorem dJ6_bitCount_0f7a4_32 : decode cJ6_bitCount_0f7a4 32 = .ok (.iand, 1) := by decide +kernel
theorem dJ6_bitCount_0f7a4_33 : decode cJ6_bitCount_0f7a4 33 = .ok (.istore_n 0, 1) := by decide +kernel
theorem dJ6_bitCount_0f7a4_34 : decode cJ6_bitCount_0f7a4 34 = .ok (.iload_n 0, 1) := by decide +kernel
theorem dJ6_bitCount_0f7a4_35 : decode cJ6_bitCount_0f7a4 35 = .ok (.iload_n 0, 1) := by decide +kernel
theorem dJ6_bitCount_0f7a4_36 : decode cJ6_bitCount_0f7a4 36 = .ok (.bipush 8, 2) := by decide +kernel
theorem dJ6_bitCount_0f7a4_38 : decode cJ6_bitCount_0f7a4 38 = .ok (.iushr, 1) := by decide +kernel
theorem dJ6_bitCount_0f7a4_39 : decode cJ6_bitCount_0f7a4 39 = .ok (.iadd, 1) := by decide +kernel
theorem dJ6_bitCount_0f7a4_40 : decode cJ6_bitCount_0f7a4 40 = .ok (.istore_n 0, 1) := by decide +kernel
theorem dJ6_bitCount_0f7a4_41 : decode cJ6_bitCount_0f7a4 41 = .ok (.iload_n 0, 1) := by decide +kernel
theorem dJ6_bitCount_0f7a4_42 : decode cJ6_bitCount_0f7a4 42 = .ok (.iload_n 0, 1) := by decide +kernel
theorem dJ6_bitCount_0f7a4_43 : decode cJ6_bitCount_0f7a4 43 = .ok (.bipush 16, 2) := by decide +kernel
theorem dJ6_bitCount_0f7a4_45 : decode cJ6_bitCount_0f7a4 45 = .ok (.iushr, 1) := by decide +kernel
theorem dJ6_bitCount_0f7a4_46 : decode cJ6_bitCount_0f7a4 46 = .ok (.iadd, 1) := by decide +kernel
theorem dJ6_bitCount_0f7a4_47 : decode cJ6_bitCount_0f7a4 47 = .ok (.istore_n 0, 1) := by decide +kernel
theorem dJ6_bitCount_0f7a4_48 : decode cJ6_bitCount_0f7a4 48 = .ok (.iload_n 0, 1) := by decide +kernel
theorem dJ6_bitCount_0f7a4_49 : decode cJ6_bitCount_0f7a4 49 = .ok (.bipush 63, 2) := by decide +kernel
theorem dJ6_bitCount_0f7a4_51 : decode cJ6_bitCount_0f7a4 51 = .ok (.iand, 1) := by decide +kernel
theorem dJ6_bitCount_0f7a4_52 : decode cJ6_bitCount_0f7a4 52 = .ok (.ireturn, 1) := by decide +kernel
theorem dJ9_max_7cf53_0 : decode cJ9_max_7cf53 0 = .ok (.iload_n 0, 1) := by decide +kernel
theorem dJ9_max_7cf53_1 : decode cJ9_max_7cf53 1 = .ok (.iload_n 1, 1) := by decide +kernel
theorem dJ9_max_7cf53_2 : decode cJ9_max_7cf53 2 = .ok (.if_icmp .lt 7, 3) := by decide +kernel
theorem dJ9_max_7cf53_5 : decode cJ9_max_7cf53 5 = .ok (.iload_n 0, 1) := by decide +kernel
theorem dJ9_max_7cf53_6 : decode cJ9_max_7cf53 6 = .ok (.goto 4, 3) := by decide +kernel
theorem dJ9_max_7cf53_9 : decode cJ9_max_7cf53 9 = .ok (.iload_n 1, 1) := by decide +kernel
theorem dJ9_max_7cf53_10 : decode cJ9_max_7cf53 10 = .ok (.ireturn, 1) := by decide +kernel
theorem dJ9_min_7cf53_0 : decode cJ9_min_7cf53 0 = .ok (.iload_n 0, 1) := by decide +kernel
theorem dJ9_min_7cf53_1 : decode cJ9_min_7cf53 1 = .ok (.iload_n 1, 1) := by decide +kernel
theorem dJ9_min_7cf53_2 : decode cJ9_min_7cf53 2 = .ok (.if_icmp .gt 7, 3) := by decide +kernel
theorem dJ9_min_7cf53_5 : decode cJ9_min_7cf53 5 = .ok (.iload_n 0, 1) := by decide +kernel
theorem dJ9_min_7cf53_6 : decode cJ9_min_7cf53 6 = .ok (.goto 4, 3) := by decide +kernel
theorem dJ9_min_7cf53_9 : decode cJ9_min_7cf53 9 = .ok (.iload_n 1, 1) := by decide +kernel
theorem dJ9_min_7cf53_10 : decode cJ9_min_7cf53 10 = .ok (.ireturn, 1) := by decide +kernel
theorem dJ7_fill_53178_0 : decode cJ7_fill_53178 0 = .ok (.iconst 0, 1) := by decide +kernel
theorem dJ7_fill_53178_1 : decode cJ7_fill_53178 1 = .ok (.istore_n 2, 1) := by decide +kernel
theorem dJ7_fill_53178_2 : decode cJ7_fill_53178 2 = .ok (.aload_n 0, 1) := by decide +kernel
theorem dJ7_fill_53178_3 : decode cJ7_fill_53178 3 = .ok (.arraylength, 1) := by decide +kernel
theorem dJ7_fill_53178_4 : decode cJ7_fill_53178 4 = .ok (.istore_n 3, 1) := by decide +kernel
theorem dJ7_fill_53178_5 : decode cJ7_fill_53178 5 = .ok (.iload_n 2, 1) := by decide +kernel
theorem dJ7_fill_53178_6 : decode cJ7_fill_53178 6 = .ok (.iload_n 3, 1) := by decide +kernel
theorem dJ7_fill_53178_7 : decode cJ7_fill_53178 7 = .ok (.if_icmp .ge 13, 3) := by decide +kernel
theorem dJ7_fill_53178_10 : decode cJ7_fill_53178 10 = .ok (.aload_n 0, 1) := by decide +kernel
theorem dJ7_fill_53178_11 : decode cJ7_fill_53178 11 = .ok (.iload_n 2, 1) := by decide +kernel
theorem dJ7_fill_53178_12 : decode cJ7_fill_53178 12 = .ok (.iload_n 1, 1) := by decide +kernel
theorem dJ7_fill_53178_13 : decode cJ7_fill_53178 13 = .ok (.iastore, 1) := by decide +kernel
theorem dJ7_fill_53178_14 : decode cJ7_fill_53178 14 = .ok (.iinc 2 1, 3) := by decide +kernel
theorem dJ7_fill_53178_17 : decode cJ7_fill_53178 17 = .ok (.goto (-12), 3) := by decide +kernel
theorem dJ7_fill_53178_20 : decode cJ7_fill_53178 20 = .ok (.return_, 1) := by decide +kernel
