theorem dX12_findBests_2 : decode cX12_findBests 2 = .ok (.iload_n 3, 1) := by decide +kernel
theorem dX12_findBests_3 : decode cX12_findBests 3 = .ok (.bipush 40, 2) := by decide +kernel
theorem dX12_findBests_5 : decode cX12_findBests 5 = .ok (.if_icmp .ge 16, 3) := by decide +kernel
theorem dX12_findBests_8 : decode cX12_findBests 8 = .ok (.aload_n 0, 1) := by decide +kernel
theorem dX12_findBests_9 : decode cX12_findBests 9 = .ok (.getfield 77, 3) := by decide +kernel
theorem dX12_findBests_12 : decode cX12_findBests 12 = .ok (.iload_n 3, 1) := by decide +kernel
theorem dX12_findBests_13 : decode cX12_findBests 13 = .ok (.iconst (-1), 1) := by decide +kernel
theorem dX12_findBests_14 : decode cX12_findBests 14 = .ok (.iastore, 1) := by decide +kernel
theorem dX12_findBests_15 : decode cX12_findBests 15 = .ok (.iinc 3 1, 3) := by decide +kernel
theorem dX12_findBests_18 : decode cX12_findBests 18 = .ok (.goto (-16), 3) := by decide +kernel
theorem dX12_findBests_21 : decode cX12_findBests 21 = .ok (.iconst 0, 1) := by decide +kernel
theorem dX12_findBests_22 : decode cX12_findBests 22 = .ok (.istore_n 3, 1) := by decide +kernel
theorem dX12_findBests_23 : decode cX12_findBests 23 = .ok (.iload_n 3, 1) := by decide +kernel
theorem dX12_findBests_24 : decode cX12_findBests 24 = .ok (.aload_n 0, 1) := by decide +kernel
theorem dX12_findBests_25 : decode cX12_findBests 25 = .ok (.getfield 334, 3) := by decide +kernel
theorem dX12_findBests_28 : decode cX12_findBests 28 = .ok (.if_icmp .ge 86, 3) := by decide +kernel
theorem dX12_findBests_31 : decode cX12_findBests 31 = .ok (.aload_n 0, 1) := by decide +kernel
theorem dX12_findBests_32 : decode cX12_findBests 32 = .ok (.getfield 99, 3) := by decide +kernel
theorem dX12_findBests_35 : decode cX12_findBests 35 = .ok (.iload_n 3, 1) := by decide +kernel
theorem dX12_findBests_36 : decode cX12_findBests 36 = .ok (.iaload, 1) := by decide +kernel
theorem dX12_findBests_37 : decode cX12_findBests 37 = .ok (.iconst 2, 1) := by decide +kernel
theorem dX12_findBests_38 : decode cX12_findBests 38 = .ok (.if_icmp .ne 70, 3) := by decide +kernel
theorem dX12_findBests_41 : decode cX12_findBests 41 = .ok (.aload_n 0, 1) := by decide +kernel
theorem dX12_findBests_42 : decode cX12_findBests 42 = .ok (.getfield 102, 3) := by decide +kernel
theorem dX12_findBests_45 : decode cX12_findBests 45 = .ok (.iload_n 3, 1) := by decide +kernel
theorem dX12_findBests_46 : decode cX12_findBests 46 = .ok (.iaload, 1) := by decide +kernel
theorem dX12_findBests_47 : decode cX12_findBests 47 = .ok (.iload_n 1, 1) := by decide +kernel
theorem dX12_findBests_48 : decode cX12_findBests 48 = .ok (.if_icmp .ne 60, 3) := by decide +kernel
theorem dX12_findBests_51 : decode cX12_findBests 51 = .ok (.aload_n 0, 1) := by decide +kernel
theorem dX12_findBests_52 : decode cX12_findBests 52 = .ok (.getfield 132, 3) := by decide +kernel
theorem dX12_findBests_55 : decode cX12_findBests 55 = .ok (.iload_n 3, 1) := by decide +kernel
theorem dX12_findBests_56 : decode cX12_findBests 56 = .ok (.iaload, 1) := by decide +kernel
theorem dX12_findBests_57 : decode cX12_findBests 57 = .ok (.iload_n 2, 1) := by decide +kernel
theorem dX12_findBests_58 : decode cX12_findBests 58 = .ok (.if_icmp .gt 50, 3) := by decide +kernel
theorem dX12_findBests_61 : decode cX12_findBests 61 = .ok (.aload_n 0, 1) := by decide +kernel
theorem dX12_findBests_62 : decode cX12_findBests 62 = .ok (.getfield 105, 3) := by decide +kernel
theorem dX12_findBests_65 : decode cX12_findBests 65 = .ok (.iload_n 3, 1) := by decide +kernel
theorem dX12_findBests_66 : decode cX12_findBests 66 = .ok (.iaload, 1) := by decide +kernel
theorem dX12_findBests_67 : decode cX12_findBests 67 = .ok (.istore 4, 2) := by decide +kernel
theorem dX12_findBests_69 : decode cX12_findBests 69 = .ok (.aload_n 0, 1) := by decide +kernel
theorem dX12_findBests_70 : decode cX12_findBests 70 = .ok (.getfield 77, 3) := by decide +kernel
theorem dX12_findBests_73 : decode cX12_findBests 73 = .ok (.iload 4, 2) := by decide +kernel
theorem dX12_findBests_75 : decode cX12_findBests 75 = .ok (.aload_n 0, 1) := by decide +kernel
theorem dX12_findBests_76 : decode cX12_findBests 76 = .ok (.getfield 129, 3) := by decide +kernel
theorem dX12_findBests_79 : decode cX12_findBests 79 = .ok (.iload_n 3, 1) := by decide +kernel
theorem dX12_findBests_80 : decode cX12_findBests 80 = .ok (.iaload, 1) := by decide +kernel
theorem dX12_findBests_81 : decode cX12_findBests 81 = .ok (.aload_n 0, 1) := by decide +kernel
theorem dX12_findBests_82 : decode cX12_findBests 82 = .ok (.getfield 77, 3) := by decide +kernel
theorem dX12_findBests_85 : decode cX12_findBests 85 = .ok (.iload 4, 2) := by decide +kernel
theorem dX12_findBests_87 : decode cX12_findBests 87 = .ok (.iaload, 1) := by decide +kernel
theorem dX12_findBests_88 : decode cX12_findBests 88 = .ok (.if_icmp .le 12, 3) := by decide +kernel
theorem dX12_findBests_91 : decode cX12_findBests 91 = .ok (.aload_n 0, 1) := by decide +kernel
theorem dX12_findBests_92 : decode cX12_findBests 92 = .ok (.getfield 129, 3) := by decide +kernel
theorem dX12_findBests_95 : decode cX12_findBests 95 = .ok (.iload_n 3, 1) := by decide +kernel
theorem dX12_findBests_96 : decode cX12_findBests 96 = .ok (.iaload, 1) := by decide +kernel
theorem dX12_findBests_97 : decode cX12_findBests 97 = .ok (.goto 10, 3) := by decide +kernel
theorem dX12_findBests_100 : decode cX12_findBests 100 = .ok (.aload_n 0, 1) := by decide +kernel
theorem dX12_findBests_101 : decode cX12_findBests 101 = .ok (.getfield 77, 3) := by decide +kernel
theorem dX12_findBests_104 : decode cX12_findBests 104 = .ok (.iload 4, 2) := by decide +kernel
theorem dX12_findBests_106 : decode cX12_findBests 106 = .ok (.iaload, 1) := by decide +kernel
theorem dX12_findBests_107 : decode cX12_findBests 107 = .ok (.iastore, 1) := by decide +kernel
theorem dX12_findBests_108 : decode cX12_findBests 108 = .ok (.iinc 3 1, 3) := by decide +kernel
theorem dX12_findBests_111 : decode cX12_findBests 111 = .ok (.goto (-88), 3) := by decide +kernel
theorem dX12_findBests_114 : decode cX12_findBests 114 = .ok (.return_, 1) := by decide +kernel
theorem dX12_bestOf_0 : decode cX12_bestOf 0 = .ok (.aload_n 0, 1) := by decide +kernel
theorem dX12_bestOf_1 : decode cX12_bestOf 1 = .ok (.getfield 77, 3) := by decide +kernel
theorem dX12_bestOf_4 : decode cX12_bestOf 4 = .ok (.aload_n 0, 1) := by decide +kernel
theorem dX12_bestOf_5 : decode cX12_bestOf 5 = .ok (.getfield 40, 3) := by decide +kernel
theorem dX12_bestOf_8 : decode cX12_bestOf 8 = .ok (.bipush 8, 2) := by decide +kernel
theorem dX12_bestOf_10 : decode cX12_bestOf 10 = .ok (.iload_n 1, 1) := by decide +kernel
theorem dX12_bestOf_11 : decode cX12_bestOf 11 = .ok (.imul, 1) := by decide +kernel
theorem dX12_bestOf_12 : decode cX12_bestOf 12 = .ok (.iload_n 2, 1) := by decide +kernel
theorem dX12_bestOf_13 : decode cX12_bestOf 13 = .ok (.iadd, 1) := by decide +kernel
theorem dX12_bestOf_14 : decode cX12_bestOf 14 = .ok (.iaload, 1) := by decide +kernel
theorem dX12_bestOf_15 : decode cX12_bestOf 15 = .ok (.iaload, 1) := by decide +kernel
theorem dX12_bestOf_16 : decode cX12_bestOf 16 = .ok (.ireturn, 1) := by decide +kernel
theorem dX12_isPassed_0 : decode cX12_isPassed 0 = .ok (.aload_n 0, 1) := by decide +kernel
theorem dX12_isPassed_1 : decode cX12_isPassed 1 = .ok (.iload_n 1, 1) := by decide +kernel
theorem dX12_isPassed_2 : decode cX12_isPassed 2 = .ok (.iload_n 2, 1) := by decide +kernel
theorem dX12_isPassed_3 : decode cX12_isPassed 3 = .ok (.invokevirtual 337, 3) := by decide +kernel
theorem dX12_isPassed_6 : decode cX12_isPassed 6 = .ok (.aload_n 0, 1) := by decide +kernel
theorem dX12_isPassed_7 : decode cX12_isPassed 7 = .ok (.getfield 43, 3) := by decide +kernel
theorem dX12_isPassed_10 : decode cX12_isPassed 10 = .ok (.bipush 8, 2) := by decide +kernel
theorem dX12_isPassed_12 : decode cX12_isPassed 12 = .ok (.iload_n 1, 1) := by decide +kernel
theorem dX12_isPassed_13 : decode cX12_isPassed 13 = .ok (.imul, 1) := by decide +kernel
theorem dX12_isPassed_14 : decode cX12_isPassed 14 = .ok (.iload_n 2, 1) := by decide +kernel
theorem dX12_isPassed_15 : decode cX12_isPassed 15 = .ok (.iadd, 1) := by decide +kernel
theorem dX12_isPassed_16 : decode cX12_isPassed 16 = .ok (.iaload, 1) := by decide +kernel
theorem dX12_isPassed_17 : decode cX12_isPassed 17 = .ok (.if_icmp .lt 7, 3) := by decide +kernel
theorem dX12_isPassed_20 : decode cX12_isPassed 20 = .ok (.iconst 1, 1) := by decide +kernel
theorem dX12_isPassed_21 : decode cX12_isPassed 21 = .ok (.goto 4, 3) := by decide +kernel
theorem dX12_isPassed_24 : decode cX12_isPassed 24 = .ok (.iconst 0, 1) := by decide +kernel
theorem dX12_isPassed_25 : decode cX12_isPassed 25 = .ok (.ireturn, 1) := by decide +kernel
theorem dX12_holds_0 : decode cX12_holds 0 = .ok (.bipush 8, 2) := by decide +kernel
theorem dX12_holds_2 : decode cX12_holds 2 = .ok (.iload_n 1, 1) := by decide +kernel
theorem dX12_holds_3 : decode cX12_holds 3 = .ok (.imul, 1) := by decide +kernel
theorem dX12_holds_4 : decode cX12_holds 4 = .ok (.iload_n 2, 1) := by decide +kernel
theorem dX12_holds_5 : decode cX12_holds 5 = .ok (.iadd, 1) := by decide +kernel
theorem dX12_holds_6 : decode cX12_holds 6 = .ok (.istore_n 3, 1) := by decide +kernel
theorem dX12_holds_7 : decode cX12_holds 7 = .ok (.iconst 0, 1) := by decide +kernel
theorem dX12_holds_8 : decode cX12_holds 8 = .ok (.istore 4, 2) := by decide +kernel
theorem dX12_holds_10 : decode cX12_holds 10 = .ok (.aload_n 0, 1) := by decide +kernel
theorem dX12_holds_11 : decode cX12_holds 11 = .ok (.getfield 46, 3) := by decide +kernel
theorem dX12_holds_14 : decode cX12_holds 14 = .ok (.iload_n 3, 1) := by decide +kernel
theorem dX12_holds_15 : decode cX12_holds 15 = .ok (.iaload, 1) := by decide +kernel
theorem dX12_holds_16 : decode cX12_holds 16 = .ok (.istore 5, 2) := by decide +kernel
theorem dX12_holds_18 : decode cX12_holds 18 = .ok (.iload 5, 2) := by decide +kernel
theorem dX12_holds_20 : decode cX12_holds 20 = .ok (.aload_n 0, 1) := by decide +kernel
theorem dX12_holds_21 : decode cX12_holds 21 = .ok (.getfield 49, 3) := by decide +kernel
theorem dX12_holds_24 : decode cX12_holds 24 = .ok (.iload_n 3, 1) := by decide +kernel
theorem dX12_holds_25 : decode cX12_holds 25 = .ok (.iaload, 1) := by decide +kernel
theorem dX12_holds_26 : decode cX12_holds 26 = .ok (.if_icmp .ge 196, 3) := by decide +kernel
theorem dX12_holds_29 : decode cX12_holds 29 = .ok (.aload_n 0, 1) := by decide +kernel
theorem dX12_holds_30 : decode cX12_holds 30 = .ok (.getfield 52, 3) := by decide +kernel
theorem dX12_holds_33 : decode cX12_holds 33 = .ok (.sipush 128, 3) := by decide +kernel
theorem dX12_holds_36 : decode cX12_holds 36 = .ok (.iload_n 1, 1) := by decide +kernel
theorem dX12_holds_37 : decode cX12_holds 37 = .ok (.imul, 1) := by decide +kernel
theorem dX12_holds_38 : decode cX12_holds 38 = .ok (.iload 5, 2) := by decide +kernel
theorem dX12_holds_40 : decode cX12_holds 40 = .ok (.iadd, 1) := by decide +kernel
theorem dX12_holds_41 : decode cX12_holds 41 = .ok (.iaload, 1) := by decide +kernel
theorem dX12_holds_42 : decode cX12_holds 42 = .ok (.istore 6, 2) := by decide +kernel
theorem dX12_holds_44 : decode cX12_holds 44 = .ok (.iload 6, 2) := by decide +kernel
theorem dX12_holds_46 : decode cX12_holds 46 = .ok (.ifCond .lt 58, 3) := by decide +kernel
theorem dX12_holds_49 : decode cX12_holds 49 = .ok (.aload_n 0, 1) := by decide +kernel
theorem dX12_holds_50 : decode cX12_holds 50 = .ok (.getfield 80, 3) := by decide +kernel
theorem dX12_holds_53 : decode cX12_holds 53 = .ok (.iload 4, 2) := by decide +kernel
theorem dX12_holds_55 : decode cX12_holds 55 = .ok (.iload 6, 2) := by decide +kernel
theorem dX12_holds_57 : decode cX12_holds 57 = .ok (.bipush 8, 2) := by decide +kernel
theorem dX12_holds_59 : decode cX12_holds 59 = .ok (.if_icmp .ge 13, 3) := by decide +kernel
theorem dX12_holds_62 : decode cX12_holds 62 = .ok (.aload_n 0, 1) := by decide +kernel
theorem dX12_holds_63 : decode cX12_holds 63 = .ok (.iload_n 1, 1) := by decide +kernel
theorem dX12_holds_64 : decode cX12_holds 64 = .ok (.iload 6, 2) := by decide +kernel
theorem dX12_holds_66 : decode cX12_holds 66 = .ok (.invokevirtual 340, 3) := by decide +kernel
theorem dX12_holds_69 : decode cX12_holds 69 = .ok (.goto 28, 3) := by decide +kernel
theorem dX12_holds_72 : decode cX12_holds 72 = .ok (.aload_n 0, 1) := by decide +kernel
theorem dX12_holds_73 : decode cX12_holds 73 = .ok (.iload_n 1, 1) := by decide +kernel
theorem dX12_holds_74 : decode cX12_holds 74 = .ok (.iload 6, 2) := by decide +kernel
theorem dX12_holds_76 : decode cX12_holds 76 = .ok (.bipush 8, 2) := by decide +kernel
theorem dX12_holds_78 : decode cX12_holds 78 = .ok (.irem, 1) := by decide +kernel
theorem dX12_holds_79 : decode cX12_holds 79 = .ok (.invokevirtual 337, 3) := by decide +kernel
theorem dX12_holds_82 : decode cX12_holds 82 = .ok (.iload 6, 2) := by decide +kernel
theorem dX12_holds_84 : decode cX12_holds 84 = .ok (.bipush 8, 2) := by decide +kernel
theorem dX12_holds_86 : decode cX12_holds 86 = .ok (.idiv, 1) := by decide +kernel
theorem dX12_holds_87 : decode cX12_holds 87 = .ok (.iconst 1, 1) := by decide +kernel
theorem dX12_holds_88 : decode cX12_holds 88 = .ok (.isub, 1) := by decide +kernel
theorem dX12_holds_89 : decode cX12_holds 89 = .ok (.if_icmp .le 7, 3) := by decide +kernel
theorem dX12_holds_92 : decode cX12_holds 92 = .ok (.iconst 1, 1) := by decide +kernel
theorem dX12_holds_93 : decode cX12_holds 93 = .ok (.goto 4, 3) := by decide +kernel
theorem dX12_holds_96 : decode cX12_holds 96 = .ok (.iconst 0, 1) := by decide +kernel
theorem dX12_holds_97 : decode cX12_holds 97 = .ok (.bastore, 1) := by decide +kernel
theorem dX12_holds_98 : decode cX12_holds 98 = .ok (.iinc 4 1, 3) := by decide +kernel
theorem dX12_holds_101 : decode cX12_holds 101 = .ok (.goto 115, 3) := by decide +kernel
theorem dX12_holds_104 : decode cX12_holds 104 = .ok (.iload 6, 2) := by decide +kernel
theorem dX12_holds_106 : decode cX12_holds 106 = .ok (.bipush (-2), 2) := by decide +kernel
theorem dX12_holds_108 : decode cX12_holds 108 = .ok (.if_icmp .ne 32, 3) := by decide +kernel
theorem dX12_holds_111 : decode cX12_holds 111 = .ok (.aload_n 0, 1) := by decide +kernel
theorem dX12_holds_112 : decode cX12_holds 112 = .ok (.getfield 80, 3) := by decide +kernel
theorem dX12_holds_115 : decode cX12_holds 115 = .ok (.iload 4, 2) := by decide +kernel
theorem dX12_holds_117 : decode cX12_holds 117 = .ok (.iconst 1, 1) := by decide +kernel
theorem dX12_holds_118 : decode cX12_holds 118 = .ok (.isub, 1) := by decide +kernel
theorem dX12_holds_119 : decode cX12_holds 119 = .ok (.aload_n 0, 1) := by decide +kernel
theorem dX12_holds_120 : decode cX12_holds 120 = .ok (.getfield 80, 3) := by decide +kernel
theorem dX12_holds_123 : decode cX12_holds 123 = .ok (.iload 4, 2) := by decide +kernel
theorem dX12_holds_125 : decode cX12_holds 125 = .ok (.iconst 1, 1) := by decide +kernel
theorem dX12_holds_126 : decode cX12_holds 126 = .ok (.isub, 1) := by decide +kernel
theorem dX12_holds_127 : decode cX12_holds 127 = .ok (.baload, 1) := by decide +kernel
theorem dX12_holds_128 : decode cX12_holds 128 = .ok (.ifCond .ne 7, 3) := by decide +kernel
theorem dX12_holds_131 : decode cX12_holds 131 = .ok (.iconst 1, 1) := by decide +kernel
theorem dX12_holds_132 : decode cX12_holds 132 = .ok (.goto 4, 3) := by decide +kernel
theorem dX12_holds_135 : decode cX12_holds 135 = .ok (.iconst 0, 1) := by decide +kernel
theorem dX12_holds_136 : decode cX12_holds 136 = .ok (.bastore, 1) := by decide +kernel
theorem dX12_holds_137 : decode cX12_holds 137 = .ok (.goto 79, 3) := by decide +kernel
theorem dX12_holds_140 : decode cX12_holds 140 = .ok (.iinc 4 (-1), 3) := by decide +kernel
theorem dX12_holds_143 : decode cX12_holds 143 = .ok (.aload_n 0, 1) := by decide +kernel
theorem dX12_holds_144 : decode cX12_holds 144 = .ok (.getfield 80, 3) := by decide +kernel
theorem dX12_holds_147 : decode cX12_holds 147 = .ok (.iload 4, 2) := by decide +kernel
theorem dX12_holds_149 : decode cX12_holds 149 = .ok (.iconst 1, 1) := by decide +kernel
theorem dX12_holds_150 : decode cX12_holds 150 = .ok (.isub, 1) := by decide +kernel
theorem dX12_holds_151 : decode cX12_holds 151 = .ok (.iload 6, 2) := by decide +kernel
theorem dX12_holds_153 : decode cX12_holds 153 = .ok (.bipush (-3), 2) := by decide +kernel
theorem dX12_holds_155 : decode cX12_holds 155 = .ok (.if_icmp .ne 33, 3) := by decide +kernel
theorem dX12_holds_158 : decode cX12_holds 158 = .ok (.aload_n 0, 1) := by decide +kernel
theorem dX12_holds_159 : decode cX12_holds 159 = .ok (.getfield 80, 3) := by decide +kernel
theorem dX12_holds_162 : decode cX12_holds 162 = .ok (.iload 4, 2) := by decide +kernel
theorem dX12_holds_164 : decode cX12_holds 164 = .ok (.iconst 1, 1) := by decide +kernel
theorem dX12_holds_165 : decode cX12_holds 165 = .ok (.isub, 1) := by decide +kernel
theorem dX12_holds_166 : decode cX12_holds 166 = .ok (.baload, 1) := by decide +kernel
theorem dX12_holds_167 : decode cX12_holds 167 = .ok (.ifCond .eq 17, 3) := by decide +kernel
theorem dX12_holds_170 : decode cX12_holds 170 = .ok (.aload_n 0, 1) := by decide +kernel
theorem dX12_holds_171 : decode cX12_holds 171 = .ok (.getfield 80, 3) := by decide +kernel
theorem dX12_holds_174 : decode cX12_holds 174 = .ok (.iload 4, 2) := by decide +kernel
theorem dX12_holds_176 : decode cX12_holds 176 = .ok (.baload, 1) := by decide +kernel
theorem dX12_holds_177 : decode cX12_holds 177 = .ok (.ifCond .eq 7, 3) := by decide +kernel
theorem dX12_holds_180 : decode cX12_holds 180 = .ok (.iconst 1, 1) := by decide +kernel
theorem dX12_holds_181 : decode cX12_holds 181 = .ok (.goto 34, 3) := by decide +kernel
theorem dX12_holds_184 : decode cX12_holds 184 = .ok (.iconst 0, 1) := by decide +kernel
theorem dX12_holds_185 : decode cX12_holds 185 = .ok (.goto 30, 3) := by decide +kernel
theorem dX12_holds_188 : decode cX12_holds 188 = .ok (.aload_n 0, 1) := by decide +kernel
theorem dX12_holds_189 : decode cX12_holds 189 = .ok (.getfield 80, 3) := by decide +kernel
theorem dX12_holds_192 : decode cX12_holds 192 = .ok (.iload 4, 2) := by decide +kernel
theorem dX12_holds_194 : decode cX12_holds 194 = .ok (.iconst 1, 1) := by decide +kernel
theorem dX12_holds_195 : decode cX12_holds 195 = .ok (.isub, 1) := by decide +kernel
theorem dX12_holds_196 : decode cX12_holds 196 = .ok (.baload, 1) := by decide +kernel
theorem dX12_holds_197 : decode cX12_holds 197 = .ok (.ifCond .ne 13, 3) := by decide +kernel
theorem dX12_holds_200 : decode cX12_holds 200 = .ok (.aload_n 0, 1) := by decide +kernel
theorem dX12_holds_201 : decode cX12_holds 201 = .ok (.getfield 80, 3) := by decide +kernel
theorem dX12_holds_204 : decode cX12_holds 204 = .ok (.iload 4, 2) := by decide +kernel
theorem dX12_holds_206 : decode cX12_holds 206 = .ok (.baload, 1) := by decide +kernel
theorem dX12_holds_207 : decode cX12_holds 207 = .ok (.ifCond .eq 7, 3) := by decide +kernel
theorem dX12_holds_210 : decode cX12_holds 210 = .ok (.iconst 1, 1) := by decide +kernel
theorem dX12_holds_211 : decode cX12_holds 211 = .ok (.goto 4, 3) := by decide +kernel
theorem dX12_holds_214 : decode cX12_holds 214 = .ok (.iconst 0, 1) := by decide +kernel
theorem dX12_holds_215 : decode cX12_holds 215 = .ok (.bastore, 1) := by decide +kernel
theorem dX12_holds_216 : decode cX12_holds 216 = .ok (.iinc 5 1, 3) := by decide +kernel
theorem dX12_holds_219 : decode cX12_holds 219 = .ok (.goto (-201), 3) := by decide +kernel
theorem dX12_holds_222 : decode cX12_holds 222 = .ok (.iload 4, 2) := by decide +kernel
theorem dX12_holds_224 : decode cX12_holds 224 = .ok (.ifCond .eq 12, 3) := by decide +kernel
theorem dX12_holds_227 : decode cX12_holds 227 = .ok (.aload_n 0, 1) := by decide +kernel
theorem dX12_holds_228 : decode cX12_holds 228 = .ok (.getfield 80, 3) := by decide +kernel
theorem dX12_holds_231 : decode cX12_holds 231 = .ok (.iconst 0, 1) := by decide +kernel
theorem dX12_holds_232 : decode cX12_holds 232 = .ok (.baload, 1) := by decide +kernel
theorem dX12_holds_233 : decode cX12_holds 233 = .ok (.ifCond .eq 7, 3) := by decide +kernel
theorem dX12_holds_236 : decode cX12_holds 236 = .ok (.iconst 1, 1) := by decide +kernel
theorem dX12_holds_237 : decode cX12_holds 237 = .ok (.goto 4, 3) := by decide +kernel
theorem dX12_holds_240 : decode cX12_holds 240 = .ok (.iconst 0, 1) := by decide +kernel
theorem dX12_holds_241 : decode cX12_holds 241 = .ok (.ireturn, 1) := by decide +kernel
theorem dX12_bitsOf_0 : decode cX12_bitsOf 0 = .ok (.iconst 0, 1) := by decide +kernel
theorem dX12_bitsOf_1 : decode cX12_bitsOf 1 = .ok (.istore_n 3, 1) := by decide +kernel
theorem dX12_bitsOf_2 : decode cX12_bitsOf 2 = .ok (.iconst 0, 1) := by decide +kernel
theorem dX12_bitsOf_3 : decode cX12_bitsOf 3 = .ok (.istore 4, 2) := by decide +kernel
theorem dX12_bitsOf_5 : decode cX12_bitsOf 5 = .ok (.iload 4, 2) := by decide +kernel
theorem dX12_bitsOf_7 : decode cX12_bitsOf 7 = .ok (.bipush 8, 2) := by decide +kernel
theorem dX12_bitsOf_9 : decode cX12_bitsOf 9 = .ok (.if_icmp .ge 93, 3) := by decide +kernel
theorem dX12_bitsOf_12 : decode cX12_bitsOf 12 = .ok (.aload_n 0, 1) := by decide +kernel
theorem dX12_bitsOf_13 : decode cX12_bitsOf 13 = .ok (.iload_n 1, 1) := by decide +kernel
theorem dX12_bitsOf_14 : decode cX12_bitsOf 14 = .ok (.iload 4, 2) := by decide +kernel
theorem dX12_bitsOf_16 : decode cX12_bitsOf 16 = .ok (.invokevirtual 317, 3) := by decide +kernel
theorem dX12_bitsOf_19 : decode cX12_bitsOf 19 = .ok (.ifCond .eq 77, 3) := by decide +kernel
theorem dX12_bitsOf_22 : decode cX12_bitsOf 22 = .ok (.aload_n 0, 1) := by decide +kernel
theorem dX12_bitsOf_23 : decode cX12_bitsOf 23 = .ok (.iload_n 1, 1) := by decide +kernel
theorem dX12_bitsOf_24 : decode cX12_bitsOf 24 = .ok (.iload 4, 2) := by decide +kernel
theorem dX12_bitsOf_26 : decode cX12_bitsOf 26 = .ok (.invokevirtual 340, 3) := by decide +kernel
theorem dX12_bitsOf_29 : decode cX12_bitsOf 29 = .ok (.istore 5, 2) := by decide +kernel
theorem dX12_bitsOf_31 : decode cX12_bitsOf 31 = .ok (.iload_n 2, 1) := by decide +kernel
theorem dX12_bitsOf_32 : decode cX12_bitsOf 32 = .ok (.ifCond .ne 26, 3) := by decide +kernel
theorem dX12_bitsOf_35 : decode cX12_bitsOf 35 = .ok (.iload 5, 2) := by decide +kernel
theorem dX12_bitsOf_37 : decode cX12_bitsOf 37 = .ok (.ifCond .ne 17, 3) := by decide +kernel
theorem dX12_bitsOf_40 : decode cX12_bitsOf 40 = .ok (.aload_n 0, 1) := by decide +kernel
theorem dX12_bitsOf_41 : decode cX12_bitsOf 41 = .ok (.iload_n 1, 1) := by decide +kernel
theorem dX12_bitsOf_42 : decode cX12_bitsOf 42 = .ok (.iload 4, 2) := by decide +kernel
theorem dX12_bitsOf_44 : decode cX12_bitsOf 44 = .ok (.invokevirtual 343, 3) := by decide +kernel
theorem dX12_bitsOf_47 : decode cX12_bitsOf 47 = .ok (.ifCond .eq 7, 3) := by decide +kernel
theorem dX12_bitsOf_50 : decode cX12_bitsOf 50 = .ok (.iconst 1, 1) := by decide +kernel
theorem dX12_bitsOf_51 : decode cX12_bitsOf 51 = .ok (.goto 27, 3) := by decide +kernel
theorem dX12_bitsOf_54 : decode cX12_bitsOf 54 = .ok (.iconst 0, 1) := by decide +kernel
theorem dX12_bitsOf_55 : decode cX12_bitsOf 55 = .ok (.goto 23, 3) := by decide +kernel
theorem dX12_bitsOf_58 : decode cX12_bitsOf 58 = .ok (.iload 5, 2) := by decide +kernel
theorem dX12_bitsOf_60 : decode cX12_bitsOf 60 = .ok (.iload_n 2, 1) := by decide +kernel
theorem dX12_bitsOf_61 : decode cX12_bitsOf 61 = .ok (.iconst 1, 1) := by decide +kernel
theorem dX12_bitsOf_62 : decode cX12_bitsOf 62 = .ok (.if_icmp .ne 7, 3) := by decide +kernel
theorem dX12_bitsOf_65 : decode cX12_bitsOf 65 = .ok (.iconst 1, 1) := by decide +kernel
theorem dX12_bitsOf_66 : decode cX12_bitsOf 66 = .ok (.goto 4, 3) := by decide +kernel
theorem dX12_bitsOf_69 : decode cX12_bitsOf 69 = .ok (.iconst 0, 1) := by decide +kernel
theorem dX12_bitsOf_70 : decode cX12_bitsOf 70 = .ok (.if_icmp .ne 7, 3) := by decide +kernel
theorem dX12_bitsOf_73 : decode cX12_bitsOf 73 = .ok (.iconst 1, 1) := by decide +kernel
theorem dX12_bitsOf_74 : decode cX12_bitsOf 74 = .ok (.goto 4, 3) := by decide +kernel
theorem dX12_bitsOf_77 : decode cX12_bitsOf 77 = .ok (.iconst 0, 1) := by decide +kernel
theorem dX12_bitsOf_78 : decode cX12_bitsOf 78 = .ok (.istore 6, 2) := by decide +kernel
theorem dX12_bitsOf_80 : decode cX12_bitsOf 80 = .ok (.iload_n 3, 1) := by decide +kernel
theorem dX12_bitsOf_81 : decode cX12_bitsOf 81 = .ok (.iload 6, 2) := by decide +kernel
theorem dX12_bitsOf_83 : decode cX12_bitsOf 83 = .ok (.ifCond .eq 10, 3) := by decide +kernel
theorem dX12_bitsOf_86 : decode cX12_bitsOf 86 = .ok (.iconst 1, 1) := by decide +kernel
theorem dX12_bitsOf_87 : decode cX12_bitsOf 87 = .ok (.iload 4, 2) := by decide +kernel
theorem dX12_bitsOf_89 : decode cX12_bitsOf 89 = .ok (.ishl, 1) := by decide +kernel
theorem dX12_bitsOf_90 : decode cX12_bitsOf 90 = .ok (.goto 4, 3) := by decide +kernel
theorem dX12_bitsOf_93 : decode cX12_bitsOf 93 = .ok (.iconst 0, 1) := by decide +kernel
theorem dX12_bitsOf_94 : decode cX12_bitsOf 94 = .ok (.ior, 1) := by decide +kernel
theorem dX12_bitsOf_95 : decode cX12_bitsOf 95 = .ok (.istore_n 3, 1) := by decide +kernel
theorem dX12_bitsOf_96 : decode cX12_bitsOf 96 = .ok (.iinc 4 1, 3) := by decide +kernel
theorem dX12_bitsOf_99 : decode cX12_bitsOf 99 = .ok (.goto (-94), 3) := by decide +kernel
theorem dX12_bitsOf_102 : decode cX12_bitsOf 102 = .ok (.iload_n 3, 1) := by decide +kernel
theorem dX12_bitsOf_103 : decode cX12_bitsOf 103 = .ok (.ireturn, 1) := by decide +kernel
theorem dX12_best_0 : decode cX12_best 0 = .ok (.aload_n 0, 1) := by decide +kernel
theorem dX12_best_1 : decode cX12_best 1 = .ok (.iload_n 1, 1) := by decide +kernel
theorem dX12_best_2 : decode cX12_best 2 = .ok (.invokevirtual 329, 3) := by decide +kernel
theorem dX12_best_5 : decode cX12_best 5 = .ok (.ifCond .eq 24, 3) := by decide +kernel
theorem dX12_best_8 : decode cX12_best 8 = .ok (.iload_n 3, 1) := by decide +kernel
theorem dX12_best_9 : decode cX12_best 9 = .ok (.invokestatic 302, 3) := by decide +kernel
theorem dX12_best_12 : decode cX12_best 12 = .ok (.ifCond .eq 17, 3) := by decide +kernel
theorem dX12_best_15 : decode cX12_best 15 = .ok (.aload_n 0, 1) := by decide +kernel
theorem dX12_best_16 : decode cX12_best 16 = .ok (.aload_n 0, 1) := by decide +kernel
theorem dX12_best_17 : decode cX12_best 17 = .ok (.getfield 58, 3) := by decide +kernel
theorem dX12_best_20 : decode cX12_best 20 = .ok (.iload_n 1, 1) := by decide +kernel
theorem dX12_best_21 : decode cX12_best 21 = .ok (.iaload, 1) := by decide +kernel
theorem dX12_best_22 : decode cX12_best 22 = .ok (.iload_n 2, 1) := by decide +kernel
theorem dX12_best_23 : decode cX12_best 23 = .ok (.invokevirtual 317, 3) := by decide +kernel
theorem dX12_best_26 : decode cX12_best 26 = .ok (.ifCond .ne 5, 3) := by decide +kernel
theorem dX12_best_29 : decode cX12_best 29 = .ok (.iconst (-1), 1) := by decide +kernel
theorem dX12_best_30 : decode cX12_best 30 = .ok (.ireturn, 1) := by decide +kernel
theorem dX12_best_31 : decode cX12_best 31 = .ok (.aload_n 0, 1) := by decide +kernel
theorem dX12_best_32 : decode cX12_best 32 = .ok (.iload_n 1, 1) := by decide +kernel
theorem dX12_best_33 : decode cX12_best 33 = .ok (.iload_n 3, 1) := by decide +kernel
theorem dX12_best_34 : decode cX12_best 34 = .ok (.invokevirtual 346, 3) := by decide +kernel
theorem dX12_best_37 : decode cX12_best 37 = .ok (.aload_n 0, 1) := by decide +kernel
theorem dX12_best_38 : decode cX12_best 38 = .ok (.aload_n 0, 1) := by decide +kernel
theorem dX12_best_39 : decode cX12_best 39 = .ok (.getfield 58, 3) := by decide +kernel
theorem dX12_best_42 : decode cX12_best 42 = .ok (.iload_n 1, 1) := by decide +kernel
theorem dX12_best_43 : decode cX12_best 43 = .ok (.iaload, 1) := by decide +kernel
theorem dX12_best_44 : decode cX12_best 44 = .ok (.iload_n 2, 1) := by decide +kernel
theorem dX12_best_45 : decode cX12_best 45 = .ok (.invokevirtual 337, 3) := by decide +kernel
theorem dX12_best_48 : decode cX12_best 48 = .ok (.istore 4, 2) := by decide +kernel
theorem dX12_best_50 : decode cX12_best 50 = .ok (.iload 4, 2) := by decide +kernel
theorem dX12_best_52 : decode cX12_best 52 = .ok (.ifCond .ge 8, 3) := by decide +kernel
theorem dX12_best_55 : decode cX12_best 55 = .ok (.bipush (-4), 2) := by decide +kernel
theorem dX12_best_57 : decode cX12_best 57 = .ok (.goto 5, 3) := by decide +kernel
theorem dX12_best_60 : decode cX12_best 60 = .ok (.iload 4, 2) := by decide +kernel
theorem dX12_best_62 : decode cX12_best 62 = .ok (.ireturn, 1) := by decide +kernel
theorem dX12_may_0 : decode cX12_may 0 = .ok (.aload_n 0, 1) := by decide +kernel
theorem dX12_may_1 : decode cX12_may 1 = .ok (.iload_n 1, 1) := by decide +kernel
theorem dX12_may_2 : decode cX12_may 2 = .ok (.invokevirtual 329, 3) := by decide +kernel
theorem dX12_may_5 : decode cX12_may 5 = .ok (.ifCond .eq 15, 3) := by decide +kernel
theorem dX12_may_8 : decode cX12_may 8 = .ok (.iload_n 2, 1) := by decide +kernel
theorem dX12_may_9 : decode cX12_may 9 = .ok (.i2l, 1) := by decide +kernel
theorem dX12_may_10 : decode cX12_may 10 = .ok (.lconst 0, 1) := by decide +kernel
theorem dX12_may_11 : decode cX12_may 11 = .ok (.ldc2_w 312, 3) := by decide +kernel
theorem dX12_may_14 : decode cX12_may 14 = .ok (.invokestatic 213, 3) := by decide +kernel
theorem dX12_may_17 : decode cX12_may 17 = .ok (.ifCond .ne 5, 3) := by decide +kernel
theorem dX12_may_20 : decode cX12_may 20 = .ok (.iconst (-1), 1) := by decide +kernel
theorem dX12_may_21 : decode cX12_may 21 = .ok (.ireturn, 1) := by decide +kernel
theorem dX12_may_22 : decode cX12_may 22 = .ok (.aload_n 0, 1) := by decide +kernel
theorem dX12_may_23 : decode cX12_may 23 = .ok (.iload_n 1, 1) := by decide +kernel
theorem dX12_may_24 : decode cX12_may 24 = .ok (.sipush 3999, 3) := by decide +kernel
theorem dX12_may_27 : decode cX12_may 27 = .ok (.invokevirtual 346, 3) := by decide +kernel
theorem dX12_may_30 : decode cX12_may 30 = .ok (.aload_n 0, 1) := by decide +kernel
theorem dX12_may_31 : decode cX12_may 31 = .ok (.aload_n 0, 1) := by decide +kernel
theorem dX12_may_32 : decode cX12_may 32 = .ok (.getfield 58, 3) := by decide +kernel
theorem dX12_may_35 : decode cX12_may 35 = .ok (.iload_n 1, 1) := by decide +kernel
theorem dX12_may_36 : decode cX12_may 36 = .ok (.iaload, 1) := by decide +kernel
theorem dX12_may_37 : decode cX12_may 37 = .ok (.iload_n 2, 1) := by decide +kernel
theorem dX12_may_38 : decode cX12_may 38 = .ok (.invokevirtual 350, 3) := by decide +kernel
theorem dX12_may_41 : decode cX12_may 41 = .ok (.ireturn, 1) := by decide +kernel
theorem dX12_findWith_0 : decode cX12_findWith 0 = .ok (.aload_n 0, 1) := by decide +kernel
theorem dX12_findWith_1 : decode cX12_findWith 1 = .ok (.iload_n 1, 1) := by decide +kernel
theorem dX12_findWith_2 : decode cX12_findWith 2 = .ok (.sipush 3999, 3) := by decide +kernel
theorem dX12_findWith_5 : decode cX12_findWith 5 = .ok (.invokevirtual 346, 3) := by decide +kernel
theorem dX12_findWith_8 : decode cX12_findWith 8 = .ok (.iconst 0, 1) := by decide +kernel
theorem dX12_findWith_9 : decode cX12_findWith 9 = .ok (.istore_n 3, 1) := by decide +kernel
theorem dX12_findWith_10 : decode cX12_findWith 10 = .ok (.iload_n 3, 1) := by decide +kernel
theorem dX12_findWith_11 : decode cX12_findWith 11 = .ok (.bipush 8, 2) := by decide +kernel
theorem dX12_findWith_13 : decode cX12_findWith 13 = .ok (.if_icmp .ge 41, 3) := by decide +kernel
theorem dX12_findWith_16 : decode cX12_findWith 16 = .ok (.iload_n 2, 1) := by decide +kernel
theorem dX12_findWith_17 : decode cX12_findWith 17 = .ok (.iload_n 3, 1) := by decide +kernel
theorem dX12_findWith_18 : decode cX12_findWith 18 = .ok (.ishr, 1) := by decide +kernel
theorem dX12_findWith_19 : decode cX12_findWith 19 = .ok (.iconst 1, 1) := by decide +kernel
theorem dX12_findWith_20 : decode cX12_findWith 20 = .ok (.iand, 1) := by decide +kernel
theorem dX12_findWith_21 : decode cX12_findWith 21 = .ok (.iconst 1, 1) := by decide +kernel
theorem dX12_findWith_22 : decode cX12_findWith 22 = .ok (.if_icmp .ne 26, 3) := by decide +kernel
theorem dX12_findWith_25 : decode cX12_findWith 25 = .ok (.aload_n 0, 1) := by decide +kernel
theorem dX12_findWith_26 : decode cX12_findWith 26 = .ok (.getfield 77, 3) := by decide +kernel
theorem dX12_findWith_29 : decode cX12_findWith 29 = .ok (.aload_n 0, 1) := by decide +kernel
theorem dX12_findWith_30 : decode cX12_findWith 30 = .ok (.getfield 40, 3) := by decide +kernel
theorem dX12_findWith_33 : decode cX12_findWith 33 = .ok (.bipush 8, 2) := by decide +kernel
theorem dX12_findWith_35 : decode cX12_findWith 35 = .ok (.aload_n 0, 1) := by decide +kernel
theorem dX12_findWith_36 : decode cX12_findWith 36 = .ok (.getfield 58, 3) := by decide +kernel
theorem dX12_findWith_39 : decode cX12_findWith 39 = .ok (.iload_n 1, 1) := by decide +kernel
theorem dX12_findWith_40 : decode cX12_findWith 40 = .ok (.iaload, 1) := by decide +kernel
theorem dX12_findWith_41 : decode cX12_findWith 41 = .ok (.imul, 1) := by decide +kernel
theorem dX12_findWith_42 : decode cX12_findWith 42 = .ok (.iload_n 3, 1) := by decide +kernel
theorem dX12_findWith_43 : decode cX12_findWith 43 = .ok (.iadd, 1) := by decide +kernel
theorem dX12_findWith_44 : decode cX12_findWith 44 = .ok (.iaload, 1) := by decide +kernel
theorem dX12_findWith_45 : decode cX12_findWith 45 = .ok (.bipush 100, 2) := by decide +kernel
theorem dX12_findWith_47 : decode cX12_findWith 47 = .ok (.iastore, 1) := by decide +kernel
theorem dX12_findWith_48 : decode cX12_findWith 48 = .ok (.iinc 3 1, 3) := by decide +kernel
theorem dX12_findWith_51 : decode cX12_findWith 51 = .ok (.goto (-41), 3) := by decide +kernel
theorem dX12_findWith_54 : decode cX12_findWith 54 = .ok (.return_, 1) := by decide +kernel
theorem dX12_lean_0 : decode cX12_lean 0 = .ok (.aload_n 0, 1) := by decide +kernel
theorem dX12_lean_1 : decode cX12_lean 1 = .ok (.iload_n 1, 1) := by decide +kernel
theorem dX12_lean_2 : decode cX12_lean 2 = .ok (.invokevirtual 329, 3) := by decide +kernel
theorem dX12_lean_5 : decode cX12_lean 5 = .ok (.ifCond .eq 17, 3) := by decide +kernel
theorem dX12_lean_8 : decode cX12_lean 8 = .ok (.aload_n 0, 1) := by decide +kernel
theorem dX12_lean_9 : decode cX12_lean 9 = .ok (.aload_n 0, 1) := by decide +kernel
theorem dX12_lean_10 : decode cX12_lean 10 = .ok (.getfield 58, 3) := by decide +kernel
theorem dX12_lean_13 : decode cX12_lean 13 = .ok (.iload_n 1, 1) := by decide +kernel
theorem dX12_lean_14 : decode cX12_lean 14 = .ok (.iaload, 1) := by decide +kernel
theorem dX12_lean_15 : decode cX12_lean 15 = .ok (.iload_n 2, 1) := by decide +kernel
theorem dX12_lean_16 : decode cX12_lean 16 = .ok (.invokevirtual 317, 3) := by decide +kernel
theorem dX12_lean_19 : decode cX12_lean 19 = .ok (.ifCond .ne 5, 3) := by decide +kernel
theorem dX12_lean_22 : decode cX12_lean 22 = .ok (.iconst (-1), 1) := by decide +kernel
theorem dX12_lean_23 : decode cX12_lean 23 = .ok (.ireturn, 1) := by decide +kernel
theorem dX12_lean_24 : decode cX12_lean 24 = .ok (.aload_n 0, 1) := by decide +kernel
theorem dX12_lean_25 : decode cX12_lean 25 = .ok (.getfield 58, 3) := by decide +kernel
theorem dX12_lean_28 : decode cX12_lean 28 = .ok (.iload_n 1, 1) := by decide +kernel
theorem dX12_lean_29 : decode cX12_lean 29 = .ok (.iaload, 1) := by decide +kernel
theorem dX12_lean_30 : decode cX12_lean 30 = .ok (.istore_n 3, 1) := by decide +kernel
theorem dX12_lean_31 : decode cX12_lean 31 = .ok (.iconst 0, 1) := by decide +kernel
theorem dX12_lean_32 : decode cX12_lean 32 = .ok (.istore 4, 2) := by decide +kernel
theorem dX12_lean_34 : decode cX12_lean 34 = .ok (.iload 4, 2) := by decide +kernel
theorem dX12_lean_36 : decode cX12_lean 36 = .ok (.sipush 256, 3) := by decide +kernel
theorem dX12_lean_39 : decode cX12_lean 39 = .ok (.if_icmp .ge 17, 3) := by decide +kernel
theorem dX12_lean_42 : decode cX12_lean 42 = .ok (.aload_n 0, 1) := by decide +kernel
theorem dX12_lean_43 : decode cX12_lean 43 = .ok (.getfield 84, 3) := by decide +kernel
theorem dX12_lean_46 : decode cX12_lean 46 = .ok (.iload 4, 2) := by decide +kernel
theorem dX12_lean_48 : decode cX12_lean 48 = .ok (.iconst (-1), 1) := by decide +kernel
theorem dX12_lean_49 : decode cX12_lean 49 = .ok (.iastore, 1) := by decide +kernel
theorem dX12_lean_50 : decode cX12_lean 50 = .ok (.iinc 4 1, 3) := by decide +kernel
theorem dX12_lean_53 : decode cX12_lean 53 = .ok (.goto (-19), 3) := by decide +kernel
theorem dX12_lean_56 : decode cX12_lean 56 = .ok (.aload_n 0, 1) := by decide +kernel
theorem dX12_lean_57 : decode cX12_lean 57 = .ok (.getfield 84, 3) := by decide +kernel
theorem dX12_lean_60 : decode cX12_lean 60 = .ok (.iconst 0, 1) := by decide +kernel
theorem dX12_lean_61 : decode cX12_lean 61 = .ok (.iconst 0, 1) := by decide +kernel
theorem dX12_lean_62 : decode cX12_lean 62 = .ok (.iastore, 1) := by decide +kernel
theorem dX12_lean_63 : decode cX12_lean 63 = .ok (.aload_n 0, 1) := by decide +kernel
theorem dX12_lean_64 : decode cX12_lean 64 = .ok (.getfield 87, 3) := by decide +kernel
theorem dX12_lean_67 : decode cX12_lean 67 = .ok (.iconst 0, 1) := by decide +kernel
theorem dX12_lean_68 : decode cX12_lean 68 = .ok (.iconst 0, 1) := by decide +kernel
theorem dX12_lean_69 : decode cX12_lean 69 = .ok (.iastore, 1) := by decide +kernel
theorem dX12_lean_70 : decode cX12_lean 70 = .ok (.iconst 1, 1) := by decide +kernel
theorem dX12_lean_71 : decode cX12_lean 71 = .ok (.istore 4, 2) := by decide +kernel
theorem dX12_lean_73 : decode cX12_lean 73 = .ok (.iconst 0, 1) := by decide +kernel
theorem dX12_lean_74 : decode cX12_lean 74 = .ok (.istore 5, 2) := by decide +kernel
theorem dX12_lean_76 : decode cX12_lean 76 = .ok (.iload 5, 2) := by decide +kernel
theorem dX12_lean_78 : decode cX12_lean 78 = .ok (.iload 4, 2) := by decide +kernel
theorem dX12_lean_80 : decode cX12_lean 80 = .ok (.if_icmp .ge 135, 3) := by decide +kernel
theorem dX12_lean_83 : decode cX12_lean 83 = .ok (.aload_n 0, 1) := by decide +kernel
theorem dX12_lean_84 : decode cX12_lean 84 = .ok (.iload_n 1, 1) := by decide +kernel
theorem dX12_lean_85 : decode cX12_lean 85 = .ok (.aload_n 0, 1) := by decide +kernel
theorem dX12_lean_86 : decode cX12_lean 86 = .ok (.getfield 87, 3) := by decide +kernel
theorem dX12_lean_89 : decode cX12_lean 89 = .ok (.iload 5, 2) := by decide +kernel
theorem dX12_lean_91 : decode cX12_lean 91 = .ok (.iaload, 1) := by decide +kernel
theorem dX12_lean_92 : decode cX12_lean 92 = .ok (.invokevirtual 353, 3) := by decide +kernel
theorem dX12_lean_95 : decode cX12_lean 95 = .ok (.aload_n 0, 1) := by decide +kernel
theorem dX12_lean_96 : decode cX12_lean 96 = .ok (.iload_n 3, 1) := by decide +kernel
theorem dX12_lean_97 : decode cX12_lean 97 = .ok (.iload_n 2, 1) := by decide +kernel
theorem dX12_lean_98 : decode cX12_lean 98 = .ok (.invokevirtual 340, 3) := by decide +kernel
theorem dX12_lean_101 : decode cX12_lean 101 = .ok (.ifCond .eq 16, 3) := by decide +kernel
theorem dX12_lean_104 : decode cX12_lean 104 = .ok (.aload_n 0, 1) := by decide +kernel
theorem dX12_lean_105 : decode cX12_lean 105 = .ok (.getfield 84, 3) := by decide +kernel
theorem dX12_lean_108 : decode cX12_lean 108 = .ok (.aload_n 0, 1) := by decide +kernel
theorem dX12_lean_109 : decode cX12_lean 109 = .ok (.getfield 87, 3) := by decide +kernel
theorem dX12_lean_112 : decode cX12_lean 112 = .ok (.iload 5, 2) := by decide +kernel
theorem dX12_lean_114 : decode cX12_lean 114 = .ok (.iaload, 1) := by decide +kernel
theorem dX12_lean_115 : decode cX12_lean 115 = .ok (.iaload, 1) := by decide +kernel
theorem dX12_lean_116 : decode cX12_lean 116 = .ok (.ireturn, 1) := by decide +kernel
theorem dX12_lean_117 : decode cX12_lean 117 = .ok (.aload_n 0, 1) := by decide +kernel
theorem dX12_lean_118 : decode cX12_lean 118 = .ok (.iload_n 3, 1) := by decide +kernel
theorem dX12_lean_119 : decode cX12_lean 119 = .ok (.iconst 0, 1) := by decide +kernel
theorem dX12_lean_120 : decode cX12_lean 120 = .ok (.invokevirtual 350, 3) := by decide +kernel
theorem dX12_lean_123 : decode cX12_lean 123 = .ok (.istore 6, 2) := by decide +kernel
theorem dX12_lean_125 : decode cX12_lean 125 = .ok (.iconst 0, 1) := by decide +kernel
theorem dX12_lean_126 : decode cX12_lean 126 = .ok (.istore 7, 2) := by decide +kernel
theorem dX12_lean_128 : decode cX12_lean 128 = .ok (.iload 7, 2) := by decide +kernel
theorem dX12_lean_130 : decode cX12_lean 130 = .ok (.bipush 8, 2) := by decide +kernel
theorem dX12_lean_132 : decode cX12_lean 132 = .ok (.if_icmp .ge 77, 3) := by decide +kernel
theorem dX12_lean_135 : decode cX12_lean 135 = .ok (.aload_n 0, 1) := by decide +kernel
theorem dX12_lean_136 : decode cX12_lean 136 = .ok (.getfield 87, 3) := by decide +kernel
theorem dX12_lean_139 : decode cX12_lean 139 = .ok (.iload 5, 2) := by decide +kernel
theorem dX12_lean_141 : decode cX12_lean 141 = .ok (.iaload, 1) := by decide +kernel
theorem dX12_lean_142 : decode cX12_lean 142 = .ok (.iconst 1, 1) := by decide +kernel
theorem dX12_lean_143 : decode cX12_lean 143 = .ok (.iload 7, 2) := by decide +kernel
theorem dX12_lean_145 : decode cX12_lean 145 = .ok (.ishl, 1) := by decide +kernel
theorem dX12_lean_146 : decode cX12_lean 146 = .ok (.ior, 1) := by decide +kernel
theorem dX12_lean_147 : decode cX12_lean 147 = .ok (.istore 8, 2) := by decide +kernel
theorem dX12_lean_149 : decode cX12_lean 149 = .ok (.iload 6, 2) := by decide +kernel
theorem dX12_lean_151 : decode cX12_lean 151 = .ok (.iload 7, 2) := by decide +kernel
theorem dX12_lean_153 : decode cX12_lean 153 = .ok (.ishr, 1) := by decide +kernel
theorem dX12_lean_154 : decode cX12_lean 154 = .ok (.iconst 1, 1) := by decide +kernel
theorem dX12_lean_155 : decode cX12_lean 155 = .ok (.iand, 1) := by decide +kernel
theorem dX12_lean_156 : decode cX12_lean 156 = .ok (.iconst 1, 1) := by decide +kernel
theorem dX12_lean_157 : decode cX12_lean 157 = .ok (.if_icmp .ne 46, 3) := by decide +kernel
theorem dX12_lean_160 : decode cX12_lean 160 = .ok (.aload_n 0, 1) := by decide +kernel
theorem dX12_lean_161 : decode cX12_lean 161 = .ok (.getfield 84, 3) := by decide +kernel
theorem dX12_lean_164 : decode cX12_lean 164 = .ok (.iload 8, 2) := by decide +kernel
theorem dX12_lean_166 : decode cX12_lean 166 = .ok (.iaload, 1) := by decide +kernel
theorem dX12_lean_167 : decode cX12_lean 167 = .ok (.ifCond .ge 36, 3) := by decide +kernel
theorem dX12_lean_170 : decode cX12_lean 170 = .ok (.aload_n 0, 1) := by decide +kernel
theorem dX12_lean_171 : decode cX12_lean 171 = .ok (.getfield 84, 3) := by decide +kernel
theorem dX12_lean_174 : decode cX12_lean 174 = .ok (.iload 8, 2) := by decide +kernel
theorem dX12_lean_176 : decode cX12_lean 176 = .ok (.aload_n 0, 1) := by decide +kernel
theorem dX12_lean_177 : decode cX12_lean 177 = .ok (.getfield 84, 3) := by decide +kernel
theorem dX12_lean_180 : decode cX12_lean 180 = .ok (.aload_n 0, 1) := by decide +kernel
theorem dX12_lean_181 : decode cX12_lean 181 = .ok (.getfield 87, 3) := by decide +kernel
theorem dX12_lean_184 : decode cX12_lean 184 = .ok (.iload 5, 2) := by decide +kernel
theorem dX12_lean_186 : decode cX12_lean 186 = .ok (.iaload, 1) := by decide +kernel
theorem dX12_lean_187 : decode cX12_lean 187 = .ok (.iaload, 1) := by decide +kernel
theorem dX12_lean_188 : decode cX12_lean 188 = .ok (.iconst 1, 1) := by decide +kernel
theorem dX12_lean_189 : decode cX12_lean 189 = .ok (.iadd, 1) := by decide +kernel
theorem dX12_lean_190 : decode cX12_lean 190 = .ok (.iastore, 1) := by decide +kernel
theorem dX12_lean_191 : decode cX12_lean 191 = .ok (.aload_n 0, 1) := by decide +kernel
theorem dX12_lean_192 : decode cX12_lean 192 = .ok (.getfield 87, 3) := by decide +kernel
theorem dX12_lean_195 : decode cX12_lean 195 = .ok (.iload 4, 2) := by decide +kernel
theorem dX12_lean_197 : decode cX12_lean 197 = .ok (.iload 8, 2) := by decide +kernel
theorem dX12_lean_199 : decode cX12_lean 199 = .ok (.iastore, 1) := by decide +kernel
theorem dX12_lean_200 : decode cX12_lean 200 = .ok (.iinc 4 1, 3) := by decide +kernel
theorem dX12_lean_203 : decode cX12_lean 203 = .ok (.iinc 7 1, 3) := by decide +kernel
theorem dX12_lean_206 : decode cX12_lean 206 = .ok (.goto (-78), 3) := by decide +kernel
theorem dX12_lean_209 : decode cX12_lean 209 = .ok (.iinc 5 1, 3) := by decide +kernel
theorem dX12_lean_212 : decode cX12_lean 212 = .ok (.goto (-136), 3) := by decide +kernel
theorem dX12_lean_215 : decode cX12_lean 215 = .ok (.bipush (-4), 2) := by decide +kernel
theorem dX12_lean_217 : decode cX12_lean 217 = .ok (.ireturn, 1) := by decide +kernel
theorem dX12_post_0 : decode cX12_post 0 = .ok (.iload_n 1, 1) := by decide +kernel
theorem dX12_post_1 : decode cX12_post 1 = .ok (.i2l, 1) := by decide +kernel
theorem dX12_post_2 : decode cX12_post 2 = .ok (.lconst 0, 1) := by decide +kernel
theorem dX12_post_3 : decode cX12_post 3 = .ok (.ldc2_w 320, 3) := by decide +kernel
theorem dX12_post_6 : decode cX12_post 6 = .ok (.invokestatic 213, 3) := by decide +kernel
theorem dX12_post_9 : decode cX12_post 9 = .ok (.ifCond .eq 33, 3) := by decide +kernel
theorem dX12_post_12 : decode cX12_post 12 = .ok (.iload_n 2, 1) := by decide +kernel
theorem dX12_post_13 : decode cX12_post 13 = .ok (.i2l, 1) := by decide +kernel
theorem dX12_post_14 : decode cX12_post 14 = .ok (.lconst 1, 1) := by decide +kernel
theorem dX12_post_15 : decode cX12_post 15 = .ok (.ldc2_w 332, 3) := by decide +kernel
theorem dX12_post_18 : decode cX12_post 18 = .ok (.invokestatic 213, 3) := by decide +kernel
theorem dX12_post_21 : decode cX12_post 21 = .ok (.ifCond .eq 21, 3) := by decide +kernel
theorem dX12_post_24 : decode cX12_post 24 = .ok (.iload_n 3, 1) := by decide +kernel
theorem dX12_post_25 : decode cX12_post 25 = .ok (.ifCond .eq 19, 3) := by decide +kernel
theorem dX12_post_28 : decode cX12_post 28 = .ok (.iload_n 3, 1) := by decide +kernel
theorem dX12_post_29 : decode cX12_post 29 = .ok (.i2l, 1) := by decide +kernel
theorem dX12_post_30 : decode cX12_post 30 = .ok (.ldc2_w 312, 3) := by decide +kernel
theorem dX12_post_33 : decode cX12_post 33 = .ok (.ldc2_w 356, 3) := by decide +kernel
theorem dX12_post_36 : decode cX12_post 36 = .ok (.invokestatic 213, 3) := by decide +kernel
theorem dX12_post_39 : decode cX12_post 39 = .ok (.ifCond .ne 5, 3) := by decide +kernel
theorem dX12_post_42 : decode cX12_post 42 = .ok (.iconst (-1), 1) := by decide +kernel
theorem dX12_post_43 : decode cX12_post 43 = .ok (.ireturn, 1) := by decide +kernel
theorem dX12_post_44 : decode cX12_post 44 = .ok (.aload_n 0, 1) := by decide +kernel
theorem dX12_post_45 : decode cX12_post 45 = .ok (.getfield 90, 3) := by decide +kernel
theorem dX12_post_48 : decode cX12_post 48 = .ok (.iload_n 1, 1) := by decide +kernel
theorem dX12_post_49 : decode cX12_post 49 = .ok (.iload_n 2, 1) := by decide +kernel
theorem dX12_post_50 : decode cX12_post 50 = .ok (.iastore, 1) := by decide +kernel
theorem dX12_post_51 : decode cX12_post 51 = .ok (.aload_n 0, 1) := by decide +kernel
theorem dX12_post_52 : decode cX12_post 52 = .ok (.getfield 93, 3) := by decide +kernel
theorem dX12_post_55 : decode cX12_post 55 = .ok (.iload_n 1, 1) := by decide +kernel
theorem dX12_post_56 : decode cX12_post 56 = .ok (.iload_n 3, 1) := by decide +kernel
theorem dX12_post_57 : decode cX12_post 57 = .ok (.iastore, 1) := by decide +kernel
theorem dX12_post_58 : decode cX12_post 58 = .ok (.aload_n 0, 1) := by decide +kernel
theorem dX12_post_59 : decode cX12_post 59 = .ok (.getfield 96, 3) := by decide +kernel
theorem dX12_post_62 : decode cX12_post 62 = .ok (.iload_n 1, 1) := by decide +kernel
theorem dX12_post_63 : decode cX12_post 63 = .ok (.iconst 0, 1) := by decide +kernel
theorem dX12_post_64 : decode cX12_post 64 = .ok (.iastore, 1) := by decide +kernel
theorem dX12_post_65 : decode cX12_post 65 = .ok (.iconst 1, 1) := by decide +kernel
theorem dX12_post_66 : decode cX12_post 66 = .ok (.ireturn, 1) := by decide +kernel
theorem dX12_goes_0 : decode cX12_goes 0 = .ok (.aload_n 0, 1) := by decide +kernel
theorem dX12_goes_1 : decode cX12_goes 1 = .ok (.getfield 55, 3) := by decide +kernel
theorem dX12_goes_4 : decode cX12_goes 4 = .ok (.aload_n 0, 1) := by decide +kernel
theorem dX12_goes_5 : decode cX12_goes 5 = .ok (.getfield 102, 3) := by decide +kernel
theorem dX12_goes_8 : decode cX12_goes 8 = .ok (.iload_n 1, 1) := by decide +kernel
theorem dX12_goes_9 : decode cX12_goes 9 = .ok (.iaload, 1) := by decide +kernel
theorem dX12_goes_10 : decode cX12_goes 10 = .ok (.iaload, 1) := by decide +kernel
theorem dX12_goes_11 : decode cX12_goes 11 = .ok (.istore 4, 2) := by decide +kernel
theorem dX12_goes_13 : decode cX12_goes 13 = .ok (.aload_n 0, 1) := by decide +kernel
theorem dX12_goes_14 : decode cX12_goes 14 = .ok (.getfield 96, 3) := by decide +kernel
theorem dX12_goes_17 : decode cX12_goes 17 = .ok (.iload 4, 2) := by decide +kernel
theorem dX12_goes_19 : decode cX12_goes 19 = .ok (.dup2, 1) := by decide +kernel
theorem dX12_goes_20 : decode cX12_goes 20 = .ok (.iaload, 1) := by decide +kernel
theorem dX12_goes_21 : decode cX12_goes 21 = .ok (.iconst 1, 1) := by decide +kernel
theorem dX12_goes_22 : decode cX12_goes 22 = .ok (.iadd, 1) := by decide +kernel
theorem dX12_goes_23 : decode cX12_goes 23 = .ok (.iastore, 1) := by decide +kernel
theorem dX12_goes_24 : decode cX12_goes 24 = .ok (.aload_n 0, 1) := by decide +kernel
theorem dX12_goes_25 : decode cX12_goes 25 = .ok (.getfield 93, 3) := by decide +kernel
theorem dX12_goes_28 : decode cX12_goes 28 = .ok (.iload 4, 2) := by decide +kernel
theorem dX12_goes_30 : decode cX12_goes 30 = .ok (.iaload, 1) := by decide +kernel
theorem dX12_goes_31 : decode cX12_goes 31 = .ok (.ifCond .le 25, 3) := by decide +kernel
theorem dX12_goes_34 : decode cX12_goes 34 = .ok (.aload_n 0, 1) := by decide +kernel
theorem dX12_goes_35 : decode cX12_goes 35 = .ok (.getfield 96, 3) := by decide +kernel
theorem dX12_goes_38 : decode cX12_goes 38 = .ok (.iload 4, 2) := by decide +kernel
theorem dX12_goes_40 : decode cX12_goes 40 = .ok (.iaload, 1) := by decide +kernel
theorem dX12_goes_41 : decode cX12_goes 41 = .ok (.aload_n 0, 1) := by decide +kernel
theorem dX12_goes_42 : decode cX12_goes 42 = .ok (.getfield 93, 3) := by decide +kernel
theorem dX12_goes_45 : decode cX12_goes 45 = .ok (.iload 4, 2) := by decide +kernel
theorem dX12_goes_47 : decode cX12_goes 47 = .ok (.iaload, 1) := by decide +kernel
theorem dX12_goes_48 : decode cX12_goes 48 = .ok (.irem, 1) := by decide +kernel
theorem dX12_goes_49 : decode cX12_goes 49 = .ok (.ifCond .ne 7, 3) := by decide +kernel
theorem dX12_goes_52 : decode cX12_goes 52 = .ok (.iconst 1, 1) := by decide +kernel
theorem dX12_goes_53 : decode cX12_goes 53 = .ok (.goto 4, 3) := by decide +kernel
theorem dX12_goes_56 : decode cX12_goes 56 = .ok (.iconst 0, 1) := by decide +kernel
theorem dX12_goes_57 : decode cX12_goes 57 = .ok (.istore 5, 2) := by decide +kernel
theorem dX12_goes_59 : decode cX12_goes 59 = .ok (.aload_n 0, 1) := by decide +kernel
theorem dX12_goes_60 : decode cX12_goes 60 = .ok (.getfield 99, 3) := by decide +kernel
theorem dX12_goes_63 : decode cX12_goes 63 = .ok (.iload_n 1, 1) := by decide +kernel
theorem dX12_goes_64 : decode cX12_goes 64 = .ok (.iload 5, 2) := by decide +kernel
theorem dX12_goes_66 : decode cX12_goes 66 = .ok (.ifCond .eq 7, 3) := by decide +kernel
theorem dX12_goes_69 : decode cX12_goes 69 = .ok (.iconst 4, 1) := by decide +kernel
theorem dX12_goes_70 : decode cX12_goes 70 = .ok (.goto 4, 3) := by decide +kernel
theorem dX12_goes_73 : decode cX12_goes 73 = .ok (.iload_n 2, 1) := by decide +kernel
theorem dX12_goes_74 : decode cX12_goes 74 = .ok (.iastore, 1) := by decide +kernel
theorem dX12_goes_75 : decode cX12_goes 75 = .ok (.aload_n 0, 1) := by decide +kernel
theorem dX12_goes_76 : decode cX12_goes 76 = .ok (.getfield 114, 3) := by decide +kernel
theorem dX12_goes_79 : decode cX12_goes 79 = .ok (.iload_n 1, 1) := by decide +kernel
theorem dX12_goes_80 : decode cX12_goes 80 = .ok (.iload_n 3, 1) := by decide +kernel
theorem dX12_goes_81 : decode cX12_goes 81 = .ok (.iastore, 1) := by decide +kernel
theorem dX12_goes_82 : decode cX12_goes 82 = .ok (.aload_n 0, 1) := by decide +kernel
theorem dX12_goes_83 : decode cX12_goes 83 = .ok (.getfield 117, 3) := by decide +kernel
theorem dX12_goes_86 : decode cX12_goes 86 = .ok (.iload_n 1, 1) := by decide +kernel
theorem dX12_goes_87 : decode cX12_goes 87 = .ok (.iload 5, 2) := by decide +kernel
theorem dX12_goes_89 : decode cX12_goes 89 = .ok (.ifCond .eq 8, 3) := by decide +kernel
theorem dX12_goes_92 : decode cX12_goes 92 = .ok (.bipush (-4), 2) := by decide +kernel
theorem dX12_goes_94 : decode cX12_goes 94 = .ok (.goto 12, 3) := by decide +kernel
theorem dX12_goes_97 : decode cX12_goes 97 = .ok (.iload_n 3, 1) := by decide +kernel
theorem dX12_goes_98 : decode cX12_goes 98 = .ok (.aload_n 0, 1) := by decide +kernel
theorem dX12_goes_99 : decode cX12_goes 99 = .ok (.getfield 90, 3) := by decide +kernel
theorem dX12_goes_102 : decode cX12_goes 102 = .ok (.iload 4, 2) := by decide +kernel
theorem dX12_goes_104 : decode cX12_goes 104 = .ok (.iaload, 1) := by decide +kernel
theorem dX12_goes_105 : decode cX12_goes 105 = .ok (.iadd, 1) := by decide +kernel
theorem dX12_goes_106 : decode cX12_goes 106 = .ok (.iastore, 1) := by decide +kernel
theorem dX12_goes_107 : decode cX12_goes 107 = .ok (.return_, 1) := by decide +kernel
theorem dX12_send_0 : decode cX12_send 0 = .ok (.aload_n 0, 1) := by decide +kernel
theorem dX12_send_1 : decode cX12_send 1 = .ok (.iload_n 1, 1) := by decide +kernel
theorem dX12_send_2 : decode cX12_send 2 = .ok (.invokevirtual 329, 3) := by decide +kernel
theorem dX12_send_5 : decode cX12_send 5 = .ok (.ifCond .eq 34, 3) := by decide +kernel
theorem dX12_send_8 : decode cX12_send 8 = .ok (.iload_n 3, 1) := by decide +kernel
theorem dX12_send_9 : decode cX12_send 9 = .ok (.invokestatic 302, 3) := by decide +kernel
theorem dX12_send_12 : decode cX12_send 12 = .ok (.ifCond .eq 27, 3) := by decide +kernel
theorem dX12_send_15 : decode cX12_send 15 = .ok (.aload_n 0, 1) := by decide +kernel
theorem dX12_send_16 : decode cX12_send 16 = .ok (.aload_n 0, 1) := by decide +kernel
theorem dX12_send_17 : decode cX12_send 17 = .ok (.getfield 58, 3) := by decide +kernel
theorem dX12_send_20 : decode cX12_send 20 = .ok (.iload_n 1, 1) := by decide +kernel
theorem dX12_send_21 : decode cX12_send 21 = .ok (.iaload, 1) := by decide +kernel
theorem dX12_send_22 : decode cX12_send 22 = .ok (.iload_n 2, 1) := by decide +kernel
theorem dX12_send_23 : decode cX12_send 23 = .ok (.invokevirtual 317, 3) := by decide +kernel
theorem dX12_send_26 : decode cX12_send 26 = .ok (.ifCond .eq 13, 3) := by decide +kernel
theorem dX12_send_29 : decode cX12_send 29 = .ok (.iload_n 3, 1) := by decide +kernel
theorem dX12_send_30 : decode cX12_send 30 = .ok (.aload_n 0, 1) := by decide +kernel
theorem dX12_send_31 : decode cX12_send 31 = .ok (.getfield 61, 3) := by decide +kernel
theorem dX12_send_34 : decode cX12_send 34 = .ok (.iload_n 1, 1) := by decide +kernel
theorem dX12_send_35 : decode cX12_send 35 = .ok (.iaload, 1) := by decide +kernel
theorem dX12_send_36 : decode cX12_send 36 = .ok (.if_icmp .ge 5, 3) := by decide +kernel
theorem dX12_send_39 : decode cX12_send 39 = .ok (.iconst (-1), 1) := by decide +kernel
theorem dX12_send_40 : decode cX12_send 40 = .ok (.ireturn, 1) := by decide +kernel
theorem dX12_send_41 : decode cX12_send 41 = .ok (.aload_n 0, 1) := by decide +kernel
theorem dX12_send_42 : decode cX12_send 42 = .ok (.iload_n 1, 1) := by decide +kernel
theorem dX12_send_43 : decode cX12_send 43 = .ok (.sipush 3999, 3) := by decide +kernel
theorem dX12_send_46 : decode cX12_send 46 = .ok (.invokevirtual 346, 3) := by decide +kernel
theorem dX12_send_49 : decode cX12_send 49 = .ok (.aload_n 0, 1) := by decide +kernel
theorem dX12_send_50 : decode cX12_send 50 = .ok (.aload_n 0, 1) := by decide +kernel
theorem dX12_send_51 : decode cX12_send 51 = .ok (.getfield 58, 3) := by decide +kernel
theorem dX12_send_54 : decode cX12_send 54 = .ok (.iload_n 1, 1) := by decide +kernel
theorem dX12_send_55 : decode cX12_send 55 = .ok (.iaload, 1) := by decide +kernel
theorem dX12_send_56 : decode cX12_send 56 = .ok (.iconst 0, 1) := by decide +kernel
theorem dX12_send_57 : decode cX12_send 57 = .ok (.invokevirtual 350, 3) := by decide +kernel
theorem dX12_send_60 : decode cX12_send 60 = .ok (.iload_n 2, 1) := by decide +kernel
theorem dX12_send_61 : decode cX12_send 61 = .ok (.ishr, 1) := by decide +kernel
theorem dX12_send_62 : decode cX12_send 62 = .ok (.iconst 1, 1) := by decide +kernel
theorem dX12_send_63 : decode cX12_send 63 = .ok (.iand, 1) := by decide +kernel
theorem dX12_send_64 : decode cX12_send 64 = .ok (.ifCond .eq 12, 3) := by decide +kernel
theorem dX12_send_67 : decode cX12_send 67 = .ok (.aload_n 0, 1) := by decide +kernel
theorem dX12_send_68 : decode cX12_send 68 = .ok (.iload_n 1, 1) := by decide +kernel
theorem dX12_send_69 : decode cX12_send 69 = .ok (.iload_n 3, 1) := by decide +kernel
theorem dX12_send_70 : decode cX12_send 70 = .ok (.invokevirtual 358, 3) := by decide +kernel
theorem dX12_send_73 : decode cX12_send 73 = .ok (.ifCond .eq 6, 3) := by decide +kernel
theorem dX12_send_76 : decode cX12_send 76 = .ok (.bipush (-2), 2) := by decide +kernel
theorem dX12_send_78 : decode cX12_send 78 = .ok (.ireturn, 1) := by decide +kernel
theorem dX12_send_79 : decode cX12_send 79 = .ok (.aload_n 0, 1) := by decide +kernel
theorem dX12_send_80 : decode cX12_send 80 = .ok (.getfield 334, 3) := by decide +kernel
theorem dX12_send_83 : decode cX12_send 83 = .ok (.bipush 80, 2) := by decide +kernel
theorem dX12_send_85 : decode cX12_send 85 = .ok (.if_icmp .ne 6, 3) := by decide +kernel
theorem dX12_send_88 : decode cX12_send 88 = .ok (.bipush (-3), 2) := by decide +kernel
theorem dX12_send_90 : decode cX12_send 90 = .ok (.ireturn, 1) := by decide +kernel
theorem dX12_send_91 : decode cX12_send 91 = .ok (.aload_n 0, 1) := by decide +kernel
theorem dX12_send_92 : decode cX12_send 92 = .ok (.getfield 334, 3) := by decide +kernel
theorem dX12_send_95 : decode cX12_send 95 = .ok (.istore 4, 2) := by decide +kernel
theorem dX12_send_97 : decode cX12_send 97 = .ok (.aload_n 0, 1) := by decide +kernel
theorem dX12_send_98 : decode cX12_send 98 = .ok (.dup, 1) := by decide +kernel
theorem dX12_send_99 : decode cX12_send 99 = .ok (.getfield 334, 3) := by decide +kernel
theorem dX12_send_102 : decode cX12_send 102 = .ok (.iconst 1, 1) := by decide +kernel
theorem dX12_send_103 : decode cX12_send 103 = .ok (.iadd, 1) := by decide +kernel
theorem dX12_send_104 : decode cX12_send 104 = .ok (.putfield 334, 3) := by decide +kernel
theorem dX12_send_107 : decode cX12_send 107 = .ok (.aload_n 0, 1) := by decide +kernel
theorem dX12_send_108 : decode cX12_send 108 = .ok (.getfield 102, 3) := by decide +kernel
theorem dX12_send_111 : decode cX12_send 111 = .ok (.iload 4, 2) := by decide +kernel
theorem dX12_send_113 : decode cX12_send 113 = .ok (.iload_n 1, 1) := by decide +kernel
theorem dX12_send_114 : decode cX12_send 114 = .ok (.iastore, 1) := by decide +kernel
theorem dX12_send_115 : decode cX12_send 115 = .ok (.aload_n 0, 1) := by decide +kernel
theorem dX12_send_116 : decode cX12_send 116 = .ok (.getfield 105, 3) := by decide +kernel
theorem dX12_send_119 : decode cX12_send 119 = .ok (.iload 4, 2) := by decide +kernel
theorem dX12_send_121 : decode cX12_send 121 = .ok (.aload_n 0, 1) := by decide +kernel
theorem dX12_send_122 : decode cX12_send 122 = .ok (.getfield 40, 3) := by decide +kernel
theorem dX12_send_125 : decode cX12_send 125 = .ok (.bipush 8, 2) := by decide +kernel
theorem dX12_send_127 : decode cX12_send 127 = .ok (.aload_n 0, 1) := by decide +kernel
theorem dX12_send_128 : decode cX12_send 128 = .ok (.getfield 58, 3) := by decide +kernel
theorem dX12_send_131 : decode cX12_send 131 = .ok (.iload_n 1, 1) := by decide +kernel
theorem dX12_send_132 : decode cX12_send 132 = .ok (.iaload, 1) := by decide +kernel
theorem dX12_send_133 : decode cX12_send 133 = .ok (.imul, 1) := by decide +kernel
theorem dX12_send_134 : decode cX12_send 134 = .ok (.iload_n 2, 1) := by decide +kernel
theorem dX12_send_135 : decode cX12_send 135 = .ok (.iadd, 1) := by decide +kernel
theorem dX12_send_136 : decode cX12_send 136 = .ok (.iaload, 1) := by decide +kernel
theorem dX12_send_137 : decode cX12_send 137 = .ok (.iastore, 1) := by decide +kernel
theorem dX12_send_138 : decode cX12_send 138 = .ok (.aload_n 0, 1) := by decide +kernel
theorem dX12_send_139 : decode cX12_send 139 = .ok (.getfield 108, 3) := by decide +kernel
theorem dX12_send_142 : decode cX12_send 142 = .ok (.iload 4, 2) := by decide +kernel
theorem dX12_send_144 : decode cX12_send 144 = .ok (.iload_n 2, 1) := by decide +kernel
theorem dX12_send_145 : decode cX12_send 145 = .ok (.iastore, 1) := by decide +kernel
theorem dX12_send_146 : decode cX12_send 146 = .ok (.aload_n 0, 1) := by decide +kernel
theorem dX12_send_147 : decode cX12_send 147 = .ok (.getfield 111, 3) := by decide +kernel
theorem dX12_send_150 : decode cX12_send 150 = .ok (.iload 4, 2) := by decide +kernel
theorem dX12_send_152 : decode cX12_send 152 = .ok (.iload_n 3, 1) := by decide +kernel
theorem dX12_send_153 : decode cX12_send 153 = .ok (.iastore, 1) := by decide +kernel
theorem dX12_send_154 : decode cX12_send 154 = .ok (.aload_n 0, 1) := by decide +kernel
theorem dX12_send_155 : decode cX12_send 155 = .ok (.getfield 120, 3) := by decide +kernel
theorem dX12_send_158 : decode cX12_send 158 = .ok (.iload 4, 2) := by decide +kernel
theorem dX12_send_160 : decode cX12_send 160 = .ok (.bipush (-4), 2) := by decide +kernel
theorem dX12_send_162 : decode cX12_send 162 = .ok (.iastore, 1) := by decide +kernel
theorem dX12_send_163 : decode cX12_send 163 = .ok (.aload_n 0, 1) := by decide +kernel
theorem dX12_send_164 : decode cX12_send 164 = .ok (.getfield 135, 3) := by decide +kernel
theorem dX12_send_167 : decode cX12_send 167 = .ok (.iload 4, 2) := by decide +kernel
theorem dX12_send_169 : decode cX12_send 169 = .ok (.bipush (-4), 2) := by decide +kernel
theorem dX12_send_171 : decode cX12_send 171 = .ok (.iastore, 1) := by decide +kernel
theorem dX12_send_172 : decode cX12_send 172 = .ok (.aload_n 0, 1) := by decide +kernel
theorem dX12_send_173 : decode cX12_send 173 = .ok (.iload 4, 2) := by decide +kernel
theorem dX12_send_175 : decode cX12_send 175 = .ok (.iconst 0, 1) := by decide +kernel
theorem dX12_send_176 : decode cX12_send 176 = .ok (.iload_n 3, 1) := by decide +kernel
theorem dX12_send_177 : decode cX12_send 177 = .ok (.invokevirtual 361, 3) := by decide +kernel
theorem dX12_send_180 : decode cX12_send 180 = .ok (.iload 4, 2) := by decide +kernel
theorem dX12_send_182 : decode cX12_send 182 = .ok (.ireturn, 1) := by decide +kernel
theorem dX12_isThing_0 : decode cX12_isThing 0 = .ok (.iload_n 1, 1) := by decide +kernel
theorem dX12_isThing_1 : decode cX12_isThing 1 = .ok (.i2l, 1) := by decide +kernel
theorem dX12_isThing_2 : decode cX12_isThing 2 = .ok (.lconst 0, 1) := by decide +kernel
theorem dX12_isThing_3 : decode cX12_isThing 3 = .ok (.aload_n 0, 1) := by decide +kernel
theorem dX12_isThing_4 : decode cX12_isThing 4 = .ok (.getfield 334, 3) := by decide +kernel
theorem dX12_isThing_7 : decode cX12_isThing 7 = .ok (.iconst 1, 1) := by decide +kernel
theorem dX12_isThing_8 : decode cX12_isThing 8 = .ok (.isub, 1) := by decide +kernel
theorem dX12_isThing_9 : decode cX12_isThing 9 = .ok (.i2l, 1) := by decide +kernel
theorem dX12_isThing_10 : decode cX12_isThing 10 = .ok (.invokestatic 213, 3) := by decide +kernel
theorem dX12_isThing_13 : decode cX12_isThing 13 = .ok (.ireturn, 1) := by decide +kernel
theorem dX12_answer_0 : decode cX12_answer 0 = .ok (.aload_n 0, 1) := by decide +kernel
theorem dX12_answer_1 : decode cX12_answer 1 = .ok (.iload_n 1, 1) := by decide +kernel
theorem dX12_answer_2 : decode cX12_answer 2 = .ok (.invokevirtual 365, 3) := by decide +kernel
theorem dX12_answer_5 : decode cX12_answer 5 = .ok (.ifCond .eq 10, 3) := by decide +kernel
theorem dX12_answer_8 : decode cX12_answer 8 = .ok (.iload_n 2, 1) := by decide +kernel
theorem dX12_answer_9 : decode cX12_answer 9 = .ok (.invokestatic 302, 3) := by decide +kernel
theorem dX12_answer_12 : decode cX12_answer 12 = .ok (.ifCond .ne 5, 3) := by decide +kernel
theorem dX12_answer_15 : decode cX12_answer 15 = .ok (.iconst (-1), 1) := by decide +kernel
theorem dX12_answer_16 : decode cX12_answer 16 = .ok (.ireturn, 1) := by decide +kernel
theorem dX12_answer_17 : decode cX12_answer 17 = .ok (.aload_n 0, 1) := by decide +kernel
theorem dX12_answer_18 : decode cX12_answer 18 = .ok (.getfield 99, 3) := by decide +kernel
theorem dX12_answer_21 : decode cX12_answer 21 = .ok (.iload_n 1, 1) := by decide +kernel
theorem dX12_answer_22 : decode cX12_answer 22 = .ok (.iaload, 1) := by decide +kernel
theorem dX12_answer_23 : decode cX12_answer 23 = .ok (.iconst 4, 1) := by decide +kernel
theorem dX12_answer_24 : decode cX12_answer 24 = .ok (.if_icmp .ne 6, 3) := by decide +kernel
theorem dX12_answer_27 : decode cX12_answer 27 = .ok (.bipush (-12), 2) := by decide +kernel
theorem dX12_answer_29 : decode cX12_answer 29 = .ok (.ireturn, 1) := by decide +kernel
theorem dX12_answer_30 : decode cX12_answer 30 = .ok (.aload_n 0, 1) := by decide +kernel
theorem dX12_answer_31 : decode cX12_answer 31 = .ok (.getfield 99, 3) := by decide +kernel
theorem dX12_answer_34 : decode cX12_answer 34 = .ok (.iload_n 1, 1) := by decide +kernel
theorem dX12_answer_35 : decode cX12_answer 35 = .ok (.iaload, 1) := by decide +kernel
theorem dX12_answer_36 : decode cX12_answer 36 = .ok (.ifCond .eq 13, 3) := by decide +kernel
theorem dX12_answer_39 : decode cX12_answer 39 = .ok (.aload_n 0, 1) := by decide +kernel
theorem dX12_answer_40 : decode cX12_answer 40 = .ok (.getfield 99, 3) := by decide +kernel
theorem dX12_answer_43 : decode cX12_answer 43 = .ok (.iload_n 1, 1) := by decide +kernel
theorem dX12_answer_44 : decode cX12_answer 44 = .ok (.iaload, 1) := by decide +kernel
theorem dX12_answer_45 : decode cX12_answer 45 = .ok (.iconst 3, 1) := by decide +kernel
theorem dX12_answer_46 : decode cX12_answer 46 = .ok (.if_icmp .ne 7, 3) := by decide +kernel
theorem dX12_answer_49 : decode cX12_answer 49 = .ok (.iconst 1, 1) := by decide +kernel
theorem dX12_answer_50 : decode cX12_answer 50 = .ok (.goto 4, 3) := by decide +kernel
theorem dX12_answer_53 : decode cX12_answer 53 = .ok (.iconst 0, 1) := by decide +kernel
theorem dX12_answer_54 : decode cX12_answer 54 = .ok (.istore_n 3, 1) := by decide +kernel
theorem dX12_answer_55 : decode cX12_answer 55 = .ok (.iload_n 3, 1) := by decide +kernel
theorem dX12_answer_56 : decode cX12_answer 56 = .ok (.ifCond .eq 27, 3) := by decide +kernel
theorem dX12_answer_59 : decode cX12_answer 59 = .ok (.aload_n 0, 1) := by decide +kernel
theorem dX12_answer_60 : decode cX12_answer 60 = .ok (.getfield 117, 3) := by decide +kernel
theorem dX12_answer_63 : decode cX12_answer 63 = .ok (.iload_n 1, 1) := by decide +kernel
theorem dX12_answer_64 : decode cX12_answer 64 = .ok (.iaload, 1) := by decide +kernel
theorem dX12_answer_65 : decode cX12_answer 65 = .ok (.iload_n 2, 1) := by decide +kernel
theorem dX12_answer_66 : decode cX12_answer 66 = .ok (.if_icmp .gt 17, 3) := by decide +kernel
theorem dX12_answer_69 : decode cX12_answer 69 = .ok (.aload_n 0, 1) := by decide +kernel
theorem dX12_answer_70 : decode cX12_answer 70 = .ok (.aload_n 0, 1) := by decide +kernel
theorem dX12_answer_71 : decode cX12_answer 71 = .ok (.getfield 102, 3) := by decide +kernel
theorem dX12_answer_74 : decode cX12_answer 74 = .ok (.iload_n 1, 1) := by decide +kernel
theorem dX12_answer_75 : decode cX12_answer 75 = .ok (.iaload, 1) := by decide +kernel
theorem dX12_answer_76 : decode cX12_answer 76 = .ok (.iload_n 2, 1) := by decide +kernel
theorem dX12_answer_77 : decode cX12_answer 77 = .ok (.invokevirtual 358, 3) := by decide +kernel
theorem dX12_answer_80 : decode cX12_answer 80 = .ok (.ifCond .eq 6, 3) := by decide +kernel
theorem dX12_answer_83 : decode cX12_answer 83 = .ok (.bipush (-2), 2) := by decide +kernel
theorem dX12_answer_85 : decode cX12_answer 85 = .ok (.ireturn, 1) := by decide +kernel
theorem dX12_answer_86 : decode cX12_answer 86 = .ok (.aload_n 0, 1) := by decide +kernel
theorem dX12_answer_87 : decode cX12_answer 87 = .ok (.iload_n 1, 1) := by decide +kernel
theorem dX12_answer_88 : decode cX12_answer 88 = .ok (.iconst 1, 1) := by decide +kernel
theorem dX12_answer_89 : decode cX12_answer 89 = .ok (.iload_n 2, 1) := by decide +kernel
theorem dX12_answer_90 : decode cX12_answer 90 = .ok (.invokevirtual 361, 3) := by decide +kernel
theorem dX12_answer_93 : decode cX12_answer 93 = .ok (.aload_n 0, 1) := by decide +kernel
theorem dX12_answer_94 : decode cX12_answer 94 = .ok (.getfield 117, 3) := by decide +kernel
theorem dX12_answer_97 : decode cX12_answer 97 = .ok (.iload_n 1, 1) := by decide +kernel
theorem dX12_answer_98 : decode cX12_answer 98 = .ok (.iaload, 1) := by decide +kernel
theorem dX12_answer_99 : decode cX12_answer 99 = .ok (.ireturn, 1) := by decide +kernel
theorem dX12_isAnswer_0 : decode cX12_isAnswer 0 = .ok (.aload_n 0, 1) := by decide +kernel
theorem dX12_isAnswer_1 : decode cX12_isAnswer 1 = .ok (.getfield 99, 3) := by decide +kernel
theorem dX12_isAnswer_4 : decode cX12_isAnswer 4 = .ok (.iload_n 1, 1) := by decide +kernel
theorem dX12_isAnswer_5 : decode cX12_isAnswer 5 = .ok (.iaload, 1) := by decide +kernel
theorem dX12_isAnswer_6 : decode cX12_isAnswer 6 = .ok (.iconst 1, 1) := by decide +kernel
theorem dX12_isAnswer_7 : decode cX12_isAnswer 7 = .ok (.if_icmp .eq 23, 3) := by decide +kernel
theorem dX12_isAnswer_10 : decode cX12_isAnswer 10 = .ok (.aload_n 0, 1) := by decide +kernel
theorem dX12_isAnswer_11 : decode cX12_isAnswer 11 = .ok (.getfield 99, 3) := by decide +kernel
theorem dX12_isAnswer_14 : decode cX12_isAnswer 14 = .ok (.iload_n 1, 1) := by decide +kernel
theorem dX12_isAnswer_15 : decode cX12_isAnswer 15 = .ok (.iaload, 1) := by decide +kernel
theorem dX12_isAnswer_16 : decode cX12_isAnswer 16 = .ok (.iconst 2, 1) := by decide +kernel
theorem dX12_isAnswer_17 : decode cX12_isAnswer 17 = .ok (.if_icmp .eq 13, 3) := by decide +kernel
theorem dX12_isAnswer_20 : decode cX12_isAnswer 20 = .ok (.aload_n 0, 1) := by decide +kernel
theorem dX12_isAnswer_21 : decode cX12_isAnswer 21 = .ok (.getfield 99, 3) := by decide +kernel
theorem dX12_isAnswer_24 : decode cX12_isAnswer 24 = .ok (.iload_n 1, 1) := by decide +kernel
theorem dX12_isAnswer_25 : decode cX12_isAnswer 25 = .ok (.iaload, 1) := by decide +kernel
theorem dX12_isAnswer_26 : decode cX12_isAnswer 26 = .ok (.iconst 3, 1) := by decide +kernel
theorem dX12_isAnswer_27 : decode cX12_isAnswer 27 = .ok (.if_icmp .ne 7, 3) := by decide +kernel
theorem dX12_isAnswer_30 : decode cX12_isAnswer 30 = .ok (.iconst 1, 1) := by decide +kernel
theorem dX12_isAnswer_31 : decode cX12_isAnswer 31 = .ok (.goto 4, 3) := by decide +kernel
theorem dX12_isAnswer_34 : decode cX12_isAnswer 34 = .ok (.iconst 0, 1) := by decide +kernel
theorem dX12_isAnswer_35 : decode cX12_isAnswer 35 = .ok (.ireturn, 1) := by decide +kernel
theorem dX12_suits_0 : decode cX12_suits 0 = .ok (.aload_n 0, 1) := by decide +kernel
theorem dX12_suits_1 : decode cX12_suits 1 = .ok (.getfield 144, 3) := by decide +kernel
theorem dX12_suits_4 : decode cX12_suits 4 = .ok (.iload_n 2, 1) := by decide +kernel
theorem dX12_suits_5 : decode cX12_suits 5 = .ok (.iaload, 1) := by decide +kernel
theorem dX12_suits_6 : decode cX12_suits 6 = .ok (.aload_n 0, 1) := by decide +kernel
theorem dX12_suits_7 : decode cX12_suits 7 = .ok (.getfield 105, 3) := by decide +kernel
theorem dX12_suits_10 : decode cX12_suits 10 = .ok (.iload_n 1, 1) := by decide +kernel
theorem dX12_suits_11 : decode cX12_suits 11 = .ok (.iaload, 1) := by decide +kernel
theorem dX12_suits_12 : decode cX12_suits 12 = .ok (.bipush 10, 2) := by decide +kernel
theorem dX12_suits_14 : decode cX12_suits 14 = .ok (.idiv, 1) := by decide +kernel
theorem dX12_suits_15 : decode cX12_suits 15 = .ok (.ishr, 1) := by decide +kernel
theorem dX12_suits_16 : decode cX12_suits 16 = .ok (.iconst 1, 1) := by decide +kernel
theorem dX12_suits_17 : decode cX12_suits 17 = .ok (.iand, 1) := by decide +kernel
theorem dX12_suits_18 : decode cX12_suits 18 = .ok (.iconst 1, 1) := by decide +kernel
theorem dX12_suits_19 : decode cX12_suits 19 = .ok (.if_icmp .ne 25, 3) := by decide +kernel
theorem dX12_suits_22 : decode cX12_suits 22 = .ok (.aload_n 0, 1) := by decide +kernel
theorem dX12_suits_23 : decode cX12_suits 23 = .ok (.getfield 150, 3) := by decide +kernel
theorem dX12_suits_26 : decode cX12_suits 26 = .ok (.iload_n 2, 1) := by decide +kernel
theorem dX12_suits_27 : decode cX12_suits 27 = .ok (.iaload, 1) := by decide +kernel
theorem dX12_suits_28 : decode cX12_suits 28 = .ok (.aload_n 0, 1) := by decide +kernel
theorem dX12_suits_29 : decode cX12_suits 29 = .ok (.getfield 102, 3) := by decide +kernel
theorem dX12_suits_32 : decode cX12_suits 32 = .ok (.iload_n 1, 1) := by decide +kernel
theorem dX12_suits_33 : decode cX12_suits 33 = .ok (.iaload, 1) := by decide +kernel
theorem dX12_suits_34 : decode cX12_suits 34 = .ok (.ishr, 1) := by decide +kernel
theorem dX12_suits_35 : decode cX12_suits 35 = .ok (.iconst 1, 1) := by decide +kernel
theorem dX12_suits_36 : decode cX12_suits 36 = .ok (.iand, 1) := by decide +kernel
theorem dX12_suits_37 : decode cX12_suits 37 = .ok (.ifCond .ne 7, 3) := by decide +kernel
theorem dX12_suits_40 : decode cX12_suits 40 = .ok (.iconst 1, 1) := by decide +kernel
theorem dX12_suits_41 : decode cX12_suits 41 = .ok (.goto 4, 3) := by decide +kernel
theorem dX12_suits_44 : decode cX12_suits 44 = .ok (.iconst 0, 1) := by decide +kernel
theorem dX12_suits_45 : decode cX12_suits 45 = .ok (.ireturn, 1) := by decide +kernel
theorem dX12_give_0 : decode cX12_give 0 = .ok (.aload_n 0, 1) := by decide +kernel
theorem dX12_give_1 : decode cX12_give 1 = .ok (.iload_n 1, 1) := by decide +kernel
theorem dX12_give_2 : decode cX12_give 2 = .ok (.invokevirtual 365, 3) := by decide +kernel
theorem dX12_give_5 : decode cX12_give 5 = .ok (.ifCond .eq 18, 3) := by decide +kernel
theorem dX12_give_8 : decode cX12_give 8 = .ok (.aload_n 0, 1) := by decide +kernel
theorem dX12_give_9 : decode cX12_give 9 = .ok (.iload_n 2, 1) := by decide +kernel
theorem dX12_give_10 : decode cX12_give 10 = .ok (.invokevirtual 368, 3) := by decide +kernel
theorem dX12_give_13 : decode cX12_give 13 = .ok (.ifCond .eq 10, 3) := by decide +kernel
theorem dX12_give_16 : decode cX12_give 16 = .ok (.iload_n 3, 1) := by decide +kernel
theorem dX12_give_17 : decode cX12_give 17 = .ok (.invokestatic 302, 3) := by decide +kernel
theorem dX12_give_20 : decode cX12_give 20 = .ok (.ifCond .ne 5, 3) := by decide +kernel
theorem dX12_give_23 : decode cX12_give 23 = .ok (.iconst (-1), 1) := by decide +kernel
theorem dX12_give_24 : decode cX12_give 24 = .ok (.ireturn, 1) := by decide +kernel
theorem dX12_give_25 : decode cX12_give 25 = .ok (.aload_n 0, 1) := by decide +kernel
theorem dX12_give_26 : decode cX12_give 26 = .ok (.iload_n 1, 1) := by decide +kernel
theorem dX12_give_27 : decode cX12_give 27 = .ok (.invokevirtual 371, 3) := by decide +kernel
theorem dX12_give_30 : decode cX12_give 30 = .ok (.ifCond .ne 6, 3) := by decide +kernel
theorem dX12_give_33 : decode cX12_give 33 = .ok (.bipush (-12), 2) := by decide +kernel
theorem dX12_give_35 : decode cX12_give 35 = .ok (.ireturn, 1) := by decide +kernel
theorem dX12_give_36 : decode cX12_give 36 = .ok (.aload_n 0, 1) := by decide +kernel
theorem dX12_give_37 : decode cX12_give 37 = .ok (.getfield 99, 3) := by decide +kernel
theorem dX12_give_40 : decode cX12_give 40 = .ok (.iload_n 1, 1) := by decide +kernel
theorem dX12_give_41 : decode cX12_give 41 = .ok (.iaload, 1) := by decide +kernel
theorem dX12_give_42 : decode cX12_give 42 = .ok (.iconst 1, 1) := by decide +kernel
theorem dX12_give_43 : decode cX12_give 43 = .ok (.if_icmp .ne 33, 3) := by decide +kernel
theorem dX12_give_46 : decode cX12_give 46 = .ok (.aload_n 0, 1) := by decide +kernel
theorem dX12_give_47 : decode cX12_give 47 = .ok (.getfield 120, 3) := by decide +kernel
theorem dX12_give_50 : decode cX12_give 50 = .ok (.iload_n 1, 1) := by decide +kernel
theorem dX12_give_51 : decode cX12_give 51 = .ok (.iaload, 1) := by decide +kernel
theorem dX12_give_52 : decode cX12_give 52 = .ok (.bipush (-4), 2) := by decide +kernel
theorem dX12_give_54 : decode cX12_give 54 = .ok (.if_icmp .ne 22, 3) := by decide +kernel
theorem dX12_give_57 : decode cX12_give 57 = .ok (.aload_n 0, 1) := by decide +kernel
theorem dX12_give_58 : decode cX12_give 58 = .ok (.getfield 117, 3) := by decide +kernel
theorem dX12_give_61 : decode cX12_give 61 = .ok (.iload_n 1, 1) := by decide +kernel
theorem dX12_give_62 : decode cX12_give 62 = .ok (.iaload, 1) := by decide +kernel
theorem dX12_give_63 : decode cX12_give 63 = .ok (.iload_n 3, 1) := by decide +kernel
theorem dX12_give_64 : decode cX12_give 64 = .ok (.if_icmp .gt 12, 3) := by decide +kernel
theorem dX12_give_67 : decode cX12_give 67 = .ok (.aload_n 0, 1) := by decide +kernel
theorem dX12_give_68 : decode cX12_give 68 = .ok (.iload_n 1, 1) := by decide +kernel
theorem dX12_give_69 : decode cX12_give 69 = .ok (.iload_n 2, 1) := by decide +kernel
theorem dX12_give_70 : decode cX12_give 70 = .ok (.invokevirtual 374, 3) := by decide +kernel
theorem dX12_give_73 : decode cX12_give 73 = .ok (.ifCond .ne 6, 3) := by decide +kernel
theorem dX12_give_76 : decode cX12_give 76 = .ok (.bipush (-2), 2) := by decide +kernel
theorem dX12_give_78 : decode cX12_give 78 = .ok (.ireturn, 1) := by decide +kernel
theorem dX12_give_79 : decode cX12_give 79 = .ok (.aload_n 0, 1) := by decide +kernel
theorem dX12_give_80 : decode cX12_give 80 = .ok (.getfield 153, 3) := by decide +kernel
theorem dX12_give_83 : decode cX12_give 83 = .ok (.iload_n 2, 1) := by decide +kernel
theorem dX12_give_84 : decode cX12_give 84 = .ok (.iaload, 1) := by decide +kernel
theorem dX12_give_85 : decode cX12_give 85 = .ok (.bipush 12, 2) := by decide +kernel
theorem dX12_give_87 : decode cX12_give 87 = .ok (.if_icmp .ne 6, 3) := by decide +kernel
theorem dX12_give_90 : decode cX12_give 90 = .ok (.bipush (-3), 2) := by decide +kernel
theorem dX12_give_92 : decode cX12_give 92 = .ok (.ireturn, 1) := by decide +kernel
theorem dX12_give_93 : decode cX12_give 93 = .ok (.aload_n 0, 1) := by decide +kernel
theorem dX12_give_94 : decode cX12_give 94 = .ok (.getfield 120, 3) := by decide +kernel
theorem dX12_give_97 : decode cX12_give 97 = .ok (.iload_n 1, 1) := by decide +kernel
theorem dX12_give_98 : decode cX12_give 98 = .ok (.iload_n 2, 1) := by decide +kernel
theorem dX12_give_99 : decode cX12_give 99 = .ok (.iastore, 1) := by decide +kernel
theorem dX12_give_100 : decode cX12_give 100 = .ok (.aload_n 0, 1) := by decide +kernel
theorem dX12_give_101 : decode cX12_give 101 = .ok (.getfield 123, 3) := by decide +kernel
theorem dX12_give_104 : decode cX12_give 104 = .ok (.iload_n 1, 1) := by decide +kernel
theorem dX12_give_105 : decode cX12_give 105 = .ok (.iload_n 3, 1) := by decide +kernel
theorem dX12_give_106 : decode cX12_give 106 = .ok (.iastore, 1) := by decide +kernel
theorem dX12_give_107 : decode cX12_give 107 = .ok (.aload_n 0, 1) := by decide +kernel
theorem dX12_give_108 : decode cX12_give 108 = .ok (.getfield 153, 3) := by decide +kernel
theorem dX12_give_111 : decode cX12_give 111 = .ok (.iload_n 2, 1) := by decide +kernel
theorem dX12_give_112 : decode cX12_give 112 = .ok (.dup2, 1) := by decide +kernel
theorem dX12_give_113 : decode cX12_give 113 = .ok (.iaload, 1) := by decide +kernel
theorem dX12_give_114 : decode cX12_give 114 = .ok (.iconst 1, 1) := by decide +kernel
theorem dX12_give_115 : decode cX12_give 115 = .ok (.iadd, 1) := by decide +kernel
theorem dX12_give_116 : decode cX12_give 116 = .ok (.iastore, 1) := by decide +kernel
theorem dX12_give_117 : decode cX12_give 117 = .ok (.aload_n 0, 1) := by decide +kernel
theorem dX12_give_118 : decode cX12_give 118 = .ok (.getfield 153, 3) := by decide +kernel
theorem dX12_give_121 : decode cX12_give 121 = .ok (.iload_n 2, 1) := by decide +kernel
theorem dX12_give_122 : decode cX12_give 122 = .ok (.iaload, 1) := by decide +kernel
theorem dX12_give_123 : decode cX12_give 123 = .ok (.ireturn, 1) := by decide +kernel
theorem dX12_isParts_0 : decode cX12_isParts 0 = .ok (.iload_n 0, 1) := by decide +kernel
theorem dX12_isParts_1 : decode cX12_isParts 1 = .ok (.i2l, 1) := by decide +kernel
theorem dX12_isParts_2 : decode cX12_isParts 2 = .ok (.lconst 0, 1) := by decide +kernel
theorem dX12_isParts_3 : decode cX12_isParts 3 = .ok (.ldc2_w 377, 3) := by decide +kernel
theorem dX12_isParts_6 : decode cX12_isParts 6 = .ok (.invokestatic 213, 3) := by decide +kernel
theorem dX12_isParts_9 : decode cX12_isParts 9 = .ok (.ifCond .eq 31, 3) := by decide +kernel
theorem dX12_isParts_12 : decode cX12_isParts 12 = .ok (.iload_n 1, 1) := by decide +kernel
theorem dX12_isParts_13 : decode cX12_isParts 13 = .ok (.i2l, 1) := by decide +kernel
theorem dX12_isParts_14 : decode cX12_isParts 14 = .ok (.lconst 0, 1) := by decide +kernel
theorem dX12_isParts_15 : decode cX12_isParts 15 = .ok (.ldc2_w 377, 3) := by decide +kernel
theorem dX12_isParts_18 : decode cX12_isParts 18 = .ok (.invokestatic 213, 3) := by decide +kernel
theorem dX12_isParts_21 : decode cX12_isParts 21 = .ok (.ifCond .eq 19, 3) := by decide +kernel
theorem dX12_isParts_24 : decode cX12_isParts 24 = .ok (.iload_n 2, 1) := by decide +kernel
theorem dX12_isParts_25 : decode cX12_isParts 25 = .ok (.i2l, 1) := by decide +kernel
theorem dX12_isParts_26 : decode cX12_isParts 26 = .ok (.lconst 0, 1) := by decide +kernel
theorem dX12_isParts_27 : decode cX12_isParts 27 = .ok (.ldc2_w 377, 3) := by decide +kernel
theorem dX12_isParts_30 : decode cX12_isParts 30 = .ok (.invokestatic 213, 3) := by decide +kernel
theorem dX12_isParts_33 : decode cX12_isParts 33 = .ok (.ifCond .eq 7, 3) := by decide +kernel
theorem dX12_isParts_36 : decode cX12_isParts 36 = .ok (.iconst 1, 1) := by decide +kernel
theorem dX12_isParts_37 : decode cX12_isParts 37 = .ok (.goto 4, 3) := by decide +kernel
theorem dX12_isParts_40 : decode cX12_isParts 40 = .ok (.iconst 0, 1) := by decide +kernel
theorem dX12_isParts_41 : decode cX12_isParts 41 = .ok (.ireturn, 1) := by decide +kernel
theorem dX12_isGiven_0 : decode cX12_isGiven 0 = .ok (.aload_n 0, 1) := by decide +kernel
theorem dX12_isGiven_1 : decode cX12_isGiven 1 = .ok (.getfield 99, 3) := by decide +kernel
theorem dX12_isGiven_4 : decode cX12_isGiven 4 = .ok (.iload_n 1, 1) := by decide +kernel
theorem dX12_isGiven_5 : decode cX12_isGiven 5 = .ok (.iaload, 1) := by decide +kernel
theorem dX12_isGiven_6 : decode cX12_isGiven 6 = .ok (.iconst 1, 1) := by decide +kernel
theorem dX12_isGiven_7 : decode cX12_isGiven 7 = .ok (.if_icmp .ne 28, 3) := by decide +kernel
theorem dX12_isGiven_10 : decode cX12_isGiven 10 = .ok (.aload_n 0, 1) := by decide +kernel
theorem dX12_isGiven_11 : decode cX12_isGiven 11 = .ok (.getfield 120, 3) := by decide +kernel
theorem dX12_isGiven_14 : decode cX12_isGiven 14 = .ok (.iload_n 1, 1) := by decide +kernel
theorem dX12_isGiven_15 : decode cX12_isGiven 15 = .ok (.iaload, 1) := by decide +kernel
theorem dX12_isGiven_16 : decode cX12_isGiven 16 = .ok (.bipush (-4), 2) := by decide +kernel
theorem dX12_isGiven_18 : decode cX12_isGiven 18 = .ok (.if_icmp .eq 17, 3) := by decide +kernel
theorem dX12_isGiven_21 : decode cX12_isGiven 21 = .ok (.aload_n 0, 1) := by decide +kernel
theorem dX12_isGiven_22 : decode cX12_isGiven 22 = .ok (.getfield 123, 3) := by decide +kernel
theorem dX12_isGiven_25 : decode cX12_isGiven 25 = .ok (.iload_n 1, 1) := by decide +kernel
theorem dX12_isGiven_26 : decode cX12_isGiven 26 = .ok (.iaload, 1) := by decide +kernel
theorem dX12_isGiven_27 : decode cX12_isGiven 27 = .ok (.iload_n 2, 1) := by decide +kernel
theorem dX12_isGiven_28 : decode cX12_isGiven 28 = .ok (.if_icmp .gt 7, 3) := by decide +kernel
theorem dX12_isGiven_31 : decode cX12_isGiven 31 = .ok (.iconst 1, 1) := by decide +kernel
theorem dX12_isGiven_32 : decode cX12_isGiven 32 = .ok (.goto 4, 3) := by decide +kernel
theorem dX12_isGiven_35 : decode cX12_isGiven 35 = .ok (.iconst 0, 1) := by decide +kernel
theorem dX12_isGiven_36 : decode cX12_isGiven 36 = .ok (.ireturn, 1) := by decide +kernel
theorem dX12_mark_0 : decode cX12_mark 0 = .ok (.aload_n 0, 1) := by decide +kernel
theorem dX12_mark_1 : decode cX12_mark 1 = .ok (.iload_n 1, 1) := by decide +kernel
theorem dX12_mark_2 : decode cX12_mark 2 = .ok (.invokevirtual 365, 3) := by decide +kernel
theorem dX12_mark_5 : decode cX12_mark 5 = .ok (.ifCond .eq 21, 3) := by decide +kernel
theorem dX12_mark_8 : decode cX12_mark 8 = .ok (.iload_n 2, 1) := by decide +kernel
theorem dX12_mark_9 : decode cX12_mark 9 = .ok (.iload_n 3, 1) := by decide +kernel
theorem dX12_mark_10 : decode cX12_mark 10 = .ok (.iload 4, 2) := by decide +kernel
theorem dX12_mark_12 : decode cX12_mark 12 = .ok (.invokestatic 379, 3) := by decide +kernel
theorem dX12_mark_15 : decode cX12_mark 15 = .ok (.ifCond .eq 11, 3) := by decide +kernel
theorem dX12_mark_18 : decode cX12_mark 18 = .ok (.iload 5, 2) := by decide +kernel
theorem dX12_mark_20 : decode cX12_mark 20 = .ok (.invokestatic 302, 3) := by decide +kernel
theorem dX12_mark_23 : decode cX12_mark 23 = .ok (.ifCond .ne 5, 3) := by decide +kernel
theorem dX12_mark_26 : decode cX12_mark 26 = .ok (.iconst (-1), 1) := by decide +kernel
theorem dX12_mark_27 : decode cX12_mark 27 = .ok (.ireturn, 1) := by decide +kernel
theorem dX12_mark_28 : decode cX12_mark 28 = .ok (.aload_n 0, 1) := by decide +kernel
theorem dX12_mark_29 : decode cX12_mark 29 = .ok (.iload_n 1, 1) := by decide +kernel
theorem dX12_mark_30 : decode cX12_mark 30 = .ok (.invokevirtual 371, 3) := by decide +kernel
theorem dX12_mark_33 : decode cX12_mark 33 = .ok (.ifCond .ne 6, 3) := by decide +kernel
theorem dX12_mark_36 : decode cX12_mark 36 = .ok (.bipush (-12), 2) := by decide +kernel
theorem dX12_mark_38 : decode cX12_mark 38 = .ok (.ireturn, 1) := by decide +kernel
theorem dX12_mark_39 : decode cX12_mark 39 = .ok (.aload_n 0, 1) := by decide +kernel
theorem dX12_mark_40 : decode cX12_mark 40 = .ok (.iload_n 1, 1) := by decide +kernel
theorem dX12_mark_41 : decode cX12_mark 41 = .ok (.iload 5, 2) := by decide +kernel
theorem dX12_mark_43 : decode cX12_mark 43 = .ok (.invokevirtual 383, 3) := by decide +kernel
theorem dX12_mark_46 : decode cX12_mark 46 = .ok (.ifCond .ne 6, 3) := by decide +kernel
theorem dX12_mark_49 : decode cX12_mark 49 = .ok (.bipush (-2), 2) := by decide +kernel
theorem dX12_mark_51 : decode cX12_mark 51 = .ok (.ireturn, 1) := by decide +kernel
theorem dX12_mark_52 : decode cX12_mark 52 = .ok (.aload_n 0, 1) := by decide +kernel
theorem dX12_mark_53 : decode cX12_mark 53 = .ok (.getfield 153, 3) := by decide +kernel
theorem dX12_mark_56 : decode cX12_mark 56 = .ok (.aload_n 0, 1) := by decide +kernel
theorem dX12_mark_57 : decode cX12_mark 57 = .ok (.getfield 120, 3) := by decide +kernel
theorem dX12_mark_60 : decode cX12_mark 60 = .ok (.iload_n 1, 1) := by decide +kernel
theorem dX12_mark_61 : decode cX12_mark 61 = .ok (.iaload, 1) := by decide +kernel
theorem dX12_mark_62 : decode cX12_mark 62 = .ok (.dup2, 1) := by decide +kernel
theorem dX12_mark_63 : decode cX12_mark 63 = .ok (.iaload, 1) := by decide +kernel
theorem dX12_mark_64 : decode cX12_mark 64 = .ok (.iconst 1, 1) := by decide +kernel
theorem dX12_mark_65 : decode cX12_mark 65 = .ok (.isub, 1) := by decide +kernel
theorem dX12_mark_66 : decode cX12_mark 66 = .ok (.iastore, 1) := by decide +kernel
theorem dX12_mark_67 : decode cX12_mark 67 = .ok (.aload_n 0, 1) := by decide +kernel
theorem dX12_mark_68 : decode cX12_mark 68 = .ok (.getfield 99, 3) := by decide +kernel
theorem dX12_mark_71 : decode cX12_mark 71 = .ok (.iload_n 1, 1) := by decide +kernel
theorem dX12_mark_72 : decode cX12_mark 72 = .ok (.iconst 2, 1) := by decide +kernel
theorem dX12_mark_73 : decode cX12_mark 73 = .ok (.iastore, 1) := by decide +kernel
theorem dX12_mark_74 : decode cX12_mark 74 = .ok (.aload_n 0, 1) := by decide +kernel
theorem dX12_mark_75 : decode cX12_mark 75 = .ok (.getfield 129, 3) := by decide +kernel
theorem dX12_mark_78 : decode cX12_mark 78 = .ok (.iload_n 1, 1) := by decide +kernel
theorem dX12_mark_79 : decode cX12_mark 79 = .ok (.iconst 2, 1) := by decide +kernel
theorem dX12_mark_80 : decode cX12_mark 80 = .ok (.iload_n 2, 1) := by decide +kernel
theorem dX12_mark_81 : decode cX12_mark 81 = .ok (.imul, 1) := by decide +kernel
theorem dX12_mark_82 : decode cX12_mark 82 = .ok (.iload_n 3, 1) := by decide +kernel
theorem dX12_mark_83 : decode cX12_mark 83 = .ok (.iadd, 1) := by decide +kernel
theorem dX12_mark_84 : decode cX12_mark 84 = .ok (.iload 4, 2) := by decide +kernel
theorem dX12_mark_86 : decode cX12_mark 86 = .ok (.iadd, 1) := by decide +kernel
theorem dX12_mark_87 : decode cX12_mark 87 = .ok (.iconst 4, 1) := by decide +kernel
theorem dX12_mark_88 : decode cX12_mark 88 = .ok (.idiv, 1) := by decide +kernel
theorem dX12_mark_89 : decode cX12_mark 89 = .ok (.iastore, 1) := by decide +kernel
theorem dX12_mark_90 : decode cX12_mark 90 = .ok (.aload_n 0, 1) := by decide +kernel
theorem dX12_mark_91 : decode cX12_mark 91 = .ok (.getfield 132, 3) := by decide +kernel
theorem dX12_mark_94 : decode cX12_mark 94 = .ok (.iload_n 1, 1) := by decide +kernel
theorem dX12_mark_95 : decode cX12_mark 95 = .ok (.iload 5, 2) := by decide +kernel
theorem dX12_mark_97 : decode cX12_mark 97 = .ok (.iastore, 1) := by decide +kernel
theorem dX12_mark_98 : decode cX12_mark 98 = .ok (.aload_n 0, 1) := by decide +kernel
theorem dX12_mark_99 : decode cX12_mark 99 = .ok (.getfield 129, 3) := by decide +kernel
theorem dX12_mark_102 : decode cX12_mark 102 = .ok (.iload_n 1, 1) := by decide +kernel
theorem dX12_mark_103 : decode cX12_mark 103 = .ok (.iaload, 1) := by decide +kernel
theorem dX12_mark_104 : decode cX12_mark 104 = .ok (.ireturn, 1) := by decide +kernel
theorem dX12_again_0 : decode cX12_again 0 = .ok (.aload_n 0, 1) := by decide +kernel
theorem dX12_again_1 : decode cX12_again 1 = .ok (.iload_n 1, 1) := by decide +kernel
theorem dX12_again_2 : decode cX12_again 2 = .ok (.invokevirtual 365, 3) := by decide +kernel
theorem dX12_again_5 : decode cX12_again 5 = .ok (.ifCond .eq 10, 3) := by decide +kernel
theorem dX12_again_8 : decode cX12_again 8 = .ok (.iload_n 2, 1) := by decide +kernel
theorem dX12_again_9 : decode cX12_again 9 = .ok (.invokestatic 302, 3) := by decide +kernel
theorem dX12_again_12 : decode cX12_again 12 = .ok (.ifCond .ne 5, 3) := by decide +kernel
theorem dX12_again_15 : decode cX12_again 15 = .ok (.iconst (-1), 1) := by decide +kernel
theorem dX12_again_16 : decode cX12_again 16 = .ok (.ireturn, 1) := by decide +kernel
theorem dX12_again_17 : decode cX12_again 17 = .ok (.aload_n 0, 1) := by decide +kernel
theorem dX12_again_18 : decode cX12_again 18 = .ok (.iload_n 1, 1) := by decide +kernel
theorem dX12_again_19 : decode cX12_again 19 = .ok (.invokevirtual 371, 3) := by decide +kernel
theorem dX12_again_22 : decode cX12_again 22 = .ok (.ifCond .ne 6, 3) := by decide +kernel
theorem dX12_again_25 : decode cX12_again 25 = .ok (.bipush (-12), 2) := by decide +kernel
theorem dX12_again_27 : decode cX12_again 27 = .ok (.ireturn, 1) := by decide +kernel
theorem dX12_again_28 : decode cX12_again 28 = .ok (.aload_n 0, 1) := by decide +kernel
theorem dX12_again_29 : decode cX12_again 29 = .ok (.iload_n 1, 1) := by decide +kernel
theorem dX12_again_30 : decode cX12_again 30 = .ok (.iload_n 2, 1) := by decide +kernel
theorem dX12_again_31 : decode cX12_again 31 = .ok (.invokevirtual 383, 3) := by decide +kernel
theorem dX12_again_34 : decode cX12_again 34 = .ok (.ifCond .eq 13, 3) := by decide +kernel
theorem dX12_again_37 : decode cX12_again 37 = .ok (.aload_n 0, 1) := by decide +kernel
theorem dX12_again_38 : decode cX12_again 38 = .ok (.getfield 126, 3) := by decide +kernel
theorem dX12_again_41 : decode cX12_again 41 = .ok (.iload_n 1, 1) := by decide +kernel
theorem dX12_again_42 : decode cX12_again 42 = .ok (.iaload, 1) := by decide +kernel
theorem dX12_again_43 : decode cX12_again 43 = .ok (.iconst 2, 1) := by decide +kernel
theorem dX12_again_44 : decode cX12_again 44 = .ok (.if_icmp .ne 6, 3) := by decide +kernel
theorem dX12_again_47 : decode cX12_again 47 = .ok (.bipush (-2), 2) := by decide +kernel
theorem dX12_again_49 : decode cX12_again 49 = .ok (.ireturn, 1) := by decide +kernel
theorem dX12_again_50 : decode cX12_again 50 = .ok (.aload_n 0, 1) := by decide +kernel
theorem dX12_again_51 : decode cX12_again 51 = .ok (.getfield 153, 3) := by decide +kernel
theorem dX12_again_54 : decode cX12_again 54 = .ok (.aload_n 0, 1) := by decide +kernel
theorem dX12_again_55 : decode cX12_again 55 = .ok (.getfield 120, 3) := by decide +kernel
theorem dX12_again_58 : decode cX12_again 58 = .ok (.iload_n 1, 1) := by decide +kernel
theorem dX12_again_59 : decode cX12_again 59 = .ok (.iaload, 1) := by decide +kernel
theorem dX12_again_60 : decode cX12_again 60 = .ok (.dup2, 1) := by decide +kernel
theorem dX12_again_61 : decode cX12_again 61 = .ok (.iaload, 1) := by decide +kernel
theorem dX12_again_62 : decode cX12_again 62 = .ok (.iconst 1, 1) := by decide +kernel
theorem dX12_again_63 : decode cX12_again 63 = .ok (.isub, 1) := by decide +kernel
theorem dX12_again_64 : decode cX12_again 64 = .ok (.iastore, 1) := by decide +kernel
theorem dX12_again_65 : decode cX12_again 65 = .ok (.aload_n 0, 1) := by decide +kernel
theorem dX12_again_66 : decode cX12_again 66 = .ok (.getfield 120, 3) := by decide +kernel
theorem dX12_again_69 : decode cX12_again 69 = .ok (.iload_n 1, 1) := by decide +kernel
theorem dX12_again_70 : decode cX12_again 70 = .ok (.bipush (-4), 2) := by decide +kernel
theorem dX12_again_72 : decode cX12_again 72 = .ok (.iastore, 1) := by decide +kernel
theorem dX12_again_73 : decode cX12_again 73 = .ok (.aload_n 0, 1) := by decide +kernel
theorem dX12_again_74 : decode cX12_again 74 = .ok (.getfield 126, 3) := by decide +kernel
theorem dX12_again_77 : decode cX12_again 77 = .ok (.iload_n 1, 1) := by decide +kernel
theorem dX12_again_78 : decode cX12_again 78 = .ok (.dup2, 1) := by decide +kernel
theorem dX12_again_79 : decode cX12_again 79 = .ok (.iaload, 1) := by decide +kernel
theorem dX12_again_80 : decode cX12_again 80 = .ok (.iconst 1, 1) := by decide +kernel
theorem dX12_again_81 : decode cX12_again 81 = .ok (.iadd, 1) := by decide +kernel
theorem dX12_again_82 : decode cX12_again 82 = .ok (.iastore, 1) := by decide +kernel
theorem dX12_again_83 : decode cX12_again 83 = .ok (.aload_n 0, 1) := by decide +kernel
theorem dX12_again_84 : decode cX12_again 84 = .ok (.iload_n 1, 1) := by decide +kernel
theorem dX12_again_85 : decode cX12_again 85 = .ok (.iconst 3, 1) := by decide +kernel
theorem dX12_again_86 : decode cX12_again 86 = .ok (.iload_n 2, 1) := by decide +kernel
theorem dX12_again_87 : decode cX12_again 87 = .ok (.invokevirtual 361, 3) := by decide +kernel
theorem dX12_again_90 : decode cX12_again 90 = .ok (.aload_n 0, 1) := by decide +kernel
theorem dX12_again_91 : decode cX12_again 91 = .ok (.getfield 117, 3) := by decide +kernel
theorem dX12_again_94 : decode cX12_again 94 = .ok (.iload_n 1, 1) := by decide +kernel
theorem dX12_again_95 : decode cX12_again 95 = .ok (.iaload, 1) := by decide +kernel
theorem dX12_again_96 : decode cX12_again 96 = .ok (.ireturn, 1) := by decide +kernel
theorem dX12_second_0 : decode cX12_second 0 = .ok (.aload_n 0, 1) := by decide +kernel
theorem dX12_second_1 : decode cX12_second 1 = .ok (.iload_n 1, 1) := by decide +kernel
theorem dX12_second_2 : decode cX12_second 2 = .ok (.invokevirtual 365, 3) := by decide +kernel
theorem dX12_second_5 : decode cX12_second 5 = .ok (.ifCond .eq 22, 3) := by decide +kernel
theorem dX12_second_8 : decode cX12_second 8 = .ok (.aload_n 0, 1) := by decide +kernel
theorem dX12_second_9 : decode cX12_second 9 = .ok (.iload_n 2, 1) := by decide +kernel
theorem dX12_second_10 : decode cX12_second 10 = .ok (.invokevirtual 368, 3) := by decide +kernel
theorem dX12_second_13 : decode cX12_second 13 = .ok (.ifCond .eq 14, 3) := by decide +kernel
theorem dX12_second_16 : decode cX12_second 16 = .ok (.iload_n 3, 1) := by decide +kernel
theorem dX12_second_17 : decode cX12_second 17 = .ok (.iload 4, 2) := by decide +kernel
theorem dX12_second_19 : decode cX12_second 19 = .ok (.iload 5, 2) := by decide +kernel
theorem dX12_second_21 : decode cX12_second 21 = .ok (.invokestatic 379, 3) := by decide +kernel
theorem dX12_second_24 : decode cX12_second 24 = .ok (.ifCond .ne 5, 3) := by decide +kernel
theorem dX12_second_27 : decode cX12_second 27 = .ok (.iconst (-1), 1) := by decide +kernel
theorem dX12_second_28 : decode cX12_second 28 = .ok (.ireturn, 1) := by decide +kernel
theorem dX12_second_29 : decode cX12_second 29 = .ok (.aload_n 0, 1) := by decide +kernel
theorem dX12_second_30 : decode cX12_second 30 = .ok (.getfield 99, 3) := by decide +kernel
theorem dX12_second_33 : decode cX12_second 33 = .ok (.iload_n 1, 1) := by decide +kernel
theorem dX12_second_34 : decode cX12_second 34 = .ok (.iaload, 1) := by decide +kernel
theorem dX12_second_35 : decode cX12_second 35 = .ok (.iconst 2, 1) := by decide +kernel
theorem dX12_second_36 : decode cX12_second 36 = .ok (.if_icmp .eq 6, 3) := by decide +kernel
theorem dX12_second_39 : decode cX12_second 39 = .ok (.bipush (-12), 2) := by decide +kernel
theorem dX12_second_41 : decode cX12_second 41 = .ok (.ireturn, 1) := by decide +kernel
theorem dX12_second_42 : decode cX12_second 42 = .ok (.aload_n 0, 1) := by decide +kernel
theorem dX12_second_43 : decode cX12_second 43 = .ok (.getfield 120, 3) := by decide +kernel
theorem dX12_second_46 : decode cX12_second 46 = .ok (.iload_n 1, 1) := by decide +kernel
theorem dX12_second_47 : decode cX12_second 47 = .ok (.iaload, 1) := by decide +kernel
theorem dX12_second_48 : decode cX12_second 48 = .ok (.iload_n 2, 1) := by decide +kernel
theorem dX12_second_49 : decode cX12_second 49 = .ok (.if_icmp .eq 14, 3) := by decide +kernel
theorem dX12_second_52 : decode cX12_second 52 = .ok (.aload_n 0, 1) := by decide +kernel
theorem dX12_second_53 : decode cX12_second 53 = .ok (.getfield 135, 3) := by decide +kernel
theorem dX12_second_56 : decode cX12_second 56 = .ok (.iload_n 1, 1) := by decide +kernel
theorem dX12_second_57 : decode cX12_second 57 = .ok (.iaload, 1) := by decide +kernel
theorem dX12_second_58 : decode cX12_second 58 = .ok (.bipush (-4), 2) := by decide +kernel
theorem dX12_second_60 : decode cX12_second 60 = .ok (.if_icmp .eq 6, 3) := by decide +kernel
theorem dX12_second_63 : decode cX12_second 63 = .ok (.bipush (-2), 2) := by decide +kernel
theorem dX12_second_65 : decode cX12_second 65 = .ok (.ireturn, 1) := by decide +kernel
theorem dX12_second_66 : decode cX12_second 66 = .ok (.aload_n 0, 1) := by decide +kernel
theorem dX12_second_67 : decode cX12_second 67 = .ok (.getfield 135, 3) := by decide +kernel
theorem dX12_second_70 : decode cX12_second 70 = .ok (.iload_n 1, 1) := by decide +kernel
theorem dX12_second_71 : decode cX12_second 71 = .ok (.iload_n 2, 1) := by decide +kernel
theorem dX12_second_72 : decode cX12_second 72 = .ok (.iastore, 1) := by decide +kernel
theorem dX12_second_73 : decode cX12_second 73 = .ok (.aload_n 0, 1) := by decide +kernel
theorem dX12_second_74 : decode cX12_second 74 = .ok (.getfield 138, 3) := by decide +kernel
theorem dX12_second_77 : decode cX12_second 77 = .ok (.iload_n 1, 1) := by decide +kernel
theorem dX12_second_78 : decode cX12_second 78 = .ok (.iconst 2, 1) := by decide +kernel
theorem dX12_second_79 : decode cX12_second 79 = .ok (.iload_n 3, 1) := by decide +kernel
theorem dX12_second_80 : decode cX12_second 80 = .ok (.imul, 1) := by decide +kernel
theorem dX12_second_81 : decode cX12_second 81 = .ok (.iload 4, 2) := by decide +kernel
theorem dX12_second_83 : decode cX12_second 83 = .ok (.iadd, 1) := by decide +kernel
theorem dX12_second_84 : decode cX12_second 84 = .ok (.iload 5, 2) := by decide +kernel
theorem dX12_second_86 : decode cX12_second 86 = .ok (.iadd, 1) := by decide +kernel
theorem dX12_second_87 : decode cX12_second 87 = .ok (.iconst 4, 1) := by decide +kernel
theorem dX12_second_88 : decode cX12_second 88 = .ok (.idiv, 1) := by decide +kernel
theorem dX12_second_89 : decode cX12_second 89 = .ok (.iastore, 1) := by decide +kernel
theorem dX12_second_90 : decode cX12_second 90 = .ok (.aload_n 0, 1) := by decide +kernel
theorem dX12_second_91 : decode cX12_second 91 = .ok (.getfield 138, 3) := by decide +kernel
theorem dX12_second_94 : decode cX12_second 94 = .ok (.iload_n 1, 1) := by decide +kernel
theorem dX12_second_95 : decode cX12_second 95 = .ok (.iaload, 1) := by decide +kernel
theorem dX12_second_96 : decode cX12_second 96 = .ok (.ireturn, 1) := by decide +kernel
theorem dX12_thing_0 : decode cX12_thing 0 = .ok (.aload_n 0, 1) := by decide +kernel
theorem dX12_thing_1 : decode cX12_thing 1 = .ok (.iload_n 1, 1) := by decide +kernel
theorem dX12_thing_2 : decode cX12_thing 2 = .ok (.invokevirtual 365, 3) := by decide +kernel
theorem dX12_thing_5 : decode cX12_thing 5 = .ok (.ifCond .ne 5, 3) := by decide +kernel
theorem dX12_thing_8 : decode cX12_thing 8 = .ok (.iconst (-1), 1) := by decide +kernel
theorem dX12_thing_9 : decode cX12_thing 9 = .ok (.ireturn, 1) := by decide +kernel
theorem dX12_thing_10 : decode cX12_thing 10 = .ok (.iload_n 2, 1) := by decide +kernel
theorem dX12_thing_11 : decode cX12_thing 11 = .ok (.tableswitch 101 0 7 #[45, 52, 59, 66, 73, 80, 87, 94], 45) := by decide +kernel
theorem dX12_thing_56 : decode cX12_thing 56 = .ok (.aload_n 0, 1) := by decide +kernel
theorem dX12_thing_57 : decode cX12_thing 57 = .ok (.getfield 99, 3) := by decide +kernel
theorem dX12_thing_60 : decode cX12_thing 60 = .ok (.iload_n 1, 1) := by decide +kernel
theorem dX12_thing_61 : decode cX12_thing 61 = .ok (.iaload, 1) := by decide +kernel
theorem dX12_thing_62 : decode cX12_thing 62 = .ok (.ireturn, 1) := by decide +kernel
theorem dX12_thing_63 : decode cX12_thing 63 = .ok (.aload_n 0, 1) := by decide +kernel
theorem dX12_thing_64 : decode cX12_thing 64 = .ok (.getfield 102, 3) := by decide +kernel
theorem dX12_thing_67 : decode cX12_thing 67 = .ok (.iload_n 1, 1) := by decide +kernel
theorem dX12_thing_68 : decode cX12_thing 68 = .ok (.iaload, 1) := by decide +kernel
theorem dX12_thing_69 : decode cX12_thing 69 = .ok (.ireturn, 1) := by decide +kernel
theorem dX12_thing_70 : decode cX12_thing 70 = .ok (.aload_n 0, 1) := by decide +kernel
theorem dX12_thing_71 : decode cX12_thing 71 = .ok (.getfield 105, 3) := by decide +kernel
theorem dX12_thing_74 : decode cX12_thing 74 = .ok (.iload_n 1, 1) := by decide +kernel
theorem dX12_thing_75 : decode cX12_thing 75 = .ok (.iaload, 1) := by decide +kernel
theorem dX12_thing_76 : decode cX12_thing 76 = .ok (.ireturn, 1) := by decide +kernel
theorem dX12_thing_77 : decode cX12_thing 77 = .ok (.aload_n 0, 1) := by decide +kernel
theorem dX12_thing_78 : decode cX12_thing 78 = .ok (.getfield 108, 3) := by decide +kernel
theorem dX12_thing_81 : decode cX12_thing 81 = .ok (.iload_n 1, 1) := by decide +kernel
theorem dX12_thing_82 : decode cX12_thing 82 = .ok (.iaload, 1) := by decide +kernel
theorem dX12_thing_83 : decode cX12_thing 83 = .ok (.ireturn, 1) := by decide +kernel
theorem dX12_thing_84 : decode cX12_thing 84 = .ok (.aload_n 0, 1) := by decide +kernel
theorem dX12_thing_85 : decode cX12_thing 85 = .ok (.getfield 114, 3) := by decide +kernel
theorem dX12_thing_88 : decode cX12_thing 88 = .ok (.iload_n 1, 1) := by decide +kernel
theorem dX12_thing_89 : decode cX12_thing 89 = .ok (.iaload, 1) := by decide +kernel
theorem dX12_thing_90 : decode cX12_thing 90 = .ok (.ireturn, 1) := by decide +kernel
theorem dX12_thing_91 : decode cX12_thing 91 = .ok (.aload_n 0, 1) := by decide +kernel
theorem dX12_thing_92 : decode cX12_thing 92 = .ok (.getfield 117, 3) := by decide +kernel
theorem dX12_thing_95 : decode cX12_thing 95 = .ok (.iload_n 1, 1) := by decide +kernel
theorem dX12_thing_96 : decode cX12_thing 96 = .ok (.iaload, 1) := by decide +kernel
theorem dX12_thing_97 : decode cX12_thing 97 = .ok (.ireturn, 1) := by decide +kernel
theorem dX12_thing_98 : decode cX12_thing 98 = .ok (.aload_n 0, 1) := by decide +kernel
theorem dX12_thing_99 : decode cX12_thing 99 = .ok (.getfield 120, 3) := by decide +kernel
theorem dX12_thing_102 : decode cX12_thing 102 = .ok (.iload_n 1, 1) := by decide +kernel
theorem dX12_thing_103 : decode cX12_thing 103 = .ok (.iaload, 1) := by decide +kernel
theorem dX12_thing_104 : decode cX12_thing 104 = .ok (.ireturn, 1) := by decide +kernel
theorem dX12_thing_105 : decode cX12_thing 105 = .ok (.aload_n 0, 1) := by decide +kernel
theorem dX12_thing_106 : decode cX12_thing 106 = .ok (.getfield 126, 3) := by decide +kernel
theorem dX12_thing_109 : decode cX12_thing 109 = .ok (.iload_n 1, 1) := by decide +kernel
theorem dX12_thing_110 : decode cX12_thing 110 = .ok (.iaload, 1) := by decide +kernel
theorem dX12_thing_111 : decode cX12_thing 111 = .ok (.ireturn, 1) := by decide +kernel
theorem dX12_thing_112 : decode cX12_thing 112 = .ok (.iconst (-1), 1) := by decide +kernel
theorem dX12_thing_113 : decode cX12_thing 113 = .ok (.ireturn, 1) := by decide +kernel
theorem dX12_knownOn_0 : decode cX12_knownOn 0 = .ok (.aload_n 0, 1) := by decide +kernel
theorem dX12_knownOn_1 : decode cX12_knownOn 1 = .ok (.getfield 132, 3) := by decide +kernel
theorem dX12_knownOn_4 : decode cX12_knownOn 4 = .ok (.iload_n 1, 1) := by decide +kernel
theorem dX12_knownOn_5 : decode cX12_knownOn 5 = .ok (.iaload, 1) := by decide +kernel
theorem dX12_knownOn_6 : decode cX12_knownOn 6 = .ok (.aload_n 0, 1) := by decide +kernel
theorem dX12_knownOn_7 : decode cX12_knownOn 7 = .ok (.getfield 90, 3) := by decide +kernel
theorem dX12_knownOn_10 : decode cX12_knownOn 10 = .ok (.aload_n 0, 1) := by decide +kernel
theorem dX12_knownOn_11 : decode cX12_knownOn 11 = .ok (.getfield 55, 3) := by decide +kernel
theorem dX12_knownOn_14 : decode cX12_knownOn 14 = .ok (.aload_n 0, 1) := by decide +kernel
theorem dX12_knownOn_15 : decode cX12_knownOn 15 = .ok (.getfield 102, 3) := by decide +kernel
theorem dX12_knownOn_18 : decode cX12_knownOn 18 = .ok (.iload_n 1, 1) := by decide +kernel
theorem dX12_knownOn_19 : decode cX12_knownOn 19 = .ok (.iaload, 1) := by decide +kernel
theorem dX12_knownOn_20 : decode cX12_knownOn 20 = .ok (.iaload, 1) := by decide +kernel
theorem dX12_knownOn_21 : decode cX12_knownOn 21 = .ok (.iaload, 1) := by decide +kernel
theorem dX12_knownOn_22 : decode cX12_knownOn 22 = .ok (.iadd, 1) := by decide +kernel
theorem dX12_knownOn_23 : decode cX12_knownOn 23 = .ok (.ireturn, 1) := by decide +kernel
theorem dX12_marks_0 : decode cX12_marks 0 = .ok (.aload_n 0, 1) := by decide +kernel
theorem dX12_marks_1 : decode cX12_marks 1 = .ok (.iload_n 1, 1) := by decide +kernel
theorem dX12_marks_2 : decode cX12_marks 2 = .ok (.invokevirtual 365, 3) := by decide +kernel
theorem dX12_marks_5 : decode cX12_marks 5 = .ok (.ifCond .eq 15, 3) := by decide +kernel
theorem dX12_marks_8 : decode cX12_marks 8 = .ok (.iload_n 2, 1) := by decide +kernel
theorem dX12_marks_9 : decode cX12_marks 9 = .ok (.i2l, 1) := by decide +kernel
theorem dX12_marks_10 : decode cX12_marks 10 = .ok (.lconst 0, 1) := by decide +kernel
theorem dX12_marks_11 : decode cX12_marks 11 = .ok (.ldc2_w 297, 3) := by decide +kernel
theorem dX12_marks_14 : decode cX12_marks 14 = .ok (.invokestatic 213, 3) := by decide +kernel
theorem dX12_marks_17 : decode cX12_marks 17 = .ok (.ifCond .ne 5, 3) := by decide +kernel
theorem dX12_marks_20 : decode cX12_marks 20 = .ok (.iconst (-1), 1) := by decide +kernel
theorem dX12_marks_21 : decode cX12_marks 21 = .ok (.ireturn, 1) := by decide +kernel
theorem dX12_marks_22 : decode cX12_marks 22 = .ok (.aload_n 0, 1) := by decide +kernel
theorem dX12_marks_23 : decode cX12_marks 23 = .ok (.getfield 99, 3) := by decide +kernel
theorem dX12_marks_26 : decode cX12_marks 26 = .ok (.iload_n 1, 1) := by decide +kernel
theorem dX12_marks_27 : decode cX12_marks 27 = .ok (.iaload, 1) := by decide +kernel
theorem dX12_marks_28 : decode cX12_marks 28 = .ok (.iconst 2, 1) := by decide +kernel
theorem dX12_marks_29 : decode cX12_marks 29 = .ok (.if_icmp .eq 6, 3) := by decide +kernel
theorem dX12_marks_32 : decode cX12_marks 32 = .ok (.bipush (-12), 2) := by decide +kernel
theorem dX12_marks_34 : decode cX12_marks 34 = .ok (.ireturn, 1) := by decide +kernel
theorem dX12_marks_35 : decode cX12_marks 35 = .ok (.iload_n 2, 1) := by decide +kernel
theorem dX12_marks_36 : decode cX12_marks 36 = .ok (.ifCond .ne 12, 3) := by decide +kernel
theorem dX12_marks_39 : decode cX12_marks 39 = .ok (.aload_n 0, 1) := by decide +kernel
theorem dX12_marks_40 : decode cX12_marks 40 = .ok (.getfield 129, 3) := by decide +kernel
theorem dX12_marks_43 : decode cX12_marks 43 = .ok (.iload_n 1, 1) := by decide +kernel
theorem dX12_marks_44 : decode cX12_marks 44 = .ok (.iaload, 1) := by decide +kernel
theorem dX12_marks_45 : decode cX12_marks 45 = .ok (.goto 52, 3) := by decide +kernel
theorem dX12_marks_48 : decode cX12_marks 48 = .ok (.iload_n 2, 1) := by decide +kernel
theorem dX12_marks_49 : decode cX12_marks 49 = .ok (.iconst 1, 1) := by decide +kernel
theorem dX12_marks_50 : decode cX12_marks 50 = .ok (.if_icmp .ne 12, 3) := by decide +kernel
theorem dX12_marks_53 : decode cX12_marks 53 = .ok (.aload_n 0, 1) := by decide +kernel
theorem dX12_marks_54 : decode cX12_marks 54 = .ok (.getfield 132, 3) := by decide +kernel
theorem dX12_marks_57 : decode cX12_marks 57 = .ok (.iload_n 1, 1) := by decide +kernel
theorem dX12_marks_58 : decode cX12_marks 58 = .ok (.iaload, 1) := by decide +kernel
theorem dX12_marks_59 : decode cX12_marks 59 = .ok (.goto 38, 3) := by decide +kernel
theorem dX12_marks_62 : decode cX12_marks 62 = .ok (.iload_n 2, 1) := by decide +kernel
theorem dX12_marks_63 : decode cX12_marks 63 = .ok (.iconst 3, 1) := by decide +kernel
theorem dX12_marks_64 : decode cX12_marks 64 = .ok (.if_icmp .ne 11, 3) := by decide +kernel
theorem dX12_marks_67 : decode cX12_marks 67 = .ok (.aload_n 0, 1) := by decide +kernel
theorem dX12_marks_68 : decode cX12_marks 68 = .ok (.iload_n 1, 1) := by decide +kernel
theorem dX12_marks_69 : decode cX12_marks 69 = .ok (.invokevirtual 386, 3) := by decide +kernel
theorem dX12_marks_72 : decode cX12_marks 72 = .ok (.goto 25, 3) := by decide +kernel
theorem dX12_marks_75 : decode cX12_marks 75 = .ok (.aload_n 0, 1) := by decide +kernel
theorem dX12_marks_76 : decode cX12_marks 76 = .ok (.getfield 135, 3) := by decide +kernel
theorem dX12_marks_79 : decode cX12_marks 79 = .ok (.iload_n 1, 1) := by decide +kernel
theorem dX12_marks_80 : decode cX12_marks 80 = .ok (.iaload, 1) := by decide +kernel
theorem dX12_marks_81 : decode cX12_marks 81 = .ok (.bipush (-4), 2) := by decide +kernel
theorem dX12_marks_83 : decode cX12_marks 83 = .ok (.if_icmp .ne 8, 3) := by decide +kernel
theorem dX12_marks_86 : decode cX12_marks 86 = .ok (.bipush (-4), 2) := by decide +kernel
theorem dX12_marks_88 : decode cX12_marks 88 = .ok (.goto 9, 3) := by decide +kernel
theorem dX12_marks_91 : decode cX12_marks 91 = .ok (.aload_n 0, 1) := by decide +kernel
theorem dX12_marks_92 : decode cX12_marks 92 = .ok (.getfield 138, 3) := by decide +kernel
theorem dX12_marks_95 : decode cX12_marks 95 = .ok (.iload_n 1, 1) := by decide +kernel
theorem dX12_marks_96 : decode cX12_marks 96 = .ok (.iaload, 1) := by decide +kernel
theorem dX12_marks_97 : decode cX12_marks 97 = .ok (.ireturn, 1) := by decide +kernel
theorem dX12_count_0 : decode cX12_count 0 = .ok (.iload_n 1, 1) := by decide +kernel
theorem dX12_count_1 : decode cX12_count 1 = .ok (.i2l, 1) := by decide +kernel
theorem dX12_count_2 : decode cX12_count 2 = .ok (.lconst 0, 1) := by decide +kernel
theorem dX12_count_3 : decode cX12_count 3 = .ok (.ldc2_w 280, 3) := by decide +kernel
theorem dX12_count_6 : decode cX12_count 6 = .ok (.invokestatic 213, 3) := by decide +kernel
theorem dX12_count_9 : decode cX12_count 9 = .ok (.ifCond .ne 5, 3) := by decide +kernel
theorem dX12_count_12 : decode cX12_count 12 = .ok (.iconst (-1), 1) := by decide +kernel
theorem dX12_count_13 : decode cX12_count 13 = .ok (.ireturn, 1) := by decide +kernel
theorem dX12_count_14 : decode cX12_count 14 = .ok (.iconst 0, 1) := by decide +kernel
theorem dX12_count_15 : decode cX12_count 15 = .ok (.istore_n 2, 1) := by decide +kernel
theorem dX12_count_16 : decode cX12_count 16 = .ok (.iconst 0, 1) := by decide +kernel
theorem dX12_count_17 : decode cX12_count 17 = .ok (.istore_n 3, 1) := by decide +kernel
theorem dX12_count_18 : decode cX12_count 18 = .ok (.iload_n 3, 1) := by decide +kernel
theorem dX12_count_19 : decode cX12_count 19 = .ok (.aload_n 0, 1) := by decide +kernel
theorem dX12_count_20 : decode cX12_count 20 = .ok (.getfield 334, 3) := by decide +kernel
theorem dX12_count_23 : decode cX12_count 23 = .ok (.if_icmp .ge 29, 3) := by decide +kernel
theorem dX12_count_26 : decode cX12_count 26 = .ok (.iload_n 2, 1) := by decide +kernel
theorem dX12_count_27 : decode cX12_count 27 = .ok (.aload_n 0, 1) := by decide +kernel
theorem dX12_count_28 : decode cX12_count 28 = .ok (.getfield 99, 3) := by decide +kernel
theorem dX12_count_31 : decode cX12_count 31 = .ok (.iload_n 3, 1) := by decide +kernel
theorem dX12_count_32 : decode cX12_count 32 = .ok (.iaload, 1) := by decide +kernel
theorem dX12_count_33 : decode cX12_count 33 = .ok (.iload_n 1, 1) := by decide +kernel
theorem dX12_count_34 : decode cX12_count 34 = .ok (.iconst 3, 1) := by decide +kernel
theorem dX12_count_35 : decode cX12_count 35 = .ok (.isub, 1) := by decide +kernel
theorem dX12_count_36 : decode cX12_count 36 = .ok (.if_icmp .ne 7, 3) := by decide +kernel
theorem dX12_count_39 : decode cX12_count 39 = .ok (.iconst 1, 1) := by decide +kernel
theorem dX12_count_40 : decode cX12_count 40 = .ok (.goto 4, 3) := by decide +kernel
theorem dX12_count_43 : decode cX12_count 43 = .ok (.iconst 0, 1) := by decide +kernel
theorem dX12_count_44 : decode cX12_count 44 = .ok (.iadd, 1) := by decide +kernel
theorem dX12_count_45 : decode cX12_count 45 = .ok (.istore_n 2, 1) := by decide +kernel
theorem dX12_count_46 : decode cX12_count 46 = .ok (.iinc 3 1, 3) := by decide +kernel
theorem dX12_count_49 : decode cX12_count 49 = .ok (.goto (-31), 3) := by decide +kernel
theorem dX12_count_52 : decode cX12_count 52 = .ok (.iload_n 1, 1) := by decide +kernel
theorem dX12_count_53 : decode cX12_count 53 = .ok (.ifCond .ne 10, 3) := by decide +kernel
theorem dX12_count_56 : decode cX12_count 56 = .ok (.aload_n 0, 1) := by decide +kernel
theorem dX12_count_57 : decode cX12_count 57 = .ok (.getfield 326, 3) := by decide +kernel
theorem dX12_count_60 : decode cX12_count 60 = .ok (.goto 28, 3) := by decide +kernel
theorem dX12_count_63 : decode cX12_count 63 = .ok (.iload_n 1, 1) := by decide +kernel
theorem dX12_count_64 : decode cX12_count 64 = .ok (.iconst 1, 1) := by decide +kernel
theorem dX12_count_65 : decode cX12_count 65 = .ok (.if_icmp .ne 10, 3) := by decide +kernel
theorem dX12_count_68 : decode cX12_count 68 = .ok (.aload_n 0, 1) := by decide +kernel
theorem dX12_count_69 : decode cX12_count 69 = .ok (.getfield 389, 3) := by decide +kernel
theorem dX12_count_72 : decode cX12_count 72 = .ok (.goto 16, 3) := by decide +kernel
theorem dX12_count_75 : decode cX12_count 75 = .ok (.iload_n 1, 1) := by decide +kernel
theorem dX12_count_76 : decode cX12_count 76 = .ok (.iconst 2, 1) := by decide +kernel
theorem dX12_count_77 : decode cX12_count 77 = .ok (.if_icmp .ne 10, 3) := by decide +kernel
theorem dX12_count_80 : decode cX12_count 80 = .ok (.aload_n 0, 1) := by decide +kernel
theorem dX12_count_81 : decode cX12_count 81 = .ok (.getfield 334, 3) := by decide +kernel
theorem dX12_count_84 : decode cX12_count 84 = .ok (.goto 4, 3) := by decide +kernel
theorem dX12_count_87 : decode cX12_count 87 = .ok (.iload_n 2, 1) := by decide +kernel
theorem dX12_count_88 : decode cX12_count 88 = .ok (.ireturn, 1) := by decide +kernel
theorem dX12_tutor_0 : decode cX12_tutor 0 = .ok (.iload_n 1, 1) := by decide +kernel
theorem dX12_tutor_1 : decode cX12_tutor 1 = .ok (.i2l, 1) := by decide +kernel
theorem dX12_tutor_2 : decode cX12_tutor 2 = .ok (.lconst 0, 1) := by decide +kernel
theorem dX12_tutor_3 : decode cX12_tutor 3 = .ok (.ldc2_w 392, 3) := by decide +kernel
theorem dX12_tutor_6 : decode cX12_tutor 6 = .ok (.invokestatic 213, 3) := by decide +kernel
theorem dX12_tutor_9 : decode cX12_tutor 9 = .ok (.ifCond .eq 15, 3) := by decide +kernel
theorem dX12_tutor_12 : decode cX12_tutor 12 = .ok (.iload_n 2, 1) := by decide +kernel
theorem dX12_tutor_13 : decode cX12_tutor 13 = .ok (.i2l, 1) := by decide +kernel
theorem dX12_tutor_14 : decode cX12_tutor 14 = .ok (.lconst 1, 1) := by decide +kernel
theorem dX12_tutor_15 : decode cX12_tutor 15 = .ok (.ldc2_w 356, 3) := by decide +kernel
theorem dX12_tutor_18 : decode cX12_tutor 18 = .ok (.invokestatic 213, 3) := by decide +kernel
theorem dX12_tutor_21 : decode cX12_tutor 21 = .ok (.ifCond .ne 5, 3) := by decide +kernel
theorem dX12_tutor_24 : decode cX12_tutor 24 = .ok (.iconst (-1), 1) := by decide +kernel
theorem dX12_tutor_25 : decode cX12_tutor 25 = .ok (.ireturn, 1) := by decide +kernel
theorem dX12_tutor_26 : decode cX12_tutor 26 = .ok (.aload_n 0, 1) := by decide +kernel
theorem dX12_tutor_27 : decode cX12_tutor 27 = .ok (.getfield 389, 3) := by decide +kernel
theorem dX12_tutor_30 : decode cX12_tutor 30 = .ok (.bipush 6, 2) := by decide +kernel
theorem dX12_tutor_32 : decode cX12_tutor 32 = .ok (.if_icmp .ne 6, 3) := by decide +kernel
theorem dX12_tutor_35 : decode cX12_tutor 35 = .ok (.bipush (-3), 2) := by decide +kernel
theorem dX12_tutor_37 : decode cX12_tutor 37 = .ok (.ireturn, 1) := by decide +kernel
theorem dX12_tutor_38 : decode cX12_tutor 38 = .ok (.aload_n 0, 1) := by decide +kernel
theorem dX12_tutor_39 : decode cX12_tutor 39 = .ok (.getfield 144, 3) := by decide +kernel
theorem dX12_tutor_42 : decode cX12_tutor 42 = .ok (.aload_n 0, 1) := by decide +kernel
theorem dX12_tutor_43 : decode cX12_tutor 43 = .ok (.getfield 389, 3) := by decide +kernel
theorem dX12_tutor_46 : decode cX12_tutor 46 = .ok (.iload_n 1, 1) := by decide +kernel
theorem dX12_tutor_47 : decode cX12_tutor 47 = .ok (.iastore, 1) := by decide +kernel
theorem dX12_tutor_48 : decode cX12_tutor 48 = .ok (.aload_n 0, 1) := by decide +kernel
theorem dX12_tutor_49 : decode cX12_tutor 49 = .ok (.getfield 147, 3) := by decide +kernel
theorem dX12_tutor_52 : decode cX12_tutor 52 = .ok (.aload_n 0, 1) := by decide +kernel
theorem dX12_tutor_53 : decode cX12_tutor 53 = .ok (.getfield 389, 3) := by decide +kernel
theorem dX12_tutor_56 : decode cX12_tutor 56 = .ok (.iload_n 2, 1) := by decide +kernel
theorem dX12_tutor_57 : decode cX12_tutor 57 = .ok (.iastore, 1) := by decide +kernel
theorem dX12_tutor_58 : decode cX12_tutor 58 = .ok (.aload_n 0, 1) := by decide +kernel
theorem dX12_tutor_59 : decode cX12_tutor 59 = .ok (.dup, 1) := by decide +kernel
theorem dX12_tutor_60 : decode cX12_tutor 60 = .ok (.getfield 389, 3) := by decide +kernel
theorem dX12_tutor_63 : decode cX12_tutor 63 = .ok (.iconst 1, 1) := by decide +kernel
theorem dX12_tutor_64 : decode cX12_tutor 64 = .ok (.iadd, 1) := by decide +kernel
theorem dX12_tutor_65 : decode cX12_tutor 65 = .ok (.putfield 389, 3) := by decide +kernel
theorem dX12_tutor_68 : decode cX12_tutor 68 = .ok (.aload_n 0, 1) := by decide +kernel
theorem dX12_tutor_69 : decode cX12_tutor 69 = .ok (.getfield 389, 3) := by decide +kernel
theorem dX12_tutor_72 : decode cX12_tutor 72 = .ok (.iconst 1, 1) := by decide +kernel
theorem dX12_tutor_73 : decode cX12_tutor 73 = .ok (.isub, 1) := by decide +kernel
theorem dX12_tutor_74 : decode cX12_tutor 74 = .ok (.ireturn, 1) := by decide +kernel
theorem dX12_isTutor_0 : decode cX12_isTutor 0 = .ok (.iload_n 1, 1) := by decide +kernel
theorem dX12_isTutor_1 : decode cX12_isTutor 1 = .ok (.i2l, 1) := by decide +kernel
theorem dX12_isTutor_2 : decode cX12_isTutor 2 = .ok (.lconst 0, 1) := by decide +kernel
theorem dX12_isTutor_3 : decode cX12_isTutor 3 = .ok (.aload_n 0, 1) := by decide +kernel
theorem dX12_isTutor_4 : decode cX12_isTutor 4 = .ok (.getfield 389, 3) := by decide +kernel
theorem dX12_isTutor_7 : decode cX12_isTutor 7 = .ok (.iconst 1, 1) := by decide +kernel
theorem dX12_isTutor_8 : decode cX12_isTutor 8 = .ok (.isub, 1) := by decide +kernel
theorem dX12_isTutor_9 : decode cX12_isTutor 9 = .ok (.i2l, 1) := by decide +kernel
theorem dX12_isTutor_10 : decode cX12_isTutor 10 = .ok (.invokestatic 213, 3) := by decide +kernel
theorem dX12_isTutor_13 : decode cX12_isTutor 13 = .ok (.ireturn, 1) := by decide +kernel
theorem dX12_kin_0 : decode cX12_kin 0 = .ok (.aload_n 0, 1) := by decide +kernel
theorem dX12_kin_1 : decode cX12_kin 1 = .ok (.iload_n 1, 1) := by decide +kernel
theorem dX12_kin_2 : decode cX12_kin 2 = .ok (.invokevirtual 368, 3) := by decide +kernel
theorem dX12_kin_5 : decode cX12_kin 5 = .ok (.ifCond .eq 15, 3) := by decide +kernel
theorem dX12_kin_8 : decode cX12_kin 8 = .ok (.iload_n 2, 1) := by decide +kernel
theorem dX12_kin_9 : decode cX12_kin 9 = .ok (.i2l, 1) := by decide +kernel
theorem dX12_kin_10 : decode cX12_kin 10 = .ok (.lconst 0, 1) := by decide +kernel
theorem dX12_kin_11 : decode cX12_kin 11 = .ok (.ldc2_w 394, 3) := by decide +kernel
theorem dX12_kin_14 : decode cX12_kin 14 = .ok (.invokestatic 213, 3) := by decide +kernel
theorem dX12_kin_17 : decode cX12_kin 17 = .ok (.ifCond .ne 5, 3) := by decide +kernel
theorem dX12_kin_20 : decode cX12_kin 20 = .ok (.iconst (-1), 1) := by decide +kernel
theorem dX12_kin_21 : decode cX12_kin 21 = .ok (.ireturn, 1) := by decide +kernel
theorem dX12_kin_22 : decode cX12_kin 22 = .ok (.aload_n 0, 1) := by decide +kernel
theorem dX12_kin_23 : decode cX12_kin 23 = .ok (.getfield 150, 3) := by decide +kernel
theorem dX12_kin_26 : decode cX12_kin 26 = .ok (.iload_n 1, 1) := by decide +kernel
theorem dX12_kin_27 : decode cX12_kin 27 = .ok (.iaload, 1) := by decide +kernel
theorem dX12_kin_28 : decode cX12_kin 28 = .ok (.istore_n 3, 1) := by decide +kernel
theorem dX12_kin_29 : decode cX12_kin 29 = .ok (.aload_n 0, 1) := by decide +kernel
theorem dX12_kin_30 : decode cX12_kin 30 = .ok (.getfield 150, 3) := by decide +kernel
theorem dX12_kin_33 : decode cX12_kin 33 = .ok (.iload_n 1, 1) := by decide +kernel
theorem dX12_kin_34 : decode cX12_kin 34 = .ok (.iload_n 2, 1) := by decide +kernel
theorem dX12_kin_35 : decode cX12_kin 35 = .ok (.iastore, 1) := by decide +kernel
theorem dX12_kin_36 : decode cX12_kin 36 = .ok (.iload_n 3, 1) := by decide +kernel
theorem dX12_kin_37 : decode cX12_kin 37 = .ok (.ireturn, 1) := by decide +kernel
theorem dX12_load_0 : decode cX12_load 0 = .ok (.aload_n 0, 1) := by decide +kernel
theorem dX12_load_1 : decode cX12_load 1 = .ok (.iload_n 1, 1) := by decide +kernel
theorem dX12_load_2 : decode cX12_load 2 = .ok (.invokevirtual 368, 3) := by decide +kernel
theorem dX12_load_5 : decode cX12_load 5 = .ok (.ifCond .eq 12, 3) := by decide +kernel
theorem dX12_load_8 : decode cX12_load 8 = .ok (.aload_n 0, 1) := by decide +kernel
theorem dX12_load_9 : decode cX12_load 9 = .ok (.getfield 153, 3) := by decide +kernel
theorem dX12_load_12 : decode cX12_load 12 = .ok (.iload_n 1, 1) := by decide +kernel
theorem dX12_load_13 : decode cX12_load 13 = .ok (.iaload, 1) := by decide +kernel
theorem dX12_load_14 : decode cX12_load 14 = .ok (.goto 4, 3) := by decide +kernel
theorem dX12_load_17 : decode cX12_load 17 = .ok (.iconst (-1), 1) := by decide +kernel
theorem dX12_load_18 : decode cX12_load 18 = .ok (.ireturn, 1) := by decide +kernel
theorem dX12_daysFor_0 : decode cX12_daysFor 0 = .ok (.iload_n 2, 1) := by decide +kernel
theorem dX12_daysFor_1 : decode cX12_daysFor 1 = .ok (.aload_n 0, 1) := by decide +kernel
theorem dX12_daysFor_2 : decode cX12_daysFor 2 = .ok (.getfield 147, 3) := by decide +kernel
theorem dX12_daysFor_5 : decode cX12_daysFor 5 = .ok (.iload_n 1, 1) := by decide +kernel
theorem dX12_daysFor_6 : decode cX12_daysFor 6 = .ok (.iaload, 1) := by decide +kernel
theorem dX12_daysFor_7 : decode cX12_daysFor 7 = .ok (.iadd, 1) := by decide +kernel
theorem dX12_daysFor_8 : decode cX12_daysFor 8 = .ok (.iconst 1, 1) := by decide +kernel
theorem dX12_daysFor_9 : decode cX12_daysFor 9 = .ok (.isub, 1) := by decide +kernel
theorem dX12_daysFor_10 : decode cX12_daysFor 10 = .ok (.aload_n 0, 1) := by decide +kernel
theorem dX12_daysFor_11 : decode cX12_daysFor 11 = .ok (.getfield 147, 3) := by decide +kernel
theorem dX12_daysFor_14 : decode cX12_daysFor 14 = .ok (.iload_n 1, 1) := by decide +kernel
theorem dX12_daysFor_15 : decode cX12_daysFor 15 = .ok (.iaload, 1) := by decide +kernel
theorem dX12_daysFor_16 : decode cX12_daysFor 16 = .ok (.idiv, 1) := by decide +kernel
theorem dX12_daysFor_17 : decode cX12_daysFor 17 = .ok (.ireturn, 1) := by decide +kernel
theorem dX12_wait_0 : decode cX12_wait 0 = .ok (.aload_n 0, 1) := by decide +kernel
theorem dX12_wait_1 : decode cX12_wait 1 = .ok (.iload_n 1, 1) := by decide +kernel
theorem dX12_wait_2 : decode cX12_wait 2 = .ok (.invokevirtual 329, 3) := by decide +kernel
theorem dX12_wait_5 : decode cX12_wait 5 = .ok (.ifCond .eq 11, 3) := by decide +kernel
theorem dX12_wait_8 : decode cX12_wait 8 = .ok (.aload_n 0, 1) := by decide +kernel
theorem dX12_wait_9 : decode cX12_wait 9 = .ok (.iload_n 2, 1) := by decide +kernel
theorem dX12_wait_10 : decode cX12_wait 10 = .ok (.invokevirtual 368, 3) := by decide +kernel
theorem dX12_wait_13 : decode cX12_wait 13 = .ok (.ifCond .ne 5, 3) := by decide +kernel
theorem dX12_wait_16 : decode cX12_wait 16 = .ok (.iconst (-1), 1) := by decide +kernel
theorem dX12_wait_17 : decode cX12_wait 17 = .ok (.ireturn, 1) := by decide +kernel
theorem dX12_wait_18 : decode cX12_wait 18 = .ok (.iconst 2, 1) := by decide +kernel
theorem dX12_wait_19 : decode cX12_wait 19 = .ok (.aload_n 0, 1) := by decide +kernel
theorem dX12_wait_20 : decode cX12_wait 20 = .ok (.getfield 90, 3) := by decide +kernel
theorem dX12_wait_23 : decode cX12_wait 23 = .ok (.aload_n 0, 1) := by decide +kernel
theorem dX12_wait_24 : decode cX12_wait 24 = .ok (.getfield 55, 3) := by decide +kernel
theorem dX12_wait_27 : decode cX12_wait 27 = .ok (.iload_n 1, 1) := by decide +kernel
theorem dX12_wait_28 : decode cX12_wait 28 = .ok (.iaload, 1) := by decide +kernel
theorem dX12_wait_29 : decode cX12_wait 29 = .ok (.iaload, 1) := by decide +kernel
theorem dX12_wait_30 : decode cX12_wait 30 = .ok (.imul, 1) := by decide +kernel
theorem dX12_wait_31 : decode cX12_wait 31 = .ok (.aload_n 0, 1) := by decide +kernel
theorem dX12_wait_32 : decode cX12_wait 32 = .ok (.getfield 64, 3) := by decide +kernel
theorem dX12_wait_35 : decode cX12_wait 35 = .ok (.iload_n 1, 1) := by decide +kernel
theorem dX12_wait_36 : decode cX12_wait 36 = .ok (.iaload, 1) := by decide +kernel
theorem dX12_wait_37 : decode cX12_wait 37 = .ok (.iadd, 1) := by decide +kernel
theorem dX12_wait_38 : decode cX12_wait 38 = .ok (.aload_n 0, 1) := by decide +kernel
theorem dX12_wait_39 : decode cX12_wait 39 = .ok (.iload_n 2, 1) := by decide +kernel
theorem dX12_wait_40 : decode cX12_wait 40 = .ok (.aload_n 0, 1) := by decide +kernel
theorem dX12_wait_41 : decode cX12_wait 41 = .ok (.getfield 153, 3) := by decide +kernel
theorem dX12_wait_44 : decode cX12_wait 44 = .ok (.iload_n 2, 1) := by decide +kernel
theorem dX12_wait_45 : decode cX12_wait 45 = .ok (.iaload, 1) := by decide +kernel
theorem dX12_wait_46 : decode cX12_wait 46 = .ok (.iconst 1, 1) := by decide +kernel
theorem dX12_wait_47 : decode cX12_wait 47 = .ok (.iadd, 1) := by decide +kernel
theorem dX12_wait_48 : decode cX12_wait 48 = .ok (.invokevirtual 396, 3) := by decide +kernel
theorem dX12_wait_51 : decode cX12_wait 51 = .ok (.iadd, 1) := by decide +kernel
theorem dX12_wait_52 : decode cX12_wait 52 = .ok (.ireturn, 1) := by decide +kernel
theorem dX12_took_0 : decode cX12_took 0 = .ok (.aload_n 0, 1) := by decide +kernel
theorem dX12_took_1 : decode cX12_took 1 = .ok (.iload_n 1, 1) := by decide +kernel
theorem dX12_took_2 : decode cX12_took 2 = .ok (.invokevirtual 365, 3) := by decide +kernel
theorem dX12_took_5 : decode cX12_took 5 = .ok (.ifCond .ne 7, 3) := by decide +kernel
theorem dX12_took_8 : decode cX12_took 8 = .ok (.iconst (-1), 1) := by decide +kernel
theorem dX12_took_9 : decode cX12_took 9 = .ok (.goto 30, 3) := by decide +kernel
theorem dX12_took_12 : decode cX12_took 12 = .ok (.aload_n 0, 1) := by decide +kernel
theorem dX12_took_13 : decode cX12_took 13 = .ok (.getfield 99, 3) := by decide +kernel
theorem dX12_took_16 : decode cX12_took 16 = .ok (.iload_n 1, 1) := by decide +kernel
theorem dX12_took_17 : decode cX12_took 17 = .ok (.iaload, 1) := by decide +kernel
theorem dX12_took_18 : decode cX12_took 18 = .ok (.iconst 2, 1) := by decide +kernel
theorem dX12_took_19 : decode cX12_took 19 = .ok (.if_icmp .eq 8, 3) := by decide +kernel
theorem dX12_took_22 : decode cX12_took 22 = .ok (.bipush (-12), 2) := by decide +kernel
theorem dX12_took_24 : decode cX12_took 24 = .ok (.goto 15, 3) := by decide +kernel
theorem dX12_took_27 : decode cX12_took 27 = .ok (.aload_n 0, 1) := by decide +kernel
theorem dX12_took_28 : decode cX12_took 28 = .ok (.iload_n 1, 1) := by decide +kernel
theorem dX12_took_29 : decode cX12_took 29 = .ok (.invokevirtual 386, 3) := by decide +kernel
theorem dX12_took_32 : decode cX12_took 32 = .ok (.aload_n 0, 1) := by decide +kernel
theorem dX12_took_33 : decode cX12_took 33 = .ok (.getfield 111, 3) := by decide +kernel
theorem dX12_took_36 : decode cX12_took 36 = .ok (.iload_n 1, 1) := by decide +kernel
theorem dX12_took_37 : decode cX12_took 37 = .ok (.iaload, 1) := by decide +kernel
theorem dX12_took_38 : decode cX12_took 38 = .ok (.isub, 1) := by decide +kernel
theorem dX12_took_39 : decode cX12_took 39 = .ok (.ireturn, 1) := by decide +kernel
theorem dX12_look_0 : decode cX12_look 0 = .ok (.iconst 0, 1) := by decide +kernel
theorem dX12_look_1 : decode cX12_look 1 = .ok (.istore_n 1, 1) := by decide +kernel
theorem dX12_look_2 : decode cX12_look 2 = .ok (.iload_n 1, 1) := by decide +kernel
theorem dX12_look_3 : decode cX12_look 3 = .ok (.aload_n 0, 1) := by decide +kernel
theorem dX12_look_4 : decode cX12_look 4 = .ok (.getfield 389, 3) := by decide +kernel
theorem dX12_look_7 : decode cX12_look 7 = .ok (.if_icmp .ge 16, 3) := by decide +kernel
theorem dX12_look_10 : decode cX12_look 10 = .ok (.aload_n 0, 1) := by decide +kernel
theorem dX12_look_11 : decode cX12_look 11 = .ok (.getfield 165, 3) := by decide +kernel
theorem dX12_look_14 : decode cX12_look 14 = .ok (.iload_n 1, 1) := by decide +kernel
theorem dX12_look_15 : decode cX12_look 15 = .ok (.iconst 0, 1) := by decide +kernel
theorem dX12_look_16 : decode cX12_look 16 = .ok (.iastore, 1) := by decide +kernel
theorem dX12_look_17 : decode cX12_look 17 = .ok (.iinc 1 1, 3) := by decide +kernel
theorem dX12_look_20 : decode cX12_look 20 = .ok (.goto (-18), 3) := by decide +kernel
theorem dX12_look_23 : decode cX12_look 23 = .ok (.aload_n 0, 1) := by decide +kernel
theorem dX12_look_24 : decode cX12_look 24 = .ok (.iconst 0, 1) := by decide +kernel
theorem dX12_look_25 : decode cX12_look 25 = .ok (.putfield 399, 3) := by decide +kernel
theorem dX12_look_28 : decode cX12_look 28 = .ok (.aload_n 0, 1) := by decide +kernel
theorem dX12_look_29 : decode cX12_look 29 = .ok (.iconst 0, 1) := by decide +kernel
theorem dX12_look_30 : decode cX12_look 30 = .ok (.putfield 402, 3) := by decide +kernel
theorem dX12_look_33 : decode cX12_look 33 = .ok (.iconst 0, 1) := by decide +kernel
theorem dX12_look_34 : decode cX12_look 34 = .ok (.istore_n 1, 1) := by decide +kernel
theorem dX12_look_35 : decode cX12_look 35 = .ok (.iload_n 1, 1) := by decide +kernel
theorem dX12_look_36 : decode cX12_look 36 = .ok (.aload_n 0, 1) := by decide +kernel
theorem dX12_look_37 : decode cX12_look 37 = .ok (.getfield 405, 3) := by decide +kernel
theorem dX12_look_40 : decode cX12_look 40 = .ok (.if_icmp .ge 126, 3) := by decide +kernel
theorem dX12_look_43 : decode cX12_look 43 = .ok (.aload_n 0, 1) := by decide +kernel
theorem dX12_look_44 : decode cX12_look 44 = .ok (.getfield 399, 3) := by decide +kernel
theorem dX12_look_47 : decode cX12_look 47 = .ok (.ifCond .lt 119, 3) := by decide +kernel
