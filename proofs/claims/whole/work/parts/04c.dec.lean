theorem dX12_look_50 : decode cX12_look 50 = .ok (.aload_n 0, 1) := by decide +kernel
theorem dX12_look_51 : decode cX12_look 51 = .ok (.getfield 159, 3) := by decide +kernel
theorem dX12_look_54 : decode cX12_look 54 = .ok (.iload_n 1, 1) := by decide +kernel
theorem dX12_look_55 : decode cX12_look 55 = .ok (.iaload, 1) := by decide +kernel
theorem dX12_look_56 : decode cX12_look 56 = .ok (.istore_n 2, 1) := by decide +kernel
theorem dX12_look_57 : decode cX12_look 57 = .ok (.iload_n 2, 1) := by decide +kernel
theorem dX12_look_58 : decode cX12_look 58 = .ok (.aload_n 0, 1) := by decide +kernel
theorem dX12_look_59 : decode cX12_look 59 = .ok (.getfield 389, 3) := by decide +kernel
theorem dX12_look_62 : decode cX12_look 62 = .ok (.if_icmp .ge 43, 3) := by decide +kernel
theorem dX12_look_65 : decode cX12_look 65 = .ok (.aload_n 0, 1) := by decide +kernel
theorem dX12_look_66 : decode cX12_look 66 = .ok (.aload_n 0, 1) := by decide +kernel
theorem dX12_look_67 : decode cX12_look 67 = .ok (.getfield 156, 3) := by decide +kernel
theorem dX12_look_70 : decode cX12_look 70 = .ok (.iload_n 1, 1) := by decide +kernel
theorem dX12_look_71 : decode cX12_look 71 = .ok (.iaload, 1) := by decide +kernel
theorem dX12_look_72 : decode cX12_look 72 = .ok (.iload_n 2, 1) := by decide +kernel
theorem dX12_look_73 : decode cX12_look 73 = .ok (.invokevirtual 374, 3) := by decide +kernel
theorem dX12_look_76 : decode cX12_look 76 = .ok (.ifCond .eq 21, 3) := by decide +kernel
theorem dX12_look_79 : decode cX12_look 79 = .ok (.aload_n 0, 1) := by decide +kernel
theorem dX12_look_80 : decode cX12_look 80 = .ok (.getfield 153, 3) := by decide +kernel
theorem dX12_look_83 : decode cX12_look 83 = .ok (.iload_n 2, 1) := by decide +kernel
theorem dX12_look_84 : decode cX12_look 84 = .ok (.iaload, 1) := by decide +kernel
theorem dX12_look_85 : decode cX12_look 85 = .ok (.aload_n 0, 1) := by decide +kernel
theorem dX12_look_86 : decode cX12_look 86 = .ok (.getfield 165, 3) := by decide +kernel
theorem dX12_look_89 : decode cX12_look 89 = .ok (.iload_n 2, 1) := by decide +kernel
theorem dX12_look_90 : decode cX12_look 90 = .ok (.iaload, 1) := by decide +kernel
theorem dX12_look_91 : decode cX12_look 91 = .ok (.iadd, 1) := by decide +kernel
theorem dX12_look_92 : decode cX12_look 92 = .ok (.bipush 12, 2) := by decide +kernel
theorem dX12_look_94 : decode cX12_look 94 = .ok (.if_icmp .lt 11, 3) := by decide +kernel
theorem dX12_look_97 : decode cX12_look 97 = .ok (.aload_n 0, 1) := by decide +kernel
theorem dX12_look_98 : decode cX12_look 98 = .ok (.iconst (-1), 1) := by decide +kernel
theorem dX12_look_99 : decode cX12_look 99 = .ok (.putfield 399, 3) := by decide +kernel
theorem dX12_look_102 : decode cX12_look 102 = .ok (.goto 58, 3) := by decide +kernel
theorem dX12_look_105 : decode cX12_look 105 = .ok (.iload_n 2, 1) := by decide +kernel
theorem dX12_look_106 : decode cX12_look 106 = .ok (.aload_n 0, 1) := by decide +kernel
theorem dX12_look_107 : decode cX12_look 107 = .ok (.getfield 389, 3) := by decide +kernel
theorem dX12_look_110 : decode cX12_look 110 = .ok (.if_icmp .ge 50, 3) := by decide +kernel
theorem dX12_look_113 : decode cX12_look 113 = .ok (.aload_n 0, 1) := by decide +kernel
theorem dX12_look_114 : decode cX12_look 114 = .ok (.getfield 165, 3) := by decide +kernel
theorem dX12_look_117 : decode cX12_look 117 = .ok (.iload_n 2, 1) := by decide +kernel
theorem dX12_look_118 : decode cX12_look 118 = .ok (.dup2, 1) := by decide +kernel
theorem dX12_look_119 : decode cX12_look 119 = .ok (.iaload, 1) := by decide +kernel
theorem dX12_look_120 : decode cX12_look 120 = .ok (.iconst 1, 1) := by decide +kernel
theorem dX12_look_121 : decode cX12_look 121 = .ok (.iadd, 1) := by decide +kernel
theorem dX12_look_122 : decode cX12_look 122 = .ok (.iastore, 1) := by decide +kernel
theorem dX12_look_123 : decode cX12_look 123 = .ok (.aload_n 0, 1) := by decide +kernel
theorem dX12_look_124 : decode cX12_look 124 = .ok (.dup, 1) := by decide +kernel
theorem dX12_look_125 : decode cX12_look 125 = .ok (.getfield 399, 3) := by decide +kernel
theorem dX12_look_128 : decode cX12_look 128 = .ok (.iconst 1, 1) := by decide +kernel
theorem dX12_look_129 : decode cX12_look 129 = .ok (.iadd, 1) := by decide +kernel
theorem dX12_look_130 : decode cX12_look 130 = .ok (.putfield 399, 3) := by decide +kernel
theorem dX12_look_133 : decode cX12_look 133 = .ok (.aload_n 0, 1) := by decide +kernel
theorem dX12_look_134 : decode cX12_look 134 = .ok (.dup, 1) := by decide +kernel
theorem dX12_look_135 : decode cX12_look 135 = .ok (.getfield 402, 3) := by decide +kernel
theorem dX12_look_138 : decode cX12_look 138 = .ok (.aload_n 0, 1) := by decide +kernel
theorem dX12_look_139 : decode cX12_look 139 = .ok (.iload_n 2, 1) := by decide +kernel
theorem dX12_look_140 : decode cX12_look 140 = .ok (.aload_n 0, 1) := by decide +kernel
theorem dX12_look_141 : decode cX12_look 141 = .ok (.getfield 153, 3) := by decide +kernel
theorem dX12_look_144 : decode cX12_look 144 = .ok (.iload_n 2, 1) := by decide +kernel
theorem dX12_look_145 : decode cX12_look 145 = .ok (.iaload, 1) := by decide +kernel
theorem dX12_look_146 : decode cX12_look 146 = .ok (.aload_n 0, 1) := by decide +kernel
theorem dX12_look_147 : decode cX12_look 147 = .ok (.getfield 165, 3) := by decide +kernel
theorem dX12_look_150 : decode cX12_look 150 = .ok (.iload_n 2, 1) := by decide +kernel
theorem dX12_look_151 : decode cX12_look 151 = .ok (.iaload, 1) := by decide +kernel
theorem dX12_look_152 : decode cX12_look 152 = .ok (.iadd, 1) := by decide +kernel
theorem dX12_look_153 : decode cX12_look 153 = .ok (.invokevirtual 396, 3) := by decide +kernel
theorem dX12_look_156 : decode cX12_look 156 = .ok (.iadd, 1) := by decide +kernel
theorem dX12_look_157 : decode cX12_look 157 = .ok (.putfield 402, 3) := by decide +kernel
theorem dX12_look_160 : decode cX12_look 160 = .ok (.iinc 1 1, 3) := by decide +kernel
theorem dX12_look_163 : decode cX12_look 163 = .ok (.goto (-128), 3) := by decide +kernel
theorem dX12_look_166 : decode cX12_look 166 = .ok (.return_, 1) := by decide +kernel
theorem dX12_step_0 : decode cX12_step 0 = .ok (.aload_n 0, 1) := by decide +kernel
theorem dX12_step_1 : decode cX12_step 1 = .ok (.getfield 405, 3) := by decide +kernel
theorem dX12_step_4 : decode cX12_step 4 = .ok (.iconst 1, 1) := by decide +kernel
theorem dX12_step_5 : decode cX12_step 5 = .ok (.isub, 1) := by decide +kernel
theorem dX12_step_6 : decode cX12_step 6 = .ok (.istore_n 1, 1) := by decide +kernel
theorem dX12_step_7 : decode cX12_step 7 = .ok (.iload_n 1, 1) := by decide +kernel
theorem dX12_step_8 : decode cX12_step 8 = .ok (.ifCond .lt 29, 3) := by decide +kernel
theorem dX12_step_11 : decode cX12_step 11 = .ok (.aload_n 0, 1) := by decide +kernel
theorem dX12_step_12 : decode cX12_step 12 = .ok (.getfield 159, 3) := by decide +kernel
theorem dX12_step_15 : decode cX12_step 15 = .ok (.iload_n 1, 1) := by decide +kernel
theorem dX12_step_16 : decode cX12_step 16 = .ok (.iaload, 1) := by decide +kernel
theorem dX12_step_17 : decode cX12_step 17 = .ok (.aload_n 0, 1) := by decide +kernel
theorem dX12_step_18 : decode cX12_step 18 = .ok (.getfield 389, 3) := by decide +kernel
theorem dX12_step_21 : decode cX12_step 21 = .ok (.if_icmp .ne 16, 3) := by decide +kernel
theorem dX12_step_24 : decode cX12_step 24 = .ok (.aload_n 0, 1) := by decide +kernel
theorem dX12_step_25 : decode cX12_step 25 = .ok (.getfield 159, 3) := by decide +kernel
theorem dX12_step_28 : decode cX12_step 28 = .ok (.iload_n 1, 1) := by decide +kernel
theorem dX12_step_29 : decode cX12_step 29 = .ok (.iconst 0, 1) := by decide +kernel
theorem dX12_step_30 : decode cX12_step 30 = .ok (.iastore, 1) := by decide +kernel
theorem dX12_step_31 : decode cX12_step 31 = .ok (.iinc 1 (-1), 3) := by decide +kernel
theorem dX12_step_34 : decode cX12_step 34 = .ok (.goto (-27), 3) := by decide +kernel
theorem dX12_step_37 : decode cX12_step 37 = .ok (.iload_n 1, 1) := by decide +kernel
theorem dX12_step_38 : decode cX12_step 38 = .ok (.ifCond .lt 13, 3) := by decide +kernel
theorem dX12_step_41 : decode cX12_step 41 = .ok (.aload_n 0, 1) := by decide +kernel
theorem dX12_step_42 : decode cX12_step 42 = .ok (.getfield 159, 3) := by decide +kernel
theorem dX12_step_45 : decode cX12_step 45 = .ok (.iload_n 1, 1) := by decide +kernel
theorem dX12_step_46 : decode cX12_step 46 = .ok (.dup2, 1) := by decide +kernel
theorem dX12_step_47 : decode cX12_step 47 = .ok (.iaload, 1) := by decide +kernel
theorem dX12_step_48 : decode cX12_step 48 = .ok (.iconst 1, 1) := by decide +kernel
theorem dX12_step_49 : decode cX12_step 49 = .ok (.iadd, 1) := by decide +kernel
theorem dX12_step_50 : decode cX12_step 50 = .ok (.iastore, 1) := by decide +kernel
theorem dX12_step_51 : decode cX12_step 51 = .ok (.iload_n 1, 1) := by decide +kernel
theorem dX12_step_52 : decode cX12_step 52 = .ok (.ifCond .lt 7, 3) := by decide +kernel
theorem dX12_step_55 : decode cX12_step 55 = .ok (.iconst 1, 1) := by decide +kernel
theorem dX12_step_56 : decode cX12_step 56 = .ok (.goto 4, 3) := by decide +kernel
theorem dX12_step_59 : decode cX12_step 59 = .ok (.iconst 0, 1) := by decide +kernel
theorem dX12_step_60 : decode cX12_step 60 = .ok (.ireturn, 1) := by decide +kernel
theorem dX12_findShare_0 : decode cX12_findShare 0 = .ok (.aload_n 0, 1) := by decide +kernel
theorem dX12_findShare_1 : decode cX12_findShare 1 = .ok (.iconst 0, 1) := by decide +kernel
theorem dX12_findShare_2 : decode cX12_findShare 2 = .ok (.putfield 405, 3) := by decide +kernel
theorem dX12_findShare_5 : decode cX12_findShare 5 = .ok (.iconst 0, 1) := by decide +kernel
theorem dX12_findShare_6 : decode cX12_findShare 6 = .ok (.istore_n 2, 1) := by decide +kernel
theorem dX12_findShare_7 : decode cX12_findShare 7 = .ok (.iload_n 2, 1) := by decide +kernel
theorem dX12_findShare_8 : decode cX12_findShare 8 = .ok (.aload_n 0, 1) := by decide +kernel
theorem dX12_findShare_9 : decode cX12_findShare 9 = .ok (.getfield 334, 3) := by decide +kernel
theorem dX12_findShare_12 : decode cX12_findShare 12 = .ok (.if_icmp .ge 79, 3) := by decide +kernel
theorem dX12_findShare_15 : decode cX12_findShare 15 = .ok (.aload_n 0, 1) := by decide +kernel
theorem dX12_findShare_16 : decode cX12_findShare 16 = .ok (.getfield 405, 3) := by decide +kernel
theorem dX12_findShare_19 : decode cX12_findShare 19 = .ok (.bipush 6, 2) := by decide +kernel
theorem dX12_findShare_21 : decode cX12_findShare 21 = .ok (.if_icmp .ge 70, 3) := by decide +kernel
theorem dX12_findShare_24 : decode cX12_findShare 24 = .ok (.aload_n 0, 1) := by decide +kernel
theorem dX12_findShare_25 : decode cX12_findShare 25 = .ok (.getfield 99, 3) := by decide +kernel
theorem dX12_findShare_28 : decode cX12_findShare 28 = .ok (.iload_n 2, 1) := by decide +kernel
theorem dX12_findShare_29 : decode cX12_findShare 29 = .ok (.iaload, 1) := by decide +kernel
theorem dX12_findShare_30 : decode cX12_findShare 30 = .ok (.iconst 1, 1) := by decide +kernel
theorem dX12_findShare_31 : decode cX12_findShare 31 = .ok (.if_icmp .ne 54, 3) := by decide +kernel
theorem dX12_findShare_34 : decode cX12_findShare 34 = .ok (.aload_n 0, 1) := by decide +kernel
theorem dX12_findShare_35 : decode cX12_findShare 35 = .ok (.getfield 120, 3) := by decide +kernel
theorem dX12_findShare_38 : decode cX12_findShare 38 = .ok (.iload_n 2, 1) := by decide +kernel
theorem dX12_findShare_39 : decode cX12_findShare 39 = .ok (.iaload, 1) := by decide +kernel
theorem dX12_findShare_40 : decode cX12_findShare 40 = .ok (.bipush (-4), 2) := by decide +kernel
theorem dX12_findShare_42 : decode cX12_findShare 42 = .ok (.if_icmp .ne 43, 3) := by decide +kernel
theorem dX12_findShare_45 : decode cX12_findShare 45 = .ok (.aload_n 0, 1) := by decide +kernel
theorem dX12_findShare_46 : decode cX12_findShare 46 = .ok (.getfield 117, 3) := by decide +kernel
theorem dX12_findShare_49 : decode cX12_findShare 49 = .ok (.iload_n 2, 1) := by decide +kernel
theorem dX12_findShare_50 : decode cX12_findShare 50 = .ok (.iaload, 1) := by decide +kernel
theorem dX12_findShare_51 : decode cX12_findShare 51 = .ok (.iload_n 1, 1) := by decide +kernel
theorem dX12_findShare_52 : decode cX12_findShare 52 = .ok (.if_icmp .gt 33, 3) := by decide +kernel
theorem dX12_findShare_55 : decode cX12_findShare 55 = .ok (.aload_n 0, 1) := by decide +kernel
theorem dX12_findShare_56 : decode cX12_findShare 56 = .ok (.getfield 156, 3) := by decide +kernel
theorem dX12_findShare_59 : decode cX12_findShare 59 = .ok (.aload_n 0, 1) := by decide +kernel
theorem dX12_findShare_60 : decode cX12_findShare 60 = .ok (.getfield 405, 3) := by decide +kernel
theorem dX12_findShare_63 : decode cX12_findShare 63 = .ok (.iload_n 2, 1) := by decide +kernel
theorem dX12_findShare_64 : decode cX12_findShare 64 = .ok (.iastore, 1) := by decide +kernel
theorem dX12_findShare_65 : decode cX12_findShare 65 = .ok (.aload_n 0, 1) := by decide +kernel
theorem dX12_findShare_66 : decode cX12_findShare 66 = .ok (.getfield 159, 3) := by decide +kernel
theorem dX12_findShare_69 : decode cX12_findShare 69 = .ok (.aload_n 0, 1) := by decide +kernel
theorem dX12_findShare_70 : decode cX12_findShare 70 = .ok (.getfield 405, 3) := by decide +kernel
theorem dX12_findShare_73 : decode cX12_findShare 73 = .ok (.iconst 0, 1) := by decide +kernel
theorem dX12_findShare_74 : decode cX12_findShare 74 = .ok (.iastore, 1) := by decide +kernel
theorem dX12_findShare_75 : decode cX12_findShare 75 = .ok (.aload_n 0, 1) := by decide +kernel
theorem dX12_findShare_76 : decode cX12_findShare 76 = .ok (.dup, 1) := by decide +kernel
theorem dX12_findShare_77 : decode cX12_findShare 77 = .ok (.getfield 405, 3) := by decide +kernel
theorem dX12_findShare_80 : decode cX12_findShare 80 = .ok (.iconst 1, 1) := by decide +kernel
theorem dX12_findShare_81 : decode cX12_findShare 81 = .ok (.iadd, 1) := by decide +kernel
theorem dX12_findShare_82 : decode cX12_findShare 82 = .ok (.putfield 405, 3) := by decide +kernel
theorem dX12_findShare_85 : decode cX12_findShare 85 = .ok (.iinc 2 1, 3) := by decide +kernel
theorem dX12_findShare_88 : decode cX12_findShare 88 = .ok (.goto (-81), 3) := by decide +kernel
theorem dX12_findShare_91 : decode cX12_findShare 91 = .ok (.aload_n 0, 1) := by decide +kernel
theorem dX12_findShare_92 : decode cX12_findShare 92 = .ok (.iconst (-1), 1) := by decide +kernel
theorem dX12_findShare_93 : decode cX12_findShare 93 = .ok (.putfield 408, 3) := by decide +kernel
theorem dX12_findShare_96 : decode cX12_findShare 96 = .ok (.iconst 1, 1) := by decide +kernel
theorem dX12_findShare_97 : decode cX12_findShare 97 = .ok (.istore_n 2, 1) := by decide +kernel
theorem dX12_findShare_98 : decode cX12_findShare 98 = .ok (.iload_n 2, 1) := by decide +kernel
theorem dX12_findShare_99 : decode cX12_findShare 99 = .ok (.ifCond .eq 99, 3) := by decide +kernel
theorem dX12_findShare_102 : decode cX12_findShare 102 = .ok (.aload_n 0, 1) := by decide +kernel
theorem dX12_findShare_103 : decode cX12_findShare 103 = .ok (.invokevirtual 411, 3) := by decide +kernel
theorem dX12_findShare_106 : decode cX12_findShare 106 = .ok (.aload_n 0, 1) := by decide +kernel
theorem dX12_findShare_107 : decode cX12_findShare 107 = .ok (.getfield 399, 3) := by decide +kernel
theorem dX12_findShare_110 : decode cX12_findShare 110 = .ok (.aload_n 0, 1) := by decide +kernel
theorem dX12_findShare_111 : decode cX12_findShare 111 = .ok (.getfield 408, 3) := by decide +kernel
theorem dX12_findShare_114 : decode cX12_findShare 114 = .ok (.if_icmp .gt 32, 3) := by decide +kernel
theorem dX12_findShare_117 : decode cX12_findShare 117 = .ok (.aload_n 0, 1) := by decide +kernel
theorem dX12_findShare_118 : decode cX12_findShare 118 = .ok (.getfield 399, 3) := by decide +kernel
theorem dX12_findShare_121 : decode cX12_findShare 121 = .ok (.ifCond .lt 69, 3) := by decide +kernel
theorem dX12_findShare_124 : decode cX12_findShare 124 = .ok (.aload_n 0, 1) := by decide +kernel
theorem dX12_findShare_125 : decode cX12_findShare 125 = .ok (.getfield 399, 3) := by decide +kernel
theorem dX12_findShare_128 : decode cX12_findShare 128 = .ok (.aload_n 0, 1) := by decide +kernel
theorem dX12_findShare_129 : decode cX12_findShare 129 = .ok (.getfield 408, 3) := by decide +kernel
theorem dX12_findShare_132 : decode cX12_findShare 132 = .ok (.if_icmp .ne 58, 3) := by decide +kernel
theorem dX12_findShare_135 : decode cX12_findShare 135 = .ok (.aload_n 0, 1) := by decide +kernel
theorem dX12_findShare_136 : decode cX12_findShare 136 = .ok (.getfield 402, 3) := by decide +kernel
theorem dX12_findShare_139 : decode cX12_findShare 139 = .ok (.aload_n 0, 1) := by decide +kernel
theorem dX12_findShare_140 : decode cX12_findShare 140 = .ok (.getfield 414, 3) := by decide +kernel
theorem dX12_findShare_143 : decode cX12_findShare 143 = .ok (.if_icmp .ge 47, 3) := by decide +kernel
theorem dX12_findShare_146 : decode cX12_findShare 146 = .ok (.aload_n 0, 1) := by decide +kernel
theorem dX12_findShare_147 : decode cX12_findShare 147 = .ok (.aload_n 0, 1) := by decide +kernel
theorem dX12_findShare_148 : decode cX12_findShare 148 = .ok (.getfield 399, 3) := by decide +kernel
theorem dX12_findShare_151 : decode cX12_findShare 151 = .ok (.putfield 408, 3) := by decide +kernel
theorem dX12_findShare_154 : decode cX12_findShare 154 = .ok (.aload_n 0, 1) := by decide +kernel
theorem dX12_findShare_155 : decode cX12_findShare 155 = .ok (.aload_n 0, 1) := by decide +kernel
theorem dX12_findShare_156 : decode cX12_findShare 156 = .ok (.getfield 402, 3) := by decide +kernel
theorem dX12_findShare_159 : decode cX12_findShare 159 = .ok (.putfield 414, 3) := by decide +kernel
theorem dX12_findShare_162 : decode cX12_findShare 162 = .ok (.iconst 0, 1) := by decide +kernel
theorem dX12_findShare_163 : decode cX12_findShare 163 = .ok (.istore_n 3, 1) := by decide +kernel
theorem dX12_findShare_164 : decode cX12_findShare 164 = .ok (.iload_n 3, 1) := by decide +kernel
theorem dX12_findShare_165 : decode cX12_findShare 165 = .ok (.aload_n 0, 1) := by decide +kernel
theorem dX12_findShare_166 : decode cX12_findShare 166 = .ok (.getfield 405, 3) := by decide +kernel
theorem dX12_findShare_169 : decode cX12_findShare 169 = .ok (.if_icmp .ge 21, 3) := by decide +kernel
theorem dX12_findShare_172 : decode cX12_findShare 172 = .ok (.aload_n 0, 1) := by decide +kernel
theorem dX12_findShare_173 : decode cX12_findShare 173 = .ok (.getfield 162, 3) := by decide +kernel
theorem dX12_findShare_176 : decode cX12_findShare 176 = .ok (.iload_n 3, 1) := by decide +kernel
theorem dX12_findShare_177 : decode cX12_findShare 177 = .ok (.aload_n 0, 1) := by decide +kernel
theorem dX12_findShare_178 : decode cX12_findShare 178 = .ok (.getfield 159, 3) := by decide +kernel
theorem dX12_findShare_181 : decode cX12_findShare 181 = .ok (.iload_n 3, 1) := by decide +kernel
theorem dX12_findShare_182 : decode cX12_findShare 182 = .ok (.iaload, 1) := by decide +kernel
theorem dX12_findShare_183 : decode cX12_findShare 183 = .ok (.iastore, 1) := by decide +kernel
theorem dX12_findShare_184 : decode cX12_findShare 184 = .ok (.iinc 3 1, 3) := by decide +kernel
theorem dX12_findShare_187 : decode cX12_findShare 187 = .ok (.goto (-23), 3) := by decide +kernel
theorem dX12_findShare_190 : decode cX12_findShare 190 = .ok (.aload_n 0, 1) := by decide +kernel
theorem dX12_findShare_191 : decode cX12_findShare 191 = .ok (.invokevirtual 417, 3) := by decide +kernel
theorem dX12_findShare_194 : decode cX12_findShare 194 = .ok (.istore_n 2, 1) := by decide +kernel
theorem dX12_findShare_195 : decode cX12_findShare 195 = .ok (.goto (-97), 3) := by decide +kernel
theorem dX12_findShare_198 : decode cX12_findShare 198 = .ok (.return_, 1) := by decide +kernel
theorem dX12_share_0 : decode cX12_share 0 = .ok (.iload_n 1, 1) := by decide +kernel
theorem dX12_share_1 : decode cX12_share 1 = .ok (.invokestatic 302, 3) := by decide +kernel
theorem dX12_share_4 : decode cX12_share 4 = .ok (.ifCond .eq 13, 3) := by decide +kernel
theorem dX12_share_7 : decode cX12_share 7 = .ok (.iload_n 2, 1) := by decide +kernel
theorem dX12_share_8 : decode cX12_share 8 = .ok (.i2l, 1) := by decide +kernel
theorem dX12_share_9 : decode cX12_share 9 = .ok (.lconst 0, 1) := by decide +kernel
theorem dX12_share_10 : decode cX12_share 10 = .ok (.lconst 1, 1) := by decide +kernel
theorem dX12_share_11 : decode cX12_share 11 = .ok (.invokestatic 213, 3) := by decide +kernel
theorem dX12_share_14 : decode cX12_share 14 = .ok (.ifCond .ne 5, 3) := by decide +kernel
theorem dX12_share_17 : decode cX12_share 17 = .ok (.iconst (-1), 1) := by decide +kernel
theorem dX12_share_18 : decode cX12_share 18 = .ok (.ireturn, 1) := by decide +kernel
theorem dX12_share_19 : decode cX12_share 19 = .ok (.aload_n 0, 1) := by decide +kernel
theorem dX12_share_20 : decode cX12_share 20 = .ok (.iload_n 1, 1) := by decide +kernel
theorem dX12_share_21 : decode cX12_share 21 = .ok (.invokevirtual 421, 3) := by decide +kernel
theorem dX12_share_24 : decode cX12_share 24 = .ok (.iload_n 2, 1) := by decide +kernel
theorem dX12_share_25 : decode cX12_share 25 = .ok (.ifCond .ne 10, 3) := by decide +kernel
theorem dX12_share_28 : decode cX12_share 28 = .ok (.aload_n 0, 1) := by decide +kernel
theorem dX12_share_29 : decode cX12_share 29 = .ok (.getfield 408, 3) := by decide +kernel
theorem dX12_share_32 : decode cX12_share 32 = .ok (.goto 7, 3) := by decide +kernel
theorem dX12_share_35 : decode cX12_share 35 = .ok (.aload_n 0, 1) := by decide +kernel
theorem dX12_share_36 : decode cX12_share 36 = .ok (.getfield 414, 3) := by decide +kernel
theorem dX12_share_39 : decode cX12_share 39 = .ok (.ireturn, 1) := by decide +kernel
theorem dX12_shareOf_0 : decode cX12_shareOf 0 = .ok (.iload_n 1, 1) := by decide +kernel
theorem dX12_shareOf_1 : decode cX12_shareOf 1 = .ok (.invokestatic 302, 3) := by decide +kernel
theorem dX12_shareOf_4 : decode cX12_shareOf 4 = .ok (.ifCond .eq 11, 3) := by decide +kernel
theorem dX12_shareOf_7 : decode cX12_shareOf 7 = .ok (.aload_n 0, 1) := by decide +kernel
theorem dX12_shareOf_8 : decode cX12_shareOf 8 = .ok (.iload_n 2, 1) := by decide +kernel
theorem dX12_shareOf_9 : decode cX12_shareOf 9 = .ok (.invokevirtual 365, 3) := by decide +kernel
theorem dX12_shareOf_12 : decode cX12_shareOf 12 = .ok (.ifCond .ne 5, 3) := by decide +kernel
theorem dX12_shareOf_15 : decode cX12_shareOf 15 = .ok (.iconst (-1), 1) := by decide +kernel
theorem dX12_shareOf_16 : decode cX12_shareOf 16 = .ok (.ireturn, 1) := by decide +kernel
theorem dX12_shareOf_17 : decode cX12_shareOf 17 = .ok (.aload_n 0, 1) := by decide +kernel
theorem dX12_shareOf_18 : decode cX12_shareOf 18 = .ok (.iload_n 1, 1) := by decide +kernel
theorem dX12_shareOf_19 : decode cX12_shareOf 19 = .ok (.invokevirtual 421, 3) := by decide +kernel
theorem dX12_shareOf_22 : decode cX12_shareOf 22 = .ok (.bipush (-4), 2) := by decide +kernel
theorem dX12_shareOf_24 : decode cX12_shareOf 24 = .ok (.istore_n 3, 1) := by decide +kernel
theorem dX12_shareOf_25 : decode cX12_shareOf 25 = .ok (.iconst 0, 1) := by decide +kernel
theorem dX12_shareOf_26 : decode cX12_shareOf 26 = .ok (.istore 4, 2) := by decide +kernel
theorem dX12_shareOf_28 : decode cX12_shareOf 28 = .ok (.iload 4, 2) := by decide +kernel
theorem dX12_shareOf_30 : decode cX12_shareOf 30 = .ok (.aload_n 0, 1) := by decide +kernel
theorem dX12_shareOf_31 : decode cX12_shareOf 31 = .ok (.getfield 405, 3) := by decide +kernel
theorem dX12_shareOf_34 : decode cX12_shareOf 34 = .ok (.if_icmp .ge 46, 3) := by decide +kernel
theorem dX12_shareOf_37 : decode cX12_shareOf 37 = .ok (.aload_n 0, 1) := by decide +kernel
theorem dX12_shareOf_38 : decode cX12_shareOf 38 = .ok (.getfield 156, 3) := by decide +kernel
theorem dX12_shareOf_41 : decode cX12_shareOf 41 = .ok (.iload 4, 2) := by decide +kernel
theorem dX12_shareOf_43 : decode cX12_shareOf 43 = .ok (.iaload, 1) := by decide +kernel
theorem dX12_shareOf_44 : decode cX12_shareOf 44 = .ok (.iload_n 2, 1) := by decide +kernel
theorem dX12_shareOf_45 : decode cX12_shareOf 45 = .ok (.if_icmp .ne 27, 3) := by decide +kernel
theorem dX12_shareOf_48 : decode cX12_shareOf 48 = .ok (.aload_n 0, 1) := by decide +kernel
theorem dX12_shareOf_49 : decode cX12_shareOf 49 = .ok (.getfield 162, 3) := by decide +kernel
theorem dX12_shareOf_52 : decode cX12_shareOf 52 = .ok (.iload 4, 2) := by decide +kernel
theorem dX12_shareOf_54 : decode cX12_shareOf 54 = .ok (.iaload, 1) := by decide +kernel
theorem dX12_shareOf_55 : decode cX12_shareOf 55 = .ok (.aload_n 0, 1) := by decide +kernel
theorem dX12_shareOf_56 : decode cX12_shareOf 56 = .ok (.getfield 389, 3) := by decide +kernel
theorem dX12_shareOf_59 : decode cX12_shareOf 59 = .ok (.if_icmp .ge 13, 3) := by decide +kernel
theorem dX12_shareOf_62 : decode cX12_shareOf 62 = .ok (.aload_n 0, 1) := by decide +kernel
theorem dX12_shareOf_63 : decode cX12_shareOf 63 = .ok (.getfield 162, 3) := by decide +kernel
theorem dX12_shareOf_66 : decode cX12_shareOf 66 = .ok (.iload 4, 2) := by decide +kernel
theorem dX12_shareOf_68 : decode cX12_shareOf 68 = .ok (.iaload, 1) := by decide +kernel
theorem dX12_shareOf_69 : decode cX12_shareOf 69 = .ok (.goto 4, 3) := by decide +kernel
theorem dX12_shareOf_72 : decode cX12_shareOf 72 = .ok (.iload_n 3, 1) := by decide +kernel
theorem dX12_shareOf_73 : decode cX12_shareOf 73 = .ok (.istore_n 3, 1) := by decide +kernel
theorem dX12_shareOf_74 : decode cX12_shareOf 74 = .ok (.iinc 4 1, 3) := by decide +kernel
theorem dX12_shareOf_77 : decode cX12_shareOf 77 = .ok (.goto (-49), 3) := by decide +kernel
theorem dX12_shareOf_80 : decode cX12_shareOf 80 = .ok (.iload_n 3, 1) := by decide +kernel
theorem dX12_shareOf_81 : decode cX12_shareOf 81 = .ok (.ireturn, 1) := by decide +kernel
theorem dX12_offset_0 : decode cX12_offset 0 = .ok (.aload_n 0, 1) := by decide +kernel
theorem dX12_offset_1 : decode cX12_offset 1 = .ok (.iload_n 1, 1) := by decide +kernel
theorem dX12_offset_2 : decode cX12_offset 2 = .ok (.invokevirtual 368, 3) := by decide +kernel
theorem dX12_offset_5 : decode cX12_offset 5 = .ok (.ifCond .eq 28, 3) := by decide +kernel
theorem dX12_offset_8 : decode cX12_offset 8 = .ok (.aload_n 0, 1) := by decide +kernel
theorem dX12_offset_9 : decode cX12_offset 9 = .ok (.iload_n 2, 1) := by decide +kernel
theorem dX12_offset_10 : decode cX12_offset 10 = .ok (.invokevirtual 368, 3) := by decide +kernel
theorem dX12_offset_13 : decode cX12_offset 13 = .ok (.ifCond .eq 20, 3) := by decide +kernel
theorem dX12_offset_16 : decode cX12_offset 16 = .ok (.iload_n 1, 1) := by decide +kernel
theorem dX12_offset_17 : decode cX12_offset 17 = .ok (.iload_n 2, 1) := by decide +kernel
theorem dX12_offset_18 : decode cX12_offset 18 = .ok (.if_icmp .eq 15, 3) := by decide +kernel
theorem dX12_offset_21 : decode cX12_offset 21 = .ok (.iload_n 3, 1) := by decide +kernel
theorem dX12_offset_22 : decode cX12_offset 22 = .ok (.i2l, 1) := by decide +kernel
theorem dX12_offset_23 : decode cX12_offset 23 = .ok (.lconst 0, 1) := by decide +kernel
theorem dX12_offset_24 : decode cX12_offset 24 = .ok (.ldc2_w 297, 3) := by decide +kernel
theorem dX12_offset_27 : decode cX12_offset 27 = .ok (.invokestatic 213, 3) := by decide +kernel
theorem dX12_offset_30 : decode cX12_offset 30 = .ok (.ifCond .ne 7, 3) := by decide +kernel
theorem dX12_offset_33 : decode cX12_offset 33 = .ok (.sipush (-1001), 3) := by decide +kernel
theorem dX12_offset_36 : decode cX12_offset 36 = .ok (.ireturn, 1) := by decide +kernel
theorem dX12_offset_37 : decode cX12_offset 37 = .ok (.iconst 0, 1) := by decide +kernel
theorem dX12_offset_38 : decode cX12_offset 38 = .ok (.istore 4, 2) := by decide +kernel
theorem dX12_offset_40 : decode cX12_offset 40 = .ok (.iconst 0, 1) := by decide +kernel
theorem dX12_offset_41 : decode cX12_offset 41 = .ok (.istore 5, 2) := by decide +kernel
theorem dX12_offset_43 : decode cX12_offset 43 = .ok (.iconst 0, 1) := by decide +kernel
theorem dX12_offset_44 : decode cX12_offset 44 = .ok (.istore 6, 2) := by decide +kernel
theorem dX12_offset_46 : decode cX12_offset 46 = .ok (.iconst 0, 1) := by decide +kernel
theorem dX12_offset_47 : decode cX12_offset 47 = .ok (.istore 7, 2) := by decide +kernel
theorem dX12_offset_49 : decode cX12_offset 49 = .ok (.iconst 0, 1) := by decide +kernel
theorem dX12_offset_50 : decode cX12_offset 50 = .ok (.istore 8, 2) := by decide +kernel
theorem dX12_offset_52 : decode cX12_offset 52 = .ok (.iload 8, 2) := by decide +kernel
theorem dX12_offset_54 : decode cX12_offset 54 = .ok (.aload_n 0, 1) := by decide +kernel
theorem dX12_offset_55 : decode cX12_offset 55 = .ok (.getfield 334, 3) := by decide +kernel
theorem dX12_offset_58 : decode cX12_offset 58 = .ok (.if_icmp .ge 191, 3) := by decide +kernel
theorem dX12_offset_61 : decode cX12_offset 61 = .ok (.aload_n 0, 1) := by decide +kernel
theorem dX12_offset_62 : decode cX12_offset 62 = .ok (.getfield 99, 3) := by decide +kernel
theorem dX12_offset_65 : decode cX12_offset 65 = .ok (.iload 8, 2) := by decide +kernel
theorem dX12_offset_67 : decode cX12_offset 67 = .ok (.iaload, 1) := by decide +kernel
theorem dX12_offset_68 : decode cX12_offset 68 = .ok (.iconst 2, 1) := by decide +kernel
theorem dX12_offset_69 : decode cX12_offset 69 = .ok (.if_icmp .ne 29, 3) := by decide +kernel
theorem dX12_offset_72 : decode cX12_offset 72 = .ok (.aload_n 0, 1) := by decide +kernel
theorem dX12_offset_73 : decode cX12_offset 73 = .ok (.getfield 120, 3) := by decide +kernel
theorem dX12_offset_76 : decode cX12_offset 76 = .ok (.iload 8, 2) := by decide +kernel
theorem dX12_offset_78 : decode cX12_offset 78 = .ok (.iaload, 1) := by decide +kernel
theorem dX12_offset_79 : decode cX12_offset 79 = .ok (.iload_n 1, 1) := by decide +kernel
theorem dX12_offset_80 : decode cX12_offset 80 = .ok (.if_icmp .ne 18, 3) := by decide +kernel
theorem dX12_offset_83 : decode cX12_offset 83 = .ok (.aload_n 0, 1) := by decide +kernel
theorem dX12_offset_84 : decode cX12_offset 84 = .ok (.getfield 135, 3) := by decide +kernel
theorem dX12_offset_87 : decode cX12_offset 87 = .ok (.iload 8, 2) := by decide +kernel
theorem dX12_offset_89 : decode cX12_offset 89 = .ok (.iaload, 1) := by decide +kernel
theorem dX12_offset_90 : decode cX12_offset 90 = .ok (.iload_n 2, 1) := by decide +kernel
theorem dX12_offset_91 : decode cX12_offset 91 = .ok (.if_icmp .ne 7, 3) := by decide +kernel
theorem dX12_offset_94 : decode cX12_offset 94 = .ok (.iconst 1, 1) := by decide +kernel
theorem dX12_offset_95 : decode cX12_offset 95 = .ok (.goto 4, 3) := by decide +kernel
theorem dX12_offset_98 : decode cX12_offset 98 = .ok (.iconst 0, 1) := by decide +kernel
theorem dX12_offset_99 : decode cX12_offset 99 = .ok (.istore 9, 2) := by decide +kernel
theorem dX12_offset_101 : decode cX12_offset 101 = .ok (.aload_n 0, 1) := by decide +kernel
theorem dX12_offset_102 : decode cX12_offset 102 = .ok (.getfield 99, 3) := by decide +kernel
theorem dX12_offset_105 : decode cX12_offset 105 = .ok (.iload 8, 2) := by decide +kernel
theorem dX12_offset_107 : decode cX12_offset 107 = .ok (.iaload, 1) := by decide +kernel
theorem dX12_offset_108 : decode cX12_offset 108 = .ok (.iconst 2, 1) := by decide +kernel
theorem dX12_offset_109 : decode cX12_offset 109 = .ok (.if_icmp .ne 29, 3) := by decide +kernel
theorem dX12_offset_112 : decode cX12_offset 112 = .ok (.aload_n 0, 1) := by decide +kernel
theorem dX12_offset_113 : decode cX12_offset 113 = .ok (.getfield 120, 3) := by decide +kernel
theorem dX12_offset_116 : decode cX12_offset 116 = .ok (.iload 8, 2) := by decide +kernel
theorem dX12_offset_118 : decode cX12_offset 118 = .ok (.iaload, 1) := by decide +kernel
theorem dX12_offset_119 : decode cX12_offset 119 = .ok (.iload_n 2, 1) := by decide +kernel
theorem dX12_offset_120 : decode cX12_offset 120 = .ok (.if_icmp .ne 18, 3) := by decide +kernel
theorem dX12_offset_123 : decode cX12_offset 123 = .ok (.aload_n 0, 1) := by decide +kernel
theorem dX12_offset_124 : decode cX12_offset 124 = .ok (.getfield 135, 3) := by decide +kernel
theorem dX12_offset_127 : decode cX12_offset 127 = .ok (.iload 8, 2) := by decide +kernel
theorem dX12_offset_129 : decode cX12_offset 129 = .ok (.iaload, 1) := by decide +kernel
theorem dX12_offset_130 : decode cX12_offset 130 = .ok (.iload_n 1, 1) := by decide +kernel
theorem dX12_offset_131 : decode cX12_offset 131 = .ok (.if_icmp .ne 7, 3) := by decide +kernel
theorem dX12_offset_134 : decode cX12_offset 134 = .ok (.iconst 1, 1) := by decide +kernel
theorem dX12_offset_135 : decode cX12_offset 135 = .ok (.goto 4, 3) := by decide +kernel
theorem dX12_offset_138 : decode cX12_offset 138 = .ok (.iconst 0, 1) := by decide +kernel
theorem dX12_offset_139 : decode cX12_offset 139 = .ok (.istore 10, 2) := by decide +kernel
theorem dX12_offset_141 : decode cX12_offset 141 = .ok (.iload 9, 2) := by decide +kernel
theorem dX12_offset_143 : decode cX12_offset 143 = .ok (.ifCond .ne 8, 3) := by decide +kernel
theorem dX12_offset_146 : decode cX12_offset 146 = .ok (.iload 10, 2) := by decide +kernel
theorem dX12_offset_148 : decode cX12_offset 148 = .ok (.ifCond .eq 95, 3) := by decide +kernel
theorem dX12_offset_151 : decode cX12_offset 151 = .ok (.iload 9, 2) := by decide +kernel
theorem dX12_offset_153 : decode cX12_offset 153 = .ok (.ifCond .eq 21, 3) := by decide +kernel
theorem dX12_offset_156 : decode cX12_offset 156 = .ok (.aload_n 0, 1) := by decide +kernel
theorem dX12_offset_157 : decode cX12_offset 157 = .ok (.getfield 129, 3) := by decide +kernel
theorem dX12_offset_160 : decode cX12_offset 160 = .ok (.iload 8, 2) := by decide +kernel
theorem dX12_offset_162 : decode cX12_offset 162 = .ok (.iaload, 1) := by decide +kernel
theorem dX12_offset_163 : decode cX12_offset 163 = .ok (.aload_n 0, 1) := by decide +kernel
theorem dX12_offset_164 : decode cX12_offset 164 = .ok (.getfield 138, 3) := by decide +kernel
theorem dX12_offset_167 : decode cX12_offset 167 = .ok (.iload 8, 2) := by decide +kernel
theorem dX12_offset_169 : decode cX12_offset 169 = .ok (.iaload, 1) := by decide +kernel
theorem dX12_offset_170 : decode cX12_offset 170 = .ok (.isub, 1) := by decide +kernel
theorem dX12_offset_171 : decode cX12_offset 171 = .ok (.goto 18, 3) := by decide +kernel
theorem dX12_offset_174 : decode cX12_offset 174 = .ok (.aload_n 0, 1) := by decide +kernel
theorem dX12_offset_175 : decode cX12_offset 175 = .ok (.getfield 138, 3) := by decide +kernel
theorem dX12_offset_178 : decode cX12_offset 178 = .ok (.iload 8, 2) := by decide +kernel
theorem dX12_offset_180 : decode cX12_offset 180 = .ok (.iaload, 1) := by decide +kernel
theorem dX12_offset_181 : decode cX12_offset 181 = .ok (.aload_n 0, 1) := by decide +kernel
theorem dX12_offset_182 : decode cX12_offset 182 = .ok (.getfield 129, 3) := by decide +kernel
theorem dX12_offset_185 : decode cX12_offset 185 = .ok (.iload 8, 2) := by decide +kernel
theorem dX12_offset_187 : decode cX12_offset 187 = .ok (.iaload, 1) := by decide +kernel
theorem dX12_offset_188 : decode cX12_offset 188 = .ok (.isub, 1) := by decide +kernel
theorem dX12_offset_189 : decode cX12_offset 189 = .ok (.istore 11, 2) := by decide +kernel
theorem dX12_offset_191 : decode cX12_offset 191 = .ok (.iload 4, 2) := by decide +kernel
theorem dX12_offset_193 : decode cX12_offset 193 = .ok (.ifCond .eq 10, 3) := by decide +kernel
theorem dX12_offset_196 : decode cX12_offset 196 = .ok (.iload 11, 2) := by decide +kernel
theorem dX12_offset_198 : decode cX12_offset 198 = .ok (.iload 6, 2) := by decide +kernel
theorem dX12_offset_200 : decode cX12_offset 200 = .ok (.if_icmp .ge 8, 3) := by decide +kernel
theorem dX12_offset_203 : decode cX12_offset 203 = .ok (.iload 11, 2) := by decide +kernel
theorem dX12_offset_205 : decode cX12_offset 205 = .ok (.goto 5, 3) := by decide +kernel
theorem dX12_offset_208 : decode cX12_offset 208 = .ok (.iload 6, 2) := by decide +kernel
theorem dX12_offset_210 : decode cX12_offset 210 = .ok (.istore 6, 2) := by decide +kernel
theorem dX12_offset_212 : decode cX12_offset 212 = .ok (.iload 4, 2) := by decide +kernel
theorem dX12_offset_214 : decode cX12_offset 214 = .ok (.ifCond .eq 10, 3) := by decide +kernel
theorem dX12_offset_217 : decode cX12_offset 217 = .ok (.iload 11, 2) := by decide +kernel
theorem dX12_offset_219 : decode cX12_offset 219 = .ok (.iload 7, 2) := by decide +kernel
theorem dX12_offset_221 : decode cX12_offset 221 = .ok (.if_icmp .le 8, 3) := by decide +kernel
theorem dX12_offset_224 : decode cX12_offset 224 = .ok (.iload 11, 2) := by decide +kernel
theorem dX12_offset_226 : decode cX12_offset 226 = .ok (.goto 5, 3) := by decide +kernel
theorem dX12_offset_229 : decode cX12_offset 229 = .ok (.iload 7, 2) := by decide +kernel
theorem dX12_offset_231 : decode cX12_offset 231 = .ok (.istore 7, 2) := by decide +kernel
theorem dX12_offset_233 : decode cX12_offset 233 = .ok (.iload 5, 2) := by decide +kernel
theorem dX12_offset_235 : decode cX12_offset 235 = .ok (.iload 11, 2) := by decide +kernel
theorem dX12_offset_237 : decode cX12_offset 237 = .ok (.iadd, 1) := by decide +kernel
theorem dX12_offset_238 : decode cX12_offset 238 = .ok (.istore 5, 2) := by decide +kernel
theorem dX12_offset_240 : decode cX12_offset 240 = .ok (.iinc 4 1, 3) := by decide +kernel
theorem dX12_offset_243 : decode cX12_offset 243 = .ok (.iinc 8 1, 3) := by decide +kernel
theorem dX12_offset_246 : decode cX12_offset 246 = .ok (.goto (-194), 3) := by decide +kernel
theorem dX12_offset_249 : decode cX12_offset 249 = .ok (.iload_n 3, 1) := by decide +kernel
theorem dX12_offset_250 : decode cX12_offset 250 = .ok (.ifCond .le 12, 3) := by decide +kernel
theorem dX12_offset_253 : decode cX12_offset 253 = .ok (.iload 4, 2) := by decide +kernel
theorem dX12_offset_255 : decode cX12_offset 255 = .ok (.ifCond .ne 7, 3) := by decide +kernel
theorem dX12_offset_258 : decode cX12_offset 258 = .ok (.sipush (-1004), 3) := by decide +kernel
theorem dX12_offset_261 : decode cX12_offset 261 = .ok (.ireturn, 1) := by decide +kernel
theorem dX12_offset_262 : decode cX12_offset 262 = .ok (.iload_n 3, 1) := by decide +kernel
theorem dX12_offset_263 : decode cX12_offset 263 = .ok (.ifCond .ne 8, 3) := by decide +kernel
theorem dX12_offset_266 : decode cX12_offset 266 = .ok (.iload 4, 2) := by decide +kernel
theorem dX12_offset_268 : decode cX12_offset 268 = .ok (.goto 28, 3) := by decide +kernel
theorem dX12_offset_271 : decode cX12_offset 271 = .ok (.iload_n 3, 1) := by decide +kernel
theorem dX12_offset_272 : decode cX12_offset 272 = .ok (.iconst 1, 1) := by decide +kernel
theorem dX12_offset_273 : decode cX12_offset 273 = .ok (.if_icmp .ne 11, 3) := by decide +kernel
theorem dX12_offset_276 : decode cX12_offset 276 = .ok (.iload 5, 2) := by decide +kernel
theorem dX12_offset_278 : decode cX12_offset 278 = .ok (.iload 4, 2) := by decide +kernel
theorem dX12_offset_280 : decode cX12_offset 280 = .ok (.idiv, 1) := by decide +kernel
theorem dX12_offset_281 : decode cX12_offset 281 = .ok (.goto 15, 3) := by decide +kernel
theorem dX12_offset_284 : decode cX12_offset 284 = .ok (.iload_n 3, 1) := by decide +kernel
theorem dX12_offset_285 : decode cX12_offset 285 = .ok (.iconst 2, 1) := by decide +kernel
theorem dX12_offset_286 : decode cX12_offset 286 = .ok (.if_icmp .ne 8, 3) := by decide +kernel
theorem dX12_offset_289 : decode cX12_offset 289 = .ok (.iload 6, 2) := by decide +kernel
theorem dX12_offset_291 : decode cX12_offset 291 = .ok (.goto 5, 3) := by decide +kernel
theorem dX12_offset_294 : decode cX12_offset 294 = .ok (.iload 7, 2) := by decide +kernel
theorem dX12_offset_296 : decode cX12_offset 296 = .ok (.ireturn, 1) := by decide +kernel
theorem dX12_key_0 : decode cX12_key 0 = .ok (.iload_n 1, 1) := by decide +kernel
theorem dX12_key_1 : decode cX12_key 1 = .ok (.i2l, 1) := by decide +kernel
theorem dX12_key_2 : decode cX12_key 2 = .ok (.lconst 0, 1) := by decide +kernel
theorem dX12_key_3 : decode cX12_key 3 = .ok (.ldc2_w 424, 3) := by decide +kernel
theorem dX12_key_6 : decode cX12_key 6 = .ok (.invokestatic 213, 3) := by decide +kernel
theorem dX12_key_9 : decode cX12_key 9 = .ok (.ifCond .eq 27, 3) := by decide +kernel
theorem dX12_key_12 : decode cX12_key 12 = .ok (.iload_n 2, 1) := by decide +kernel
theorem dX12_key_13 : decode cX12_key 13 = .ok (.i2l, 1) := by decide +kernel
theorem dX12_key_14 : decode cX12_key 14 = .ok (.lconst 0, 1) := by decide +kernel
theorem dX12_key_15 : decode cX12_key 15 = .ok (.ldc2_w 426, 3) := by decide +kernel
theorem dX12_key_18 : decode cX12_key 18 = .ok (.invokestatic 213, 3) := by decide +kernel
theorem dX12_key_21 : decode cX12_key 21 = .ok (.ifCond .eq 15, 3) := by decide +kernel
theorem dX12_key_24 : decode cX12_key 24 = .ok (.iload_n 3, 1) := by decide +kernel
theorem dX12_key_25 : decode cX12_key 25 = .ok (.i2l, 1) := by decide +kernel
theorem dX12_key_26 : decode cX12_key 26 = .ok (.lconst 0, 1) := by decide +kernel
theorem dX12_key_27 : decode cX12_key 27 = .ok (.ldc2_w 428, 3) := by decide +kernel
theorem dX12_key_30 : decode cX12_key 30 = .ok (.invokestatic 213, 3) := by decide +kernel
theorem dX12_key_33 : decode cX12_key 33 = .ok (.ifCond .ne 5, 3) := by decide +kernel
theorem dX12_key_36 : decode cX12_key 36 = .ok (.iconst (-1), 1) := by decide +kernel
theorem dX12_key_37 : decode cX12_key 37 = .ok (.ireturn, 1) := by decide +kernel
theorem dX12_key_38 : decode cX12_key 38 = .ok (.aload_n 0, 1) := by decide +kernel
theorem dX12_key_39 : decode cX12_key 39 = .ok (.getfield 168, 3) := by decide +kernel
theorem dX12_key_42 : decode cX12_key 42 = .ok (.bipush 20, 2) := by decide +kernel
theorem dX12_key_44 : decode cX12_key 44 = .ok (.iload_n 1, 1) := by decide +kernel
theorem dX12_key_45 : decode cX12_key 45 = .ok (.imul, 1) := by decide +kernel
theorem dX12_key_46 : decode cX12_key 46 = .ok (.iload_n 2, 1) := by decide +kernel
theorem dX12_key_47 : decode cX12_key 47 = .ok (.iadd, 1) := by decide +kernel
theorem dX12_key_48 : decode cX12_key 48 = .ok (.iaload, 1) := by decide +kernel
theorem dX12_key_49 : decode cX12_key 49 = .ok (.istore 4, 2) := by decide +kernel
theorem dX12_key_51 : decode cX12_key 51 = .ok (.aload_n 0, 1) := by decide +kernel
theorem dX12_key_52 : decode cX12_key 52 = .ok (.getfield 168, 3) := by decide +kernel
theorem dX12_key_55 : decode cX12_key 55 = .ok (.bipush 20, 2) := by decide +kernel
theorem dX12_key_57 : decode cX12_key 57 = .ok (.iload_n 1, 1) := by decide +kernel
theorem dX12_key_58 : decode cX12_key 58 = .ok (.imul, 1) := by decide +kernel
theorem dX12_key_59 : decode cX12_key 59 = .ok (.iload_n 2, 1) := by decide +kernel
theorem dX12_key_60 : decode cX12_key 60 = .ok (.iadd, 1) := by decide +kernel
theorem dX12_key_61 : decode cX12_key 61 = .ok (.iload_n 3, 1) := by decide +kernel
theorem dX12_key_62 : decode cX12_key 62 = .ok (.iastore, 1) := by decide +kernel
theorem dX12_key_63 : decode cX12_key 63 = .ok (.iload 4, 2) := by decide +kernel
theorem dX12_key_65 : decode cX12_key 65 = .ok (.ireturn, 1) := by decide +kernel
theorem dX12_choose_0 : decode cX12_choose 0 = .ok (.aload_n 0, 1) := by decide +kernel
theorem dX12_choose_1 : decode cX12_choose 1 = .ok (.iload_n 1, 1) := by decide +kernel
theorem dX12_choose_2 : decode cX12_choose 2 = .ok (.invokevirtual 365, 3) := by decide +kernel
theorem dX12_choose_5 : decode cX12_choose 5 = .ok (.ifCond .eq 27, 3) := by decide +kernel
theorem dX12_choose_8 : decode cX12_choose 8 = .ok (.iload_n 2, 1) := by decide +kernel
theorem dX12_choose_9 : decode cX12_choose 9 = .ok (.i2l, 1) := by decide +kernel
theorem dX12_choose_10 : decode cX12_choose 10 = .ok (.lconst 0, 1) := by decide +kernel
theorem dX12_choose_11 : decode cX12_choose 11 = .ok (.ldc2_w 426, 3) := by decide +kernel
theorem dX12_choose_14 : decode cX12_choose 14 = .ok (.invokestatic 213, 3) := by decide +kernel
theorem dX12_choose_17 : decode cX12_choose 17 = .ok (.ifCond .eq 15, 3) := by decide +kernel
theorem dX12_choose_20 : decode cX12_choose 20 = .ok (.iload_n 3, 1) := by decide +kernel
theorem dX12_choose_21 : decode cX12_choose 21 = .ok (.i2l, 1) := by decide +kernel
theorem dX12_choose_22 : decode cX12_choose 22 = .ok (.lconst 0, 1) := by decide +kernel
theorem dX12_choose_23 : decode cX12_choose 23 = .ok (.ldc2_w 428, 3) := by decide +kernel
theorem dX12_choose_26 : decode cX12_choose 26 = .ok (.invokestatic 213, 3) := by decide +kernel
theorem dX12_choose_29 : decode cX12_choose 29 = .ok (.ifCond .ne 5, 3) := by decide +kernel
theorem dX12_choose_32 : decode cX12_choose 32 = .ok (.iconst (-1), 1) := by decide +kernel
theorem dX12_choose_33 : decode cX12_choose 33 = .ok (.ireturn, 1) := by decide +kernel
theorem dX12_choose_34 : decode cX12_choose 34 = .ok (.aload_n 0, 1) := by decide +kernel
theorem dX12_choose_35 : decode cX12_choose 35 = .ok (.iload_n 1, 1) := by decide +kernel
theorem dX12_choose_36 : decode cX12_choose 36 = .ok (.invokevirtual 371, 3) := by decide +kernel
theorem dX12_choose_39 : decode cX12_choose 39 = .ok (.ifCond .ne 6, 3) := by decide +kernel
theorem dX12_choose_42 : decode cX12_choose 42 = .ok (.bipush (-12), 2) := by decide +kernel
theorem dX12_choose_44 : decode cX12_choose 44 = .ok (.ireturn, 1) := by decide +kernel
theorem dX12_choose_45 : decode cX12_choose 45 = .ok (.aload_n 0, 1) := by decide +kernel
theorem dX12_choose_46 : decode cX12_choose 46 = .ok (.getfield 141, 3) := by decide +kernel
theorem dX12_choose_49 : decode cX12_choose 49 = .ok (.bipush 20, 2) := by decide +kernel
theorem dX12_choose_51 : decode cX12_choose 51 = .ok (.iload_n 1, 1) := by decide +kernel
theorem dX12_choose_52 : decode cX12_choose 52 = .ok (.imul, 1) := by decide +kernel
theorem dX12_choose_53 : decode cX12_choose 53 = .ok (.iload_n 2, 1) := by decide +kernel
theorem dX12_choose_54 : decode cX12_choose 54 = .ok (.iadd, 1) := by decide +kernel
theorem dX12_choose_55 : decode cX12_choose 55 = .ok (.iaload, 1) := by decide +kernel
theorem dX12_choose_56 : decode cX12_choose 56 = .ok (.istore 4, 2) := by decide +kernel
theorem dX12_choose_58 : decode cX12_choose 58 = .ok (.aload_n 0, 1) := by decide +kernel
theorem dX12_choose_59 : decode cX12_choose 59 = .ok (.getfield 141, 3) := by decide +kernel
theorem dX12_choose_62 : decode cX12_choose 62 = .ok (.bipush 20, 2) := by decide +kernel
theorem dX12_choose_64 : decode cX12_choose 64 = .ok (.iload_n 1, 1) := by decide +kernel
theorem dX12_choose_65 : decode cX12_choose 65 = .ok (.imul, 1) := by decide +kernel
theorem dX12_choose_66 : decode cX12_choose 66 = .ok (.iload_n 2, 1) := by decide +kernel
theorem dX12_choose_67 : decode cX12_choose 67 = .ok (.iadd, 1) := by decide +kernel
theorem dX12_choose_68 : decode cX12_choose 68 = .ok (.iload_n 3, 1) := by decide +kernel
theorem dX12_choose_69 : decode cX12_choose 69 = .ok (.iastore, 1) := by decide +kernel
theorem dX12_choose_70 : decode cX12_choose 70 = .ok (.iload 4, 2) := by decide +kernel
theorem dX12_choose_72 : decode cX12_choose 72 = .ok (.ireturn, 1) := by decide +kernel
theorem dX12_likeOf_0 : decode cX12_likeOf 0 = .ok (.aload_n 0, 1) := by decide +kernel
theorem dX12_likeOf_1 : decode cX12_likeOf 1 = .ok (.iload_n 1, 1) := by decide +kernel
theorem dX12_likeOf_2 : decode cX12_likeOf 2 = .ok (.invokevirtual 371, 3) := by decide +kernel
theorem dX12_likeOf_5 : decode cX12_likeOf 5 = .ok (.ifCond .eq 11, 3) := by decide +kernel
theorem dX12_likeOf_8 : decode cX12_likeOf 8 = .ok (.aload_n 0, 1) := by decide +kernel
theorem dX12_likeOf_9 : decode cX12_likeOf 9 = .ok (.iload_n 2, 1) := by decide +kernel
theorem dX12_likeOf_10 : decode cX12_likeOf 10 = .ok (.invokevirtual 371, 3) := by decide +kernel
theorem dX12_likeOf_13 : decode cX12_likeOf 13 = .ok (.ifCond .ne 6, 3) := by decide +kernel
theorem dX12_likeOf_16 : decode cX12_likeOf 16 = .ok (.bipush (-12), 2) := by decide +kernel
theorem dX12_likeOf_18 : decode cX12_likeOf 18 = .ok (.ireturn, 1) := by decide +kernel
theorem dX12_likeOf_19 : decode cX12_likeOf 19 = .ok (.aload_n 0, 1) := by decide +kernel
theorem dX12_likeOf_20 : decode cX12_likeOf 20 = .ok (.getfield 105, 3) := by decide +kernel
theorem dX12_likeOf_23 : decode cX12_likeOf 23 = .ok (.iload_n 1, 1) := by decide +kernel
theorem dX12_likeOf_24 : decode cX12_likeOf 24 = .ok (.iaload, 1) := by decide +kernel
theorem dX12_likeOf_25 : decode cX12_likeOf 25 = .ok (.aload_n 0, 1) := by decide +kernel
theorem dX12_likeOf_26 : decode cX12_likeOf 26 = .ok (.getfield 105, 3) := by decide +kernel
theorem dX12_likeOf_29 : decode cX12_likeOf 29 = .ok (.iload_n 2, 1) := by decide +kernel
theorem dX12_likeOf_30 : decode cX12_likeOf 30 = .ok (.iaload, 1) := by decide +kernel
theorem dX12_likeOf_31 : decode cX12_likeOf 31 = .ok (.if_icmp .ne 18, 3) := by decide +kernel
theorem dX12_likeOf_34 : decode cX12_likeOf 34 = .ok (.aload_n 0, 1) := by decide +kernel
theorem dX12_likeOf_35 : decode cX12_likeOf 35 = .ok (.getfield 102, 3) := by decide +kernel
theorem dX12_likeOf_38 : decode cX12_likeOf 38 = .ok (.iload_n 1, 1) := by decide +kernel
theorem dX12_likeOf_39 : decode cX12_likeOf 39 = .ok (.iaload, 1) := by decide +kernel
theorem dX12_likeOf_40 : decode cX12_likeOf 40 = .ok (.aload_n 0, 1) := by decide +kernel
theorem dX12_likeOf_41 : decode cX12_likeOf 41 = .ok (.getfield 102, 3) := by decide +kernel
theorem dX12_likeOf_44 : decode cX12_likeOf 44 = .ok (.iload_n 2, 1) := by decide +kernel
theorem dX12_likeOf_45 : decode cX12_likeOf 45 = .ok (.iaload, 1) := by decide +kernel
theorem dX12_likeOf_46 : decode cX12_likeOf 46 = .ok (.if_icmp .ne 6, 3) := by decide +kernel
theorem dX12_likeOf_49 : decode cX12_likeOf 49 = .ok (.bipush (-2), 2) := by decide +kernel
theorem dX12_likeOf_51 : decode cX12_likeOf 51 = .ok (.ireturn, 1) := by decide +kernel
theorem dX12_likeOf_52 : decode cX12_likeOf 52 = .ok (.iconst 0, 1) := by decide +kernel
theorem dX12_likeOf_53 : decode cX12_likeOf 53 = .ok (.istore_n 3, 1) := by decide +kernel
theorem dX12_likeOf_54 : decode cX12_likeOf 54 = .ok (.iconst 0, 1) := by decide +kernel
theorem dX12_likeOf_55 : decode cX12_likeOf 55 = .ok (.istore 4, 2) := by decide +kernel
theorem dX12_likeOf_57 : decode cX12_likeOf 57 = .ok (.iload 4, 2) := by decide +kernel
theorem dX12_likeOf_59 : decode cX12_likeOf 59 = .ok (.bipush 20, 2) := by decide +kernel
theorem dX12_likeOf_61 : decode cX12_likeOf 61 = .ok (.if_icmp .ge 70, 3) := by decide +kernel
theorem dX12_likeOf_64 : decode cX12_likeOf 64 = .ok (.aload_n 0, 1) := by decide +kernel
theorem dX12_likeOf_65 : decode cX12_likeOf 65 = .ok (.getfield 141, 3) := by decide +kernel
theorem dX12_likeOf_68 : decode cX12_likeOf 68 = .ok (.bipush 20, 2) := by decide +kernel
theorem dX12_likeOf_70 : decode cX12_likeOf 70 = .ok (.iload_n 1, 1) := by decide +kernel
theorem dX12_likeOf_71 : decode cX12_likeOf 71 = .ok (.imul, 1) := by decide +kernel
theorem dX12_likeOf_72 : decode cX12_likeOf 72 = .ok (.iload 4, 2) := by decide +kernel
theorem dX12_likeOf_74 : decode cX12_likeOf 74 = .ok (.iadd, 1) := by decide +kernel
theorem dX12_likeOf_75 : decode cX12_likeOf 75 = .ok (.iaload, 1) := by decide +kernel
theorem dX12_likeOf_76 : decode cX12_likeOf 76 = .ok (.istore 5, 2) := by decide +kernel
theorem dX12_likeOf_78 : decode cX12_likeOf 78 = .ok (.iload_n 3, 1) := by decide +kernel
theorem dX12_likeOf_79 : decode cX12_likeOf 79 = .ok (.iload 5, 2) := by decide +kernel
theorem dX12_likeOf_81 : decode cX12_likeOf 81 = .ok (.aload_n 0, 1) := by decide +kernel
theorem dX12_likeOf_82 : decode cX12_likeOf 82 = .ok (.getfield 141, 3) := by decide +kernel
theorem dX12_likeOf_85 : decode cX12_likeOf 85 = .ok (.bipush 20, 2) := by decide +kernel
theorem dX12_likeOf_87 : decode cX12_likeOf 87 = .ok (.iload_n 2, 1) := by decide +kernel
theorem dX12_likeOf_88 : decode cX12_likeOf 88 = .ok (.imul, 1) := by decide +kernel
theorem dX12_likeOf_89 : decode cX12_likeOf 89 = .ok (.iload 4, 2) := by decide +kernel
theorem dX12_likeOf_91 : decode cX12_likeOf 91 = .ok (.iadd, 1) := by decide +kernel
theorem dX12_likeOf_92 : decode cX12_likeOf 92 = .ok (.iaload, 1) := by decide +kernel
theorem dX12_likeOf_93 : decode cX12_likeOf 93 = .ok (.if_icmp .ne 29, 3) := by decide +kernel
theorem dX12_likeOf_96 : decode cX12_likeOf 96 = .ok (.iload 5, 2) := by decide +kernel
theorem dX12_likeOf_98 : decode cX12_likeOf 98 = .ok (.aload_n 0, 1) := by decide +kernel
theorem dX12_likeOf_99 : decode cX12_likeOf 99 = .ok (.getfield 168, 3) := by decide +kernel
theorem dX12_likeOf_102 : decode cX12_likeOf 102 = .ok (.bipush 20, 2) := by decide +kernel
theorem dX12_likeOf_104 : decode cX12_likeOf 104 = .ok (.aload_n 0, 1) := by decide +kernel
theorem dX12_likeOf_105 : decode cX12_likeOf 105 = .ok (.getfield 105, 3) := by decide +kernel
theorem dX12_likeOf_108 : decode cX12_likeOf 108 = .ok (.iload_n 1, 1) := by decide +kernel
theorem dX12_likeOf_109 : decode cX12_likeOf 109 = .ok (.iaload, 1) := by decide +kernel
theorem dX12_likeOf_110 : decode cX12_likeOf 110 = .ok (.imul, 1) := by decide +kernel
theorem dX12_likeOf_111 : decode cX12_likeOf 111 = .ok (.iload 4, 2) := by decide +kernel
theorem dX12_likeOf_113 : decode cX12_likeOf 113 = .ok (.iadd, 1) := by decide +kernel
theorem dX12_likeOf_114 : decode cX12_likeOf 114 = .ok (.iaload, 1) := by decide +kernel
theorem dX12_likeOf_115 : decode cX12_likeOf 115 = .ok (.if_icmp .eq 7, 3) := by decide +kernel
theorem dX12_likeOf_118 : decode cX12_likeOf 118 = .ok (.iconst 1, 1) := by decide +kernel
theorem dX12_likeOf_119 : decode cX12_likeOf 119 = .ok (.goto 4, 3) := by decide +kernel
theorem dX12_likeOf_122 : decode cX12_likeOf 122 = .ok (.iconst 0, 1) := by decide +kernel
theorem dX12_likeOf_123 : decode cX12_likeOf 123 = .ok (.iadd, 1) := by decide +kernel
theorem dX12_likeOf_124 : decode cX12_likeOf 124 = .ok (.istore_n 3, 1) := by decide +kernel
theorem dX12_likeOf_125 : decode cX12_likeOf 125 = .ok (.iinc 4 1, 3) := by decide +kernel
theorem dX12_likeOf_128 : decode cX12_likeOf 128 = .ok (.goto (-71), 3) := by decide +kernel
theorem dX12_likeOf_131 : decode cX12_likeOf 131 = .ok (.iload_n 3, 1) := by decide +kernel
theorem dX12_likeOf_132 : decode cX12_likeOf 132 = .ok (.ireturn, 1) := by decide +kernel
theorem dX12_like_0 : decode cX12_like 0 = .ok (.aload_n 0, 1) := by decide +kernel
theorem dX12_like_1 : decode cX12_like 1 = .ok (.iload_n 1, 1) := by decide +kernel
theorem dX12_like_2 : decode cX12_like 2 = .ok (.invokevirtual 365, 3) := by decide +kernel
theorem dX12_like_5 : decode cX12_like 5 = .ok (.ifCond .eq 25, 3) := by decide +kernel
theorem dX12_like_8 : decode cX12_like 8 = .ok (.aload_n 0, 1) := by decide +kernel
theorem dX12_like_9 : decode cX12_like 9 = .ok (.iload_n 2, 1) := by decide +kernel
theorem dX12_like_10 : decode cX12_like 10 = .ok (.invokevirtual 365, 3) := by decide +kernel
theorem dX12_like_13 : decode cX12_like 13 = .ok (.ifCond .eq 17, 3) := by decide +kernel
theorem dX12_like_16 : decode cX12_like 16 = .ok (.iload_n 1, 1) := by decide +kernel
theorem dX12_like_17 : decode cX12_like 17 = .ok (.iload_n 2, 1) := by decide +kernel
theorem dX12_like_18 : decode cX12_like 18 = .ok (.if_icmp .eq 12, 3) := by decide +kernel
theorem dX12_like_21 : decode cX12_like 21 = .ok (.aload_n 0, 1) := by decide +kernel
theorem dX12_like_22 : decode cX12_like 22 = .ok (.iload_n 1, 1) := by decide +kernel
theorem dX12_like_23 : decode cX12_like 23 = .ok (.iload_n 2, 1) := by decide +kernel
theorem dX12_like_24 : decode cX12_like 24 = .ok (.invokevirtual 430, 3) := by decide +kernel
theorem dX12_like_27 : decode cX12_like 27 = .ok (.goto 4, 3) := by decide +kernel
theorem dX12_like_30 : decode cX12_like 30 = .ok (.iconst (-1), 1) := by decide +kernel
theorem dX12_like_31 : decode cX12_like 31 = .ok (.ireturn, 1) := by decide +kernel
theorem dX12_limit_0 : decode cX12_limit 0 = .ok (.iload_n 1, 1) := by decide +kernel
theorem dX12_limit_1 : decode cX12_limit 1 = .ok (.i2l, 1) := by decide +kernel
theorem dX12_limit_2 : decode cX12_limit 2 = .ok (.lconst 0, 1) := by decide +kernel
theorem dX12_limit_3 : decode cX12_limit 3 = .ok (.ldc2_w 426, 3) := by decide +kernel
theorem dX12_limit_6 : decode cX12_limit 6 = .ok (.invokestatic 213, 3) := by decide +kernel
theorem dX12_limit_9 : decode cX12_limit 9 = .ok (.ifCond .ne 5, 3) := by decide +kernel
theorem dX12_limit_12 : decode cX12_limit 12 = .ok (.iconst (-1), 1) := by decide +kernel
theorem dX12_limit_13 : decode cX12_limit 13 = .ok (.ireturn, 1) := by decide +kernel
theorem dX12_limit_14 : decode cX12_limit 14 = .ok (.aload_n 0, 1) := by decide +kernel
theorem dX12_limit_15 : decode cX12_limit 15 = .ok (.getfield 171, 3) := by decide +kernel
theorem dX12_limit_18 : decode cX12_limit 18 = .ok (.istore_n 2, 1) := by decide +kernel
theorem dX12_limit_19 : decode cX12_limit 19 = .ok (.aload_n 0, 1) := by decide +kernel
theorem dX12_limit_20 : decode cX12_limit 20 = .ok (.iload_n 1, 1) := by decide +kernel
theorem dX12_limit_21 : decode cX12_limit 21 = .ok (.putfield 171, 3) := by decide +kernel
theorem dX12_limit_24 : decode cX12_limit 24 = .ok (.iload_n 2, 1) := by decide +kernel
theorem dX12_limit_25 : decode cX12_limit 25 = .ok (.ireturn, 1) := by decide +kernel
theorem dX12_doubted_0 : decode cX12_doubted 0 = .ok (.iload_n 1, 1) := by decide +kernel
theorem dX12_doubted_1 : decode cX12_doubted 1 = .ok (.ifCond .ge 5, 3) := by decide +kernel
theorem dX12_doubted_4 : decode cX12_doubted 4 = .ok (.iconst (-1), 1) := by decide +kernel
theorem dX12_doubted_5 : decode cX12_doubted 5 = .ok (.ireturn, 1) := by decide +kernel
theorem dX12_doubted_6 : decode cX12_doubted 6 = .ok (.iload_n 1, 1) := by decide +kernel
theorem dX12_doubted_7 : decode cX12_doubted 7 = .ok (.istore_n 2, 1) := by decide +kernel
theorem dX12_doubted_8 : decode cX12_doubted 8 = .ok (.iconst 0, 1) := by decide +kernel
theorem dX12_doubted_9 : decode cX12_doubted 9 = .ok (.istore_n 3, 1) := by decide +kernel
theorem dX12_doubted_10 : decode cX12_doubted 10 = .ok (.iload_n 3, 1) := by decide +kernel
theorem dX12_doubted_11 : decode cX12_doubted 11 = .ok (.aload_n 0, 1) := by decide +kernel
theorem dX12_doubted_12 : decode cX12_doubted 12 = .ok (.getfield 334, 3) := by decide +kernel
theorem dX12_doubted_15 : decode cX12_doubted 15 = .ok (.if_icmp .ge 58, 3) := by decide +kernel
theorem dX12_doubted_18 : decode cX12_doubted 18 = .ok (.iload_n 3, 1) := by decide +kernel
theorem dX12_doubted_19 : decode cX12_doubted 19 = .ok (.iconst 1, 1) := by decide +kernel
theorem dX12_doubted_20 : decode cX12_doubted 20 = .ok (.iadd, 1) := by decide +kernel
theorem dX12_doubted_21 : decode cX12_doubted 21 = .ok (.istore 4, 2) := by decide +kernel
theorem dX12_doubted_23 : decode cX12_doubted 23 = .ok (.iload 4, 2) := by decide +kernel
theorem dX12_doubted_25 : decode cX12_doubted 25 = .ok (.aload_n 0, 1) := by decide +kernel
theorem dX12_doubted_26 : decode cX12_doubted 26 = .ok (.getfield 334, 3) := by decide +kernel
theorem dX12_doubted_29 : decode cX12_doubted 29 = .ok (.if_icmp .ge 38, 3) := by decide +kernel
theorem dX12_doubted_32 : decode cX12_doubted 32 = .ok (.aload_n 0, 1) := by decide +kernel
theorem dX12_doubted_33 : decode cX12_doubted 33 = .ok (.iload_n 3, 1) := by decide +kernel
theorem dX12_doubted_34 : decode cX12_doubted 34 = .ok (.iload 4, 2) := by decide +kernel
theorem dX12_doubted_36 : decode cX12_doubted 36 = .ok (.invokevirtual 430, 3) := by decide +kernel
theorem dX12_doubted_39 : decode cX12_doubted 39 = .ok (.aload_n 0, 1) := by decide +kernel
theorem dX12_doubted_40 : decode cX12_doubted 40 = .ok (.getfield 171, 3) := by decide +kernel
theorem dX12_doubted_43 : decode cX12_doubted 43 = .ok (.if_icmp .le 18, 3) := by decide +kernel
theorem dX12_doubted_46 : decode cX12_doubted 46 = .ok (.iload_n 2, 1) := by decide +kernel
theorem dX12_doubted_47 : decode cX12_doubted 47 = .ok (.ifCond .ne 11, 3) := by decide +kernel
theorem dX12_doubted_50 : decode cX12_doubted 50 = .ok (.bipush 80, 2) := by decide +kernel
theorem dX12_doubted_52 : decode cX12_doubted 52 = .ok (.iload_n 3, 1) := by decide +kernel
theorem dX12_doubted_53 : decode cX12_doubted 53 = .ok (.imul, 1) := by decide +kernel
theorem dX12_doubted_54 : decode cX12_doubted 54 = .ok (.iload 4, 2) := by decide +kernel
theorem dX12_doubted_56 : decode cX12_doubted 56 = .ok (.iadd, 1) := by decide +kernel
theorem dX12_doubted_57 : decode cX12_doubted 57 = .ok (.ireturn, 1) := by decide +kernel
theorem dX12_doubted_58 : decode cX12_doubted 58 = .ok (.iinc 2 (-1), 3) := by decide +kernel
theorem dX12_doubted_61 : decode cX12_doubted 61 = .ok (.iinc 4 1, 3) := by decide +kernel
theorem dX12_doubted_64 : decode cX12_doubted 64 = .ok (.goto (-41), 3) := by decide +kernel
theorem dX12_doubted_67 : decode cX12_doubted 67 = .ok (.iinc 3 1, 3) := by decide +kernel
theorem dX12_doubted_70 : decode cX12_doubted 70 = .ok (.goto (-60), 3) := by decide +kernel
theorem dX12_doubted_73 : decode cX12_doubted 73 = .ok (.bipush (-4), 2) := by decide +kernel
theorem dX12_doubted_75 : decode cX12_doubted 75 = .ok (.ireturn, 1) := by decide +kernel
theorem dX12_readFees_0 : decode cX12_readFees 0 = .ok (.aload_n 0, 1) := by decide +kernel
theorem dX12_readFees_1 : decode cX12_readFees 1 = .ok (.iconst 0, 1) := by decide +kernel
theorem dX12_readFees_2 : decode cX12_readFees 2 = .ok (.putfield 228, 3) := by decide +kernel
theorem dX12_readFees_5 : decode cX12_readFees 5 = .ok (.aload_n 0, 1) := by decide +kernel
theorem dX12_readFees_6 : decode cX12_readFees 6 = .ok (.iconst 0, 1) := by decide +kernel
theorem dX12_readFees_7 : decode cX12_readFees 7 = .ok (.putfield 231, 3) := by decide +kernel
theorem dX12_readFees_10 : decode cX12_readFees 10 = .ok (.iconst 0, 1) := by decide +kernel
theorem dX12_readFees_11 : decode cX12_readFees 11 = .ok (.istore_n 1, 1) := by decide +kernel
theorem dX12_readFees_12 : decode cX12_readFees 12 = .ok (.iconst 1, 1) := by decide +kernel
theorem dX12_readFees_13 : decode cX12_readFees 13 = .ok (.istore_n 2, 1) := by decide +kernel
theorem dX12_readFees_14 : decode cX12_readFees 14 = .ok (.iload_n 2, 1) := by decide +kernel
theorem dX12_readFees_15 : decode cX12_readFees 15 = .ok (.ifCond .eq 125, 3) := by decide +kernel
theorem dX12_readFees_18 : decode cX12_readFees 18 = .ok (.aload_n 0, 1) := by decide +kernel
theorem dX12_readFees_19 : decode cX12_readFees 19 = .ok (.getfield 231, 3) := by decide +kernel
theorem dX12_readFees_22 : decode cX12_readFees 22 = .ok (.ifCond .ne 118, 3) := by decide +kernel
theorem dX12_readFees_25 : decode cX12_readFees 25 = .ok (.aload_n 0, 1) := by decide +kernel
theorem dX12_readFees_26 : decode cX12_readFees 26 = .ok (.invokevirtual 235, 3) := by decide +kernel
theorem dX12_readFees_29 : decode cX12_readFees 29 = .ok (.istore_n 3, 1) := by decide +kernel
theorem dX12_readFees_30 : decode cX12_readFees 30 = .ok (.iload_n 3, 1) := by decide +kernel
theorem dX12_readFees_31 : decode cX12_readFees 31 = .ok (.bipush 112, 2) := by decide +kernel
theorem dX12_readFees_33 : decode cX12_readFees 33 = .ok (.if_icmp .eq 20, 3) := by decide +kernel
theorem dX12_readFees_36 : decode cX12_readFees 36 = .ok (.iload_n 3, 1) := by decide +kernel
theorem dX12_readFees_37 : decode cX12_readFees 37 = .ok (.bipush 98, 2) := by decide +kernel
theorem dX12_readFees_39 : decode cX12_readFees 39 = .ok (.if_icmp .eq 14, 3) := by decide +kernel
theorem dX12_readFees_42 : decode cX12_readFees 42 = .ok (.aload_n 0, 1) := by decide +kernel
theorem dX12_readFees_43 : decode cX12_readFees 43 = .ok (.aload_n 0, 1) := by decide +kernel
theorem dX12_readFees_44 : decode cX12_readFees 44 = .ok (.getfield 228, 3) := by decide +kernel
theorem dX12_readFees_47 : decode cX12_readFees 47 = .ok (.invokevirtual 243, 3) := by decide +kernel
theorem dX12_readFees_50 : decode cX12_readFees 50 = .ok (.goto 66, 3) := by decide +kernel
theorem dX12_readFees_53 : decode cX12_readFees 53 = .ok (.aload_n 0, 1) := by decide +kernel
theorem dX12_readFees_54 : decode cX12_readFees 54 = .ok (.dup, 1) := by decide +kernel
theorem dX12_readFees_55 : decode cX12_readFees 55 = .ok (.getfield 228, 3) := by decide +kernel
theorem dX12_readFees_58 : decode cX12_readFees 58 = .ok (.iconst 1, 1) := by decide +kernel
theorem dX12_readFees_59 : decode cX12_readFees 59 = .ok (.iadd, 1) := by decide +kernel
theorem dX12_readFees_60 : decode cX12_readFees 60 = .ok (.putfield 228, 3) := by decide +kernel
theorem dX12_readFees_63 : decode cX12_readFees 63 = .ok (.aload_n 0, 1) := by decide +kernel
theorem dX12_readFees_64 : decode cX12_readFees 64 = .ok (.getfield 193, 3) := by decide +kernel
theorem dX12_readFees_67 : decode cX12_readFees 67 = .ok (.iload_n 1, 1) := by decide +kernel
theorem dX12_readFees_68 : decode cX12_readFees 68 = .ok (.iload_n 3, 1) := by decide +kernel
theorem dX12_readFees_69 : decode cX12_readFees 69 = .ok (.iastore, 1) := by decide +kernel
theorem dX12_readFees_70 : decode cX12_readFees 70 = .ok (.aload_n 0, 1) := by decide +kernel
theorem dX12_readFees_71 : decode cX12_readFees 71 = .ok (.getfield 196, 3) := by decide +kernel
theorem dX12_readFees_74 : decode cX12_readFees 74 = .ok (.iload_n 1, 1) := by decide +kernel
theorem dX12_readFees_75 : decode cX12_readFees 75 = .ok (.aload_n 0, 1) := by decide +kernel
theorem dX12_readFees_76 : decode cX12_readFees 76 = .ok (.sipush 999, 3) := by decide +kernel
theorem dX12_readFees_79 : decode cX12_readFees 79 = .ok (.invokevirtual 267, 3) := by decide +kernel
theorem dX12_readFees_82 : decode cX12_readFees 82 = .ok (.iastore, 1) := by decide +kernel
theorem dX12_readFees_83 : decode cX12_readFees 83 = .ok (.aload_n 0, 1) := by decide +kernel
theorem dX12_readFees_84 : decode cX12_readFees 84 = .ok (.bipush 61, 2) := by decide +kernel
theorem dX12_readFees_86 : decode cX12_readFees 86 = .ok (.invokevirtual 285, 3) := by decide +kernel
theorem dX12_readFees_89 : decode cX12_readFees 89 = .ok (.aload_n 0, 1) := by decide +kernel
theorem dX12_readFees_90 : decode cX12_readFees 90 = .ok (.getfield 199, 3) := by decide +kernel
theorem dX12_readFees_93 : decode cX12_readFees 93 = .ok (.iload_n 1, 1) := by decide +kernel
theorem dX12_readFees_94 : decode cX12_readFees 94 = .ok (.aload_n 0, 1) := by decide +kernel
theorem dX12_readFees_95 : decode cX12_readFees 95 = .ok (.iload_n 3, 1) := by decide +kernel
theorem dX12_readFees_96 : decode cX12_readFees 96 = .ok (.bipush 112, 2) := by decide +kernel
theorem dX12_readFees_98 : decode cX12_readFees 98 = .ok (.if_icmp .ne 9, 3) := by decide +kernel
theorem dX12_readFees_101 : decode cX12_readFees 101 = .ok (.ldc_w 433, 3) := by decide +kernel
theorem dX12_readFees_104 : decode cX12_readFees 104 = .ok (.goto 5, 3) := by decide +kernel
theorem dX12_readFees_107 : decode cX12_readFees 107 = .ok (.bipush 100, 2) := by decide +kernel
theorem dX12_readFees_109 : decode cX12_readFees 109 = .ok (.invokevirtual 267, 3) := by decide +kernel
theorem dX12_readFees_112 : decode cX12_readFees 112 = .ok (.iastore, 1) := by decide +kernel
theorem dX12_readFees_113 : decode cX12_readFees 113 = .ok (.iinc 1 1, 3) := by decide +kernel
theorem dX12_readFees_116 : decode cX12_readFees 116 = .ok (.iload_n 1, 1) := by decide +kernel
theorem dX12_readFees_117 : decode cX12_readFees 117 = .ok (.bipush 6, 2) := by decide +kernel
theorem dX12_readFees_119 : decode cX12_readFees 119 = .ok (.if_icmp .ge 16, 3) := by decide +kernel
theorem dX12_readFees_122 : decode cX12_readFees 122 = .ok (.aload_n 0, 1) := by decide +kernel
theorem dX12_readFees_123 : decode cX12_readFees 123 = .ok (.bipush 59, 2) := by decide +kernel
theorem dX12_readFees_125 : decode cX12_readFees 125 = .ok (.invokevirtual 239, 3) := by decide +kernel
theorem dX12_readFees_128 : decode cX12_readFees 128 = .ok (.ifCond .eq 7, 3) := by decide +kernel
theorem dX12_readFees_131 : decode cX12_readFees 131 = .ok (.iconst 1, 1) := by decide +kernel
theorem dX12_readFees_132 : decode cX12_readFees 132 = .ok (.goto 4, 3) := by decide +kernel
theorem dX12_readFees_135 : decode cX12_readFees 135 = .ok (.iconst 0, 1) := by decide +kernel
theorem dX12_readFees_136 : decode cX12_readFees 136 = .ok (.istore_n 2, 1) := by decide +kernel
theorem dX12_readFees_137 : decode cX12_readFees 137 = .ok (.goto (-123), 3) := by decide +kernel
theorem dX12_readFees_140 : decode cX12_readFees 140 = .ok (.aload_n 0, 1) := by decide +kernel
theorem dX12_readFees_141 : decode cX12_readFees 141 = .ok (.getfield 231, 3) := by decide +kernel
theorem dX12_readFees_144 : decode cX12_readFees 144 = .ok (.ifCond .ne 18, 3) := by decide +kernel
theorem dX12_readFees_147 : decode cX12_readFees 147 = .ok (.aload_n 0, 1) := by decide +kernel
theorem dX12_readFees_148 : decode cX12_readFees 148 = .ok (.invokevirtual 235, 3) := by decide +kernel
theorem dX12_readFees_151 : decode cX12_readFees 151 = .ok (.ifCond .lt 11, 3) := by decide +kernel
theorem dX12_readFees_154 : decode cX12_readFees 154 = .ok (.aload_n 0, 1) := by decide +kernel
theorem dX12_readFees_155 : decode cX12_readFees 155 = .ok (.aload_n 0, 1) := by decide +kernel
theorem dX12_readFees_156 : decode cX12_readFees 156 = .ok (.getfield 228, 3) := by decide +kernel
theorem dX12_readFees_159 : decode cX12_readFees 159 = .ok (.invokevirtual 243, 3) := by decide +kernel
theorem dX12_readFees_162 : decode cX12_readFees 162 = .ok (.iload_n 1, 1) := by decide +kernel
theorem dX12_readFees_163 : decode cX12_readFees 163 = .ok (.ireturn, 1) := by decide +kernel
theorem dX12_fees_0 : decode cX12_fees 0 = .ok (.iload_n 1, 1) := by decide +kernel
theorem dX12_fees_1 : decode cX12_fees 1 = .ok (.invokestatic 299, 3) := by decide +kernel
theorem dX12_fees_4 : decode cX12_fees 4 = .ok (.ifCond .ne 5, 3) := by decide +kernel
theorem dX12_fees_7 : decode cX12_fees 7 = .ok (.iconst (-1), 1) := by decide +kernel
theorem dX12_fees_8 : decode cX12_fees 8 = .ok (.ireturn, 1) := by decide +kernel
theorem dX12_fees_9 : decode cX12_fees 9 = .ok (.aload_n 0, 1) := by decide +kernel
theorem dX12_fees_10 : decode cX12_fees 10 = .ok (.invokevirtual 434, 3) := by decide +kernel
theorem dX12_fees_13 : decode cX12_fees 13 = .ok (.istore_n 2, 1) := by decide +kernel
theorem dX12_fees_14 : decode cX12_fees 14 = .ok (.aload_n 0, 1) := by decide +kernel
theorem dX12_fees_15 : decode cX12_fees 15 = .ok (.iconst 0, 1) := by decide +kernel
theorem dX12_fees_16 : decode cX12_fees 16 = .ok (.putfield 225, 3) := by decide +kernel
theorem dX12_fees_19 : decode cX12_fees 19 = .ok (.aload_n 0, 1) := by decide +kernel
theorem dX12_fees_20 : decode cX12_fees 20 = .ok (.getfield 231, 3) := by decide +kernel
theorem dX12_fees_23 : decode cX12_fees 23 = .ok (.ifCond .eq 11, 3) := by decide +kernel
theorem dX12_fees_26 : decode cX12_fees 26 = .ok (.bipush (-20), 2) := by decide +kernel
theorem dX12_fees_28 : decode cX12_fees 28 = .ok (.aload_n 0, 1) := by decide +kernel
theorem dX12_fees_29 : decode cX12_fees 29 = .ok (.getfield 228, 3) := by decide +kernel
theorem dX12_fees_32 : decode cX12_fees 32 = .ok (.isub, 1) := by decide +kernel
theorem dX12_fees_33 : decode cX12_fees 33 = .ok (.ireturn, 1) := by decide +kernel
theorem dX12_fees_34 : decode cX12_fees 34 = .ok (.aload_n 0, 1) := by decide +kernel
theorem dX12_fees_35 : decode cX12_fees 35 = .ok (.getfield 175, 3) := by decide +kernel
theorem dX12_fees_38 : decode cX12_fees 38 = .ok (.iload_n 1, 1) := by decide +kernel
theorem dX12_fees_39 : decode cX12_fees 39 = .ok (.iconst 0, 1) := by decide +kernel
theorem dX12_fees_40 : decode cX12_fees 40 = .ok (.iastore, 1) := by decide +kernel
theorem dX12_fees_41 : decode cX12_fees 41 = .ok (.aload_n 0, 1) := by decide +kernel
theorem dX12_fees_42 : decode cX12_fees 42 = .ok (.getfield 184, 3) := by decide +kernel
theorem dX12_fees_45 : decode cX12_fees 45 = .ok (.iload_n 1, 1) := by decide +kernel
theorem dX12_fees_46 : decode cX12_fees 46 = .ok (.iconst 0, 1) := by decide +kernel
theorem dX12_fees_47 : decode cX12_fees 47 = .ok (.iastore, 1) := by decide +kernel
theorem dX12_fees_48 : decode cX12_fees 48 = .ok (.iconst 0, 1) := by decide +kernel
theorem dX12_fees_49 : decode cX12_fees 49 = .ok (.istore_n 3, 1) := by decide +kernel
theorem dX12_fees_50 : decode cX12_fees 50 = .ok (.iload_n 3, 1) := by decide +kernel
theorem dX12_fees_51 : decode cX12_fees 51 = .ok (.iload_n 2, 1) := by decide +kernel
theorem dX12_fees_52 : decode cX12_fees 52 = .ok (.if_icmp .ge 131, 3) := by decide +kernel
theorem dX12_fees_55 : decode cX12_fees 55 = .ok (.aload_n 0, 1) := by decide +kernel
theorem dX12_fees_56 : decode cX12_fees 56 = .ok (.getfield 193, 3) := by decide +kernel
theorem dX12_fees_59 : decode cX12_fees 59 = .ok (.iload_n 3, 1) := by decide +kernel
theorem dX12_fees_60 : decode cX12_fees 60 = .ok (.iaload, 1) := by decide +kernel
theorem dX12_fees_61 : decode cX12_fees 61 = .ok (.bipush 112, 2) := by decide +kernel
theorem dX12_fees_63 : decode cX12_fees 63 = .ok (.if_icmp .ne 60, 3) := by decide +kernel
theorem dX12_fees_66 : decode cX12_fees 66 = .ok (.aload_n 0, 1) := by decide +kernel
theorem dX12_fees_67 : decode cX12_fees 67 = .ok (.getfield 178, 3) := by decide +kernel
theorem dX12_fees_70 : decode cX12_fees 70 = .ok (.bipush 6, 2) := by decide +kernel
theorem dX12_fees_72 : decode cX12_fees 72 = .ok (.iload_n 1, 1) := by decide +kernel
theorem dX12_fees_73 : decode cX12_fees 73 = .ok (.imul, 1) := by decide +kernel
theorem dX12_fees_74 : decode cX12_fees 74 = .ok (.aload_n 0, 1) := by decide +kernel
theorem dX12_fees_75 : decode cX12_fees 75 = .ok (.getfield 175, 3) := by decide +kernel
theorem dX12_fees_78 : decode cX12_fees 78 = .ok (.iload_n 1, 1) := by decide +kernel
theorem dX12_fees_79 : decode cX12_fees 79 = .ok (.iaload, 1) := by decide +kernel
theorem dX12_fees_80 : decode cX12_fees 80 = .ok (.iadd, 1) := by decide +kernel
theorem dX12_fees_81 : decode cX12_fees 81 = .ok (.aload_n 0, 1) := by decide +kernel
theorem dX12_fees_82 : decode cX12_fees 82 = .ok (.getfield 196, 3) := by decide +kernel
theorem dX12_fees_85 : decode cX12_fees 85 = .ok (.iload_n 3, 1) := by decide +kernel
theorem dX12_fees_86 : decode cX12_fees 86 = .ok (.iaload, 1) := by decide +kernel
theorem dX12_fees_87 : decode cX12_fees 87 = .ok (.iastore, 1) := by decide +kernel
theorem dX12_fees_88 : decode cX12_fees 88 = .ok (.aload_n 0, 1) := by decide +kernel
theorem dX12_fees_89 : decode cX12_fees 89 = .ok (.getfield 181, 3) := by decide +kernel
theorem dX12_fees_92 : decode cX12_fees 92 = .ok (.bipush 6, 2) := by decide +kernel
theorem dX12_fees_94 : decode cX12_fees 94 = .ok (.iload_n 1, 1) := by decide +kernel
theorem dX12_fees_95 : decode cX12_fees 95 = .ok (.imul, 1) := by decide +kernel
theorem dX12_fees_96 : decode cX12_fees 96 = .ok (.aload_n 0, 1) := by decide +kernel
theorem dX12_fees_97 : decode cX12_fees 97 = .ok (.getfield 175, 3) := by decide +kernel
theorem dX12_fees_100 : decode cX12_fees 100 = .ok (.iload_n 1, 1) := by decide +kernel
theorem dX12_fees_101 : decode cX12_fees 101 = .ok (.iaload, 1) := by decide +kernel
theorem dX12_fees_102 : decode cX12_fees 102 = .ok (.iadd, 1) := by decide +kernel
theorem dX12_fees_103 : decode cX12_fees 103 = .ok (.aload_n 0, 1) := by decide +kernel
theorem dX12_fees_104 : decode cX12_fees 104 = .ok (.getfield 199, 3) := by decide +kernel
theorem dX12_fees_107 : decode cX12_fees 107 = .ok (.iload_n 3, 1) := by decide +kernel
theorem dX12_fees_108 : decode cX12_fees 108 = .ok (.iaload, 1) := by decide +kernel
theorem dX12_fees_109 : decode cX12_fees 109 = .ok (.iastore, 1) := by decide +kernel
theorem dX12_fees_110 : decode cX12_fees 110 = .ok (.aload_n 0, 1) := by decide +kernel
theorem dX12_fees_111 : decode cX12_fees 111 = .ok (.getfield 175, 3) := by decide +kernel
theorem dX12_fees_114 : decode cX12_fees 114 = .ok (.iload_n 1, 1) := by decide +kernel
theorem dX12_fees_115 : decode cX12_fees 115 = .ok (.dup2, 1) := by decide +kernel
theorem dX12_fees_116 : decode cX12_fees 116 = .ok (.iaload, 1) := by decide +kernel
theorem dX12_fees_117 : decode cX12_fees 117 = .ok (.iconst 1, 1) := by decide +kernel
theorem dX12_fees_118 : decode cX12_fees 118 = .ok (.iadd, 1) := by decide +kernel
theorem dX12_fees_119 : decode cX12_fees 119 = .ok (.iastore, 1) := by decide +kernel
theorem dX12_fees_120 : decode cX12_fees 120 = .ok (.goto 57, 3) := by decide +kernel
theorem dX12_fees_123 : decode cX12_fees 123 = .ok (.aload_n 0, 1) := by decide +kernel
theorem dX12_fees_124 : decode cX12_fees 124 = .ok (.getfield 187, 3) := by decide +kernel
theorem dX12_fees_127 : decode cX12_fees 127 = .ok (.bipush 6, 2) := by decide +kernel
theorem dX12_fees_129 : decode cX12_fees 129 = .ok (.iload_n 1, 1) := by decide +kernel
theorem dX12_fees_130 : decode cX12_fees 130 = .ok (.imul, 1) := by decide +kernel
theorem dX12_fees_131 : decode cX12_fees 131 = .ok (.aload_n 0, 1) := by decide +kernel
theorem dX12_fees_132 : decode cX12_fees 132 = .ok (.getfield 184, 3) := by decide +kernel
theorem dX12_fees_135 : decode cX12_fees 135 = .ok (.iload_n 1, 1) := by decide +kernel
theorem dX12_fees_136 : decode cX12_fees 136 = .ok (.iaload, 1) := by decide +kernel
theorem dX12_fees_137 : decode cX12_fees 137 = .ok (.iadd, 1) := by decide +kernel
theorem dX12_fees_138 : decode cX12_fees 138 = .ok (.aload_n 0, 1) := by decide +kernel
theorem dX12_fees_139 : decode cX12_fees 139 = .ok (.getfield 196, 3) := by decide +kernel
theorem dX12_fees_142 : decode cX12_fees 142 = .ok (.iload_n 3, 1) := by decide +kernel
theorem dX12_fees_143 : decode cX12_fees 143 = .ok (.iaload, 1) := by decide +kernel
theorem dX12_fees_144 : decode cX12_fees 144 = .ok (.iastore, 1) := by decide +kernel
theorem dX12_fees_145 : decode cX12_fees 145 = .ok (.aload_n 0, 1) := by decide +kernel
theorem dX12_fees_146 : decode cX12_fees 146 = .ok (.getfield 190, 3) := by decide +kernel
theorem dX12_fees_149 : decode cX12_fees 149 = .ok (.bipush 6, 2) := by decide +kernel
theorem dX12_fees_151 : decode cX12_fees 151 = .ok (.iload_n 1, 1) := by decide +kernel
theorem dX12_fees_152 : decode cX12_fees 152 = .ok (.imul, 1) := by decide +kernel
theorem dX12_fees_153 : decode cX12_fees 153 = .ok (.aload_n 0, 1) := by decide +kernel
theorem dX12_fees_154 : decode cX12_fees 154 = .ok (.getfield 184, 3) := by decide +kernel
theorem dX12_fees_157 : decode cX12_fees 157 = .ok (.iload_n 1, 1) := by decide +kernel
theorem dX12_fees_158 : decode cX12_fees 158 = .ok (.iaload, 1) := by decide +kernel
theorem dX12_fees_159 : decode cX12_fees 159 = .ok (.iadd, 1) := by decide +kernel
theorem dX12_fees_160 : decode cX12_fees 160 = .ok (.aload_n 0, 1) := by decide +kernel
theorem dX12_fees_161 : decode cX12_fees 161 = .ok (.getfield 199, 3) := by decide +kernel
theorem dX12_fees_164 : decode cX12_fees 164 = .ok (.iload_n 3, 1) := by decide +kernel
theorem dX12_fees_165 : decode cX12_fees 165 = .ok (.iaload, 1) := by decide +kernel
theorem dX12_fees_166 : decode cX12_fees 166 = .ok (.iastore, 1) := by decide +kernel
theorem dX12_fees_167 : decode cX12_fees 167 = .ok (.aload_n 0, 1) := by decide +kernel
theorem dX12_fees_168 : decode cX12_fees 168 = .ok (.getfield 184, 3) := by decide +kernel
theorem dX12_fees_171 : decode cX12_fees 171 = .ok (.iload_n 1, 1) := by decide +kernel
theorem dX12_fees_172 : decode cX12_fees 172 = .ok (.dup2, 1) := by decide +kernel
theorem dX12_fees_173 : decode cX12_fees 173 = .ok (.iaload, 1) := by decide +kernel
theorem dX12_fees_174 : decode cX12_fees 174 = .ok (.iconst 1, 1) := by decide +kernel
theorem dX12_fees_175 : decode cX12_fees 175 = .ok (.iadd, 1) := by decide +kernel
theorem dX12_fees_176 : decode cX12_fees 176 = .ok (.iastore, 1) := by decide +kernel
theorem dX12_fees_177 : decode cX12_fees 177 = .ok (.iinc 3 1, 3) := by decide +kernel
theorem dX12_fees_180 : decode cX12_fees 180 = .ok (.goto (-130), 3) := by decide +kernel
theorem dX12_fees_183 : decode cX12_fees 183 = .ok (.iload_n 2, 1) := by decide +kernel
theorem dX12_fees_184 : decode cX12_fees 184 = .ok (.ireturn, 1) := by decide +kernel
theorem dX12_pay_0 : decode cX12_pay 0 = .ok (.aload_n 0, 1) := by decide +kernel
theorem dX12_pay_1 : decode cX12_pay 1 = .ok (.iload_n 1, 1) := by decide +kernel
theorem dX12_pay_2 : decode cX12_pay 2 = .ok (.invokevirtual 329, 3) := by decide +kernel
theorem dX12_pay_5 : decode cX12_pay 5 = .ok (.ifCond .eq 32, 3) := by decide +kernel
theorem dX12_pay_8 : decode cX12_pay 8 = .ok (.iload_n 2, 1) := by decide +kernel
theorem dX12_pay_9 : decode cX12_pay 9 = .ok (.i2l, 1) := by decide +kernel
theorem dX12_pay_10 : decode cX12_pay 10 = .ok (.lconst 1, 1) := by decide +kernel
theorem dX12_pay_11 : decode cX12_pay 11 = .ok (.ldc2_w 437, 3) := by decide +kernel
theorem dX12_pay_14 : decode cX12_pay 14 = .ok (.invokestatic 213, 3) := by decide +kernel
theorem dX12_pay_17 : decode cX12_pay 17 = .ok (.ifCond .eq 20, 3) := by decide +kernel
theorem dX12_pay_20 : decode cX12_pay 20 = .ok (.iload_n 3, 1) := by decide +kernel
theorem dX12_pay_21 : decode cX12_pay 21 = .ok (.invokestatic 302, 3) := by decide +kernel
theorem dX12_pay_24 : decode cX12_pay 24 = .ok (.ifCond .eq 13, 3) := by decide +kernel
theorem dX12_pay_27 : decode cX12_pay 27 = .ok (.iload_n 3, 1) := by decide +kernel
theorem dX12_pay_28 : decode cX12_pay 28 = .ok (.aload_n 0, 1) := by decide +kernel
theorem dX12_pay_29 : decode cX12_pay 29 = .ok (.getfield 61, 3) := by decide +kernel
theorem dX12_pay_32 : decode cX12_pay 32 = .ok (.iload_n 1, 1) := by decide +kernel
theorem dX12_pay_33 : decode cX12_pay 33 = .ok (.iaload, 1) := by decide +kernel
theorem dX12_pay_34 : decode cX12_pay 34 = .ok (.if_icmp .ge 5, 3) := by decide +kernel
theorem dX12_pay_37 : decode cX12_pay 37 = .ok (.iconst (-1), 1) := by decide +kernel
theorem dX12_pay_38 : decode cX12_pay 38 = .ok (.ireturn, 1) := by decide +kernel
theorem dX12_pay_39 : decode cX12_pay 39 = .ok (.aload_n 0, 1) := by decide +kernel
theorem dX12_pay_40 : decode cX12_pay 40 = .ok (.iload_n 1, 1) := by decide +kernel
theorem dX12_pay_41 : decode cX12_pay 41 = .ok (.iload_n 3, 1) := by decide +kernel
theorem dX12_pay_42 : decode cX12_pay 42 = .ok (.invokevirtual 358, 3) := by decide +kernel
theorem dX12_pay_45 : decode cX12_pay 45 = .ok (.ifCond .eq 6, 3) := by decide +kernel
theorem dX12_pay_48 : decode cX12_pay 48 = .ok (.bipush (-2), 2) := by decide +kernel
theorem dX12_pay_50 : decode cX12_pay 50 = .ok (.ireturn, 1) := by decide +kernel
theorem dX12_pay_51 : decode cX12_pay 51 = .ok (.aload_n 0, 1) := by decide +kernel
theorem dX12_pay_52 : decode cX12_pay 52 = .ok (.getfield 74, 3) := by decide +kernel
theorem dX12_pay_55 : decode cX12_pay 55 = .ok (.sipush 4000, 3) := by decide +kernel
theorem dX12_pay_58 : decode cX12_pay 58 = .ok (.iload_n 1, 1) := by decide +kernel
theorem dX12_pay_59 : decode cX12_pay 59 = .ok (.imul, 1) := by decide +kernel
theorem dX12_pay_60 : decode cX12_pay 60 = .ok (.iload_n 3, 1) := by decide +kernel
theorem dX12_pay_61 : decode cX12_pay 61 = .ok (.iadd, 1) := by decide +kernel
theorem dX12_pay_62 : decode cX12_pay 62 = .ok (.dup2, 1) := by decide +kernel
theorem dX12_pay_63 : decode cX12_pay 63 = .ok (.iaload, 1) := by decide +kernel
theorem dX12_pay_64 : decode cX12_pay 64 = .ok (.iload_n 2, 1) := by decide +kernel
theorem dX12_pay_65 : decode cX12_pay 65 = .ok (.iadd, 1) := by decide +kernel
theorem dX12_pay_66 : decode cX12_pay 66 = .ok (.iastore, 1) := by decide +kernel
theorem dX12_pay_67 : decode cX12_pay 67 = .ok (.aload_n 0, 1) := by decide +kernel
theorem dX12_pay_68 : decode cX12_pay 68 = .ok (.getfield 70, 3) := by decide +kernel
theorem dX12_pay_71 : decode cX12_pay 71 = .ok (.iload_n 1, 1) := by decide +kernel
theorem dX12_pay_72 : decode cX12_pay 72 = .ok (.dup2, 1) := by decide +kernel
theorem dX12_pay_73 : decode cX12_pay 73 = .ok (.iaload, 1) := by decide +kernel
theorem dX12_pay_74 : decode cX12_pay 74 = .ok (.iload_n 2, 1) := by decide +kernel
theorem dX12_pay_75 : decode cX12_pay 75 = .ok (.iadd, 1) := by decide +kernel
theorem dX12_pay_76 : decode cX12_pay 76 = .ok (.iastore, 1) := by decide +kernel
theorem dX12_pay_77 : decode cX12_pay 77 = .ok (.aload_n 0, 1) := by decide +kernel
theorem dX12_pay_78 : decode cX12_pay 78 = .ok (.getfield 70, 3) := by decide +kernel
theorem dX12_pay_81 : decode cX12_pay 81 = .ok (.iload_n 1, 1) := by decide +kernel
theorem dX12_pay_82 : decode cX12_pay 82 = .ok (.iaload, 1) := by decide +kernel
theorem dX12_pay_83 : decode cX12_pay 83 = .ok (.ireturn, 1) := by decide +kernel
theorem dX12_paidBy_0 : decode cX12_paidBy 0 = .ok (.lconst 0, 1) := by decide +kernel
theorem dX12_paidBy_1 : decode cX12_paidBy 1 = .ok (.lstore_n 3, 1) := by decide +kernel
theorem dX12_paidBy_2 : decode cX12_paidBy 2 = .ok (.iconst 0, 1) := by decide +kernel
theorem dX12_paidBy_3 : decode cX12_paidBy 3 = .ok (.istore 5, 2) := by decide +kernel
theorem dX12_paidBy_5 : decode cX12_paidBy 5 = .ok (.iload 5, 2) := by decide +kernel
theorem dX12_paidBy_7 : decode cX12_paidBy 7 = .ok (.iload_n 2, 1) := by decide +kernel
theorem dX12_paidBy_8 : decode cX12_paidBy 8 = .ok (.if_icmp .gt 26, 3) := by decide +kernel
theorem dX12_paidBy_11 : decode cX12_paidBy 11 = .ok (.lload_n 3, 1) := by decide +kernel
theorem dX12_paidBy_12 : decode cX12_paidBy 12 = .ok (.aload_n 0, 1) := by decide +kernel
theorem dX12_paidBy_13 : decode cX12_paidBy 13 = .ok (.getfield 74, 3) := by decide +kernel
theorem dX12_paidBy_16 : decode cX12_paidBy 16 = .ok (.sipush 4000, 3) := by decide +kernel
theorem dX12_paidBy_19 : decode cX12_paidBy 19 = .ok (.iload_n 1, 1) := by decide +kernel
theorem dX12_paidBy_20 : decode cX12_paidBy 20 = .ok (.imul, 1) := by decide +kernel
theorem dX12_paidBy_21 : decode cX12_paidBy 21 = .ok (.iload 5, 2) := by decide +kernel
theorem dX12_paidBy_23 : decode cX12_paidBy 23 = .ok (.iadd, 1) := by decide +kernel
theorem dX12_paidBy_24 : decode cX12_paidBy 24 = .ok (.iaload, 1) := by decide +kernel
theorem dX12_paidBy_25 : decode cX12_paidBy 25 = .ok (.i2l, 1) := by decide +kernel
theorem dX12_paidBy_26 : decode cX12_paidBy 26 = .ok (.ladd, 1) := by decide +kernel
theorem dX12_paidBy_27 : decode cX12_paidBy 27 = .ok (.lstore_n 3, 1) := by decide +kernel
theorem dX12_paidBy_28 : decode cX12_paidBy 28 = .ok (.iinc 5 1, 3) := by decide +kernel
theorem dX12_paidBy_31 : decode cX12_paidBy 31 = .ok (.goto (-26), 3) := by decide +kernel
theorem dX12_paidBy_34 : decode cX12_paidBy 34 = .ok (.lload_n 3, 1) := by decide +kernel
theorem dX12_paidBy_35 : decode cX12_paidBy 35 = .ok (.lreturn, 1) := by decide +kernel
theorem dX12_due_0 : decode cX12_due 0 = .ok (.aload_n 0, 1) := by decide +kernel
theorem dX12_due_1 : decode cX12_due 1 = .ok (.iload_n 1, 1) := by decide +kernel
theorem dX12_due_2 : decode cX12_due 2 = .ok (.invokevirtual 329, 3) := by decide +kernel
theorem dX12_due_5 : decode cX12_due 5 = .ok (.ifCond .eq 10, 3) := by decide +kernel
theorem dX12_due_8 : decode cX12_due 8 = .ok (.iload_n 2, 1) := by decide +kernel
theorem dX12_due_9 : decode cX12_due 9 = .ok (.invokestatic 302, 3) := by decide +kernel
theorem dX12_due_12 : decode cX12_due 12 = .ok (.ifCond .ne 5, 3) := by decide +kernel
theorem dX12_due_15 : decode cX12_due 15 = .ok (.iconst (-1), 1) := by decide +kernel
theorem dX12_due_16 : decode cX12_due 16 = .ok (.ireturn, 1) := by decide +kernel
theorem dX12_due_17 : decode cX12_due 17 = .ok (.aload_n 0, 1) := by decide +kernel
theorem dX12_due_18 : decode cX12_due 18 = .ok (.getfield 58, 3) := by decide +kernel
theorem dX12_due_21 : decode cX12_due 21 = .ok (.iload_n 1, 1) := by decide +kernel
theorem dX12_due_22 : decode cX12_due 22 = .ok (.iaload, 1) := by decide +kernel
theorem dX12_due_23 : decode cX12_due 23 = .ok (.bipush 6, 2) := by decide +kernel
theorem dX12_due_25 : decode cX12_due 25 = .ok (.idiv, 1) := by decide +kernel
theorem dX12_due_26 : decode cX12_due 26 = .ok (.istore_n 3, 1) := by decide +kernel
theorem dX12_due_27 : decode cX12_due 27 = .ok (.aload_n 0, 1) := by decide +kernel
theorem dX12_due_28 : decode cX12_due 28 = .ok (.iload_n 1, 1) := by decide +kernel
theorem dX12_due_29 : decode cX12_due 29 = .ok (.iload_n 2, 1) := by decide +kernel
theorem dX12_due_30 : decode cX12_due 30 = .ok (.invokevirtual 439, 3) := by decide +kernel
theorem dX12_due_33 : decode cX12_due 33 = .ok (.lneg, 1) := by decide +kernel
theorem dX12_due_34 : decode cX12_due 34 = .ok (.lstore 4, 2) := by decide +kernel
theorem dX12_due_36 : decode cX12_due 36 = .ok (.iconst 0, 1) := by decide +kernel
theorem dX12_due_37 : decode cX12_due 37 = .ok (.istore 6, 2) := by decide +kernel
theorem dX12_due_39 : decode cX12_due 39 = .ok (.iload 6, 2) := by decide +kernel
theorem dX12_due_41 : decode cX12_due 41 = .ok (.aload_n 0, 1) := by decide +kernel
theorem dX12_due_42 : decode cX12_due 42 = .ok (.getfield 175, 3) := by decide +kernel
theorem dX12_due_45 : decode cX12_due 45 = .ok (.iload_n 3, 1) := by decide +kernel
theorem dX12_due_46 : decode cX12_due 46 = .ok (.iaload, 1) := by decide +kernel
theorem dX12_due_47 : decode cX12_due 47 = .ok (.if_icmp .ge 54, 3) := by decide +kernel
theorem dX12_due_50 : decode cX12_due 50 = .ok (.lload 4, 2) := by decide +kernel
theorem dX12_due_52 : decode cX12_due 52 = .ok (.aload_n 0, 1) := by decide +kernel
theorem dX12_due_53 : decode cX12_due 53 = .ok (.getfield 61, 3) := by decide +kernel
theorem dX12_due_56 : decode cX12_due 56 = .ok (.iload_n 1, 1) := by decide +kernel
theorem dX12_due_57 : decode cX12_due 57 = .ok (.iaload, 1) := by decide +kernel
theorem dX12_due_58 : decode cX12_due 58 = .ok (.aload_n 0, 1) := by decide +kernel
theorem dX12_due_59 : decode cX12_due 59 = .ok (.getfield 178, 3) := by decide +kernel
theorem dX12_due_62 : decode cX12_due 62 = .ok (.bipush 6, 2) := by decide +kernel
theorem dX12_due_64 : decode cX12_due 64 = .ok (.iload_n 3, 1) := by decide +kernel
theorem dX12_due_65 : decode cX12_due 65 = .ok (.imul, 1) := by decide +kernel
theorem dX12_due_66 : decode cX12_due 66 = .ok (.iload 6, 2) := by decide +kernel
theorem dX12_due_68 : decode cX12_due 68 = .ok (.iadd, 1) := by decide +kernel
theorem dX12_due_69 : decode cX12_due 69 = .ok (.iaload, 1) := by decide +kernel
theorem dX12_due_70 : decode cX12_due 70 = .ok (.iadd, 1) := by decide +kernel
theorem dX12_due_71 : decode cX12_due 71 = .ok (.iload_n 2, 1) := by decide +kernel
theorem dX12_due_72 : decode cX12_due 72 = .ok (.if_icmp .gt 19, 3) := by decide +kernel
theorem dX12_due_75 : decode cX12_due 75 = .ok (.aload_n 0, 1) := by decide +kernel
theorem dX12_due_76 : decode cX12_due 76 = .ok (.getfield 181, 3) := by decide +kernel
theorem dX12_due_79 : decode cX12_due 79 = .ok (.bipush 6, 2) := by decide +kernel
theorem dX12_due_81 : decode cX12_due 81 = .ok (.iload_n 3, 1) := by decide +kernel
theorem dX12_due_82 : decode cX12_due 82 = .ok (.imul, 1) := by decide +kernel
theorem dX12_due_83 : decode cX12_due 83 = .ok (.iload 6, 2) := by decide +kernel
theorem dX12_due_85 : decode cX12_due 85 = .ok (.iadd, 1) := by decide +kernel
theorem dX12_due_86 : decode cX12_due 86 = .ok (.iaload, 1) := by decide +kernel
theorem dX12_due_87 : decode cX12_due 87 = .ok (.i2l, 1) := by decide +kernel
theorem dX12_due_88 : decode cX12_due 88 = .ok (.goto 4, 3) := by decide +kernel
theorem dX12_due_91 : decode cX12_due 91 = .ok (.lconst 0, 1) := by decide +kernel
theorem dX12_due_92 : decode cX12_due 92 = .ok (.ladd, 1) := by decide +kernel
theorem dX12_due_93 : decode cX12_due 93 = .ok (.lstore 4, 2) := by decide +kernel
theorem dX12_due_95 : decode cX12_due 95 = .ok (.iinc 6 1, 3) := by decide +kernel
theorem dX12_due_98 : decode cX12_due 98 = .ok (.goto (-59), 3) := by decide +kernel
theorem dX12_due_101 : decode cX12_due 101 = .ok (.lload 4, 2) := by decide +kernel
theorem dX12_due_103 : decode cX12_due 103 = .ok (.lconst 0, 1) := by decide +kernel
theorem dX12_due_104 : decode cX12_due 104 = .ok (.lcmp, 1) := by decide +kernel
theorem dX12_due_105 : decode cX12_due 105 = .ok (.ifCond .ge 7, 3) := by decide +kernel
theorem dX12_due_108 : decode cX12_due 108 = .ok (.iconst 0, 1) := by decide +kernel
theorem dX12_due_109 : decode cX12_due 109 = .ok (.goto 6, 3) := by decide +kernel
theorem dX12_due_112 : decode cX12_due 112 = .ok (.lload 4, 2) := by decide +kernel
theorem dX12_due_114 : decode cX12_due 114 = .ok (.l2i, 1) := by decide +kernel
theorem dX12_due_115 : decode cX12_due 115 = .ok (.ireturn, 1) := by decide +kernel
theorem dX12_leave_0 : decode cX12_leave 0 = .ok (.aload_n 0, 1) := by decide +kernel
theorem dX12_leave_1 : decode cX12_leave 1 = .ok (.iload_n 1, 1) := by decide +kernel
theorem dX12_leave_2 : decode cX12_leave 2 = .ok (.invokevirtual 329, 3) := by decide +kernel
theorem dX12_leave_5 : decode cX12_leave 5 = .ok (.ifCond .eq 20, 3) := by decide +kernel
theorem dX12_leave_8 : decode cX12_leave 8 = .ok (.iload_n 2, 1) := by decide +kernel
theorem dX12_leave_9 : decode cX12_leave 9 = .ok (.invokestatic 302, 3) := by decide +kernel
theorem dX12_leave_12 : decode cX12_leave 12 = .ok (.ifCond .eq 13, 3) := by decide +kernel
theorem dX12_leave_15 : decode cX12_leave 15 = .ok (.iload_n 2, 1) := by decide +kernel
theorem dX12_leave_16 : decode cX12_leave 16 = .ok (.aload_n 0, 1) := by decide +kernel
theorem dX12_leave_17 : decode cX12_leave 17 = .ok (.getfield 61, 3) := by decide +kernel
theorem dX12_leave_20 : decode cX12_leave 20 = .ok (.iload_n 1, 1) := by decide +kernel
theorem dX12_leave_21 : decode cX12_leave 21 = .ok (.iaload, 1) := by decide +kernel
theorem dX12_leave_22 : decode cX12_leave 22 = .ok (.if_icmp .ge 5, 3) := by decide +kernel
theorem dX12_leave_25 : decode cX12_leave 25 = .ok (.iconst (-1), 1) := by decide +kernel
theorem dX12_leave_26 : decode cX12_leave 26 = .ok (.ireturn, 1) := by decide +kernel
theorem dX12_leave_27 : decode cX12_leave 27 = .ok (.aload_n 0, 1) := by decide +kernel
theorem dX12_leave_28 : decode cX12_leave 28 = .ok (.getfield 67, 3) := by decide +kernel
theorem dX12_leave_31 : decode cX12_leave 31 = .ok (.iload_n 1, 1) := by decide +kernel
theorem dX12_leave_32 : decode cX12_leave 32 = .ok (.iaload, 1) := by decide +kernel
theorem dX12_leave_33 : decode cX12_leave 33 = .ok (.bipush (-4), 2) := by decide +kernel
theorem dX12_leave_35 : decode cX12_leave 35 = .ok (.if_icmp .eq 6, 3) := by decide +kernel
theorem dX12_leave_38 : decode cX12_leave 38 = .ok (.bipush (-2), 2) := by decide +kernel
theorem dX12_leave_40 : decode cX12_leave 40 = .ok (.ireturn, 1) := by decide +kernel
theorem dX12_leave_41 : decode cX12_leave 41 = .ok (.aload_n 0, 1) := by decide +kernel
theorem dX12_leave_42 : decode cX12_leave 42 = .ok (.getfield 67, 3) := by decide +kernel
theorem dX12_leave_45 : decode cX12_leave 45 = .ok (.iload_n 1, 1) := by decide +kernel
theorem dX12_leave_46 : decode cX12_leave 46 = .ok (.iload_n 2, 1) := by decide +kernel
theorem dX12_leave_47 : decode cX12_leave 47 = .ok (.iastore, 1) := by decide +kernel
theorem dX12_leave_48 : decode cX12_leave 48 = .ok (.aload_n 0, 1) := by decide +kernel
theorem dX12_leave_49 : decode cX12_leave 49 = .ok (.getfield 58, 3) := by decide +kernel
theorem dX12_leave_52 : decode cX12_leave 52 = .ok (.iload_n 1, 1) := by decide +kernel
theorem dX12_leave_53 : decode cX12_leave 53 = .ok (.iaload, 1) := by decide +kernel
theorem dX12_leave_54 : decode cX12_leave 54 = .ok (.bipush 6, 2) := by decide +kernel
theorem dX12_leave_56 : decode cX12_leave 56 = .ok (.idiv, 1) := by decide +kernel
theorem dX12_leave_57 : decode cX12_leave 57 = .ok (.istore_n 3, 1) := by decide +kernel
theorem dX12_leave_58 : decode cX12_leave 58 = .ok (.iconst 0, 1) := by decide +kernel
theorem dX12_leave_59 : decode cX12_leave 59 = .ok (.istore 4, 2) := by decide +kernel
theorem dX12_leave_61 : decode cX12_leave 61 = .ok (.iload 4, 2) := by decide +kernel
theorem dX12_leave_63 : decode cX12_leave 63 = .ok (.aload_n 0, 1) := by decide +kernel
theorem dX12_leave_64 : decode cX12_leave 64 = .ok (.getfield 184, 3) := by decide +kernel
theorem dX12_leave_67 : decode cX12_leave 67 = .ok (.iload_n 3, 1) := by decide +kernel
theorem dX12_leave_68 : decode cX12_leave 68 = .ok (.iaload, 1) := by decide +kernel
theorem dX12_leave_69 : decode cX12_leave 69 = .ok (.if_icmp .ge 58, 3) := by decide +kernel
theorem dX12_leave_72 : decode cX12_leave 72 = .ok (.iload_n 2, 1) := by decide +kernel
theorem dX12_leave_73 : decode cX12_leave 73 = .ok (.aload_n 0, 1) := by decide +kernel
theorem dX12_leave_74 : decode cX12_leave 74 = .ok (.getfield 61, 3) := by decide +kernel
theorem dX12_leave_77 : decode cX12_leave 77 = .ok (.iload_n 1, 1) := by decide +kernel
theorem dX12_leave_78 : decode cX12_leave 78 = .ok (.iaload, 1) := by decide +kernel
theorem dX12_leave_79 : decode cX12_leave 79 = .ok (.isub, 1) := by decide +kernel
theorem dX12_leave_80 : decode cX12_leave 80 = .ok (.aload_n 0, 1) := by decide +kernel
theorem dX12_leave_81 : decode cX12_leave 81 = .ok (.getfield 187, 3) := by decide +kernel
theorem dX12_leave_84 : decode cX12_leave 84 = .ok (.bipush 6, 2) := by decide +kernel
theorem dX12_leave_86 : decode cX12_leave 86 = .ok (.iload_n 3, 1) := by decide +kernel
theorem dX12_leave_87 : decode cX12_leave 87 = .ok (.imul, 1) := by decide +kernel
theorem dX12_leave_88 : decode cX12_leave 88 = .ok (.iload 4, 2) := by decide +kernel
theorem dX12_leave_90 : decode cX12_leave 90 = .ok (.iadd, 1) := by decide +kernel
theorem dX12_leave_91 : decode cX12_leave 91 = .ok (.iaload, 1) := by decide +kernel
theorem dX12_leave_92 : decode cX12_leave 92 = .ok (.if_icmp .gt 29, 3) := by decide +kernel
theorem dX12_leave_95 : decode cX12_leave 95 = .ok (.aload_n 0, 1) := by decide +kernel
theorem dX12_leave_96 : decode cX12_leave 96 = .ok (.iload_n 1, 1) := by decide +kernel
theorem dX12_leave_97 : decode cX12_leave 97 = .ok (.iload_n 2, 1) := by decide +kernel
theorem dX12_leave_98 : decode cX12_leave 98 = .ok (.invokevirtual 439, 3) := by decide +kernel
theorem dX12_leave_101 : decode cX12_leave 101 = .ok (.aload_n 0, 1) := by decide +kernel
theorem dX12_leave_102 : decode cX12_leave 102 = .ok (.getfield 190, 3) := by decide +kernel
theorem dX12_leave_105 : decode cX12_leave 105 = .ok (.bipush 6, 2) := by decide +kernel
theorem dX12_leave_107 : decode cX12_leave 107 = .ok (.iload_n 3, 1) := by decide +kernel
theorem dX12_leave_108 : decode cX12_leave 108 = .ok (.imul, 1) := by decide +kernel
theorem dX12_leave_109 : decode cX12_leave 109 = .ok (.iload 4, 2) := by decide +kernel
theorem dX12_leave_111 : decode cX12_leave 111 = .ok (.iadd, 1) := by decide +kernel
theorem dX12_leave_112 : decode cX12_leave 112 = .ok (.iaload, 1) := by decide +kernel
theorem dX12_leave_113 : decode cX12_leave 113 = .ok (.i2l, 1) := by decide +kernel
theorem dX12_leave_114 : decode cX12_leave 114 = .ok (.lmul, 1) := by decide +kernel
theorem dX12_leave_115 : decode cX12_leave 115 = .ok (.ldc2_w 377, 3) := by decide +kernel
theorem dX12_leave_118 : decode cX12_leave 118 = .ok (.ldiv, 1) := by decide +kernel
theorem dX12_leave_119 : decode cX12_leave 119 = .ok (.l2i, 1) := by decide +kernel
theorem dX12_leave_120 : decode cX12_leave 120 = .ok (.ireturn, 1) := by decide +kernel
theorem dX12_leave_121 : decode cX12_leave 121 = .ok (.iinc 4 1, 3) := by decide +kernel
theorem dX12_leave_124 : decode cX12_leave 124 = .ok (.goto (-63), 3) := by decide +kernel
theorem dX12_leave_127 : decode cX12_leave 127 = .ok (.iconst 0, 1) := by decide +kernel
theorem dX12_leave_128 : decode cX12_leave 128 = .ok (.ireturn, 1) := by decide +kernel
theorem dX12_move_0 : decode cX12_move 0 = .ok (.aload_n 0, 1) := by decide +kernel
theorem dX12_move_1 : decode cX12_move 1 = .ok (.iload_n 1, 1) := by decide +kernel
theorem dX12_move_2 : decode cX12_move 2 = .ok (.invokevirtual 329, 3) := by decide +kernel
theorem dX12_move_5 : decode cX12_move 5 = .ok (.ifCond .eq 17, 3) := by decide +kernel
theorem dX12_move_8 : decode cX12_move 8 = .ok (.iload_n 2, 1) := by decide +kernel
theorem dX12_move_9 : decode cX12_move 9 = .ok (.invokestatic 299, 3) := by decide +kernel
theorem dX12_move_12 : decode cX12_move 12 = .ok (.ifCond .eq 10, 3) := by decide +kernel
theorem dX12_move_15 : decode cX12_move 15 = .ok (.iload_n 3, 1) := by decide +kernel
theorem dX12_move_16 : decode cX12_move 16 = .ok (.invokestatic 302, 3) := by decide +kernel
theorem dX12_move_19 : decode cX12_move 19 = .ok (.ifCond .ne 5, 3) := by decide +kernel
theorem dX12_move_22 : decode cX12_move 22 = .ok (.iconst (-1), 1) := by decide +kernel
theorem dX12_move_23 : decode cX12_move 23 = .ok (.ireturn, 1) := by decide +kernel
theorem dX12_move_24 : decode cX12_move 24 = .ok (.aload_n 0, 1) := by decide +kernel
theorem dX12_move_25 : decode cX12_move 25 = .ok (.iload_n 2, 1) := by decide +kernel
theorem dX12_move_26 : decode cX12_move 26 = .ok (.iload_n 3, 1) := by decide +kernel
theorem dX12_move_27 : decode cX12_move 27 = .ok (.invokevirtual 322, 3) := by decide +kernel
theorem dX12_move_30 : decode cX12_move 30 = .ok (.istore 4, 2) := by decide +kernel
theorem dX12_move_32 : decode cX12_move 32 = .ok (.aload_n 0, 1) := by decide +kernel
theorem dX12_move_33 : decode cX12_move 33 = .ok (.iload_n 1, 1) := by decide +kernel
theorem dX12_move_34 : decode cX12_move 34 = .ok (.iload_n 3, 1) := by decide +kernel
theorem dX12_move_35 : decode cX12_move 35 = .ok (.invokevirtual 358, 3) := by decide +kernel
theorem dX12_move_38 : decode cX12_move 38 = .ok (.ifCond .ne 8, 3) := by decide +kernel
theorem dX12_move_41 : decode cX12_move 41 = .ok (.iload 4, 2) := by decide +kernel
theorem dX12_move_43 : decode cX12_move 43 = .ok (.ifCond .ge 6, 3) := by decide +kernel
theorem dX12_move_46 : decode cX12_move 46 = .ok (.bipush (-2), 2) := by decide +kernel
theorem dX12_move_48 : decode cX12_move 48 = .ok (.ireturn, 1) := by decide +kernel
theorem dX12_move_49 : decode cX12_move 49 = .ok (.aload_n 0, 1) := by decide +kernel
theorem dX12_move_50 : decode cX12_move 50 = .ok (.getfield 58, 3) := by decide +kernel
theorem dX12_move_53 : decode cX12_move 53 = .ok (.iload_n 1, 1) := by decide +kernel
theorem dX12_move_54 : decode cX12_move 54 = .ok (.iload 4, 2) := by decide +kernel
theorem dX12_move_56 : decode cX12_move 56 = .ok (.iastore, 1) := by decide +kernel
theorem dX12_move_57 : decode cX12_move 57 = .ok (.aload_n 0, 1) := by decide +kernel
theorem dX12_move_58 : decode cX12_move 58 = .ok (.iload_n 1, 1) := by decide +kernel
theorem dX12_move_59 : decode cX12_move 59 = .ok (.sipush 3999, 3) := by decide +kernel
theorem dX12_move_62 : decode cX12_move 62 = .ok (.invokevirtual 346, 3) := by decide +kernel
theorem dX12_move_65 : decode cX12_move 65 = .ok (.aload_n 0, 1) := by decide +kernel
theorem dX12_move_66 : decode cX12_move 66 = .ok (.iload 4, 2) := by decide +kernel
theorem dX12_move_68 : decode cX12_move 68 = .ok (.iconst 1, 1) := by decide +kernel
theorem dX12_move_69 : decode cX12_move 69 = .ok (.invokevirtual 350, 3) := by decide +kernel
theorem dX12_move_72 : decode cX12_move 72 = .ok (.invokestatic 314, 3) := by decide +kernel
theorem dX12_move_75 : decode cX12_move 75 = .ok (.ireturn, 1) := by decide +kernel
theorem dX12_isSheet_0 : decode cX12_isSheet 0 = .ok (.iload_n 0, 1) := by decide +kernel
theorem dX12_isSheet_1 : decode cX12_isSheet 1 = .ok (.i2l, 1) := by decide +kernel
theorem dX12_isSheet_2 : decode cX12_isSheet 2 = .ok (.lconst 0, 1) := by decide +kernel
theorem dX12_isSheet_3 : decode cX12_isSheet 3 = .ok (.ldc2_w 297, 3) := by decide +kernel
theorem dX12_isSheet_6 : decode cX12_isSheet 6 = .ok (.invokestatic 213, 3) := by decide +kernel
theorem dX12_isSheet_9 : decode cX12_isSheet 9 = .ok (.ifCond .eq 19, 3) := by decide +kernel
theorem dX12_isSheet_12 : decode cX12_isSheet 12 = .ok (.iload_n 1, 1) := by decide +kernel
theorem dX12_isSheet_13 : decode cX12_isSheet 13 = .ok (.i2l, 1) := by decide +kernel
theorem dX12_isSheet_14 : decode cX12_isSheet 14 = .ok (.lconst 0, 1) := by decide +kernel
theorem dX12_isSheet_15 : decode cX12_isSheet 15 = .ok (.ldc2_w 312, 3) := by decide +kernel
theorem dX12_isSheet_18 : decode cX12_isSheet 18 = .ok (.invokestatic 213, 3) := by decide +kernel
theorem dX12_isSheet_21 : decode cX12_isSheet 21 = .ok (.ifCond .eq 7, 3) := by decide +kernel
theorem dX12_isSheet_24 : decode cX12_isSheet 24 = .ok (.iconst 1, 1) := by decide +kernel
theorem dX12_isSheet_25 : decode cX12_isSheet 25 = .ok (.goto 4, 3) := by decide +kernel
theorem dX12_isSheet_28 : decode cX12_isSheet 28 = .ok (.iconst 0, 1) := by decide +kernel
theorem dX12_isSheet_29 : decode cX12_isSheet 29 = .ok (.ireturn, 1) := by decide +kernel
theorem dX12_sheet_0 : decode cX12_sheet 0 = .ok (.iload_n 1, 1) := by decide +kernel
theorem dX12_sheet_1 : decode cX12_sheet 1 = .ok (.iload_n 2, 1) := by decide +kernel
theorem dX12_sheet_2 : decode cX12_sheet 2 = .ok (.invokestatic 443, 3) := by decide +kernel
theorem dX12_sheet_5 : decode cX12_sheet 5 = .ok (.ifCond .eq 9, 3) := by decide +kernel
theorem dX12_sheet_8 : decode cX12_sheet 8 = .ok (.iload_n 3, 1) := by decide +kernel
theorem dX12_sheet_9 : decode cX12_sheet 9 = .ok (.bipush 30, 2) := by decide +kernel
theorem dX12_sheet_11 : decode cX12_sheet 11 = .ok (.if_icmp .le 5, 3) := by decide +kernel
theorem dX12_sheet_14 : decode cX12_sheet 14 = .ok (.iconst (-1), 1) := by decide +kernel
theorem dX12_sheet_15 : decode cX12_sheet 15 = .ok (.ireturn, 1) := by decide +kernel
theorem dX12_sheet_16 : decode cX12_sheet 16 = .ok (.iload_n 3, 1) := by decide +kernel
theorem dX12_sheet_17 : decode cX12_sheet 17 = .ok (.ifCond .ge 6, 3) := by decide +kernel
theorem dX12_sheet_20 : decode cX12_sheet 20 = .ok (.bipush (-14), 2) := by decide +kernel
theorem dX12_sheet_22 : decode cX12_sheet 22 = .ok (.ireturn, 1) := by decide +kernel
theorem dX12_sheet_23 : decode cX12_sheet 23 = .ok (.aload_n 0, 1) := by decide +kernel
theorem dX12_sheet_24 : decode cX12_sheet 24 = .ok (.getfield 202, 3) := by decide +kernel
theorem dX12_sheet_27 : decode cX12_sheet 27 = .ok (.iload_n 1, 1) := by decide +kernel
theorem dX12_sheet_28 : decode cX12_sheet 28 = .ok (.iload_n 2, 1) := by decide +kernel
theorem dX12_sheet_29 : decode cX12_sheet 29 = .ok (.iastore, 1) := by decide +kernel
theorem dX12_sheet_30 : decode cX12_sheet 30 = .ok (.aload_n 0, 1) := by decide +kernel
theorem dX12_sheet_31 : decode cX12_sheet 31 = .ok (.getfield 205, 3) := by decide +kernel
theorem dX12_sheet_34 : decode cX12_sheet 34 = .ok (.iload_n 1, 1) := by decide +kernel
theorem dX12_sheet_35 : decode cX12_sheet 35 = .ok (.iload_n 3, 1) := by decide +kernel
theorem dX12_sheet_36 : decode cX12_sheet 36 = .ok (.iastore, 1) := by decide +kernel
theorem dX12_sheet_37 : decode cX12_sheet 37 = .ok (.iconst 0, 1) := by decide +kernel
theorem dX12_sheet_38 : decode cX12_sheet 38 = .ok (.istore 4, 2) := by decide +kernel
theorem dX12_sheet_40 : decode cX12_sheet 40 = .ok (.iload 4, 2) := by decide +kernel
theorem dX12_sheet_42 : decode cX12_sheet 42 = .ok (.bipush 30, 2) := by decide +kernel
theorem dX12_sheet_44 : decode cX12_sheet 44 = .ok (.if_icmp .ge 22, 3) := by decide +kernel
theorem dX12_sheet_47 : decode cX12_sheet 47 = .ok (.aload_n 0, 1) := by decide +kernel
theorem dX12_sheet_48 : decode cX12_sheet 48 = .ok (.getfield 208, 3) := by decide +kernel
theorem dX12_sheet_51 : decode cX12_sheet 51 = .ok (.bipush 30, 2) := by decide +kernel
theorem dX12_sheet_53 : decode cX12_sheet 53 = .ok (.iload_n 1, 1) := by decide +kernel
theorem dX12_sheet_54 : decode cX12_sheet 54 = .ok (.imul, 1) := by decide +kernel
theorem dX12_sheet_55 : decode cX12_sheet 55 = .ok (.iload 4, 2) := by decide +kernel
theorem dX12_sheet_57 : decode cX12_sheet 57 = .ok (.iadd, 1) := by decide +kernel
theorem dX12_sheet_58 : decode cX12_sheet 58 = .ok (.iconst 0, 1) := by decide +kernel
theorem dX12_sheet_59 : decode cX12_sheet 59 = .ok (.iastore, 1) := by decide +kernel
theorem dX12_sheet_60 : decode cX12_sheet 60 = .ok (.iinc 4 1, 3) := by decide +kernel
theorem dX12_sheet_63 : decode cX12_sheet 63 = .ok (.goto (-23), 3) := by decide +kernel
theorem dX12_sheet_66 : decode cX12_sheet 66 = .ok (.iload_n 3, 1) := by decide +kernel
theorem dX12_sheet_67 : decode cX12_sheet 67 = .ok (.ireturn, 1) := by decide +kernel
theorem dX12_drop_0 : decode cX12_drop 0 = .ok (.iload_n 1, 1) := by decide +kernel
theorem dX12_drop_1 : decode cX12_drop 1 = .ok (.i2l, 1) := by decide +kernel
theorem dX12_drop_2 : decode cX12_drop 2 = .ok (.lconst 0, 1) := by decide +kernel
theorem dX12_drop_3 : decode cX12_drop 3 = .ok (.ldc2_w 297, 3) := by decide +kernel
theorem dX12_drop_6 : decode cX12_drop 6 = .ok (.invokestatic 213, 3) := by decide +kernel
theorem dX12_drop_9 : decode cX12_drop 9 = .ok (.ifCond .ne 5, 3) := by decide +kernel
theorem dX12_drop_12 : decode cX12_drop 12 = .ok (.iconst (-1), 1) := by decide +kernel
theorem dX12_drop_13 : decode cX12_drop 13 = .ok (.ireturn, 1) := by decide +kernel
theorem dX12_drop_14 : decode cX12_drop 14 = .ok (.aload_n 0, 1) := by decide +kernel
theorem dX12_drop_15 : decode cX12_drop 15 = .ok (.getfield 202, 3) := by decide +kernel
theorem dX12_drop_18 : decode cX12_drop 18 = .ok (.iload_n 1, 1) := by decide +kernel
theorem dX12_drop_19 : decode cX12_drop 19 = .ok (.iaload, 1) := by decide +kernel
theorem dX12_drop_20 : decode cX12_drop 20 = .ok (.ifCond .ge 6, 3) := by decide +kernel
theorem dX12_drop_23 : decode cX12_drop 23 = .ok (.bipush (-11), 2) := by decide +kernel
theorem dX12_drop_25 : decode cX12_drop 25 = .ok (.ireturn, 1) := by decide +kernel
theorem dX12_drop_26 : decode cX12_drop 26 = .ok (.aload_n 0, 1) := by decide +kernel
theorem dX12_drop_27 : decode cX12_drop 27 = .ok (.getfield 202, 3) := by decide +kernel
theorem dX12_drop_30 : decode cX12_drop 30 = .ok (.iload_n 1, 1) := by decide +kernel
theorem dX12_drop_31 : decode cX12_drop 31 = .ok (.iconst (-1), 1) := by decide +kernel
theorem dX12_drop_32 : decode cX12_drop 32 = .ok (.iastore, 1) := by decide +kernel
theorem dX12_drop_33 : decode cX12_drop 33 = .ok (.aload_n 0, 1) := by decide +kernel
theorem dX12_drop_34 : decode cX12_drop 34 = .ok (.getfield 205, 3) := by decide +kernel
theorem dX12_drop_37 : decode cX12_drop 37 = .ok (.iload_n 1, 1) := by decide +kernel
theorem dX12_drop_38 : decode cX12_drop 38 = .ok (.iaload, 1) := by decide +kernel
theorem dX12_drop_39 : decode cX12_drop 39 = .ok (.ireturn, 1) := by decide +kernel
theorem dX12_against_0 : decode cX12_against 0 = .ok (.aload_n 0, 1) := by decide +kernel
theorem dX12_against_1 : decode cX12_against 1 = .ok (.getfield 202, 3) := by decide +kernel
theorem dX12_against_4 : decode cX12_against 4 = .ok (.iload_n 1, 1) := by decide +kernel
theorem dX12_against_5 : decode cX12_against 5 = .ok (.iaload, 1) := by decide +kernel
theorem dX12_against_6 : decode cX12_against 6 = .ok (.iload_n 2, 1) := by decide +kernel
theorem dX12_against_7 : decode cX12_against 7 = .ok (.if_icmp .eq 20, 3) := by decide +kernel
theorem dX12_against_10 : decode cX12_against 10 = .ok (.aload_n 0, 1) := by decide +kernel
theorem dX12_against_11 : decode cX12_against 11 = .ok (.getfield 202, 3) := by decide +kernel
theorem dX12_against_14 : decode cX12_against 14 = .ok (.iload_n 1, 1) := by decide +kernel
theorem dX12_against_15 : decode cX12_against 15 = .ok (.iaload, 1) := by decide +kernel
theorem dX12_against_16 : decode cX12_against 16 = .ok (.ifCond .ge 8, 3) := by decide +kernel
theorem dX12_against_19 : decode cX12_against 19 = .ok (.bipush (-11), 2) := by decide +kernel
theorem dX12_against_21 : decode cX12_against 21 = .ok (.goto 5, 3) := by decide +kernel
theorem dX12_against_24 : decode cX12_against 24 = .ok (.bipush (-12), 2) := by decide +kernel
theorem dX12_against_26 : decode cX12_against 26 = .ok (.ireturn, 1) := by decide +kernel
theorem dX12_against_27 : decode cX12_against 27 = .ok (.iload_n 3, 1) := by decide +kernel
theorem dX12_against_28 : decode cX12_against 28 = .ok (.i2l, 1) := by decide +kernel
theorem dX12_against_29 : decode cX12_against 29 = .ok (.lconst 0, 1) := by decide +kernel
theorem dX12_against_30 : decode cX12_against 30 = .ok (.aload_n 0, 1) := by decide +kernel
theorem dX12_against_31 : decode cX12_against 31 = .ok (.getfield 205, 3) := by decide +kernel
theorem dX12_against_34 : decode cX12_against 34 = .ok (.iload_n 1, 1) := by decide +kernel
theorem dX12_against_35 : decode cX12_against 35 = .ok (.iaload, 1) := by decide +kernel
theorem dX12_against_36 : decode cX12_against 36 = .ok (.iload 4, 2) := by decide +kernel
theorem dX12_against_38 : decode cX12_against 38 = .ok (.isub, 1) := by decide +kernel
theorem dX12_against_39 : decode cX12_against 39 = .ok (.i2l, 1) := by decide +kernel
theorem dX12_against_40 : decode cX12_against 40 = .ok (.invokestatic 213, 3) := by decide +kernel
theorem dX12_against_43 : decode cX12_against 43 = .ok (.ifCond .eq 7, 3) := by decide +kernel
theorem dX12_against_46 : decode cX12_against 46 = .ok (.iconst 0, 1) := by decide +kernel
theorem dX12_against_47 : decode cX12_against 47 = .ok (.goto 5, 3) := by decide +kernel
theorem dX12_against_50 : decode cX12_against 50 = .ok (.bipush (-13), 2) := by decide +kernel
theorem dX12_against_52 : decode cX12_against 52 = .ok (.ireturn, 1) := by decide +kernel
theorem dX12_item_0 : decode cX12_item 0 = .ok (.iload_n 1, 1) := by decide +kernel
theorem dX12_item_1 : decode cX12_item 1 = .ok (.iload_n 2, 1) := by decide +kernel
theorem dX12_item_2 : decode cX12_item 2 = .ok (.invokestatic 443, 3) := by decide +kernel
theorem dX12_item_5 : decode cX12_item 5 = .ok (.ifCond .ne 5, 3) := by decide +kernel
theorem dX12_item_8 : decode cX12_item 8 = .ok (.iconst (-1), 1) := by decide +kernel
theorem dX12_item_9 : decode cX12_item 9 = .ok (.ireturn, 1) := by decide +kernel
theorem dX12_item_10 : decode cX12_item 10 = .ok (.aload_n 0, 1) := by decide +kernel
theorem dX12_item_11 : decode cX12_item 11 = .ok (.iload_n 1, 1) := by decide +kernel
theorem dX12_item_12 : decode cX12_item 12 = .ok (.iload_n 2, 1) := by decide +kernel
theorem dX12_item_13 : decode cX12_item 13 = .ok (.iload_n 3, 1) := by decide +kernel
theorem dX12_item_14 : decode cX12_item 14 = .ok (.iconst 1, 1) := by decide +kernel
theorem dX12_item_15 : decode cX12_item 15 = .ok (.invokevirtual 446, 3) := by decide +kernel
theorem dX12_item_18 : decode cX12_item 18 = .ok (.istore 5, 2) := by decide +kernel
theorem dX12_item_20 : decode cX12_item 20 = .ok (.iload 5, 2) := by decide +kernel
theorem dX12_item_22 : decode cX12_item 22 = .ok (.ifCond .ge 6, 3) := by decide +kernel
theorem dX12_item_25 : decode cX12_item 25 = .ok (.iload 5, 2) := by decide +kernel
theorem dX12_item_27 : decode cX12_item 27 = .ok (.ireturn, 1) := by decide +kernel
theorem dX12_item_28 : decode cX12_item 28 = .ok (.aload_n 0, 1) := by decide +kernel
theorem dX12_item_29 : decode cX12_item 29 = .ok (.getfield 208, 3) := by decide +kernel
theorem dX12_item_32 : decode cX12_item 32 = .ok (.bipush 30, 2) := by decide +kernel
theorem dX12_item_34 : decode cX12_item 34 = .ok (.iload_n 1, 1) := by decide +kernel
theorem dX12_item_35 : decode cX12_item 35 = .ok (.imul, 1) := by decide +kernel
theorem dX12_item_36 : decode cX12_item 36 = .ok (.iload_n 3, 1) := by decide +kernel
theorem dX12_item_37 : decode cX12_item 37 = .ok (.iadd, 1) := by decide +kernel
theorem dX12_item_38 : decode cX12_item 38 = .ok (.iload_n 2, 1) := by decide +kernel
theorem dX12_item_39 : decode cX12_item 39 = .ok (.ifCond .ne 14, 3) := by decide +kernel
theorem dX12_item_42 : decode cX12_item 42 = .ok (.iload 4, 2) := by decide +kernel
theorem dX12_item_44 : decode cX12_item 44 = .ok (.bipush 24, 2) := by decide +kernel
theorem dX12_item_46 : decode cX12_item 46 = .ok (.ishl, 1) := by decide +kernel
theorem dX12_item_47 : decode cX12_item 47 = .ok (.bipush 24, 2) := by decide +kernel
theorem dX12_item_49 : decode cX12_item 49 = .ok (.ishr, 1) := by decide +kernel
theorem dX12_item_50 : decode cX12_item 50 = .ok (.goto 21, 3) := by decide +kernel
theorem dX12_item_53 : decode cX12_item 53 = .ok (.iload_n 2, 1) := by decide +kernel
theorem dX12_item_54 : decode cX12_item 54 = .ok (.iconst 1, 1) := by decide +kernel
theorem dX12_item_55 : decode cX12_item 55 = .ok (.if_icmp .ne 14, 3) := by decide +kernel
theorem dX12_item_58 : decode cX12_item 58 = .ok (.iload 4, 2) := by decide +kernel
theorem dX12_item_60 : decode cX12_item 60 = .ok (.bipush 16, 2) := by decide +kernel
theorem dX12_item_62 : decode cX12_item 62 = .ok (.ishl, 1) := by decide +kernel
theorem dX12_item_63 : decode cX12_item 63 = .ok (.bipush 16, 2) := by decide +kernel
theorem dX12_item_65 : decode cX12_item 65 = .ok (.ishr, 1) := by decide +kernel
theorem dX12_item_66 : decode cX12_item 66 = .ok (.goto 5, 3) := by decide +kernel
theorem dX12_item_69 : decode cX12_item 69 = .ok (.iload 4, 2) := by decide +kernel
theorem dX12_item_71 : decode cX12_item 71 = .ok (.iastore, 1) := by decide +kernel
theorem dX12_item_72 : decode cX12_item 72 = .ok (.iconst 1, 1) := by decide +kernel
theorem dX12_item_73 : decode cX12_item 73 = .ok (.ireturn, 1) := by decide +kernel
theorem dX12_choices_0 : decode cX12_choices 0 = .ok (.aload_n 0, 1) := by decide +kernel
theorem dX12_choices_1 : decode cX12_choices 1 = .ok (.iload_n 1, 1) := by decide +kernel
theorem dX12_choices_2 : decode cX12_choices 2 = .ok (.invokevirtual 365, 3) := by decide +kernel
theorem dX12_choices_5 : decode cX12_choices 5 = .ok (.ifCond .eq 24, 3) := by decide +kernel
theorem dX12_choices_8 : decode cX12_choices 8 = .ok (.iload_n 2, 1) := by decide +kernel
theorem dX12_choices_9 : decode cX12_choices 9 = .ok (.iload_n 3, 1) := by decide +kernel
theorem dX12_choices_10 : decode cX12_choices 10 = .ok (.invokestatic 443, 3) := by decide +kernel
theorem dX12_choices_13 : decode cX12_choices 13 = .ok (.ifCond .eq 16, 3) := by decide +kernel
theorem dX12_choices_16 : decode cX12_choices 16 = .ok (.iload 5, 2) := by decide +kernel
theorem dX12_choices_18 : decode cX12_choices 18 = .ok (.i2l, 1) := by decide +kernel
theorem dX12_choices_19 : decode cX12_choices 19 = .ok (.lconst 0, 1) := by decide +kernel
theorem dX12_choices_20 : decode cX12_choices 20 = .ok (.ldc2_w 450, 3) := by decide +kernel
theorem dX12_choices_23 : decode cX12_choices 23 = .ok (.invokestatic 213, 3) := by decide +kernel
theorem dX12_choices_26 : decode cX12_choices 26 = .ok (.ifCond .ne 5, 3) := by decide +kernel
theorem dX12_choices_29 : decode cX12_choices 29 = .ok (.iconst (-1), 1) := by decide +kernel
theorem dX12_choices_30 : decode cX12_choices 30 = .ok (.ireturn, 1) := by decide +kernel
theorem dX12_choices_31 : decode cX12_choices 31 = .ok (.aload_n 0, 1) := by decide +kernel
theorem dX12_choices_32 : decode cX12_choices 32 = .ok (.iload_n 1, 1) := by decide +kernel
theorem dX12_choices_33 : decode cX12_choices 33 = .ok (.invokevirtual 371, 3) := by decide +kernel
theorem dX12_choices_36 : decode cX12_choices 36 = .ok (.ifCond .ne 6, 3) := by decide +kernel
theorem dX12_choices_39 : decode cX12_choices 39 = .ok (.bipush (-12), 2) := by decide +kernel
theorem dX12_choices_41 : decode cX12_choices 41 = .ok (.ireturn, 1) := by decide +kernel
theorem dX12_choices_42 : decode cX12_choices 42 = .ok (.aload_n 0, 1) := by decide +kernel
theorem dX12_choices_43 : decode cX12_choices 43 = .ok (.iload_n 2, 1) := by decide +kernel
theorem dX12_choices_44 : decode cX12_choices 44 = .ok (.iload_n 3, 1) := by decide +kernel
theorem dX12_choices_45 : decode cX12_choices 45 = .ok (.iload 4, 2) := by decide +kernel
theorem dX12_choices_47 : decode cX12_choices 47 = .ok (.iload 5, 2) := by decide +kernel
theorem dX12_choices_49 : decode cX12_choices 49 = .ok (.invokevirtual 446, 3) := by decide +kernel
theorem dX12_choices_52 : decode cX12_choices 52 = .ok (.istore 6, 2) := by decide +kernel
theorem dX12_choices_54 : decode cX12_choices 54 = .ok (.iload 6, 2) := by decide +kernel
theorem dX12_choices_56 : decode cX12_choices 56 = .ok (.ifCond .ge 6, 3) := by decide +kernel
theorem dX12_choices_59 : decode cX12_choices 59 = .ok (.iload 6, 2) := by decide +kernel
theorem dX12_choices_61 : decode cX12_choices 61 = .ok (.ireturn, 1) := by decide +kernel
theorem dX12_choices_62 : decode cX12_choices 62 = .ok (.bipush 30, 2) := by decide +kernel
theorem dX12_choices_64 : decode cX12_choices 64 = .ok (.iload_n 2, 1) := by decide +kernel
theorem dX12_choices_65 : decode cX12_choices 65 = .ok (.imul, 1) := by decide +kernel
theorem dX12_choices_66 : decode cX12_choices 66 = .ok (.iload 4, 2) := by decide +kernel
theorem dX12_choices_68 : decode cX12_choices 68 = .ok (.iadd, 1) := by decide +kernel
theorem dX12_choices_69 : decode cX12_choices 69 = .ok (.istore 7, 2) := by decide +kernel
theorem dX12_choices_71 : decode cX12_choices 71 = .ok (.iconst 0, 1) := by decide +kernel
theorem dX12_choices_72 : decode cX12_choices 72 = .ok (.istore 8, 2) := by decide +kernel
theorem dX12_choices_74 : decode cX12_choices 74 = .ok (.iload 8, 2) := by decide +kernel
theorem dX12_choices_76 : decode cX12_choices 76 = .ok (.iload 5, 2) := by decide +kernel
theorem dX12_choices_78 : decode cX12_choices 78 = .ok (.if_icmp .ge 33, 3) := by decide +kernel
theorem dX12_choices_81 : decode cX12_choices 81 = .ok (.aload_n 0, 1) := by decide +kernel
theorem dX12_choices_82 : decode cX12_choices 82 = .ok (.getfield 208, 3) := by decide +kernel
theorem dX12_choices_85 : decode cX12_choices 85 = .ok (.iload 7, 2) := by decide +kernel
theorem dX12_choices_87 : decode cX12_choices 87 = .ok (.iload 8, 2) := by decide +kernel
theorem dX12_choices_89 : decode cX12_choices 89 = .ok (.iadd, 1) := by decide +kernel
theorem dX12_choices_90 : decode cX12_choices 90 = .ok (.iaload, 1) := by decide +kernel
theorem dX12_choices_91 : decode cX12_choices 91 = .ok (.i2l, 1) := by decide +kernel
theorem dX12_choices_92 : decode cX12_choices 92 = .ok (.lconst 0, 1) := by decide +kernel
theorem dX12_choices_93 : decode cX12_choices 93 = .ok (.ldc2_w 428, 3) := by decide +kernel
theorem dX12_choices_96 : decode cX12_choices 96 = .ok (.invokestatic 213, 3) := by decide +kernel
theorem dX12_choices_99 : decode cX12_choices 99 = .ok (.ifCond .ne 6, 3) := by decide +kernel
theorem dX12_choices_102 : decode cX12_choices 102 = .ok (.bipush (-2), 2) := by decide +kernel
theorem dX12_choices_104 : decode cX12_choices 104 = .ok (.ireturn, 1) := by decide +kernel
theorem dX12_choices_105 : decode cX12_choices 105 = .ok (.iinc 8 1, 3) := by decide +kernel
theorem dX12_choices_108 : decode cX12_choices 108 = .ok (.goto (-34), 3) := by decide +kernel
theorem dX12_choices_111 : decode cX12_choices 111 = .ok (.iconst 0, 1) := by decide +kernel
theorem dX12_choices_112 : decode cX12_choices 112 = .ok (.istore 8, 2) := by decide +kernel
theorem dX12_choices_114 : decode cX12_choices 114 = .ok (.iload 8, 2) := by decide +kernel
theorem dX12_choices_116 : decode cX12_choices 116 = .ok (.iload 5, 2) := by decide +kernel
theorem dX12_choices_118 : decode cX12_choices 118 = .ok (.if_icmp .ge 31, 3) := by decide +kernel
theorem dX12_choices_121 : decode cX12_choices 121 = .ok (.aload_n 0, 1) := by decide +kernel
theorem dX12_choices_122 : decode cX12_choices 122 = .ok (.getfield 141, 3) := by decide +kernel
theorem dX12_choices_125 : decode cX12_choices 125 = .ok (.bipush 20, 2) := by decide +kernel
theorem dX12_choices_127 : decode cX12_choices 127 = .ok (.iload_n 1, 1) := by decide +kernel
theorem dX12_choices_128 : decode cX12_choices 128 = .ok (.imul, 1) := by decide +kernel
theorem dX12_choices_129 : decode cX12_choices 129 = .ok (.iload 8, 2) := by decide +kernel
theorem dX12_choices_131 : decode cX12_choices 131 = .ok (.iadd, 1) := by decide +kernel
theorem dX12_choices_132 : decode cX12_choices 132 = .ok (.aload_n 0, 1) := by decide +kernel
theorem dX12_choices_133 : decode cX12_choices 133 = .ok (.getfield 208, 3) := by decide +kernel
theorem dX12_choices_136 : decode cX12_choices 136 = .ok (.iload 7, 2) := by decide +kernel
theorem dX12_choices_138 : decode cX12_choices 138 = .ok (.iload 8, 2) := by decide +kernel
theorem dX12_choices_140 : decode cX12_choices 140 = .ok (.iadd, 1) := by decide +kernel
theorem dX12_choices_141 : decode cX12_choices 141 = .ok (.iaload, 1) := by decide +kernel
theorem dX12_choices_142 : decode cX12_choices 142 = .ok (.iastore, 1) := by decide +kernel
theorem dX12_choices_143 : decode cX12_choices 143 = .ok (.iinc 8 1, 3) := by decide +kernel
theorem dX12_choices_146 : decode cX12_choices 146 = .ok (.goto (-32), 3) := by decide +kernel
theorem dX12_choices_149 : decode cX12_choices 149 = .ok (.iload 5, 2) := by decide +kernel
theorem dX12_choices_151 : decode cX12_choices 151 = .ok (.ireturn, 1) := by decide +kernel
