theorem dX6_cheapest_44 : decode cX6_cheapest 44 = .ok (.iload_n 3, 1) := by decide +kernel
theorem dX6_cheapest_45 : decode cX6_cheapest 45 = .ok (.istore_n 3, 1) := by decide +kernel
theorem dX6_cheapest_46 : decode cX6_cheapest 46 = .ok (.iinc 4 1, 3) := by decide +kernel
theorem dX6_cheapest_49 : decode cX6_cheapest 49 = .ok (.goto (-43), 3) := by decide +kernel
theorem dX6_cheapest_52 : decode cX6_cheapest 52 = .ok (.iload_n 3, 1) := by decide +kernel
theorem dX6_cheapest_53 : decode cX6_cheapest 53 = .ok (.ireturn, 1) := by decide +kernel
theorem dX6_sums_0 : decode cX6_sums 0 = .ok (.iconst 0, 1) := by decide +kernel
theorem dX6_sums_1 : decode cX6_sums 1 = .ok (.istore_n 1, 1) := by decide +kernel
theorem dX6_sums_2 : decode cX6_sums 2 = .ok (.iload_n 1, 1) := by decide +kernel
theorem dX6_sums_3 : decode cX6_sums 3 = .ok (.bipush 9, 2) := by decide +kernel
theorem dX6_sums_5 : decode cX6_sums 5 = .ok (.if_icmp .ge 24, 3) := by decide +kernel
theorem dX6_sums_8 : decode cX6_sums 8 = .ok (.aload_n 0, 1) := by decide +kernel
theorem dX6_sums_9 : decode cX6_sums 9 = .ok (.getfield 22, 3) := by decide +kernel
theorem dX6_sums_12 : decode cX6_sums 12 = .ok (.bipush 9, 2) := by decide +kernel
theorem dX6_sums_14 : decode cX6_sums 14 = .ok (.aload_n 0, 1) := by decide +kernel
theorem dX6_sums_15 : decode cX6_sums 15 = .ok (.getfield 71, 3) := by decide +kernel
theorem dX6_sums_18 : decode cX6_sums 18 = .ok (.imul, 1) := by decide +kernel
theorem dX6_sums_19 : decode cX6_sums 19 = .ok (.iload_n 1, 1) := by decide +kernel
theorem dX6_sums_20 : decode cX6_sums 20 = .ok (.iadd, 1) := by decide +kernel
theorem dX6_sums_21 : decode cX6_sums 21 = .ok (.iconst 0, 1) := by decide +kernel
theorem dX6_sums_22 : decode cX6_sums 22 = .ok (.iastore, 1) := by decide +kernel
theorem dX6_sums_23 : decode cX6_sums 23 = .ok (.iinc 1 1, 3) := by decide +kernel
theorem dX6_sums_26 : decode cX6_sums 26 = .ok (.goto (-24), 3) := by decide +kernel
theorem dX6_sums_29 : decode cX6_sums 29 = .ok (.aload_n 0, 1) := by decide +kernel
theorem dX6_sums_30 : decode cX6_sums 30 = .ok (.getfield 71, 3) := by decide +kernel
theorem dX6_sums_33 : decode cX6_sums 33 = .ok (.iconst 1, 1) := by decide +kernel
theorem dX6_sums_34 : decode cX6_sums 34 = .ok (.isub, 1) := by decide +kernel
theorem dX6_sums_35 : decode cX6_sums 35 = .ok (.istore_n 1, 1) := by decide +kernel
theorem dX6_sums_36 : decode cX6_sums 36 = .ok (.iload_n 1, 1) := by decide +kernel
theorem dX6_sums_37 : decode cX6_sums 37 = .ok (.ifCond .lt 55, 3) := by decide +kernel
theorem dX6_sums_40 : decode cX6_sums 40 = .ok (.iconst 0, 1) := by decide +kernel
theorem dX6_sums_41 : decode cX6_sums 41 = .ok (.istore_n 2, 1) := by decide +kernel
theorem dX6_sums_42 : decode cX6_sums 42 = .ok (.iload_n 2, 1) := by decide +kernel
theorem dX6_sums_43 : decode cX6_sums 43 = .ok (.bipush 9, 2) := by decide +kernel
theorem dX6_sums_45 : decode cX6_sums 45 = .ok (.if_icmp .ge 41, 3) := by decide +kernel
theorem dX6_sums_48 : decode cX6_sums 48 = .ok (.aload_n 0, 1) := by decide +kernel
theorem dX6_sums_49 : decode cX6_sums 49 = .ok (.getfield 22, 3) := by decide +kernel
theorem dX6_sums_52 : decode cX6_sums 52 = .ok (.bipush 9, 2) := by decide +kernel
theorem dX6_sums_54 : decode cX6_sums 54 = .ok (.iload_n 1, 1) := by decide +kernel
theorem dX6_sums_55 : decode cX6_sums 55 = .ok (.imul, 1) := by decide +kernel
theorem dX6_sums_56 : decode cX6_sums 56 = .ok (.iload_n 2, 1) := by decide +kernel
theorem dX6_sums_57 : decode cX6_sums 57 = .ok (.iadd, 1) := by decide +kernel
theorem dX6_sums_58 : decode cX6_sums 58 = .ok (.aload_n 0, 1) := by decide +kernel
theorem dX6_sums_59 : decode cX6_sums 59 = .ok (.iload_n 1, 1) := by decide +kernel
theorem dX6_sums_60 : decode cX6_sums 60 = .ok (.iload_n 2, 1) := by decide +kernel
theorem dX6_sums_61 : decode cX6_sums 61 = .ok (.invokevirtual 83, 3) := by decide +kernel
theorem dX6_sums_64 : decode cX6_sums 64 = .ok (.aload_n 0, 1) := by decide +kernel
theorem dX6_sums_65 : decode cX6_sums 65 = .ok (.getfield 22, 3) := by decide +kernel
theorem dX6_sums_68 : decode cX6_sums 68 = .ok (.bipush 9, 2) := by decide +kernel
theorem dX6_sums_70 : decode cX6_sums 70 = .ok (.iload_n 1, 1) := by decide +kernel
theorem dX6_sums_71 : decode cX6_sums 71 = .ok (.iconst 1, 1) := by decide +kernel
theorem dX6_sums_72 : decode cX6_sums 72 = .ok (.iadd, 1) := by decide +kernel
theorem dX6_sums_73 : decode cX6_sums 73 = .ok (.imul, 1) := by decide +kernel
theorem dX6_sums_74 : decode cX6_sums 74 = .ok (.iload_n 2, 1) := by decide +kernel
theorem dX6_sums_75 : decode cX6_sums 75 = .ok (.invokestatic 87, 3) := by decide +kernel
theorem dX6_sums_78 : decode cX6_sums 78 = .ok (.iadd, 1) := by decide +kernel
theorem dX6_sums_79 : decode cX6_sums 79 = .ok (.iastore, 1) := by decide +kernel
theorem dX6_sums_80 : decode cX6_sums 80 = .ok (.iinc 2 1, 3) := by decide +kernel
theorem dX6_sums_83 : decode cX6_sums 83 = .ok (.goto (-41), 3) := by decide +kernel
theorem dX6_sums_86 : decode cX6_sums 86 = .ok (.iinc 1 (-1), 3) := by decide +kernel
theorem dX6_sums_89 : decode cX6_sums 89 = .ok (.goto (-53), 3) := by decide +kernel
theorem dX6_sums_92 : decode cX6_sums 92 = .ok (.iconst 0, 1) := by decide +kernel
theorem dX6_sums_93 : decode cX6_sums 93 = .ok (.istore_n 1, 1) := by decide +kernel
theorem dX6_sums_94 : decode cX6_sums 94 = .ok (.iload_n 1, 1) := by decide +kernel
theorem dX6_sums_95 : decode cX6_sums 95 = .ok (.aload_n 0, 1) := by decide +kernel
theorem dX6_sums_96 : decode cX6_sums 96 = .ok (.getfield 71, 3) := by decide +kernel
theorem dX6_sums_99 : decode cX6_sums 99 = .ok (.if_icmp .ge 63, 3) := by decide +kernel
theorem dX6_sums_102 : decode cX6_sums 102 = .ok (.iconst 0, 1) := by decide +kernel
theorem dX6_sums_103 : decode cX6_sums 103 = .ok (.istore_n 2, 1) := by decide +kernel
theorem dX6_sums_104 : decode cX6_sums 104 = .ok (.iload_n 2, 1) := by decide +kernel
theorem dX6_sums_105 : decode cX6_sums 105 = .ok (.bipush 9, 2) := by decide +kernel
theorem dX6_sums_107 : decode cX6_sums 107 = .ok (.if_icmp .ge 49, 3) := by decide +kernel
theorem dX6_sums_110 : decode cX6_sums 110 = .ok (.aload_n 0, 1) := by decide +kernel
theorem dX6_sums_111 : decode cX6_sums 111 = .ok (.getfield 25, 3) := by decide +kernel
theorem dX6_sums_114 : decode cX6_sums 114 = .ok (.bipush 9, 2) := by decide +kernel
theorem dX6_sums_116 : decode cX6_sums 116 = .ok (.iload_n 1, 1) := by decide +kernel
theorem dX6_sums_117 : decode cX6_sums 117 = .ok (.imul, 1) := by decide +kernel
theorem dX6_sums_118 : decode cX6_sums 118 = .ok (.iload_n 2, 1) := by decide +kernel
theorem dX6_sums_119 : decode cX6_sums 119 = .ok (.iadd, 1) := by decide +kernel
theorem dX6_sums_120 : decode cX6_sums 120 = .ok (.aload_n 0, 1) := by decide +kernel
theorem dX6_sums_121 : decode cX6_sums 121 = .ok (.iload_n 1, 1) := by decide +kernel
theorem dX6_sums_122 : decode cX6_sums 122 = .ok (.iload_n 2, 1) := by decide +kernel
theorem dX6_sums_123 : decode cX6_sums 123 = .ok (.invokevirtual 83, 3) := by decide +kernel
theorem dX6_sums_126 : decode cX6_sums 126 = .ok (.iload_n 1, 1) := by decide +kernel
theorem dX6_sums_127 : decode cX6_sums 127 = .ok (.ifCond .ne 7, 3) := by decide +kernel
theorem dX6_sums_130 : decode cX6_sums 130 = .ok (.iconst 0, 1) := by decide +kernel
theorem dX6_sums_131 : decode cX6_sums 131 = .ok (.goto 17, 3) := by decide +kernel
theorem dX6_sums_134 : decode cX6_sums 134 = .ok (.aload_n 0, 1) := by decide +kernel
theorem dX6_sums_135 : decode cX6_sums 135 = .ok (.getfield 25, 3) := by decide +kernel
theorem dX6_sums_138 : decode cX6_sums 138 = .ok (.bipush 9, 2) := by decide +kernel
theorem dX6_sums_140 : decode cX6_sums 140 = .ok (.iload_n 1, 1) := by decide +kernel
theorem dX6_sums_141 : decode cX6_sums 141 = .ok (.iconst 1, 1) := by decide +kernel
theorem dX6_sums_142 : decode cX6_sums 142 = .ok (.isub, 1) := by decide +kernel
theorem dX6_sums_143 : decode cX6_sums 143 = .ok (.imul, 1) := by decide +kernel
theorem dX6_sums_144 : decode cX6_sums 144 = .ok (.iload_n 2, 1) := by decide +kernel
theorem dX6_sums_145 : decode cX6_sums 145 = .ok (.invokestatic 87, 3) := by decide +kernel
theorem dX6_sums_148 : decode cX6_sums 148 = .ok (.iadd, 1) := by decide +kernel
theorem dX6_sums_149 : decode cX6_sums 149 = .ok (.iastore, 1) := by decide +kernel
theorem dX6_sums_150 : decode cX6_sums 150 = .ok (.iinc 2 1, 3) := by decide +kernel
theorem dX6_sums_153 : decode cX6_sums 153 = .ok (.goto (-49), 3) := by decide +kernel
theorem dX6_sums_156 : decode cX6_sums 156 = .ok (.iinc 1 1, 3) := by decide +kernel
theorem dX6_sums_159 : decode cX6_sums 159 = .ok (.goto (-65), 3) := by decide +kernel
theorem dX6_sums_162 : decode cX6_sums 162 = .ok (.ldc 82, 2) := by decide +kernel
theorem dX6_sums_164 : decode cX6_sums 164 = .ok (.istore_n 1, 1) := by decide +kernel
theorem dX6_sums_165 : decode cX6_sums 165 = .ok (.iconst 0, 1) := by decide +kernel
theorem dX6_sums_166 : decode cX6_sums 166 = .ok (.istore_n 2, 1) := by decide +kernel
theorem dX6_sums_167 : decode cX6_sums 167 = .ok (.iload_n 2, 1) := by decide +kernel
theorem dX6_sums_168 : decode cX6_sums 168 = .ok (.bipush 9, 2) := by decide +kernel
theorem dX6_sums_170 : decode cX6_sums 170 = .ok (.if_icmp .ge 30, 3) := by decide +kernel
theorem dX6_sums_173 : decode cX6_sums 173 = .ok (.aload_n 0, 1) := by decide +kernel
theorem dX6_sums_174 : decode cX6_sums 174 = .ok (.getfield 22, 3) := by decide +kernel
theorem dX6_sums_177 : decode cX6_sums 177 = .ok (.iload_n 2, 1) := by decide +kernel
theorem dX6_sums_178 : decode cX6_sums 178 = .ok (.iaload, 1) := by decide +kernel
theorem dX6_sums_179 : decode cX6_sums 179 = .ok (.iload_n 1, 1) := by decide +kernel
theorem dX6_sums_180 : decode cX6_sums 180 = .ok (.if_icmp .ge 12, 3) := by decide +kernel
theorem dX6_sums_183 : decode cX6_sums 183 = .ok (.aload_n 0, 1) := by decide +kernel
theorem dX6_sums_184 : decode cX6_sums 184 = .ok (.getfield 22, 3) := by decide +kernel
theorem dX6_sums_187 : decode cX6_sums 187 = .ok (.iload_n 2, 1) := by decide +kernel
theorem dX6_sums_188 : decode cX6_sums 188 = .ok (.iaload, 1) := by decide +kernel
theorem dX6_sums_189 : decode cX6_sums 189 = .ok (.goto 4, 3) := by decide +kernel
theorem dX6_sums_192 : decode cX6_sums 192 = .ok (.iload_n 1, 1) := by decide +kernel
theorem dX6_sums_193 : decode cX6_sums 193 = .ok (.istore_n 1, 1) := by decide +kernel
theorem dX6_sums_194 : decode cX6_sums 194 = .ok (.iinc 2 1, 3) := by decide +kernel
theorem dX6_sums_197 : decode cX6_sums 197 = .ok (.goto (-30), 3) := by decide +kernel
theorem dX6_sums_200 : decode cX6_sums 200 = .ok (.iload_n 1, 1) := by decide +kernel
theorem dX6_sums_201 : decode cX6_sums 201 = .ok (.ireturn, 1) := by decide +kernel
theorem dX6_withSign_0 : decode cX6_withSign 0 = .ok (.ldc 82, 2) := by decide +kernel
theorem dX6_withSign_2 : decode cX6_withSign 2 = .ok (.istore_n 3, 1) := by decide +kernel
theorem dX6_withSign_3 : decode cX6_withSign 3 = .ok (.iconst 0, 1) := by decide +kernel
theorem dX6_withSign_4 : decode cX6_withSign 4 = .ok (.istore 4, 2) := by decide +kernel
theorem dX6_withSign_6 : decode cX6_withSign 6 = .ok (.iload 4, 2) := by decide +kernel
theorem dX6_withSign_8 : decode cX6_withSign 8 = .ok (.bipush 9, 2) := by decide +kernel
theorem dX6_withSign_10 : decode cX6_withSign 10 = .ok (.if_icmp .ge 71, 3) := by decide +kernel
theorem dX6_withSign_13 : decode cX6_withSign 13 = .ok (.iload_n 1, 1) := by decide +kernel
theorem dX6_withSign_14 : decode cX6_withSign 14 = .ok (.ifCond .ne 7, 3) := by decide +kernel
theorem dX6_withSign_17 : decode cX6_withSign 17 = .ok (.iconst 0, 1) := by decide +kernel
theorem dX6_withSign_18 : decode cX6_withSign 18 = .ok (.goto 13, 3) := by decide +kernel
theorem dX6_withSign_21 : decode cX6_withSign 21 = .ok (.aload_n 0, 1) := by decide +kernel
theorem dX6_withSign_22 : decode cX6_withSign 22 = .ok (.getfield 34, 3) := by decide +kernel
theorem dX6_withSign_25 : decode cX6_withSign 25 = .ok (.iconst 0, 1) := by decide +kernel
theorem dX6_withSign_26 : decode cX6_withSign 26 = .ok (.iload 4, 2) := by decide +kernel
theorem dX6_withSign_28 : decode cX6_withSign 28 = .ok (.invokestatic 87, 3) := by decide +kernel
theorem dX6_withSign_31 : decode cX6_withSign 31 = .ok (.aload_n 0, 1) := by decide +kernel
theorem dX6_withSign_32 : decode cX6_withSign 32 = .ok (.getfield 16, 3) := by decide +kernel
theorem dX6_withSign_35 : decode cX6_withSign 35 = .ok (.iload_n 1, 1) := by decide +kernel
theorem dX6_withSign_36 : decode cX6_withSign 36 = .ok (.iload_n 2, 1) := by decide +kernel
theorem dX6_withSign_37 : decode cX6_withSign 37 = .ok (.iload 4, 2) := by decide +kernel
theorem dX6_withSign_39 : decode cX6_withSign 39 = .ok (.invokestatic 74, 3) := by decide +kernel
theorem dX6_withSign_42 : decode cX6_withSign 42 = .ok (.iaload, 1) := by decide +kernel
theorem dX6_withSign_43 : decode cX6_withSign 43 = .ok (.iadd, 1) := by decide +kernel
theorem dX6_withSign_44 : decode cX6_withSign 44 = .ok (.aload_n 0, 1) := by decide +kernel
theorem dX6_withSign_45 : decode cX6_withSign 45 = .ok (.getfield 22, 3) := by decide +kernel
theorem dX6_withSign_48 : decode cX6_withSign 48 = .ok (.bipush 9, 2) := by decide +kernel
theorem dX6_withSign_50 : decode cX6_withSign 50 = .ok (.iload_n 1, 1) := by decide +kernel
theorem dX6_withSign_51 : decode cX6_withSign 51 = .ok (.iconst 1, 1) := by decide +kernel
theorem dX6_withSign_52 : decode cX6_withSign 52 = .ok (.iadd, 1) := by decide +kernel
theorem dX6_withSign_53 : decode cX6_withSign 53 = .ok (.imul, 1) := by decide +kernel
theorem dX6_withSign_54 : decode cX6_withSign 54 = .ok (.iload 4, 2) := by decide +kernel
theorem dX6_withSign_56 : decode cX6_withSign 56 = .ok (.invokestatic 87, 3) := by decide +kernel
theorem dX6_withSign_59 : decode cX6_withSign 59 = .ok (.iadd, 1) := by decide +kernel
theorem dX6_withSign_60 : decode cX6_withSign 60 = .ok (.istore 5, 2) := by decide +kernel
theorem dX6_withSign_62 : decode cX6_withSign 62 = .ok (.iload 5, 2) := by decide +kernel
theorem dX6_withSign_64 : decode cX6_withSign 64 = .ok (.iload_n 3, 1) := by decide +kernel
theorem dX6_withSign_65 : decode cX6_withSign 65 = .ok (.if_icmp .ge 8, 3) := by decide +kernel
theorem dX6_withSign_68 : decode cX6_withSign 68 = .ok (.iload 5, 2) := by decide +kernel
theorem dX6_withSign_70 : decode cX6_withSign 70 = .ok (.goto 4, 3) := by decide +kernel
theorem dX6_withSign_73 : decode cX6_withSign 73 = .ok (.iload_n 3, 1) := by decide +kernel
theorem dX6_withSign_74 : decode cX6_withSign 74 = .ok (.istore_n 3, 1) := by decide +kernel
theorem dX6_withSign_75 : decode cX6_withSign 75 = .ok (.iinc 4 1, 3) := by decide +kernel
theorem dX6_withSign_78 : decode cX6_withSign 78 = .ok (.goto (-72), 3) := by decide +kernel
theorem dX6_withSign_81 : decode cX6_withSign 81 = .ok (.iload_n 3, 1) := by decide +kernel
theorem dX6_withSign_82 : decode cX6_withSign 82 = .ok (.ireturn, 1) := by decide +kernel
theorem dX6_chooses_0 : decode cX6_chooses 0 = .ok (.iconst 0, 1) := by decide +kernel
theorem dX6_chooses_1 : decode cX6_chooses 1 = .ok (.istore_n 2, 1) := by decide +kernel
theorem dX6_chooses_2 : decode cX6_chooses 2 = .ok (.iload_n 2, 1) := by decide +kernel
theorem dX6_chooses_3 : decode cX6_chooses 3 = .ok (.aload_n 0, 1) := by decide +kernel
theorem dX6_chooses_4 : decode cX6_chooses 4 = .ok (.getfield 71, 3) := by decide +kernel
theorem dX6_chooses_7 : decode cX6_chooses 7 = .ok (.if_icmp .ge 118, 3) := by decide +kernel
theorem dX6_chooses_10 : decode cX6_chooses 10 = .ok (.iconst 0, 1) := by decide +kernel
theorem dX6_chooses_11 : decode cX6_chooses 11 = .ok (.istore_n 3, 1) := by decide +kernel
theorem dX6_chooses_12 : decode cX6_chooses 12 = .ok (.aload_n 0, 1) := by decide +kernel
theorem dX6_chooses_13 : decode cX6_chooses 13 = .ok (.iload_n 2, 1) := by decide +kernel
theorem dX6_chooses_14 : decode cX6_chooses 14 = .ok (.iload_n 3, 1) := by decide +kernel
theorem dX6_chooses_15 : decode cX6_chooses 15 = .ok (.invokevirtual 91, 3) := by decide +kernel
theorem dX6_chooses_18 : decode cX6_chooses 18 = .ok (.iload_n 1, 1) := by decide +kernel
theorem dX6_chooses_19 : decode cX6_chooses 19 = .ok (.if_icmp .eq 9, 3) := by decide +kernel
theorem dX6_chooses_22 : decode cX6_chooses 22 = .ok (.iinc 3 1, 3) := by decide +kernel
theorem dX6_chooses_25 : decode cX6_chooses 25 = .ok (.goto (-13), 3) := by decide +kernel
theorem dX6_chooses_28 : decode cX6_chooses 28 = .ok (.aload_n 0, 1) := by decide +kernel
theorem dX6_chooses_29 : decode cX6_chooses 29 = .ok (.getfield 28, 3) := by decide +kernel
theorem dX6_chooses_32 : decode cX6_chooses 32 = .ok (.iload_n 2, 1) := by decide +kernel
theorem dX6_chooses_33 : decode cX6_chooses 33 = .ok (.iload_n 3, 1) := by decide +kernel
theorem dX6_chooses_34 : decode cX6_chooses 34 = .ok (.iastore, 1) := by decide +kernel
theorem dX6_chooses_35 : decode cX6_chooses 35 = .ok (.iconst 0, 1) := by decide +kernel
theorem dX6_chooses_36 : decode cX6_chooses 36 = .ok (.istore 4, 2) := by decide +kernel
theorem dX6_chooses_38 : decode cX6_chooses 38 = .ok (.iload 4, 2) := by decide +kernel
theorem dX6_chooses_40 : decode cX6_chooses 40 = .ok (.bipush 9, 2) := by decide +kernel
theorem dX6_chooses_42 : decode cX6_chooses 42 = .ok (.if_icmp .ge 47, 3) := by decide +kernel
theorem dX6_chooses_45 : decode cX6_chooses 45 = .ok (.aload_n 0, 1) := by decide +kernel
theorem dX6_chooses_46 : decode cX6_chooses 46 = .ok (.getfield 37, 3) := by decide +kernel
theorem dX6_chooses_49 : decode cX6_chooses 49 = .ok (.iload 4, 2) := by decide +kernel
theorem dX6_chooses_51 : decode cX6_chooses 51 = .ok (.iload_n 2, 1) := by decide +kernel
theorem dX6_chooses_52 : decode cX6_chooses 52 = .ok (.ifCond .ne 7, 3) := by decide +kernel
theorem dX6_chooses_55 : decode cX6_chooses 55 = .ok (.iconst 0, 1) := by decide +kernel
theorem dX6_chooses_56 : decode cX6_chooses 56 = .ok (.goto 13, 3) := by decide +kernel
theorem dX6_chooses_59 : decode cX6_chooses 59 = .ok (.aload_n 0, 1) := by decide +kernel
theorem dX6_chooses_60 : decode cX6_chooses 60 = .ok (.getfield 34, 3) := by decide +kernel
theorem dX6_chooses_63 : decode cX6_chooses 63 = .ok (.iconst 0, 1) := by decide +kernel
theorem dX6_chooses_64 : decode cX6_chooses 64 = .ok (.iload 4, 2) := by decide +kernel
theorem dX6_chooses_66 : decode cX6_chooses 66 = .ok (.invokestatic 87, 3) := by decide +kernel
theorem dX6_chooses_69 : decode cX6_chooses 69 = .ok (.aload_n 0, 1) := by decide +kernel
theorem dX6_chooses_70 : decode cX6_chooses 70 = .ok (.getfield 16, 3) := by decide +kernel
theorem dX6_chooses_73 : decode cX6_chooses 73 = .ok (.iload_n 2, 1) := by decide +kernel
theorem dX6_chooses_74 : decode cX6_chooses 74 = .ok (.iload_n 3, 1) := by decide +kernel
theorem dX6_chooses_75 : decode cX6_chooses 75 = .ok (.iload 4, 2) := by decide +kernel
theorem dX6_chooses_77 : decode cX6_chooses 77 = .ok (.invokestatic 74, 3) := by decide +kernel
theorem dX6_chooses_80 : decode cX6_chooses 80 = .ok (.iaload, 1) := by decide +kernel
theorem dX6_chooses_81 : decode cX6_chooses 81 = .ok (.iadd, 1) := by decide +kernel
theorem dX6_chooses_82 : decode cX6_chooses 82 = .ok (.iastore, 1) := by decide +kernel
theorem dX6_chooses_83 : decode cX6_chooses 83 = .ok (.iinc 4 1, 3) := by decide +kernel
theorem dX6_chooses_86 : decode cX6_chooses 86 = .ok (.goto (-48), 3) := by decide +kernel
theorem dX6_chooses_89 : decode cX6_chooses 89 = .ok (.iconst 0, 1) := by decide +kernel
theorem dX6_chooses_90 : decode cX6_chooses 90 = .ok (.istore 4, 2) := by decide +kernel
theorem dX6_chooses_92 : decode cX6_chooses 92 = .ok (.iload 4, 2) := by decide +kernel
theorem dX6_chooses_94 : decode cX6_chooses 94 = .ok (.bipush 9, 2) := by decide +kernel
theorem dX6_chooses_96 : decode cX6_chooses 96 = .ok (.if_icmp .ge 23, 3) := by decide +kernel
theorem dX6_chooses_99 : decode cX6_chooses 99 = .ok (.aload_n 0, 1) := by decide +kernel
theorem dX6_chooses_100 : decode cX6_chooses 100 = .ok (.getfield 34, 3) := by decide +kernel
theorem dX6_chooses_103 : decode cX6_chooses 103 = .ok (.iload 4, 2) := by decide +kernel
theorem dX6_chooses_105 : decode cX6_chooses 105 = .ok (.aload_n 0, 1) := by decide +kernel
theorem dX6_chooses_106 : decode cX6_chooses 106 = .ok (.getfield 37, 3) := by decide +kernel
theorem dX6_chooses_109 : decode cX6_chooses 109 = .ok (.iload 4, 2) := by decide +kernel
theorem dX6_chooses_111 : decode cX6_chooses 111 = .ok (.iaload, 1) := by decide +kernel
theorem dX6_chooses_112 : decode cX6_chooses 112 = .ok (.iastore, 1) := by decide +kernel
theorem dX6_chooses_113 : decode cX6_chooses 113 = .ok (.iinc 4 1, 3) := by decide +kernel
theorem dX6_chooses_116 : decode cX6_chooses 116 = .ok (.goto (-24), 3) := by decide +kernel
theorem dX6_chooses_119 : decode cX6_chooses 119 = .ok (.iinc 2 1, 3) := by decide +kernel
theorem dX6_chooses_122 : decode cX6_chooses 122 = .ok (.goto (-120), 3) := by decide +kernel
theorem dX6_chooses_125 : decode cX6_chooses 125 = .ok (.iconst 0, 1) := by decide +kernel
theorem dX6_chooses_126 : decode cX6_chooses 126 = .ok (.istore_n 2, 1) := by decide +kernel
theorem dX6_chooses_127 : decode cX6_chooses 127 = .ok (.iload_n 2, 1) := by decide +kernel
theorem dX6_chooses_128 : decode cX6_chooses 128 = .ok (.bipush 9, 2) := by decide +kernel
theorem dX6_chooses_130 : decode cX6_chooses 130 = .ok (.if_icmp .ge 24, 3) := by decide +kernel
theorem dX6_chooses_133 : decode cX6_chooses 133 = .ok (.aload_n 0, 1) := by decide +kernel
theorem dX6_chooses_134 : decode cX6_chooses 134 = .ok (.getfield 22, 3) := by decide +kernel
theorem dX6_chooses_137 : decode cX6_chooses 137 = .ok (.bipush 9, 2) := by decide +kernel
theorem dX6_chooses_139 : decode cX6_chooses 139 = .ok (.aload_n 0, 1) := by decide +kernel
theorem dX6_chooses_140 : decode cX6_chooses 140 = .ok (.getfield 71, 3) := by decide +kernel
theorem dX6_chooses_143 : decode cX6_chooses 143 = .ok (.imul, 1) := by decide +kernel
theorem dX6_chooses_144 : decode cX6_chooses 144 = .ok (.iload_n 2, 1) := by decide +kernel
theorem dX6_chooses_145 : decode cX6_chooses 145 = .ok (.iadd, 1) := by decide +kernel
theorem dX6_chooses_146 : decode cX6_chooses 146 = .ok (.iconst 0, 1) := by decide +kernel
theorem dX6_chooses_147 : decode cX6_chooses 147 = .ok (.iastore, 1) := by decide +kernel
theorem dX6_chooses_148 : decode cX6_chooses 148 = .ok (.iinc 2 1, 3) := by decide +kernel
theorem dX6_chooses_151 : decode cX6_chooses 151 = .ok (.goto (-24), 3) := by decide +kernel
theorem dX6_chooses_154 : decode cX6_chooses 154 = .ok (.aload_n 0, 1) := by decide +kernel
theorem dX6_chooses_155 : decode cX6_chooses 155 = .ok (.getfield 71, 3) := by decide +kernel
theorem dX6_chooses_158 : decode cX6_chooses 158 = .ok (.iconst 1, 1) := by decide +kernel
theorem dX6_chooses_159 : decode cX6_chooses 159 = .ok (.isub, 1) := by decide +kernel
theorem dX6_chooses_160 : decode cX6_chooses 160 = .ok (.istore_n 2, 1) := by decide +kernel
theorem dX6_chooses_161 : decode cX6_chooses 161 = .ok (.iload_n 2, 1) := by decide +kernel
theorem dX6_chooses_162 : decode cX6_chooses 162 = .ok (.ifCond .lt 65, 3) := by decide +kernel
theorem dX6_chooses_165 : decode cX6_chooses 165 = .ok (.iconst 0, 1) := by decide +kernel
theorem dX6_chooses_166 : decode cX6_chooses 166 = .ok (.istore_n 3, 1) := by decide +kernel
theorem dX6_chooses_167 : decode cX6_chooses 167 = .ok (.iload_n 3, 1) := by decide +kernel
theorem dX6_chooses_168 : decode cX6_chooses 168 = .ok (.bipush 9, 2) := by decide +kernel
theorem dX6_chooses_170 : decode cX6_chooses 170 = .ok (.if_icmp .ge 51, 3) := by decide +kernel
theorem dX6_chooses_173 : decode cX6_chooses 173 = .ok (.aload_n 0, 1) := by decide +kernel
theorem dX6_chooses_174 : decode cX6_chooses 174 = .ok (.getfield 22, 3) := by decide +kernel
theorem dX6_chooses_177 : decode cX6_chooses 177 = .ok (.bipush 9, 2) := by decide +kernel
theorem dX6_chooses_179 : decode cX6_chooses 179 = .ok (.iload_n 2, 1) := by decide +kernel
theorem dX6_chooses_180 : decode cX6_chooses 180 = .ok (.imul, 1) := by decide +kernel
theorem dX6_chooses_181 : decode cX6_chooses 181 = .ok (.iload_n 3, 1) := by decide +kernel
theorem dX6_chooses_182 : decode cX6_chooses 182 = .ok (.iadd, 1) := by decide +kernel
theorem dX6_chooses_183 : decode cX6_chooses 183 = .ok (.aload_n 0, 1) := by decide +kernel
theorem dX6_chooses_184 : decode cX6_chooses 184 = .ok (.getfield 16, 3) := by decide +kernel
theorem dX6_chooses_187 : decode cX6_chooses 187 = .ok (.iload_n 2, 1) := by decide +kernel
theorem dX6_chooses_188 : decode cX6_chooses 188 = .ok (.aload_n 0, 1) := by decide +kernel
theorem dX6_chooses_189 : decode cX6_chooses 189 = .ok (.getfield 28, 3) := by decide +kernel
theorem dX6_chooses_192 : decode cX6_chooses 192 = .ok (.iload_n 2, 1) := by decide +kernel
theorem dX6_chooses_193 : decode cX6_chooses 193 = .ok (.iaload, 1) := by decide +kernel
theorem dX6_chooses_194 : decode cX6_chooses 194 = .ok (.iload_n 3, 1) := by decide +kernel
theorem dX6_chooses_195 : decode cX6_chooses 195 = .ok (.invokestatic 74, 3) := by decide +kernel
theorem dX6_chooses_198 : decode cX6_chooses 198 = .ok (.iaload, 1) := by decide +kernel
theorem dX6_chooses_199 : decode cX6_chooses 199 = .ok (.aload_n 0, 1) := by decide +kernel
theorem dX6_chooses_200 : decode cX6_chooses 200 = .ok (.getfield 22, 3) := by decide +kernel
theorem dX6_chooses_203 : decode cX6_chooses 203 = .ok (.bipush 9, 2) := by decide +kernel
theorem dX6_chooses_205 : decode cX6_chooses 205 = .ok (.iload_n 2, 1) := by decide +kernel
theorem dX6_chooses_206 : decode cX6_chooses 206 = .ok (.iconst 1, 1) := by decide +kernel
theorem dX6_chooses_207 : decode cX6_chooses 207 = .ok (.iadd, 1) := by decide +kernel
theorem dX6_chooses_208 : decode cX6_chooses 208 = .ok (.imul, 1) := by decide +kernel
theorem dX6_chooses_209 : decode cX6_chooses 209 = .ok (.iload_n 3, 1) := by decide +kernel
theorem dX6_chooses_210 : decode cX6_chooses 210 = .ok (.invokestatic 87, 3) := by decide +kernel
theorem dX6_chooses_213 : decode cX6_chooses 213 = .ok (.iadd, 1) := by decide +kernel
theorem dX6_chooses_214 : decode cX6_chooses 214 = .ok (.iastore, 1) := by decide +kernel
theorem dX6_chooses_215 : decode cX6_chooses 215 = .ok (.iinc 3 1, 3) := by decide +kernel
theorem dX6_chooses_218 : decode cX6_chooses 218 = .ok (.goto (-51), 3) := by decide +kernel
theorem dX6_chooses_221 : decode cX6_chooses 221 = .ok (.iinc 2 (-1), 3) := by decide +kernel
theorem dX6_chooses_224 : decode cX6_chooses 224 = .ok (.goto (-63), 3) := by decide +kernel
theorem dX6_chooses_227 : decode cX6_chooses 227 = .ok (.iload_n 1, 1) := by decide +kernel
theorem dX6_chooses_228 : decode cX6_chooses 228 = .ok (.istore_n 2, 1) := by decide +kernel
theorem dX6_chooses_229 : decode cX6_chooses 229 = .ok (.iconst 0, 1) := by decide +kernel
theorem dX6_chooses_230 : decode cX6_chooses 230 = .ok (.istore_n 3, 1) := by decide +kernel
theorem dX6_chooses_231 : decode cX6_chooses 231 = .ok (.iload_n 3, 1) := by decide +kernel
theorem dX6_chooses_232 : decode cX6_chooses 232 = .ok (.aload_n 0, 1) := by decide +kernel
theorem dX6_chooses_233 : decode cX6_chooses 233 = .ok (.getfield 71, 3) := by decide +kernel
theorem dX6_chooses_236 : decode cX6_chooses 236 = .ok (.if_icmp .ge 94, 3) := by decide +kernel
theorem dX6_chooses_239 : decode cX6_chooses 239 = .ok (.iload_n 3, 1) := by decide +kernel
theorem dX6_chooses_240 : decode cX6_chooses 240 = .ok (.ifCond .ne 7, 3) := by decide +kernel
theorem dX6_chooses_243 : decode cX6_chooses 243 = .ok (.iconst 0, 1) := by decide +kernel
theorem dX6_chooses_244 : decode cX6_chooses 244 = .ok (.goto 28, 3) := by decide +kernel
theorem dX6_chooses_247 : decode cX6_chooses 247 = .ok (.aload_n 0, 1) := by decide +kernel
theorem dX6_chooses_248 : decode cX6_chooses 248 = .ok (.getfield 31, 3) := by decide +kernel
theorem dX6_chooses_251 : decode cX6_chooses 251 = .ok (.iload_n 3, 1) := by decide +kernel
theorem dX6_chooses_252 : decode cX6_chooses 252 = .ok (.iconst 1, 1) := by decide +kernel
theorem dX6_chooses_253 : decode cX6_chooses 253 = .ok (.isub, 1) := by decide +kernel
theorem dX6_chooses_254 : decode cX6_chooses 254 = .ok (.iaload, 1) := by decide +kernel
theorem dX6_chooses_255 : decode cX6_chooses 255 = .ok (.ifCond .le 16, 3) := by decide +kernel
theorem dX6_chooses_258 : decode cX6_chooses 258 = .ok (.aload_n 0, 1) := by decide +kernel
theorem dX6_chooses_259 : decode cX6_chooses 259 = .ok (.getfield 31, 3) := by decide +kernel
theorem dX6_chooses_262 : decode cX6_chooses 262 = .ok (.iload_n 3, 1) := by decide +kernel
theorem dX6_chooses_263 : decode cX6_chooses 263 = .ok (.iconst 1, 1) := by decide +kernel
theorem dX6_chooses_264 : decode cX6_chooses 264 = .ok (.isub, 1) := by decide +kernel
theorem dX6_chooses_265 : decode cX6_chooses 265 = .ok (.iaload, 1) := by decide +kernel
theorem dX6_chooses_266 : decode cX6_chooses 266 = .ok (.iconst 1, 1) := by decide +kernel
theorem dX6_chooses_267 : decode cX6_chooses 267 = .ok (.isub, 1) := by decide +kernel
theorem dX6_chooses_268 : decode cX6_chooses 268 = .ok (.goto 4, 3) := by decide +kernel
theorem dX6_chooses_271 : decode cX6_chooses 271 = .ok (.iconst 0, 1) := by decide +kernel
theorem dX6_chooses_272 : decode cX6_chooses 272 = .ok (.istore 4, 2) := by decide +kernel
theorem dX6_chooses_274 : decode cX6_chooses 274 = .ok (.aload_n 0, 1) := by decide +kernel
theorem dX6_chooses_275 : decode cX6_chooses 275 = .ok (.getfield 22, 3) := by decide +kernel
theorem dX6_chooses_278 : decode cX6_chooses 278 = .ok (.bipush 9, 2) := by decide +kernel
theorem dX6_chooses_280 : decode cX6_chooses 280 = .ok (.iload_n 3, 1) := by decide +kernel
theorem dX6_chooses_281 : decode cX6_chooses 281 = .ok (.imul, 1) := by decide +kernel
theorem dX6_chooses_282 : decode cX6_chooses 282 = .ok (.iload 4, 2) := by decide +kernel
theorem dX6_chooses_284 : decode cX6_chooses 284 = .ok (.iadd, 1) := by decide +kernel
theorem dX6_chooses_285 : decode cX6_chooses 285 = .ok (.iaload, 1) := by decide +kernel
theorem dX6_chooses_286 : decode cX6_chooses 286 = .ok (.iload_n 2, 1) := by decide +kernel
theorem dX6_chooses_287 : decode cX6_chooses 287 = .ok (.if_icmp .eq 9, 3) := by decide +kernel
theorem dX6_chooses_290 : decode cX6_chooses 290 = .ok (.iinc 4 1, 3) := by decide +kernel
theorem dX6_chooses_293 : decode cX6_chooses 293 = .ok (.goto (-19), 3) := by decide +kernel
theorem dX6_chooses_296 : decode cX6_chooses 296 = .ok (.aload_n 0, 1) := by decide +kernel
theorem dX6_chooses_297 : decode cX6_chooses 297 = .ok (.getfield 31, 3) := by decide +kernel
theorem dX6_chooses_300 : decode cX6_chooses 300 = .ok (.iload_n 3, 1) := by decide +kernel
theorem dX6_chooses_301 : decode cX6_chooses 301 = .ok (.iload 4, 2) := by decide +kernel
theorem dX6_chooses_303 : decode cX6_chooses 303 = .ok (.iastore, 1) := by decide +kernel
theorem dX6_chooses_304 : decode cX6_chooses 304 = .ok (.iload_n 2, 1) := by decide +kernel
theorem dX6_chooses_305 : decode cX6_chooses 305 = .ok (.aload_n 0, 1) := by decide +kernel
theorem dX6_chooses_306 : decode cX6_chooses 306 = .ok (.getfield 16, 3) := by decide +kernel
theorem dX6_chooses_309 : decode cX6_chooses 309 = .ok (.iload_n 3, 1) := by decide +kernel
theorem dX6_chooses_310 : decode cX6_chooses 310 = .ok (.aload_n 0, 1) := by decide +kernel
theorem dX6_chooses_311 : decode cX6_chooses 311 = .ok (.getfield 28, 3) := by decide +kernel
theorem dX6_chooses_314 : decode cX6_chooses 314 = .ok (.iload_n 3, 1) := by decide +kernel
theorem dX6_chooses_315 : decode cX6_chooses 315 = .ok (.iaload, 1) := by decide +kernel
theorem dX6_chooses_316 : decode cX6_chooses 316 = .ok (.iload 4, 2) := by decide +kernel
theorem dX6_chooses_318 : decode cX6_chooses 318 = .ok (.invokestatic 74, 3) := by decide +kernel
theorem dX6_chooses_321 : decode cX6_chooses 321 = .ok (.iaload, 1) := by decide +kernel
theorem dX6_chooses_322 : decode cX6_chooses 322 = .ok (.isub, 1) := by decide +kernel
theorem dX6_chooses_323 : decode cX6_chooses 323 = .ok (.istore_n 2, 1) := by decide +kernel
theorem dX6_chooses_324 : decode cX6_chooses 324 = .ok (.iinc 3 1, 3) := by decide +kernel
theorem dX6_chooses_327 : decode cX6_chooses 327 = .ok (.goto (-96), 3) := by decide +kernel
theorem dX6_chooses_330 : decode cX6_chooses 330 = .ok (.return_, 1) := by decide +kernel
theorem dX6_gapOf_0 : decode cX6_gapOf 0 = .ok (.ldc 82, 2) := by decide +kernel
theorem dX6_gapOf_2 : decode cX6_gapOf 2 = .ok (.istore_n 2, 1) := by decide +kernel
theorem dX6_gapOf_3 : decode cX6_gapOf 3 = .ok (.iconst 0, 1) := by decide +kernel
theorem dX6_gapOf_4 : decode cX6_gapOf 4 = .ok (.istore_n 3, 1) := by decide +kernel
theorem dX6_gapOf_5 : decode cX6_gapOf 5 = .ok (.iload_n 3, 1) := by decide +kernel
theorem dX6_gapOf_6 : decode cX6_gapOf 6 = .ok (.aload_n 0, 1) := by decide +kernel
theorem dX6_gapOf_7 : decode cX6_gapOf 7 = .ok (.getfield 71, 3) := by decide +kernel
theorem dX6_gapOf_10 : decode cX6_gapOf 10 = .ok (.if_icmp .ge 106, 3) := by decide +kernel
theorem dX6_gapOf_13 : decode cX6_gapOf 13 = .ok (.iconst 0, 1) := by decide +kernel
theorem dX6_gapOf_14 : decode cX6_gapOf 14 = .ok (.istore 4, 2) := by decide +kernel
theorem dX6_gapOf_16 : decode cX6_gapOf 16 = .ok (.iload 4, 2) := by decide +kernel
theorem dX6_gapOf_18 : decode cX6_gapOf 18 = .ok (.bipush 9, 2) := by decide +kernel
theorem dX6_gapOf_20 : decode cX6_gapOf 20 = .ok (.if_icmp .ge 38, 3) := by decide +kernel
theorem dX6_gapOf_23 : decode cX6_gapOf 23 = .ok (.aload_n 0, 1) := by decide +kernel
theorem dX6_gapOf_24 : decode cX6_gapOf 24 = .ok (.getfield 34, 3) := by decide +kernel
theorem dX6_gapOf_27 : decode cX6_gapOf 27 = .ok (.iload 4, 2) := by decide +kernel
theorem dX6_gapOf_29 : decode cX6_gapOf 29 = .ok (.iload_n 3, 1) := by decide +kernel
theorem dX6_gapOf_30 : decode cX6_gapOf 30 = .ok (.ifCond .ne 7, 3) := by decide +kernel
theorem dX6_gapOf_33 : decode cX6_gapOf 33 = .ok (.iconst 0, 1) := by decide +kernel
theorem dX6_gapOf_34 : decode cX6_gapOf 34 = .ok (.goto 17, 3) := by decide +kernel
theorem dX6_gapOf_37 : decode cX6_gapOf 37 = .ok (.aload_n 0, 1) := by decide +kernel
theorem dX6_gapOf_38 : decode cX6_gapOf 38 = .ok (.getfield 25, 3) := by decide +kernel
theorem dX6_gapOf_41 : decode cX6_gapOf 41 = .ok (.bipush 9, 2) := by decide +kernel
theorem dX6_gapOf_43 : decode cX6_gapOf 43 = .ok (.iload_n 3, 1) := by decide +kernel
theorem dX6_gapOf_44 : decode cX6_gapOf 44 = .ok (.iconst 1, 1) := by decide +kernel
theorem dX6_gapOf_45 : decode cX6_gapOf 45 = .ok (.isub, 1) := by decide +kernel
theorem dX6_gapOf_46 : decode cX6_gapOf 46 = .ok (.imul, 1) := by decide +kernel
theorem dX6_gapOf_47 : decode cX6_gapOf 47 = .ok (.iload 4, 2) := by decide +kernel
theorem dX6_gapOf_49 : decode cX6_gapOf 49 = .ok (.iadd, 1) := by decide +kernel
theorem dX6_gapOf_50 : decode cX6_gapOf 50 = .ok (.iaload, 1) := by decide +kernel
theorem dX6_gapOf_51 : decode cX6_gapOf 51 = .ok (.iastore, 1) := by decide +kernel
theorem dX6_gapOf_52 : decode cX6_gapOf 52 = .ok (.iinc 4 1, 3) := by decide +kernel
theorem dX6_gapOf_55 : decode cX6_gapOf 55 = .ok (.goto (-39), 3) := by decide +kernel
theorem dX6_gapOf_58 : decode cX6_gapOf 58 = .ok (.iconst 0, 1) := by decide +kernel
theorem dX6_gapOf_59 : decode cX6_gapOf 59 = .ok (.istore 4, 2) := by decide +kernel
theorem dX6_gapOf_61 : decode cX6_gapOf 61 = .ok (.iload 4, 2) := by decide +kernel
theorem dX6_gapOf_63 : decode cX6_gapOf 63 = .ok (.bipush 12, 2) := by decide +kernel
theorem dX6_gapOf_65 : decode cX6_gapOf 65 = .ok (.if_icmp .ge 45, 3) := by decide +kernel
theorem dX6_gapOf_68 : decode cX6_gapOf 68 = .ok (.iload 4, 2) := by decide +kernel
theorem dX6_gapOf_70 : decode cX6_gapOf 70 = .ok (.aload_n 0, 1) := by decide +kernel
theorem dX6_gapOf_71 : decode cX6_gapOf 71 = .ok (.getfield 28, 3) := by decide +kernel
theorem dX6_gapOf_74 : decode cX6_gapOf 74 = .ok (.iload_n 3, 1) := by decide +kernel
theorem dX6_gapOf_75 : decode cX6_gapOf 75 = .ok (.iaload, 1) := by decide +kernel
theorem dX6_gapOf_76 : decode cX6_gapOf 76 = .ok (.if_icmp .ne 6, 3) := by decide +kernel
theorem dX6_gapOf_79 : decode cX6_gapOf 79 = .ok (.goto 25, 3) := by decide +kernel
theorem dX6_gapOf_82 : decode cX6_gapOf 82 = .ok (.aload_n 0, 1) := by decide +kernel
theorem dX6_gapOf_83 : decode cX6_gapOf 83 = .ok (.iload_n 3, 1) := by decide +kernel
theorem dX6_gapOf_84 : decode cX6_gapOf 84 = .ok (.iload 4, 2) := by decide +kernel
theorem dX6_gapOf_86 : decode cX6_gapOf 86 = .ok (.invokevirtual 91, 3) := by decide +kernel
theorem dX6_gapOf_89 : decode cX6_gapOf 89 = .ok (.istore 5, 2) := by decide +kernel
theorem dX6_gapOf_91 : decode cX6_gapOf 91 = .ok (.iload 5, 2) := by decide +kernel
theorem dX6_gapOf_93 : decode cX6_gapOf 93 = .ok (.iload_n 2, 1) := by decide +kernel
theorem dX6_gapOf_94 : decode cX6_gapOf 94 = .ok (.if_icmp .ge 8, 3) := by decide +kernel
theorem dX6_gapOf_97 : decode cX6_gapOf 97 = .ok (.iload 5, 2) := by decide +kernel
theorem dX6_gapOf_99 : decode cX6_gapOf 99 = .ok (.goto 4, 3) := by decide +kernel
theorem dX6_gapOf_102 : decode cX6_gapOf 102 = .ok (.iload_n 2, 1) := by decide +kernel
theorem dX6_gapOf_103 : decode cX6_gapOf 103 = .ok (.istore_n 2, 1) := by decide +kernel
theorem dX6_gapOf_104 : decode cX6_gapOf 104 = .ok (.iinc 4 1, 3) := by decide +kernel
theorem dX6_gapOf_107 : decode cX6_gapOf 107 = .ok (.goto (-46), 3) := by decide +kernel
theorem dX6_gapOf_110 : decode cX6_gapOf 110 = .ok (.iinc 3 1, 3) := by decide +kernel
theorem dX6_gapOf_113 : decode cX6_gapOf 113 = .ok (.goto (-108), 3) := by decide +kernel
theorem dX6_gapOf_116 : decode cX6_gapOf 116 = .ok (.iload_n 2, 1) := by decide +kernel
theorem dX6_gapOf_117 : decode cX6_gapOf 117 = .ok (.iload_n 1, 1) := by decide +kernel
theorem dX6_gapOf_118 : decode cX6_gapOf 118 = .ok (.isub, 1) := by decide +kernel
theorem dX6_gapOf_119 : decode cX6_gapOf 119 = .ok (.ireturn, 1) := by decide +kernel
theorem dX6_read_0 : decode cX6_read 0 = .ok (.aload_n 0, 1) := by decide +kernel
theorem dX6_read_1 : decode cX6_read 1 = .ok (.iconst 0, 1) := by decide +kernel
theorem dX6_read_2 : decode cX6_read 2 = .ok (.putfield 58, 3) := by decide +kernel
theorem dX6_read_5 : decode cX6_read 5 = .ok (.iconst 0, 1) := by decide +kernel
theorem dX6_read_6 : decode cX6_read 6 = .ok (.istore_n 1, 1) := by decide +kernel
theorem dX6_read_7 : decode cX6_read 7 = .ok (.iload_n 1, 1) := by decide +kernel
theorem dX6_read_8 : decode cX6_read 8 = .ok (.bipush 12, 2) := by decide +kernel
theorem dX6_read_10 : decode cX6_read 10 = .ok (.if_icmp .ge 20, 3) := by decide +kernel
theorem dX6_read_13 : decode cX6_read 13 = .ok (.aload_n 0, 1) := by decide +kernel
theorem dX6_read_14 : decode cX6_read 14 = .ok (.getfield 9, 3) := by decide +kernel
theorem dX6_read_17 : decode cX6_read 17 = .ok (.iload_n 1, 1) := by decide +kernel
theorem dX6_read_18 : decode cX6_read 18 = .ok (.iaload, 1) := by decide +kernel
theorem dX6_read_19 : decode cX6_read 19 = .ok (.ifCond .ne 5, 3) := by decide +kernel
theorem dX6_read_22 : decode cX6_read 22 = .ok (.iconst (-1), 1) := by decide +kernel
theorem dX6_read_23 : decode cX6_read 23 = .ok (.ireturn, 1) := by decide +kernel
theorem dX6_read_24 : decode cX6_read 24 = .ok (.iinc 1 1, 3) := by decide +kernel
theorem dX6_read_27 : decode cX6_read 27 = .ok (.goto (-20), 3) := by decide +kernel
theorem dX6_read_30 : decode cX6_read 30 = .ok (.aload_n 0, 1) := by decide +kernel
theorem dX6_read_31 : decode cX6_read 31 = .ok (.getfield 68, 3) := by decide +kernel
theorem dX6_read_34 : decode cX6_read 34 = .ok (.ifCond .eq 13, 3) := by decide +kernel
theorem dX6_read_37 : decode cX6_read 37 = .ok (.aload_n 0, 1) := by decide +kernel
theorem dX6_read_38 : decode cX6_read 38 = .ok (.getfield 68, 3) := by decide +kernel
theorem dX6_read_41 : decode cX6_read 41 = .ok (.bipush 6, 2) := by decide +kernel
theorem dX6_read_43 : decode cX6_read 43 = .ok (.irem, 1) := by decide +kernel
theorem dX6_read_44 : decode cX6_read 44 = .ok (.ifCond .le 6, 3) := by decide +kernel
theorem dX6_read_47 : decode cX6_read 47 = .ok (.bipush (-2), 2) := by decide +kernel
theorem dX6_read_49 : decode cX6_read 49 = .ok (.ireturn, 1) := by decide +kernel
theorem dX6_read_50 : decode cX6_read 50 = .ok (.aload_n 0, 1) := by decide +kernel
theorem dX6_read_51 : decode cX6_read 51 = .ok (.aload_n 0, 1) := by decide +kernel
theorem dX6_read_52 : decode cX6_read 52 = .ok (.getfield 68, 3) := by decide +kernel
theorem dX6_read_55 : decode cX6_read 55 = .ok (.bipush 6, 2) := by decide +kernel
theorem dX6_read_57 : decode cX6_read 57 = .ok (.idiv, 1) := by decide +kernel
theorem dX6_read_58 : decode cX6_read 58 = .ok (.putfield 71, 3) := by decide +kernel
theorem dX6_read_61 : decode cX6_read 61 = .ok (.aload_n 0, 1) := by decide +kernel
theorem dX6_read_62 : decode cX6_read 62 = .ok (.iconst 0, 1) := by decide +kernel
theorem dX6_read_63 : decode cX6_read 63 = .ok (.invokevirtual 94, 3) := by decide +kernel
theorem dX6_read_66 : decode cX6_read 66 = .ok (.aload_n 0, 1) := by decide +kernel
theorem dX6_read_67 : decode cX6_read 67 = .ok (.invokevirtual 98, 3) := by decide +kernel
theorem dX6_read_70 : decode cX6_read 70 = .ok (.istore_n 1, 1) := by decide +kernel
theorem dX6_read_71 : decode cX6_read 71 = .ok (.aload_n 0, 1) := by decide +kernel
theorem dX6_read_72 : decode cX6_read 72 = .ok (.iconst 1, 1) := by decide +kernel
theorem dX6_read_73 : decode cX6_read 73 = .ok (.invokevirtual 94, 3) := by decide +kernel
theorem dX6_read_76 : decode cX6_read 76 = .ok (.aload_n 0, 1) := by decide +kernel
theorem dX6_read_77 : decode cX6_read 77 = .ok (.invokevirtual 98, 3) := by decide +kernel
theorem dX6_read_80 : decode cX6_read 80 = .ok (.istore_n 2, 1) := by decide +kernel
theorem dX6_read_81 : decode cX6_read 81 = .ok (.aload_n 0, 1) := by decide +kernel
theorem dX6_read_82 : decode cX6_read 82 = .ok (.iload_n 2, 1) := by decide +kernel
theorem dX6_read_83 : decode cX6_read 83 = .ok (.iload_n 1, 1) := by decide +kernel
theorem dX6_read_84 : decode cX6_read 84 = .ok (.if_icmp .ge 7, 3) := by decide +kernel
theorem dX6_read_87 : decode cX6_read 87 = .ok (.iconst 1, 1) := by decide +kernel
theorem dX6_read_88 : decode cX6_read 88 = .ok (.goto 4, 3) := by decide +kernel
theorem dX6_read_91 : decode cX6_read 91 = .ok (.iconst 0, 1) := by decide +kernel
theorem dX6_read_92 : decode cX6_read 92 = .ok (.putfield 102, 3) := by decide +kernel
theorem dX6_read_95 : decode cX6_read 95 = .ok (.aload_n 0, 1) := by decide +kernel
theorem dX6_read_96 : decode cX6_read 96 = .ok (.aload_n 0, 1) := by decide +kernel
theorem dX6_read_97 : decode cX6_read 97 = .ok (.getfield 102, 3) := by decide +kernel
theorem dX6_read_100 : decode cX6_read 100 = .ok (.ifCond .eq 7, 3) := by decide +kernel
theorem dX6_read_103 : decode cX6_read 103 = .ok (.iload_n 2, 1) := by decide +kernel
theorem dX6_read_104 : decode cX6_read 104 = .ok (.goto 4, 3) := by decide +kernel
theorem dX6_read_107 : decode cX6_read 107 = .ok (.iload_n 1, 1) := by decide +kernel
theorem dX6_read_108 : decode cX6_read 108 = .ok (.putfield 106, 3) := by decide +kernel
theorem dX6_read_111 : decode cX6_read 111 = .ok (.aload_n 0, 1) := by decide +kernel
theorem dX6_read_112 : decode cX6_read 112 = .ok (.getfield 102, 3) := by decide +kernel
theorem dX6_read_115 : decode cX6_read 115 = .ok (.ifCond .ne 8, 3) := by decide +kernel
theorem dX6_read_118 : decode cX6_read 118 = .ok (.aload_n 0, 1) := by decide +kernel
theorem dX6_read_119 : decode cX6_read 119 = .ok (.iconst 0, 1) := by decide +kernel
theorem dX6_read_120 : decode cX6_read 120 = .ok (.invokevirtual 94, 3) := by decide +kernel
theorem dX6_read_123 : decode cX6_read 123 = .ok (.aload_n 0, 1) := by decide +kernel
theorem dX6_read_124 : decode cX6_read 124 = .ok (.invokevirtual 98, 3) := by decide +kernel
theorem dX6_read_127 : decode cX6_read 127 = .ok (.pop, 1) := by decide +kernel
theorem dX6_read_128 : decode cX6_read 128 = .ok (.aload_n 0, 1) := by decide +kernel
theorem dX6_read_129 : decode cX6_read 129 = .ok (.aload_n 0, 1) := by decide +kernel
theorem dX6_read_130 : decode cX6_read 130 = .ok (.getfield 106, 3) := by decide +kernel
theorem dX6_read_133 : decode cX6_read 133 = .ok (.invokevirtual 109, 3) := by decide +kernel
theorem dX6_read_136 : decode cX6_read 136 = .ok (.aload_n 0, 1) := by decide +kernel
theorem dX6_read_137 : decode cX6_read 137 = .ok (.invokevirtual 98, 3) := by decide +kernel
theorem dX6_read_140 : decode cX6_read 140 = .ok (.pop, 1) := by decide +kernel
theorem dX6_read_141 : decode cX6_read 141 = .ok (.aload_n 0, 1) := by decide +kernel
theorem dX6_read_142 : decode cX6_read 142 = .ok (.aload_n 0, 1) := by decide +kernel
theorem dX6_read_143 : decode cX6_read 143 = .ok (.aload_n 0, 1) := by decide +kernel
theorem dX6_read_144 : decode cX6_read 144 = .ok (.getfield 106, 3) := by decide +kernel
theorem dX6_read_147 : decode cX6_read 147 = .ok (.invokevirtual 113, 3) := by decide +kernel
theorem dX6_read_150 : decode cX6_read 150 = .ok (.putfield 117, 3) := by decide +kernel
theorem dX6_read_153 : decode cX6_read 153 = .ok (.iconst 0, 1) := by decide +kernel
theorem dX6_read_154 : decode cX6_read 154 = .ok (.istore_n 3, 1) := by decide +kernel
theorem dX6_read_155 : decode cX6_read 155 = .ok (.iload_n 3, 1) := by decide +kernel
theorem dX6_read_156 : decode cX6_read 156 = .ok (.sipush 2160, 3) := by decide +kernel
theorem dX6_read_159 : decode cX6_read 159 = .ok (.if_icmp .ge 21, 3) := by decide +kernel
theorem dX6_read_162 : decode cX6_read 162 = .ok (.aload_n 0, 1) := by decide +kernel
theorem dX6_read_163 : decode cX6_read 163 = .ok (.getfield 19, 3) := by decide +kernel
theorem dX6_read_166 : decode cX6_read 166 = .ok (.iload_n 3, 1) := by decide +kernel
theorem dX6_read_167 : decode cX6_read 167 = .ok (.aload_n 0, 1) := by decide +kernel
theorem dX6_read_168 : decode cX6_read 168 = .ok (.getfield 16, 3) := by decide +kernel
theorem dX6_read_171 : decode cX6_read 171 = .ok (.iload_n 3, 1) := by decide +kernel
theorem dX6_read_172 : decode cX6_read 172 = .ok (.iaload, 1) := by decide +kernel
theorem dX6_read_173 : decode cX6_read 173 = .ok (.iastore, 1) := by decide +kernel
theorem dX6_read_174 : decode cX6_read 174 = .ok (.iinc 3 1, 3) := by decide +kernel
theorem dX6_read_177 : decode cX6_read 177 = .ok (.goto (-22), 3) := by decide +kernel
theorem dX6_read_180 : decode cX6_read 180 = .ok (.aload_n 0, 1) := by decide +kernel
theorem dX6_read_181 : decode cX6_read 181 = .ok (.aload_n 0, 1) := by decide +kernel
theorem dX6_read_182 : decode cX6_read 182 = .ok (.getfield 71, 3) := by decide +kernel
theorem dX6_read_185 : decode cX6_read 185 = .ok (.putfield 120, 3) := by decide +kernel
theorem dX6_read_188 : decode cX6_read 188 = .ok (.aload_n 0, 1) := by decide +kernel
theorem dX6_read_189 : decode cX6_read 189 = .ok (.iconst 1, 1) := by decide +kernel
theorem dX6_read_190 : decode cX6_read 190 = .ok (.putfield 123, 3) := by decide +kernel
theorem dX6_read_193 : decode cX6_read 193 = .ok (.aload_n 0, 1) := by decide +kernel
theorem dX6_read_194 : decode cX6_read 194 = .ok (.iconst 0, 1) := by decide +kernel
theorem dX6_read_195 : decode cX6_read 195 = .ok (.putfield 68, 3) := by decide +kernel
theorem dX6_read_198 : decode cX6_read 198 = .ok (.aload_n 0, 1) := by decide +kernel
theorem dX6_read_199 : decode cX6_read 199 = .ok (.getfield 106, 3) := by decide +kernel
theorem dX6_read_202 : decode cX6_read 202 = .ok (.ireturn, 1) := by decide +kernel
theorem dX6_digits_0 : decode cX6_digits 0 = .ok (.iconst 0, 1) := by decide +kernel
theorem dX6_digits_1 : decode cX6_digits 1 = .ok (.istore_n 3, 1) := by decide +kernel
theorem dX6_digits_2 : decode cX6_digits 2 = .ok (.iload_n 1, 1) := by decide +kernel
theorem dX6_digits_3 : decode cX6_digits 3 = .ok (.istore 4, 2) := by decide +kernel
theorem dX6_digits_5 : decode cX6_digits 5 = .ok (.iload 4, 2) := by decide +kernel
theorem dX6_digits_7 : decode cX6_digits 7 = .ok (.iload_n 1, 1) := by decide +kernel
theorem dX6_digits_8 : decode cX6_digits 8 = .ok (.iload_n 2, 1) := by decide +kernel
theorem dX6_digits_9 : decode cX6_digits 9 = .ok (.iadd, 1) := by decide +kernel
theorem dX6_digits_10 : decode cX6_digits 10 = .ok (.if_icmp .ge 42, 3) := by decide +kernel
theorem dX6_digits_13 : decode cX6_digits 13 = .ok (.aload_n 0, 1) := by decide +kernel
theorem dX6_digits_14 : decode cX6_digits 14 = .ok (.getfield 28, 3) := by decide +kernel
theorem dX6_digits_17 : decode cX6_digits 17 = .ok (.iload 4, 2) := by decide +kernel
theorem dX6_digits_19 : decode cX6_digits 19 = .ok (.iaload, 1) := by decide +kernel
theorem dX6_digits_20 : decode cX6_digits 20 = .ok (.bipush 10, 2) := by decide +kernel
theorem dX6_digits_22 : decode cX6_digits 22 = .ok (.if_icmp .ge 22, 3) := by decide +kernel
theorem dX6_digits_25 : decode cX6_digits 25 = .ok (.iload_n 3, 1) := by decide +kernel
theorem dX6_digits_26 : decode cX6_digits 26 = .ok (.ifCond .lt 18, 3) := by decide +kernel
theorem dX6_digits_29 : decode cX6_digits 29 = .ok (.bipush 10, 2) := by decide +kernel
theorem dX6_digits_31 : decode cX6_digits 31 = .ok (.iload_n 3, 1) := by decide +kernel
theorem dX6_digits_32 : decode cX6_digits 32 = .ok (.imul, 1) := by decide +kernel
theorem dX6_digits_33 : decode cX6_digits 33 = .ok (.aload_n 0, 1) := by decide +kernel
theorem dX6_digits_34 : decode cX6_digits 34 = .ok (.getfield 28, 3) := by decide +kernel
theorem dX6_digits_37 : decode cX6_digits 37 = .ok (.iload 4, 2) := by decide +kernel
theorem dX6_digits_39 : decode cX6_digits 39 = .ok (.iaload, 1) := by decide +kernel
theorem dX6_digits_40 : decode cX6_digits 40 = .ok (.iadd, 1) := by decide +kernel
theorem dX6_digits_41 : decode cX6_digits 41 = .ok (.goto 4, 3) := by decide +kernel
theorem dX6_digits_44 : decode cX6_digits 44 = .ok (.iconst (-1), 1) := by decide +kernel
theorem dX6_digits_45 : decode cX6_digits 45 = .ok (.istore_n 3, 1) := by decide +kernel
theorem dX6_digits_46 : decode cX6_digits 46 = .ok (.iinc 4 1, 3) := by decide +kernel
theorem dX6_digits_49 : decode cX6_digits 49 = .ok (.goto (-44), 3) := by decide +kernel
theorem dX6_digits_52 : decode cX6_digits 52 = .ok (.iload_n 3, 1) := by decide +kernel
theorem dX6_digits_53 : decode cX6_digits 53 = .ok (.ireturn, 1) := by decide +kernel
theorem dX6_fits_0 : decode cX6_fits 0 = .ok (.aload_n 0, 1) := by decide +kernel
theorem dX6_fits_1 : decode cX6_fits 1 = .ok (.getfield 123, 3) := by decide +kernel
theorem dX6_fits_4 : decode cX6_fits 4 = .ok (.ifCond .eq 12, 3) := by decide +kernel
theorem dX6_fits_7 : decode cX6_fits 7 = .ok (.aload_n 0, 1) := by decide +kernel
theorem dX6_fits_8 : decode cX6_fits 8 = .ok (.getfield 120, 3) := by decide +kernel
theorem dX6_fits_11 : decode cX6_fits 11 = .ok (.bipush 18, 2) := by decide +kernel
theorem dX6_fits_13 : decode cX6_fits 13 = .ok (.if_icmp .eq 5, 3) := by decide +kernel
theorem dX6_fits_16 : decode cX6_fits 16 = .ok (.iconst 0, 1) := by decide +kernel
theorem dX6_fits_17 : decode cX6_fits 17 = .ok (.ireturn, 1) := by decide +kernel
theorem dX6_fits_18 : decode cX6_fits 18 = .ok (.aload_n 0, 1) := by decide +kernel
theorem dX6_fits_19 : decode cX6_fits 19 = .ok (.getfield 28, 3) := by decide +kernel
theorem dX6_fits_22 : decode cX6_fits 22 = .ok (.iconst 0, 1) := by decide +kernel
theorem dX6_fits_23 : decode cX6_fits 23 = .ok (.iaload, 1) := by decide +kernel
theorem dX6_fits_24 : decode cX6_fits 24 = .ok (.bipush 10, 2) := by decide +kernel
theorem dX6_fits_26 : decode cX6_fits 26 = .ok (.if_icmp .ne 68, 3) := by decide +kernel
theorem dX6_fits_29 : decode cX6_fits 29 = .ok (.aload_n 0, 1) := by decide +kernel
theorem dX6_fits_30 : decode cX6_fits 30 = .ok (.getfield 28, 3) := by decide +kernel
theorem dX6_fits_33 : decode cX6_fits 33 = .ok (.iconst 5, 1) := by decide +kernel
theorem dX6_fits_34 : decode cX6_fits 34 = .ok (.iaload, 1) := by decide +kernel
theorem dX6_fits_35 : decode cX6_fits 35 = .ok (.bipush 11, 2) := by decide +kernel
theorem dX6_fits_37 : decode cX6_fits 37 = .ok (.if_icmp .ne 57, 3) := by decide +kernel
theorem dX6_fits_40 : decode cX6_fits 40 = .ok (.aload_n 0, 1) := by decide +kernel
theorem dX6_fits_41 : decode cX6_fits 41 = .ok (.getfield 28, 3) := by decide +kernel
theorem dX6_fits_44 : decode cX6_fits 44 = .ok (.bipush 12, 2) := by decide +kernel
theorem dX6_fits_46 : decode cX6_fits 46 = .ok (.iaload, 1) := by decide +kernel
theorem dX6_fits_47 : decode cX6_fits 47 = .ok (.bipush 11, 2) := by decide +kernel
theorem dX6_fits_49 : decode cX6_fits 49 = .ok (.if_icmp .ne 45, 3) := by decide +kernel
theorem dX6_fits_52 : decode cX6_fits 52 = .ok (.aload_n 0, 1) := by decide +kernel
theorem dX6_fits_53 : decode cX6_fits 53 = .ok (.getfield 28, 3) := by decide +kernel
theorem dX6_fits_56 : decode cX6_fits 56 = .ok (.bipush 17, 2) := by decide +kernel
