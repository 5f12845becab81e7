theorem dX6_fits_58 : decode cX6_fits 58 = .ok (.iaload, 1) := by decide +kernel
theorem dX6_fits_59 : decode cX6_fits 59 = .ok (.bipush 10, 2) := by decide +kernel
theorem dX6_fits_61 : decode cX6_fits 61 = .ok (.if_icmp .ne 33, 3) := by decide +kernel
theorem dX6_fits_64 : decode cX6_fits 64 = .ok (.aload_n 0, 1) := by decide +kernel
theorem dX6_fits_65 : decode cX6_fits 65 = .ok (.iconst 1, 1) := by decide +kernel
theorem dX6_fits_66 : decode cX6_fits 66 = .ok (.iconst 4, 1) := by decide +kernel
theorem dX6_fits_67 : decode cX6_fits 67 = .ok (.invokevirtual 126, 3) := by decide +kernel
theorem dX6_fits_70 : decode cX6_fits 70 = .ok (.ifCond .lt 24, 3) := by decide +kernel
theorem dX6_fits_73 : decode cX6_fits 73 = .ok (.aload_n 0, 1) := by decide +kernel
theorem dX6_fits_74 : decode cX6_fits 74 = .ok (.bipush 6, 2) := by decide +kernel
theorem dX6_fits_76 : decode cX6_fits 76 = .ok (.bipush 6, 2) := by decide +kernel
theorem dX6_fits_78 : decode cX6_fits 78 = .ok (.invokevirtual 126, 3) := by decide +kernel
theorem dX6_fits_81 : decode cX6_fits 81 = .ok (.ifCond .lt 13, 3) := by decide +kernel
theorem dX6_fits_84 : decode cX6_fits 84 = .ok (.aload_n 0, 1) := by decide +kernel
theorem dX6_fits_85 : decode cX6_fits 85 = .ok (.bipush 13, 2) := by decide +kernel
theorem dX6_fits_87 : decode cX6_fits 87 = .ok (.iconst 4, 1) := by decide +kernel
theorem dX6_fits_88 : decode cX6_fits 88 = .ok (.invokevirtual 126, 3) := by decide +kernel
theorem dX6_fits_91 : decode cX6_fits 91 = .ok (.ifCond .ge 5, 3) := by decide +kernel
theorem dX6_fits_94 : decode cX6_fits 94 = .ok (.iconst 0, 1) := by decide +kernel
theorem dX6_fits_95 : decode cX6_fits 95 = .ok (.ireturn, 1) := by decide +kernel
theorem dX6_fits_96 : decode cX6_fits 96 = .ok (.bipush 7, 2) := by decide +kernel
theorem dX6_fits_98 : decode cX6_fits 98 = .ok (.aload_n 0, 1) := by decide +kernel
theorem dX6_fits_99 : decode cX6_fits 99 = .ok (.getfield 28, 3) := by decide +kernel
theorem dX6_fits_102 : decode cX6_fits 102 = .ok (.bipush 6, 2) := by decide +kernel
theorem dX6_fits_104 : decode cX6_fits 104 = .ok (.iaload, 1) := by decide +kernel
theorem dX6_fits_105 : decode cX6_fits 105 = .ok (.imul, 1) := by decide +kernel
theorem dX6_fits_106 : decode cX6_fits 106 = .ok (.iconst 3, 1) := by decide +kernel
theorem dX6_fits_107 : decode cX6_fits 107 = .ok (.aload_n 0, 1) := by decide +kernel
theorem dX6_fits_108 : decode cX6_fits 108 = .ok (.getfield 28, 3) := by decide +kernel
theorem dX6_fits_111 : decode cX6_fits 111 = .ok (.bipush 7, 2) := by decide +kernel
theorem dX6_fits_113 : decode cX6_fits 113 = .ok (.iaload, 1) := by decide +kernel
theorem dX6_fits_114 : decode cX6_fits 114 = .ok (.imul, 1) := by decide +kernel
theorem dX6_fits_115 : decode cX6_fits 115 = .ok (.iadd, 1) := by decide +kernel
theorem dX6_fits_116 : decode cX6_fits 116 = .ok (.aload_n 0, 1) := by decide +kernel
theorem dX6_fits_117 : decode cX6_fits 117 = .ok (.getfield 28, 3) := by decide +kernel
theorem dX6_fits_120 : decode cX6_fits 120 = .ok (.bipush 8, 2) := by decide +kernel
theorem dX6_fits_122 : decode cX6_fits 122 = .ok (.iaload, 1) := by decide +kernel
theorem dX6_fits_123 : decode cX6_fits 123 = .ok (.iadd, 1) := by decide +kernel
theorem dX6_fits_124 : decode cX6_fits 124 = .ok (.bipush 7, 2) := by decide +kernel
theorem dX6_fits_126 : decode cX6_fits 126 = .ok (.aload_n 0, 1) := by decide +kernel
theorem dX6_fits_127 : decode cX6_fits 127 = .ok (.getfield 28, 3) := by decide +kernel
theorem dX6_fits_130 : decode cX6_fits 130 = .ok (.bipush 9, 2) := by decide +kernel
theorem dX6_fits_132 : decode cX6_fits 132 = .ok (.iaload, 1) := by decide +kernel
theorem dX6_fits_133 : decode cX6_fits 133 = .ok (.imul, 1) := by decide +kernel
theorem dX6_fits_134 : decode cX6_fits 134 = .ok (.iadd, 1) := by decide +kernel
theorem dX6_fits_135 : decode cX6_fits 135 = .ok (.iconst 3, 1) := by decide +kernel
theorem dX6_fits_136 : decode cX6_fits 136 = .ok (.aload_n 0, 1) := by decide +kernel
theorem dX6_fits_137 : decode cX6_fits 137 = .ok (.getfield 28, 3) := by decide +kernel
theorem dX6_fits_140 : decode cX6_fits 140 = .ok (.bipush 10, 2) := by decide +kernel
theorem dX6_fits_142 : decode cX6_fits 142 = .ok (.iaload, 1) := by decide +kernel
theorem dX6_fits_143 : decode cX6_fits 143 = .ok (.imul, 1) := by decide +kernel
theorem dX6_fits_144 : decode cX6_fits 144 = .ok (.iadd, 1) := by decide +kernel
theorem dX6_fits_145 : decode cX6_fits 145 = .ok (.aload_n 0, 1) := by decide +kernel
theorem dX6_fits_146 : decode cX6_fits 146 = .ok (.getfield 28, 3) := by decide +kernel
theorem dX6_fits_149 : decode cX6_fits 149 = .ok (.bipush 11, 2) := by decide +kernel
theorem dX6_fits_151 : decode cX6_fits 151 = .ok (.iaload, 1) := by decide +kernel
theorem dX6_fits_152 : decode cX6_fits 152 = .ok (.iadd, 1) := by decide +kernel
theorem dX6_fits_153 : decode cX6_fits 153 = .ok (.bipush 10, 2) := by decide +kernel
theorem dX6_fits_155 : decode cX6_fits 155 = .ok (.irem, 1) := by decide +kernel
theorem dX6_fits_156 : decode cX6_fits 156 = .ok (.ifCond .ne 7, 3) := by decide +kernel
theorem dX6_fits_159 : decode cX6_fits 159 = .ok (.iconst 1, 1) := by decide +kernel
theorem dX6_fits_160 : decode cX6_fits 160 = .ok (.goto 4, 3) := by decide +kernel
theorem dX6_fits_163 : decode cX6_fits 163 = .ok (.iconst 0, 1) := by decide +kernel
theorem dX6_fits_164 : decode cX6_fits 164 = .ok (.ireturn, 1) := by decide +kernel
theorem dX6_about_0 : decode cX6_about 0 = .ok (.aload_n 0, 1) := by decide +kernel
theorem dX6_about_1 : decode cX6_about 1 = .ok (.iconst 0, 1) := by decide +kernel
theorem dX6_about_2 : decode cX6_about 2 = .ok (.putfield 58, 3) := by decide +kernel
theorem dX6_about_5 : decode cX6_about 5 = .ok (.aload_n 0, 1) := by decide +kernel
theorem dX6_about_6 : decode cX6_about 6 = .ok (.iload_n 1, 1) := by decide +kernel
theorem dX6_about_7 : decode cX6_about 7 = .ok (.ifCond .lt 8, 3) := by decide +kernel
theorem dX6_about_10 : decode cX6_about 10 = .ok (.iload_n 1, 1) := by decide +kernel
theorem dX6_about_11 : decode cX6_about 11 = .ok (.iconst 4, 1) := by decide +kernel
theorem dX6_about_12 : decode cX6_about 12 = .ok (.if_icmp .le 7, 3) := by decide +kernel
theorem dX6_about_15 : decode cX6_about 15 = .ok (.iconst 1, 1) := by decide +kernel
theorem dX6_about_16 : decode cX6_about 16 = .ok (.goto 4, 3) := by decide +kernel
theorem dX6_about_19 : decode cX6_about 19 = .ok (.iconst 0, 1) := by decide +kernel
theorem dX6_about_20 : decode cX6_about 20 = .ok (.iconst 1, 1) := by decide +kernel
theorem dX6_about_21 : decode cX6_about 21 = .ok (.invokevirtual 64, 3) := by decide +kernel
theorem dX6_about_24 : decode cX6_about 24 = .ok (.ifCond .eq 5, 3) := by decide +kernel
theorem dX6_about_27 : decode cX6_about 27 = .ok (.iconst 0, 1) := by decide +kernel
theorem dX6_about_28 : decode cX6_about 28 = .ok (.ireturn, 1) := by decide +kernel
theorem dX6_about_29 : decode cX6_about 29 = .ok (.aload_n 0, 1) := by decide +kernel
theorem dX6_about_30 : decode cX6_about 30 = .ok (.getfield 123, 3) := by decide +kernel
theorem dX6_about_33 : decode cX6_about 33 = .ok (.ifCond .ne 5, 3) := by decide +kernel
theorem dX6_about_36 : decode cX6_about 36 = .ok (.iconst (-1), 1) := by decide +kernel
theorem dX6_about_37 : decode cX6_about 37 = .ok (.ireturn, 1) := by decide +kernel
theorem dX6_about_38 : decode cX6_about 38 = .ok (.iload_n 1, 1) := by decide +kernel
theorem dX6_about_39 : decode cX6_about 39 = .ok (.ifCond .ne 10, 3) := by decide +kernel
theorem dX6_about_42 : decode cX6_about 42 = .ok (.aload_n 0, 1) := by decide +kernel
theorem dX6_about_43 : decode cX6_about 43 = .ok (.getfield 120, 3) := by decide +kernel
theorem dX6_about_46 : decode cX6_about 46 = .ok (.goto 59, 3) := by decide +kernel
theorem dX6_about_49 : decode cX6_about 49 = .ok (.iload_n 1, 1) := by decide +kernel
theorem dX6_about_50 : decode cX6_about 50 = .ok (.iconst 1, 1) := by decide +kernel
theorem dX6_about_51 : decode cX6_about 51 = .ok (.if_icmp .ne 10, 3) := by decide +kernel
theorem dX6_about_54 : decode cX6_about 54 = .ok (.aload_n 0, 1) := by decide +kernel
theorem dX6_about_55 : decode cX6_about 55 = .ok (.getfield 106, 3) := by decide +kernel
theorem dX6_about_58 : decode cX6_about 58 = .ok (.goto 47, 3) := by decide +kernel
theorem dX6_about_61 : decode cX6_about 61 = .ok (.iload_n 1, 1) := by decide +kernel
theorem dX6_about_62 : decode cX6_about 62 = .ok (.iconst 2, 1) := by decide +kernel
theorem dX6_about_63 : decode cX6_about 63 = .ok (.if_icmp .ne 10, 3) := by decide +kernel
theorem dX6_about_66 : decode cX6_about 66 = .ok (.aload_n 0, 1) := by decide +kernel
theorem dX6_about_67 : decode cX6_about 67 = .ok (.getfield 117, 3) := by decide +kernel
theorem dX6_about_70 : decode cX6_about 70 = .ok (.goto 35, 3) := by decide +kernel
theorem dX6_about_73 : decode cX6_about 73 = .ok (.iload_n 1, 1) := by decide +kernel
theorem dX6_about_74 : decode cX6_about 74 = .ok (.iconst 3, 1) := by decide +kernel
theorem dX6_about_75 : decode cX6_about 75 = .ok (.if_icmp .ne 18, 3) := by decide +kernel
theorem dX6_about_78 : decode cX6_about 78 = .ok (.aload_n 0, 1) := by decide +kernel
theorem dX6_about_79 : decode cX6_about 79 = .ok (.getfield 102, 3) := by decide +kernel
theorem dX6_about_82 : decode cX6_about 82 = .ok (.ifCond .eq 7, 3) := by decide +kernel
theorem dX6_about_85 : decode cX6_about 85 = .ok (.iconst 1, 1) := by decide +kernel
theorem dX6_about_86 : decode cX6_about 86 = .ok (.goto 19, 3) := by decide +kernel
theorem dX6_about_89 : decode cX6_about 89 = .ok (.iconst 0, 1) := by decide +kernel
theorem dX6_about_90 : decode cX6_about 90 = .ok (.goto 15, 3) := by decide +kernel
theorem dX6_about_93 : decode cX6_about 93 = .ok (.aload_n 0, 1) := by decide +kernel
theorem dX6_about_94 : decode cX6_about 94 = .ok (.invokevirtual 129, 3) := by decide +kernel
theorem dX6_about_97 : decode cX6_about 97 = .ok (.ifCond .eq 7, 3) := by decide +kernel
theorem dX6_about_100 : decode cX6_about 100 = .ok (.iconst 1, 1) := by decide +kernel
theorem dX6_about_101 : decode cX6_about 101 = .ok (.goto 4, 3) := by decide +kernel
theorem dX6_about_104 : decode cX6_about 104 = .ok (.iconst 0, 1) := by decide +kernel
theorem dX6_about_105 : decode cX6_about 105 = .ok (.ireturn, 1) := by decide +kernel
theorem dX6_place_0 : decode cX6_place 0 = .ok (.aload_n 0, 1) := by decide +kernel
theorem dX6_place_1 : decode cX6_place 1 = .ok (.iconst 0, 1) := by decide +kernel
theorem dX6_place_2 : decode cX6_place 2 = .ok (.putfield 58, 3) := by decide +kernel
theorem dX6_place_5 : decode cX6_place 5 = .ok (.aload_n 0, 1) := by decide +kernel
theorem dX6_place_6 : decode cX6_place 6 = .ok (.iload_n 2, 1) := by decide +kernel
theorem dX6_place_7 : decode cX6_place 7 = .ok (.ifCond .lt 8, 3) := by decide +kernel
theorem dX6_place_10 : decode cX6_place 10 = .ok (.iload_n 2, 1) := by decide +kernel
theorem dX6_place_11 : decode cX6_place 11 = .ok (.iconst 1, 1) := by decide +kernel
theorem dX6_place_12 : decode cX6_place 12 = .ok (.if_icmp .le 7, 3) := by decide +kernel
theorem dX6_place_15 : decode cX6_place 15 = .ok (.iconst 1, 1) := by decide +kernel
theorem dX6_place_16 : decode cX6_place 16 = .ok (.goto 4, 3) := by decide +kernel
theorem dX6_place_19 : decode cX6_place 19 = .ok (.iconst 0, 1) := by decide +kernel
theorem dX6_place_20 : decode cX6_place 20 = .ok (.iconst 1, 1) := by decide +kernel
theorem dX6_place_21 : decode cX6_place 21 = .ok (.invokevirtual 64, 3) := by decide +kernel
theorem dX6_place_24 : decode cX6_place 24 = .ok (.ifCond .eq 5, 3) := by decide +kernel
theorem dX6_place_27 : decode cX6_place 27 = .ok (.iconst 0, 1) := by decide +kernel
theorem dX6_place_28 : decode cX6_place 28 = .ok (.ireturn, 1) := by decide +kernel
theorem dX6_place_29 : decode cX6_place 29 = .ok (.aload_n 0, 1) := by decide +kernel
theorem dX6_place_30 : decode cX6_place 30 = .ok (.getfield 123, 3) := by decide +kernel
theorem dX6_place_33 : decode cX6_place 33 = .ok (.ifCond .eq 15, 3) := by decide +kernel
theorem dX6_place_36 : decode cX6_place 36 = .ok (.iload_n 1, 1) := by decide +kernel
theorem dX6_place_37 : decode cX6_place 37 = .ok (.ifCond .lt 11, 3) := by decide +kernel
theorem dX6_place_40 : decode cX6_place 40 = .ok (.iload_n 1, 1) := by decide +kernel
theorem dX6_place_41 : decode cX6_place 41 = .ok (.aload_n 0, 1) := by decide +kernel
theorem dX6_place_42 : decode cX6_place 42 = .ok (.getfield 120, 3) := by decide +kernel
theorem dX6_place_45 : decode cX6_place 45 = .ok (.if_icmp .lt 5, 3) := by decide +kernel
theorem dX6_place_48 : decode cX6_place 48 = .ok (.iconst (-1), 1) := by decide +kernel
theorem dX6_place_49 : decode cX6_place 49 = .ok (.ireturn, 1) := by decide +kernel
theorem dX6_place_50 : decode cX6_place 50 = .ok (.iload_n 2, 1) := by decide +kernel
theorem dX6_place_51 : decode cX6_place 51 = .ok (.ifCond .ne 12, 3) := by decide +kernel
theorem dX6_place_54 : decode cX6_place 54 = .ok (.aload_n 0, 1) := by decide +kernel
theorem dX6_place_55 : decode cX6_place 55 = .ok (.getfield 28, 3) := by decide +kernel
theorem dX6_place_58 : decode cX6_place 58 = .ok (.iload_n 1, 1) := by decide +kernel
theorem dX6_place_59 : decode cX6_place 59 = .ok (.iaload, 1) := by decide +kernel
theorem dX6_place_60 : decode cX6_place 60 = .ok (.goto 11, 3) := by decide +kernel
theorem dX6_place_63 : decode cX6_place 63 = .ok (.iconst 4, 1) := by decide +kernel
theorem dX6_place_64 : decode cX6_place 64 = .ok (.aload_n 0, 1) := by decide +kernel
theorem dX6_place_65 : decode cX6_place 65 = .ok (.getfield 31, 3) := by decide +kernel
theorem dX6_place_68 : decode cX6_place 68 = .ok (.iload_n 1, 1) := by decide +kernel
theorem dX6_place_69 : decode cX6_place 69 = .ok (.iaload, 1) := by decide +kernel
theorem dX6_place_70 : decode cX6_place 70 = .ok (.iadd, 1) := by decide +kernel
theorem dX6_place_71 : decode cX6_place 71 = .ok (.ireturn, 1) := by decide +kernel
theorem dX6_fieldOf_0 : decode cX6_fieldOf 0 = .ok (.iload_n 1, 1) := by decide +kernel
theorem dX6_fieldOf_1 : decode cX6_fieldOf 1 = .ok (.ifCond .ne 12, 3) := by decide +kernel
theorem dX6_fieldOf_4 : decode cX6_fieldOf 4 = .ok (.aload_n 0, 1) := by decide +kernel
theorem dX6_fieldOf_5 : decode cX6_fieldOf 5 = .ok (.iconst 1, 1) := by decide +kernel
theorem dX6_fieldOf_6 : decode cX6_fieldOf 6 = .ok (.iconst 4, 1) := by decide +kernel
theorem dX6_fieldOf_7 : decode cX6_fieldOf 7 = .ok (.invokevirtual 126, 3) := by decide +kernel
theorem dX6_fieldOf_10 : decode cX6_fieldOf 10 = .ok (.goto 26, 3) := by decide +kernel
theorem dX6_fieldOf_13 : decode cX6_fieldOf 13 = .ok (.iload_n 1, 1) := by decide +kernel
theorem dX6_fieldOf_14 : decode cX6_fieldOf 14 = .ok (.iconst 1, 1) := by decide +kernel
theorem dX6_fieldOf_15 : decode cX6_fieldOf 15 = .ok (.if_icmp .ne 14, 3) := by decide +kernel
theorem dX6_fieldOf_18 : decode cX6_fieldOf 18 = .ok (.aload_n 0, 1) := by decide +kernel
theorem dX6_fieldOf_19 : decode cX6_fieldOf 19 = .ok (.bipush 6, 2) := by decide +kernel
theorem dX6_fieldOf_21 : decode cX6_fieldOf 21 = .ok (.bipush 6, 2) := by decide +kernel
theorem dX6_fieldOf_23 : decode cX6_fieldOf 23 = .ok (.invokevirtual 126, 3) := by decide +kernel
theorem dX6_fieldOf_26 : decode cX6_fieldOf 26 = .ok (.goto 10, 3) := by decide +kernel
theorem dX6_fieldOf_29 : decode cX6_fieldOf 29 = .ok (.aload_n 0, 1) := by decide +kernel
theorem dX6_fieldOf_30 : decode cX6_fieldOf 30 = .ok (.bipush 13, 2) := by decide +kernel
theorem dX6_fieldOf_32 : decode cX6_fieldOf 32 = .ok (.iconst 4, 1) := by decide +kernel
theorem dX6_fieldOf_33 : decode cX6_fieldOf 33 = .ok (.invokevirtual 126, 3) := by decide +kernel
theorem dX6_fieldOf_36 : decode cX6_fieldOf 36 = .ok (.ireturn, 1) := by decide +kernel
theorem dX6_field_0 : decode cX6_field 0 = .ok (.aload_n 0, 1) := by decide +kernel
theorem dX6_field_1 : decode cX6_field 1 = .ok (.iconst 0, 1) := by decide +kernel
theorem dX6_field_2 : decode cX6_field 2 = .ok (.putfield 58, 3) := by decide +kernel
theorem dX6_field_5 : decode cX6_field 5 = .ok (.aload_n 0, 1) := by decide +kernel
theorem dX6_field_6 : decode cX6_field 6 = .ok (.iload_n 1, 1) := by decide +kernel
theorem dX6_field_7 : decode cX6_field 7 = .ok (.ifCond .lt 8, 3) := by decide +kernel
theorem dX6_field_10 : decode cX6_field 10 = .ok (.iload_n 1, 1) := by decide +kernel
theorem dX6_field_11 : decode cX6_field 11 = .ok (.iconst 2, 1) := by decide +kernel
theorem dX6_field_12 : decode cX6_field 12 = .ok (.if_icmp .le 7, 3) := by decide +kernel
theorem dX6_field_15 : decode cX6_field 15 = .ok (.iconst 1, 1) := by decide +kernel
theorem dX6_field_16 : decode cX6_field 16 = .ok (.goto 4, 3) := by decide +kernel
theorem dX6_field_19 : decode cX6_field 19 = .ok (.iconst 0, 1) := by decide +kernel
theorem dX6_field_20 : decode cX6_field 20 = .ok (.iconst 1, 1) := by decide +kernel
theorem dX6_field_21 : decode cX6_field 21 = .ok (.invokevirtual 64, 3) := by decide +kernel
theorem dX6_field_24 : decode cX6_field 24 = .ok (.ifCond .eq 5, 3) := by decide +kernel
theorem dX6_field_27 : decode cX6_field 27 = .ok (.iconst 0, 1) := by decide +kernel
theorem dX6_field_28 : decode cX6_field 28 = .ok (.ireturn, 1) := by decide +kernel
theorem dX6_field_29 : decode cX6_field 29 = .ok (.aload_n 0, 1) := by decide +kernel
theorem dX6_field_30 : decode cX6_field 30 = .ok (.invokevirtual 129, 3) := by decide +kernel
theorem dX6_field_33 : decode cX6_field 33 = .ok (.ifCond .eq 11, 3) := by decide +kernel
theorem dX6_field_36 : decode cX6_field 36 = .ok (.aload_n 0, 1) := by decide +kernel
theorem dX6_field_37 : decode cX6_field 37 = .ok (.iload_n 1, 1) := by decide +kernel
theorem dX6_field_38 : decode cX6_field 38 = .ok (.invokevirtual 133, 3) := by decide +kernel
theorem dX6_field_41 : decode cX6_field 41 = .ok (.goto 4, 3) := by decide +kernel
theorem dX6_field_44 : decode cX6_field 44 = .ok (.iconst (-1), 1) := by decide +kernel
theorem dX6_field_45 : decode cX6_field 45 = .ok (.ireturn, 1) := by decide +kernel
theorem dX6_finds_0 : decode cX6_finds 0 = .ok (.iconst 0, 1) := by decide +kernel
theorem dX6_finds_1 : decode cX6_finds 1 = .ok (.istore_n 2, 1) := by decide +kernel
theorem dX6_finds_2 : decode cX6_finds 2 = .ok (.aload_n 0, 1) := by decide +kernel
theorem dX6_finds_3 : decode cX6_finds 3 = .ok (.getfield 123, 3) := by decide +kernel
theorem dX6_finds_6 : decode cX6_finds 6 = .ok (.ifCond .eq 12, 3) := by decide +kernel
theorem dX6_finds_9 : decode cX6_finds 9 = .ok (.aload_n 0, 1) := by decide +kernel
theorem dX6_finds_10 : decode cX6_finds 10 = .ok (.getfield 120, 3) := by decide +kernel
theorem dX6_finds_13 : decode cX6_finds 13 = .ok (.bipush 18, 2) := by decide +kernel
theorem dX6_finds_15 : decode cX6_finds 15 = .ok (.if_icmp .eq 5, 3) := by decide +kernel
theorem dX6_finds_18 : decode cX6_finds 18 = .ok (.iconst 0, 1) := by decide +kernel
theorem dX6_finds_19 : decode cX6_finds 19 = .ok (.ireturn, 1) := by decide +kernel
theorem dX6_finds_20 : decode cX6_finds 20 = .ok (.iconst 0, 1) := by decide +kernel
theorem dX6_finds_21 : decode cX6_finds 21 = .ok (.istore_n 3, 1) := by decide +kernel
theorem dX6_finds_22 : decode cX6_finds 22 = .ok (.iload_n 3, 1) := by decide +kernel
theorem dX6_finds_23 : decode cX6_finds 23 = .ok (.bipush 18, 2) := by decide +kernel
theorem dX6_finds_25 : decode cX6_finds 25 = .ok (.if_icmp .ge 96, 3) := by decide +kernel
theorem dX6_finds_28 : decode cX6_finds 28 = .ok (.aload_n 0, 1) := by decide +kernel
theorem dX6_finds_29 : decode cX6_finds 29 = .ok (.getfield 28, 3) := by decide +kernel
theorem dX6_finds_32 : decode cX6_finds 32 = .ok (.iload_n 3, 1) := by decide +kernel
theorem dX6_finds_33 : decode cX6_finds 33 = .ok (.iaload, 1) := by decide +kernel
theorem dX6_finds_34 : decode cX6_finds 34 = .ok (.istore 4, 2) := by decide +kernel
theorem dX6_finds_36 : decode cX6_finds 36 = .ok (.iconst 0, 1) := by decide +kernel
theorem dX6_finds_37 : decode cX6_finds 37 = .ok (.istore 5, 2) := by decide +kernel
theorem dX6_finds_39 : decode cX6_finds 39 = .ok (.iload 5, 2) := by decide +kernel
theorem dX6_finds_41 : decode cX6_finds 41 = .ok (.bipush 12, 2) := by decide +kernel
theorem dX6_finds_43 : decode cX6_finds 43 = .ok (.if_icmp .ge 72, 3) := by decide +kernel
theorem dX6_finds_46 : decode cX6_finds 46 = .ok (.iload 5, 2) := by decide +kernel
theorem dX6_finds_48 : decode cX6_finds 48 = .ok (.iload 4, 2) := by decide +kernel
theorem dX6_finds_50 : decode cX6_finds 50 = .ok (.if_icmp .ne 6, 3) := by decide +kernel
theorem dX6_finds_53 : decode cX6_finds 53 = .ok (.goto 56, 3) := by decide +kernel
theorem dX6_finds_56 : decode cX6_finds 56 = .ok (.aload_n 0, 1) := by decide +kernel
theorem dX6_finds_57 : decode cX6_finds 57 = .ok (.getfield 28, 3) := by decide +kernel
theorem dX6_finds_60 : decode cX6_finds 60 = .ok (.iload_n 3, 1) := by decide +kernel
theorem dX6_finds_61 : decode cX6_finds 61 = .ok (.iload 5, 2) := by decide +kernel
theorem dX6_finds_63 : decode cX6_finds 63 = .ok (.iastore, 1) := by decide +kernel
theorem dX6_finds_64 : decode cX6_finds 64 = .ok (.aload_n 0, 1) := by decide +kernel
theorem dX6_finds_65 : decode cX6_finds 65 = .ok (.invokevirtual 129, 3) := by decide +kernel
theorem dX6_finds_68 : decode cX6_finds 68 = .ok (.istore 6, 2) := by decide +kernel
theorem dX6_finds_70 : decode cX6_finds 70 = .ok (.aload_n 0, 1) := by decide +kernel
theorem dX6_finds_71 : decode cX6_finds 71 = .ok (.getfield 28, 3) := by decide +kernel
theorem dX6_finds_74 : decode cX6_finds 74 = .ok (.iload_n 3, 1) := by decide +kernel
theorem dX6_finds_75 : decode cX6_finds 75 = .ok (.iload 4, 2) := by decide +kernel
theorem dX6_finds_77 : decode cX6_finds 77 = .ok (.iastore, 1) := by decide +kernel
theorem dX6_finds_78 : decode cX6_finds 78 = .ok (.iload 6, 2) := by decide +kernel
theorem dX6_finds_80 : decode cX6_finds 80 = .ok (.ifCond .ne 6, 3) := by decide +kernel
theorem dX6_finds_83 : decode cX6_finds 83 = .ok (.goto 26, 3) := by decide +kernel
theorem dX6_finds_86 : decode cX6_finds 86 = .ok (.aload_n 0, 1) := by decide +kernel
theorem dX6_finds_87 : decode cX6_finds 87 = .ok (.iload_n 3, 1) := by decide +kernel
theorem dX6_finds_88 : decode cX6_finds 88 = .ok (.putfield 136, 3) := by decide +kernel
theorem dX6_finds_91 : decode cX6_finds 91 = .ok (.aload_n 0, 1) := by decide +kernel
theorem dX6_finds_92 : decode cX6_finds 92 = .ok (.iload 5, 2) := by decide +kernel
theorem dX6_finds_94 : decode cX6_finds 94 = .ok (.putfield 139, 3) := by decide +kernel
theorem dX6_finds_97 : decode cX6_finds 97 = .ok (.iinc 2 1, 3) := by decide +kernel
theorem dX6_finds_100 : decode cX6_finds 100 = .ok (.iload_n 2, 1) := by decide +kernel
theorem dX6_finds_101 : decode cX6_finds 101 = .ok (.iload_n 1, 1) := by decide +kernel
theorem dX6_finds_102 : decode cX6_finds 102 = .ok (.iconst 1, 1) := by decide +kernel
theorem dX6_finds_103 : decode cX6_finds 103 = .ok (.iadd, 1) := by decide +kernel
theorem dX6_finds_104 : decode cX6_finds 104 = .ok (.if_icmp .ne 5, 3) := by decide +kernel
theorem dX6_finds_107 : decode cX6_finds 107 = .ok (.iload_n 2, 1) := by decide +kernel
theorem dX6_finds_108 : decode cX6_finds 108 = .ok (.ireturn, 1) := by decide +kernel
theorem dX6_finds_109 : decode cX6_finds 109 = .ok (.iinc 5 1, 3) := by decide +kernel
theorem dX6_finds_112 : decode cX6_finds 112 = .ok (.goto (-73), 3) := by decide +kernel
theorem dX6_finds_115 : decode cX6_finds 115 = .ok (.iinc 3 1, 3) := by decide +kernel
theorem dX6_finds_118 : decode cX6_finds 118 = .ok (.goto (-96), 3) := by decide +kernel
theorem dX6_finds_121 : decode cX6_finds 121 = .ok (.iload_n 2, 1) := by decide +kernel
theorem dX6_finds_122 : decode cX6_finds 122 = .ok (.ireturn, 1) := by decide +kernel
theorem dX6_others_0 : decode cX6_others 0 = .ok (.aload_n 0, 1) := by decide +kernel
theorem dX6_others_1 : decode cX6_others 1 = .ok (.iconst 0, 1) := by decide +kernel
theorem dX6_others_2 : decode cX6_others 2 = .ok (.putfield 58, 3) := by decide +kernel
theorem dX6_others_5 : decode cX6_others 5 = .ok (.aload_n 0, 1) := by decide +kernel
theorem dX6_others_6 : decode cX6_others 6 = .ok (.sipush 1000, 3) := by decide +kernel
theorem dX6_others_9 : decode cX6_others 9 = .ok (.invokevirtual 142, 3) := by decide +kernel
theorem dX6_others_12 : decode cX6_others 12 = .ok (.ireturn, 1) := by decide +kernel
theorem dX6_costWith_0 : decode cX6_costWith 0 = .ok (.iconst 0, 1) := by decide +kernel
theorem dX6_costWith_1 : decode cX6_costWith 1 = .ok (.istore_n 3, 1) := by decide +kernel
theorem dX6_costWith_2 : decode cX6_costWith 2 = .ok (.iload_n 3, 1) := by decide +kernel
theorem dX6_costWith_3 : decode cX6_costWith 3 = .ok (.bipush 9, 2) := by decide +kernel
theorem dX6_costWith_5 : decode cX6_costWith 5 = .ok (.if_icmp .ge 16, 3) := by decide +kernel
theorem dX6_costWith_8 : decode cX6_costWith 8 = .ok (.aload_n 0, 1) := by decide +kernel
theorem dX6_costWith_9 : decode cX6_costWith 9 = .ok (.getfield 34, 3) := by decide +kernel
theorem dX6_costWith_12 : decode cX6_costWith 12 = .ok (.iload_n 3, 1) := by decide +kernel
theorem dX6_costWith_13 : decode cX6_costWith 13 = .ok (.iconst 0, 1) := by decide +kernel
theorem dX6_costWith_14 : decode cX6_costWith 14 = .ok (.iastore, 1) := by decide +kernel
theorem dX6_costWith_15 : decode cX6_costWith 15 = .ok (.iinc 3 1, 3) := by decide +kernel
theorem dX6_costWith_18 : decode cX6_costWith 18 = .ok (.goto (-16), 3) := by decide +kernel
theorem dX6_costWith_21 : decode cX6_costWith 21 = .ok (.iconst 0, 1) := by decide +kernel
theorem dX6_costWith_22 : decode cX6_costWith 22 = .ok (.istore_n 3, 1) := by decide +kernel
theorem dX6_costWith_23 : decode cX6_costWith 23 = .ok (.iload_n 3, 1) := by decide +kernel
theorem dX6_costWith_24 : decode cX6_costWith 24 = .ok (.bipush 18, 2) := by decide +kernel
theorem dX6_costWith_26 : decode cX6_costWith 26 = .ok (.if_icmp .ge 103, 3) := by decide +kernel
theorem dX6_costWith_29 : decode cX6_costWith 29 = .ok (.iload_n 3, 1) := by decide +kernel
theorem dX6_costWith_30 : decode cX6_costWith 30 = .ok (.iload_n 1, 1) := by decide +kernel
theorem dX6_costWith_31 : decode cX6_costWith 31 = .ok (.if_icmp .ne 7, 3) := by decide +kernel
theorem dX6_costWith_34 : decode cX6_costWith 34 = .ok (.iload_n 2, 1) := by decide +kernel
theorem dX6_costWith_35 : decode cX6_costWith 35 = .ok (.goto 9, 3) := by decide +kernel
theorem dX6_costWith_38 : decode cX6_costWith 38 = .ok (.aload_n 0, 1) := by decide +kernel
theorem dX6_costWith_39 : decode cX6_costWith 39 = .ok (.getfield 28, 3) := by decide +kernel
theorem dX6_costWith_42 : decode cX6_costWith 42 = .ok (.iload_n 3, 1) := by decide +kernel
theorem dX6_costWith_43 : decode cX6_costWith 43 = .ok (.iaload, 1) := by decide +kernel
theorem dX6_costWith_44 : decode cX6_costWith 44 = .ok (.istore 4, 2) := by decide +kernel
theorem dX6_costWith_46 : decode cX6_costWith 46 = .ok (.iconst 0, 1) := by decide +kernel
theorem dX6_costWith_47 : decode cX6_costWith 47 = .ok (.istore 5, 2) := by decide +kernel
theorem dX6_costWith_49 : decode cX6_costWith 49 = .ok (.iload 5, 2) := by decide +kernel
theorem dX6_costWith_51 : decode cX6_costWith 51 = .ok (.bipush 9, 2) := by decide +kernel
theorem dX6_costWith_53 : decode cX6_costWith 53 = .ok (.if_icmp .ge 40, 3) := by decide +kernel
theorem dX6_costWith_56 : decode cX6_costWith 56 = .ok (.aload_n 0, 1) := by decide +kernel
theorem dX6_costWith_57 : decode cX6_costWith 57 = .ok (.getfield 37, 3) := by decide +kernel
theorem dX6_costWith_60 : decode cX6_costWith 60 = .ok (.iload 5, 2) := by decide +kernel
theorem dX6_costWith_62 : decode cX6_costWith 62 = .ok (.aload_n 0, 1) := by decide +kernel
theorem dX6_costWith_63 : decode cX6_costWith 63 = .ok (.getfield 34, 3) := by decide +kernel
theorem dX6_costWith_66 : decode cX6_costWith 66 = .ok (.iconst 0, 1) := by decide +kernel
theorem dX6_costWith_67 : decode cX6_costWith 67 = .ok (.iload 5, 2) := by decide +kernel
theorem dX6_costWith_69 : decode cX6_costWith 69 = .ok (.invokestatic 87, 3) := by decide +kernel
theorem dX6_costWith_72 : decode cX6_costWith 72 = .ok (.aload_n 0, 1) := by decide +kernel
theorem dX6_costWith_73 : decode cX6_costWith 73 = .ok (.getfield 19, 3) := by decide +kernel
theorem dX6_costWith_76 : decode cX6_costWith 76 = .ok (.iload_n 3, 1) := by decide +kernel
theorem dX6_costWith_77 : decode cX6_costWith 77 = .ok (.iload 4, 2) := by decide +kernel
theorem dX6_costWith_79 : decode cX6_costWith 79 = .ok (.iload 5, 2) := by decide +kernel
theorem dX6_costWith_81 : decode cX6_costWith 81 = .ok (.invokestatic 74, 3) := by decide +kernel
theorem dX6_costWith_84 : decode cX6_costWith 84 = .ok (.iaload, 1) := by decide +kernel
theorem dX6_costWith_85 : decode cX6_costWith 85 = .ok (.iadd, 1) := by decide +kernel
theorem dX6_costWith_86 : decode cX6_costWith 86 = .ok (.iastore, 1) := by decide +kernel
theorem dX6_costWith_87 : decode cX6_costWith 87 = .ok (.iinc 5 1, 3) := by decide +kernel
theorem dX6_costWith_90 : decode cX6_costWith 90 = .ok (.goto (-41), 3) := by decide +kernel
theorem dX6_costWith_93 : decode cX6_costWith 93 = .ok (.iconst 0, 1) := by decide +kernel
theorem dX6_costWith_94 : decode cX6_costWith 94 = .ok (.istore 5, 2) := by decide +kernel
theorem dX6_costWith_96 : decode cX6_costWith 96 = .ok (.iload 5, 2) := by decide +kernel
theorem dX6_costWith_98 : decode cX6_costWith 98 = .ok (.bipush 9, 2) := by decide +kernel
theorem dX6_costWith_100 : decode cX6_costWith 100 = .ok (.if_icmp .ge 23, 3) := by decide +kernel
theorem dX6_costWith_103 : decode cX6_costWith 103 = .ok (.aload_n 0, 1) := by decide +kernel
theorem dX6_costWith_104 : decode cX6_costWith 104 = .ok (.getfield 34, 3) := by decide +kernel
theorem dX6_costWith_107 : decode cX6_costWith 107 = .ok (.iload 5, 2) := by decide +kernel
theorem dX6_costWith_109 : decode cX6_costWith 109 = .ok (.aload_n 0, 1) := by decide +kernel
theorem dX6_costWith_110 : decode cX6_costWith 110 = .ok (.getfield 37, 3) := by decide +kernel
theorem dX6_costWith_113 : decode cX6_costWith 113 = .ok (.iload 5, 2) := by decide +kernel
theorem dX6_costWith_115 : decode cX6_costWith 115 = .ok (.iaload, 1) := by decide +kernel
theorem dX6_costWith_116 : decode cX6_costWith 116 = .ok (.iastore, 1) := by decide +kernel
theorem dX6_costWith_117 : decode cX6_costWith 117 = .ok (.iinc 5 1, 3) := by decide +kernel
theorem dX6_costWith_120 : decode cX6_costWith 120 = .ok (.goto (-24), 3) := by decide +kernel
theorem dX6_costWith_123 : decode cX6_costWith 123 = .ok (.iinc 3 1, 3) := by decide +kernel
theorem dX6_costWith_126 : decode cX6_costWith 126 = .ok (.goto (-103), 3) := by decide +kernel
theorem dX6_costWith_129 : decode cX6_costWith 129 = .ok (.ldc 82, 2) := by decide +kernel
theorem dX6_costWith_131 : decode cX6_costWith 131 = .ok (.istore_n 3, 1) := by decide +kernel
theorem dX6_costWith_132 : decode cX6_costWith 132 = .ok (.iconst 0, 1) := by decide +kernel
theorem dX6_costWith_133 : decode cX6_costWith 133 = .ok (.istore 4, 2) := by decide +kernel
theorem dX6_costWith_135 : decode cX6_costWith 135 = .ok (.iload 4, 2) := by decide +kernel
theorem dX6_costWith_137 : decode cX6_costWith 137 = .ok (.bipush 9, 2) := by decide +kernel
theorem dX6_costWith_139 : decode cX6_costWith 139 = .ok (.if_icmp .ge 32, 3) := by decide +kernel
theorem dX6_costWith_142 : decode cX6_costWith 142 = .ok (.aload_n 0, 1) := by decide +kernel
theorem dX6_costWith_143 : decode cX6_costWith 143 = .ok (.getfield 34, 3) := by decide +kernel
theorem dX6_costWith_146 : decode cX6_costWith 146 = .ok (.iload 4, 2) := by decide +kernel
theorem dX6_costWith_148 : decode cX6_costWith 148 = .ok (.iaload, 1) := by decide +kernel
theorem dX6_costWith_149 : decode cX6_costWith 149 = .ok (.iload_n 3, 1) := by decide +kernel
theorem dX6_costWith_150 : decode cX6_costWith 150 = .ok (.if_icmp .ge 13, 3) := by decide +kernel
theorem dX6_costWith_153 : decode cX6_costWith 153 = .ok (.aload_n 0, 1) := by decide +kernel
theorem dX6_costWith_154 : decode cX6_costWith 154 = .ok (.getfield 34, 3) := by decide +kernel
theorem dX6_costWith_157 : decode cX6_costWith 157 = .ok (.iload 4, 2) := by decide +kernel
theorem dX6_costWith_159 : decode cX6_costWith 159 = .ok (.iaload, 1) := by decide +kernel
theorem dX6_costWith_160 : decode cX6_costWith 160 = .ok (.goto 4, 3) := by decide +kernel
theorem dX6_costWith_163 : decode cX6_costWith 163 = .ok (.iload_n 3, 1) := by decide +kernel
theorem dX6_costWith_164 : decode cX6_costWith 164 = .ok (.istore_n 3, 1) := by decide +kernel
theorem dX6_costWith_165 : decode cX6_costWith 165 = .ok (.iinc 4 1, 3) := by decide +kernel
theorem dX6_costWith_168 : decode cX6_costWith 168 = .ok (.goto (-33), 3) := by decide +kernel
theorem dX6_costWith_171 : decode cX6_costWith 171 = .ok (.iload_n 3, 1) := by decide +kernel
theorem dX6_costWith_172 : decode cX6_costWith 172 = .ok (.ireturn, 1) := by decide +kernel
theorem dX6_other_0 : decode cX6_other 0 = .ok (.aload_n 0, 1) := by decide +kernel
theorem dX6_other_1 : decode cX6_other 1 = .ok (.iconst 0, 1) := by decide +kernel
theorem dX6_other_2 : decode cX6_other 2 = .ok (.putfield 58, 3) := by decide +kernel
theorem dX6_other_5 : decode cX6_other 5 = .ok (.aload_n 0, 1) := by decide +kernel
theorem dX6_other_6 : decode cX6_other 6 = .ok (.iload_n 2, 1) := by decide +kernel
theorem dX6_other_7 : decode cX6_other 7 = .ok (.ifCond .lt 8, 3) := by decide +kernel
theorem dX6_other_10 : decode cX6_other 10 = .ok (.iload_n 2, 1) := by decide +kernel
theorem dX6_other_11 : decode cX6_other 11 = .ok (.iconst 2, 1) := by decide +kernel
theorem dX6_other_12 : decode cX6_other 12 = .ok (.if_icmp .le 7, 3) := by decide +kernel
theorem dX6_other_15 : decode cX6_other 15 = .ok (.iconst 1, 1) := by decide +kernel
theorem dX6_other_16 : decode cX6_other 16 = .ok (.goto 4, 3) := by decide +kernel
theorem dX6_other_19 : decode cX6_other 19 = .ok (.iconst 0, 1) := by decide +kernel
theorem dX6_other_20 : decode cX6_other 20 = .ok (.iconst 1, 1) := by decide +kernel
theorem dX6_other_21 : decode cX6_other 21 = .ok (.invokevirtual 64, 3) := by decide +kernel
theorem dX6_other_24 : decode cX6_other 24 = .ok (.ifCond .eq 5, 3) := by decide +kernel
theorem dX6_other_27 : decode cX6_other 27 = .ok (.iconst 0, 1) := by decide +kernel
theorem dX6_other_28 : decode cX6_other 28 = .ok (.ireturn, 1) := by decide +kernel
theorem dX6_other_29 : decode cX6_other 29 = .ok (.iload_n 1, 1) := by decide +kernel
theorem dX6_other_30 : decode cX6_other 30 = .ok (.ifCond .lt 19, 3) := by decide +kernel
theorem dX6_other_33 : decode cX6_other 33 = .ok (.iload_n 1, 1) := by decide +kernel
theorem dX6_other_34 : decode cX6_other 34 = .ok (.sipush 1000, 3) := by decide +kernel
theorem dX6_other_37 : decode cX6_other 37 = .ok (.if_icmp .gt 12, 3) := by decide +kernel
theorem dX6_other_40 : decode cX6_other 40 = .ok (.aload_n 0, 1) := by decide +kernel
theorem dX6_other_41 : decode cX6_other 41 = .ok (.iload_n 1, 1) := by decide +kernel
theorem dX6_other_42 : decode cX6_other 42 = .ok (.invokevirtual 142, 3) := by decide +kernel
theorem dX6_other_45 : decode cX6_other 45 = .ok (.iload_n 1, 1) := by decide +kernel
theorem dX6_other_46 : decode cX6_other 46 = .ok (.if_icmp .gt 5, 3) := by decide +kernel
theorem dX6_other_49 : decode cX6_other 49 = .ok (.iconst (-1), 1) := by decide +kernel
theorem dX6_other_50 : decode cX6_other 50 = .ok (.ireturn, 1) := by decide +kernel
theorem dX6_other_51 : decode cX6_other 51 = .ok (.iload_n 2, 1) := by decide +kernel
theorem dX6_other_52 : decode cX6_other 52 = .ok (.ifCond .ne 10, 3) := by decide +kernel
theorem dX6_other_55 : decode cX6_other 55 = .ok (.aload_n 0, 1) := by decide +kernel
theorem dX6_other_56 : decode cX6_other 56 = .ok (.getfield 136, 3) := by decide +kernel
theorem dX6_other_59 : decode cX6_other 59 = .ok (.goto 32, 3) := by decide +kernel
theorem dX6_other_62 : decode cX6_other 62 = .ok (.iload_n 2, 1) := by decide +kernel
theorem dX6_other_63 : decode cX6_other 63 = .ok (.iconst 1, 1) := by decide +kernel
theorem dX6_other_64 : decode cX6_other 64 = .ok (.if_icmp .ne 10, 3) := by decide +kernel
theorem dX6_other_67 : decode cX6_other 67 = .ok (.aload_n 0, 1) := by decide +kernel
theorem dX6_other_68 : decode cX6_other 68 = .ok (.getfield 139, 3) := by decide +kernel
theorem dX6_other_71 : decode cX6_other 71 = .ok (.goto 20, 3) := by decide +kernel
theorem dX6_other_74 : decode cX6_other 74 = .ok (.aload_n 0, 1) := by decide +kernel
theorem dX6_other_75 : decode cX6_other 75 = .ok (.aload_n 0, 1) := by decide +kernel
theorem dX6_other_76 : decode cX6_other 76 = .ok (.getfield 136, 3) := by decide +kernel
theorem dX6_other_79 : decode cX6_other 79 = .ok (.aload_n 0, 1) := by decide +kernel
theorem dX6_other_80 : decode cX6_other 80 = .ok (.getfield 139, 3) := by decide +kernel
theorem dX6_other_83 : decode cX6_other 83 = .ok (.invokevirtual 145, 3) := by decide +kernel
theorem dX6_other_86 : decode cX6_other 86 = .ok (.aload_n 0, 1) := by decide +kernel
theorem dX6_other_87 : decode cX6_other 87 = .ok (.getfield 106, 3) := by decide +kernel
theorem dX6_other_90 : decode cX6_other 90 = .ok (.isub, 1) := by decide +kernel
theorem dX6_other_91 : decode cX6_other 91 = .ok (.ireturn, 1) := by decide +kernel
theorem dX6_choose_0 : decode cX6_choose 0 = .ok (.aload_n 0, 1) := by decide +kernel
theorem dX6_choose_1 : decode cX6_choose 1 = .ok (.iconst 0, 1) := by decide +kernel
theorem dX6_choose_2 : decode cX6_choose 2 = .ok (.putfield 58, 3) := by decide +kernel
theorem dX6_choose_5 : decode cX6_choose 5 = .ok (.iload_n 1, 1) := by decide +kernel
theorem dX6_choose_6 : decode cX6_choose 6 = .ok (.ifCond .lt 19, 3) := by decide +kernel
theorem dX6_choose_9 : decode cX6_choose 9 = .ok (.iload_n 1, 1) := by decide +kernel
theorem dX6_choose_10 : decode cX6_choose 10 = .ok (.sipush 1000, 3) := by decide +kernel
theorem dX6_choose_13 : decode cX6_choose 13 = .ok (.if_icmp .gt 12, 3) := by decide +kernel
theorem dX6_choose_16 : decode cX6_choose 16 = .ok (.aload_n 0, 1) := by decide +kernel
theorem dX6_choose_17 : decode cX6_choose 17 = .ok (.iload_n 1, 1) := by decide +kernel
theorem dX6_choose_18 : decode cX6_choose 18 = .ok (.invokevirtual 142, 3) := by decide +kernel
theorem dX6_choose_21 : decode cX6_choose 21 = .ok (.iload_n 1, 1) := by decide +kernel
theorem dX6_choose_22 : decode cX6_choose 22 = .ok (.if_icmp .gt 5, 3) := by decide +kernel
theorem dX6_choose_25 : decode cX6_choose 25 = .ok (.iconst 0, 1) := by decide +kernel
theorem dX6_choose_26 : decode cX6_choose 26 = .ok (.ireturn, 1) := by decide +kernel
theorem dX6_choose_27 : decode cX6_choose 27 = .ok (.aload_n 0, 1) := by decide +kernel
theorem dX6_choose_28 : decode cX6_choose 28 = .ok (.aload_n 0, 1) := by decide +kernel
theorem dX6_choose_29 : decode cX6_choose 29 = .ok (.aload_n 0, 1) := by decide +kernel
theorem dX6_choose_30 : decode cX6_choose 30 = .ok (.getfield 136, 3) := by decide +kernel
theorem dX6_choose_33 : decode cX6_choose 33 = .ok (.aload_n 0, 1) := by decide +kernel
theorem dX6_choose_34 : decode cX6_choose 34 = .ok (.getfield 139, 3) := by decide +kernel
theorem dX6_choose_37 : decode cX6_choose 37 = .ok (.invokevirtual 145, 3) := by decide +kernel
theorem dX6_choose_40 : decode cX6_choose 40 = .ok (.putfield 106, 3) := by decide +kernel
theorem dX6_choose_43 : decode cX6_choose 43 = .ok (.aload_n 0, 1) := by decide +kernel
theorem dX6_choose_44 : decode cX6_choose 44 = .ok (.getfield 28, 3) := by decide +kernel
theorem dX6_choose_47 : decode cX6_choose 47 = .ok (.aload_n 0, 1) := by decide +kernel
theorem dX6_choose_48 : decode cX6_choose 48 = .ok (.getfield 136, 3) := by decide +kernel
theorem dX6_choose_51 : decode cX6_choose 51 = .ok (.aload_n 0, 1) := by decide +kernel
theorem dX6_choose_52 : decode cX6_choose 52 = .ok (.getfield 139, 3) := by decide +kernel
theorem dX6_choose_55 : decode cX6_choose 55 = .ok (.iastore, 1) := by decide +kernel
theorem dX6_choose_56 : decode cX6_choose 56 = .ok (.aload_n 0, 1) := by decide +kernel
theorem dX6_choose_57 : decode cX6_choose 57 = .ok (.iconst 0, 1) := by decide +kernel
theorem dX6_choose_58 : decode cX6_choose 58 = .ok (.putfield 117, 3) := by decide +kernel
theorem dX6_choose_61 : decode cX6_choose 61 = .ok (.iconst 1, 1) := by decide +kernel
theorem dX6_choose_62 : decode cX6_choose 62 = .ok (.ireturn, 1) := by decide +kernel
theorem dX6_batch_0 : decode cX6_batch 0 = .ok (.aload_n 0, 1) := by decide +kernel
theorem dX6_batch_1 : decode cX6_batch 1 = .ok (.iconst 0, 1) := by decide +kernel
theorem dX6_batch_2 : decode cX6_batch 2 = .ok (.putfield 58, 3) := by decide +kernel
theorem dX6_batch_5 : decode cX6_batch 5 = .ok (.aload_n 0, 1) := by decide +kernel
theorem dX6_batch_6 : decode cX6_batch 6 = .ok (.iload_n 1, 1) := by decide +kernel
theorem dX6_batch_7 : decode cX6_batch 7 = .ok (.ifCond .lt 9, 3) := by decide +kernel
theorem dX6_batch_10 : decode cX6_batch 10 = .ok (.iload_n 1, 1) := by decide +kernel
theorem dX6_batch_11 : decode cX6_batch 11 = .ok (.ldc 148, 2) := by decide +kernel
theorem dX6_batch_13 : decode cX6_batch 13 = .ok (.if_icmp .le 7, 3) := by decide +kernel
theorem dX6_batch_16 : decode cX6_batch 16 = .ok (.iconst 1, 1) := by decide +kernel
theorem dX6_batch_17 : decode cX6_batch 17 = .ok (.goto 4, 3) := by decide +kernel
theorem dX6_batch_20 : decode cX6_batch 20 = .ok (.iconst 0, 1) := by decide +kernel
theorem dX6_batch_21 : decode cX6_batch 21 = .ok (.iconst 1, 1) := by decide +kernel
theorem dX6_batch_22 : decode cX6_batch 22 = .ok (.invokevirtual 64, 3) := by decide +kernel
theorem dX6_batch_25 : decode cX6_batch 25 = .ok (.ifCond .ne 25, 3) := by decide +kernel
theorem dX6_batch_28 : decode cX6_batch 28 = .ok (.aload_n 0, 1) := by decide +kernel
theorem dX6_batch_29 : decode cX6_batch 29 = .ok (.aload_n 0, 1) := by decide +kernel
theorem dX6_batch_30 : decode cX6_batch 30 = .ok (.getfield 149, 3) := by decide +kernel
theorem dX6_batch_33 : decode cX6_batch 33 = .ok (.bipush 20, 2) := by decide +kernel
theorem dX6_batch_35 : decode cX6_batch 35 = .ok (.if_icmp .ne 7, 3) := by decide +kernel
theorem dX6_batch_38 : decode cX6_batch 38 = .ok (.iconst 1, 1) := by decide +kernel
theorem dX6_batch_39 : decode cX6_batch 39 = .ok (.goto 4, 3) := by decide +kernel
theorem dX6_batch_42 : decode cX6_batch 42 = .ok (.iconst 0, 1) := by decide +kernel
theorem dX6_batch_43 : decode cX6_batch 43 = .ok (.iconst 2, 1) := by decide +kernel
theorem dX6_batch_44 : decode cX6_batch 44 = .ok (.invokevirtual 64, 3) := by decide +kernel
theorem dX6_batch_47 : decode cX6_batch 47 = .ok (.ifCond .eq 5, 3) := by decide +kernel
theorem dX6_batch_50 : decode cX6_batch 50 = .ok (.iconst 0, 1) := by decide +kernel
theorem dX6_batch_51 : decode cX6_batch 51 = .ok (.ireturn, 1) := by decide +kernel
theorem dX6_batch_52 : decode cX6_batch 52 = .ok (.aload_n 0, 1) := by decide +kernel
theorem dX6_batch_53 : decode cX6_batch 53 = .ok (.getfield 40, 3) := by decide +kernel
theorem dX6_batch_56 : decode cX6_batch 56 = .ok (.aload_n 0, 1) := by decide +kernel
theorem dX6_batch_57 : decode cX6_batch 57 = .ok (.getfield 149, 3) := by decide +kernel
theorem dX6_batch_60 : decode cX6_batch 60 = .ok (.iload_n 1, 1) := by decide +kernel
theorem dX6_batch_61 : decode cX6_batch 61 = .ok (.iastore, 1) := by decide +kernel
theorem dX6_batch_62 : decode cX6_batch 62 = .ok (.aload_n 0, 1) := by decide +kernel
theorem dX6_batch_63 : decode cX6_batch 63 = .ok (.dup, 1) := by decide +kernel
theorem dX6_batch_64 : decode cX6_batch 64 = .ok (.getfield 149, 3) := by decide +kernel
theorem dX6_batch_67 : decode cX6_batch 67 = .ok (.iconst 1, 1) := by decide +kernel
theorem dX6_batch_68 : decode cX6_batch 68 = .ok (.iadd, 1) := by decide +kernel
theorem dX6_batch_69 : decode cX6_batch 69 = .ok (.putfield 149, 3) := by decide +kernel
theorem dX6_batch_72 : decode cX6_batch 72 = .ok (.aload_n 0, 1) := by decide +kernel
theorem dX6_batch_73 : decode cX6_batch 73 = .ok (.getfield 149, 3) := by decide +kernel
theorem dX6_batch_76 : decode cX6_batch 76 = .ok (.iconst 1, 1) := by decide +kernel
theorem dX6_batch_77 : decode cX6_batch 77 = .ok (.isub, 1) := by decide +kernel
theorem dX6_batch_78 : decode cX6_batch 78 = .ok (.ireturn, 1) := by decide +kernel
theorem dX6_isBatch_0 : decode cX6_isBatch 0 = .ok (.aload_n 0, 1) := by decide +kernel
theorem dX6_isBatch_1 : decode cX6_isBatch 1 = .ok (.iload_n 1, 1) := by decide +kernel
theorem dX6_isBatch_2 : decode cX6_isBatch 2 = .ok (.ifCond .lt 11, 3) := by decide +kernel
theorem dX6_isBatch_5 : decode cX6_isBatch 5 = .ok (.iload_n 1, 1) := by decide +kernel
theorem dX6_isBatch_6 : decode cX6_isBatch 6 = .ok (.aload_n 0, 1) := by decide +kernel
theorem dX6_isBatch_7 : decode cX6_isBatch 7 = .ok (.getfield 149, 3) := by decide +kernel
theorem dX6_isBatch_10 : decode cX6_isBatch 10 = .ok (.if_icmp .lt 7, 3) := by decide +kernel
theorem dX6_isBatch_13 : decode cX6_isBatch 13 = .ok (.iconst 1, 1) := by decide +kernel
theorem dX6_isBatch_14 : decode cX6_isBatch 14 = .ok (.goto 4, 3) := by decide +kernel
theorem dX6_isBatch_17 : decode cX6_isBatch 17 = .ok (.iconst 0, 1) := by decide +kernel
theorem dX6_isBatch_18 : decode cX6_isBatch 18 = .ok (.putfield 58, 3) := by decide +kernel
theorem dX6_isBatch_21 : decode cX6_isBatch 21 = .ok (.aload_n 0, 1) := by decide +kernel
theorem dX6_isBatch_22 : decode cX6_isBatch 22 = .ok (.getfield 58, 3) := by decide +kernel
theorem dX6_isBatch_25 : decode cX6_isBatch 25 = .ok (.ifCond .ne 7, 3) := by decide +kernel
theorem dX6_isBatch_28 : decode cX6_isBatch 28 = .ok (.iconst 1, 1) := by decide +kernel
theorem dX6_isBatch_29 : decode cX6_isBatch 29 = .ok (.goto 4, 3) := by decide +kernel
theorem dX6_isBatch_32 : decode cX6_isBatch 32 = .ok (.iconst 0, 1) := by decide +kernel
theorem dX6_isBatch_33 : decode cX6_isBatch 33 = .ok (.ireturn, 1) := by decide +kernel
theorem dX6_isAmount_0 : decode cX6_isAmount 0 = .ok (.lload_n 0, 1) := by decide +kernel
theorem dX6_isAmount_1 : decode cX6_isAmount 1 = .ok (.lconst 0, 1) := by decide +kernel
theorem dX6_isAmount_2 : decode cX6_isAmount 2 = .ok (.lcmp, 1) := by decide +kernel
theorem dX6_isAmount_3 : decode cX6_isAmount 3 = .ok (.ifCond .lt 15, 3) := by decide +kernel
theorem dX6_isAmount_6 : decode cX6_isAmount 6 = .ok (.lload_n 0, 1) := by decide +kernel
theorem dX6_isAmount_7 : decode cX6_isAmount 7 = .ok (.ldc2_w 152, 3) := by decide +kernel
theorem dX6_isAmount_10 : decode cX6_isAmount 10 = .ok (.lcmp, 1) := by decide +kernel
theorem dX6_isAmount_11 : decode cX6_isAmount 11 = .ok (.ifCond .gt 7, 3) := by decide +kernel
theorem dX6_isAmount_14 : decode cX6_isAmount 14 = .ok (.iconst 1, 1) := by decide +kernel
theorem dX6_isAmount_15 : decode cX6_isAmount 15 = .ok (.goto 4, 3) := by decide +kernel
theorem dX6_isAmount_18 : decode cX6_isAmount 18 = .ok (.iconst 0, 1) := by decide +kernel
theorem dX6_isAmount_19 : decode cX6_isAmount 19 = .ok (.ireturn, 1) := by decide +kernel
theorem dX6_twinOf_0 : decode cX6_twinOf 0 = .ok (.aload_n 0, 1) := by decide +kernel
theorem dX6_twinOf_1 : decode cX6_twinOf 1 = .ok (.invokevirtual 129, 3) := by decide +kernel
theorem dX6_twinOf_4 : decode cX6_twinOf 4 = .ok (.ifCond .ne 5, 3) := by decide +kernel
theorem dX6_twinOf_7 : decode cX6_twinOf 7 = .ok (.iconst (-1), 1) := by decide +kernel
theorem dX6_twinOf_8 : decode cX6_twinOf 8 = .ok (.ireturn, 1) := by decide +kernel
theorem dX6_twinOf_9 : decode cX6_twinOf 9 = .ok (.iconst 0, 1) := by decide +kernel
theorem dX6_twinOf_10 : decode cX6_twinOf 10 = .ok (.istore_n 1, 1) := by decide +kernel
theorem dX6_twinOf_11 : decode cX6_twinOf 11 = .ok (.iload_n 1, 1) := by decide +kernel
theorem dX6_twinOf_12 : decode cX6_twinOf 12 = .ok (.aload_n 0, 1) := by decide +kernel
theorem dX6_twinOf_13 : decode cX6_twinOf 13 = .ok (.getfield 154, 3) := by decide +kernel
theorem dX6_twinOf_16 : decode cX6_twinOf 16 = .ok (.if_icmp .ge 53, 3) := by decide +kernel
theorem dX6_twinOf_19 : decode cX6_twinOf 19 = .ok (.aload_n 0, 1) := by decide +kernel
theorem dX6_twinOf_20 : decode cX6_twinOf 20 = .ok (.getfield 49, 3) := by decide +kernel
theorem dX6_twinOf_23 : decode cX6_twinOf 23 = .ok (.iload_n 1, 1) := by decide +kernel
theorem dX6_twinOf_24 : decode cX6_twinOf 24 = .ok (.iaload, 1) := by decide +kernel
theorem dX6_twinOf_25 : decode cX6_twinOf 25 = .ok (.aload_n 0, 1) := by decide +kernel
theorem dX6_twinOf_26 : decode cX6_twinOf 26 = .ok (.iconst 0, 1) := by decide +kernel
theorem dX6_twinOf_27 : decode cX6_twinOf 27 = .ok (.invokevirtual 133, 3) := by decide +kernel
theorem dX6_twinOf_30 : decode cX6_twinOf 30 = .ok (.if_icmp .ne 33, 3) := by decide +kernel
theorem dX6_twinOf_33 : decode cX6_twinOf 33 = .ok (.aload_n 0, 1) := by decide +kernel
theorem dX6_twinOf_34 : decode cX6_twinOf 34 = .ok (.getfield 52, 3) := by decide +kernel
theorem dX6_twinOf_37 : decode cX6_twinOf 37 = .ok (.iload_n 1, 1) := by decide +kernel
theorem dX6_twinOf_38 : decode cX6_twinOf 38 = .ok (.iaload, 1) := by decide +kernel
theorem dX6_twinOf_39 : decode cX6_twinOf 39 = .ok (.aload_n 0, 1) := by decide +kernel
theorem dX6_twinOf_40 : decode cX6_twinOf 40 = .ok (.iconst 1, 1) := by decide +kernel
theorem dX6_twinOf_41 : decode cX6_twinOf 41 = .ok (.invokevirtual 133, 3) := by decide +kernel
theorem dX6_twinOf_44 : decode cX6_twinOf 44 = .ok (.if_icmp .ne 19, 3) := by decide +kernel
theorem dX6_twinOf_47 : decode cX6_twinOf 47 = .ok (.aload_n 0, 1) := by decide +kernel
theorem dX6_twinOf_48 : decode cX6_twinOf 48 = .ok (.getfield 55, 3) := by decide +kernel
theorem dX6_twinOf_51 : decode cX6_twinOf 51 = .ok (.iload_n 1, 1) := by decide +kernel
theorem dX6_twinOf_52 : decode cX6_twinOf 52 = .ok (.iaload, 1) := by decide +kernel
theorem dX6_twinOf_53 : decode cX6_twinOf 53 = .ok (.aload_n 0, 1) := by decide +kernel
theorem dX6_twinOf_54 : decode cX6_twinOf 54 = .ok (.iconst 2, 1) := by decide +kernel
theorem dX6_twinOf_55 : decode cX6_twinOf 55 = .ok (.invokevirtual 133, 3) := by decide +kernel
theorem dX6_twinOf_58 : decode cX6_twinOf 58 = .ok (.if_icmp .ne 5, 3) := by decide +kernel
theorem dX6_twinOf_61 : decode cX6_twinOf 61 = .ok (.iload_n 1, 1) := by decide +kernel
theorem dX6_twinOf_62 : decode cX6_twinOf 62 = .ok (.ireturn, 1) := by decide +kernel
theorem dX6_twinOf_63 : decode cX6_twinOf 63 = .ok (.iinc 1 1, 3) := by decide +kernel
theorem dX6_twinOf_66 : decode cX6_twinOf 66 = .ok (.goto (-55), 3) := by decide +kernel
theorem dX6_twinOf_69 : decode cX6_twinOf 69 = .ok (.iconst (-1), 1) := by decide +kernel
theorem dX6_twinOf_70 : decode cX6_twinOf 70 = .ok (.ireturn, 1) := by decide +kernel
theorem dX6_twin_0 : decode cX6_twin 0 = .ok (.aload_n 0, 1) := by decide +kernel
theorem dX6_twin_1 : decode cX6_twin 1 = .ok (.iconst 0, 1) := by decide +kernel
theorem dX6_twin_2 : decode cX6_twin 2 = .ok (.putfield 58, 3) := by decide +kernel
theorem dX6_twin_5 : decode cX6_twin 5 = .ok (.aload_n 0, 1) := by decide +kernel
theorem dX6_twin_6 : decode cX6_twin 6 = .ok (.invokevirtual 157, 3) := by decide +kernel
theorem dX6_twin_9 : decode cX6_twin 9 = .ok (.ireturn, 1) := by decide +kernel
theorem dX6_paper_0 : decode cX6_paper 0 = .ok (.aload_n 0, 1) := by decide +kernel
theorem dX6_paper_1 : decode cX6_paper 1 = .ok (.iload_n 1, 1) := by decide +kernel
theorem dX6_paper_2 : decode cX6_paper 2 = .ok (.invokevirtual 160, 3) := by decide +kernel
theorem dX6_paper_5 : decode cX6_paper 5 = .ok (.ifCond .eq 24, 3) := by decide +kernel
theorem dX6_paper_8 : decode cX6_paper 8 = .ok (.aload_n 0, 1) := by decide +kernel
theorem dX6_paper_9 : decode cX6_paper 9 = .ok (.iload_n 2, 1) := by decide +kernel
theorem dX6_paper_10 : decode cX6_paper 10 = .ok (.i2l, 1) := by decide +kernel
theorem dX6_paper_11 : decode cX6_paper 11 = .ok (.invokestatic 164, 3) := by decide +kernel
theorem dX6_paper_14 : decode cX6_paper 14 = .ok (.ifCond .ne 7, 3) := by decide +kernel
theorem dX6_paper_17 : decode cX6_paper 17 = .ok (.iconst 1, 1) := by decide +kernel
theorem dX6_paper_18 : decode cX6_paper 18 = .ok (.goto 4, 3) := by decide +kernel
theorem dX6_paper_21 : decode cX6_paper 21 = .ok (.iconst 0, 1) := by decide +kernel
theorem dX6_paper_22 : decode cX6_paper 22 = .ok (.iconst 2, 1) := by decide +kernel
theorem dX6_paper_23 : decode cX6_paper 23 = .ok (.invokevirtual 64, 3) := by decide +kernel
theorem dX6_paper_26 : decode cX6_paper 26 = .ok (.ifCond .eq 5, 3) := by decide +kernel
theorem dX6_paper_29 : decode cX6_paper 29 = .ok (.iconst 0, 1) := by decide +kernel
theorem dX6_paper_30 : decode cX6_paper 30 = .ok (.ireturn, 1) := by decide +kernel
theorem dX6_paper_31 : decode cX6_paper 31 = .ok (.aload_n 0, 1) := by decide +kernel
theorem dX6_paper_32 : decode cX6_paper 32 = .ok (.invokevirtual 129, 3) := by decide +kernel
theorem dX6_paper_35 : decode cX6_paper 35 = .ok (.ifCond .ne 5, 3) := by decide +kernel
