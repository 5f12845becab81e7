theorem dX6_paper_38 : decode cX6_paper 38 = .ok (.iconst (-1), 1) := by decide +kernel
theorem dX6_paper_39 : decode cX6_paper 39 = .ok (.ireturn, 1) := by decide +kernel
theorem dX6_paper_40 : decode cX6_paper 40 = .ok (.aload_n 0, 1) := by decide +kernel
theorem dX6_paper_41 : decode cX6_paper 41 = .ok (.invokevirtual 157, 3) := by decide +kernel
theorem dX6_paper_44 : decode cX6_paper 44 = .ok (.ifCond .lt 6, 3) := by decide +kernel
theorem dX6_paper_47 : decode cX6_paper 47 = .ok (.bipush (-2), 2) := by decide +kernel
theorem dX6_paper_49 : decode cX6_paper 49 = .ok (.ireturn, 1) := by decide +kernel
theorem dX6_paper_50 : decode cX6_paper 50 = .ok (.aload_n 0, 1) := by decide +kernel
theorem dX6_paper_51 : decode cX6_paper 51 = .ok (.getfield 154, 3) := by decide +kernel
theorem dX6_paper_54 : decode cX6_paper 54 = .ok (.bipush 100, 2) := by decide +kernel
theorem dX6_paper_56 : decode cX6_paper 56 = .ok (.if_icmp .ne 6, 3) := by decide +kernel
theorem dX6_paper_59 : decode cX6_paper 59 = .ok (.bipush (-3), 2) := by decide +kernel
theorem dX6_paper_61 : decode cX6_paper 61 = .ok (.ireturn, 1) := by decide +kernel
theorem dX6_paper_62 : decode cX6_paper 62 = .ok (.aload_n 0, 1) := by decide +kernel
theorem dX6_paper_63 : decode cX6_paper 63 = .ok (.getfield 43, 3) := by decide +kernel
theorem dX6_paper_66 : decode cX6_paper 66 = .ok (.aload_n 0, 1) := by decide +kernel
theorem dX6_paper_67 : decode cX6_paper 67 = .ok (.getfield 154, 3) := by decide +kernel
theorem dX6_paper_70 : decode cX6_paper 70 = .ok (.iload_n 1, 1) := by decide +kernel
theorem dX6_paper_71 : decode cX6_paper 71 = .ok (.iastore, 1) := by decide +kernel
theorem dX6_paper_72 : decode cX6_paper 72 = .ok (.aload_n 0, 1) := by decide +kernel
theorem dX6_paper_73 : decode cX6_paper 73 = .ok (.getfield 46, 3) := by decide +kernel
theorem dX6_paper_76 : decode cX6_paper 76 = .ok (.aload_n 0, 1) := by decide +kernel
theorem dX6_paper_77 : decode cX6_paper 77 = .ok (.getfield 154, 3) := by decide +kernel
theorem dX6_paper_80 : decode cX6_paper 80 = .ok (.iload_n 2, 1) := by decide +kernel
theorem dX6_paper_81 : decode cX6_paper 81 = .ok (.iastore, 1) := by decide +kernel
theorem dX6_paper_82 : decode cX6_paper 82 = .ok (.aload_n 0, 1) := by decide +kernel
theorem dX6_paper_83 : decode cX6_paper 83 = .ok (.getfield 49, 3) := by decide +kernel
theorem dX6_paper_86 : decode cX6_paper 86 = .ok (.aload_n 0, 1) := by decide +kernel
theorem dX6_paper_87 : decode cX6_paper 87 = .ok (.getfield 154, 3) := by decide +kernel
theorem dX6_paper_90 : decode cX6_paper 90 = .ok (.aload_n 0, 1) := by decide +kernel
theorem dX6_paper_91 : decode cX6_paper 91 = .ok (.iconst 0, 1) := by decide +kernel
theorem dX6_paper_92 : decode cX6_paper 92 = .ok (.invokevirtual 133, 3) := by decide +kernel
theorem dX6_paper_95 : decode cX6_paper 95 = .ok (.iastore, 1) := by decide +kernel
theorem dX6_paper_96 : decode cX6_paper 96 = .ok (.aload_n 0, 1) := by decide +kernel
theorem dX6_paper_97 : decode cX6_paper 97 = .ok (.getfield 52, 3) := by decide +kernel
theorem dX6_paper_100 : decode cX6_paper 100 = .ok (.aload_n 0, 1) := by decide +kernel
theorem dX6_paper_101 : decode cX6_paper 101 = .ok (.getfield 154, 3) := by decide +kernel
theorem dX6_paper_104 : decode cX6_paper 104 = .ok (.aload_n 0, 1) := by decide +kernel
theorem dX6_paper_105 : decode cX6_paper 105 = .ok (.iconst 1, 1) := by decide +kernel
theorem dX6_paper_106 : decode cX6_paper 106 = .ok (.invokevirtual 133, 3) := by decide +kernel
theorem dX6_paper_109 : decode cX6_paper 109 = .ok (.iastore, 1) := by decide +kernel
theorem dX6_paper_110 : decode cX6_paper 110 = .ok (.aload_n 0, 1) := by decide +kernel
theorem dX6_paper_111 : decode cX6_paper 111 = .ok (.getfield 55, 3) := by decide +kernel
theorem dX6_paper_114 : decode cX6_paper 114 = .ok (.aload_n 0, 1) := by decide +kernel
theorem dX6_paper_115 : decode cX6_paper 115 = .ok (.getfield 154, 3) := by decide +kernel
theorem dX6_paper_118 : decode cX6_paper 118 = .ok (.aload_n 0, 1) := by decide +kernel
theorem dX6_paper_119 : decode cX6_paper 119 = .ok (.iconst 2, 1) := by decide +kernel
theorem dX6_paper_120 : decode cX6_paper 120 = .ok (.invokevirtual 133, 3) := by decide +kernel
theorem dX6_paper_123 : decode cX6_paper 123 = .ok (.iastore, 1) := by decide +kernel
theorem dX6_paper_124 : decode cX6_paper 124 = .ok (.aload_n 0, 1) := by decide +kernel
theorem dX6_paper_125 : decode cX6_paper 125 = .ok (.dup, 1) := by decide +kernel
theorem dX6_paper_126 : decode cX6_paper 126 = .ok (.getfield 154, 3) := by decide +kernel
theorem dX6_paper_129 : decode cX6_paper 129 = .ok (.iconst 1, 1) := by decide +kernel
theorem dX6_paper_130 : decode cX6_paper 130 = .ok (.iadd, 1) := by decide +kernel
theorem dX6_paper_131 : decode cX6_paper 131 = .ok (.putfield 154, 3) := by decide +kernel
theorem dX6_paper_134 : decode cX6_paper 134 = .ok (.aload_n 0, 1) := by decide +kernel
theorem dX6_paper_135 : decode cX6_paper 135 = .ok (.iconst 0, 1) := by decide +kernel
theorem dX6_paper_136 : decode cX6_paper 136 = .ok (.putfield 123, 3) := by decide +kernel
theorem dX6_paper_139 : decode cX6_paper 139 = .ok (.aload_n 0, 1) := by decide +kernel
theorem dX6_paper_140 : decode cX6_paper 140 = .ok (.getfield 154, 3) := by decide +kernel
theorem dX6_paper_143 : decode cX6_paper 143 = .ok (.iconst 1, 1) := by decide +kernel
theorem dX6_paper_144 : decode cX6_paper 144 = .ok (.isub, 1) := by decide +kernel
theorem dX6_paper_145 : decode cX6_paper 145 = .ok (.ireturn, 1) := by decide +kernel
theorem dX6_amount_0 : decode cX6_amount 0 = .ok (.aload_n 0, 1) := by decide +kernel
theorem dX6_amount_1 : decode cX6_amount 1 = .ok (.iconst 0, 1) := by decide +kernel
theorem dX6_amount_2 : decode cX6_amount 2 = .ok (.putfield 58, 3) := by decide +kernel
theorem dX6_amount_5 : decode cX6_amount 5 = .ok (.aload_n 0, 1) := by decide +kernel
theorem dX6_amount_6 : decode cX6_amount 6 = .ok (.iload_n 1, 1) := by decide +kernel
theorem dX6_amount_7 : decode cX6_amount 7 = .ok (.ifCond .lt 11, 3) := by decide +kernel
theorem dX6_amount_10 : decode cX6_amount 10 = .ok (.iload_n 1, 1) := by decide +kernel
theorem dX6_amount_11 : decode cX6_amount 11 = .ok (.aload_n 0, 1) := by decide +kernel
theorem dX6_amount_12 : decode cX6_amount 12 = .ok (.getfield 154, 3) := by decide +kernel
theorem dX6_amount_15 : decode cX6_amount 15 = .ok (.if_icmp .lt 7, 3) := by decide +kernel
theorem dX6_amount_18 : decode cX6_amount 18 = .ok (.iconst 1, 1) := by decide +kernel
theorem dX6_amount_19 : decode cX6_amount 19 = .ok (.goto 4, 3) := by decide +kernel
theorem dX6_amount_22 : decode cX6_amount 22 = .ok (.iconst 0, 1) := by decide +kernel
theorem dX6_amount_23 : decode cX6_amount 23 = .ok (.iconst 1, 1) := by decide +kernel
theorem dX6_amount_24 : decode cX6_amount 24 = .ok (.invokevirtual 64, 3) := by decide +kernel
theorem dX6_amount_27 : decode cX6_amount 27 = .ok (.ifCond .ne 24, 3) := by decide +kernel
theorem dX6_amount_30 : decode cX6_amount 30 = .ok (.aload_n 0, 1) := by decide +kernel
theorem dX6_amount_31 : decode cX6_amount 31 = .ok (.iload_n 2, 1) := by decide +kernel
theorem dX6_amount_32 : decode cX6_amount 32 = .ok (.i2l, 1) := by decide +kernel
theorem dX6_amount_33 : decode cX6_amount 33 = .ok (.invokestatic 164, 3) := by decide +kernel
theorem dX6_amount_36 : decode cX6_amount 36 = .ok (.ifCond .ne 7, 3) := by decide +kernel
theorem dX6_amount_39 : decode cX6_amount 39 = .ok (.iconst 1, 1) := by decide +kernel
theorem dX6_amount_40 : decode cX6_amount 40 = .ok (.goto 4, 3) := by decide +kernel
theorem dX6_amount_43 : decode cX6_amount 43 = .ok (.iconst 0, 1) := by decide +kernel
theorem dX6_amount_44 : decode cX6_amount 44 = .ok (.iconst 2, 1) := by decide +kernel
theorem dX6_amount_45 : decode cX6_amount 45 = .ok (.invokevirtual 64, 3) := by decide +kernel
theorem dX6_amount_48 : decode cX6_amount 48 = .ok (.ifCond .eq 5, 3) := by decide +kernel
theorem dX6_amount_51 : decode cX6_amount 51 = .ok (.iconst 0, 1) := by decide +kernel
theorem dX6_amount_52 : decode cX6_amount 52 = .ok (.ireturn, 1) := by decide +kernel
theorem dX6_amount_53 : decode cX6_amount 53 = .ok (.aload_n 0, 1) := by decide +kernel
theorem dX6_amount_54 : decode cX6_amount 54 = .ok (.getfield 46, 3) := by decide +kernel
theorem dX6_amount_57 : decode cX6_amount 57 = .ok (.iload_n 1, 1) := by decide +kernel
theorem dX6_amount_58 : decode cX6_amount 58 = .ok (.iaload, 1) := by decide +kernel
theorem dX6_amount_59 : decode cX6_amount 59 = .ok (.istore_n 3, 1) := by decide +kernel
theorem dX6_amount_60 : decode cX6_amount 60 = .ok (.aload_n 0, 1) := by decide +kernel
theorem dX6_amount_61 : decode cX6_amount 61 = .ok (.getfield 46, 3) := by decide +kernel
theorem dX6_amount_64 : decode cX6_amount 64 = .ok (.iload_n 1, 1) := by decide +kernel
theorem dX6_amount_65 : decode cX6_amount 65 = .ok (.iload_n 2, 1) := by decide +kernel
theorem dX6_amount_66 : decode cX6_amount 66 = .ok (.iastore, 1) := by decide +kernel
theorem dX6_amount_67 : decode cX6_amount 67 = .ok (.iload_n 3, 1) := by decide +kernel
theorem dX6_amount_68 : decode cX6_amount 68 = .ok (.ireturn, 1) := by decide +kernel
theorem dX6_outOf_0 : decode cX6_outOf 0 = .ok (.aload_n 0, 1) := by decide +kernel
theorem dX6_outOf_1 : decode cX6_outOf 1 = .ok (.getfield 40, 3) := by decide +kernel
theorem dX6_outOf_4 : decode cX6_outOf 4 = .ok (.iload_n 1, 1) := by decide +kernel
theorem dX6_outOf_5 : decode cX6_outOf 5 = .ok (.iaload, 1) := by decide +kernel
theorem dX6_outOf_6 : decode cX6_outOf 6 = .ok (.ineg, 1) := by decide +kernel
theorem dX6_outOf_7 : decode cX6_outOf 7 = .ok (.i2l, 1) := by decide +kernel
theorem dX6_outOf_8 : decode cX6_outOf 8 = .ok (.lstore_n 2, 1) := by decide +kernel
theorem dX6_outOf_9 : decode cX6_outOf 9 = .ok (.iconst 0, 1) := by decide +kernel
theorem dX6_outOf_10 : decode cX6_outOf 10 = .ok (.istore 4, 2) := by decide +kernel
theorem dX6_outOf_12 : decode cX6_outOf 12 = .ok (.iload 4, 2) := by decide +kernel
theorem dX6_outOf_14 : decode cX6_outOf 14 = .ok (.aload_n 0, 1) := by decide +kernel
theorem dX6_outOf_15 : decode cX6_outOf 15 = .ok (.getfield 154, 3) := by decide +kernel
theorem dX6_outOf_18 : decode cX6_outOf 18 = .ok (.if_icmp .ge 35, 3) := by decide +kernel
theorem dX6_outOf_21 : decode cX6_outOf 21 = .ok (.lload_n 2, 1) := by decide +kernel
theorem dX6_outOf_22 : decode cX6_outOf 22 = .ok (.aload_n 0, 1) := by decide +kernel
theorem dX6_outOf_23 : decode cX6_outOf 23 = .ok (.getfield 43, 3) := by decide +kernel
theorem dX6_outOf_26 : decode cX6_outOf 26 = .ok (.iload 4, 2) := by decide +kernel
theorem dX6_outOf_28 : decode cX6_outOf 28 = .ok (.iaload, 1) := by decide +kernel
theorem dX6_outOf_29 : decode cX6_outOf 29 = .ok (.iload_n 1, 1) := by decide +kernel
theorem dX6_outOf_30 : decode cX6_outOf 30 = .ok (.if_icmp .ne 14, 3) := by decide +kernel
theorem dX6_outOf_33 : decode cX6_outOf 33 = .ok (.aload_n 0, 1) := by decide +kernel
theorem dX6_outOf_34 : decode cX6_outOf 34 = .ok (.getfield 46, 3) := by decide +kernel
theorem dX6_outOf_37 : decode cX6_outOf 37 = .ok (.iload 4, 2) := by decide +kernel
theorem dX6_outOf_39 : decode cX6_outOf 39 = .ok (.iaload, 1) := by decide +kernel
theorem dX6_outOf_40 : decode cX6_outOf 40 = .ok (.i2l, 1) := by decide +kernel
theorem dX6_outOf_41 : decode cX6_outOf 41 = .ok (.goto 4, 3) := by decide +kernel
theorem dX6_outOf_44 : decode cX6_outOf 44 = .ok (.lconst 0, 1) := by decide +kernel
theorem dX6_outOf_45 : decode cX6_outOf 45 = .ok (.ladd, 1) := by decide +kernel
theorem dX6_outOf_46 : decode cX6_outOf 46 = .ok (.lstore_n 2, 1) := by decide +kernel
theorem dX6_outOf_47 : decode cX6_outOf 47 = .ok (.iinc 4 1, 3) := by decide +kernel
theorem dX6_outOf_50 : decode cX6_outOf 50 = .ok (.goto (-38), 3) := by decide +kernel
theorem dX6_outOf_53 : decode cX6_outOf 53 = .ok (.lload_n 2, 1) := by decide +kernel
theorem dX6_outOf_54 : decode cX6_outOf 54 = .ok (.lreturn, 1) := by decide +kernel
theorem dX6_out_0 : decode cX6_out 0 = .ok (.aload_n 0, 1) := by decide +kernel
theorem dX6_out_1 : decode cX6_out 1 = .ok (.iload_n 1, 1) := by decide +kernel
theorem dX6_out_2 : decode cX6_out 2 = .ok (.invokevirtual 160, 3) := by decide +kernel
theorem dX6_out_5 : decode cX6_out 5 = .ok (.ifCond .eq 11, 3) := by decide +kernel
theorem dX6_out_8 : decode cX6_out 8 = .ok (.aload_n 0, 1) := by decide +kernel
theorem dX6_out_9 : decode cX6_out 9 = .ok (.iload_n 1, 1) := by decide +kernel
theorem dX6_out_10 : decode cX6_out 10 = .ok (.invokevirtual 168, 3) := by decide +kernel
theorem dX6_out_13 : decode cX6_out 13 = .ok (.goto 4, 3) := by decide +kernel
theorem dX6_out_16 : decode cX6_out 16 = .ok (.lconst 0, 1) := by decide +kernel
theorem dX6_out_17 : decode cX6_out 17 = .ok (.lreturn, 1) := by decide +kernel
theorem dX6_isSlip_0 : decode cX6_isSlip 0 = .ok (.iconst 0, 1) := by decide +kernel
theorem dX6_isSlip_1 : decode cX6_isSlip 1 = .ok (.istore_n 3, 1) := by decide +kernel
theorem dX6_isSlip_2 : decode cX6_isSlip 2 = .ok (.iconst 0, 1) := by decide +kernel
theorem dX6_isSlip_3 : decode cX6_isSlip 3 = .ok (.istore 4, 2) := by decide +kernel
theorem dX6_isSlip_5 : decode cX6_isSlip 5 = .ok (.iload_n 1, 1) := by decide +kernel
theorem dX6_isSlip_6 : decode cX6_isSlip 6 = .ok (.istore 5, 2) := by decide +kernel
theorem dX6_isSlip_8 : decode cX6_isSlip 8 = .ok (.iload_n 2, 1) := by decide +kernel
theorem dX6_isSlip_9 : decode cX6_isSlip 9 = .ok (.istore 6, 2) := by decide +kernel
theorem dX6_isSlip_11 : decode cX6_isSlip 11 = .ok (.iconst 0, 1) := by decide +kernel
theorem dX6_isSlip_12 : decode cX6_isSlip 12 = .ok (.istore 7, 2) := by decide +kernel
theorem dX6_isSlip_14 : decode cX6_isSlip 14 = .ok (.iload 7, 2) := by decide +kernel
theorem dX6_isSlip_16 : decode cX6_isSlip 16 = .ok (.bipush 7, 2) := by decide +kernel
theorem dX6_isSlip_18 : decode cX6_isSlip 18 = .ok (.if_icmp .ge 52, 3) := by decide +kernel
theorem dX6_isSlip_21 : decode cX6_isSlip 21 = .ok (.iload 5, 2) := by decide +kernel
theorem dX6_isSlip_23 : decode cX6_isSlip 23 = .ok (.bipush 10, 2) := by decide +kernel
theorem dX6_isSlip_25 : decode cX6_isSlip 25 = .ok (.irem, 1) := by decide +kernel
theorem dX6_isSlip_26 : decode cX6_isSlip 26 = .ok (.iload 6, 2) := by decide +kernel
theorem dX6_isSlip_28 : decode cX6_isSlip 28 = .ok (.bipush 10, 2) := by decide +kernel
theorem dX6_isSlip_30 : decode cX6_isSlip 30 = .ok (.irem, 1) := by decide +kernel
theorem dX6_isSlip_31 : decode cX6_isSlip 31 = .ok (.if_icmp .eq 19, 3) := by decide +kernel
theorem dX6_isSlip_34 : decode cX6_isSlip 34 = .ok (.iload_n 3, 1) := by decide +kernel
theorem dX6_isSlip_35 : decode cX6_isSlip 35 = .ok (.ifCond .ne 8, 3) := by decide +kernel
theorem dX6_isSlip_38 : decode cX6_isSlip 38 = .ok (.iload 7, 2) := by decide +kernel
theorem dX6_isSlip_40 : decode cX6_isSlip 40 = .ok (.goto 5, 3) := by decide +kernel
theorem dX6_isSlip_43 : decode cX6_isSlip 43 = .ok (.iload 4, 2) := by decide +kernel
theorem dX6_isSlip_45 : decode cX6_isSlip 45 = .ok (.istore 4, 2) := by decide +kernel
theorem dX6_isSlip_47 : decode cX6_isSlip 47 = .ok (.iinc 3 1, 3) := by decide +kernel
theorem dX6_isSlip_50 : decode cX6_isSlip 50 = .ok (.iload 5, 2) := by decide +kernel
theorem dX6_isSlip_52 : decode cX6_isSlip 52 = .ok (.bipush 10, 2) := by decide +kernel
theorem dX6_isSlip_54 : decode cX6_isSlip 54 = .ok (.idiv, 1) := by decide +kernel
theorem dX6_isSlip_55 : decode cX6_isSlip 55 = .ok (.istore 5, 2) := by decide +kernel
theorem dX6_isSlip_57 : decode cX6_isSlip 57 = .ok (.iload 6, 2) := by decide +kernel
theorem dX6_isSlip_59 : decode cX6_isSlip 59 = .ok (.bipush 10, 2) := by decide +kernel
theorem dX6_isSlip_61 : decode cX6_isSlip 61 = .ok (.idiv, 1) := by decide +kernel
theorem dX6_isSlip_62 : decode cX6_isSlip 62 = .ok (.istore 6, 2) := by decide +kernel
theorem dX6_isSlip_64 : decode cX6_isSlip 64 = .ok (.iinc 7 1, 3) := by decide +kernel
theorem dX6_isSlip_67 : decode cX6_isSlip 67 = .ok (.goto (-53), 3) := by decide +kernel
theorem dX6_isSlip_70 : decode cX6_isSlip 70 = .ok (.iload_n 0, 1) := by decide +kernel
theorem dX6_isSlip_71 : decode cX6_isSlip 71 = .ok (.ifCond .ne 14, 3) := by decide +kernel
theorem dX6_isSlip_74 : decode cX6_isSlip 74 = .ok (.iload_n 3, 1) := by decide +kernel
theorem dX6_isSlip_75 : decode cX6_isSlip 75 = .ok (.iconst 1, 1) := by decide +kernel
theorem dX6_isSlip_76 : decode cX6_isSlip 76 = .ok (.if_icmp .ne 7, 3) := by decide +kernel
theorem dX6_isSlip_79 : decode cX6_isSlip 79 = .ok (.iconst 1, 1) := by decide +kernel
theorem dX6_isSlip_80 : decode cX6_isSlip 80 = .ok (.goto 4, 3) := by decide +kernel
theorem dX6_isSlip_83 : decode cX6_isSlip 83 = .ok (.iconst 0, 1) := by decide +kernel
theorem dX6_isSlip_84 : decode cX6_isSlip 84 = .ok (.ireturn, 1) := by decide +kernel
theorem dX6_isSlip_85 : decode cX6_isSlip 85 = .ok (.iload_n 3, 1) := by decide +kernel
theorem dX6_isSlip_86 : decode cX6_isSlip 86 = .ok (.iconst 2, 1) := by decide +kernel
theorem dX6_isSlip_87 : decode cX6_isSlip 87 = .ok (.if_icmp .eq 5, 3) := by decide +kernel
theorem dX6_isSlip_90 : decode cX6_isSlip 90 = .ok (.iconst 0, 1) := by decide +kernel
theorem dX6_isSlip_91 : decode cX6_isSlip 91 = .ok (.ireturn, 1) := by decide +kernel
theorem dX6_isSlip_92 : decode cX6_isSlip 92 = .ok (.iconst 1, 1) := by decide +kernel
theorem dX6_isSlip_93 : decode cX6_isSlip 93 = .ok (.istore 7, 2) := by decide +kernel
theorem dX6_isSlip_95 : decode cX6_isSlip 95 = .ok (.iconst 0, 1) := by decide +kernel
theorem dX6_isSlip_96 : decode cX6_isSlip 96 = .ok (.istore 8, 2) := by decide +kernel
theorem dX6_isSlip_98 : decode cX6_isSlip 98 = .ok (.iload 8, 2) := by decide +kernel
theorem dX6_isSlip_100 : decode cX6_isSlip 100 = .ok (.iload 4, 2) := by decide +kernel
theorem dX6_isSlip_102 : decode cX6_isSlip 102 = .ok (.if_icmp .ge 16, 3) := by decide +kernel
theorem dX6_isSlip_105 : decode cX6_isSlip 105 = .ok (.iload 7, 2) := by decide +kernel
theorem dX6_isSlip_107 : decode cX6_isSlip 107 = .ok (.bipush 10, 2) := by decide +kernel
theorem dX6_isSlip_109 : decode cX6_isSlip 109 = .ok (.imul, 1) := by decide +kernel
theorem dX6_isSlip_110 : decode cX6_isSlip 110 = .ok (.istore 7, 2) := by decide +kernel
theorem dX6_isSlip_112 : decode cX6_isSlip 112 = .ok (.iinc 8 1, 3) := by decide +kernel
theorem dX6_isSlip_115 : decode cX6_isSlip 115 = .ok (.goto (-17), 3) := by decide +kernel
theorem dX6_isSlip_118 : decode cX6_isSlip 118 = .ok (.iload_n 1, 1) := by decide +kernel
theorem dX6_isSlip_119 : decode cX6_isSlip 119 = .ok (.iload 7, 2) := by decide +kernel
theorem dX6_isSlip_121 : decode cX6_isSlip 121 = .ok (.idiv, 1) := by decide +kernel
theorem dX6_isSlip_122 : decode cX6_isSlip 122 = .ok (.bipush 10, 2) := by decide +kernel
theorem dX6_isSlip_124 : decode cX6_isSlip 124 = .ok (.irem, 1) := by decide +kernel
theorem dX6_isSlip_125 : decode cX6_isSlip 125 = .ok (.iload_n 2, 1) := by decide +kernel
theorem dX6_isSlip_126 : decode cX6_isSlip 126 = .ok (.iload 7, 2) := by decide +kernel
theorem dX6_isSlip_128 : decode cX6_isSlip 128 = .ok (.idiv, 1) := by decide +kernel
theorem dX6_isSlip_129 : decode cX6_isSlip 129 = .ok (.bipush 10, 2) := by decide +kernel
theorem dX6_isSlip_131 : decode cX6_isSlip 131 = .ok (.idiv, 1) := by decide +kernel
theorem dX6_isSlip_132 : decode cX6_isSlip 132 = .ok (.bipush 10, 2) := by decide +kernel
theorem dX6_isSlip_134 : decode cX6_isSlip 134 = .ok (.irem, 1) := by decide +kernel
theorem dX6_isSlip_135 : decode cX6_isSlip 135 = .ok (.if_icmp .ne 27, 3) := by decide +kernel
theorem dX6_isSlip_138 : decode cX6_isSlip 138 = .ok (.iload_n 1, 1) := by decide +kernel
theorem dX6_isSlip_139 : decode cX6_isSlip 139 = .ok (.iload 7, 2) := by decide +kernel
theorem dX6_isSlip_141 : decode cX6_isSlip 141 = .ok (.idiv, 1) := by decide +kernel
theorem dX6_isSlip_142 : decode cX6_isSlip 142 = .ok (.bipush 10, 2) := by decide +kernel
theorem dX6_isSlip_144 : decode cX6_isSlip 144 = .ok (.idiv, 1) := by decide +kernel
theorem dX6_isSlip_145 : decode cX6_isSlip 145 = .ok (.bipush 10, 2) := by decide +kernel
theorem dX6_isSlip_147 : decode cX6_isSlip 147 = .ok (.irem, 1) := by decide +kernel
theorem dX6_isSlip_148 : decode cX6_isSlip 148 = .ok (.iload_n 2, 1) := by decide +kernel
theorem dX6_isSlip_149 : decode cX6_isSlip 149 = .ok (.iload 7, 2) := by decide +kernel
theorem dX6_isSlip_151 : decode cX6_isSlip 151 = .ok (.idiv, 1) := by decide +kernel
theorem dX6_isSlip_152 : decode cX6_isSlip 152 = .ok (.bipush 10, 2) := by decide +kernel
theorem dX6_isSlip_154 : decode cX6_isSlip 154 = .ok (.irem, 1) := by decide +kernel
theorem dX6_isSlip_155 : decode cX6_isSlip 155 = .ok (.if_icmp .ne 7, 3) := by decide +kernel
theorem dX6_isSlip_158 : decode cX6_isSlip 158 = .ok (.iconst 1, 1) := by decide +kernel
theorem dX6_isSlip_159 : decode cX6_isSlip 159 = .ok (.goto 4, 3) := by decide +kernel
theorem dX6_isSlip_162 : decode cX6_isSlip 162 = .ok (.iconst 0, 1) := by decide +kernel
theorem dX6_isSlip_163 : decode cX6_isSlip 163 = .ok (.ireturn, 1) := by decide +kernel
theorem dX6_looks_0 : decode cX6_looks 0 = .ok (.aload_n 0, 1) := by decide +kernel
theorem dX6_looks_1 : decode cX6_looks 1 = .ok (.iload_n 1, 1) := by decide +kernel
theorem dX6_looks_2 : decode cX6_looks 2 = .ok (.invokevirtual 168, 3) := by decide +kernel
theorem dX6_looks_5 : decode cX6_looks 5 = .ok (.lstore_n 3, 1) := by decide +kernel
theorem dX6_looks_6 : decode cX6_looks 6 = .ok (.iconst 0, 1) := by decide +kernel
theorem dX6_looks_7 : decode cX6_looks 7 = .ok (.istore 5, 2) := by decide +kernel
theorem dX6_looks_9 : decode cX6_looks 9 = .ok (.lload_n 3, 1) := by decide +kernel
theorem dX6_looks_10 : decode cX6_looks 10 = .ok (.lconst 0, 1) := by decide +kernel
theorem dX6_looks_11 : decode cX6_looks 11 = .ok (.lcmp, 1) := by decide +kernel
theorem dX6_looks_12 : decode cX6_looks 12 = .ok (.ifCond .ne 5, 3) := by decide +kernel
theorem dX6_looks_15 : decode cX6_looks 15 = .ok (.iconst 0, 1) := by decide +kernel
theorem dX6_looks_16 : decode cX6_looks 16 = .ok (.ireturn, 1) := by decide +kernel
theorem dX6_looks_17 : decode cX6_looks 17 = .ok (.iconst 0, 1) := by decide +kernel
theorem dX6_looks_18 : decode cX6_looks 18 = .ok (.istore 6, 2) := by decide +kernel
theorem dX6_looks_20 : decode cX6_looks 20 = .ok (.iload 6, 2) := by decide +kernel
theorem dX6_looks_22 : decode cX6_looks 22 = .ok (.aload_n 0, 1) := by decide +kernel
theorem dX6_looks_23 : decode cX6_looks 23 = .ok (.getfield 154, 3) := by decide +kernel
theorem dX6_looks_26 : decode cX6_looks 26 = .ok (.if_icmp .ge 155, 3) := by decide +kernel
theorem dX6_looks_29 : decode cX6_looks 29 = .ok (.aload_n 0, 1) := by decide +kernel
theorem dX6_looks_30 : decode cX6_looks 30 = .ok (.getfield 43, 3) := by decide +kernel
theorem dX6_looks_33 : decode cX6_looks 33 = .ok (.iload 6, 2) := by decide +kernel
theorem dX6_looks_35 : decode cX6_looks 35 = .ok (.iaload, 1) := by decide +kernel
theorem dX6_looks_36 : decode cX6_looks 36 = .ok (.iload_n 1, 1) := by decide +kernel
theorem dX6_looks_37 : decode cX6_looks 37 = .ok (.if_icmp .eq 6, 3) := by decide +kernel
theorem dX6_looks_40 : decode cX6_looks 40 = .ok (.goto 135, 3) := by decide +kernel
theorem dX6_looks_43 : decode cX6_looks 43 = .ok (.iconst 0, 1) := by decide +kernel
theorem dX6_looks_44 : decode cX6_looks 44 = .ok (.istore 7, 2) := by decide +kernel
theorem dX6_looks_46 : decode cX6_looks 46 = .ok (.iload 7, 2) := by decide +kernel
theorem dX6_looks_48 : decode cX6_looks 48 = .ok (.iconst 3, 1) := by decide +kernel
theorem dX6_looks_49 : decode cX6_looks 49 = .ok (.if_icmp .ge 126, 3) := by decide +kernel
theorem dX6_looks_52 : decode cX6_looks 52 = .ok (.aload_n 0, 1) := by decide +kernel
theorem dX6_looks_53 : decode cX6_looks 53 = .ok (.getfield 46, 3) := by decide +kernel
theorem dX6_looks_56 : decode cX6_looks 56 = .ok (.iload 6, 2) := by decide +kernel
theorem dX6_looks_58 : decode cX6_looks 58 = .ok (.iaload, 1) := by decide +kernel
theorem dX6_looks_59 : decode cX6_looks 59 = .ok (.i2l, 1) := by decide +kernel
theorem dX6_looks_60 : decode cX6_looks 60 = .ok (.lload_n 3, 1) := by decide +kernel
theorem dX6_looks_61 : decode cX6_looks 61 = .ok (.lsub, 1) := by decide +kernel
theorem dX6_looks_62 : decode cX6_looks 62 = .ok (.lstore 8, 2) := by decide +kernel
theorem dX6_looks_64 : decode cX6_looks 64 = .ok (.iload 7, 2) := by decide +kernel
theorem dX6_looks_66 : decode cX6_looks 66 = .ok (.iconst 2, 1) := by decide +kernel
theorem dX6_looks_67 : decode cX6_looks 67 = .ok (.if_icmp .ne 18, 3) := by decide +kernel
theorem dX6_looks_70 : decode cX6_looks 70 = .ok (.lload 8, 2) := by decide +kernel
theorem dX6_looks_72 : decode cX6_looks 72 = .ok (.lconst 0, 1) := by decide +kernel
theorem dX6_looks_73 : decode cX6_looks 73 = .ok (.lcmp, 1) := by decide +kernel
theorem dX6_looks_74 : decode cX6_looks 74 = .ok (.ifCond .ne 7, 3) := by decide +kernel
theorem dX6_looks_77 : decode cX6_looks 77 = .ok (.iconst 1, 1) := by decide +kernel
theorem dX6_looks_78 : decode cX6_looks 78 = .ok (.goto 38, 3) := by decide +kernel
theorem dX6_looks_81 : decode cX6_looks 81 = .ok (.iconst 0, 1) := by decide +kernel
theorem dX6_looks_82 : decode cX6_looks 82 = .ok (.goto 34, 3) := by decide +kernel
theorem dX6_looks_85 : decode cX6_looks 85 = .ok (.lload 8, 2) := by decide +kernel
theorem dX6_looks_87 : decode cX6_looks 87 = .ok (.invokestatic 164, 3) := by decide +kernel
theorem dX6_looks_90 : decode cX6_looks 90 = .ok (.ifCond .eq 25, 3) := by decide +kernel
theorem dX6_looks_93 : decode cX6_looks 93 = .ok (.iload 7, 2) := by decide +kernel
theorem dX6_looks_95 : decode cX6_looks 95 = .ok (.aload_n 0, 1) := by decide +kernel
theorem dX6_looks_96 : decode cX6_looks 96 = .ok (.getfield 46, 3) := by decide +kernel
theorem dX6_looks_99 : decode cX6_looks 99 = .ok (.iload 6, 2) := by decide +kernel
theorem dX6_looks_101 : decode cX6_looks 101 = .ok (.iaload, 1) := by decide +kernel
theorem dX6_looks_102 : decode cX6_looks 102 = .ok (.lload 8, 2) := by decide +kernel
theorem dX6_looks_104 : decode cX6_looks 104 = .ok (.l2i, 1) := by decide +kernel
theorem dX6_looks_105 : decode cX6_looks 105 = .ok (.invokestatic 172, 3) := by decide +kernel
theorem dX6_looks_108 : decode cX6_looks 108 = .ok (.ifCond .eq 7, 3) := by decide +kernel
theorem dX6_looks_111 : decode cX6_looks 111 = .ok (.iconst 1, 1) := by decide +kernel
theorem dX6_looks_112 : decode cX6_looks 112 = .ok (.goto 4, 3) := by decide +kernel
theorem dX6_looks_115 : decode cX6_looks 115 = .ok (.iconst 0, 1) := by decide +kernel
theorem dX6_looks_116 : decode cX6_looks 116 = .ok (.istore 10, 2) := by decide +kernel
theorem dX6_looks_118 : decode cX6_looks 118 = .ok (.iload 10, 2) := by decide +kernel
theorem dX6_looks_120 : decode cX6_looks 120 = .ok (.ifCond .ne 6, 3) := by decide +kernel
theorem dX6_looks_123 : decode cX6_looks 123 = .ok (.goto 46, 3) := by decide +kernel
theorem dX6_looks_126 : decode cX6_looks 126 = .ok (.aload_n 0, 1) := by decide +kernel
theorem dX6_looks_127 : decode cX6_looks 127 = .ok (.iload 7, 2) := by decide +kernel
theorem dX6_looks_129 : decode cX6_looks 129 = .ok (.putfield 176, 3) := by decide +kernel
theorem dX6_looks_132 : decode cX6_looks 132 = .ok (.aload_n 0, 1) := by decide +kernel
theorem dX6_looks_133 : decode cX6_looks 133 = .ok (.iload 6, 2) := by decide +kernel
theorem dX6_looks_135 : decode cX6_looks 135 = .ok (.putfield 179, 3) := by decide +kernel
theorem dX6_looks_138 : decode cX6_looks 138 = .ok (.aload_n 0, 1) := by decide +kernel
theorem dX6_looks_139 : decode cX6_looks 139 = .ok (.iload 7, 2) := by decide +kernel
theorem dX6_looks_141 : decode cX6_looks 141 = .ok (.iconst 2, 1) := by decide +kernel
theorem dX6_looks_142 : decode cX6_looks 142 = .ok (.if_icmp .ne 7, 3) := by decide +kernel
theorem dX6_looks_145 : decode cX6_looks 145 = .ok (.iconst 0, 1) := by decide +kernel
theorem dX6_looks_146 : decode cX6_looks 146 = .ok (.goto 6, 3) := by decide +kernel
theorem dX6_looks_149 : decode cX6_looks 149 = .ok (.lload 8, 2) := by decide +kernel
theorem dX6_looks_151 : decode cX6_looks 151 = .ok (.l2i, 1) := by decide +kernel
theorem dX6_looks_152 : decode cX6_looks 152 = .ok (.putfield 182, 3) := by decide +kernel
theorem dX6_looks_155 : decode cX6_looks 155 = .ok (.iinc 5 1, 3) := by decide +kernel
theorem dX6_looks_158 : decode cX6_looks 158 = .ok (.iload 5, 2) := by decide +kernel
theorem dX6_looks_160 : decode cX6_looks 160 = .ok (.iload_n 2, 1) := by decide +kernel
theorem dX6_looks_161 : decode cX6_looks 161 = .ok (.iconst 1, 1) := by decide +kernel
theorem dX6_looks_162 : decode cX6_looks 162 = .ok (.iadd, 1) := by decide +kernel
theorem dX6_looks_163 : decode cX6_looks 163 = .ok (.if_icmp .ne 6, 3) := by decide +kernel
theorem dX6_looks_166 : decode cX6_looks 166 = .ok (.iload 5, 2) := by decide +kernel
theorem dX6_looks_168 : decode cX6_looks 168 = .ok (.ireturn, 1) := by decide +kernel
theorem dX6_looks_169 : decode cX6_looks 169 = .ok (.iinc 7 1, 3) := by decide +kernel
theorem dX6_looks_172 : decode cX6_looks 172 = .ok (.goto (-126), 3) := by decide +kernel
theorem dX6_looks_175 : decode cX6_looks 175 = .ok (.iinc 6 1, 3) := by decide +kernel
theorem dX6_looks_178 : decode cX6_looks 178 = .ok (.goto (-158), 3) := by decide +kernel
theorem dX6_looks_181 : decode cX6_looks 181 = .ok (.lload_n 3, 1) := by decide +kernel
theorem dX6_looks_182 : decode cX6_looks 182 = .ok (.lconst 0, 1) := by decide +kernel
theorem dX6_looks_183 : decode cX6_looks 183 = .ok (.lcmp, 1) := by decide +kernel
theorem dX6_looks_184 : decode cX6_looks 184 = .ok (.ifCond .gt 11, 3) := by decide +kernel
theorem dX6_looks_187 : decode cX6_looks 187 = .ok (.lload_n 3, 1) := by decide +kernel
theorem dX6_looks_188 : decode cX6_looks 188 = .ok (.lneg, 1) := by decide +kernel
theorem dX6_looks_189 : decode cX6_looks 189 = .ok (.invokestatic 164, 3) := by decide +kernel
theorem dX6_looks_192 : decode cX6_looks 192 = .ok (.ifCond .ne 6, 3) := by decide +kernel
theorem dX6_looks_195 : decode cX6_looks 195 = .ok (.iload 5, 2) := by decide +kernel
theorem dX6_looks_197 : decode cX6_looks 197 = .ok (.ireturn, 1) := by decide +kernel
theorem dX6_looks_198 : decode cX6_looks 198 = .ok (.aload_n 0, 1) := by decide +kernel
theorem dX6_looks_199 : decode cX6_looks 199 = .ok (.iconst 3, 1) := by decide +kernel
theorem dX6_looks_200 : decode cX6_looks 200 = .ok (.putfield 176, 3) := by decide +kernel
theorem dX6_looks_203 : decode cX6_looks 203 = .ok (.aload_n 0, 1) := by decide +kernel
theorem dX6_looks_204 : decode cX6_looks 204 = .ok (.iconst (-1), 1) := by decide +kernel
theorem dX6_looks_205 : decode cX6_looks 205 = .ok (.putfield 179, 3) := by decide +kernel
theorem dX6_looks_208 : decode cX6_looks 208 = .ok (.aload_n 0, 1) := by decide +kernel
theorem dX6_looks_209 : decode cX6_looks 209 = .ok (.lload_n 3, 1) := by decide +kernel
theorem dX6_looks_210 : decode cX6_looks 210 = .ok (.lneg, 1) := by decide +kernel
theorem dX6_looks_211 : decode cX6_looks 211 = .ok (.l2i, 1) := by decide +kernel
theorem dX6_looks_212 : decode cX6_looks 212 = .ok (.putfield 182, 3) := by decide +kernel
theorem dX6_looks_215 : decode cX6_looks 215 = .ok (.iload 5, 2) := by decide +kernel
theorem dX6_looks_217 : decode cX6_looks 217 = .ok (.iconst 1, 1) := by decide +kernel
theorem dX6_looks_218 : decode cX6_looks 218 = .ok (.iadd, 1) := by decide +kernel
theorem dX6_looks_219 : decode cX6_looks 219 = .ok (.ireturn, 1) := by decide +kernel
theorem dX6_slips_0 : decode cX6_slips 0 = .ok (.aload_n 0, 1) := by decide +kernel
theorem dX6_slips_1 : decode cX6_slips 1 = .ok (.iload_n 1, 1) := by decide +kernel
theorem dX6_slips_2 : decode cX6_slips 2 = .ok (.invokevirtual 160, 3) := by decide +kernel
theorem dX6_slips_5 : decode cX6_slips 5 = .ok (.ifCond .eq 13, 3) := by decide +kernel
theorem dX6_slips_8 : decode cX6_slips 8 = .ok (.aload_n 0, 1) := by decide +kernel
theorem dX6_slips_9 : decode cX6_slips 9 = .ok (.iload_n 1, 1) := by decide +kernel
theorem dX6_slips_10 : decode cX6_slips 10 = .ok (.ldc 185, 2) := by decide +kernel
theorem dX6_slips_12 : decode cX6_slips 12 = .ok (.invokevirtual 186, 3) := by decide +kernel
theorem dX6_slips_15 : decode cX6_slips 15 = .ok (.goto 4, 3) := by decide +kernel
theorem dX6_slips_18 : decode cX6_slips 18 = .ok (.iconst 0, 1) := by decide +kernel
theorem dX6_slips_19 : decode cX6_slips 19 = .ok (.ireturn, 1) := by decide +kernel
theorem dX6_slip_0 : decode cX6_slip 0 = .ok (.aload_n 0, 1) := by decide +kernel
theorem dX6_slip_1 : decode cX6_slip 1 = .ok (.iload_n 1, 1) := by decide +kernel
theorem dX6_slip_2 : decode cX6_slip 2 = .ok (.invokevirtual 160, 3) := by decide +kernel
theorem dX6_slip_5 : decode cX6_slip 5 = .ok (.ifCond .eq 25, 3) := by decide +kernel
theorem dX6_slip_8 : decode cX6_slip 8 = .ok (.aload_n 0, 1) := by decide +kernel
theorem dX6_slip_9 : decode cX6_slip 9 = .ok (.iload_n 3, 1) := by decide +kernel
theorem dX6_slip_10 : decode cX6_slip 10 = .ok (.ifCond .lt 8, 3) := by decide +kernel
theorem dX6_slip_13 : decode cX6_slip 13 = .ok (.iload_n 3, 1) := by decide +kernel
theorem dX6_slip_14 : decode cX6_slip 14 = .ok (.iconst 2, 1) := by decide +kernel
theorem dX6_slip_15 : decode cX6_slip 15 = .ok (.if_icmp .le 7, 3) := by decide +kernel
theorem dX6_slip_18 : decode cX6_slip 18 = .ok (.iconst 1, 1) := by decide +kernel
theorem dX6_slip_19 : decode cX6_slip 19 = .ok (.goto 4, 3) := by decide +kernel
theorem dX6_slip_22 : decode cX6_slip 22 = .ok (.iconst 0, 1) := by decide +kernel
theorem dX6_slip_23 : decode cX6_slip 23 = .ok (.iconst 2, 1) := by decide +kernel
theorem dX6_slip_24 : decode cX6_slip 24 = .ok (.invokevirtual 64, 3) := by decide +kernel
theorem dX6_slip_27 : decode cX6_slip 27 = .ok (.ifCond .eq 5, 3) := by decide +kernel
theorem dX6_slip_30 : decode cX6_slip 30 = .ok (.iconst 0, 1) := by decide +kernel
theorem dX6_slip_31 : decode cX6_slip 31 = .ok (.ireturn, 1) := by decide +kernel
theorem dX6_slip_32 : decode cX6_slip 32 = .ok (.iload_n 2, 1) := by decide +kernel
theorem dX6_slip_33 : decode cX6_slip 33 = .ok (.ifCond .lt 19, 3) := by decide +kernel
theorem dX6_slip_36 : decode cX6_slip 36 = .ok (.iload_n 2, 1) := by decide +kernel
theorem dX6_slip_37 : decode cX6_slip 37 = .ok (.ldc 185, 2) := by decide +kernel
theorem dX6_slip_39 : decode cX6_slip 39 = .ok (.if_icmp .gt 13, 3) := by decide +kernel
theorem dX6_slip_42 : decode cX6_slip 42 = .ok (.aload_n 0, 1) := by decide +kernel
theorem dX6_slip_43 : decode cX6_slip 43 = .ok (.iload_n 1, 1) := by decide +kernel
theorem dX6_slip_44 : decode cX6_slip 44 = .ok (.iload_n 2, 1) := by decide +kernel
theorem dX6_slip_45 : decode cX6_slip 45 = .ok (.invokevirtual 186, 3) := by decide +kernel
theorem dX6_slip_48 : decode cX6_slip 48 = .ok (.iload_n 2, 1) := by decide +kernel
theorem dX6_slip_49 : decode cX6_slip 49 = .ok (.if_icmp .gt 5, 3) := by decide +kernel
theorem dX6_slip_52 : decode cX6_slip 52 = .ok (.iconst (-1), 1) := by decide +kernel
theorem dX6_slip_53 : decode cX6_slip 53 = .ok (.ireturn, 1) := by decide +kernel
theorem dX6_slip_54 : decode cX6_slip 54 = .ok (.iload_n 3, 1) := by decide +kernel
theorem dX6_slip_55 : decode cX6_slip 55 = .ok (.ifCond .ne 10, 3) := by decide +kernel
theorem dX6_slip_58 : decode cX6_slip 58 = .ok (.aload_n 0, 1) := by decide +kernel
theorem dX6_slip_59 : decode cX6_slip 59 = .ok (.getfield 176, 3) := by decide +kernel
theorem dX6_slip_62 : decode cX6_slip 62 = .ok (.goto 19, 3) := by decide +kernel
theorem dX6_slip_65 : decode cX6_slip 65 = .ok (.iload_n 3, 1) := by decide +kernel
theorem dX6_slip_66 : decode cX6_slip 66 = .ok (.iconst 1, 1) := by decide +kernel
theorem dX6_slip_67 : decode cX6_slip 67 = .ok (.if_icmp .ne 10, 3) := by decide +kernel
theorem dX6_slip_70 : decode cX6_slip 70 = .ok (.aload_n 0, 1) := by decide +kernel
theorem dX6_slip_71 : decode cX6_slip 71 = .ok (.getfield 179, 3) := by decide +kernel
theorem dX6_slip_74 : decode cX6_slip 74 = .ok (.goto 7, 3) := by decide +kernel
theorem dX6_slip_77 : decode cX6_slip 77 = .ok (.aload_n 0, 1) := by decide +kernel
theorem dX6_slip_78 : decode cX6_slip 78 = .ok (.getfield 182, 3) := by decide +kernel
theorem dX6_slip_81 : decode cX6_slip 81 = .ok (.ireturn, 1) := by decide +kernel
theorem dX6_count_0 : decode cX6_count 0 = .ok (.aload_n 0, 1) := by decide +kernel
theorem dX6_count_1 : decode cX6_count 1 = .ok (.iconst 0, 1) := by decide +kernel
theorem dX6_count_2 : decode cX6_count 2 = .ok (.putfield 58, 3) := by decide +kernel
theorem dX6_count_5 : decode cX6_count 5 = .ok (.iload_n 1, 1) := by decide +kernel
theorem dX6_count_6 : decode cX6_count 6 = .ok (.tableswitch 80 0 3 #[30, 65, 70, 75], 30) := by decide +kernel
theorem dX6_count_36 : decode cX6_count 36 = .ok (.iconst 0, 1) := by decide +kernel
theorem dX6_count_37 : decode cX6_count 37 = .ok (.istore_n 2, 1) := by decide +kernel
theorem dX6_count_38 : decode cX6_count 38 = .ok (.iconst 0, 1) := by decide +kernel
theorem dX6_count_39 : decode cX6_count 39 = .ok (.istore_n 3, 1) := by decide +kernel
theorem dX6_count_40 : decode cX6_count 40 = .ok (.iload_n 3, 1) := by decide +kernel
theorem dX6_count_41 : decode cX6_count 41 = .ok (.bipush 12, 2) := by decide +kernel
theorem dX6_count_43 : decode cX6_count 43 = .ok (.if_icmp .ge 26, 3) := by decide +kernel
theorem dX6_count_46 : decode cX6_count 46 = .ok (.iload_n 2, 1) := by decide +kernel
theorem dX6_count_47 : decode cX6_count 47 = .ok (.aload_n 0, 1) := by decide +kernel
theorem dX6_count_48 : decode cX6_count 48 = .ok (.getfield 9, 3) := by decide +kernel
theorem dX6_count_51 : decode cX6_count 51 = .ok (.iload_n 3, 1) := by decide +kernel
theorem dX6_count_52 : decode cX6_count 52 = .ok (.iaload, 1) := by decide +kernel
theorem dX6_count_53 : decode cX6_count 53 = .ok (.ifCond .le 7, 3) := by decide +kernel
theorem dX6_count_56 : decode cX6_count 56 = .ok (.iconst 1, 1) := by decide +kernel
theorem dX6_count_57 : decode cX6_count 57 = .ok (.goto 4, 3) := by decide +kernel
theorem dX6_count_60 : decode cX6_count 60 = .ok (.iconst 0, 1) := by decide +kernel
theorem dX6_count_61 : decode cX6_count 61 = .ok (.iadd, 1) := by decide +kernel
theorem dX6_count_62 : decode cX6_count 62 = .ok (.istore_n 2, 1) := by decide +kernel
theorem dX6_count_63 : decode cX6_count 63 = .ok (.iinc 3 1, 3) := by decide +kernel
theorem dX6_count_66 : decode cX6_count 66 = .ok (.goto (-26), 3) := by decide +kernel
theorem dX6_count_69 : decode cX6_count 69 = .ok (.iload_n 2, 1) := by decide +kernel
theorem dX6_count_70 : decode cX6_count 70 = .ok (.ireturn, 1) := by decide +kernel
theorem dX6_count_71 : decode cX6_count 71 = .ok (.aload_n 0, 1) := by decide +kernel
theorem dX6_count_72 : decode cX6_count 72 = .ok (.getfield 68, 3) := by decide +kernel
theorem dX6_count_75 : decode cX6_count 75 = .ok (.ireturn, 1) := by decide +kernel
theorem dX6_count_76 : decode cX6_count 76 = .ok (.aload_n 0, 1) := by decide +kernel
theorem dX6_count_77 : decode cX6_count 77 = .ok (.getfield 149, 3) := by decide +kernel
theorem dX6_count_80 : decode cX6_count 80 = .ok (.ireturn, 1) := by decide +kernel
theorem dX6_count_81 : decode cX6_count 81 = .ok (.aload_n 0, 1) := by decide +kernel
theorem dX6_count_82 : decode cX6_count 82 = .ok (.getfield 154, 3) := by decide +kernel
theorem dX6_count_85 : decode cX6_count 85 = .ok (.ireturn, 1) := by decide +kernel
theorem dX6_count_86 : decode cX6_count 86 = .ok (.iconst (-1), 1) := by decide +kernel
theorem dX6_count_87 : decode cX6_count 87 = .ok (.ireturn, 1) := by decide +kernel
theorem dJ9_abs_0f7a4_0 : decode cJ9_abs_0f7a4 0 = .ok (.iload_n 0, 1) := by decide +kernel
theorem dJ9_abs_0f7a4_1 : decode cJ9_abs_0f7a4 1 = .ok (.ifCond .ge 8, 3) := by decide +kernel
theorem dJ9_abs_0f7a4_4 : decode cJ9_abs_0f7a4 4 = .ok (.iload_n 0, 1) := by decide +kernel
theorem dJ9_abs_0f7a4_5 : decode cJ9_abs_0f7a4 5 = .ok (.ineg, 1) := by decide +kernel
theorem dJ9_abs_0f7a4_6 : decode cJ9_abs_0f7a4 6 = .ok (.goto 4, 3) := by decide +kernel
theorem dJ9_abs_0f7a4_9 : decode cJ9_abs_0f7a4 9 = .ok (.iload_n 0, 1) := by decide +kernel
theorem dJ9_abs_0f7a4_10 : decode cJ9_abs_0f7a4 10 = .ok (.ireturn, 1) := by decide +kernel
theorem dJ9_max_7cf53_0 : decode cJ9_max_7cf53 0 = .ok (.iload_n 0, 1) := by decide +kernel
theorem dJ9_max_7cf53_1 : decode cJ9_max_7cf53 1 = .ok (.iload_n 1, 1) := by decide +kernel
theorem dJ9_max_7cf53_2 : decode cJ9_max_7cf53 2 = .ok (.if_icmp .lt 7, 3) := by decide +kernel
theorem dJ9_max_7cf53_5 : decode cJ9_max_7cf53 5 = .ok (.iload_n 0, 1) := by decide +kernel
theorem dJ9_max_7cf53_6 : decode cJ9_max_7cf53 6 = .ok (.goto 4, 3) := by decide +kernel
theorem dJ9_max_7cf53_9 : decode cJ9_max_7cf53 9 = .ok (.iload_n 1, 1) := by decide +kernel
theorem dJ9_max_7cf53_10 : decode cJ9_max_7cf53 10 = .ok (.ireturn, 1) := by decide +kernel
theorem dJ9_min_7cf53_0 : decode cJ9_min_7cf53 0 = .ok (.iload_n 0, 1) := by decide +kernel
theorem dJ9_min_7cf53_1 : decode cJ9_min_7cf53 1 = .ok (.iload_n 1, 1) := by decide +kernel
theorem dJ9_min_7cf53_2 : decode cJ9_min_7cf53 2 = .ok (.if_icmp .gt 7, 3) := by decide +kernel
theorem dJ9_min_7cf53_5 : decode cJ9_min_7cf53 5 = .ok (.iload_n 0, 1) := by decide +kernel
theorem dJ9_min_7cf53_6 : decode cJ9_min_7cf53 6 = .ok (.goto 4, 3) := by decide +kernel
theorem dJ9_min_7cf53_9 : decode cJ9_min_7cf53 9 = .ok (.iload_n 1, 1) := by decide +kernel
theorem dJ9_min_7cf53_10 : decode cJ9_min_7cf53 10 = .ok (.ireturn, 1) := by decide +kernel
theorem dL_teach_0 : decode cL_teach 0 = .ok (.aload_n 3, 1) := by decide +kernel
theorem dL_teach_1 : decode cL_teach 1 = .ok (.iconst 0, 1) := by decide +kernel
theorem dL_teach_2 : decode cL_teach 2 = .ok (.aload_n 0, 1) := by decide +kernel
theorem dL_teach_3 : decode cL_teach 3 = .ok (.iload_n 1, 1) := by decide +kernel
theorem dL_teach_4 : decode cL_teach 4 = .ok (.iload_n 2, 1) := by decide +kernel
theorem dL_teach_5 : decode cL_teach 5 = .ok (.invokevirtual 7, 3) := by decide +kernel
theorem dL_teach_8 : decode cL_teach 8 = .ok (.i2l, 1) := by decide +kernel
theorem dL_teach_9 : decode cL_teach 9 = .ok (.lastore, 1) := by decide +kernel
theorem dL_teach_10 : decode cL_teach 10 = .ok (.goto 7, 3) := by decide +kernel
theorem dL_teach_13 : decode cL_teach 13 = .ok (.astore 4, 2) := by decide +kernel
theorem dL_teach_15 : decode cL_teach 15 = .ok (.iconst 1, 1) := by decide +kernel
theorem dL_teach_16 : decode cL_teach 16 = .ok (.ireturn, 1) := by decide +kernel
theorem dL_teach_17 : decode cL_teach 17 = .ok (.iconst 0, 1) := by decide +kernel
theorem dL_teach_18 : decode cL_teach 18 = .ok (.ireturn, 1) := by decide +kernel
theorem dL_tick_0 : decode cL_tick 0 = .ok (.aload_n 2, 1) := by decide +kernel
theorem dL_tick_1 : decode cL_tick 1 = .ok (.iconst 0, 1) := by decide +kernel
theorem dL_tick_2 : decode cL_tick 2 = .ok (.aload_n 0, 1) := by decide +kernel
theorem dL_tick_3 : decode cL_tick 3 = .ok (.iload_n 1, 1) := by decide +kernel
theorem dL_tick_4 : decode cL_tick 4 = .ok (.invokevirtual 15, 3) := by decide +kernel
theorem dL_tick_7 : decode cL_tick 7 = .ok (.i2l, 1) := by decide +kernel
theorem dL_tick_8 : decode cL_tick 8 = .ok (.lastore, 1) := by decide +kernel
theorem dL_tick_9 : decode cL_tick 9 = .ok (.goto 6, 3) := by decide +kernel
theorem dL_tick_12 : decode cL_tick 12 = .ok (.astore_n 3, 1) := by decide +kernel
theorem dL_tick_13 : decode cL_tick 13 = .ok (.iconst 1, 1) := by decide +kernel
theorem dL_tick_14 : decode cL_tick 14 = .ok (.ireturn, 1) := by decide +kernel
theorem dL_tick_15 : decode cL_tick 15 = .ok (.iconst 0, 1) := by decide +kernel
theorem dL_tick_16 : decode cL_tick 16 = .ok (.ireturn, 1) := by decide +kernel
theorem dL_about_0 : decode cL_about 0 = .ok (.aload_n 2, 1) := by decide +kernel
theorem dL_about_1 : decode cL_about 1 = .ok (.iconst 0, 1) := by decide +kernel
theorem dL_about_2 : decode cL_about 2 = .ok (.aload_n 0, 1) := by decide +kernel
theorem dL_about_3 : decode cL_about 3 = .ok (.iload_n 1, 1) := by decide +kernel
theorem dL_about_4 : decode cL_about 4 = .ok (.invokevirtual 19, 3) := by decide +kernel
theorem dL_about_7 : decode cL_about 7 = .ok (.i2l, 1) := by decide +kernel
theorem dL_about_8 : decode cL_about 8 = .ok (.lastore, 1) := by decide +kernel
theorem dL_about_9 : decode cL_about 9 = .ok (.goto 6, 3) := by decide +kernel
theorem dL_about_12 : decode cL_about 12 = .ok (.astore_n 3, 1) := by decide +kernel
theorem dL_about_13 : decode cL_about 13 = .ok (.iconst 1, 1) := by decide +kernel
theorem dL_about_14 : decode cL_about 14 = .ok (.ireturn, 1) := by decide +kernel
theorem dL_about_15 : decode cL_about 15 = .ok (.iconst 0, 1) := by decide +kernel
theorem dL_about_16 : decode cL_about 16 = .ok (.ireturn, 1) := by decide +kernel
theorem dL_place_0 : decode cL_place 0 = .ok (.aload_n 3, 1) := by decide +kernel
theorem dL_place_1 : decode cL_place 1 = .ok (.iconst 0, 1) := by decide +kernel
theorem dL_place_2 : decode cL_place 2 = .ok (.aload_n 0, 1) := by decide +kernel
theorem dL_place_3 : decode cL_place 3 = .ok (.iload_n 1, 1) := by decide +kernel
theorem dL_place_4 : decode cL_place 4 = .ok (.iload_n 2, 1) := by decide +kernel
theorem dL_place_5 : decode cL_place 5 = .ok (.invokevirtual 22, 3) := by decide +kernel
theorem dL_place_8 : decode cL_place 8 = .ok (.i2l, 1) := by decide +kernel
theorem dL_place_9 : decode cL_place 9 = .ok (.lastore, 1) := by decide +kernel
theorem dL_place_10 : decode cL_place 10 = .ok (.goto 7, 3) := by decide +kernel
theorem dL_place_13 : decode cL_place 13 = .ok (.astore 4, 2) := by decide +kernel
theorem dL_place_15 : decode cL_place 15 = .ok (.iconst 1, 1) := by decide +kernel
theorem dL_place_16 : decode cL_place 16 = .ok (.ireturn, 1) := by decide +kernel
theorem dL_place_17 : decode cL_place 17 = .ok (.iconst 0, 1) := by decide +kernel
theorem dL_place_18 : decode cL_place 18 = .ok (.ireturn, 1) := by decide +kernel
theorem dL_field_0 : decode cL_field 0 = .ok (.aload_n 2, 1) := by decide +kernel
theorem dL_field_1 : decode cL_field 1 = .ok (.iconst 0, 1) := by decide +kernel
theorem dL_field_2 : decode cL_field 2 = .ok (.aload_n 0, 1) := by decide +kernel
theorem dL_field_3 : decode cL_field 3 = .ok (.iload_n 1, 1) := by decide +kernel
theorem dL_field_4 : decode cL_field 4 = .ok (.invokevirtual 25, 3) := by decide +kernel
theorem dL_field_7 : decode cL_field 7 = .ok (.i2l, 1) := by decide +kernel
theorem dL_field_8 : decode cL_field 8 = .ok (.lastore, 1) := by decide +kernel
theorem dL_field_9 : decode cL_field 9 = .ok (.goto 6, 3) := by decide +kernel
theorem dL_field_12 : decode cL_field 12 = .ok (.astore_n 3, 1) := by decide +kernel
theorem dL_field_13 : decode cL_field 13 = .ok (.iconst 1, 1) := by decide +kernel
theorem dL_field_14 : decode cL_field 14 = .ok (.ireturn, 1) := by decide +kernel
theorem dL_field_15 : decode cL_field 15 = .ok (.iconst 0, 1) := by decide +kernel
theorem dL_field_16 : decode cL_field 16 = .ok (.ireturn, 1) := by decide +kernel
theorem dL_other_0 : decode cL_other 0 = .ok (.aload_n 3, 1) := by decide +kernel
theorem dL_other_1 : decode cL_other 1 = .ok (.iconst 0, 1) := by decide +kernel
theorem dL_other_2 : decode cL_other 2 = .ok (.aload_n 0, 1) := by decide +kernel
theorem dL_other_3 : decode cL_other 3 = .ok (.iload_n 1, 1) := by decide +kernel
theorem dL_other_4 : decode cL_other 4 = .ok (.iload_n 2, 1) := by decide +kernel
theorem dL_other_5 : decode cL_other 5 = .ok (.invokevirtual 28, 3) := by decide +kernel
theorem dL_other_8 : decode cL_other 8 = .ok (.i2l, 1) := by decide +kernel
theorem dL_other_9 : decode cL_other 9 = .ok (.lastore, 1) := by decide +kernel
theorem dL_other_10 : decode cL_other 10 = .ok (.goto 7, 3) := by decide +kernel
theorem dL_other_13 : decode cL_other 13 = .ok (.astore 4, 2) := by decide +kernel
theorem dL_other_15 : decode cL_other 15 = .ok (.iconst 1, 1) := by decide +kernel
theorem dL_other_16 : decode cL_other 16 = .ok (.ireturn, 1) := by decide +kernel
theorem dL_other_17 : decode cL_other 17 = .ok (.iconst 0, 1) := by decide +kernel
theorem dL_other_18 : decode cL_other 18 = .ok (.ireturn, 1) := by decide +kernel
theorem dL_batch_0 : decode cL_batch 0 = .ok (.aload_n 2, 1) := by decide +kernel
theorem dL_batch_1 : decode cL_batch 1 = .ok (.iconst 0, 1) := by decide +kernel
theorem dL_batch_2 : decode cL_batch 2 = .ok (.aload_n 0, 1) := by decide +kernel
theorem dL_batch_3 : decode cL_batch 3 = .ok (.iload_n 1, 1) := by decide +kernel
theorem dL_batch_4 : decode cL_batch 4 = .ok (.invokevirtual 31, 3) := by decide +kernel
theorem dL_batch_7 : decode cL_batch 7 = .ok (.i2l, 1) := by decide +kernel
theorem dL_batch_8 : decode cL_batch 8 = .ok (.lastore, 1) := by decide +kernel
theorem dL_batch_9 : decode cL_batch 9 = .ok (.goto 9, 3) := by decide +kernel
theorem dL_batch_12 : decode cL_batch 12 = .ok (.astore_n 3, 1) := by decide +kernel
theorem dL_batch_13 : decode cL_batch 13 = .ok (.iconst 1, 1) := by decide +kernel
theorem dL_batch_14 : decode cL_batch 14 = .ok (.ireturn, 1) := by decide +kernel
theorem dL_batch_15 : decode cL_batch 15 = .ok (.astore_n 3, 1) := by decide +kernel
theorem dL_batch_16 : decode cL_batch 16 = .ok (.iconst 2, 1) := by decide +kernel
theorem dL_batch_17 : decode cL_batch 17 = .ok (.ireturn, 1) := by decide +kernel
theorem dL_batch_18 : decode cL_batch 18 = .ok (.iconst 0, 1) := by decide +kernel
theorem dL_batch_19 : decode cL_batch 19 = .ok (.ireturn, 1) := by decide +kernel
theorem dL_paper_0 : decode cL_paper 0 = .ok (.aload_n 3, 1) := by decide +kernel
theorem dL_paper_1 : decode cL_paper 1 = .ok (.iconst 0, 1) := by decide +kernel
theorem dL_paper_2 : decode cL_paper 2 = .ok (.aload_n 0, 1) := by decide +kernel
theorem dL_paper_3 : decode cL_paper 3 = .ok (.iload_n 1, 1) := by decide +kernel
theorem dL_paper_4 : decode cL_paper 4 = .ok (.iload_n 2, 1) := by decide +kernel
theorem dL_paper_5 : decode cL_paper 5 = .ok (.invokevirtual 36, 3) := by decide +kernel
theorem dL_paper_8 : decode cL_paper 8 = .ok (.i2l, 1) := by decide +kernel
theorem dL_paper_9 : decode cL_paper 9 = .ok (.lastore, 1) := by decide +kernel
theorem dL_paper_10 : decode cL_paper 10 = .ok (.goto 11, 3) := by decide +kernel
theorem dL_paper_13 : decode cL_paper 13 = .ok (.astore 4, 2) := by decide +kernel
theorem dL_paper_15 : decode cL_paper 15 = .ok (.iconst 1, 1) := by decide +kernel
theorem dL_paper_16 : decode cL_paper 16 = .ok (.ireturn, 1) := by decide +kernel
theorem dL_paper_17 : decode cL_paper 17 = .ok (.astore 4, 2) := by decide +kernel
theorem dL_paper_19 : decode cL_paper 19 = .ok (.iconst 2, 1) := by decide +kernel
theorem dL_paper_20 : decode cL_paper 20 = .ok (.ireturn, 1) := by decide +kernel
theorem dL_paper_21 : decode cL_paper 21 = .ok (.iconst 0, 1) := by decide +kernel
theorem dL_paper_22 : decode cL_paper 22 = .ok (.ireturn, 1) := by decide +kernel
theorem dL_amount_0 : decode cL_amount 0 = .ok (.aload_n 3, 1) := by decide +kernel
theorem dL_amount_1 : decode cL_amount 1 = .ok (.iconst 0, 1) := by decide +kernel
theorem dL_amount_2 : decode cL_amount 2 = .ok (.aload_n 0, 1) := by decide +kernel
theorem dL_amount_3 : decode cL_amount 3 = .ok (.iload_n 1, 1) := by decide +kernel
theorem dL_amount_4 : decode cL_amount 4 = .ok (.iload_n 2, 1) := by decide +kernel
theorem dL_amount_5 : decode cL_amount 5 = .ok (.invokevirtual 41, 3) := by decide +kernel
theorem dL_amount_8 : decode cL_amount 8 = .ok (.i2l, 1) := by decide +kernel
theorem dL_amount_9 : decode cL_amount 9 = .ok (.lastore, 1) := by decide +kernel
theorem dL_amount_10 : decode cL_amount 10 = .ok (.goto 11, 3) := by decide +kernel
theorem dL_amount_13 : decode cL_amount 13 = .ok (.astore 4, 2) := by decide +kernel
