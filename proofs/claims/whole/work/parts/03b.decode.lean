theorem dX1_pickSigns_51 : decode cX1_pickSigns 51 = .ok (.iload_n 3, 1) := by decide +kernel
theorem dX1_pickSigns_52 : decode cX1_pickSigns 52 = .ok (.iload 4, 2) := by decide +kernel
theorem dX1_pickSigns_54 : decode cX1_pickSigns 54 = .ok (.invokestatic 34, 3) := by decide +kernel
theorem dX1_pickSigns_57 : decode cX1_pickSigns 57 = .ok (.invokevirtual 67, 3) := by decide +kernel
theorem dX1_pickSigns_60 : decode cX1_pickSigns 60 = .ok (.iinc 3 1, 3) := by decide +kernel
theorem dX1_pickSigns_63 : decode cX1_pickSigns 63 = .ok (.goto (-57), 3) := by decide +kernel
theorem dX1_pickSigns_66 : decode cX1_pickSigns 66 = .ok (.return_, 1) := by decide +kernel
theorem dX1_leastCostBeside_0 : decode cX1_leastCostBeside 0 = .ok (.sipush 7201, 3) := by decide +kernel
theorem dX1_leastCostBeside_3 : decode cX1_leastCostBeside 3 = .ok (.istore_n 2, 1) := by decide +kernel
theorem dX1_leastCostBeside_4 : decode cX1_leastCostBeside 4 = .ok (.aload_n 0, 1) := by decide +kernel
theorem dX1_leastCostBeside_5 : decode cX1_leastCostBeside 5 = .ok (.invokevirtual 61, 3) := by decide +kernel
theorem dX1_leastCostBeside_8 : decode cX1_leastCostBeside 8 = .ok (.iconst 0, 1) := by decide +kernel
theorem dX1_leastCostBeside_9 : decode cX1_leastCostBeside 9 = .ok (.istore_n 3, 1) := by decide +kernel
theorem dX1_leastCostBeside_10 : decode cX1_leastCostBeside 10 = .ok (.iload_n 3, 1) := by decide +kernel
theorem dX1_leastCostBeside_11 : decode cX1_leastCostBeside 11 = .ok (.aload_n 0, 1) := by decide +kernel
theorem dX1_leastCostBeside_12 : decode cX1_leastCostBeside 12 = .ok (.getfield 9, 3) := by decide +kernel
theorem dX1_leastCostBeside_15 : decode cX1_leastCostBeside 15 = .ok (.if_icmp .ge 57, 3) := by decide +kernel
theorem dX1_leastCostBeside_18 : decode cX1_leastCostBeside 18 = .ok (.iconst 0, 1) := by decide +kernel
theorem dX1_leastCostBeside_19 : decode cX1_leastCostBeside 19 = .ok (.istore 4, 2) := by decide +kernel
theorem dX1_leastCostBeside_21 : decode cX1_leastCostBeside 21 = .ok (.iload 4, 2) := by decide +kernel
theorem dX1_leastCostBeside_23 : decode cX1_leastCostBeside 23 = .ok (.bipush 12, 2) := by decide +kernel
theorem dX1_leastCostBeside_25 : decode cX1_leastCostBeside 25 = .ok (.if_icmp .ge 29, 3) := by decide +kernel
theorem dX1_leastCostBeside_28 : decode cX1_leastCostBeside 28 = .ok (.iload 4, 2) := by decide +kernel
theorem dX1_leastCostBeside_30 : decode cX1_leastCostBeside 30 = .ok (.aload_n 1, 1) := by decide +kernel
theorem dX1_leastCostBeside_31 : decode cX1_leastCostBeside 31 = .ok (.iload_n 3, 1) := by decide +kernel
theorem dX1_leastCostBeside_32 : decode cX1_leastCostBeside 32 = .ok (.iaload, 1) := by decide +kernel
theorem dX1_leastCostBeside_33 : decode cX1_leastCostBeside 33 = .ok (.if_icmp .eq 15, 3) := by decide +kernel
theorem dX1_leastCostBeside_36 : decode cX1_leastCostBeside 36 = .ok (.iload_n 2, 1) := by decide +kernel
theorem dX1_leastCostBeside_37 : decode cX1_leastCostBeside 37 = .ok (.aload_n 0, 1) := by decide +kernel
theorem dX1_leastCostBeside_38 : decode cX1_leastCostBeside 38 = .ok (.iload_n 3, 1) := by decide +kernel
theorem dX1_leastCostBeside_39 : decode cX1_leastCostBeside 39 = .ok (.iload 4, 2) := by decide +kernel
theorem dX1_leastCostBeside_41 : decode cX1_leastCostBeside 41 = .ok (.invokevirtual 64, 3) := by decide +kernel
theorem dX1_leastCostBeside_44 : decode cX1_leastCostBeside 44 = .ok (.invokestatic 48, 3) := by decide +kernel
theorem dX1_leastCostBeside_47 : decode cX1_leastCostBeside 47 = .ok (.istore_n 2, 1) := by decide +kernel
theorem dX1_leastCostBeside_48 : decode cX1_leastCostBeside 48 = .ok (.iinc 4 1, 3) := by decide +kernel
theorem dX1_leastCostBeside_51 : decode cX1_leastCostBeside 51 = .ok (.goto (-30), 3) := by decide +kernel
theorem dX1_leastCostBeside_54 : decode cX1_leastCostBeside 54 = .ok (.aload_n 0, 1) := by decide +kernel
theorem dX1_leastCostBeside_55 : decode cX1_leastCostBeside 55 = .ok (.aload_n 0, 1) := by decide +kernel
theorem dX1_leastCostBeside_56 : decode cX1_leastCostBeside 56 = .ok (.getfield 22, 3) := by decide +kernel
theorem dX1_leastCostBeside_59 : decode cX1_leastCostBeside 59 = .ok (.iload_n 3, 1) := by decide +kernel
theorem dX1_leastCostBeside_60 : decode cX1_leastCostBeside 60 = .ok (.bipush 9, 2) := by decide +kernel
theorem dX1_leastCostBeside_62 : decode cX1_leastCostBeside 62 = .ok (.imul, 1) := by decide +kernel
theorem dX1_leastCostBeside_63 : decode cX1_leastCostBeside 63 = .ok (.invokevirtual 67, 3) := by decide +kernel
theorem dX1_leastCostBeside_66 : decode cX1_leastCostBeside 66 = .ok (.iinc 3 1, 3) := by decide +kernel
theorem dX1_leastCostBeside_69 : decode cX1_leastCostBeside 69 = .ok (.goto (-59), 3) := by decide +kernel
theorem dX1_leastCostBeside_72 : decode cX1_leastCostBeside 72 = .ok (.iload_n 2, 1) := by decide +kernel
theorem dX1_leastCostBeside_73 : decode cX1_leastCostBeside 73 = .ok (.ireturn, 1) := by decide +kernel
theorem dX1_pickSpeeds_0 : decode cX1_pickSpeeds 0 = .ok (.aload_n 0, 1) := by decide +kernel
theorem dX1_pickSpeeds_1 : decode cX1_pickSpeeds 1 = .ok (.aload_n 1, 1) := by decide +kernel
theorem dX1_pickSpeeds_2 : decode cX1_pickSpeeds 2 = .ok (.invokevirtual 71, 3) := by decide +kernel
theorem dX1_pickSpeeds_5 : decode cX1_pickSpeeds 5 = .ok (.aload_n 0, 1) := by decide +kernel
theorem dX1_pickSpeeds_6 : decode cX1_pickSpeeds 6 = .ok (.invokevirtual 51, 3) := by decide +kernel
theorem dX1_pickSpeeds_9 : decode cX1_pickSpeeds 9 = .ok (.iconst 0, 1) := by decide +kernel
theorem dX1_pickSpeeds_10 : decode cX1_pickSpeeds 10 = .ok (.istore 4, 2) := by decide +kernel
theorem dX1_pickSpeeds_12 : decode cX1_pickSpeeds 12 = .ok (.iconst 0, 1) := by decide +kernel
theorem dX1_pickSpeeds_13 : decode cX1_pickSpeeds 13 = .ok (.istore 5, 2) := by decide +kernel
theorem dX1_pickSpeeds_15 : decode cX1_pickSpeeds 15 = .ok (.bipush 8, 2) := by decide +kernel
theorem dX1_pickSpeeds_17 : decode cX1_pickSpeeds 17 = .ok (.istore 6, 2) := by decide +kernel
theorem dX1_pickSpeeds_19 : decode cX1_pickSpeeds 19 = .ok (.iconst 0, 1) := by decide +kernel
theorem dX1_pickSpeeds_20 : decode cX1_pickSpeeds 20 = .ok (.istore 7, 2) := by decide +kernel
theorem dX1_pickSpeeds_22 : decode cX1_pickSpeeds 22 = .ok (.iload 7, 2) := by decide +kernel
theorem dX1_pickSpeeds_24 : decode cX1_pickSpeeds 24 = .ok (.aload_n 0, 1) := by decide +kernel
theorem dX1_pickSpeeds_25 : decode cX1_pickSpeeds 25 = .ok (.getfield 9, 3) := by decide +kernel
theorem dX1_pickSpeeds_28 : decode cX1_pickSpeeds 28 = .ok (.if_icmp .ge 105, 3) := by decide +kernel
theorem dX1_pickSpeeds_31 : decode cX1_pickSpeeds 31 = .ok (.iload 7, 2) := by decide +kernel
theorem dX1_pickSpeeds_33 : decode cX1_pickSpeeds 33 = .ok (.bipush 9, 2) := by decide +kernel
theorem dX1_pickSpeeds_35 : decode cX1_pickSpeeds 35 = .ok (.imul, 1) := by decide +kernel
theorem dX1_pickSpeeds_36 : decode cX1_pickSpeeds 36 = .ok (.istore 8, 2) := by decide +kernel
theorem dX1_pickSpeeds_38 : decode cX1_pickSpeeds 38 = .ok (.iload 5, 2) := by decide +kernel
theorem dX1_pickSpeeds_40 : decode cX1_pickSpeeds 40 = .ok (.istore 9, 2) := by decide +kernel
theorem dX1_pickSpeeds_42 : decode cX1_pickSpeeds 42 = .ok (.iload 9, 2) := by decide +kernel
theorem dX1_pickSpeeds_44 : decode cX1_pickSpeeds 44 = .ok (.iload 6, 2) := by decide +kernel
theorem dX1_pickSpeeds_46 : decode cX1_pickSpeeds 46 = .ok (.if_icmp .ge 37, 3) := by decide +kernel
theorem dX1_pickSpeeds_49 : decode cX1_pickSpeeds 49 = .ok (.iload 4, 2) := by decide +kernel
theorem dX1_pickSpeeds_51 : decode cX1_pickSpeeds 51 = .ok (.aload_n 0, 1) := by decide +kernel
theorem dX1_pickSpeeds_52 : decode cX1_pickSpeeds 52 = .ok (.getfield 22, 3) := by decide +kernel
theorem dX1_pickSpeeds_55 : decode cX1_pickSpeeds 55 = .ok (.iload 8, 2) := by decide +kernel
theorem dX1_pickSpeeds_57 : decode cX1_pickSpeeds 57 = .ok (.iload 9, 2) := by decide +kernel
theorem dX1_pickSpeeds_59 : decode cX1_pickSpeeds 59 = .ok (.iadd, 1) := by decide +kernel
theorem dX1_pickSpeeds_60 : decode cX1_pickSpeeds 60 = .ok (.iaload, 1) := by decide +kernel
theorem dX1_pickSpeeds_61 : decode cX1_pickSpeeds 61 = .ok (.iadd, 1) := by decide +kernel
theorem dX1_pickSpeeds_62 : decode cX1_pickSpeeds 62 = .ok (.aload_n 0, 1) := by decide +kernel
theorem dX1_pickSpeeds_63 : decode cX1_pickSpeeds 63 = .ok (.getfield 25, 3) := by decide +kernel
theorem dX1_pickSpeeds_66 : decode cX1_pickSpeeds 66 = .ok (.iload 8, 2) := by decide +kernel
theorem dX1_pickSpeeds_68 : decode cX1_pickSpeeds 68 = .ok (.iload 9, 2) := by decide +kernel
theorem dX1_pickSpeeds_70 : decode cX1_pickSpeeds 70 = .ok (.iadd, 1) := by decide +kernel
theorem dX1_pickSpeeds_71 : decode cX1_pickSpeeds 71 = .ok (.iaload, 1) := by decide +kernel
theorem dX1_pickSpeeds_72 : decode cX1_pickSpeeds 72 = .ok (.iadd, 1) := by decide +kernel
theorem dX1_pickSpeeds_73 : decode cX1_pickSpeeds 73 = .ok (.iload_n 3, 1) := by decide +kernel
theorem dX1_pickSpeeds_74 : decode cX1_pickSpeeds 74 = .ok (.if_icmp .eq 9, 3) := by decide +kernel
theorem dX1_pickSpeeds_77 : decode cX1_pickSpeeds 77 = .ok (.iinc 9 1, 3) := by decide +kernel
theorem dX1_pickSpeeds_80 : decode cX1_pickSpeeds 80 = .ok (.goto (-38), 3) := by decide +kernel
theorem dX1_pickSpeeds_83 : decode cX1_pickSpeeds 83 = .ok (.aload_n 2, 1) := by decide +kernel
theorem dX1_pickSpeeds_84 : decode cX1_pickSpeeds 84 = .ok (.iload 7, 2) := by decide +kernel
theorem dX1_pickSpeeds_86 : decode cX1_pickSpeeds 86 = .ok (.iconst 4, 1) := by decide +kernel
theorem dX1_pickSpeeds_87 : decode cX1_pickSpeeds 87 = .ok (.iload 9, 2) := by decide +kernel
theorem dX1_pickSpeeds_89 : decode cX1_pickSpeeds 89 = .ok (.iadd, 1) := by decide +kernel
theorem dX1_pickSpeeds_90 : decode cX1_pickSpeeds 90 = .ok (.iastore, 1) := by decide +kernel
theorem dX1_pickSpeeds_91 : decode cX1_pickSpeeds 91 = .ok (.iload 4, 2) := by decide +kernel
theorem dX1_pickSpeeds_93 : decode cX1_pickSpeeds 93 = .ok (.aload_n 0, 1) := by decide +kernel
theorem dX1_pickSpeeds_94 : decode cX1_pickSpeeds 94 = .ok (.getfield 22, 3) := by decide +kernel
theorem dX1_pickSpeeds_97 : decode cX1_pickSpeeds 97 = .ok (.iload 8, 2) := by decide +kernel
theorem dX1_pickSpeeds_99 : decode cX1_pickSpeeds 99 = .ok (.iload 9, 2) := by decide +kernel
theorem dX1_pickSpeeds_101 : decode cX1_pickSpeeds 101 = .ok (.iadd, 1) := by decide +kernel
theorem dX1_pickSpeeds_102 : decode cX1_pickSpeeds 102 = .ok (.iaload, 1) := by decide +kernel
theorem dX1_pickSpeeds_103 : decode cX1_pickSpeeds 103 = .ok (.iadd, 1) := by decide +kernel
theorem dX1_pickSpeeds_104 : decode cX1_pickSpeeds 104 = .ok (.istore 4, 2) := by decide +kernel
theorem dX1_pickSpeeds_106 : decode cX1_pickSpeeds 106 = .ok (.iconst 0, 1) := by decide +kernel
theorem dX1_pickSpeeds_107 : decode cX1_pickSpeeds 107 = .ok (.iload 9, 2) := by decide +kernel
theorem dX1_pickSpeeds_109 : decode cX1_pickSpeeds 109 = .ok (.iconst 1, 1) := by decide +kernel
theorem dX1_pickSpeeds_110 : decode cX1_pickSpeeds 110 = .ok (.isub, 1) := by decide +kernel
theorem dX1_pickSpeeds_111 : decode cX1_pickSpeeds 111 = .ok (.invokestatic 75, 3) := by decide +kernel
theorem dX1_pickSpeeds_114 : decode cX1_pickSpeeds 114 = .ok (.istore 5, 2) := by decide +kernel
theorem dX1_pickSpeeds_116 : decode cX1_pickSpeeds 116 = .ok (.bipush 8, 2) := by decide +kernel
theorem dX1_pickSpeeds_118 : decode cX1_pickSpeeds 118 = .ok (.iload 9, 2) := by decide +kernel
theorem dX1_pickSpeeds_120 : decode cX1_pickSpeeds 120 = .ok (.iconst 1, 1) := by decide +kernel
theorem dX1_pickSpeeds_121 : decode cX1_pickSpeeds 121 = .ok (.iadd, 1) := by decide +kernel
theorem dX1_pickSpeeds_122 : decode cX1_pickSpeeds 122 = .ok (.invokestatic 48, 3) := by decide +kernel
theorem dX1_pickSpeeds_125 : decode cX1_pickSpeeds 125 = .ok (.istore 6, 2) := by decide +kernel
theorem dX1_pickSpeeds_127 : decode cX1_pickSpeeds 127 = .ok (.iinc 7 1, 3) := by decide +kernel
theorem dX1_pickSpeeds_130 : decode cX1_pickSpeeds 130 = .ok (.goto (-108), 3) := by decide +kernel
theorem dX1_pickSpeeds_133 : decode cX1_pickSpeeds 133 = .ok (.return_, 1) := by decide +kernel
theorem dX1_leastCostWith_0 : decode cX1_leastCostWith 0 = .ok (.aload_n 0, 1) := by decide +kernel
theorem dX1_leastCostWith_1 : decode cX1_leastCostWith 1 = .ok (.aload_n 1, 1) := by decide +kernel
theorem dX1_leastCostWith_2 : decode cX1_leastCostWith 2 = .ok (.invokevirtual 71, 3) := by decide +kernel
theorem dX1_leastCostWith_5 : decode cX1_leastCostWith 5 = .ok (.aload_n 0, 1) := by decide +kernel
theorem dX1_leastCostWith_6 : decode cX1_leastCostWith 6 = .ok (.iload_n 2, 1) := by decide +kernel
theorem dX1_leastCostWith_7 : decode cX1_leastCostWith 7 = .ok (.iload_n 3, 1) := by decide +kernel
theorem dX1_leastCostWith_8 : decode cX1_leastCostWith 8 = .ok (.invokevirtual 54, 3) := by decide +kernel
theorem dX1_leastCostWith_11 : decode cX1_leastCostWith 11 = .ok (.aload_n 0, 1) := by decide +kernel
theorem dX1_leastCostWith_12 : decode cX1_leastCostWith 12 = .ok (.invokevirtual 51, 3) := by decide +kernel
theorem dX1_leastCostWith_15 : decode cX1_leastCostWith 15 = .ok (.aload_n 0, 1) := by decide +kernel
theorem dX1_leastCostWith_16 : decode cX1_leastCostWith 16 = .ok (.invokevirtual 78, 3) := by decide +kernel
theorem dX1_leastCostWith_19 : decode cX1_leastCostWith 19 = .ok (.ireturn, 1) := by decide +kernel
theorem dX2_init_0 : decode cX2_init 0 = .ok (.aload_n 0, 1) := by decide +kernel
theorem dX2_init_1 : decode cX2_init 1 = .ok (.invokespecial 3, 3) := by decide +kernel
theorem dX2_init_4 : decode cX2_init 4 = .ok (.aload_n 0, 1) := by decide +kernel
theorem dX2_init_5 : decode cX2_init 5 = .ok (.iconst 0, 1) := by decide +kernel
theorem dX2_init_6 : decode cX2_init 6 = .ok (.putfield 9, 3) := by decide +kernel
theorem dX2_init_9 : decode cX2_init 9 = .ok (.aload_n 0, 1) := by decide +kernel
theorem dX2_init_10 : decode cX2_init 10 = .ok (.bipush 20, 2) := by decide +kernel
theorem dX2_init_12 : decode cX2_init 12 = .ok (.newarray .int, 2) := by decide +kernel
theorem dX2_init_14 : decode cX2_init 14 = .ok (.putfield 15, 3) := by decide +kernel
theorem dX2_init_17 : decode cX2_init 17 = .ok (.aload_n 0, 1) := by decide +kernel
theorem dX2_init_18 : decode cX2_init 18 = .ok (.iconst 0, 1) := by decide +kernel
theorem dX2_init_19 : decode cX2_init 19 = .ok (.putfield 19, 3) := by decide +kernel
theorem dX2_init_22 : decode cX2_init 22 = .ok (.aload_n 0, 1) := by decide +kernel
theorem dX2_init_23 : decode cX2_init 23 = .ok (.bipush 100, 2) := by decide +kernel
theorem dX2_init_25 : decode cX2_init 25 = .ok (.newarray .int, 2) := by decide +kernel
theorem dX2_init_27 : decode cX2_init 27 = .ok (.putfield 22, 3) := by decide +kernel
theorem dX2_init_30 : decode cX2_init 30 = .ok (.aload_n 0, 1) := by decide +kernel
theorem dX2_init_31 : decode cX2_init 31 = .ok (.bipush 100, 2) := by decide +kernel
theorem dX2_init_33 : decode cX2_init 33 = .ok (.newarray .int, 2) := by decide +kernel
theorem dX2_init_35 : decode cX2_init 35 = .ok (.putfield 25, 3) := by decide +kernel
theorem dX2_init_38 : decode cX2_init 38 = .ok (.aload_n 0, 1) := by decide +kernel
theorem dX2_init_39 : decode cX2_init 39 = .ok (.bipush 100, 2) := by decide +kernel
theorem dX2_init_41 : decode cX2_init 41 = .ok (.newarray .int, 2) := by decide +kernel
theorem dX2_init_43 : decode cX2_init 43 = .ok (.putfield 28, 3) := by decide +kernel
theorem dX2_init_46 : decode cX2_init 46 = .ok (.aload_n 0, 1) := by decide +kernel
theorem dX2_init_47 : decode cX2_init 47 = .ok (.bipush 100, 2) := by decide +kernel
theorem dX2_init_49 : decode cX2_init 49 = .ok (.newarray .int, 2) := by decide +kernel
theorem dX2_init_51 : decode cX2_init 51 = .ok (.putfield 31, 3) := by decide +kernel
theorem dX2_init_54 : decode cX2_init 54 = .ok (.aload_n 0, 1) := by decide +kernel
theorem dX2_init_55 : decode cX2_init 55 = .ok (.bipush 100, 2) := by decide +kernel
theorem dX2_init_57 : decode cX2_init 57 = .ok (.newarray .int, 2) := by decide +kernel
theorem dX2_init_59 : decode cX2_init 59 = .ok (.putfield 34, 3) := by decide +kernel
theorem dX2_init_62 : decode cX2_init 62 = .ok (.return_, 1) := by decide +kernel
theorem dX2_open_0 : decode cX2_open 0 = .ok (.aload_n 0, 1) := by decide +kernel
theorem dX2_open_1 : decode cX2_open 1 = .ok (.getfield 15, 3) := by decide +kernel
theorem dX2_open_4 : decode cX2_open 4 = .ok (.aload_n 0, 1) := by decide +kernel
theorem dX2_open_5 : decode cX2_open 5 = .ok (.getfield 9, 3) := by decide +kernel
theorem dX2_open_8 : decode cX2_open 8 = .ok (.iload_n 1, 1) := by decide +kernel
theorem dX2_open_9 : decode cX2_open 9 = .ok (.iastore, 1) := by decide +kernel
theorem dX2_open_10 : decode cX2_open 10 = .ok (.aload_n 0, 1) := by decide +kernel
theorem dX2_open_11 : decode cX2_open 11 = .ok (.dup, 1) := by decide +kernel
theorem dX2_open_12 : decode cX2_open 12 = .ok (.getfield 9, 3) := by decide +kernel
theorem dX2_open_15 : decode cX2_open 15 = .ok (.iconst 1, 1) := by decide +kernel
theorem dX2_open_16 : decode cX2_open 16 = .ok (.iadd, 1) := by decide +kernel
theorem dX2_open_17 : decode cX2_open 17 = .ok (.putfield 9, 3) := by decide +kernel
theorem dX2_open_20 : decode cX2_open 20 = .ok (.aload_n 0, 1) := by decide +kernel
theorem dX2_open_21 : decode cX2_open 21 = .ok (.getfield 9, 3) := by decide +kernel
theorem dX2_open_24 : decode cX2_open 24 = .ok (.iconst 1, 1) := by decide +kernel
theorem dX2_open_25 : decode cX2_open 25 = .ok (.isub, 1) := by decide +kernel
theorem dX2_open_26 : decode cX2_open 26 = .ok (.ireturn, 1) := by decide +kernel
theorem dX2_take_0 : decode cX2_take 0 = .ok (.aload_n 0, 1) := by decide +kernel
theorem dX2_take_1 : decode cX2_take 1 = .ok (.getfield 22, 3) := by decide +kernel
theorem dX2_take_4 : decode cX2_take 4 = .ok (.aload_n 0, 1) := by decide +kernel
theorem dX2_take_5 : decode cX2_take 5 = .ok (.getfield 19, 3) := by decide +kernel
theorem dX2_take_8 : decode cX2_take 8 = .ok (.iload_n 1, 1) := by decide +kernel
theorem dX2_take_9 : decode cX2_take 9 = .ok (.iastore, 1) := by decide +kernel
theorem dX2_take_10 : decode cX2_take 10 = .ok (.aload_n 0, 1) := by decide +kernel
theorem dX2_take_11 : decode cX2_take 11 = .ok (.getfield 25, 3) := by decide +kernel
theorem dX2_take_14 : decode cX2_take 14 = .ok (.aload_n 0, 1) := by decide +kernel
theorem dX2_take_15 : decode cX2_take 15 = .ok (.getfield 19, 3) := by decide +kernel
theorem dX2_take_18 : decode cX2_take 18 = .ok (.iload_n 2, 1) := by decide +kernel
theorem dX2_take_19 : decode cX2_take 19 = .ok (.iastore, 1) := by decide +kernel
theorem dX2_take_20 : decode cX2_take 20 = .ok (.aload_n 0, 1) := by decide +kernel
theorem dX2_take_21 : decode cX2_take 21 = .ok (.getfield 28, 3) := by decide +kernel
theorem dX2_take_24 : decode cX2_take 24 = .ok (.aload_n 0, 1) := by decide +kernel
theorem dX2_take_25 : decode cX2_take 25 = .ok (.getfield 19, 3) := by decide +kernel
theorem dX2_take_28 : decode cX2_take 28 = .ok (.aload_n 3, 1) := by decide +kernel
theorem dX2_take_29 : decode cX2_take 29 = .ok (.iconst 0, 1) := by decide +kernel
theorem dX2_take_30 : decode cX2_take 30 = .ok (.invokevirtual 37, 3) := by decide +kernel
theorem dX2_take_33 : decode cX2_take 33 = .ok (.iastore, 1) := by decide +kernel
theorem dX2_take_34 : decode cX2_take 34 = .ok (.aload_n 0, 1) := by decide +kernel
theorem dX2_take_35 : decode cX2_take 35 = .ok (.getfield 31, 3) := by decide +kernel
theorem dX2_take_38 : decode cX2_take 38 = .ok (.aload_n 0, 1) := by decide +kernel
theorem dX2_take_39 : decode cX2_take 39 = .ok (.getfield 19, 3) := by decide +kernel
theorem dX2_take_42 : decode cX2_take 42 = .ok (.aload_n 3, 1) := by decide +kernel
theorem dX2_take_43 : decode cX2_take 43 = .ok (.iconst 1, 1) := by decide +kernel
theorem dX2_take_44 : decode cX2_take 44 = .ok (.invokevirtual 37, 3) := by decide +kernel
theorem dX2_take_47 : decode cX2_take 47 = .ok (.iastore, 1) := by decide +kernel
theorem dX2_take_48 : decode cX2_take 48 = .ok (.aload_n 0, 1) := by decide +kernel
theorem dX2_take_49 : decode cX2_take 49 = .ok (.getfield 34, 3) := by decide +kernel
theorem dX2_take_52 : decode cX2_take 52 = .ok (.aload_n 0, 1) := by decide +kernel
theorem dX2_take_53 : decode cX2_take 53 = .ok (.getfield 19, 3) := by decide +kernel
theorem dX2_take_56 : decode cX2_take 56 = .ok (.aload_n 3, 1) := by decide +kernel
theorem dX2_take_57 : decode cX2_take 57 = .ok (.iconst 2, 1) := by decide +kernel
theorem dX2_take_58 : decode cX2_take 58 = .ok (.invokevirtual 37, 3) := by decide +kernel
theorem dX2_take_61 : decode cX2_take 61 = .ok (.iastore, 1) := by decide +kernel
theorem dX2_take_62 : decode cX2_take 62 = .ok (.aload_n 0, 1) := by decide +kernel
theorem dX2_take_63 : decode cX2_take 63 = .ok (.dup, 1) := by decide +kernel
theorem dX2_take_64 : decode cX2_take 64 = .ok (.getfield 19, 3) := by decide +kernel
theorem dX2_take_67 : decode cX2_take 67 = .ok (.iconst 1, 1) := by decide +kernel
theorem dX2_take_68 : decode cX2_take 68 = .ok (.iadd, 1) := by decide +kernel
theorem dX2_take_69 : decode cX2_take 69 = .ok (.putfield 19, 3) := by decide +kernel
theorem dX2_take_72 : decode cX2_take 72 = .ok (.aload_n 0, 1) := by decide +kernel
theorem dX2_take_73 : decode cX2_take 73 = .ok (.getfield 19, 3) := by decide +kernel
theorem dX2_take_76 : decode cX2_take 76 = .ok (.iconst 1, 1) := by decide +kernel
theorem dX2_take_77 : decode cX2_take 77 = .ok (.isub, 1) := by decide +kernel
theorem dX2_take_78 : decode cX2_take 78 = .ok (.ireturn, 1) := by decide +kernel
theorem dX2_findTwin_0 : decode cX2_findTwin 0 = .ok (.aload_n 1, 1) := by decide +kernel
theorem dX2_findTwin_1 : decode cX2_findTwin 1 = .ok (.iconst 0, 1) := by decide +kernel
theorem dX2_findTwin_2 : decode cX2_findTwin 2 = .ok (.invokevirtual 37, 3) := by decide +kernel
theorem dX2_findTwin_5 : decode cX2_findTwin 5 = .ok (.istore_n 2, 1) := by decide +kernel
theorem dX2_findTwin_6 : decode cX2_findTwin 6 = .ok (.aload_n 1, 1) := by decide +kernel
theorem dX2_findTwin_7 : decode cX2_findTwin 7 = .ok (.iconst 1, 1) := by decide +kernel
theorem dX2_findTwin_8 : decode cX2_findTwin 8 = .ok (.invokevirtual 37, 3) := by decide +kernel
theorem dX2_findTwin_11 : decode cX2_findTwin 11 = .ok (.istore_n 3, 1) := by decide +kernel
theorem dX2_findTwin_12 : decode cX2_findTwin 12 = .ok (.aload_n 1, 1) := by decide +kernel
theorem dX2_findTwin_13 : decode cX2_findTwin 13 = .ok (.iconst 2, 1) := by decide +kernel
theorem dX2_findTwin_14 : decode cX2_findTwin 14 = .ok (.invokevirtual 37, 3) := by decide +kernel
theorem dX2_findTwin_17 : decode cX2_findTwin 17 = .ok (.istore 4, 2) := by decide +kernel
theorem dX2_findTwin_19 : decode cX2_findTwin 19 = .ok (.iconst 0, 1) := by decide +kernel
theorem dX2_findTwin_20 : decode cX2_findTwin 20 = .ok (.istore 5, 2) := by decide +kernel
theorem dX2_findTwin_22 : decode cX2_findTwin 22 = .ok (.iload 5, 2) := by decide +kernel
theorem dX2_findTwin_24 : decode cX2_findTwin 24 = .ok (.aload_n 0, 1) := by decide +kernel
theorem dX2_findTwin_25 : decode cX2_findTwin 25 = .ok (.getfield 19, 3) := by decide +kernel
theorem dX2_findTwin_28 : decode cX2_findTwin 28 = .ok (.if_icmp .ge 46, 3) := by decide +kernel
theorem dX2_findTwin_31 : decode cX2_findTwin 31 = .ok (.aload_n 0, 1) := by decide +kernel
theorem dX2_findTwin_32 : decode cX2_findTwin 32 = .ok (.getfield 28, 3) := by decide +kernel
theorem dX2_findTwin_35 : decode cX2_findTwin 35 = .ok (.iload 5, 2) := by decide +kernel
theorem dX2_findTwin_37 : decode cX2_findTwin 37 = .ok (.iaload, 1) := by decide +kernel
theorem dX2_findTwin_38 : decode cX2_findTwin 38 = .ok (.iload_n 2, 1) := by decide +kernel
theorem dX2_findTwin_39 : decode cX2_findTwin 39 = .ok (.if_icmp .ne 29, 3) := by decide +kernel
theorem dX2_findTwin_42 : decode cX2_findTwin 42 = .ok (.aload_n 0, 1) := by decide +kernel
theorem dX2_findTwin_43 : decode cX2_findTwin 43 = .ok (.getfield 31, 3) := by decide +kernel
theorem dX2_findTwin_46 : decode cX2_findTwin 46 = .ok (.iload 5, 2) := by decide +kernel
theorem dX2_findTwin_48 : decode cX2_findTwin 48 = .ok (.iaload, 1) := by decide +kernel
theorem dX2_findTwin_49 : decode cX2_findTwin 49 = .ok (.iload_n 3, 1) := by decide +kernel
theorem dX2_findTwin_50 : decode cX2_findTwin 50 = .ok (.if_icmp .ne 18, 3) := by decide +kernel
theorem dX2_findTwin_53 : decode cX2_findTwin 53 = .ok (.aload_n 0, 1) := by decide +kernel
theorem dX2_findTwin_54 : decode cX2_findTwin 54 = .ok (.getfield 34, 3) := by decide +kernel
theorem dX2_findTwin_57 : decode cX2_findTwin 57 = .ok (.iload 5, 2) := by decide +kernel
theorem dX2_findTwin_59 : decode cX2_findTwin 59 = .ok (.iaload, 1) := by decide +kernel
theorem dX2_findTwin_60 : decode cX2_findTwin 60 = .ok (.iload 4, 2) := by decide +kernel
theorem dX2_findTwin_62 : decode cX2_findTwin 62 = .ok (.if_icmp .ne 6, 3) := by decide +kernel
theorem dX2_findTwin_65 : decode cX2_findTwin 65 = .ok (.iload 5, 2) := by decide +kernel
theorem dX2_findTwin_67 : decode cX2_findTwin 67 = .ok (.ireturn, 1) := by decide +kernel
theorem dX2_findTwin_68 : decode cX2_findTwin 68 = .ok (.iinc 5 1, 3) := by decide +kernel
theorem dX2_findTwin_71 : decode cX2_findTwin 71 = .ok (.goto (-49), 3) := by decide +kernel
theorem dX2_findTwin_74 : decode cX2_findTwin 74 = .ok (.iconst (-1), 1) := by decide +kernel
theorem dX2_findTwin_75 : decode cX2_findTwin 75 = .ok (.ireturn, 1) := by decide +kernel
theorem dX2_sumOut_0 : decode cX2_sumOut 0 = .ok (.lconst 0, 1) := by decide +kernel
theorem dX2_sumOut_1 : decode cX2_sumOut 1 = .ok (.lstore_n 2, 1) := by decide +kernel
theorem dX2_sumOut_2 : decode cX2_sumOut 2 = .ok (.iconst 0, 1) := by decide +kernel
theorem dX2_sumOut_3 : decode cX2_sumOut 3 = .ok (.istore 4, 2) := by decide +kernel
theorem dX2_sumOut_5 : decode cX2_sumOut 5 = .ok (.iload 4, 2) := by decide +kernel
theorem dX2_sumOut_7 : decode cX2_sumOut 7 = .ok (.aload_n 0, 1) := by decide +kernel
theorem dX2_sumOut_8 : decode cX2_sumOut 8 = .ok (.getfield 19, 3) := by decide +kernel
theorem dX2_sumOut_11 : decode cX2_sumOut 11 = .ok (.if_icmp .ge 31, 3) := by decide +kernel
theorem dX2_sumOut_14 : decode cX2_sumOut 14 = .ok (.aload_n 0, 1) := by decide +kernel
theorem dX2_sumOut_15 : decode cX2_sumOut 15 = .ok (.getfield 22, 3) := by decide +kernel
theorem dX2_sumOut_18 : decode cX2_sumOut 18 = .ok (.iload 4, 2) := by decide +kernel
theorem dX2_sumOut_20 : decode cX2_sumOut 20 = .ok (.iaload, 1) := by decide +kernel
theorem dX2_sumOut_21 : decode cX2_sumOut 21 = .ok (.iload_n 1, 1) := by decide +kernel
theorem dX2_sumOut_22 : decode cX2_sumOut 22 = .ok (.if_icmp .ne 14, 3) := by decide +kernel
theorem dX2_sumOut_25 : decode cX2_sumOut 25 = .ok (.lload_n 2, 1) := by decide +kernel
theorem dX2_sumOut_26 : decode cX2_sumOut 26 = .ok (.aload_n 0, 1) := by decide +kernel
theorem dX2_sumOut_27 : decode cX2_sumOut 27 = .ok (.getfield 25, 3) := by decide +kernel
theorem dX2_sumOut_30 : decode cX2_sumOut 30 = .ok (.iload 4, 2) := by decide +kernel
theorem dX2_sumOut_32 : decode cX2_sumOut 32 = .ok (.iaload, 1) := by decide +kernel
theorem dX2_sumOut_33 : decode cX2_sumOut 33 = .ok (.i2l, 1) := by decide +kernel
theorem dX2_sumOut_34 : decode cX2_sumOut 34 = .ok (.ladd, 1) := by decide +kernel
theorem dX2_sumOut_35 : decode cX2_sumOut 35 = .ok (.lstore_n 2, 1) := by decide +kernel
theorem dX2_sumOut_36 : decode cX2_sumOut 36 = .ok (.iinc 4 1, 3) := by decide +kernel
theorem dX2_sumOut_39 : decode cX2_sumOut 39 = .ok (.goto (-34), 3) := by decide +kernel
theorem dX2_sumOut_42 : decode cX2_sumOut 42 = .ok (.lload_n 2, 1) := by decide +kernel
theorem dX2_sumOut_43 : decode cX2_sumOut 43 = .ok (.aload_n 0, 1) := by decide +kernel
theorem dX2_sumOut_44 : decode cX2_sumOut 44 = .ok (.getfield 15, 3) := by decide +kernel
theorem dX2_sumOut_47 : decode cX2_sumOut 47 = .ok (.iload_n 1, 1) := by decide +kernel
theorem dX2_sumOut_48 : decode cX2_sumOut 48 = .ok (.iaload, 1) := by decide +kernel
theorem dX2_sumOut_49 : decode cX2_sumOut 49 = .ok (.i2l, 1) := by decide +kernel
theorem dX2_sumOut_50 : decode cX2_sumOut 50 = .ok (.lsub, 1) := by decide +kernel
theorem dX2_sumOut_51 : decode cX2_sumOut 51 = .ok (.lreturn, 1) := by decide +kernel
theorem dX3_init_0 : decode cX3_init 0 = .ok (.aload_n 0, 1) := by decide +kernel
theorem dX3_init_1 : decode cX3_init 1 = .ok (.invokespecial 3, 3) := by decide +kernel
theorem dX3_init_4 : decode cX3_init 4 = .ok (.aload_n 0, 1) := by decide +kernel
theorem dX3_init_5 : decode cX3_init 5 = .ok (.iconst 0, 1) := by decide +kernel
theorem dX3_init_6 : decode cX3_init 6 = .ok (.putfield 9, 3) := by decide +kernel
theorem dX3_init_9 : decode cX3_init 9 = .ok (.aload_n 0, 1) := by decide +kernel
theorem dX3_init_10 : decode cX3_init 10 = .ok (.iconst 0, 1) := by decide +kernel
theorem dX3_init_11 : decode cX3_init 11 = .ok (.putfield 15, 3) := by decide +kernel
theorem dX3_init_14 : decode cX3_init 14 = .ok (.aload_n 0, 1) := by decide +kernel
theorem dX3_init_15 : decode cX3_init 15 = .ok (.iconst 0, 1) := by decide +kernel
theorem dX3_init_16 : decode cX3_init 16 = .ok (.putfield 18, 3) := by decide +kernel
theorem dX3_init_19 : decode cX3_init 19 = .ok (.aload_n 0, 1) := by decide +kernel
theorem dX3_init_20 : decode cX3_init 20 = .ok (.iconst 0, 1) := by decide +kernel
theorem dX3_init_21 : decode cX3_init 21 = .ok (.putfield 21, 3) := by decide +kernel
theorem dX3_init_24 : decode cX3_init 24 = .ok (.aload_n 0, 1) := by decide +kernel
theorem dX3_init_25 : decode cX3_init 25 = .ok (.bipush 20, 2) := by decide +kernel
theorem dX3_init_27 : decode cX3_init 27 = .ok (.newarray .int, 2) := by decide +kernel
theorem dX3_init_29 : decode cX3_init 29 = .ok (.putfield 25, 3) := by decide +kernel
theorem dX3_init_32 : decode cX3_init 32 = .ok (.aload_n 0, 1) := by decide +kernel
theorem dX3_init_33 : decode cX3_init 33 = .ok (.bipush 20, 2) := by decide +kernel
theorem dX3_init_35 : decode cX3_init 35 = .ok (.newarray .int, 2) := by decide +kernel
theorem dX3_init_37 : decode cX3_init 37 = .ok (.putfield 29, 3) := by decide +kernel
theorem dX3_init_40 : decode cX3_init 40 = .ok (.aload_n 0, 1) := by decide +kernel
theorem dX3_init_41 : decode cX3_init 41 = .ok (.iconst 0, 1) := by decide +kernel
theorem dX3_init_42 : decode cX3_init 42 = .ok (.putfield 32, 3) := by decide +kernel
theorem dX3_init_45 : decode cX3_init 45 = .ok (.aload_n 0, 1) := by decide +kernel
theorem dX3_init_46 : decode cX3_init 46 = .ok (.iconst 0, 1) := by decide +kernel
theorem dX3_init_47 : decode cX3_init 47 = .ok (.putfield 35, 3) := by decide +kernel
theorem dX3_init_50 : decode cX3_init 50 = .ok (.return_, 1) := by decide +kernel
theorem dX3_begin_0 : decode cX3_begin 0 = .ok (.aload_n 0, 1) := by decide +kernel
theorem dX3_begin_1 : decode cX3_begin 1 = .ok (.iload_n 1, 1) := by decide +kernel
theorem dX3_begin_2 : decode cX3_begin 2 = .ok (.putfield 9, 3) := by decide +kernel
theorem dX3_begin_5 : decode cX3_begin 5 = .ok (.aload_n 0, 1) := by decide +kernel
theorem dX3_begin_6 : decode cX3_begin 6 = .ok (.iload_n 2, 1) := by decide +kernel
theorem dX3_begin_7 : decode cX3_begin 7 = .ok (.putfield 15, 3) := by decide +kernel
theorem dX3_begin_10 : decode cX3_begin 10 = .ok (.aload_n 0, 1) := by decide +kernel
theorem dX3_begin_11 : decode cX3_begin 11 = .ok (.iload_n 3, 1) := by decide +kernel
theorem dX3_begin_12 : decode cX3_begin 12 = .ok (.putfield 21, 3) := by decide +kernel
theorem dX3_begin_15 : decode cX3_begin 15 = .ok (.return_, 1) := by decide +kernel
theorem dX3_end_0 : decode cX3_end 0 = .ok (.aload_n 0, 1) := by decide +kernel
theorem dX3_end_1 : decode cX3_end 1 = .ok (.iconst 0, 1) := by decide +kernel
theorem dX3_end_2 : decode cX3_end 2 = .ok (.putfield 9, 3) := by decide +kernel
theorem dX3_end_5 : decode cX3_end 5 = .ok (.return_, 1) := by decide +kernel
theorem dX3_isThere_0 : decode cX3_isThere 0 = .ok (.aload_n 0, 1) := by decide +kernel
theorem dX3_isThere_1 : decode cX3_isThere 1 = .ok (.getfield 9, 3) := by decide +kernel
theorem dX3_isThere_4 : decode cX3_isThere 4 = .ok (.ifCond .le 7, 3) := by decide +kernel
theorem dX3_isThere_7 : decode cX3_isThere 7 = .ok (.iconst 1, 1) := by decide +kernel
theorem dX3_isThere_8 : decode cX3_isThere 8 = .ok (.goto 4, 3) := by decide +kernel
theorem dX3_isThere_11 : decode cX3_isThere 11 = .ok (.iconst 0, 1) := by decide +kernel
theorem dX3_isThere_12 : decode cX3_isThere 12 = .ok (.ireturn, 1) := by decide +kernel
theorem dX3_isLong_0 : decode cX3_isLong 0 = .ok (.aload_n 0, 1) := by decide +kernel
theorem dX3_isLong_1 : decode cX3_isLong 1 = .ok (.getfield 9, 3) := by decide +kernel
theorem dX3_isLong_4 : decode cX3_isLong 4 = .ok (.bipush 18, 2) := by decide +kernel
theorem dX3_isLong_6 : decode cX3_isLong 6 = .ok (.if_icmp .ne 7, 3) := by decide +kernel
theorem dX3_isLong_9 : decode cX3_isLong 9 = .ok (.iconst 1, 1) := by decide +kernel
theorem dX3_isLong_10 : decode cX3_isLong 10 = .ok (.goto 4, 3) := by decide +kernel
theorem dX3_isLong_13 : decode cX3_isLong 13 = .ok (.iconst 0, 1) := by decide +kernel
theorem dX3_isLong_14 : decode cX3_isLong 14 = .ok (.ireturn, 1) := by decide +kernel
theorem dX3_checkLine_0 : decode cX3_checkLine 0 = .ok (.aload_n 0, 1) := by decide +kernel
theorem dX3_checkLine_1 : decode cX3_checkLine 1 = .ok (.iconst 0, 1) := by decide +kernel
theorem dX3_checkLine_2 : decode cX3_checkLine 2 = .ok (.putfield 32, 3) := by decide +kernel
theorem dX3_checkLine_5 : decode cX3_checkLine 5 = .ok (.aload_n 0, 1) := by decide +kernel
theorem dX3_checkLine_6 : decode cX3_checkLine 6 = .ok (.iconst 0, 1) := by decide +kernel
theorem dX3_checkLine_7 : decode cX3_checkLine 7 = .ok (.putfield 35, 3) := by decide +kernel
theorem dX3_checkLine_10 : decode cX3_checkLine 10 = .ok (.aload_n 0, 1) := by decide +kernel
theorem dX3_checkLine_11 : decode cX3_checkLine 11 = .ok (.invokevirtual 38, 3) := by decide +kernel
theorem dX3_checkLine_14 : decode cX3_checkLine 14 = .ok (.ifCond .ne 4, 3) := by decide +kernel
theorem dX3_checkLine_17 : decode cX3_checkLine 17 = .ok (.return_, 1) := by decide +kernel
theorem dX3_checkLine_18 : decode cX3_checkLine 18 = .ok (.iconst 0, 1) := by decide +kernel
theorem dX3_checkLine_19 : decode cX3_checkLine 19 = .ok (.istore_n 1, 1) := by decide +kernel
theorem dX3_checkLine_20 : decode cX3_checkLine 20 = .ok (.iload_n 1, 1) := by decide +kernel
theorem dX3_checkLine_21 : decode cX3_checkLine 21 = .ok (.bipush 18, 2) := by decide +kernel
theorem dX3_checkLine_23 : decode cX3_checkLine 23 = .ok (.if_icmp .ge 53, 3) := by decide +kernel
theorem dX3_checkLine_26 : decode cX3_checkLine 26 = .ok (.iload_n 1, 1) := by decide +kernel
theorem dX3_checkLine_27 : decode cX3_checkLine 27 = .ok (.aload_n 0, 1) := by decide +kernel
theorem dX3_checkLine_28 : decode cX3_checkLine 28 = .ok (.getfield 25, 3) := by decide +kernel
theorem dX3_checkLine_31 : decode cX3_checkLine 31 = .ok (.iload_n 1, 1) := by decide +kernel
theorem dX3_checkLine_32 : decode cX3_checkLine 32 = .ok (.iaload, 1) := by decide +kernel
theorem dX3_checkLine_33 : decode cX3_checkLine 33 = .ok (.invokestatic 42, 3) := by decide +kernel
theorem dX3_checkLine_36 : decode cX3_checkLine 36 = .ok (.ifCond .ne 13, 3) := by decide +kernel
theorem dX3_checkLine_39 : decode cX3_checkLine 39 = .ok (.aload_n 0, 1) := by decide +kernel
theorem dX3_checkLine_40 : decode cX3_checkLine 40 = .ok (.dup, 1) := by decide +kernel
theorem dX3_checkLine_41 : decode cX3_checkLine 41 = .ok (.getfield 32, 3) := by decide +kernel
theorem dX3_checkLine_44 : decode cX3_checkLine 44 = .ok (.iconst 1, 1) := by decide +kernel
theorem dX3_checkLine_45 : decode cX3_checkLine 45 = .ok (.iadd, 1) := by decide +kernel
theorem dX3_checkLine_46 : decode cX3_checkLine 46 = .ok (.putfield 32, 3) := by decide +kernel
theorem dX3_checkLine_49 : decode cX3_checkLine 49 = .ok (.aload_n 0, 1) := by decide +kernel
theorem dX3_checkLine_50 : decode cX3_checkLine 50 = .ok (.dup, 1) := by decide +kernel
theorem dX3_checkLine_51 : decode cX3_checkLine 51 = .ok (.getfield 35, 3) := by decide +kernel
theorem dX3_checkLine_54 : decode cX3_checkLine 54 = .ok (.getstatic 46, 3) := by decide +kernel
theorem dX3_checkLine_57 : decode cX3_checkLine 57 = .ok (.iload_n 1, 1) := by decide +kernel
theorem dX3_checkLine_58 : decode cX3_checkLine 58 = .ok (.iaload, 1) := by decide +kernel
theorem dX3_checkLine_59 : decode cX3_checkLine 59 = .ok (.aload_n 0, 1) := by decide +kernel
theorem dX3_checkLine_60 : decode cX3_checkLine 60 = .ok (.getfield 25, 3) := by decide +kernel
theorem dX3_checkLine_63 : decode cX3_checkLine 63 = .ok (.iload_n 1, 1) := by decide +kernel
theorem dX3_checkLine_64 : decode cX3_checkLine 64 = .ok (.iaload, 1) := by decide +kernel
theorem dX3_checkLine_65 : decode cX3_checkLine 65 = .ok (.imul, 1) := by decide +kernel
theorem dX3_checkLine_66 : decode cX3_checkLine 66 = .ok (.iadd, 1) := by decide +kernel
theorem dX3_checkLine_67 : decode cX3_checkLine 67 = .ok (.putfield 35, 3) := by decide +kernel
theorem dX3_checkLine_70 : decode cX3_checkLine 70 = .ok (.iinc 1 1, 3) := by decide +kernel
theorem dX3_checkLine_73 : decode cX3_checkLine 73 = .ok (.goto (-53), 3) := by decide +kernel
theorem dX3_checkLine_76 : decode cX3_checkLine 76 = .ok (.return_, 1) := by decide +kernel
theorem dX3_belongs_0 : decode cX3_belongs 0 = .ok (.getstatic 49, 3) := by decide +kernel
theorem dX3_belongs_3 : decode cX3_belongs 3 = .ok (.iload_n 0, 1) := by decide +kernel
theorem dX3_belongs_4 : decode cX3_belongs 4 = .ok (.iaload, 1) := by decide +kernel
theorem dX3_belongs_5 : decode cX3_belongs 5 = .ok (.iconst (-1), 1) := by decide +kernel
theorem dX3_belongs_6 : decode cX3_belongs 6 = .ok (.if_icmp .ne 17, 3) := by decide +kernel
theorem dX3_belongs_9 : decode cX3_belongs 9 = .ok (.iload_n 1, 1) := by decide +kernel
theorem dX3_belongs_10 : decode cX3_belongs 10 = .ok (.bipush 10, 2) := by decide +kernel
theorem dX3_belongs_12 : decode cX3_belongs 12 = .ok (.if_icmp .ge 7, 3) := by decide +kernel
theorem dX3_belongs_15 : decode cX3_belongs 15 = .ok (.iconst 1, 1) := by decide +kernel
theorem dX3_belongs_16 : decode cX3_belongs 16 = .ok (.goto 21, 3) := by decide +kernel
theorem dX3_belongs_19 : decode cX3_belongs 19 = .ok (.iconst 0, 1) := by decide +kernel
theorem dX3_belongs_20 : decode cX3_belongs 20 = .ok (.goto 17, 3) := by decide +kernel
theorem dX3_belongs_23 : decode cX3_belongs 23 = .ok (.iload_n 1, 1) := by decide +kernel
theorem dX3_belongs_24 : decode cX3_belongs 24 = .ok (.getstatic 49, 3) := by decide +kernel
theorem dX3_belongs_27 : decode cX3_belongs 27 = .ok (.iload_n 0, 1) := by decide +kernel
theorem dX3_belongs_28 : decode cX3_belongs 28 = .ok (.iaload, 1) := by decide +kernel
theorem dX3_belongs_29 : decode cX3_belongs 29 = .ok (.if_icmp .ne 7, 3) := by decide +kernel
theorem dX3_belongs_32 : decode cX3_belongs 32 = .ok (.iconst 1, 1) := by decide +kernel
theorem dX3_belongs_33 : decode cX3_belongs 33 = .ok (.goto 4, 3) := by decide +kernel
theorem dX3_belongs_36 : decode cX3_belongs 36 = .ok (.iconst 0, 1) := by decide +kernel
theorem dX3_belongs_37 : decode cX3_belongs 37 = .ok (.ireturn, 1) := by decide +kernel
theorem dX3_fits_0 : decode cX3_fits 0 = .ok (.aload_n 0, 1) := by decide +kernel
theorem dX3_fits_1 : decode cX3_fits 1 = .ok (.invokevirtual 38, 3) := by decide +kernel
theorem dX3_fits_4 : decode cX3_fits 4 = .ok (.ifCond .eq 24, 3) := by decide +kernel
theorem dX3_fits_7 : decode cX3_fits 7 = .ok (.aload_n 0, 1) := by decide +kernel
theorem dX3_fits_8 : decode cX3_fits 8 = .ok (.getfield 32, 3) := by decide +kernel
theorem dX3_fits_11 : decode cX3_fits 11 = .ok (.ifCond .ne 17, 3) := by decide +kernel
theorem dX3_fits_14 : decode cX3_fits 14 = .ok (.aload_n 0, 1) := by decide +kernel
theorem dX3_fits_15 : decode cX3_fits 15 = .ok (.getfield 35, 3) := by decide +kernel
theorem dX3_fits_18 : decode cX3_fits 18 = .ok (.bipush 10, 2) := by decide +kernel
theorem dX3_fits_20 : decode cX3_fits 20 = .ok (.irem, 1) := by decide +kernel
theorem dX3_fits_21 : decode cX3_fits 21 = .ok (.ifCond .ne 7, 3) := by decide +kernel
theorem dX3_fits_24 : decode cX3_fits 24 = .ok (.iconst 1, 1) := by decide +kernel
theorem dX3_fits_25 : decode cX3_fits 25 = .ok (.goto 4, 3) := by decide +kernel
theorem dX3_fits_28 : decode cX3_fits 28 = .ok (.iconst 0, 1) := by decide +kernel
theorem dX3_fits_29 : decode cX3_fits 29 = .ok (.ireturn, 1) := by decide +kernel
theorem dX3_isOther_0 : decode cX3_isOther 0 = .ok (.aload_n 0, 1) := by decide +kernel
theorem dX3_isOther_1 : decode cX3_isOther 1 = .ok (.getfield 25, 3) := by decide +kernel
theorem dX3_isOther_4 : decode cX3_isOther 4 = .ok (.iload_n 1, 1) := by decide +kernel
theorem dX3_isOther_5 : decode cX3_isOther 5 = .ok (.iaload, 1) := by decide +kernel
theorem dX3_isOther_6 : decode cX3_isOther 6 = .ok (.istore_n 3, 1) := by decide +kernel
theorem dX3_isOther_7 : decode cX3_isOther 7 = .ok (.iload_n 2, 1) := by decide +kernel
theorem dX3_isOther_8 : decode cX3_isOther 8 = .ok (.iload_n 3, 1) := by decide +kernel
theorem dX3_isOther_9 : decode cX3_isOther 9 = .ok (.if_icmp .eq 11, 3) := by decide +kernel
theorem dX3_isOther_12 : decode cX3_isOther 12 = .ok (.iload_n 1, 1) := by decide +kernel
theorem dX3_isOther_13 : decode cX3_isOther 13 = .ok (.iload_n 2, 1) := by decide +kernel
theorem dX3_isOther_14 : decode cX3_isOther 14 = .ok (.invokestatic 42, 3) := by decide +kernel
theorem dX3_isOther_17 : decode cX3_isOther 17 = .ok (.ifCond .ne 5, 3) := by decide +kernel
theorem dX3_isOther_20 : decode cX3_isOther 20 = .ok (.iconst 0, 1) := by decide +kernel
theorem dX3_isOther_21 : decode cX3_isOther 21 = .ok (.ireturn, 1) := by decide +kernel
theorem dX3_isOther_22 : decode cX3_isOther 22 = .ok (.iload_n 1, 1) := by decide +kernel
theorem dX3_isOther_23 : decode cX3_isOther 23 = .ok (.iload_n 3, 1) := by decide +kernel
theorem dX3_isOther_24 : decode cX3_isOther 24 = .ok (.invokestatic 42, 3) := by decide +kernel
theorem dX3_isOther_27 : decode cX3_isOther 27 = .ok (.ifCond .eq 10, 3) := by decide +kernel
theorem dX3_isOther_30 : decode cX3_isOther 30 = .ok (.aload_n 0, 1) := by decide +kernel
theorem dX3_isOther_31 : decode cX3_isOther 31 = .ok (.getfield 32, 3) := by decide +kernel
theorem dX3_isOther_34 : decode cX3_isOther 34 = .ok (.goto 9, 3) := by decide +kernel
theorem dX3_isOther_37 : decode cX3_isOther 37 = .ok (.aload_n 0, 1) := by decide +kernel
theorem dX3_isOther_38 : decode cX3_isOther 38 = .ok (.getfield 32, 3) := by decide +kernel
theorem dX3_isOther_41 : decode cX3_isOther 41 = .ok (.iconst 1, 1) := by decide +kernel
theorem dX3_isOther_42 : decode cX3_isOther 42 = .ok (.isub, 1) := by decide +kernel
theorem dX3_isOther_43 : decode cX3_isOther 43 = .ok (.istore 4, 2) := by decide +kernel
theorem dX3_isOther_45 : decode cX3_isOther 45 = .ok (.iload 4, 2) := by decide +kernel
theorem dX3_isOther_47 : decode cX3_isOther 47 = .ok (.ifCond .ne 27, 3) := by decide +kernel
theorem dX3_isOther_50 : decode cX3_isOther 50 = .ok (.aload_n 0, 1) := by decide +kernel
theorem dX3_isOther_51 : decode cX3_isOther 51 = .ok (.getfield 35, 3) := by decide +kernel
theorem dX3_isOther_54 : decode cX3_isOther 54 = .ok (.getstatic 46, 3) := by decide +kernel
theorem dX3_isOther_57 : decode cX3_isOther 57 = .ok (.iload_n 1, 1) := by decide +kernel
theorem dX3_isOther_58 : decode cX3_isOther 58 = .ok (.iaload, 1) := by decide +kernel
theorem dX3_isOther_59 : decode cX3_isOther 59 = .ok (.iload_n 2, 1) := by decide +kernel
theorem dX3_isOther_60 : decode cX3_isOther 60 = .ok (.iload_n 3, 1) := by decide +kernel
theorem dX3_isOther_61 : decode cX3_isOther 61 = .ok (.isub, 1) := by decide +kernel
theorem dX3_isOther_62 : decode cX3_isOther 62 = .ok (.imul, 1) := by decide +kernel
theorem dX3_isOther_63 : decode cX3_isOther 63 = .ok (.iadd, 1) := by decide +kernel
theorem dX3_isOther_64 : decode cX3_isOther 64 = .ok (.bipush 10, 2) := by decide +kernel
theorem dX3_isOther_66 : decode cX3_isOther 66 = .ok (.irem, 1) := by decide +kernel
theorem dX3_isOther_67 : decode cX3_isOther 67 = .ok (.ifCond .ne 7, 3) := by decide +kernel
theorem dX3_isOther_70 : decode cX3_isOther 70 = .ok (.iconst 1, 1) := by decide +kernel
theorem dX3_isOther_71 : decode cX3_isOther 71 = .ok (.goto 4, 3) := by decide +kernel
theorem dX3_isOther_74 : decode cX3_isOther 74 = .ok (.iconst 0, 1) := by decide +kernel
theorem dX3_isOther_75 : decode cX3_isOther 75 = .ok (.ireturn, 1) := by decide +kernel
theorem dX3_countOthers_0 : decode cX3_countOthers 0 = .ok (.aload_n 0, 1) := by decide +kernel
theorem dX3_countOthers_1 : decode cX3_countOthers 1 = .ok (.invokevirtual 38, 3) := by decide +kernel
theorem dX3_countOthers_4 : decode cX3_countOthers 4 = .ok (.ifCond .ne 5, 3) := by decide +kernel
theorem dX3_countOthers_7 : decode cX3_countOthers 7 = .ok (.iconst 0, 1) := by decide +kernel
theorem dX3_countOthers_8 : decode cX3_countOthers 8 = .ok (.ireturn, 1) := by decide +kernel
theorem dX3_countOthers_9 : decode cX3_countOthers 9 = .ok (.iconst 0, 1) := by decide +kernel
theorem dX3_countOthers_10 : decode cX3_countOthers 10 = .ok (.istore_n 1, 1) := by decide +kernel
theorem dX3_countOthers_11 : decode cX3_countOthers 11 = .ok (.iconst 0, 1) := by decide +kernel
theorem dX3_countOthers_12 : decode cX3_countOthers 12 = .ok (.istore_n 2, 1) := by decide +kernel
theorem dX3_countOthers_13 : decode cX3_countOthers 13 = .ok (.iload_n 2, 1) := by decide +kernel
theorem dX3_countOthers_14 : decode cX3_countOthers 14 = .ok (.bipush 18, 2) := by decide +kernel
theorem dX3_countOthers_16 : decode cX3_countOthers 16 = .ok (.if_icmp .ge 35, 3) := by decide +kernel
theorem dX3_countOthers_19 : decode cX3_countOthers 19 = .ok (.iconst 0, 1) := by decide +kernel
theorem dX3_countOthers_20 : decode cX3_countOthers 20 = .ok (.istore_n 3, 1) := by decide +kernel
theorem dX3_countOthers_21 : decode cX3_countOthers 21 = .ok (.iload_n 3, 1) := by decide +kernel
theorem dX3_countOthers_22 : decode cX3_countOthers 22 = .ok (.bipush 12, 2) := by decide +kernel
theorem dX3_countOthers_24 : decode cX3_countOthers 24 = .ok (.if_icmp .ge 21, 3) := by decide +kernel
theorem dX3_countOthers_27 : decode cX3_countOthers 27 = .ok (.aload_n 0, 1) := by decide +kernel
theorem dX3_countOthers_28 : decode cX3_countOthers 28 = .ok (.iload_n 2, 1) := by decide +kernel
theorem dX3_countOthers_29 : decode cX3_countOthers 29 = .ok (.iload_n 3, 1) := by decide +kernel
theorem dX3_countOthers_30 : decode cX3_countOthers 30 = .ok (.invokevirtual 52, 3) := by decide +kernel
theorem dX3_countOthers_33 : decode cX3_countOthers 33 = .ok (.ifCond .eq 6, 3) := by decide +kernel
theorem dX3_countOthers_36 : decode cX3_countOthers 36 = .ok (.iinc 1 1, 3) := by decide +kernel
theorem dX3_countOthers_39 : decode cX3_countOthers 39 = .ok (.iinc 3 1, 3) := by decide +kernel
theorem dX3_countOthers_42 : decode cX3_countOthers 42 = .ok (.goto (-21), 3) := by decide +kernel
theorem dX3_countOthers_45 : decode cX3_countOthers 45 = .ok (.iinc 2 1, 3) := by decide +kernel
theorem dX3_countOthers_48 : decode cX3_countOthers 48 = .ok (.goto (-35), 3) := by decide +kernel
theorem dX3_countOthers_51 : decode cX3_countOthers 51 = .ok (.iload_n 1, 1) := by decide +kernel
theorem dX3_countOthers_52 : decode cX3_countOthers 52 = .ok (.ireturn, 1) := by decide +kernel
theorem dX3_findOther_0 : decode cX3_findOther 0 = .ok (.aload_n 0, 1) := by decide +kernel
theorem dX3_findOther_1 : decode cX3_findOther 1 = .ok (.invokevirtual 38, 3) := by decide +kernel
theorem dX3_findOther_4 : decode cX3_findOther 4 = .ok (.ifCond .eq 7, 3) := by decide +kernel
theorem dX3_findOther_7 : decode cX3_findOther 7 = .ok (.iload_n 1, 1) := by decide +kernel
theorem dX3_findOther_8 : decode cX3_findOther 8 = .ok (.ifCond .ge 5, 3) := by decide +kernel
theorem dX3_findOther_11 : decode cX3_findOther 11 = .ok (.iconst (-1), 1) := by decide +kernel
theorem dX3_findOther_12 : decode cX3_findOther 12 = .ok (.ireturn, 1) := by decide +kernel
theorem dX3_findOther_13 : decode cX3_findOther 13 = .ok (.iload_n 1, 1) := by decide +kernel
theorem dX3_findOther_14 : decode cX3_findOther 14 = .ok (.istore_n 2, 1) := by decide +kernel
theorem dX3_findOther_15 : decode cX3_findOther 15 = .ok (.iconst 0, 1) := by decide +kernel
theorem dX3_findOther_16 : decode cX3_findOther 16 = .ok (.istore_n 3, 1) := by decide +kernel
theorem dX3_findOther_17 : decode cX3_findOther 17 = .ok (.iload_n 3, 1) := by decide +kernel
theorem dX3_findOther_18 : decode cX3_findOther 18 = .ok (.bipush 18, 2) := by decide +kernel
theorem dX3_findOther_20 : decode cX3_findOther 20 = .ok (.if_icmp .ge 50, 3) := by decide +kernel
theorem dX3_findOther_23 : decode cX3_findOther 23 = .ok (.iconst 0, 1) := by decide +kernel
theorem dX3_findOther_24 : decode cX3_findOther 24 = .ok (.istore 4, 2) := by decide +kernel
theorem dX3_findOther_26 : decode cX3_findOther 26 = .ok (.iload 4, 2) := by decide +kernel
theorem dX3_findOther_28 : decode cX3_findOther 28 = .ok (.bipush 12, 2) := by decide +kernel
theorem dX3_findOther_30 : decode cX3_findOther 30 = .ok (.if_icmp .ge 34, 3) := by decide +kernel
theorem dX3_findOther_33 : decode cX3_findOther 33 = .ok (.aload_n 0, 1) := by decide +kernel
theorem dX3_findOther_34 : decode cX3_findOther 34 = .ok (.iload_n 3, 1) := by decide +kernel
theorem dX3_findOther_35 : decode cX3_findOther 35 = .ok (.iload 4, 2) := by decide +kernel
theorem dX3_findOther_37 : decode cX3_findOther 37 = .ok (.invokevirtual 52, 3) := by decide +kernel
theorem dX3_findOther_40 : decode cX3_findOther 40 = .ok (.ifCond .eq 18, 3) := by decide +kernel
theorem dX3_findOther_43 : decode cX3_findOther 43 = .ok (.iload_n 2, 1) := by decide +kernel
theorem dX3_findOther_44 : decode cX3_findOther 44 = .ok (.ifCond .ne 11, 3) := by decide +kernel
theorem dX3_findOther_47 : decode cX3_findOther 47 = .ok (.iload_n 3, 1) := by decide +kernel
theorem dX3_findOther_48 : decode cX3_findOther 48 = .ok (.bipush 12, 2) := by decide +kernel
theorem dX3_findOther_50 : decode cX3_findOther 50 = .ok (.imul, 1) := by decide +kernel
theorem dX3_findOther_51 : decode cX3_findOther 51 = .ok (.iload 4, 2) := by decide +kernel
theorem dX3_findOther_53 : decode cX3_findOther 53 = .ok (.iadd, 1) := by decide +kernel
theorem dX3_findOther_54 : decode cX3_findOther 54 = .ok (.ireturn, 1) := by decide +kernel
theorem dX3_findOther_55 : decode cX3_findOther 55 = .ok (.iinc 2 (-1), 3) := by decide +kernel
theorem dX3_findOther_58 : decode cX3_findOther 58 = .ok (.iinc 4 1, 3) := by decide +kernel
theorem dX3_findOther_61 : decode cX3_findOther 61 = .ok (.goto (-35), 3) := by decide +kernel
theorem dX3_findOther_64 : decode cX3_findOther 64 = .ok (.iinc 3 1, 3) := by decide +kernel
theorem dX3_findOther_67 : decode cX3_findOther 67 = .ok (.goto (-50), 3) := by decide +kernel
theorem dX3_findOther_70 : decode cX3_findOther 70 = .ok (.iconst (-1), 1) := by decide +kernel
theorem dX3_findOther_71 : decode cX3_findOther 71 = .ok (.ireturn, 1) := by decide +kernel
theorem dX3_become_0 : decode cX3_become 0 = .ok (.aload_n 0, 1) := by decide +kernel
theorem dX3_become_1 : decode cX3_become 1 = .ok (.getfield 25, 3) := by decide +kernel
theorem dX3_become_4 : decode cX3_become 4 = .ok (.iload_n 1, 1) := by decide +kernel
theorem dX3_become_5 : decode cX3_become 5 = .ok (.iload_n 2, 1) := by decide +kernel
theorem dX3_become_6 : decode cX3_become 6 = .ok (.iastore, 1) := by decide +kernel
theorem dX3_become_7 : decode cX3_become 7 = .ok (.aload_n 0, 1) := by decide +kernel
theorem dX3_become_8 : decode cX3_become 8 = .ok (.iload_n 3, 1) := by decide +kernel
theorem dX3_become_9 : decode cX3_become 9 = .ok (.putfield 15, 3) := by decide +kernel
theorem dX3_become_12 : decode cX3_become 12 = .ok (.aload_n 0, 1) := by decide +kernel
theorem dX3_become_13 : decode cX3_become 13 = .ok (.iconst 0, 1) := by decide +kernel
theorem dX3_become_14 : decode cX3_become 14 = .ok (.putfield 18, 3) := by decide +kernel
theorem dX3_become_17 : decode cX3_become 17 = .ok (.aload_n 0, 1) := by decide +kernel
theorem dX3_become_18 : decode cX3_become 18 = .ok (.invokevirtual 55, 3) := by decide +kernel
theorem dX3_become_21 : decode cX3_become 21 = .ok (.return_, 1) := by decide +kernel
theorem dX3_digitsOf_0 : decode cX3_digitsOf 0 = .ok (.getstatic 58, 3) := by decide +kernel
theorem dX3_digitsOf_3 : decode cX3_digitsOf 3 = .ok (.iload_n 1, 1) := by decide +kernel
theorem dX3_digitsOf_4 : decode cX3_digitsOf 4 = .ok (.iaload, 1) := by decide +kernel
theorem dX3_digitsOf_5 : decode cX3_digitsOf 5 = .ok (.istore_n 2, 1) := by decide +kernel
theorem dX3_digitsOf_6 : decode cX3_digitsOf 6 = .ok (.iconst 0, 1) := by decide +kernel
theorem dX3_digitsOf_7 : decode cX3_digitsOf 7 = .ok (.istore_n 3, 1) := by decide +kernel
theorem dX3_digitsOf_8 : decode cX3_digitsOf 8 = .ok (.iconst 0, 1) := by decide +kernel
theorem dX3_digitsOf_9 : decode cX3_digitsOf 9 = .ok (.istore 4, 2) := by decide +kernel
theorem dX3_digitsOf_11 : decode cX3_digitsOf 11 = .ok (.iload 4, 2) := by decide +kernel
theorem dX3_digitsOf_13 : decode cX3_digitsOf 13 = .ok (.getstatic 61, 3) := by decide +kernel
theorem dX3_digitsOf_16 : decode cX3_digitsOf 16 = .ok (.iload_n 1, 1) := by decide +kernel
theorem dX3_digitsOf_17 : decode cX3_digitsOf 17 = .ok (.iaload, 1) := by decide +kernel
theorem dX3_digitsOf_18 : decode cX3_digitsOf 18 = .ok (.if_icmp .ge 24, 3) := by decide +kernel
theorem dX3_digitsOf_21 : decode cX3_digitsOf 21 = .ok (.iload_n 3, 1) := by decide +kernel
theorem dX3_digitsOf_22 : decode cX3_digitsOf 22 = .ok (.bipush 10, 2) := by decide +kernel
theorem dX3_digitsOf_24 : decode cX3_digitsOf 24 = .ok (.imul, 1) := by decide +kernel
theorem dX3_digitsOf_25 : decode cX3_digitsOf 25 = .ok (.aload_n 0, 1) := by decide +kernel
theorem dX3_digitsOf_26 : decode cX3_digitsOf 26 = .ok (.getfield 25, 3) := by decide +kernel
theorem dX3_digitsOf_29 : decode cX3_digitsOf 29 = .ok (.iload_n 2, 1) := by decide +kernel
theorem dX3_digitsOf_30 : decode cX3_digitsOf 30 = .ok (.iload 4, 2) := by decide +kernel
theorem dX3_digitsOf_32 : decode cX3_digitsOf 32 = .ok (.iadd, 1) := by decide +kernel
theorem dX3_digitsOf_33 : decode cX3_digitsOf 33 = .ok (.iaload, 1) := by decide +kernel
theorem dX3_digitsOf_34 : decode cX3_digitsOf 34 = .ok (.iadd, 1) := by decide +kernel
theorem dX3_digitsOf_35 : decode cX3_digitsOf 35 = .ok (.istore_n 3, 1) := by decide +kernel
theorem dX3_digitsOf_36 : decode cX3_digitsOf 36 = .ok (.iinc 4 1, 3) := by decide +kernel
theorem dX3_digitsOf_39 : decode cX3_digitsOf 39 = .ok (.goto (-28), 3) := by decide +kernel
theorem dX3_digitsOf_42 : decode cX3_digitsOf 42 = .ok (.iload_n 3, 1) := by decide +kernel
theorem dX3_digitsOf_43 : decode cX3_digitsOf 43 = .ok (.ireturn, 1) := by decide +kernel
theorem dX4_init_0 : decode cX4_init 0 = .ok (.aload_n 0, 1) := by decide +kernel
theorem dX4_init_1 : decode cX4_init 1 = .ok (.invokespecial 3, 3) := by decide +kernel
