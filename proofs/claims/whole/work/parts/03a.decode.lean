theorem dX0_init_0 : decode cX0_init 0 = .ok (.aload_n 0, 1) := by decide +kernel
theorem dX0_init_1 : decode cX0_init 1 = .ok (.invokespecial 3, 3) := by decide +kernel
theorem dX0_init_4 : decode cX0_init 4 = .ok (.aload_n 0, 1) := by decide +kernel
theorem dX0_init_5 : decode cX0_init 5 = .ok (.bipush 12, 2) := by decide +kernel
theorem dX0_init_7 : decode cX0_init 7 = .ok (.newarray .int, 2) := by decide +kernel
theorem dX0_init_9 : decode cX0_init 9 = .ok (.putfield 9, 3) := by decide +kernel
theorem dX0_init_12 : decode cX0_init 12 = .ok (.aload_n 0, 1) := by decide +kernel
theorem dX0_init_13 : decode cX0_init 13 = .ok (.bipush 72, 2) := by decide +kernel
theorem dX0_init_15 : decode cX0_init 15 = .ok (.newarray .int, 2) := by decide +kernel
theorem dX0_init_17 : decode cX0_init 17 = .ok (.putfield 15, 3) := by decide +kernel
theorem dX0_init_20 : decode cX0_init 20 = .ok (.aload_n 0, 1) := by decide +kernel
theorem dX0_init_21 : decode cX0_init 21 = .ok (.iconst 0, 1) := by decide +kernel
theorem dX0_init_22 : decode cX0_init 22 = .ok (.putfield 18, 3) := by decide +kernel
theorem dX0_init_25 : decode cX0_init 25 = .ok (.return_, 1) := by decide +kernel
theorem dX0_areWidths_0 : decode cX0_areWidths 0 = .ok (.iload_n 0, 1) := by decide +kernel
theorem dX0_areWidths_1 : decode cX0_areWidths 1 = .ok (.ldc 22, 2) := by decide +kernel
theorem dX0_areWidths_3 : decode cX0_areWidths 3 = .ok (.if_icmp .lt 9, 3) := by decide +kernel
theorem dX0_areWidths_6 : decode cX0_areWidths 6 = .ok (.iload_n 0, 1) := by decide +kernel
theorem dX0_areWidths_7 : decode cX0_areWidths 7 = .ok (.ldc 23, 2) := by decide +kernel
theorem dX0_areWidths_9 : decode cX0_areWidths 9 = .ok (.if_icmp .le 5, 3) := by decide +kernel
theorem dX0_areWidths_12 : decode cX0_areWidths 12 = .ok (.iconst 0, 1) := by decide +kernel
theorem dX0_areWidths_13 : decode cX0_areWidths 13 = .ok (.ireturn, 1) := by decide +kernel
theorem dX0_areWidths_14 : decode cX0_areWidths 14 = .ok (.iload_n 0, 1) := by decide +kernel
theorem dX0_areWidths_15 : decode cX0_areWidths 15 = .ok (.istore_n 1, 1) := by decide +kernel
theorem dX0_areWidths_16 : decode cX0_areWidths 16 = .ok (.iconst 0, 1) := by decide +kernel
theorem dX0_areWidths_17 : decode cX0_areWidths 17 = .ok (.istore_n 2, 1) := by decide +kernel
theorem dX0_areWidths_18 : decode cX0_areWidths 18 = .ok (.iload_n 2, 1) := by decide +kernel
theorem dX0_areWidths_19 : decode cX0_areWidths 19 = .ok (.bipush 6, 2) := by decide +kernel
theorem dX0_areWidths_21 : decode cX0_areWidths 21 = .ok (.if_icmp .ge 31, 3) := by decide +kernel
theorem dX0_areWidths_24 : decode cX0_areWidths 24 = .ok (.iload_n 1, 1) := by decide +kernel
theorem dX0_areWidths_25 : decode cX0_areWidths 25 = .ok (.bipush 10, 2) := by decide +kernel
theorem dX0_areWidths_27 : decode cX0_areWidths 27 = .ok (.irem, 1) := by decide +kernel
theorem dX0_areWidths_28 : decode cX0_areWidths 28 = .ok (.istore_n 3, 1) := by decide +kernel
theorem dX0_areWidths_29 : decode cX0_areWidths 29 = .ok (.iload_n 3, 1) := by decide +kernel
theorem dX0_areWidths_30 : decode cX0_areWidths 30 = .ok (.iconst 1, 1) := by decide +kernel
theorem dX0_areWidths_31 : decode cX0_areWidths 31 = .ok (.if_icmp .lt 8, 3) := by decide +kernel
theorem dX0_areWidths_34 : decode cX0_areWidths 34 = .ok (.iload_n 3, 1) := by decide +kernel
theorem dX0_areWidths_35 : decode cX0_areWidths 35 = .ok (.iconst 3, 1) := by decide +kernel
theorem dX0_areWidths_36 : decode cX0_areWidths 36 = .ok (.if_icmp .le 5, 3) := by decide +kernel
theorem dX0_areWidths_39 : decode cX0_areWidths 39 = .ok (.iconst 0, 1) := by decide +kernel
theorem dX0_areWidths_40 : decode cX0_areWidths 40 = .ok (.ireturn, 1) := by decide +kernel
theorem dX0_areWidths_41 : decode cX0_areWidths 41 = .ok (.iload_n 1, 1) := by decide +kernel
theorem dX0_areWidths_42 : decode cX0_areWidths 42 = .ok (.bipush 10, 2) := by decide +kernel
theorem dX0_areWidths_44 : decode cX0_areWidths 44 = .ok (.idiv, 1) := by decide +kernel
theorem dX0_areWidths_45 : decode cX0_areWidths 45 = .ok (.istore_n 1, 1) := by decide +kernel
theorem dX0_areWidths_46 : decode cX0_areWidths 46 = .ok (.iinc 2 1, 3) := by decide +kernel
theorem dX0_areWidths_49 : decode cX0_areWidths 49 = .ok (.goto (-31), 3) := by decide +kernel
theorem dX0_areWidths_52 : decode cX0_areWidths 52 = .ok (.iconst 1, 1) := by decide +kernel
theorem dX0_areWidths_53 : decode cX0_areWidths 53 = .ok (.ireturn, 1) := by decide +kernel
theorem dX0_learn_0 : decode cX0_learn 0 = .ok (.aload_n 0, 1) := by decide +kernel
theorem dX0_learn_1 : decode cX0_learn 1 = .ok (.getfield 9, 3) := by decide +kernel
theorem dX0_learn_4 : decode cX0_learn 4 = .ok (.iload_n 1, 1) := by decide +kernel
theorem dX0_learn_5 : decode cX0_learn 5 = .ok (.iaload, 1) := by decide +kernel
theorem dX0_learn_6 : decode cX0_learn 6 = .ok (.iload_n 2, 1) := by decide +kernel
theorem dX0_learn_7 : decode cX0_learn 7 = .ok (.if_icmp .ne 5, 3) := by decide +kernel
theorem dX0_learn_10 : decode cX0_learn 10 = .ok (.iconst 0, 1) := by decide +kernel
theorem dX0_learn_11 : decode cX0_learn 11 = .ok (.ireturn, 1) := by decide +kernel
theorem dX0_learn_12 : decode cX0_learn 12 = .ok (.aload_n 0, 1) := by decide +kernel
theorem dX0_learn_13 : decode cX0_learn 13 = .ok (.getfield 9, 3) := by decide +kernel
theorem dX0_learn_16 : decode cX0_learn 16 = .ok (.iload_n 1, 1) := by decide +kernel
theorem dX0_learn_17 : decode cX0_learn 17 = .ok (.iaload, 1) := by decide +kernel
theorem dX0_learn_18 : decode cX0_learn 18 = .ok (.ifCond .ne 13, 3) := by decide +kernel
theorem dX0_learn_21 : decode cX0_learn 21 = .ok (.aload_n 0, 1) := by decide +kernel
theorem dX0_learn_22 : decode cX0_learn 22 = .ok (.dup, 1) := by decide +kernel
theorem dX0_learn_23 : decode cX0_learn 23 = .ok (.getfield 18, 3) := by decide +kernel
theorem dX0_learn_26 : decode cX0_learn 26 = .ok (.iconst 1, 1) := by decide +kernel
theorem dX0_learn_27 : decode cX0_learn 27 = .ok (.iadd, 1) := by decide +kernel
theorem dX0_learn_28 : decode cX0_learn 28 = .ok (.putfield 18, 3) := by decide +kernel
theorem dX0_learn_31 : decode cX0_learn 31 = .ok (.aload_n 0, 1) := by decide +kernel
theorem dX0_learn_32 : decode cX0_learn 32 = .ok (.getfield 9, 3) := by decide +kernel
theorem dX0_learn_35 : decode cX0_learn 35 = .ok (.iload_n 1, 1) := by decide +kernel
theorem dX0_learn_36 : decode cX0_learn 36 = .ok (.iload_n 2, 1) := by decide +kernel
theorem dX0_learn_37 : decode cX0_learn 37 = .ok (.iastore, 1) := by decide +kernel
theorem dX0_learn_38 : decode cX0_learn 38 = .ok (.iload_n 2, 1) := by decide +kernel
theorem dX0_learn_39 : decode cX0_learn 39 = .ok (.istore_n 3, 1) := by decide +kernel
theorem dX0_learn_40 : decode cX0_learn 40 = .ok (.iconst 5, 1) := by decide +kernel
theorem dX0_learn_41 : decode cX0_learn 41 = .ok (.istore 4, 2) := by decide +kernel
theorem dX0_learn_43 : decode cX0_learn 43 = .ok (.iload 4, 2) := by decide +kernel
theorem dX0_learn_45 : decode cX0_learn 45 = .ok (.ifCond .lt 30, 3) := by decide +kernel
theorem dX0_learn_48 : decode cX0_learn 48 = .ok (.aload_n 0, 1) := by decide +kernel
theorem dX0_learn_49 : decode cX0_learn 49 = .ok (.getfield 15, 3) := by decide +kernel
theorem dX0_learn_52 : decode cX0_learn 52 = .ok (.iload_n 1, 1) := by decide +kernel
theorem dX0_learn_53 : decode cX0_learn 53 = .ok (.bipush 6, 2) := by decide +kernel
theorem dX0_learn_55 : decode cX0_learn 55 = .ok (.imul, 1) := by decide +kernel
theorem dX0_learn_56 : decode cX0_learn 56 = .ok (.iload 4, 2) := by decide +kernel
theorem dX0_learn_58 : decode cX0_learn 58 = .ok (.iadd, 1) := by decide +kernel
theorem dX0_learn_59 : decode cX0_learn 59 = .ok (.iload_n 3, 1) := by decide +kernel
theorem dX0_learn_60 : decode cX0_learn 60 = .ok (.bipush 10, 2) := by decide +kernel
theorem dX0_learn_62 : decode cX0_learn 62 = .ok (.irem, 1) := by decide +kernel
theorem dX0_learn_63 : decode cX0_learn 63 = .ok (.iastore, 1) := by decide +kernel
theorem dX0_learn_64 : decode cX0_learn 64 = .ok (.iload_n 3, 1) := by decide +kernel
theorem dX0_learn_65 : decode cX0_learn 65 = .ok (.bipush 10, 2) := by decide +kernel
theorem dX0_learn_67 : decode cX0_learn 67 = .ok (.idiv, 1) := by decide +kernel
theorem dX0_learn_68 : decode cX0_learn 68 = .ok (.istore_n 3, 1) := by decide +kernel
theorem dX0_learn_69 : decode cX0_learn 69 = .ok (.iinc 4 (-1), 3) := by decide +kernel
theorem dX0_learn_72 : decode cX0_learn 72 = .ok (.goto (-29), 3) := by decide +kernel
theorem dX0_learn_75 : decode cX0_learn 75 = .ok (.iconst 1, 1) := by decide +kernel
theorem dX0_learn_76 : decode cX0_learn 76 = .ok (.ireturn, 1) := by decide +kernel
theorem dX0_isComplete_0 : decode cX0_isComplete 0 = .ok (.aload_n 0, 1) := by decide +kernel
theorem dX0_isComplete_1 : decode cX0_isComplete 1 = .ok (.getfield 18, 3) := by decide +kernel
theorem dX0_isComplete_4 : decode cX0_isComplete 4 = .ok (.bipush 12, 2) := by decide +kernel
theorem dX0_isComplete_6 : decode cX0_isComplete 6 = .ok (.if_icmp .ne 7, 3) := by decide +kernel
theorem dX0_isComplete_9 : decode cX0_isComplete 9 = .ok (.iconst 1, 1) := by decide +kernel
theorem dX0_isComplete_10 : decode cX0_isComplete 10 = .ok (.goto 4, 3) := by decide +kernel
theorem dX0_isComplete_13 : decode cX0_isComplete 13 = .ok (.iconst 0, 1) := by decide +kernel
theorem dX0_isComplete_14 : decode cX0_isComplete 14 = .ok (.ireturn, 1) := by decide +kernel
theorem dX1_init_0 : decode cX1_init 0 = .ok (.aload_n 0, 1) := by decide +kernel
theorem dX1_init_1 : decode cX1_init 1 = .ok (.invokespecial 3, 3) := by decide +kernel
theorem dX1_init_4 : decode cX1_init 4 = .ok (.aload_n 0, 1) := by decide +kernel
theorem dX1_init_5 : decode cX1_init 5 = .ok (.iconst 0, 1) := by decide +kernel
theorem dX1_init_6 : decode cX1_init 6 = .ok (.putfield 9, 3) := by decide +kernel
theorem dX1_init_9 : decode cX1_init 9 = .ok (.aload_n 0, 1) := by decide +kernel
theorem dX1_init_10 : decode cX1_init 10 = .ok (.bipush 120, 2) := by decide +kernel
theorem dX1_init_12 : decode cX1_init 12 = .ok (.newarray .int, 2) := by decide +kernel
theorem dX1_init_14 : decode cX1_init 14 = .ok (.putfield 15, 3) := by decide +kernel
theorem dX1_init_17 : decode cX1_init 17 = .ok (.aload_n 0, 1) := by decide +kernel
theorem dX1_init_18 : decode cX1_init 18 = .ok (.sipush 2160, 3) := by decide +kernel
theorem dX1_init_21 : decode cX1_init 21 = .ok (.newarray .int, 2) := by decide +kernel
theorem dX1_init_23 : decode cX1_init 23 = .ok (.putfield 19, 3) := by decide +kernel
theorem dX1_init_26 : decode cX1_init 26 = .ok (.aload_n 0, 1) := by decide +kernel
theorem dX1_init_27 : decode cX1_init 27 = .ok (.sipush 180, 3) := by decide +kernel
theorem dX1_init_30 : decode cX1_init 30 = .ok (.newarray .int, 2) := by decide +kernel
theorem dX1_init_32 : decode cX1_init 32 = .ok (.putfield 22, 3) := by decide +kernel
theorem dX1_init_35 : decode cX1_init 35 = .ok (.aload_n 0, 1) := by decide +kernel
theorem dX1_init_36 : decode cX1_init 36 = .ok (.sipush 180, 3) := by decide +kernel
theorem dX1_init_39 : decode cX1_init 39 = .ok (.newarray .int, 2) := by decide +kernel
theorem dX1_init_41 : decode cX1_init 41 = .ok (.putfield 25, 3) := by decide +kernel
theorem dX1_init_44 : decode cX1_init 44 = .ok (.aload_n 0, 1) := by decide +kernel
theorem dX1_init_45 : decode cX1_init 45 = .ok (.bipush 9, 2) := by decide +kernel
theorem dX1_init_47 : decode cX1_init 47 = .ok (.newarray .int, 2) := by decide +kernel
theorem dX1_init_49 : decode cX1_init 49 = .ok (.putfield 28, 3) := by decide +kernel
theorem dX1_init_52 : decode cX1_init 52 = .ok (.aload_n 0, 1) := by decide +kernel
theorem dX1_init_53 : decode cX1_init 53 = .ok (.bipush 9, 2) := by decide +kernel
theorem dX1_init_55 : decode cX1_init 55 = .ok (.newarray .int, 2) := by decide +kernel
theorem dX1_init_57 : decode cX1_init 57 = .ok (.putfield 31, 3) := by decide +kernel
theorem dX1_init_60 : decode cX1_init 60 = .ok (.return_, 1) := by decide +kernel
theorem dX1_lay_0 : decode cX1_lay 0 = .ok (.aload_n 0, 1) := by decide +kernel
theorem dX1_lay_1 : decode cX1_lay 1 = .ok (.iload_n 2, 1) := by decide +kernel
theorem dX1_lay_2 : decode cX1_lay 2 = .ok (.bipush 6, 2) := by decide +kernel
theorem dX1_lay_4 : decode cX1_lay 4 = .ok (.idiv, 1) := by decide +kernel
theorem dX1_lay_5 : decode cX1_lay 5 = .ok (.putfield 9, 3) := by decide +kernel
theorem dX1_lay_8 : decode cX1_lay 8 = .ok (.iconst 0, 1) := by decide +kernel
theorem dX1_lay_9 : decode cX1_lay 9 = .ok (.istore 4, 2) := by decide +kernel
theorem dX1_lay_11 : decode cX1_lay 11 = .ok (.iload 4, 2) := by decide +kernel
theorem dX1_lay_13 : decode cX1_lay 13 = .ok (.iload_n 2, 1) := by decide +kernel
theorem dX1_lay_14 : decode cX1_lay 14 = .ok (.if_icmp .ge 35, 3) := by decide +kernel
theorem dX1_lay_17 : decode cX1_lay 17 = .ok (.aload_n 0, 1) := by decide +kernel
theorem dX1_lay_18 : decode cX1_lay 18 = .ok (.getfield 15, 3) := by decide +kernel
theorem dX1_lay_21 : decode cX1_lay 21 = .ok (.iload 4, 2) := by decide +kernel
theorem dX1_lay_23 : decode cX1_lay 23 = .ok (.iload_n 3, 1) := by decide +kernel
theorem dX1_lay_24 : decode cX1_lay 24 = .ok (.ifCond .eq 14, 3) := by decide +kernel
theorem dX1_lay_27 : decode cX1_lay 27 = .ok (.aload_n 1, 1) := by decide +kernel
theorem dX1_lay_28 : decode cX1_lay 28 = .ok (.iload_n 2, 1) := by decide +kernel
theorem dX1_lay_29 : decode cX1_lay 29 = .ok (.iconst 1, 1) := by decide +kernel
theorem dX1_lay_30 : decode cX1_lay 30 = .ok (.isub, 1) := by decide +kernel
theorem dX1_lay_31 : decode cX1_lay 31 = .ok (.iload 4, 2) := by decide +kernel
theorem dX1_lay_33 : decode cX1_lay 33 = .ok (.isub, 1) := by decide +kernel
theorem dX1_lay_34 : decode cX1_lay 34 = .ok (.iaload, 1) := by decide +kernel
theorem dX1_lay_35 : decode cX1_lay 35 = .ok (.goto 7, 3) := by decide +kernel
theorem dX1_lay_38 : decode cX1_lay 38 = .ok (.aload_n 1, 1) := by decide +kernel
theorem dX1_lay_39 : decode cX1_lay 39 = .ok (.iload 4, 2) := by decide +kernel
theorem dX1_lay_41 : decode cX1_lay 41 = .ok (.iaload, 1) := by decide +kernel
theorem dX1_lay_42 : decode cX1_lay 42 = .ok (.iastore, 1) := by decide +kernel
theorem dX1_lay_43 : decode cX1_lay 43 = .ok (.iinc 4 1, 3) := by decide +kernel
theorem dX1_lay_46 : decode cX1_lay 46 = .ok (.goto (-35), 3) := by decide +kernel
theorem dX1_lay_49 : decode cX1_lay 49 = .ok (.return_, 1) := by decide +kernel
theorem dX1_weigh_0 : decode cX1_weigh 0 = .ok (.iconst 0, 1) := by decide +kernel
theorem dX1_weigh_1 : decode cX1_weigh 1 = .ok (.istore_n 2, 1) := by decide +kernel
theorem dX1_weigh_2 : decode cX1_weigh 2 = .ok (.iload_n 2, 1) := by decide +kernel
theorem dX1_weigh_3 : decode cX1_weigh 3 = .ok (.aload_n 0, 1) := by decide +kernel
theorem dX1_weigh_4 : decode cX1_weigh 4 = .ok (.getfield 9, 3) := by decide +kernel
theorem dX1_weigh_7 : decode cX1_weigh 7 = .ok (.if_icmp .ge 67, 3) := by decide +kernel
theorem dX1_weigh_10 : decode cX1_weigh 10 = .ok (.iconst 0, 1) := by decide +kernel
theorem dX1_weigh_11 : decode cX1_weigh 11 = .ok (.istore_n 3, 1) := by decide +kernel
theorem dX1_weigh_12 : decode cX1_weigh 12 = .ok (.iload_n 3, 1) := by decide +kernel
theorem dX1_weigh_13 : decode cX1_weigh 13 = .ok (.bipush 12, 2) := by decide +kernel
theorem dX1_weigh_15 : decode cX1_weigh 15 = .ok (.if_icmp .ge 53, 3) := by decide +kernel
theorem dX1_weigh_18 : decode cX1_weigh 18 = .ok (.iload_n 2, 1) := by decide +kernel
theorem dX1_weigh_19 : decode cX1_weigh 19 = .ok (.iload_n 3, 1) := by decide +kernel
theorem dX1_weigh_20 : decode cX1_weigh 20 = .ok (.invokestatic 34, 3) := by decide +kernel
theorem dX1_weigh_23 : decode cX1_weigh 23 = .ok (.istore 4, 2) := by decide +kernel
theorem dX1_weigh_25 : decode cX1_weigh 25 = .ok (.iconst 0, 1) := by decide +kernel
theorem dX1_weigh_26 : decode cX1_weigh 26 = .ok (.istore 5, 2) := by decide +kernel
theorem dX1_weigh_28 : decode cX1_weigh 28 = .ok (.iload 5, 2) := by decide +kernel
theorem dX1_weigh_30 : decode cX1_weigh 30 = .ok (.bipush 9, 2) := by decide +kernel
theorem dX1_weigh_32 : decode cX1_weigh 32 = .ok (.if_icmp .ge 30, 3) := by decide +kernel
theorem dX1_weigh_35 : decode cX1_weigh 35 = .ok (.aload_n 0, 1) := by decide +kernel
theorem dX1_weigh_36 : decode cX1_weigh 36 = .ok (.getfield 19, 3) := by decide +kernel
theorem dX1_weigh_39 : decode cX1_weigh 39 = .ok (.iload 4, 2) := by decide +kernel
theorem dX1_weigh_41 : decode cX1_weigh 41 = .ok (.iload 5, 2) := by decide +kernel
theorem dX1_weigh_43 : decode cX1_weigh 43 = .ok (.iadd, 1) := by decide +kernel
theorem dX1_weigh_44 : decode cX1_weigh 44 = .ok (.aload_n 0, 1) := by decide +kernel
theorem dX1_weigh_45 : decode cX1_weigh 45 = .ok (.iload_n 2, 1) := by decide +kernel
theorem dX1_weigh_46 : decode cX1_weigh 46 = .ok (.aload_n 1, 1) := by decide +kernel
theorem dX1_weigh_47 : decode cX1_weigh 47 = .ok (.iload_n 3, 1) := by decide +kernel
theorem dX1_weigh_48 : decode cX1_weigh 48 = .ok (.iconst 4, 1) := by decide +kernel
theorem dX1_weigh_49 : decode cX1_weigh 49 = .ok (.iload 5, 2) := by decide +kernel
theorem dX1_weigh_51 : decode cX1_weigh 51 = .ok (.iadd, 1) := by decide +kernel
theorem dX1_weigh_52 : decode cX1_weigh 52 = .ok (.invokevirtual 38, 3) := by decide +kernel
theorem dX1_weigh_55 : decode cX1_weigh 55 = .ok (.iastore, 1) := by decide +kernel
theorem dX1_weigh_56 : decode cX1_weigh 56 = .ok (.iinc 5 1, 3) := by decide +kernel
theorem dX1_weigh_59 : decode cX1_weigh 59 = .ok (.goto (-31), 3) := by decide +kernel
theorem dX1_weigh_62 : decode cX1_weigh 62 = .ok (.iinc 3 1, 3) := by decide +kernel
theorem dX1_weigh_65 : decode cX1_weigh 65 = .ok (.goto (-53), 3) := by decide +kernel
theorem dX1_weigh_68 : decode cX1_weigh 68 = .ok (.iinc 2 1, 3) := by decide +kernel
theorem dX1_weigh_71 : decode cX1_weigh 71 = .ok (.goto (-69), 3) := by decide +kernel
theorem dX1_weigh_74 : decode cX1_weigh 74 = .ok (.return_, 1) := by decide +kernel
theorem dX1_rowOf_0 : decode cX1_rowOf 0 = .ok (.iload_n 0, 1) := by decide +kernel
theorem dX1_rowOf_1 : decode cX1_rowOf 1 = .ok (.bipush 12, 2) := by decide +kernel
theorem dX1_rowOf_3 : decode cX1_rowOf 3 = .ok (.imul, 1) := by decide +kernel
theorem dX1_rowOf_4 : decode cX1_rowOf 4 = .ok (.iload_n 1, 1) := by decide +kernel
theorem dX1_rowOf_5 : decode cX1_rowOf 5 = .ok (.iadd, 1) := by decide +kernel
theorem dX1_rowOf_6 : decode cX1_rowOf 6 = .ok (.bipush 9, 2) := by decide +kernel
theorem dX1_rowOf_8 : decode cX1_rowOf 8 = .ok (.imul, 1) := by decide +kernel
theorem dX1_rowOf_9 : decode cX1_rowOf 9 = .ok (.ireturn, 1) := by decide +kernel
theorem dX1_distance_0 : decode cX1_distance 0 = .ok (.iconst 0, 1) := by decide +kernel
theorem dX1_distance_1 : decode cX1_distance 1 = .ok (.istore 5, 2) := by decide +kernel
theorem dX1_distance_3 : decode cX1_distance 3 = .ok (.iconst 0, 1) := by decide +kernel
theorem dX1_distance_4 : decode cX1_distance 4 = .ok (.istore 6, 2) := by decide +kernel
theorem dX1_distance_6 : decode cX1_distance 6 = .ok (.iload 6, 2) := by decide +kernel
theorem dX1_distance_8 : decode cX1_distance 8 = .ok (.bipush 6, 2) := by decide +kernel
theorem dX1_distance_10 : decode cX1_distance 10 = .ok (.if_icmp .ge 42, 3) := by decide +kernel
theorem dX1_distance_13 : decode cX1_distance 13 = .ok (.iload 5, 2) := by decide +kernel
theorem dX1_distance_15 : decode cX1_distance 15 = .ok (.aload_n 0, 1) := by decide +kernel
theorem dX1_distance_16 : decode cX1_distance 16 = .ok (.getfield 15, 3) := by decide +kernel
theorem dX1_distance_19 : decode cX1_distance 19 = .ok (.iload_n 1, 1) := by decide +kernel
theorem dX1_distance_20 : decode cX1_distance 20 = .ok (.bipush 6, 2) := by decide +kernel
theorem dX1_distance_22 : decode cX1_distance 22 = .ok (.imul, 1) := by decide +kernel
theorem dX1_distance_23 : decode cX1_distance 23 = .ok (.iload 6, 2) := by decide +kernel
theorem dX1_distance_25 : decode cX1_distance 25 = .ok (.iadd, 1) := by decide +kernel
theorem dX1_distance_26 : decode cX1_distance 26 = .ok (.iaload, 1) := by decide +kernel
theorem dX1_distance_27 : decode cX1_distance 27 = .ok (.iload 4, 2) := by decide +kernel
theorem dX1_distance_29 : decode cX1_distance 29 = .ok (.aload_n 2, 1) := by decide +kernel
theorem dX1_distance_30 : decode cX1_distance 30 = .ok (.iload_n 3, 1) := by decide +kernel
theorem dX1_distance_31 : decode cX1_distance 31 = .ok (.bipush 6, 2) := by decide +kernel
theorem dX1_distance_33 : decode cX1_distance 33 = .ok (.imul, 1) := by decide +kernel
theorem dX1_distance_34 : decode cX1_distance 34 = .ok (.iload 6, 2) := by decide +kernel
theorem dX1_distance_36 : decode cX1_distance 36 = .ok (.iadd, 1) := by decide +kernel
theorem dX1_distance_37 : decode cX1_distance 37 = .ok (.iaload, 1) := by decide +kernel
theorem dX1_distance_38 : decode cX1_distance 38 = .ok (.imul, 1) := by decide +kernel
theorem dX1_distance_39 : decode cX1_distance 39 = .ok (.isub, 1) := by decide +kernel
theorem dX1_distance_40 : decode cX1_distance 40 = .ok (.invokestatic 42, 3) := by decide +kernel
theorem dX1_distance_43 : decode cX1_distance 43 = .ok (.iadd, 1) := by decide +kernel
theorem dX1_distance_44 : decode cX1_distance 44 = .ok (.istore 5, 2) := by decide +kernel
theorem dX1_distance_46 : decode cX1_distance 46 = .ok (.iinc 6 1, 3) := by decide +kernel
theorem dX1_distance_49 : decode cX1_distance 49 = .ok (.goto (-43), 3) := by decide +kernel
theorem dX1_distance_52 : decode cX1_distance 52 = .ok (.iload 5, 2) := by decide +kernel
theorem dX1_distance_54 : decode cX1_distance 54 = .ok (.ireturn, 1) := by decide +kernel
theorem dX1_allowAnySigns_0 : decode cX1_allowAnySigns 0 = .ok (.iconst 0, 1) := by decide +kernel
theorem dX1_allowAnySigns_1 : decode cX1_allowAnySigns 1 = .ok (.istore_n 1, 1) := by decide +kernel
theorem dX1_allowAnySigns_2 : decode cX1_allowAnySigns 2 = .ok (.iload_n 1, 1) := by decide +kernel
theorem dX1_allowAnySigns_3 : decode cX1_allowAnySigns 3 = .ok (.aload_n 0, 1) := by decide +kernel
theorem dX1_allowAnySigns_4 : decode cX1_allowAnySigns 4 = .ok (.getfield 9, 3) := by decide +kernel
theorem dX1_allowAnySigns_7 : decode cX1_allowAnySigns 7 = .ok (.if_icmp .ge 82, 3) := by decide +kernel
theorem dX1_allowAnySigns_10 : decode cX1_allowAnySigns 10 = .ok (.iconst 0, 1) := by decide +kernel
theorem dX1_allowAnySigns_11 : decode cX1_allowAnySigns 11 = .ok (.istore_n 2, 1) := by decide +kernel
theorem dX1_allowAnySigns_12 : decode cX1_allowAnySigns 12 = .ok (.iload_n 2, 1) := by decide +kernel
theorem dX1_allowAnySigns_13 : decode cX1_allowAnySigns 13 = .ok (.bipush 9, 2) := by decide +kernel
theorem dX1_allowAnySigns_15 : decode cX1_allowAnySigns 15 = .ok (.if_icmp .ge 68, 3) := by decide +kernel
theorem dX1_allowAnySigns_18 : decode cX1_allowAnySigns 18 = .ok (.aload_n 0, 1) := by decide +kernel
theorem dX1_allowAnySigns_19 : decode cX1_allowAnySigns 19 = .ok (.getfield 19, 3) := by decide +kernel
theorem dX1_allowAnySigns_22 : decode cX1_allowAnySigns 22 = .ok (.iload_n 1, 1) := by decide +kernel
theorem dX1_allowAnySigns_23 : decode cX1_allowAnySigns 23 = .ok (.iconst 0, 1) := by decide +kernel
theorem dX1_allowAnySigns_24 : decode cX1_allowAnySigns 24 = .ok (.invokestatic 34, 3) := by decide +kernel
theorem dX1_allowAnySigns_27 : decode cX1_allowAnySigns 27 = .ok (.iload_n 2, 1) := by decide +kernel
theorem dX1_allowAnySigns_28 : decode cX1_allowAnySigns 28 = .ok (.iadd, 1) := by decide +kernel
theorem dX1_allowAnySigns_29 : decode cX1_allowAnySigns 29 = .ok (.iaload, 1) := by decide +kernel
theorem dX1_allowAnySigns_30 : decode cX1_allowAnySigns 30 = .ok (.istore_n 3, 1) := by decide +kernel
theorem dX1_allowAnySigns_31 : decode cX1_allowAnySigns 31 = .ok (.iconst 1, 1) := by decide +kernel
theorem dX1_allowAnySigns_32 : decode cX1_allowAnySigns 32 = .ok (.istore 4, 2) := by decide +kernel
theorem dX1_allowAnySigns_34 : decode cX1_allowAnySigns 34 = .ok (.iload 4, 2) := by decide +kernel
theorem dX1_allowAnySigns_36 : decode cX1_allowAnySigns 36 = .ok (.bipush 12, 2) := by decide +kernel
theorem dX1_allowAnySigns_38 : decode cX1_allowAnySigns 38 = .ok (.if_icmp .ge 27, 3) := by decide +kernel
theorem dX1_allowAnySigns_41 : decode cX1_allowAnySigns 41 = .ok (.iload_n 3, 1) := by decide +kernel
theorem dX1_allowAnySigns_42 : decode cX1_allowAnySigns 42 = .ok (.aload_n 0, 1) := by decide +kernel
theorem dX1_allowAnySigns_43 : decode cX1_allowAnySigns 43 = .ok (.getfield 19, 3) := by decide +kernel
theorem dX1_allowAnySigns_46 : decode cX1_allowAnySigns 46 = .ok (.iload_n 1, 1) := by decide +kernel
theorem dX1_allowAnySigns_47 : decode cX1_allowAnySigns 47 = .ok (.iload 4, 2) := by decide +kernel
theorem dX1_allowAnySigns_49 : decode cX1_allowAnySigns 49 = .ok (.invokestatic 34, 3) := by decide +kernel
theorem dX1_allowAnySigns_52 : decode cX1_allowAnySigns 52 = .ok (.iload_n 2, 1) := by decide +kernel
theorem dX1_allowAnySigns_53 : decode cX1_allowAnySigns 53 = .ok (.iadd, 1) := by decide +kernel
theorem dX1_allowAnySigns_54 : decode cX1_allowAnySigns 54 = .ok (.iaload, 1) := by decide +kernel
theorem dX1_allowAnySigns_55 : decode cX1_allowAnySigns 55 = .ok (.invokestatic 48, 3) := by decide +kernel
theorem dX1_allowAnySigns_58 : decode cX1_allowAnySigns 58 = .ok (.istore_n 3, 1) := by decide +kernel
theorem dX1_allowAnySigns_59 : decode cX1_allowAnySigns 59 = .ok (.iinc 4 1, 3) := by decide +kernel
theorem dX1_allowAnySigns_62 : decode cX1_allowAnySigns 62 = .ok (.goto (-28), 3) := by decide +kernel
theorem dX1_allowAnySigns_65 : decode cX1_allowAnySigns 65 = .ok (.aload_n 0, 1) := by decide +kernel
theorem dX1_allowAnySigns_66 : decode cX1_allowAnySigns 66 = .ok (.getfield 22, 3) := by decide +kernel
theorem dX1_allowAnySigns_69 : decode cX1_allowAnySigns 69 = .ok (.iload_n 1, 1) := by decide +kernel
theorem dX1_allowAnySigns_70 : decode cX1_allowAnySigns 70 = .ok (.bipush 9, 2) := by decide +kernel
theorem dX1_allowAnySigns_72 : decode cX1_allowAnySigns 72 = .ok (.imul, 1) := by decide +kernel
theorem dX1_allowAnySigns_73 : decode cX1_allowAnySigns 73 = .ok (.iload_n 2, 1) := by decide +kernel
theorem dX1_allowAnySigns_74 : decode cX1_allowAnySigns 74 = .ok (.iadd, 1) := by decide +kernel
theorem dX1_allowAnySigns_75 : decode cX1_allowAnySigns 75 = .ok (.iload_n 3, 1) := by decide +kernel
theorem dX1_allowAnySigns_76 : decode cX1_allowAnySigns 76 = .ok (.iastore, 1) := by decide +kernel
theorem dX1_allowAnySigns_77 : decode cX1_allowAnySigns 77 = .ok (.iinc 2 1, 3) := by decide +kernel
theorem dX1_allowAnySigns_80 : decode cX1_allowAnySigns 80 = .ok (.goto (-68), 3) := by decide +kernel
theorem dX1_allowAnySigns_83 : decode cX1_allowAnySigns 83 = .ok (.iinc 1 1, 3) := by decide +kernel
theorem dX1_allowAnySigns_86 : decode cX1_allowAnySigns 86 = .ok (.goto (-84), 3) := by decide +kernel
theorem dX1_allowAnySigns_89 : decode cX1_allowAnySigns 89 = .ok (.aload_n 0, 1) := by decide +kernel
theorem dX1_allowAnySigns_90 : decode cX1_allowAnySigns 90 = .ok (.invokevirtual 51, 3) := by decide +kernel
theorem dX1_allowAnySigns_93 : decode cX1_allowAnySigns 93 = .ok (.return_, 1) := by decide +kernel
theorem dX1_allowOnly_0 : decode cX1_allowOnly 0 = .ok (.iconst 0, 1) := by decide +kernel
theorem dX1_allowOnly_1 : decode cX1_allowOnly 1 = .ok (.istore_n 2, 1) := by decide +kernel
theorem dX1_allowOnly_2 : decode cX1_allowOnly 2 = .ok (.iload_n 2, 1) := by decide +kernel
theorem dX1_allowOnly_3 : decode cX1_allowOnly 3 = .ok (.aload_n 0, 1) := by decide +kernel
theorem dX1_allowOnly_4 : decode cX1_allowOnly 4 = .ok (.getfield 9, 3) := by decide +kernel
theorem dX1_allowOnly_7 : decode cX1_allowOnly 7 = .ok (.if_icmp .ge 17, 3) := by decide +kernel
theorem dX1_allowOnly_10 : decode cX1_allowOnly 10 = .ok (.aload_n 0, 1) := by decide +kernel
theorem dX1_allowOnly_11 : decode cX1_allowOnly 11 = .ok (.iload_n 2, 1) := by decide +kernel
theorem dX1_allowOnly_12 : decode cX1_allowOnly 12 = .ok (.aload_n 1, 1) := by decide +kernel
theorem dX1_allowOnly_13 : decode cX1_allowOnly 13 = .ok (.iload_n 2, 1) := by decide +kernel
theorem dX1_allowOnly_14 : decode cX1_allowOnly 14 = .ok (.iaload, 1) := by decide +kernel
theorem dX1_allowOnly_15 : decode cX1_allowOnly 15 = .ok (.invokevirtual 54, 3) := by decide +kernel
theorem dX1_allowOnly_18 : decode cX1_allowOnly 18 = .ok (.iinc 2 1, 3) := by decide +kernel
theorem dX1_allowOnly_21 : decode cX1_allowOnly 21 = .ok (.goto (-19), 3) := by decide +kernel
theorem dX1_allowOnly_24 : decode cX1_allowOnly 24 = .ok (.return_, 1) := by decide +kernel
theorem dX1_allowAt_0 : decode cX1_allowAt 0 = .ok (.iconst 0, 1) := by decide +kernel
theorem dX1_allowAt_1 : decode cX1_allowAt 1 = .ok (.istore_n 3, 1) := by decide +kernel
theorem dX1_allowAt_2 : decode cX1_allowAt 2 = .ok (.iload_n 3, 1) := by decide +kernel
theorem dX1_allowAt_3 : decode cX1_allowAt 3 = .ok (.bipush 9, 2) := by decide +kernel
theorem dX1_allowAt_5 : decode cX1_allowAt 5 = .ok (.if_icmp .ge 32, 3) := by decide +kernel
theorem dX1_allowAt_8 : decode cX1_allowAt 8 = .ok (.aload_n 0, 1) := by decide +kernel
theorem dX1_allowAt_9 : decode cX1_allowAt 9 = .ok (.getfield 22, 3) := by decide +kernel
theorem dX1_allowAt_12 : decode cX1_allowAt 12 = .ok (.iload_n 1, 1) := by decide +kernel
theorem dX1_allowAt_13 : decode cX1_allowAt 13 = .ok (.bipush 9, 2) := by decide +kernel
theorem dX1_allowAt_15 : decode cX1_allowAt 15 = .ok (.imul, 1) := by decide +kernel
theorem dX1_allowAt_16 : decode cX1_allowAt 16 = .ok (.iload_n 3, 1) := by decide +kernel
theorem dX1_allowAt_17 : decode cX1_allowAt 17 = .ok (.iadd, 1) := by decide +kernel
theorem dX1_allowAt_18 : decode cX1_allowAt 18 = .ok (.aload_n 0, 1) := by decide +kernel
theorem dX1_allowAt_19 : decode cX1_allowAt 19 = .ok (.getfield 19, 3) := by decide +kernel
theorem dX1_allowAt_22 : decode cX1_allowAt 22 = .ok (.iload_n 1, 1) := by decide +kernel
theorem dX1_allowAt_23 : decode cX1_allowAt 23 = .ok (.iload_n 2, 1) := by decide +kernel
theorem dX1_allowAt_24 : decode cX1_allowAt 24 = .ok (.invokestatic 34, 3) := by decide +kernel
theorem dX1_allowAt_27 : decode cX1_allowAt 27 = .ok (.iload_n 3, 1) := by decide +kernel
theorem dX1_allowAt_28 : decode cX1_allowAt 28 = .ok (.iadd, 1) := by decide +kernel
theorem dX1_allowAt_29 : decode cX1_allowAt 29 = .ok (.iaload, 1) := by decide +kernel
theorem dX1_allowAt_30 : decode cX1_allowAt 30 = .ok (.iastore, 1) := by decide +kernel
theorem dX1_allowAt_31 : decode cX1_allowAt 31 = .ok (.iinc 3 1, 3) := by decide +kernel
theorem dX1_allowAt_34 : decode cX1_allowAt 34 = .ok (.goto (-32), 3) := by decide +kernel
theorem dX1_allowAt_37 : decode cX1_allowAt 37 = .ok (.return_, 1) := by decide +kernel
theorem dX1_sumFromTheEnd_0 : decode cX1_sumFromTheEnd 0 = .ok (.aload_n 0, 1) := by decide +kernel
theorem dX1_sumFromTheEnd_1 : decode cX1_sumFromTheEnd 1 = .ok (.getfield 9, 3) := by decide +kernel
theorem dX1_sumFromTheEnd_4 : decode cX1_sumFromTheEnd 4 = .ok (.iconst 1, 1) := by decide +kernel
theorem dX1_sumFromTheEnd_5 : decode cX1_sumFromTheEnd 5 = .ok (.isub, 1) := by decide +kernel
theorem dX1_sumFromTheEnd_6 : decode cX1_sumFromTheEnd 6 = .ok (.istore_n 1, 1) := by decide +kernel
theorem dX1_sumFromTheEnd_7 : decode cX1_sumFromTheEnd 7 = .ok (.iload_n 1, 1) := by decide +kernel
theorem dX1_sumFromTheEnd_8 : decode cX1_sumFromTheEnd 8 = .ok (.ifCond .lt 111, 3) := by decide +kernel
theorem dX1_sumFromTheEnd_11 : decode cX1_sumFromTheEnd 11 = .ok (.iload_n 1, 1) := by decide +kernel
theorem dX1_sumFromTheEnd_12 : decode cX1_sumFromTheEnd 12 = .ok (.bipush 9, 2) := by decide +kernel
theorem dX1_sumFromTheEnd_14 : decode cX1_sumFromTheEnd 14 = .ok (.imul, 1) := by decide +kernel
theorem dX1_sumFromTheEnd_15 : decode cX1_sumFromTheEnd 15 = .ok (.istore_n 2, 1) := by decide +kernel
theorem dX1_sumFromTheEnd_16 : decode cX1_sumFromTheEnd 16 = .ok (.iload_n 1, 1) := by decide +kernel
theorem dX1_sumFromTheEnd_17 : decode cX1_sumFromTheEnd 17 = .ok (.aload_n 0, 1) := by decide +kernel
theorem dX1_sumFromTheEnd_18 : decode cX1_sumFromTheEnd 18 = .ok (.getfield 9, 3) := by decide +kernel
theorem dX1_sumFromTheEnd_21 : decode cX1_sumFromTheEnd 21 = .ok (.iconst 1, 1) := by decide +kernel
theorem dX1_sumFromTheEnd_22 : decode cX1_sumFromTheEnd 22 = .ok (.isub, 1) := by decide +kernel
theorem dX1_sumFromTheEnd_23 : decode cX1_sumFromTheEnd 23 = .ok (.if_icmp .ne 7, 3) := by decide +kernel
theorem dX1_sumFromTheEnd_26 : decode cX1_sumFromTheEnd 26 = .ok (.iconst 1, 1) := by decide +kernel
theorem dX1_sumFromTheEnd_27 : decode cX1_sumFromTheEnd 27 = .ok (.goto 4, 3) := by decide +kernel
theorem dX1_sumFromTheEnd_30 : decode cX1_sumFromTheEnd 30 = .ok (.iconst 0, 1) := by decide +kernel
theorem dX1_sumFromTheEnd_31 : decode cX1_sumFromTheEnd 31 = .ok (.istore_n 3, 1) := by decide +kernel
theorem dX1_sumFromTheEnd_32 : decode cX1_sumFromTheEnd 32 = .ok (.iconst 0, 1) := by decide +kernel
theorem dX1_sumFromTheEnd_33 : decode cX1_sumFromTheEnd 33 = .ok (.istore 4, 2) := by decide +kernel
theorem dX1_sumFromTheEnd_35 : decode cX1_sumFromTheEnd 35 = .ok (.iload 4, 2) := by decide +kernel
theorem dX1_sumFromTheEnd_37 : decode cX1_sumFromTheEnd 37 = .ok (.bipush 9, 2) := by decide +kernel
theorem dX1_sumFromTheEnd_39 : decode cX1_sumFromTheEnd 39 = .ok (.if_icmp .ge 32, 3) := by decide +kernel
theorem dX1_sumFromTheEnd_42 : decode cX1_sumFromTheEnd 42 = .ok (.aload_n 0, 1) := by decide +kernel
theorem dX1_sumFromTheEnd_43 : decode cX1_sumFromTheEnd 43 = .ok (.getfield 25, 3) := by decide +kernel
theorem dX1_sumFromTheEnd_46 : decode cX1_sumFromTheEnd 46 = .ok (.iload_n 2, 1) := by decide +kernel
theorem dX1_sumFromTheEnd_47 : decode cX1_sumFromTheEnd 47 = .ok (.iload 4, 2) := by decide +kernel
theorem dX1_sumFromTheEnd_49 : decode cX1_sumFromTheEnd 49 = .ok (.iadd, 1) := by decide +kernel
theorem dX1_sumFromTheEnd_50 : decode cX1_sumFromTheEnd 50 = .ok (.iload_n 3, 1) := by decide +kernel
theorem dX1_sumFromTheEnd_51 : decode cX1_sumFromTheEnd 51 = .ok (.ifCond .eq 7, 3) := by decide +kernel
theorem dX1_sumFromTheEnd_54 : decode cX1_sumFromTheEnd 54 = .ok (.iconst 0, 1) := by decide +kernel
theorem dX1_sumFromTheEnd_55 : decode cX1_sumFromTheEnd 55 = .ok (.goto 9, 3) := by decide +kernel
theorem dX1_sumFromTheEnd_58 : decode cX1_sumFromTheEnd 58 = .ok (.aload_n 0, 1) := by decide +kernel
theorem dX1_sumFromTheEnd_59 : decode cX1_sumFromTheEnd 59 = .ok (.iload 4, 2) := by decide +kernel
theorem dX1_sumFromTheEnd_61 : decode cX1_sumFromTheEnd 61 = .ok (.invokevirtual 58, 3) := by decide +kernel
theorem dX1_sumFromTheEnd_64 : decode cX1_sumFromTheEnd 64 = .ok (.iastore, 1) := by decide +kernel
theorem dX1_sumFromTheEnd_65 : decode cX1_sumFromTheEnd 65 = .ok (.iinc 4 1, 3) := by decide +kernel
theorem dX1_sumFromTheEnd_68 : decode cX1_sumFromTheEnd 68 = .ok (.goto (-33), 3) := by decide +kernel
theorem dX1_sumFromTheEnd_71 : decode cX1_sumFromTheEnd 71 = .ok (.iconst 0, 1) := by decide +kernel
theorem dX1_sumFromTheEnd_72 : decode cX1_sumFromTheEnd 72 = .ok (.istore 4, 2) := by decide +kernel
theorem dX1_sumFromTheEnd_74 : decode cX1_sumFromTheEnd 74 = .ok (.iload 4, 2) := by decide +kernel
theorem dX1_sumFromTheEnd_76 : decode cX1_sumFromTheEnd 76 = .ok (.bipush 9, 2) := by decide +kernel
theorem dX1_sumFromTheEnd_78 : decode cX1_sumFromTheEnd 78 = .ok (.if_icmp .ge 35, 3) := by decide +kernel
theorem dX1_sumFromTheEnd_81 : decode cX1_sumFromTheEnd 81 = .ok (.aload_n 0, 1) := by decide +kernel
theorem dX1_sumFromTheEnd_82 : decode cX1_sumFromTheEnd 82 = .ok (.getfield 31, 3) := by decide +kernel
theorem dX1_sumFromTheEnd_85 : decode cX1_sumFromTheEnd 85 = .ok (.iload 4, 2) := by decide +kernel
theorem dX1_sumFromTheEnd_87 : decode cX1_sumFromTheEnd 87 = .ok (.aload_n 0, 1) := by decide +kernel
theorem dX1_sumFromTheEnd_88 : decode cX1_sumFromTheEnd 88 = .ok (.getfield 22, 3) := by decide +kernel
theorem dX1_sumFromTheEnd_91 : decode cX1_sumFromTheEnd 91 = .ok (.iload_n 2, 1) := by decide +kernel
theorem dX1_sumFromTheEnd_92 : decode cX1_sumFromTheEnd 92 = .ok (.iload 4, 2) := by decide +kernel
theorem dX1_sumFromTheEnd_94 : decode cX1_sumFromTheEnd 94 = .ok (.iadd, 1) := by decide +kernel
theorem dX1_sumFromTheEnd_95 : decode cX1_sumFromTheEnd 95 = .ok (.iaload, 1) := by decide +kernel
theorem dX1_sumFromTheEnd_96 : decode cX1_sumFromTheEnd 96 = .ok (.aload_n 0, 1) := by decide +kernel
theorem dX1_sumFromTheEnd_97 : decode cX1_sumFromTheEnd 97 = .ok (.getfield 25, 3) := by decide +kernel
theorem dX1_sumFromTheEnd_100 : decode cX1_sumFromTheEnd 100 = .ok (.iload_n 2, 1) := by decide +kernel
theorem dX1_sumFromTheEnd_101 : decode cX1_sumFromTheEnd 101 = .ok (.iload 4, 2) := by decide +kernel
theorem dX1_sumFromTheEnd_103 : decode cX1_sumFromTheEnd 103 = .ok (.iadd, 1) := by decide +kernel
theorem dX1_sumFromTheEnd_104 : decode cX1_sumFromTheEnd 104 = .ok (.iaload, 1) := by decide +kernel
theorem dX1_sumFromTheEnd_105 : decode cX1_sumFromTheEnd 105 = .ok (.iadd, 1) := by decide +kernel
theorem dX1_sumFromTheEnd_106 : decode cX1_sumFromTheEnd 106 = .ok (.iastore, 1) := by decide +kernel
theorem dX1_sumFromTheEnd_107 : decode cX1_sumFromTheEnd 107 = .ok (.iinc 4 1, 3) := by decide +kernel
theorem dX1_sumFromTheEnd_110 : decode cX1_sumFromTheEnd 110 = .ok (.goto (-36), 3) := by decide +kernel
theorem dX1_sumFromTheEnd_113 : decode cX1_sumFromTheEnd 113 = .ok (.iinc 1 (-1), 3) := by decide +kernel
theorem dX1_sumFromTheEnd_116 : decode cX1_sumFromTheEnd 116 = .ok (.goto (-109), 3) := by decide +kernel
theorem dX1_sumFromTheEnd_119 : decode cX1_sumFromTheEnd 119 = .ok (.return_, 1) := by decide +kernel
theorem dX1_leastNear_0 : decode cX1_leastNear 0 = .ok (.aload_n 0, 1) := by decide +kernel
theorem dX1_leastNear_1 : decode cX1_leastNear 1 = .ok (.getfield 31, 3) := by decide +kernel
theorem dX1_leastNear_4 : decode cX1_leastNear 4 = .ok (.iload_n 1, 1) := by decide +kernel
theorem dX1_leastNear_5 : decode cX1_leastNear 5 = .ok (.iaload, 1) := by decide +kernel
theorem dX1_leastNear_6 : decode cX1_leastNear 6 = .ok (.istore_n 2, 1) := by decide +kernel
theorem dX1_leastNear_7 : decode cX1_leastNear 7 = .ok (.iload_n 1, 1) := by decide +kernel
theorem dX1_leastNear_8 : decode cX1_leastNear 8 = .ok (.ifCond .le 16, 3) := by decide +kernel
theorem dX1_leastNear_11 : decode cX1_leastNear 11 = .ok (.iload_n 2, 1) := by decide +kernel
theorem dX1_leastNear_12 : decode cX1_leastNear 12 = .ok (.aload_n 0, 1) := by decide +kernel
theorem dX1_leastNear_13 : decode cX1_leastNear 13 = .ok (.getfield 31, 3) := by decide +kernel
theorem dX1_leastNear_16 : decode cX1_leastNear 16 = .ok (.iload_n 1, 1) := by decide +kernel
theorem dX1_leastNear_17 : decode cX1_leastNear 17 = .ok (.iconst 1, 1) := by decide +kernel
theorem dX1_leastNear_18 : decode cX1_leastNear 18 = .ok (.isub, 1) := by decide +kernel
theorem dX1_leastNear_19 : decode cX1_leastNear 19 = .ok (.iaload, 1) := by decide +kernel
theorem dX1_leastNear_20 : decode cX1_leastNear 20 = .ok (.invokestatic 48, 3) := by decide +kernel
theorem dX1_leastNear_23 : decode cX1_leastNear 23 = .ok (.istore_n 2, 1) := by decide +kernel
theorem dX1_leastNear_24 : decode cX1_leastNear 24 = .ok (.iload_n 1, 1) := by decide +kernel
theorem dX1_leastNear_25 : decode cX1_leastNear 25 = .ok (.bipush 8, 2) := by decide +kernel
theorem dX1_leastNear_27 : decode cX1_leastNear 27 = .ok (.if_icmp .ge 16, 3) := by decide +kernel
theorem dX1_leastNear_30 : decode cX1_leastNear 30 = .ok (.iload_n 2, 1) := by decide +kernel
theorem dX1_leastNear_31 : decode cX1_leastNear 31 = .ok (.aload_n 0, 1) := by decide +kernel
theorem dX1_leastNear_32 : decode cX1_leastNear 32 = .ok (.getfield 31, 3) := by decide +kernel
theorem dX1_leastNear_35 : decode cX1_leastNear 35 = .ok (.iload_n 1, 1) := by decide +kernel
theorem dX1_leastNear_36 : decode cX1_leastNear 36 = .ok (.iconst 1, 1) := by decide +kernel
theorem dX1_leastNear_37 : decode cX1_leastNear 37 = .ok (.iadd, 1) := by decide +kernel
theorem dX1_leastNear_38 : decode cX1_leastNear 38 = .ok (.iaload, 1) := by decide +kernel
theorem dX1_leastNear_39 : decode cX1_leastNear 39 = .ok (.invokestatic 48, 3) := by decide +kernel
theorem dX1_leastNear_42 : decode cX1_leastNear 42 = .ok (.istore_n 2, 1) := by decide +kernel
theorem dX1_leastNear_43 : decode cX1_leastNear 43 = .ok (.iload_n 2, 1) := by decide +kernel
theorem dX1_leastNear_44 : decode cX1_leastNear 44 = .ok (.ireturn, 1) := by decide +kernel
theorem dX1_leastCost_0 : decode cX1_leastCost 0 = .ok (.aload_n 0, 1) := by decide +kernel
theorem dX1_leastCost_1 : decode cX1_leastCost 1 = .ok (.getfield 22, 3) := by decide +kernel
theorem dX1_leastCost_4 : decode cX1_leastCost 4 = .ok (.iconst 0, 1) := by decide +kernel
theorem dX1_leastCost_5 : decode cX1_leastCost 5 = .ok (.iaload, 1) := by decide +kernel
theorem dX1_leastCost_6 : decode cX1_leastCost 6 = .ok (.aload_n 0, 1) := by decide +kernel
theorem dX1_leastCost_7 : decode cX1_leastCost 7 = .ok (.getfield 25, 3) := by decide +kernel
theorem dX1_leastCost_10 : decode cX1_leastCost 10 = .ok (.iconst 0, 1) := by decide +kernel
theorem dX1_leastCost_11 : decode cX1_leastCost 11 = .ok (.iaload, 1) := by decide +kernel
theorem dX1_leastCost_12 : decode cX1_leastCost 12 = .ok (.iadd, 1) := by decide +kernel
theorem dX1_leastCost_13 : decode cX1_leastCost 13 = .ok (.istore_n 1, 1) := by decide +kernel
theorem dX1_leastCost_14 : decode cX1_leastCost 14 = .ok (.iconst 1, 1) := by decide +kernel
theorem dX1_leastCost_15 : decode cX1_leastCost 15 = .ok (.istore_n 2, 1) := by decide +kernel
theorem dX1_leastCost_16 : decode cX1_leastCost 16 = .ok (.iload_n 2, 1) := by decide +kernel
theorem dX1_leastCost_17 : decode cX1_leastCost 17 = .ok (.bipush 9, 2) := by decide +kernel
theorem dX1_leastCost_19 : decode cX1_leastCost 19 = .ok (.if_icmp .ge 27, 3) := by decide +kernel
theorem dX1_leastCost_22 : decode cX1_leastCost 22 = .ok (.iload_n 1, 1) := by decide +kernel
theorem dX1_leastCost_23 : decode cX1_leastCost 23 = .ok (.aload_n 0, 1) := by decide +kernel
theorem dX1_leastCost_24 : decode cX1_leastCost 24 = .ok (.getfield 22, 3) := by decide +kernel
theorem dX1_leastCost_27 : decode cX1_leastCost 27 = .ok (.iload_n 2, 1) := by decide +kernel
theorem dX1_leastCost_28 : decode cX1_leastCost 28 = .ok (.iaload, 1) := by decide +kernel
theorem dX1_leastCost_29 : decode cX1_leastCost 29 = .ok (.aload_n 0, 1) := by decide +kernel
theorem dX1_leastCost_30 : decode cX1_leastCost 30 = .ok (.getfield 25, 3) := by decide +kernel
theorem dX1_leastCost_33 : decode cX1_leastCost 33 = .ok (.iload_n 2, 1) := by decide +kernel
theorem dX1_leastCost_34 : decode cX1_leastCost 34 = .ok (.iaload, 1) := by decide +kernel
theorem dX1_leastCost_35 : decode cX1_leastCost 35 = .ok (.iadd, 1) := by decide +kernel
theorem dX1_leastCost_36 : decode cX1_leastCost 36 = .ok (.invokestatic 48, 3) := by decide +kernel
theorem dX1_leastCost_39 : decode cX1_leastCost 39 = .ok (.istore_n 1, 1) := by decide +kernel
theorem dX1_leastCost_40 : decode cX1_leastCost 40 = .ok (.iinc 2 1, 3) := by decide +kernel
theorem dX1_leastCost_43 : decode cX1_leastCost 43 = .ok (.goto (-27), 3) := by decide +kernel
theorem dX1_leastCost_46 : decode cX1_leastCost 46 = .ok (.iload_n 1, 1) := by decide +kernel
theorem dX1_leastCost_47 : decode cX1_leastCost 47 = .ok (.ireturn, 1) := by decide +kernel
theorem dX1_startWalk_0 : decode cX1_startWalk 0 = .ok (.iconst 0, 1) := by decide +kernel
theorem dX1_startWalk_1 : decode cX1_startWalk 1 = .ok (.istore_n 1, 1) := by decide +kernel
theorem dX1_startWalk_2 : decode cX1_startWalk 2 = .ok (.iload_n 1, 1) := by decide +kernel
theorem dX1_startWalk_3 : decode cX1_startWalk 3 = .ok (.bipush 9, 2) := by decide +kernel
theorem dX1_startWalk_5 : decode cX1_startWalk 5 = .ok (.if_icmp .ge 16, 3) := by decide +kernel
theorem dX1_startWalk_8 : decode cX1_startWalk 8 = .ok (.aload_n 0, 1) := by decide +kernel
theorem dX1_startWalk_9 : decode cX1_startWalk 9 = .ok (.getfield 28, 3) := by decide +kernel
theorem dX1_startWalk_12 : decode cX1_startWalk 12 = .ok (.iload_n 1, 1) := by decide +kernel
theorem dX1_startWalk_13 : decode cX1_startWalk 13 = .ok (.iconst 0, 1) := by decide +kernel
theorem dX1_startWalk_14 : decode cX1_startWalk 14 = .ok (.iastore, 1) := by decide +kernel
theorem dX1_startWalk_15 : decode cX1_startWalk 15 = .ok (.iinc 1 1, 3) := by decide +kernel
theorem dX1_startWalk_18 : decode cX1_startWalk 18 = .ok (.goto (-16), 3) := by decide +kernel
theorem dX1_startWalk_21 : decode cX1_startWalk 21 = .ok (.return_, 1) := by decide +kernel
theorem dX1_walkOn_0 : decode cX1_walkOn 0 = .ok (.iconst 0, 1) := by decide +kernel
theorem dX1_walkOn_1 : decode cX1_walkOn 1 = .ok (.istore_n 3, 1) := by decide +kernel
theorem dX1_walkOn_2 : decode cX1_walkOn 2 = .ok (.iload_n 3, 1) := by decide +kernel
theorem dX1_walkOn_3 : decode cX1_walkOn 3 = .ok (.bipush 9, 2) := by decide +kernel
theorem dX1_walkOn_5 : decode cX1_walkOn 5 = .ok (.if_icmp .ge 27, 3) := by decide +kernel
theorem dX1_walkOn_8 : decode cX1_walkOn 8 = .ok (.aload_n 0, 1) := by decide +kernel
theorem dX1_walkOn_9 : decode cX1_walkOn 9 = .ok (.getfield 31, 3) := by decide +kernel
theorem dX1_walkOn_12 : decode cX1_walkOn 12 = .ok (.iload_n 3, 1) := by decide +kernel
theorem dX1_walkOn_13 : decode cX1_walkOn 13 = .ok (.aload_n 0, 1) := by decide +kernel
theorem dX1_walkOn_14 : decode cX1_walkOn 14 = .ok (.getfield 28, 3) := by decide +kernel
theorem dX1_walkOn_17 : decode cX1_walkOn 17 = .ok (.iload_n 3, 1) := by decide +kernel
theorem dX1_walkOn_18 : decode cX1_walkOn 18 = .ok (.iaload, 1) := by decide +kernel
theorem dX1_walkOn_19 : decode cX1_walkOn 19 = .ok (.aload_n 1, 1) := by decide +kernel
theorem dX1_walkOn_20 : decode cX1_walkOn 20 = .ok (.iload_n 2, 1) := by decide +kernel
theorem dX1_walkOn_21 : decode cX1_walkOn 21 = .ok (.iload_n 3, 1) := by decide +kernel
theorem dX1_walkOn_22 : decode cX1_walkOn 22 = .ok (.iadd, 1) := by decide +kernel
theorem dX1_walkOn_23 : decode cX1_walkOn 23 = .ok (.iaload, 1) := by decide +kernel
theorem dX1_walkOn_24 : decode cX1_walkOn 24 = .ok (.iadd, 1) := by decide +kernel
theorem dX1_walkOn_25 : decode cX1_walkOn 25 = .ok (.iastore, 1) := by decide +kernel
theorem dX1_walkOn_26 : decode cX1_walkOn 26 = .ok (.iinc 3 1, 3) := by decide +kernel
theorem dX1_walkOn_29 : decode cX1_walkOn 29 = .ok (.goto (-27), 3) := by decide +kernel
theorem dX1_walkOn_32 : decode cX1_walkOn 32 = .ok (.iconst 0, 1) := by decide +kernel
theorem dX1_walkOn_33 : decode cX1_walkOn 33 = .ok (.istore_n 3, 1) := by decide +kernel
theorem dX1_walkOn_34 : decode cX1_walkOn 34 = .ok (.iload_n 3, 1) := by decide +kernel
theorem dX1_walkOn_35 : decode cX1_walkOn 35 = .ok (.bipush 9, 2) := by decide +kernel
theorem dX1_walkOn_37 : decode cX1_walkOn 37 = .ok (.if_icmp .ge 20, 3) := by decide +kernel
theorem dX1_walkOn_40 : decode cX1_walkOn 40 = .ok (.aload_n 0, 1) := by decide +kernel
theorem dX1_walkOn_41 : decode cX1_walkOn 41 = .ok (.getfield 28, 3) := by decide +kernel
theorem dX1_walkOn_44 : decode cX1_walkOn 44 = .ok (.iload_n 3, 1) := by decide +kernel
theorem dX1_walkOn_45 : decode cX1_walkOn 45 = .ok (.aload_n 0, 1) := by decide +kernel
theorem dX1_walkOn_46 : decode cX1_walkOn 46 = .ok (.iload_n 3, 1) := by decide +kernel
theorem dX1_walkOn_47 : decode cX1_walkOn 47 = .ok (.invokevirtual 58, 3) := by decide +kernel
theorem dX1_walkOn_50 : decode cX1_walkOn 50 = .ok (.iastore, 1) := by decide +kernel
theorem dX1_walkOn_51 : decode cX1_walkOn 51 = .ok (.iinc 3 1, 3) := by decide +kernel
theorem dX1_walkOn_54 : decode cX1_walkOn 54 = .ok (.goto (-20), 3) := by decide +kernel
theorem dX1_walkOn_57 : decode cX1_walkOn 57 = .ok (.return_, 1) := by decide +kernel
theorem dX1_leastThrough_0 : decode cX1_leastThrough 0 = .ok (.iload_n 1, 1) := by decide +kernel
theorem dX1_leastThrough_1 : decode cX1_leastThrough 1 = .ok (.iload_n 2, 1) := by decide +kernel
theorem dX1_leastThrough_2 : decode cX1_leastThrough 2 = .ok (.invokestatic 34, 3) := by decide +kernel
theorem dX1_leastThrough_5 : decode cX1_leastThrough 5 = .ok (.istore_n 3, 1) := by decide +kernel
theorem dX1_leastThrough_6 : decode cX1_leastThrough 6 = .ok (.iload_n 1, 1) := by decide +kernel
theorem dX1_leastThrough_7 : decode cX1_leastThrough 7 = .ok (.bipush 9, 2) := by decide +kernel
theorem dX1_leastThrough_9 : decode cX1_leastThrough 9 = .ok (.imul, 1) := by decide +kernel
theorem dX1_leastThrough_10 : decode cX1_leastThrough 10 = .ok (.istore 4, 2) := by decide +kernel
theorem dX1_leastThrough_12 : decode cX1_leastThrough 12 = .ok (.aload_n 0, 1) := by decide +kernel
theorem dX1_leastThrough_13 : decode cX1_leastThrough 13 = .ok (.getfield 28, 3) := by decide +kernel
theorem dX1_leastThrough_16 : decode cX1_leastThrough 16 = .ok (.iconst 0, 1) := by decide +kernel
theorem dX1_leastThrough_17 : decode cX1_leastThrough 17 = .ok (.iaload, 1) := by decide +kernel
theorem dX1_leastThrough_18 : decode cX1_leastThrough 18 = .ok (.aload_n 0, 1) := by decide +kernel
theorem dX1_leastThrough_19 : decode cX1_leastThrough 19 = .ok (.getfield 19, 3) := by decide +kernel
theorem dX1_leastThrough_22 : decode cX1_leastThrough 22 = .ok (.iload_n 3, 1) := by decide +kernel
theorem dX1_leastThrough_23 : decode cX1_leastThrough 23 = .ok (.iaload, 1) := by decide +kernel
theorem dX1_leastThrough_24 : decode cX1_leastThrough 24 = .ok (.iadd, 1) := by decide +kernel
theorem dX1_leastThrough_25 : decode cX1_leastThrough 25 = .ok (.aload_n 0, 1) := by decide +kernel
theorem dX1_leastThrough_26 : decode cX1_leastThrough 26 = .ok (.getfield 25, 3) := by decide +kernel
theorem dX1_leastThrough_29 : decode cX1_leastThrough 29 = .ok (.iload 4, 2) := by decide +kernel
theorem dX1_leastThrough_31 : decode cX1_leastThrough 31 = .ok (.iaload, 1) := by decide +kernel
theorem dX1_leastThrough_32 : decode cX1_leastThrough 32 = .ok (.iadd, 1) := by decide +kernel
theorem dX1_leastThrough_33 : decode cX1_leastThrough 33 = .ok (.istore 5, 2) := by decide +kernel
theorem dX1_leastThrough_35 : decode cX1_leastThrough 35 = .ok (.iconst 1, 1) := by decide +kernel
theorem dX1_leastThrough_36 : decode cX1_leastThrough 36 = .ok (.istore 6, 2) := by decide +kernel
theorem dX1_leastThrough_38 : decode cX1_leastThrough 38 = .ok (.iload 6, 2) := by decide +kernel
theorem dX1_leastThrough_40 : decode cX1_leastThrough 40 = .ok (.bipush 9, 2) := by decide +kernel
theorem dX1_leastThrough_42 : decode cX1_leastThrough 42 = .ok (.if_icmp .ge 44, 3) := by decide +kernel
theorem dX1_leastThrough_45 : decode cX1_leastThrough 45 = .ok (.iload 5, 2) := by decide +kernel
theorem dX1_leastThrough_47 : decode cX1_leastThrough 47 = .ok (.aload_n 0, 1) := by decide +kernel
theorem dX1_leastThrough_48 : decode cX1_leastThrough 48 = .ok (.getfield 28, 3) := by decide +kernel
theorem dX1_leastThrough_51 : decode cX1_leastThrough 51 = .ok (.iload 6, 2) := by decide +kernel
theorem dX1_leastThrough_53 : decode cX1_leastThrough 53 = .ok (.iaload, 1) := by decide +kernel
theorem dX1_leastThrough_54 : decode cX1_leastThrough 54 = .ok (.aload_n 0, 1) := by decide +kernel
theorem dX1_leastThrough_55 : decode cX1_leastThrough 55 = .ok (.getfield 19, 3) := by decide +kernel
theorem dX1_leastThrough_58 : decode cX1_leastThrough 58 = .ok (.iload_n 3, 1) := by decide +kernel
theorem dX1_leastThrough_59 : decode cX1_leastThrough 59 = .ok (.iload 6, 2) := by decide +kernel
theorem dX1_leastThrough_61 : decode cX1_leastThrough 61 = .ok (.iadd, 1) := by decide +kernel
theorem dX1_leastThrough_62 : decode cX1_leastThrough 62 = .ok (.iaload, 1) := by decide +kernel
theorem dX1_leastThrough_63 : decode cX1_leastThrough 63 = .ok (.iadd, 1) := by decide +kernel
theorem dX1_leastThrough_64 : decode cX1_leastThrough 64 = .ok (.aload_n 0, 1) := by decide +kernel
theorem dX1_leastThrough_65 : decode cX1_leastThrough 65 = .ok (.getfield 25, 3) := by decide +kernel
theorem dX1_leastThrough_68 : decode cX1_leastThrough 68 = .ok (.iload 4, 2) := by decide +kernel
theorem dX1_leastThrough_70 : decode cX1_leastThrough 70 = .ok (.iload 6, 2) := by decide +kernel
theorem dX1_leastThrough_72 : decode cX1_leastThrough 72 = .ok (.iadd, 1) := by decide +kernel
theorem dX1_leastThrough_73 : decode cX1_leastThrough 73 = .ok (.iaload, 1) := by decide +kernel
theorem dX1_leastThrough_74 : decode cX1_leastThrough 74 = .ok (.iadd, 1) := by decide +kernel
theorem dX1_leastThrough_75 : decode cX1_leastThrough 75 = .ok (.invokestatic 48, 3) := by decide +kernel
theorem dX1_leastThrough_78 : decode cX1_leastThrough 78 = .ok (.istore 5, 2) := by decide +kernel
theorem dX1_leastThrough_80 : decode cX1_leastThrough 80 = .ok (.iinc 6 1, 3) := by decide +kernel
theorem dX1_leastThrough_83 : decode cX1_leastThrough 83 = .ok (.goto (-45), 3) := by decide +kernel
theorem dX1_leastThrough_86 : decode cX1_leastThrough 86 = .ok (.iload 5, 2) := by decide +kernel
theorem dX1_leastThrough_88 : decode cX1_leastThrough 88 = .ok (.ireturn, 1) := by decide +kernel
theorem dX1_pickSigns_0 : decode cX1_pickSigns 0 = .ok (.aload_n 0, 1) := by decide +kernel
theorem dX1_pickSigns_1 : decode cX1_pickSigns 1 = .ok (.invokevirtual 61, 3) := by decide +kernel
theorem dX1_pickSigns_4 : decode cX1_pickSigns 4 = .ok (.iconst 0, 1) := by decide +kernel
theorem dX1_pickSigns_5 : decode cX1_pickSigns 5 = .ok (.istore_n 3, 1) := by decide +kernel
theorem dX1_pickSigns_6 : decode cX1_pickSigns 6 = .ok (.iload_n 3, 1) := by decide +kernel
theorem dX1_pickSigns_7 : decode cX1_pickSigns 7 = .ok (.aload_n 0, 1) := by decide +kernel
theorem dX1_pickSigns_8 : decode cX1_pickSigns 8 = .ok (.getfield 9, 3) := by decide +kernel
theorem dX1_pickSigns_11 : decode cX1_pickSigns 11 = .ok (.if_icmp .ge 55, 3) := by decide +kernel
theorem dX1_pickSigns_14 : decode cX1_pickSigns 14 = .ok (.iconst 0, 1) := by decide +kernel
theorem dX1_pickSigns_15 : decode cX1_pickSigns 15 = .ok (.istore 4, 2) := by decide +kernel
theorem dX1_pickSigns_17 : decode cX1_pickSigns 17 = .ok (.iload 4, 2) := by decide +kernel
theorem dX1_pickSigns_19 : decode cX1_pickSigns 19 = .ok (.bipush 11, 2) := by decide +kernel
theorem dX1_pickSigns_21 : decode cX1_pickSigns 21 = .ok (.if_icmp .ge 20, 3) := by decide +kernel
theorem dX1_pickSigns_24 : decode cX1_pickSigns 24 = .ok (.aload_n 0, 1) := by decide +kernel
theorem dX1_pickSigns_25 : decode cX1_pickSigns 25 = .ok (.iload_n 3, 1) := by decide +kernel
theorem dX1_pickSigns_26 : decode cX1_pickSigns 26 = .ok (.iload 4, 2) := by decide +kernel
theorem dX1_pickSigns_28 : decode cX1_pickSigns 28 = .ok (.invokevirtual 64, 3) := by decide +kernel
theorem dX1_pickSigns_31 : decode cX1_pickSigns 31 = .ok (.iload_n 2, 1) := by decide +kernel
theorem dX1_pickSigns_32 : decode cX1_pickSigns 32 = .ok (.if_icmp .eq 9, 3) := by decide +kernel
theorem dX1_pickSigns_35 : decode cX1_pickSigns 35 = .ok (.iinc 4 1, 3) := by decide +kernel
theorem dX1_pickSigns_38 : decode cX1_pickSigns 38 = .ok (.goto (-21), 3) := by decide +kernel
theorem dX1_pickSigns_41 : decode cX1_pickSigns 41 = .ok (.aload_n 1, 1) := by decide +kernel
theorem dX1_pickSigns_42 : decode cX1_pickSigns 42 = .ok (.iload_n 3, 1) := by decide +kernel
theorem dX1_pickSigns_43 : decode cX1_pickSigns 43 = .ok (.iload 4, 2) := by decide +kernel
theorem dX1_pickSigns_45 : decode cX1_pickSigns 45 = .ok (.iastore, 1) := by decide +kernel
theorem dX1_pickSigns_46 : decode cX1_pickSigns 46 = .ok (.aload_n 0, 1) := by decide +kernel
theorem dX1_pickSigns_47 : decode cX1_pickSigns 47 = .ok (.aload_n 0, 1) := by decide +kernel
theorem dX1_pickSigns_48 : decode cX1_pickSigns 48 = .ok (.getfield 19, 3) := by decide +kernel
