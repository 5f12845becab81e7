theorem dX4_init_4 : decode cX4_init 4 = .ok (.aload_n 0, 1) := by decide +kernel
theorem dX4_init_5 : decode cX4_init 5 = .ok (.iconst 0, 1) := by decide +kernel
theorem dX4_init_6 : decode cX4_init 6 = .ok (.putfield 9, 3) := by decide +kernel
theorem dX4_init_9 : decode cX4_init 9 = .ok (.aload_n 0, 1) := by decide +kernel
theorem dX4_init_10 : decode cX4_init 10 = .ok (.sipush 301, 3) := by decide +kernel
theorem dX4_init_13 : decode cX4_init 13 = .ok (.newarray .int, 2) := by decide +kernel
theorem dX4_init_15 : decode cX4_init 15 = .ok (.putfield 15, 3) := by decide +kernel
theorem dX4_init_18 : decode cX4_init 18 = .ok (.aload_n 0, 1) := by decide +kernel
theorem dX4_init_19 : decode cX4_init 19 = .ok (.sipush 301, 3) := by decide +kernel
theorem dX4_init_22 : decode cX4_init 22 = .ok (.newarray .int, 2) := by decide +kernel
theorem dX4_init_24 : decode cX4_init 24 = .ok (.putfield 19, 3) := by decide +kernel
theorem dX4_init_27 : decode cX4_init 27 = .ok (.aload_n 0, 1) := by decide +kernel
theorem dX4_init_28 : decode cX4_init 28 = .ok (.sipush 301, 3) := by decide +kernel
theorem dX4_init_31 : decode cX4_init 31 = .ok (.newarray .int, 2) := by decide +kernel
theorem dX4_init_33 : decode cX4_init 33 = .ok (.putfield 22, 3) := by decide +kernel
theorem dX4_init_36 : decode cX4_init 36 = .ok (.return_, 1) := by decide +kernel
theorem dX4_explain_0 : decode cX4_explain 0 = .ok (.aload_n 0, 1) := by decide +kernel
theorem dX4_explain_1 : decode cX4_explain 1 = .ok (.iconst 0, 1) := by decide +kernel
theorem dX4_explain_2 : decode cX4_explain 2 = .ok (.putfield 9, 3) := by decide +kernel
theorem dX4_explain_5 : decode cX4_explain 5 = .ok (.aload_n 1, 1) := by decide +kernel
theorem dX4_explain_6 : decode cX4_explain 6 = .ok (.iload_n 2, 1) := by decide +kernel
theorem dX4_explain_7 : decode cX4_explain 7 = .ok (.invokevirtual 25, 3) := by decide +kernel
theorem dX4_explain_10 : decode cX4_explain 10 = .ok (.lstore_n 3, 1) := by decide +kernel
theorem dX4_explain_11 : decode cX4_explain 11 = .ok (.lload_n 3, 1) := by decide +kernel
theorem dX4_explain_12 : decode cX4_explain 12 = .ok (.lconst 0, 1) := by decide +kernel
theorem dX4_explain_13 : decode cX4_explain 13 = .ok (.lcmp, 1) := by decide +kernel
theorem dX4_explain_14 : decode cX4_explain 14 = .ok (.ifCond .ne 4, 3) := by decide +kernel
theorem dX4_explain_17 : decode cX4_explain 17 = .ok (.return_, 1) := by decide +kernel
theorem dX4_explain_18 : decode cX4_explain 18 = .ok (.iconst 0, 1) := by decide +kernel
theorem dX4_explain_19 : decode cX4_explain 19 = .ok (.istore 5, 2) := by decide +kernel
theorem dX4_explain_21 : decode cX4_explain 21 = .ok (.iload 5, 2) := by decide +kernel
theorem dX4_explain_23 : decode cX4_explain 23 = .ok (.aload_n 1, 1) := by decide +kernel
theorem dX4_explain_24 : decode cX4_explain 24 = .ok (.getfield 31, 3) := by decide +kernel
theorem dX4_explain_27 : decode cX4_explain 27 = .ok (.if_icmp .ge 34, 3) := by decide +kernel
theorem dX4_explain_30 : decode cX4_explain 30 = .ok (.aload_n 1, 1) := by decide +kernel
theorem dX4_explain_31 : decode cX4_explain 31 = .ok (.getfield 33, 3) := by decide +kernel
theorem dX4_explain_34 : decode cX4_explain 34 = .ok (.iload 5, 2) := by decide +kernel
theorem dX4_explain_36 : decode cX4_explain 36 = .ok (.iaload, 1) := by decide +kernel
theorem dX4_explain_37 : decode cX4_explain 37 = .ok (.iload_n 2, 1) := by decide +kernel
theorem dX4_explain_38 : decode cX4_explain 38 = .ok (.if_icmp .ne 17, 3) := by decide +kernel
theorem dX4_explain_41 : decode cX4_explain 41 = .ok (.aload_n 0, 1) := by decide +kernel
theorem dX4_explain_42 : decode cX4_explain 42 = .ok (.iload 5, 2) := by decide +kernel
theorem dX4_explain_44 : decode cX4_explain 44 = .ok (.aload_n 1, 1) := by decide +kernel
theorem dX4_explain_45 : decode cX4_explain 45 = .ok (.getfield 36, 3) := by decide +kernel
theorem dX4_explain_48 : decode cX4_explain 48 = .ok (.iload 5, 2) := by decide +kernel
theorem dX4_explain_50 : decode cX4_explain 50 = .ok (.iaload, 1) := by decide +kernel
theorem dX4_explain_51 : decode cX4_explain 51 = .ok (.lload_n 3, 1) := by decide +kernel
theorem dX4_explain_52 : decode cX4_explain 52 = .ok (.invokevirtual 37, 3) := by decide +kernel
theorem dX4_explain_55 : decode cX4_explain 55 = .ok (.iinc 5 1, 3) := by decide +kernel
theorem dX4_explain_58 : decode cX4_explain 58 = .ok (.goto (-37), 3) := by decide +kernel
theorem dX4_explain_61 : decode cX4_explain 61 = .ok (.lload_n 3, 1) := by decide +kernel
theorem dX4_explain_62 : decode cX4_explain 62 = .ok (.lconst 0, 1) := by decide +kernel
theorem dX4_explain_63 : decode cX4_explain 63 = .ok (.lcmp, 1) := by decide +kernel
theorem dX4_explain_64 : decode cX4_explain 64 = .ok (.ifCond .ge 21, 3) := by decide +kernel
theorem dX4_explain_67 : decode cX4_explain 67 = .ok (.lload_n 3, 1) := by decide +kernel
theorem dX4_explain_68 : decode cX4_explain 68 = .ok (.lneg, 1) := by decide +kernel
theorem dX4_explain_69 : decode cX4_explain 69 = .ok (.ldc2_w 41, 3) := by decide +kernel
theorem dX4_explain_72 : decode cX4_explain 72 = .ok (.lcmp, 1) := by decide +kernel
theorem dX4_explain_73 : decode cX4_explain 73 = .ok (.ifCond .gt 12, 3) := by decide +kernel
theorem dX4_explain_76 : decode cX4_explain 76 = .ok (.aload_n 0, 1) := by decide +kernel
theorem dX4_explain_77 : decode cX4_explain 77 = .ok (.iconst 3, 1) := by decide +kernel
theorem dX4_explain_78 : decode cX4_explain 78 = .ok (.iconst (-1), 1) := by decide +kernel
theorem dX4_explain_79 : decode cX4_explain 79 = .ok (.lload_n 3, 1) := by decide +kernel
theorem dX4_explain_80 : decode cX4_explain 80 = .ok (.lneg, 1) := by decide +kernel
theorem dX4_explain_81 : decode cX4_explain 81 = .ok (.l2i, 1) := by decide +kernel
theorem dX4_explain_82 : decode cX4_explain 82 = .ok (.invokevirtual 43, 3) := by decide +kernel
theorem dX4_explain_85 : decode cX4_explain 85 = .ok (.return_, 1) := by decide +kernel
theorem dX4_explainBy_0 : decode cX4_explainBy 0 = .ok (.iload_n 2, 1) := by decide +kernel
theorem dX4_explainBy_1 : decode cX4_explainBy 1 = .ok (.i2l, 1) := by decide +kernel
theorem dX4_explainBy_2 : decode cX4_explainBy 2 = .ok (.lload_n 3, 1) := by decide +kernel
theorem dX4_explainBy_3 : decode cX4_explainBy 3 = .ok (.lsub, 1) := by decide +kernel
theorem dX4_explainBy_4 : decode cX4_explainBy 4 = .ok (.lstore 5, 2) := by decide +kernel
theorem dX4_explainBy_6 : decode cX4_explainBy 6 = .ok (.lload 5, 2) := by decide +kernel
theorem dX4_explainBy_8 : decode cX4_explainBy 8 = .ok (.lconst 0, 1) := by decide +kernel
theorem dX4_explainBy_9 : decode cX4_explainBy 9 = .ok (.lcmp, 1) := by decide +kernel
theorem dX4_explainBy_10 : decode cX4_explainBy 10 = .ok (.ifCond .lt 50, 3) := by decide +kernel
theorem dX4_explainBy_13 : decode cX4_explainBy 13 = .ok (.lload 5, 2) := by decide +kernel
theorem dX4_explainBy_15 : decode cX4_explainBy 15 = .ok (.ldc2_w 41, 3) := by decide +kernel
theorem dX4_explainBy_18 : decode cX4_explainBy 18 = .ok (.lcmp, 1) := by decide +kernel
theorem dX4_explainBy_19 : decode cX4_explainBy 19 = .ok (.ifCond .gt 41, 3) := by decide +kernel
theorem dX4_explainBy_22 : decode cX4_explainBy 22 = .ok (.iload_n 2, 1) := by decide +kernel
theorem dX4_explainBy_23 : decode cX4_explainBy 23 = .ok (.lload 5, 2) := by decide +kernel
theorem dX4_explainBy_25 : decode cX4_explainBy 25 = .ok (.l2i, 1) := by decide +kernel
theorem dX4_explainBy_26 : decode cX4_explainBy 26 = .ok (.invokestatic 47, 3) := by decide +kernel
theorem dX4_explainBy_29 : decode cX4_explainBy 29 = .ok (.ifCond .eq 12, 3) := by decide +kernel
theorem dX4_explainBy_32 : decode cX4_explainBy 32 = .ok (.aload_n 0, 1) := by decide +kernel
theorem dX4_explainBy_33 : decode cX4_explainBy 33 = .ok (.iconst 0, 1) := by decide +kernel
theorem dX4_explainBy_34 : decode cX4_explainBy 34 = .ok (.iload_n 1, 1) := by decide +kernel
theorem dX4_explainBy_35 : decode cX4_explainBy 35 = .ok (.lload 5, 2) := by decide +kernel
theorem dX4_explainBy_37 : decode cX4_explainBy 37 = .ok (.l2i, 1) := by decide +kernel
theorem dX4_explainBy_38 : decode cX4_explainBy 38 = .ok (.invokevirtual 43, 3) := by decide +kernel
theorem dX4_explainBy_41 : decode cX4_explainBy 41 = .ok (.iload_n 2, 1) := by decide +kernel
theorem dX4_explainBy_42 : decode cX4_explainBy 42 = .ok (.lload 5, 2) := by decide +kernel
theorem dX4_explainBy_44 : decode cX4_explainBy 44 = .ok (.l2i, 1) := by decide +kernel
theorem dX4_explainBy_45 : decode cX4_explainBy 45 = .ok (.invokestatic 51, 3) := by decide +kernel
theorem dX4_explainBy_48 : decode cX4_explainBy 48 = .ok (.ifCond .eq 12, 3) := by decide +kernel
theorem dX4_explainBy_51 : decode cX4_explainBy 51 = .ok (.aload_n 0, 1) := by decide +kernel
theorem dX4_explainBy_52 : decode cX4_explainBy 52 = .ok (.iconst 1, 1) := by decide +kernel
theorem dX4_explainBy_53 : decode cX4_explainBy 53 = .ok (.iload_n 1, 1) := by decide +kernel
theorem dX4_explainBy_54 : decode cX4_explainBy 54 = .ok (.lload 5, 2) := by decide +kernel
theorem dX4_explainBy_56 : decode cX4_explainBy 56 = .ok (.l2i, 1) := by decide +kernel
theorem dX4_explainBy_57 : decode cX4_explainBy 57 = .ok (.invokevirtual 43, 3) := by decide +kernel
theorem dX4_explainBy_60 : decode cX4_explainBy 60 = .ok (.iload_n 2, 1) := by decide +kernel
theorem dX4_explainBy_61 : decode cX4_explainBy 61 = .ok (.i2l, 1) := by decide +kernel
theorem dX4_explainBy_62 : decode cX4_explainBy 62 = .ok (.lload_n 3, 1) := by decide +kernel
theorem dX4_explainBy_63 : decode cX4_explainBy 63 = .ok (.lcmp, 1) := by decide +kernel
theorem dX4_explainBy_64 : decode cX4_explainBy 64 = .ok (.ifCond .ne 10, 3) := by decide +kernel
theorem dX4_explainBy_67 : decode cX4_explainBy 67 = .ok (.aload_n 0, 1) := by decide +kernel
theorem dX4_explainBy_68 : decode cX4_explainBy 68 = .ok (.iconst 2, 1) := by decide +kernel
theorem dX4_explainBy_69 : decode cX4_explainBy 69 = .ok (.iload_n 1, 1) := by decide +kernel
theorem dX4_explainBy_70 : decode cX4_explainBy 70 = .ok (.iconst 0, 1) := by decide +kernel
theorem dX4_explainBy_71 : decode cX4_explainBy 71 = .ok (.invokevirtual 43, 3) := by decide +kernel
theorem dX4_explainBy_74 : decode cX4_explainBy 74 = .ok (.return_, 1) := by decide +kernel
theorem dX4_note_0 : decode cX4_note 0 = .ok (.aload_n 0, 1) := by decide +kernel
theorem dX4_note_1 : decode cX4_note 1 = .ok (.getfield 9, 3) := by decide +kernel
theorem dX4_note_4 : decode cX4_note 4 = .ok (.sipush 301, 3) := by decide +kernel
theorem dX4_note_7 : decode cX4_note 7 = .ok (.if_icmp .lt 4, 3) := by decide +kernel
theorem dX4_note_10 : decode cX4_note 10 = .ok (.return_, 1) := by decide +kernel
theorem dX4_note_11 : decode cX4_note 11 = .ok (.aload_n 0, 1) := by decide +kernel
theorem dX4_note_12 : decode cX4_note 12 = .ok (.getfield 15, 3) := by decide +kernel
theorem dX4_note_15 : decode cX4_note 15 = .ok (.aload_n 0, 1) := by decide +kernel
theorem dX4_note_16 : decode cX4_note 16 = .ok (.getfield 9, 3) := by decide +kernel
theorem dX4_note_19 : decode cX4_note 19 = .ok (.iload_n 1, 1) := by decide +kernel
theorem dX4_note_20 : decode cX4_note 20 = .ok (.iastore, 1) := by decide +kernel
theorem dX4_note_21 : decode cX4_note 21 = .ok (.aload_n 0, 1) := by decide +kernel
theorem dX4_note_22 : decode cX4_note 22 = .ok (.getfield 19, 3) := by decide +kernel
theorem dX4_note_25 : decode cX4_note 25 = .ok (.aload_n 0, 1) := by decide +kernel
theorem dX4_note_26 : decode cX4_note 26 = .ok (.getfield 9, 3) := by decide +kernel
theorem dX4_note_29 : decode cX4_note 29 = .ok (.iload_n 2, 1) := by decide +kernel
theorem dX4_note_30 : decode cX4_note 30 = .ok (.iastore, 1) := by decide +kernel
theorem dX4_note_31 : decode cX4_note 31 = .ok (.aload_n 0, 1) := by decide +kernel
theorem dX4_note_32 : decode cX4_note 32 = .ok (.getfield 22, 3) := by decide +kernel
theorem dX4_note_35 : decode cX4_note 35 = .ok (.aload_n 0, 1) := by decide +kernel
theorem dX4_note_36 : decode cX4_note 36 = .ok (.getfield 9, 3) := by decide +kernel
theorem dX4_note_39 : decode cX4_note 39 = .ok (.iload_n 3, 1) := by decide +kernel
theorem dX4_note_40 : decode cX4_note 40 = .ok (.iastore, 1) := by decide +kernel
theorem dX4_note_41 : decode cX4_note 41 = .ok (.aload_n 0, 1) := by decide +kernel
theorem dX4_note_42 : decode cX4_note 42 = .ok (.dup, 1) := by decide +kernel
theorem dX4_note_43 : decode cX4_note 43 = .ok (.getfield 9, 3) := by decide +kernel
theorem dX4_note_46 : decode cX4_note 46 = .ok (.iconst 1, 1) := by decide +kernel
theorem dX4_note_47 : decode cX4_note 47 = .ok (.iadd, 1) := by decide +kernel
theorem dX4_note_48 : decode cX4_note 48 = .ok (.putfield 9, 3) := by decide +kernel
theorem dX4_note_51 : decode cX4_note 51 = .ok (.return_, 1) := by decide +kernel
theorem dX4_differInOneDigit_0 : decode cX4_differInOneDigit 0 = .ok (.iload_n 0, 1) := by decide +kernel
theorem dX4_differInOneDigit_1 : decode cX4_differInOneDigit 1 = .ok (.istore_n 2, 1) := by decide +kernel
theorem dX4_differInOneDigit_2 : decode cX4_differInOneDigit 2 = .ok (.iload_n 1, 1) := by decide +kernel
theorem dX4_differInOneDigit_3 : decode cX4_differInOneDigit 3 = .ok (.istore_n 3, 1) := by decide +kernel
theorem dX4_differInOneDigit_4 : decode cX4_differInOneDigit 4 = .ok (.iconst 0, 1) := by decide +kernel
theorem dX4_differInOneDigit_5 : decode cX4_differInOneDigit 5 = .ok (.istore 4, 2) := by decide +kernel
theorem dX4_differInOneDigit_7 : decode cX4_differInOneDigit 7 = .ok (.iconst 0, 1) := by decide +kernel
theorem dX4_differInOneDigit_8 : decode cX4_differInOneDigit 8 = .ok (.istore 5, 2) := by decide +kernel
theorem dX4_differInOneDigit_10 : decode cX4_differInOneDigit 10 = .ok (.iload 5, 2) := by decide +kernel
theorem dX4_differInOneDigit_12 : decode cX4_differInOneDigit 12 = .ok (.bipush 7, 2) := by decide +kernel
theorem dX4_differInOneDigit_14 : decode cX4_differInOneDigit 14 = .ok (.if_icmp .ge 33, 3) := by decide +kernel
theorem dX4_differInOneDigit_17 : decode cX4_differInOneDigit 17 = .ok (.iload_n 2, 1) := by decide +kernel
theorem dX4_differInOneDigit_18 : decode cX4_differInOneDigit 18 = .ok (.bipush 10, 2) := by decide +kernel
theorem dX4_differInOneDigit_20 : decode cX4_differInOneDigit 20 = .ok (.irem, 1) := by decide +kernel
theorem dX4_differInOneDigit_21 : decode cX4_differInOneDigit 21 = .ok (.iload_n 3, 1) := by decide +kernel
theorem dX4_differInOneDigit_22 : decode cX4_differInOneDigit 22 = .ok (.bipush 10, 2) := by decide +kernel
theorem dX4_differInOneDigit_24 : decode cX4_differInOneDigit 24 = .ok (.irem, 1) := by decide +kernel
theorem dX4_differInOneDigit_25 : decode cX4_differInOneDigit 25 = .ok (.if_icmp .eq 6, 3) := by decide +kernel
theorem dX4_differInOneDigit_28 : decode cX4_differInOneDigit 28 = .ok (.iinc 4 1, 3) := by decide +kernel
theorem dX4_differInOneDigit_31 : decode cX4_differInOneDigit 31 = .ok (.iload_n 2, 1) := by decide +kernel
theorem dX4_differInOneDigit_32 : decode cX4_differInOneDigit 32 = .ok (.bipush 10, 2) := by decide +kernel
theorem dX4_differInOneDigit_34 : decode cX4_differInOneDigit 34 = .ok (.idiv, 1) := by decide +kernel
theorem dX4_differInOneDigit_35 : decode cX4_differInOneDigit 35 = .ok (.istore_n 2, 1) := by decide +kernel
theorem dX4_differInOneDigit_36 : decode cX4_differInOneDigit 36 = .ok (.iload_n 3, 1) := by decide +kernel
theorem dX4_differInOneDigit_37 : decode cX4_differInOneDigit 37 = .ok (.bipush 10, 2) := by decide +kernel
theorem dX4_differInOneDigit_39 : decode cX4_differInOneDigit 39 = .ok (.idiv, 1) := by decide +kernel
theorem dX4_differInOneDigit_40 : decode cX4_differInOneDigit 40 = .ok (.istore_n 3, 1) := by decide +kernel
theorem dX4_differInOneDigit_41 : decode cX4_differInOneDigit 41 = .ok (.iinc 5 1, 3) := by decide +kernel
theorem dX4_differInOneDigit_44 : decode cX4_differInOneDigit 44 = .ok (.goto (-34), 3) := by decide +kernel
theorem dX4_differInOneDigit_47 : decode cX4_differInOneDigit 47 = .ok (.iload 4, 2) := by decide +kernel
theorem dX4_differInOneDigit_49 : decode cX4_differInOneDigit 49 = .ok (.iconst 1, 1) := by decide +kernel
theorem dX4_differInOneDigit_50 : decode cX4_differInOneDigit 50 = .ok (.if_icmp .ne 7, 3) := by decide +kernel
theorem dX4_differInOneDigit_53 : decode cX4_differInOneDigit 53 = .ok (.iconst 1, 1) := by decide +kernel
theorem dX4_differInOneDigit_54 : decode cX4_differInOneDigit 54 = .ok (.goto 4, 3) := by decide +kernel
theorem dX4_differInOneDigit_57 : decode cX4_differInOneDigit 57 = .ok (.iconst 0, 1) := by decide +kernel
theorem dX4_differInOneDigit_58 : decode cX4_differInOneDigit 58 = .ok (.ireturn, 1) := by decide +kernel
theorem dX4_differByNeighbours_0 : decode cX4_differByNeighbours 0 = .ok (.iload_n 0, 1) := by decide +kernel
theorem dX4_differByNeighbours_1 : decode cX4_differByNeighbours 1 = .ok (.istore_n 2, 1) := by decide +kernel
theorem dX4_differByNeighbours_2 : decode cX4_differByNeighbours 2 = .ok (.iconst 1, 1) := by decide +kernel
theorem dX4_differByNeighbours_3 : decode cX4_differByNeighbours 3 = .ok (.istore_n 3, 1) := by decide +kernel
theorem dX4_differByNeighbours_4 : decode cX4_differByNeighbours 4 = .ok (.iconst 0, 1) := by decide +kernel
theorem dX4_differByNeighbours_5 : decode cX4_differByNeighbours 5 = .ok (.istore 4, 2) := by decide +kernel
theorem dX4_differByNeighbours_7 : decode cX4_differByNeighbours 7 = .ok (.iload 4, 2) := by decide +kernel
theorem dX4_differByNeighbours_9 : decode cX4_differByNeighbours 9 = .ok (.bipush 6, 2) := by decide +kernel
theorem dX4_differByNeighbours_11 : decode cX4_differByNeighbours 11 = .ok (.if_icmp .ge 56, 3) := by decide +kernel
theorem dX4_differByNeighbours_14 : decode cX4_differByNeighbours 14 = .ok (.iload_n 2, 1) := by decide +kernel
theorem dX4_differByNeighbours_15 : decode cX4_differByNeighbours 15 = .ok (.bipush 10, 2) := by decide +kernel
theorem dX4_differByNeighbours_17 : decode cX4_differByNeighbours 17 = .ok (.irem, 1) := by decide +kernel
theorem dX4_differByNeighbours_18 : decode cX4_differByNeighbours 18 = .ok (.istore 5, 2) := by decide +kernel
theorem dX4_differByNeighbours_20 : decode cX4_differByNeighbours 20 = .ok (.iload_n 2, 1) := by decide +kernel
theorem dX4_differByNeighbours_21 : decode cX4_differByNeighbours 21 = .ok (.bipush 10, 2) := by decide +kernel
theorem dX4_differByNeighbours_23 : decode cX4_differByNeighbours 23 = .ok (.idiv, 1) := by decide +kernel
theorem dX4_differByNeighbours_24 : decode cX4_differByNeighbours 24 = .ok (.istore_n 2, 1) := by decide +kernel
theorem dX4_differByNeighbours_25 : decode cX4_differByNeighbours 25 = .ok (.iload_n 2, 1) := by decide +kernel
theorem dX4_differByNeighbours_26 : decode cX4_differByNeighbours 26 = .ok (.bipush 10, 2) := by decide +kernel
theorem dX4_differByNeighbours_28 : decode cX4_differByNeighbours 28 = .ok (.irem, 1) := by decide +kernel
theorem dX4_differByNeighbours_29 : decode cX4_differByNeighbours 29 = .ok (.istore 6, 2) := by decide +kernel
theorem dX4_differByNeighbours_31 : decode cX4_differByNeighbours 31 = .ok (.iload 5, 2) := by decide +kernel
theorem dX4_differByNeighbours_33 : decode cX4_differByNeighbours 33 = .ok (.iload 6, 2) := by decide +kernel
theorem dX4_differByNeighbours_35 : decode cX4_differByNeighbours 35 = .ok (.if_icmp .eq 21, 3) := by decide +kernel
theorem dX4_differByNeighbours_38 : decode cX4_differByNeighbours 38 = .ok (.iload_n 1, 1) := by decide +kernel
theorem dX4_differByNeighbours_39 : decode cX4_differByNeighbours 39 = .ok (.iload_n 0, 1) := by decide +kernel
theorem dX4_differByNeighbours_40 : decode cX4_differByNeighbours 40 = .ok (.isub, 1) := by decide +kernel
theorem dX4_differByNeighbours_41 : decode cX4_differByNeighbours 41 = .ok (.iload 5, 2) := by decide +kernel
theorem dX4_differByNeighbours_43 : decode cX4_differByNeighbours 43 = .ok (.iload 6, 2) := by decide +kernel
theorem dX4_differByNeighbours_45 : decode cX4_differByNeighbours 45 = .ok (.isub, 1) := by decide +kernel
theorem dX4_differByNeighbours_46 : decode cX4_differByNeighbours 46 = .ok (.bipush 9, 2) := by decide +kernel
theorem dX4_differByNeighbours_48 : decode cX4_differByNeighbours 48 = .ok (.imul, 1) := by decide +kernel
theorem dX4_differByNeighbours_49 : decode cX4_differByNeighbours 49 = .ok (.iload_n 3, 1) := by decide +kernel
theorem dX4_differByNeighbours_50 : decode cX4_differByNeighbours 50 = .ok (.imul, 1) := by decide +kernel
theorem dX4_differByNeighbours_51 : decode cX4_differByNeighbours 51 = .ok (.if_icmp .ne 5, 3) := by decide +kernel
theorem dX4_differByNeighbours_54 : decode cX4_differByNeighbours 54 = .ok (.iconst 1, 1) := by decide +kernel
theorem dX4_differByNeighbours_55 : decode cX4_differByNeighbours 55 = .ok (.ireturn, 1) := by decide +kernel
theorem dX4_differByNeighbours_56 : decode cX4_differByNeighbours 56 = .ok (.iload_n 3, 1) := by decide +kernel
theorem dX4_differByNeighbours_57 : decode cX4_differByNeighbours 57 = .ok (.bipush 10, 2) := by decide +kernel
theorem dX4_differByNeighbours_59 : decode cX4_differByNeighbours 59 = .ok (.imul, 1) := by decide +kernel
theorem dX4_differByNeighbours_60 : decode cX4_differByNeighbours 60 = .ok (.istore_n 3, 1) := by decide +kernel
theorem dX4_differByNeighbours_61 : decode cX4_differByNeighbours 61 = .ok (.iinc 4 1, 3) := by decide +kernel
theorem dX4_differByNeighbours_64 : decode cX4_differByNeighbours 64 = .ok (.goto (-57), 3) := by decide +kernel
theorem dX4_differByNeighbours_67 : decode cX4_differByNeighbours 67 = .ok (.iconst 0, 1) := by decide +kernel
theorem dX4_differByNeighbours_68 : decode cX4_differByNeighbours 68 = .ok (.ireturn, 1) := by decide +kernel
theorem dX5_init_0 : decode cX5_init 0 = .ok (.aload_n 0, 1) := by decide +kernel
theorem dX5_init_1 : decode cX5_init 1 = .ok (.invokespecial 3, 3) := by decide +kernel
theorem dX5_init_4 : decode cX5_init 4 = .ok (.aload_n 0, 1) := by decide +kernel
theorem dX5_init_5 : decode cX5_init 5 = .ok (.new 9, 3) := by decide +kernel
theorem dX5_init_8 : decode cX5_init 8 = .ok (.dup, 1) := by decide +kernel
theorem dX5_init_9 : decode cX5_init 9 = .ok (.invokespecial 11, 3) := by decide +kernel
theorem dX5_init_12 : decode cX5_init 12 = .ok (.putfield 12, 3) := by decide +kernel
theorem dX5_init_15 : decode cX5_init 15 = .ok (.aload_n 0, 1) := by decide +kernel
theorem dX5_init_16 : decode cX5_init 16 = .ok (.bipush 120, 2) := by decide +kernel
theorem dX5_init_18 : decode cX5_init 18 = .ok (.newarray .int, 2) := by decide +kernel
theorem dX5_init_20 : decode cX5_init 20 = .ok (.putfield 16, 3) := by decide +kernel
theorem dX5_init_23 : decode cX5_init 23 = .ok (.aload_n 0, 1) := by decide +kernel
theorem dX5_init_24 : decode cX5_init 24 = .ok (.iconst 0, 1) := by decide +kernel
theorem dX5_init_25 : decode cX5_init 25 = .ok (.putfield 20, 3) := by decide +kernel
theorem dX5_init_28 : decode cX5_init 28 = .ok (.aload_n 0, 1) := by decide +kernel
theorem dX5_init_29 : decode cX5_init 29 = .ok (.new 24, 3) := by decide +kernel
theorem dX5_init_32 : decode cX5_init 32 = .ok (.dup, 1) := by decide +kernel
theorem dX5_init_33 : decode cX5_init 33 = .ok (.invokespecial 26, 3) := by decide +kernel
theorem dX5_init_36 : decode cX5_init 36 = .ok (.putfield 27, 3) := by decide +kernel
theorem dX5_init_39 : decode cX5_init 39 = .ok (.aload_n 0, 1) := by decide +kernel
theorem dX5_init_40 : decode cX5_init 40 = .ok (.new 31, 3) := by decide +kernel
theorem dX5_init_43 : decode cX5_init 43 = .ok (.dup, 1) := by decide +kernel
theorem dX5_init_44 : decode cX5_init 44 = .ok (.invokespecial 33, 3) := by decide +kernel
theorem dX5_init_47 : decode cX5_init 47 = .ok (.putfield 34, 3) := by decide +kernel
theorem dX5_init_50 : decode cX5_init 50 = .ok (.aload_n 0, 1) := by decide +kernel
theorem dX5_init_51 : decode cX5_init 51 = .ok (.new 38, 3) := by decide +kernel
theorem dX5_init_54 : decode cX5_init 54 = .ok (.dup, 1) := by decide +kernel
theorem dX5_init_55 : decode cX5_init 55 = .ok (.invokespecial 40, 3) := by decide +kernel
theorem dX5_init_58 : decode cX5_init 58 = .ok (.putfield 41, 3) := by decide +kernel
theorem dX5_init_61 : decode cX5_init 61 = .ok (.aload_n 0, 1) := by decide +kernel
theorem dX5_init_62 : decode cX5_init 62 = .ok (.new 45, 3) := by decide +kernel
theorem dX5_init_65 : decode cX5_init 65 = .ok (.dup, 1) := by decide +kernel
theorem dX5_init_66 : decode cX5_init 66 = .ok (.invokespecial 47, 3) := by decide +kernel
theorem dX5_init_69 : decode cX5_init 69 = .ok (.putfield 48, 3) := by decide +kernel
theorem dX5_init_72 : decode cX5_init 72 = .ok (.return_, 1) := by decide +kernel
theorem dX5_teach_0 : decode cX5_teach 0 = .ok (.iload_n 1, 1) := by decide +kernel
theorem dX5_teach_1 : decode cX5_teach 1 = .ok (.ifCond .lt 9, 3) := by decide +kernel
theorem dX5_teach_4 : decode cX5_teach 4 = .ok (.iload_n 1, 1) := by decide +kernel
theorem dX5_teach_5 : decode cX5_teach 5 = .ok (.bipush 12, 2) := by decide +kernel
theorem dX5_teach_7 : decode cX5_teach 7 = .ok (.if_icmp .lt 13, 3) := by decide +kernel
theorem dX5_teach_10 : decode cX5_teach 10 = .ok (.new 52, 3) := by decide +kernel
theorem dX5_teach_13 : decode cX5_teach 13 = .ok (.dup, 1) := by decide +kernel
theorem dX5_teach_14 : decode cX5_teach 14 = .ok (.ldc 54, 2) := by decide +kernel
theorem dX5_teach_16 : decode cX5_teach 16 = .ok (.invokespecial 56, 3) := by decide +kernel
theorem dX5_teach_19 : decode cX5_teach 19 = .ok (.athrow, 1) := by decide +kernel
theorem dX5_teach_20 : decode cX5_teach 20 = .ok (.iload_n 2, 1) := by decide +kernel
theorem dX5_teach_21 : decode cX5_teach 21 = .ok (.invokestatic 59, 3) := by decide +kernel
theorem dX5_teach_24 : decode cX5_teach 24 = .ok (.ifCond .ne 13, 3) := by decide +kernel
theorem dX5_teach_27 : decode cX5_teach 27 = .ok (.new 52, 3) := by decide +kernel
theorem dX5_teach_30 : decode cX5_teach 30 = .ok (.dup, 1) := by decide +kernel
theorem dX5_teach_31 : decode cX5_teach 31 = .ok (.ldc 63, 2) := by decide +kernel
theorem dX5_teach_33 : decode cX5_teach 33 = .ok (.invokespecial 56, 3) := by decide +kernel
theorem dX5_teach_36 : decode cX5_teach 36 = .ok (.athrow, 1) := by decide +kernel
theorem dX5_teach_37 : decode cX5_teach 37 = .ok (.aload_n 0, 1) := by decide +kernel
theorem dX5_teach_38 : decode cX5_teach 38 = .ok (.getfield 12, 3) := by decide +kernel
theorem dX5_teach_41 : decode cX5_teach 41 = .ok (.iload_n 1, 1) := by decide +kernel
theorem dX5_teach_42 : decode cX5_teach 42 = .ok (.iload_n 2, 1) := by decide +kernel
theorem dX5_teach_43 : decode cX5_teach 43 = .ok (.invokevirtual 65, 3) := by decide +kernel
theorem dX5_teach_46 : decode cX5_teach 46 = .ok (.ifCond .eq 7, 3) := by decide +kernel
theorem dX5_teach_49 : decode cX5_teach 49 = .ok (.iconst 1, 1) := by decide +kernel
theorem dX5_teach_50 : decode cX5_teach 50 = .ok (.goto 4, 3) := by decide +kernel
theorem dX5_teach_53 : decode cX5_teach 53 = .ok (.iconst 0, 1) := by decide +kernel
theorem dX5_teach_54 : decode cX5_teach 54 = .ok (.ireturn, 1) := by decide +kernel
theorem dX5_tick_0 : decode cX5_tick 0 = .ok (.iload_n 1, 1) := by decide +kernel
theorem dX5_tick_1 : decode cX5_tick 1 = .ok (.iconst 1, 1) := by decide +kernel
theorem dX5_tick_2 : decode cX5_tick 2 = .ok (.if_icmp .lt 9, 3) := by decide +kernel
theorem dX5_tick_5 : decode cX5_tick 5 = .ok (.iload_n 1, 1) := by decide +kernel
theorem dX5_tick_6 : decode cX5_tick 6 = .ok (.bipush 60, 2) := by decide +kernel
theorem dX5_tick_8 : decode cX5_tick 8 = .ok (.if_icmp .le 13, 3) := by decide +kernel
theorem dX5_tick_11 : decode cX5_tick 11 = .ok (.new 52, 3) := by decide +kernel
theorem dX5_tick_14 : decode cX5_tick 14 = .ok (.dup, 1) := by decide +kernel
theorem dX5_tick_15 : decode cX5_tick 15 = .ok (.ldc 69, 2) := by decide +kernel
theorem dX5_tick_17 : decode cX5_tick 17 = .ok (.invokespecial 56, 3) := by decide +kernel
theorem dX5_tick_20 : decode cX5_tick 20 = .ok (.athrow, 1) := by decide +kernel
theorem dX5_tick_21 : decode cX5_tick 21 = .ok (.aload_n 0, 1) := by decide +kernel
theorem dX5_tick_22 : decode cX5_tick 22 = .ok (.getfield 20, 3) := by decide +kernel
theorem dX5_tick_25 : decode cX5_tick 25 = .ok (.bipush 120, 2) := by decide +kernel
theorem dX5_tick_27 : decode cX5_tick 27 = .ok (.if_icmp .lt 5, 3) := by decide +kernel
theorem dX5_tick_30 : decode cX5_tick 30 = .ok (.iconst (-1), 1) := by decide +kernel
theorem dX5_tick_31 : decode cX5_tick 31 = .ok (.ireturn, 1) := by decide +kernel
theorem dX5_tick_32 : decode cX5_tick 32 = .ok (.aload_n 0, 1) := by decide +kernel
theorem dX5_tick_33 : decode cX5_tick 33 = .ok (.getfield 16, 3) := by decide +kernel
theorem dX5_tick_36 : decode cX5_tick 36 = .ok (.aload_n 0, 1) := by decide +kernel
theorem dX5_tick_37 : decode cX5_tick 37 = .ok (.getfield 20, 3) := by decide +kernel
theorem dX5_tick_40 : decode cX5_tick 40 = .ok (.iload_n 1, 1) := by decide +kernel
theorem dX5_tick_41 : decode cX5_tick 41 = .ok (.iastore, 1) := by decide +kernel
theorem dX5_tick_42 : decode cX5_tick 42 = .ok (.aload_n 0, 1) := by decide +kernel
theorem dX5_tick_43 : decode cX5_tick 43 = .ok (.dup, 1) := by decide +kernel
theorem dX5_tick_44 : decode cX5_tick 44 = .ok (.getfield 20, 3) := by decide +kernel
theorem dX5_tick_47 : decode cX5_tick 47 = .ok (.iconst 1, 1) := by decide +kernel
theorem dX5_tick_48 : decode cX5_tick 48 = .ok (.iadd, 1) := by decide +kernel
theorem dX5_tick_49 : decode cX5_tick 49 = .ok (.putfield 20, 3) := by decide +kernel
theorem dX5_tick_52 : decode cX5_tick 52 = .ok (.aload_n 0, 1) := by decide +kernel
theorem dX5_tick_53 : decode cX5_tick 53 = .ok (.getfield 20, 3) := by decide +kernel
theorem dX5_tick_56 : decode cX5_tick 56 = .ok (.ireturn, 1) := by decide +kernel
theorem dX5_read_0 : decode cX5_read 0 = .ok (.aload_n 0, 1) := by decide +kernel
theorem dX5_read_1 : decode cX5_read 1 = .ok (.getfield 12, 3) := by decide +kernel
theorem dX5_read_4 : decode cX5_read 4 = .ok (.invokevirtual 71, 3) := by decide +kernel
theorem dX5_read_7 : decode cX5_read 7 = .ok (.ifCond .ne 5, 3) := by decide +kernel
theorem dX5_read_10 : decode cX5_read 10 = .ok (.iconst (-1), 1) := by decide +kernel
theorem dX5_read_11 : decode cX5_read 11 = .ok (.ireturn, 1) := by decide +kernel
theorem dX5_read_12 : decode cX5_read 12 = .ok (.aload_n 0, 1) := by decide +kernel
theorem dX5_read_13 : decode cX5_read 13 = .ok (.getfield 20, 3) := by decide +kernel
theorem dX5_read_16 : decode cX5_read 16 = .ok (.ifCond .eq 13, 3) := by decide +kernel
theorem dX5_read_19 : decode cX5_read 19 = .ok (.aload_n 0, 1) := by decide +kernel
theorem dX5_read_20 : decode cX5_read 20 = .ok (.getfield 20, 3) := by decide +kernel
theorem dX5_read_23 : decode cX5_read 23 = .ok (.bipush 6, 2) := by decide +kernel
theorem dX5_read_25 : decode cX5_read 25 = .ok (.irem, 1) := by decide +kernel
theorem dX5_read_26 : decode cX5_read 26 = .ok (.ifCond .eq 6, 3) := by decide +kernel
theorem dX5_read_29 : decode cX5_read 29 = .ok (.bipush (-2), 2) := by decide +kernel
theorem dX5_read_31 : decode cX5_read 31 = .ok (.ireturn, 1) := by decide +kernel
theorem dX5_read_32 : decode cX5_read 32 = .ok (.aload_n 0, 1) := by decide +kernel
theorem dX5_read_33 : decode cX5_read 33 = .ok (.invokevirtual 75, 3) := by decide +kernel
theorem dX5_read_36 : decode cX5_read 36 = .ok (.istore_n 1, 1) := by decide +kernel
theorem dX5_read_37 : decode cX5_read 37 = .ok (.aload_n 0, 1) := by decide +kernel
theorem dX5_read_38 : decode cX5_read 38 = .ok (.getfield 34, 3) := by decide +kernel
theorem dX5_read_41 : decode cX5_read 41 = .ok (.aload_n 0, 1) := by decide +kernel
theorem dX5_read_42 : decode cX5_read 42 = .ok (.getfield 20, 3) := by decide +kernel
theorem dX5_read_45 : decode cX5_read 45 = .ok (.bipush 6, 2) := by decide +kernel
theorem dX5_read_47 : decode cX5_read 47 = .ok (.idiv, 1) := by decide +kernel
theorem dX5_read_48 : decode cX5_read 48 = .ok (.aload_n 0, 1) := by decide +kernel
theorem dX5_read_49 : decode cX5_read 49 = .ok (.getfield 27, 3) := by decide +kernel
theorem dX5_read_52 : decode cX5_read 52 = .ok (.invokevirtual 78, 3) := by decide +kernel
theorem dX5_read_55 : decode cX5_read 55 = .ok (.iload_n 1, 1) := by decide +kernel
theorem dX5_read_56 : decode cX5_read 56 = .ok (.invokevirtual 82, 3) := by decide +kernel
theorem dX5_read_59 : decode cX5_read 59 = .ok (.aload_n 0, 1) := by decide +kernel
theorem dX5_read_60 : decode cX5_read 60 = .ok (.getfield 27, 3) := by decide +kernel
theorem dX5_read_63 : decode cX5_read 63 = .ok (.aload_n 0, 1) := by decide +kernel
theorem dX5_read_64 : decode cX5_read 64 = .ok (.getfield 34, 3) := by decide +kernel
theorem dX5_read_67 : decode cX5_read 67 = .ok (.getfield 86, 3) := by decide +kernel
theorem dX5_read_70 : decode cX5_read 70 = .ok (.aload_n 0, 1) := by decide +kernel
theorem dX5_read_71 : decode cX5_read 71 = .ok (.getfield 34, 3) := by decide +kernel
theorem dX5_read_74 : decode cX5_read 74 = .ok (.getfield 89, 3) := by decide +kernel
theorem dX5_read_77 : decode cX5_read 77 = .ok (.invokevirtual 92, 3) := by decide +kernel
theorem dX5_read_80 : decode cX5_read 80 = .ok (.aload_n 0, 1) := by decide +kernel
theorem dX5_read_81 : decode cX5_read 81 = .ok (.getfield 34, 3) := by decide +kernel
theorem dX5_read_84 : decode cX5_read 84 = .ok (.aload_n 0, 1) := by decide +kernel
theorem dX5_read_85 : decode cX5_read 85 = .ok (.getfield 27, 3) := by decide +kernel
theorem dX5_read_88 : decode cX5_read 88 = .ok (.aload_n 0, 1) := by decide +kernel
theorem dX5_read_89 : decode cX5_read 89 = .ok (.getfield 34, 3) := by decide +kernel
theorem dX5_read_92 : decode cX5_read 92 = .ok (.getfield 86, 3) := by decide +kernel
theorem dX5_read_95 : decode cX5_read 95 = .ok (.invokevirtual 96, 3) := by decide +kernel
theorem dX5_read_98 : decode cX5_read 98 = .ok (.aload_n 0, 1) := by decide +kernel
theorem dX5_read_99 : decode cX5_read 99 = .ok (.getfield 34, 3) := by decide +kernel
theorem dX5_read_102 : decode cX5_read 102 = .ok (.getfield 89, 3) := by decide +kernel
theorem dX5_read_105 : decode cX5_read 105 = .ok (.isub, 1) := by decide +kernel
theorem dX5_read_106 : decode cX5_read 106 = .ok (.putfield 100, 3) := by decide +kernel
theorem dX5_read_109 : decode cX5_read 109 = .ok (.aload_n 0, 1) := by decide +kernel
theorem dX5_read_110 : decode cX5_read 110 = .ok (.getfield 27, 3) := by decide +kernel
theorem dX5_read_113 : decode cX5_read 113 = .ok (.aload_n 0, 1) := by decide +kernel
theorem dX5_read_114 : decode cX5_read 114 = .ok (.getfield 34, 3) := by decide +kernel
theorem dX5_read_117 : decode cX5_read 117 = .ok (.getfield 86, 3) := by decide +kernel
theorem dX5_read_120 : decode cX5_read 120 = .ok (.aload_n 0, 1) := by decide +kernel
theorem dX5_read_121 : decode cX5_read 121 = .ok (.getfield 34, 3) := by decide +kernel
theorem dX5_read_124 : decode cX5_read 124 = .ok (.getfield 103, 3) := by decide +kernel
theorem dX5_read_127 : decode cX5_read 127 = .ok (.aload_n 0, 1) := by decide +kernel
theorem dX5_read_128 : decode cX5_read 128 = .ok (.getfield 34, 3) := by decide +kernel
theorem dX5_read_131 : decode cX5_read 131 = .ok (.getfield 89, 3) := by decide +kernel
theorem dX5_read_134 : decode cX5_read 134 = .ok (.invokevirtual 106, 3) := by decide +kernel
theorem dX5_read_137 : decode cX5_read 137 = .ok (.aload_n 0, 1) := by decide +kernel
theorem dX5_read_138 : decode cX5_read 138 = .ok (.getfield 34, 3) := by decide +kernel
theorem dX5_read_141 : decode cX5_read 141 = .ok (.invokevirtual 110, 3) := by decide +kernel
theorem dX5_read_144 : decode cX5_read 144 = .ok (.aload_n 0, 1) := by decide +kernel
theorem dX5_read_145 : decode cX5_read 145 = .ok (.iconst 0, 1) := by decide +kernel
theorem dX5_read_146 : decode cX5_read 146 = .ok (.putfield 20, 3) := by decide +kernel
theorem dX5_read_149 : decode cX5_read 149 = .ok (.aload_n 0, 1) := by decide +kernel
theorem dX5_read_150 : decode cX5_read 150 = .ok (.getfield 34, 3) := by decide +kernel
theorem dX5_read_153 : decode cX5_read 153 = .ok (.getfield 89, 3) := by decide +kernel
theorem dX5_read_156 : decode cX5_read 156 = .ok (.ireturn, 1) := by decide +kernel
theorem dX5_layTheCheaperWay_0 : decode cX5_layTheCheaperWay 0 = .ok (.aload_n 0, 1) := by decide +kernel
theorem dX5_layTheCheaperWay_1 : decode cX5_layTheCheaperWay 1 = .ok (.iconst 1, 1) := by decide +kernel
theorem dX5_layTheCheaperWay_2 : decode cX5_layTheCheaperWay 2 = .ok (.invokevirtual 113, 3) := by decide +kernel
theorem dX5_layTheCheaperWay_5 : decode cX5_layTheCheaperWay 5 = .ok (.istore_n 1, 1) := by decide +kernel
theorem dX5_layTheCheaperWay_6 : decode cX5_layTheCheaperWay 6 = .ok (.aload_n 0, 1) := by decide +kernel
theorem dX5_layTheCheaperWay_7 : decode cX5_layTheCheaperWay 7 = .ok (.iconst 0, 1) := by decide +kernel
theorem dX5_layTheCheaperWay_8 : decode cX5_layTheCheaperWay 8 = .ok (.invokevirtual 113, 3) := by decide +kernel
theorem dX5_layTheCheaperWay_11 : decode cX5_layTheCheaperWay 11 = .ok (.istore_n 2, 1) := by decide +kernel
theorem dX5_layTheCheaperWay_12 : decode cX5_layTheCheaperWay 12 = .ok (.iload_n 1, 1) := by decide +kernel
theorem dX5_layTheCheaperWay_13 : decode cX5_layTheCheaperWay 13 = .ok (.iload_n 2, 1) := by decide +kernel
theorem dX5_layTheCheaperWay_14 : decode cX5_layTheCheaperWay 14 = .ok (.if_icmp .lt 5, 3) := by decide +kernel
theorem dX5_layTheCheaperWay_17 : decode cX5_layTheCheaperWay 17 = .ok (.iconst 0, 1) := by decide +kernel
theorem dX5_layTheCheaperWay_18 : decode cX5_layTheCheaperWay 18 = .ok (.ireturn, 1) := by decide +kernel
theorem dX5_layTheCheaperWay_19 : decode cX5_layTheCheaperWay 19 = .ok (.aload_n 0, 1) := by decide +kernel
theorem dX5_layTheCheaperWay_20 : decode cX5_layTheCheaperWay 20 = .ok (.iconst 1, 1) := by decide +kernel
theorem dX5_layTheCheaperWay_21 : decode cX5_layTheCheaperWay 21 = .ok (.invokevirtual 113, 3) := by decide +kernel
theorem dX5_layTheCheaperWay_24 : decode cX5_layTheCheaperWay 24 = .ok (.pop, 1) := by decide +kernel
theorem dX5_layTheCheaperWay_25 : decode cX5_layTheCheaperWay 25 = .ok (.iconst 1, 1) := by decide +kernel
theorem dX5_layTheCheaperWay_26 : decode cX5_layTheCheaperWay 26 = .ok (.ireturn, 1) := by decide +kernel
theorem dX5_measure_0 : decode cX5_measure 0 = .ok (.aload_n 0, 1) := by decide +kernel
theorem dX5_measure_1 : decode cX5_measure 1 = .ok (.getfield 27, 3) := by decide +kernel
theorem dX5_measure_4 : decode cX5_measure 4 = .ok (.aload_n 0, 1) := by decide +kernel
theorem dX5_measure_5 : decode cX5_measure 5 = .ok (.getfield 16, 3) := by decide +kernel
theorem dX5_measure_8 : decode cX5_measure 8 = .ok (.aload_n 0, 1) := by decide +kernel
theorem dX5_measure_9 : decode cX5_measure 9 = .ok (.getfield 20, 3) := by decide +kernel
theorem dX5_measure_12 : decode cX5_measure 12 = .ok (.iload_n 1, 1) := by decide +kernel
theorem dX5_measure_13 : decode cX5_measure 13 = .ok (.invokevirtual 117, 3) := by decide +kernel
theorem dX5_measure_16 : decode cX5_measure 16 = .ok (.aload_n 0, 1) := by decide +kernel
theorem dX5_measure_17 : decode cX5_measure 17 = .ok (.getfield 27, 3) := by decide +kernel
theorem dX5_measure_20 : decode cX5_measure 20 = .ok (.aload_n 0, 1) := by decide +kernel
theorem dX5_measure_21 : decode cX5_measure 21 = .ok (.getfield 12, 3) := by decide +kernel
theorem dX5_measure_24 : decode cX5_measure 24 = .ok (.getfield 121, 3) := by decide +kernel
theorem dX5_measure_27 : decode cX5_measure 27 = .ok (.invokevirtual 124, 3) := by decide +kernel
theorem dX5_measure_30 : decode cX5_measure 30 = .ok (.aload_n 0, 1) := by decide +kernel
theorem dX5_measure_31 : decode cX5_measure 31 = .ok (.getfield 27, 3) := by decide +kernel
theorem dX5_measure_34 : decode cX5_measure 34 = .ok (.invokevirtual 128, 3) := by decide +kernel
theorem dX5_measure_37 : decode cX5_measure 37 = .ok (.aload_n 0, 1) := by decide +kernel
theorem dX5_measure_38 : decode cX5_measure 38 = .ok (.getfield 27, 3) := by decide +kernel
theorem dX5_measure_41 : decode cX5_measure 41 = .ok (.invokevirtual 78, 3) := by decide +kernel
theorem dX5_measure_44 : decode cX5_measure 44 = .ok (.ireturn, 1) := by decide +kernel
theorem dX5_about_0 : decode cX5_about 0 = .ok (.iload_n 1, 1) := by decide +kernel
theorem dX5_about_1 : decode cX5_about 1 = .ok (.ifCond .lt 8, 3) := by decide +kernel
theorem dX5_about_4 : decode cX5_about 4 = .ok (.iload_n 1, 1) := by decide +kernel
theorem dX5_about_5 : decode cX5_about 5 = .ok (.iconst 4, 1) := by decide +kernel
theorem dX5_about_6 : decode cX5_about 6 = .ok (.if_icmp .le 13, 3) := by decide +kernel
theorem dX5_about_9 : decode cX5_about 9 = .ok (.new 52, 3) := by decide +kernel
theorem dX5_about_12 : decode cX5_about 12 = .ok (.dup, 1) := by decide +kernel
theorem dX5_about_13 : decode cX5_about 13 = .ok (.ldc 131, 2) := by decide +kernel
theorem dX5_about_15 : decode cX5_about 15 = .ok (.invokespecial 56, 3) := by decide +kernel
theorem dX5_about_18 : decode cX5_about 18 = .ok (.athrow, 1) := by decide +kernel
theorem dX5_about_19 : decode cX5_about 19 = .ok (.aload_n 0, 1) := by decide +kernel
theorem dX5_about_20 : decode cX5_about 20 = .ok (.getfield 34, 3) := by decide +kernel
theorem dX5_about_23 : decode cX5_about 23 = .ok (.invokevirtual 133, 3) := by decide +kernel
theorem dX5_about_26 : decode cX5_about 26 = .ok (.ifCond .ne 5, 3) := by decide +kernel
theorem dX5_about_29 : decode cX5_about 29 = .ok (.iconst (-1), 1) := by decide +kernel
theorem dX5_about_30 : decode cX5_about 30 = .ok (.ireturn, 1) := by decide +kernel
theorem dX5_about_31 : decode cX5_about 31 = .ok (.iload_n 1, 1) := by decide +kernel
theorem dX5_about_32 : decode cX5_about 32 = .ok (.tableswitch 72 0 3 #[32, 40, 48, 56], 32) := by decide +kernel
theorem dX5_about_64 : decode cX5_about 64 = .ok (.aload_n 0, 1) := by decide +kernel
theorem dX5_about_65 : decode cX5_about 65 = .ok (.getfield 34, 3) := by decide +kernel
theorem dX5_about_68 : decode cX5_about 68 = .ok (.getfield 136, 3) := by decide +kernel
theorem dX5_about_71 : decode cX5_about 71 = .ok (.ireturn, 1) := by decide +kernel
theorem dX5_about_72 : decode cX5_about 72 = .ok (.aload_n 0, 1) := by decide +kernel
theorem dX5_about_73 : decode cX5_about 73 = .ok (.getfield 34, 3) := by decide +kernel
theorem dX5_about_76 : decode cX5_about 76 = .ok (.getfield 89, 3) := by decide +kernel
theorem dX5_about_79 : decode cX5_about 79 = .ok (.ireturn, 1) := by decide +kernel
theorem dX5_about_80 : decode cX5_about 80 = .ok (.aload_n 0, 1) := by decide +kernel
theorem dX5_about_81 : decode cX5_about 81 = .ok (.getfield 34, 3) := by decide +kernel
theorem dX5_about_84 : decode cX5_about 84 = .ok (.getfield 100, 3) := by decide +kernel
theorem dX5_about_87 : decode cX5_about 87 = .ok (.ireturn, 1) := by decide +kernel
theorem dX5_about_88 : decode cX5_about 88 = .ok (.aload_n 0, 1) := by decide +kernel
theorem dX5_about_89 : decode cX5_about 89 = .ok (.getfield 34, 3) := by decide +kernel
theorem dX5_about_92 : decode cX5_about 92 = .ok (.getfield 139, 3) := by decide +kernel
theorem dX5_about_95 : decode cX5_about 95 = .ok (.ifCond .eq 7, 3) := by decide +kernel
theorem dX5_about_98 : decode cX5_about 98 = .ok (.iconst 1, 1) := by decide +kernel
theorem dX5_about_99 : decode cX5_about 99 = .ok (.goto 4, 3) := by decide +kernel
theorem dX5_about_102 : decode cX5_about 102 = .ok (.iconst 0, 1) := by decide +kernel
theorem dX5_about_103 : decode cX5_about 103 = .ok (.ireturn, 1) := by decide +kernel
theorem dX5_about_104 : decode cX5_about 104 = .ok (.aload_n 0, 1) := by decide +kernel
theorem dX5_about_105 : decode cX5_about 105 = .ok (.getfield 34, 3) := by decide +kernel
theorem dX5_about_108 : decode cX5_about 108 = .ok (.invokevirtual 143, 3) := by decide +kernel
theorem dX5_about_111 : decode cX5_about 111 = .ok (.ifCond .eq 7, 3) := by decide +kernel
theorem dX5_about_114 : decode cX5_about 114 = .ok (.iconst 1, 1) := by decide +kernel
theorem dX5_about_115 : decode cX5_about 115 = .ok (.goto 4, 3) := by decide +kernel
theorem dX5_about_118 : decode cX5_about 118 = .ok (.iconst 0, 1) := by decide +kernel
theorem dX5_about_119 : decode cX5_about 119 = .ok (.ireturn, 1) := by decide +kernel
theorem dX5_place_0 : decode cX5_place 0 = .ok (.iload_n 2, 1) := by decide +kernel
theorem dX5_place_1 : decode cX5_place 1 = .ok (.ifCond .lt 8, 3) := by decide +kernel
theorem dX5_place_4 : decode cX5_place 4 = .ok (.iload_n 2, 1) := by decide +kernel
theorem dX5_place_5 : decode cX5_place 5 = .ok (.iconst 1, 1) := by decide +kernel
theorem dX5_place_6 : decode cX5_place 6 = .ok (.if_icmp .le 13, 3) := by decide +kernel
theorem dX5_place_9 : decode cX5_place 9 = .ok (.new 52, 3) := by decide +kernel
theorem dX5_place_12 : decode cX5_place 12 = .ok (.dup, 1) := by decide +kernel
theorem dX5_place_13 : decode cX5_place 13 = .ok (.ldc 146, 2) := by decide +kernel
theorem dX5_place_15 : decode cX5_place 15 = .ok (.invokespecial 56, 3) := by decide +kernel
theorem dX5_place_18 : decode cX5_place 18 = .ok (.athrow, 1) := by decide +kernel
theorem dX5_place_19 : decode cX5_place 19 = .ok (.iload_n 1, 1) := by decide +kernel
theorem dX5_place_20 : decode cX5_place 20 = .ok (.ifCond .lt 14, 3) := by decide +kernel
theorem dX5_place_23 : decode cX5_place 23 = .ok (.iload_n 1, 1) := by decide +kernel
theorem dX5_place_24 : decode cX5_place 24 = .ok (.aload_n 0, 1) := by decide +kernel
theorem dX5_place_25 : decode cX5_place 25 = .ok (.getfield 34, 3) := by decide +kernel
theorem dX5_place_28 : decode cX5_place 28 = .ok (.getfield 136, 3) := by decide +kernel
theorem dX5_place_31 : decode cX5_place 31 = .ok (.if_icmp .lt 5, 3) := by decide +kernel
theorem dX5_place_34 : decode cX5_place 34 = .ok (.iconst (-1), 1) := by decide +kernel
theorem dX5_place_35 : decode cX5_place 35 = .ok (.ireturn, 1) := by decide +kernel
theorem dX5_place_36 : decode cX5_place 36 = .ok (.iload_n 2, 1) := by decide +kernel
theorem dX5_place_37 : decode cX5_place 37 = .ok (.ifCond .ne 15, 3) := by decide +kernel
theorem dX5_place_40 : decode cX5_place 40 = .ok (.aload_n 0, 1) := by decide +kernel
theorem dX5_place_41 : decode cX5_place 41 = .ok (.getfield 34, 3) := by decide +kernel
theorem dX5_place_44 : decode cX5_place 44 = .ok (.getfield 86, 3) := by decide +kernel
theorem dX5_place_47 : decode cX5_place 47 = .ok (.iload_n 1, 1) := by decide +kernel
theorem dX5_place_48 : decode cX5_place 48 = .ok (.iaload, 1) := by decide +kernel
theorem dX5_place_49 : decode cX5_place 49 = .ok (.goto 12, 3) := by decide +kernel
theorem dX5_place_52 : decode cX5_place 52 = .ok (.aload_n 0, 1) := by decide +kernel
theorem dX5_place_53 : decode cX5_place 53 = .ok (.getfield 34, 3) := by decide +kernel
theorem dX5_place_56 : decode cX5_place 56 = .ok (.getfield 103, 3) := by decide +kernel
theorem dX5_place_59 : decode cX5_place 59 = .ok (.iload_n 1, 1) := by decide +kernel
theorem dX5_place_60 : decode cX5_place 60 = .ok (.iaload, 1) := by decide +kernel
theorem dX5_place_61 : decode cX5_place 61 = .ok (.ireturn, 1) := by decide +kernel
theorem dX5_field_0 : decode cX5_field 0 = .ok (.iload_n 1, 1) := by decide +kernel
theorem dX5_field_1 : decode cX5_field 1 = .ok (.ifCond .lt 8, 3) := by decide +kernel
theorem dX5_field_4 : decode cX5_field 4 = .ok (.iload_n 1, 1) := by decide +kernel
theorem dX5_field_5 : decode cX5_field 5 = .ok (.iconst 2, 1) := by decide +kernel
theorem dX5_field_6 : decode cX5_field 6 = .ok (.if_icmp .le 13, 3) := by decide +kernel
theorem dX5_field_9 : decode cX5_field 9 = .ok (.new 52, 3) := by decide +kernel
theorem dX5_field_12 : decode cX5_field 12 = .ok (.dup, 1) := by decide +kernel
theorem dX5_field_13 : decode cX5_field 13 = .ok (.ldc 148, 2) := by decide +kernel
theorem dX5_field_15 : decode cX5_field 15 = .ok (.invokespecial 56, 3) := by decide +kernel
theorem dX5_field_18 : decode cX5_field 18 = .ok (.athrow, 1) := by decide +kernel
theorem dX5_field_19 : decode cX5_field 19 = .ok (.aload_n 0, 1) := by decide +kernel
theorem dX5_field_20 : decode cX5_field 20 = .ok (.getfield 34, 3) := by decide +kernel
theorem dX5_field_23 : decode cX5_field 23 = .ok (.invokevirtual 143, 3) := by decide +kernel
theorem dX5_field_26 : decode cX5_field 26 = .ok (.ifCond .eq 14, 3) := by decide +kernel
theorem dX5_field_29 : decode cX5_field 29 = .ok (.aload_n 0, 1) := by decide +kernel
theorem dX5_field_30 : decode cX5_field 30 = .ok (.getfield 34, 3) := by decide +kernel
theorem dX5_field_33 : decode cX5_field 33 = .ok (.iload_n 1, 1) := by decide +kernel
theorem dX5_field_34 : decode cX5_field 34 = .ok (.invokevirtual 150, 3) := by decide +kernel
theorem dX5_field_37 : decode cX5_field 37 = .ok (.goto 4, 3) := by decide +kernel
theorem dX5_field_40 : decode cX5_field 40 = .ok (.iconst (-1), 1) := by decide +kernel
theorem dX5_field_41 : decode cX5_field 41 = .ok (.ireturn, 1) := by decide +kernel
theorem dX5_others_0 : decode cX5_others 0 = .ok (.aload_n 0, 1) := by decide +kernel
theorem dX5_others_1 : decode cX5_others 1 = .ok (.getfield 34, 3) := by decide +kernel
theorem dX5_others_4 : decode cX5_others 4 = .ok (.invokevirtual 154, 3) := by decide +kernel
theorem dX5_others_7 : decode cX5_others 7 = .ok (.ireturn, 1) := by decide +kernel
theorem dX5_other_0 : decode cX5_other 0 = .ok (.iload_n 2, 1) := by decide +kernel
theorem dX5_other_1 : decode cX5_other 1 = .ok (.ifCond .lt 8, 3) := by decide +kernel
theorem dX5_other_4 : decode cX5_other 4 = .ok (.iload_n 2, 1) := by decide +kernel
theorem dX5_other_5 : decode cX5_other 5 = .ok (.iconst 2, 1) := by decide +kernel
theorem dX5_other_6 : decode cX5_other 6 = .ok (.if_icmp .le 13, 3) := by decide +kernel
theorem dX5_other_9 : decode cX5_other 9 = .ok (.new 52, 3) := by decide +kernel
theorem dX5_other_12 : decode cX5_other 12 = .ok (.dup, 1) := by decide +kernel
theorem dX5_other_13 : decode cX5_other 13 = .ok (.ldc 148, 2) := by decide +kernel
theorem dX5_other_15 : decode cX5_other 15 = .ok (.invokespecial 56, 3) := by decide +kernel
theorem dX5_other_18 : decode cX5_other 18 = .ok (.athrow, 1) := by decide +kernel
theorem dX5_other_19 : decode cX5_other 19 = .ok (.aload_n 0, 1) := by decide +kernel
theorem dX5_other_20 : decode cX5_other 20 = .ok (.getfield 34, 3) := by decide +kernel
theorem dX5_other_23 : decode cX5_other 23 = .ok (.iload_n 1, 1) := by decide +kernel
theorem dX5_other_24 : decode cX5_other 24 = .ok (.invokevirtual 157, 3) := by decide +kernel
theorem dX5_other_27 : decode cX5_other 27 = .ok (.istore_n 3, 1) := by decide +kernel
theorem dX5_other_28 : decode cX5_other 28 = .ok (.iload_n 3, 1) := by decide +kernel
theorem dX5_other_29 : decode cX5_other 29 = .ok (.iconst (-1), 1) := by decide +kernel
theorem dX5_other_30 : decode cX5_other 30 = .ok (.if_icmp .ne 5, 3) := by decide +kernel
theorem dX5_other_33 : decode cX5_other 33 = .ok (.iconst (-1), 1) := by decide +kernel
theorem dX5_other_34 : decode cX5_other 34 = .ok (.ireturn, 1) := by decide +kernel
theorem dX5_other_35 : decode cX5_other 35 = .ok (.iload_n 3, 1) := by decide +kernel
theorem dX5_other_36 : decode cX5_other 36 = .ok (.bipush 12, 2) := by decide +kernel
theorem dX5_other_38 : decode cX5_other 38 = .ok (.idiv, 1) := by decide +kernel
theorem dX5_other_39 : decode cX5_other 39 = .ok (.istore 4, 2) := by decide +kernel
theorem dX5_other_41 : decode cX5_other 41 = .ok (.iload_n 3, 1) := by decide +kernel
theorem dX5_other_42 : decode cX5_other 42 = .ok (.bipush 12, 2) := by decide +kernel
theorem dX5_other_44 : decode cX5_other 44 = .ok (.irem, 1) := by decide +kernel
theorem dX5_other_45 : decode cX5_other 45 = .ok (.istore 5, 2) := by decide +kernel
theorem dX5_other_47 : decode cX5_other 47 = .ok (.iload_n 2, 1) := by decide +kernel
theorem dX5_other_48 : decode cX5_other 48 = .ok (.ifCond .ne 6, 3) := by decide +kernel
theorem dX5_other_51 : decode cX5_other 51 = .ok (.iload 4, 2) := by decide +kernel
theorem dX5_other_53 : decode cX5_other 53 = .ok (.ireturn, 1) := by decide +kernel
theorem dX5_other_54 : decode cX5_other 54 = .ok (.iload_n 2, 1) := by decide +kernel
theorem dX5_other_55 : decode cX5_other 55 = .ok (.iconst 1, 1) := by decide +kernel
theorem dX5_other_56 : decode cX5_other 56 = .ok (.if_icmp .ne 6, 3) := by decide +kernel
theorem dX5_other_59 : decode cX5_other 59 = .ok (.iload 5, 2) := by decide +kernel
theorem dX5_other_61 : decode cX5_other 61 = .ok (.ireturn, 1) := by decide +kernel
theorem dX5_other_62 : decode cX5_other 62 = .ok (.aload_n 0, 1) := by decide +kernel
theorem dX5_other_63 : decode cX5_other 63 = .ok (.getfield 27, 3) := by decide +kernel
theorem dX5_other_66 : decode cX5_other 66 = .ok (.aload_n 0, 1) := by decide +kernel
theorem dX5_other_67 : decode cX5_other 67 = .ok (.getfield 34, 3) := by decide +kernel
theorem dX5_other_70 : decode cX5_other 70 = .ok (.getfield 86, 3) := by decide +kernel
theorem dX5_other_73 : decode cX5_other 73 = .ok (.iload 4, 2) := by decide +kernel
theorem dX5_other_75 : decode cX5_other 75 = .ok (.iload 5, 2) := by decide +kernel
theorem dX5_other_77 : decode cX5_other 77 = .ok (.invokevirtual 160, 3) := by decide +kernel
theorem dX5_other_80 : decode cX5_other 80 = .ok (.aload_n 0, 1) := by decide +kernel
theorem dX5_other_81 : decode cX5_other 81 = .ok (.getfield 34, 3) := by decide +kernel
theorem dX5_other_84 : decode cX5_other 84 = .ok (.getfield 89, 3) := by decide +kernel
theorem dX5_other_87 : decode cX5_other 87 = .ok (.isub, 1) := by decide +kernel
theorem dX5_other_88 : decode cX5_other 88 = .ok (.ireturn, 1) := by decide +kernel
theorem dX5_choose_0 : decode cX5_choose 0 = .ok (.aload_n 0, 1) := by decide +kernel
theorem dX5_choose_1 : decode cX5_choose 1 = .ok (.getfield 34, 3) := by decide +kernel
theorem dX5_choose_4 : decode cX5_choose 4 = .ok (.iload_n 1, 1) := by decide +kernel
theorem dX5_choose_5 : decode cX5_choose 5 = .ok (.invokevirtual 157, 3) := by decide +kernel
theorem dX5_choose_8 : decode cX5_choose 8 = .ok (.istore_n 2, 1) := by decide +kernel
theorem dX5_choose_9 : decode cX5_choose 9 = .ok (.iload_n 2, 1) := by decide +kernel
theorem dX5_choose_10 : decode cX5_choose 10 = .ok (.iconst (-1), 1) := by decide +kernel
theorem dX5_choose_11 : decode cX5_choose 11 = .ok (.if_icmp .ne 5, 3) := by decide +kernel
theorem dX5_choose_14 : decode cX5_choose 14 = .ok (.iconst 0, 1) := by decide +kernel
theorem dX5_choose_15 : decode cX5_choose 15 = .ok (.ireturn, 1) := by decide +kernel
theorem dX5_choose_16 : decode cX5_choose 16 = .ok (.iload_n 2, 1) := by decide +kernel
theorem dX5_choose_17 : decode cX5_choose 17 = .ok (.bipush 12, 2) := by decide +kernel
theorem dX5_choose_19 : decode cX5_choose 19 = .ok (.idiv, 1) := by decide +kernel
