theorem dX5_choose_20 : decode cX5_choose 20 = .ok (.istore_n 3, 1) := by decide +kernel
theorem dX5_choose_21 : decode cX5_choose 21 = .ok (.iload_n 2, 1) := by decide +kernel
theorem dX5_choose_22 : decode cX5_choose 22 = .ok (.bipush 12, 2) := by decide +kernel
theorem dX5_choose_24 : decode cX5_choose 24 = .ok (.irem, 1) := by decide +kernel
theorem dX5_choose_25 : decode cX5_choose 25 = .ok (.istore 4, 2) := by decide +kernel
theorem dX5_choose_27 : decode cX5_choose 27 = .ok (.aload_n 0, 1) := by decide +kernel
theorem dX5_choose_28 : decode cX5_choose 28 = .ok (.getfield 34, 3) := by decide +kernel
theorem dX5_choose_31 : decode cX5_choose 31 = .ok (.iload_n 3, 1) := by decide +kernel
theorem dX5_choose_32 : decode cX5_choose 32 = .ok (.iload 4, 2) := by decide +kernel
theorem dX5_choose_34 : decode cX5_choose 34 = .ok (.aload_n 0, 1) := by decide +kernel
theorem dX5_choose_35 : decode cX5_choose 35 = .ok (.getfield 27, 3) := by decide +kernel
theorem dX5_choose_38 : decode cX5_choose 38 = .ok (.aload_n 0, 1) := by decide +kernel
theorem dX5_choose_39 : decode cX5_choose 39 = .ok (.getfield 34, 3) := by decide +kernel
theorem dX5_choose_42 : decode cX5_choose 42 = .ok (.getfield 86, 3) := by decide +kernel
theorem dX5_choose_45 : decode cX5_choose 45 = .ok (.iload_n 3, 1) := by decide +kernel
theorem dX5_choose_46 : decode cX5_choose 46 = .ok (.iload 4, 2) := by decide +kernel
theorem dX5_choose_48 : decode cX5_choose 48 = .ok (.invokevirtual 160, 3) := by decide +kernel
theorem dX5_choose_51 : decode cX5_choose 51 = .ok (.invokevirtual 164, 3) := by decide +kernel
theorem dX5_choose_54 : decode cX5_choose 54 = .ok (.iconst 1, 1) := by decide +kernel
theorem dX5_choose_55 : decode cX5_choose 55 = .ok (.ireturn, 1) := by decide +kernel
theorem dX5_batch_0 : decode cX5_batch 0 = .ok (.iload_n 1, 1) := by decide +kernel
theorem dX5_batch_1 : decode cX5_batch 1 = .ok (.ifCond .lt 9, 3) := by decide +kernel
theorem dX5_batch_4 : decode cX5_batch 4 = .ok (.iload_n 1, 1) := by decide +kernel
theorem dX5_batch_5 : decode cX5_batch 5 = .ok (.ldc 168, 2) := by decide +kernel
theorem dX5_batch_7 : decode cX5_batch 7 = .ok (.if_icmp .le 13, 3) := by decide +kernel
theorem dX5_batch_10 : decode cX5_batch 10 = .ok (.new 52, 3) := by decide +kernel
theorem dX5_batch_13 : decode cX5_batch 13 = .ok (.dup, 1) := by decide +kernel
theorem dX5_batch_14 : decode cX5_batch 14 = .ok (.ldc 169, 2) := by decide +kernel
theorem dX5_batch_16 : decode cX5_batch 16 = .ok (.invokespecial 56, 3) := by decide +kernel
theorem dX5_batch_19 : decode cX5_batch 19 = .ok (.athrow, 1) := by decide +kernel
theorem dX5_batch_20 : decode cX5_batch 20 = .ok (.aload_n 0, 1) := by decide +kernel
theorem dX5_batch_21 : decode cX5_batch 21 = .ok (.getfield 41, 3) := by decide +kernel
theorem dX5_batch_24 : decode cX5_batch 24 = .ok (.getfield 171, 3) := by decide +kernel
theorem dX5_batch_27 : decode cX5_batch 27 = .ok (.bipush 20, 2) := by decide +kernel
theorem dX5_batch_29 : decode cX5_batch 29 = .ok (.if_icmp .lt 13, 3) := by decide +kernel
theorem dX5_batch_32 : decode cX5_batch 32 = .ok (.new 174, 3) := by decide +kernel
theorem dX5_batch_35 : decode cX5_batch 35 = .ok (.dup, 1) := by decide +kernel
theorem dX5_batch_36 : decode cX5_batch 36 = .ok (.ldc 176, 2) := by decide +kernel
theorem dX5_batch_38 : decode cX5_batch 38 = .ok (.invokespecial 178, 3) := by decide +kernel
theorem dX5_batch_41 : decode cX5_batch 41 = .ok (.athrow, 1) := by decide +kernel
theorem dX5_batch_42 : decode cX5_batch 42 = .ok (.aload_n 0, 1) := by decide +kernel
theorem dX5_batch_43 : decode cX5_batch 43 = .ok (.getfield 41, 3) := by decide +kernel
theorem dX5_batch_46 : decode cX5_batch 46 = .ok (.iload_n 1, 1) := by decide +kernel
theorem dX5_batch_47 : decode cX5_batch 47 = .ok (.invokevirtual 179, 3) := by decide +kernel
theorem dX5_batch_50 : decode cX5_batch 50 = .ok (.ireturn, 1) := by decide +kernel
theorem dX5_paper_0 : decode cX5_paper 0 = .ok (.aload_n 0, 1) := by decide +kernel
theorem dX5_paper_1 : decode cX5_paper 1 = .ok (.iload_n 1, 1) := by decide +kernel
theorem dX5_paper_2 : decode cX5_paper 2 = .ok (.invokevirtual 182, 3) := by decide +kernel
theorem dX5_paper_5 : decode cX5_paper 5 = .ok (.iload_n 2, 1) := by decide +kernel
theorem dX5_paper_6 : decode cX5_paper 6 = .ok (.invokestatic 186, 3) := by decide +kernel
theorem dX5_paper_9 : decode cX5_paper 9 = .ok (.aload_n 0, 1) := by decide +kernel
theorem dX5_paper_10 : decode cX5_paper 10 = .ok (.getfield 34, 3) := by decide +kernel
theorem dX5_paper_13 : decode cX5_paper 13 = .ok (.invokevirtual 143, 3) := by decide +kernel
theorem dX5_paper_16 : decode cX5_paper 16 = .ok (.ifCond .ne 5, 3) := by decide +kernel
theorem dX5_paper_19 : decode cX5_paper 19 = .ok (.iconst (-1), 1) := by decide +kernel
theorem dX5_paper_20 : decode cX5_paper 20 = .ok (.ireturn, 1) := by decide +kernel
theorem dX5_paper_21 : decode cX5_paper 21 = .ok (.aload_n 0, 1) := by decide +kernel
theorem dX5_paper_22 : decode cX5_paper 22 = .ok (.getfield 41, 3) := by decide +kernel
theorem dX5_paper_25 : decode cX5_paper 25 = .ok (.aload_n 0, 1) := by decide +kernel
theorem dX5_paper_26 : decode cX5_paper 26 = .ok (.getfield 34, 3) := by decide +kernel
theorem dX5_paper_29 : decode cX5_paper 29 = .ok (.invokevirtual 189, 3) := by decide +kernel
theorem dX5_paper_32 : decode cX5_paper 32 = .ok (.iconst (-1), 1) := by decide +kernel
theorem dX5_paper_33 : decode cX5_paper 33 = .ok (.if_icmp .eq 6, 3) := by decide +kernel
theorem dX5_paper_36 : decode cX5_paper 36 = .ok (.bipush (-2), 2) := by decide +kernel
theorem dX5_paper_38 : decode cX5_paper 38 = .ok (.ireturn, 1) := by decide +kernel
theorem dX5_paper_39 : decode cX5_paper 39 = .ok (.aload_n 0, 1) := by decide +kernel
theorem dX5_paper_40 : decode cX5_paper 40 = .ok (.getfield 41, 3) := by decide +kernel
theorem dX5_paper_43 : decode cX5_paper 43 = .ok (.getfield 193, 3) := by decide +kernel
theorem dX5_paper_46 : decode cX5_paper 46 = .ok (.bipush 100, 2) := by decide +kernel
theorem dX5_paper_48 : decode cX5_paper 48 = .ok (.if_icmp .lt 6, 3) := by decide +kernel
theorem dX5_paper_51 : decode cX5_paper 51 = .ok (.bipush (-3), 2) := by decide +kernel
theorem dX5_paper_53 : decode cX5_paper 53 = .ok (.ireturn, 1) := by decide +kernel
theorem dX5_paper_54 : decode cX5_paper 54 = .ok (.aload_n 0, 1) := by decide +kernel
theorem dX5_paper_55 : decode cX5_paper 55 = .ok (.getfield 41, 3) := by decide +kernel
theorem dX5_paper_58 : decode cX5_paper 58 = .ok (.iload_n 1, 1) := by decide +kernel
theorem dX5_paper_59 : decode cX5_paper 59 = .ok (.iload_n 2, 1) := by decide +kernel
theorem dX5_paper_60 : decode cX5_paper 60 = .ok (.aload_n 0, 1) := by decide +kernel
theorem dX5_paper_61 : decode cX5_paper 61 = .ok (.getfield 34, 3) := by decide +kernel
theorem dX5_paper_64 : decode cX5_paper 64 = .ok (.invokevirtual 196, 3) := by decide +kernel
theorem dX5_paper_67 : decode cX5_paper 67 = .ok (.istore_n 3, 1) := by decide +kernel
theorem dX5_paper_68 : decode cX5_paper 68 = .ok (.aload_n 0, 1) := by decide +kernel
theorem dX5_paper_69 : decode cX5_paper 69 = .ok (.getfield 34, 3) := by decide +kernel
theorem dX5_paper_72 : decode cX5_paper 72 = .ok (.invokevirtual 200, 3) := by decide +kernel
theorem dX5_paper_75 : decode cX5_paper 75 = .ok (.iload_n 3, 1) := by decide +kernel
theorem dX5_paper_76 : decode cX5_paper 76 = .ok (.ireturn, 1) := by decide +kernel
theorem dX5_amount_0 : decode cX5_amount 0 = .ok (.iload_n 1, 1) := by decide +kernel
theorem dX5_amount_1 : decode cX5_amount 1 = .ok (.ifCond .lt 14, 3) := by decide +kernel
theorem dX5_amount_4 : decode cX5_amount 4 = .ok (.iload_n 1, 1) := by decide +kernel
theorem dX5_amount_5 : decode cX5_amount 5 = .ok (.aload_n 0, 1) := by decide +kernel
theorem dX5_amount_6 : decode cX5_amount 6 = .ok (.getfield 41, 3) := by decide +kernel
theorem dX5_amount_9 : decode cX5_amount 9 = .ok (.getfield 193, 3) := by decide +kernel
theorem dX5_amount_12 : decode cX5_amount 12 = .ok (.if_icmp .lt 13, 3) := by decide +kernel
theorem dX5_amount_15 : decode cX5_amount 15 = .ok (.new 203, 3) := by decide +kernel
theorem dX5_amount_18 : decode cX5_amount 18 = .ok (.dup, 1) := by decide +kernel
theorem dX5_amount_19 : decode cX5_amount 19 = .ok (.ldc 205, 2) := by decide +kernel
theorem dX5_amount_21 : decode cX5_amount 21 = .ok (.invokespecial 207, 3) := by decide +kernel
theorem dX5_amount_24 : decode cX5_amount 24 = .ok (.athrow, 1) := by decide +kernel
theorem dX5_amount_25 : decode cX5_amount 25 = .ok (.iload_n 2, 1) := by decide +kernel
theorem dX5_amount_26 : decode cX5_amount 26 = .ok (.invokestatic 186, 3) := by decide +kernel
theorem dX5_amount_29 : decode cX5_amount 29 = .ok (.aload_n 0, 1) := by decide +kernel
theorem dX5_amount_30 : decode cX5_amount 30 = .ok (.getfield 41, 3) := by decide +kernel
theorem dX5_amount_33 : decode cX5_amount 33 = .ok (.getfield 208, 3) := by decide +kernel
theorem dX5_amount_36 : decode cX5_amount 36 = .ok (.iload_n 1, 1) := by decide +kernel
theorem dX5_amount_37 : decode cX5_amount 37 = .ok (.iaload, 1) := by decide +kernel
theorem dX5_amount_38 : decode cX5_amount 38 = .ok (.istore_n 3, 1) := by decide +kernel
theorem dX5_amount_39 : decode cX5_amount 39 = .ok (.aload_n 0, 1) := by decide +kernel
theorem dX5_amount_40 : decode cX5_amount 40 = .ok (.getfield 41, 3) := by decide +kernel
theorem dX5_amount_43 : decode cX5_amount 43 = .ok (.getfield 208, 3) := by decide +kernel
theorem dX5_amount_46 : decode cX5_amount 46 = .ok (.iload_n 1, 1) := by decide +kernel
theorem dX5_amount_47 : decode cX5_amount 47 = .ok (.iload_n 2, 1) := by decide +kernel
theorem dX5_amount_48 : decode cX5_amount 48 = .ok (.iastore, 1) := by decide +kernel
theorem dX5_amount_49 : decode cX5_amount 49 = .ok (.iload_n 3, 1) := by decide +kernel
theorem dX5_amount_50 : decode cX5_amount 50 = .ok (.ireturn, 1) := by decide +kernel
theorem dX5_twin_0 : decode cX5_twin 0 = .ok (.aload_n 0, 1) := by decide +kernel
theorem dX5_twin_1 : decode cX5_twin 1 = .ok (.getfield 34, 3) := by decide +kernel
theorem dX5_twin_4 : decode cX5_twin 4 = .ok (.invokevirtual 143, 3) := by decide +kernel
theorem dX5_twin_7 : decode cX5_twin 7 = .ok (.ifCond .eq 17, 3) := by decide +kernel
theorem dX5_twin_10 : decode cX5_twin 10 = .ok (.aload_n 0, 1) := by decide +kernel
theorem dX5_twin_11 : decode cX5_twin 11 = .ok (.getfield 41, 3) := by decide +kernel
theorem dX5_twin_14 : decode cX5_twin 14 = .ok (.aload_n 0, 1) := by decide +kernel
theorem dX5_twin_15 : decode cX5_twin 15 = .ok (.getfield 34, 3) := by decide +kernel
theorem dX5_twin_18 : decode cX5_twin 18 = .ok (.invokevirtual 189, 3) := by decide +kernel
theorem dX5_twin_21 : decode cX5_twin 21 = .ok (.goto 4, 3) := by decide +kernel
theorem dX5_twin_24 : decode cX5_twin 24 = .ok (.iconst (-1), 1) := by decide +kernel
theorem dX5_twin_25 : decode cX5_twin 25 = .ok (.ireturn, 1) := by decide +kernel
theorem dX5_out_0 : decode cX5_out 0 = .ok (.aload_n 0, 1) := by decide +kernel
theorem dX5_out_1 : decode cX5_out 1 = .ok (.iload_n 1, 1) := by decide +kernel
theorem dX5_out_2 : decode cX5_out 2 = .ok (.invokevirtual 182, 3) := by decide +kernel
theorem dX5_out_5 : decode cX5_out 5 = .ok (.aload_n 0, 1) := by decide +kernel
theorem dX5_out_6 : decode cX5_out 6 = .ok (.getfield 41, 3) := by decide +kernel
theorem dX5_out_9 : decode cX5_out 9 = .ok (.iload_n 1, 1) := by decide +kernel
theorem dX5_out_10 : decode cX5_out 10 = .ok (.invokevirtual 211, 3) := by decide +kernel
theorem dX5_out_13 : decode cX5_out 13 = .ok (.lreturn, 1) := by decide +kernel
theorem dX5_slips_0 : decode cX5_slips 0 = .ok (.aload_n 0, 1) := by decide +kernel
theorem dX5_slips_1 : decode cX5_slips 1 = .ok (.iload_n 1, 1) := by decide +kernel
theorem dX5_slips_2 : decode cX5_slips 2 = .ok (.invokevirtual 182, 3) := by decide +kernel
theorem dX5_slips_5 : decode cX5_slips 5 = .ok (.aload_n 0, 1) := by decide +kernel
theorem dX5_slips_6 : decode cX5_slips 6 = .ok (.getfield 48, 3) := by decide +kernel
theorem dX5_slips_9 : decode cX5_slips 9 = .ok (.aload_n 0, 1) := by decide +kernel
theorem dX5_slips_10 : decode cX5_slips 10 = .ok (.getfield 41, 3) := by decide +kernel
theorem dX5_slips_13 : decode cX5_slips 13 = .ok (.iload_n 1, 1) := by decide +kernel
theorem dX5_slips_14 : decode cX5_slips 14 = .ok (.invokevirtual 215, 3) := by decide +kernel
theorem dX5_slips_17 : decode cX5_slips 17 = .ok (.aload_n 0, 1) := by decide +kernel
theorem dX5_slips_18 : decode cX5_slips 18 = .ok (.getfield 48, 3) := by decide +kernel
theorem dX5_slips_21 : decode cX5_slips 21 = .ok (.getfield 219, 3) := by decide +kernel
theorem dX5_slips_24 : decode cX5_slips 24 = .ok (.ireturn, 1) := by decide +kernel
theorem dX5_slip_0 : decode cX5_slip 0 = .ok (.aload_n 0, 1) := by decide +kernel
theorem dX5_slip_1 : decode cX5_slip 1 = .ok (.iload_n 1, 1) := by decide +kernel
theorem dX5_slip_2 : decode cX5_slip 2 = .ok (.invokevirtual 182, 3) := by decide +kernel
theorem dX5_slip_5 : decode cX5_slip 5 = .ok (.iload_n 3, 1) := by decide +kernel
theorem dX5_slip_6 : decode cX5_slip 6 = .ok (.ifCond .lt 8, 3) := by decide +kernel
theorem dX5_slip_9 : decode cX5_slip 9 = .ok (.iload_n 3, 1) := by decide +kernel
theorem dX5_slip_10 : decode cX5_slip 10 = .ok (.iconst 2, 1) := by decide +kernel
theorem dX5_slip_11 : decode cX5_slip 11 = .ok (.if_icmp .le 13, 3) := by decide +kernel
theorem dX5_slip_14 : decode cX5_slip 14 = .ok (.new 52, 3) := by decide +kernel
theorem dX5_slip_17 : decode cX5_slip 17 = .ok (.dup, 1) := by decide +kernel
theorem dX5_slip_18 : decode cX5_slip 18 = .ok (.ldc 148, 2) := by decide +kernel
theorem dX5_slip_20 : decode cX5_slip 20 = .ok (.invokespecial 56, 3) := by decide +kernel
theorem dX5_slip_23 : decode cX5_slip 23 = .ok (.athrow, 1) := by decide +kernel
theorem dX5_slip_24 : decode cX5_slip 24 = .ok (.aload_n 0, 1) := by decide +kernel
theorem dX5_slip_25 : decode cX5_slip 25 = .ok (.getfield 48, 3) := by decide +kernel
theorem dX5_slip_28 : decode cX5_slip 28 = .ok (.aload_n 0, 1) := by decide +kernel
theorem dX5_slip_29 : decode cX5_slip 29 = .ok (.getfield 41, 3) := by decide +kernel
theorem dX5_slip_32 : decode cX5_slip 32 = .ok (.iload_n 1, 1) := by decide +kernel
theorem dX5_slip_33 : decode cX5_slip 33 = .ok (.invokevirtual 215, 3) := by decide +kernel
theorem dX5_slip_36 : decode cX5_slip 36 = .ok (.iload_n 2, 1) := by decide +kernel
theorem dX5_slip_37 : decode cX5_slip 37 = .ok (.ifCond .lt 14, 3) := by decide +kernel
theorem dX5_slip_40 : decode cX5_slip 40 = .ok (.iload_n 2, 1) := by decide +kernel
theorem dX5_slip_41 : decode cX5_slip 41 = .ok (.aload_n 0, 1) := by decide +kernel
theorem dX5_slip_42 : decode cX5_slip 42 = .ok (.getfield 48, 3) := by decide +kernel
theorem dX5_slip_45 : decode cX5_slip 45 = .ok (.getfield 219, 3) := by decide +kernel
theorem dX5_slip_48 : decode cX5_slip 48 = .ok (.if_icmp .lt 5, 3) := by decide +kernel
theorem dX5_slip_51 : decode cX5_slip 51 = .ok (.iconst (-1), 1) := by decide +kernel
theorem dX5_slip_52 : decode cX5_slip 52 = .ok (.ireturn, 1) := by decide +kernel
theorem dX5_slip_53 : decode cX5_slip 53 = .ok (.iload_n 3, 1) := by decide +kernel
theorem dX5_slip_54 : decode cX5_slip 54 = .ok (.ifCond .ne 13, 3) := by decide +kernel
theorem dX5_slip_57 : decode cX5_slip 57 = .ok (.aload_n 0, 1) := by decide +kernel
theorem dX5_slip_58 : decode cX5_slip 58 = .ok (.getfield 48, 3) := by decide +kernel
theorem dX5_slip_61 : decode cX5_slip 61 = .ok (.getfield 222, 3) := by decide +kernel
theorem dX5_slip_64 : decode cX5_slip 64 = .ok (.iload_n 2, 1) := by decide +kernel
theorem dX5_slip_65 : decode cX5_slip 65 = .ok (.iaload, 1) := by decide +kernel
theorem dX5_slip_66 : decode cX5_slip 66 = .ok (.ireturn, 1) := by decide +kernel
theorem dX5_slip_67 : decode cX5_slip 67 = .ok (.iload_n 3, 1) := by decide +kernel
theorem dX5_slip_68 : decode cX5_slip 68 = .ok (.iconst 1, 1) := by decide +kernel
theorem dX5_slip_69 : decode cX5_slip 69 = .ok (.if_icmp .ne 15, 3) := by decide +kernel
theorem dX5_slip_72 : decode cX5_slip 72 = .ok (.aload_n 0, 1) := by decide +kernel
theorem dX5_slip_73 : decode cX5_slip 73 = .ok (.getfield 48, 3) := by decide +kernel
theorem dX5_slip_76 : decode cX5_slip 76 = .ok (.getfield 225, 3) := by decide +kernel
theorem dX5_slip_79 : decode cX5_slip 79 = .ok (.iload_n 2, 1) := by decide +kernel
theorem dX5_slip_80 : decode cX5_slip 80 = .ok (.iaload, 1) := by decide +kernel
theorem dX5_slip_81 : decode cX5_slip 81 = .ok (.goto 12, 3) := by decide +kernel
theorem dX5_slip_84 : decode cX5_slip 84 = .ok (.aload_n 0, 1) := by decide +kernel
theorem dX5_slip_85 : decode cX5_slip 85 = .ok (.getfield 48, 3) := by decide +kernel
theorem dX5_slip_88 : decode cX5_slip 88 = .ok (.getfield 227, 3) := by decide +kernel
theorem dX5_slip_91 : decode cX5_slip 91 = .ok (.iload_n 2, 1) := by decide +kernel
theorem dX5_slip_92 : decode cX5_slip 92 = .ok (.iaload, 1) := by decide +kernel
theorem dX5_slip_93 : decode cX5_slip 93 = .ok (.ireturn, 1) := by decide +kernel
theorem dX5_count_0 : decode cX5_count 0 = .ok (.iload_n 1, 1) := by decide +kernel
theorem dX5_count_1 : decode cX5_count 1 = .ok (.tableswitch 60 0 3 #[31, 39, 44, 52], 31) := by decide +kernel
theorem dX5_count_32 : decode cX5_count 32 = .ok (.aload_n 0, 1) := by decide +kernel
theorem dX5_count_33 : decode cX5_count 33 = .ok (.getfield 12, 3) := by decide +kernel
theorem dX5_count_36 : decode cX5_count 36 = .ok (.getfield 228, 3) := by decide +kernel
theorem dX5_count_39 : decode cX5_count 39 = .ok (.ireturn, 1) := by decide +kernel
theorem dX5_count_40 : decode cX5_count 40 = .ok (.aload_n 0, 1) := by decide +kernel
theorem dX5_count_41 : decode cX5_count 41 = .ok (.getfield 20, 3) := by decide +kernel
theorem dX5_count_44 : decode cX5_count 44 = .ok (.ireturn, 1) := by decide +kernel
theorem dX5_count_45 : decode cX5_count 45 = .ok (.aload_n 0, 1) := by decide +kernel
theorem dX5_count_46 : decode cX5_count 46 = .ok (.getfield 41, 3) := by decide +kernel
theorem dX5_count_49 : decode cX5_count 49 = .ok (.getfield 171, 3) := by decide +kernel
theorem dX5_count_52 : decode cX5_count 52 = .ok (.ireturn, 1) := by decide +kernel
theorem dX5_count_53 : decode cX5_count 53 = .ok (.aload_n 0, 1) := by decide +kernel
theorem dX5_count_54 : decode cX5_count 54 = .ok (.getfield 41, 3) := by decide +kernel
theorem dX5_count_57 : decode cX5_count 57 = .ok (.getfield 193, 3) := by decide +kernel
theorem dX5_count_60 : decode cX5_count 60 = .ok (.ireturn, 1) := by decide +kernel
theorem dX5_count_61 : decode cX5_count 61 = .ok (.iconst (-1), 1) := by decide +kernel
theorem dX5_count_62 : decode cX5_count 62 = .ok (.ireturn, 1) := by decide +kernel
theorem dX5_requireBatch_0 : decode cX5_requireBatch 0 = .ok (.iload_n 1, 1) := by decide +kernel
theorem dX5_requireBatch_1 : decode cX5_requireBatch 1 = .ok (.ifCond .lt 14, 3) := by decide +kernel
theorem dX5_requireBatch_4 : decode cX5_requireBatch 4 = .ok (.iload_n 1, 1) := by decide +kernel
theorem dX5_requireBatch_5 : decode cX5_requireBatch 5 = .ok (.aload_n 0, 1) := by decide +kernel
theorem dX5_requireBatch_6 : decode cX5_requireBatch 6 = .ok (.getfield 41, 3) := by decide +kernel
theorem dX5_requireBatch_9 : decode cX5_requireBatch 9 = .ok (.getfield 171, 3) := by decide +kernel
theorem dX5_requireBatch_12 : decode cX5_requireBatch 12 = .ok (.if_icmp .lt 13, 3) := by decide +kernel
theorem dX5_requireBatch_15 : decode cX5_requireBatch 15 = .ok (.new 203, 3) := by decide +kernel
theorem dX5_requireBatch_18 : decode cX5_requireBatch 18 = .ok (.dup, 1) := by decide +kernel
theorem dX5_requireBatch_19 : decode cX5_requireBatch 19 = .ok (.ldc 231, 2) := by decide +kernel
theorem dX5_requireBatch_21 : decode cX5_requireBatch 21 = .ok (.invokespecial 207, 3) := by decide +kernel
theorem dX5_requireBatch_24 : decode cX5_requireBatch 24 = .ok (.athrow, 1) := by decide +kernel
theorem dX5_requireBatch_25 : decode cX5_requireBatch 25 = .ok (.return_, 1) := by decide +kernel
theorem dX5_requireAmount_0 : decode cX5_requireAmount 0 = .ok (.iload_n 0, 1) := by decide +kernel
theorem dX5_requireAmount_1 : decode cX5_requireAmount 1 = .ok (.ifCond .lt 9, 3) := by decide +kernel
theorem dX5_requireAmount_4 : decode cX5_requireAmount 4 = .ok (.iload_n 0, 1) := by decide +kernel
theorem dX5_requireAmount_5 : decode cX5_requireAmount 5 = .ok (.ldc 233, 2) := by decide +kernel
theorem dX5_requireAmount_7 : decode cX5_requireAmount 7 = .ok (.if_icmp .le 13, 3) := by decide +kernel
theorem dX5_requireAmount_10 : decode cX5_requireAmount 10 = .ok (.new 52, 3) := by decide +kernel
theorem dX5_requireAmount_13 : decode cX5_requireAmount 13 = .ok (.dup, 1) := by decide +kernel
theorem dX5_requireAmount_14 : decode cX5_requireAmount 14 = .ok (.ldc 234, 2) := by decide +kernel
theorem dX5_requireAmount_16 : decode cX5_requireAmount 16 = .ok (.invokespecial 56, 3) := by decide +kernel
theorem dX5_requireAmount_19 : decode cX5_requireAmount 19 = .ok (.athrow, 1) := by decide +kernel
theorem dX5_requireAmount_20 : decode cX5_requireAmount 20 = .ok (.return_, 1) := by decide +kernel
theorem dX6_init_0 : decode cX6_init 0 = .ok (.aload_n 0, 1) := by decide +kernel
theorem dX6_init_1 : decode cX6_init 1 = .ok (.invokespecial 1, 3) := by decide +kernel
theorem dX6_init_4 : decode cX6_init 4 = .ok (.aload_n 0, 1) := by decide +kernel
theorem dX6_init_5 : decode cX6_init 5 = .ok (.bipush 12, 2) := by decide +kernel
theorem dX6_init_7 : decode cX6_init 7 = .ok (.newarray .int, 2) := by decide +kernel
theorem dX6_init_9 : decode cX6_init 9 = .ok (.putfield 9, 3) := by decide +kernel
theorem dX6_init_12 : decode cX6_init 12 = .ok (.aload_n 0, 1) := by decide +kernel
theorem dX6_init_13 : decode cX6_init 13 = .ok (.bipush 120, 2) := by decide +kernel
theorem dX6_init_15 : decode cX6_init 15 = .ok (.newarray .int, 2) := by decide +kernel
theorem dX6_init_17 : decode cX6_init 17 = .ok (.putfield 13, 3) := by decide +kernel
theorem dX6_init_20 : decode cX6_init 20 = .ok (.aload_n 0, 1) := by decide +kernel
theorem dX6_init_21 : decode cX6_init 21 = .ok (.sipush 2160, 3) := by decide +kernel
theorem dX6_init_24 : decode cX6_init 24 = .ok (.newarray .int, 2) := by decide +kernel
theorem dX6_init_26 : decode cX6_init 26 = .ok (.putfield 16, 3) := by decide +kernel
theorem dX6_init_29 : decode cX6_init 29 = .ok (.aload_n 0, 1) := by decide +kernel
theorem dX6_init_30 : decode cX6_init 30 = .ok (.sipush 2160, 3) := by decide +kernel
theorem dX6_init_33 : decode cX6_init 33 = .ok (.newarray .int, 2) := by decide +kernel
theorem dX6_init_35 : decode cX6_init 35 = .ok (.putfield 19, 3) := by decide +kernel
theorem dX6_init_38 : decode cX6_init 38 = .ok (.aload_n 0, 1) := by decide +kernel
theorem dX6_init_39 : decode cX6_init 39 = .ok (.sipush 189, 3) := by decide +kernel
theorem dX6_init_42 : decode cX6_init 42 = .ok (.newarray .int, 2) := by decide +kernel
theorem dX6_init_44 : decode cX6_init 44 = .ok (.putfield 22, 3) := by decide +kernel
theorem dX6_init_47 : decode cX6_init 47 = .ok (.aload_n 0, 1) := by decide +kernel
theorem dX6_init_48 : decode cX6_init 48 = .ok (.sipush 180, 3) := by decide +kernel
theorem dX6_init_51 : decode cX6_init 51 = .ok (.newarray .int, 2) := by decide +kernel
theorem dX6_init_53 : decode cX6_init 53 = .ok (.putfield 25, 3) := by decide +kernel
theorem dX6_init_56 : decode cX6_init 56 = .ok (.aload_n 0, 1) := by decide +kernel
theorem dX6_init_57 : decode cX6_init 57 = .ok (.bipush 20, 2) := by decide +kernel
theorem dX6_init_59 : decode cX6_init 59 = .ok (.newarray .int, 2) := by decide +kernel
theorem dX6_init_61 : decode cX6_init 61 = .ok (.putfield 28, 3) := by decide +kernel
theorem dX6_init_64 : decode cX6_init 64 = .ok (.aload_n 0, 1) := by decide +kernel
theorem dX6_init_65 : decode cX6_init 65 = .ok (.bipush 20, 2) := by decide +kernel
theorem dX6_init_67 : decode cX6_init 67 = .ok (.newarray .int, 2) := by decide +kernel
theorem dX6_init_69 : decode cX6_init 69 = .ok (.putfield 31, 3) := by decide +kernel
theorem dX6_init_72 : decode cX6_init 72 = .ok (.aload_n 0, 1) := by decide +kernel
theorem dX6_init_73 : decode cX6_init 73 = .ok (.bipush 9, 2) := by decide +kernel
theorem dX6_init_75 : decode cX6_init 75 = .ok (.newarray .int, 2) := by decide +kernel
theorem dX6_init_77 : decode cX6_init 77 = .ok (.putfield 34, 3) := by decide +kernel
theorem dX6_init_80 : decode cX6_init 80 = .ok (.aload_n 0, 1) := by decide +kernel
theorem dX6_init_81 : decode cX6_init 81 = .ok (.bipush 9, 2) := by decide +kernel
theorem dX6_init_83 : decode cX6_init 83 = .ok (.newarray .int, 2) := by decide +kernel
theorem dX6_init_85 : decode cX6_init 85 = .ok (.putfield 37, 3) := by decide +kernel
theorem dX6_init_88 : decode cX6_init 88 = .ok (.aload_n 0, 1) := by decide +kernel
theorem dX6_init_89 : decode cX6_init 89 = .ok (.bipush 20, 2) := by decide +kernel
theorem dX6_init_91 : decode cX6_init 91 = .ok (.newarray .int, 2) := by decide +kernel
theorem dX6_init_93 : decode cX6_init 93 = .ok (.putfield 40, 3) := by decide +kernel
theorem dX6_init_96 : decode cX6_init 96 = .ok (.aload_n 0, 1) := by decide +kernel
theorem dX6_init_97 : decode cX6_init 97 = .ok (.bipush 100, 2) := by decide +kernel
theorem dX6_init_99 : decode cX6_init 99 = .ok (.newarray .int, 2) := by decide +kernel
theorem dX6_init_101 : decode cX6_init 101 = .ok (.putfield 43, 3) := by decide +kernel
theorem dX6_init_104 : decode cX6_init 104 = .ok (.aload_n 0, 1) := by decide +kernel
theorem dX6_init_105 : decode cX6_init 105 = .ok (.bipush 100, 2) := by decide +kernel
theorem dX6_init_107 : decode cX6_init 107 = .ok (.newarray .int, 2) := by decide +kernel
theorem dX6_init_109 : decode cX6_init 109 = .ok (.putfield 46, 3) := by decide +kernel
theorem dX6_init_112 : decode cX6_init 112 = .ok (.aload_n 0, 1) := by decide +kernel
theorem dX6_init_113 : decode cX6_init 113 = .ok (.bipush 100, 2) := by decide +kernel
theorem dX6_init_115 : decode cX6_init 115 = .ok (.newarray .int, 2) := by decide +kernel
theorem dX6_init_117 : decode cX6_init 117 = .ok (.putfield 49, 3) := by decide +kernel
theorem dX6_init_120 : decode cX6_init 120 = .ok (.aload_n 0, 1) := by decide +kernel
theorem dX6_init_121 : decode cX6_init 121 = .ok (.bipush 100, 2) := by decide +kernel
theorem dX6_init_123 : decode cX6_init 123 = .ok (.newarray .int, 2) := by decide +kernel
theorem dX6_init_125 : decode cX6_init 125 = .ok (.putfield 52, 3) := by decide +kernel
theorem dX6_init_128 : decode cX6_init 128 = .ok (.aload_n 0, 1) := by decide +kernel
theorem dX6_init_129 : decode cX6_init 129 = .ok (.bipush 100, 2) := by decide +kernel
theorem dX6_init_131 : decode cX6_init 131 = .ok (.newarray .int, 2) := by decide +kernel
theorem dX6_init_133 : decode cX6_init 133 = .ok (.putfield 55, 3) := by decide +kernel
theorem dX6_init_136 : decode cX6_init 136 = .ok (.return_, 1) := by decide +kernel
theorem dX6_thrown_0 : decode cX6_thrown 0 = .ok (.aload_n 0, 1) := by decide +kernel
theorem dX6_thrown_1 : decode cX6_thrown 1 = .ok (.getfield 58, 3) := by decide +kernel
theorem dX6_thrown_4 : decode cX6_thrown 4 = .ok (.ireturn, 1) := by decide +kernel
theorem dX6_bad_0 : decode cX6_bad 0 = .ok (.iload_n 1, 1) := by decide +kernel
theorem dX6_bad_1 : decode cX6_bad 1 = .ok (.ifCond .eq 8, 3) := by decide +kernel
theorem dX6_bad_4 : decode cX6_bad 4 = .ok (.aload_n 0, 1) := by decide +kernel
theorem dX6_bad_5 : decode cX6_bad 5 = .ok (.iload_n 2, 1) := by decide +kernel
theorem dX6_bad_6 : decode cX6_bad 6 = .ok (.putfield 58, 3) := by decide +kernel
theorem dX6_bad_9 : decode cX6_bad 9 = .ok (.iload_n 1, 1) := by decide +kernel
theorem dX6_bad_10 : decode cX6_bad 10 = .ok (.ireturn, 1) := by decide +kernel
theorem dX6_teach_0 : decode cX6_teach 0 = .ok (.aload_n 0, 1) := by decide +kernel
theorem dX6_teach_1 : decode cX6_teach 1 = .ok (.iconst 0, 1) := by decide +kernel
theorem dX6_teach_2 : decode cX6_teach 2 = .ok (.putfield 58, 3) := by decide +kernel
theorem dX6_teach_5 : decode cX6_teach 5 = .ok (.iload_n 1, 1) := by decide +kernel
theorem dX6_teach_6 : decode cX6_teach 6 = .ok (.ifCond .lt 21, 3) := by decide +kernel
theorem dX6_teach_9 : decode cX6_teach 9 = .ok (.iload_n 1, 1) := by decide +kernel
theorem dX6_teach_10 : decode cX6_teach 10 = .ok (.bipush 12, 2) := by decide +kernel
theorem dX6_teach_12 : decode cX6_teach 12 = .ok (.if_icmp .ge 15, 3) := by decide +kernel
theorem dX6_teach_15 : decode cX6_teach 15 = .ok (.iload_n 2, 1) := by decide +kernel
theorem dX6_teach_16 : decode cX6_teach 16 = .ok (.ldc 62, 2) := by decide +kernel
theorem dX6_teach_18 : decode cX6_teach 18 = .ok (.if_icmp .lt 9, 3) := by decide +kernel
theorem dX6_teach_21 : decode cX6_teach 21 = .ok (.iload_n 2, 1) := by decide +kernel
theorem dX6_teach_22 : decode cX6_teach 22 = .ok (.ldc 63, 2) := by decide +kernel
theorem dX6_teach_24 : decode cX6_teach 24 = .ok (.if_icmp .le 7, 3) := by decide +kernel
theorem dX6_teach_27 : decode cX6_teach 27 = .ok (.iconst 1, 1) := by decide +kernel
theorem dX6_teach_28 : decode cX6_teach 28 = .ok (.goto 4, 3) := by decide +kernel
theorem dX6_teach_31 : decode cX6_teach 31 = .ok (.iconst 0, 1) := by decide +kernel
theorem dX6_teach_32 : decode cX6_teach 32 = .ok (.istore_n 3, 1) := by decide +kernel
theorem dX6_teach_33 : decode cX6_teach 33 = .ok (.iload_n 2, 1) := by decide +kernel
theorem dX6_teach_34 : decode cX6_teach 34 = .ok (.istore 4, 2) := by decide +kernel
theorem dX6_teach_36 : decode cX6_teach 36 = .ok (.iconst 0, 1) := by decide +kernel
theorem dX6_teach_37 : decode cX6_teach 37 = .ok (.istore 5, 2) := by decide +kernel
theorem dX6_teach_39 : decode cX6_teach 39 = .ok (.iload 5, 2) := by decide +kernel
theorem dX6_teach_41 : decode cX6_teach 41 = .ok (.bipush 6, 2) := by decide +kernel
theorem dX6_teach_43 : decode cX6_teach 43 = .ok (.if_icmp .ge 44, 3) := by decide +kernel
theorem dX6_teach_46 : decode cX6_teach 46 = .ok (.iload_n 3, 1) := by decide +kernel
theorem dX6_teach_47 : decode cX6_teach 47 = .ok (.ifCond .ne 40, 3) := by decide +kernel
theorem dX6_teach_50 : decode cX6_teach 50 = .ok (.iload 4, 2) := by decide +kernel
theorem dX6_teach_52 : decode cX6_teach 52 = .ok (.bipush 10, 2) := by decide +kernel
theorem dX6_teach_54 : decode cX6_teach 54 = .ok (.irem, 1) := by decide +kernel
theorem dX6_teach_55 : decode cX6_teach 55 = .ok (.iconst 1, 1) := by decide +kernel
theorem dX6_teach_56 : decode cX6_teach 56 = .ok (.if_icmp .lt 12, 3) := by decide +kernel
theorem dX6_teach_59 : decode cX6_teach 59 = .ok (.iload 4, 2) := by decide +kernel
theorem dX6_teach_61 : decode cX6_teach 61 = .ok (.bipush 10, 2) := by decide +kernel
theorem dX6_teach_63 : decode cX6_teach 63 = .ok (.irem, 1) := by decide +kernel
theorem dX6_teach_64 : decode cX6_teach 64 = .ok (.iconst 3, 1) := by decide +kernel
theorem dX6_teach_65 : decode cX6_teach 65 = .ok (.if_icmp .le 7, 3) := by decide +kernel
theorem dX6_teach_68 : decode cX6_teach 68 = .ok (.iconst 1, 1) := by decide +kernel
theorem dX6_teach_69 : decode cX6_teach 69 = .ok (.goto 4, 3) := by decide +kernel
theorem dX6_teach_72 : decode cX6_teach 72 = .ok (.iconst 0, 1) := by decide +kernel
theorem dX6_teach_73 : decode cX6_teach 73 = .ok (.istore_n 3, 1) := by decide +kernel
theorem dX6_teach_74 : decode cX6_teach 74 = .ok (.iload 4, 2) := by decide +kernel
theorem dX6_teach_76 : decode cX6_teach 76 = .ok (.bipush 10, 2) := by decide +kernel
theorem dX6_teach_78 : decode cX6_teach 78 = .ok (.idiv, 1) := by decide +kernel
theorem dX6_teach_79 : decode cX6_teach 79 = .ok (.istore 4, 2) := by decide +kernel
theorem dX6_teach_81 : decode cX6_teach 81 = .ok (.iinc 5 1, 3) := by decide +kernel
theorem dX6_teach_84 : decode cX6_teach 84 = .ok (.goto (-45), 3) := by decide +kernel
theorem dX6_teach_87 : decode cX6_teach 87 = .ok (.aload_n 0, 1) := by decide +kernel
theorem dX6_teach_88 : decode cX6_teach 88 = .ok (.iload_n 3, 1) := by decide +kernel
theorem dX6_teach_89 : decode cX6_teach 89 = .ok (.iconst 1, 1) := by decide +kernel
theorem dX6_teach_90 : decode cX6_teach 90 = .ok (.invokevirtual 64, 3) := by decide +kernel
theorem dX6_teach_93 : decode cX6_teach 93 = .ok (.ifCond .eq 5, 3) := by decide +kernel
theorem dX6_teach_96 : decode cX6_teach 96 = .ok (.iconst 0, 1) := by decide +kernel
theorem dX6_teach_97 : decode cX6_teach 97 = .ok (.ireturn, 1) := by decide +kernel
theorem dX6_teach_98 : decode cX6_teach 98 = .ok (.aload_n 0, 1) := by decide +kernel
theorem dX6_teach_99 : decode cX6_teach 99 = .ok (.getfield 9, 3) := by decide +kernel
theorem dX6_teach_102 : decode cX6_teach 102 = .ok (.iload_n 1, 1) := by decide +kernel
theorem dX6_teach_103 : decode cX6_teach 103 = .ok (.iaload, 1) := by decide +kernel
theorem dX6_teach_104 : decode cX6_teach 104 = .ok (.iload_n 2, 1) := by decide +kernel
theorem dX6_teach_105 : decode cX6_teach 105 = .ok (.if_icmp .ne 7, 3) := by decide +kernel
theorem dX6_teach_108 : decode cX6_teach 108 = .ok (.iconst 0, 1) := by decide +kernel
theorem dX6_teach_109 : decode cX6_teach 109 = .ok (.goto 4, 3) := by decide +kernel
theorem dX6_teach_112 : decode cX6_teach 112 = .ok (.iconst 1, 1) := by decide +kernel
theorem dX6_teach_113 : decode cX6_teach 113 = .ok (.istore 4, 2) := by decide +kernel
theorem dX6_teach_115 : decode cX6_teach 115 = .ok (.aload_n 0, 1) := by decide +kernel
theorem dX6_teach_116 : decode cX6_teach 116 = .ok (.getfield 9, 3) := by decide +kernel
theorem dX6_teach_119 : decode cX6_teach 119 = .ok (.iload_n 1, 1) := by decide +kernel
theorem dX6_teach_120 : decode cX6_teach 120 = .ok (.iload_n 2, 1) := by decide +kernel
theorem dX6_teach_121 : decode cX6_teach 121 = .ok (.iastore, 1) := by decide +kernel
theorem dX6_teach_122 : decode cX6_teach 122 = .ok (.iload 4, 2) := by decide +kernel
theorem dX6_teach_124 : decode cX6_teach 124 = .ok (.ireturn, 1) := by decide +kernel
theorem dX6_tick_0 : decode cX6_tick 0 = .ok (.aload_n 0, 1) := by decide +kernel
theorem dX6_tick_1 : decode cX6_tick 1 = .ok (.iconst 0, 1) := by decide +kernel
theorem dX6_tick_2 : decode cX6_tick 2 = .ok (.putfield 58, 3) := by decide +kernel
theorem dX6_tick_5 : decode cX6_tick 5 = .ok (.aload_n 0, 1) := by decide +kernel
theorem dX6_tick_6 : decode cX6_tick 6 = .ok (.iload_n 1, 1) := by decide +kernel
theorem dX6_tick_7 : decode cX6_tick 7 = .ok (.iconst 1, 1) := by decide +kernel
theorem dX6_tick_8 : decode cX6_tick 8 = .ok (.if_icmp .lt 9, 3) := by decide +kernel
theorem dX6_tick_11 : decode cX6_tick 11 = .ok (.iload_n 1, 1) := by decide +kernel
theorem dX6_tick_12 : decode cX6_tick 12 = .ok (.bipush 60, 2) := by decide +kernel
theorem dX6_tick_14 : decode cX6_tick 14 = .ok (.if_icmp .le 7, 3) := by decide +kernel
theorem dX6_tick_17 : decode cX6_tick 17 = .ok (.iconst 1, 1) := by decide +kernel
theorem dX6_tick_18 : decode cX6_tick 18 = .ok (.goto 4, 3) := by decide +kernel
theorem dX6_tick_21 : decode cX6_tick 21 = .ok (.iconst 0, 1) := by decide +kernel
theorem dX6_tick_22 : decode cX6_tick 22 = .ok (.iconst 1, 1) := by decide +kernel
theorem dX6_tick_23 : decode cX6_tick 23 = .ok (.invokevirtual 64, 3) := by decide +kernel
theorem dX6_tick_26 : decode cX6_tick 26 = .ok (.ifCond .eq 5, 3) := by decide +kernel
theorem dX6_tick_29 : decode cX6_tick 29 = .ok (.iconst 0, 1) := by decide +kernel
theorem dX6_tick_30 : decode cX6_tick 30 = .ok (.ireturn, 1) := by decide +kernel
theorem dX6_tick_31 : decode cX6_tick 31 = .ok (.aload_n 0, 1) := by decide +kernel
theorem dX6_tick_32 : decode cX6_tick 32 = .ok (.getfield 68, 3) := by decide +kernel
theorem dX6_tick_35 : decode cX6_tick 35 = .ok (.bipush 120, 2) := by decide +kernel
theorem dX6_tick_37 : decode cX6_tick 37 = .ok (.if_icmp .ne 5, 3) := by decide +kernel
theorem dX6_tick_40 : decode cX6_tick 40 = .ok (.iconst (-1), 1) := by decide +kernel
theorem dX6_tick_41 : decode cX6_tick 41 = .ok (.ireturn, 1) := by decide +kernel
theorem dX6_tick_42 : decode cX6_tick 42 = .ok (.aload_n 0, 1) := by decide +kernel
theorem dX6_tick_43 : decode cX6_tick 43 = .ok (.getfield 13, 3) := by decide +kernel
theorem dX6_tick_46 : decode cX6_tick 46 = .ok (.aload_n 0, 1) := by decide +kernel
theorem dX6_tick_47 : decode cX6_tick 47 = .ok (.getfield 68, 3) := by decide +kernel
theorem dX6_tick_50 : decode cX6_tick 50 = .ok (.iload_n 1, 1) := by decide +kernel
theorem dX6_tick_51 : decode cX6_tick 51 = .ok (.iastore, 1) := by decide +kernel
theorem dX6_tick_52 : decode cX6_tick 52 = .ok (.aload_n 0, 1) := by decide +kernel
theorem dX6_tick_53 : decode cX6_tick 53 = .ok (.dup, 1) := by decide +kernel
theorem dX6_tick_54 : decode cX6_tick 54 = .ok (.getfield 68, 3) := by decide +kernel
theorem dX6_tick_57 : decode cX6_tick 57 = .ok (.iconst 1, 1) := by decide +kernel
theorem dX6_tick_58 : decode cX6_tick 58 = .ok (.iadd, 1) := by decide +kernel
theorem dX6_tick_59 : decode cX6_tick 59 = .ok (.putfield 68, 3) := by decide +kernel
theorem dX6_tick_62 : decode cX6_tick 62 = .ok (.aload_n 0, 1) := by decide +kernel
theorem dX6_tick_63 : decode cX6_tick 63 = .ok (.getfield 68, 3) := by decide +kernel
theorem dX6_tick_66 : decode cX6_tick 66 = .ok (.ireturn, 1) := by decide +kernel
theorem dX6_cell_0 : decode cX6_cell 0 = .ok (.bipush 12, 2) := by decide +kernel
theorem dX6_cell_2 : decode cX6_cell 2 = .ok (.iload_n 0, 1) := by decide +kernel
theorem dX6_cell_3 : decode cX6_cell 3 = .ok (.imul, 1) := by decide +kernel
theorem dX6_cell_4 : decode cX6_cell 4 = .ok (.iload_n 1, 1) := by decide +kernel
theorem dX6_cell_5 : decode cX6_cell 5 = .ok (.iadd, 1) := by decide +kernel
theorem dX6_cell_6 : decode cX6_cell 6 = .ok (.bipush 9, 2) := by decide +kernel
theorem dX6_cell_8 : decode cX6_cell 8 = .ok (.imul, 1) := by decide +kernel
theorem dX6_cell_9 : decode cX6_cell 9 = .ok (.iload_n 2, 1) := by decide +kernel
theorem dX6_cell_10 : decode cX6_cell 10 = .ok (.iadd, 1) := by decide +kernel
theorem dX6_cell_11 : decode cX6_cell 11 = .ok (.ireturn, 1) := by decide +kernel
theorem dX6_costOf_0 : decode cX6_costOf 0 = .ok (.iconst 0, 1) := by decide +kernel
theorem dX6_costOf_1 : decode cX6_costOf 1 = .ok (.istore 5, 2) := by decide +kernel
theorem dX6_costOf_3 : decode cX6_costOf 3 = .ok (.aload_n 0, 1) := by decide +kernel
theorem dX6_costOf_4 : decode cX6_costOf 4 = .ok (.getfield 9, 3) := by decide +kernel
theorem dX6_costOf_7 : decode cX6_costOf 7 = .ok (.iload_n 2, 1) := by decide +kernel
theorem dX6_costOf_8 : decode cX6_costOf 8 = .ok (.iaload, 1) := by decide +kernel
theorem dX6_costOf_9 : decode cX6_costOf 9 = .ok (.istore 6, 2) := by decide +kernel
theorem dX6_costOf_11 : decode cX6_costOf 11 = .ok (.iconst 5, 1) := by decide +kernel
theorem dX6_costOf_12 : decode cX6_costOf 12 = .ok (.istore 7, 2) := by decide +kernel
theorem dX6_costOf_14 : decode cX6_costOf 14 = .ok (.iload 7, 2) := by decide +kernel
theorem dX6_costOf_16 : decode cX6_costOf 16 = .ok (.ifCond .lt 79, 3) := by decide +kernel
theorem dX6_costOf_19 : decode cX6_costOf 19 = .ok (.bipush 6, 2) := by decide +kernel
theorem dX6_costOf_21 : decode cX6_costOf 21 = .ok (.iload_n 1, 1) := by decide +kernel
theorem dX6_costOf_22 : decode cX6_costOf 22 = .ok (.imul, 1) := by decide +kernel
theorem dX6_costOf_23 : decode cX6_costOf 23 = .ok (.iload 7, 2) := by decide +kernel
theorem dX6_costOf_25 : decode cX6_costOf 25 = .ok (.iadd, 1) := by decide +kernel
theorem dX6_costOf_26 : decode cX6_costOf 26 = .ok (.istore 8, 2) := by decide +kernel
theorem dX6_costOf_28 : decode cX6_costOf 28 = .ok (.aload_n 0, 1) := by decide +kernel
theorem dX6_costOf_29 : decode cX6_costOf 29 = .ok (.getfield 13, 3) := by decide +kernel
theorem dX6_costOf_32 : decode cX6_costOf 32 = .ok (.iload 4, 2) := by decide +kernel
theorem dX6_costOf_34 : decode cX6_costOf 34 = .ok (.ifCond .eq 15, 3) := by decide +kernel
theorem dX6_costOf_37 : decode cX6_costOf 37 = .ok (.aload_n 0, 1) := by decide +kernel
theorem dX6_costOf_38 : decode cX6_costOf 38 = .ok (.getfield 68, 3) := by decide +kernel
theorem dX6_costOf_41 : decode cX6_costOf 41 = .ok (.iconst 1, 1) := by decide +kernel
theorem dX6_costOf_42 : decode cX6_costOf 42 = .ok (.isub, 1) := by decide +kernel
theorem dX6_costOf_43 : decode cX6_costOf 43 = .ok (.iload 8, 2) := by decide +kernel
theorem dX6_costOf_45 : decode cX6_costOf 45 = .ok (.isub, 1) := by decide +kernel
theorem dX6_costOf_46 : decode cX6_costOf 46 = .ok (.goto 5, 3) := by decide +kernel
theorem dX6_costOf_49 : decode cX6_costOf 49 = .ok (.iload 8, 2) := by decide +kernel
theorem dX6_costOf_51 : decode cX6_costOf 51 = .ok (.iaload, 1) := by decide +kernel
theorem dX6_costOf_52 : decode cX6_costOf 52 = .ok (.iconst 4, 1) := by decide +kernel
theorem dX6_costOf_53 : decode cX6_costOf 53 = .ok (.iload_n 3, 1) := by decide +kernel
theorem dX6_costOf_54 : decode cX6_costOf 54 = .ok (.iadd, 1) := by decide +kernel
theorem dX6_costOf_55 : decode cX6_costOf 55 = .ok (.iload 6, 2) := by decide +kernel
theorem dX6_costOf_57 : decode cX6_costOf 57 = .ok (.bipush 10, 2) := by decide +kernel
theorem dX6_costOf_59 : decode cX6_costOf 59 = .ok (.irem, 1) := by decide +kernel
theorem dX6_costOf_60 : decode cX6_costOf 60 = .ok (.imul, 1) := by decide +kernel
theorem dX6_costOf_61 : decode cX6_costOf 61 = .ok (.isub, 1) := by decide +kernel
theorem dX6_costOf_62 : decode cX6_costOf 62 = .ok (.istore 9, 2) := by decide +kernel
theorem dX6_costOf_64 : decode cX6_costOf 64 = .ok (.iload 5, 2) := by decide +kernel
theorem dX6_costOf_66 : decode cX6_costOf 66 = .ok (.iload 9, 2) := by decide +kernel
theorem dX6_costOf_68 : decode cX6_costOf 68 = .ok (.ifCond .ge 9, 3) := by decide +kernel
theorem dX6_costOf_71 : decode cX6_costOf 71 = .ok (.iload 9, 2) := by decide +kernel
theorem dX6_costOf_73 : decode cX6_costOf 73 = .ok (.ineg, 1) := by decide +kernel
theorem dX6_costOf_74 : decode cX6_costOf 74 = .ok (.goto 5, 3) := by decide +kernel
theorem dX6_costOf_77 : decode cX6_costOf 77 = .ok (.iload 9, 2) := by decide +kernel
theorem dX6_costOf_79 : decode cX6_costOf 79 = .ok (.iadd, 1) := by decide +kernel
theorem dX6_costOf_80 : decode cX6_costOf 80 = .ok (.istore 5, 2) := by decide +kernel
theorem dX6_costOf_82 : decode cX6_costOf 82 = .ok (.iload 6, 2) := by decide +kernel
theorem dX6_costOf_84 : decode cX6_costOf 84 = .ok (.bipush 10, 2) := by decide +kernel
theorem dX6_costOf_86 : decode cX6_costOf 86 = .ok (.idiv, 1) := by decide +kernel
theorem dX6_costOf_87 : decode cX6_costOf 87 = .ok (.istore 6, 2) := by decide +kernel
theorem dX6_costOf_89 : decode cX6_costOf 89 = .ok (.iinc 7 (-1), 3) := by decide +kernel
theorem dX6_costOf_92 : decode cX6_costOf 92 = .ok (.goto (-78), 3) := by decide +kernel
theorem dX6_costOf_95 : decode cX6_costOf 95 = .ok (.iload 5, 2) := by decide +kernel
theorem dX6_costOf_97 : decode cX6_costOf 97 = .ok (.ireturn, 1) := by decide +kernel
theorem dX6_fills_0 : decode cX6_fills 0 = .ok (.iconst 0, 1) := by decide +kernel
theorem dX6_fills_1 : decode cX6_fills 1 = .ok (.istore_n 2, 1) := by decide +kernel
theorem dX6_fills_2 : decode cX6_fills 2 = .ok (.iload_n 2, 1) := by decide +kernel
theorem dX6_fills_3 : decode cX6_fills 3 = .ok (.aload_n 0, 1) := by decide +kernel
theorem dX6_fills_4 : decode cX6_fills 4 = .ok (.getfield 71, 3) := by decide +kernel
theorem dX6_fills_7 : decode cX6_fills 7 = .ok (.if_icmp .ge 60, 3) := by decide +kernel
theorem dX6_fills_10 : decode cX6_fills 10 = .ok (.iconst 0, 1) := by decide +kernel
theorem dX6_fills_11 : decode cX6_fills 11 = .ok (.istore_n 3, 1) := by decide +kernel
theorem dX6_fills_12 : decode cX6_fills 12 = .ok (.iload_n 3, 1) := by decide +kernel
theorem dX6_fills_13 : decode cX6_fills 13 = .ok (.bipush 12, 2) := by decide +kernel
theorem dX6_fills_15 : decode cX6_fills 15 = .ok (.if_icmp .ge 46, 3) := by decide +kernel
theorem dX6_fills_18 : decode cX6_fills 18 = .ok (.iconst 0, 1) := by decide +kernel
theorem dX6_fills_19 : decode cX6_fills 19 = .ok (.istore 4, 2) := by decide +kernel
theorem dX6_fills_21 : decode cX6_fills 21 = .ok (.iload 4, 2) := by decide +kernel
theorem dX6_fills_23 : decode cX6_fills 23 = .ok (.bipush 9, 2) := by decide +kernel
theorem dX6_fills_25 : decode cX6_fills 25 = .ok (.if_icmp .ge 30, 3) := by decide +kernel
theorem dX6_fills_28 : decode cX6_fills 28 = .ok (.aload_n 0, 1) := by decide +kernel
theorem dX6_fills_29 : decode cX6_fills 29 = .ok (.getfield 16, 3) := by decide +kernel
theorem dX6_fills_32 : decode cX6_fills 32 = .ok (.iload_n 2, 1) := by decide +kernel
theorem dX6_fills_33 : decode cX6_fills 33 = .ok (.iload_n 3, 1) := by decide +kernel
theorem dX6_fills_34 : decode cX6_fills 34 = .ok (.iload 4, 2) := by decide +kernel
theorem dX6_fills_36 : decode cX6_fills 36 = .ok (.invokestatic 74, 3) := by decide +kernel
theorem dX6_fills_39 : decode cX6_fills 39 = .ok (.aload_n 0, 1) := by decide +kernel
theorem dX6_fills_40 : decode cX6_fills 40 = .ok (.iload_n 2, 1) := by decide +kernel
theorem dX6_fills_41 : decode cX6_fills 41 = .ok (.iload_n 3, 1) := by decide +kernel
theorem dX6_fills_42 : decode cX6_fills 42 = .ok (.iload 4, 2) := by decide +kernel
theorem dX6_fills_44 : decode cX6_fills 44 = .ok (.iload_n 1, 1) := by decide +kernel
theorem dX6_fills_45 : decode cX6_fills 45 = .ok (.invokevirtual 78, 3) := by decide +kernel
theorem dX6_fills_48 : decode cX6_fills 48 = .ok (.iastore, 1) := by decide +kernel
theorem dX6_fills_49 : decode cX6_fills 49 = .ok (.iinc 4 1, 3) := by decide +kernel
theorem dX6_fills_52 : decode cX6_fills 52 = .ok (.goto (-31), 3) := by decide +kernel
theorem dX6_fills_55 : decode cX6_fills 55 = .ok (.iinc 3 1, 3) := by decide +kernel
theorem dX6_fills_58 : decode cX6_fills 58 = .ok (.goto (-46), 3) := by decide +kernel
theorem dX6_fills_61 : decode cX6_fills 61 = .ok (.iinc 2 1, 3) := by decide +kernel
theorem dX6_fills_64 : decode cX6_fills 64 = .ok (.goto (-62), 3) := by decide +kernel
theorem dX6_fills_67 : decode cX6_fills 67 = .ok (.return_, 1) := by decide +kernel
theorem dX6_near_0 : decode cX6_near 0 = .ok (.aload_n 0, 1) := by decide +kernel
theorem dX6_near_1 : decode cX6_near 1 = .ok (.iload_n 1, 1) := by decide +kernel
theorem dX6_near_2 : decode cX6_near 2 = .ok (.iload_n 2, 1) := by decide +kernel
theorem dX6_near_3 : decode cX6_near 3 = .ok (.iadd, 1) := by decide +kernel
theorem dX6_near_4 : decode cX6_near 4 = .ok (.iaload, 1) := by decide +kernel
theorem dX6_near_5 : decode cX6_near 5 = .ok (.istore_n 3, 1) := by decide +kernel
theorem dX6_near_6 : decode cX6_near 6 = .ok (.iload_n 2, 1) := by decide +kernel
theorem dX6_near_7 : decode cX6_near 7 = .ok (.ifCond .le 22, 3) := by decide +kernel
theorem dX6_near_10 : decode cX6_near 10 = .ok (.aload_n 0, 1) := by decide +kernel
theorem dX6_near_11 : decode cX6_near 11 = .ok (.iload_n 1, 1) := by decide +kernel
theorem dX6_near_12 : decode cX6_near 12 = .ok (.iload_n 2, 1) := by decide +kernel
theorem dX6_near_13 : decode cX6_near 13 = .ok (.iadd, 1) := by decide +kernel
theorem dX6_near_14 : decode cX6_near 14 = .ok (.iconst 1, 1) := by decide +kernel
theorem dX6_near_15 : decode cX6_near 15 = .ok (.isub, 1) := by decide +kernel
theorem dX6_near_16 : decode cX6_near 16 = .ok (.iaload, 1) := by decide +kernel
theorem dX6_near_17 : decode cX6_near 17 = .ok (.iload_n 3, 1) := by decide +kernel
theorem dX6_near_18 : decode cX6_near 18 = .ok (.if_icmp .ge 11, 3) := by decide +kernel
theorem dX6_near_21 : decode cX6_near 21 = .ok (.aload_n 0, 1) := by decide +kernel
theorem dX6_near_22 : decode cX6_near 22 = .ok (.iload_n 1, 1) := by decide +kernel
theorem dX6_near_23 : decode cX6_near 23 = .ok (.iload_n 2, 1) := by decide +kernel
theorem dX6_near_24 : decode cX6_near 24 = .ok (.iadd, 1) := by decide +kernel
theorem dX6_near_25 : decode cX6_near 25 = .ok (.iconst 1, 1) := by decide +kernel
theorem dX6_near_26 : decode cX6_near 26 = .ok (.isub, 1) := by decide +kernel
theorem dX6_near_27 : decode cX6_near 27 = .ok (.iaload, 1) := by decide +kernel
theorem dX6_near_28 : decode cX6_near 28 = .ok (.istore_n 3, 1) := by decide +kernel
theorem dX6_near_29 : decode cX6_near 29 = .ok (.iload_n 2, 1) := by decide +kernel
theorem dX6_near_30 : decode cX6_near 30 = .ok (.bipush 8, 2) := by decide +kernel
theorem dX6_near_32 : decode cX6_near 32 = .ok (.if_icmp .ge 22, 3) := by decide +kernel
theorem dX6_near_35 : decode cX6_near 35 = .ok (.aload_n 0, 1) := by decide +kernel
theorem dX6_near_36 : decode cX6_near 36 = .ok (.iload_n 1, 1) := by decide +kernel
theorem dX6_near_37 : decode cX6_near 37 = .ok (.iload_n 2, 1) := by decide +kernel
theorem dX6_near_38 : decode cX6_near 38 = .ok (.iadd, 1) := by decide +kernel
theorem dX6_near_39 : decode cX6_near 39 = .ok (.iconst 1, 1) := by decide +kernel
theorem dX6_near_40 : decode cX6_near 40 = .ok (.iadd, 1) := by decide +kernel
theorem dX6_near_41 : decode cX6_near 41 = .ok (.iaload, 1) := by decide +kernel
theorem dX6_near_42 : decode cX6_near 42 = .ok (.iload_n 3, 1) := by decide +kernel
theorem dX6_near_43 : decode cX6_near 43 = .ok (.if_icmp .ge 11, 3) := by decide +kernel
theorem dX6_near_46 : decode cX6_near 46 = .ok (.aload_n 0, 1) := by decide +kernel
theorem dX6_near_47 : decode cX6_near 47 = .ok (.iload_n 1, 1) := by decide +kernel
theorem dX6_near_48 : decode cX6_near 48 = .ok (.iload_n 2, 1) := by decide +kernel
theorem dX6_near_49 : decode cX6_near 49 = .ok (.iadd, 1) := by decide +kernel
theorem dX6_near_50 : decode cX6_near 50 = .ok (.iconst 1, 1) := by decide +kernel
theorem dX6_near_51 : decode cX6_near 51 = .ok (.iadd, 1) := by decide +kernel
theorem dX6_near_52 : decode cX6_near 52 = .ok (.iaload, 1) := by decide +kernel
theorem dX6_near_53 : decode cX6_near 53 = .ok (.istore_n 3, 1) := by decide +kernel
theorem dX6_near_54 : decode cX6_near 54 = .ok (.iload_n 3, 1) := by decide +kernel
theorem dX6_near_55 : decode cX6_near 55 = .ok (.ireturn, 1) := by decide +kernel
theorem dX6_cheapest_0 : decode cX6_cheapest 0 = .ok (.ldc 82, 2) := by decide +kernel
theorem dX6_cheapest_2 : decode cX6_cheapest 2 = .ok (.istore_n 3, 1) := by decide +kernel
theorem dX6_cheapest_3 : decode cX6_cheapest 3 = .ok (.iconst 0, 1) := by decide +kernel
theorem dX6_cheapest_4 : decode cX6_cheapest 4 = .ok (.istore 4, 2) := by decide +kernel
theorem dX6_cheapest_6 : decode cX6_cheapest 6 = .ok (.iload 4, 2) := by decide +kernel
theorem dX6_cheapest_8 : decode cX6_cheapest 8 = .ok (.bipush 12, 2) := by decide +kernel
theorem dX6_cheapest_10 : decode cX6_cheapest 10 = .ok (.if_icmp .ge 42, 3) := by decide +kernel
theorem dX6_cheapest_13 : decode cX6_cheapest 13 = .ok (.aload_n 0, 1) := by decide +kernel
theorem dX6_cheapest_14 : decode cX6_cheapest 14 = .ok (.getfield 16, 3) := by decide +kernel
theorem dX6_cheapest_17 : decode cX6_cheapest 17 = .ok (.iload_n 1, 1) := by decide +kernel
theorem dX6_cheapest_18 : decode cX6_cheapest 18 = .ok (.iload 4, 2) := by decide +kernel
theorem dX6_cheapest_20 : decode cX6_cheapest 20 = .ok (.iload_n 2, 1) := by decide +kernel
theorem dX6_cheapest_21 : decode cX6_cheapest 21 = .ok (.invokestatic 74, 3) := by decide +kernel
theorem dX6_cheapest_24 : decode cX6_cheapest 24 = .ok (.iaload, 1) := by decide +kernel
theorem dX6_cheapest_25 : decode cX6_cheapest 25 = .ok (.iload_n 3, 1) := by decide +kernel
theorem dX6_cheapest_26 : decode cX6_cheapest 26 = .ok (.if_icmp .ge 18, 3) := by decide +kernel
theorem dX6_cheapest_29 : decode cX6_cheapest 29 = .ok (.aload_n 0, 1) := by decide +kernel
theorem dX6_cheapest_30 : decode cX6_cheapest 30 = .ok (.getfield 16, 3) := by decide +kernel
theorem dX6_cheapest_33 : decode cX6_cheapest 33 = .ok (.iload_n 1, 1) := by decide +kernel
theorem dX6_cheapest_34 : decode cX6_cheapest 34 = .ok (.iload 4, 2) := by decide +kernel
theorem dX6_cheapest_36 : decode cX6_cheapest 36 = .ok (.iload_n 2, 1) := by decide +kernel
theorem dX6_cheapest_37 : decode cX6_cheapest 37 = .ok (.invokestatic 74, 3) := by decide +kernel
theorem dX6_cheapest_40 : decode cX6_cheapest 40 = .ok (.iaload, 1) := by decide +kernel
theorem dX6_cheapest_41 : decode cX6_cheapest 41 = .ok (.goto 4, 3) := by decide +kernel
