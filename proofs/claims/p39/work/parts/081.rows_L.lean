theorem dL_below_0 : decode cL_below 0 = .ok (.iload_n 0, 1) := by decide +kernel
theorem dL_below_1 : decode cL_below 1 = .ok (.ldc 7, 2) := by decide +kernel
theorem dL_below_3 : decode cL_below 3 = .ok (.iand, 1) := by decide +kernel
theorem dL_below_4 : decode cL_below 4 = .ok (.iload_n 1, 1) := by decide +kernel
theorem dL_below_5 : decode cL_below 5 = .ok (.irem, 1) := by decide +kernel
theorem dL_below_6 : decode cL_below 6 = .ok (.ireturn, 1) := by decide +kernel
theorem dL_cell_0 : decode cL_cell 0 = .ok (.iload_n 1, 1) := by decide +kernel
theorem dL_cell_1 : decode cL_cell 1 = .ok (.aload_n 0, 1) := by decide +kernel
theorem dL_cell_2 : decode cL_cell 2 = .ok (.arraylength, 1) := by decide +kernel
theorem dL_cell_3 : decode cL_cell 3 = .ok (.if_icmp .ge 9, 3) := by decide +kernel
theorem dL_cell_6 : decode cL_cell 6 = .ok (.aload_n 0, 1) := by decide +kernel
theorem dL_cell_7 : decode cL_cell 7 = .ok (.iload_n 1, 1) := by decide +kernel
theorem dL_cell_8 : decode cL_cell 8 = .ok (.iaload, 1) := by decide +kernel
theorem dL_cell_9 : decode cL_cell 9 = .ok (.goto 9, 3) := by decide +kernel
theorem dL_cell_12 : decode cL_cell 12 = .ok (.ldc 8, 2) := by decide +kernel
theorem dL_cell_14 : decode cL_cell 14 = .ok (.iload_n 1, 1) := by decide +kernel
theorem dL_cell_15 : decode cL_cell 15 = .ok (.iconst 3, 1) := by decide +kernel
theorem dL_cell_16 : decode cL_cell 16 = .ok (.iadd, 1) := by decide +kernel
theorem dL_cell_17 : decode cL_cell 17 = .ok (.imul, 1) := by decide +kernel
theorem dL_cell_18 : decode cL_cell 18 = .ok (.ireturn, 1) := by decide +kernel
theorem dL_sum_0 : decode cL_sum 0 = .ok (.iconst 0, 1) := by decide +kernel
theorem dL_sum_1 : decode cL_sum 1 = .ok (.istore 4, 2) := by decide +kernel
theorem dL_sum_3 : decode cL_sum 3 = .ok (.iconst 0, 1) := by decide +kernel
theorem dL_sum_4 : decode cL_sum 4 = .ok (.istore 5, 2) := by decide +kernel
theorem dL_sum_6 : decode cL_sum 6 = .ok (.iload 5, 2) := by decide +kernel
theorem dL_sum_8 : decode cL_sum 8 = .ok (.aload_n 3, 1) := by decide +kernel
theorem dL_sum_9 : decode cL_sum 9 = .ok (.iconst 0, 1) := by decide +kernel
theorem dL_sum_10 : decode cL_sum 10 = .ok (.iaload, 1) := by decide +kernel
theorem dL_sum_11 : decode cL_sum 11 = .ok (.if_icmp .ge 29, 3) := by decide +kernel
theorem dL_sum_14 : decode cL_sum 14 = .ok (.iload 4, 2) := by decide +kernel
theorem dL_sum_16 : decode cL_sum 16 = .ok (.iload_n 0, 1) := by decide +kernel
theorem dL_sum_17 : decode cL_sum 17 = .ok (.iload 5, 2) := by decide +kernel
theorem dL_sum_19 : decode cL_sum 19 = .ok (.ishr, 1) := by decide +kernel
theorem dL_sum_20 : decode cL_sum 20 = .ok (.iconst 1, 1) := by decide +kernel
theorem dL_sum_21 : decode cL_sum 21 = .ok (.iand, 1) := by decide +kernel
theorem dL_sum_22 : decode cL_sum 22 = .ok (.aload_n 2, 1) := by decide +kernel
theorem dL_sum_23 : decode cL_sum 23 = .ok (.iconst 5, 1) := by decide +kernel
theorem dL_sum_24 : decode cL_sum 24 = .ok (.iload 5, 2) := by decide +kernel
theorem dL_sum_26 : decode cL_sum 26 = .ok (.imul, 1) := by decide +kernel
theorem dL_sum_27 : decode cL_sum 27 = .ok (.iload_n 1, 1) := by decide +kernel
theorem dL_sum_28 : decode cL_sum 28 = .ok (.iadd, 1) := by decide +kernel
theorem dL_sum_29 : decode cL_sum 29 = .ok (.iaload, 1) := by decide +kernel
theorem dL_sum_30 : decode cL_sum 30 = .ok (.imul, 1) := by decide +kernel
theorem dL_sum_31 : decode cL_sum 31 = .ok (.iadd, 1) := by decide +kernel
theorem dL_sum_32 : decode cL_sum 32 = .ok (.istore 4, 2) := by decide +kernel
theorem dL_sum_34 : decode cL_sum 34 = .ok (.iinc 5 1, 3) := by decide +kernel
theorem dL_sum_37 : decode cL_sum 37 = .ok (.goto (-31), 3) := by decide +kernel
theorem dL_sum_40 : decode cL_sum 40 = .ok (.iload 4, 2) := by decide +kernel
theorem dL_sum_42 : decode cL_sum 42 = .ok (.ireturn, 1) := by decide +kernel
set_option maxRecDepth 20000 in
theorem ggL_fits_L_sum : GoodIn wsL_fits wsL_sum := goodIn_r _ [4] (by decide +kernel) (by decide +kernel)
set_option maxRecDepth 20000 in
theorem gL_fits_L_sum : GoodIn wsL_fits (va_wsS RL 47 yL_sum wsL_sum) := goodIn_app (goodIn_of _ (by decide +kernel)) ggL_fits_L_sum
theorem dL_fits_0 : decode cL_fits 0 = .ok (.aload_n 2, 1) := by decide +kernel
theorem dL_fits_1 : decode cL_fits 1 = .ok (.iconst 2, 1) := by decide +kernel
theorem dL_fits_2 : decode cL_fits 2 = .ok (.iaload, 1) := by decide +kernel
theorem dL_fits_3 : decode cL_fits 3 = .ok (.ifCond .lt 16, 3) := by decide +kernel
theorem dL_fits_6 : decode cL_fits 6 = .ok (.iload_n 0, 1) := by decide +kernel
theorem dL_fits_7 : decode cL_fits 7 = .ok (.iconst 2, 1) := by decide +kernel
theorem dL_fits_8 : decode cL_fits 8 = .ok (.aload_n 1, 1) := by decide +kernel
theorem dL_fits_9 : decode cL_fits 9 = .ok (.aload_n 2, 1) := by decide +kernel
theorem dL_fits_10 : decode cL_fits 10 = .ok (.invokestatic 47, 3) := by decide +kernel
theorem dL_fits_13 : decode cL_fits 13 = .ok (.aload_n 2, 1) := by decide +kernel
theorem dL_fits_14 : decode cL_fits 14 = .ok (.iconst 2, 1) := by decide +kernel
theorem dL_fits_15 : decode cL_fits 15 = .ok (.iaload, 1) := by decide +kernel
theorem dL_fits_16 : decode cL_fits 16 = .ok (.if_icmp .gt 7, 3) := by decide +kernel
theorem dL_fits_19 : decode cL_fits 19 = .ok (.iconst 1, 1) := by decide +kernel
theorem dL_fits_20 : decode cL_fits 20 = .ok (.goto 4, 3) := by decide +kernel
theorem dL_fits_23 : decode cL_fits 23 = .ok (.iconst 0, 1) := by decide +kernel
theorem dL_fits_24 : decode cL_fits 24 = .ok (.istore_n 3, 1) := by decide +kernel
theorem dL_fits_25 : decode cL_fits 25 = .ok (.iconst 0, 1) := by decide +kernel
theorem dL_fits_26 : decode cL_fits 26 = .ok (.istore 4, 2) := by decide +kernel
theorem dL_fits_28 : decode cL_fits 28 = .ok (.iload 4, 2) := by decide +kernel
theorem dL_fits_30 : decode cL_fits 30 = .ok (.aload_n 2, 1) := by decide +kernel
theorem dL_fits_31 : decode cL_fits 31 = .ok (.iconst 0, 1) := by decide +kernel
theorem dL_fits_32 : decode cL_fits 32 = .ok (.iaload, 1) := by decide +kernel
theorem dL_fits_33 : decode cL_fits 33 = .ok (.if_icmp .ge 56, 3) := by decide +kernel
theorem dL_fits_36 : decode cL_fits 36 = .ok (.iload_n 3, 1) := by decide +kernel
theorem dL_fits_37 : decode cL_fits 37 = .ok (.ifCond .eq 44, 3) := by decide +kernel
theorem dL_fits_40 : decode cL_fits 40 = .ok (.aload_n 1, 1) := by decide +kernel
theorem dL_fits_41 : decode cL_fits 41 = .ok (.iconst 5, 1) := by decide +kernel
theorem dL_fits_42 : decode cL_fits 42 = .ok (.iload 4, 2) := by decide +kernel
theorem dL_fits_44 : decode cL_fits 44 = .ok (.imul, 1) := by decide +kernel
theorem dL_fits_45 : decode cL_fits 45 = .ok (.iconst 4, 1) := by decide +kernel
theorem dL_fits_46 : decode cL_fits 46 = .ok (.iadd, 1) := by decide +kernel
theorem dL_fits_47 : decode cL_fits 47 = .ok (.iaload, 1) := by decide +kernel
theorem dL_fits_48 : decode cL_fits 48 = .ok (.ifCond .eq 29, 3) := by decide +kernel
theorem dL_fits_51 : decode cL_fits 51 = .ok (.iload_n 0, 1) := by decide +kernel
theorem dL_fits_52 : decode cL_fits 52 = .ok (.iload 4, 2) := by decide +kernel
theorem dL_fits_54 : decode cL_fits 54 = .ok (.ishr, 1) := by decide +kernel
theorem dL_fits_55 : decode cL_fits 55 = .ok (.iconst 1, 1) := by decide +kernel
theorem dL_fits_56 : decode cL_fits 56 = .ok (.iand, 1) := by decide +kernel
theorem dL_fits_57 : decode cL_fits 57 = .ok (.aload_n 1, 1) := by decide +kernel
theorem dL_fits_58 : decode cL_fits 58 = .ok (.iconst 5, 1) := by decide +kernel
theorem dL_fits_59 : decode cL_fits 59 = .ok (.iload 4, 2) := by decide +kernel
theorem dL_fits_61 : decode cL_fits 61 = .ok (.imul, 1) := by decide +kernel
theorem dL_fits_62 : decode cL_fits 62 = .ok (.iconst 4, 1) := by decide +kernel
theorem dL_fits_63 : decode cL_fits 63 = .ok (.iadd, 1) := by decide +kernel
theorem dL_fits_64 : decode cL_fits 64 = .ok (.iaload, 1) := by decide +kernel
theorem dL_fits_65 : decode cL_fits 65 = .ok (.iconst 1, 1) := by decide +kernel
theorem dL_fits_66 : decode cL_fits 66 = .ok (.if_icmp .ne 7, 3) := by decide +kernel
theorem dL_fits_69 : decode cL_fits 69 = .ok (.iconst 1, 1) := by decide +kernel
theorem dL_fits_70 : decode cL_fits 70 = .ok (.goto 4, 3) := by decide +kernel
theorem dL_fits_73 : decode cL_fits 73 = .ok (.iconst 0, 1) := by decide +kernel
theorem dL_fits_74 : decode cL_fits 74 = .ok (.if_icmp .ne 7, 3) := by decide +kernel
theorem dL_fits_77 : decode cL_fits 77 = .ok (.iconst 1, 1) := by decide +kernel
theorem dL_fits_78 : decode cL_fits 78 = .ok (.goto 4, 3) := by decide +kernel
theorem dL_fits_81 : decode cL_fits 81 = .ok (.iconst 0, 1) := by decide +kernel
theorem dL_fits_82 : decode cL_fits 82 = .ok (.istore_n 3, 1) := by decide +kernel
theorem dL_fits_83 : decode cL_fits 83 = .ok (.iinc 4 1, 3) := by decide +kernel
theorem dL_fits_86 : decode cL_fits 86 = .ok (.goto (-58), 3) := by decide +kernel
theorem dL_fits_89 : decode cL_fits 89 = .ok (.iload_n 3, 1) := by decide +kernel
theorem dL_fits_90 : decode cL_fits 90 = .ok (.ireturn, 1) := by decide +kernel
