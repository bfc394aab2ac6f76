theorem dX0_init_0 : decode cX0_init 0 = .ok (.aload_n 0, 1) := by decide +kernel
theorem dX0_init_1 : decode cX0_init 1 = .ok (.invokespecial 3, 3) := by decide +kernel
theorem dX0_init_4 : decode cX0_init 4 = .ok (.aload_n 0, 1) := by decide +kernel
theorem dX0_init_5 : decode cX0_init 5 = .ok (.iconst 0, 1) := by decide +kernel
theorem dX0_init_6 : decode cX0_init 6 = .ok (.putfield 9, 3) := by decide +kernel
theorem dX0_init_9 : decode cX0_init 9 = .ok (.aload_n 0, 1) := by decide +kernel
theorem dX0_init_10 : decode cX0_init 10 = .ok (.iconst 0, 1) := by decide +kernel
theorem dX0_init_11 : decode cX0_init 11 = .ok (.putfield 15, 3) := by decide +kernel
theorem dX0_init_14 : decode cX0_init 14 = .ok (.aload_n 0, 1) := by decide +kernel
theorem dX0_init_15 : decode cX0_init 15 = .ok (.iconst (-1), 1) := by decide +kernel
theorem dX0_init_16 : decode cX0_init 16 = .ok (.putfield 18, 3) := by decide +kernel
theorem dX0_init_19 : decode cX0_init 19 = .ok (.return_, 1) := by decide +kernel
theorem dX0_decided_0 : decode cX0_decided 0 = .ok (.aload_n 0, 1) := by decide +kernel
theorem dX0_decided_1 : decode cX0_decided 1 = .ok (.getfield 9, 3) := by decide +kernel
theorem dX0_decided_4 : decode cX0_decided 4 = .ok (.aload_n 0, 1) := by decide +kernel
theorem dX0_decided_5 : decode cX0_decided 5 = .ok (.getfield 15, 3) := by decide +kernel
theorem dX0_decided_8 : decode cX0_decided 8 = .ok (.ior, 1) := by decide +kernel
theorem dX0_decided_9 : decode cX0_decided 9 = .ok (.ireturn, 1) := by decide +kernel
set_option maxRecDepth 20000 in
theorem ggX0_decisionOn_X6_has : GoodIn wsX0_decisionOn wsX6_has := goodIn_r _ [5] (by decide +kernel) (by decide +kernel)
set_option maxRecDepth 20000 in
theorem gX0_decisionOn_X6_has_n21 : GoodIn wsX0_decisionOn (wsX6_has) := ggX0_decisionOn_X6_has
theorem dX0_decisionOn_0 : decode cX0_decisionOn 0 = .ok (.aload_n 0, 1) := by decide +kernel
theorem dX0_decisionOn_1 : decode cX0_decisionOn 1 = .ok (.getfield 9, 3) := by decide +kernel
theorem dX0_decisionOn_4 : decode cX0_decisionOn 4 = .ok (.iload_n 1, 1) := by decide +kernel
theorem dX0_decisionOn_5 : decode cX0_decisionOn 5 = .ok (.invokestatic 21, 3) := by decide +kernel
theorem dX0_decisionOn_8 : decode cX0_decisionOn 8 = .ok (.ifCond .eq 5, 3) := by decide +kernel
theorem dX0_decisionOn_11 : decode cX0_decisionOn 11 = .ok (.iconst 1, 1) := by decide +kernel
theorem dX0_decisionOn_12 : decode cX0_decisionOn 12 = .ok (.ireturn, 1) := by decide +kernel
theorem dX0_decisionOn_13 : decode cX0_decisionOn 13 = .ok (.aload_n 0, 1) := by decide +kernel
theorem dX0_decisionOn_14 : decode cX0_decisionOn 14 = .ok (.getfield 15, 3) := by decide +kernel
theorem dX0_decisionOn_17 : decode cX0_decisionOn 17 = .ok (.iload_n 1, 1) := by decide +kernel
theorem dX0_decisionOn_18 : decode cX0_decisionOn 18 = .ok (.invokestatic 21, 3) := by decide +kernel
theorem dX0_decisionOn_21 : decode cX0_decisionOn 21 = .ok (.ifCond .eq 7, 3) := by decide +kernel
theorem dX0_decisionOn_24 : decode cX0_decisionOn 24 = .ok (.iconst 2, 1) := by decide +kernel
theorem dX0_decisionOn_25 : decode cX0_decisionOn 25 = .ok (.goto 4, 3) := by decide +kernel
theorem dX0_decisionOn_28 : decode cX0_decisionOn 28 = .ok (.iconst 0, 1) := by decide +kernel
theorem dX0_decisionOn_29 : decode cX0_decisionOn 29 = .ok (.ireturn, 1) := by decide +kernel
set_option maxRecDepth 20000 in
theorem ggX0_mark_X0_decisionOn : GoodIn wsX0_mark wsX0_decisionOn := goodIn_r _ [7, 1, 2, 8, 9, 10, 11, 12, 13] (by decide +kernel) (by decide +kernel)
set_option maxRecDepth 20000 in
theorem gX0_mark_X0_decisionOn : GoodIn wsX0_mark (wsV RX0 25 RX0 yX0_decisionOn wsX0_decisionOn) := goodIn_app (goodIn_of _ (by decide +kernel)) ggX0_mark_X0_decisionOn
theorem dX0_mark_0 : decode cX0_mark 0 = .ok (.aload_n 0, 1) := by decide +kernel
theorem dX0_mark_1 : decode cX0_mark 1 = .ok (.iload_n 1, 1) := by decide +kernel
theorem dX0_mark_2 : decode cX0_mark 2 = .ok (.invokevirtual 25, 3) := by decide +kernel
theorem dX0_mark_5 : decode cX0_mark 5 = .ok (.istore_n 3, 1) := by decide +kernel
theorem dX0_mark_6 : decode cX0_mark 6 = .ok (.iconst 1, 1) := by decide +kernel
theorem dX0_mark_7 : decode cX0_mark 7 = .ok (.iload_n 1, 1) := by decide +kernel
theorem dX0_mark_8 : decode cX0_mark 8 = .ok (.ishl, 1) := by decide +kernel
theorem dX0_mark_9 : decode cX0_mark 9 = .ok (.istore 4, 2) := by decide +kernel
theorem dX0_mark_11 : decode cX0_mark 11 = .ok (.aload_n 0, 1) := by decide +kernel
theorem dX0_mark_12 : decode cX0_mark 12 = .ok (.iload_n 2, 1) := by decide +kernel
theorem dX0_mark_13 : decode cX0_mark 13 = .ok (.iconst 1, 1) := by decide +kernel
theorem dX0_mark_14 : decode cX0_mark 14 = .ok (.if_icmp .ne 13, 3) := by decide +kernel
theorem dX0_mark_17 : decode cX0_mark 17 = .ok (.aload_n 0, 1) := by decide +kernel
theorem dX0_mark_18 : decode cX0_mark 18 = .ok (.getfield 9, 3) := by decide +kernel
theorem dX0_mark_21 : decode cX0_mark 21 = .ok (.iload 4, 2) := by decide +kernel
theorem dX0_mark_23 : decode cX0_mark 23 = .ok (.ior, 1) := by decide +kernel
theorem dX0_mark_24 : decode cX0_mark 24 = .ok (.goto 12, 3) := by decide +kernel
theorem dX0_mark_27 : decode cX0_mark 27 = .ok (.aload_n 0, 1) := by decide +kernel
theorem dX0_mark_28 : decode cX0_mark 28 = .ok (.getfield 9, 3) := by decide +kernel
theorem dX0_mark_31 : decode cX0_mark 31 = .ok (.iload 4, 2) := by decide +kernel
theorem dX0_mark_33 : decode cX0_mark 33 = .ok (.iconst (-1), 1) := by decide +kernel
theorem dX0_mark_34 : decode cX0_mark 34 = .ok (.ixor, 1) := by decide +kernel
theorem dX0_mark_35 : decode cX0_mark 35 = .ok (.iand, 1) := by decide +kernel
theorem dX0_mark_36 : decode cX0_mark 36 = .ok (.putfield 9, 3) := by decide +kernel
theorem dX0_mark_39 : decode cX0_mark 39 = .ok (.aload_n 0, 1) := by decide +kernel
theorem dX0_mark_40 : decode cX0_mark 40 = .ok (.iload_n 2, 1) := by decide +kernel
theorem dX0_mark_41 : decode cX0_mark 41 = .ok (.iconst 2, 1) := by decide +kernel
theorem dX0_mark_42 : decode cX0_mark 42 = .ok (.if_icmp .ne 13, 3) := by decide +kernel
theorem dX0_mark_45 : decode cX0_mark 45 = .ok (.aload_n 0, 1) := by decide +kernel
theorem dX0_mark_46 : decode cX0_mark 46 = .ok (.getfield 15, 3) := by decide +kernel
theorem dX0_mark_49 : decode cX0_mark 49 = .ok (.iload 4, 2) := by decide +kernel
theorem dX0_mark_51 : decode cX0_mark 51 = .ok (.ior, 1) := by decide +kernel
theorem dX0_mark_52 : decode cX0_mark 52 = .ok (.goto 12, 3) := by decide +kernel
theorem dX0_mark_55 : decode cX0_mark 55 = .ok (.aload_n 0, 1) := by decide +kernel
theorem dX0_mark_56 : decode cX0_mark 56 = .ok (.getfield 15, 3) := by decide +kernel
theorem dX0_mark_59 : decode cX0_mark 59 = .ok (.iload 4, 2) := by decide +kernel
theorem dX0_mark_61 : decode cX0_mark 61 = .ok (.iconst (-1), 1) := by decide +kernel
theorem dX0_mark_62 : decode cX0_mark 62 = .ok (.ixor, 1) := by decide +kernel
theorem dX0_mark_63 : decode cX0_mark 63 = .ok (.iand, 1) := by decide +kernel
theorem dX0_mark_64 : decode cX0_mark 64 = .ok (.putfield 15, 3) := by decide +kernel
theorem dX0_mark_67 : decode cX0_mark 67 = .ok (.iload_n 3, 1) := by decide +kernel
theorem dX0_mark_68 : decode cX0_mark 68 = .ok (.ireturn, 1) := by decide +kernel
theorem dX0_limit_0 : decode cX0_limit 0 = .ok (.aload_n 0, 1) := by decide +kernel
theorem dX0_limit_1 : decode cX0_limit 1 = .ok (.getfield 18, 3) := by decide +kernel
theorem dX0_limit_4 : decode cX0_limit 4 = .ok (.istore_n 2, 1) := by decide +kernel
theorem dX0_limit_5 : decode cX0_limit 5 = .ok (.aload_n 0, 1) := by decide +kernel
theorem dX0_limit_6 : decode cX0_limit 6 = .ok (.iload_n 1, 1) := by decide +kernel
theorem dX0_limit_7 : decode cX0_limit 7 = .ok (.putfield 18, 3) := by decide +kernel
theorem dX0_limit_10 : decode cX0_limit 10 = .ok (.iload_n 2, 1) := by decide +kernel
theorem dX0_limit_11 : decode cX0_limit 11 = .ok (.ireturn, 1) := by decide +kernel
theorem dX0_allow_0 : decode cX0_allow 0 = .ok (.iload_n 1, 1) := by decide +kernel
theorem dX0_allow_1 : decode cX0_allow 1 = .ok (.aload_n 0, 1) := by decide +kernel
theorem dX0_allow_2 : decode cX0_allow 2 = .ok (.getfield 9, 3) := by decide +kernel
theorem dX0_allow_5 : decode cX0_allow 5 = .ok (.iand, 1) := by decide +kernel
theorem dX0_allow_6 : decode cX0_allow 6 = .ok (.aload_n 0, 1) := by decide +kernel
theorem dX0_allow_7 : decode cX0_allow 7 = .ok (.getfield 9, 3) := by decide +kernel
theorem dX0_allow_10 : decode cX0_allow 10 = .ok (.if_icmp .ne 32, 3) := by decide +kernel
theorem dX0_allow_13 : decode cX0_allow 13 = .ok (.iload_n 1, 1) := by decide +kernel
theorem dX0_allow_14 : decode cX0_allow 14 = .ok (.aload_n 0, 1) := by decide +kernel
theorem dX0_allow_15 : decode cX0_allow 15 = .ok (.getfield 15, 3) := by decide +kernel
theorem dX0_allow_18 : decode cX0_allow 18 = .ok (.iand, 1) := by decide +kernel
theorem dX0_allow_19 : decode cX0_allow 19 = .ok (.ifCond .ne 23, 3) := by decide +kernel
theorem dX0_allow_22 : decode cX0_allow 22 = .ok (.aload_n 0, 1) := by decide +kernel
theorem dX0_allow_23 : decode cX0_allow 23 = .ok (.getfield 18, 3) := by decide +kernel
theorem dX0_allow_26 : decode cX0_allow 26 = .ok (.iconst (-1), 1) := by decide +kernel
theorem dX0_allow_27 : decode cX0_allow 27 = .ok (.if_icmp .eq 11, 3) := by decide +kernel
theorem dX0_allow_30 : decode cX0_allow 30 = .ok (.iload_n 2, 1) := by decide +kernel
theorem dX0_allow_31 : decode cX0_allow 31 = .ok (.aload_n 0, 1) := by decide +kernel
theorem dX0_allow_32 : decode cX0_allow 32 = .ok (.getfield 18, 3) := by decide +kernel
theorem dX0_allow_35 : decode cX0_allow 35 = .ok (.if_icmp .gt 7, 3) := by decide +kernel
theorem dX0_allow_38 : decode cX0_allow 38 = .ok (.iconst 1, 1) := by decide +kernel
theorem dX0_allow_39 : decode cX0_allow 39 = .ok (.goto 4, 3) := by decide +kernel
theorem dX0_allow_42 : decode cX0_allow 42 = .ok (.iconst 0, 1) := by decide +kernel
theorem dX0_allow_43 : decode cX0_allow 43 = .ok (.ireturn, 1) := by decide +kernel
theorem dX1_init_0 : decode cX1_init 0 = .ok (.aload_n 0, 1) := by decide +kernel
theorem dX1_init_1 : decode cX1_init 1 = .ok (.invokespecial 3, 3) := by decide +kernel
theorem dX1_init_4 : decode cX1_init 4 = .ok (.aload_n 0, 1) := by decide +kernel
theorem dX1_init_5 : decode cX1_init 5 = .ok (.sipush 2048, 3) := by decide +kernel
theorem dX1_init_8 : decode cX1_init 8 = .ok (.newarray .int, 2) := by decide +kernel
theorem dX1_init_10 : decode cX1_init 10 = .ok (.putfield 9, 3) := by decide +kernel
theorem dX1_init_13 : decode cX1_init 13 = .ok (.aload_n 0, 1) := by decide +kernel
theorem dX1_init_14 : decode cX1_init 14 = .ok (.iconst 0, 1) := by decide +kernel
theorem dX1_init_15 : decode cX1_init 15 = .ok (.putfield 15, 3) := by decide +kernel
theorem dX1_init_18 : decode cX1_init 18 = .ok (.aload_n 0, 1) := by decide +kernel
theorem dX1_init_19 : decode cX1_init 19 = .ok (.iconst 0, 1) := by decide +kernel
theorem dX1_init_20 : decode cX1_init 20 = .ok (.putfield 19, 3) := by decide +kernel
theorem dX1_init_23 : decode cX1_init 23 = .ok (.return_, 1) := by decide +kernel
theorem dX1_isKnown_0 : decode cX1_isKnown 0 = .ok (.aload_n 0, 1) := by decide +kernel
theorem dX1_isKnown_1 : decode cX1_isKnown 1 = .ok (.getfield 19, 3) := by decide +kernel
theorem dX1_isKnown_4 : decode cX1_isKnown 4 = .ok (.ireturn, 1) := by decide +kernel
theorem dX1_forget_0 : decode cX1_forget 0 = .ok (.aload_n 0, 1) := by decide +kernel
theorem dX1_forget_1 : decode cX1_forget 1 = .ok (.iconst 0, 1) := by decide +kernel
theorem dX1_forget_2 : decode cX1_forget 2 = .ok (.putfield 19, 3) := by decide +kernel
theorem dX1_forget_5 : decode cX1_forget 5 = .ok (.return_, 1) := by decide +kernel
theorem dX1_restart_0 : decode cX1_restart 0 = .ok (.aload_n 0, 1) := by decide +kernel
theorem dX1_restart_1 : decode cX1_restart 1 = .ok (.iconst 0, 1) := by decide +kernel
theorem dX1_restart_2 : decode cX1_restart 2 = .ok (.putfield 15, 3) := by decide +kernel
theorem dX1_restart_5 : decode cX1_restart 5 = .ok (.aload_n 0, 1) := by decide +kernel
theorem dX1_restart_6 : decode cX1_restart 6 = .ok (.iconst 1, 1) := by decide +kernel
theorem dX1_restart_7 : decode cX1_restart 7 = .ok (.putfield 19, 3) := by decide +kernel
theorem dX1_restart_10 : decode cX1_restart 10 = .ok (.return_, 1) := by decide +kernel
theorem dX1_append_0 : decode cX1_append 0 = .ok (.aload_n 0, 1) := by decide +kernel
theorem dX1_append_1 : decode cX1_append 1 = .ok (.getfield 15, 3) := by decide +kernel
theorem dX1_append_4 : decode cX1_append 4 = .ok (.aload_n 0, 1) := by decide +kernel
theorem dX1_append_5 : decode cX1_append 5 = .ok (.getfield 9, 3) := by decide +kernel
theorem dX1_append_8 : decode cX1_append 8 = .ok (.arraylength, 1) := by decide +kernel
theorem dX1_append_9 : decode cX1_append 9 = .ok (.if_icmp .ge 23, 3) := by decide +kernel
theorem dX1_append_12 : decode cX1_append 12 = .ok (.aload_n 0, 1) := by decide +kernel
theorem dX1_append_13 : decode cX1_append 13 = .ok (.getfield 9, 3) := by decide +kernel
theorem dX1_append_16 : decode cX1_append 16 = .ok (.aload_n 0, 1) := by decide +kernel
theorem dX1_append_17 : decode cX1_append 17 = .ok (.getfield 15, 3) := by decide +kernel
theorem dX1_append_20 : decode cX1_append 20 = .ok (.iload_n 1, 1) := by decide +kernel
theorem dX1_append_21 : decode cX1_append 21 = .ok (.iastore, 1) := by decide +kernel
theorem dX1_append_22 : decode cX1_append 22 = .ok (.aload_n 0, 1) := by decide +kernel
theorem dX1_append_23 : decode cX1_append 23 = .ok (.dup, 1) := by decide +kernel
theorem dX1_append_24 : decode cX1_append 24 = .ok (.getfield 15, 3) := by decide +kernel
theorem dX1_append_27 : decode cX1_append 27 = .ok (.iconst 1, 1) := by decide +kernel
theorem dX1_append_28 : decode cX1_append 28 = .ok (.iadd, 1) := by decide +kernel
theorem dX1_append_29 : decode cX1_append 29 = .ok (.putfield 15, 3) := by decide +kernel
theorem dX1_append_32 : decode cX1_append 32 = .ok (.return_, 1) := by decide +kernel
theorem dX1_size_0 : decode cX1_size 0 = .ok (.aload_n 0, 1) := by decide +kernel
theorem dX1_size_1 : decode cX1_size 1 = .ok (.getfield 15, 3) := by decide +kernel
theorem dX1_size_4 : decode cX1_size 4 = .ok (.ireturn, 1) := by decide +kernel
theorem dX1_at_0 : decode cX1_at 0 = .ok (.aload_n 0, 1) := by decide +kernel
theorem dX1_at_1 : decode cX1_at 1 = .ok (.getfield 9, 3) := by decide +kernel
theorem dX1_at_4 : decode cX1_at 4 = .ok (.iload_n 1, 1) := by decide +kernel
theorem dX1_at_5 : decode cX1_at 5 = .ok (.iaload, 1) := by decide +kernel
theorem dX1_at_6 : decode cX1_at 6 = .ok (.ireturn, 1) := by decide +kernel
theorem dX1_common_0 : decode cX1_common 0 = .ok (.iconst (-1), 1) := by decide +kernel
theorem dX1_common_1 : decode cX1_common 1 = .ok (.istore_n 1, 1) := by decide +kernel
theorem dX1_common_2 : decode cX1_common 2 = .ok (.iconst 0, 1) := by decide +kernel
theorem dX1_common_3 : decode cX1_common 3 = .ok (.istore_n 2, 1) := by decide +kernel
theorem dX1_common_4 : decode cX1_common 4 = .ok (.iload_n 2, 1) := by decide +kernel
theorem dX1_common_5 : decode cX1_common 5 = .ok (.aload_n 0, 1) := by decide +kernel
theorem dX1_common_6 : decode cX1_common 6 = .ok (.getfield 15, 3) := by decide +kernel
theorem dX1_common_9 : decode cX1_common 9 = .ok (.if_icmp .ge 18, 3) := by decide +kernel
theorem dX1_common_12 : decode cX1_common 12 = .ok (.iload_n 1, 1) := by decide +kernel
theorem dX1_common_13 : decode cX1_common 13 = .ok (.aload_n 0, 1) := by decide +kernel
theorem dX1_common_14 : decode cX1_common 14 = .ok (.getfield 9, 3) := by decide +kernel
theorem dX1_common_17 : decode cX1_common 17 = .ok (.iload_n 2, 1) := by decide +kernel
theorem dX1_common_18 : decode cX1_common 18 = .ok (.iaload, 1) := by decide +kernel
theorem dX1_common_19 : decode cX1_common 19 = .ok (.iand, 1) := by decide +kernel
theorem dX1_common_20 : decode cX1_common 20 = .ok (.istore_n 1, 1) := by decide +kernel
theorem dX1_common_21 : decode cX1_common 21 = .ok (.iinc 2 1, 3) := by decide +kernel
theorem dX1_common_24 : decode cX1_common 24 = .ok (.goto (-20), 3) := by decide +kernel
theorem dX1_common_27 : decode cX1_common 27 = .ok (.iload_n 1, 1) := by decide +kernel
theorem dX1_common_28 : decode cX1_common 28 = .ok (.ireturn, 1) := by decide +kernel
theorem dX1_union_0 : decode cX1_union 0 = .ok (.iconst 0, 1) := by decide +kernel
theorem dX1_union_1 : decode cX1_union 1 = .ok (.istore_n 1, 1) := by decide +kernel
theorem dX1_union_2 : decode cX1_union 2 = .ok (.iconst 0, 1) := by decide +kernel
theorem dX1_union_3 : decode cX1_union 3 = .ok (.istore_n 2, 1) := by decide +kernel
theorem dX1_union_4 : decode cX1_union 4 = .ok (.iload_n 2, 1) := by decide +kernel
theorem dX1_union_5 : decode cX1_union 5 = .ok (.aload_n 0, 1) := by decide +kernel
theorem dX1_union_6 : decode cX1_union 6 = .ok (.getfield 15, 3) := by decide +kernel
theorem dX1_union_9 : decode cX1_union 9 = .ok (.if_icmp .ge 18, 3) := by decide +kernel
theorem dX1_union_12 : decode cX1_union 12 = .ok (.iload_n 1, 1) := by decide +kernel
theorem dX1_union_13 : decode cX1_union 13 = .ok (.aload_n 0, 1) := by decide +kernel
theorem dX1_union_14 : decode cX1_union 14 = .ok (.getfield 9, 3) := by decide +kernel
theorem dX1_union_17 : decode cX1_union 17 = .ok (.iload_n 2, 1) := by decide +kernel
theorem dX1_union_18 : decode cX1_union 18 = .ok (.iaload, 1) := by decide +kernel
theorem dX1_union_19 : decode cX1_union 19 = .ok (.ior, 1) := by decide +kernel
theorem dX1_union_20 : decode cX1_union 20 = .ok (.istore_n 1, 1) := by decide +kernel
theorem dX1_union_21 : decode cX1_union 21 = .ok (.iinc 2 1, 3) := by decide +kernel
theorem dX1_union_24 : decode cX1_union 24 = .ok (.goto (-20), 3) := by decide +kernel
theorem dX1_union_27 : decode cX1_union 27 = .ok (.iload_n 1, 1) := by decide +kernel
theorem dX1_union_28 : decode cX1_union 28 = .ok (.ireturn, 1) := by decide +kernel
set_option maxRecDepth 20000 in
theorem ggX1_countWith_X6_has : GoodIn wsX1_countWith wsX6_has := goodIn_r _ [5] (by decide +kernel) (by decide +kernel)
set_option maxRecDepth 20000 in
theorem gX1_countWith_X6_has_n23 : GoodIn wsX1_countWith (wsX6_has) := ggX1_countWith_X6_has
theorem dX1_countWith_0 : decode cX1_countWith 0 = .ok (.iconst 0, 1) := by decide +kernel
theorem dX1_countWith_1 : decode cX1_countWith 1 = .ok (.istore_n 2, 1) := by decide +kernel
theorem dX1_countWith_2 : decode cX1_countWith 2 = .ok (.iconst 0, 1) := by decide +kernel
theorem dX1_countWith_3 : decode cX1_countWith 3 = .ok (.istore_n 3, 1) := by decide +kernel
theorem dX1_countWith_4 : decode cX1_countWith 4 = .ok (.iload_n 3, 1) := by decide +kernel
theorem dX1_countWith_5 : decode cX1_countWith 5 = .ok (.aload_n 0, 1) := by decide +kernel
theorem dX1_countWith_6 : decode cX1_countWith 6 = .ok (.getfield 15, 3) := by decide +kernel
theorem dX1_countWith_9 : decode cX1_countWith 9 = .ok (.if_icmp .ge 25, 3) := by decide +kernel
theorem dX1_countWith_12 : decode cX1_countWith 12 = .ok (.aload_n 0, 1) := by decide +kernel
theorem dX1_countWith_13 : decode cX1_countWith 13 = .ok (.getfield 9, 3) := by decide +kernel
theorem dX1_countWith_16 : decode cX1_countWith 16 = .ok (.iload_n 3, 1) := by decide +kernel
theorem dX1_countWith_17 : decode cX1_countWith 17 = .ok (.iaload, 1) := by decide +kernel
theorem dX1_countWith_18 : decode cX1_countWith 18 = .ok (.iload_n 1, 1) := by decide +kernel
theorem dX1_countWith_19 : decode cX1_countWith 19 = .ok (.invokestatic 23, 3) := by decide +kernel
theorem dX1_countWith_22 : decode cX1_countWith 22 = .ok (.ifCond .eq 6, 3) := by decide +kernel
theorem dX1_countWith_25 : decode cX1_countWith 25 = .ok (.iinc 2 1, 3) := by decide +kernel
theorem dX1_countWith_28 : decode cX1_countWith 28 = .ok (.iinc 3 1, 3) := by decide +kernel
theorem dX1_countWith_31 : decode cX1_countWith 31 = .ok (.goto (-27), 3) := by decide +kernel
theorem dX1_countWith_34 : decode cX1_countWith 34 = .ok (.iload_n 2, 1) := by decide +kernel
theorem dX1_countWith_35 : decode cX1_countWith 35 = .ok (.ireturn, 1) := by decide +kernel
theorem dX2_init_0 : decode cX2_init 0 = .ok (.aload_n 0, 1) := by decide +kernel
theorem dX2_init_1 : decode cX2_init 1 = .ok (.invokespecial 3, 3) := by decide +kernel
theorem dX2_init_4 : decode cX2_init 4 = .ok (.aload_n 0, 1) := by decide +kernel
theorem dX2_init_5 : decode cX2_init 5 = .ok (.iconst 0, 1) := by decide +kernel
theorem dX2_init_6 : decode cX2_init 6 = .ok (.putfield 9, 3) := by decide +kernel
theorem dX2_init_9 : decode cX2_init 9 = .ok (.aload_n 0, 1) := by decide +kernel
theorem dX2_init_10 : decode cX2_init 10 = .ok (.iconst 0, 1) := by decide +kernel
theorem dX2_init_11 : decode cX2_init 11 = .ok (.putfield 15, 3) := by decide +kernel
theorem dX2_init_14 : decode cX2_init 14 = .ok (.aload_n 0, 1) := by decide +kernel
theorem dX2_init_15 : decode cX2_init 15 = .ok (.bipush 10, 2) := by decide +kernel
theorem dX2_init_17 : decode cX2_init 17 = .ok (.newarray .int, 2) := by decide +kernel
theorem dX2_init_19 : decode cX2_init 19 = .ok (.putfield 18, 3) := by decide +kernel
theorem dX2_init_22 : decode cX2_init 22 = .ok (.aload_n 0, 1) := by decide +kernel
theorem dX2_init_23 : decode cX2_init 23 = .ok (.bipush 10, 2) := by decide +kernel
theorem dX2_init_25 : decode cX2_init 25 = .ok (.newarray .int, 2) := by decide +kernel
theorem dX2_init_27 : decode cX2_init 27 = .ok (.putfield 22, 3) := by decide +kernel
theorem dX2_init_30 : decode cX2_init 30 = .ok (.aload_n 0, 1) := by decide +kernel
theorem dX2_init_31 : decode cX2_init 31 = .ok (.bipush 10, 2) := by decide +kernel
theorem dX2_init_33 : decode cX2_init 33 = .ok (.newarray .int, 2) := by decide +kernel
theorem dX2_init_35 : decode cX2_init 35 = .ok (.putfield 25, 3) := by decide +kernel
theorem dX2_init_38 : decode cX2_init 38 = .ok (.return_, 1) := by decide +kernel
theorem dX2_count_0 : decode cX2_count 0 = .ok (.aload_n 0, 1) := by decide +kernel
theorem dX2_count_1 : decode cX2_count 1 = .ok (.getfield 9, 3) := by decide +kernel
theorem dX2_count_4 : decode cX2_count 4 = .ok (.ireturn, 1) := by decide +kernel
theorem dX2_append_0 : decode cX2_append 0 = .ok (.aload_n 0, 1) := by decide +kernel
theorem dX2_append_1 : decode cX2_append 1 = .ok (.getfield 9, 3) := by decide +kernel
theorem dX2_append_4 : decode cX2_append 4 = .ok (.istore 4, 2) := by decide +kernel
theorem dX2_append_6 : decode cX2_append 6 = .ok (.aload_n 0, 1) := by decide +kernel
theorem dX2_append_7 : decode cX2_append 7 = .ok (.dup, 1) := by decide +kernel
theorem dX2_append_8 : decode cX2_append 8 = .ok (.getfield 9, 3) := by decide +kernel
theorem dX2_append_11 : decode cX2_append 11 = .ok (.iconst 1, 1) := by decide +kernel
theorem dX2_append_12 : decode cX2_append 12 = .ok (.iadd, 1) := by decide +kernel
theorem dX2_append_13 : decode cX2_append 13 = .ok (.putfield 9, 3) := by decide +kernel
theorem dX2_append_16 : decode cX2_append 16 = .ok (.aload_n 0, 1) := by decide +kernel
theorem dX2_append_17 : decode cX2_append 17 = .ok (.getfield 18, 3) := by decide +kernel
theorem dX2_append_20 : decode cX2_append 20 = .ok (.iload 4, 2) := by decide +kernel
theorem dX2_append_22 : decode cX2_append 22 = .ok (.iload_n 1, 1) := by decide +kernel
theorem dX2_append_23 : decode cX2_append 23 = .ok (.iastore, 1) := by decide +kernel
theorem dX2_append_24 : decode cX2_append 24 = .ok (.aload_n 0, 1) := by decide +kernel
theorem dX2_append_25 : decode cX2_append 25 = .ok (.getfield 22, 3) := by decide +kernel
theorem dX2_append_28 : decode cX2_append 28 = .ok (.iload 4, 2) := by decide +kernel
theorem dX2_append_30 : decode cX2_append 30 = .ok (.iload_n 2, 1) := by decide +kernel
theorem dX2_append_31 : decode cX2_append 31 = .ok (.iastore, 1) := by decide +kernel
theorem dX2_append_32 : decode cX2_append 32 = .ok (.aload_n 0, 1) := by decide +kernel
theorem dX2_append_33 : decode cX2_append 33 = .ok (.getfield 25, 3) := by decide +kernel
theorem dX2_append_36 : decode cX2_append 36 = .ok (.iload 4, 2) := by decide +kernel
theorem dX2_append_38 : decode cX2_append 38 = .ok (.iload_n 3, 1) := by decide +kernel
theorem dX2_append_39 : decode cX2_append 39 = .ok (.iastore, 1) := by decide +kernel
theorem dX2_append_40 : decode cX2_append 40 = .ok (.aload_n 0, 1) := by decide +kernel
theorem dX2_append_41 : decode cX2_append 41 = .ok (.dup, 1) := by decide +kernel
theorem dX2_append_42 : decode cX2_append 42 = .ok (.getfield 15, 3) := by decide +kernel
theorem dX2_append_45 : decode cX2_append 45 = .ok (.iconst 1, 1) := by decide +kernel
theorem dX2_append_46 : decode cX2_append 46 = .ok (.iload 4, 2) := by decide +kernel
theorem dX2_append_48 : decode cX2_append 48 = .ok (.ishl, 1) := by decide +kernel
theorem dX2_append_49 : decode cX2_append 49 = .ok (.ior, 1) := by decide +kernel
theorem dX2_append_50 : decode cX2_append 50 = .ok (.putfield 15, 3) := by decide +kernel
theorem dX2_append_53 : decode cX2_append 53 = .ok (.iload 4, 2) := by decide +kernel
theorem dX2_append_55 : decode cX2_append 55 = .ok (.ireturn, 1) := by decide +kernel
set_option maxRecDepth 20000 in
theorem ggX2_flip_X6_has : GoodIn wsX2_flip wsX6_has := goodIn_r _ [4] (by decide +kernel) (by decide +kernel)
set_option maxRecDepth 20000 in
theorem gX2_flip_X6_has_n28 : GoodIn wsX2_flip (wsX6_has) := ggX2_flip_X6_has
theorem dX2_flip_0 : decode cX2_flip 0 = .ok (.aload_n 0, 1) := by decide +kernel
theorem dX2_flip_1 : decode cX2_flip 1 = .ok (.getfield 15, 3) := by decide +kernel
theorem dX2_flip_4 : decode cX2_flip 4 = .ok (.iload_n 1, 1) := by decide +kernel
theorem dX2_flip_5 : decode cX2_flip 5 = .ok (.invokestatic 28, 3) := by decide +kernel
theorem dX2_flip_8 : decode cX2_flip 8 = .ok (.istore_n 3, 1) := by decide +kernel
theorem dX2_flip_9 : decode cX2_flip 9 = .ok (.aload_n 0, 1) := by decide +kernel
theorem dX2_flip_10 : decode cX2_flip 10 = .ok (.iload_n 2, 1) := by decide +kernel
theorem dX2_flip_11 : decode cX2_flip 11 = .ok (.ifCond .eq 14, 3) := by decide +kernel
theorem dX2_flip_14 : decode cX2_flip 14 = .ok (.aload_n 0, 1) := by decide +kernel
theorem dX2_flip_15 : decode cX2_flip 15 = .ok (.getfield 15, 3) := by decide +kernel
theorem dX2_flip_18 : decode cX2_flip 18 = .ok (.iconst 1, 1) := by decide +kernel
theorem dX2_flip_19 : decode cX2_flip 19 = .ok (.iload_n 1, 1) := by decide +kernel
theorem dX2_flip_20 : decode cX2_flip 20 = .ok (.ishl, 1) := by decide +kernel
theorem dX2_flip_21 : decode cX2_flip 21 = .ok (.ior, 1) := by decide +kernel
theorem dX2_flip_22 : decode cX2_flip 22 = .ok (.goto 13, 3) := by decide +kernel
theorem dX2_flip_25 : decode cX2_flip 25 = .ok (.aload_n 0, 1) := by decide +kernel
theorem dX2_flip_26 : decode cX2_flip 26 = .ok (.getfield 15, 3) := by decide +kernel
theorem dX2_flip_29 : decode cX2_flip 29 = .ok (.iconst 1, 1) := by decide +kernel
theorem dX2_flip_30 : decode cX2_flip 30 = .ok (.iload_n 1, 1) := by decide +kernel
theorem dX2_flip_31 : decode cX2_flip 31 = .ok (.ishl, 1) := by decide +kernel
theorem dX2_flip_32 : decode cX2_flip 32 = .ok (.iconst (-1), 1) := by decide +kernel
theorem dX2_flip_33 : decode cX2_flip 33 = .ok (.ixor, 1) := by decide +kernel
theorem dX2_flip_34 : decode cX2_flip 34 = .ok (.iand, 1) := by decide +kernel
theorem dX2_flip_35 : decode cX2_flip 35 = .ok (.putfield 15, 3) := by decide +kernel
theorem dX2_flip_38 : decode cX2_flip 38 = .ok (.iload_n 3, 1) := by decide +kernel
theorem dX2_flip_39 : decode cX2_flip 39 = .ok (.ireturn, 1) := by decide +kernel
set_option maxRecDepth 20000 in
theorem ggX2_brokenBy_X6_has : GoodIn wsX2_brokenBy wsX6_has := goodIn_r _ [5] (by decide +kernel) (by decide +kernel)
set_option maxRecDepth 20000 in
theorem gX2_brokenBy_X6_has_n28 : GoodIn wsX2_brokenBy (wsX6_has) := ggX2_brokenBy_X6_has
set_option maxRecDepth 20000 in
theorem ggX2_brokenBy_X2_forbids : GoodIn wsX2_brokenBy wsX2_forbids := goodIn_r _ [10, 11, 12, 13, 3, 4, 5, 14, 15, 16, 17, 18] (by decide +kernel) (by decide +kernel)
set_option maxRecDepth 20000 in
theorem gX2_brokenBy_X2_forbids : GoodIn wsX2_brokenBy (wsV RX2 32 RX2 yX2_forbids wsX2_forbids) := goodIn_app (goodIn_of _ (by decide +kernel)) ggX2_brokenBy_X2_forbids
theorem dX2_brokenBy_0 : decode cX2_brokenBy 0 = .ok (.iconst 0, 1) := by decide +kernel
theorem dX2_brokenBy_1 : decode cX2_brokenBy 1 = .ok (.istore_n 2, 1) := by decide +kernel
theorem dX2_brokenBy_2 : decode cX2_brokenBy 2 = .ok (.iconst 0, 1) := by decide +kernel
theorem dX2_brokenBy_3 : decode cX2_brokenBy 3 = .ok (.istore_n 3, 1) := by decide +kernel
theorem dX2_brokenBy_4 : decode cX2_brokenBy 4 = .ok (.iload_n 3, 1) := by decide +kernel
theorem dX2_brokenBy_5 : decode cX2_brokenBy 5 = .ok (.aload_n 0, 1) := by decide +kernel
theorem dX2_brokenBy_6 : decode cX2_brokenBy 6 = .ok (.getfield 9, 3) := by decide +kernel
theorem dX2_brokenBy_9 : decode cX2_brokenBy 9 = .ok (.if_icmp .ge 35, 3) := by decide +kernel
theorem dX2_brokenBy_12 : decode cX2_brokenBy 12 = .ok (.aload_n 0, 1) := by decide +kernel
theorem dX2_brokenBy_13 : decode cX2_brokenBy 13 = .ok (.getfield 15, 3) := by decide +kernel
theorem dX2_brokenBy_16 : decode cX2_brokenBy 16 = .ok (.iload_n 3, 1) := by decide +kernel
theorem dX2_brokenBy_17 : decode cX2_brokenBy 17 = .ok (.invokestatic 28, 3) := by decide +kernel
theorem dX2_brokenBy_20 : decode cX2_brokenBy 20 = .ok (.ifCond .eq 18, 3) := by decide +kernel
theorem dX2_brokenBy_23 : decode cX2_brokenBy 23 = .ok (.aload_n 0, 1) := by decide +kernel
theorem dX2_brokenBy_24 : decode cX2_brokenBy 24 = .ok (.iload_n 3, 1) := by decide +kernel
theorem dX2_brokenBy_25 : decode cX2_brokenBy 25 = .ok (.iload_n 1, 1) := by decide +kernel
theorem dX2_brokenBy_26 : decode cX2_brokenBy 26 = .ok (.invokevirtual 32, 3) := by decide +kernel
theorem dX2_brokenBy_29 : decode cX2_brokenBy 29 = .ok (.ifCond .eq 9, 3) := by decide +kernel
theorem dX2_brokenBy_32 : decode cX2_brokenBy 32 = .ok (.iload_n 2, 1) := by decide +kernel
theorem dX2_brokenBy_33 : decode cX2_brokenBy 33 = .ok (.iconst 1, 1) := by decide +kernel
theorem dX2_brokenBy_34 : decode cX2_brokenBy 34 = .ok (.iload_n 3, 1) := by decide +kernel
theorem dX2_brokenBy_35 : decode cX2_brokenBy 35 = .ok (.ishl, 1) := by decide +kernel
theorem dX2_brokenBy_36 : decode cX2_brokenBy 36 = .ok (.ior, 1) := by decide +kernel
theorem dX2_brokenBy_37 : decode cX2_brokenBy 37 = .ok (.istore_n 2, 1) := by decide +kernel
theorem dX2_brokenBy_38 : decode cX2_brokenBy 38 = .ok (.iinc 3 1, 3) := by decide +kernel
theorem dX2_brokenBy_41 : decode cX2_brokenBy 41 = .ok (.goto (-37), 3) := by decide +kernel
theorem dX2_brokenBy_44 : decode cX2_brokenBy 44 = .ok (.iload_n 2, 1) := by decide +kernel
theorem dX2_brokenBy_45 : decode cX2_brokenBy 45 = .ok (.ireturn, 1) := by decide +kernel
set_option maxRecDepth 20000 in
theorem ggX2_forbids_X6_has : GoodIn wsX2_forbids wsX6_has := goodIn_r _ [6] (by decide +kernel) (by decide +kernel)
set_option maxRecDepth 20000 in
theorem gX2_forbids_X6_has_n28 : GoodIn wsX2_forbids (wsX6_has) := ggX2_forbids_X6_has
theorem dX2_forbids_0 : decode cX2_forbids 0 = .ok (.aload_n 0, 1) := by decide +kernel
theorem dX2_forbids_1 : decode cX2_forbids 1 = .ok (.getfield 18, 3) := by decide +kernel
theorem dX2_forbids_4 : decode cX2_forbids 4 = .ok (.iload_n 1, 1) := by decide +kernel
theorem dX2_forbids_5 : decode cX2_forbids 5 = .ok (.iaload, 1) := by decide +kernel
theorem dX2_forbids_6 : decode cX2_forbids 6 = .ok (.ifCond .ne 7, 3) := by decide +kernel
theorem dX2_forbids_9 : decode cX2_forbids 9 = .ok (.iconst 1, 1) := by decide +kernel
theorem dX2_forbids_10 : decode cX2_forbids 10 = .ok (.goto 4, 3) := by decide +kernel
theorem dX2_forbids_13 : decode cX2_forbids 13 = .ok (.iconst 0, 1) := by decide +kernel
theorem dX2_forbids_14 : decode cX2_forbids 14 = .ok (.istore_n 3, 1) := by decide +kernel
theorem dX2_forbids_15 : decode cX2_forbids 15 = .ok (.iload_n 2, 1) := by decide +kernel
theorem dX2_forbids_16 : decode cX2_forbids 16 = .ok (.aload_n 0, 1) := by decide +kernel
theorem dX2_forbids_17 : decode cX2_forbids 17 = .ok (.getfield 22, 3) := by decide +kernel
theorem dX2_forbids_20 : decode cX2_forbids 20 = .ok (.iload_n 1, 1) := by decide +kernel
theorem dX2_forbids_21 : decode cX2_forbids 21 = .ok (.iaload, 1) := by decide +kernel
theorem dX2_forbids_22 : decode cX2_forbids 22 = .ok (.invokestatic 28, 3) := by decide +kernel
theorem dX2_forbids_25 : decode cX2_forbids 25 = .ok (.ifCond .eq 21, 3) := by decide +kernel
theorem dX2_forbids_28 : decode cX2_forbids 28 = .ok (.iload_n 2, 1) := by decide +kernel
theorem dX2_forbids_29 : decode cX2_forbids 29 = .ok (.aload_n 0, 1) := by decide +kernel
theorem dX2_forbids_30 : decode cX2_forbids 30 = .ok (.getfield 25, 3) := by decide +kernel
theorem dX2_forbids_33 : decode cX2_forbids 33 = .ok (.iload_n 1, 1) := by decide +kernel
theorem dX2_forbids_34 : decode cX2_forbids 34 = .ok (.iaload, 1) := by decide +kernel
theorem dX2_forbids_35 : decode cX2_forbids 35 = .ok (.invokestatic 28, 3) := by decide +kernel
theorem dX2_forbids_38 : decode cX2_forbids 38 = .ok (.iload_n 3, 1) := by decide +kernel
theorem dX2_forbids_39 : decode cX2_forbids 39 = .ok (.if_icmp .eq 7, 3) := by decide +kernel
theorem dX2_forbids_42 : decode cX2_forbids 42 = .ok (.iconst 1, 1) := by decide +kernel
theorem dX2_forbids_43 : decode cX2_forbids 43 = .ok (.goto 4, 3) := by decide +kernel
theorem dX2_forbids_46 : decode cX2_forbids 46 = .ok (.iconst 0, 1) := by decide +kernel
theorem dX2_forbids_47 : decode cX2_forbids 47 = .ok (.ireturn, 1) := by decide +kernel
theorem dX3_init_0 : decode cX3_init 0 = .ok (.aload_n 0, 1) := by decide +kernel
theorem dX3_init_1 : decode cX3_init 1 = .ok (.invokespecial 3, 3) := by decide +kernel
theorem dX3_init_4 : decode cX3_init 4 = .ok (.aload_n 0, 1) := by decide +kernel
theorem dX3_init_5 : decode cX3_init 5 = .ok (.iconst 1, 1) := by decide +kernel
theorem dX3_init_6 : decode cX3_init 6 = .ok (.putfield 9, 3) := by decide +kernel
theorem dX3_init_9 : decode cX3_init 9 = .ok (.aload_n 0, 1) := by decide +kernel
theorem dX3_init_10 : decode cX3_init 10 = .ok (.bipush 12, 2) := by decide +kernel
theorem dX3_init_12 : decode cX3_init 12 = .ok (.newarray .int, 2) := by decide +kernel
theorem dX3_init_14 : decode cX3_init 14 = .ok (.putfield 15, 3) := by decide +kernel
theorem dX3_init_17 : decode cX3_init 17 = .ok (.aload_n 0, 1) := by decide +kernel
theorem dX3_init_18 : decode cX3_init 18 = .ok (.bipush 12, 2) := by decide +kernel
theorem dX3_init_20 : decode cX3_init 20 = .ok (.newarray .int, 2) := by decide +kernel
theorem dX3_init_22 : decode cX3_init 22 = .ok (.putfield 19, 3) := by decide +kernel
theorem dX3_init_25 : decode cX3_init 25 = .ok (.aload_n 0, 1) := by decide +kernel
theorem dX3_init_26 : decode cX3_init 26 = .ok (.bipush 12, 2) := by decide +kernel
theorem dX3_init_28 : decode cX3_init 28 = .ok (.newarray .int, 2) := by decide +kernel
theorem dX3_init_30 : decode cX3_init 30 = .ok (.putfield 22, 3) := by decide +kernel
theorem dX3_init_33 : decode cX3_init 33 = .ok (.aload_n 0, 1) := by decide +kernel
theorem dX3_init_34 : decode cX3_init 34 = .ok (.bipush 12, 2) := by decide +kernel
theorem dX3_init_36 : decode cX3_init 36 = .ok (.newarray .int, 2) := by decide +kernel
theorem dX3_init_38 : decode cX3_init 38 = .ok (.putfield 25, 3) := by decide +kernel
theorem dX3_init_41 : decode cX3_init 41 = .ok (.aload_n 0, 1) := by decide +kernel
theorem dX3_init_42 : decode cX3_init 42 = .ok (.bipush 12, 2) := by decide +kernel
theorem dX3_init_44 : decode cX3_init 44 = .ok (.newarray .int, 2) := by decide +kernel
theorem dX3_init_46 : decode cX3_init 46 = .ok (.putfield 28, 3) := by decide +kernel
theorem dX3_init_49 : decode cX3_init 49 = .ok (.aload_n 0, 1) := by decide +kernel
theorem dX3_init_50 : decode cX3_init 50 = .ok (.iconst 4, 1) := by decide +kernel
theorem dX3_init_51 : decode cX3_init 51 = .ok (.bipush 12, 2) := by decide +kernel
theorem dX3_init_53 : decode cX3_init 53 = .ok (.multianewarray 31 2, 4) := by decide +kernel
theorem dX3_init_57 : decode cX3_init 57 = .ok (.putfield 33, 3) := by decide +kernel
theorem dX3_init_60 : decode cX3_init 60 = .ok (.return_, 1) := by decide +kernel
theorem dX3_count_0 : decode cX3_count 0 = .ok (.aload_n 0, 1) := by decide +kernel
theorem dX3_count_1 : decode cX3_count 1 = .ok (.getfield 9, 3) := by decide +kernel
theorem dX3_count_4 : decode cX3_count 4 = .ok (.ireturn, 1) := by decide +kernel
theorem dX3_all_0 : decode cX3_all 0 = .ok (.iconst 1, 1) := by decide +kernel
theorem dX3_all_1 : decode cX3_all 1 = .ok (.aload_n 0, 1) := by decide +kernel
theorem dX3_all_2 : decode cX3_all 2 = .ok (.getfield 9, 3) := by decide +kernel
theorem dX3_all_5 : decode cX3_all 5 = .ok (.ishl, 1) := by decide +kernel
theorem dX3_all_6 : decode cX3_all 6 = .ok (.iconst 1, 1) := by decide +kernel
theorem dX3_all_7 : decode cX3_all 7 = .ok (.isub, 1) := by decide +kernel
theorem dX3_all_8 : decode cX3_all 8 = .ok (.ireturn, 1) := by decide +kernel
theorem dX3_append_0 : decode cX3_append 0 = .ok (.aload_n 0, 1) := by decide +kernel
theorem dX3_append_1 : decode cX3_append 1 = .ok (.getfield 9, 3) := by decide +kernel
theorem dX3_append_4 : decode cX3_append 4 = .ok (.istore_n 3, 1) := by decide +kernel
theorem dX3_append_5 : decode cX3_append 5 = .ok (.aload_n 0, 1) := by decide +kernel
theorem dX3_append_6 : decode cX3_append 6 = .ok (.dup, 1) := by decide +kernel
theorem dX3_append_7 : decode cX3_append 7 = .ok (.getfield 9, 3) := by decide +kernel
theorem dX3_append_10 : decode cX3_append 10 = .ok (.iconst 1, 1) := by decide +kernel
theorem dX3_append_11 : decode cX3_append 11 = .ok (.iadd, 1) := by decide +kernel
theorem dX3_append_12 : decode cX3_append 12 = .ok (.putfield 9, 3) := by decide +kernel
theorem dX3_append_15 : decode cX3_append 15 = .ok (.aload_n 0, 1) := by decide +kernel
theorem dX3_append_16 : decode cX3_append 16 = .ok (.getfield 15, 3) := by decide +kernel
theorem dX3_append_19 : decode cX3_append 19 = .ok (.iload_n 3, 1) := by decide +kernel
theorem dX3_append_20 : decode cX3_append 20 = .ok (.iload_n 1, 1) := by decide +kernel
theorem dX3_append_21 : decode cX3_append 21 = .ok (.iastore, 1) := by decide +kernel
theorem dX3_append_22 : decode cX3_append 22 = .ok (.aload_n 0, 1) := by decide +kernel
theorem dX3_append_23 : decode cX3_append 23 = .ok (.getfield 19, 3) := by decide +kernel
theorem dX3_append_26 : decode cX3_append 26 = .ok (.iload_n 3, 1) := by decide +kernel
theorem dX3_append_27 : decode cX3_append 27 = .ok (.iload_n 2, 1) := by decide +kernel
theorem dX3_append_28 : decode cX3_append 28 = .ok (.iastore, 1) := by decide +kernel
theorem dX3_append_29 : decode cX3_append 29 = .ok (.aload_n 0, 1) := by decide +kernel
theorem dX3_append_30 : decode cX3_append 30 = .ok (.getfield 28, 3) := by decide +kernel
theorem dX3_append_33 : decode cX3_append 33 = .ok (.iload_n 1, 1) := by decide +kernel
theorem dX3_append_34 : decode cX3_append 34 = .ok (.dup2, 1) := by decide +kernel
theorem dX3_append_35 : decode cX3_append 35 = .ok (.iaload, 1) := by decide +kernel
theorem dX3_append_36 : decode cX3_append 36 = .ok (.iconst 1, 1) := by decide +kernel
theorem dX3_append_37 : decode cX3_append 37 = .ok (.iload_n 3, 1) := by decide +kernel
theorem dX3_append_38 : decode cX3_append 38 = .ok (.ishl, 1) := by decide +kernel
theorem dX3_append_39 : decode cX3_append 39 = .ok (.ior, 1) := by decide +kernel
theorem dX3_append_40 : decode cX3_append 40 = .ok (.iastore, 1) := by decide +kernel
theorem dX3_append_41 : decode cX3_append 41 = .ok (.aload_n 0, 1) := by decide +kernel
theorem dX3_append_42 : decode cX3_append 42 = .ok (.getfield 33, 3) := by decide +kernel
theorem dX3_append_45 : decode cX3_append 45 = .ok (.iload_n 2, 1) := by decide +kernel
theorem dX3_append_46 : decode cX3_append 46 = .ok (.aaload, 1) := by decide +kernel
theorem dX3_append_47 : decode cX3_append 47 = .ok (.iload_n 1, 1) := by decide +kernel
theorem dX3_append_48 : decode cX3_append 48 = .ok (.dup2, 1) := by decide +kernel
theorem dX3_append_49 : decode cX3_append 49 = .ok (.iaload, 1) := by decide +kernel
theorem dX3_append_50 : decode cX3_append 50 = .ok (.iconst 1, 1) := by decide +kernel
theorem dX3_append_51 : decode cX3_append 51 = .ok (.iload_n 3, 1) := by decide +kernel
theorem dX3_append_52 : decode cX3_append 52 = .ok (.ishl, 1) := by decide +kernel
theorem dX3_append_53 : decode cX3_append 53 = .ok (.ior, 1) := by decide +kernel
theorem dX3_append_54 : decode cX3_append 54 = .ok (.iastore, 1) := by decide +kernel
theorem dX3_append_55 : decode cX3_append 55 = .ok (.iload_n 3, 1) := by decide +kernel
theorem dX3_append_56 : decode cX3_append 56 = .ok (.ireturn, 1) := by decide +kernel
theorem dX3_rate_0 : decode cX3_rate 0 = .ok (.aload_n 0, 1) := by decide +kernel
theorem dX3_rate_1 : decode cX3_rate 1 = .ok (.getfield 22, 3) := by decide +kernel
theorem dX3_rate_4 : decode cX3_rate 4 = .ok (.iload_n 1, 1) := by decide +kernel
theorem dX3_rate_5 : decode cX3_rate 5 = .ok (.iaload, 1) := by decide +kernel
theorem dX3_rate_6 : decode cX3_rate 6 = .ok (.iload_n 2, 1) := by decide +kernel
theorem dX3_rate_7 : decode cX3_rate 7 = .ok (.if_icmp .ne 13, 3) := by decide +kernel
theorem dX3_rate_10 : decode cX3_rate 10 = .ok (.aload_n 0, 1) := by decide +kernel
theorem dX3_rate_11 : decode cX3_rate 11 = .ok (.getfield 25, 3) := by decide +kernel
theorem dX3_rate_14 : decode cX3_rate 14 = .ok (.iload_n 1, 1) := by decide +kernel
theorem dX3_rate_15 : decode cX3_rate 15 = .ok (.iaload, 1) := by decide +kernel
theorem dX3_rate_16 : decode cX3_rate 16 = .ok (.iload_n 3, 1) := by decide +kernel
theorem dX3_rate_17 : decode cX3_rate 17 = .ok (.if_icmp .eq 7, 3) := by decide +kernel
theorem dX3_rate_20 : decode cX3_rate 20 = .ok (.iconst 1, 1) := by decide +kernel
theorem dX3_rate_21 : decode cX3_rate 21 = .ok (.goto 4, 3) := by decide +kernel
theorem dX3_rate_24 : decode cX3_rate 24 = .ok (.iconst 0, 1) := by decide +kernel
theorem dX3_rate_25 : decode cX3_rate 25 = .ok (.istore 4, 2) := by decide +kernel
theorem dX3_rate_27 : decode cX3_rate 27 = .ok (.aload_n 0, 1) := by decide +kernel
theorem dX3_rate_28 : decode cX3_rate 28 = .ok (.getfield 22, 3) := by decide +kernel
theorem dX3_rate_31 : decode cX3_rate 31 = .ok (.iload_n 1, 1) := by decide +kernel
theorem dX3_rate_32 : decode cX3_rate 32 = .ok (.iload_n 2, 1) := by decide +kernel
theorem dX3_rate_33 : decode cX3_rate 33 = .ok (.iastore, 1) := by decide +kernel
theorem dX3_rate_34 : decode cX3_rate 34 = .ok (.aload_n 0, 1) := by decide +kernel
theorem dX3_rate_35 : decode cX3_rate 35 = .ok (.getfield 25, 3) := by decide +kernel
theorem dX3_rate_38 : decode cX3_rate 38 = .ok (.iload_n 1, 1) := by decide +kernel
theorem dX3_rate_39 : decode cX3_rate 39 = .ok (.iload_n 3, 1) := by decide +kernel
theorem dX3_rate_40 : decode cX3_rate 40 = .ok (.iastore, 1) := by decide +kernel
theorem dX3_rate_41 : decode cX3_rate 41 = .ok (.iload 4, 2) := by decide +kernel
theorem dX3_rate_43 : decode cX3_rate 43 = .ok (.ireturn, 1) := by decide +kernel
set_option maxRecDepth 20000 in
theorem ggX3_costSum_X3_sumOver : GoodIn wsX3_costSum wsX3_sumOver := goodIn_r _ [6, 7, 8, 9, 10, 11, 12, 13, 14, 15, 16, 17] (by decide +kernel) (by decide +kernel)
set_option maxRecDepth 20000 in
theorem gX3_costSum_X3_sumOver : GoodIn wsX3_costSum (wsV RX3 36 RX3 yX3_sumOver wsX3_sumOver) := goodIn_app (goodIn_of _ (by decide +kernel)) ggX3_costSum_X3_sumOver
theorem dX3_costSum_0 : decode cX3_costSum 0 = .ok (.aload_n 0, 1) := by decide +kernel
theorem dX3_costSum_1 : decode cX3_costSum 1 = .ok (.iload_n 1, 1) := by decide +kernel
theorem dX3_costSum_2 : decode cX3_costSum 2 = .ok (.aload_n 0, 1) := by decide +kernel
theorem dX3_costSum_3 : decode cX3_costSum 3 = .ok (.getfield 22, 3) := by decide +kernel
theorem dX3_costSum_6 : decode cX3_costSum 6 = .ok (.invokevirtual 36, 3) := by decide +kernel
theorem dX3_costSum_9 : decode cX3_costSum 9 = .ok (.ireturn, 1) := by decide +kernel
set_option maxRecDepth 20000 in
theorem ggX3_sumOver_X6_has : GoodIn wsX3_sumOver wsX6_has := goodIn_r _ [4] (by decide +kernel) (by decide +kernel)
set_option maxRecDepth 20000 in
theorem gX3_sumOver_X6_has_n40 : GoodIn wsX3_sumOver (wsX6_has) := ggX3_sumOver_X6_has
theorem dX3_sumOver_0 : decode cX3_sumOver 0 = .ok (.iconst 0, 1) := by decide +kernel
theorem dX3_sumOver_1 : decode cX3_sumOver 1 = .ok (.istore_n 3, 1) := by decide +kernel
theorem dX3_sumOver_2 : decode cX3_sumOver 2 = .ok (.iconst 0, 1) := by decide +kernel
theorem dX3_sumOver_3 : decode cX3_sumOver 3 = .ok (.istore 4, 2) := by decide +kernel
theorem dX3_sumOver_5 : decode cX3_sumOver 5 = .ok (.iload 4, 2) := by decide +kernel
theorem dX3_sumOver_7 : decode cX3_sumOver 7 = .ok (.aload_n 0, 1) := by decide +kernel
theorem dX3_sumOver_8 : decode cX3_sumOver 8 = .ok (.getfield 9, 3) := by decide +kernel
theorem dX3_sumOver_11 : decode cX3_sumOver 11 = .ok (.if_icmp .ge 25, 3) := by decide +kernel
theorem dX3_sumOver_14 : decode cX3_sumOver 14 = .ok (.iload_n 1, 1) := by decide +kernel
theorem dX3_sumOver_15 : decode cX3_sumOver 15 = .ok (.iload 4, 2) := by decide +kernel
theorem dX3_sumOver_17 : decode cX3_sumOver 17 = .ok (.invokestatic 40, 3) := by decide +kernel
theorem dX3_sumOver_20 : decode cX3_sumOver 20 = .ok (.ifCond .eq 10, 3) := by decide +kernel
theorem dX3_sumOver_23 : decode cX3_sumOver 23 = .ok (.iload_n 3, 1) := by decide +kernel
theorem dX3_sumOver_24 : decode cX3_sumOver 24 = .ok (.aload_n 2, 1) := by decide +kernel
theorem dX3_sumOver_25 : decode cX3_sumOver 25 = .ok (.iload 4, 2) := by decide +kernel
theorem dX3_sumOver_27 : decode cX3_sumOver 27 = .ok (.iaload, 1) := by decide +kernel
theorem dX3_sumOver_28 : decode cX3_sumOver 28 = .ok (.iadd, 1) := by decide +kernel
theorem dX3_sumOver_29 : decode cX3_sumOver 29 = .ok (.istore_n 3, 1) := by decide +kernel
theorem dX3_sumOver_30 : decode cX3_sumOver 30 = .ok (.iinc 4 1, 3) := by decide +kernel
theorem dX3_sumOver_33 : decode cX3_sumOver 33 = .ok (.goto (-28), 3) := by decide +kernel
theorem dX3_sumOver_36 : decode cX3_sumOver 36 = .ok (.iload_n 3, 1) := by decide +kernel
theorem dX3_sumOver_37 : decode cX3_sumOver 37 = .ok (.ireturn, 1) := by decide +kernel
set_option maxRecDepth 20000 in
theorem ggX3_countBroken_X6_has : GoodIn wsX3_countBroken wsX6_has := goodIn_r _ [5] (by decide +kernel) (by decide +kernel)
set_option maxRecDepth 20000 in
theorem gX3_countBroken_X6_has_n40 : GoodIn wsX3_countBroken (wsX6_has) := ggX3_countBroken_X6_has
set_option maxRecDepth 20000 in
theorem ggX3_countBroken_X3_countBrokenBelow : GoodIn wsX3_countBroken wsX3_countBrokenBelow := goodIn_r _ [10, 11, 12, 13, 14, 15, 16, 17, 18, 19, 20, 21, 22, 23, 24, 25] (by decide +kernel) (by decide +kernel)
set_option maxRecDepth 20000 in
theorem gX3_countBroken_X3_countBrokenBelow : GoodIn wsX3_countBroken (wsV RX3 44 RX3 yX3_countBrokenBelow wsX3_countBrokenBelow) := goodIn_app (goodIn_of _ (by decide +kernel)) ggX3_countBroken_X3_countBrokenBelow
set_option maxRecDepth 20000 in
theorem ggX3_countBroken_J6_bitCount_0f7a4 : GoodIn wsX3_countBroken wsJ6_bitCount_0f7a4 := goodIn_r _ [15, 16, 17, 18] (by decide +kernel) (by decide +kernel)
set_option maxRecDepth 20000 in
theorem gX3_countBroken_J6_bitCount_0f7a4 : GoodIn wsX3_countBroken (va_wsS RX3 48 yJ6_bitCount_0f7a4 wsJ6_bitCount_0f7a4) := goodIn_app (goodIn_of _ (by decide +kernel)) ggX3_countBroken_J6_bitCount_0f7a4
theorem dX3_countBroken_0 : decode cX3_countBroken 0 = .ok (.iload_n 1, 1) := by decide +kernel
theorem dX3_countBroken_1 : decode cX3_countBroken 1 = .ok (.iconst 0, 1) := by decide +kernel
theorem dX3_countBroken_2 : decode cX3_countBroken 2 = .ok (.invokestatic 40, 3) := by decide +kernel
theorem dX3_countBroken_5 : decode cX3_countBroken 5 = .ok (.ifCond .eq 7, 3) := by decide +kernel
theorem dX3_countBroken_8 : decode cX3_countBroken 8 = .ok (.iconst 0, 1) := by decide +kernel
theorem dX3_countBroken_9 : decode cX3_countBroken 9 = .ok (.goto 4, 3) := by decide +kernel
theorem dX3_countBroken_12 : decode cX3_countBroken 12 = .ok (.iconst 1, 1) := by decide +kernel
theorem dX3_countBroken_13 : decode cX3_countBroken 13 = .ok (.istore_n 2, 1) := by decide +kernel
theorem dX3_countBroken_14 : decode cX3_countBroken 14 = .ok (.iconst 1, 1) := by decide +kernel
theorem dX3_countBroken_15 : decode cX3_countBroken 15 = .ok (.istore_n 3, 1) := by decide +kernel
theorem dX3_countBroken_16 : decode cX3_countBroken 16 = .ok (.iconst 0, 1) := by decide +kernel
theorem dX3_countBroken_17 : decode cX3_countBroken 17 = .ok (.istore 4, 2) := by decide +kernel
theorem dX3_countBroken_19 : decode cX3_countBroken 19 = .ok (.iload 4, 2) := by decide +kernel
theorem dX3_countBroken_21 : decode cX3_countBroken 21 = .ok (.aload_n 0, 1) := by decide +kernel
theorem dX3_countBroken_22 : decode cX3_countBroken 22 = .ok (.getfield 9, 3) := by decide +kernel
theorem dX3_countBroken_25 : decode cX3_countBroken 25 = .ok (.if_icmp .ge 38, 3) := by decide +kernel
theorem dX3_countBroken_28 : decode cX3_countBroken 28 = .ok (.iload_n 1, 1) := by decide +kernel
theorem dX3_countBroken_29 : decode cX3_countBroken 29 = .ok (.iload 4, 2) := by decide +kernel
theorem dX3_countBroken_31 : decode cX3_countBroken 31 = .ok (.invokestatic 40, 3) := by decide +kernel
theorem dX3_countBroken_34 : decode cX3_countBroken 34 = .ok (.ifCond .eq 23, 3) := by decide +kernel
theorem dX3_countBroken_37 : decode cX3_countBroken 37 = .ok (.iload_n 3, 1) := by decide +kernel
theorem dX3_countBroken_38 : decode cX3_countBroken 38 = .ok (.aload_n 0, 1) := by decide +kernel
theorem dX3_countBroken_39 : decode cX3_countBroken 39 = .ok (.getfield 28, 3) := by decide +kernel
theorem dX3_countBroken_42 : decode cX3_countBroken 42 = .ok (.iload 4, 2) := by decide +kernel
theorem dX3_countBroken_44 : decode cX3_countBroken 44 = .ok (.iaload, 1) := by decide +kernel
theorem dX3_countBroken_45 : decode cX3_countBroken 45 = .ok (.ior, 1) := by decide +kernel
theorem dX3_countBroken_46 : decode cX3_countBroken 46 = .ok (.istore_n 3, 1) := by decide +kernel
theorem dX3_countBroken_47 : decode cX3_countBroken 47 = .ok (.iload_n 2, 1) := by decide +kernel
theorem dX3_countBroken_48 : decode cX3_countBroken 48 = .ok (.aload_n 0, 1) := by decide +kernel
theorem dX3_countBroken_49 : decode cX3_countBroken 49 = .ok (.iload 4, 2) := by decide +kernel
theorem dX3_countBroken_51 : decode cX3_countBroken 51 = .ok (.iload_n 1, 1) := by decide +kernel
theorem dX3_countBroken_52 : decode cX3_countBroken 52 = .ok (.invokevirtual 44, 3) := by decide +kernel
theorem dX3_countBroken_55 : decode cX3_countBroken 55 = .ok (.iadd, 1) := by decide +kernel
theorem dX3_countBroken_56 : decode cX3_countBroken 56 = .ok (.istore_n 2, 1) := by decide +kernel
theorem dX3_countBroken_57 : decode cX3_countBroken 57 = .ok (.iinc 4 1, 3) := by decide +kernel
theorem dX3_countBroken_60 : decode cX3_countBroken 60 = .ok (.goto (-41), 3) := by decide +kernel
theorem dX3_countBroken_63 : decode cX3_countBroken 63 = .ok (.iload_n 2, 1) := by decide +kernel
theorem dX3_countBroken_64 : decode cX3_countBroken 64 = .ok (.iload_n 1, 1) := by decide +kernel
theorem dX3_countBroken_65 : decode cX3_countBroken 65 = .ok (.iload_n 3, 1) := by decide +kernel
theorem dX3_countBroken_66 : decode cX3_countBroken 66 = .ok (.iconst (-1), 1) := by decide +kernel
theorem dX3_countBroken_67 : decode cX3_countBroken 67 = .ok (.ixor, 1) := by decide +kernel
theorem dX3_countBroken_68 : decode cX3_countBroken 68 = .ok (.iand, 1) := by decide +kernel
theorem dX3_countBroken_69 : decode cX3_countBroken 69 = .ok (.invokestatic 48, 3) := by decide +kernel
theorem dX3_countBroken_72 : decode cX3_countBroken 72 = .ok (.iadd, 1) := by decide +kernel
theorem dX3_countBroken_73 : decode cX3_countBroken 73 = .ok (.ireturn, 1) := by decide +kernel
set_option maxRecDepth 20000 in
theorem ggX3_countBrokenBelow_J6_bitCount_0f7a4 : GoodIn wsX3_countBrokenBelow wsJ6_bitCount_0f7a4 := goodIn_r _ [5, 6, 7, 8] (by decide +kernel) (by decide +kernel)
set_option maxRecDepth 20000 in
theorem gX3_countBrokenBelow_J6_bitCount_0f7a4 : GoodIn wsX3_countBrokenBelow (va_wsS RX3 48 yJ6_bitCount_0f7a4 wsJ6_bitCount_0f7a4) := goodIn_app (goodIn_of _ (by decide +kernel)) ggX3_countBrokenBelow_J6_bitCount_0f7a4
theorem dX3_countBrokenBelow_0 : decode cX3_countBrokenBelow 0 = .ok (.aload_n 0, 1) := by decide +kernel
theorem dX3_countBrokenBelow_1 : decode cX3_countBrokenBelow 1 = .ok (.getfield 33, 3) := by decide +kernel
theorem dX3_countBrokenBelow_4 : decode cX3_countBrokenBelow 4 = .ok (.iconst 0, 1) := by decide +kernel
theorem dX3_countBrokenBelow_5 : decode cX3_countBrokenBelow 5 = .ok (.aaload, 1) := by decide +kernel
theorem dX3_countBrokenBelow_6 : decode cX3_countBrokenBelow 6 = .ok (.iload_n 1, 1) := by decide +kernel
theorem dX3_countBrokenBelow_7 : decode cX3_countBrokenBelow 7 = .ok (.iaload, 1) := by decide +kernel
theorem dX3_countBrokenBelow_8 : decode cX3_countBrokenBelow 8 = .ok (.iload_n 2, 1) := by decide +kernel
theorem dX3_countBrokenBelow_9 : decode cX3_countBrokenBelow 9 = .ok (.iconst (-1), 1) := by decide +kernel
theorem dX3_countBrokenBelow_10 : decode cX3_countBrokenBelow 10 = .ok (.ixor, 1) := by decide +kernel
theorem dX3_countBrokenBelow_11 : decode cX3_countBrokenBelow 11 = .ok (.iand, 1) := by decide +kernel
theorem dX3_countBrokenBelow_12 : decode cX3_countBrokenBelow 12 = .ok (.invokestatic 48, 3) := by decide +kernel
theorem dX3_countBrokenBelow_15 : decode cX3_countBrokenBelow 15 = .ok (.istore_n 3, 1) := by decide +kernel
theorem dX3_countBrokenBelow_16 : decode cX3_countBrokenBelow 16 = .ok (.aload_n 0, 1) := by decide +kernel
theorem dX3_countBrokenBelow_17 : decode cX3_countBrokenBelow 17 = .ok (.getfield 33, 3) := by decide +kernel
theorem dX3_countBrokenBelow_20 : decode cX3_countBrokenBelow 20 = .ok (.iconst 2, 1) := by decide +kernel
theorem dX3_countBrokenBelow_21 : decode cX3_countBrokenBelow 21 = .ok (.aaload, 1) := by decide +kernel
theorem dX3_countBrokenBelow_22 : decode cX3_countBrokenBelow 22 = .ok (.iload_n 1, 1) := by decide +kernel
theorem dX3_countBrokenBelow_23 : decode cX3_countBrokenBelow 23 = .ok (.iaload, 1) := by decide +kernel
theorem dX3_countBrokenBelow_24 : decode cX3_countBrokenBelow 24 = .ok (.istore 4, 2) := by decide +kernel
theorem dX3_countBrokenBelow_26 : decode cX3_countBrokenBelow 26 = .ok (.iload 4, 2) := by decide +kernel
theorem dX3_countBrokenBelow_28 : decode cX3_countBrokenBelow 28 = .ok (.ifCond .eq 17, 3) := by decide +kernel
theorem dX3_countBrokenBelow_31 : decode cX3_countBrokenBelow 31 = .ok (.iload 4, 2) := by decide +kernel
theorem dX3_countBrokenBelow_33 : decode cX3_countBrokenBelow 33 = .ok (.iload_n 2, 1) := by decide +kernel
theorem dX3_countBrokenBelow_34 : decode cX3_countBrokenBelow 34 = .ok (.iand, 1) := by decide +kernel
theorem dX3_countBrokenBelow_35 : decode cX3_countBrokenBelow 35 = .ok (.invokestatic 48, 3) := by decide +kernel
theorem dX3_countBrokenBelow_38 : decode cX3_countBrokenBelow 38 = .ok (.iconst 1, 1) := by decide +kernel
theorem dX3_countBrokenBelow_39 : decode cX3_countBrokenBelow 39 = .ok (.if_icmp .eq 6, 3) := by decide +kernel
theorem dX3_countBrokenBelow_42 : decode cX3_countBrokenBelow 42 = .ok (.iinc 3 1, 3) := by decide +kernel
theorem dX3_countBrokenBelow_45 : decode cX3_countBrokenBelow 45 = .ok (.aload_n 0, 1) := by decide +kernel
theorem dX3_countBrokenBelow_46 : decode cX3_countBrokenBelow 46 = .ok (.getfield 33, 3) := by decide +kernel
theorem dX3_countBrokenBelow_49 : decode cX3_countBrokenBelow 49 = .ok (.iconst 3, 1) := by decide +kernel
theorem dX3_countBrokenBelow_50 : decode cX3_countBrokenBelow 50 = .ok (.aaload, 1) := by decide +kernel
theorem dX3_countBrokenBelow_51 : decode cX3_countBrokenBelow 51 = .ok (.iload_n 1, 1) := by decide +kernel
theorem dX3_countBrokenBelow_52 : decode cX3_countBrokenBelow 52 = .ok (.iaload, 1) := by decide +kernel
theorem dX3_countBrokenBelow_53 : decode cX3_countBrokenBelow 53 = .ok (.istore 5, 2) := by decide +kernel
theorem dX3_countBrokenBelow_55 : decode cX3_countBrokenBelow 55 = .ok (.iload 5, 2) := by decide +kernel
theorem dX3_countBrokenBelow_57 : decode cX3_countBrokenBelow 57 = .ok (.ifCond .eq 13, 3) := by decide +kernel
theorem dX3_countBrokenBelow_60 : decode cX3_countBrokenBelow 60 = .ok (.iload 5, 2) := by decide +kernel
theorem dX3_countBrokenBelow_62 : decode cX3_countBrokenBelow 62 = .ok (.iload_n 2, 1) := by decide +kernel
theorem dX3_countBrokenBelow_63 : decode cX3_countBrokenBelow 63 = .ok (.iand, 1) := by decide +kernel
theorem dX3_countBrokenBelow_64 : decode cX3_countBrokenBelow 64 = .ok (.ifCond .ne 6, 3) := by decide +kernel
theorem dX3_countBrokenBelow_67 : decode cX3_countBrokenBelow 67 = .ok (.iinc 3 1, 3) := by decide +kernel
theorem dX3_countBrokenBelow_70 : decode cX3_countBrokenBelow 70 = .ok (.iload_n 3, 1) := by decide +kernel
theorem dX3_countBrokenBelow_71 : decode cX3_countBrokenBelow 71 = .ok (.ireturn, 1) := by decide +kernel
theorem dX4_init_0 : decode cX4_init 0 = .ok (.aload_n 0, 1) := by decide +kernel
theorem dX4_init_1 : decode cX4_init 1 = .ok (.invokespecial 3, 3) := by decide +kernel
theorem dX4_init_4 : decode cX4_init 4 = .ok (.aload_n 0, 1) := by decide +kernel
theorem dX4_init_5 : decode cX4_init 5 = .ok (.bipush 24, 2) := by decide +kernel
theorem dX4_init_7 : decode cX4_init 7 = .ok (.newarray .int, 2) := by decide +kernel
theorem dX4_init_9 : decode cX4_init 9 = .ok (.putfield 9, 3) := by decide +kernel
theorem dX4_init_12 : decode cX4_init 12 = .ok (.return_, 1) := by decide +kernel
set_option maxRecDepth 20000 in
theorem ggX4_restart_J7_fill_53178 : GoodIn wsX4_restart wsJ7_fill_53178 := goodIn_r _ [5] (by decide +kernel) (by decide +kernel)
set_option maxRecDepth 20000 in
theorem gX4_restart_J7_fill_53178 : GoodIn wsX4_restart (va_wsS RX4 15 yJ7_fill_53178 wsJ7_fill_53178) := goodIn_app (goodIn_of _ (by decide +kernel)) ggX4_restart_J7_fill_53178
theorem dX4_restart_0 : decode cX4_restart 0 = .ok (.aload_n 0, 1) := by decide +kernel
theorem dX4_restart_1 : decode cX4_restart 1 = .ok (.getfield 9, 3) := by decide +kernel
theorem dX4_restart_4 : decode cX4_restart 4 = .ok (.iconst 0, 1) := by decide +kernel
theorem dX4_restart_5 : decode cX4_restart 5 = .ok (.invokestatic 15, 3) := by decide +kernel
theorem dX4_restart_8 : decode cX4_restart 8 = .ok (.return_, 1) := by decide +kernel
set_option maxRecDepth 20000 in
theorem ggX4_countFresh_X4_literalsOf : GoodIn wsX4_countFresh wsX4_literalsOf := goodIn_r _ [5] (by decide +kernel) (by decide +kernel)
set_option maxRecDepth 20000 in
theorem gX4_countFresh_X4_literalsOf : GoodIn wsX4_countFresh (va_wsS RX4 21 yX4_literalsOf wsX4_literalsOf) := goodIn_app (goodIn_of _ (by decide +kernel)) ggX4_countFresh_X4_literalsOf
set_option maxRecDepth 20000 in
theorem ggX4_countFresh_X4_literalOn : GoodIn wsX4_countFresh wsX4_literalOn := goodIn_r _ [8, 9, 10, 11] (by decide +kernel) (by decide +kernel)
set_option maxRecDepth 20000 in
theorem gX4_countFresh_X4_literalOn : GoodIn wsX4_countFresh (va_wsS RX4 25 yX4_literalOn wsX4_literalOn) := goodIn_app (goodIn_of _ (by decide +kernel)) ggX4_countFresh_X4_literalOn
set_option maxRecDepth 20000 in
theorem ggX4_countFresh_J6_bitCount_0f7a4 : GoodIn wsX4_countFresh wsJ6_bitCount_0f7a4 := goodIn_r _ [15, 16, 17, 18] (by decide +kernel) (by decide +kernel)
set_option maxRecDepth 20000 in
theorem gX4_countFresh_J6_bitCount_0f7a4 : GoodIn wsX4_countFresh (va_wsS RX4 28 yJ6_bitCount_0f7a4 wsJ6_bitCount_0f7a4) := goodIn_app (goodIn_of _ (by decide +kernel)) ggX4_countFresh_J6_bitCount_0f7a4
theorem dX4_countFresh_0 : decode cX4_countFresh 0 = .ok (.iconst 0, 1) := by decide +kernel
theorem dX4_countFresh_1 : decode cX4_countFresh 1 = .ok (.istore_n 3, 1) := by decide +kernel
theorem dX4_countFresh_2 : decode cX4_countFresh 2 = .ok (.iload_n 1, 1) := by decide +kernel
theorem dX4_countFresh_3 : decode cX4_countFresh 3 = .ok (.iload_n 2, 1) := by decide +kernel
theorem dX4_countFresh_4 : decode cX4_countFresh 4 = .ok (.invokestatic 21, 3) := by decide +kernel
theorem dX4_countFresh_7 : decode cX4_countFresh 7 = .ok (.istore 4, 2) := by decide +kernel
theorem dX4_countFresh_9 : decode cX4_countFresh 9 = .ok (.iconst 0, 1) := by decide +kernel
theorem dX4_countFresh_10 : decode cX4_countFresh 10 = .ok (.istore 5, 2) := by decide +kernel
theorem dX4_countFresh_12 : decode cX4_countFresh 12 = .ok (.iload 5, 2) := by decide +kernel
theorem dX4_countFresh_14 : decode cX4_countFresh 14 = .ok (.iload_n 2, 1) := by decide +kernel
theorem dX4_countFresh_15 : decode cX4_countFresh 15 = .ok (.if_icmp .ge 46, 3) := by decide +kernel
theorem dX4_countFresh_18 : decode cX4_countFresh 18 = .ok (.iload 5, 2) := by decide +kernel
theorem dX4_countFresh_20 : decode cX4_countFresh 20 = .ok (.iload_n 1, 1) := by decide +kernel
theorem dX4_countFresh_21 : decode cX4_countFresh 21 = .ok (.invokestatic 25, 3) := by decide +kernel
theorem dX4_countFresh_24 : decode cX4_countFresh 24 = .ok (.istore 6, 2) := by decide +kernel
theorem dX4_countFresh_26 : decode cX4_countFresh 26 = .ok (.iload 4, 2) := by decide +kernel
theorem dX4_countFresh_28 : decode cX4_countFresh 28 = .ok (.iconst 1, 1) := by decide +kernel
theorem dX4_countFresh_29 : decode cX4_countFresh 29 = .ok (.iload 6, 2) := by decide +kernel
theorem dX4_countFresh_31 : decode cX4_countFresh 31 = .ok (.ishl, 1) := by decide +kernel
theorem dX4_countFresh_32 : decode cX4_countFresh 32 = .ok (.iconst (-1), 1) := by decide +kernel
theorem dX4_countFresh_33 : decode cX4_countFresh 33 = .ok (.ixor, 1) := by decide +kernel
theorem dX4_countFresh_34 : decode cX4_countFresh 34 = .ok (.iand, 1) := by decide +kernel
theorem dX4_countFresh_35 : decode cX4_countFresh 35 = .ok (.istore 4, 2) := by decide +kernel
theorem dX4_countFresh_37 : decode cX4_countFresh 37 = .ok (.iload_n 3, 1) := by decide +kernel
theorem dX4_countFresh_38 : decode cX4_countFresh 38 = .ok (.iload 4, 2) := by decide +kernel
theorem dX4_countFresh_40 : decode cX4_countFresh 40 = .ok (.aload_n 0, 1) := by decide +kernel
theorem dX4_countFresh_41 : decode cX4_countFresh 41 = .ok (.getfield 9, 3) := by decide +kernel
theorem dX4_countFresh_44 : decode cX4_countFresh 44 = .ok (.iload 6, 2) := by decide +kernel
theorem dX4_countFresh_46 : decode cX4_countFresh 46 = .ok (.iaload, 1) := by decide +kernel
theorem dX4_countFresh_47 : decode cX4_countFresh 47 = .ok (.iconst (-1), 1) := by decide +kernel
theorem dX4_countFresh_48 : decode cX4_countFresh 48 = .ok (.ixor, 1) := by decide +kernel
theorem dX4_countFresh_49 : decode cX4_countFresh 49 = .ok (.iand, 1) := by decide +kernel
theorem dX4_countFresh_50 : decode cX4_countFresh 50 = .ok (.invokestatic 28, 3) := by decide +kernel
theorem dX4_countFresh_53 : decode cX4_countFresh 53 = .ok (.iadd, 1) := by decide +kernel
theorem dX4_countFresh_54 : decode cX4_countFresh 54 = .ok (.istore_n 3, 1) := by decide +kernel
theorem dX4_countFresh_55 : decode cX4_countFresh 55 = .ok (.iinc 5 1, 3) := by decide +kernel
theorem dX4_countFresh_58 : decode cX4_countFresh 58 = .ok (.goto (-46), 3) := by decide +kernel
theorem dX4_countFresh_61 : decode cX4_countFresh 61 = .ok (.iload_n 3, 1) := by decide +kernel
theorem dX4_countFresh_62 : decode cX4_countFresh 62 = .ok (.ireturn, 1) := by decide +kernel
set_option maxRecDepth 20000 in
theorem ggX4_show_X4_countFresh : GoodIn wsX4_show wsX4_countFresh := goodIn_r _ [6, 1, 7, 8, 5, 9, 10, 11, 12, 13, 14, 15, 16, 17, 18, 19, 20, 21, 22, 23] (by decide +kernel) (by decide +kernel)
set_option maxRecDepth 20000 in
theorem gX4_show_X4_countFresh : GoodIn wsX4_show (wsV RX4 34 RX4 yX4_countFresh wsX4_countFresh) := goodIn_app (goodIn_of _ (by decide +kernel)) ggX4_show_X4_countFresh
set_option maxRecDepth 20000 in
theorem ggX4_show_X4_literalsOf : GoodIn wsX4_show wsX4_literalsOf := goodIn_r _ [9] (by decide +kernel) (by decide +kernel)
set_option maxRecDepth 20000 in
theorem gX4_show_X4_literalsOf : GoodIn wsX4_show (va_wsS RX4 21 yX4_literalsOf wsX4_literalsOf) := goodIn_app (goodIn_of _ (by decide +kernel)) ggX4_show_X4_literalsOf
set_option maxRecDepth 20000 in
theorem ggX4_show_X4_literalOn : GoodIn wsX4_show wsX4_literalOn := goodIn_r _ [12, 13, 14, 15] (by decide +kernel) (by decide +kernel)
set_option maxRecDepth 20000 in
theorem gX4_show_X4_literalOn : GoodIn wsX4_show (va_wsS RX4 25 yX4_literalOn wsX4_literalOn) := goodIn_app (goodIn_of _ (by decide +kernel)) ggX4_show_X4_literalOn
theorem dX4_show_0 : decode cX4_show 0 = .ok (.aload_n 0, 1) := by decide +kernel
theorem dX4_show_1 : decode cX4_show 1 = .ok (.iload_n 1, 1) := by decide +kernel
theorem dX4_show_2 : decode cX4_show 2 = .ok (.iload_n 2, 1) := by decide +kernel
theorem dX4_show_3 : decode cX4_show 3 = .ok (.invokevirtual 34, 3) := by decide +kernel
theorem dX4_show_6 : decode cX4_show 6 = .ok (.istore_n 3, 1) := by decide +kernel
theorem dX4_show_7 : decode cX4_show 7 = .ok (.iload_n 1, 1) := by decide +kernel
theorem dX4_show_8 : decode cX4_show 8 = .ok (.iload_n 2, 1) := by decide +kernel
theorem dX4_show_9 : decode cX4_show 9 = .ok (.invokestatic 21, 3) := by decide +kernel
theorem dX4_show_12 : decode cX4_show 12 = .ok (.istore 4, 2) := by decide +kernel
theorem dX4_show_14 : decode cX4_show 14 = .ok (.iconst 0, 1) := by decide +kernel
theorem dX4_show_15 : decode cX4_show 15 = .ok (.istore 5, 2) := by decide +kernel
theorem dX4_show_17 : decode cX4_show 17 = .ok (.iload 5, 2) := by decide +kernel
theorem dX4_show_19 : decode cX4_show 19 = .ok (.iload_n 2, 1) := by decide +kernel
theorem dX4_show_20 : decode cX4_show 20 = .ok (.if_icmp .ge 40, 3) := by decide +kernel
theorem dX4_show_23 : decode cX4_show 23 = .ok (.iload 5, 2) := by decide +kernel
theorem dX4_show_25 : decode cX4_show 25 = .ok (.iload_n 1, 1) := by decide +kernel
theorem dX4_show_26 : decode cX4_show 26 = .ok (.invokestatic 25, 3) := by decide +kernel
theorem dX4_show_29 : decode cX4_show 29 = .ok (.istore 6, 2) := by decide +kernel
theorem dX4_show_31 : decode cX4_show 31 = .ok (.iload 4, 2) := by decide +kernel
theorem dX4_show_33 : decode cX4_show 33 = .ok (.iconst 1, 1) := by decide +kernel
theorem dX4_show_34 : decode cX4_show 34 = .ok (.iload 6, 2) := by decide +kernel
theorem dX4_show_36 : decode cX4_show 36 = .ok (.ishl, 1) := by decide +kernel
theorem dX4_show_37 : decode cX4_show 37 = .ok (.iconst (-1), 1) := by decide +kernel
theorem dX4_show_38 : decode cX4_show 38 = .ok (.ixor, 1) := by decide +kernel
theorem dX4_show_39 : decode cX4_show 39 = .ok (.iand, 1) := by decide +kernel
theorem dX4_show_40 : decode cX4_show 40 = .ok (.istore 4, 2) := by decide +kernel
theorem dX4_show_42 : decode cX4_show 42 = .ok (.aload_n 0, 1) := by decide +kernel
theorem dX4_show_43 : decode cX4_show 43 = .ok (.getfield 9, 3) := by decide +kernel
theorem dX4_show_46 : decode cX4_show 46 = .ok (.iload 6, 2) := by decide +kernel
theorem dX4_show_48 : decode cX4_show 48 = .ok (.dup2, 1) := by decide +kernel
theorem dX4_show_49 : decode cX4_show 49 = .ok (.iaload, 1) := by decide +kernel
theorem dX4_show_50 : decode cX4_show 50 = .ok (.iload 4, 2) := by decide +kernel
theorem dX4_show_52 : decode cX4_show 52 = .ok (.ior, 1) := by decide +kernel
theorem dX4_show_53 : decode cX4_show 53 = .ok (.iastore, 1) := by decide +kernel
theorem dX4_show_54 : decode cX4_show 54 = .ok (.iinc 5 1, 3) := by decide +kernel
theorem dX4_show_57 : decode cX4_show 57 = .ok (.goto (-40), 3) := by decide +kernel
theorem dX4_show_60 : decode cX4_show 60 = .ok (.iload_n 3, 1) := by decide +kernel
theorem dX4_show_61 : decode cX4_show 61 = .ok (.ireturn, 1) := by decide +kernel
theorem dX4_literalsOf_0 : decode cX4_literalsOf 0 = .ok (.iload_n 0, 1) := by decide +kernel
theorem dX4_literalsOf_1 : decode cX4_literalsOf 1 = .ok (.iconst (-1), 1) := by decide +kernel
theorem dX4_literalsOf_2 : decode cX4_literalsOf 2 = .ok (.ixor, 1) := by decide +kernel
theorem dX4_literalsOf_3 : decode cX4_literalsOf 3 = .ok (.iconst 1, 1) := by decide +kernel
theorem dX4_literalsOf_4 : decode cX4_literalsOf 4 = .ok (.iload_n 1, 1) := by decide +kernel
theorem dX4_literalsOf_5 : decode cX4_literalsOf 5 = .ok (.ishl, 1) := by decide +kernel
theorem dX4_literalsOf_6 : decode cX4_literalsOf 6 = .ok (.iconst 1, 1) := by decide +kernel
theorem dX4_literalsOf_7 : decode cX4_literalsOf 7 = .ok (.isub, 1) := by decide +kernel
theorem dX4_literalsOf_8 : decode cX4_literalsOf 8 = .ok (.iand, 1) := by decide +kernel
theorem dX4_literalsOf_9 : decode cX4_literalsOf 9 = .ok (.istore_n 2, 1) := by decide +kernel
theorem dX4_literalsOf_10 : decode cX4_literalsOf 10 = .ok (.iload_n 0, 1) := by decide +kernel
theorem dX4_literalsOf_11 : decode cX4_literalsOf 11 = .ok (.iload_n 2, 1) := by decide +kernel
theorem dX4_literalsOf_12 : decode cX4_literalsOf 12 = .ok (.bipush 12, 2) := by decide +kernel
theorem dX4_literalsOf_14 : decode cX4_literalsOf 14 = .ok (.ishl, 1) := by decide +kernel
theorem dX4_literalsOf_15 : decode cX4_literalsOf 15 = .ok (.ior, 1) := by decide +kernel
theorem dX4_literalsOf_16 : decode cX4_literalsOf 16 = .ok (.ireturn, 1) := by decide +kernel
set_option maxRecDepth 20000 in
theorem ggX4_literalOn_X6_has : GoodIn wsX4_literalOn wsX6_has := goodIn_r _ [3] (by decide +kernel) (by decide +kernel)
set_option maxRecDepth 20000 in
theorem gX4_literalOn_X6_has_n37 : GoodIn wsX4_literalOn (wsX6_has) := ggX4_literalOn_X6_has
theorem dX4_literalOn_0 : decode cX4_literalOn 0 = .ok (.iload_n 1, 1) := by decide +kernel
theorem dX4_literalOn_1 : decode cX4_literalOn 1 = .ok (.iload_n 0, 1) := by decide +kernel
theorem dX4_literalOn_2 : decode cX4_literalOn 2 = .ok (.invokestatic 37, 3) := by decide +kernel
theorem dX4_literalOn_5 : decode cX4_literalOn 5 = .ok (.ifCond .eq 7, 3) := by decide +kernel
theorem dX4_literalOn_8 : decode cX4_literalOn 8 = .ok (.iload_n 0, 1) := by decide +kernel
theorem dX4_literalOn_9 : decode cX4_literalOn 9 = .ok (.goto 7, 3) := by decide +kernel
theorem dX4_literalOn_12 : decode cX4_literalOn 12 = .ok (.iload_n 0, 1) := by decide +kernel
theorem dX4_literalOn_13 : decode cX4_literalOn 13 = .ok (.bipush 12, 2) := by decide +kernel
theorem dX4_literalOn_15 : decode cX4_literalOn 15 = .ok (.iadd, 1) := by decide +kernel
theorem dX4_literalOn_16 : decode cX4_literalOn 16 = .ok (.ireturn, 1) := by decide +kernel
theorem dX5_init_0 : decode cX5_init 0 = .ok (.aload_n 0, 1) := by decide +kernel
theorem dX5_init_1 : decode cX5_init 1 = .ok (.invokespecial 3, 3) := by decide +kernel
theorem dX5_init_4 : decode cX5_init 4 = .ok (.aload_n 0, 1) := by decide +kernel
theorem dX5_init_5 : decode cX5_init 5 = .ok (.iconst 0, 1) := by decide +kernel
theorem dX5_init_6 : decode cX5_init 6 = .ok (.newarray .int, 2) := by decide +kernel
theorem dX5_init_8 : decode cX5_init 8 = .ok (.putfield 9, 3) := by decide +kernel
theorem dX5_init_11 : decode cX5_init 11 = .ok (.return_, 1) := by decide +kernel
