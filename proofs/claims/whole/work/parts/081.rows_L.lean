set_option maxRecDepth 20000 in
theorem ggL_addFeature_X6_addFeature : GoodIn wsL_addFeature wsX6_addFeature := goodIn_ca (goodIn_ca (goodIn_ca (goodIn_r _ [8, 9, 10, 11, 12, 13, 14, 7, 15, 16, 17, 18, 19, 20, 21, 22, 23, 24, 25, 26, 27, 28, 29, 30, 31, 32, 33, 34, 35, 36, 37, 38, 39, 40, 41, 42, 43, 44, 45, 46, 47, 48, 49, 50, 51, 52, 53, 54, 55, 56, 57, 58, 59, 60, 61, 62, 63, 64, 65, 66, 67, 68, 69, 70, 71, 72, 73, 74, 75, 76, 77, 78, 79] (by decide +kernel) (by decide +kernel)) (goodIn_sub (fun _ h => List.mem_cons_of_mem _ (List.mem_append_left _ (List.mem_append_left _ (List.mem_append_right _ h)))) (by decide +kernel))) (goodIn_sub (fun _ h => List.mem_cons_of_mem _ (List.mem_append_left _ (List.mem_append_right _ h))) (by decide +kernel))) (goodIn_sub (fun _ h => List.mem_cons_of_mem _ (List.mem_append_right _ h)) (by decide +kernel))
set_option maxRecDepth 20000 in
theorem gL_addFeature_X6_addFeature : GoodIn wsL_addFeature (wsV RL 7 RX6 yX6_addFeature wsX6_addFeature) := goodIn_app (goodIn_of _ (by decide +kernel)) ggL_addFeature_X6_addFeature
theorem dL_addFeature_0 : decode cL_addFeature 0 = .ok (.aload_n 3, 1) := by decide +kernel
theorem dL_addFeature_1 : decode cL_addFeature 1 = .ok (.iconst 0, 1) := by decide +kernel
theorem dL_addFeature_2 : decode cL_addFeature 2 = .ok (.aload_n 0, 1) := by decide +kernel
theorem dL_addFeature_3 : decode cL_addFeature 3 = .ok (.iload_n 1, 1) := by decide +kernel
theorem dL_addFeature_4 : decode cL_addFeature 4 = .ok (.iload_n 2, 1) := by decide +kernel
theorem dL_addFeature_5 : decode cL_addFeature 5 = .ok (.invokevirtual 7, 3) := by decide +kernel
theorem dL_addFeature_8 : decode cL_addFeature 8 = .ok (.i2l, 1) := by decide +kernel
theorem dL_addFeature_9 : decode cL_addFeature 9 = .ok (.lastore, 1) := by decide +kernel
theorem dL_addFeature_10 : decode cL_addFeature 10 = .ok (.goto 15, 3) := by decide +kernel
theorem dL_addFeature_13 : decode cL_addFeature 13 = .ok (.astore 4, 2) := by decide +kernel
theorem dL_addFeature_15 : decode cL_addFeature 15 = .ok (.iconst 1, 1) := by decide +kernel
theorem dL_addFeature_16 : decode cL_addFeature 16 = .ok (.ireturn, 1) := by decide +kernel
theorem dL_addFeature_17 : decode cL_addFeature 17 = .ok (.astore 4, 2) := by decide +kernel
theorem dL_addFeature_19 : decode cL_addFeature 19 = .ok (.iconst 2, 1) := by decide +kernel
theorem dL_addFeature_20 : decode cL_addFeature 20 = .ok (.ireturn, 1) := by decide +kernel
theorem dL_addFeature_21 : decode cL_addFeature 21 = .ok (.astore 4, 2) := by decide +kernel
theorem dL_addFeature_23 : decode cL_addFeature 23 = .ok (.iconst 3, 1) := by decide +kernel
theorem dL_addFeature_24 : decode cL_addFeature 24 = .ok (.ireturn, 1) := by decide +kernel
theorem dL_addFeature_25 : decode cL_addFeature 25 = .ok (.iconst 0, 1) := by decide +kernel
theorem dL_addFeature_26 : decode cL_addFeature 26 = .ok (.ireturn, 1) := by decide +kernel
set_option maxRecDepth 20000 in
theorem ggL_setRelation_X6_setRelation : GoodIn wsL_setRelation wsX6_setRelation := goodIn_ca (goodIn_ca (goodIn_r _ [7, 8, 9, 10, 11, 12, 13, 6, 14, 15, 16, 17, 18, 19, 20, 21, 22, 23, 24, 25, 26, 27, 28, 29, 30, 31, 32, 33, 34, 35, 36, 37, 38, 39, 40, 41, 42, 43, 44, 45, 46, 47, 48, 49, 50, 51, 52, 53, 54, 55, 56, 57, 58, 59, 60, 61, 62, 63, 64, 65, 66, 67, 68, 69, 70, 71, 72, 73, 74, 75] (by decide +kernel) (by decide +kernel)) (goodIn_sub (fun _ h => List.mem_cons_of_mem _ (List.mem_append_left _ (List.mem_append_right _ h))) (by decide +kernel))) (goodIn_sub (fun _ h => List.mem_cons_of_mem _ (List.mem_append_right _ h)) (by decide +kernel))
set_option maxRecDepth 20000 in
theorem gL_setRelation_X6_setRelation : GoodIn wsL_setRelation (wsV RL 19 RX6 yX6_setRelation wsX6_setRelation) := goodIn_app (goodIn_of _ (by decide +kernel)) ggL_setRelation_X6_setRelation
theorem dL_setRelation_0 : decode cL_setRelation 0 = .ok (.aload_n 3, 1) := by decide +kernel
theorem dL_setRelation_1 : decode cL_setRelation 1 = .ok (.iconst 0, 1) := by decide +kernel
theorem dL_setRelation_2 : decode cL_setRelation 2 = .ok (.aload_n 0, 1) := by decide +kernel
theorem dL_setRelation_3 : decode cL_setRelation 3 = .ok (.iload_n 1, 1) := by decide +kernel
theorem dL_setRelation_4 : decode cL_setRelation 4 = .ok (.iload_n 2, 1) := by decide +kernel
theorem dL_setRelation_5 : decode cL_setRelation 5 = .ok (.invokevirtual 19, 3) := by decide +kernel
theorem dL_setRelation_8 : decode cL_setRelation 8 = .ok (.i2l, 1) := by decide +kernel
theorem dL_setRelation_9 : decode cL_setRelation 9 = .ok (.lastore, 1) := by decide +kernel
theorem dL_setRelation_10 : decode cL_setRelation 10 = .ok (.goto 11, 3) := by decide +kernel
theorem dL_setRelation_13 : decode cL_setRelation 13 = .ok (.astore 4, 2) := by decide +kernel
theorem dL_setRelation_15 : decode cL_setRelation 15 = .ok (.iconst 1, 1) := by decide +kernel
theorem dL_setRelation_16 : decode cL_setRelation 16 = .ok (.ireturn, 1) := by decide +kernel
theorem dL_setRelation_17 : decode cL_setRelation 17 = .ok (.astore 4, 2) := by decide +kernel
theorem dL_setRelation_19 : decode cL_setRelation 19 = .ok (.iconst 2, 1) := by decide +kernel
theorem dL_setRelation_20 : decode cL_setRelation 20 = .ok (.ireturn, 1) := by decide +kernel
theorem dL_setRelation_21 : decode cL_setRelation 21 = .ok (.iconst 0, 1) := by decide +kernel
theorem dL_setRelation_22 : decode cL_setRelation 22 = .ok (.ireturn, 1) := by decide +kernel
set_option maxRecDepth 20000 in
theorem ggL_setWorth_X6_setWorth : GoodIn wsL_setWorth wsX6_setWorth := goodIn_ca (goodIn_ca (goodIn_r _ [7, 8, 9, 10, 11, 12, 13, 6, 14, 15, 16, 17, 18, 19, 20, 21, 22, 23, 24, 25, 26, 27, 28, 29, 30, 31, 32, 33, 34, 35, 36, 37, 38, 39, 40, 41, 42, 43, 44, 45, 46, 47, 48, 49, 50, 51, 52, 53, 54, 55, 56, 57, 58, 59, 60, 61] (by decide +kernel) (by decide +kernel)) (goodIn_sub (fun _ h => List.mem_cons_of_mem _ (List.mem_append_left _ (List.mem_append_right _ h))) (by decide +kernel))) (goodIn_sub (fun _ h => List.mem_cons_of_mem _ (List.mem_append_right _ h)) (by decide +kernel))
set_option maxRecDepth 20000 in
theorem gL_setWorth_X6_setWorth : GoodIn wsL_setWorth (wsV RL 22 RX6 yX6_setWorth wsX6_setWorth) := goodIn_app (goodIn_of _ (by decide +kernel)) ggL_setWorth_X6_setWorth
theorem dL_setWorth_0 : decode cL_setWorth 0 = .ok (.aload 4, 2) := by decide +kernel
theorem dL_setWorth_2 : decode cL_setWorth 2 = .ok (.iconst 0, 1) := by decide +kernel
theorem dL_setWorth_3 : decode cL_setWorth 3 = .ok (.aload_n 0, 1) := by decide +kernel
theorem dL_setWorth_4 : decode cL_setWorth 4 = .ok (.iload_n 1, 1) := by decide +kernel
theorem dL_setWorth_5 : decode cL_setWorth 5 = .ok (.iload_n 2, 1) := by decide +kernel
theorem dL_setWorth_6 : decode cL_setWorth 6 = .ok (.iload_n 3, 1) := by decide +kernel
theorem dL_setWorth_7 : decode cL_setWorth 7 = .ok (.invokevirtual 22, 3) := by decide +kernel
theorem dL_setWorth_10 : decode cL_setWorth 10 = .ok (.ifCond .eq 7, 3) := by decide +kernel
theorem dL_setWorth_13 : decode cL_setWorth 13 = .ok (.lconst 1, 1) := by decide +kernel
theorem dL_setWorth_14 : decode cL_setWorth 14 = .ok (.goto 4, 3) := by decide +kernel
theorem dL_setWorth_17 : decode cL_setWorth 17 = .ok (.lconst 0, 1) := by decide +kernel
theorem dL_setWorth_18 : decode cL_setWorth 18 = .ok (.lastore, 1) := by decide +kernel
theorem dL_setWorth_19 : decode cL_setWorth 19 = .ok (.goto 11, 3) := by decide +kernel
theorem dL_setWorth_22 : decode cL_setWorth 22 = .ok (.astore 5, 2) := by decide +kernel
theorem dL_setWorth_24 : decode cL_setWorth 24 = .ok (.iconst 1, 1) := by decide +kernel
theorem dL_setWorth_25 : decode cL_setWorth 25 = .ok (.ireturn, 1) := by decide +kernel
theorem dL_setWorth_26 : decode cL_setWorth 26 = .ok (.astore 5, 2) := by decide +kernel
theorem dL_setWorth_28 : decode cL_setWorth 28 = .ok (.iconst 2, 1) := by decide +kernel
theorem dL_setWorth_29 : decode cL_setWorth 29 = .ok (.ireturn, 1) := by decide +kernel
theorem dL_setWorth_30 : decode cL_setWorth 30 = .ok (.iconst 0, 1) := by decide +kernel
theorem dL_setWorth_31 : decode cL_setWorth 31 = .ok (.ireturn, 1) := by decide +kernel
set_option maxRecDepth 20000 in
theorem ggL_addConstraint_X6_addConstraint : GoodIn wsL_addConstraint wsX6_addConstraint := goodIn_ca (goodIn_ca (goodIn_ca (goodIn_r _ [8, 9, 10, 11, 12, 13, 14, 15, 16, 7, 17, 18, 19, 20, 21, 22, 23, 24, 25, 26, 27, 28, 29, 30, 31, 32, 33, 34, 35, 36, 37, 38, 39, 40, 41, 42, 43, 44, 45, 46, 47, 48, 49, 50, 51, 52, 53, 54, 55, 56, 57, 58, 59, 60, 61, 62, 63, 64, 65, 66, 67, 68, 69, 70, 71, 72, 73, 74, 75, 76, 77, 78, 79, 80, 81, 82, 83] (by decide +kernel) (by decide +kernel)) (goodIn_sub (fun _ h => List.mem_cons_of_mem _ (List.mem_append_left _ (List.mem_append_left _ (List.mem_append_right _ h)))) (by decide +kernel))) (goodIn_sub (fun _ h => List.mem_cons_of_mem _ (List.mem_append_left _ (List.mem_append_right _ h))) (by decide +kernel))) (goodIn_sub (fun _ h => List.mem_cons_of_mem _ (List.mem_append_right _ h)) (by decide +kernel))
set_option maxRecDepth 20000 in
theorem gL_addConstraint_X6_addConstraint : GoodIn wsL_addConstraint (wsV RL 26 RX6 yX6_addConstraint wsX6_addConstraint) := goodIn_app (goodIn_of _ (by decide +kernel)) ggL_addConstraint_X6_addConstraint
theorem dL_addConstraint_0 : decode cL_addConstraint 0 = .ok (.aload 4, 2) := by decide +kernel
theorem dL_addConstraint_2 : decode cL_addConstraint 2 = .ok (.iconst 0, 1) := by decide +kernel
theorem dL_addConstraint_3 : decode cL_addConstraint 3 = .ok (.aload_n 0, 1) := by decide +kernel
theorem dL_addConstraint_4 : decode cL_addConstraint 4 = .ok (.iload_n 1, 1) := by decide +kernel
theorem dL_addConstraint_5 : decode cL_addConstraint 5 = .ok (.iload_n 2, 1) := by decide +kernel
theorem dL_addConstraint_6 : decode cL_addConstraint 6 = .ok (.iload_n 3, 1) := by decide +kernel
theorem dL_addConstraint_7 : decode cL_addConstraint 7 = .ok (.invokevirtual 26, 3) := by decide +kernel
theorem dL_addConstraint_10 : decode cL_addConstraint 10 = .ok (.i2l, 1) := by decide +kernel
theorem dL_addConstraint_11 : decode cL_addConstraint 11 = .ok (.lastore, 1) := by decide +kernel
theorem dL_addConstraint_12 : decode cL_addConstraint 12 = .ok (.goto 15, 3) := by decide +kernel
theorem dL_addConstraint_15 : decode cL_addConstraint 15 = .ok (.astore 5, 2) := by decide +kernel
theorem dL_addConstraint_17 : decode cL_addConstraint 17 = .ok (.iconst 1, 1) := by decide +kernel
theorem dL_addConstraint_18 : decode cL_addConstraint 18 = .ok (.ireturn, 1) := by decide +kernel
theorem dL_addConstraint_19 : decode cL_addConstraint 19 = .ok (.astore 5, 2) := by decide +kernel
theorem dL_addConstraint_21 : decode cL_addConstraint 21 = .ok (.iconst 2, 1) := by decide +kernel
theorem dL_addConstraint_22 : decode cL_addConstraint 22 = .ok (.ireturn, 1) := by decide +kernel
theorem dL_addConstraint_23 : decode cL_addConstraint 23 = .ok (.astore 5, 2) := by decide +kernel
theorem dL_addConstraint_25 : decode cL_addConstraint 25 = .ok (.iconst 3, 1) := by decide +kernel
theorem dL_addConstraint_26 : decode cL_addConstraint 26 = .ok (.ireturn, 1) := by decide +kernel
theorem dL_addConstraint_27 : decode cL_addConstraint 27 = .ok (.iconst 0, 1) := by decide +kernel
theorem dL_addConstraint_28 : decode cL_addConstraint 28 = .ok (.ireturn, 1) := by decide +kernel
set_option maxRecDepth 20000 in
theorem ggL_turn_X6_turn : GoodIn wsL_turn wsX6_turn := goodIn_ca (goodIn_r _ [6, 7, 8, 9, 10, 11, 12, 13, 14, 15, 16, 17, 18, 5, 19, 20, 21, 22, 23, 24, 25, 26, 27, 28, 29, 30, 31, 32, 33, 34, 35, 36, 37, 38, 39, 40, 41, 42, 43, 44, 45, 46, 47, 48, 49, 50, 51, 52, 53, 54, 55, 56, 57, 58] (by decide +kernel) (by decide +kernel)) (goodIn_sub (fun _ h => List.mem_cons_of_mem _ (List.mem_append_right _ h)) (by decide +kernel))
set_option maxRecDepth 20000 in
theorem gL_turn_X6_turn : GoodIn wsL_turn (wsV RL 30 RX6 yX6_turn wsX6_turn) := goodIn_app (goodIn_of _ (by decide +kernel)) ggL_turn_X6_turn
theorem dL_turn_0 : decode cL_turn 0 = .ok (.aload_n 3, 1) := by decide +kernel
theorem dL_turn_1 : decode cL_turn 1 = .ok (.iconst 0, 1) := by decide +kernel
theorem dL_turn_2 : decode cL_turn 2 = .ok (.aload_n 0, 1) := by decide +kernel
theorem dL_turn_3 : decode cL_turn 3 = .ok (.iload_n 1, 1) := by decide +kernel
theorem dL_turn_4 : decode cL_turn 4 = .ok (.iload_n 2, 1) := by decide +kernel
theorem dL_turn_5 : decode cL_turn 5 = .ok (.invokevirtual 30, 3) := by decide +kernel
theorem dL_turn_8 : decode cL_turn 8 = .ok (.ifCond .eq 7, 3) := by decide +kernel
theorem dL_turn_11 : decode cL_turn 11 = .ok (.lconst 1, 1) := by decide +kernel
theorem dL_turn_12 : decode cL_turn 12 = .ok (.goto 4, 3) := by decide +kernel
theorem dL_turn_15 : decode cL_turn 15 = .ok (.lconst 0, 1) := by decide +kernel
theorem dL_turn_16 : decode cL_turn 16 = .ok (.lastore, 1) := by decide +kernel
theorem dL_turn_17 : decode cL_turn 17 = .ok (.goto 7, 3) := by decide +kernel
theorem dL_turn_20 : decode cL_turn 20 = .ok (.astore 4, 2) := by decide +kernel
theorem dL_turn_22 : decode cL_turn 22 = .ok (.iconst 1, 1) := by decide +kernel
theorem dL_turn_23 : decode cL_turn 23 = .ok (.ireturn, 1) := by decide +kernel
theorem dL_turn_24 : decode cL_turn 24 = .ok (.iconst 0, 1) := by decide +kernel
theorem dL_turn_25 : decode cL_turn 25 = .ok (.ireturn, 1) := by decide +kernel
set_option maxRecDepth 20000 in
theorem ggL_dropConstraint_X6_dropConstraint : GoodIn wsL_dropConstraint wsX6_dropConstraint := goodIn_ca (goodIn_r _ [6, 7, 8, 9, 10, 11, 12, 13, 14, 15, 16, 17, 18, 5, 19, 20, 21, 22, 23, 24, 25, 26, 27, 28, 29, 30, 31, 32, 33, 34, 35, 36, 37, 38, 39, 40, 41, 42, 43, 44, 45, 46, 47, 48, 49, 50, 51, 52, 53, 54, 55, 56] (by decide +kernel) (by decide +kernel)) (goodIn_sub (fun _ h => List.mem_cons_of_mem _ (List.mem_append_right _ h)) (by decide +kernel))
set_option maxRecDepth 20000 in
theorem gL_dropConstraint_X6_dropConstraint : GoodIn wsL_dropConstraint (wsV RL 34 RX6 yX6_dropConstraint wsX6_dropConstraint) := goodIn_app (goodIn_of _ (by decide +kernel)) ggL_dropConstraint_X6_dropConstraint
theorem dL_dropConstraint_0 : decode cL_dropConstraint 0 = .ok (.aload_n 1, 1) := by decide +kernel
theorem dL_dropConstraint_1 : decode cL_dropConstraint 1 = .ok (.iconst 0, 1) := by decide +kernel
theorem dL_dropConstraint_2 : decode cL_dropConstraint 2 = .ok (.aload_n 0, 1) := by decide +kernel
theorem dL_dropConstraint_3 : decode cL_dropConstraint 3 = .ok (.invokevirtual 34, 3) := by decide +kernel
theorem dL_dropConstraint_6 : decode cL_dropConstraint 6 = .ok (.i2l, 1) := by decide +kernel
theorem dL_dropConstraint_7 : decode cL_dropConstraint 7 = .ok (.lastore, 1) := by decide +kernel
theorem dL_dropConstraint_8 : decode cL_dropConstraint 8 = .ok (.goto 6, 3) := by decide +kernel
theorem dL_dropConstraint_11 : decode cL_dropConstraint 11 = .ok (.astore_n 2, 1) := by decide +kernel
theorem dL_dropConstraint_12 : decode cL_dropConstraint 12 = .ok (.iconst 1, 1) := by decide +kernel
theorem dL_dropConstraint_13 : decode cL_dropConstraint 13 = .ok (.ireturn, 1) := by decide +kernel
theorem dL_dropConstraint_14 : decode cL_dropConstraint 14 = .ok (.iconst 0, 1) := by decide +kernel
theorem dL_dropConstraint_15 : decode cL_dropConstraint 15 = .ok (.ireturn, 1) := by decide +kernel
set_option maxRecDepth 20000 in
theorem ggL_decide_X6_decide : GoodIn wsL_decide wsX6_decide := goodIn_ca (goodIn_ca (goodIn_r _ [7, 8, 9, 10, 11, 12, 13, 6, 14, 15, 16, 17, 18, 19, 20, 21, 22, 23, 24, 25, 26, 27, 28, 29, 30, 31, 32, 33, 34, 35, 36, 37, 38, 39, 40, 41, 42, 43, 44, 45, 46, 47, 48, 49, 50, 51, 52, 53, 54, 55, 56, 57, 58, 59, 60, 61, 62, 63, 64, 65, 66, 67, 68, 69, 70, 71, 72] (by decide +kernel) (by decide +kernel)) (goodIn_sub (fun _ h => List.mem_cons_of_mem _ (List.mem_append_left _ (List.mem_append_right _ h))) (by decide +kernel))) (goodIn_sub (fun _ h => List.mem_cons_of_mem _ (List.mem_append_right _ h)) (by decide +kernel))
set_option maxRecDepth 20000 in
theorem gL_decide_X6_decide : GoodIn wsL_decide (wsV RL 38 RX6 yX6_decide wsX6_decide) := goodIn_app (goodIn_of _ (by decide +kernel)) ggL_decide_X6_decide
theorem dL_decide_0 : decode cL_decide 0 = .ok (.aload_n 3, 1) := by decide +kernel
theorem dL_decide_1 : decode cL_decide 1 = .ok (.iconst 0, 1) := by decide +kernel
theorem dL_decide_2 : decode cL_decide 2 = .ok (.aload_n 0, 1) := by decide +kernel
theorem dL_decide_3 : decode cL_decide 3 = .ok (.iload_n 1, 1) := by decide +kernel
theorem dL_decide_4 : decode cL_decide 4 = .ok (.iload_n 2, 1) := by decide +kernel
theorem dL_decide_5 : decode cL_decide 5 = .ok (.invokevirtual 38, 3) := by decide +kernel
theorem dL_decide_8 : decode cL_decide 8 = .ok (.i2l, 1) := by decide +kernel
theorem dL_decide_9 : decode cL_decide 9 = .ok (.lastore, 1) := by decide +kernel
theorem dL_decide_10 : decode cL_decide 10 = .ok (.goto 11, 3) := by decide +kernel
theorem dL_decide_13 : decode cL_decide 13 = .ok (.astore 4, 2) := by decide +kernel
theorem dL_decide_15 : decode cL_decide 15 = .ok (.iconst 1, 1) := by decide +kernel
theorem dL_decide_16 : decode cL_decide 16 = .ok (.ireturn, 1) := by decide +kernel
theorem dL_decide_17 : decode cL_decide 17 = .ok (.astore 4, 2) := by decide +kernel
theorem dL_decide_19 : decode cL_decide 19 = .ok (.iconst 2, 1) := by decide +kernel
theorem dL_decide_20 : decode cL_decide 20 = .ok (.ireturn, 1) := by decide +kernel
theorem dL_decide_21 : decode cL_decide 21 = .ok (.iconst 0, 1) := by decide +kernel
theorem dL_decide_22 : decode cL_decide 22 = .ok (.ireturn, 1) := by decide +kernel
set_option maxRecDepth 20000 in
theorem ggL_setBudget_X6_setBudget : GoodIn wsL_setBudget wsX6_setBudget := goodIn_ca (goodIn_r _ [6, 7, 8, 9, 10, 11, 12, 5, 13, 14, 15, 16, 17, 18, 19, 20, 21, 22, 23, 24, 25, 26, 27, 28, 29, 30, 31, 32, 33, 34, 35, 36, 37, 38, 39, 40, 41, 42, 43, 44] (by decide +kernel) (by decide +kernel)) (goodIn_sub (fun _ h => List.mem_cons_of_mem _ (List.mem_append_right _ h)) (by decide +kernel))
set_option maxRecDepth 20000 in
theorem gL_setBudget_X6_setBudget : GoodIn wsL_setBudget (wsV RL 41 RX6 yX6_setBudget wsX6_setBudget) := goodIn_app (goodIn_of _ (by decide +kernel)) ggL_setBudget_X6_setBudget
theorem dL_setBudget_0 : decode cL_setBudget 0 = .ok (.aload_n 2, 1) := by decide +kernel
theorem dL_setBudget_1 : decode cL_setBudget 1 = .ok (.iconst 0, 1) := by decide +kernel
theorem dL_setBudget_2 : decode cL_setBudget 2 = .ok (.aload_n 0, 1) := by decide +kernel
theorem dL_setBudget_3 : decode cL_setBudget 3 = .ok (.iload_n 1, 1) := by decide +kernel
theorem dL_setBudget_4 : decode cL_setBudget 4 = .ok (.invokevirtual 41, 3) := by decide +kernel
theorem dL_setBudget_7 : decode cL_setBudget 7 = .ok (.i2l, 1) := by decide +kernel
theorem dL_setBudget_8 : decode cL_setBudget 8 = .ok (.lastore, 1) := by decide +kernel
theorem dL_setBudget_9 : decode cL_setBudget 9 = .ok (.goto 6, 3) := by decide +kernel
theorem dL_setBudget_12 : decode cL_setBudget 12 = .ok (.astore_n 3, 1) := by decide +kernel
theorem dL_setBudget_13 : decode cL_setBudget 13 = .ok (.iconst 1, 1) := by decide +kernel
theorem dL_setBudget_14 : decode cL_setBudget 14 = .ok (.ireturn, 1) := by decide +kernel
theorem dL_setBudget_15 : decode cL_setBudget 15 = .ok (.iconst 0, 1) := by decide +kernel
theorem dL_setBudget_16 : decode cL_setBudget 16 = .ok (.ireturn, 1) := by decide +kernel
set_option maxRecDepth 20000 in
theorem ggL_violations_X6_violations : GoodIn wsL_violations wsX6_violations := goodIn_ca (goodIn_r _ [6, 7, 8, 9, 10, 11, 5, 12, 13, 14, 15, 16, 17, 18, 19, 20, 21, 22, 23, 24, 25, 26, 27, 28, 29, 30, 31, 32, 33, 34, 35, 36, 37, 38, 39, 40, 41, 42, 43, 44, 45, 46, 47, 48, 49, 50, 51, 52, 53, 54, 55, 56, 57, 58, 59, 60, 61, 62, 63, 64, 65, 66, 67, 68, 69, 70, 71, 72, 73, 74, 75, 76] (by decide +kernel) (by decide +kernel)) (goodIn_sub (fun _ h => List.mem_cons_of_mem _ (List.mem_append_right _ h)) (by decide +kernel))
set_option maxRecDepth 20000 in
theorem gL_violations_X6_violations : GoodIn wsL_violations (wsV RL 45 RX6 yX6_violations wsX6_violations) := goodIn_app (goodIn_of _ (by decide +kernel)) ggL_violations_X6_violations
theorem dL_violations_0 : decode cL_violations 0 = .ok (.aload_n 2, 1) := by decide +kernel
theorem dL_violations_1 : decode cL_violations 1 = .ok (.iconst 0, 1) := by decide +kernel
theorem dL_violations_2 : decode cL_violations 2 = .ok (.aload_n 0, 1) := by decide +kernel
theorem dL_violations_3 : decode cL_violations 3 = .ok (.iload_n 1, 1) := by decide +kernel
theorem dL_violations_4 : decode cL_violations 4 = .ok (.invokevirtual 45, 3) := by decide +kernel
theorem dL_violations_7 : decode cL_violations 7 = .ok (.i2l, 1) := by decide +kernel
theorem dL_violations_8 : decode cL_violations 8 = .ok (.lastore, 1) := by decide +kernel
theorem dL_violations_9 : decode cL_violations 9 = .ok (.goto 6, 3) := by decide +kernel
theorem dL_violations_12 : decode cL_violations 12 = .ok (.astore_n 3, 1) := by decide +kernel
theorem dL_violations_13 : decode cL_violations 13 = .ok (.iconst 1, 1) := by decide +kernel
theorem dL_violations_14 : decode cL_violations 14 = .ok (.ireturn, 1) := by decide +kernel
theorem dL_violations_15 : decode cL_violations 15 = .ok (.iconst 0, 1) := by decide +kernel
theorem dL_violations_16 : decode cL_violations 16 = .ok (.ireturn, 1) := by decide +kernel
set_option maxRecDepth 20000 in
theorem ggL_costOf_X6_costOf : GoodIn wsL_costOf wsX6_costOf := goodIn_ca (goodIn_r _ [6, 7, 8, 9, 10, 5, 11, 12, 13, 14, 15, 16, 17, 18, 19, 20, 21, 22, 23, 24, 25, 26, 27, 28, 29, 30, 31, 32, 33, 34, 35, 36, 37, 38, 39, 40, 41, 42, 43, 44, 45, 46, 47] (by decide +kernel) (by decide +kernel)) (goodIn_sub (fun _ h => List.mem_cons_of_mem _ (List.mem_append_right _ h)) (by decide +kernel))
set_option maxRecDepth 20000 in
theorem gL_costOf_X6_costOf : GoodIn wsL_costOf (wsV RL 48 RX6 yX6_costOf wsX6_costOf) := goodIn_app (goodIn_of _ (by decide +kernel)) ggL_costOf_X6_costOf
theorem dL_costOf_0 : decode cL_costOf 0 = .ok (.aload_n 2, 1) := by decide +kernel
theorem dL_costOf_1 : decode cL_costOf 1 = .ok (.iconst 0, 1) := by decide +kernel
theorem dL_costOf_2 : decode cL_costOf 2 = .ok (.aload_n 0, 1) := by decide +kernel
theorem dL_costOf_3 : decode cL_costOf 3 = .ok (.iload_n 1, 1) := by decide +kernel
theorem dL_costOf_4 : decode cL_costOf 4 = .ok (.invokevirtual 48, 3) := by decide +kernel
theorem dL_costOf_7 : decode cL_costOf 7 = .ok (.i2l, 1) := by decide +kernel
theorem dL_costOf_8 : decode cL_costOf 8 = .ok (.lastore, 1) := by decide +kernel
theorem dL_costOf_9 : decode cL_costOf 9 = .ok (.goto 6, 3) := by decide +kernel
theorem dL_costOf_12 : decode cL_costOf 12 = .ok (.astore_n 3, 1) := by decide +kernel
theorem dL_costOf_13 : decode cL_costOf 13 = .ok (.iconst 1, 1) := by decide +kernel
theorem dL_costOf_14 : decode cL_costOf 14 = .ok (.ireturn, 1) := by decide +kernel
theorem dL_costOf_15 : decode cL_costOf 15 = .ok (.iconst 0, 1) := by decide +kernel
theorem dL_costOf_16 : decode cL_costOf 16 = .ok (.ireturn, 1) := by decide +kernel
set_option maxRecDepth 20000 in
theorem ggL_valueOf_X6_valueOf : GoodIn wsL_valueOf wsX6_valueOf := goodIn_ca (goodIn_r _ [6, 7, 8, 9, 10, 5, 11, 12, 13, 14, 15, 16, 17, 18, 19, 20, 21, 22, 23, 24, 25, 26, 27, 28, 29, 30, 31, 32, 33, 34, 35, 36, 37, 38, 39, 40, 41, 42, 43, 44, 45, 46, 47] (by decide +kernel) (by decide +kernel)) (goodIn_sub (fun _ h => List.mem_cons_of_mem _ (List.mem_append_right _ h)) (by decide +kernel))
set_option maxRecDepth 20000 in
theorem gL_valueOf_X6_valueOf : GoodIn wsL_valueOf (wsV RL 51 RX6 yX6_valueOf wsX6_valueOf) := goodIn_app (goodIn_of _ (by decide +kernel)) ggL_valueOf_X6_valueOf
theorem dL_valueOf_0 : decode cL_valueOf 0 = .ok (.aload_n 2, 1) := by decide +kernel
theorem dL_valueOf_1 : decode cL_valueOf 1 = .ok (.iconst 0, 1) := by decide +kernel
theorem dL_valueOf_2 : decode cL_valueOf 2 = .ok (.aload_n 0, 1) := by decide +kernel
theorem dL_valueOf_3 : decode cL_valueOf 3 = .ok (.iload_n 1, 1) := by decide +kernel
theorem dL_valueOf_4 : decode cL_valueOf 4 = .ok (.invokevirtual 51, 3) := by decide +kernel
theorem dL_valueOf_7 : decode cL_valueOf 7 = .ok (.i2l, 1) := by decide +kernel
theorem dL_valueOf_8 : decode cL_valueOf 8 = .ok (.lastore, 1) := by decide +kernel
theorem dL_valueOf_9 : decode cL_valueOf 9 = .ok (.goto 6, 3) := by decide +kernel
theorem dL_valueOf_12 : decode cL_valueOf 12 = .ok (.astore_n 3, 1) := by decide +kernel
theorem dL_valueOf_13 : decode cL_valueOf 13 = .ok (.iconst 1, 1) := by decide +kernel
theorem dL_valueOf_14 : decode cL_valueOf 14 = .ok (.ireturn, 1) := by decide +kernel
theorem dL_valueOf_15 : decode cL_valueOf 15 = .ok (.iconst 0, 1) := by decide +kernel
theorem dL_valueOf_16 : decode cL_valueOf 16 = .ok (.ireturn, 1) := by decide +kernel
set_option maxRecDepth 20000 in
theorem ggL_product_X6_product : GoodIn wsL_product wsX6_product := goodIn_ca (goodIn_r _ [6, 7, 8, 9, 10, 5, 11, 12, 13, 14, 15, 16, 17, 18, 19, 20, 21, 22, 23, 24, 25, 26, 27, 28, 29, 30, 31, 32, 33, 34, 35, 36, 37, 38, 39, 40, 41, 42, 43, 44, 45, 46, 47, 48, 49, 50, 51, 52, 53, 54, 55, 56, 57, 58, 59, 60, 61, 62, 63, 64, 65, 66, 67, 68, 69, 70, 71, 72, 73, 74, 75, 76, 77, 78, 79, 80, 81, 82, 83, 84, 85, 86, 87, 88, 89, 90, 91, 92, 93, 94, 95, 96, 97, 98, 99, 100, 101, 102, 103, 104, 105, 106, 107, 108, 109, 110, 111, 112, 113, 114, 115, 116, 117, 118, 119, 120, 121, 122, 123, 124, 125, 126, 127, 128, 129, 130, 131, 132, 133, 134, 135, 136, 137, 138, 139, 140, 141] (by decide +kernel) (by decide +kernel)) (goodIn_sub (fun _ h => List.mem_cons_of_mem _ (List.mem_append_right _ h)) (by decide +kernel))
set_option maxRecDepth 20000 in
theorem gL_product_X6_product : GoodIn wsL_product (wsV RL 54 RX6 yX6_product wsX6_product) := goodIn_app (goodIn_of _ (by decide +kernel)) ggL_product_X6_product
theorem dL_product_0 : decode cL_product 0 = .ok (.aload_n 2, 1) := by decide +kernel
theorem dL_product_1 : decode cL_product 1 = .ok (.iconst 0, 1) := by decide +kernel
theorem dL_product_2 : decode cL_product 2 = .ok (.aload_n 0, 1) := by decide +kernel
theorem dL_product_3 : decode cL_product 3 = .ok (.iload_n 1, 1) := by decide +kernel
theorem dL_product_4 : decode cL_product 4 = .ok (.invokevirtual 54, 3) := by decide +kernel
theorem dL_product_7 : decode cL_product 7 = .ok (.i2l, 1) := by decide +kernel
theorem dL_product_8 : decode cL_product 8 = .ok (.lastore, 1) := by decide +kernel
theorem dL_product_9 : decode cL_product 9 = .ok (.goto 6, 3) := by decide +kernel
theorem dL_product_12 : decode cL_product 12 = .ok (.astore_n 3, 1) := by decide +kernel
theorem dL_product_13 : decode cL_product 13 = .ok (.iconst 1, 1) := by decide +kernel
theorem dL_product_14 : decode cL_product 14 = .ok (.ireturn, 1) := by decide +kernel
theorem dL_product_15 : decode cL_product 15 = .ok (.iconst 0, 1) := by decide +kernel
theorem dL_product_16 : decode cL_product 16 = .ok (.ireturn, 1) := by decide +kernel
set_option maxRecDepth 20000 in
theorem ggL_isDead_X6_isDead : GoodIn wsL_isDead wsX6_isDead := goodIn_ca (goodIn_r _ [6, 7, 8, 9, 10, 5, 11, 12, 13, 14, 15, 16, 17, 18, 19, 20, 21, 22, 23, 24, 25, 26, 27, 28, 29, 30, 31, 32, 33, 34, 35, 36, 37, 38, 39, 40, 41, 42, 43, 44, 45, 46, 47, 48, 49, 50, 51, 52, 53, 54, 55, 56, 57, 58, 59, 60, 61, 62, 63, 64, 65, 66, 67, 68, 69, 70, 71, 72, 73, 74, 75, 76, 77, 78, 79, 80, 81, 82, 83, 84, 85, 86, 87, 88, 89, 90, 91, 92, 93, 94, 95, 96, 97, 98, 99, 100, 101, 102, 103, 104, 105, 106, 107, 108, 109, 110, 111, 112, 113, 114, 115, 116, 117, 118, 119, 120, 121, 122, 123, 124, 125, 126, 127, 128, 129, 130, 131, 132, 133, 134, 135, 136, 137, 138, 139, 140, 141, 142, 143, 144, 145, 146, 147, 148, 149, 150, 151] (by decide +kernel) (by decide +kernel)) (goodIn_sub (fun _ h => List.mem_cons_of_mem _ (List.mem_append_right _ h)) (by decide +kernel))
set_option maxRecDepth 20000 in
theorem gL_isDead_X6_isDead : GoodIn wsL_isDead (wsV RL 57 RX6 yX6_isDead wsX6_isDead) := goodIn_app (goodIn_of _ (by decide +kernel)) ggL_isDead_X6_isDead
theorem dL_isDead_0 : decode cL_isDead 0 = .ok (.aload_n 2, 1) := by decide +kernel
theorem dL_isDead_1 : decode cL_isDead 1 = .ok (.iconst 0, 1) := by decide +kernel
theorem dL_isDead_2 : decode cL_isDead 2 = .ok (.aload_n 0, 1) := by decide +kernel
theorem dL_isDead_3 : decode cL_isDead 3 = .ok (.iload_n 1, 1) := by decide +kernel
theorem dL_isDead_4 : decode cL_isDead 4 = .ok (.invokevirtual 57, 3) := by decide +kernel
theorem dL_isDead_7 : decode cL_isDead 7 = .ok (.ifCond .eq 7, 3) := by decide +kernel
theorem dL_isDead_10 : decode cL_isDead 10 = .ok (.lconst 1, 1) := by decide +kernel
theorem dL_isDead_11 : decode cL_isDead 11 = .ok (.goto 4, 3) := by decide +kernel
theorem dL_isDead_14 : decode cL_isDead 14 = .ok (.lconst 0, 1) := by decide +kernel
theorem dL_isDead_15 : decode cL_isDead 15 = .ok (.lastore, 1) := by decide +kernel
theorem dL_isDead_16 : decode cL_isDead 16 = .ok (.goto 6, 3) := by decide +kernel
theorem dL_isDead_19 : decode cL_isDead 19 = .ok (.astore_n 3, 1) := by decide +kernel
theorem dL_isDead_20 : decode cL_isDead 20 = .ok (.iconst 1, 1) := by decide +kernel
theorem dL_isDead_21 : decode cL_isDead 21 = .ok (.ireturn, 1) := by decide +kernel
theorem dL_isDead_22 : decode cL_isDead 22 = .ok (.iconst 0, 1) := by decide +kernel
theorem dL_isDead_23 : decode cL_isDead 23 = .ok (.ireturn, 1) := by decide +kernel
set_option maxRecDepth 20000 in
theorem ggL_isCore_X6_isCore : GoodIn wsL_isCore wsX6_isCore := goodIn_ca (goodIn_r _ [6, 7, 8, 9, 10, 5, 11, 12, 13, 14, 15, 16, 17, 18, 19, 20, 21, 22, 23, 24, 25, 26, 27, 28, 29, 30, 31, 32, 33, 34, 35, 36, 37, 38, 39, 40, 41, 42, 43, 44, 45, 46, 47, 48, 49, 50, 51, 52, 53, 54, 55, 56, 57, 58, 59, 60, 61, 62, 63, 64, 65, 66, 67, 68, 69, 70, 71, 72, 73, 74, 75, 76, 77, 78, 79, 80, 81, 82, 83, 84, 85, 86, 87, 88, 89, 90, 91, 92, 93, 94, 95, 96, 97, 98, 99, 100, 101, 102, 103, 104, 105, 106, 107, 108, 109, 110, 111, 112, 113, 114, 115, 116, 117, 118, 119, 120, 121, 122, 123, 124, 125, 126, 127, 128, 129, 130, 131, 132, 133, 134, 135, 136, 137, 138, 139, 140, 141, 142, 143, 144, 145, 146, 147, 148, 149, 150, 151] (by decide +kernel) (by decide +kernel)) (goodIn_sub (fun _ h => List.mem_cons_of_mem _ (List.mem_append_right _ h)) (by decide +kernel))
set_option maxRecDepth 20000 in
theorem gL_isCore_X6_isCore : GoodIn wsL_isCore (wsV RL 61 RX6 yX6_isCore wsX6_isCore) := goodIn_app (goodIn_of _ (by decide +kernel)) ggL_isCore_X6_isCore
theorem dL_isCore_0 : decode cL_isCore 0 = .ok (.aload_n 2, 1) := by decide +kernel
theorem dL_isCore_1 : decode cL_isCore 1 = .ok (.iconst 0, 1) := by decide +kernel
theorem dL_isCore_2 : decode cL_isCore 2 = .ok (.aload_n 0, 1) := by decide +kernel
theorem dL_isCore_3 : decode cL_isCore 3 = .ok (.iload_n 1, 1) := by decide +kernel
theorem dL_isCore_4 : decode cL_isCore 4 = .ok (.invokevirtual 61, 3) := by decide +kernel
theorem dL_isCore_7 : decode cL_isCore 7 = .ok (.ifCond .eq 7, 3) := by decide +kernel
theorem dL_isCore_10 : decode cL_isCore 10 = .ok (.lconst 1, 1) := by decide +kernel
theorem dL_isCore_11 : decode cL_isCore 11 = .ok (.goto 4, 3) := by decide +kernel
theorem dL_isCore_14 : decode cL_isCore 14 = .ok (.lconst 0, 1) := by decide +kernel
theorem dL_isCore_15 : decode cL_isCore 15 = .ok (.lastore, 1) := by decide +kernel
theorem dL_isCore_16 : decode cL_isCore 16 = .ok (.goto 6, 3) := by decide +kernel
theorem dL_isCore_19 : decode cL_isCore 19 = .ok (.astore_n 3, 1) := by decide +kernel
theorem dL_isCore_20 : decode cL_isCore 20 = .ok (.iconst 1, 1) := by decide +kernel
theorem dL_isCore_21 : decode cL_isCore 21 = .ok (.ireturn, 1) := by decide +kernel
theorem dL_isCore_22 : decode cL_isCore 22 = .ok (.iconst 0, 1) := by decide +kernel
theorem dL_isCore_23 : decode cL_isCore 23 = .ok (.ireturn, 1) := by decide +kernel
set_option maxRecDepth 20000 in
theorem ggL_isFalselyFree_X6_isFalselyFree : GoodIn wsL_isFalselyFree wsX6_isFalselyFree := goodIn_ca (goodIn_r _ [6, 7, 8, 9, 10, 11, 5, 12, 13, 14, 15, 16, 17, 18, 19, 20, 21, 22, 23, 24, 25, 26, 27, 28, 29, 30, 31, 32, 33, 34, 35, 36, 37, 38, 39, 40, 41, 42, 43, 44, 45, 46, 47, 48, 49, 50, 51, 52, 53, 54, 55, 56, 57, 58, 59, 60, 61, 62, 63, 64, 65, 66, 67, 68, 69, 70, 71, 72, 73, 74, 75, 76, 77, 78, 79, 80, 81, 82, 83, 84, 85, 86, 87, 88, 89, 90, 91, 92, 93, 94, 95, 96, 97, 98, 99, 100, 101, 102, 103, 104, 105, 106, 107, 108, 109, 110, 111, 112, 113, 114, 115, 116, 117, 118, 119, 120, 121, 122, 123, 124, 125, 126, 127, 128, 129, 130, 131, 132, 133, 134, 135, 136, 137, 138, 139, 140, 141, 142, 143, 144, 145, 146, 147, 148, 149, 150, 151, 152, 153, 154, 155, 156, 157] (by decide +kernel) (by decide +kernel)) (goodIn_sub (fun _ h => List.mem_cons_of_mem _ (List.mem_append_right _ h)) (by decide +kernel))
set_option maxRecDepth 20000 in
theorem gL_isFalselyFree_X6_isFalselyFree : GoodIn wsL_isFalselyFree (wsV RL 64 RX6 yX6_isFalselyFree wsX6_isFalselyFree) := goodIn_app (goodIn_of _ (by decide +kernel)) ggL_isFalselyFree_X6_isFalselyFree
theorem dL_isFalselyFree_0 : decode cL_isFalselyFree 0 = .ok (.aload_n 2, 1) := by decide +kernel
theorem dL_isFalselyFree_1 : decode cL_isFalselyFree 1 = .ok (.iconst 0, 1) := by decide +kernel
theorem dL_isFalselyFree_2 : decode cL_isFalselyFree 2 = .ok (.aload_n 0, 1) := by decide +kernel
theorem dL_isFalselyFree_3 : decode cL_isFalselyFree 3 = .ok (.iload_n 1, 1) := by decide +kernel
theorem dL_isFalselyFree_4 : decode cL_isFalselyFree 4 = .ok (.invokevirtual 64, 3) := by decide +kernel
theorem dL_isFalselyFree_7 : decode cL_isFalselyFree 7 = .ok (.ifCond .eq 7, 3) := by decide +kernel
theorem dL_isFalselyFree_10 : decode cL_isFalselyFree 10 = .ok (.lconst 1, 1) := by decide +kernel
theorem dL_isFalselyFree_11 : decode cL_isFalselyFree 11 = .ok (.goto 4, 3) := by decide +kernel
theorem dL_isFalselyFree_14 : decode cL_isFalselyFree 14 = .ok (.lconst 0, 1) := by decide +kernel
theorem dL_isFalselyFree_15 : decode cL_isFalselyFree 15 = .ok (.lastore, 1) := by decide +kernel
theorem dL_isFalselyFree_16 : decode cL_isFalselyFree 16 = .ok (.goto 6, 3) := by decide +kernel
theorem dL_isFalselyFree_19 : decode cL_isFalselyFree 19 = .ok (.astore_n 3, 1) := by decide +kernel
theorem dL_isFalselyFree_20 : decode cL_isFalselyFree 20 = .ok (.iconst 1, 1) := by decide +kernel
theorem dL_isFalselyFree_21 : decode cL_isFalselyFree 21 = .ok (.ireturn, 1) := by decide +kernel
theorem dL_isFalselyFree_22 : decode cL_isFalselyFree 22 = .ok (.iconst 0, 1) := by decide +kernel
theorem dL_isFalselyFree_23 : decode cL_isFalselyFree 23 = .ok (.ireturn, 1) := by decide +kernel
set_option maxRecDepth 20000 in
theorem ggL_areTogether_X6_areTogether : GoodIn wsL_areTogether wsX6_areTogether := goodIn_ca (goodIn_r _ [6, 7, 8, 9, 10, 5, 11, 12, 13, 14, 15, 16, 17, 18, 19, 20, 21, 22, 23, 24, 25, 26, 27, 28, 29, 30, 31, 32, 33, 34, 35, 36, 37, 38, 39, 40, 41, 42, 43, 44, 45, 46, 47, 48, 49, 50, 51, 52, 53, 54, 55, 56, 57, 58, 59, 60, 61, 62, 63, 64, 65, 66, 67, 68, 69, 70, 71, 72, 73, 74, 75, 76, 77, 78, 79, 80, 81, 82, 83, 84, 85, 86, 87, 88, 89, 90, 91, 92, 93, 94, 95, 96, 97, 98, 99, 100, 101, 102, 103, 104, 105, 106, 107, 108, 109, 110, 111, 112, 113, 114, 115, 116, 117, 118, 119, 120, 121, 122, 123, 124, 125, 126, 127, 128, 129, 130, 131, 132, 133, 134, 135, 136, 137, 138, 139, 140, 141, 142, 143, 144, 145, 146, 147, 148, 149, 150] (by decide +kernel) (by decide +kernel)) (goodIn_sub (fun _ h => List.mem_cons_of_mem _ (List.mem_append_right _ h)) (by decide +kernel))
set_option maxRecDepth 20000 in
theorem gL_areTogether_X6_areTogether : GoodIn wsL_areTogether (wsV RL 67 RX6 yX6_areTogether wsX6_areTogether) := goodIn_app (goodIn_of _ (by decide +kernel)) ggL_areTogether_X6_areTogether
theorem dL_areTogether_0 : decode cL_areTogether 0 = .ok (.aload_n 3, 1) := by decide +kernel
theorem dL_areTogether_1 : decode cL_areTogether 1 = .ok (.iconst 0, 1) := by decide +kernel
theorem dL_areTogether_2 : decode cL_areTogether 2 = .ok (.aload_n 0, 1) := by decide +kernel
theorem dL_areTogether_3 : decode cL_areTogether 3 = .ok (.iload_n 1, 1) := by decide +kernel
theorem dL_areTogether_4 : decode cL_areTogether 4 = .ok (.iload_n 2, 1) := by decide +kernel
theorem dL_areTogether_5 : decode cL_areTogether 5 = .ok (.invokevirtual 67, 3) := by decide +kernel
theorem dL_areTogether_8 : decode cL_areTogether 8 = .ok (.ifCond .eq 7, 3) := by decide +kernel
theorem dL_areTogether_11 : decode cL_areTogether 11 = .ok (.lconst 1, 1) := by decide +kernel
theorem dL_areTogether_12 : decode cL_areTogether 12 = .ok (.goto 4, 3) := by decide +kernel
theorem dL_areTogether_15 : decode cL_areTogether 15 = .ok (.lconst 0, 1) := by decide +kernel
theorem dL_areTogether_16 : decode cL_areTogether 16 = .ok (.lastore, 1) := by decide +kernel
theorem dL_areTogether_17 : decode cL_areTogether 17 = .ok (.goto 7, 3) := by decide +kernel
theorem dL_areTogether_20 : decode cL_areTogether 20 = .ok (.astore 4, 2) := by decide +kernel
theorem dL_areTogether_22 : decode cL_areTogether 22 = .ok (.iconst 1, 1) := by decide +kernel
theorem dL_areTogether_23 : decode cL_areTogether 23 = .ok (.ireturn, 1) := by decide +kernel
theorem dL_areTogether_24 : decode cL_areTogether 24 = .ok (.iconst 0, 1) := by decide +kernel
theorem dL_areTogether_25 : decode cL_areTogether 25 = .ok (.ireturn, 1) := by decide +kernel
set_option maxRecDepth 20000 in
theorem ggL_blame_X6_blame : GoodIn wsL_blame wsX6_blame := goodIn_ca (goodIn_r _ [6, 7, 8, 9, 10, 11, 5, 12, 13, 14, 15, 16, 17, 18, 19, 20, 21, 22, 23, 24, 25, 26, 27, 28, 29, 30, 31, 32, 33, 34, 35, 36, 37, 38, 39, 40, 41, 42, 43, 44, 45, 46, 47, 48, 49, 50, 51, 52, 53, 54, 55, 56, 57, 58, 59, 60, 61, 62, 63, 64, 65, 66, 67, 68, 69, 70, 71, 72, 73, 74, 75, 76, 77, 78, 79, 80, 81, 82, 83, 84, 85, 86, 87, 88, 89, 90, 91, 92, 93, 94, 95, 96, 97, 98, 99, 100, 101, 102, 103, 104, 105, 106, 107, 108, 109, 110, 111, 112, 113, 114, 115, 116, 117, 118, 119, 120, 121, 122, 123, 124, 125, 126, 127, 128, 129, 130, 131, 132, 133, 134, 135, 136, 137, 138, 139, 140, 141, 142, 143, 144, 145, 146, 147, 148, 149, 150, 151, 152, 153, 154, 155] (by decide +kernel) (by decide +kernel)) (goodIn_sub (fun _ h => List.mem_cons_of_mem _ (List.mem_append_right _ h)) (by decide +kernel))
set_option maxRecDepth 20000 in
theorem gL_blame_X6_blame : GoodIn wsL_blame (wsV RL 71 RX6 yX6_blame wsX6_blame) := goodIn_app (goodIn_of _ (by decide +kernel)) ggL_blame_X6_blame
theorem dL_blame_0 : decode cL_blame 0 = .ok (.aload_n 2, 1) := by decide +kernel
theorem dL_blame_1 : decode cL_blame 1 = .ok (.iconst 0, 1) := by decide +kernel
theorem dL_blame_2 : decode cL_blame 2 = .ok (.aload_n 0, 1) := by decide +kernel
theorem dL_blame_3 : decode cL_blame 3 = .ok (.iload_n 1, 1) := by decide +kernel
theorem dL_blame_4 : decode cL_blame 4 = .ok (.invokevirtual 71, 3) := by decide +kernel
theorem dL_blame_7 : decode cL_blame 7 = .ok (.i2l, 1) := by decide +kernel
theorem dL_blame_8 : decode cL_blame 8 = .ok (.lastore, 1) := by decide +kernel
theorem dL_blame_9 : decode cL_blame 9 = .ok (.goto 6, 3) := by decide +kernel
theorem dL_blame_12 : decode cL_blame 12 = .ok (.astore_n 3, 1) := by decide +kernel
theorem dL_blame_13 : decode cL_blame 13 = .ok (.iconst 1, 1) := by decide +kernel
theorem dL_blame_14 : decode cL_blame 14 = .ok (.ireturn, 1) := by decide +kernel
theorem dL_blame_15 : decode cL_blame 15 = .ok (.iconst 0, 1) := by decide +kernel
theorem dL_blame_16 : decode cL_blame 16 = .ok (.ireturn, 1) := by decide +kernel
set_option maxRecDepth 20000 in
theorem ggL_candidate_X6_candidate : GoodIn wsL_candidate wsX6_candidate := goodIn_ca (goodIn_r _ [6, 7, 8, 9, 10, 5, 11, 12, 13, 14, 15, 16, 17, 18, 19, 20, 21, 22, 23, 24, 25, 26, 27, 28, 29, 30, 31, 32, 33, 34, 35, 36, 37, 38, 39, 40, 41, 42, 43, 44, 45, 46, 47, 48, 49, 50, 51, 52, 53, 54, 55, 56, 57, 58, 59, 60, 61, 62, 63, 64, 65, 66, 67, 68, 69, 70, 71, 72, 73, 74, 75, 76, 77, 78, 79, 80, 81, 82, 83, 84, 85, 86, 87, 88, 89, 90, 91, 92, 93, 94, 95, 96, 97, 98, 99, 100, 101, 102, 103, 104, 105, 106, 107, 108, 109, 110, 111, 112, 113, 114, 115, 116, 117, 118, 119, 120, 121, 122, 123, 124, 125, 126, 127, 128, 129, 130, 131, 132, 133, 134, 135, 136, 137, 138, 139, 140, 141] (by decide +kernel) (by decide +kernel)) (goodIn_sub (fun _ h => List.mem_cons_of_mem _ (List.mem_append_right _ h)) (by decide +kernel))
set_option maxRecDepth 20000 in
theorem gL_candidate_X6_candidate : GoodIn wsL_candidate (wsV RL 74 RX6 yX6_candidate wsX6_candidate) := goodIn_app (goodIn_of _ (by decide +kernel)) ggL_candidate_X6_candidate
theorem dL_candidate_0 : decode cL_candidate 0 = .ok (.aload_n 2, 1) := by decide +kernel
theorem dL_candidate_1 : decode cL_candidate 1 = .ok (.iconst 0, 1) := by decide +kernel
theorem dL_candidate_2 : decode cL_candidate 2 = .ok (.aload_n 0, 1) := by decide +kernel
theorem dL_candidate_3 : decode cL_candidate 3 = .ok (.iload_n 1, 1) := by decide +kernel
theorem dL_candidate_4 : decode cL_candidate 4 = .ok (.invokevirtual 74, 3) := by decide +kernel
theorem dL_candidate_7 : decode cL_candidate 7 = .ok (.i2l, 1) := by decide +kernel
theorem dL_candidate_8 : decode cL_candidate 8 = .ok (.lastore, 1) := by decide +kernel
theorem dL_candidate_9 : decode cL_candidate 9 = .ok (.goto 6, 3) := by decide +kernel
theorem dL_candidate_12 : decode cL_candidate 12 = .ok (.astore_n 3, 1) := by decide +kernel
theorem dL_candidate_13 : decode cL_candidate 13 = .ok (.iconst 1, 1) := by decide +kernel
theorem dL_candidate_14 : decode cL_candidate 14 = .ok (.ireturn, 1) := by decide +kernel
theorem dL_candidate_15 : decode cL_candidate 15 = .ok (.iconst 0, 1) := by decide +kernel
theorem dL_candidate_16 : decode cL_candidate 16 = .ok (.ireturn, 1) := by decide +kernel
set_option maxRecDepth 20000 in
theorem ggL_share_X6_share : GoodIn wsL_share wsX6_share := goodIn_ca (goodIn_r _ [6, 7, 8, 9, 10, 5, 11, 12, 13, 14, 15, 16, 17, 18, 19, 20, 21, 22, 23, 24, 25, 26, 27, 28, 29, 30, 31, 32, 33, 34, 35, 36, 37, 38, 39, 40, 41, 42, 43, 44, 45, 46, 47, 48, 49, 50, 51, 52, 53, 54, 55, 56, 57, 58, 59, 60, 61, 62, 63, 64, 65, 66, 67, 68, 69, 70, 71, 72, 73, 74, 75, 76, 77, 78, 79, 80, 81, 82, 83, 84, 85, 86, 87, 88, 89, 90, 91, 92, 93, 94, 95, 96, 97, 98, 99, 100, 101, 102, 103, 104, 105, 106, 107, 108, 109, 110, 111, 112, 113, 114, 115, 116, 117, 118, 119, 120, 121, 122, 123, 124, 125, 126, 127, 128, 129, 130, 131, 132, 133, 134, 135, 136, 137, 138, 139, 140, 141, 142, 143, 144, 145, 146, 147, 148, 149, 150] (by decide +kernel) (by decide +kernel)) (goodIn_sub (fun _ h => List.mem_cons_of_mem _ (List.mem_append_right _ h)) (by decide +kernel))
set_option maxRecDepth 20000 in
theorem gL_share_X6_share : GoodIn wsL_share (wsV RL 77 RX6 yX6_share wsX6_share) := goodIn_app (goodIn_of _ (by decide +kernel)) ggL_share_X6_share
theorem dL_share_0 : decode cL_share 0 = .ok (.aload_n 2, 1) := by decide +kernel
theorem dL_share_1 : decode cL_share 1 = .ok (.iconst 0, 1) := by decide +kernel
theorem dL_share_2 : decode cL_share 2 = .ok (.aload_n 0, 1) := by decide +kernel
theorem dL_share_3 : decode cL_share 3 = .ok (.iload_n 1, 1) := by decide +kernel
theorem dL_share_4 : decode cL_share 4 = .ok (.invokevirtual 77, 3) := by decide +kernel
theorem dL_share_7 : decode cL_share 7 = .ok (.dastore, 1) := by decide +kernel
theorem dL_share_8 : decode cL_share 8 = .ok (.goto 6, 3) := by decide +kernel
theorem dL_share_11 : decode cL_share 11 = .ok (.astore_n 3, 1) := by decide +kernel
theorem dL_share_12 : decode cL_share 12 = .ok (.iconst 1, 1) := by decide +kernel
theorem dL_share_13 : decode cL_share 13 = .ok (.ireturn, 1) := by decide +kernel
theorem dL_share_14 : decode cL_share 14 = .ok (.iconst 0, 1) := by decide +kernel
theorem dL_share_15 : decode cL_share 15 = .ok (.ireturn, 1) := by decide +kernel
set_option maxRecDepth 20000 in
theorem ggL_front_X6_front : GoodIn wsL_front wsX6_front := goodIn_ca (goodIn_r _ [6, 7, 8, 9, 10, 5, 11, 12, 13, 14, 15, 16, 17, 18, 19, 20, 21, 22, 23, 24, 25, 26, 27, 28, 29, 30, 31, 32, 33, 34, 35, 36, 37, 38, 39, 40, 41, 42, 43, 44, 45, 46, 47, 48, 49, 50, 51, 52, 53, 54, 55, 56, 57, 58, 59, 60, 61, 62, 63, 64, 65, 66, 67, 68, 69, 70, 71, 72, 73, 74, 75, 76, 77, 78, 79, 80, 81, 82, 83, 84, 85, 86, 87, 88, 89, 90, 91, 92, 93, 94, 95, 96, 97, 98, 99, 100, 101, 102, 103, 104, 105, 106, 107, 108, 109, 110, 111, 112, 113, 114, 115, 116, 117, 118, 119, 120, 121, 122, 123, 124, 125, 126, 127, 128, 129, 130, 131, 132, 133, 134, 135, 136, 137, 138, 139, 140, 141, 142, 143, 144, 145, 146, 147, 148, 149, 150, 151, 152, 153, 154, 155, 156, 157, 158, 159, 160, 161, 162, 163, 164, 165, 166, 167, 168, 169, 170, 171, 172, 173, 174, 175, 176, 177, 178, 179, 180] (by decide +kernel) (by decide +kernel)) (goodIn_sub (fun _ h => List.mem_cons_of_mem _ (List.mem_append_right _ h)) (by decide +kernel))
set_option maxRecDepth 20000 in
theorem gL_front_X6_front : GoodIn wsL_front (wsV RL 81 RX6 yX6_front wsX6_front) := goodIn_app (goodIn_of _ (by decide +kernel)) ggL_front_X6_front
theorem dL_front_0 : decode cL_front 0 = .ok (.aload_n 2, 1) := by decide +kernel
theorem dL_front_1 : decode cL_front 1 = .ok (.iconst 0, 1) := by decide +kernel
theorem dL_front_2 : decode cL_front 2 = .ok (.aload_n 0, 1) := by decide +kernel
theorem dL_front_3 : decode cL_front 3 = .ok (.iload_n 1, 1) := by decide +kernel
theorem dL_front_4 : decode cL_front 4 = .ok (.invokevirtual 81, 3) := by decide +kernel
theorem dL_front_7 : decode cL_front 7 = .ok (.i2l, 1) := by decide +kernel
theorem dL_front_8 : decode cL_front 8 = .ok (.lastore, 1) := by decide +kernel
theorem dL_front_9 : decode cL_front 9 = .ok (.goto 6, 3) := by decide +kernel
theorem dL_front_12 : decode cL_front 12 = .ok (.astore_n 3, 1) := by decide +kernel
theorem dL_front_13 : decode cL_front 13 = .ok (.iconst 1, 1) := by decide +kernel
theorem dL_front_14 : decode cL_front 14 = .ok (.ireturn, 1) := by decide +kernel
theorem dL_front_15 : decode cL_front 15 = .ok (.iconst 0, 1) := by decide +kernel
theorem dL_front_16 : decode cL_front 16 = .ok (.ireturn, 1) := by decide +kernel
set_option maxRecDepth 20000 in
theorem ggL_nearest_X6_nearest : GoodIn wsL_nearest wsX6_nearest := goodIn_ca (goodIn_r _ [6, 7, 8, 9, 10, 5, 11, 12, 13, 14, 15, 16, 17, 18, 19, 20, 21, 22, 23, 24, 25, 26, 27, 28, 29, 30, 31, 32, 33, 34, 35, 36, 37, 38, 39, 40, 41, 42, 43, 44, 45, 46, 47, 48, 49, 50, 51, 52, 53, 54, 55, 56, 57, 58, 59, 60, 61, 62, 63, 64, 65, 66, 67, 68, 69, 70, 71, 72, 73, 74, 75, 76, 77, 78, 79, 80, 81, 82, 83, 84, 85, 86, 87, 88, 89, 90, 91, 92, 93, 94, 95, 96, 97, 98, 99, 100, 101, 102, 103, 104, 105, 106, 107, 108, 109, 110, 111, 112, 113, 114, 115, 116, 117, 118, 119, 120, 121, 122, 123, 124, 125, 126, 127, 128, 129, 130, 131, 132, 133, 134, 135, 136, 137, 138, 139, 140, 141, 142, 143] (by decide +kernel) (by decide +kernel)) (goodIn_sub (fun _ h => List.mem_cons_of_mem _ (List.mem_append_right _ h)) (by decide +kernel))
set_option maxRecDepth 20000 in
theorem gL_nearest_X6_nearest : GoodIn wsL_nearest (wsV RL 84 RX6 yX6_nearest wsX6_nearest) := goodIn_app (goodIn_of _ (by decide +kernel)) ggL_nearest_X6_nearest
theorem dL_nearest_0 : decode cL_nearest 0 = .ok (.aload_n 2, 1) := by decide +kernel
theorem dL_nearest_1 : decode cL_nearest 1 = .ok (.iconst 0, 1) := by decide +kernel
theorem dL_nearest_2 : decode cL_nearest 2 = .ok (.aload_n 0, 1) := by decide +kernel
theorem dL_nearest_3 : decode cL_nearest 3 = .ok (.iload_n 1, 1) := by decide +kernel
theorem dL_nearest_4 : decode cL_nearest 4 = .ok (.invokevirtual 84, 3) := by decide +kernel
theorem dL_nearest_7 : decode cL_nearest 7 = .ok (.i2l, 1) := by decide +kernel
theorem dL_nearest_8 : decode cL_nearest 8 = .ok (.lastore, 1) := by decide +kernel
theorem dL_nearest_9 : decode cL_nearest 9 = .ok (.goto 6, 3) := by decide +kernel
theorem dL_nearest_12 : decode cL_nearest 12 = .ok (.astore_n 3, 1) := by decide +kernel
theorem dL_nearest_13 : decode cL_nearest 13 = .ok (.iconst 1, 1) := by decide +kernel
theorem dL_nearest_14 : decode cL_nearest 14 = .ok (.ireturn, 1) := by decide +kernel
theorem dL_nearest_15 : decode cL_nearest 15 = .ok (.iconst 0, 1) := by decide +kernel
theorem dL_nearest_16 : decode cL_nearest 16 = .ok (.ireturn, 1) := by decide +kernel
set_option maxRecDepth 20000 in
theorem ggL_sample_X6_sample : GoodIn wsL_sample wsX6_sample := goodIn_ca (goodIn_r _ [6, 7, 8, 9, 10, 5, 11, 12, 13, 14, 15, 16, 17, 18, 19, 20, 21, 22, 23, 24, 25, 26, 27, 28, 29, 30, 31, 32, 33, 34, 35, 36, 37, 38, 39, 40, 41, 42, 43, 44, 45, 46, 47, 48, 49, 50, 51, 52, 53, 54, 55, 56, 57, 58, 59, 60, 61, 62, 63, 64, 65, 66, 67, 68, 69, 70, 71, 72, 73, 74, 75, 76, 77, 78, 79, 80, 81, 82, 83, 84, 85, 86, 87, 88, 89, 90, 91, 92, 93, 94, 95, 96, 97, 98, 99, 100, 101, 102, 103, 104, 105, 106, 107, 108, 109, 110, 111, 112, 113, 114, 115, 116, 117, 118, 119, 120, 121, 122, 123, 124, 125, 126, 127, 128, 129, 130, 131, 132, 133, 134, 135, 136, 137, 138, 139, 140, 141, 142, 143, 144, 145, 146, 147, 148, 149, 150, 151, 152, 153, 154, 155, 156, 157, 158, 159, 160, 161, 162, 163, 164, 165, 166, 167, 168, 169, 170, 171, 172, 173, 174, 175, 176, 177, 178, 179, 180, 181, 182, 183, 184, 185, 186] (by decide +kernel) (by decide +kernel)) (goodIn_sub (fun _ h => List.mem_cons_of_mem _ (List.mem_append_right _ h)) (by decide +kernel))
set_option maxRecDepth 20000 in
theorem gL_sample_X6_sample : GoodIn wsL_sample (wsV RL 87 RX6 yX6_sample wsX6_sample) := goodIn_app (goodIn_of _ (by decide +kernel)) ggL_sample_X6_sample
theorem dL_sample_0 : decode cL_sample 0 = .ok (.aload_n 2, 1) := by decide +kernel
theorem dL_sample_1 : decode cL_sample 1 = .ok (.iconst 0, 1) := by decide +kernel
theorem dL_sample_2 : decode cL_sample 2 = .ok (.aload_n 0, 1) := by decide +kernel
theorem dL_sample_3 : decode cL_sample 3 = .ok (.iload_n 1, 1) := by decide +kernel
theorem dL_sample_4 : decode cL_sample 4 = .ok (.invokevirtual 87, 3) := by decide +kernel
theorem dL_sample_7 : decode cL_sample 7 = .ok (.i2l, 1) := by decide +kernel
theorem dL_sample_8 : decode cL_sample 8 = .ok (.lastore, 1) := by decide +kernel
theorem dL_sample_9 : decode cL_sample 9 = .ok (.goto 6, 3) := by decide +kernel
theorem dL_sample_12 : decode cL_sample 12 = .ok (.astore_n 3, 1) := by decide +kernel
theorem dL_sample_13 : decode cL_sample 13 = .ok (.iconst 1, 1) := by decide +kernel
theorem dL_sample_14 : decode cL_sample 14 = .ok (.ireturn, 1) := by decide +kernel
theorem dL_sample_15 : decode cL_sample 15 = .ok (.iconst 0, 1) := by decide +kernel
theorem dL_sample_16 : decode cL_sample 16 = .ok (.ireturn, 1) := by decide +kernel
