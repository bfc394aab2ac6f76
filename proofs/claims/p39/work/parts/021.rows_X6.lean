set_option maxRecDepth 20000 in
theorem ggX6_init_X3_init : GoodIn wsX6_init wsX3_init := goodIn_r _ [33, 34, 2, 3, 35, 36, 37, 38, 39, 40, 41, 42, 43, 72, 73, 74, 75, 76, 77, 78] (by decide +kernel) (by decide +kernel)
set_option maxRecDepth 20000 in
theorem gX6_init_X3_init_n11 : GoodIn wsX6_init (wsX3_init) := ggX6_init_X3_init
set_option maxRecDepth 20000 in
theorem ggX6_init_X2_init : GoodIn wsX6_init wsX2_init := goodIn_r _ [45, 46, 2, 3, 47, 48, 36, 49, 50, 51, 89, 90, 91, 92, 93] (by decide +kernel) (by decide +kernel)
set_option maxRecDepth 20000 in
theorem gX6_init_X2_init_n18 : GoodIn wsX6_init (wsX2_init) := ggX6_init_X2_init
set_option maxRecDepth 20000 in
theorem ggX6_init_X0_init : GoodIn wsX6_init wsX0_init := goodIn_r _ [53, 54, 2, 3, 55, 56, 57, 94, 95, 96] (by decide +kernel) (by decide +kernel)
set_option maxRecDepth 20000 in
theorem gX6_init_X0_init_n25 : GoodIn wsX6_init (wsX0_init) := ggX6_init_X0_init
set_option maxRecDepth 20000 in
theorem ggX6_init_X1_init : GoodIn wsX6_init wsX1_init := goodIn_r _ [59, 60, 2, 3, 36, 61, 62, 63, 97, 98, 99] (by decide +kernel) (by decide +kernel)
set_option maxRecDepth 20000 in
theorem gX6_init_X1_init_n32 : GoodIn wsX6_init (wsX1_init) := ggX6_init_X1_init
set_option maxRecDepth 20000 in
theorem ggX6_init_X5_init : GoodIn wsX6_init wsX5_init := goodIn_r _ [65, 66, 2, 3, 36, 67, 100] (by decide +kernel) (by decide +kernel)
set_option maxRecDepth 20000 in
theorem gX6_init_X5_init_n51 : GoodIn wsX6_init (wsX5_init) := ggX6_init_X5_init
set_option maxRecDepth 20000 in
theorem ggX6_init_X4_init : GoodIn wsX6_init wsX4_init := goodIn_r _ [69, 70, 2, 3, 36, 71, 101] (by decide +kernel) (by decide +kernel)
set_option maxRecDepth 20000 in
theorem gX6_init_X4_init_n58 : GoodIn wsX6_init (wsX4_init) := ggX6_init_X4_init
theorem dX6_init_0 : decode cX6_init 0 = .ok (.aload_n 0, 1) := by decide +kernel
theorem dX6_init_1 : decode cX6_init 1 = .ok (.invokespecial 3, 3) := by decide +kernel
theorem dX6_init_4 : decode cX6_init 4 = .ok (.aload_n 0, 1) := by decide +kernel
theorem dX6_init_5 : decode cX6_init 5 = .ok (.new 9, 3) := by decide +kernel
theorem dX6_init_8 : decode cX6_init 8 = .ok (.dup, 1) := by decide +kernel
theorem dX6_init_9 : decode cX6_init 9 = .ok (.invokespecial 11, 3) := by decide +kernel
theorem dX6_init_12 : decode cX6_init 12 = .ok (.putfield 12, 3) := by decide +kernel
theorem dX6_init_15 : decode cX6_init 15 = .ok (.aload_n 0, 1) := by decide +kernel
theorem dX6_init_16 : decode cX6_init 16 = .ok (.new 16, 3) := by decide +kernel
theorem dX6_init_19 : decode cX6_init 19 = .ok (.dup, 1) := by decide +kernel
theorem dX6_init_20 : decode cX6_init 20 = .ok (.invokespecial 18, 3) := by decide +kernel
theorem dX6_init_23 : decode cX6_init 23 = .ok (.putfield 19, 3) := by decide +kernel
theorem dX6_init_26 : decode cX6_init 26 = .ok (.aload_n 0, 1) := by decide +kernel
theorem dX6_init_27 : decode cX6_init 27 = .ok (.new 23, 3) := by decide +kernel
theorem dX6_init_30 : decode cX6_init 30 = .ok (.dup, 1) := by decide +kernel
theorem dX6_init_31 : decode cX6_init 31 = .ok (.invokespecial 25, 3) := by decide +kernel
theorem dX6_init_34 : decode cX6_init 34 = .ok (.putfield 26, 3) := by decide +kernel
theorem dX6_init_37 : decode cX6_init 37 = .ok (.aload_n 0, 1) := by decide +kernel
theorem dX6_init_38 : decode cX6_init 38 = .ok (.new 30, 3) := by decide +kernel
theorem dX6_init_41 : decode cX6_init 41 = .ok (.dup, 1) := by decide +kernel
theorem dX6_init_42 : decode cX6_init 42 = .ok (.invokespecial 32, 3) := by decide +kernel
theorem dX6_init_45 : decode cX6_init 45 = .ok (.putfield 33, 3) := by decide +kernel
theorem dX6_init_48 : decode cX6_init 48 = .ok (.aload_n 0, 1) := by decide +kernel
theorem dX6_init_49 : decode cX6_init 49 = .ok (.new 30, 3) := by decide +kernel
theorem dX6_init_52 : decode cX6_init 52 = .ok (.dup, 1) := by decide +kernel
theorem dX6_init_53 : decode cX6_init 53 = .ok (.invokespecial 32, 3) := by decide +kernel
theorem dX6_init_56 : decode cX6_init 56 = .ok (.putfield 37, 3) := by decide +kernel
theorem dX6_init_59 : decode cX6_init 59 = .ok (.aload_n 0, 1) := by decide +kernel
theorem dX6_init_60 : decode cX6_init 60 = .ok (.new 30, 3) := by decide +kernel
theorem dX6_init_63 : decode cX6_init 63 = .ok (.dup, 1) := by decide +kernel
theorem dX6_init_64 : decode cX6_init 64 = .ok (.invokespecial 32, 3) := by decide +kernel
theorem dX6_init_67 : decode cX6_init 67 = .ok (.putfield 40, 3) := by decide +kernel
theorem dX6_init_70 : decode cX6_init 70 = .ok (.aload_n 0, 1) := by decide +kernel
theorem dX6_init_71 : decode cX6_init 71 = .ok (.new 30, 3) := by decide +kernel
theorem dX6_init_74 : decode cX6_init 74 = .ok (.dup, 1) := by decide +kernel
theorem dX6_init_75 : decode cX6_init 75 = .ok (.invokespecial 32, 3) := by decide +kernel
theorem dX6_init_78 : decode cX6_init 78 = .ok (.putfield 43, 3) := by decide +kernel
theorem dX6_init_81 : decode cX6_init 81 = .ok (.aload_n 0, 1) := by decide +kernel
theorem dX6_init_82 : decode cX6_init 82 = .ok (.new 30, 3) := by decide +kernel
theorem dX6_init_85 : decode cX6_init 85 = .ok (.dup, 1) := by decide +kernel
theorem dX6_init_86 : decode cX6_init 86 = .ok (.invokespecial 32, 3) := by decide +kernel
theorem dX6_init_89 : decode cX6_init 89 = .ok (.putfield 46, 3) := by decide +kernel
theorem dX6_init_92 : decode cX6_init 92 = .ok (.aload_n 0, 1) := by decide +kernel
theorem dX6_init_93 : decode cX6_init 93 = .ok (.new 49, 3) := by decide +kernel
theorem dX6_init_96 : decode cX6_init 96 = .ok (.dup, 1) := by decide +kernel
theorem dX6_init_97 : decode cX6_init 97 = .ok (.invokespecial 51, 3) := by decide +kernel
theorem dX6_init_100 : decode cX6_init 100 = .ok (.putfield 52, 3) := by decide +kernel
theorem dX6_init_103 : decode cX6_init 103 = .ok (.aload_n 0, 1) := by decide +kernel
theorem dX6_init_104 : decode cX6_init 104 = .ok (.new 56, 3) := by decide +kernel
theorem dX6_init_107 : decode cX6_init 107 = .ok (.dup, 1) := by decide +kernel
theorem dX6_init_108 : decode cX6_init 108 = .ok (.invokespecial 58, 3) := by decide +kernel
theorem dX6_init_111 : decode cX6_init 111 = .ok (.putfield 59, 3) := by decide +kernel
theorem dX6_init_114 : decode cX6_init 114 = .ok (.return_, 1) := by decide +kernel
set_option maxRecDepth 20000 in
theorem ggX6_addFeature_X6_requireFeature : GoodIn wsX6_addFeature wsX6_requireFeature := goodIn_ca (goodIn_r _ [8, 9, 10, 3, 11, 12, 13, 14, 15, 16, 53, 54, 55, 56, 57, 58, 59, 60, 61, 62, 63, 64, 65, 66, 67, 68, 69] (by decide +kernel) (by decide +kernel)) (goodIn_sub (fun _ h => List.mem_cons_of_mem _ (List.mem_append_left _ (List.mem_append_right _ h))) (by decide +kernel))
set_option maxRecDepth 20000 in
theorem gX6_addFeature_X6_requireFeature : GoodIn wsX6_addFeature (wsV RX6 63 RX6 yX6_requireFeature wsX6_requireFeature) := goodIn_app (goodIn_of _ (by decide +kernel)) ggX6_addFeature_X6_requireFeature
set_option maxRecDepth 20000 in
theorem ggX6_addFeature_X6_requireRelation : GoodIn wsX6_addFeature wsX6_requireRelation := goodIn_ca (goodIn_r _ [19, 20, 21] (by decide +kernel) (by decide +kernel)) (goodIn_sub (fun _ h => List.mem_cons_of_mem _ (List.mem_append_right _ h)) (by decide +kernel))
set_option maxRecDepth 20000 in
theorem gX6_addFeature_X6_requireRelation : GoodIn wsX6_addFeature (va_wsS RX6 67 yX6_requireRelation wsX6_requireRelation) := goodIn_app (goodIn_of _ (by decide +kernel)) ggX6_addFeature_X6_requireRelation
set_option maxRecDepth 20000 in
theorem ggX6_addFeature_X3_count : GoodIn wsX6_addFeature wsX3_count := goodIn_r _ [15, 16, 63, 64, 65, 66, 67, 68, 69] (by decide +kernel) (by decide +kernel)
set_option maxRecDepth 20000 in
theorem gX6_addFeature_X3_count : GoodIn wsX6_addFeature (wsV RX6 70 RX3 yX3_count wsX3_count) := goodIn_app (goodIn_of _ (by decide +kernel)) ggX6_addFeature_X3_count
set_option maxRecDepth 20000 in
theorem ggX6_addFeature_X6_forgetShapes : GoodIn wsX6_addFeature wsX6_forgetShapes := goodIn_r _ [25, 26, 27, 28, 29, 30, 31, 32, 33, 34, 35, 7, 36, 37, 38, 39, 40, 41, 42, 43, 44, 53, 54, 55, 56, 57, 58, 59, 60, 61, 62, 70, 71, 72] (by decide +kernel) (by decide +kernel)
set_option maxRecDepth 20000 in
theorem gX6_addFeature_X6_forgetShapes : GoodIn wsX6_addFeature (wsV RX6 81 RX6 yX6_forgetShapes wsX6_forgetShapes) := goodIn_app (goodIn_of _ (by decide +kernel)) ggX6_addFeature_X6_forgetShapes
set_option maxRecDepth 20000 in
theorem ggX6_addFeature_X3_append : GoodIn wsX6_addFeature wsX3_append := goodIn_r _ [48, 16, 49, 50, 51, 52, 63, 64, 65, 66, 67, 68, 69] (by decide +kernel) (by decide +kernel)
set_option maxRecDepth 20000 in
theorem gX6_addFeature_X3_append : GoodIn wsX6_addFeature (wsV RX6 84 RX3 yX3_append wsX3_append) := goodIn_app (goodIn_of _ (by decide +kernel)) ggX6_addFeature_X3_append
theorem dX6_addFeature_0 : decode cX6_addFeature 0 = .ok (.aload_n 0, 1) := by decide +kernel
theorem dX6_addFeature_1 : decode cX6_addFeature 1 = .ok (.iload_n 1, 1) := by decide +kernel
theorem dX6_addFeature_2 : decode cX6_addFeature 2 = .ok (.invokevirtual 63, 3) := by decide +kernel
theorem dX6_addFeature_5 : decode cX6_addFeature 5 = .ok (.iload_n 2, 1) := by decide +kernel
theorem dX6_addFeature_6 : decode cX6_addFeature 6 = .ok (.invokestatic 67, 3) := by decide +kernel
theorem dX6_addFeature_9 : decode cX6_addFeature 9 = .ok (.aload_n 0, 1) := by decide +kernel
theorem dX6_addFeature_10 : decode cX6_addFeature 10 = .ok (.getfield 12, 3) := by decide +kernel
theorem dX6_addFeature_13 : decode cX6_addFeature 13 = .ok (.invokevirtual 70, 3) := by decide +kernel
theorem dX6_addFeature_16 : decode cX6_addFeature 16 = .ok (.bipush 12, 2) := by decide +kernel
theorem dX6_addFeature_18 : decode cX6_addFeature 18 = .ok (.if_icmp .lt 13, 3) := by decide +kernel
theorem dX6_addFeature_21 : decode cX6_addFeature 21 = .ok (.new 74, 3) := by decide +kernel
theorem dX6_addFeature_24 : decode cX6_addFeature 24 = .ok (.dup, 1) := by decide +kernel
theorem dX6_addFeature_25 : decode cX6_addFeature 25 = .ok (.ldc 76, 2) := by decide +kernel
theorem dX6_addFeature_27 : decode cX6_addFeature 27 = .ok (.invokespecial 78, 3) := by decide +kernel
theorem dX6_addFeature_30 : decode cX6_addFeature 30 = .ok (.athrow, 1) := by decide +kernel
theorem dX6_addFeature_31 : decode cX6_addFeature 31 = .ok (.aload_n 0, 1) := by decide +kernel
theorem dX6_addFeature_32 : decode cX6_addFeature 32 = .ok (.invokevirtual 81, 3) := by decide +kernel
theorem dX6_addFeature_35 : decode cX6_addFeature 35 = .ok (.aload_n 0, 1) := by decide +kernel
theorem dX6_addFeature_36 : decode cX6_addFeature 36 = .ok (.getfield 12, 3) := by decide +kernel
theorem dX6_addFeature_39 : decode cX6_addFeature 39 = .ok (.iload_n 1, 1) := by decide +kernel
theorem dX6_addFeature_40 : decode cX6_addFeature 40 = .ok (.iload_n 2, 1) := by decide +kernel
theorem dX6_addFeature_41 : decode cX6_addFeature 41 = .ok (.invokevirtual 84, 3) := by decide +kernel
theorem dX6_addFeature_44 : decode cX6_addFeature 44 = .ok (.ireturn, 1) := by decide +kernel
set_option maxRecDepth 20000 in
theorem ggX6_setWorth_X6_requireFeature : GoodIn wsX6_setWorth wsX6_requireFeature := goodIn_ca (goodIn_r _ [8, 9, 10, 3, 11, 12, 13, 14, 15, 16, 36, 37, 38, 39, 40, 41, 42, 43, 44, 45, 46, 47, 48, 49, 50, 51, 52] (by decide +kernel) (by decide +kernel)) (goodIn_sub (fun _ h => List.mem_cons_of_mem _ (List.mem_append_right _ h)) (by decide +kernel))
set_option maxRecDepth 20000 in
theorem gX6_setWorth_X6_requireFeature : GoodIn wsX6_setWorth (wsV RX6 63 RX6 yX6_requireFeature wsX6_requireFeature) := goodIn_app (goodIn_of _ (by decide +kernel)) ggX6_setWorth_X6_requireFeature
set_option maxRecDepth 20000 in
theorem ggX6_setWorth_X6_forgetCandidates : GoodIn wsX6_setWorth wsX6_forgetCandidates := goodIn_r _ [20, 21, 22, 23, 24, 25, 26, 27, 28, 29, 36, 37, 38, 39, 40, 41, 42, 43, 44, 45, 53, 54, 55] (by decide +kernel) (by decide +kernel)
set_option maxRecDepth 20000 in
theorem gX6_setWorth_X6_forgetCandidates : GoodIn wsX6_setWorth (wsV RX6 101 RX6 yX6_forgetCandidates wsX6_forgetCandidates) := goodIn_app (goodIn_of _ (by decide +kernel)) ggX6_setWorth_X6_forgetCandidates
set_option maxRecDepth 20000 in
theorem ggX6_setWorth_X3_rate : GoodIn wsX6_setWorth wsX3_rate := goodIn_r _ [33, 34, 35, 46, 47, 48, 49, 50, 51, 52] (by decide +kernel) (by decide +kernel)
set_option maxRecDepth 20000 in
theorem gX6_setWorth_X3_rate : GoodIn wsX6_setWorth (wsV RX6 104 RX3 yX3_rate wsX3_rate) := goodIn_app (goodIn_of _ (by decide +kernel)) ggX6_setWorth_X3_rate
theorem dX6_setWorth_0 : decode cX6_setWorth 0 = .ok (.aload_n 0, 1) := by decide +kernel
theorem dX6_setWorth_1 : decode cX6_setWorth 1 = .ok (.iload_n 1, 1) := by decide +kernel
theorem dX6_setWorth_2 : decode cX6_setWorth 2 = .ok (.invokevirtual 63, 3) := by decide +kernel
theorem dX6_setWorth_5 : decode cX6_setWorth 5 = .ok (.iload_n 2, 1) := by decide +kernel
theorem dX6_setWorth_6 : decode cX6_setWorth 6 = .ok (.ifCond .lt 21, 3) := by decide +kernel
theorem dX6_setWorth_9 : decode cX6_setWorth 9 = .ok (.iload_n 2, 1) := by decide +kernel
theorem dX6_setWorth_10 : decode cX6_setWorth 10 = .ok (.sipush 1000, 3) := by decide +kernel
theorem dX6_setWorth_13 : decode cX6_setWorth 13 = .ok (.if_icmp .gt 14, 3) := by decide +kernel
theorem dX6_setWorth_16 : decode cX6_setWorth 16 = .ok (.iload_n 3, 1) := by decide +kernel
theorem dX6_setWorth_17 : decode cX6_setWorth 17 = .ok (.ifCond .lt 10, 3) := by decide +kernel
theorem dX6_setWorth_20 : decode cX6_setWorth 20 = .ok (.iload_n 3, 1) := by decide +kernel
theorem dX6_setWorth_21 : decode cX6_setWorth 21 = .ok (.sipush 1000, 3) := by decide +kernel
theorem dX6_setWorth_24 : decode cX6_setWorth 24 = .ok (.if_icmp .le 13, 3) := by decide +kernel
theorem dX6_setWorth_27 : decode cX6_setWorth 27 = .ok (.new 96, 3) := by decide +kernel
theorem dX6_setWorth_30 : decode cX6_setWorth 30 = .ok (.dup, 1) := by decide +kernel
theorem dX6_setWorth_31 : decode cX6_setWorth 31 = .ok (.ldc 98, 2) := by decide +kernel
theorem dX6_setWorth_33 : decode cX6_setWorth 33 = .ok (.invokespecial 100, 3) := by decide +kernel
theorem dX6_setWorth_36 : decode cX6_setWorth 36 = .ok (.athrow, 1) := by decide +kernel
theorem dX6_setWorth_37 : decode cX6_setWorth 37 = .ok (.aload_n 0, 1) := by decide +kernel
theorem dX6_setWorth_38 : decode cX6_setWorth 38 = .ok (.invokevirtual 101, 3) := by decide +kernel
theorem dX6_setWorth_41 : decode cX6_setWorth 41 = .ok (.aload_n 0, 1) := by decide +kernel
theorem dX6_setWorth_42 : decode cX6_setWorth 42 = .ok (.getfield 12, 3) := by decide +kernel
theorem dX6_setWorth_45 : decode cX6_setWorth 45 = .ok (.iload_n 1, 1) := by decide +kernel
theorem dX6_setWorth_46 : decode cX6_setWorth 46 = .ok (.iload_n 2, 1) := by decide +kernel
theorem dX6_setWorth_47 : decode cX6_setWorth 47 = .ok (.iload_n 3, 1) := by decide +kernel
theorem dX6_setWorth_48 : decode cX6_setWorth 48 = .ok (.invokevirtual 104, 3) := by decide +kernel
theorem dX6_setWorth_51 : decode cX6_setWorth 51 = .ok (.ireturn, 1) := by decide +kernel
set_option maxRecDepth 20000 in
theorem ggX6_addConstraint_X6_requireFeature : GoodIn wsX6_addConstraint wsX6_requireFeature := goodIn_ca (goodIn_r _ [10, 11, 12, 13, 14, 15, 16, 17, 18, 19, 52, 53, 54, 55, 56, 57, 58, 59, 60, 61, 62, 63, 64, 65, 66, 67, 68] (by decide +kernel) (by decide +kernel)) (goodIn_sub (fun _ h => List.mem_cons_of_mem _ (List.mem_append_right _ h)) (by decide +kernel))
set_option maxRecDepth 20000 in
theorem gX6_addConstraint_X6_requireFeature : GoodIn wsX6_addConstraint (wsV RX6 63 RX6 yX6_requireFeature wsX6_requireFeature) := goodIn_app (goodIn_of _ (by decide +kernel)) ggX6_addConstraint_X6_requireFeature
set_option maxRecDepth 20000 in
theorem ggX6_addConstraint_X2_count : GoodIn wsX6_addConstraint wsX2_count := goodIn_r _ [24, 25, 69, 70, 71, 72, 73] (by decide +kernel) (by decide +kernel)
set_option maxRecDepth 20000 in
theorem gX6_addConstraint_X2_count : GoodIn wsX6_addConstraint (wsV RX6 110 RX2 yX2_count wsX2_count) := goodIn_app (goodIn_of _ (by decide +kernel)) ggX6_addConstraint_X2_count
set_option maxRecDepth 20000 in
theorem ggX6_addConstraint_X6_forgetProducts : GoodIn wsX6_addConstraint wsX6_forgetProducts := goodIn_r _ [29, 30, 31, 32, 33, 34, 35, 36, 37, 38, 39, 9, 40, 41, 42, 43, 52, 53, 54, 55, 56, 57, 58, 59, 60, 61, 74, 75, 76] (by decide +kernel) (by decide +kernel)
set_option maxRecDepth 20000 in
theorem gX6_addConstraint_X6_forgetProducts : GoodIn wsX6_addConstraint (wsV RX6 113 RX6 yX6_forgetProducts wsX6_forgetProducts) := goodIn_app (goodIn_of _ (by decide +kernel)) ggX6_addConstraint_X6_forgetProducts
set_option maxRecDepth 20000 in
theorem ggX6_addConstraint_X2_append : GoodIn wsX6_addConstraint wsX2_append := goodIn_r _ [47, 25, 48, 49, 50, 51, 69, 70, 71, 72, 73] (by decide +kernel) (by decide +kernel)
set_option maxRecDepth 20000 in
theorem gX6_addConstraint_X2_append : GoodIn wsX6_addConstraint (wsV RX6 116 RX2 yX2_append wsX2_append) := goodIn_app (goodIn_of _ (by decide +kernel)) ggX6_addConstraint_X2_append
theorem dX6_addConstraint_0 : decode cX6_addConstraint 0 = .ok (.iload_n 1, 1) := by decide +kernel
theorem dX6_addConstraint_1 : decode cX6_addConstraint 1 = .ok (.ifCond .eq 18, 3) := by decide +kernel
theorem dX6_addConstraint_4 : decode cX6_addConstraint 4 = .ok (.iload_n 1, 1) := by decide +kernel
theorem dX6_addConstraint_5 : decode cX6_addConstraint 5 = .ok (.iconst 1, 1) := by decide +kernel
theorem dX6_addConstraint_6 : decode cX6_addConstraint 6 = .ok (.if_icmp .eq 13, 3) := by decide +kernel
theorem dX6_addConstraint_9 : decode cX6_addConstraint 9 = .ok (.new 96, 3) := by decide +kernel
theorem dX6_addConstraint_12 : decode cX6_addConstraint 12 = .ok (.dup, 1) := by decide +kernel
theorem dX6_addConstraint_13 : decode cX6_addConstraint 13 = .ok (.ldc 108, 2) := by decide +kernel
theorem dX6_addConstraint_15 : decode cX6_addConstraint 15 = .ok (.invokespecial 100, 3) := by decide +kernel
theorem dX6_addConstraint_18 : decode cX6_addConstraint 18 = .ok (.athrow, 1) := by decide +kernel
theorem dX6_addConstraint_19 : decode cX6_addConstraint 19 = .ok (.aload_n 0, 1) := by decide +kernel
theorem dX6_addConstraint_20 : decode cX6_addConstraint 20 = .ok (.iload_n 2, 1) := by decide +kernel
theorem dX6_addConstraint_21 : decode cX6_addConstraint 21 = .ok (.invokevirtual 63, 3) := by decide +kernel
theorem dX6_addConstraint_24 : decode cX6_addConstraint 24 = .ok (.aload_n 0, 1) := by decide +kernel
theorem dX6_addConstraint_25 : decode cX6_addConstraint 25 = .ok (.iload_n 3, 1) := by decide +kernel
theorem dX6_addConstraint_26 : decode cX6_addConstraint 26 = .ok (.invokevirtual 63, 3) := by decide +kernel
theorem dX6_addConstraint_29 : decode cX6_addConstraint 29 = .ok (.aload_n 0, 1) := by decide +kernel
theorem dX6_addConstraint_30 : decode cX6_addConstraint 30 = .ok (.getfield 19, 3) := by decide +kernel
theorem dX6_addConstraint_33 : decode cX6_addConstraint 33 = .ok (.invokevirtual 110, 3) := by decide +kernel
theorem dX6_addConstraint_36 : decode cX6_addConstraint 36 = .ok (.bipush 10, 2) := by decide +kernel
theorem dX6_addConstraint_38 : decode cX6_addConstraint 38 = .ok (.if_icmp .lt 13, 3) := by decide +kernel
theorem dX6_addConstraint_41 : decode cX6_addConstraint 41 = .ok (.new 74, 3) := by decide +kernel
theorem dX6_addConstraint_44 : decode cX6_addConstraint 44 = .ok (.dup, 1) := by decide +kernel
theorem dX6_addConstraint_45 : decode cX6_addConstraint 45 = .ok (.ldc 111, 2) := by decide +kernel
theorem dX6_addConstraint_47 : decode cX6_addConstraint 47 = .ok (.invokespecial 78, 3) := by decide +kernel
theorem dX6_addConstraint_50 : decode cX6_addConstraint 50 = .ok (.athrow, 1) := by decide +kernel
theorem dX6_addConstraint_51 : decode cX6_addConstraint 51 = .ok (.aload_n 0, 1) := by decide +kernel
theorem dX6_addConstraint_52 : decode cX6_addConstraint 52 = .ok (.invokevirtual 113, 3) := by decide +kernel
theorem dX6_addConstraint_55 : decode cX6_addConstraint 55 = .ok (.aload_n 0, 1) := by decide +kernel
theorem dX6_addConstraint_56 : decode cX6_addConstraint 56 = .ok (.getfield 19, 3) := by decide +kernel
theorem dX6_addConstraint_59 : decode cX6_addConstraint 59 = .ok (.iload_n 1, 1) := by decide +kernel
theorem dX6_addConstraint_60 : decode cX6_addConstraint 60 = .ok (.iload_n 2, 1) := by decide +kernel
theorem dX6_addConstraint_61 : decode cX6_addConstraint 61 = .ok (.iload_n 3, 1) := by decide +kernel
theorem dX6_addConstraint_62 : decode cX6_addConstraint 62 = .ok (.invokevirtual 116, 3) := by decide +kernel
theorem dX6_addConstraint_65 : decode cX6_addConstraint 65 = .ok (.ireturn, 1) := by decide +kernel
set_option maxRecDepth 20000 in
theorem ggX6_turn_X2_count : GoodIn wsX6_turn wsX2_count := goodIn_r _ [8, 9, 46, 47, 48, 49, 50] (by decide +kernel) (by decide +kernel)
set_option maxRecDepth 20000 in
theorem gX6_turn_X2_count : GoodIn wsX6_turn (wsV RX6 110 RX2 yX2_count wsX2_count) := goodIn_app (goodIn_of _ (by decide +kernel)) ggX6_turn_X2_count
set_option maxRecDepth 20000 in
theorem ggX6_turn_X6_forgetProducts : GoodIn wsX6_turn wsX6_forgetProducts := goodIn_r _ [14, 15, 16, 17, 18, 19, 20, 21, 22, 23, 24, 13, 25, 26, 27, 28, 36, 37, 38, 39, 40, 41, 42, 43, 44, 45, 51, 52, 53] (by decide +kernel) (by decide +kernel)
set_option maxRecDepth 20000 in
theorem gX6_turn_X6_forgetProducts : GoodIn wsX6_turn (wsV RX6 113 RX6 yX6_forgetProducts wsX6_forgetProducts) := goodIn_app (goodIn_of _ (by decide +kernel)) ggX6_turn_X6_forgetProducts
set_option maxRecDepth 20000 in
theorem ggX6_turn_X2_flip : GoodIn wsX6_turn wsX2_flip := goodIn_r _ [32, 33, 34, 13, 35, 46, 47, 48, 49, 50] (by decide +kernel) (by decide +kernel)
set_option maxRecDepth 20000 in
theorem gX6_turn_X2_flip : GoodIn wsX6_turn (wsV RX6 121 RX2 yX2_flip wsX2_flip) := goodIn_app (goodIn_of _ (by decide +kernel)) ggX6_turn_X2_flip
theorem dX6_turn_0 : decode cX6_turn 0 = .ok (.iload_n 1, 1) := by decide +kernel
theorem dX6_turn_1 : decode cX6_turn 1 = .ok (.ifCond .lt 14, 3) := by decide +kernel
theorem dX6_turn_4 : decode cX6_turn 4 = .ok (.iload_n 1, 1) := by decide +kernel
theorem dX6_turn_5 : decode cX6_turn 5 = .ok (.aload_n 0, 1) := by decide +kernel
theorem dX6_turn_6 : decode cX6_turn 6 = .ok (.getfield 19, 3) := by decide +kernel
theorem dX6_turn_9 : decode cX6_turn 9 = .ok (.invokevirtual 110, 3) := by decide +kernel
theorem dX6_turn_12 : decode cX6_turn 12 = .ok (.if_icmp .lt 13, 3) := by decide +kernel
theorem dX6_turn_15 : decode cX6_turn 15 = .ok (.new 88, 3) := by decide +kernel
theorem dX6_turn_18 : decode cX6_turn 18 = .ok (.dup, 1) := by decide +kernel
theorem dX6_turn_19 : decode cX6_turn 19 = .ok (.ldc 119, 2) := by decide +kernel
theorem dX6_turn_21 : decode cX6_turn 21 = .ok (.invokespecial 92, 3) := by decide +kernel
theorem dX6_turn_24 : decode cX6_turn 24 = .ok (.athrow, 1) := by decide +kernel
theorem dX6_turn_25 : decode cX6_turn 25 = .ok (.aload_n 0, 1) := by decide +kernel
theorem dX6_turn_26 : decode cX6_turn 26 = .ok (.invokevirtual 113, 3) := by decide +kernel
theorem dX6_turn_29 : decode cX6_turn 29 = .ok (.aload_n 0, 1) := by decide +kernel
theorem dX6_turn_30 : decode cX6_turn 30 = .ok (.getfield 19, 3) := by decide +kernel
theorem dX6_turn_33 : decode cX6_turn 33 = .ok (.iload_n 1, 1) := by decide +kernel
theorem dX6_turn_34 : decode cX6_turn 34 = .ok (.iload_n 2, 1) := by decide +kernel
theorem dX6_turn_35 : decode cX6_turn 35 = .ok (.invokevirtual 121, 3) := by decide +kernel
theorem dX6_turn_38 : decode cX6_turn 38 = .ok (.ireturn, 1) := by decide +kernel
set_option maxRecDepth 20000 in
theorem ggX6_featureCount_X3_count : GoodIn wsX6_featureCount wsX3_count := goodIn_r _ [6, 7, 18, 19, 20, 21, 22, 23, 24] (by decide +kernel) (by decide +kernel)
set_option maxRecDepth 20000 in
theorem gX6_featureCount_X3_count : GoodIn wsX6_featureCount (wsV RX6 70 RX3 yX3_count wsX3_count) := goodIn_app (goodIn_of _ (by decide +kernel)) ggX6_featureCount_X3_count
theorem dX6_featureCount_0 : decode cX6_featureCount 0 = .ok (.aload_n 0, 1) := by decide +kernel
theorem dX6_featureCount_1 : decode cX6_featureCount 1 = .ok (.getfield 12, 3) := by decide +kernel
theorem dX6_featureCount_4 : decode cX6_featureCount 4 = .ok (.invokevirtual 70, 3) := by decide +kernel
theorem dX6_featureCount_7 : decode cX6_featureCount 7 = .ok (.ireturn, 1) := by decide +kernel
set_option maxRecDepth 20000 in
theorem ggX6_decide_X6_requireFeature : GoodIn wsX6_decide wsX6_requireFeature := goodIn_ca (goodIn_r _ [8, 9, 10, 11, 12, 13, 14, 15, 16, 17, 44, 45, 46, 47, 48, 49, 50, 51, 52, 53, 54, 55, 56, 57, 58, 59, 60] (by decide +kernel) (by decide +kernel)) (goodIn_sub (fun _ h => List.mem_cons_of_mem _ (List.mem_append_right _ h)) (by decide +kernel))
set_option maxRecDepth 20000 in
theorem gX6_decide_X6_requireFeature : GoodIn wsX6_decide (wsV RX6 63 RX6 yX6_requireFeature wsX6_requireFeature) := goodIn_app (goodIn_of _ (by decide +kernel)) ggX6_decide_X6_requireFeature
set_option maxRecDepth 20000 in
theorem ggX6_decide_X6_forgetCandidates : GoodIn wsX6_decide wsX6_forgetCandidates := goodIn_r _ [21, 22, 23, 24, 25, 26, 27, 28, 29, 30, 44, 45, 46, 47, 48, 49, 50, 51, 52, 53, 61, 62, 63] (by decide +kernel) (by decide +kernel)
set_option maxRecDepth 20000 in
theorem gX6_decide_X6_forgetCandidates : GoodIn wsX6_decide (wsV RX6 101 RX6 yX6_forgetCandidates wsX6_forgetCandidates) := goodIn_app (goodIn_of _ (by decide +kernel)) ggX6_decide_X6_forgetCandidates
set_option maxRecDepth 20000 in
theorem ggX6_decide_X0_mark : GoodIn wsX6_decide wsX0_mark := goodIn_r _ [35, 36, 37, 38, 39, 40, 34, 41, 42, 7, 43, 64, 65, 66] (by decide +kernel) (by decide +kernel)
set_option maxRecDepth 20000 in
theorem gX6_decide_X0_mark : GoodIn wsX6_decide (wsV RX6 132 RX0 yX0_mark wsX0_mark) := goodIn_app (goodIn_of _ (by decide +kernel)) ggX6_decide_X0_mark
theorem dX6_decide_0 : decode cX6_decide 0 = .ok (.aload_n 0, 1) := by decide +kernel
theorem dX6_decide_1 : decode cX6_decide 1 = .ok (.iload_n 1, 1) := by decide +kernel
theorem dX6_decide_2 : decode cX6_decide 2 = .ok (.invokevirtual 63, 3) := by decide +kernel
theorem dX6_decide_5 : decode cX6_decide 5 = .ok (.iload_n 2, 1) := by decide +kernel
theorem dX6_decide_6 : decode cX6_decide 6 = .ok (.ifCond .lt 8, 3) := by decide +kernel
theorem dX6_decide_9 : decode cX6_decide 9 = .ok (.iload_n 2, 1) := by decide +kernel
theorem dX6_decide_10 : decode cX6_decide 10 = .ok (.iconst 2, 1) := by decide +kernel
theorem dX6_decide_11 : decode cX6_decide 11 = .ok (.if_icmp .le 13, 3) := by decide +kernel
theorem dX6_decide_14 : decode cX6_decide 14 = .ok (.new 96, 3) := by decide +kernel
theorem dX6_decide_17 : decode cX6_decide 17 = .ok (.dup, 1) := by decide +kernel
theorem dX6_decide_18 : decode cX6_decide 18 = .ok (.ldc 130, 2) := by decide +kernel
theorem dX6_decide_20 : decode cX6_decide 20 = .ok (.invokespecial 100, 3) := by decide +kernel
theorem dX6_decide_23 : decode cX6_decide 23 = .ok (.athrow, 1) := by decide +kernel
theorem dX6_decide_24 : decode cX6_decide 24 = .ok (.aload_n 0, 1) := by decide +kernel
theorem dX6_decide_25 : decode cX6_decide 25 = .ok (.invokevirtual 101, 3) := by decide +kernel
theorem dX6_decide_28 : decode cX6_decide 28 = .ok (.aload_n 0, 1) := by decide +kernel
theorem dX6_decide_29 : decode cX6_decide 29 = .ok (.getfield 26, 3) := by decide +kernel
theorem dX6_decide_32 : decode cX6_decide 32 = .ok (.iload_n 1, 1) := by decide +kernel
theorem dX6_decide_33 : decode cX6_decide 33 = .ok (.iload_n 2, 1) := by decide +kernel
theorem dX6_decide_34 : decode cX6_decide 34 = .ok (.invokevirtual 132, 3) := by decide +kernel
theorem dX6_decide_37 : decode cX6_decide 37 = .ok (.ireturn, 1) := by decide +kernel
set_option maxRecDepth 20000 in
theorem ggX6_setBudget_X6_forgetCandidates : GoodIn wsX6_setBudget wsX6_forgetCandidates := goodIn_r _ [8, 9, 10, 11, 12, 13, 14, 15, 16, 17, 24, 25, 26, 27, 28, 29, 30, 31, 32, 33, 34, 35, 36] (by decide +kernel) (by decide +kernel)
set_option maxRecDepth 20000 in
theorem gX6_setBudget_X6_forgetCandidates : GoodIn wsX6_setBudget (wsV RX6 101 RX6 yX6_forgetCandidates wsX6_forgetCandidates) := goodIn_app (goodIn_of _ (by decide +kernel)) ggX6_setBudget_X6_forgetCandidates
set_option maxRecDepth 20000 in
theorem ggX6_setBudget_X0_limit : GoodIn wsX6_setBudget wsX0_limit := goodIn_r _ [22, 23, 37, 38, 39] (by decide +kernel) (by decide +kernel)
set_option maxRecDepth 20000 in
theorem gX6_setBudget_X0_limit : GoodIn wsX6_setBudget (wsV RX6 140 RX0 yX0_limit wsX0_limit) := goodIn_app (goodIn_of _ (by decide +kernel)) ggX6_setBudget_X0_limit
theorem dX6_setBudget_0 : decode cX6_setBudget 0 = .ok (.iload_n 1, 1) := by decide +kernel
theorem dX6_setBudget_1 : decode cX6_setBudget 1 = .ok (.iconst (-1), 1) := by decide +kernel
theorem dX6_setBudget_2 : decode cX6_setBudget 2 = .ok (.if_icmp .lt 10, 3) := by decide +kernel
theorem dX6_setBudget_5 : decode cX6_setBudget 5 = .ok (.iload_n 1, 1) := by decide +kernel
theorem dX6_setBudget_6 : decode cX6_setBudget 6 = .ok (.sipush 20000, 3) := by decide +kernel
theorem dX6_setBudget_9 : decode cX6_setBudget 9 = .ok (.if_icmp .le 13, 3) := by decide +kernel
theorem dX6_setBudget_12 : decode cX6_setBudget 12 = .ok (.new 96, 3) := by decide +kernel
theorem dX6_setBudget_15 : decode cX6_setBudget 15 = .ok (.dup, 1) := by decide +kernel
theorem dX6_setBudget_16 : decode cX6_setBudget 16 = .ok (.ldc 138, 2) := by decide +kernel
theorem dX6_setBudget_18 : decode cX6_setBudget 18 = .ok (.invokespecial 100, 3) := by decide +kernel
theorem dX6_setBudget_21 : decode cX6_setBudget 21 = .ok (.athrow, 1) := by decide +kernel
theorem dX6_setBudget_22 : decode cX6_setBudget 22 = .ok (.aload_n 0, 1) := by decide +kernel
theorem dX6_setBudget_23 : decode cX6_setBudget 23 = .ok (.invokevirtual 101, 3) := by decide +kernel
theorem dX6_setBudget_26 : decode cX6_setBudget 26 = .ok (.aload_n 0, 1) := by decide +kernel
theorem dX6_setBudget_27 : decode cX6_setBudget 27 = .ok (.getfield 26, 3) := by decide +kernel
theorem dX6_setBudget_30 : decode cX6_setBudget 30 = .ok (.iload_n 1, 1) := by decide +kernel
theorem dX6_setBudget_31 : decode cX6_setBudget 31 = .ok (.invokevirtual 140, 3) := by decide +kernel
theorem dX6_setBudget_34 : decode cX6_setBudget 34 = .ok (.ireturn, 1) := by decide +kernel
set_option maxRecDepth 20000 in
theorem ggX6_violations_X6_requireConfiguration : GoodIn wsX6_violations wsX6_requireConfiguration := goodIn_ca (goodIn_r _ [7, 8, 9, 1, 10, 11, 12, 13, 14, 15, 50, 51, 52, 53, 54, 55, 56, 57, 58, 59, 60, 61, 62, 63, 64, 65, 66] (by decide +kernel) (by decide +kernel)) (goodIn_sub (fun _ h => List.mem_cons_of_mem _ (List.mem_append_right _ h)) (by decide +kernel))
set_option maxRecDepth 20000 in
theorem gX6_violations_X6_requireConfiguration : GoodIn wsX6_violations (wsV RX6 144 RX6 yX6_requireConfiguration wsX6_requireConfiguration) := goodIn_app (goodIn_of _ (by decide +kernel)) ggX6_violations_X6_requireConfiguration
set_option maxRecDepth 20000 in
theorem ggX6_violations_X3_countBroken : GoodIn wsX6_violations wsX3_countBroken := goodIn_r _ [19, 15, 20, 21, 6, 22, 23, 24, 25, 13, 26, 27, 28, 29, 30, 31, 32, 33, 34, 60, 61, 62, 63, 64, 65, 66] (by decide +kernel) (by decide +kernel)
set_option maxRecDepth 20000 in
theorem gX6_violations_X3_countBroken : GoodIn wsX6_violations (wsV RX6 147 RX3 yX3_countBroken wsX3_countBroken) := goodIn_app (goodIn_of _ (by decide +kernel)) ggX6_violations_X3_countBroken
set_option maxRecDepth 20000 in
theorem ggX6_violations_X2_brokenBy : GoodIn wsX6_violations wsX2_brokenBy := goodIn_r _ [39, 40, 41, 21, 6, 22, 42, 43, 44, 38, 45, 46, 47, 48, 67, 68, 69, 70, 71] (by decide +kernel) (by decide +kernel)
set_option maxRecDepth 20000 in
theorem gX6_violations_X2_brokenBy : GoodIn wsX6_violations (wsV RX6 150 RX2 yX2_brokenBy wsX2_brokenBy) := goodIn_app (goodIn_of _ (by decide +kernel)) ggX6_violations_X2_brokenBy
set_option maxRecDepth 20000 in
theorem ggX6_violations_J6_bitCount_0f7a4 : GoodIn wsX6_violations wsJ6_bitCount_0f7a4 := goodIn_r _ [31, 32, 33, 34] (by decide +kernel) (by decide +kernel)
set_option maxRecDepth 20000 in
theorem gX6_violations_J6_bitCount_0f7a4 : GoodIn wsX6_violations (va_wsS RX6 153 yJ6_bitCount_0f7a4 wsJ6_bitCount_0f7a4) := goodIn_app (goodIn_of _ (by decide +kernel)) ggX6_violations_J6_bitCount_0f7a4
theorem dX6_violations_0 : decode cX6_violations 0 = .ok (.aload_n 0, 1) := by decide +kernel
theorem dX6_violations_1 : decode cX6_violations 1 = .ok (.iload_n 1, 1) := by decide +kernel
theorem dX6_violations_2 : decode cX6_violations 2 = .ok (.invokevirtual 144, 3) := by decide +kernel
theorem dX6_violations_5 : decode cX6_violations 5 = .ok (.aload_n 0, 1) := by decide +kernel
theorem dX6_violations_6 : decode cX6_violations 6 = .ok (.getfield 12, 3) := by decide +kernel
theorem dX6_violations_9 : decode cX6_violations 9 = .ok (.iload_n 1, 1) := by decide +kernel
theorem dX6_violations_10 : decode cX6_violations 10 = .ok (.invokevirtual 147, 3) := by decide +kernel
theorem dX6_violations_13 : decode cX6_violations 13 = .ok (.aload_n 0, 1) := by decide +kernel
theorem dX6_violations_14 : decode cX6_violations 14 = .ok (.getfield 19, 3) := by decide +kernel
theorem dX6_violations_17 : decode cX6_violations 17 = .ok (.iload_n 1, 1) := by decide +kernel
theorem dX6_violations_18 : decode cX6_violations 18 = .ok (.invokevirtual 150, 3) := by decide +kernel
theorem dX6_violations_21 : decode cX6_violations 21 = .ok (.invokestatic 153, 3) := by decide +kernel
theorem dX6_violations_24 : decode cX6_violations 24 = .ok (.iadd, 1) := by decide +kernel
theorem dX6_violations_25 : decode cX6_violations 25 = .ok (.ireturn, 1) := by decide +kernel
set_option maxRecDepth 20000 in
theorem ggX6_productCount_X6_refresh : GoodIn wsX6_productCount wsX6_refresh := goodIn_r _ [6, 7, 1, 8, 9, 10, 11, 12, 13, 14, 15, 16, 17, 5, 18, 19, 20, 21, 22, 23, 24, 25, 26, 27, 28, 29, 30, 31, 32, 33, 34, 35, 36, 37, 38, 39, 40, 41, 42, 43, 44, 45, 46, 47, 48, 49, 50, 51, 52, 53, 54, 55, 56, 57, 58, 59, 60, 61, 62, 63, 64, 65, 66, 67, 68, 69, 70, 71, 72, 73, 74, 75, 76, 77, 78, 79, 80, 81, 82, 83, 84, 85, 86, 87, 88, 89, 90, 91, 92, 93, 94, 95, 96, 97, 98, 99, 100, 101, 102, 103, 104, 105, 106, 107, 108, 109, 110, 111, 112, 113, 114, 115, 116, 117, 118, 119, 120, 121, 122, 123, 124, 125, 126, 127, 128, 129, 130, 131] (by decide +kernel) (by decide +kernel)
set_option maxRecDepth 20000 in
theorem gX6_productCount_X6_refresh : GoodIn wsX6_productCount (wsV RX6 164 RX6 yX6_refresh wsX6_refresh) := goodIn_app (goodIn_of _ (by decide +kernel)) ggX6_productCount_X6_refresh
set_option maxRecDepth 20000 in
theorem ggX6_productCount_X1_size : GoodIn wsX6_productCount wsX1_size := goodIn_r _ [63, 24, 114, 115, 116] (by decide +kernel) (by decide +kernel)
set_option maxRecDepth 20000 in
theorem gX6_productCount_X1_size : GoodIn wsX6_productCount (wsV RX6 167 RX1 yX1_size wsX1_size) := goodIn_app (goodIn_of _ (by decide +kernel)) ggX6_productCount_X1_size
theorem dX6_productCount_0 : decode cX6_productCount 0 = .ok (.aload_n 0, 1) := by decide +kernel
theorem dX6_productCount_1 : decode cX6_productCount 1 = .ok (.invokevirtual 164, 3) := by decide +kernel
theorem dX6_productCount_4 : decode cX6_productCount 4 = .ok (.aload_n 0, 1) := by decide +kernel
theorem dX6_productCount_5 : decode cX6_productCount 5 = .ok (.getfield 37, 3) := by decide +kernel
theorem dX6_productCount_8 : decode cX6_productCount 8 = .ok (.invokevirtual 167, 3) := by decide +kernel
theorem dX6_productCount_11 : decode cX6_productCount 11 = .ok (.ireturn, 1) := by decide +kernel
set_option maxRecDepth 20000 in
theorem ggX6_candidateCount_X6_refresh : GoodIn wsX6_candidateCount wsX6_refresh := goodIn_r _ [6, 7, 8, 1, 9, 10, 11, 12, 13, 14, 15, 16, 17, 5, 18, 19, 20, 21, 22, 23, 24, 25, 26, 27, 28, 29, 30, 31, 32, 33, 34, 35, 36, 37, 38, 39, 40, 41, 42, 43, 44, 45, 46, 47, 48, 49, 50, 51, 52, 53, 54, 55, 56, 57, 58, 59, 60, 61, 62, 63, 64, 65, 66, 67, 68, 69, 70, 71, 72, 73, 74, 75, 76, 77, 78, 79, 80, 81, 82, 83, 84, 85, 86, 87, 88, 89, 90, 91, 92, 93, 94, 95, 96, 97, 98, 99, 100, 101, 102, 103, 104, 105, 106, 107, 108, 109, 110, 111, 112, 113, 114, 115, 116, 117, 118, 119, 120, 121, 122, 123, 124, 125, 126, 127, 128, 129, 130, 131] (by decide +kernel) (by decide +kernel)
set_option maxRecDepth 20000 in
theorem gX6_candidateCount_X6_refresh : GoodIn wsX6_candidateCount (wsV RX6 164 RX6 yX6_refresh wsX6_refresh) := goodIn_app (goodIn_of _ (by decide +kernel)) ggX6_candidateCount_X6_refresh
set_option maxRecDepth 20000 in
theorem ggX6_candidateCount_X1_size : GoodIn wsX6_candidateCount wsX1_size := goodIn_r _ [63, 24, 114, 115, 116] (by decide +kernel) (by decide +kernel)
set_option maxRecDepth 20000 in
theorem gX6_candidateCount_X1_size : GoodIn wsX6_candidateCount (wsV RX6 167 RX1 yX1_size wsX1_size) := goodIn_app (goodIn_of _ (by decide +kernel)) ggX6_candidateCount_X1_size
theorem dX6_candidateCount_0 : decode cX6_candidateCount 0 = .ok (.aload_n 0, 1) := by decide +kernel
theorem dX6_candidateCount_1 : decode cX6_candidateCount 1 = .ok (.invokevirtual 164, 3) := by decide +kernel
theorem dX6_candidateCount_4 : decode cX6_candidateCount 4 = .ok (.aload_n 0, 1) := by decide +kernel
theorem dX6_candidateCount_5 : decode cX6_candidateCount 5 = .ok (.getfield 40, 3) := by decide +kernel
theorem dX6_candidateCount_8 : decode cX6_candidateCount 8 = .ok (.invokevirtual 167, 3) := by decide +kernel
theorem dX6_candidateCount_11 : decode cX6_candidateCount 11 = .ok (.ireturn, 1) := by decide +kernel
set_option maxRecDepth 20000 in
theorem ggX6_candidate_X6_refresh : GoodIn wsX6_candidate wsX6_refresh := goodIn_r _ [6, 7, 8, 1, 9, 10, 11, 12, 13, 14, 15, 16, 17, 5, 18, 19, 20, 21, 22, 23, 24, 25, 26, 27, 28, 29, 30, 31, 32, 33, 34, 35, 36, 37, 38, 39, 40, 41, 42, 43, 44, 45, 46, 47, 48, 49, 50, 51, 52, 53, 54, 55, 56, 57, 58, 59, 60, 61, 62, 63, 64, 65, 66, 67, 68, 69, 70, 71, 72, 73, 74, 75, 76, 77, 78, 79, 80, 81, 82, 83, 84, 85, 86, 87, 88, 89, 90, 91, 92, 93, 94, 95, 96, 97, 98, 99, 100, 101, 102, 103, 109, 110, 111, 112, 113, 114, 115, 116, 117, 118, 119, 120, 121, 122, 123, 124, 125, 126, 127, 128, 129, 130, 131, 132, 133, 134, 135, 136] (by decide +kernel) (by decide +kernel)
set_option maxRecDepth 20000 in
theorem gX6_candidate_X6_refresh : GoodIn wsX6_candidate (wsV RX6 164 RX6 yX6_refresh wsX6_refresh) := goodIn_app (goodIn_of _ (by decide +kernel)) ggX6_candidate_X6_refresh
set_option maxRecDepth 20000 in
theorem ggX6_candidate_X6_memberOf : GoodIn wsX6_candidate wsX6_memberOf := goodIn_ca (goodIn_r _ [106, 107, 108, 60, 61, 62, 12, 63, 24, 64, 65, 66, 67, 54, 119, 120, 121] (by decide +kernel) (by decide +kernel)) (goodIn_sub (fun _ h => List.mem_cons_of_mem _ (List.mem_append_right _ h)) (by decide +kernel))
set_option maxRecDepth 20000 in
theorem gX6_candidate_X6_memberOf : GoodIn wsX6_candidate (va_wsS RX6 170 yX6_memberOf wsX6_memberOf) := goodIn_app (goodIn_of _ (by decide +kernel)) ggX6_candidate_X6_memberOf
theorem dX6_candidate_0 : decode cX6_candidate 0 = .ok (.aload_n 0, 1) := by decide +kernel
theorem dX6_candidate_1 : decode cX6_candidate 1 = .ok (.invokevirtual 164, 3) := by decide +kernel
theorem dX6_candidate_4 : decode cX6_candidate 4 = .ok (.aload_n 0, 1) := by decide +kernel
theorem dX6_candidate_5 : decode cX6_candidate 5 = .ok (.getfield 40, 3) := by decide +kernel
theorem dX6_candidate_8 : decode cX6_candidate 8 = .ok (.iload_n 1, 1) := by decide +kernel
theorem dX6_candidate_9 : decode cX6_candidate 9 = .ok (.invokestatic 170, 3) := by decide +kernel
theorem dX6_candidate_12 : decode cX6_candidate 12 = .ok (.ireturn, 1) := by decide +kernel
set_option maxRecDepth 20000 in
theorem ggX6_forced_X6_refresh : GoodIn wsX6_forced wsX6_refresh := goodIn_r _ [6, 7, 8, 1, 9, 10, 11, 12, 13, 14, 15, 16, 17, 5, 18, 19, 20, 21, 22, 23, 24, 25, 26, 27, 28, 29, 30, 31, 32, 33, 34, 35, 36, 37, 38, 39, 40, 41, 42, 43, 44, 45, 46, 47, 48, 49, 50, 51, 52, 53, 54, 55, 56, 57, 58, 59, 60, 61, 62, 63, 64, 65, 66, 67, 68, 69, 70, 71, 72, 73, 74, 75, 76, 77, 78, 79, 80, 81, 82, 83, 84, 85, 86, 87, 88, 89, 90, 91, 92, 93, 94, 95, 96, 97, 98, 99, 100, 101, 102, 103, 116, 117, 118, 119, 120, 121, 122, 123, 124, 125, 126, 127, 128, 129, 130, 131, 132, 133, 134, 135, 136, 137, 138, 139, 140, 141, 142, 143] (by decide +kernel) (by decide +kernel)
set_option maxRecDepth 20000 in
theorem gX6_forced_X6_refresh : GoodIn wsX6_forced (wsV RX6 164 RX6 yX6_refresh wsX6_refresh) := goodIn_app (goodIn_of _ (by decide +kernel)) ggX6_forced_X6_refresh
set_option maxRecDepth 20000 in
theorem ggX6_forced_X1_size : GoodIn wsX6_forced wsX1_size := goodIn_r _ [63, 24, 126, 127, 128] (by decide +kernel) (by decide +kernel)
set_option maxRecDepth 20000 in
theorem gX6_forced_X1_size : GoodIn wsX6_forced (wsV RX6 167 RX1 yX1_size wsX1_size) := goodIn_app (goodIn_of _ (by decide +kernel)) ggX6_forced_X1_size
set_option maxRecDepth 20000 in
theorem ggX6_forced_X1_common : GoodIn wsX6_forced wsX1_common := goodIn_r _ [107, 24, 54, 126, 127, 128] (by decide +kernel) (by decide +kernel)
set_option maxRecDepth 20000 in
theorem gX6_forced_X1_common : GoodIn wsX6_forced (wsV RX6 181 RX1 yX1_common wsX1_common) := goodIn_app (goodIn_of _ (by decide +kernel)) ggX6_forced_X1_common
set_option maxRecDepth 20000 in
theorem ggX6_forced_X6_openFeatures : GoodIn wsX6_forced wsX6_openFeatures := goodIn_r _ [111, 19, 86, 25, 26, 27, 28, 29, 30, 112, 113, 114, 99, 115, 101, 102, 116, 117, 118, 119, 120, 121, 122, 123, 124, 125, 129, 130, 131, 132, 133, 134, 135, 141, 142, 143] (by decide +kernel) (by decide +kernel)
set_option maxRecDepth 20000 in
theorem gX6_forced_X6_openFeatures : GoodIn wsX6_forced (wsV RX6 206 RX6 yX6_openFeatures wsX6_openFeatures) := goodIn_app (goodIn_of _ (by decide +kernel)) ggX6_forced_X6_openFeatures
theorem dX6_forced_0 : decode cX6_forced 0 = .ok (.aload_n 0, 1) := by decide +kernel
theorem dX6_forced_1 : decode cX6_forced 1 = .ok (.invokevirtual 164, 3) := by decide +kernel
theorem dX6_forced_4 : decode cX6_forced 4 = .ok (.aload_n 0, 1) := by decide +kernel
theorem dX6_forced_5 : decode cX6_forced 5 = .ok (.getfield 40, 3) := by decide +kernel
theorem dX6_forced_8 : decode cX6_forced 8 = .ok (.invokevirtual 167, 3) := by decide +kernel
theorem dX6_forced_11 : decode cX6_forced 11 = .ok (.ifCond .ne 5, 3) := by decide +kernel
theorem dX6_forced_14 : decode cX6_forced 14 = .ok (.iconst 0, 1) := by decide +kernel
theorem dX6_forced_15 : decode cX6_forced 15 = .ok (.ireturn, 1) := by decide +kernel
theorem dX6_forced_16 : decode cX6_forced 16 = .ok (.aload_n 0, 1) := by decide +kernel
theorem dX6_forced_17 : decode cX6_forced 17 = .ok (.getfield 40, 3) := by decide +kernel
theorem dX6_forced_20 : decode cX6_forced 20 = .ok (.invokevirtual 181, 3) := by decide +kernel
theorem dX6_forced_23 : decode cX6_forced 23 = .ok (.aload_n 0, 1) := by decide +kernel
theorem dX6_forced_24 : decode cX6_forced 24 = .ok (.invokevirtual 206, 3) := by decide +kernel
theorem dX6_forced_27 : decode cX6_forced 27 = .ok (.iand, 1) := by decide +kernel
theorem dX6_forced_28 : decode cX6_forced 28 = .ok (.ireturn, 1) := by decide +kernel
set_option maxRecDepth 20000 in
theorem ggX6_ruledOut_X6_refresh : GoodIn wsX6_ruledOut wsX6_refresh := goodIn_r _ [6, 7, 8, 1, 9, 10, 11, 12, 13, 14, 15, 16, 17, 5, 18, 19, 20, 21, 22, 23, 24, 25, 26, 27, 28, 29, 30, 31, 32, 33, 34, 35, 36, 37, 38, 39, 40, 41, 42, 43, 44, 45, 46, 47, 48, 49, 50, 51, 52, 53, 54, 55, 56, 57, 58, 59, 60, 61, 62, 63, 64, 65, 66, 67, 68, 69, 70, 71, 72, 73, 74, 75, 76, 77, 78, 79, 80, 81, 82, 83, 84, 85, 86, 87, 88, 89, 90, 91, 92, 93, 94, 95, 96, 97, 98, 99, 100, 101, 102, 103, 116, 117, 118, 119, 120, 121, 122, 123, 124, 125, 126, 127, 128, 129, 130, 131, 132, 133, 134, 135, 136, 137, 138, 139, 140, 141, 142, 143] (by decide +kernel) (by decide +kernel)
set_option maxRecDepth 20000 in
theorem gX6_ruledOut_X6_refresh : GoodIn wsX6_ruledOut (wsV RX6 164 RX6 yX6_refresh wsX6_refresh) := goodIn_app (goodIn_of _ (by decide +kernel)) ggX6_ruledOut_X6_refresh
set_option maxRecDepth 20000 in
theorem ggX6_ruledOut_X1_size : GoodIn wsX6_ruledOut wsX1_size := goodIn_r _ [63, 24, 126, 127, 128] (by decide +kernel) (by decide +kernel)
set_option maxRecDepth 20000 in
theorem gX6_ruledOut_X1_size : GoodIn wsX6_ruledOut (wsV RX6 167 RX1 yX1_size wsX1_size) := goodIn_app (goodIn_of _ (by decide +kernel)) ggX6_ruledOut_X1_size
set_option maxRecDepth 20000 in
theorem ggX6_ruledOut_X1_union : GoodIn wsX6_ruledOut wsX1_union := goodIn_r _ [107, 24, 54, 126, 127, 128] (by decide +kernel) (by decide +kernel)
set_option maxRecDepth 20000 in
theorem gX6_ruledOut_X1_union : GoodIn wsX6_ruledOut (wsV RX6 174 RX1 yX1_union wsX1_union) := goodIn_app (goodIn_of _ (by decide +kernel)) ggX6_ruledOut_X1_union
set_option maxRecDepth 20000 in
theorem ggX6_ruledOut_X6_openFeatures : GoodIn wsX6_ruledOut wsX6_openFeatures := goodIn_r _ [111, 19, 86, 25, 26, 27, 28, 29, 30, 112, 113, 114, 99, 115, 101, 102, 116, 117, 118, 119, 120, 121, 122, 123, 124, 125, 129, 130, 131, 132, 133, 134, 135, 141, 142, 143] (by decide +kernel) (by decide +kernel)
set_option maxRecDepth 20000 in
theorem gX6_ruledOut_X6_openFeatures : GoodIn wsX6_ruledOut (wsV RX6 206 RX6 yX6_openFeatures wsX6_openFeatures) := goodIn_app (goodIn_of _ (by decide +kernel)) ggX6_ruledOut_X6_openFeatures
theorem dX6_ruledOut_0 : decode cX6_ruledOut 0 = .ok (.aload_n 0, 1) := by decide +kernel
theorem dX6_ruledOut_1 : decode cX6_ruledOut 1 = .ok (.invokevirtual 164, 3) := by decide +kernel
theorem dX6_ruledOut_4 : decode cX6_ruledOut 4 = .ok (.aload_n 0, 1) := by decide +kernel
theorem dX6_ruledOut_5 : decode cX6_ruledOut 5 = .ok (.getfield 40, 3) := by decide +kernel
theorem dX6_ruledOut_8 : decode cX6_ruledOut 8 = .ok (.invokevirtual 167, 3) := by decide +kernel
theorem dX6_ruledOut_11 : decode cX6_ruledOut 11 = .ok (.ifCond .ne 5, 3) := by decide +kernel
theorem dX6_ruledOut_14 : decode cX6_ruledOut 14 = .ok (.iconst 0, 1) := by decide +kernel
theorem dX6_ruledOut_15 : decode cX6_ruledOut 15 = .ok (.ireturn, 1) := by decide +kernel
theorem dX6_ruledOut_16 : decode cX6_ruledOut 16 = .ok (.aload_n 0, 1) := by decide +kernel
theorem dX6_ruledOut_17 : decode cX6_ruledOut 17 = .ok (.getfield 40, 3) := by decide +kernel
theorem dX6_ruledOut_20 : decode cX6_ruledOut 20 = .ok (.invokevirtual 174, 3) := by decide +kernel
theorem dX6_ruledOut_23 : decode cX6_ruledOut 23 = .ok (.iconst (-1), 1) := by decide +kernel
theorem dX6_ruledOut_24 : decode cX6_ruledOut 24 = .ok (.ixor, 1) := by decide +kernel
theorem dX6_ruledOut_25 : decode cX6_ruledOut 25 = .ok (.aload_n 0, 1) := by decide +kernel
theorem dX6_ruledOut_26 : decode cX6_ruledOut 26 = .ok (.invokevirtual 206, 3) := by decide +kernel
theorem dX6_ruledOut_29 : decode cX6_ruledOut 29 = .ok (.iand, 1) := by decide +kernel
theorem dX6_ruledOut_30 : decode cX6_ruledOut 30 = .ok (.ireturn, 1) := by decide +kernel
set_option maxRecDepth 20000 in
theorem ggX6_question_X6_refresh : GoodIn wsX6_question wsX6_refresh := goodIn_r _ [11, 12, 13, 1, 14, 15, 16, 17, 18, 19, 20, 21, 22, 10, 23, 2, 24, 25, 26, 27, 28, 29, 30, 31, 32, 33, 34, 35, 36, 37, 38, 39, 40, 41, 42, 43, 44, 45, 46, 47, 48, 49, 50, 51, 52, 53, 54, 55, 56, 57, 58, 59, 60, 61, 62, 63, 64, 65, 66, 67, 68, 69, 70, 71, 72, 73, 74, 75, 76, 77, 78, 79, 80, 81, 82, 83, 84, 85, 86, 87, 88, 89, 90, 91, 92, 93, 94, 95, 96, 97, 98, 99, 100, 101, 102, 103, 104, 105, 106, 107, 116, 117, 118, 119, 120, 121, 122, 123, 124, 125, 126, 127, 128, 129, 130, 131, 132, 133, 134, 135, 136, 137, 138, 139, 140, 141, 142, 143] (by decide +kernel) (by decide +kernel)
set_option maxRecDepth 20000 in
theorem gX6_question_X6_refresh : GoodIn wsX6_question (wsV RX6 164 RX6 yX6_refresh wsX6_refresh) := goodIn_app (goodIn_of _ (by decide +kernel)) ggX6_question_X6_refresh
set_option maxRecDepth 20000 in
theorem ggX6_question_X1_size : GoodIn wsX6_question wsX1_size := goodIn_r _ [67, 28, 126, 127, 128] (by decide +kernel) (by decide +kernel)
set_option maxRecDepth 20000 in
theorem gX6_question_X1_size : GoodIn wsX6_question (wsV RX6 167 RX1 yX1_size wsX1_size) := goodIn_app (goodIn_of _ (by decide +kernel)) ggX6_question_X1_size
set_option maxRecDepth 20000 in
theorem ggX6_question_X3_count : GoodIn wsX6_question wsX3_count := goodIn_r _ [111, 34, 129, 130, 131, 132, 133, 134, 135] (by decide +kernel) (by decide +kernel)
set_option maxRecDepth 20000 in
theorem gX6_question_X3_count : GoodIn wsX6_question (wsV RX6 70 RX3 yX3_count wsX3_count) := goodIn_app (goodIn_of _ (by decide +kernel)) ggX6_question_X3_count
set_option maxRecDepth 20000 in
theorem ggX6_question_X1_countWith : GoodIn wsX6_question wsX1_countWith := goodIn_r _ [115, 28, 58, 40, 10, 41, 126, 127, 128] (by decide +kernel) (by decide +kernel)
set_option maxRecDepth 20000 in
theorem gX6_question_X1_countWith : GoodIn wsX6_question (wsV RX6 209 RX1 yX1_countWith wsX1_countWith) := goodIn_app (goodIn_of _ (by decide +kernel)) ggX6_question_X1_countWith
theorem dX6_question_0 : decode cX6_question 0 = .ok (.aload_n 0, 1) := by decide +kernel
theorem dX6_question_1 : decode cX6_question 1 = .ok (.invokevirtual 164, 3) := by decide +kernel
theorem dX6_question_4 : decode cX6_question 4 = .ok (.iconst (-1), 1) := by decide +kernel
theorem dX6_question_5 : decode cX6_question 5 = .ok (.istore_n 1, 1) := by decide +kernel
theorem dX6_question_6 : decode cX6_question 6 = .ok (.aload_n 0, 1) := by decide +kernel
theorem dX6_question_7 : decode cX6_question 7 = .ok (.getfield 40, 3) := by decide +kernel
theorem dX6_question_10 : decode cX6_question 10 = .ok (.invokevirtual 167, 3) := by decide +kernel
theorem dX6_question_13 : decode cX6_question 13 = .ok (.istore_n 2, 1) := by decide +kernel
theorem dX6_question_14 : decode cX6_question 14 = .ok (.iconst 0, 1) := by decide +kernel
theorem dX6_question_15 : decode cX6_question 15 = .ok (.istore_n 3, 1) := by decide +kernel
theorem dX6_question_16 : decode cX6_question 16 = .ok (.iload_n 3, 1) := by decide +kernel
theorem dX6_question_17 : decode cX6_question 17 = .ok (.aload_n 0, 1) := by decide +kernel
theorem dX6_question_18 : decode cX6_question 18 = .ok (.getfield 12, 3) := by decide +kernel
theorem dX6_question_21 : decode cX6_question 21 = .ok (.invokevirtual 70, 3) := by decide +kernel
theorem dX6_question_24 : decode cX6_question 24 = .ok (.if_icmp .ge 52, 3) := by decide +kernel
theorem dX6_question_27 : decode cX6_question 27 = .ok (.aload_n 0, 1) := by decide +kernel
theorem dX6_question_28 : decode cX6_question 28 = .ok (.getfield 40, 3) := by decide +kernel
theorem dX6_question_31 : decode cX6_question 31 = .ok (.iload_n 3, 1) := by decide +kernel
theorem dX6_question_32 : decode cX6_question 32 = .ok (.invokevirtual 209, 3) := by decide +kernel
theorem dX6_question_35 : decode cX6_question 35 = .ok (.istore 4, 2) := by decide +kernel
theorem dX6_question_37 : decode cX6_question 37 = .ok (.aload_n 0, 1) := by decide +kernel
theorem dX6_question_38 : decode cX6_question 38 = .ok (.getfield 40, 3) := by decide +kernel
theorem dX6_question_41 : decode cX6_question 41 = .ok (.invokevirtual 167, 3) := by decide +kernel
theorem dX6_question_44 : decode cX6_question 44 = .ok (.iload 4, 2) := by decide +kernel
theorem dX6_question_46 : decode cX6_question 46 = .ok (.isub, 1) := by decide +kernel
theorem dX6_question_47 : decode cX6_question 47 = .ok (.istore 5, 2) := by decide +kernel
theorem dX6_question_49 : decode cX6_question 49 = .ok (.iload 4, 2) := by decide +kernel
theorem dX6_question_51 : decode cX6_question 51 = .ok (.iload 5, 2) := by decide +kernel
theorem dX6_question_53 : decode cX6_question 53 = .ok (.isub, 1) := by decide +kernel
theorem dX6_question_54 : decode cX6_question 54 = .ok (.invokestatic 212, 3) := by decide +kernel
theorem dX6_question_57 : decode cX6_question 57 = .ok (.istore 6, 2) := by decide +kernel
theorem dX6_question_59 : decode cX6_question 59 = .ok (.iload 6, 2) := by decide +kernel
theorem dX6_question_61 : decode cX6_question 61 = .ok (.iload_n 2, 1) := by decide +kernel
theorem dX6_question_62 : decode cX6_question 62 = .ok (.if_icmp .ge 8, 3) := by decide +kernel
theorem dX6_question_65 : decode cX6_question 65 = .ok (.iload 6, 2) := by decide +kernel
theorem dX6_question_67 : decode cX6_question 67 = .ok (.istore_n 2, 1) := by decide +kernel
theorem dX6_question_68 : decode cX6_question 68 = .ok (.iload_n 3, 1) := by decide +kernel
theorem dX6_question_69 : decode cX6_question 69 = .ok (.istore_n 1, 1) := by decide +kernel
theorem dX6_question_70 : decode cX6_question 70 = .ok (.iinc 3 1, 3) := by decide +kernel
theorem dX6_question_73 : decode cX6_question 73 = .ok (.goto (-57), 3) := by decide +kernel
theorem dX6_question_76 : decode cX6_question 76 = .ok (.iload_n 1, 1) := by decide +kernel
theorem dX6_question_77 : decode cX6_question 77 = .ok (.ireturn, 1) := by decide +kernel
set_option maxRecDepth 20000 in
theorem ggX6_pairCount_X6_refresh : GoodIn wsX6_pairCount wsX6_refresh := goodIn_r _ [5, 6, 7, 8, 9, 10, 11, 12, 13, 14, 15, 16, 17, 4, 18, 19, 20, 21, 22, 23, 24, 25, 26, 27, 28, 29, 30, 31, 32, 33, 34, 35, 36, 37, 38, 39, 40, 41, 42, 43, 44, 45, 46, 47, 48, 49, 50, 51, 52, 53, 54, 55, 56, 57, 58, 59, 60, 61, 62, 63, 64, 65, 66, 67, 68, 69, 70, 71, 72, 73, 74, 75, 76, 77, 78, 79, 80, 81, 82, 83, 84, 85, 86, 87, 88, 89, 90, 91, 92, 93, 94, 95, 96, 97, 98, 99, 100, 101, 102, 103, 138, 139, 140, 141, 142, 143, 144, 145, 146, 147, 148, 149, 150, 151, 152, 153, 154, 155, 156, 157, 158, 159, 160, 161, 162, 163, 164, 165] (by decide +kernel) (by decide +kernel)
set_option maxRecDepth 20000 in
theorem gX6_pairCount_X6_refresh : GoodIn wsX6_pairCount (wsV RX6 164 RX6 yX6_refresh wsX6_refresh) := goodIn_app (goodIn_of _ (by decide +kernel)) ggX6_pairCount_X6_refresh
set_option maxRecDepth 20000 in
theorem ggX6_pairCount_X6_countPossiblePairs : GoodIn wsX6_pairCount wsX6_countPossiblePairs := goodIn_r _ [107, 108, 8, 19, 109, 110, 111, 112, 113, 114, 115, 116, 117, 118, 60, 61, 62, 12, 63, 24, 64, 65, 66, 67, 54, 119, 120, 121, 28, 122, 30, 123, 124, 125, 126, 127, 128, 129, 130, 131, 132, 133, 134, 135, 136, 36, 4, 37, 137, 44, 45, 46, 47, 48, 49, 138, 139, 140, 141, 142, 143, 144, 145, 146, 147, 166, 148, 149, 150, 151, 152, 153, 154, 155, 156, 157] (by decide +kernel) (by decide +kernel)
set_option maxRecDepth 20000 in
theorem gX6_pairCount_X6_countPossiblePairs : GoodIn wsX6_pairCount (wsV RX6 220 RX6 yX6_countPossiblePairs wsX6_countPossiblePairs) := goodIn_app (goodIn_of _ (by decide +kernel)) ggX6_pairCount_X6_countPossiblePairs
theorem dX6_pairCount_0 : decode cX6_pairCount 0 = .ok (.aload_n 0, 1) := by decide +kernel
theorem dX6_pairCount_1 : decode cX6_pairCount 1 = .ok (.invokevirtual 164, 3) := by decide +kernel
theorem dX6_pairCount_4 : decode cX6_pairCount 4 = .ok (.aload_n 0, 1) := by decide +kernel
theorem dX6_pairCount_5 : decode cX6_pairCount 5 = .ok (.invokevirtual 220, 3) := by decide +kernel
theorem dX6_pairCount_8 : decode cX6_pairCount 8 = .ok (.ireturn, 1) := by decide +kernel
set_option maxRecDepth 20000 in
theorem ggX6_sampleSize_X6_refreshSamples : GoodIn wsX6_sampleSize wsX6_refreshSamples := goodIn_r _ [6, 1, 7, 8, 9, 10, 11, 5, 12, 13, 14, 15, 16, 17, 18, 19, 20, 21, 22, 23, 24, 25, 26, 27, 28, 29, 30, 31, 32, 33, 34, 35, 36, 37, 38, 39, 40, 41, 42, 43, 44, 45, 46, 47, 48, 49, 50, 51, 52, 53, 54, 55, 56, 57, 58, 59, 60, 61, 62, 63, 64, 65, 66, 67, 68, 69, 70, 71, 72, 73, 74, 75, 76, 77, 78, 79, 80, 81, 82, 83, 84, 85, 86, 87, 88, 89, 90, 91, 92, 93, 94, 95, 96, 97, 98, 99, 100, 101, 102, 103, 104, 105, 106, 107, 108, 109, 110, 111, 112, 113, 114, 115, 116, 117, 118, 119, 120, 121, 122, 123, 124, 125, 126, 127, 128, 129, 130, 131, 132, 133, 134, 135, 136, 137, 138, 139, 140, 141, 142, 143, 144, 145, 146, 147, 148, 149, 150, 151, 152, 153, 154, 155, 156, 157, 158, 159, 160, 161, 162, 163, 164, 165, 166, 167, 168, 169, 170, 171, 172, 173, 174, 175, 176] (by decide +kernel) (by decide +kernel)
set_option maxRecDepth 20000 in
theorem gX6_sampleSize_X6_refreshSamples : GoodIn wsX6_sampleSize (wsV RX6 223 RX6 yX6_refreshSamples wsX6_refreshSamples) := goodIn_app (goodIn_of _ (by decide +kernel)) ggX6_sampleSize_X6_refreshSamples
set_option maxRecDepth 20000 in
theorem ggX6_sampleSize_X1_size : GoodIn wsX6_sampleSize wsX1_size := goodIn_r _ [69, 30, 158, 159, 160] (by decide +kernel) (by decide +kernel)
set_option maxRecDepth 20000 in
theorem gX6_sampleSize_X1_size : GoodIn wsX6_sampleSize (wsV RX6 167 RX1 yX1_size wsX1_size) := goodIn_app (goodIn_of _ (by decide +kernel)) ggX6_sampleSize_X1_size
theorem dX6_sampleSize_0 : decode cX6_sampleSize 0 = .ok (.aload_n 0, 1) := by decide +kernel
theorem dX6_sampleSize_1 : decode cX6_sampleSize 1 = .ok (.invokevirtual 223, 3) := by decide +kernel
theorem dX6_sampleSize_4 : decode cX6_sampleSize 4 = .ok (.aload_n 0, 1) := by decide +kernel
theorem dX6_sampleSize_5 : decode cX6_sampleSize 5 = .ok (.getfield 46, 3) := by decide +kernel
theorem dX6_sampleSize_8 : decode cX6_sampleSize 8 = .ok (.invokevirtual 167, 3) := by decide +kernel
theorem dX6_sampleSize_11 : decode cX6_sampleSize 11 = .ok (.ireturn, 1) := by decide +kernel
set_option maxRecDepth 20000 in
theorem ggX6_sample_X6_refreshSamples : GoodIn wsX6_sample wsX6_refreshSamples := goodIn_r _ [6, 1, 7, 8, 9, 10, 11, 5, 12, 13, 14, 15, 16, 17, 18, 19, 20, 21, 22, 23, 24, 25, 26, 27, 28, 29, 30, 31, 32, 33, 34, 35, 36, 37, 38, 39, 40, 41, 42, 43, 44, 45, 46, 47, 48, 49, 50, 51, 52, 53, 54, 55, 56, 57, 58, 59, 60, 61, 62, 63, 64, 65, 66, 67, 68, 69, 70, 71, 72, 73, 74, 75, 76, 77, 78, 79, 80, 81, 82, 83, 84, 85, 86, 87, 88, 89, 90, 91, 92, 93, 94, 95, 96, 97, 98, 99, 100, 101, 102, 103, 104, 105, 106, 107, 108, 109, 110, 111, 112, 113, 114, 115, 116, 117, 118, 119, 120, 121, 122, 123, 124, 125, 126, 127, 128, 129, 130, 131, 132, 133, 134, 135, 136, 137, 138, 139, 140, 141, 142, 143, 144, 145, 146, 147, 153, 154, 155, 156, 157, 158, 159, 160, 161, 162, 163, 164, 165, 166, 167, 168, 169, 170, 171, 172, 173, 174, 175, 176, 177, 178, 179, 180, 181] (by decide +kernel) (by decide +kernel)
set_option maxRecDepth 20000 in
theorem gX6_sample_X6_refreshSamples : GoodIn wsX6_sample (wsV RX6 223 RX6 yX6_refreshSamples wsX6_refreshSamples) := goodIn_app (goodIn_of _ (by decide +kernel)) ggX6_sample_X6_refreshSamples
set_option maxRecDepth 20000 in
theorem ggX6_sample_X6_memberOf : GoodIn wsX6_sample wsX6_memberOf := goodIn_ca (goodIn_r _ [150, 151, 152, 66, 67, 68, 19, 69, 30, 70, 71, 72, 73, 60, 163, 164, 165] (by decide +kernel) (by decide +kernel)) (goodIn_sub (fun _ h => List.mem_cons_of_mem _ (List.mem_append_right _ h)) (by decide +kernel))
set_option maxRecDepth 20000 in
theorem gX6_sample_X6_memberOf : GoodIn wsX6_sample (va_wsS RX6 170 yX6_memberOf wsX6_memberOf) := goodIn_app (goodIn_of _ (by decide +kernel)) ggX6_sample_X6_memberOf
theorem dX6_sample_0 : decode cX6_sample 0 = .ok (.aload_n 0, 1) := by decide +kernel
theorem dX6_sample_1 : decode cX6_sample 1 = .ok (.invokevirtual 223, 3) := by decide +kernel
theorem dX6_sample_4 : decode cX6_sample 4 = .ok (.aload_n 0, 1) := by decide +kernel
theorem dX6_sample_5 : decode cX6_sample 5 = .ok (.getfield 46, 3) := by decide +kernel
theorem dX6_sample_8 : decode cX6_sample 8 = .ok (.iload_n 1, 1) := by decide +kernel
theorem dX6_sample_9 : decode cX6_sample 9 = .ok (.invokestatic 170, 3) := by decide +kernel
theorem dX6_sample_12 : decode cX6_sample 12 = .ok (.ireturn, 1) := by decide +kernel
set_option maxRecDepth 20000 in
theorem ggX6_requireFeature_X3_count : GoodIn wsX6_requireFeature wsX3_count := goodIn_r _ [8, 9, 20, 21, 22, 23, 24, 25, 26] (by decide +kernel) (by decide +kernel)
set_option maxRecDepth 20000 in
theorem gX6_requireFeature_X3_count : GoodIn wsX6_requireFeature (wsV RX6 70 RX3 yX3_count wsX3_count) := goodIn_app (goodIn_of _ (by decide +kernel)) ggX6_requireFeature_X3_count
theorem dX6_requireFeature_0 : decode cX6_requireFeature 0 = .ok (.iload_n 1, 1) := by decide +kernel
theorem dX6_requireFeature_1 : decode cX6_requireFeature 1 = .ok (.ifCond .lt 14, 3) := by decide +kernel
theorem dX6_requireFeature_4 : decode cX6_requireFeature 4 = .ok (.iload_n 1, 1) := by decide +kernel
theorem dX6_requireFeature_5 : decode cX6_requireFeature 5 = .ok (.aload_n 0, 1) := by decide +kernel
theorem dX6_requireFeature_6 : decode cX6_requireFeature 6 = .ok (.getfield 12, 3) := by decide +kernel
theorem dX6_requireFeature_9 : decode cX6_requireFeature 9 = .ok (.invokevirtual 70, 3) := by decide +kernel
theorem dX6_requireFeature_12 : decode cX6_requireFeature 12 = .ok (.if_icmp .lt 13, 3) := by decide +kernel
theorem dX6_requireFeature_15 : decode cX6_requireFeature 15 = .ok (.new 88, 3) := by decide +kernel
theorem dX6_requireFeature_18 : decode cX6_requireFeature 18 = .ok (.dup, 1) := by decide +kernel
theorem dX6_requireFeature_19 : decode cX6_requireFeature 19 = .ok (.ldc 242, 2) := by decide +kernel
theorem dX6_requireFeature_21 : decode cX6_requireFeature 21 = .ok (.invokespecial 92, 3) := by decide +kernel
theorem dX6_requireFeature_24 : decode cX6_requireFeature 24 = .ok (.athrow, 1) := by decide +kernel
theorem dX6_requireFeature_25 : decode cX6_requireFeature 25 = .ok (.return_, 1) := by decide +kernel
theorem dX6_requireRelation_0 : decode cX6_requireRelation 0 = .ok (.iload_n 0, 1) := by decide +kernel
theorem dX6_requireRelation_1 : decode cX6_requireRelation 1 = .ok (.ifCond .lt 8, 3) := by decide +kernel
theorem dX6_requireRelation_4 : decode cX6_requireRelation 4 = .ok (.iload_n 0, 1) := by decide +kernel
theorem dX6_requireRelation_5 : decode cX6_requireRelation 5 = .ok (.iconst 3, 1) := by decide +kernel
theorem dX6_requireRelation_6 : decode cX6_requireRelation 6 = .ok (.if_icmp .le 13, 3) := by decide +kernel
theorem dX6_requireRelation_9 : decode cX6_requireRelation 9 = .ok (.new 96, 3) := by decide +kernel
theorem dX6_requireRelation_12 : decode cX6_requireRelation 12 = .ok (.dup, 1) := by decide +kernel
theorem dX6_requireRelation_13 : decode cX6_requireRelation 13 = .ok (.ldc 244, 2) := by decide +kernel
theorem dX6_requireRelation_15 : decode cX6_requireRelation 15 = .ok (.invokespecial 100, 3) := by decide +kernel
theorem dX6_requireRelation_18 : decode cX6_requireRelation 18 = .ok (.athrow, 1) := by decide +kernel
theorem dX6_requireRelation_19 : decode cX6_requireRelation 19 = .ok (.return_, 1) := by decide +kernel
set_option maxRecDepth 20000 in
theorem ggX6_requireConfiguration_X3_all : GoodIn wsX6_requireConfiguration wsX3_all := goodIn_r _ [8, 9, 20, 21, 22, 23, 24, 25, 26] (by decide +kernel) (by decide +kernel)
set_option maxRecDepth 20000 in
theorem gX6_requireConfiguration_X3_all : GoodIn wsX6_requireConfiguration (wsV RX6 246 RX3 yX3_all wsX3_all) := goodIn_app (goodIn_of _ (by decide +kernel)) ggX6_requireConfiguration_X3_all
theorem dX6_requireConfiguration_0 : decode cX6_requireConfiguration 0 = .ok (.iload_n 1, 1) := by decide +kernel
theorem dX6_requireConfiguration_1 : decode cX6_requireConfiguration 1 = .ok (.ifCond .lt 14, 3) := by decide +kernel
theorem dX6_requireConfiguration_4 : decode cX6_requireConfiguration 4 = .ok (.iload_n 1, 1) := by decide +kernel
theorem dX6_requireConfiguration_5 : decode cX6_requireConfiguration 5 = .ok (.aload_n 0, 1) := by decide +kernel
theorem dX6_requireConfiguration_6 : decode cX6_requireConfiguration 6 = .ok (.getfield 12, 3) := by decide +kernel
theorem dX6_requireConfiguration_9 : decode cX6_requireConfiguration 9 = .ok (.invokevirtual 246, 3) := by decide +kernel
theorem dX6_requireConfiguration_12 : decode cX6_requireConfiguration 12 = .ok (.if_icmp .le 13, 3) := by decide +kernel
theorem dX6_requireConfiguration_15 : decode cX6_requireConfiguration 15 = .ok (.new 96, 3) := by decide +kernel
theorem dX6_requireConfiguration_18 : decode cX6_requireConfiguration 18 = .ok (.dup, 1) := by decide +kernel
theorem dX6_requireConfiguration_19 : decode cX6_requireConfiguration 19 = .ok (.ldc 249, 2) := by decide +kernel
theorem dX6_requireConfiguration_21 : decode cX6_requireConfiguration 21 = .ok (.invokespecial 100, 3) := by decide +kernel
theorem dX6_requireConfiguration_24 : decode cX6_requireConfiguration 24 = .ok (.athrow, 1) := by decide +kernel
theorem dX6_requireConfiguration_25 : decode cX6_requireConfiguration 25 = .ok (.return_, 1) := by decide +kernel
set_option maxRecDepth 20000 in
theorem ggX6_memberOf_X1_size : GoodIn wsX6_memberOf wsX1_size := goodIn_r _ [7, 8, 14, 15, 16] (by decide +kernel) (by decide +kernel)
set_option maxRecDepth 20000 in
theorem gX6_memberOf_X1_size : GoodIn wsX6_memberOf (wsV RX6 167 RX1 yX1_size wsX1_size) := goodIn_app (goodIn_of _ (by decide +kernel)) ggX6_memberOf_X1_size
set_option maxRecDepth 20000 in
theorem ggX6_memberOf_X1_at : GoodIn wsX6_memberOf wsX1_at := goodIn_r _ [12, 13, 14, 15, 16] (by decide +kernel) (by decide +kernel)
set_option maxRecDepth 20000 in
theorem gX6_memberOf_X1_at : GoodIn wsX6_memberOf (wsV RX6 190 RX1 yX1_at wsX1_at) := goodIn_app (goodIn_of _ (by decide +kernel)) ggX6_memberOf_X1_at
theorem dX6_memberOf_0 : decode cX6_memberOf 0 = .ok (.iload_n 1, 1) := by decide +kernel
theorem dX6_memberOf_1 : decode cX6_memberOf 1 = .ok (.ifCond .lt 11, 3) := by decide +kernel
theorem dX6_memberOf_4 : decode cX6_memberOf 4 = .ok (.iload_n 1, 1) := by decide +kernel
theorem dX6_memberOf_5 : decode cX6_memberOf 5 = .ok (.aload_n 0, 1) := by decide +kernel
theorem dX6_memberOf_6 : decode cX6_memberOf 6 = .ok (.invokevirtual 167, 3) := by decide +kernel
theorem dX6_memberOf_9 : decode cX6_memberOf 9 = .ok (.if_icmp .lt 13, 3) := by decide +kernel
theorem dX6_memberOf_12 : decode cX6_memberOf 12 = .ok (.new 88, 3) := by decide +kernel
theorem dX6_memberOf_15 : decode cX6_memberOf 15 = .ok (.dup, 1) := by decide +kernel
theorem dX6_memberOf_16 : decode cX6_memberOf 16 = .ok (.ldc 251, 2) := by decide +kernel
theorem dX6_memberOf_18 : decode cX6_memberOf 18 = .ok (.invokespecial 92, 3) := by decide +kernel
theorem dX6_memberOf_21 : decode cX6_memberOf 21 = .ok (.athrow, 1) := by decide +kernel
theorem dX6_memberOf_22 : decode cX6_memberOf 22 = .ok (.aload_n 0, 1) := by decide +kernel
theorem dX6_memberOf_23 : decode cX6_memberOf 23 = .ok (.iload_n 1, 1) := by decide +kernel
theorem dX6_memberOf_24 : decode cX6_memberOf 24 = .ok (.invokevirtual 190, 3) := by decide +kernel
theorem dX6_memberOf_27 : decode cX6_memberOf 27 = .ok (.ireturn, 1) := by decide +kernel
set_option maxRecDepth 20000 in
theorem ggX6_forgetShapes_X1_forget : GoodIn wsX6_forgetShapes wsX1_forget := goodIn_r _ [6, 7, 31, 32, 33] (by decide +kernel) (by decide +kernel)
set_option maxRecDepth 20000 in
theorem gX6_forgetShapes_X1_forget : GoodIn wsX6_forgetShapes (wsV RX6 253 RX1 yX1_forget wsX1_forget) := goodIn_app (goodIn_of _ (by decide +kernel)) ggX6_forgetShapes_X1_forget
set_option maxRecDepth 20000 in
theorem ggX6_forgetShapes_X6_forgetProducts : GoodIn wsX6_forgetShapes wsX6_forgetProducts := goodIn_r _ [12, 13, 2, 3, 4, 5, 6, 7, 14, 15, 16, 11, 17, 18, 19, 20, 21, 22, 23, 24, 25, 26, 27, 28, 29, 30, 31, 32, 33] (by decide +kernel) (by decide +kernel)
set_option maxRecDepth 20000 in
theorem gX6_forgetShapes_X6_forgetProducts : GoodIn wsX6_forgetShapes (wsV RX6 113 RX6 yX6_forgetProducts wsX6_forgetProducts) := goodIn_app (goodIn_of _ (by decide +kernel)) ggX6_forgetShapes_X6_forgetProducts
theorem dX6_forgetShapes_0 : decode cX6_forgetShapes 0 = .ok (.aload_n 0, 1) := by decide +kernel
theorem dX6_forgetShapes_1 : decode cX6_forgetShapes 1 = .ok (.getfield 33, 3) := by decide +kernel
theorem dX6_forgetShapes_4 : decode cX6_forgetShapes 4 = .ok (.invokevirtual 253, 3) := by decide +kernel
theorem dX6_forgetShapes_7 : decode cX6_forgetShapes 7 = .ok (.aload_n 0, 1) := by decide +kernel
theorem dX6_forgetShapes_8 : decode cX6_forgetShapes 8 = .ok (.invokevirtual 113, 3) := by decide +kernel
theorem dX6_forgetShapes_11 : decode cX6_forgetShapes 11 = .ok (.return_, 1) := by decide +kernel
set_option maxRecDepth 20000 in
theorem ggX6_forgetProducts_X1_forget : GoodIn wsX6_forgetProducts wsX1_forget := goodIn_r _ [6, 7, 26, 27, 28] (by decide +kernel) (by decide +kernel)
set_option maxRecDepth 20000 in
theorem gX6_forgetProducts_X1_forget : GoodIn wsX6_forgetProducts (wsV RX6 253 RX1 yX1_forget wsX1_forget) := goodIn_app (goodIn_of _ (by decide +kernel)) ggX6_forgetProducts_X1_forget
set_option maxRecDepth 20000 in
theorem ggX6_forgetProducts_X6_forgetCandidates : GoodIn wsX6_forgetProducts wsX6_forgetCandidates := goodIn_r _ [12, 13, 14, 15, 2, 3, 4, 5, 6, 7, 16, 17, 18, 19, 20, 21, 22, 23, 24, 25, 26, 27, 28] (by decide +kernel) (by decide +kernel)
set_option maxRecDepth 20000 in
theorem gX6_forgetProducts_X6_forgetCandidates : GoodIn wsX6_forgetProducts (wsV RX6 101 RX6 yX6_forgetCandidates wsX6_forgetCandidates) := goodIn_app (goodIn_of _ (by decide +kernel)) ggX6_forgetProducts_X6_forgetCandidates
theorem dX6_forgetProducts_0 : decode cX6_forgetProducts 0 = .ok (.aload_n 0, 1) := by decide +kernel
theorem dX6_forgetProducts_1 : decode cX6_forgetProducts 1 = .ok (.getfield 37, 3) := by decide +kernel
theorem dX6_forgetProducts_4 : decode cX6_forgetProducts 4 = .ok (.invokevirtual 253, 3) := by decide +kernel
theorem dX6_forgetProducts_7 : decode cX6_forgetProducts 7 = .ok (.aload_n 0, 1) := by decide +kernel
theorem dX6_forgetProducts_8 : decode cX6_forgetProducts 8 = .ok (.invokevirtual 101, 3) := by decide +kernel
theorem dX6_forgetProducts_11 : decode cX6_forgetProducts 11 = .ok (.return_, 1) := by decide +kernel
set_option maxRecDepth 20000 in
theorem ggX6_forgetCandidates_X1_forget : GoodIn wsX6_forgetCandidates wsX1_forget := goodIn_r _ [8, 9, 20, 21, 22] (by decide +kernel) (by decide +kernel)
set_option maxRecDepth 20000 in
theorem gX6_forgetCandidates_X1_forget : GoodIn wsX6_forgetCandidates (wsV RX6 253 RX1 yX1_forget wsX1_forget) := goodIn_app (goodIn_of _ (by decide +kernel)) ggX6_forgetCandidates_X1_forget
theorem dX6_forgetCandidates_0 : decode cX6_forgetCandidates 0 = .ok (.aload_n 0, 1) := by decide +kernel
theorem dX6_forgetCandidates_1 : decode cX6_forgetCandidates 1 = .ok (.getfield 40, 3) := by decide +kernel
theorem dX6_forgetCandidates_4 : decode cX6_forgetCandidates 4 = .ok (.invokevirtual 253, 3) := by decide +kernel
theorem dX6_forgetCandidates_7 : decode cX6_forgetCandidates 7 = .ok (.aload_n 0, 1) := by decide +kernel
theorem dX6_forgetCandidates_8 : decode cX6_forgetCandidates 8 = .ok (.getfield 43, 3) := by decide +kernel
theorem dX6_forgetCandidates_11 : decode cX6_forgetCandidates 11 = .ok (.invokevirtual 253, 3) := by decide +kernel
theorem dX6_forgetCandidates_14 : decode cX6_forgetCandidates 14 = .ok (.aload_n 0, 1) := by decide +kernel
theorem dX6_forgetCandidates_15 : decode cX6_forgetCandidates 15 = .ok (.getfield 46, 3) := by decide +kernel
theorem dX6_forgetCandidates_18 : decode cX6_forgetCandidates 18 = .ok (.invokevirtual 253, 3) := by decide +kernel
theorem dX6_forgetCandidates_21 : decode cX6_forgetCandidates 21 = .ok (.return_, 1) := by decide +kernel
set_option maxRecDepth 20000 in
theorem ggX6_refresh_X1_isKnown : GoodIn wsX6_refresh wsX1_isKnown := goodIn_r _ [8, 9, 110, 111, 112] (by decide +kernel) (by decide +kernel)
set_option maxRecDepth 20000 in
theorem gX6_refresh_X1_isKnown : GoodIn wsX6_refresh (wsV RX6 256 RX1 yX1_isKnown wsX1_isKnown) := goodIn_app (goodIn_of _ (by decide +kernel)) ggX6_refresh_X1_isKnown
set_option maxRecDepth 20000 in
theorem ggX6_refresh_X6_findShapes : GoodIn wsX6_refresh wsX6_findShapes := goodIn_r _ [14, 1, 15, 16, 17, 18, 7, 19, 20, 9, 21, 22, 23, 24, 25, 26, 27, 28, 29, 30, 31, 32, 13, 33, 34, 35, 36, 37, 38, 39, 40, 41, 42, 43, 44, 45, 46, 47, 48, 49, 50, 100, 101, 102, 103, 104, 105, 106, 107, 108, 109, 110, 111, 112, 113, 114, 115, 116, 117, 118, 119] (by decide +kernel) (by decide +kernel)
set_option maxRecDepth 20000 in
theorem gX6_refresh_X6_findShapes : GoodIn wsX6_refresh (wsV RX6 260 RX6 yX6_findShapes wsX6_findShapes) := goodIn_app (goodIn_of _ (by decide +kernel)) ggX6_refresh_X6_findShapes
set_option maxRecDepth 20000 in
theorem ggX6_refresh_X6_findProducts : GoodIn wsX6_refresh wsX6_findProducts := goodIn_r _ [54, 2, 1, 55, 16, 17, 18, 7, 19, 20, 9, 56, 57, 58, 59, 60, 61, 62, 63, 50, 64, 65, 66, 67, 68, 69, 70, 32, 13, 33, 71, 72, 73, 74, 75, 76, 77, 46, 47, 48, 49, 100, 101, 102, 103, 104, 105, 106, 107, 108, 109, 110, 111, 112, 120, 121, 122, 123, 124] (by decide +kernel) (by decide +kernel)
set_option maxRecDepth 20000 in
theorem gX6_refresh_X6_findProducts : GoodIn wsX6_refresh (wsV RX6 263 RX6 yX6_findProducts wsX6_findProducts) := goodIn_app (goodIn_of _ (by decide +kernel)) ggX6_refresh_X6_findProducts
set_option maxRecDepth 20000 in
theorem ggX6_refresh_X6_findCandidates : GoodIn wsX6_refresh wsX6_findCandidates := goodIn_r _ [81, 3, 2, 82, 15, 16, 17, 18, 7, 19, 20, 9, 56, 57, 58, 59, 60, 61, 62, 63, 50, 83, 84, 85, 24, 86, 87, 88, 89, 90, 91, 26, 32, 13, 33, 92, 93, 94, 95, 96, 97, 98, 99, 46, 47, 48, 49, 100, 101, 102, 103, 104, 105, 106, 107, 108, 109, 110, 111, 112, 113, 114, 115, 116, 117, 118, 119, 125, 126, 127] (by decide +kernel) (by decide +kernel)
set_option maxRecDepth 20000 in
theorem gX6_refresh_X6_findCandidates : GoodIn wsX6_refresh (wsV RX6 266 RX6 yX6_findCandidates wsX6_findCandidates) := goodIn_app (goodIn_of _ (by decide +kernel)) ggX6_refresh_X6_findCandidates
theorem dX6_refresh_0 : decode cX6_refresh 0 = .ok (.aload_n 0, 1) := by decide +kernel
theorem dX6_refresh_1 : decode cX6_refresh 1 = .ok (.getfield 33, 3) := by decide +kernel
theorem dX6_refresh_4 : decode cX6_refresh 4 = .ok (.invokevirtual 256, 3) := by decide +kernel
theorem dX6_refresh_7 : decode cX6_refresh 7 = .ok (.ifCond .ne 7, 3) := by decide +kernel
theorem dX6_refresh_10 : decode cX6_refresh 10 = .ok (.aload_n 0, 1) := by decide +kernel
theorem dX6_refresh_11 : decode cX6_refresh 11 = .ok (.invokevirtual 260, 3) := by decide +kernel
theorem dX6_refresh_14 : decode cX6_refresh 14 = .ok (.aload_n 0, 1) := by decide +kernel
theorem dX6_refresh_15 : decode cX6_refresh 15 = .ok (.getfield 37, 3) := by decide +kernel
theorem dX6_refresh_18 : decode cX6_refresh 18 = .ok (.invokevirtual 256, 3) := by decide +kernel
theorem dX6_refresh_21 : decode cX6_refresh 21 = .ok (.ifCond .ne 7, 3) := by decide +kernel
theorem dX6_refresh_24 : decode cX6_refresh 24 = .ok (.aload_n 0, 1) := by decide +kernel
theorem dX6_refresh_25 : decode cX6_refresh 25 = .ok (.invokevirtual 263, 3) := by decide +kernel
theorem dX6_refresh_28 : decode cX6_refresh 28 = .ok (.aload_n 0, 1) := by decide +kernel
theorem dX6_refresh_29 : decode cX6_refresh 29 = .ok (.getfield 40, 3) := by decide +kernel
theorem dX6_refresh_32 : decode cX6_refresh 32 = .ok (.invokevirtual 256, 3) := by decide +kernel
theorem dX6_refresh_35 : decode cX6_refresh 35 = .ok (.ifCond .ne 7, 3) := by decide +kernel
theorem dX6_refresh_38 : decode cX6_refresh 38 = .ok (.aload_n 0, 1) := by decide +kernel
theorem dX6_refresh_39 : decode cX6_refresh 39 = .ok (.invokevirtual 266, 3) := by decide +kernel
theorem dX6_refresh_42 : decode cX6_refresh 42 = .ok (.return_, 1) := by decide +kernel
set_option maxRecDepth 20000 in
theorem ggX6_findShapes_X1_restart : GoodIn wsX6_findShapes wsX1_restart := goodIn_r _ [7, 8, 9, 51, 52, 53] (by decide +kernel) (by decide +kernel)
set_option maxRecDepth 20000 in
theorem gX6_findShapes_X1_restart : GoodIn wsX6_findShapes (wsV RX6 269 RX1 yX1_restart wsX1_restart) := goodIn_app (goodIn_of _ (by decide +kernel)) ggX6_findShapes_X1_restart
set_option maxRecDepth 20000 in
theorem ggX6_findShapes_X3_all : GoodIn wsX6_findShapes wsX3_all := goodIn_r _ [14, 15, 54, 55, 56, 57, 58, 59, 60] (by decide +kernel) (by decide +kernel)
set_option maxRecDepth 20000 in
theorem gX6_findShapes_X3_all : GoodIn wsX6_findShapes (wsV RX6 246 RX3 yX3_all wsX3_all) := goodIn_app (goodIn_of _ (by decide +kernel)) ggX6_findShapes_X3_all
set_option maxRecDepth 20000 in
theorem ggX6_findShapes_X3_countBroken : GoodIn wsX6_findShapes wsX3_countBroken := goodIn_r _ [19, 15, 20, 21, 22, 23, 24, 25, 26, 13, 27, 28, 29, 30, 31, 32, 33, 34, 35, 54, 55, 56, 57, 58, 59, 60] (by decide +kernel) (by decide +kernel)
set_option maxRecDepth 20000 in
theorem gX6_findShapes_X3_countBroken : GoodIn wsX6_findShapes (wsV RX6 147 RX3 yX3_countBroken wsX3_countBroken) := goodIn_app (goodIn_of _ (by decide +kernel)) ggX6_findShapes_X3_countBroken
set_option maxRecDepth 20000 in
theorem ggX6_findShapes_X1_append : GoodIn wsX6_findShapes wsX1_append := goodIn_r _ [39, 8, 40, 51, 52, 53] (by decide +kernel) (by decide +kernel)
set_option maxRecDepth 20000 in
theorem gX6_findShapes_X1_append : GoodIn wsX6_findShapes (wsV RX6 272 RX1 yX1_append wsX1_append) := goodIn_app (goodIn_of _ (by decide +kernel)) ggX6_findShapes_X1_append
theorem dX6_findShapes_0 : decode cX6_findShapes 0 = .ok (.aload_n 0, 1) := by decide +kernel
theorem dX6_findShapes_1 : decode cX6_findShapes 1 = .ok (.getfield 33, 3) := by decide +kernel
theorem dX6_findShapes_4 : decode cX6_findShapes 4 = .ok (.invokevirtual 269, 3) := by decide +kernel
theorem dX6_findShapes_7 : decode cX6_findShapes 7 = .ok (.iconst 1, 1) := by decide +kernel
theorem dX6_findShapes_8 : decode cX6_findShapes 8 = .ok (.istore_n 1, 1) := by decide +kernel
theorem dX6_findShapes_9 : decode cX6_findShapes 9 = .ok (.iload_n 1, 1) := by decide +kernel
theorem dX6_findShapes_10 : decode cX6_findShapes 10 = .ok (.aload_n 0, 1) := by decide +kernel
theorem dX6_findShapes_11 : decode cX6_findShapes 11 = .ok (.getfield 12, 3) := by decide +kernel
theorem dX6_findShapes_14 : decode cX6_findShapes 14 = .ok (.invokevirtual 246, 3) := by decide +kernel
theorem dX6_findShapes_17 : decode cX6_findShapes 17 = .ok (.if_icmp .gt 28, 3) := by decide +kernel
theorem dX6_findShapes_20 : decode cX6_findShapes 20 = .ok (.aload_n 0, 1) := by decide +kernel
theorem dX6_findShapes_21 : decode cX6_findShapes 21 = .ok (.getfield 12, 3) := by decide +kernel
theorem dX6_findShapes_24 : decode cX6_findShapes 24 = .ok (.iload_n 1, 1) := by decide +kernel
theorem dX6_findShapes_25 : decode cX6_findShapes 25 = .ok (.invokevirtual 147, 3) := by decide +kernel
theorem dX6_findShapes_28 : decode cX6_findShapes 28 = .ok (.ifCond .ne 11, 3) := by decide +kernel
theorem dX6_findShapes_31 : decode cX6_findShapes 31 = .ok (.aload_n 0, 1) := by decide +kernel
theorem dX6_findShapes_32 : decode cX6_findShapes 32 = .ok (.getfield 33, 3) := by decide +kernel
theorem dX6_findShapes_35 : decode cX6_findShapes 35 = .ok (.iload_n 1, 1) := by decide +kernel
theorem dX6_findShapes_36 : decode cX6_findShapes 36 = .ok (.invokevirtual 272, 3) := by decide +kernel
theorem dX6_findShapes_39 : decode cX6_findShapes 39 = .ok (.iinc 1 2, 3) := by decide +kernel
theorem dX6_findShapes_42 : decode cX6_findShapes 42 = .ok (.goto (-33), 3) := by decide +kernel
theorem dX6_findShapes_45 : decode cX6_findShapes 45 = .ok (.return_, 1) := by decide +kernel
set_option maxRecDepth 20000 in
theorem ggX6_findProducts_X1_restart : GoodIn wsX6_findProducts wsX1_restart := goodIn_r _ [8, 9, 10, 51, 52, 53] (by decide +kernel) (by decide +kernel)
set_option maxRecDepth 20000 in
theorem gX6_findProducts_X1_restart : GoodIn wsX6_findProducts (wsV RX6 269 RX1 yX1_restart wsX1_restart) := goodIn_app (goodIn_of _ (by decide +kernel)) ggX6_findProducts_X1_restart
set_option maxRecDepth 20000 in
theorem ggX6_findProducts_X1_size : GoodIn wsX6_findProducts wsX1_size := goodIn_r _ [14, 9, 51, 52, 53] (by decide +kernel) (by decide +kernel)
set_option maxRecDepth 20000 in
theorem gX6_findProducts_X1_size : GoodIn wsX6_findProducts (wsV RX6 167 RX1 yX1_size wsX1_size) := goodIn_app (goodIn_of _ (by decide +kernel)) ggX6_findProducts_X1_size
set_option maxRecDepth 20000 in
theorem ggX6_findProducts_X1_at : GoodIn wsX6_findProducts wsX1_at := goodIn_r _ [18, 19, 51, 52, 53] (by decide +kernel) (by decide +kernel)
set_option maxRecDepth 20000 in
theorem gX6_findProducts_X1_at : GoodIn wsX6_findProducts (wsV RX6 190 RX1 yX1_at wsX1_at) := goodIn_app (goodIn_of _ (by decide +kernel)) ggX6_findProducts_X1_at
set_option maxRecDepth 20000 in
theorem ggX6_findProducts_X2_brokenBy : GoodIn wsX6_findProducts wsX2_brokenBy := goodIn_r _ [24, 25, 26, 27, 28, 29, 30, 31, 32, 23, 33, 34, 35, 36, 54, 55, 56, 57, 58] (by decide +kernel) (by decide +kernel)
set_option maxRecDepth 20000 in
theorem gX6_findProducts_X2_brokenBy : GoodIn wsX6_findProducts (wsV RX6 150 RX2 yX2_brokenBy wsX2_brokenBy) := goodIn_app (goodIn_of _ (by decide +kernel)) ggX6_findProducts_X2_brokenBy
set_option maxRecDepth 20000 in
theorem ggX6_findProducts_X1_append : GoodIn wsX6_findProducts wsX1_append := goodIn_r _ [40, 9, 19, 51, 52, 53] (by decide +kernel) (by decide +kernel)
set_option maxRecDepth 20000 in
theorem gX6_findProducts_X1_append : GoodIn wsX6_findProducts (wsV RX6 272 RX1 yX1_append wsX1_append) := goodIn_app (goodIn_of _ (by decide +kernel)) ggX6_findProducts_X1_append
theorem dX6_findProducts_0 : decode cX6_findProducts 0 = .ok (.aload_n 0, 1) := by decide +kernel
theorem dX6_findProducts_1 : decode cX6_findProducts 1 = .ok (.getfield 37, 3) := by decide +kernel
theorem dX6_findProducts_4 : decode cX6_findProducts 4 = .ok (.invokevirtual 269, 3) := by decide +kernel
theorem dX6_findProducts_7 : decode cX6_findProducts 7 = .ok (.iconst 0, 1) := by decide +kernel
theorem dX6_findProducts_8 : decode cX6_findProducts 8 = .ok (.istore_n 1, 1) := by decide +kernel
theorem dX6_findProducts_9 : decode cX6_findProducts 9 = .ok (.iload_n 1, 1) := by decide +kernel
theorem dX6_findProducts_10 : decode cX6_findProducts 10 = .ok (.aload_n 0, 1) := by decide +kernel
theorem dX6_findProducts_11 : decode cX6_findProducts 11 = .ok (.getfield 33, 3) := by decide +kernel
theorem dX6_findProducts_14 : decode cX6_findProducts 14 = .ok (.invokevirtual 167, 3) := by decide +kernel
theorem dX6_findProducts_17 : decode cX6_findProducts 17 = .ok (.if_icmp .ge 42, 3) := by decide +kernel
theorem dX6_findProducts_20 : decode cX6_findProducts 20 = .ok (.aload_n 0, 1) := by decide +kernel
theorem dX6_findProducts_21 : decode cX6_findProducts 21 = .ok (.getfield 19, 3) := by decide +kernel
theorem dX6_findProducts_24 : decode cX6_findProducts 24 = .ok (.aload_n 0, 1) := by decide +kernel
theorem dX6_findProducts_25 : decode cX6_findProducts 25 = .ok (.getfield 33, 3) := by decide +kernel
theorem dX6_findProducts_28 : decode cX6_findProducts 28 = .ok (.iload_n 1, 1) := by decide +kernel
theorem dX6_findProducts_29 : decode cX6_findProducts 29 = .ok (.invokevirtual 190, 3) := by decide +kernel
theorem dX6_findProducts_32 : decode cX6_findProducts 32 = .ok (.invokevirtual 150, 3) := by decide +kernel
theorem dX6_findProducts_35 : decode cX6_findProducts 35 = .ok (.ifCond .ne 18, 3) := by decide +kernel
theorem dX6_findProducts_38 : decode cX6_findProducts 38 = .ok (.aload_n 0, 1) := by decide +kernel
theorem dX6_findProducts_39 : decode cX6_findProducts 39 = .ok (.getfield 37, 3) := by decide +kernel
theorem dX6_findProducts_42 : decode cX6_findProducts 42 = .ok (.aload_n 0, 1) := by decide +kernel
theorem dX6_findProducts_43 : decode cX6_findProducts 43 = .ok (.getfield 33, 3) := by decide +kernel
theorem dX6_findProducts_46 : decode cX6_findProducts 46 = .ok (.iload_n 1, 1) := by decide +kernel
theorem dX6_findProducts_47 : decode cX6_findProducts 47 = .ok (.invokevirtual 190, 3) := by decide +kernel
theorem dX6_findProducts_50 : decode cX6_findProducts 50 = .ok (.invokevirtual 272, 3) := by decide +kernel
theorem dX6_findProducts_53 : decode cX6_findProducts 53 = .ok (.iinc 1 1, 3) := by decide +kernel
theorem dX6_findProducts_56 : decode cX6_findProducts 56 = .ok (.goto (-47), 3) := by decide +kernel
theorem dX6_findProducts_59 : decode cX6_findProducts 59 = .ok (.return_, 1) := by decide +kernel
set_option maxRecDepth 20000 in
theorem ggX6_findCandidates_X1_restart : GoodIn wsX6_findCandidates wsX1_restart := goodIn_r _ [9, 10, 11, 57, 58, 59] (by decide +kernel) (by decide +kernel)
set_option maxRecDepth 20000 in
theorem gX6_findCandidates_X1_restart : GoodIn wsX6_findCandidates (wsV RX6 269 RX1 yX1_restart wsX1_restart) := goodIn_app (goodIn_of _ (by decide +kernel)) ggX6_findCandidates_X1_restart
set_option maxRecDepth 20000 in
theorem ggX6_findCandidates_X1_size : GoodIn wsX6_findCandidates wsX1_size := goodIn_r _ [15, 10, 57, 58, 59] (by decide +kernel) (by decide +kernel)
set_option maxRecDepth 20000 in
theorem gX6_findCandidates_X1_size : GoodIn wsX6_findCandidates (wsV RX6 167 RX1 yX1_size wsX1_size) := goodIn_app (goodIn_of _ (by decide +kernel)) ggX6_findCandidates_X1_size
set_option maxRecDepth 20000 in
theorem ggX6_findCandidates_X1_at : GoodIn wsX6_findCandidates wsX1_at := goodIn_r _ [19, 20, 57, 58, 59] (by decide +kernel) (by decide +kernel)
set_option maxRecDepth 20000 in
theorem gX6_findCandidates_X1_at : GoodIn wsX6_findCandidates (wsV RX6 190 RX1 yX1_at wsX1_at) := goodIn_app (goodIn_of _ (by decide +kernel)) ggX6_findCandidates_X1_at
set_option maxRecDepth 20000 in
theorem ggX6_findCandidates_X3_costSum : GoodIn wsX6_findCandidates wsX3_costSum := goodIn_r _ [25, 26, 27, 28, 29, 24, 30, 31, 32, 33, 34, 60, 61, 62, 63, 64, 65, 66] (by decide +kernel) (by decide +kernel)
set_option maxRecDepth 20000 in
theorem gX6_findCandidates_X3_costSum : GoodIn wsX6_findCandidates (wsV RX6 158 RX3 yX3_costSum wsX3_costSum) := goodIn_app (goodIn_of _ (by decide +kernel)) ggX6_findCandidates_X3_costSum
set_option maxRecDepth 20000 in
theorem ggX6_findCandidates_X0_allow : GoodIn wsX6_findCandidates wsX0_allow := goodIn_r _ [39, 40, 41, 42, 67, 68, 69] (by decide +kernel) (by decide +kernel)
set_option maxRecDepth 20000 in
theorem gX6_findCandidates_X0_allow : GoodIn wsX6_findCandidates (wsV RX6 274 RX0 yX0_allow wsX0_allow) := goodIn_app (goodIn_of _ (by decide +kernel)) ggX6_findCandidates_X0_allow
set_option maxRecDepth 20000 in
theorem ggX6_findCandidates_X1_append : GoodIn wsX6_findCandidates wsX1_append := goodIn_r _ [46, 10, 20, 57, 58, 59] (by decide +kernel) (by decide +kernel)
set_option maxRecDepth 20000 in
theorem gX6_findCandidates_X1_append : GoodIn wsX6_findCandidates (wsV RX6 272 RX1 yX1_append wsX1_append) := goodIn_app (goodIn_of _ (by decide +kernel)) ggX6_findCandidates_X1_append
theorem dX6_findCandidates_0 : decode cX6_findCandidates 0 = .ok (.aload_n 0, 1) := by decide +kernel
theorem dX6_findCandidates_1 : decode cX6_findCandidates 1 = .ok (.getfield 40, 3) := by decide +kernel
theorem dX6_findCandidates_4 : decode cX6_findCandidates 4 = .ok (.invokevirtual 269, 3) := by decide +kernel
theorem dX6_findCandidates_7 : decode cX6_findCandidates 7 = .ok (.iconst 0, 1) := by decide +kernel
theorem dX6_findCandidates_8 : decode cX6_findCandidates 8 = .ok (.istore_n 1, 1) := by decide +kernel
theorem dX6_findCandidates_9 : decode cX6_findCandidates 9 = .ok (.iload_n 1, 1) := by decide +kernel
theorem dX6_findCandidates_10 : decode cX6_findCandidates 10 = .ok (.aload_n 0, 1) := by decide +kernel
theorem dX6_findCandidates_11 : decode cX6_findCandidates 11 = .ok (.getfield 37, 3) := by decide +kernel
theorem dX6_findCandidates_14 : decode cX6_findCandidates 14 = .ok (.invokevirtual 167, 3) := by decide +kernel
theorem dX6_findCandidates_17 : decode cX6_findCandidates 17 = .ok (.if_icmp .ge 45, 3) := by decide +kernel
theorem dX6_findCandidates_20 : decode cX6_findCandidates 20 = .ok (.aload_n 0, 1) := by decide +kernel
theorem dX6_findCandidates_21 : decode cX6_findCandidates 21 = .ok (.getfield 37, 3) := by decide +kernel
theorem dX6_findCandidates_24 : decode cX6_findCandidates 24 = .ok (.iload_n 1, 1) := by decide +kernel
theorem dX6_findCandidates_25 : decode cX6_findCandidates 25 = .ok (.invokevirtual 190, 3) := by decide +kernel
theorem dX6_findCandidates_28 : decode cX6_findCandidates 28 = .ok (.istore_n 2, 1) := by decide +kernel
theorem dX6_findCandidates_29 : decode cX6_findCandidates 29 = .ok (.aload_n 0, 1) := by decide +kernel
theorem dX6_findCandidates_30 : decode cX6_findCandidates 30 = .ok (.getfield 26, 3) := by decide +kernel
theorem dX6_findCandidates_33 : decode cX6_findCandidates 33 = .ok (.iload_n 2, 1) := by decide +kernel
theorem dX6_findCandidates_34 : decode cX6_findCandidates 34 = .ok (.aload_n 0, 1) := by decide +kernel
theorem dX6_findCandidates_35 : decode cX6_findCandidates 35 = .ok (.getfield 12, 3) := by decide +kernel
theorem dX6_findCandidates_38 : decode cX6_findCandidates 38 = .ok (.iload_n 2, 1) := by decide +kernel
theorem dX6_findCandidates_39 : decode cX6_findCandidates 39 = .ok (.invokevirtual 158, 3) := by decide +kernel
theorem dX6_findCandidates_42 : decode cX6_findCandidates 42 = .ok (.invokevirtual 274, 3) := by decide +kernel
theorem dX6_findCandidates_45 : decode cX6_findCandidates 45 = .ok (.ifCond .eq 11, 3) := by decide +kernel
theorem dX6_findCandidates_48 : decode cX6_findCandidates 48 = .ok (.aload_n 0, 1) := by decide +kernel
theorem dX6_findCandidates_49 : decode cX6_findCandidates 49 = .ok (.getfield 40, 3) := by decide +kernel
theorem dX6_findCandidates_52 : decode cX6_findCandidates 52 = .ok (.iload_n 2, 1) := by decide +kernel
theorem dX6_findCandidates_53 : decode cX6_findCandidates 53 = .ok (.invokevirtual 272, 3) := by decide +kernel
theorem dX6_findCandidates_56 : decode cX6_findCandidates 56 = .ok (.iinc 1 1, 3) := by decide +kernel
theorem dX6_findCandidates_59 : decode cX6_findCandidates 59 = .ok (.goto (-50), 3) := by decide +kernel
theorem dX6_findCandidates_62 : decode cX6_findCandidates 62 = .ok (.return_, 1) := by decide +kernel
set_option maxRecDepth 20000 in
theorem ggX6_refreshSamples_X6_refresh : GoodIn wsX6_refreshSamples wsX6_refresh := goodIn_r _ [8, 9, 10, 11, 12, 13, 14, 15, 16, 17, 18, 19, 20, 7, 21, 3, 22, 23, 24, 25, 26, 27, 28, 29, 30, 31, 32, 33, 34, 35, 36, 37, 38, 39, 40, 41, 42, 43, 44, 45, 46, 47, 48, 49, 50, 51, 52, 53, 54, 55, 56, 57, 58, 59, 60, 61, 62, 63, 64, 65, 66, 67, 68, 69, 70, 71, 72, 73, 74, 75, 76, 77, 78, 79, 80, 81, 82, 83, 84, 85, 86, 87, 88, 89, 90, 91, 92, 93, 94, 95, 96, 97, 98, 99, 100, 101, 102, 103, 104, 105, 144, 145, 146, 147, 148, 149, 150, 151, 152, 153, 154, 155, 156, 157, 158, 159, 160, 161, 162, 163, 164, 165, 166, 167, 168, 169, 170, 171] (by decide +kernel) (by decide +kernel)
set_option maxRecDepth 20000 in
theorem gX6_refreshSamples_X6_refresh : GoodIn wsX6_refreshSamples (wsV RX6 164 RX6 yX6_refresh wsX6_refresh) := goodIn_app (goodIn_of _ (by decide +kernel)) ggX6_refreshSamples_X6_refresh
set_option maxRecDepth 20000 in
theorem ggX6_refreshSamples_X1_isKnown : GoodIn wsX6_refreshSamples wsX1_isKnown := goodIn_r _ [16, 17, 154, 155, 156] (by decide +kernel) (by decide +kernel)
set_option maxRecDepth 20000 in
theorem gX6_refreshSamples_X1_isKnown : GoodIn wsX6_refreshSamples (wsV RX6 256 RX1 yX1_isKnown wsX1_isKnown) := goodIn_app (goodIn_of _ (by decide +kernel)) ggX6_refreshSamples_X1_isKnown
set_option maxRecDepth 20000 in
theorem ggX6_refreshSamples_X1_restart : GoodIn wsX6_refreshSamples wsX1_restart := goodIn_r _ [25, 26, 17, 154, 155, 156] (by decide +kernel) (by decide +kernel)
set_option maxRecDepth 20000 in
theorem gX6_refreshSamples_X1_restart : GoodIn wsX6_refreshSamples (wsV RX6 269 RX1 yX1_restart wsX1_restart) := goodIn_app (goodIn_of _ (by decide +kernel)) ggX6_refreshSamples_X1_restart
set_option maxRecDepth 20000 in
theorem ggX6_refreshSamples_X6_countPossiblePairs : GoodIn wsX6_refreshSamples wsX6_countPossiblePairs := goodIn_r _ [109, 2, 11, 3, 110, 111, 112, 113, 114, 115, 116, 117, 118, 119, 62, 63, 64, 15, 65, 26, 66, 67, 68, 69, 56, 120, 121, 122, 30, 123, 32, 124, 125, 126, 127, 128, 129, 130, 131, 132, 133, 134, 135, 136, 137, 38, 7, 39, 138, 46, 47, 48, 49, 50, 51, 144, 145, 146, 147, 148, 149, 150, 151, 152, 153, 172, 154, 155, 156, 157, 158, 159, 160, 161, 162, 163] (by decide +kernel) (by decide +kernel)
set_option maxRecDepth 20000 in
theorem gX6_refreshSamples_X6_countPossiblePairs : GoodIn wsX6_refreshSamples (wsV RX6 220 RX6 yX6_countPossiblePairs wsX6_countPossiblePairs) := goodIn_app (goodIn_of _ (by decide +kernel)) ggX6_refreshSamples_X6_countPossiblePairs
set_option maxRecDepth 20000 in
theorem ggX6_refreshSamples_X4_restart : GoodIn wsX6_refreshSamples wsX4_restart := goodIn_r _ [114, 115, 116, 117, 118, 119, 172] (by decide +kernel) (by decide +kernel)
set_option maxRecDepth 20000 in
theorem gX6_refreshSamples_X4_restart : GoodIn wsX6_refreshSamples (wsV RX6 288 RX4 yX4_restart wsX4_restart) := goodIn_app (goodIn_of _ (by decide +kernel)) ggX6_refreshSamples_X4_restart
set_option maxRecDepth 20000 in
theorem ggX6_refreshSamples_X6_mostTelling : GoodIn wsX6_refreshSamples wsX6_mostTelling := goodIn_r _ [142, 11, 2, 3, 62, 63, 64, 15, 65, 26, 66, 67, 68, 69, 56, 120, 121, 122, 30, 123, 32, 143, 129, 130, 113, 131, 115, 132, 133, 134, 135, 136, 137, 38, 7, 39, 138, 46, 47, 48, 49, 50, 51, 144, 145, 146, 147, 148, 149, 150, 151, 152, 153, 154, 155, 156, 157, 158, 159, 160, 161, 162, 163, 172] (by decide +kernel) (by decide +kernel)
set_option maxRecDepth 20000 in
theorem gX6_refreshSamples_X6_mostTelling : GoodIn wsX6_refreshSamples (wsV RX6 289 RX6 yX6_mostTelling wsX6_mostTelling) := goodIn_app (goodIn_of _ (by decide +kernel)) ggX6_refreshSamples_X6_mostTelling
set_option maxRecDepth 20000 in
theorem ggX6_refreshSamples_X3_count : GoodIn wsX6_refreshSamples wsX3_count := goodIn_r _ [123, 32, 157, 158, 159, 160, 161, 162, 163] (by decide +kernel) (by decide +kernel)
set_option maxRecDepth 20000 in
theorem gX6_refreshSamples_X3_count : GoodIn wsX6_refreshSamples (wsV RX6 70 RX3 yX3_count wsX3_count) := goodIn_app (goodIn_of _ (by decide +kernel)) ggX6_refreshSamples_X3_count
set_option maxRecDepth 20000 in
theorem ggX6_refreshSamples_X4_show : GoodIn wsX6_refreshSamples wsX4_show := goodIn_r _ [127, 115, 128, 129, 130, 113, 131, 132, 133, 134, 135, 136, 137, 38, 7, 39, 138, 46, 47, 48, 49, 50, 51, 172] (by decide +kernel) (by decide +kernel)
set_option maxRecDepth 20000 in
theorem gX6_refreshSamples_X4_show : GoodIn wsX6_refreshSamples (wsV RX6 292 RX4 yX4_show wsX4_show) := goodIn_app (goodIn_of _ (by decide +kernel)) ggX6_refreshSamples_X4_show
set_option maxRecDepth 20000 in
theorem ggX6_refreshSamples_X1_append : GoodIn wsX6_refreshSamples wsX1_append := goodIn_r _ [55, 26, 56, 154, 155, 156] (by decide +kernel) (by decide +kernel)
set_option maxRecDepth 20000 in
theorem gX6_refreshSamples_X1_append : GoodIn wsX6_refreshSamples (wsV RX6 272 RX1 yX1_append wsX1_append) := goodIn_app (goodIn_of _ (by decide +kernel)) ggX6_refreshSamples_X1_append
theorem dX6_refreshSamples_0 : decode cX6_refreshSamples 0 = .ok (.aload_n 0, 1) := by decide +kernel
theorem dX6_refreshSamples_1 : decode cX6_refreshSamples 1 = .ok (.invokevirtual 164, 3) := by decide +kernel
theorem dX6_refreshSamples_4 : decode cX6_refreshSamples 4 = .ok (.aload_n 0, 1) := by decide +kernel
theorem dX6_refreshSamples_5 : decode cX6_refreshSamples 5 = .ok (.getfield 46, 3) := by decide +kernel
theorem dX6_refreshSamples_8 : decode cX6_refreshSamples 8 = .ok (.invokevirtual 256, 3) := by decide +kernel
theorem dX6_refreshSamples_11 : decode cX6_refreshSamples 11 = .ok (.ifCond .eq 4, 3) := by decide +kernel
theorem dX6_refreshSamples_14 : decode cX6_refreshSamples 14 = .ok (.return_, 1) := by decide +kernel
theorem dX6_refreshSamples_15 : decode cX6_refreshSamples 15 = .ok (.aload_n 0, 1) := by decide +kernel
theorem dX6_refreshSamples_16 : decode cX6_refreshSamples 16 = .ok (.getfield 46, 3) := by decide +kernel
theorem dX6_refreshSamples_19 : decode cX6_refreshSamples 19 = .ok (.invokevirtual 269, 3) := by decide +kernel
theorem dX6_refreshSamples_22 : decode cX6_refreshSamples 22 = .ok (.aload_n 0, 1) := by decide +kernel
theorem dX6_refreshSamples_23 : decode cX6_refreshSamples 23 = .ok (.invokevirtual 220, 3) := by decide +kernel
theorem dX6_refreshSamples_26 : decode cX6_refreshSamples 26 = .ok (.istore_n 1, 1) := by decide +kernel
theorem dX6_refreshSamples_27 : decode cX6_refreshSamples 27 = .ok (.aload_n 0, 1) := by decide +kernel
theorem dX6_refreshSamples_28 : decode cX6_refreshSamples 28 = .ok (.getfield 59, 3) := by decide +kernel
theorem dX6_refreshSamples_31 : decode cX6_refreshSamples 31 = .ok (.invokevirtual 288, 3) := by decide +kernel
theorem dX6_refreshSamples_34 : decode cX6_refreshSamples 34 = .ok (.iconst 0, 1) := by decide +kernel
theorem dX6_refreshSamples_35 : decode cX6_refreshSamples 35 = .ok (.istore_n 2, 1) := by decide +kernel
theorem dX6_refreshSamples_36 : decode cX6_refreshSamples 36 = .ok (.iload_n 2, 1) := by decide +kernel
theorem dX6_refreshSamples_37 : decode cX6_refreshSamples 37 = .ok (.sipush 264, 3) := by decide +kernel
theorem dX6_refreshSamples_40 : decode cX6_refreshSamples 40 = .ok (.if_icmp .ge 44, 3) := by decide +kernel
theorem dX6_refreshSamples_43 : decode cX6_refreshSamples 43 = .ok (.iload_n 1, 1) := by decide +kernel
theorem dX6_refreshSamples_44 : decode cX6_refreshSamples 44 = .ok (.ifCond .le 40, 3) := by decide +kernel
theorem dX6_refreshSamples_47 : decode cX6_refreshSamples 47 = .ok (.aload_n 0, 1) := by decide +kernel
theorem dX6_refreshSamples_48 : decode cX6_refreshSamples 48 = .ok (.invokevirtual 289, 3) := by decide +kernel
theorem dX6_refreshSamples_51 : decode cX6_refreshSamples 51 = .ok (.istore_n 3, 1) := by decide +kernel
theorem dX6_refreshSamples_52 : decode cX6_refreshSamples 52 = .ok (.iload_n 1, 1) := by decide +kernel
theorem dX6_refreshSamples_53 : decode cX6_refreshSamples 53 = .ok (.aload_n 0, 1) := by decide +kernel
theorem dX6_refreshSamples_54 : decode cX6_refreshSamples 54 = .ok (.getfield 59, 3) := by decide +kernel
theorem dX6_refreshSamples_57 : decode cX6_refreshSamples 57 = .ok (.iload_n 3, 1) := by decide +kernel
theorem dX6_refreshSamples_58 : decode cX6_refreshSamples 58 = .ok (.aload_n 0, 1) := by decide +kernel
theorem dX6_refreshSamples_59 : decode cX6_refreshSamples 59 = .ok (.getfield 12, 3) := by decide +kernel
theorem dX6_refreshSamples_62 : decode cX6_refreshSamples 62 = .ok (.invokevirtual 70, 3) := by decide +kernel
theorem dX6_refreshSamples_65 : decode cX6_refreshSamples 65 = .ok (.invokevirtual 292, 3) := by decide +kernel
theorem dX6_refreshSamples_68 : decode cX6_refreshSamples 68 = .ok (.isub, 1) := by decide +kernel
theorem dX6_refreshSamples_69 : decode cX6_refreshSamples 69 = .ok (.istore_n 1, 1) := by decide +kernel
theorem dX6_refreshSamples_70 : decode cX6_refreshSamples 70 = .ok (.aload_n 0, 1) := by decide +kernel
theorem dX6_refreshSamples_71 : decode cX6_refreshSamples 71 = .ok (.getfield 46, 3) := by decide +kernel
theorem dX6_refreshSamples_74 : decode cX6_refreshSamples 74 = .ok (.iload_n 3, 1) := by decide +kernel
theorem dX6_refreshSamples_75 : decode cX6_refreshSamples 75 = .ok (.invokevirtual 272, 3) := by decide +kernel
theorem dX6_refreshSamples_78 : decode cX6_refreshSamples 78 = .ok (.iinc 2 1, 3) := by decide +kernel
theorem dX6_refreshSamples_81 : decode cX6_refreshSamples 81 = .ok (.goto (-45), 3) := by decide +kernel
theorem dX6_refreshSamples_84 : decode cX6_refreshSamples 84 = .ok (.return_, 1) := by decide +kernel
theorem dX6_has_0 : decode cX6_has 0 = .ok (.iload_n 0, 1) := by decide +kernel
theorem dX6_has_1 : decode cX6_has 1 = .ok (.iload_n 1, 1) := by decide +kernel
theorem dX6_has_2 : decode cX6_has 2 = .ok (.ishr, 1) := by decide +kernel
theorem dX6_has_3 : decode cX6_has 3 = .ok (.iconst 1, 1) := by decide +kernel
theorem dX6_has_4 : decode cX6_has 4 = .ok (.iand, 1) := by decide +kernel
theorem dX6_has_5 : decode cX6_has 5 = .ok (.iconst 1, 1) := by decide +kernel
theorem dX6_has_6 : decode cX6_has 6 = .ok (.if_icmp .ne 7, 3) := by decide +kernel
theorem dX6_has_9 : decode cX6_has 9 = .ok (.iconst 1, 1) := by decide +kernel
theorem dX6_has_10 : decode cX6_has 10 = .ok (.goto 4, 3) := by decide +kernel
theorem dX6_has_13 : decode cX6_has 13 = .ok (.iconst 0, 1) := by decide +kernel
theorem dX6_has_14 : decode cX6_has 14 = .ok (.ireturn, 1) := by decide +kernel
set_option maxRecDepth 20000 in
theorem ggX6_openFeatures_X3_all : GoodIn wsX6_openFeatures wsX3_all := goodIn_r _ [7, 8, 26, 27, 28, 29, 30, 31, 32] (by decide +kernel) (by decide +kernel)
set_option maxRecDepth 20000 in
theorem gX6_openFeatures_X3_all : GoodIn wsX6_openFeatures (wsV RX6 246 RX3 yX3_all wsX3_all) := goodIn_app (goodIn_of _ (by decide +kernel)) ggX6_openFeatures_X3_all
set_option maxRecDepth 20000 in
theorem ggX6_openFeatures_X0_decided : GoodIn wsX6_openFeatures wsX0_decided := goodIn_r _ [13, 14, 15, 33, 34, 35] (by decide +kernel) (by decide +kernel)
set_option maxRecDepth 20000 in
theorem gX6_openFeatures_X0_decided : GoodIn wsX6_openFeatures (wsV RX6 295 RX0 yX0_decided wsX0_decided) := goodIn_app (goodIn_of _ (by decide +kernel)) ggX6_openFeatures_X0_decided
theorem dX6_openFeatures_0 : decode cX6_openFeatures 0 = .ok (.aload_n 0, 1) := by decide +kernel
theorem dX6_openFeatures_1 : decode cX6_openFeatures 1 = .ok (.getfield 12, 3) := by decide +kernel
theorem dX6_openFeatures_4 : decode cX6_openFeatures 4 = .ok (.invokevirtual 246, 3) := by decide +kernel
theorem dX6_openFeatures_7 : decode cX6_openFeatures 7 = .ok (.aload_n 0, 1) := by decide +kernel
theorem dX6_openFeatures_8 : decode cX6_openFeatures 8 = .ok (.getfield 26, 3) := by decide +kernel
theorem dX6_openFeatures_11 : decode cX6_openFeatures 11 = .ok (.invokevirtual 295, 3) := by decide +kernel
theorem dX6_openFeatures_14 : decode cX6_openFeatures 14 = .ok (.iconst (-1), 1) := by decide +kernel
theorem dX6_openFeatures_15 : decode cX6_openFeatures 15 = .ok (.ixor, 1) := by decide +kernel
theorem dX6_openFeatures_16 : decode cX6_openFeatures 16 = .ok (.iand, 1) := by decide +kernel
theorem dX6_openFeatures_17 : decode cX6_openFeatures 17 = .ok (.ireturn, 1) := by decide +kernel
set_option maxRecDepth 20000 in
theorem ggX6_countPossiblePairs_X4_restart : GoodIn wsX6_countPossiblePairs wsX4_restart := goodIn_r _ [8, 9, 10, 11, 12, 13, 65] (by decide +kernel) (by decide +kernel)
set_option maxRecDepth 20000 in
theorem gX6_countPossiblePairs_X4_restart : GoodIn wsX6_countPossiblePairs (wsV RX6 288 RX4 yX4_restart wsX4_restart) := goodIn_app (goodIn_of _ (by decide +kernel)) ggX6_countPossiblePairs_X4_restart
set_option maxRecDepth 20000 in
theorem ggX6_countPossiblePairs_X1_size : GoodIn wsX6_countPossiblePairs wsX1_size := goodIn_r _ [18, 19, 66, 67, 68] (by decide +kernel) (by decide +kernel)
set_option maxRecDepth 20000 in
theorem gX6_countPossiblePairs_X1_size : GoodIn wsX6_countPossiblePairs (wsV RX6 167 RX1 yX1_size wsX1_size) := goodIn_app (goodIn_of _ (by decide +kernel)) ggX6_countPossiblePairs_X1_size
set_option maxRecDepth 20000 in
theorem ggX6_countPossiblePairs_X1_at : GoodIn wsX6_countPossiblePairs wsX1_at := goodIn_r _ [23, 24, 66, 67, 68] (by decide +kernel) (by decide +kernel)
set_option maxRecDepth 20000 in
theorem gX6_countPossiblePairs_X1_at : GoodIn wsX6_countPossiblePairs (wsV RX6 190 RX1 yX1_at wsX1_at) := goodIn_app (goodIn_of _ (by decide +kernel)) ggX6_countPossiblePairs_X1_at
set_option maxRecDepth 20000 in
theorem ggX6_countPossiblePairs_X3_count : GoodIn wsX6_countPossiblePairs wsX3_count := goodIn_r _ [29, 30, 69, 70, 71, 72, 73, 74, 75] (by decide +kernel) (by decide +kernel)
set_option maxRecDepth 20000 in
theorem gX6_countPossiblePairs_X3_count : GoodIn wsX6_countPossiblePairs (wsV RX6 70 RX3 yX3_count wsX3_count) := goodIn_app (goodIn_of _ (by decide +kernel)) ggX6_countPossiblePairs_X3_count
set_option maxRecDepth 20000 in
theorem ggX6_countPossiblePairs_X4_show : GoodIn wsX6_countPossiblePairs wsX4_show := goodIn_r _ [34, 9, 35, 36, 37, 7, 38, 39, 40, 41, 42, 43, 44, 45, 46, 47, 48, 49, 50, 51, 52, 53, 54, 65] (by decide +kernel) (by decide +kernel)
set_option maxRecDepth 20000 in
theorem gX6_countPossiblePairs_X4_show : GoodIn wsX6_countPossiblePairs (wsV RX6 292 RX4 yX4_show wsX4_show) := goodIn_app (goodIn_of _ (by decide +kernel)) ggX6_countPossiblePairs_X4_show
theorem dX6_countPossiblePairs_0 : decode cX6_countPossiblePairs 0 = .ok (.aload_n 0, 1) := by decide +kernel
theorem dX6_countPossiblePairs_1 : decode cX6_countPossiblePairs 1 = .ok (.getfield 59, 3) := by decide +kernel
theorem dX6_countPossiblePairs_4 : decode cX6_countPossiblePairs 4 = .ok (.invokevirtual 288, 3) := by decide +kernel
theorem dX6_countPossiblePairs_7 : decode cX6_countPossiblePairs 7 = .ok (.iconst 0, 1) := by decide +kernel
theorem dX6_countPossiblePairs_8 : decode cX6_countPossiblePairs 8 = .ok (.istore_n 1, 1) := by decide +kernel
theorem dX6_countPossiblePairs_9 : decode cX6_countPossiblePairs 9 = .ok (.iconst 0, 1) := by decide +kernel
theorem dX6_countPossiblePairs_10 : decode cX6_countPossiblePairs 10 = .ok (.istore_n 2, 1) := by decide +kernel
theorem dX6_countPossiblePairs_11 : decode cX6_countPossiblePairs 11 = .ok (.iload_n 2, 1) := by decide +kernel
theorem dX6_countPossiblePairs_12 : decode cX6_countPossiblePairs 12 = .ok (.aload_n 0, 1) := by decide +kernel
theorem dX6_countPossiblePairs_13 : decode cX6_countPossiblePairs 13 = .ok (.getfield 40, 3) := by decide +kernel
theorem dX6_countPossiblePairs_16 : decode cX6_countPossiblePairs 16 = .ok (.invokevirtual 167, 3) := by decide +kernel
theorem dX6_countPossiblePairs_19 : decode cX6_countPossiblePairs 19 = .ok (.if_icmp .ge 34, 3) := by decide +kernel
theorem dX6_countPossiblePairs_22 : decode cX6_countPossiblePairs 22 = .ok (.iload_n 1, 1) := by decide +kernel
theorem dX6_countPossiblePairs_23 : decode cX6_countPossiblePairs 23 = .ok (.aload_n 0, 1) := by decide +kernel
theorem dX6_countPossiblePairs_24 : decode cX6_countPossiblePairs 24 = .ok (.getfield 59, 3) := by decide +kernel
theorem dX6_countPossiblePairs_27 : decode cX6_countPossiblePairs 27 = .ok (.aload_n 0, 1) := by decide +kernel
theorem dX6_countPossiblePairs_28 : decode cX6_countPossiblePairs 28 = .ok (.getfield 40, 3) := by decide +kernel
theorem dX6_countPossiblePairs_31 : decode cX6_countPossiblePairs 31 = .ok (.iload_n 2, 1) := by decide +kernel
theorem dX6_countPossiblePairs_32 : decode cX6_countPossiblePairs 32 = .ok (.invokevirtual 190, 3) := by decide +kernel
theorem dX6_countPossiblePairs_35 : decode cX6_countPossiblePairs 35 = .ok (.aload_n 0, 1) := by decide +kernel
theorem dX6_countPossiblePairs_36 : decode cX6_countPossiblePairs 36 = .ok (.getfield 12, 3) := by decide +kernel
theorem dX6_countPossiblePairs_39 : decode cX6_countPossiblePairs 39 = .ok (.invokevirtual 70, 3) := by decide +kernel
theorem dX6_countPossiblePairs_42 : decode cX6_countPossiblePairs 42 = .ok (.invokevirtual 292, 3) := by decide +kernel
theorem dX6_countPossiblePairs_45 : decode cX6_countPossiblePairs 45 = .ok (.iadd, 1) := by decide +kernel
theorem dX6_countPossiblePairs_46 : decode cX6_countPossiblePairs 46 = .ok (.istore_n 1, 1) := by decide +kernel
theorem dX6_countPossiblePairs_47 : decode cX6_countPossiblePairs 47 = .ok (.iinc 2 1, 3) := by decide +kernel
theorem dX6_countPossiblePairs_50 : decode cX6_countPossiblePairs 50 = .ok (.goto (-39), 3) := by decide +kernel
theorem dX6_countPossiblePairs_53 : decode cX6_countPossiblePairs 53 = .ok (.iload_n 1, 1) := by decide +kernel
theorem dX6_countPossiblePairs_54 : decode cX6_countPossiblePairs 54 = .ok (.ireturn, 1) := by decide +kernel
set_option maxRecDepth 20000 in
theorem ggX6_mostTelling_X1_size : GoodIn wsX6_mostTelling wsX1_size := goodIn_r _ [8, 9, 53, 54, 55] (by decide +kernel) (by decide +kernel)
set_option maxRecDepth 20000 in
theorem gX6_mostTelling_X1_size : GoodIn wsX6_mostTelling (wsV RX6 167 RX1 yX1_size wsX1_size) := goodIn_app (goodIn_of _ (by decide +kernel)) ggX6_mostTelling_X1_size
set_option maxRecDepth 20000 in
theorem ggX6_mostTelling_X1_at : GoodIn wsX6_mostTelling wsX1_at := goodIn_r _ [13, 14, 53, 54, 55] (by decide +kernel) (by decide +kernel)
set_option maxRecDepth 20000 in
theorem gX6_mostTelling_X1_at : GoodIn wsX6_mostTelling (wsV RX6 190 RX1 yX1_at wsX1_at) := goodIn_app (goodIn_of _ (by decide +kernel)) ggX6_mostTelling_X1_at
set_option maxRecDepth 20000 in
theorem ggX6_mostTelling_X3_count : GoodIn wsX6_mostTelling wsX3_count := goodIn_r _ [19, 20, 56, 57, 58, 59, 60, 61, 62] (by decide +kernel) (by decide +kernel)
set_option maxRecDepth 20000 in
theorem gX6_mostTelling_X3_count : GoodIn wsX6_mostTelling (wsV RX6 70 RX3 yX3_count wsX3_count) := goodIn_app (goodIn_of _ (by decide +kernel)) ggX6_mostTelling_X3_count
set_option maxRecDepth 20000 in
theorem ggX6_mostTelling_X4_countFresh : GoodIn wsX6_mostTelling wsX4_countFresh := goodIn_r _ [25, 26, 27, 28, 24, 29, 30, 31, 32, 33, 34, 35, 36, 37, 38, 39, 40, 41, 42, 63] (by decide +kernel) (by decide +kernel)
set_option maxRecDepth 20000 in
theorem gX6_mostTelling_X4_countFresh : GoodIn wsX6_mostTelling (wsV RX6 298 RX4 yX4_countFresh wsX4_countFresh) := goodIn_app (goodIn_of _ (by decide +kernel)) ggX6_mostTelling_X4_countFresh
theorem dX6_mostTelling_0 : decode cX6_mostTelling 0 = .ok (.iconst (-1), 1) := by decide +kernel
theorem dX6_mostTelling_1 : decode cX6_mostTelling 1 = .ok (.istore_n 1, 1) := by decide +kernel
theorem dX6_mostTelling_2 : decode cX6_mostTelling 2 = .ok (.iconst 0, 1) := by decide +kernel
theorem dX6_mostTelling_3 : decode cX6_mostTelling 3 = .ok (.istore_n 2, 1) := by decide +kernel
theorem dX6_mostTelling_4 : decode cX6_mostTelling 4 = .ok (.iconst 0, 1) := by decide +kernel
theorem dX6_mostTelling_5 : decode cX6_mostTelling 5 = .ok (.istore_n 3, 1) := by decide +kernel
theorem dX6_mostTelling_6 : decode cX6_mostTelling 6 = .ok (.iload_n 3, 1) := by decide +kernel
theorem dX6_mostTelling_7 : decode cX6_mostTelling 7 = .ok (.aload_n 0, 1) := by decide +kernel
theorem dX6_mostTelling_8 : decode cX6_mostTelling 8 = .ok (.getfield 40, 3) := by decide +kernel
theorem dX6_mostTelling_11 : decode cX6_mostTelling 11 = .ok (.invokevirtual 167, 3) := by decide +kernel
theorem dX6_mostTelling_14 : decode cX6_mostTelling 14 = .ok (.if_icmp .ge 56, 3) := by decide +kernel
theorem dX6_mostTelling_17 : decode cX6_mostTelling 17 = .ok (.aload_n 0, 1) := by decide +kernel
theorem dX6_mostTelling_18 : decode cX6_mostTelling 18 = .ok (.getfield 59, 3) := by decide +kernel
theorem dX6_mostTelling_21 : decode cX6_mostTelling 21 = .ok (.aload_n 0, 1) := by decide +kernel
theorem dX6_mostTelling_22 : decode cX6_mostTelling 22 = .ok (.getfield 40, 3) := by decide +kernel
theorem dX6_mostTelling_25 : decode cX6_mostTelling 25 = .ok (.iload_n 3, 1) := by decide +kernel
theorem dX6_mostTelling_26 : decode cX6_mostTelling 26 = .ok (.invokevirtual 190, 3) := by decide +kernel
theorem dX6_mostTelling_29 : decode cX6_mostTelling 29 = .ok (.aload_n 0, 1) := by decide +kernel
theorem dX6_mostTelling_30 : decode cX6_mostTelling 30 = .ok (.getfield 12, 3) := by decide +kernel
theorem dX6_mostTelling_33 : decode cX6_mostTelling 33 = .ok (.invokevirtual 70, 3) := by decide +kernel
theorem dX6_mostTelling_36 : decode cX6_mostTelling 36 = .ok (.invokevirtual 298, 3) := by decide +kernel
theorem dX6_mostTelling_39 : decode cX6_mostTelling 39 = .ok (.istore 4, 2) := by decide +kernel
theorem dX6_mostTelling_41 : decode cX6_mostTelling 41 = .ok (.iload_n 1, 1) := by decide +kernel
theorem dX6_mostTelling_42 : decode cX6_mostTelling 42 = .ok (.iconst (-1), 1) := by decide +kernel
theorem dX6_mostTelling_43 : decode cX6_mostTelling 43 = .ok (.if_icmp .eq 9, 3) := by decide +kernel
theorem dX6_mostTelling_46 : decode cX6_mostTelling 46 = .ok (.iload 4, 2) := by decide +kernel
theorem dX6_mostTelling_48 : decode cX6_mostTelling 48 = .ok (.iload_n 2, 1) := by decide +kernel
theorem dX6_mostTelling_49 : decode cX6_mostTelling 49 = .ok (.if_icmp .le 15, 3) := by decide +kernel
theorem dX6_mostTelling_52 : decode cX6_mostTelling 52 = .ok (.aload_n 0, 1) := by decide +kernel
theorem dX6_mostTelling_53 : decode cX6_mostTelling 53 = .ok (.getfield 40, 3) := by decide +kernel
theorem dX6_mostTelling_56 : decode cX6_mostTelling 56 = .ok (.iload_n 3, 1) := by decide +kernel
theorem dX6_mostTelling_57 : decode cX6_mostTelling 57 = .ok (.invokevirtual 190, 3) := by decide +kernel
theorem dX6_mostTelling_60 : decode cX6_mostTelling 60 = .ok (.istore_n 1, 1) := by decide +kernel
theorem dX6_mostTelling_61 : decode cX6_mostTelling 61 = .ok (.iload 4, 2) := by decide +kernel
theorem dX6_mostTelling_63 : decode cX6_mostTelling 63 = .ok (.istore_n 2, 1) := by decide +kernel
theorem dX6_mostTelling_64 : decode cX6_mostTelling 64 = .ok (.iinc 3 1, 3) := by decide +kernel
theorem dX6_mostTelling_67 : decode cX6_mostTelling 67 = .ok (.goto (-61), 3) := by decide +kernel
theorem dX6_mostTelling_70 : decode cX6_mostTelling 70 = .ok (.iload_n 1, 1) := by decide +kernel
theorem dX6_mostTelling_71 : decode cX6_mostTelling 71 = .ok (.ireturn, 1) := by decide +kernel
