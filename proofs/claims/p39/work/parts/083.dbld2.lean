set_option maxRecDepth 20000 in
theorem ggL_build_L_cell : GoodIn wsL_build wsL_cell := goodIn_r _ [4, 5] (by decide +kernel) (by decide +kernel)
set_option maxRecDepth 20000 in
theorem gL_build_L_cell : GoodIn wsL_build (va_wsS RL 9 yL_cell wsL_cell) := goodIn_app (goodIn_of _ (by decide +kernel)) ggL_build_L_cell
set_option maxRecDepth 20000 in
theorem ggL_build_L_below : GoodIn wsL_build wsL_below := goodIn_r _ [8, 9] (by decide +kernel) (by decide +kernel)
set_option maxRecDepth 20000 in
theorem gL_build_L_below : GoodIn wsL_build (va_wsS RL 15 yL_below wsL_below) := goodIn_app (goodIn_of _ (by decide +kernel)) ggL_build_L_below
set_option maxRecDepth 20000 in
theorem ggL_build_X6_addFeature : GoodIn wsL_build wsX6_addFeature := goodIn_ca (goodIn_ca (goodIn_ca (goodIn_r _ [14, 15, 16, 17, 18, 19, 20, 13, 21, 22, 23, 24, 25, 26, 27, 28, 29, 30, 31, 32, 33, 34, 35, 36, 37, 38, 39, 40, 41, 42, 43, 44, 45, 46, 47, 48, 49, 50, 51, 52, 53, 54, 55, 56, 57, 58, 59, 60, 61, 62, 63, 64, 65, 134, 135, 136, 137, 138, 139, 140, 141, 142, 143, 144, 145, 146, 147, 148, 149, 150, 151, 152, 153] (by decide +kernel) (by decide +kernel)) (goodIn_sub (fun _ h => List.mem_cons_of_mem _ (List.mem_append_left _ (List.mem_append_left _ (List.mem_append_right _ h)))) (by decide +kernel))) (goodIn_sub (fun _ h => List.mem_cons_of_mem _ (List.mem_append_left _ (List.mem_append_right _ h))) (by decide +kernel))) (goodIn_sub (fun _ h => List.mem_cons_of_mem _ (List.mem_append_right _ h)) (by decide +kernel))
set_option maxRecDepth 20000 in
theorem gL_build_X6_addFeature : GoodIn wsL_build (wsV RL 19 RX6 yX6_addFeature wsX6_addFeature) := goodIn_app (goodIn_of _ (by decide +kernel)) ggL_build_X6_addFeature
set_option maxRecDepth 20000 in
theorem ggL_build_X6_setWorth : GoodIn wsL_build wsX6_setWorth := goodIn_ca (goodIn_ca (goodIn_r _ [69, 33, 34, 17, 18, 19, 20, 13, 21, 22, 23, 24, 25, 26, 27, 28, 29, 51, 52, 53, 54, 55, 56, 57, 40, 41, 42, 43, 44, 45, 70, 71, 72, 73, 74, 75, 134, 135, 136, 137, 138, 139, 140, 141, 142, 143, 144, 145, 146, 147, 148, 149, 150, 151, 152, 153] (by decide +kernel) (by decide +kernel)) (goodIn_sub (fun _ h => List.mem_cons_of_mem _ (List.mem_append_right _ h)) (by decide +kernel))) (goodIn_sub (fun _ h => List.mem_cons_of_mem _ (List.mem_append_left _ (List.mem_append_right _ h))) (by decide +kernel))
set_option maxRecDepth 20000 in
theorem gL_build_X6_setWorth : GoodIn wsL_build (wsV RL 24 RX6 yX6_setWorth wsX6_setWorth) := goodIn_app (goodIn_of _ (by decide +kernel)) ggL_build_X6_setWorth
set_option maxRecDepth 20000 in
theorem ggL_build_X6_decide : GoodIn wsL_build wsX6_decide := goodIn_ca (goodIn_ca (goodIn_r _ [79, 33, 34, 80, 18, 19, 20, 13, 21, 22, 23, 17, 24, 25, 26, 27, 28, 29, 51, 52, 53, 54, 55, 56, 57, 40, 41, 42, 43, 44, 45, 81, 82, 83, 84, 85, 86, 87, 88, 89, 90, 91, 92, 93, 134, 135, 136, 137, 138, 139, 140, 141, 142, 143, 144, 145, 146, 147, 148, 149, 150, 151, 152, 153, 154, 155, 156] (by decide +kernel) (by decide +kernel)) (goodIn_sub (fun _ h => List.mem_cons_of_mem _ (List.mem_append_right _ h)) (by decide +kernel))) (goodIn_sub (fun _ h => List.mem_cons_of_mem _ (List.mem_append_left _ (List.mem_append_right _ h))) (by decide +kernel))
set_option maxRecDepth 20000 in
theorem gL_build_X6_decide : GoodIn wsL_build (wsV RL 28 RX6 yX6_decide wsX6_decide) := goodIn_app (goodIn_of _ (by decide +kernel)) ggL_build_X6_decide
set_option maxRecDepth 20000 in
theorem ggL_build_X6_addConstraint : GoodIn wsL_build wsX6_addConstraint := goodIn_ca (goodIn_ca (goodIn_ca (goodIn_r _ [97, 33, 34, 15, 16, 98, 18, 19, 20, 13, 21, 22, 23, 17, 24, 25, 26, 27, 28, 29, 99, 100, 101, 102, 103, 104, 46, 47, 48, 49, 50, 40, 41, 42, 43, 44, 45, 51, 52, 53, 54, 55, 56, 57, 105, 106, 107, 108, 109, 110, 111, 112, 134, 135, 136, 137, 138, 139, 140, 141, 142, 143, 144, 145, 146, 147, 148, 149, 150, 157, 158, 159, 160, 161, 151, 152, 153] (by decide +kernel) (by decide +kernel)) (goodIn_sub (fun _ h => List.mem_cons_of_mem _ (List.mem_append_right _ h)) (by decide +kernel))) (goodIn_sub (fun _ h => List.mem_cons_of_mem _ (List.mem_append_left _ (List.mem_append_left _ (List.mem_append_right _ h)))) (by decide +kernel))) (goodIn_sub (fun _ h => List.mem_cons_of_mem _ (List.mem_append_left _ (List.mem_append_right _ h))) (by decide +kernel))
set_option maxRecDepth 20000 in
theorem gL_build_X6_addConstraint : GoodIn wsL_build (wsV RL 31 RX6 yX6_addConstraint wsX6_addConstraint) := goodIn_app (goodIn_of _ (by decide +kernel)) ggL_build_X6_addConstraint
set_option maxRecDepth 20000 in
theorem ggL_build_X6_turn : GoodIn wsL_build wsX6_turn := goodIn_ca (goodIn_r _ [116, 22, 23, 98, 99, 100, 101, 102, 103, 104, 46, 47, 48, 13, 49, 50, 40, 41, 42, 43, 44, 45, 51, 52, 53, 54, 55, 56, 57, 117, 118, 119, 120, 112, 92, 93, 134, 135, 136, 137, 138, 139, 140, 141, 142, 143, 157, 158, 159, 160, 161, 151, 152, 153] (by decide +kernel) (by decide +kernel)) (goodIn_sub (fun _ h => List.mem_cons_of_mem _ (List.mem_append_left _ (List.mem_append_right _ h))) (by decide +kernel))
set_option maxRecDepth 20000 in
theorem gL_build_X6_turn : GoodIn wsL_build (wsV RL 35 RX6 yX6_turn wsX6_turn) := goodIn_app (goodIn_of _ (by decide +kernel)) ggL_build_X6_turn
set_option maxRecDepth 20000 in
theorem ggL_build_X6_setBudget : GoodIn wsL_build wsX6_setBudget := goodIn_ca (goodIn_r _ [124, 33, 34, 80, 51, 52, 53, 13, 54, 55, 56, 57, 40, 41, 42, 43, 44, 45, 125, 126, 127, 84, 128, 129, 134, 135, 136, 137, 138, 139, 140, 141, 142, 143, 151, 152, 153, 154, 155, 156] (by decide +kernel) (by decide +kernel)) (goodIn_sub (fun _ h => List.mem_cons_of_mem _ (List.mem_append_right _ h)) (by decide +kernel))
set_option maxRecDepth 20000 in
theorem gL_build_X6_setBudget : GoodIn wsL_build (wsV RL 39 RX6 yX6_setBudget wsX6_setBudget) := goodIn_app (goodIn_of _ (by decide +kernel)) ggL_build_X6_setBudget
set_option maxRecDepth 20000 in
theorem ggL_build_X6_featureCount : GoodIn wsL_build wsX6_featureCount := goodIn_r _ [133, 17, 24, 25, 26, 27, 28, 29, 134, 135, 136, 137, 138, 139, 140, 141, 142, 143, 144, 145, 146, 147, 148, 149, 150] (by decide +kernel) (by decide +kernel)
set_option maxRecDepth 20000 in
theorem gL_build_X6_featureCount : GoodIn wsL_build (wsV RL 43 RX6 yX6_featureCount wsX6_featureCount) := goodIn_app (goodIn_of _ (by decide +kernel)) ggL_build_X6_featureCount
