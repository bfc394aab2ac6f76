theorem dX7_init_0 : decode cX7_init 0 = .ok (.aload_n 0, 1) := by decide +kernel
theorem dX7_init_1 : decode cX7_init 1 = .ok (.invokespecial 3, 3) := by decide +kernel
theorem dX7_init_4 : decode cX7_init 4 = .ok (.aload_n 0, 1) := by decide +kernel
theorem dX7_init_5 : decode cX7_init 5 = .ok (.iconst 1, 1) := by decide +kernel
theorem dX7_init_6 : decode cX7_init 6 = .ok (.putfield 9, 3) := by decide +kernel
theorem dX7_init_9 : decode cX7_init 9 = .ok (.aload_n 0, 1) := by decide +kernel
theorem dX7_init_10 : decode cX7_init 10 = .ok (.bipush 12, 2) := by decide +kernel
theorem dX7_init_12 : decode cX7_init 12 = .ok (.newarray .int, 2) := by decide +kernel
theorem dX7_init_14 : decode cX7_init 14 = .ok (.putfield 13, 3) := by decide +kernel
theorem dX7_init_17 : decode cX7_init 17 = .ok (.aload_n 0, 1) := by decide +kernel
theorem dX7_init_18 : decode cX7_init 18 = .ok (.bipush 12, 2) := by decide +kernel
theorem dX7_init_20 : decode cX7_init 20 = .ok (.newarray .int, 2) := by decide +kernel
theorem dX7_init_22 : decode cX7_init 22 = .ok (.putfield 17, 3) := by decide +kernel
theorem dX7_init_25 : decode cX7_init 25 = .ok (.aload_n 0, 1) := by decide +kernel
theorem dX7_init_26 : decode cX7_init 26 = .ok (.bipush 12, 2) := by decide +kernel
theorem dX7_init_28 : decode cX7_init 28 = .ok (.newarray .int, 2) := by decide +kernel
theorem dX7_init_30 : decode cX7_init 30 = .ok (.putfield 20, 3) := by decide +kernel
theorem dX7_init_33 : decode cX7_init 33 = .ok (.aload_n 0, 1) := by decide +kernel
theorem dX7_init_34 : decode cX7_init 34 = .ok (.bipush 12, 2) := by decide +kernel
theorem dX7_init_36 : decode cX7_init 36 = .ok (.newarray .int, 2) := by decide +kernel
theorem dX7_init_38 : decode cX7_init 38 = .ok (.putfield 23, 3) := by decide +kernel
theorem dX7_init_41 : decode cX7_init 41 = .ok (.aload_n 0, 1) := by decide +kernel
theorem dX7_init_42 : decode cX7_init 42 = .ok (.bipush 12, 2) := by decide +kernel
theorem dX7_init_44 : decode cX7_init 44 = .ok (.newarray .int, 2) := by decide +kernel
theorem dX7_init_46 : decode cX7_init 46 = .ok (.putfield 26, 3) := by decide +kernel
theorem dX7_init_49 : decode cX7_init 49 = .ok (.aload_n 0, 1) := by decide +kernel
theorem dX7_init_50 : decode cX7_init 50 = .ok (.bipush 10, 2) := by decide +kernel
theorem dX7_init_52 : decode cX7_init 52 = .ok (.newarray .int, 2) := by decide +kernel
theorem dX7_init_54 : decode cX7_init 54 = .ok (.putfield 29, 3) := by decide +kernel
theorem dX7_init_57 : decode cX7_init 57 = .ok (.aload_n 0, 1) := by decide +kernel
theorem dX7_init_58 : decode cX7_init 58 = .ok (.bipush 10, 2) := by decide +kernel
theorem dX7_init_60 : decode cX7_init 60 = .ok (.newarray .int, 2) := by decide +kernel
theorem dX7_init_62 : decode cX7_init 62 = .ok (.putfield 32, 3) := by decide +kernel
theorem dX7_init_65 : decode cX7_init 65 = .ok (.aload_n 0, 1) := by decide +kernel
theorem dX7_init_66 : decode cX7_init 66 = .ok (.bipush 10, 2) := by decide +kernel
theorem dX7_init_68 : decode cX7_init 68 = .ok (.newarray .int, 2) := by decide +kernel
theorem dX7_init_70 : decode cX7_init 70 = .ok (.putfield 35, 3) := by decide +kernel
theorem dX7_init_73 : decode cX7_init 73 = .ok (.aload_n 0, 1) := by decide +kernel
theorem dX7_init_74 : decode cX7_init 74 = .ok (.bipush 10, 2) := by decide +kernel
theorem dX7_init_76 : decode cX7_init 76 = .ok (.newarray .boolean, 2) := by decide +kernel
theorem dX7_init_78 : decode cX7_init 78 = .ok (.putfield 38, 3) := by decide +kernel
theorem dX7_init_81 : decode cX7_init 81 = .ok (.aload_n 0, 1) := by decide +kernel
theorem dX7_init_82 : decode cX7_init 82 = .ok (.iconst (-1), 1) := by decide +kernel
theorem dX7_init_83 : decode cX7_init 83 = .ok (.putfield 42, 3) := by decide +kernel
theorem dX7_init_86 : decode cX7_init 86 = .ok (.aload_n 0, 1) := by decide +kernel
theorem dX7_init_87 : decode cX7_init 87 = .ok (.sipush 4096, 3) := by decide +kernel
theorem dX7_init_90 : decode cX7_init 90 = .ok (.newarray .boolean, 2) := by decide +kernel
theorem dX7_init_92 : decode cX7_init 92 = .ok (.putfield 45, 3) := by decide +kernel
theorem dX7_init_95 : decode cX7_init 95 = .ok (.aload_n 0, 1) := by decide +kernel
theorem dX7_init_96 : decode cX7_init 96 = .ok (.sipush 4096, 3) := by decide +kernel
theorem dX7_init_99 : decode cX7_init 99 = .ok (.newarray .boolean, 2) := by decide +kernel
theorem dX7_init_101 : decode cX7_init 101 = .ok (.putfield 48, 3) := by decide +kernel
theorem dX7_init_104 : decode cX7_init 104 = .ok (.aload_n 0, 1) := by decide +kernel
theorem dX7_init_105 : decode cX7_init 105 = .ok (.sipush 4096, 3) := by decide +kernel
theorem dX7_init_108 : decode cX7_init 108 = .ok (.newarray .int, 2) := by decide +kernel
theorem dX7_init_110 : decode cX7_init 110 = .ok (.putfield 51, 3) := by decide +kernel
theorem dX7_init_113 : decode cX7_init 113 = .ok (.aload_n 0, 1) := by decide +kernel
theorem dX7_init_114 : decode cX7_init 114 = .ok (.sipush 4096, 3) := by decide +kernel
theorem dX7_init_117 : decode cX7_init 117 = .ok (.newarray .int, 2) := by decide +kernel
theorem dX7_init_119 : decode cX7_init 119 = .ok (.putfield 54, 3) := by decide +kernel
theorem dX7_init_122 : decode cX7_init 122 = .ok (.aload_n 0, 1) := by decide +kernel
theorem dX7_init_123 : decode cX7_init 123 = .ok (.sipush 576, 3) := by decide +kernel
theorem dX7_init_126 : decode cX7_init 126 = .ok (.newarray .int, 2) := by decide +kernel
theorem dX7_init_128 : decode cX7_init 128 = .ok (.putfield 57, 3) := by decide +kernel
theorem dX7_init_131 : decode cX7_init 131 = .ok (.aload_n 0, 1) := by decide +kernel
theorem dX7_init_132 : decode cX7_init 132 = .ok (.sipush 576, 3) := by decide +kernel
theorem dX7_init_135 : decode cX7_init 135 = .ok (.newarray .boolean, 2) := by decide +kernel
theorem dX7_init_137 : decode cX7_init 137 = .ok (.putfield 60, 3) := by decide +kernel
theorem dX7_init_140 : decode cX7_init 140 = .ok (.return_, 1) := by decide +kernel
theorem dX7_thrown_0 : decode cX7_thrown 0 = .ok (.aload_n 0, 1) := by decide +kernel
theorem dX7_thrown_1 : decode cX7_thrown 1 = .ok (.getfield 63, 3) := by decide +kernel
theorem dX7_thrown_4 : decode cX7_thrown 4 = .ok (.ireturn, 1) := by decide +kernel
theorem dX7_fail_0 : decode cX7_fail 0 = .ok (.aload_n 0, 1) := by decide +kernel
theorem dX7_fail_1 : decode cX7_fail 1 = .ok (.iload_n 1, 1) := by decide +kernel
theorem dX7_fail_2 : decode cX7_fail 2 = .ok (.putfield 63, 3) := by decide +kernel
theorem dX7_fail_5 : decode cX7_fail 5 = .ok (.iconst 0, 1) := by decide +kernel
theorem dX7_fail_6 : decode cX7_fail 6 = .ok (.ireturn, 1) := by decide +kernel
theorem dX7_isFeature_0 : decode cX7_isFeature 0 = .ok (.iload_n 1, 1) := by decide +kernel
theorem dX7_isFeature_1 : decode cX7_isFeature 1 = .ok (.ifCond .lt 15, 3) := by decide +kernel
theorem dX7_isFeature_4 : decode cX7_isFeature 4 = .ok (.iload_n 1, 1) := by decide +kernel
theorem dX7_isFeature_5 : decode cX7_isFeature 5 = .ok (.aload_n 0, 1) := by decide +kernel
theorem dX7_isFeature_6 : decode cX7_isFeature 6 = .ok (.getfield 9, 3) := by decide +kernel
theorem dX7_isFeature_9 : decode cX7_isFeature 9 = .ok (.if_icmp .ge 7, 3) := by decide +kernel
theorem dX7_isFeature_12 : decode cX7_isFeature 12 = .ok (.iconst 1, 1) := by decide +kernel
theorem dX7_isFeature_13 : decode cX7_isFeature 13 = .ok (.goto 4, 3) := by decide +kernel
theorem dX7_isFeature_16 : decode cX7_isFeature 16 = .ok (.iconst 0, 1) := by decide +kernel
theorem dX7_isFeature_17 : decode cX7_isFeature 17 = .ok (.ireturn, 1) := by decide +kernel
theorem dX7_isConfiguration_0 : decode cX7_isConfiguration 0 = .ok (.iload_n 1, 1) := by decide +kernel
theorem dX7_isConfiguration_1 : decode cX7_isConfiguration 1 = .ok (.ifCond .lt 17, 3) := by decide +kernel
theorem dX7_isConfiguration_4 : decode cX7_isConfiguration 4 = .ok (.iload_n 1, 1) := by decide +kernel
theorem dX7_isConfiguration_5 : decode cX7_isConfiguration 5 = .ok (.iconst 1, 1) := by decide +kernel
theorem dX7_isConfiguration_6 : decode cX7_isConfiguration 6 = .ok (.aload_n 0, 1) := by decide +kernel
theorem dX7_isConfiguration_7 : decode cX7_isConfiguration 7 = .ok (.getfield 9, 3) := by decide +kernel
theorem dX7_isConfiguration_10 : decode cX7_isConfiguration 10 = .ok (.ishl, 1) := by decide +kernel
theorem dX7_isConfiguration_11 : decode cX7_isConfiguration 11 = .ok (.if_icmp .ge 7, 3) := by decide +kernel
theorem dX7_isConfiguration_14 : decode cX7_isConfiguration 14 = .ok (.iconst 1, 1) := by decide +kernel
theorem dX7_isConfiguration_15 : decode cX7_isConfiguration 15 = .ok (.goto 4, 3) := by decide +kernel
theorem dX7_isConfiguration_18 : decode cX7_isConfiguration 18 = .ok (.iconst 0, 1) := by decide +kernel
theorem dX7_isConfiguration_19 : decode cX7_isConfiguration 19 = .ok (.ireturn, 1) := by decide +kernel
theorem dX7_has_0 : decode cX7_has 0 = .ok (.iload_n 0, 1) := by decide +kernel
theorem dX7_has_1 : decode cX7_has 1 = .ok (.iload_n 1, 1) := by decide +kernel
theorem dX7_has_2 : decode cX7_has 2 = .ok (.ishr, 1) := by decide +kernel
theorem dX7_has_3 : decode cX7_has 3 = .ok (.iconst 1, 1) := by decide +kernel
theorem dX7_has_4 : decode cX7_has 4 = .ok (.iand, 1) := by decide +kernel
theorem dX7_has_5 : decode cX7_has 5 = .ok (.iconst 1, 1) := by decide +kernel
theorem dX7_has_6 : decode cX7_has 6 = .ok (.if_icmp .ne 7, 3) := by decide +kernel
theorem dX7_has_9 : decode cX7_has 9 = .ok (.iconst 1, 1) := by decide +kernel
theorem dX7_has_10 : decode cX7_has 10 = .ok (.goto 4, 3) := by decide +kernel
theorem dX7_has_13 : decode cX7_has 13 = .ok (.iconst 0, 1) := by decide +kernel
theorem dX7_has_14 : decode cX7_has 14 = .ok (.ireturn, 1) := by decide +kernel
theorem dX7_change_0 : decode cX7_change 0 = .ok (.aload_n 0, 1) := by decide +kernel
theorem dX7_change_1 : decode cX7_change 1 = .ok (.iconst 0, 1) := by decide +kernel
theorem dX7_change_2 : decode cX7_change 2 = .ok (.putfield 66, 3) := by decide +kernel
theorem dX7_change_5 : decode cX7_change 5 = .ok (.aload_n 0, 1) := by decide +kernel
theorem dX7_change_6 : decode cX7_change 6 = .ok (.iconst 0, 1) := by decide +kernel
theorem dX7_change_7 : decode cX7_change 7 = .ok (.putfield 70, 3) := by decide +kernel
theorem dX7_change_10 : decode cX7_change 10 = .ok (.return_, 1) := by decide +kernel
set_option maxRecDepth 20000 in
theorem ggX7_addFeature_X7_isFeature : GoodIn wsX7_addFeature wsX7_isFeature := goodIn_r _ [9, 2, 20, 21, 22, 23, 24, 25, 26, 27, 28, 29, 30, 31, 32, 33, 34, 35, 36, 37, 38, 39, 40, 41, 42] (by decide +kernel) (by decide +kernel)
set_option maxRecDepth 20000 in
theorem gX7_addFeature_X7_isFeature : GoodIn wsX7_addFeature (wsV RX7 73 RX7 yX7_isFeature wsX7_isFeature) := goodIn_app (goodIn_of _ (by decide +kernel)) ggX7_addFeature_X7_isFeature
set_option maxRecDepth 20000 in
theorem ggX7_addFeature_X7_fail : GoodIn wsX7_addFeature wsX7_fail := goodIn_r _ [13, 1, 20, 21, 22, 23, 24, 25, 26, 27, 28, 29, 30, 31, 32, 33, 34, 35, 36, 37, 38, 39, 40, 41, 42] (by decide +kernel) (by decide +kernel)
set_option maxRecDepth 20000 in
theorem gX7_addFeature_X7_fail : GoodIn wsX7_addFeature (wsV RX7 77 RX7 yX7_fail wsX7_fail) := goodIn_app (goodIn_of _ (by decide +kernel)) ggX7_addFeature_X7_fail
set_option maxRecDepth 20000 in
theorem ggX7_addFeature_X7_change : GoodIn wsX7_addFeature wsX7_change := goodIn_r _ [17, 18, 19, 20, 21, 22, 23, 24, 25, 26, 27, 28, 29, 30, 31, 32, 33, 34, 35, 36, 37, 38, 39, 40, 41, 42] (by decide +kernel) (by decide +kernel)
set_option maxRecDepth 20000 in
theorem gX7_addFeature_X7_change : GoodIn wsX7_addFeature (wsV RX7 81 RX7 yX7_change wsX7_change) := goodIn_app (goodIn_of _ (by decide +kernel)) ggX7_addFeature_X7_change
theorem dX7_addFeature_0 : decode cX7_addFeature 0 = .ok (.aload_n 0, 1) := by decide +kernel
theorem dX7_addFeature_1 : decode cX7_addFeature 1 = .ok (.iconst 0, 1) := by decide +kernel
theorem dX7_addFeature_2 : decode cX7_addFeature 2 = .ok (.putfield 63, 3) := by decide +kernel
theorem dX7_addFeature_5 : decode cX7_addFeature 5 = .ok (.aload_n 0, 1) := by decide +kernel
theorem dX7_addFeature_6 : decode cX7_addFeature 6 = .ok (.iload_n 1, 1) := by decide +kernel
theorem dX7_addFeature_7 : decode cX7_addFeature 7 = .ok (.invokevirtual 73, 3) := by decide +kernel
theorem dX7_addFeature_10 : decode cX7_addFeature 10 = .ok (.ifCond .ne 9, 3) := by decide +kernel
theorem dX7_addFeature_13 : decode cX7_addFeature 13 = .ok (.aload_n 0, 1) := by decide +kernel
theorem dX7_addFeature_14 : decode cX7_addFeature 14 = .ok (.iconst 1, 1) := by decide +kernel
theorem dX7_addFeature_15 : decode cX7_addFeature 15 = .ok (.invokevirtual 77, 3) := by decide +kernel
theorem dX7_addFeature_18 : decode cX7_addFeature 18 = .ok (.ireturn, 1) := by decide +kernel
theorem dX7_addFeature_19 : decode cX7_addFeature 19 = .ok (.iload_n 2, 1) := by decide +kernel
theorem dX7_addFeature_20 : decode cX7_addFeature 20 = .ok (.ifCond .lt 8, 3) := by decide +kernel
theorem dX7_addFeature_23 : decode cX7_addFeature 23 = .ok (.iload_n 2, 1) := by decide +kernel
theorem dX7_addFeature_24 : decode cX7_addFeature 24 = .ok (.iconst 3, 1) := by decide +kernel
theorem dX7_addFeature_25 : decode cX7_addFeature 25 = .ok (.if_icmp .le 9, 3) := by decide +kernel
theorem dX7_addFeature_28 : decode cX7_addFeature 28 = .ok (.aload_n 0, 1) := by decide +kernel
theorem dX7_addFeature_29 : decode cX7_addFeature 29 = .ok (.iconst 2, 1) := by decide +kernel
theorem dX7_addFeature_30 : decode cX7_addFeature 30 = .ok (.invokevirtual 77, 3) := by decide +kernel
theorem dX7_addFeature_33 : decode cX7_addFeature 33 = .ok (.ireturn, 1) := by decide +kernel
theorem dX7_addFeature_34 : decode cX7_addFeature 34 = .ok (.aload_n 0, 1) := by decide +kernel
theorem dX7_addFeature_35 : decode cX7_addFeature 35 = .ok (.getfield 9, 3) := by decide +kernel
theorem dX7_addFeature_38 : decode cX7_addFeature 38 = .ok (.bipush 12, 2) := by decide +kernel
theorem dX7_addFeature_40 : decode cX7_addFeature 40 = .ok (.if_icmp .ne 9, 3) := by decide +kernel
theorem dX7_addFeature_43 : decode cX7_addFeature 43 = .ok (.aload_n 0, 1) := by decide +kernel
theorem dX7_addFeature_44 : decode cX7_addFeature 44 = .ok (.iconst 3, 1) := by decide +kernel
theorem dX7_addFeature_45 : decode cX7_addFeature 45 = .ok (.invokevirtual 77, 3) := by decide +kernel
theorem dX7_addFeature_48 : decode cX7_addFeature 48 = .ok (.ireturn, 1) := by decide +kernel
theorem dX7_addFeature_49 : decode cX7_addFeature 49 = .ok (.aload_n 0, 1) := by decide +kernel
theorem dX7_addFeature_50 : decode cX7_addFeature 50 = .ok (.getfield 13, 3) := by decide +kernel
theorem dX7_addFeature_53 : decode cX7_addFeature 53 = .ok (.aload_n 0, 1) := by decide +kernel
theorem dX7_addFeature_54 : decode cX7_addFeature 54 = .ok (.getfield 9, 3) := by decide +kernel
theorem dX7_addFeature_57 : decode cX7_addFeature 57 = .ok (.iload_n 1, 1) := by decide +kernel
theorem dX7_addFeature_58 : decode cX7_addFeature 58 = .ok (.iastore, 1) := by decide +kernel
theorem dX7_addFeature_59 : decode cX7_addFeature 59 = .ok (.aload_n 0, 1) := by decide +kernel
theorem dX7_addFeature_60 : decode cX7_addFeature 60 = .ok (.getfield 17, 3) := by decide +kernel
theorem dX7_addFeature_63 : decode cX7_addFeature 63 = .ok (.aload_n 0, 1) := by decide +kernel
theorem dX7_addFeature_64 : decode cX7_addFeature 64 = .ok (.getfield 9, 3) := by decide +kernel
theorem dX7_addFeature_67 : decode cX7_addFeature 67 = .ok (.iload_n 2, 1) := by decide +kernel
theorem dX7_addFeature_68 : decode cX7_addFeature 68 = .ok (.iastore, 1) := by decide +kernel
theorem dX7_addFeature_69 : decode cX7_addFeature 69 = .ok (.aload_n 0, 1) := by decide +kernel
theorem dX7_addFeature_70 : decode cX7_addFeature 70 = .ok (.dup, 1) := by decide +kernel
theorem dX7_addFeature_71 : decode cX7_addFeature 71 = .ok (.getfield 9, 3) := by decide +kernel
theorem dX7_addFeature_74 : decode cX7_addFeature 74 = .ok (.iconst 1, 1) := by decide +kernel
theorem dX7_addFeature_75 : decode cX7_addFeature 75 = .ok (.iadd, 1) := by decide +kernel
theorem dX7_addFeature_76 : decode cX7_addFeature 76 = .ok (.putfield 9, 3) := by decide +kernel
theorem dX7_addFeature_79 : decode cX7_addFeature 79 = .ok (.aload_n 0, 1) := by decide +kernel
theorem dX7_addFeature_80 : decode cX7_addFeature 80 = .ok (.invokevirtual 81, 3) := by decide +kernel
theorem dX7_addFeature_83 : decode cX7_addFeature 83 = .ok (.aload_n 0, 1) := by decide +kernel
theorem dX7_addFeature_84 : decode cX7_addFeature 84 = .ok (.getfield 9, 3) := by decide +kernel
theorem dX7_addFeature_87 : decode cX7_addFeature 87 = .ok (.iconst 1, 1) := by decide +kernel
theorem dX7_addFeature_88 : decode cX7_addFeature 88 = .ok (.isub, 1) := by decide +kernel
theorem dX7_addFeature_89 : decode cX7_addFeature 89 = .ok (.ireturn, 1) := by decide +kernel
set_option maxRecDepth 20000 in
theorem ggX7_setRelation_X7_isFeature : GoodIn wsX7_setRelation wsX7_isFeature := goodIn_r _ [7, 8, 19, 20, 21, 22, 23, 24, 25, 26, 27, 28, 29, 30, 31, 32, 33, 34, 35, 36, 37, 38, 39, 40, 41] (by decide +kernel) (by decide +kernel)
set_option maxRecDepth 20000 in
theorem gX7_setRelation_X7_isFeature : GoodIn wsX7_setRelation (wsV RX7 73 RX7 yX7_isFeature wsX7_isFeature) := goodIn_app (goodIn_of _ (by decide +kernel)) ggX7_setRelation_X7_isFeature
set_option maxRecDepth 20000 in
theorem ggX7_setRelation_X7_fail : GoodIn wsX7_setRelation wsX7_fail := goodIn_r _ [12, 1, 19, 20, 21, 22, 23, 24, 25, 26, 27, 28, 29, 30, 31, 32, 33, 34, 35, 36, 37, 38, 39, 40, 41] (by decide +kernel) (by decide +kernel)
set_option maxRecDepth 20000 in
theorem gX7_setRelation_X7_fail : GoodIn wsX7_setRelation (wsV RX7 77 RX7 yX7_fail wsX7_fail) := goodIn_app (goodIn_of _ (by decide +kernel)) ggX7_setRelation_X7_fail
set_option maxRecDepth 20000 in
theorem ggX7_setRelation_X7_change : GoodIn wsX7_setRelation wsX7_change := goodIn_r _ [16, 17, 18, 19, 20, 21, 22, 23, 24, 25, 26, 27, 28, 29, 30, 31, 32, 33, 34, 35, 36, 37, 38, 39, 40, 41] (by decide +kernel) (by decide +kernel)
set_option maxRecDepth 20000 in
theorem gX7_setRelation_X7_change : GoodIn wsX7_setRelation (wsV RX7 81 RX7 yX7_change wsX7_change) := goodIn_app (goodIn_of _ (by decide +kernel)) ggX7_setRelation_X7_change
theorem dX7_setRelation_0 : decode cX7_setRelation 0 = .ok (.aload_n 0, 1) := by decide +kernel
theorem dX7_setRelation_1 : decode cX7_setRelation 1 = .ok (.iconst 0, 1) := by decide +kernel
theorem dX7_setRelation_2 : decode cX7_setRelation 2 = .ok (.putfield 63, 3) := by decide +kernel
theorem dX7_setRelation_5 : decode cX7_setRelation 5 = .ok (.aload_n 0, 1) := by decide +kernel
theorem dX7_setRelation_6 : decode cX7_setRelation 6 = .ok (.iload_n 1, 1) := by decide +kernel
theorem dX7_setRelation_7 : decode cX7_setRelation 7 = .ok (.invokevirtual 73, 3) := by decide +kernel
theorem dX7_setRelation_10 : decode cX7_setRelation 10 = .ok (.ifCond .eq 7, 3) := by decide +kernel
theorem dX7_setRelation_13 : decode cX7_setRelation 13 = .ok (.iload_n 1, 1) := by decide +kernel
theorem dX7_setRelation_14 : decode cX7_setRelation 14 = .ok (.ifCond .ne 9, 3) := by decide +kernel
theorem dX7_setRelation_17 : decode cX7_setRelation 17 = .ok (.aload_n 0, 1) := by decide +kernel
theorem dX7_setRelation_18 : decode cX7_setRelation 18 = .ok (.iconst 1, 1) := by decide +kernel
theorem dX7_setRelation_19 : decode cX7_setRelation 19 = .ok (.invokevirtual 77, 3) := by decide +kernel
theorem dX7_setRelation_22 : decode cX7_setRelation 22 = .ok (.ireturn, 1) := by decide +kernel
theorem dX7_setRelation_23 : decode cX7_setRelation 23 = .ok (.iload_n 2, 1) := by decide +kernel
theorem dX7_setRelation_24 : decode cX7_setRelation 24 = .ok (.ifCond .lt 8, 3) := by decide +kernel
theorem dX7_setRelation_27 : decode cX7_setRelation 27 = .ok (.iload_n 2, 1) := by decide +kernel
theorem dX7_setRelation_28 : decode cX7_setRelation 28 = .ok (.iconst 3, 1) := by decide +kernel
theorem dX7_setRelation_29 : decode cX7_setRelation 29 = .ok (.if_icmp .le 9, 3) := by decide +kernel
theorem dX7_setRelation_32 : decode cX7_setRelation 32 = .ok (.aload_n 0, 1) := by decide +kernel
theorem dX7_setRelation_33 : decode cX7_setRelation 33 = .ok (.iconst 2, 1) := by decide +kernel
theorem dX7_setRelation_34 : decode cX7_setRelation 34 = .ok (.invokevirtual 77, 3) := by decide +kernel
theorem dX7_setRelation_37 : decode cX7_setRelation 37 = .ok (.ireturn, 1) := by decide +kernel
theorem dX7_setRelation_38 : decode cX7_setRelation 38 = .ok (.aload_n 0, 1) := by decide +kernel
theorem dX7_setRelation_39 : decode cX7_setRelation 39 = .ok (.getfield 17, 3) := by decide +kernel
theorem dX7_setRelation_42 : decode cX7_setRelation 42 = .ok (.iload_n 1, 1) := by decide +kernel
theorem dX7_setRelation_43 : decode cX7_setRelation 43 = .ok (.iaload, 1) := by decide +kernel
theorem dX7_setRelation_44 : decode cX7_setRelation 44 = .ok (.istore_n 3, 1) := by decide +kernel
theorem dX7_setRelation_45 : decode cX7_setRelation 45 = .ok (.aload_n 0, 1) := by decide +kernel
theorem dX7_setRelation_46 : decode cX7_setRelation 46 = .ok (.getfield 17, 3) := by decide +kernel
theorem dX7_setRelation_49 : decode cX7_setRelation 49 = .ok (.iload_n 1, 1) := by decide +kernel
theorem dX7_setRelation_50 : decode cX7_setRelation 50 = .ok (.iload_n 2, 1) := by decide +kernel
theorem dX7_setRelation_51 : decode cX7_setRelation 51 = .ok (.iastore, 1) := by decide +kernel
theorem dX7_setRelation_52 : decode cX7_setRelation 52 = .ok (.aload_n 0, 1) := by decide +kernel
theorem dX7_setRelation_53 : decode cX7_setRelation 53 = .ok (.invokevirtual 81, 3) := by decide +kernel
theorem dX7_setRelation_56 : decode cX7_setRelation 56 = .ok (.iload_n 3, 1) := by decide +kernel
theorem dX7_setRelation_57 : decode cX7_setRelation 57 = .ok (.ireturn, 1) := by decide +kernel
set_option maxRecDepth 20000 in
theorem ggX7_setWorth_X7_isFeature : GoodIn wsX7_setWorth wsX7_isFeature := goodIn_r _ [8, 9, 16, 17, 18, 19, 20, 21, 22, 23, 24, 25, 26, 27, 28, 29, 30, 31, 32, 33, 34, 35, 36, 37, 38] (by decide +kernel) (by decide +kernel)
set_option maxRecDepth 20000 in
theorem gX7_setWorth_X7_isFeature : GoodIn wsX7_setWorth (wsV RX7 73 RX7 yX7_isFeature wsX7_isFeature) := goodIn_app (goodIn_of _ (by decide +kernel)) ggX7_setWorth_X7_isFeature
set_option maxRecDepth 20000 in
theorem ggX7_setWorth_X7_change : GoodIn wsX7_setWorth wsX7_change := goodIn_r _ [13, 14, 15, 16, 17, 18, 19, 20, 21, 22, 23, 24, 25, 26, 27, 28, 29, 30, 31, 32, 33, 34, 35, 36, 37, 38] (by decide +kernel) (by decide +kernel)
set_option maxRecDepth 20000 in
theorem gX7_setWorth_X7_change : GoodIn wsX7_setWorth (wsV RX7 81 RX7 yX7_change wsX7_change) := goodIn_app (goodIn_of _ (by decide +kernel)) ggX7_setWorth_X7_change
theorem dX7_setWorth_0 : decode cX7_setWorth 0 = .ok (.aload_n 0, 1) := by decide +kernel
theorem dX7_setWorth_1 : decode cX7_setWorth 1 = .ok (.aload_n 0, 1) := by decide +kernel
theorem dX7_setWorth_2 : decode cX7_setWorth 2 = .ok (.iload_n 1, 1) := by decide +kernel
theorem dX7_setWorth_3 : decode cX7_setWorth 3 = .ok (.invokevirtual 73, 3) := by decide +kernel
theorem dX7_setWorth_6 : decode cX7_setWorth 6 = .ok (.ifCond .ne 7, 3) := by decide +kernel
theorem dX7_setWorth_9 : decode cX7_setWorth 9 = .ok (.iconst 1, 1) := by decide +kernel
theorem dX7_setWorth_10 : decode cX7_setWorth 10 = .ok (.goto 30, 3) := by decide +kernel
theorem dX7_setWorth_13 : decode cX7_setWorth 13 = .ok (.iload_n 2, 1) := by decide +kernel
theorem dX7_setWorth_14 : decode cX7_setWorth 14 = .ok (.ifCond .lt 21, 3) := by decide +kernel
theorem dX7_setWorth_17 : decode cX7_setWorth 17 = .ok (.iload_n 2, 1) := by decide +kernel
theorem dX7_setWorth_18 : decode cX7_setWorth 18 = .ok (.sipush 1000, 3) := by decide +kernel
theorem dX7_setWorth_21 : decode cX7_setWorth 21 = .ok (.if_icmp .gt 14, 3) := by decide +kernel
theorem dX7_setWorth_24 : decode cX7_setWorth 24 = .ok (.iload_n 3, 1) := by decide +kernel
theorem dX7_setWorth_25 : decode cX7_setWorth 25 = .ok (.ifCond .lt 10, 3) := by decide +kernel
theorem dX7_setWorth_28 : decode cX7_setWorth 28 = .ok (.iload_n 3, 1) := by decide +kernel
theorem dX7_setWorth_29 : decode cX7_setWorth 29 = .ok (.sipush 1000, 3) := by decide +kernel
theorem dX7_setWorth_32 : decode cX7_setWorth 32 = .ok (.if_icmp .le 7, 3) := by decide +kernel
theorem dX7_setWorth_35 : decode cX7_setWorth 35 = .ok (.iconst 2, 1) := by decide +kernel
theorem dX7_setWorth_36 : decode cX7_setWorth 36 = .ok (.goto 4, 3) := by decide +kernel
theorem dX7_setWorth_39 : decode cX7_setWorth 39 = .ok (.iconst 0, 1) := by decide +kernel
theorem dX7_setWorth_40 : decode cX7_setWorth 40 = .ok (.putfield 63, 3) := by decide +kernel
theorem dX7_setWorth_43 : decode cX7_setWorth 43 = .ok (.aload_n 0, 1) := by decide +kernel
theorem dX7_setWorth_44 : decode cX7_setWorth 44 = .ok (.getfield 63, 3) := by decide +kernel
theorem dX7_setWorth_47 : decode cX7_setWorth 47 = .ok (.ifCond .eq 5, 3) := by decide +kernel
theorem dX7_setWorth_50 : decode cX7_setWorth 50 = .ok (.iconst 0, 1) := by decide +kernel
theorem dX7_setWorth_51 : decode cX7_setWorth 51 = .ok (.ireturn, 1) := by decide +kernel
theorem dX7_setWorth_52 : decode cX7_setWorth 52 = .ok (.aload_n 0, 1) := by decide +kernel
theorem dX7_setWorth_53 : decode cX7_setWorth 53 = .ok (.getfield 20, 3) := by decide +kernel
theorem dX7_setWorth_56 : decode cX7_setWorth 56 = .ok (.iload_n 1, 1) := by decide +kernel
theorem dX7_setWorth_57 : decode cX7_setWorth 57 = .ok (.iaload, 1) := by decide +kernel
theorem dX7_setWorth_58 : decode cX7_setWorth 58 = .ok (.iload_n 2, 1) := by decide +kernel
theorem dX7_setWorth_59 : decode cX7_setWorth 59 = .ok (.if_icmp .ne 13, 3) := by decide +kernel
theorem dX7_setWorth_62 : decode cX7_setWorth 62 = .ok (.aload_n 0, 1) := by decide +kernel
theorem dX7_setWorth_63 : decode cX7_setWorth 63 = .ok (.getfield 23, 3) := by decide +kernel
theorem dX7_setWorth_66 : decode cX7_setWorth 66 = .ok (.iload_n 1, 1) := by decide +kernel
theorem dX7_setWorth_67 : decode cX7_setWorth 67 = .ok (.iaload, 1) := by decide +kernel
theorem dX7_setWorth_68 : decode cX7_setWorth 68 = .ok (.iload_n 3, 1) := by decide +kernel
theorem dX7_setWorth_69 : decode cX7_setWorth 69 = .ok (.if_icmp .eq 7, 3) := by decide +kernel
theorem dX7_setWorth_72 : decode cX7_setWorth 72 = .ok (.iconst 1, 1) := by decide +kernel
theorem dX7_setWorth_73 : decode cX7_setWorth 73 = .ok (.goto 4, 3) := by decide +kernel
theorem dX7_setWorth_76 : decode cX7_setWorth 76 = .ok (.iconst 0, 1) := by decide +kernel
theorem dX7_setWorth_77 : decode cX7_setWorth 77 = .ok (.istore 4, 2) := by decide +kernel
theorem dX7_setWorth_79 : decode cX7_setWorth 79 = .ok (.aload_n 0, 1) := by decide +kernel
theorem dX7_setWorth_80 : decode cX7_setWorth 80 = .ok (.getfield 20, 3) := by decide +kernel
theorem dX7_setWorth_83 : decode cX7_setWorth 83 = .ok (.iload_n 1, 1) := by decide +kernel
theorem dX7_setWorth_84 : decode cX7_setWorth 84 = .ok (.iload_n 2, 1) := by decide +kernel
theorem dX7_setWorth_85 : decode cX7_setWorth 85 = .ok (.iastore, 1) := by decide +kernel
theorem dX7_setWorth_86 : decode cX7_setWorth 86 = .ok (.aload_n 0, 1) := by decide +kernel
theorem dX7_setWorth_87 : decode cX7_setWorth 87 = .ok (.getfield 23, 3) := by decide +kernel
theorem dX7_setWorth_90 : decode cX7_setWorth 90 = .ok (.iload_n 1, 1) := by decide +kernel
theorem dX7_setWorth_91 : decode cX7_setWorth 91 = .ok (.iload_n 3, 1) := by decide +kernel
theorem dX7_setWorth_92 : decode cX7_setWorth 92 = .ok (.iastore, 1) := by decide +kernel
theorem dX7_setWorth_93 : decode cX7_setWorth 93 = .ok (.aload_n 0, 1) := by decide +kernel
theorem dX7_setWorth_94 : decode cX7_setWorth 94 = .ok (.invokevirtual 81, 3) := by decide +kernel
theorem dX7_setWorth_97 : decode cX7_setWorth 97 = .ok (.iload 4, 2) := by decide +kernel
theorem dX7_setWorth_99 : decode cX7_setWorth 99 = .ok (.ireturn, 1) := by decide +kernel
set_option maxRecDepth 20000 in
theorem ggX7_addConstraint_X7_fail : GoodIn wsX7_addConstraint wsX7_fail := goodIn_r _ [11, 1, 23, 24, 25, 26, 27, 28, 29, 30, 31, 32, 33, 34, 35, 36, 37, 38, 39, 40, 41, 42, 43, 44, 45] (by decide +kernel) (by decide +kernel)
set_option maxRecDepth 20000 in
theorem gX7_addConstraint_X7_fail : GoodIn wsX7_addConstraint (wsV RX7 77 RX7 yX7_fail wsX7_fail) := goodIn_app (goodIn_of _ (by decide +kernel)) ggX7_addConstraint_X7_fail
set_option maxRecDepth 20000 in
theorem ggX7_addConstraint_X7_isFeature : GoodIn wsX7_addConstraint wsX7_isFeature := goodIn_r _ [15, 16, 23, 24, 25, 26, 27, 28, 29, 30, 31, 32, 33, 34, 35, 36, 37, 38, 39, 40, 41, 42, 43, 44, 45] (by decide +kernel) (by decide +kernel)
set_option maxRecDepth 20000 in
theorem gX7_addConstraint_X7_isFeature : GoodIn wsX7_addConstraint (wsV RX7 73 RX7 yX7_isFeature wsX7_isFeature) := goodIn_app (goodIn_of _ (by decide +kernel)) ggX7_addConstraint_X7_isFeature
set_option maxRecDepth 20000 in
theorem ggX7_addConstraint_X7_change : GoodIn wsX7_addConstraint wsX7_change := goodIn_r _ [20, 21, 22, 23, 24, 25, 26, 27, 28, 29, 30, 31, 32, 33, 34, 35, 36, 37, 38, 39, 40, 41, 42, 43, 44, 45] (by decide +kernel) (by decide +kernel)
set_option maxRecDepth 20000 in
theorem gX7_addConstraint_X7_change : GoodIn wsX7_addConstraint (wsV RX7 81 RX7 yX7_change wsX7_change) := goodIn_app (goodIn_of _ (by decide +kernel)) ggX7_addConstraint_X7_change
theorem dX7_addConstraint_0 : decode cX7_addConstraint 0 = .ok (.aload_n 0, 1) := by decide +kernel
theorem dX7_addConstraint_1 : decode cX7_addConstraint 1 = .ok (.iconst 0, 1) := by decide +kernel
theorem dX7_addConstraint_2 : decode cX7_addConstraint 2 = .ok (.putfield 63, 3) := by decide +kernel
theorem dX7_addConstraint_5 : decode cX7_addConstraint 5 = .ok (.iload_n 1, 1) := by decide +kernel
theorem dX7_addConstraint_6 : decode cX7_addConstraint 6 = .ok (.ifCond .lt 8, 3) := by decide +kernel
theorem dX7_addConstraint_9 : decode cX7_addConstraint 9 = .ok (.iload_n 1, 1) := by decide +kernel
theorem dX7_addConstraint_10 : decode cX7_addConstraint 10 = .ok (.iconst 1, 1) := by decide +kernel
theorem dX7_addConstraint_11 : decode cX7_addConstraint 11 = .ok (.if_icmp .le 9, 3) := by decide +kernel
theorem dX7_addConstraint_14 : decode cX7_addConstraint 14 = .ok (.aload_n 0, 1) := by decide +kernel
theorem dX7_addConstraint_15 : decode cX7_addConstraint 15 = .ok (.iconst 1, 1) := by decide +kernel
theorem dX7_addConstraint_16 : decode cX7_addConstraint 16 = .ok (.invokevirtual 77, 3) := by decide +kernel
theorem dX7_addConstraint_19 : decode cX7_addConstraint 19 = .ok (.ireturn, 1) := by decide +kernel
theorem dX7_addConstraint_20 : decode cX7_addConstraint 20 = .ok (.aload_n 0, 1) := by decide +kernel
theorem dX7_addConstraint_21 : decode cX7_addConstraint 21 = .ok (.iload_n 2, 1) := by decide +kernel
theorem dX7_addConstraint_22 : decode cX7_addConstraint 22 = .ok (.invokevirtual 73, 3) := by decide +kernel
theorem dX7_addConstraint_25 : decode cX7_addConstraint 25 = .ok (.ifCond .eq 11, 3) := by decide +kernel
theorem dX7_addConstraint_28 : decode cX7_addConstraint 28 = .ok (.aload_n 0, 1) := by decide +kernel
theorem dX7_addConstraint_29 : decode cX7_addConstraint 29 = .ok (.iload_n 3, 1) := by decide +kernel
theorem dX7_addConstraint_30 : decode cX7_addConstraint 30 = .ok (.invokevirtual 73, 3) := by decide +kernel
theorem dX7_addConstraint_33 : decode cX7_addConstraint 33 = .ok (.ifCond .ne 9, 3) := by decide +kernel
theorem dX7_addConstraint_36 : decode cX7_addConstraint 36 = .ok (.aload_n 0, 1) := by decide +kernel
theorem dX7_addConstraint_37 : decode cX7_addConstraint 37 = .ok (.iconst 2, 1) := by decide +kernel
theorem dX7_addConstraint_38 : decode cX7_addConstraint 38 = .ok (.invokevirtual 77, 3) := by decide +kernel
theorem dX7_addConstraint_41 : decode cX7_addConstraint 41 = .ok (.ireturn, 1) := by decide +kernel
theorem dX7_addConstraint_42 : decode cX7_addConstraint 42 = .ok (.aload_n 0, 1) := by decide +kernel
theorem dX7_addConstraint_43 : decode cX7_addConstraint 43 = .ok (.getfield 84, 3) := by decide +kernel
theorem dX7_addConstraint_46 : decode cX7_addConstraint 46 = .ok (.bipush 10, 2) := by decide +kernel
theorem dX7_addConstraint_48 : decode cX7_addConstraint 48 = .ok (.if_icmp .ne 9, 3) := by decide +kernel
theorem dX7_addConstraint_51 : decode cX7_addConstraint 51 = .ok (.aload_n 0, 1) := by decide +kernel
theorem dX7_addConstraint_52 : decode cX7_addConstraint 52 = .ok (.iconst 3, 1) := by decide +kernel
theorem dX7_addConstraint_53 : decode cX7_addConstraint 53 = .ok (.invokevirtual 77, 3) := by decide +kernel
theorem dX7_addConstraint_56 : decode cX7_addConstraint 56 = .ok (.ireturn, 1) := by decide +kernel
theorem dX7_addConstraint_57 : decode cX7_addConstraint 57 = .ok (.aload_n 0, 1) := by decide +kernel
theorem dX7_addConstraint_58 : decode cX7_addConstraint 58 = .ok (.getfield 29, 3) := by decide +kernel
theorem dX7_addConstraint_61 : decode cX7_addConstraint 61 = .ok (.aload_n 0, 1) := by decide +kernel
theorem dX7_addConstraint_62 : decode cX7_addConstraint 62 = .ok (.getfield 84, 3) := by decide +kernel
theorem dX7_addConstraint_65 : decode cX7_addConstraint 65 = .ok (.iload_n 1, 1) := by decide +kernel
theorem dX7_addConstraint_66 : decode cX7_addConstraint 66 = .ok (.iastore, 1) := by decide +kernel
theorem dX7_addConstraint_67 : decode cX7_addConstraint 67 = .ok (.aload_n 0, 1) := by decide +kernel
theorem dX7_addConstraint_68 : decode cX7_addConstraint 68 = .ok (.getfield 32, 3) := by decide +kernel
theorem dX7_addConstraint_71 : decode cX7_addConstraint 71 = .ok (.aload_n 0, 1) := by decide +kernel
theorem dX7_addConstraint_72 : decode cX7_addConstraint 72 = .ok (.getfield 84, 3) := by decide +kernel
theorem dX7_addConstraint_75 : decode cX7_addConstraint 75 = .ok (.iload_n 2, 1) := by decide +kernel
theorem dX7_addConstraint_76 : decode cX7_addConstraint 76 = .ok (.iastore, 1) := by decide +kernel
theorem dX7_addConstraint_77 : decode cX7_addConstraint 77 = .ok (.aload_n 0, 1) := by decide +kernel
theorem dX7_addConstraint_78 : decode cX7_addConstraint 78 = .ok (.getfield 35, 3) := by decide +kernel
theorem dX7_addConstraint_81 : decode cX7_addConstraint 81 = .ok (.aload_n 0, 1) := by decide +kernel
theorem dX7_addConstraint_82 : decode cX7_addConstraint 82 = .ok (.getfield 84, 3) := by decide +kernel
theorem dX7_addConstraint_85 : decode cX7_addConstraint 85 = .ok (.iload_n 3, 1) := by decide +kernel
theorem dX7_addConstraint_86 : decode cX7_addConstraint 86 = .ok (.iastore, 1) := by decide +kernel
theorem dX7_addConstraint_87 : decode cX7_addConstraint 87 = .ok (.aload_n 0, 1) := by decide +kernel
theorem dX7_addConstraint_88 : decode cX7_addConstraint 88 = .ok (.getfield 38, 3) := by decide +kernel
theorem dX7_addConstraint_91 : decode cX7_addConstraint 91 = .ok (.aload_n 0, 1) := by decide +kernel
theorem dX7_addConstraint_92 : decode cX7_addConstraint 92 = .ok (.getfield 84, 3) := by decide +kernel
theorem dX7_addConstraint_95 : decode cX7_addConstraint 95 = .ok (.iconst 1, 1) := by decide +kernel
theorem dX7_addConstraint_96 : decode cX7_addConstraint 96 = .ok (.bastore, 1) := by decide +kernel
theorem dX7_addConstraint_97 : decode cX7_addConstraint 97 = .ok (.aload_n 0, 1) := by decide +kernel
theorem dX7_addConstraint_98 : decode cX7_addConstraint 98 = .ok (.dup, 1) := by decide +kernel
theorem dX7_addConstraint_99 : decode cX7_addConstraint 99 = .ok (.getfield 84, 3) := by decide +kernel
theorem dX7_addConstraint_102 : decode cX7_addConstraint 102 = .ok (.iconst 1, 1) := by decide +kernel
theorem dX7_addConstraint_103 : decode cX7_addConstraint 103 = .ok (.iadd, 1) := by decide +kernel
theorem dX7_addConstraint_104 : decode cX7_addConstraint 104 = .ok (.putfield 84, 3) := by decide +kernel
theorem dX7_addConstraint_107 : decode cX7_addConstraint 107 = .ok (.aload_n 0, 1) := by decide +kernel
theorem dX7_addConstraint_108 : decode cX7_addConstraint 108 = .ok (.invokevirtual 81, 3) := by decide +kernel
theorem dX7_addConstraint_111 : decode cX7_addConstraint 111 = .ok (.aload_n 0, 1) := by decide +kernel
theorem dX7_addConstraint_112 : decode cX7_addConstraint 112 = .ok (.getfield 84, 3) := by decide +kernel
theorem dX7_addConstraint_115 : decode cX7_addConstraint 115 = .ok (.iconst 1, 1) := by decide +kernel
theorem dX7_addConstraint_116 : decode cX7_addConstraint 116 = .ok (.isub, 1) := by decide +kernel
theorem dX7_addConstraint_117 : decode cX7_addConstraint 117 = .ok (.ireturn, 1) := by decide +kernel
set_option maxRecDepth 20000 in
theorem ggX7_turn_X7_change : GoodIn wsX7_turn wsX7_change := goodIn_r _ [8, 9, 10, 11, 12, 13, 14, 15, 16, 17, 18, 19, 20, 21, 22, 23, 24, 25, 26, 27, 28, 29, 30, 31, 32, 33] (by decide +kernel) (by decide +kernel)
set_option maxRecDepth 20000 in
theorem gX7_turn_X7_change : GoodIn wsX7_turn (wsV RX7 81 RX7 yX7_change wsX7_change) := goodIn_app (goodIn_of _ (by decide +kernel)) ggX7_turn_X7_change
theorem dX7_turn_0 : decode cX7_turn 0 = .ok (.aload_n 0, 1) := by decide +kernel
theorem dX7_turn_1 : decode cX7_turn 1 = .ok (.iload_n 1, 1) := by decide +kernel
theorem dX7_turn_2 : decode cX7_turn 2 = .ok (.ifCond .lt 11, 3) := by decide +kernel
theorem dX7_turn_5 : decode cX7_turn 5 = .ok (.iload_n 1, 1) := by decide +kernel
theorem dX7_turn_6 : decode cX7_turn 6 = .ok (.aload_n 0, 1) := by decide +kernel
theorem dX7_turn_7 : decode cX7_turn 7 = .ok (.getfield 84, 3) := by decide +kernel
theorem dX7_turn_10 : decode cX7_turn 10 = .ok (.if_icmp .lt 7, 3) := by decide +kernel
theorem dX7_turn_13 : decode cX7_turn 13 = .ok (.iconst 1, 1) := by decide +kernel
theorem dX7_turn_14 : decode cX7_turn 14 = .ok (.goto 4, 3) := by decide +kernel
theorem dX7_turn_17 : decode cX7_turn 17 = .ok (.iconst 0, 1) := by decide +kernel
theorem dX7_turn_18 : decode cX7_turn 18 = .ok (.putfield 63, 3) := by decide +kernel
theorem dX7_turn_21 : decode cX7_turn 21 = .ok (.aload_n 0, 1) := by decide +kernel
theorem dX7_turn_22 : decode cX7_turn 22 = .ok (.getfield 63, 3) := by decide +kernel
theorem dX7_turn_25 : decode cX7_turn 25 = .ok (.ifCond .eq 5, 3) := by decide +kernel
theorem dX7_turn_28 : decode cX7_turn 28 = .ok (.iconst 0, 1) := by decide +kernel
theorem dX7_turn_29 : decode cX7_turn 29 = .ok (.ireturn, 1) := by decide +kernel
theorem dX7_turn_30 : decode cX7_turn 30 = .ok (.aload_n 0, 1) := by decide +kernel
theorem dX7_turn_31 : decode cX7_turn 31 = .ok (.getfield 38, 3) := by decide +kernel
theorem dX7_turn_34 : decode cX7_turn 34 = .ok (.iload_n 1, 1) := by decide +kernel
theorem dX7_turn_35 : decode cX7_turn 35 = .ok (.baload, 1) := by decide +kernel
theorem dX7_turn_36 : decode cX7_turn 36 = .ok (.istore_n 3, 1) := by decide +kernel
theorem dX7_turn_37 : decode cX7_turn 37 = .ok (.aload_n 0, 1) := by decide +kernel
theorem dX7_turn_38 : decode cX7_turn 38 = .ok (.getfield 38, 3) := by decide +kernel
theorem dX7_turn_41 : decode cX7_turn 41 = .ok (.iload_n 1, 1) := by decide +kernel
theorem dX7_turn_42 : decode cX7_turn 42 = .ok (.iload_n 2, 1) := by decide +kernel
theorem dX7_turn_43 : decode cX7_turn 43 = .ok (.bastore, 1) := by decide +kernel
theorem dX7_turn_44 : decode cX7_turn 44 = .ok (.aload_n 0, 1) := by decide +kernel
theorem dX7_turn_45 : decode cX7_turn 45 = .ok (.invokevirtual 81, 3) := by decide +kernel
theorem dX7_turn_48 : decode cX7_turn 48 = .ok (.iload_n 3, 1) := by decide +kernel
theorem dX7_turn_49 : decode cX7_turn 49 = .ok (.ireturn, 1) := by decide +kernel
set_option maxRecDepth 20000 in
theorem ggX7_dropConstraint_X7_fail : GoodIn wsX7_dropConstraint wsX7_fail := goodIn_r _ [7, 1, 14, 15, 16, 17, 18, 19, 20, 21, 22, 23, 24, 25, 26, 27, 28, 29, 30, 31, 32, 33, 34, 35, 36] (by decide +kernel) (by decide +kernel)
set_option maxRecDepth 20000 in
theorem gX7_dropConstraint_X7_fail : GoodIn wsX7_dropConstraint (wsV RX7 77 RX7 yX7_fail wsX7_fail) := goodIn_app (goodIn_of _ (by decide +kernel)) ggX7_dropConstraint_X7_fail
set_option maxRecDepth 20000 in
theorem ggX7_dropConstraint_X7_change : GoodIn wsX7_dropConstraint wsX7_change := goodIn_r _ [11, 12, 13, 14, 15, 16, 17, 18, 19, 20, 21, 22, 23, 24, 25, 26, 27, 28, 29, 30, 31, 32, 33, 34, 35, 36] (by decide +kernel) (by decide +kernel)
set_option maxRecDepth 20000 in
theorem gX7_dropConstraint_X7_change : GoodIn wsX7_dropConstraint (wsV RX7 81 RX7 yX7_change wsX7_change) := goodIn_app (goodIn_of _ (by decide +kernel)) ggX7_dropConstraint_X7_change
theorem dX7_dropConstraint_0 : decode cX7_dropConstraint 0 = .ok (.aload_n 0, 1) := by decide +kernel
theorem dX7_dropConstraint_1 : decode cX7_dropConstraint 1 = .ok (.iconst 0, 1) := by decide +kernel
theorem dX7_dropConstraint_2 : decode cX7_dropConstraint 2 = .ok (.putfield 63, 3) := by decide +kernel
theorem dX7_dropConstraint_5 : decode cX7_dropConstraint 5 = .ok (.aload_n 0, 1) := by decide +kernel
theorem dX7_dropConstraint_6 : decode cX7_dropConstraint 6 = .ok (.getfield 84, 3) := by decide +kernel
theorem dX7_dropConstraint_9 : decode cX7_dropConstraint 9 = .ok (.ifCond .ne 9, 3) := by decide +kernel
theorem dX7_dropConstraint_12 : decode cX7_dropConstraint 12 = .ok (.aload_n 0, 1) := by decide +kernel
theorem dX7_dropConstraint_13 : decode cX7_dropConstraint 13 = .ok (.iconst 1, 1) := by decide +kernel
theorem dX7_dropConstraint_14 : decode cX7_dropConstraint 14 = .ok (.invokevirtual 77, 3) := by decide +kernel
theorem dX7_dropConstraint_17 : decode cX7_dropConstraint 17 = .ok (.ireturn, 1) := by decide +kernel
theorem dX7_dropConstraint_18 : decode cX7_dropConstraint 18 = .ok (.aload_n 0, 1) := by decide +kernel
theorem dX7_dropConstraint_19 : decode cX7_dropConstraint 19 = .ok (.dup, 1) := by decide +kernel
theorem dX7_dropConstraint_20 : decode cX7_dropConstraint 20 = .ok (.getfield 84, 3) := by decide +kernel
theorem dX7_dropConstraint_23 : decode cX7_dropConstraint 23 = .ok (.iconst 1, 1) := by decide +kernel
theorem dX7_dropConstraint_24 : decode cX7_dropConstraint 24 = .ok (.isub, 1) := by decide +kernel
theorem dX7_dropConstraint_25 : decode cX7_dropConstraint 25 = .ok (.putfield 84, 3) := by decide +kernel
theorem dX7_dropConstraint_28 : decode cX7_dropConstraint 28 = .ok (.aload_n 0, 1) := by decide +kernel
theorem dX7_dropConstraint_29 : decode cX7_dropConstraint 29 = .ok (.invokevirtual 81, 3) := by decide +kernel
theorem dX7_dropConstraint_32 : decode cX7_dropConstraint 32 = .ok (.aload_n 0, 1) := by decide +kernel
theorem dX7_dropConstraint_33 : decode cX7_dropConstraint 33 = .ok (.getfield 84, 3) := by decide +kernel
theorem dX7_dropConstraint_36 : decode cX7_dropConstraint 36 = .ok (.ireturn, 1) := by decide +kernel
theorem dX7_featureCount_0 : decode cX7_featureCount 0 = .ok (.aload_n 0, 1) := by decide +kernel
theorem dX7_featureCount_1 : decode cX7_featureCount 1 = .ok (.iconst 0, 1) := by decide +kernel
theorem dX7_featureCount_2 : decode cX7_featureCount 2 = .ok (.putfield 63, 3) := by decide +kernel
theorem dX7_featureCount_5 : decode cX7_featureCount 5 = .ok (.aload_n 0, 1) := by decide +kernel
theorem dX7_featureCount_6 : decode cX7_featureCount 6 = .ok (.getfield 9, 3) := by decide +kernel
theorem dX7_featureCount_9 : decode cX7_featureCount 9 = .ok (.ireturn, 1) := by decide +kernel
set_option maxRecDepth 20000 in
theorem ggX7_decide_X7_isFeature : GoodIn wsX7_decide wsX7_isFeature := goodIn_r _ [7, 8, 19, 20, 21, 22, 23, 24, 25, 26, 27, 28, 29, 30, 31, 32, 33, 34, 35, 36, 37, 38, 39, 40, 41] (by decide +kernel) (by decide +kernel)
set_option maxRecDepth 20000 in
theorem gX7_decide_X7_isFeature : GoodIn wsX7_decide (wsV RX7 73 RX7 yX7_isFeature wsX7_isFeature) := goodIn_app (goodIn_of _ (by decide +kernel)) ggX7_decide_X7_isFeature
set_option maxRecDepth 20000 in
theorem ggX7_decide_X7_fail : GoodIn wsX7_decide wsX7_fail := goodIn_r _ [12, 1, 19, 20, 21, 22, 23, 24, 25, 26, 27, 28, 29, 30, 31, 32, 33, 34, 35, 36, 37, 38, 39, 40, 41] (by decide +kernel) (by decide +kernel)
set_option maxRecDepth 20000 in
theorem gX7_decide_X7_fail : GoodIn wsX7_decide (wsV RX7 77 RX7 yX7_fail wsX7_fail) := goodIn_app (goodIn_of _ (by decide +kernel)) ggX7_decide_X7_fail
set_option maxRecDepth 20000 in
theorem ggX7_decide_X7_change : GoodIn wsX7_decide wsX7_change := goodIn_r _ [16, 17, 18, 19, 20, 21, 22, 23, 24, 25, 26, 27, 28, 29, 30, 31, 32, 33, 34, 35, 36, 37, 38, 39, 40, 41] (by decide +kernel) (by decide +kernel)
set_option maxRecDepth 20000 in
theorem gX7_decide_X7_change : GoodIn wsX7_decide (wsV RX7 81 RX7 yX7_change wsX7_change) := goodIn_app (goodIn_of _ (by decide +kernel)) ggX7_decide_X7_change
theorem dX7_decide_0 : decode cX7_decide 0 = .ok (.aload_n 0, 1) := by decide +kernel
theorem dX7_decide_1 : decode cX7_decide 1 = .ok (.iconst 0, 1) := by decide +kernel
theorem dX7_decide_2 : decode cX7_decide 2 = .ok (.putfield 63, 3) := by decide +kernel
theorem dX7_decide_5 : decode cX7_decide 5 = .ok (.aload_n 0, 1) := by decide +kernel
theorem dX7_decide_6 : decode cX7_decide 6 = .ok (.iload_n 1, 1) := by decide +kernel
theorem dX7_decide_7 : decode cX7_decide 7 = .ok (.invokevirtual 73, 3) := by decide +kernel
theorem dX7_decide_10 : decode cX7_decide 10 = .ok (.ifCond .ne 9, 3) := by decide +kernel
theorem dX7_decide_13 : decode cX7_decide 13 = .ok (.aload_n 0, 1) := by decide +kernel
theorem dX7_decide_14 : decode cX7_decide 14 = .ok (.iconst 1, 1) := by decide +kernel
theorem dX7_decide_15 : decode cX7_decide 15 = .ok (.invokevirtual 77, 3) := by decide +kernel
theorem dX7_decide_18 : decode cX7_decide 18 = .ok (.ireturn, 1) := by decide +kernel
theorem dX7_decide_19 : decode cX7_decide 19 = .ok (.iload_n 2, 1) := by decide +kernel
theorem dX7_decide_20 : decode cX7_decide 20 = .ok (.ifCond .lt 8, 3) := by decide +kernel
theorem dX7_decide_23 : decode cX7_decide 23 = .ok (.iload_n 2, 1) := by decide +kernel
theorem dX7_decide_24 : decode cX7_decide 24 = .ok (.iconst 2, 1) := by decide +kernel
theorem dX7_decide_25 : decode cX7_decide 25 = .ok (.if_icmp .le 9, 3) := by decide +kernel
theorem dX7_decide_28 : decode cX7_decide 28 = .ok (.aload_n 0, 1) := by decide +kernel
theorem dX7_decide_29 : decode cX7_decide 29 = .ok (.iconst 2, 1) := by decide +kernel
theorem dX7_decide_30 : decode cX7_decide 30 = .ok (.invokevirtual 77, 3) := by decide +kernel
theorem dX7_decide_33 : decode cX7_decide 33 = .ok (.ireturn, 1) := by decide +kernel
theorem dX7_decide_34 : decode cX7_decide 34 = .ok (.aload_n 0, 1) := by decide +kernel
theorem dX7_decide_35 : decode cX7_decide 35 = .ok (.getfield 26, 3) := by decide +kernel
theorem dX7_decide_38 : decode cX7_decide 38 = .ok (.iload_n 1, 1) := by decide +kernel
theorem dX7_decide_39 : decode cX7_decide 39 = .ok (.iaload, 1) := by decide +kernel
theorem dX7_decide_40 : decode cX7_decide 40 = .ok (.istore_n 3, 1) := by decide +kernel
theorem dX7_decide_41 : decode cX7_decide 41 = .ok (.aload_n 0, 1) := by decide +kernel
theorem dX7_decide_42 : decode cX7_decide 42 = .ok (.getfield 26, 3) := by decide +kernel
theorem dX7_decide_45 : decode cX7_decide 45 = .ok (.iload_n 1, 1) := by decide +kernel
theorem dX7_decide_46 : decode cX7_decide 46 = .ok (.iload_n 2, 1) := by decide +kernel
theorem dX7_decide_47 : decode cX7_decide 47 = .ok (.iastore, 1) := by decide +kernel
theorem dX7_decide_48 : decode cX7_decide 48 = .ok (.aload_n 0, 1) := by decide +kernel
theorem dX7_decide_49 : decode cX7_decide 49 = .ok (.invokevirtual 81, 3) := by decide +kernel
theorem dX7_decide_52 : decode cX7_decide 52 = .ok (.iload_n 3, 1) := by decide +kernel
theorem dX7_decide_53 : decode cX7_decide 53 = .ok (.ireturn, 1) := by decide +kernel
set_option maxRecDepth 20000 in
theorem ggX7_reopen_X7_change : GoodIn wsX7_reopen wsX7_change := goodIn_r _ [8, 9, 10, 11, 12, 13, 14, 15, 16, 17, 18, 19, 20, 21, 22, 23, 24, 25, 26, 27, 28, 29, 30, 31, 32, 33] (by decide +kernel) (by decide +kernel)
set_option maxRecDepth 20000 in
theorem gX7_reopen_X7_change : GoodIn wsX7_reopen (wsV RX7 81 RX7 yX7_change wsX7_change) := goodIn_app (goodIn_of _ (by decide +kernel)) ggX7_reopen_X7_change
theorem dX7_reopen_0 : decode cX7_reopen 0 = .ok (.aload_n 0, 1) := by decide +kernel
theorem dX7_reopen_1 : decode cX7_reopen 1 = .ok (.iconst 0, 1) := by decide +kernel
theorem dX7_reopen_2 : decode cX7_reopen 2 = .ok (.putfield 63, 3) := by decide +kernel
theorem dX7_reopen_5 : decode cX7_reopen 5 = .ok (.iconst 0, 1) := by decide +kernel
theorem dX7_reopen_6 : decode cX7_reopen 6 = .ok (.istore_n 1, 1) := by decide +kernel
theorem dX7_reopen_7 : decode cX7_reopen 7 = .ok (.iconst 0, 1) := by decide +kernel
theorem dX7_reopen_8 : decode cX7_reopen 8 = .ok (.istore_n 2, 1) := by decide +kernel
theorem dX7_reopen_9 : decode cX7_reopen 9 = .ok (.iload_n 2, 1) := by decide +kernel
theorem dX7_reopen_10 : decode cX7_reopen 10 = .ok (.aload_n 0, 1) := by decide +kernel
theorem dX7_reopen_11 : decode cX7_reopen 11 = .ok (.getfield 9, 3) := by decide +kernel
theorem dX7_reopen_14 : decode cX7_reopen 14 = .ok (.if_icmp .ge 33, 3) := by decide +kernel
theorem dX7_reopen_17 : decode cX7_reopen 17 = .ok (.iload_n 1, 1) := by decide +kernel
theorem dX7_reopen_18 : decode cX7_reopen 18 = .ok (.aload_n 0, 1) := by decide +kernel
theorem dX7_reopen_19 : decode cX7_reopen 19 = .ok (.getfield 26, 3) := by decide +kernel
theorem dX7_reopen_22 : decode cX7_reopen 22 = .ok (.iload_n 2, 1) := by decide +kernel
theorem dX7_reopen_23 : decode cX7_reopen 23 = .ok (.iaload, 1) := by decide +kernel
theorem dX7_reopen_24 : decode cX7_reopen 24 = .ok (.ifCond .ne 7, 3) := by decide +kernel
theorem dX7_reopen_27 : decode cX7_reopen 27 = .ok (.iconst 0, 1) := by decide +kernel
theorem dX7_reopen_28 : decode cX7_reopen 28 = .ok (.goto 4, 3) := by decide +kernel
theorem dX7_reopen_31 : decode cX7_reopen 31 = .ok (.iconst 1, 1) := by decide +kernel
theorem dX7_reopen_32 : decode cX7_reopen 32 = .ok (.iadd, 1) := by decide +kernel
theorem dX7_reopen_33 : decode cX7_reopen 33 = .ok (.istore_n 1, 1) := by decide +kernel
theorem dX7_reopen_34 : decode cX7_reopen 34 = .ok (.aload_n 0, 1) := by decide +kernel
theorem dX7_reopen_35 : decode cX7_reopen 35 = .ok (.getfield 26, 3) := by decide +kernel
theorem dX7_reopen_38 : decode cX7_reopen 38 = .ok (.iload_n 2, 1) := by decide +kernel
theorem dX7_reopen_39 : decode cX7_reopen 39 = .ok (.iconst 0, 1) := by decide +kernel
theorem dX7_reopen_40 : decode cX7_reopen 40 = .ok (.iastore, 1) := by decide +kernel
theorem dX7_reopen_41 : decode cX7_reopen 41 = .ok (.iinc 2 1, 3) := by decide +kernel
theorem dX7_reopen_44 : decode cX7_reopen 44 = .ok (.goto (-35), 3) := by decide +kernel
theorem dX7_reopen_47 : decode cX7_reopen 47 = .ok (.aload_n 0, 1) := by decide +kernel
theorem dX7_reopen_48 : decode cX7_reopen 48 = .ok (.invokevirtual 81, 3) := by decide +kernel
theorem dX7_reopen_51 : decode cX7_reopen 51 = .ok (.iload_n 1, 1) := by decide +kernel
theorem dX7_reopen_52 : decode cX7_reopen 52 = .ok (.ireturn, 1) := by decide +kernel
set_option maxRecDepth 20000 in
theorem ggX7_setBudget_X7_fail : GoodIn wsX7_setBudget wsX7_fail := goodIn_r _ [7, 1, 14, 15, 16, 17, 18, 19, 20, 21, 22, 23, 24, 25, 26, 27, 28, 29, 30, 31, 32, 33, 34, 35, 36] (by decide +kernel) (by decide +kernel)
set_option maxRecDepth 20000 in
theorem gX7_setBudget_X7_fail : GoodIn wsX7_setBudget (wsV RX7 77 RX7 yX7_fail wsX7_fail) := goodIn_app (goodIn_of _ (by decide +kernel)) ggX7_setBudget_X7_fail
set_option maxRecDepth 20000 in
theorem ggX7_setBudget_X7_change : GoodIn wsX7_setBudget wsX7_change := goodIn_r _ [11, 12, 13, 14, 15, 16, 17, 18, 19, 20, 21, 22, 23, 24, 25, 26, 27, 28, 29, 30, 31, 32, 33, 34, 35, 36] (by decide +kernel) (by decide +kernel)
set_option maxRecDepth 20000 in
theorem gX7_setBudget_X7_change : GoodIn wsX7_setBudget (wsV RX7 81 RX7 yX7_change wsX7_change) := goodIn_app (goodIn_of _ (by decide +kernel)) ggX7_setBudget_X7_change
theorem dX7_setBudget_0 : decode cX7_setBudget 0 = .ok (.aload_n 0, 1) := by decide +kernel
theorem dX7_setBudget_1 : decode cX7_setBudget 1 = .ok (.iconst 0, 1) := by decide +kernel
theorem dX7_setBudget_2 : decode cX7_setBudget 2 = .ok (.putfield 63, 3) := by decide +kernel
theorem dX7_setBudget_5 : decode cX7_setBudget 5 = .ok (.iload_n 1, 1) := by decide +kernel
theorem dX7_setBudget_6 : decode cX7_setBudget 6 = .ok (.iconst (-1), 1) := by decide +kernel
theorem dX7_setBudget_7 : decode cX7_setBudget 7 = .ok (.if_icmp .lt 10, 3) := by decide +kernel
theorem dX7_setBudget_10 : decode cX7_setBudget 10 = .ok (.iload_n 1, 1) := by decide +kernel
theorem dX7_setBudget_11 : decode cX7_setBudget 11 = .ok (.sipush 20000, 3) := by decide +kernel
theorem dX7_setBudget_14 : decode cX7_setBudget 14 = .ok (.if_icmp .le 9, 3) := by decide +kernel
theorem dX7_setBudget_17 : decode cX7_setBudget 17 = .ok (.aload_n 0, 1) := by decide +kernel
theorem dX7_setBudget_18 : decode cX7_setBudget 18 = .ok (.iconst 1, 1) := by decide +kernel
theorem dX7_setBudget_19 : decode cX7_setBudget 19 = .ok (.invokevirtual 77, 3) := by decide +kernel
theorem dX7_setBudget_22 : decode cX7_setBudget 22 = .ok (.ireturn, 1) := by decide +kernel
theorem dX7_setBudget_23 : decode cX7_setBudget 23 = .ok (.aload_n 0, 1) := by decide +kernel
theorem dX7_setBudget_24 : decode cX7_setBudget 24 = .ok (.getfield 42, 3) := by decide +kernel
theorem dX7_setBudget_27 : decode cX7_setBudget 27 = .ok (.istore_n 2, 1) := by decide +kernel
theorem dX7_setBudget_28 : decode cX7_setBudget 28 = .ok (.aload_n 0, 1) := by decide +kernel
theorem dX7_setBudget_29 : decode cX7_setBudget 29 = .ok (.iload_n 1, 1) := by decide +kernel
theorem dX7_setBudget_30 : decode cX7_setBudget 30 = .ok (.putfield 42, 3) := by decide +kernel
theorem dX7_setBudget_33 : decode cX7_setBudget 33 = .ok (.aload_n 0, 1) := by decide +kernel
theorem dX7_setBudget_34 : decode cX7_setBudget 34 = .ok (.invokevirtual 81, 3) := by decide +kernel
theorem dX7_setBudget_37 : decode cX7_setBudget 37 = .ok (.iload_n 2, 1) := by decide +kernel
theorem dX7_setBudget_38 : decode cX7_setBudget 38 = .ok (.ireturn, 1) := by decide +kernel
set_option maxRecDepth 20000 in
theorem ggX7_children_X7_has : GoodIn wsX7_children wsX7_has := goodIn_r _ [11] (by decide +kernel) (by decide +kernel)
set_option maxRecDepth 20000 in
theorem gX7_children_X7_has : GoodIn wsX7_children (va_wsS RX7 93 yX7_has wsX7_has) := goodIn_app (goodIn_of _ (by decide +kernel)) ggX7_children_X7_has
theorem dX7_children_0 : decode cX7_children 0 = .ok (.iconst (-1), 1) := by decide +kernel
theorem dX7_children_1 : decode cX7_children 1 = .ok (.istore 4, 2) := by decide +kernel
theorem dX7_children_3 : decode cX7_children 3 = .ok (.iconst 1, 1) := by decide +kernel
theorem dX7_children_4 : decode cX7_children 4 = .ok (.istore 5, 2) := by decide +kernel
theorem dX7_children_6 : decode cX7_children 6 = .ok (.iload 5, 2) := by decide +kernel
theorem dX7_children_8 : decode cX7_children 8 = .ok (.aload_n 0, 1) := by decide +kernel
theorem dX7_children_9 : decode cX7_children 9 = .ok (.getfield 9, 3) := by decide +kernel
theorem dX7_children_12 : decode cX7_children 12 = .ok (.if_icmp .ge 57, 3) := by decide +kernel
theorem dX7_children_15 : decode cX7_children 15 = .ok (.aload_n 0, 1) := by decide +kernel
theorem dX7_children_16 : decode cX7_children 16 = .ok (.getfield 13, 3) := by decide +kernel
theorem dX7_children_19 : decode cX7_children 19 = .ok (.iload 5, 2) := by decide +kernel
theorem dX7_children_21 : decode cX7_children 21 = .ok (.iaload, 1) := by decide +kernel
theorem dX7_children_22 : decode cX7_children 22 = .ok (.iload_n 2, 1) := by decide +kernel
theorem dX7_children_23 : decode cX7_children 23 = .ok (.if_icmp .ne 40, 3) := by decide +kernel
theorem dX7_children_26 : decode cX7_children 26 = .ok (.aload_n 0, 1) := by decide +kernel
theorem dX7_children_27 : decode cX7_children 27 = .ok (.getfield 17, 3) := by decide +kernel
theorem dX7_children_30 : decode cX7_children 30 = .ok (.iload 5, 2) := by decide +kernel
theorem dX7_children_32 : decode cX7_children 32 = .ok (.iaload, 1) := by decide +kernel
theorem dX7_children_33 : decode cX7_children 33 = .ok (.iload_n 3, 1) := by decide +kernel
theorem dX7_children_34 : decode cX7_children 34 = .ok (.if_icmp .eq 6, 3) := by decide +kernel
theorem dX7_children_37 : decode cX7_children 37 = .ok (.goto 26, 3) := by decide +kernel
theorem dX7_children_40 : decode cX7_children 40 = .ok (.iload 4, 2) := by decide +kernel
theorem dX7_children_42 : decode cX7_children 42 = .ok (.iconst 0, 1) := by decide +kernel
theorem dX7_children_43 : decode cX7_children 43 = .ok (.invokestatic 87, 3) := by decide +kernel
theorem dX7_children_46 : decode cX7_children 46 = .ok (.iload_n 1, 1) := by decide +kernel
theorem dX7_children_47 : decode cX7_children 47 = .ok (.iload 5, 2) := by decide +kernel
theorem dX7_children_49 : decode cX7_children 49 = .ok (.invokestatic 93, 3) := by decide +kernel
theorem dX7_children_52 : decode cX7_children 52 = .ok (.ifCond .eq 7, 3) := by decide +kernel
theorem dX7_children_55 : decode cX7_children 55 = .ok (.iconst 1, 1) := by decide +kernel
theorem dX7_children_56 : decode cX7_children 56 = .ok (.goto 4, 3) := by decide +kernel
theorem dX7_children_59 : decode cX7_children 59 = .ok (.iconst 0, 1) := by decide +kernel
theorem dX7_children_60 : decode cX7_children 60 = .ok (.iadd, 1) := by decide +kernel
theorem dX7_children_61 : decode cX7_children 61 = .ok (.istore 4, 2) := by decide +kernel
theorem dX7_children_63 : decode cX7_children 63 = .ok (.iinc 5 1, 3) := by decide +kernel
theorem dX7_children_66 : decode cX7_children 66 = .ok (.goto (-60), 3) := by decide +kernel
theorem dX7_children_69 : decode cX7_children 69 = .ok (.iload 4, 2) := by decide +kernel
theorem dX7_children_71 : decode cX7_children 71 = .ok (.ireturn, 1) := by decide +kernel
set_option maxRecDepth 20000 in
theorem ggX7_brokenInTree_X7_has : GoodIn wsX7_brokenInTree wsX7_has := goodIn_r _ [7] (by decide +kernel) (by decide +kernel)
set_option maxRecDepth 20000 in
theorem gX7_brokenInTree_X7_has : GoodIn wsX7_brokenInTree (va_wsS RX7 93 yX7_has wsX7_has) := goodIn_app (goodIn_of _ (by decide +kernel)) ggX7_brokenInTree_X7_has
set_option maxRecDepth 20000 in
theorem ggX7_brokenInTree_X7_children : GoodIn wsX7_brokenInTree wsX7_children := goodIn_r _ [11, 1, 2, 3, 12, 13, 14, 15, 4, 5, 6, 7, 16, 17, 18, 19, 20, 21, 22, 23, 24, 25, 26, 27, 28, 29, 30, 31, 32, 33, 34, 35, 36, 37, 38] (by decide +kernel) (by decide +kernel)
set_option maxRecDepth 20000 in
theorem gX7_brokenInTree_X7_children : GoodIn wsX7_brokenInTree (wsV RX7 97 RX7 yX7_children wsX7_children) := goodIn_app (goodIn_of _ (by decide +kernel)) ggX7_brokenInTree_X7_children
theorem dX7_brokenInTree_0 : decode cX7_brokenInTree 0 = .ok (.iload_n 1, 1) := by decide +kernel
theorem dX7_brokenInTree_1 : decode cX7_brokenInTree 1 = .ok (.iconst 0, 1) := by decide +kernel
theorem dX7_brokenInTree_2 : decode cX7_brokenInTree 2 = .ok (.invokestatic 93, 3) := by decide +kernel
theorem dX7_brokenInTree_5 : decode cX7_brokenInTree 5 = .ok (.ifCond .eq 7, 3) := by decide +kernel
theorem dX7_brokenInTree_8 : decode cX7_brokenInTree 8 = .ok (.iconst 0, 1) := by decide +kernel
theorem dX7_brokenInTree_9 : decode cX7_brokenInTree 9 = .ok (.goto 4, 3) := by decide +kernel
theorem dX7_brokenInTree_12 : decode cX7_brokenInTree 12 = .ok (.iconst 1, 1) := by decide +kernel
theorem dX7_brokenInTree_13 : decode cX7_brokenInTree 13 = .ok (.istore_n 2, 1) := by decide +kernel
theorem dX7_brokenInTree_14 : decode cX7_brokenInTree 14 = .ok (.iconst 1, 1) := by decide +kernel
theorem dX7_brokenInTree_15 : decode cX7_brokenInTree 15 = .ok (.istore_n 3, 1) := by decide +kernel
theorem dX7_brokenInTree_16 : decode cX7_brokenInTree 16 = .ok (.iload_n 3, 1) := by decide +kernel
theorem dX7_brokenInTree_17 : decode cX7_brokenInTree 17 = .ok (.aload_n 0, 1) := by decide +kernel
theorem dX7_brokenInTree_18 : decode cX7_brokenInTree 18 = .ok (.getfield 9, 3) := by decide +kernel
theorem dX7_brokenInTree_21 : decode cX7_brokenInTree 21 = .ok (.if_icmp .ge 66, 3) := by decide +kernel
theorem dX7_brokenInTree_24 : decode cX7_brokenInTree 24 = .ok (.iload_n 1, 1) := by decide +kernel
theorem dX7_brokenInTree_25 : decode cX7_brokenInTree 25 = .ok (.iload_n 3, 1) := by decide +kernel
theorem dX7_brokenInTree_26 : decode cX7_brokenInTree 26 = .ok (.invokestatic 93, 3) := by decide +kernel
theorem dX7_brokenInTree_29 : decode cX7_brokenInTree 29 = .ok (.ifCond .eq 19, 3) := by decide +kernel
theorem dX7_brokenInTree_32 : decode cX7_brokenInTree 32 = .ok (.iload_n 1, 1) := by decide +kernel
theorem dX7_brokenInTree_33 : decode cX7_brokenInTree 33 = .ok (.aload_n 0, 1) := by decide +kernel
theorem dX7_brokenInTree_34 : decode cX7_brokenInTree 34 = .ok (.getfield 13, 3) := by decide +kernel
theorem dX7_brokenInTree_37 : decode cX7_brokenInTree 37 = .ok (.iload_n 3, 1) := by decide +kernel
theorem dX7_brokenInTree_38 : decode cX7_brokenInTree 38 = .ok (.iaload, 1) := by decide +kernel
theorem dX7_brokenInTree_39 : decode cX7_brokenInTree 39 = .ok (.invokestatic 93, 3) := by decide +kernel
theorem dX7_brokenInTree_42 : decode cX7_brokenInTree 42 = .ok (.ifCond .ne 6, 3) := by decide +kernel
theorem dX7_brokenInTree_45 : decode cX7_brokenInTree 45 = .ok (.iinc 2 1, 3) := by decide +kernel
theorem dX7_brokenInTree_48 : decode cX7_brokenInTree 48 = .ok (.aload_n 0, 1) := by decide +kernel
theorem dX7_brokenInTree_49 : decode cX7_brokenInTree 49 = .ok (.getfield 17, 3) := by decide +kernel
theorem dX7_brokenInTree_52 : decode cX7_brokenInTree 52 = .ok (.iload_n 3, 1) := by decide +kernel
theorem dX7_brokenInTree_53 : decode cX7_brokenInTree 53 = .ok (.iaload, 1) := by decide +kernel
theorem dX7_brokenInTree_54 : decode cX7_brokenInTree 54 = .ok (.ifCond .ne 27, 3) := by decide +kernel
theorem dX7_brokenInTree_57 : decode cX7_brokenInTree 57 = .ok (.iload_n 1, 1) := by decide +kernel
theorem dX7_brokenInTree_58 : decode cX7_brokenInTree 58 = .ok (.aload_n 0, 1) := by decide +kernel
theorem dX7_brokenInTree_59 : decode cX7_brokenInTree 59 = .ok (.getfield 13, 3) := by decide +kernel
theorem dX7_brokenInTree_62 : decode cX7_brokenInTree 62 = .ok (.iload_n 3, 1) := by decide +kernel
theorem dX7_brokenInTree_63 : decode cX7_brokenInTree 63 = .ok (.iaload, 1) := by decide +kernel
theorem dX7_brokenInTree_64 : decode cX7_brokenInTree 64 = .ok (.invokestatic 93, 3) := by decide +kernel
theorem dX7_brokenInTree_67 : decode cX7_brokenInTree 67 = .ok (.ifCond .eq 14, 3) := by decide +kernel
theorem dX7_brokenInTree_70 : decode cX7_brokenInTree 70 = .ok (.iload_n 1, 1) := by decide +kernel
theorem dX7_brokenInTree_71 : decode cX7_brokenInTree 71 = .ok (.iload_n 3, 1) := by decide +kernel
theorem dX7_brokenInTree_72 : decode cX7_brokenInTree 72 = .ok (.invokestatic 93, 3) := by decide +kernel
theorem dX7_brokenInTree_75 : decode cX7_brokenInTree 75 = .ok (.ifCond .ne 6, 3) := by decide +kernel
theorem dX7_brokenInTree_78 : decode cX7_brokenInTree 78 = .ok (.iinc 2 1, 3) := by decide +kernel
theorem dX7_brokenInTree_81 : decode cX7_brokenInTree 81 = .ok (.iinc 3 1, 3) := by decide +kernel
theorem dX7_brokenInTree_84 : decode cX7_brokenInTree 84 = .ok (.goto (-68), 3) := by decide +kernel
theorem dX7_brokenInTree_87 : decode cX7_brokenInTree 87 = .ok (.iconst 0, 1) := by decide +kernel
theorem dX7_brokenInTree_88 : decode cX7_brokenInTree 88 = .ok (.istore_n 3, 1) := by decide +kernel
theorem dX7_brokenInTree_89 : decode cX7_brokenInTree 89 = .ok (.iload_n 3, 1) := by decide +kernel
theorem dX7_brokenInTree_90 : decode cX7_brokenInTree 90 = .ok (.aload_n 0, 1) := by decide +kernel
theorem dX7_brokenInTree_91 : decode cX7_brokenInTree 91 = .ok (.getfield 9, 3) := by decide +kernel
theorem dX7_brokenInTree_94 : decode cX7_brokenInTree 94 = .ok (.if_icmp .ge 57, 3) := by decide +kernel
theorem dX7_brokenInTree_97 : decode cX7_brokenInTree 97 = .ok (.iload_n 1, 1) := by decide +kernel
theorem dX7_brokenInTree_98 : decode cX7_brokenInTree 98 = .ok (.iload_n 3, 1) := by decide +kernel
theorem dX7_brokenInTree_99 : decode cX7_brokenInTree 99 = .ok (.invokestatic 93, 3) := by decide +kernel
theorem dX7_brokenInTree_102 : decode cX7_brokenInTree 102 = .ok (.ifCond .ne 6, 3) := by decide +kernel
theorem dX7_brokenInTree_105 : decode cX7_brokenInTree 105 = .ok (.goto 40, 3) := by decide +kernel
theorem dX7_brokenInTree_108 : decode cX7_brokenInTree 108 = .ok (.aload_n 0, 1) := by decide +kernel
theorem dX7_brokenInTree_109 : decode cX7_brokenInTree 109 = .ok (.iload_n 1, 1) := by decide +kernel
theorem dX7_brokenInTree_110 : decode cX7_brokenInTree 110 = .ok (.iload_n 3, 1) := by decide +kernel
theorem dX7_brokenInTree_111 : decode cX7_brokenInTree 111 = .ok (.iconst 2, 1) := by decide +kernel
theorem dX7_brokenInTree_112 : decode cX7_brokenInTree 112 = .ok (.invokevirtual 97, 3) := by decide +kernel
theorem dX7_brokenInTree_115 : decode cX7_brokenInTree 115 = .ok (.istore 4, 2) := by decide +kernel
theorem dX7_brokenInTree_117 : decode cX7_brokenInTree 117 = .ok (.iload 4, 2) := by decide +kernel
theorem dX7_brokenInTree_119 : decode cX7_brokenInTree 119 = .ok (.iconst (-1), 1) := by decide +kernel
theorem dX7_brokenInTree_120 : decode cX7_brokenInTree 120 = .ok (.if_icmp .eq 12, 3) := by decide +kernel
theorem dX7_brokenInTree_123 : decode cX7_brokenInTree 123 = .ok (.iload 4, 2) := by decide +kernel
theorem dX7_brokenInTree_125 : decode cX7_brokenInTree 125 = .ok (.iconst 1, 1) := by decide +kernel
theorem dX7_brokenInTree_126 : decode cX7_brokenInTree 126 = .ok (.if_icmp .eq 6, 3) := by decide +kernel
theorem dX7_brokenInTree_129 : decode cX7_brokenInTree 129 = .ok (.iinc 2 1, 3) := by decide +kernel
theorem dX7_brokenInTree_132 : decode cX7_brokenInTree 132 = .ok (.aload_n 0, 1) := by decide +kernel
theorem dX7_brokenInTree_133 : decode cX7_brokenInTree 133 = .ok (.iload_n 1, 1) := by decide +kernel
theorem dX7_brokenInTree_134 : decode cX7_brokenInTree 134 = .ok (.iload_n 3, 1) := by decide +kernel
theorem dX7_brokenInTree_135 : decode cX7_brokenInTree 135 = .ok (.iconst 3, 1) := by decide +kernel
theorem dX7_brokenInTree_136 : decode cX7_brokenInTree 136 = .ok (.invokevirtual 97, 3) := by decide +kernel
theorem dX7_brokenInTree_139 : decode cX7_brokenInTree 139 = .ok (.ifCond .ne 6, 3) := by decide +kernel
theorem dX7_brokenInTree_142 : decode cX7_brokenInTree 142 = .ok (.iinc 2 1, 3) := by decide +kernel
theorem dX7_brokenInTree_145 : decode cX7_brokenInTree 145 = .ok (.iinc 3 1, 3) := by decide +kernel
theorem dX7_brokenInTree_148 : decode cX7_brokenInTree 148 = .ok (.goto (-59), 3) := by decide +kernel
theorem dX7_brokenInTree_151 : decode cX7_brokenInTree 151 = .ok (.iload_n 2, 1) := by decide +kernel
theorem dX7_brokenInTree_152 : decode cX7_brokenInTree 152 = .ok (.ireturn, 1) := by decide +kernel
set_option maxRecDepth 20000 in
theorem ggX7_isBroken_X7_has : GoodIn wsX7_isBroken wsX7_has := goodIn_r _ [8] (by decide +kernel) (by decide +kernel)
set_option maxRecDepth 20000 in
theorem gX7_isBroken_X7_has : GoodIn wsX7_isBroken (va_wsS RX7 93 yX7_has wsX7_has) := goodIn_app (goodIn_of _ (by decide +kernel)) ggX7_isBroken_X7_has
theorem dX7_isBroken_0 : decode cX7_isBroken 0 = .ok (.aload_n 0, 1) := by decide +kernel
theorem dX7_isBroken_1 : decode cX7_isBroken 1 = .ok (.getfield 38, 3) := by decide +kernel
theorem dX7_isBroken_4 : decode cX7_isBroken 4 = .ok (.iload_n 1, 1) := by decide +kernel
theorem dX7_isBroken_5 : decode cX7_isBroken 5 = .ok (.baload, 1) := by decide +kernel
theorem dX7_isBroken_6 : decode cX7_isBroken 6 = .ok (.ifCond .eq 48, 3) := by decide +kernel
theorem dX7_isBroken_9 : decode cX7_isBroken 9 = .ok (.iload_n 2, 1) := by decide +kernel
theorem dX7_isBroken_10 : decode cX7_isBroken 10 = .ok (.aload_n 0, 1) := by decide +kernel
theorem dX7_isBroken_11 : decode cX7_isBroken 11 = .ok (.getfield 32, 3) := by decide +kernel
theorem dX7_isBroken_14 : decode cX7_isBroken 14 = .ok (.iload_n 1, 1) := by decide +kernel
theorem dX7_isBroken_15 : decode cX7_isBroken 15 = .ok (.iaload, 1) := by decide +kernel
theorem dX7_isBroken_16 : decode cX7_isBroken 16 = .ok (.invokestatic 93, 3) := by decide +kernel
theorem dX7_isBroken_19 : decode cX7_isBroken 19 = .ok (.ifCond .eq 35, 3) := by decide +kernel
theorem dX7_isBroken_22 : decode cX7_isBroken 22 = .ok (.iload_n 2, 1) := by decide +kernel
theorem dX7_isBroken_23 : decode cX7_isBroken 23 = .ok (.aload_n 0, 1) := by decide +kernel
theorem dX7_isBroken_24 : decode cX7_isBroken 24 = .ok (.getfield 35, 3) := by decide +kernel
theorem dX7_isBroken_27 : decode cX7_isBroken 27 = .ok (.iload_n 1, 1) := by decide +kernel
theorem dX7_isBroken_28 : decode cX7_isBroken 28 = .ok (.iaload, 1) := by decide +kernel
theorem dX7_isBroken_29 : decode cX7_isBroken 29 = .ok (.invokestatic 93, 3) := by decide +kernel
theorem dX7_isBroken_32 : decode cX7_isBroken 32 = .ok (.aload_n 0, 1) := by decide +kernel
theorem dX7_isBroken_33 : decode cX7_isBroken 33 = .ok (.getfield 29, 3) := by decide +kernel
theorem dX7_isBroken_36 : decode cX7_isBroken 36 = .ok (.iload_n 1, 1) := by decide +kernel
theorem dX7_isBroken_37 : decode cX7_isBroken 37 = .ok (.iaload, 1) := by decide +kernel
theorem dX7_isBroken_38 : decode cX7_isBroken 38 = .ok (.iconst 1, 1) := by decide +kernel
theorem dX7_isBroken_39 : decode cX7_isBroken 39 = .ok (.if_icmp .ne 7, 3) := by decide +kernel
theorem dX7_isBroken_42 : decode cX7_isBroken 42 = .ok (.iconst 1, 1) := by decide +kernel
theorem dX7_isBroken_43 : decode cX7_isBroken 43 = .ok (.goto 4, 3) := by decide +kernel
theorem dX7_isBroken_46 : decode cX7_isBroken 46 = .ok (.iconst 0, 1) := by decide +kernel
theorem dX7_isBroken_47 : decode cX7_isBroken 47 = .ok (.if_icmp .ne 7, 3) := by decide +kernel
theorem dX7_isBroken_50 : decode cX7_isBroken 50 = .ok (.iconst 1, 1) := by decide +kernel
theorem dX7_isBroken_51 : decode cX7_isBroken 51 = .ok (.goto 4, 3) := by decide +kernel
theorem dX7_isBroken_54 : decode cX7_isBroken 54 = .ok (.iconst 0, 1) := by decide +kernel
theorem dX7_isBroken_55 : decode cX7_isBroken 55 = .ok (.ireturn, 1) := by decide +kernel
set_option maxRecDepth 20000 in
theorem ggX7_brokenConstraints_X7_isBroken : GoodIn wsX7_brokenConstraints wsX7_isBroken := goodIn_r _ [6, 7, 8, 9, 10, 11, 12, 5, 13, 14, 15, 16, 17, 18, 19, 20, 21, 22, 23, 24, 25, 26, 27, 28, 29, 30, 31, 32, 33, 34, 35, 36] (by decide +kernel) (by decide +kernel)
set_option maxRecDepth 20000 in
theorem gX7_brokenConstraints_X7_isBroken : GoodIn wsX7_brokenConstraints (wsV RX7 101 RX7 yX7_isBroken wsX7_isBroken) := goodIn_app (goodIn_of _ (by decide +kernel)) ggX7_brokenConstraints_X7_isBroken
theorem dX7_brokenConstraints_0 : decode cX7_brokenConstraints 0 = .ok (.iconst 0, 1) := by decide +kernel
theorem dX7_brokenConstraints_1 : decode cX7_brokenConstraints 1 = .ok (.istore_n 2, 1) := by decide +kernel
theorem dX7_brokenConstraints_2 : decode cX7_brokenConstraints 2 = .ok (.iconst 0, 1) := by decide +kernel
theorem dX7_brokenConstraints_3 : decode cX7_brokenConstraints 3 = .ok (.istore_n 3, 1) := by decide +kernel
theorem dX7_brokenConstraints_4 : decode cX7_brokenConstraints 4 = .ok (.iload_n 3, 1) := by decide +kernel
theorem dX7_brokenConstraints_5 : decode cX7_brokenConstraints 5 = .ok (.aload_n 0, 1) := by decide +kernel
theorem dX7_brokenConstraints_6 : decode cX7_brokenConstraints 6 = .ok (.getfield 84, 3) := by decide +kernel
theorem dX7_brokenConstraints_9 : decode cX7_brokenConstraints 9 = .ok (.if_icmp .ge 24, 3) := by decide +kernel
theorem dX7_brokenConstraints_12 : decode cX7_brokenConstraints 12 = .ok (.aload_n 0, 1) := by decide +kernel
theorem dX7_brokenConstraints_13 : decode cX7_brokenConstraints 13 = .ok (.iload_n 3, 1) := by decide +kernel
theorem dX7_brokenConstraints_14 : decode cX7_brokenConstraints 14 = .ok (.iload_n 1, 1) := by decide +kernel
theorem dX7_brokenConstraints_15 : decode cX7_brokenConstraints 15 = .ok (.invokevirtual 101, 3) := by decide +kernel
theorem dX7_brokenConstraints_18 : decode cX7_brokenConstraints 18 = .ok (.ifCond .eq 9, 3) := by decide +kernel
theorem dX7_brokenConstraints_21 : decode cX7_brokenConstraints 21 = .ok (.iload_n 2, 1) := by decide +kernel
theorem dX7_brokenConstraints_22 : decode cX7_brokenConstraints 22 = .ok (.iconst 1, 1) := by decide +kernel
theorem dX7_brokenConstraints_23 : decode cX7_brokenConstraints 23 = .ok (.iload_n 3, 1) := by decide +kernel
theorem dX7_brokenConstraints_24 : decode cX7_brokenConstraints 24 = .ok (.ishl, 1) := by decide +kernel
theorem dX7_brokenConstraints_25 : decode cX7_brokenConstraints 25 = .ok (.ior, 1) := by decide +kernel
theorem dX7_brokenConstraints_26 : decode cX7_brokenConstraints 26 = .ok (.istore_n 2, 1) := by decide +kernel
theorem dX7_brokenConstraints_27 : decode cX7_brokenConstraints 27 = .ok (.iinc 3 1, 3) := by decide +kernel
theorem dX7_brokenConstraints_30 : decode cX7_brokenConstraints 30 = .ok (.goto (-26), 3) := by decide +kernel
theorem dX7_brokenConstraints_33 : decode cX7_brokenConstraints 33 = .ok (.iload_n 2, 1) := by decide +kernel
theorem dX7_brokenConstraints_34 : decode cX7_brokenConstraints 34 = .ok (.ireturn, 1) := by decide +kernel
set_option maxRecDepth 20000 in
theorem ggX7_sum_X7_has : GoodIn wsX7_sum wsX7_has := goodIn_r _ [5] (by decide +kernel) (by decide +kernel)
set_option maxRecDepth 20000 in
theorem gX7_sum_X7_has : GoodIn wsX7_sum (va_wsS RX7 93 yX7_has wsX7_has) := goodIn_app (goodIn_of _ (by decide +kernel)) ggX7_sum_X7_has
theorem dX7_sum_0 : decode cX7_sum 0 = .ok (.iconst 0, 1) := by decide +kernel
theorem dX7_sum_1 : decode cX7_sum 1 = .ok (.istore_n 3, 1) := by decide +kernel
theorem dX7_sum_2 : decode cX7_sum 2 = .ok (.iconst 0, 1) := by decide +kernel
theorem dX7_sum_3 : decode cX7_sum 3 = .ok (.istore 4, 2) := by decide +kernel
theorem dX7_sum_5 : decode cX7_sum 5 = .ok (.iload 4, 2) := by decide +kernel
theorem dX7_sum_7 : decode cX7_sum 7 = .ok (.aload_n 0, 1) := by decide +kernel
theorem dX7_sum_8 : decode cX7_sum 8 = .ok (.getfield 9, 3) := by decide +kernel
theorem dX7_sum_11 : decode cX7_sum 11 = .ok (.if_icmp .ge 29, 3) := by decide +kernel
theorem dX7_sum_14 : decode cX7_sum 14 = .ok (.iload_n 3, 1) := by decide +kernel
theorem dX7_sum_15 : decode cX7_sum 15 = .ok (.iload_n 1, 1) := by decide +kernel
theorem dX7_sum_16 : decode cX7_sum 16 = .ok (.iload 4, 2) := by decide +kernel
theorem dX7_sum_18 : decode cX7_sum 18 = .ok (.invokestatic 93, 3) := by decide +kernel
theorem dX7_sum_21 : decode cX7_sum 21 = .ok (.ifCond .eq 10, 3) := by decide +kernel
theorem dX7_sum_24 : decode cX7_sum 24 = .ok (.aload_n 2, 1) := by decide +kernel
theorem dX7_sum_25 : decode cX7_sum 25 = .ok (.iload 4, 2) := by decide +kernel
theorem dX7_sum_27 : decode cX7_sum 27 = .ok (.iaload, 1) := by decide +kernel
theorem dX7_sum_28 : decode cX7_sum 28 = .ok (.goto 4, 3) := by decide +kernel
theorem dX7_sum_31 : decode cX7_sum 31 = .ok (.iconst 0, 1) := by decide +kernel
theorem dX7_sum_32 : decode cX7_sum 32 = .ok (.iadd, 1) := by decide +kernel
theorem dX7_sum_33 : decode cX7_sum 33 = .ok (.istore_n 3, 1) := by decide +kernel
theorem dX7_sum_34 : decode cX7_sum 34 = .ok (.iinc 4 1, 3) := by decide +kernel
theorem dX7_sum_37 : decode cX7_sum 37 = .ok (.goto (-32), 3) := by decide +kernel
theorem dX7_sum_40 : decode cX7_sum 40 = .ok (.iload_n 3, 1) := by decide +kernel
theorem dX7_sum_41 : decode cX7_sum 41 = .ok (.ireturn, 1) := by decide +kernel
set_option maxRecDepth 20000 in
theorem ggX7_fits_X7_sum : GoodIn wsX7_fits wsX7_sum := goodIn_r _ [9, 3, 10, 11, 8, 12, 13, 14, 15, 16, 17, 18, 19, 20, 21, 22, 23, 24, 25, 26, 27, 28, 29, 30, 31, 32, 33, 34, 35] (by decide +kernel) (by decide +kernel)
set_option maxRecDepth 20000 in
theorem gX7_fits_X7_sum : GoodIn wsX7_fits (wsV RX7 104 RX7 yX7_sum wsX7_sum) := goodIn_app (goodIn_of _ (by decide +kernel)) ggX7_fits_X7_sum
set_option maxRecDepth 20000 in
theorem ggX7_fits_X7_has : GoodIn wsX7_fits wsX7_has := goodIn_r _ [12] (by decide +kernel) (by decide +kernel)
set_option maxRecDepth 20000 in
theorem gX7_fits_X7_has : GoodIn wsX7_fits (va_wsS RX7 93 yX7_has wsX7_has) := goodIn_app (goodIn_of _ (by decide +kernel)) ggX7_fits_X7_has
theorem dX7_fits_0 : decode cX7_fits 0 = .ok (.aload_n 0, 1) := by decide +kernel
theorem dX7_fits_1 : decode cX7_fits 1 = .ok (.getfield 42, 3) := by decide +kernel
theorem dX7_fits_4 : decode cX7_fits 4 = .ok (.iconst (-1), 1) := by decide +kernel
theorem dX7_fits_5 : decode cX7_fits 5 = .ok (.if_icmp .eq 19, 3) := by decide +kernel
theorem dX7_fits_8 : decode cX7_fits 8 = .ok (.aload_n 0, 1) := by decide +kernel
theorem dX7_fits_9 : decode cX7_fits 9 = .ok (.iload_n 1, 1) := by decide +kernel
theorem dX7_fits_10 : decode cX7_fits 10 = .ok (.aload_n 0, 1) := by decide +kernel
theorem dX7_fits_11 : decode cX7_fits 11 = .ok (.getfield 20, 3) := by decide +kernel
theorem dX7_fits_14 : decode cX7_fits 14 = .ok (.invokevirtual 104, 3) := by decide +kernel
theorem dX7_fits_17 : decode cX7_fits 17 = .ok (.aload_n 0, 1) := by decide +kernel
theorem dX7_fits_18 : decode cX7_fits 18 = .ok (.getfield 42, 3) := by decide +kernel
theorem dX7_fits_21 : decode cX7_fits 21 = .ok (.if_icmp .gt 7, 3) := by decide +kernel
theorem dX7_fits_24 : decode cX7_fits 24 = .ok (.iconst 1, 1) := by decide +kernel
theorem dX7_fits_25 : decode cX7_fits 25 = .ok (.goto 4, 3) := by decide +kernel
theorem dX7_fits_28 : decode cX7_fits 28 = .ok (.iconst 0, 1) := by decide +kernel
theorem dX7_fits_29 : decode cX7_fits 29 = .ok (.istore_n 2, 1) := by decide +kernel
theorem dX7_fits_30 : decode cX7_fits 30 = .ok (.iconst 0, 1) := by decide +kernel
theorem dX7_fits_31 : decode cX7_fits 31 = .ok (.istore_n 3, 1) := by decide +kernel
theorem dX7_fits_32 : decode cX7_fits 32 = .ok (.iload_n 3, 1) := by decide +kernel
theorem dX7_fits_33 : decode cX7_fits 33 = .ok (.aload_n 0, 1) := by decide +kernel
theorem dX7_fits_34 : decode cX7_fits 34 = .ok (.getfield 9, 3) := by decide +kernel
theorem dX7_fits_37 : decode cX7_fits 37 = .ok (.if_icmp .ge 51, 3) := by decide +kernel
theorem dX7_fits_40 : decode cX7_fits 40 = .ok (.iload_n 2, 1) := by decide +kernel
theorem dX7_fits_41 : decode cX7_fits 41 = .ok (.ifCond .eq 39, 3) := by decide +kernel
theorem dX7_fits_44 : decode cX7_fits 44 = .ok (.aload_n 0, 1) := by decide +kernel
theorem dX7_fits_45 : decode cX7_fits 45 = .ok (.getfield 26, 3) := by decide +kernel
theorem dX7_fits_48 : decode cX7_fits 48 = .ok (.iload_n 3, 1) := by decide +kernel
theorem dX7_fits_49 : decode cX7_fits 49 = .ok (.iaload, 1) := by decide +kernel
theorem dX7_fits_50 : decode cX7_fits 50 = .ok (.ifCond .eq 26, 3) := by decide +kernel
theorem dX7_fits_53 : decode cX7_fits 53 = .ok (.iload_n 1, 1) := by decide +kernel
theorem dX7_fits_54 : decode cX7_fits 54 = .ok (.iload_n 3, 1) := by decide +kernel
theorem dX7_fits_55 : decode cX7_fits 55 = .ok (.invokestatic 93, 3) := by decide +kernel
theorem dX7_fits_58 : decode cX7_fits 58 = .ok (.aload_n 0, 1) := by decide +kernel
theorem dX7_fits_59 : decode cX7_fits 59 = .ok (.getfield 26, 3) := by decide +kernel
theorem dX7_fits_62 : decode cX7_fits 62 = .ok (.iload_n 3, 1) := by decide +kernel
theorem dX7_fits_63 : decode cX7_fits 63 = .ok (.iaload, 1) := by decide +kernel
theorem dX7_fits_64 : decode cX7_fits 64 = .ok (.iconst 1, 1) := by decide +kernel
theorem dX7_fits_65 : decode cX7_fits 65 = .ok (.if_icmp .ne 7, 3) := by decide +kernel
theorem dX7_fits_68 : decode cX7_fits 68 = .ok (.iconst 1, 1) := by decide +kernel
theorem dX7_fits_69 : decode cX7_fits 69 = .ok (.goto 4, 3) := by decide +kernel
theorem dX7_fits_72 : decode cX7_fits 72 = .ok (.iconst 0, 1) := by decide +kernel
theorem dX7_fits_73 : decode cX7_fits 73 = .ok (.if_icmp .ne 7, 3) := by decide +kernel
theorem dX7_fits_76 : decode cX7_fits 76 = .ok (.iconst 1, 1) := by decide +kernel
theorem dX7_fits_77 : decode cX7_fits 77 = .ok (.goto 4, 3) := by decide +kernel
theorem dX7_fits_80 : decode cX7_fits 80 = .ok (.iconst 0, 1) := by decide +kernel
theorem dX7_fits_81 : decode cX7_fits 81 = .ok (.istore_n 2, 1) := by decide +kernel
theorem dX7_fits_82 : decode cX7_fits 82 = .ok (.iinc 3 1, 3) := by decide +kernel
theorem dX7_fits_85 : decode cX7_fits 85 = .ok (.goto (-53), 3) := by decide +kernel
theorem dX7_fits_88 : decode cX7_fits 88 = .ok (.iload_n 2, 1) := by decide +kernel
theorem dX7_fits_89 : decode cX7_fits 89 = .ok (.ireturn, 1) := by decide +kernel
set_option maxRecDepth 20000 in
theorem ggX7_know_X7_sum : GoodIn wsX7_know wsX7_sum := goodIn_r _ [13, 2, 14, 15, 12, 16, 50, 51, 52, 53, 54, 55, 56, 57, 58, 59, 60, 61, 62, 63, 64, 65, 66, 67, 68, 69, 70, 71, 72] (by decide +kernel) (by decide +kernel)
set_option maxRecDepth 20000 in
theorem gX7_know_X7_sum : GoodIn wsX7_know (wsV RX7 104 RX7 yX7_sum wsX7_sum) := goodIn_app (goodIn_of _ (by decide +kernel)) ggX7_know_X7_sum
set_option maxRecDepth 20000 in
theorem ggX7_know_X7_brokenInTree : GoodIn wsX7_know wsX7_brokenInTree := goodIn_r _ [20, 2, 21, 22, 14, 15, 12, 16, 23, 24, 25, 26, 27, 28, 29, 30, 50, 51, 52, 53, 54, 55, 56, 57, 58, 59, 60, 61, 62, 63, 64, 65, 66, 67, 68, 69, 70, 71, 72] (by decide +kernel) (by decide +kernel)
set_option maxRecDepth 20000 in
theorem gX7_know_X7_brokenInTree : GoodIn wsX7_know (wsV RX7 108 RX7 yX7_brokenInTree wsX7_brokenInTree) := goodIn_app (goodIn_of _ (by decide +kernel)) ggX7_know_X7_brokenInTree
set_option maxRecDepth 20000 in
theorem ggX7_know_X7_brokenConstraints : GoodIn wsX7_know wsX7_brokenConstraints := goodIn_r _ [34, 35, 36, 37, 38, 12, 39, 40, 41, 42, 43, 14, 15, 16, 50, 51, 52, 53, 54, 55, 56, 57, 58, 59, 60, 61, 62, 63, 64, 65, 66, 67, 68, 69, 70, 71, 72] (by decide +kernel) (by decide +kernel)
set_option maxRecDepth 20000 in
theorem gX7_know_X7_brokenConstraints : GoodIn wsX7_know (wsV RX7 111 RX7 yX7_brokenConstraints wsX7_brokenConstraints) := goodIn_app (goodIn_of _ (by decide +kernel)) ggX7_know_X7_brokenConstraints
set_option maxRecDepth 20000 in
theorem ggX7_know_X7_fits : GoodIn wsX7_know wsX7_fits := goodIn_r _ [47, 48, 4, 2, 49, 9, 10, 11, 12, 13, 14, 15, 16, 50, 51, 52, 53, 54, 55, 56, 57, 58, 59, 60, 61, 62, 63, 64, 65, 66, 67, 68, 69, 70, 71, 72] (by decide +kernel) (by decide +kernel)
set_option maxRecDepth 20000 in
theorem gX7_know_X7_fits : GoodIn wsX7_know (wsV RX7 114 RX7 yX7_fits wsX7_fits) := goodIn_app (goodIn_of _ (by decide +kernel)) ggX7_know_X7_fits
theorem dX7_know_0 : decode cX7_know 0 = .ok (.aload_n 0, 1) := by decide +kernel
theorem dX7_know_1 : decode cX7_know 1 = .ok (.getfield 66, 3) := by decide +kernel
theorem dX7_know_4 : decode cX7_know 4 = .ok (.ifCond .eq 4, 3) := by decide +kernel
theorem dX7_know_7 : decode cX7_know 7 = .ok (.return_, 1) := by decide +kernel
theorem dX7_know_8 : decode cX7_know 8 = .ok (.aload_n 0, 1) := by decide +kernel
theorem dX7_know_9 : decode cX7_know 9 = .ok (.iconst 1, 1) := by decide +kernel
theorem dX7_know_10 : decode cX7_know 10 = .ok (.putfield 66, 3) := by decide +kernel
theorem dX7_know_13 : decode cX7_know 13 = .ok (.iconst 0, 1) := by decide +kernel
theorem dX7_know_14 : decode cX7_know 14 = .ok (.istore_n 1, 1) := by decide +kernel
theorem dX7_know_15 : decode cX7_know 15 = .ok (.iload_n 1, 1) := by decide +kernel
theorem dX7_know_16 : decode cX7_know 16 = .ok (.iconst 1, 1) := by decide +kernel
theorem dX7_know_17 : decode cX7_know 17 = .ok (.aload_n 0, 1) := by decide +kernel
theorem dX7_know_18 : decode cX7_know 18 = .ok (.getfield 9, 3) := by decide +kernel
theorem dX7_know_21 : decode cX7_know 21 = .ok (.ishl, 1) := by decide +kernel
theorem dX7_know_22 : decode cX7_know 22 = .ok (.if_icmp .ge 94, 3) := by decide +kernel
theorem dX7_know_25 : decode cX7_know 25 = .ok (.aload_n 0, 1) := by decide +kernel
theorem dX7_know_26 : decode cX7_know 26 = .ok (.getfield 51, 3) := by decide +kernel
theorem dX7_know_29 : decode cX7_know 29 = .ok (.iload_n 1, 1) := by decide +kernel
theorem dX7_know_30 : decode cX7_know 30 = .ok (.aload_n 0, 1) := by decide +kernel
theorem dX7_know_31 : decode cX7_know 31 = .ok (.iload_n 1, 1) := by decide +kernel
theorem dX7_know_32 : decode cX7_know 32 = .ok (.aload_n 0, 1) := by decide +kernel
theorem dX7_know_33 : decode cX7_know 33 = .ok (.getfield 20, 3) := by decide +kernel
theorem dX7_know_36 : decode cX7_know 36 = .ok (.invokevirtual 104, 3) := by decide +kernel
theorem dX7_know_39 : decode cX7_know 39 = .ok (.iastore, 1) := by decide +kernel
theorem dX7_know_40 : decode cX7_know 40 = .ok (.aload_n 0, 1) := by decide +kernel
theorem dX7_know_41 : decode cX7_know 41 = .ok (.getfield 54, 3) := by decide +kernel
theorem dX7_know_44 : decode cX7_know 44 = .ok (.iload_n 1, 1) := by decide +kernel
theorem dX7_know_45 : decode cX7_know 45 = .ok (.aload_n 0, 1) := by decide +kernel
theorem dX7_know_46 : decode cX7_know 46 = .ok (.iload_n 1, 1) := by decide +kernel
theorem dX7_know_47 : decode cX7_know 47 = .ok (.aload_n 0, 1) := by decide +kernel
theorem dX7_know_48 : decode cX7_know 48 = .ok (.getfield 23, 3) := by decide +kernel
theorem dX7_know_51 : decode cX7_know 51 = .ok (.invokevirtual 104, 3) := by decide +kernel
theorem dX7_know_54 : decode cX7_know 54 = .ok (.iastore, 1) := by decide +kernel
theorem dX7_know_55 : decode cX7_know 55 = .ok (.aload_n 0, 1) := by decide +kernel
theorem dX7_know_56 : decode cX7_know 56 = .ok (.getfield 45, 3) := by decide +kernel
theorem dX7_know_59 : decode cX7_know 59 = .ok (.iload_n 1, 1) := by decide +kernel
theorem dX7_know_60 : decode cX7_know 60 = .ok (.aload_n 0, 1) := by decide +kernel
theorem dX7_know_61 : decode cX7_know 61 = .ok (.iload_n 1, 1) := by decide +kernel
theorem dX7_know_62 : decode cX7_know 62 = .ok (.invokevirtual 108, 3) := by decide +kernel
theorem dX7_know_65 : decode cX7_know 65 = .ok (.ifCond .ne 15, 3) := by decide +kernel
theorem dX7_know_68 : decode cX7_know 68 = .ok (.aload_n 0, 1) := by decide +kernel
theorem dX7_know_69 : decode cX7_know 69 = .ok (.iload_n 1, 1) := by decide +kernel
theorem dX7_know_70 : decode cX7_know 70 = .ok (.invokevirtual 111, 3) := by decide +kernel
theorem dX7_know_73 : decode cX7_know 73 = .ok (.ifCond .ne 7, 3) := by decide +kernel
theorem dX7_know_76 : decode cX7_know 76 = .ok (.iconst 1, 1) := by decide +kernel
theorem dX7_know_77 : decode cX7_know 77 = .ok (.goto 4, 3) := by decide +kernel
theorem dX7_know_80 : decode cX7_know 80 = .ok (.iconst 0, 1) := by decide +kernel
theorem dX7_know_81 : decode cX7_know 81 = .ok (.bastore, 1) := by decide +kernel
theorem dX7_know_82 : decode cX7_know 82 = .ok (.aload_n 0, 1) := by decide +kernel
theorem dX7_know_83 : decode cX7_know 83 = .ok (.getfield 48, 3) := by decide +kernel
theorem dX7_know_86 : decode cX7_know 86 = .ok (.iload_n 1, 1) := by decide +kernel
theorem dX7_know_87 : decode cX7_know 87 = .ok (.aload_n 0, 1) := by decide +kernel
theorem dX7_know_88 : decode cX7_know 88 = .ok (.getfield 45, 3) := by decide +kernel
theorem dX7_know_91 : decode cX7_know 91 = .ok (.iload_n 1, 1) := by decide +kernel
theorem dX7_know_92 : decode cX7_know 92 = .ok (.baload, 1) := by decide +kernel
theorem dX7_know_93 : decode cX7_know 93 = .ok (.ifCond .eq 15, 3) := by decide +kernel
theorem dX7_know_96 : decode cX7_know 96 = .ok (.aload_n 0, 1) := by decide +kernel
theorem dX7_know_97 : decode cX7_know 97 = .ok (.iload_n 1, 1) := by decide +kernel
theorem dX7_know_98 : decode cX7_know 98 = .ok (.invokevirtual 114, 3) := by decide +kernel
theorem dX7_know_101 : decode cX7_know 101 = .ok (.ifCond .eq 7, 3) := by decide +kernel
theorem dX7_know_104 : decode cX7_know 104 = .ok (.iconst 1, 1) := by decide +kernel
theorem dX7_know_105 : decode cX7_know 105 = .ok (.goto 4, 3) := by decide +kernel
theorem dX7_know_108 : decode cX7_know 108 = .ok (.iconst 0, 1) := by decide +kernel
theorem dX7_know_109 : decode cX7_know 109 = .ok (.bastore, 1) := by decide +kernel
theorem dX7_know_110 : decode cX7_know 110 = .ok (.iinc 1 1, 3) := by decide +kernel
theorem dX7_know_113 : decode cX7_know 113 = .ok (.goto (-98), 3) := by decide +kernel
theorem dX7_know_116 : decode cX7_know 116 = .ok (.return_, 1) := by decide +kernel
set_option maxRecDepth 20000 in
theorem ggX7_violations_X7_isConfiguration : GoodIn wsX7_violations wsX7_isConfiguration := goodIn_r _ [6, 7, 45, 46, 47, 48, 49, 50, 51, 52, 53, 54, 55, 56, 57, 58, 59, 60, 61, 62, 63, 64, 65, 66, 67] (by decide +kernel) (by decide +kernel)
set_option maxRecDepth 20000 in
theorem gX7_violations_X7_isConfiguration : GoodIn wsX7_violations (wsV RX7 117 RX7 yX7_isConfiguration wsX7_isConfiguration) := goodIn_app (goodIn_of _ (by decide +kernel)) ggX7_violations_X7_isConfiguration
set_option maxRecDepth 20000 in
theorem ggX7_violations_X7_brokenInTree : GoodIn wsX7_violations wsX7_brokenInTree := goodIn_r _ [11, 7, 12, 13, 14, 15, 5, 16, 17, 18, 19, 20, 21, 22, 23, 24, 45, 46, 47, 48, 49, 50, 51, 52, 53, 54, 55, 56, 57, 58, 59, 60, 61, 62, 63, 64, 65, 66, 67] (by decide +kernel) (by decide +kernel)
set_option maxRecDepth 20000 in
theorem gX7_violations_X7_brokenInTree : GoodIn wsX7_violations (wsV RX7 108 RX7 yX7_brokenInTree wsX7_brokenInTree) := goodIn_app (goodIn_of _ (by decide +kernel)) ggX7_violations_X7_brokenInTree
set_option maxRecDepth 20000 in
theorem ggX7_violations_X7_brokenConstraints : GoodIn wsX7_violations wsX7_brokenConstraints := goodIn_r _ [28, 29, 30, 31, 32, 5, 33, 34, 35, 36, 37, 14, 15, 16, 45, 46, 47, 48, 49, 50, 51, 52, 53, 54, 55, 56, 57, 58, 59, 60, 61, 62, 63, 64, 65, 66, 67] (by decide +kernel) (by decide +kernel)
set_option maxRecDepth 20000 in
theorem gX7_violations_X7_brokenConstraints : GoodIn wsX7_violations (wsV RX7 111 RX7 yX7_brokenConstraints wsX7_brokenConstraints) := goodIn_app (goodIn_of _ (by decide +kernel)) ggX7_violations_X7_brokenConstraints
set_option maxRecDepth 20000 in
theorem ggX7_violations_J6_bitCount_0f7a4 : GoodIn wsX7_violations wsJ6_bitCount_0f7a4 := goodIn_r _ [41, 42, 43, 44] (by decide +kernel) (by decide +kernel)
set_option maxRecDepth 20000 in
theorem gX7_violations_J6_bitCount_0f7a4 : GoodIn wsX7_violations (va_wsS RX7 120 yJ6_bitCount_0f7a4 wsJ6_bitCount_0f7a4) := goodIn_app (goodIn_of _ (by decide +kernel)) ggX7_violations_J6_bitCount_0f7a4
theorem dX7_violations_0 : decode cX7_violations 0 = .ok (.aload_n 0, 1) := by decide +kernel
theorem dX7_violations_1 : decode cX7_violations 1 = .ok (.aload_n 0, 1) := by decide +kernel
theorem dX7_violations_2 : decode cX7_violations 2 = .ok (.iload_n 1, 1) := by decide +kernel
theorem dX7_violations_3 : decode cX7_violations 3 = .ok (.invokevirtual 117, 3) := by decide +kernel
theorem dX7_violations_6 : decode cX7_violations 6 = .ok (.ifCond .eq 7, 3) := by decide +kernel
theorem dX7_violations_9 : decode cX7_violations 9 = .ok (.iconst 0, 1) := by decide +kernel
theorem dX7_violations_10 : decode cX7_violations 10 = .ok (.goto 4, 3) := by decide +kernel
theorem dX7_violations_13 : decode cX7_violations 13 = .ok (.iconst 1, 1) := by decide +kernel
theorem dX7_violations_14 : decode cX7_violations 14 = .ok (.putfield 63, 3) := by decide +kernel
theorem dX7_violations_17 : decode cX7_violations 17 = .ok (.aload_n 0, 1) := by decide +kernel
theorem dX7_violations_18 : decode cX7_violations 18 = .ok (.getfield 63, 3) := by decide +kernel
theorem dX7_violations_21 : decode cX7_violations 21 = .ok (.ifCond .ne 20, 3) := by decide +kernel
theorem dX7_violations_24 : decode cX7_violations 24 = .ok (.aload_n 0, 1) := by decide +kernel
theorem dX7_violations_25 : decode cX7_violations 25 = .ok (.iload_n 1, 1) := by decide +kernel
theorem dX7_violations_26 : decode cX7_violations 26 = .ok (.invokevirtual 108, 3) := by decide +kernel
theorem dX7_violations_29 : decode cX7_violations 29 = .ok (.aload_n 0, 1) := by decide +kernel
theorem dX7_violations_30 : decode cX7_violations 30 = .ok (.iload_n 1, 1) := by decide +kernel
theorem dX7_violations_31 : decode cX7_violations 31 = .ok (.invokevirtual 111, 3) := by decide +kernel
theorem dX7_violations_34 : decode cX7_violations 34 = .ok (.invokestatic 120, 3) := by decide +kernel
theorem dX7_violations_37 : decode cX7_violations 37 = .ok (.iadd, 1) := by decide +kernel
theorem dX7_violations_38 : decode cX7_violations 38 = .ok (.goto 4, 3) := by decide +kernel
theorem dX7_violations_41 : decode cX7_violations 41 = .ok (.iconst 0, 1) := by decide +kernel
theorem dX7_violations_42 : decode cX7_violations 42 = .ok (.ireturn, 1) := by decide +kernel
set_option maxRecDepth 20000 in
theorem ggX7_costOf_X7_isConfiguration : GoodIn wsX7_costOf wsX7_isConfiguration := goodIn_r _ [7, 8, 16, 17, 18, 19, 20, 21, 22, 23, 24, 25, 26, 27, 28, 29, 30, 31, 32, 33, 34, 35, 36, 37, 38] (by decide +kernel) (by decide +kernel)
set_option maxRecDepth 20000 in
theorem gX7_costOf_X7_isConfiguration : GoodIn wsX7_costOf (wsV RX7 117 RX7 yX7_isConfiguration wsX7_isConfiguration) := goodIn_app (goodIn_of _ (by decide +kernel)) ggX7_costOf_X7_isConfiguration
set_option maxRecDepth 20000 in
theorem ggX7_costOf_X7_sum : GoodIn wsX7_costOf wsX7_sum := goodIn_r _ [12, 8, 13, 14, 6, 15, 16, 17, 18, 19, 20, 21, 22, 23, 24, 25, 26, 27, 28, 29, 30, 31, 32, 33, 34, 35, 36, 37, 38] (by decide +kernel) (by decide +kernel)
set_option maxRecDepth 20000 in
theorem gX7_costOf_X7_sum : GoodIn wsX7_costOf (wsV RX7 104 RX7 yX7_sum wsX7_sum) := goodIn_app (goodIn_of _ (by decide +kernel)) ggX7_costOf_X7_sum
theorem dX7_costOf_0 : decode cX7_costOf 0 = .ok (.aload_n 0, 1) := by decide +kernel
theorem dX7_costOf_1 : decode cX7_costOf 1 = .ok (.aload_n 0, 1) := by decide +kernel
theorem dX7_costOf_2 : decode cX7_costOf 2 = .ok (.iload_n 1, 1) := by decide +kernel
theorem dX7_costOf_3 : decode cX7_costOf 3 = .ok (.invokevirtual 117, 3) := by decide +kernel
theorem dX7_costOf_6 : decode cX7_costOf 6 = .ok (.ifCond .eq 7, 3) := by decide +kernel
theorem dX7_costOf_9 : decode cX7_costOf 9 = .ok (.iconst 0, 1) := by decide +kernel
theorem dX7_costOf_10 : decode cX7_costOf 10 = .ok (.goto 4, 3) := by decide +kernel
theorem dX7_costOf_13 : decode cX7_costOf 13 = .ok (.iconst 1, 1) := by decide +kernel
theorem dX7_costOf_14 : decode cX7_costOf 14 = .ok (.putfield 63, 3) := by decide +kernel
theorem dX7_costOf_17 : decode cX7_costOf 17 = .ok (.aload_n 0, 1) := by decide +kernel
theorem dX7_costOf_18 : decode cX7_costOf 18 = .ok (.getfield 63, 3) := by decide +kernel
theorem dX7_costOf_21 : decode cX7_costOf 21 = .ok (.ifCond .ne 15, 3) := by decide +kernel
theorem dX7_costOf_24 : decode cX7_costOf 24 = .ok (.aload_n 0, 1) := by decide +kernel
theorem dX7_costOf_25 : decode cX7_costOf 25 = .ok (.iload_n 1, 1) := by decide +kernel
theorem dX7_costOf_26 : decode cX7_costOf 26 = .ok (.aload_n 0, 1) := by decide +kernel
theorem dX7_costOf_27 : decode cX7_costOf 27 = .ok (.getfield 20, 3) := by decide +kernel
theorem dX7_costOf_30 : decode cX7_costOf 30 = .ok (.invokevirtual 104, 3) := by decide +kernel
theorem dX7_costOf_33 : decode cX7_costOf 33 = .ok (.goto 4, 3) := by decide +kernel
theorem dX7_costOf_36 : decode cX7_costOf 36 = .ok (.iconst 0, 1) := by decide +kernel
theorem dX7_costOf_37 : decode cX7_costOf 37 = .ok (.ireturn, 1) := by decide +kernel
set_option maxRecDepth 20000 in
theorem ggX7_valueOf_X7_isConfiguration : GoodIn wsX7_valueOf wsX7_isConfiguration := goodIn_r _ [7, 8, 16, 17, 18, 19, 20, 21, 22, 23, 24, 25, 26, 27, 28, 29, 30, 31, 32, 33, 34, 35, 36, 37, 38] (by decide +kernel) (by decide +kernel)
set_option maxRecDepth 20000 in
theorem gX7_valueOf_X7_isConfiguration : GoodIn wsX7_valueOf (wsV RX7 117 RX7 yX7_isConfiguration wsX7_isConfiguration) := goodIn_app (goodIn_of _ (by decide +kernel)) ggX7_valueOf_X7_isConfiguration
set_option maxRecDepth 20000 in
theorem ggX7_valueOf_X7_sum : GoodIn wsX7_valueOf wsX7_sum := goodIn_r _ [12, 8, 13, 14, 6, 15, 16, 17, 18, 19, 20, 21, 22, 23, 24, 25, 26, 27, 28, 29, 30, 31, 32, 33, 34, 35, 36, 37, 38] (by decide +kernel) (by decide +kernel)
set_option maxRecDepth 20000 in
theorem gX7_valueOf_X7_sum : GoodIn wsX7_valueOf (wsV RX7 104 RX7 yX7_sum wsX7_sum) := goodIn_app (goodIn_of _ (by decide +kernel)) ggX7_valueOf_X7_sum
theorem dX7_valueOf_0 : decode cX7_valueOf 0 = .ok (.aload_n 0, 1) := by decide +kernel
theorem dX7_valueOf_1 : decode cX7_valueOf 1 = .ok (.aload_n 0, 1) := by decide +kernel
theorem dX7_valueOf_2 : decode cX7_valueOf 2 = .ok (.iload_n 1, 1) := by decide +kernel
theorem dX7_valueOf_3 : decode cX7_valueOf 3 = .ok (.invokevirtual 117, 3) := by decide +kernel
theorem dX7_valueOf_6 : decode cX7_valueOf 6 = .ok (.ifCond .eq 7, 3) := by decide +kernel
theorem dX7_valueOf_9 : decode cX7_valueOf 9 = .ok (.iconst 0, 1) := by decide +kernel
theorem dX7_valueOf_10 : decode cX7_valueOf 10 = .ok (.goto 4, 3) := by decide +kernel
theorem dX7_valueOf_13 : decode cX7_valueOf 13 = .ok (.iconst 1, 1) := by decide +kernel
theorem dX7_valueOf_14 : decode cX7_valueOf 14 = .ok (.putfield 63, 3) := by decide +kernel
theorem dX7_valueOf_17 : decode cX7_valueOf 17 = .ok (.aload_n 0, 1) := by decide +kernel
theorem dX7_valueOf_18 : decode cX7_valueOf 18 = .ok (.getfield 63, 3) := by decide +kernel
theorem dX7_valueOf_21 : decode cX7_valueOf 21 = .ok (.ifCond .ne 15, 3) := by decide +kernel
theorem dX7_valueOf_24 : decode cX7_valueOf 24 = .ok (.aload_n 0, 1) := by decide +kernel
theorem dX7_valueOf_25 : decode cX7_valueOf 25 = .ok (.iload_n 1, 1) := by decide +kernel
theorem dX7_valueOf_26 : decode cX7_valueOf 26 = .ok (.aload_n 0, 1) := by decide +kernel
theorem dX7_valueOf_27 : decode cX7_valueOf 27 = .ok (.getfield 23, 3) := by decide +kernel
theorem dX7_valueOf_30 : decode cX7_valueOf 30 = .ok (.invokevirtual 104, 3) := by decide +kernel
theorem dX7_valueOf_33 : decode cX7_valueOf 33 = .ok (.goto 4, 3) := by decide +kernel
theorem dX7_valueOf_36 : decode cX7_valueOf 36 = .ok (.iconst 0, 1) := by decide +kernel
theorem dX7_valueOf_37 : decode cX7_valueOf 37 = .ok (.ireturn, 1) := by decide +kernel
theorem dX7_count_0 : decode cX7_count 0 = .ok (.iconst 0, 1) := by decide +kernel
theorem dX7_count_1 : decode cX7_count 1 = .ok (.istore_n 2, 1) := by decide +kernel
theorem dX7_count_2 : decode cX7_count 2 = .ok (.iconst 0, 1) := by decide +kernel
theorem dX7_count_3 : decode cX7_count 3 = .ok (.istore_n 3, 1) := by decide +kernel
theorem dX7_count_4 : decode cX7_count 4 = .ok (.iload_n 3, 1) := by decide +kernel
theorem dX7_count_5 : decode cX7_count 5 = .ok (.iconst 1, 1) := by decide +kernel
theorem dX7_count_6 : decode cX7_count 6 = .ok (.aload_n 0, 1) := by decide +kernel
theorem dX7_count_7 : decode cX7_count 7 = .ok (.getfield 9, 3) := by decide +kernel
theorem dX7_count_10 : decode cX7_count 10 = .ok (.ishl, 1) := by decide +kernel
theorem dX7_count_11 : decode cX7_count 11 = .ok (.if_icmp .ge 23, 3) := by decide +kernel
theorem dX7_count_14 : decode cX7_count 14 = .ok (.iload_n 2, 1) := by decide +kernel
theorem dX7_count_15 : decode cX7_count 15 = .ok (.aload_n 1, 1) := by decide +kernel
theorem dX7_count_16 : decode cX7_count 16 = .ok (.iload_n 3, 1) := by decide +kernel
theorem dX7_count_17 : decode cX7_count 17 = .ok (.baload, 1) := by decide +kernel
theorem dX7_count_18 : decode cX7_count 18 = .ok (.ifCond .eq 7, 3) := by decide +kernel
theorem dX7_count_21 : decode cX7_count 21 = .ok (.iconst 1, 1) := by decide +kernel
theorem dX7_count_22 : decode cX7_count 22 = .ok (.goto 4, 3) := by decide +kernel
theorem dX7_count_25 : decode cX7_count 25 = .ok (.iconst 0, 1) := by decide +kernel
theorem dX7_count_26 : decode cX7_count 26 = .ok (.iadd, 1) := by decide +kernel
theorem dX7_count_27 : decode cX7_count 27 = .ok (.istore_n 2, 1) := by decide +kernel
theorem dX7_count_28 : decode cX7_count 28 = .ok (.iinc 3 1, 3) := by decide +kernel
theorem dX7_count_31 : decode cX7_count 31 = .ok (.goto (-27), 3) := by decide +kernel
theorem dX7_count_34 : decode cX7_count 34 = .ok (.iload_n 2, 1) := by decide +kernel
theorem dX7_count_35 : decode cX7_count 35 = .ok (.ireturn, 1) := by decide +kernel
set_option maxRecDepth 20000 in
theorem ggX7_member_X7_fail : GoodIn wsX7_member wsX7_fail := goodIn_r _ [6, 7, 8, 9, 10, 11, 12, 13, 14, 15, 16, 17, 18, 19, 20, 21, 22, 23, 24, 25, 26, 27, 28, 29, 30] (by decide +kernel) (by decide +kernel)
set_option maxRecDepth 20000 in
theorem gX7_member_X7_fail : GoodIn wsX7_member (wsV RX7 77 RX7 yX7_fail wsX7_fail) := goodIn_app (goodIn_of _ (by decide +kernel)) ggX7_member_X7_fail
theorem dX7_member_0 : decode cX7_member 0 = .ok (.iload_n 2, 1) := by decide +kernel
theorem dX7_member_1 : decode cX7_member 1 = .ok (.istore 4, 2) := by decide +kernel
theorem dX7_member_3 : decode cX7_member 3 = .ok (.iconst 0, 1) := by decide +kernel
theorem dX7_member_4 : decode cX7_member 4 = .ok (.istore 5, 2) := by decide +kernel
theorem dX7_member_6 : decode cX7_member 6 = .ok (.iload 5, 2) := by decide +kernel
theorem dX7_member_8 : decode cX7_member 8 = .ok (.iconst 1, 1) := by decide +kernel
theorem dX7_member_9 : decode cX7_member 9 = .ok (.aload_n 0, 1) := by decide +kernel
theorem dX7_member_10 : decode cX7_member 10 = .ok (.getfield 9, 3) := by decide +kernel
theorem dX7_member_13 : decode cX7_member 13 = .ok (.ishl, 1) := by decide +kernel
theorem dX7_member_14 : decode cX7_member 14 = .ok (.if_icmp .ge 34, 3) := by decide +kernel
theorem dX7_member_17 : decode cX7_member 17 = .ok (.iload_n 2, 1) := by decide +kernel
theorem dX7_member_18 : decode cX7_member 18 = .ok (.ifCond .lt 30, 3) := by decide +kernel
theorem dX7_member_21 : decode cX7_member 21 = .ok (.aload_n 1, 1) := by decide +kernel
theorem dX7_member_22 : decode cX7_member 22 = .ok (.iload 5, 2) := by decide +kernel
theorem dX7_member_24 : decode cX7_member 24 = .ok (.baload, 1) := by decide +kernel
theorem dX7_member_25 : decode cX7_member 25 = .ok (.ifCond .ne 6, 3) := by decide +kernel
theorem dX7_member_28 : decode cX7_member 28 = .ok (.goto 14, 3) := by decide +kernel
theorem dX7_member_31 : decode cX7_member 31 = .ok (.iload 4, 2) := by decide +kernel
theorem dX7_member_33 : decode cX7_member 33 = .ok (.ifCond .ne 6, 3) := by decide +kernel
theorem dX7_member_36 : decode cX7_member 36 = .ok (.iload 5, 2) := by decide +kernel
theorem dX7_member_38 : decode cX7_member 38 = .ok (.ireturn, 1) := by decide +kernel
theorem dX7_member_39 : decode cX7_member 39 = .ok (.iinc 4 (-1), 3) := by decide +kernel
theorem dX7_member_42 : decode cX7_member 42 = .ok (.iinc 5 1, 3) := by decide +kernel
theorem dX7_member_45 : decode cX7_member 45 = .ok (.goto (-39), 3) := by decide +kernel
theorem dX7_member_48 : decode cX7_member 48 = .ok (.aload_n 0, 1) := by decide +kernel
theorem dX7_member_49 : decode cX7_member 49 = .ok (.iload_n 3, 1) := by decide +kernel
theorem dX7_member_50 : decode cX7_member 50 = .ok (.invokevirtual 77, 3) := by decide +kernel
theorem dX7_member_53 : decode cX7_member 53 = .ok (.ireturn, 1) := by decide +kernel
set_option maxRecDepth 20000 in
theorem ggX7_countWith_X7_has : GoodIn wsX7_countWith wsX7_has := goodIn_r _ [5] (by decide +kernel) (by decide +kernel)
set_option maxRecDepth 20000 in
theorem gX7_countWith_X7_has : GoodIn wsX7_countWith (va_wsS RX7 93 yX7_has wsX7_has) := goodIn_app (goodIn_of _ (by decide +kernel)) ggX7_countWith_X7_has
theorem dX7_countWith_0 : decode cX7_countWith 0 = .ok (.iconst 0, 1) := by decide +kernel
theorem dX7_countWith_1 : decode cX7_countWith 1 = .ok (.istore_n 3, 1) := by decide +kernel
theorem dX7_countWith_2 : decode cX7_countWith 2 = .ok (.iconst 0, 1) := by decide +kernel
theorem dX7_countWith_3 : decode cX7_countWith 3 = .ok (.istore 4, 2) := by decide +kernel
theorem dX7_countWith_5 : decode cX7_countWith 5 = .ok (.iload 4, 2) := by decide +kernel
theorem dX7_countWith_7 : decode cX7_countWith 7 = .ok (.iconst 1, 1) := by decide +kernel
theorem dX7_countWith_8 : decode cX7_countWith 8 = .ok (.aload_n 0, 1) := by decide +kernel
theorem dX7_countWith_9 : decode cX7_countWith 9 = .ok (.getfield 9, 3) := by decide +kernel
theorem dX7_countWith_12 : decode cX7_countWith 12 = .ok (.ishl, 1) := by decide +kernel
theorem dX7_countWith_13 : decode cX7_countWith 13 = .ok (.if_icmp .ge 33, 3) := by decide +kernel
theorem dX7_countWith_16 : decode cX7_countWith 16 = .ok (.iload_n 3, 1) := by decide +kernel
theorem dX7_countWith_17 : decode cX7_countWith 17 = .ok (.aload_n 1, 1) := by decide +kernel
theorem dX7_countWith_18 : decode cX7_countWith 18 = .ok (.iload 4, 2) := by decide +kernel
theorem dX7_countWith_20 : decode cX7_countWith 20 = .ok (.baload, 1) := by decide +kernel
theorem dX7_countWith_21 : decode cX7_countWith 21 = .ok (.ifCond .eq 16, 3) := by decide +kernel
theorem dX7_countWith_24 : decode cX7_countWith 24 = .ok (.iload 4, 2) := by decide +kernel
theorem dX7_countWith_26 : decode cX7_countWith 26 = .ok (.iload_n 2, 1) := by decide +kernel
theorem dX7_countWith_27 : decode cX7_countWith 27 = .ok (.invokestatic 93, 3) := by decide +kernel
theorem dX7_countWith_30 : decode cX7_countWith 30 = .ok (.ifCond .eq 7, 3) := by decide +kernel
theorem dX7_countWith_33 : decode cX7_countWith 33 = .ok (.iconst 1, 1) := by decide +kernel
theorem dX7_countWith_34 : decode cX7_countWith 34 = .ok (.goto 4, 3) := by decide +kernel
theorem dX7_countWith_37 : decode cX7_countWith 37 = .ok (.iconst 0, 1) := by decide +kernel
theorem dX7_countWith_38 : decode cX7_countWith 38 = .ok (.iadd, 1) := by decide +kernel
theorem dX7_countWith_39 : decode cX7_countWith 39 = .ok (.istore_n 3, 1) := by decide +kernel
theorem dX7_countWith_40 : decode cX7_countWith 40 = .ok (.iinc 4 1, 3) := by decide +kernel
theorem dX7_countWith_43 : decode cX7_countWith 43 = .ok (.goto (-38), 3) := by decide +kernel
theorem dX7_countWith_46 : decode cX7_countWith 46 = .ok (.iload_n 3, 1) := by decide +kernel
theorem dX7_countWith_47 : decode cX7_countWith 47 = .ok (.ireturn, 1) := by decide +kernel
set_option maxRecDepth 20000 in
theorem ggX7_productCount_X7_know : GoodIn wsX7_productCount wsX7_know := goodIn_r _ [7, 8, 9, 10, 11, 12, 13, 2, 14, 15, 16, 17, 6, 18, 19, 20, 21, 22, 23, 24, 25, 26, 27, 28, 29, 30, 31, 32, 33, 34, 35, 36, 37, 38, 39, 40, 41, 42, 43, 44, 45, 46, 47, 48, 49, 50, 51, 52, 53, 54, 59, 60, 61, 62, 63, 64, 65, 66, 67, 68, 69, 70, 71, 72, 73, 74, 75, 76, 77, 78, 79, 80, 81] (by decide +kernel) (by decide +kernel)
set_option maxRecDepth 20000 in
theorem gX7_productCount_X7_know : GoodIn wsX7_productCount (wsV RX7 125 RX7 yX7_know wsX7_know) := goodIn_app (goodIn_of _ (by decide +kernel)) ggX7_productCount_X7_know
set_option maxRecDepth 20000 in
theorem ggX7_productCount_X7_count : GoodIn wsX7_productCount wsX7_count := goodIn_r _ [58, 9, 59, 60, 61, 62, 63, 64, 65, 66, 67, 68, 69, 70, 71, 72, 73, 74, 75, 76, 77, 78, 79, 80, 81] (by decide +kernel) (by decide +kernel)
set_option maxRecDepth 20000 in
theorem gX7_productCount_X7_count : GoodIn wsX7_productCount (wsV RX7 128 RX7 yX7_count wsX7_count) := goodIn_app (goodIn_of _ (by decide +kernel)) ggX7_productCount_X7_count
theorem dX7_productCount_0 : decode cX7_productCount 0 = .ok (.aload_n 0, 1) := by decide +kernel
theorem dX7_productCount_1 : decode cX7_productCount 1 = .ok (.iconst 0, 1) := by decide +kernel
theorem dX7_productCount_2 : decode cX7_productCount 2 = .ok (.putfield 63, 3) := by decide +kernel
theorem dX7_productCount_5 : decode cX7_productCount 5 = .ok (.aload_n 0, 1) := by decide +kernel
theorem dX7_productCount_6 : decode cX7_productCount 6 = .ok (.invokevirtual 125, 3) := by decide +kernel
theorem dX7_productCount_9 : decode cX7_productCount 9 = .ok (.aload_n 0, 1) := by decide +kernel
theorem dX7_productCount_10 : decode cX7_productCount 10 = .ok (.aload_n 0, 1) := by decide +kernel
theorem dX7_productCount_11 : decode cX7_productCount 11 = .ok (.getfield 45, 3) := by decide +kernel
theorem dX7_productCount_14 : decode cX7_productCount 14 = .ok (.invokevirtual 128, 3) := by decide +kernel
theorem dX7_productCount_17 : decode cX7_productCount 17 = .ok (.ireturn, 1) := by decide +kernel
set_option maxRecDepth 20000 in
theorem ggX7_product_X7_know : GoodIn wsX7_product wsX7_know := goodIn_r _ [7, 8, 9, 10, 11, 12, 13, 2, 14, 15, 16, 17, 6, 18, 19, 20, 21, 22, 23, 24, 25, 26, 27, 28, 29, 30, 31, 32, 33, 34, 35, 36, 37, 38, 39, 40, 41, 42, 43, 44, 45, 46, 47, 48, 49, 50, 51, 52, 53, 54, 63, 64, 65, 66, 67, 68, 69, 70, 71, 72, 73, 74, 75, 76, 77, 78, 79, 80, 81, 82, 83, 84, 85] (by decide +kernel) (by decide +kernel)
set_option maxRecDepth 20000 in
theorem gX7_product_X7_know : GoodIn wsX7_product (wsV RX7 125 RX7 yX7_know wsX7_know) := goodIn_app (goodIn_of _ (by decide +kernel)) ggX7_product_X7_know
set_option maxRecDepth 20000 in
theorem ggX7_product_X7_member : GoodIn wsX7_product wsX7_member := goodIn_r _ [58, 9, 59, 60, 61, 6, 62, 1, 63, 64, 65, 66, 67, 68, 69, 70, 71, 72, 73, 74, 75, 76, 77, 78, 79, 80, 81, 82, 83, 84, 85] (by decide +kernel) (by decide +kernel)
set_option maxRecDepth 20000 in
theorem gX7_product_X7_member : GoodIn wsX7_product (wsV RX7 132 RX7 yX7_member wsX7_member) := goodIn_app (goodIn_of _ (by decide +kernel)) ggX7_product_X7_member
theorem dX7_product_0 : decode cX7_product 0 = .ok (.aload_n 0, 1) := by decide +kernel
theorem dX7_product_1 : decode cX7_product 1 = .ok (.iconst 0, 1) := by decide +kernel
theorem dX7_product_2 : decode cX7_product 2 = .ok (.putfield 63, 3) := by decide +kernel
theorem dX7_product_5 : decode cX7_product 5 = .ok (.aload_n 0, 1) := by decide +kernel
theorem dX7_product_6 : decode cX7_product 6 = .ok (.invokevirtual 125, 3) := by decide +kernel
theorem dX7_product_9 : decode cX7_product 9 = .ok (.aload_n 0, 1) := by decide +kernel
theorem dX7_product_10 : decode cX7_product 10 = .ok (.aload_n 0, 1) := by decide +kernel
theorem dX7_product_11 : decode cX7_product 11 = .ok (.getfield 45, 3) := by decide +kernel
theorem dX7_product_14 : decode cX7_product 14 = .ok (.iload_n 1, 1) := by decide +kernel
theorem dX7_product_15 : decode cX7_product 15 = .ok (.iconst 1, 1) := by decide +kernel
theorem dX7_product_16 : decode cX7_product 16 = .ok (.invokevirtual 132, 3) := by decide +kernel
theorem dX7_product_19 : decode cX7_product 19 = .ok (.ireturn, 1) := by decide +kernel
set_option maxRecDepth 20000 in
theorem ggX7_asks_X7_isFeature : GoodIn wsX7_asks wsX7_isFeature := goodIn_r _ [6, 7, 59, 60, 61, 62, 63, 64, 65, 66, 67, 68, 69, 70, 71, 72, 73, 74, 75, 76, 77, 78, 79, 80, 81] (by decide +kernel) (by decide +kernel)
set_option maxRecDepth 20000 in
theorem gX7_asks_X7_isFeature : GoodIn wsX7_asks (wsV RX7 73 RX7 yX7_isFeature wsX7_isFeature) := goodIn_app (goodIn_of _ (by decide +kernel)) ggX7_asks_X7_isFeature
set_option maxRecDepth 20000 in
theorem ggX7_asks_X7_know : GoodIn wsX7_asks wsX7_know := goodIn_r _ [11, 12, 7, 13, 14, 15, 16, 17, 18, 19, 20, 21, 5, 22, 23, 24, 25, 26, 27, 28, 29, 30, 31, 32, 33, 34, 35, 36, 37, 38, 39, 40, 41, 42, 43, 44, 45, 46, 47, 48, 49, 50, 51, 52, 53, 54, 55, 56, 57, 58, 59, 60, 61, 62, 63, 64, 65, 66, 67, 68, 69, 70, 71, 72, 73, 74, 75, 76, 77, 78, 79, 80, 81] (by decide +kernel) (by decide +kernel)
set_option maxRecDepth 20000 in
theorem gX7_asks_X7_know : GoodIn wsX7_asks (wsV RX7 125 RX7 yX7_know wsX7_know) := goodIn_app (goodIn_of _ (by decide +kernel)) ggX7_asks_X7_know
theorem dX7_asks_0 : decode cX7_asks 0 = .ok (.aload_n 0, 1) := by decide +kernel
theorem dX7_asks_1 : decode cX7_asks 1 = .ok (.aload_n 0, 1) := by decide +kernel
theorem dX7_asks_2 : decode cX7_asks 2 = .ok (.iload_n 1, 1) := by decide +kernel
theorem dX7_asks_3 : decode cX7_asks 3 = .ok (.invokevirtual 73, 3) := by decide +kernel
theorem dX7_asks_6 : decode cX7_asks 6 = .ok (.ifCond .eq 7, 3) := by decide +kernel
theorem dX7_asks_9 : decode cX7_asks 9 = .ok (.iconst 0, 1) := by decide +kernel
theorem dX7_asks_10 : decode cX7_asks 10 = .ok (.goto 4, 3) := by decide +kernel
theorem dX7_asks_13 : decode cX7_asks 13 = .ok (.iconst 1, 1) := by decide +kernel
theorem dX7_asks_14 : decode cX7_asks 14 = .ok (.putfield 63, 3) := by decide +kernel
theorem dX7_asks_17 : decode cX7_asks 17 = .ok (.aload_n 0, 1) := by decide +kernel
theorem dX7_asks_18 : decode cX7_asks 18 = .ok (.invokevirtual 125, 3) := by decide +kernel
theorem dX7_asks_21 : decode cX7_asks 21 = .ok (.aload_n 0, 1) := by decide +kernel
theorem dX7_asks_22 : decode cX7_asks 22 = .ok (.getfield 63, 3) := by decide +kernel
theorem dX7_asks_25 : decode cX7_asks 25 = .ok (.ifCond .ne 7, 3) := by decide +kernel
theorem dX7_asks_28 : decode cX7_asks 28 = .ok (.iconst 1, 1) := by decide +kernel
theorem dX7_asks_29 : decode cX7_asks 29 = .ok (.goto 4, 3) := by decide +kernel
theorem dX7_asks_32 : decode cX7_asks 32 = .ok (.iconst 0, 1) := by decide +kernel
theorem dX7_asks_33 : decode cX7_asks 33 = .ok (.ireturn, 1) := by decide +kernel
set_option maxRecDepth 20000 in
theorem ggX7_isDead_X7_asks : GoodIn wsX7_isDead wsX7_asks := goodIn_r _ [6, 7, 8, 9, 10, 5, 11, 12, 13, 14, 15, 16, 17, 18, 19, 20, 21, 1, 22, 23, 24, 25, 26, 27, 28, 29, 30, 31, 32, 33, 34, 35, 36, 37, 38, 39, 40, 41, 42, 43, 44, 45, 46, 47, 48, 49, 50, 51, 52, 53, 54, 55, 56, 57, 58, 59, 60, 61, 62, 67, 68, 69, 70, 71, 72, 73, 74, 75, 76, 77, 78, 79, 80, 81, 82, 83, 84, 85, 86, 87, 88, 89] (by decide +kernel) (by decide +kernel)
set_option maxRecDepth 20000 in
theorem gX7_isDead_X7_asks : GoodIn wsX7_isDead (wsV RX7 136 RX7 yX7_asks wsX7_asks) := goodIn_app (goodIn_of _ (by decide +kernel)) ggX7_isDead_X7_asks
set_option maxRecDepth 20000 in
theorem ggX7_isDead_X7_countWith : GoodIn wsX7_isDead wsX7_countWith := goodIn_r _ [66, 12, 27, 28, 5, 29, 67, 68, 69, 70, 71, 72, 73, 74, 75, 76, 77, 78, 79, 80, 81, 82, 83, 84, 85, 86, 87, 88, 89] (by decide +kernel) (by decide +kernel)
set_option maxRecDepth 20000 in
theorem gX7_isDead_X7_countWith : GoodIn wsX7_isDead (wsV RX7 139 RX7 yX7_countWith wsX7_countWith) := goodIn_app (goodIn_of _ (by decide +kernel)) ggX7_isDead_X7_countWith
theorem dX7_isDead_0 : decode cX7_isDead 0 = .ok (.aload_n 0, 1) := by decide +kernel
theorem dX7_isDead_1 : decode cX7_isDead 1 = .ok (.iload_n 1, 1) := by decide +kernel
theorem dX7_isDead_2 : decode cX7_isDead 2 = .ok (.invokevirtual 136, 3) := by decide +kernel
theorem dX7_isDead_5 : decode cX7_isDead 5 = .ok (.ifCond .eq 19, 3) := by decide +kernel
theorem dX7_isDead_8 : decode cX7_isDead 8 = .ok (.aload_n 0, 1) := by decide +kernel
theorem dX7_isDead_9 : decode cX7_isDead 9 = .ok (.aload_n 0, 1) := by decide +kernel
theorem dX7_isDead_10 : decode cX7_isDead 10 = .ok (.getfield 45, 3) := by decide +kernel
theorem dX7_isDead_13 : decode cX7_isDead 13 = .ok (.iload_n 1, 1) := by decide +kernel
theorem dX7_isDead_14 : decode cX7_isDead 14 = .ok (.invokevirtual 139, 3) := by decide +kernel
theorem dX7_isDead_17 : decode cX7_isDead 17 = .ok (.ifCond .ne 7, 3) := by decide +kernel
theorem dX7_isDead_20 : decode cX7_isDead 20 = .ok (.iconst 1, 1) := by decide +kernel
theorem dX7_isDead_21 : decode cX7_isDead 21 = .ok (.goto 4, 3) := by decide +kernel
theorem dX7_isDead_24 : decode cX7_isDead 24 = .ok (.iconst 0, 1) := by decide +kernel
theorem dX7_isDead_25 : decode cX7_isDead 25 = .ok (.ireturn, 1) := by decide +kernel
set_option maxRecDepth 20000 in
theorem ggX7_isCore_X7_asks : GoodIn wsX7_isCore wsX7_asks := goodIn_r _ [6, 7, 8, 9, 10, 5, 11, 12, 13, 14, 15, 16, 17, 18, 19, 20, 21, 1, 22, 23, 24, 25, 26, 27, 28, 29, 30, 31, 32, 33, 34, 35, 36, 37, 38, 39, 40, 41, 42, 43, 44, 45, 46, 47, 48, 49, 50, 51, 52, 53, 54, 55, 56, 57, 58, 59, 60, 61, 62, 71, 72, 73, 74, 75, 76, 77, 78, 79, 80, 81, 82, 83, 84, 85, 86, 87, 88, 89, 90, 91, 92, 93] (by decide +kernel) (by decide +kernel)
set_option maxRecDepth 20000 in
theorem gX7_isCore_X7_asks : GoodIn wsX7_isCore (wsV RX7 136 RX7 yX7_asks wsX7_asks) := goodIn_app (goodIn_of _ (by decide +kernel)) ggX7_isCore_X7_asks
set_option maxRecDepth 20000 in
theorem ggX7_isCore_X7_count : GoodIn wsX7_isCore wsX7_count := goodIn_r _ [66, 12, 71, 72, 73, 74, 75, 76, 77, 78, 79, 80, 81, 82, 83, 84, 85, 86, 87, 88, 89, 90, 91, 92, 93] (by decide +kernel) (by decide +kernel)
set_option maxRecDepth 20000 in
theorem gX7_isCore_X7_count : GoodIn wsX7_isCore (wsV RX7 128 RX7 yX7_count wsX7_count) := goodIn_app (goodIn_of _ (by decide +kernel)) ggX7_isCore_X7_count
set_option maxRecDepth 20000 in
theorem ggX7_isCore_X7_countWith : GoodIn wsX7_isCore wsX7_countWith := goodIn_r _ [70, 12, 27, 28, 5, 29, 71, 72, 73, 74, 75, 76, 77, 78, 79, 80, 81, 82, 83, 84, 85, 86, 87, 88, 89, 90, 91, 92, 93] (by decide +kernel) (by decide +kernel)
set_option maxRecDepth 20000 in
theorem gX7_isCore_X7_countWith : GoodIn wsX7_isCore (wsV RX7 139 RX7 yX7_countWith wsX7_countWith) := goodIn_app (goodIn_of _ (by decide +kernel)) ggX7_isCore_X7_countWith
theorem dX7_isCore_0 : decode cX7_isCore 0 = .ok (.aload_n 0, 1) := by decide +kernel
theorem dX7_isCore_1 : decode cX7_isCore 1 = .ok (.iload_n 1, 1) := by decide +kernel
theorem dX7_isCore_2 : decode cX7_isCore 2 = .ok (.invokevirtual 136, 3) := by decide +kernel
theorem dX7_isCore_5 : decode cX7_isCore 5 = .ok (.ifCond .eq 38, 3) := by decide +kernel
theorem dX7_isCore_8 : decode cX7_isCore 8 = .ok (.aload_n 0, 1) := by decide +kernel
theorem dX7_isCore_9 : decode cX7_isCore 9 = .ok (.aload_n 0, 1) := by decide +kernel
theorem dX7_isCore_10 : decode cX7_isCore 10 = .ok (.getfield 45, 3) := by decide +kernel
theorem dX7_isCore_13 : decode cX7_isCore 13 = .ok (.invokevirtual 128, 3) := by decide +kernel
theorem dX7_isCore_16 : decode cX7_isCore 16 = .ok (.ifCond .le 27, 3) := by decide +kernel
theorem dX7_isCore_19 : decode cX7_isCore 19 = .ok (.aload_n 0, 1) := by decide +kernel
theorem dX7_isCore_20 : decode cX7_isCore 20 = .ok (.aload_n 0, 1) := by decide +kernel
theorem dX7_isCore_21 : decode cX7_isCore 21 = .ok (.getfield 45, 3) := by decide +kernel
theorem dX7_isCore_24 : decode cX7_isCore 24 = .ok (.iload_n 1, 1) := by decide +kernel
theorem dX7_isCore_25 : decode cX7_isCore 25 = .ok (.invokevirtual 139, 3) := by decide +kernel
theorem dX7_isCore_28 : decode cX7_isCore 28 = .ok (.aload_n 0, 1) := by decide +kernel
theorem dX7_isCore_29 : decode cX7_isCore 29 = .ok (.aload_n 0, 1) := by decide +kernel
theorem dX7_isCore_30 : decode cX7_isCore 30 = .ok (.getfield 45, 3) := by decide +kernel
theorem dX7_isCore_33 : decode cX7_isCore 33 = .ok (.invokevirtual 128, 3) := by decide +kernel
theorem dX7_isCore_36 : decode cX7_isCore 36 = .ok (.if_icmp .ne 7, 3) := by decide +kernel
theorem dX7_isCore_39 : decode cX7_isCore 39 = .ok (.iconst 1, 1) := by decide +kernel
theorem dX7_isCore_40 : decode cX7_isCore 40 = .ok (.goto 4, 3) := by decide +kernel
theorem dX7_isCore_43 : decode cX7_isCore 43 = .ok (.iconst 0, 1) := by decide +kernel
theorem dX7_isCore_44 : decode cX7_isCore 44 = .ok (.ireturn, 1) := by decide +kernel
set_option maxRecDepth 20000 in
theorem ggX7_isFalselyFree_X7_asks : GoodIn wsX7_isFalselyFree wsX7_asks := goodIn_r _ [8, 9, 10, 11, 12, 7, 13, 14, 15, 16, 17, 18, 19, 20, 21, 22, 23, 2, 24, 25, 26, 27, 28, 29, 30, 31, 32, 33, 34, 35, 3, 1, 36, 37, 38, 39, 40, 41, 42, 43, 44, 45, 46, 47, 48, 49, 50, 51, 52, 53, 54, 55, 56, 57, 58, 59, 60, 61, 62, 67, 68, 69, 70, 71, 72, 73, 74, 75, 76, 77, 78, 79, 80, 81, 82, 83, 84, 85, 86, 87, 88, 89] (by decide +kernel) (by decide +kernel)
set_option maxRecDepth 20000 in
theorem gX7_isFalselyFree_X7_asks : GoodIn wsX7_isFalselyFree (wsV RX7 136 RX7 yX7_asks wsX7_asks) := goodIn_app (goodIn_of _ (by decide +kernel)) ggX7_isFalselyFree_X7_asks
set_option maxRecDepth 20000 in
theorem ggX7_isFalselyFree_X7_countWith : GoodIn wsX7_isFalselyFree wsX7_countWith := goodIn_r _ [66, 14, 29, 30, 7, 31, 67, 68, 69, 70, 71, 72, 73, 74, 75, 76, 77, 78, 79, 80, 81, 82, 83, 84, 85, 86, 87, 88, 89] (by decide +kernel) (by decide +kernel)
set_option maxRecDepth 20000 in
theorem gX7_isFalselyFree_X7_countWith : GoodIn wsX7_isFalselyFree (wsV RX7 139 RX7 yX7_countWith wsX7_countWith) := goodIn_app (goodIn_of _ (by decide +kernel)) ggX7_isFalselyFree_X7_countWith
theorem dX7_isFalselyFree_0 : decode cX7_isFalselyFree 0 = .ok (.aload_n 0, 1) := by decide +kernel
theorem dX7_isFalselyFree_1 : decode cX7_isFalselyFree 1 = .ok (.iload_n 1, 1) := by decide +kernel
theorem dX7_isFalselyFree_2 : decode cX7_isFalselyFree 2 = .ok (.invokevirtual 136, 3) := by decide +kernel
theorem dX7_isFalselyFree_5 : decode cX7_isFalselyFree 5 = .ok (.ifCond .eq 17, 3) := by decide +kernel
theorem dX7_isFalselyFree_8 : decode cX7_isFalselyFree 8 = .ok (.iload_n 1, 1) := by decide +kernel
theorem dX7_isFalselyFree_9 : decode cX7_isFalselyFree 9 = .ok (.ifCond .eq 13, 3) := by decide +kernel
theorem dX7_isFalselyFree_12 : decode cX7_isFalselyFree 12 = .ok (.aload_n 0, 1) := by decide +kernel
theorem dX7_isFalselyFree_13 : decode cX7_isFalselyFree 13 = .ok (.getfield 17, 3) := by decide +kernel
theorem dX7_isFalselyFree_16 : decode cX7_isFalselyFree 16 = .ok (.iload_n 1, 1) := by decide +kernel
theorem dX7_isFalselyFree_17 : decode cX7_isFalselyFree 17 = .ok (.iaload, 1) := by decide +kernel
theorem dX7_isFalselyFree_18 : decode cX7_isFalselyFree 18 = .ok (.iconst 1, 1) := by decide +kernel
theorem dX7_isFalselyFree_19 : decode cX7_isFalselyFree 19 = .ok (.if_icmp .eq 5, 3) := by decide +kernel
theorem dX7_isFalselyFree_22 : decode cX7_isFalselyFree 22 = .ok (.iconst 0, 1) := by decide +kernel
theorem dX7_isFalselyFree_23 : decode cX7_isFalselyFree 23 = .ok (.ireturn, 1) := by decide +kernel
theorem dX7_isFalselyFree_24 : decode cX7_isFalselyFree 24 = .ok (.aload_n 0, 1) := by decide +kernel
theorem dX7_isFalselyFree_25 : decode cX7_isFalselyFree 25 = .ok (.aload_n 0, 1) := by decide +kernel
theorem dX7_isFalselyFree_26 : decode cX7_isFalselyFree 26 = .ok (.getfield 45, 3) := by decide +kernel
theorem dX7_isFalselyFree_29 : decode cX7_isFalselyFree 29 = .ok (.aload_n 0, 1) := by decide +kernel
theorem dX7_isFalselyFree_30 : decode cX7_isFalselyFree 30 = .ok (.getfield 13, 3) := by decide +kernel
theorem dX7_isFalselyFree_33 : decode cX7_isFalselyFree 33 = .ok (.iload_n 1, 1) := by decide +kernel
theorem dX7_isFalselyFree_34 : decode cX7_isFalselyFree 34 = .ok (.iaload, 1) := by decide +kernel
theorem dX7_isFalselyFree_35 : decode cX7_isFalselyFree 35 = .ok (.invokevirtual 139, 3) := by decide +kernel
theorem dX7_isFalselyFree_38 : decode cX7_isFalselyFree 38 = .ok (.istore_n 2, 1) := by decide +kernel
theorem dX7_isFalselyFree_39 : decode cX7_isFalselyFree 39 = .ok (.iload_n 2, 1) := by decide +kernel
theorem dX7_isFalselyFree_40 : decode cX7_isFalselyFree 40 = .ok (.ifCond .le 20, 3) := by decide +kernel
theorem dX7_isFalselyFree_43 : decode cX7_isFalselyFree 43 = .ok (.aload_n 0, 1) := by decide +kernel
theorem dX7_isFalselyFree_44 : decode cX7_isFalselyFree 44 = .ok (.aload_n 0, 1) := by decide +kernel
theorem dX7_isFalselyFree_45 : decode cX7_isFalselyFree 45 = .ok (.getfield 45, 3) := by decide +kernel
theorem dX7_isFalselyFree_48 : decode cX7_isFalselyFree 48 = .ok (.iload_n 1, 1) := by decide +kernel
theorem dX7_isFalselyFree_49 : decode cX7_isFalselyFree 49 = .ok (.invokevirtual 139, 3) := by decide +kernel
theorem dX7_isFalselyFree_52 : decode cX7_isFalselyFree 52 = .ok (.iload_n 2, 1) := by decide +kernel
theorem dX7_isFalselyFree_53 : decode cX7_isFalselyFree 53 = .ok (.if_icmp .ne 7, 3) := by decide +kernel
theorem dX7_isFalselyFree_56 : decode cX7_isFalselyFree 56 = .ok (.iconst 1, 1) := by decide +kernel
theorem dX7_isFalselyFree_57 : decode cX7_isFalselyFree 57 = .ok (.goto 4, 3) := by decide +kernel
theorem dX7_isFalselyFree_60 : decode cX7_isFalselyFree 60 = .ok (.iconst 0, 1) := by decide +kernel
theorem dX7_isFalselyFree_61 : decode cX7_isFalselyFree 61 = .ok (.ireturn, 1) := by decide +kernel
set_option maxRecDepth 20000 in
theorem ggX7_together_X7_has : GoodIn wsX7_together wsX7_has := goodIn_r _ [6] (by decide +kernel) (by decide +kernel)
set_option maxRecDepth 20000 in
theorem gX7_together_X7_has : GoodIn wsX7_together (va_wsS RX7 93 yX7_has wsX7_has) := goodIn_app (goodIn_of _ (by decide +kernel)) ggX7_together_X7_has
theorem dX7_together_0 : decode cX7_together 0 = .ok (.iconst 1, 1) := by decide +kernel
theorem dX7_together_1 : decode cX7_together 1 = .ok (.istore_n 3, 1) := by decide +kernel
theorem dX7_together_2 : decode cX7_together 2 = .ok (.iconst 0, 1) := by decide +kernel
theorem dX7_together_3 : decode cX7_together 3 = .ok (.istore 4, 2) := by decide +kernel
theorem dX7_together_5 : decode cX7_together 5 = .ok (.iload 4, 2) := by decide +kernel
theorem dX7_together_7 : decode cX7_together 7 = .ok (.iconst 1, 1) := by decide +kernel
theorem dX7_together_8 : decode cX7_together 8 = .ok (.aload_n 0, 1) := by decide +kernel
theorem dX7_together_9 : decode cX7_together 9 = .ok (.getfield 9, 3) := by decide +kernel
theorem dX7_together_12 : decode cX7_together 12 = .ok (.ishl, 1) := by decide +kernel
theorem dX7_together_13 : decode cX7_together 13 = .ok (.if_icmp .ge 44, 3) := by decide +kernel
theorem dX7_together_16 : decode cX7_together 16 = .ok (.iload_n 3, 1) := by decide +kernel
theorem dX7_together_17 : decode cX7_together 17 = .ok (.ifCond .eq 32, 3) := by decide +kernel
theorem dX7_together_20 : decode cX7_together 20 = .ok (.aload_n 0, 1) := by decide +kernel
theorem dX7_together_21 : decode cX7_together 21 = .ok (.getfield 45, 3) := by decide +kernel
theorem dX7_together_24 : decode cX7_together 24 = .ok (.iload 4, 2) := by decide +kernel
theorem dX7_together_26 : decode cX7_together 26 = .ok (.baload, 1) := by decide +kernel
theorem dX7_together_27 : decode cX7_together 27 = .ok (.ifCond .eq 18, 3) := by decide +kernel
theorem dX7_together_30 : decode cX7_together 30 = .ok (.iload 4, 2) := by decide +kernel
theorem dX7_together_32 : decode cX7_together 32 = .ok (.iload_n 1, 1) := by decide +kernel
theorem dX7_together_33 : decode cX7_together 33 = .ok (.invokestatic 93, 3) := by decide +kernel
theorem dX7_together_36 : decode cX7_together 36 = .ok (.iload 4, 2) := by decide +kernel
theorem dX7_together_38 : decode cX7_together 38 = .ok (.iload_n 2, 1) := by decide +kernel
theorem dX7_together_39 : decode cX7_together 39 = .ok (.invokestatic 93, 3) := by decide +kernel
theorem dX7_together_42 : decode cX7_together 42 = .ok (.if_icmp .ne 7, 3) := by decide +kernel
theorem dX7_together_45 : decode cX7_together 45 = .ok (.iconst 1, 1) := by decide +kernel
theorem dX7_together_46 : decode cX7_together 46 = .ok (.goto 4, 3) := by decide +kernel
theorem dX7_together_49 : decode cX7_together 49 = .ok (.iconst 0, 1) := by decide +kernel
theorem dX7_together_50 : decode cX7_together 50 = .ok (.istore_n 3, 1) := by decide +kernel
theorem dX7_together_51 : decode cX7_together 51 = .ok (.iinc 4 1, 3) := by decide +kernel
theorem dX7_together_54 : decode cX7_together 54 = .ok (.goto (-49), 3) := by decide +kernel
theorem dX7_together_57 : decode cX7_together 57 = .ok (.iload_n 3, 1) := by decide +kernel
theorem dX7_together_58 : decode cX7_together 58 = .ok (.ireturn, 1) := by decide +kernel
set_option maxRecDepth 20000 in
theorem ggX7_areTogether_X7_isFeature : GoodIn wsX7_areTogether wsX7_isFeature := goodIn_r _ [6, 7, 63, 64, 65, 66, 67, 68, 69, 70, 71, 72, 73, 74, 75, 76, 77, 78, 79, 80, 81, 82, 83, 84, 85] (by decide +kernel) (by decide +kernel)
set_option maxRecDepth 20000 in
theorem gX7_areTogether_X7_isFeature : GoodIn wsX7_areTogether (wsV RX7 73 RX7 yX7_isFeature wsX7_isFeature) := goodIn_app (goodIn_of _ (by decide +kernel)) ggX7_areTogether_X7_isFeature
set_option maxRecDepth 20000 in
theorem ggX7_areTogether_X7_know : GoodIn wsX7_areTogether wsX7_know := goodIn_r _ [11, 12, 7, 13, 14, 15, 16, 17, 18, 19, 20, 21, 5, 22, 23, 24, 25, 26, 27, 28, 29, 30, 31, 32, 33, 34, 35, 36, 37, 38, 39, 40, 41, 42, 43, 44, 45, 46, 47, 48, 49, 50, 51, 52, 53, 54, 55, 56, 57, 58, 63, 64, 65, 66, 67, 68, 69, 70, 71, 72, 73, 74, 75, 76, 77, 78, 79, 80, 81, 82, 83, 84, 85] (by decide +kernel) (by decide +kernel)
set_option maxRecDepth 20000 in
theorem gX7_areTogether_X7_know : GoodIn wsX7_areTogether (wsV RX7 125 RX7 yX7_know wsX7_know) := goodIn_app (goodIn_of _ (by decide +kernel)) ggX7_areTogether_X7_know
set_option maxRecDepth 20000 in
theorem ggX7_areTogether_X7_together : GoodIn wsX7_areTogether wsX7_together := goodIn_r _ [62, 7, 17, 23, 24, 5, 25, 63, 64, 65, 66, 67, 68, 69, 70, 71, 72, 73, 74, 75, 76, 77, 78, 79, 80, 81, 82, 83, 84, 85] (by decide +kernel) (by decide +kernel)
set_option maxRecDepth 20000 in
theorem gX7_areTogether_X7_together : GoodIn wsX7_areTogether (wsV RX7 143 RX7 yX7_together wsX7_together) := goodIn_app (goodIn_of _ (by decide +kernel)) ggX7_areTogether_X7_together
theorem dX7_areTogether_0 : decode cX7_areTogether 0 = .ok (.aload_n 0, 1) := by decide +kernel
theorem dX7_areTogether_1 : decode cX7_areTogether 1 = .ok (.aload_n 0, 1) := by decide +kernel
theorem dX7_areTogether_2 : decode cX7_areTogether 2 = .ok (.iload_n 1, 1) := by decide +kernel
theorem dX7_areTogether_3 : decode cX7_areTogether 3 = .ok (.invokevirtual 73, 3) := by decide +kernel
theorem dX7_areTogether_6 : decode cX7_areTogether 6 = .ok (.ifCond .eq 15, 3) := by decide +kernel
theorem dX7_areTogether_9 : decode cX7_areTogether 9 = .ok (.aload_n 0, 1) := by decide +kernel
theorem dX7_areTogether_10 : decode cX7_areTogether 10 = .ok (.iload_n 2, 1) := by decide +kernel
theorem dX7_areTogether_11 : decode cX7_areTogether 11 = .ok (.invokevirtual 73, 3) := by decide +kernel
theorem dX7_areTogether_14 : decode cX7_areTogether 14 = .ok (.ifCond .eq 7, 3) := by decide +kernel
theorem dX7_areTogether_17 : decode cX7_areTogether 17 = .ok (.iconst 0, 1) := by decide +kernel
theorem dX7_areTogether_18 : decode cX7_areTogether 18 = .ok (.goto 4, 3) := by decide +kernel
theorem dX7_areTogether_21 : decode cX7_areTogether 21 = .ok (.iconst 1, 1) := by decide +kernel
theorem dX7_areTogether_22 : decode cX7_areTogether 22 = .ok (.putfield 63, 3) := by decide +kernel
theorem dX7_areTogether_25 : decode cX7_areTogether 25 = .ok (.aload_n 0, 1) := by decide +kernel
theorem dX7_areTogether_26 : decode cX7_areTogether 26 = .ok (.invokevirtual 125, 3) := by decide +kernel
theorem dX7_areTogether_29 : decode cX7_areTogether 29 = .ok (.aload_n 0, 1) := by decide +kernel
theorem dX7_areTogether_30 : decode cX7_areTogether 30 = .ok (.getfield 63, 3) := by decide +kernel
theorem dX7_areTogether_33 : decode cX7_areTogether 33 = .ok (.ifCond .ne 16, 3) := by decide +kernel
theorem dX7_areTogether_36 : decode cX7_areTogether 36 = .ok (.aload_n 0, 1) := by decide +kernel
theorem dX7_areTogether_37 : decode cX7_areTogether 37 = .ok (.iload_n 1, 1) := by decide +kernel
theorem dX7_areTogether_38 : decode cX7_areTogether 38 = .ok (.iload_n 2, 1) := by decide +kernel
theorem dX7_areTogether_39 : decode cX7_areTogether 39 = .ok (.invokevirtual 143, 3) := by decide +kernel
theorem dX7_areTogether_42 : decode cX7_areTogether 42 = .ok (.ifCond .eq 7, 3) := by decide +kernel
theorem dX7_areTogether_45 : decode cX7_areTogether 45 = .ok (.iconst 1, 1) := by decide +kernel
theorem dX7_areTogether_46 : decode cX7_areTogether 46 = .ok (.goto 4, 3) := by decide +kernel
theorem dX7_areTogether_49 : decode cX7_areTogether 49 = .ok (.iconst 0, 1) := by decide +kernel
theorem dX7_areTogether_50 : decode cX7_areTogether 50 = .ok (.ireturn, 1) := by decide +kernel
set_option maxRecDepth 20000 in
theorem ggX7_bundles_X7_know : GoodIn wsX7_bundles wsX7_know := goodIn_r _ [7, 8, 2, 9, 10, 11, 12, 13, 14, 15, 16, 17, 6, 18, 19, 20, 21, 22, 23, 24, 25, 26, 27, 28, 29, 30, 31, 32, 33, 34, 35, 36, 37, 38, 39, 40, 41, 42, 43, 44, 45, 46, 47, 48, 49, 50, 51, 52, 53, 54, 59, 60, 61, 62, 63, 64, 65, 66, 67, 68, 69, 70, 71, 72, 73, 74, 75, 76, 77, 78, 79, 80, 81] (by decide +kernel) (by decide +kernel)
set_option maxRecDepth 20000 in
theorem gX7_bundles_X7_know : GoodIn wsX7_bundles (wsV RX7 125 RX7 yX7_know wsX7_know) := goodIn_app (goodIn_of _ (by decide +kernel)) ggX7_bundles_X7_know
set_option maxRecDepth 20000 in
theorem ggX7_bundles_X7_together : GoodIn wsX7_bundles wsX7_together := goodIn_r _ [58, 2, 13, 19, 20, 6, 21, 59, 60, 61, 62, 63, 64, 65, 66, 67, 68, 69, 70, 71, 72, 73, 74, 75, 76, 77, 78, 79, 80, 81] (by decide +kernel) (by decide +kernel)
set_option maxRecDepth 20000 in
theorem gX7_bundles_X7_together : GoodIn wsX7_bundles (wsV RX7 143 RX7 yX7_together wsX7_together) := goodIn_app (goodIn_of _ (by decide +kernel)) ggX7_bundles_X7_together
theorem dX7_bundles_0 : decode cX7_bundles 0 = .ok (.aload_n 0, 1) := by decide +kernel
theorem dX7_bundles_1 : decode cX7_bundles 1 = .ok (.iconst 0, 1) := by decide +kernel
theorem dX7_bundles_2 : decode cX7_bundles 2 = .ok (.putfield 63, 3) := by decide +kernel
theorem dX7_bundles_5 : decode cX7_bundles 5 = .ok (.aload_n 0, 1) := by decide +kernel
theorem dX7_bundles_6 : decode cX7_bundles 6 = .ok (.invokevirtual 125, 3) := by decide +kernel
theorem dX7_bundles_9 : decode cX7_bundles 9 = .ok (.iconst 0, 1) := by decide +kernel
theorem dX7_bundles_10 : decode cX7_bundles 10 = .ok (.istore_n 1, 1) := by decide +kernel
theorem dX7_bundles_11 : decode cX7_bundles 11 = .ok (.iconst 0, 1) := by decide +kernel
theorem dX7_bundles_12 : decode cX7_bundles 12 = .ok (.istore_n 2, 1) := by decide +kernel
theorem dX7_bundles_13 : decode cX7_bundles 13 = .ok (.iload_n 2, 1) := by decide +kernel
theorem dX7_bundles_14 : decode cX7_bundles 14 = .ok (.aload_n 0, 1) := by decide +kernel
theorem dX7_bundles_15 : decode cX7_bundles 15 = .ok (.getfield 9, 3) := by decide +kernel
theorem dX7_bundles_18 : decode cX7_bundles 18 = .ok (.if_icmp .ge 58, 3) := by decide +kernel
theorem dX7_bundles_21 : decode cX7_bundles 21 = .ok (.iconst 1, 1) := by decide +kernel
theorem dX7_bundles_22 : decode cX7_bundles 22 = .ok (.istore_n 3, 1) := by decide +kernel
theorem dX7_bundles_23 : decode cX7_bundles 23 = .ok (.iconst 0, 1) := by decide +kernel
theorem dX7_bundles_24 : decode cX7_bundles 24 = .ok (.istore 4, 2) := by decide +kernel
theorem dX7_bundles_26 : decode cX7_bundles 26 = .ok (.iload 4, 2) := by decide +kernel
theorem dX7_bundles_28 : decode cX7_bundles 28 = .ok (.iload_n 2, 1) := by decide +kernel
theorem dX7_bundles_29 : decode cX7_bundles 29 = .ok (.if_icmp .ge 29, 3) := by decide +kernel
theorem dX7_bundles_32 : decode cX7_bundles 32 = .ok (.iload_n 3, 1) := by decide +kernel
theorem dX7_bundles_33 : decode cX7_bundles 33 = .ok (.ifCond .eq 17, 3) := by decide +kernel
theorem dX7_bundles_36 : decode cX7_bundles 36 = .ok (.aload_n 0, 1) := by decide +kernel
theorem dX7_bundles_37 : decode cX7_bundles 37 = .ok (.iload_n 2, 1) := by decide +kernel
theorem dX7_bundles_38 : decode cX7_bundles 38 = .ok (.iload 4, 2) := by decide +kernel
theorem dX7_bundles_40 : decode cX7_bundles 40 = .ok (.invokevirtual 143, 3) := by decide +kernel
theorem dX7_bundles_43 : decode cX7_bundles 43 = .ok (.ifCond .ne 7, 3) := by decide +kernel
theorem dX7_bundles_46 : decode cX7_bundles 46 = .ok (.iconst 1, 1) := by decide +kernel
theorem dX7_bundles_47 : decode cX7_bundles 47 = .ok (.goto 4, 3) := by decide +kernel
theorem dX7_bundles_50 : decode cX7_bundles 50 = .ok (.iconst 0, 1) := by decide +kernel
theorem dX7_bundles_51 : decode cX7_bundles 51 = .ok (.istore_n 3, 1) := by decide +kernel
theorem dX7_bundles_52 : decode cX7_bundles 52 = .ok (.iinc 4 1, 3) := by decide +kernel
theorem dX7_bundles_55 : decode cX7_bundles 55 = .ok (.goto (-29), 3) := by decide +kernel
theorem dX7_bundles_58 : decode cX7_bundles 58 = .ok (.iload_n 1, 1) := by decide +kernel
theorem dX7_bundles_59 : decode cX7_bundles 59 = .ok (.iload_n 3, 1) := by decide +kernel
theorem dX7_bundles_60 : decode cX7_bundles 60 = .ok (.ifCond .eq 7, 3) := by decide +kernel
theorem dX7_bundles_63 : decode cX7_bundles 63 = .ok (.iconst 1, 1) := by decide +kernel
theorem dX7_bundles_64 : decode cX7_bundles 64 = .ok (.goto 4, 3) := by decide +kernel
theorem dX7_bundles_67 : decode cX7_bundles 67 = .ok (.iconst 0, 1) := by decide +kernel
theorem dX7_bundles_68 : decode cX7_bundles 68 = .ok (.iadd, 1) := by decide +kernel
theorem dX7_bundles_69 : decode cX7_bundles 69 = .ok (.istore_n 1, 1) := by decide +kernel
theorem dX7_bundles_70 : decode cX7_bundles 70 = .ok (.iinc 2 1, 3) := by decide +kernel
theorem dX7_bundles_73 : decode cX7_bundles 73 = .ok (.goto (-60), 3) := by decide +kernel
theorem dX7_bundles_76 : decode cX7_bundles 76 = .ok (.iload_n 1, 1) := by decide +kernel
theorem dX7_bundles_77 : decode cX7_bundles 77 = .ok (.ireturn, 1) := by decide +kernel
set_option maxRecDepth 20000 in
theorem ggX7_blame_X7_asks : GoodIn wsX7_blame wsX7_asks := goodIn_r _ [6, 7, 8, 9, 10, 5, 11, 1, 12, 13, 14, 15, 16, 17, 18, 19, 20, 21, 22, 23, 24, 25, 26, 27, 28, 29, 30, 31, 32, 33, 34, 35, 36, 37, 38, 39, 40, 41, 42, 43, 44, 45, 46, 47, 48, 49, 50, 51, 52, 53, 54, 55, 56, 57, 58, 59, 60, 61, 62, 70, 71, 72, 73, 74, 75, 76, 77, 78, 79, 80, 81, 82, 83, 84, 85, 86, 87, 88, 89, 90, 91, 92] (by decide +kernel) (by decide +kernel)
set_option maxRecDepth 20000 in
theorem gX7_blame_X7_asks : GoodIn wsX7_blame (wsV RX7 136 RX7 yX7_asks wsX7_asks) := goodIn_app (goodIn_of _ (by decide +kernel)) ggX7_blame_X7_asks
set_option maxRecDepth 20000 in
theorem ggX7_blame_X7_has : GoodIn wsX7_blame wsX7_has := goodIn_r _ [29] (by decide +kernel) (by decide +kernel)
set_option maxRecDepth 20000 in
theorem gX7_blame_X7_has : GoodIn wsX7_blame (va_wsS RX7 93 yX7_has wsX7_has) := goodIn_app (goodIn_of _ (by decide +kernel)) ggX7_blame_X7_has
set_option maxRecDepth 20000 in
theorem ggX7_blame_X7_brokenInTree : GoodIn wsX7_blame wsX7_brokenInTree := goodIn_r _ [33, 1, 34, 35, 27, 28, 5, 29, 36, 37, 38, 39, 40, 41, 42, 43, 70, 71, 72, 73, 74, 75, 76, 77, 78, 79, 80, 81, 82, 83, 84, 85, 86, 87, 88, 89, 90, 91, 92] (by decide +kernel) (by decide +kernel)
set_option maxRecDepth 20000 in
theorem gX7_blame_X7_brokenInTree : GoodIn wsX7_blame (wsV RX7 108 RX7 yX7_brokenInTree wsX7_brokenInTree) := goodIn_app (goodIn_of _ (by decide +kernel)) ggX7_blame_X7_brokenInTree
set_option maxRecDepth 20000 in
theorem ggX7_blame_X7_brokenConstraints : GoodIn wsX7_blame wsX7_brokenConstraints := goodIn_r _ [47, 48, 49, 50, 51, 5, 52, 53, 54, 55, 56, 27, 28, 29, 70, 71, 72, 73, 74, 75, 76, 77, 78, 79, 80, 81, 82, 83, 84, 85, 86, 87, 88, 89, 90, 91, 92] (by decide +kernel) (by decide +kernel)
set_option maxRecDepth 20000 in
theorem gX7_blame_X7_brokenConstraints : GoodIn wsX7_blame (wsV RX7 111 RX7 yX7_brokenConstraints wsX7_brokenConstraints) := goodIn_app (goodIn_of _ (by decide +kernel)) ggX7_blame_X7_brokenConstraints
set_option maxRecDepth 20000 in
theorem ggX7_blame_J6_bitCount_0f7a4 : GoodIn wsX7_blame wsJ6_bitCount_0f7a4 := goodIn_r _ [66, 67, 68, 69] (by decide +kernel) (by decide +kernel)
set_option maxRecDepth 20000 in
theorem gX7_blame_J6_bitCount_0f7a4 : GoodIn wsX7_blame (va_wsS RX7 120 yJ6_bitCount_0f7a4 wsJ6_bitCount_0f7a4) := goodIn_app (goodIn_of _ (by decide +kernel)) ggX7_blame_J6_bitCount_0f7a4
theorem dX7_blame_0 : decode cX7_blame 0 = .ok (.aload_n 0, 1) := by decide +kernel
theorem dX7_blame_1 : decode cX7_blame 1 = .ok (.iload_n 1, 1) := by decide +kernel
theorem dX7_blame_2 : decode cX7_blame 2 = .ok (.invokevirtual 136, 3) := by decide +kernel
theorem dX7_blame_5 : decode cX7_blame 5 = .ok (.ifCond .ne 5, 3) := by decide +kernel
theorem dX7_blame_8 : decode cX7_blame 8 = .ok (.iconst 0, 1) := by decide +kernel
theorem dX7_blame_9 : decode cX7_blame 9 = .ok (.ireturn, 1) := by decide +kernel
theorem dX7_blame_10 : decode cX7_blame 10 = .ok (.iconst (-1), 1) := by decide +kernel
theorem dX7_blame_11 : decode cX7_blame 11 = .ok (.istore_n 2, 1) := by decide +kernel
theorem dX7_blame_12 : decode cX7_blame 12 = .ok (.iconst 0, 1) := by decide +kernel
theorem dX7_blame_13 : decode cX7_blame 13 = .ok (.istore_n 3, 1) := by decide +kernel
theorem dX7_blame_14 : decode cX7_blame 14 = .ok (.iload_n 3, 1) := by decide +kernel
theorem dX7_blame_15 : decode cX7_blame 15 = .ok (.iconst 1, 1) := by decide +kernel
theorem dX7_blame_16 : decode cX7_blame 16 = .ok (.aload_n 0, 1) := by decide +kernel
theorem dX7_blame_17 : decode cX7_blame 17 = .ok (.getfield 9, 3) := by decide +kernel
theorem dX7_blame_20 : decode cX7_blame 20 = .ok (.ishl, 1) := by decide +kernel
theorem dX7_blame_21 : decode cX7_blame 21 = .ok (.if_icmp .ge 74, 3) := by decide +kernel
theorem dX7_blame_24 : decode cX7_blame 24 = .ok (.iload_n 3, 1) := by decide +kernel
theorem dX7_blame_25 : decode cX7_blame 25 = .ok (.iload_n 1, 1) := by decide +kernel
theorem dX7_blame_26 : decode cX7_blame 26 = .ok (.invokestatic 93, 3) := by decide +kernel
theorem dX7_blame_29 : decode cX7_blame 29 = .ok (.ifCond .eq 60, 3) := by decide +kernel
theorem dX7_blame_32 : decode cX7_blame 32 = .ok (.aload_n 0, 1) := by decide +kernel
theorem dX7_blame_33 : decode cX7_blame 33 = .ok (.iload_n 3, 1) := by decide +kernel
theorem dX7_blame_34 : decode cX7_blame 34 = .ok (.invokevirtual 108, 3) := by decide +kernel
theorem dX7_blame_37 : decode cX7_blame 37 = .ok (.ifCond .eq 6, 3) := by decide +kernel
theorem dX7_blame_40 : decode cX7_blame 40 = .ok (.goto 49, 3) := by decide +kernel
theorem dX7_blame_43 : decode cX7_blame 43 = .ok (.aload_n 0, 1) := by decide +kernel
theorem dX7_blame_44 : decode cX7_blame 44 = .ok (.iload_n 3, 1) := by decide +kernel
theorem dX7_blame_45 : decode cX7_blame 45 = .ok (.invokevirtual 111, 3) := by decide +kernel
theorem dX7_blame_48 : decode cX7_blame 48 = .ok (.istore 4, 2) := by decide +kernel
theorem dX7_blame_50 : decode cX7_blame 50 = .ok (.iload 4, 2) := by decide +kernel
theorem dX7_blame_52 : decode cX7_blame 52 = .ok (.invokestatic 120, 3) := by decide +kernel
theorem dX7_blame_55 : decode cX7_blame 55 = .ok (.istore 5, 2) := by decide +kernel
theorem dX7_blame_57 : decode cX7_blame 57 = .ok (.iload_n 2, 1) := by decide +kernel
theorem dX7_blame_58 : decode cX7_blame 58 = .ok (.iconst (-1), 1) := by decide +kernel
theorem dX7_blame_59 : decode cX7_blame 59 = .ok (.if_icmp .eq 27, 3) := by decide +kernel
theorem dX7_blame_62 : decode cX7_blame 62 = .ok (.iload 5, 2) := by decide +kernel
theorem dX7_blame_64 : decode cX7_blame 64 = .ok (.iload_n 2, 1) := by decide +kernel
theorem dX7_blame_65 : decode cX7_blame 65 = .ok (.invokestatic 120, 3) := by decide +kernel
theorem dX7_blame_68 : decode cX7_blame 68 = .ok (.if_icmp .lt 18, 3) := by decide +kernel
theorem dX7_blame_71 : decode cX7_blame 71 = .ok (.iload 5, 2) := by decide +kernel
theorem dX7_blame_73 : decode cX7_blame 73 = .ok (.iload_n 2, 1) := by decide +kernel
theorem dX7_blame_74 : decode cX7_blame 74 = .ok (.invokestatic 120, 3) := by decide +kernel
theorem dX7_blame_77 : decode cX7_blame 77 = .ok (.if_icmp .ne 12, 3) := by decide +kernel
theorem dX7_blame_80 : decode cX7_blame 80 = .ok (.iload 4, 2) := by decide +kernel
theorem dX7_blame_82 : decode cX7_blame 82 = .ok (.iload_n 2, 1) := by decide +kernel
theorem dX7_blame_83 : decode cX7_blame 83 = .ok (.if_icmp .ge 6, 3) := by decide +kernel
theorem dX7_blame_86 : decode cX7_blame 86 = .ok (.iload 4, 2) := by decide +kernel
theorem dX7_blame_88 : decode cX7_blame 88 = .ok (.istore_n 2, 1) := by decide +kernel
theorem dX7_blame_89 : decode cX7_blame 89 = .ok (.iinc 3 1, 3) := by decide +kernel
theorem dX7_blame_92 : decode cX7_blame 92 = .ok (.goto (-78), 3) := by decide +kernel
theorem dX7_blame_95 : decode cX7_blame 95 = .ok (.iload_n 2, 1) := by decide +kernel
theorem dX7_blame_96 : decode cX7_blame 96 = .ok (.ireturn, 1) := by decide +kernel
set_option maxRecDepth 20000 in
theorem ggX7_candidateCount_X7_know : GoodIn wsX7_candidateCount wsX7_know := goodIn_r _ [7, 8, 9, 10, 11, 12, 13, 14, 2, 15, 16, 17, 6, 18, 19, 20, 21, 22, 23, 24, 25, 26, 27, 28, 29, 30, 31, 32, 33, 34, 35, 36, 37, 38, 39, 40, 41, 42, 43, 44, 45, 46, 47, 48, 49, 50, 51, 52, 53, 54, 59, 60, 61, 62, 63, 64, 65, 66, 67, 68, 69, 70, 71, 72, 73, 74, 75, 76, 77, 78, 79, 80, 81] (by decide +kernel) (by decide +kernel)
set_option maxRecDepth 20000 in
theorem gX7_candidateCount_X7_know : GoodIn wsX7_candidateCount (wsV RX7 125 RX7 yX7_know wsX7_know) := goodIn_app (goodIn_of _ (by decide +kernel)) ggX7_candidateCount_X7_know
set_option maxRecDepth 20000 in
theorem ggX7_candidateCount_X7_count : GoodIn wsX7_candidateCount wsX7_count := goodIn_r _ [58, 9, 59, 60, 61, 62, 63, 64, 65, 66, 67, 68, 69, 70, 71, 72, 73, 74, 75, 76, 77, 78, 79, 80, 81] (by decide +kernel) (by decide +kernel)
set_option maxRecDepth 20000 in
theorem gX7_candidateCount_X7_count : GoodIn wsX7_candidateCount (wsV RX7 128 RX7 yX7_count wsX7_count) := goodIn_app (goodIn_of _ (by decide +kernel)) ggX7_candidateCount_X7_count
theorem dX7_candidateCount_0 : decode cX7_candidateCount 0 = .ok (.aload_n 0, 1) := by decide +kernel
theorem dX7_candidateCount_1 : decode cX7_candidateCount 1 = .ok (.iconst 0, 1) := by decide +kernel
theorem dX7_candidateCount_2 : decode cX7_candidateCount 2 = .ok (.putfield 63, 3) := by decide +kernel
theorem dX7_candidateCount_5 : decode cX7_candidateCount 5 = .ok (.aload_n 0, 1) := by decide +kernel
theorem dX7_candidateCount_6 : decode cX7_candidateCount 6 = .ok (.invokevirtual 125, 3) := by decide +kernel
theorem dX7_candidateCount_9 : decode cX7_candidateCount 9 = .ok (.aload_n 0, 1) := by decide +kernel
theorem dX7_candidateCount_10 : decode cX7_candidateCount 10 = .ok (.aload_n 0, 1) := by decide +kernel
theorem dX7_candidateCount_11 : decode cX7_candidateCount 11 = .ok (.getfield 48, 3) := by decide +kernel
theorem dX7_candidateCount_14 : decode cX7_candidateCount 14 = .ok (.invokevirtual 128, 3) := by decide +kernel
theorem dX7_candidateCount_17 : decode cX7_candidateCount 17 = .ok (.ireturn, 1) := by decide +kernel
set_option maxRecDepth 20000 in
theorem ggX7_candidate_X7_know : GoodIn wsX7_candidate wsX7_know := goodIn_r _ [7, 8, 9, 10, 11, 12, 13, 14, 2, 15, 16, 17, 6, 18, 19, 20, 21, 22, 23, 24, 25, 26, 27, 28, 29, 30, 31, 32, 33, 34, 35, 36, 37, 38, 39, 40, 41, 42, 43, 44, 45, 46, 47, 48, 49, 50, 51, 52, 53, 54, 63, 64, 65, 66, 67, 68, 69, 70, 71, 72, 73, 74, 75, 76, 77, 78, 79, 80, 81, 82, 83, 84, 85] (by decide +kernel) (by decide +kernel)
set_option maxRecDepth 20000 in
theorem gX7_candidate_X7_know : GoodIn wsX7_candidate (wsV RX7 125 RX7 yX7_know wsX7_know) := goodIn_app (goodIn_of _ (by decide +kernel)) ggX7_candidate_X7_know
set_option maxRecDepth 20000 in
theorem ggX7_candidate_X7_member : GoodIn wsX7_candidate wsX7_member := goodIn_r _ [58, 9, 59, 60, 61, 6, 62, 1, 63, 64, 65, 66, 67, 68, 69, 70, 71, 72, 73, 74, 75, 76, 77, 78, 79, 80, 81, 82, 83, 84, 85] (by decide +kernel) (by decide +kernel)
set_option maxRecDepth 20000 in
theorem gX7_candidate_X7_member : GoodIn wsX7_candidate (wsV RX7 132 RX7 yX7_member wsX7_member) := goodIn_app (goodIn_of _ (by decide +kernel)) ggX7_candidate_X7_member
theorem dX7_candidate_0 : decode cX7_candidate 0 = .ok (.aload_n 0, 1) := by decide +kernel
theorem dX7_candidate_1 : decode cX7_candidate 1 = .ok (.iconst 0, 1) := by decide +kernel
theorem dX7_candidate_2 : decode cX7_candidate 2 = .ok (.putfield 63, 3) := by decide +kernel
theorem dX7_candidate_5 : decode cX7_candidate 5 = .ok (.aload_n 0, 1) := by decide +kernel
theorem dX7_candidate_6 : decode cX7_candidate 6 = .ok (.invokevirtual 125, 3) := by decide +kernel
theorem dX7_candidate_9 : decode cX7_candidate 9 = .ok (.aload_n 0, 1) := by decide +kernel
theorem dX7_candidate_10 : decode cX7_candidate 10 = .ok (.aload_n 0, 1) := by decide +kernel
theorem dX7_candidate_11 : decode cX7_candidate 11 = .ok (.getfield 48, 3) := by decide +kernel
theorem dX7_candidate_14 : decode cX7_candidate 14 = .ok (.iload_n 1, 1) := by decide +kernel
theorem dX7_candidate_15 : decode cX7_candidate 15 = .ok (.iconst 1, 1) := by decide +kernel
theorem dX7_candidate_16 : decode cX7_candidate 16 = .ok (.invokevirtual 132, 3) := by decide +kernel
theorem dX7_candidate_19 : decode cX7_candidate 19 = .ok (.ireturn, 1) := by decide +kernel
set_option maxRecDepth 20000 in
theorem ggX7_openWith_X7_countWith : GoodIn wsX7_openWith wsX7_countWith := goodIn_r _ [8, 1, 9, 10, 7, 11, 12, 13, 14, 15, 16, 17, 18, 19, 20, 21, 22, 23, 24, 25, 26, 27, 28, 29, 30, 31, 32, 33, 34] (by decide +kernel) (by decide +kernel)
set_option maxRecDepth 20000 in
theorem gX7_openWith_X7_countWith : GoodIn wsX7_openWith (wsV RX7 139 RX7 yX7_countWith wsX7_countWith) := goodIn_app (goodIn_of _ (by decide +kernel)) ggX7_openWith_X7_countWith
theorem dX7_openWith_0 : decode cX7_openWith 0 = .ok (.iconst 0, 1) := by decide +kernel
theorem dX7_openWith_1 : decode cX7_openWith 1 = .ok (.istore_n 2, 1) := by decide +kernel
theorem dX7_openWith_2 : decode cX7_openWith 2 = .ok (.iconst 0, 1) := by decide +kernel
theorem dX7_openWith_3 : decode cX7_openWith 3 = .ok (.istore_n 3, 1) := by decide +kernel
theorem dX7_openWith_4 : decode cX7_openWith 4 = .ok (.iload_n 3, 1) := by decide +kernel
theorem dX7_openWith_5 : decode cX7_openWith 5 = .ok (.aload_n 0, 1) := by decide +kernel
theorem dX7_openWith_6 : decode cX7_openWith 6 = .ok (.getfield 9, 3) := by decide +kernel
theorem dX7_openWith_9 : decode cX7_openWith 9 = .ok (.if_icmp .ge 37, 3) := by decide +kernel
theorem dX7_openWith_12 : decode cX7_openWith 12 = .ok (.aload_n 0, 1) := by decide +kernel
theorem dX7_openWith_13 : decode cX7_openWith 13 = .ok (.getfield 26, 3) := by decide +kernel
theorem dX7_openWith_16 : decode cX7_openWith 16 = .ok (.iload_n 3, 1) := by decide +kernel
theorem dX7_openWith_17 : decode cX7_openWith 17 = .ok (.iaload, 1) := by decide +kernel
theorem dX7_openWith_18 : decode cX7_openWith 18 = .ok (.ifCond .ne 22, 3) := by decide +kernel
theorem dX7_openWith_21 : decode cX7_openWith 21 = .ok (.aload_n 0, 1) := by decide +kernel
theorem dX7_openWith_22 : decode cX7_openWith 22 = .ok (.aload_n 0, 1) := by decide +kernel
theorem dX7_openWith_23 : decode cX7_openWith 23 = .ok (.getfield 48, 3) := by decide +kernel
theorem dX7_openWith_26 : decode cX7_openWith 26 = .ok (.iload_n 3, 1) := by decide +kernel
theorem dX7_openWith_27 : decode cX7_openWith 27 = .ok (.invokevirtual 139, 3) := by decide +kernel
theorem dX7_openWith_30 : decode cX7_openWith 30 = .ok (.iload_n 1, 1) := by decide +kernel
theorem dX7_openWith_31 : decode cX7_openWith 31 = .ok (.if_icmp .ne 9, 3) := by decide +kernel
theorem dX7_openWith_34 : decode cX7_openWith 34 = .ok (.iload_n 2, 1) := by decide +kernel
theorem dX7_openWith_35 : decode cX7_openWith 35 = .ok (.iconst 1, 1) := by decide +kernel
theorem dX7_openWith_36 : decode cX7_openWith 36 = .ok (.iload_n 3, 1) := by decide +kernel
theorem dX7_openWith_37 : decode cX7_openWith 37 = .ok (.ishl, 1) := by decide +kernel
theorem dX7_openWith_38 : decode cX7_openWith 38 = .ok (.ior, 1) := by decide +kernel
theorem dX7_openWith_39 : decode cX7_openWith 39 = .ok (.istore_n 2, 1) := by decide +kernel
theorem dX7_openWith_40 : decode cX7_openWith 40 = .ok (.iinc 3 1, 3) := by decide +kernel
theorem dX7_openWith_43 : decode cX7_openWith 43 = .ok (.goto (-39), 3) := by decide +kernel
theorem dX7_openWith_46 : decode cX7_openWith 46 = .ok (.iload_n 2, 1) := by decide +kernel
theorem dX7_openWith_47 : decode cX7_openWith 47 = .ok (.ireturn, 1) := by decide +kernel
set_option maxRecDepth 20000 in
theorem ggX7_forced_X7_candidateCount : GoodIn wsX7_forced wsX7_candidateCount := goodIn_r _ [5, 6, 7, 8, 9, 10, 4, 11, 12, 13, 14, 15, 16, 17, 18, 19, 20, 21, 22, 23, 24, 25, 26, 27, 28, 29, 30, 31, 32, 33, 34, 35, 36, 37, 38, 39, 40, 41, 42, 43, 44, 45, 46, 47, 48, 49, 50, 51, 52, 53, 54, 55, 56, 57, 58, 59, 60, 61, 62, 71, 72, 73, 74, 75, 76, 77, 78, 79, 80, 81, 82, 83, 84, 85, 86, 87, 88, 89, 90, 91, 92, 93] (by decide +kernel) (by decide +kernel)
set_option maxRecDepth 20000 in
theorem gX7_forced_X7_candidateCount : GoodIn wsX7_forced (wsV RX7 146 RX7 yX7_candidateCount wsX7_candidateCount) := goodIn_app (goodIn_of _ (by decide +kernel)) ggX7_forced_X7_candidateCount
set_option maxRecDepth 20000 in
theorem ggX7_forced_X7_openWith : GoodIn wsX7_forced wsX7_openWith := goodIn_r _ [66, 13, 58, 7, 67, 68, 69, 4, 70, 23, 24, 25, 71, 72, 73, 74, 75, 76, 77, 78, 79, 80, 81, 82, 83, 84, 85, 86, 87, 88, 89, 90, 91, 92, 93] (by decide +kernel) (by decide +kernel)
set_option maxRecDepth 20000 in
theorem gX7_forced_X7_openWith : GoodIn wsX7_forced (wsV RX7 150 RX7 yX7_openWith wsX7_openWith) := goodIn_app (goodIn_of _ (by decide +kernel)) ggX7_forced_X7_openWith
theorem dX7_forced_0 : decode cX7_forced 0 = .ok (.aload_n 0, 1) := by decide +kernel
theorem dX7_forced_1 : decode cX7_forced 1 = .ok (.invokevirtual 146, 3) := by decide +kernel
theorem dX7_forced_4 : decode cX7_forced 4 = .ok (.istore_n 1, 1) := by decide +kernel
theorem dX7_forced_5 : decode cX7_forced 5 = .ok (.iload_n 1, 1) := by decide +kernel
theorem dX7_forced_6 : decode cX7_forced 6 = .ok (.ifCond .ne 7, 3) := by decide +kernel
theorem dX7_forced_9 : decode cX7_forced 9 = .ok (.iconst 0, 1) := by decide +kernel
theorem dX7_forced_10 : decode cX7_forced 10 = .ok (.goto 8, 3) := by decide +kernel
theorem dX7_forced_13 : decode cX7_forced 13 = .ok (.aload_n 0, 1) := by decide +kernel
theorem dX7_forced_14 : decode cX7_forced 14 = .ok (.iload_n 1, 1) := by decide +kernel
theorem dX7_forced_15 : decode cX7_forced 15 = .ok (.invokevirtual 150, 3) := by decide +kernel
theorem dX7_forced_18 : decode cX7_forced 18 = .ok (.ireturn, 1) := by decide +kernel
set_option maxRecDepth 20000 in
theorem ggX7_ruledOut_X7_candidateCount : GoodIn wsX7_ruledOut wsX7_candidateCount := goodIn_r _ [5, 6, 7, 8, 9, 10, 4, 11, 12, 13, 14, 15, 16, 17, 18, 19, 20, 21, 22, 23, 24, 25, 26, 27, 28, 29, 30, 31, 32, 33, 34, 35, 36, 37, 38, 39, 40, 41, 42, 43, 44, 45, 46, 47, 48, 49, 50, 51, 52, 53, 54, 55, 56, 57, 58, 59, 60, 61, 62, 71, 72, 73, 74, 75, 76, 77, 78, 79, 80, 81, 82, 83, 84, 85, 86, 87, 88, 89, 90, 91, 92, 93] (by decide +kernel) (by decide +kernel)
set_option maxRecDepth 20000 in
theorem gX7_ruledOut_X7_candidateCount : GoodIn wsX7_ruledOut (wsV RX7 146 RX7 yX7_candidateCount wsX7_candidateCount) := goodIn_app (goodIn_of _ (by decide +kernel)) ggX7_ruledOut_X7_candidateCount
set_option maxRecDepth 20000 in
theorem ggX7_ruledOut_X7_openWith : GoodIn wsX7_ruledOut wsX7_openWith := goodIn_r _ [66, 13, 58, 7, 67, 68, 69, 4, 70, 23, 24, 25, 71, 72, 73, 74, 75, 76, 77, 78, 79, 80, 81, 82, 83, 84, 85, 86, 87, 88, 89, 90, 91, 92, 93] (by decide +kernel) (by decide +kernel)
set_option maxRecDepth 20000 in
theorem gX7_ruledOut_X7_openWith : GoodIn wsX7_ruledOut (wsV RX7 150 RX7 yX7_openWith wsX7_openWith) := goodIn_app (goodIn_of _ (by decide +kernel)) ggX7_ruledOut_X7_openWith
theorem dX7_ruledOut_0 : decode cX7_ruledOut 0 = .ok (.aload_n 0, 1) := by decide +kernel
theorem dX7_ruledOut_1 : decode cX7_ruledOut 1 = .ok (.invokevirtual 146, 3) := by decide +kernel
theorem dX7_ruledOut_4 : decode cX7_ruledOut 4 = .ok (.ifCond .ne 7, 3) := by decide +kernel
theorem dX7_ruledOut_7 : decode cX7_ruledOut 7 = .ok (.iconst 0, 1) := by decide +kernel
theorem dX7_ruledOut_8 : decode cX7_ruledOut 8 = .ok (.goto 8, 3) := by decide +kernel
theorem dX7_ruledOut_11 : decode cX7_ruledOut 11 = .ok (.aload_n 0, 1) := by decide +kernel
theorem dX7_ruledOut_12 : decode cX7_ruledOut 12 = .ok (.iconst 0, 1) := by decide +kernel
theorem dX7_ruledOut_13 : decode cX7_ruledOut 13 = .ok (.invokevirtual 150, 3) := by decide +kernel
theorem dX7_ruledOut_16 : decode cX7_ruledOut 16 = .ok (.ireturn, 1) := by decide +kernel
set_option maxRecDepth 20000 in
theorem ggX7_share_X7_asks : GoodIn wsX7_share wsX7_asks := goodIn_r _ [6, 7, 8, 9, 10, 5, 11, 12, 13, 14, 15, 16, 17, 18, 19, 20, 21, 22, 1, 23, 24, 25, 26, 27, 28, 29, 30, 31, 32, 33, 34, 35, 36, 37, 38, 39, 40, 41, 42, 43, 44, 45, 46, 47, 48, 49, 50, 51, 52, 53, 54, 55, 56, 57, 58, 59, 60, 61, 62, 71, 72, 73, 74, 75, 76, 77, 78, 79, 80, 81, 82, 83, 84, 85, 86, 87, 88, 89, 90, 91, 92, 93] (by decide +kernel) (by decide +kernel)
set_option maxRecDepth 20000 in
theorem gX7_share_X7_asks : GoodIn wsX7_share (wsV RX7 136 RX7 yX7_asks wsX7_asks) := goodIn_app (goodIn_of _ (by decide +kernel)) ggX7_share_X7_asks
set_option maxRecDepth 20000 in
theorem ggX7_share_X7_count : GoodIn wsX7_share wsX7_count := goodIn_r _ [66, 12, 71, 72, 73, 74, 75, 76, 77, 78, 79, 80, 81, 82, 83, 84, 85, 86, 87, 88, 89, 90, 91, 92, 93] (by decide +kernel) (by decide +kernel)
set_option maxRecDepth 20000 in
theorem gX7_share_X7_count : GoodIn wsX7_share (wsV RX7 128 RX7 yX7_count wsX7_count) := goodIn_app (goodIn_of _ (by decide +kernel)) ggX7_share_X7_count
set_option maxRecDepth 20000 in
theorem ggX7_share_X7_countWith : GoodIn wsX7_share wsX7_countWith := goodIn_r _ [70, 12, 27, 28, 5, 29, 71, 72, 73, 74, 75, 76, 77, 78, 79, 80, 81, 82, 83, 84, 85, 86, 87, 88, 89, 90, 91, 92, 93] (by decide +kernel) (by decide +kernel)
set_option maxRecDepth 20000 in
theorem gX7_share_X7_countWith : GoodIn wsX7_share (wsV RX7 139 RX7 yX7_countWith wsX7_countWith) := goodIn_app (goodIn_of _ (by decide +kernel)) ggX7_share_X7_countWith
theorem dX7_share_0 : decode cX7_share 0 = .ok (.aload_n 0, 1) := by decide +kernel
theorem dX7_share_1 : decode cX7_share 1 = .ok (.iload_n 1, 1) := by decide +kernel
theorem dX7_share_2 : decode cX7_share 2 = .ok (.invokevirtual 136, 3) := by decide +kernel
theorem dX7_share_5 : decode cX7_share 5 = .ok (.ifCond .ne 5, 3) := by decide +kernel
theorem dX7_share_8 : decode cX7_share 8 = .ok (.dconst 0, 1) := by decide +kernel
theorem dX7_share_9 : decode cX7_share 9 = .ok (.dreturn, 1) := by decide +kernel
theorem dX7_share_10 : decode cX7_share 10 = .ok (.aload_n 0, 1) := by decide +kernel
theorem dX7_share_11 : decode cX7_share 11 = .ok (.aload_n 0, 1) := by decide +kernel
theorem dX7_share_12 : decode cX7_share 12 = .ok (.getfield 48, 3) := by decide +kernel
theorem dX7_share_15 : decode cX7_share 15 = .ok (.invokevirtual 128, 3) := by decide +kernel
theorem dX7_share_18 : decode cX7_share 18 = .ok (.istore_n 2, 1) := by decide +kernel
theorem dX7_share_19 : decode cX7_share 19 = .ok (.iload_n 2, 1) := by decide +kernel
theorem dX7_share_20 : decode cX7_share 20 = .ok (.ifCond .ne 7, 3) := by decide +kernel
theorem dX7_share_23 : decode cX7_share 23 = .ok (.dconst 0, 1) := by decide +kernel
theorem dX7_share_24 : decode cX7_share 24 = .ok (.goto 16, 3) := by decide +kernel
theorem dX7_share_27 : decode cX7_share 27 = .ok (.aload_n 0, 1) := by decide +kernel
theorem dX7_share_28 : decode cX7_share 28 = .ok (.aload_n 0, 1) := by decide +kernel
theorem dX7_share_29 : decode cX7_share 29 = .ok (.getfield 48, 3) := by decide +kernel
theorem dX7_share_32 : decode cX7_share 32 = .ok (.iload_n 1, 1) := by decide +kernel
theorem dX7_share_33 : decode cX7_share 33 = .ok (.invokevirtual 139, 3) := by decide +kernel
theorem dX7_share_36 : decode cX7_share 36 = .ok (.i2d, 1) := by decide +kernel
theorem dX7_share_37 : decode cX7_share 37 = .ok (.iload_n 2, 1) := by decide +kernel
theorem dX7_share_38 : decode cX7_share 38 = .ok (.i2d, 1) := by decide +kernel
theorem dX7_share_39 : decode cX7_share 39 = .ok (.ddiv, 1) := by decide +kernel
theorem dX7_share_40 : decode cX7_share 40 = .ok (.dreturn, 1) := by decide +kernel
set_option maxRecDepth 20000 in
theorem ggX7_question_X7_candidateCount : GoodIn wsX7_question wsX7_candidateCount := goodIn_r _ [11, 12, 2, 13, 14, 15, 10, 16, 17, 1, 18, 19, 20, 21, 22, 23, 24, 25, 26, 27, 28, 29, 30, 31, 32, 33, 34, 35, 36, 37, 38, 39, 40, 41, 5, 42, 43, 44, 45, 46, 47, 48, 49, 50, 51, 52, 53, 54, 55, 56, 57, 58, 59, 60, 61, 62, 63, 64, 65, 70, 71, 72, 73, 74, 75, 76, 77, 78, 79, 80, 81, 82, 83, 84, 85, 86, 87, 88, 89, 90, 91, 92] (by decide +kernel) (by decide +kernel)
set_option maxRecDepth 20000 in
theorem gX7_question_X7_candidateCount : GoodIn wsX7_question (wsV RX7 146 RX7 yX7_candidateCount wsX7_candidateCount) := goodIn_app (goodIn_of _ (by decide +kernel)) ggX7_question_X7_candidateCount
set_option maxRecDepth 20000 in
theorem ggX7_question_X7_countWith : GoodIn wsX7_question wsX7_countWith := goodIn_r _ [69, 1, 27, 28, 10, 29, 70, 71, 72, 73, 74, 75, 76, 77, 78, 79, 80, 81, 82, 83, 84, 85, 86, 87, 88, 89, 90, 91, 92] (by decide +kernel) (by decide +kernel)
set_option maxRecDepth 20000 in
theorem gX7_question_X7_countWith : GoodIn wsX7_question (wsV RX7 139 RX7 yX7_countWith wsX7_countWith) := goodIn_app (goodIn_of _ (by decide +kernel)) ggX7_question_X7_countWith
theorem dX7_question_0 : decode cX7_question 0 = .ok (.aload_n 0, 1) := by decide +kernel
theorem dX7_question_1 : decode cX7_question 1 = .ok (.invokevirtual 146, 3) := by decide +kernel
theorem dX7_question_4 : decode cX7_question 4 = .ok (.istore_n 1, 1) := by decide +kernel
theorem dX7_question_5 : decode cX7_question 5 = .ok (.iconst (-1), 1) := by decide +kernel
theorem dX7_question_6 : decode cX7_question 6 = .ok (.istore_n 2, 1) := by decide +kernel
theorem dX7_question_7 : decode cX7_question 7 = .ok (.iconst 0, 1) := by decide +kernel
theorem dX7_question_8 : decode cX7_question 8 = .ok (.istore_n 3, 1) := by decide +kernel
theorem dX7_question_9 : decode cX7_question 9 = .ok (.iconst 0, 1) := by decide +kernel
theorem dX7_question_10 : decode cX7_question 10 = .ok (.istore 4, 2) := by decide +kernel
theorem dX7_question_12 : decode cX7_question 12 = .ok (.iload 4, 2) := by decide +kernel
theorem dX7_question_14 : decode cX7_question 14 = .ok (.aload_n 0, 1) := by decide +kernel
theorem dX7_question_15 : decode cX7_question 15 = .ok (.getfield 9, 3) := by decide +kernel
theorem dX7_question_18 : decode cX7_question 18 = .ok (.if_icmp .ge 63, 3) := by decide +kernel
theorem dX7_question_21 : decode cX7_question 21 = .ok (.aload_n 0, 1) := by decide +kernel
theorem dX7_question_22 : decode cX7_question 22 = .ok (.aload_n 0, 1) := by decide +kernel
theorem dX7_question_23 : decode cX7_question 23 = .ok (.getfield 48, 3) := by decide +kernel
theorem dX7_question_26 : decode cX7_question 26 = .ok (.iload 4, 2) := by decide +kernel
theorem dX7_question_28 : decode cX7_question 28 = .ok (.invokevirtual 139, 3) := by decide +kernel
theorem dX7_question_31 : decode cX7_question 31 = .ok (.istore 5, 2) := by decide +kernel
theorem dX7_question_33 : decode cX7_question 33 = .ok (.iconst 2, 1) := by decide +kernel
theorem dX7_question_34 : decode cX7_question 34 = .ok (.iload 5, 2) := by decide +kernel
theorem dX7_question_36 : decode cX7_question 36 = .ok (.imul, 1) := by decide +kernel
theorem dX7_question_37 : decode cX7_question 37 = .ok (.iload_n 1, 1) := by decide +kernel
theorem dX7_question_38 : decode cX7_question 38 = .ok (.isub, 1) := by decide +kernel
theorem dX7_question_39 : decode cX7_question 39 = .ok (.invokestatic 153, 3) := by decide +kernel
theorem dX7_question_42 : decode cX7_question 42 = .ok (.istore 6, 2) := by decide +kernel
theorem dX7_question_44 : decode cX7_question 44 = .ok (.iload 5, 2) := by decide +kernel
theorem dX7_question_46 : decode cX7_question 46 = .ok (.ifCond .eq 29, 3) := by decide +kernel
theorem dX7_question_49 : decode cX7_question 49 = .ok (.iload 5, 2) := by decide +kernel
theorem dX7_question_51 : decode cX7_question 51 = .ok (.iload_n 1, 1) := by decide +kernel
theorem dX7_question_52 : decode cX7_question 52 = .ok (.if_icmp .eq 23, 3) := by decide +kernel
theorem dX7_question_55 : decode cX7_question 55 = .ok (.iload_n 2, 1) := by decide +kernel
theorem dX7_question_56 : decode cX7_question 56 = .ok (.iconst (-1), 1) := by decide +kernel
theorem dX7_question_57 : decode cX7_question 57 = .ok (.if_icmp .eq 12, 3) := by decide +kernel
theorem dX7_question_60 : decode cX7_question 60 = .ok (.iload 6, 2) := by decide +kernel
theorem dX7_question_62 : decode cX7_question 62 = .ok (.iload_n 3, 1) := by decide +kernel
theorem dX7_question_63 : decode cX7_question 63 = .ok (.if_icmp .lt 6, 3) := by decide +kernel
theorem dX7_question_66 : decode cX7_question 66 = .ok (.goto 9, 3) := by decide +kernel
theorem dX7_question_69 : decode cX7_question 69 = .ok (.iload 4, 2) := by decide +kernel
theorem dX7_question_71 : decode cX7_question 71 = .ok (.istore_n 2, 1) := by decide +kernel
theorem dX7_question_72 : decode cX7_question 72 = .ok (.iload 6, 2) := by decide +kernel
theorem dX7_question_74 : decode cX7_question 74 = .ok (.istore_n 3, 1) := by decide +kernel
theorem dX7_question_75 : decode cX7_question 75 = .ok (.iinc 4 1, 3) := by decide +kernel
theorem dX7_question_78 : decode cX7_question 78 = .ok (.goto (-66), 3) := by decide +kernel
theorem dX7_question_81 : decode cX7_question 81 = .ok (.iload_n 2, 1) := by decide +kernel
theorem dX7_question_82 : decode cX7_question 82 = .ok (.ireturn, 1) := by decide +kernel
set_option maxRecDepth 20000 in
theorem ggX7_cheapest_X7_know : GoodIn wsX7_cheapest wsX7_know := goodIn_r _ [9, 10, 2, 4, 11, 12, 13, 14, 3, 15, 16, 17, 8, 18, 19, 20, 21, 22, 23, 24, 25, 26, 27, 28, 29, 30, 31, 32, 33, 34, 35, 36, 37, 38, 39, 40, 41, 42, 43, 44, 45, 46, 47, 48, 49, 50, 51, 52, 53, 54, 55, 56, 57, 58, 59, 60, 61, 62, 63, 64, 65, 66, 67, 68, 69, 70, 71, 72, 73, 74, 75, 76, 77] (by decide +kernel) (by decide +kernel)
set_option maxRecDepth 20000 in
theorem gX7_cheapest_X7_know : GoodIn wsX7_cheapest (wsV RX7 125 RX7 yX7_know wsX7_know) := goodIn_app (goodIn_of _ (by decide +kernel)) ggX7_cheapest_X7_know
theorem dX7_cheapest_0 : decode cX7_cheapest 0 = .ok (.aload_n 0, 1) := by decide +kernel
theorem dX7_cheapest_1 : decode cX7_cheapest 1 = .ok (.iconst 0, 1) := by decide +kernel
theorem dX7_cheapest_2 : decode cX7_cheapest 2 = .ok (.putfield 63, 3) := by decide +kernel
theorem dX7_cheapest_5 : decode cX7_cheapest 5 = .ok (.aload_n 0, 1) := by decide +kernel
theorem dX7_cheapest_6 : decode cX7_cheapest 6 = .ok (.invokevirtual 125, 3) := by decide +kernel
theorem dX7_cheapest_9 : decode cX7_cheapest 9 = .ok (.iconst (-1), 1) := by decide +kernel
theorem dX7_cheapest_10 : decode cX7_cheapest 10 = .ok (.istore_n 1, 1) := by decide +kernel
theorem dX7_cheapest_11 : decode cX7_cheapest 11 = .ok (.iconst 0, 1) := by decide +kernel
theorem dX7_cheapest_12 : decode cX7_cheapest 12 = .ok (.istore_n 2, 1) := by decide +kernel
theorem dX7_cheapest_13 : decode cX7_cheapest 13 = .ok (.iload_n 2, 1) := by decide +kernel
theorem dX7_cheapest_14 : decode cX7_cheapest 14 = .ok (.iconst 1, 1) := by decide +kernel
theorem dX7_cheapest_15 : decode cX7_cheapest 15 = .ok (.aload_n 0, 1) := by decide +kernel
theorem dX7_cheapest_16 : decode cX7_cheapest 16 = .ok (.getfield 9, 3) := by decide +kernel
theorem dX7_cheapest_19 : decode cX7_cheapest 19 = .ok (.ishl, 1) := by decide +kernel
theorem dX7_cheapest_20 : decode cX7_cheapest 20 = .ok (.if_icmp .ge 40, 3) := by decide +kernel
theorem dX7_cheapest_23 : decode cX7_cheapest 23 = .ok (.aload_n 0, 1) := by decide +kernel
theorem dX7_cheapest_24 : decode cX7_cheapest 24 = .ok (.getfield 48, 3) := by decide +kernel
theorem dX7_cheapest_27 : decode cX7_cheapest 27 = .ok (.iload_n 2, 1) := by decide +kernel
theorem dX7_cheapest_28 : decode cX7_cheapest 28 = .ok (.baload, 1) := by decide +kernel
theorem dX7_cheapest_29 : decode cX7_cheapest 29 = .ok (.ifCond .eq 25, 3) := by decide +kernel
theorem dX7_cheapest_32 : decode cX7_cheapest 32 = .ok (.iload_n 1, 1) := by decide +kernel
theorem dX7_cheapest_33 : decode cX7_cheapest 33 = .ok (.iconst (-1), 1) := by decide +kernel
theorem dX7_cheapest_34 : decode cX7_cheapest 34 = .ok (.if_icmp .eq 18, 3) := by decide +kernel
theorem dX7_cheapest_37 : decode cX7_cheapest 37 = .ok (.aload_n 0, 1) := by decide +kernel
theorem dX7_cheapest_38 : decode cX7_cheapest 38 = .ok (.getfield 51, 3) := by decide +kernel
theorem dX7_cheapest_41 : decode cX7_cheapest 41 = .ok (.iload_n 2, 1) := by decide +kernel
theorem dX7_cheapest_42 : decode cX7_cheapest 42 = .ok (.iaload, 1) := by decide +kernel
theorem dX7_cheapest_43 : decode cX7_cheapest 43 = .ok (.aload_n 0, 1) := by decide +kernel
theorem dX7_cheapest_44 : decode cX7_cheapest 44 = .ok (.getfield 51, 3) := by decide +kernel
theorem dX7_cheapest_47 : decode cX7_cheapest 47 = .ok (.iload_n 1, 1) := by decide +kernel
theorem dX7_cheapest_48 : decode cX7_cheapest 48 = .ok (.iaload, 1) := by decide +kernel
theorem dX7_cheapest_49 : decode cX7_cheapest 49 = .ok (.if_icmp .ge 5, 3) := by decide +kernel
theorem dX7_cheapest_52 : decode cX7_cheapest 52 = .ok (.iload_n 2, 1) := by decide +kernel
theorem dX7_cheapest_53 : decode cX7_cheapest 53 = .ok (.istore_n 1, 1) := by decide +kernel
theorem dX7_cheapest_54 : decode cX7_cheapest 54 = .ok (.iinc 2 1, 3) := by decide +kernel
theorem dX7_cheapest_57 : decode cX7_cheapest 57 = .ok (.goto (-44), 3) := by decide +kernel
theorem dX7_cheapest_60 : decode cX7_cheapest 60 = .ok (.iload_n 1, 1) := by decide +kernel
theorem dX7_cheapest_61 : decode cX7_cheapest 61 = .ok (.ireturn, 1) := by decide +kernel
set_option maxRecDepth 20000 in
theorem ggX7_best_X7_know : GoodIn wsX7_best wsX7_know := goodIn_r _ [10, 11, 2, 5, 12, 4, 13, 14, 3, 15, 16, 17, 9, 18, 19, 20, 21, 22, 23, 24, 25, 26, 27, 28, 29, 30, 31, 32, 33, 34, 35, 36, 37, 38, 39, 40, 41, 42, 43, 44, 45, 46, 47, 48, 49, 50, 51, 52, 53, 54, 55, 56, 57, 58, 59, 60, 61, 62, 63, 64, 65, 66, 67, 68, 69, 70, 71, 72, 73, 74, 75, 76, 77] (by decide +kernel) (by decide +kernel)
set_option maxRecDepth 20000 in
theorem gX7_best_X7_know : GoodIn wsX7_best (wsV RX7 125 RX7 yX7_know wsX7_know) := goodIn_app (goodIn_of _ (by decide +kernel)) ggX7_best_X7_know
theorem dX7_best_0 : decode cX7_best 0 = .ok (.aload_n 0, 1) := by decide +kernel
theorem dX7_best_1 : decode cX7_best 1 = .ok (.iconst 0, 1) := by decide +kernel
theorem dX7_best_2 : decode cX7_best 2 = .ok (.putfield 63, 3) := by decide +kernel
theorem dX7_best_5 : decode cX7_best 5 = .ok (.aload_n 0, 1) := by decide +kernel
theorem dX7_best_6 : decode cX7_best 6 = .ok (.invokevirtual 125, 3) := by decide +kernel
theorem dX7_best_9 : decode cX7_best 9 = .ok (.iconst (-1), 1) := by decide +kernel
theorem dX7_best_10 : decode cX7_best 10 = .ok (.istore_n 1, 1) := by decide +kernel
theorem dX7_best_11 : decode cX7_best 11 = .ok (.iconst 0, 1) := by decide +kernel
theorem dX7_best_12 : decode cX7_best 12 = .ok (.istore_n 2, 1) := by decide +kernel
theorem dX7_best_13 : decode cX7_best 13 = .ok (.iload_n 2, 1) := by decide +kernel
theorem dX7_best_14 : decode cX7_best 14 = .ok (.iconst 1, 1) := by decide +kernel
theorem dX7_best_15 : decode cX7_best 15 = .ok (.aload_n 0, 1) := by decide +kernel
theorem dX7_best_16 : decode cX7_best 16 = .ok (.getfield 9, 3) := by decide +kernel
theorem dX7_best_19 : decode cX7_best 19 = .ok (.ishl, 1) := by decide +kernel
theorem dX7_best_20 : decode cX7_best 20 = .ok (.if_icmp .ge 69, 3) := by decide +kernel
theorem dX7_best_23 : decode cX7_best 23 = .ok (.aload_n 0, 1) := by decide +kernel
theorem dX7_best_24 : decode cX7_best 24 = .ok (.getfield 48, 3) := by decide +kernel
theorem dX7_best_27 : decode cX7_best 27 = .ok (.iload_n 2, 1) := by decide +kernel
theorem dX7_best_28 : decode cX7_best 28 = .ok (.baload, 1) := by decide +kernel
theorem dX7_best_29 : decode cX7_best 29 = .ok (.ifCond .ne 6, 3) := by decide +kernel
theorem dX7_best_32 : decode cX7_best 32 = .ok (.goto 51, 3) := by decide +kernel
theorem dX7_best_35 : decode cX7_best 35 = .ok (.iload_n 1, 1) := by decide +kernel
theorem dX7_best_36 : decode cX7_best 36 = .ok (.iconst (-1), 1) := by decide +kernel
theorem dX7_best_37 : decode cX7_best 37 = .ok (.if_icmp .ne 7, 3) := by decide +kernel
theorem dX7_best_40 : decode cX7_best 40 = .ok (.iconst 1, 1) := by decide +kernel
theorem dX7_best_41 : decode cX7_best 41 = .ok (.goto 16, 3) := by decide +kernel
theorem dX7_best_44 : decode cX7_best 44 = .ok (.aload_n 0, 1) := by decide +kernel
theorem dX7_best_45 : decode cX7_best 45 = .ok (.getfield 54, 3) := by decide +kernel
theorem dX7_best_48 : decode cX7_best 48 = .ok (.iload_n 2, 1) := by decide +kernel
theorem dX7_best_49 : decode cX7_best 49 = .ok (.iaload, 1) := by decide +kernel
theorem dX7_best_50 : decode cX7_best 50 = .ok (.aload_n 0, 1) := by decide +kernel
theorem dX7_best_51 : decode cX7_best 51 = .ok (.getfield 54, 3) := by decide +kernel
theorem dX7_best_54 : decode cX7_best 54 = .ok (.iload_n 1, 1) := by decide +kernel
theorem dX7_best_55 : decode cX7_best 55 = .ok (.iaload, 1) := by decide +kernel
theorem dX7_best_56 : decode cX7_best 56 = .ok (.isub, 1) := by decide +kernel
theorem dX7_best_57 : decode cX7_best 57 = .ok (.istore_n 3, 1) := by decide +kernel
theorem dX7_best_58 : decode cX7_best 58 = .ok (.iload_n 3, 1) := by decide +kernel
theorem dX7_best_59 : decode cX7_best 59 = .ok (.ifCond .gt 22, 3) := by decide +kernel
theorem dX7_best_62 : decode cX7_best 62 = .ok (.iload_n 3, 1) := by decide +kernel
theorem dX7_best_63 : decode cX7_best 63 = .ok (.ifCond .ne 20, 3) := by decide +kernel
theorem dX7_best_66 : decode cX7_best 66 = .ok (.aload_n 0, 1) := by decide +kernel
theorem dX7_best_67 : decode cX7_best 67 = .ok (.getfield 51, 3) := by decide +kernel
theorem dX7_best_70 : decode cX7_best 70 = .ok (.iload_n 2, 1) := by decide +kernel
theorem dX7_best_71 : decode cX7_best 71 = .ok (.iaload, 1) := by decide +kernel
theorem dX7_best_72 : decode cX7_best 72 = .ok (.aload_n 0, 1) := by decide +kernel
theorem dX7_best_73 : decode cX7_best 73 = .ok (.getfield 51, 3) := by decide +kernel
theorem dX7_best_76 : decode cX7_best 76 = .ok (.iload_n 1, 1) := by decide +kernel
theorem dX7_best_77 : decode cX7_best 77 = .ok (.iaload, 1) := by decide +kernel
theorem dX7_best_78 : decode cX7_best 78 = .ok (.if_icmp .ge 5, 3) := by decide +kernel
theorem dX7_best_81 : decode cX7_best 81 = .ok (.iload_n 2, 1) := by decide +kernel
theorem dX7_best_82 : decode cX7_best 82 = .ok (.istore_n 1, 1) := by decide +kernel
theorem dX7_best_83 : decode cX7_best 83 = .ok (.iinc 2 1, 3) := by decide +kernel
theorem dX7_best_86 : decode cX7_best 86 = .ok (.goto (-73), 3) := by decide +kernel
theorem dX7_best_89 : decode cX7_best 89 = .ok (.iload_n 1, 1) := by decide +kernel
theorem dX7_best_90 : decode cX7_best 90 = .ok (.ireturn, 1) := by decide +kernel
theorem dX7_isInFront_0 : decode cX7_isInFront 0 = .ok (.aload_n 0, 1) := by decide +kernel
theorem dX7_isInFront_1 : decode cX7_isInFront 1 = .ok (.getfield 48, 3) := by decide +kernel
theorem dX7_isInFront_4 : decode cX7_isInFront 4 = .ok (.iload_n 1, 1) := by decide +kernel
theorem dX7_isInFront_5 : decode cX7_isInFront 5 = .ok (.baload, 1) := by decide +kernel
theorem dX7_isInFront_6 : decode cX7_isInFront 6 = .ok (.istore_n 2, 1) := by decide +kernel
theorem dX7_isInFront_7 : decode cX7_isInFront 7 = .ok (.iconst 0, 1) := by decide +kernel
theorem dX7_isInFront_8 : decode cX7_isInFront 8 = .ok (.istore_n 3, 1) := by decide +kernel
theorem dX7_isInFront_9 : decode cX7_isInFront 9 = .ok (.iload_n 3, 1) := by decide +kernel
theorem dX7_isInFront_10 : decode cX7_isInFront 10 = .ok (.iconst 1, 1) := by decide +kernel
theorem dX7_isInFront_11 : decode cX7_isInFront 11 = .ok (.aload_n 0, 1) := by decide +kernel
theorem dX7_isInFront_12 : decode cX7_isInFront 12 = .ok (.getfield 9, 3) := by decide +kernel
theorem dX7_isInFront_15 : decode cX7_isInFront 15 = .ok (.ishl, 1) := by decide +kernel
theorem dX7_isInFront_16 : decode cX7_isInFront 16 = .ok (.if_icmp .ge 100, 3) := by decide +kernel
theorem dX7_isInFront_19 : decode cX7_isInFront 19 = .ok (.iload_n 2, 1) := by decide +kernel
theorem dX7_isInFront_20 : decode cX7_isInFront 20 = .ok (.ifCond .eq 96, 3) := by decide +kernel
theorem dX7_isInFront_23 : decode cX7_isInFront 23 = .ok (.aload_n 0, 1) := by decide +kernel
theorem dX7_isInFront_24 : decode cX7_isInFront 24 = .ok (.getfield 51, 3) := by decide +kernel
theorem dX7_isInFront_27 : decode cX7_isInFront 27 = .ok (.iload_n 3, 1) := by decide +kernel
theorem dX7_isInFront_28 : decode cX7_isInFront 28 = .ok (.iaload, 1) := by decide +kernel
theorem dX7_isInFront_29 : decode cX7_isInFront 29 = .ok (.aload_n 0, 1) := by decide +kernel
theorem dX7_isInFront_30 : decode cX7_isInFront 30 = .ok (.getfield 51, 3) := by decide +kernel
theorem dX7_isInFront_33 : decode cX7_isInFront 33 = .ok (.iload_n 1, 1) := by decide +kernel
theorem dX7_isInFront_34 : decode cX7_isInFront 34 = .ok (.iaload, 1) := by decide +kernel
theorem dX7_isInFront_35 : decode cX7_isInFront 35 = .ok (.if_icmp .ne 22, 3) := by decide +kernel
theorem dX7_isInFront_38 : decode cX7_isInFront 38 = .ok (.aload_n 0, 1) := by decide +kernel
theorem dX7_isInFront_39 : decode cX7_isInFront 39 = .ok (.getfield 54, 3) := by decide +kernel
theorem dX7_isInFront_42 : decode cX7_isInFront 42 = .ok (.iload_n 3, 1) := by decide +kernel
theorem dX7_isInFront_43 : decode cX7_isInFront 43 = .ok (.iaload, 1) := by decide +kernel
theorem dX7_isInFront_44 : decode cX7_isInFront 44 = .ok (.aload_n 0, 1) := by decide +kernel
theorem dX7_isInFront_45 : decode cX7_isInFront 45 = .ok (.getfield 54, 3) := by decide +kernel
theorem dX7_isInFront_48 : decode cX7_isInFront 48 = .ok (.iload_n 1, 1) := by decide +kernel
theorem dX7_isInFront_49 : decode cX7_isInFront 49 = .ok (.iaload, 1) := by decide +kernel
theorem dX7_isInFront_50 : decode cX7_isInFront 50 = .ok (.if_icmp .ne 7, 3) := by decide +kernel
theorem dX7_isInFront_53 : decode cX7_isInFront 53 = .ok (.iconst 1, 1) := by decide +kernel
theorem dX7_isInFront_54 : decode cX7_isInFront 54 = .ok (.goto 4, 3) := by decide +kernel
theorem dX7_isInFront_57 : decode cX7_isInFront 57 = .ok (.iconst 0, 1) := by decide +kernel
theorem dX7_isInFront_58 : decode cX7_isInFront 58 = .ok (.istore 4, 2) := by decide +kernel
theorem dX7_isInFront_60 : decode cX7_isInFront 60 = .ok (.aload_n 0, 1) := by decide +kernel
theorem dX7_isInFront_61 : decode cX7_isInFront 61 = .ok (.getfield 48, 3) := by decide +kernel
theorem dX7_isInFront_64 : decode cX7_isInFront 64 = .ok (.iload_n 3, 1) := by decide +kernel
theorem dX7_isInFront_65 : decode cX7_isInFront 65 = .ok (.baload, 1) := by decide +kernel
theorem dX7_isInFront_66 : decode cX7_isInFront 66 = .ok (.ifCond .eq 38, 3) := by decide +kernel
theorem dX7_isInFront_69 : decode cX7_isInFront 69 = .ok (.iload 4, 2) := by decide +kernel
theorem dX7_isInFront_71 : decode cX7_isInFront 71 = .ok (.ifCond .ne 33, 3) := by decide +kernel
theorem dX7_isInFront_74 : decode cX7_isInFront 74 = .ok (.aload_n 0, 1) := by decide +kernel
theorem dX7_isInFront_75 : decode cX7_isInFront 75 = .ok (.getfield 51, 3) := by decide +kernel
theorem dX7_isInFront_78 : decode cX7_isInFront 78 = .ok (.iload_n 3, 1) := by decide +kernel
theorem dX7_isInFront_79 : decode cX7_isInFront 79 = .ok (.iaload, 1) := by decide +kernel
theorem dX7_isInFront_80 : decode cX7_isInFront 80 = .ok (.aload_n 0, 1) := by decide +kernel
theorem dX7_isInFront_81 : decode cX7_isInFront 81 = .ok (.getfield 51, 3) := by decide +kernel
theorem dX7_isInFront_84 : decode cX7_isInFront 84 = .ok (.iload_n 1, 1) := by decide +kernel
theorem dX7_isInFront_85 : decode cX7_isInFront 85 = .ok (.iaload, 1) := by decide +kernel
theorem dX7_isInFront_86 : decode cX7_isInFront 86 = .ok (.if_icmp .gt 18, 3) := by decide +kernel
theorem dX7_isInFront_89 : decode cX7_isInFront 89 = .ok (.aload_n 0, 1) := by decide +kernel
theorem dX7_isInFront_90 : decode cX7_isInFront 90 = .ok (.getfield 54, 3) := by decide +kernel
theorem dX7_isInFront_93 : decode cX7_isInFront 93 = .ok (.iload_n 3, 1) := by decide +kernel
theorem dX7_isInFront_94 : decode cX7_isInFront 94 = .ok (.iaload, 1) := by decide +kernel
theorem dX7_isInFront_95 : decode cX7_isInFront 95 = .ok (.aload_n 0, 1) := by decide +kernel
theorem dX7_isInFront_96 : decode cX7_isInFront 96 = .ok (.getfield 54, 3) := by decide +kernel
theorem dX7_isInFront_99 : decode cX7_isInFront 99 = .ok (.iload_n 1, 1) := by decide +kernel
theorem dX7_isInFront_100 : decode cX7_isInFront 100 = .ok (.iaload, 1) := by decide +kernel
theorem dX7_isInFront_101 : decode cX7_isInFront 101 = .ok (.if_icmp .ge 7, 3) := by decide +kernel
theorem dX7_isInFront_104 : decode cX7_isInFront 104 = .ok (.iconst 1, 1) := by decide +kernel
theorem dX7_isInFront_105 : decode cX7_isInFront 105 = .ok (.goto 4, 3) := by decide +kernel
theorem dX7_isInFront_108 : decode cX7_isInFront 108 = .ok (.iconst 0, 1) := by decide +kernel
theorem dX7_isInFront_109 : decode cX7_isInFront 109 = .ok (.istore_n 2, 1) := by decide +kernel
theorem dX7_isInFront_110 : decode cX7_isInFront 110 = .ok (.iinc 3 1, 3) := by decide +kernel
theorem dX7_isInFront_113 : decode cX7_isInFront 113 = .ok (.goto (-104), 3) := by decide +kernel
theorem dX7_isInFront_116 : decode cX7_isInFront 116 = .ok (.iload_n 2, 1) := by decide +kernel
theorem dX7_isInFront_117 : decode cX7_isInFront 117 = .ok (.ireturn, 1) := by decide +kernel
set_option maxRecDepth 20000 in
theorem ggX7_frontSize_X7_know : GoodIn wsX7_frontSize wsX7_know := goodIn_r _ [7, 8, 2, 9, 10, 11, 12, 13, 14, 15, 16, 17, 6, 18, 19, 20, 21, 22, 23, 24, 25, 26, 27, 28, 29, 30, 31, 32, 33, 34, 35, 36, 37, 38, 39, 40, 41, 42, 43, 44, 45, 46, 47, 48, 49, 50, 51, 52, 53, 54, 59, 60, 61, 62, 63, 64, 65, 66, 67, 68, 69, 70, 71, 72, 73, 74, 75, 76, 77, 78, 79, 80, 81] (by decide +kernel) (by decide +kernel)
set_option maxRecDepth 20000 in
theorem gX7_frontSize_X7_know : GoodIn wsX7_frontSize (wsV RX7 125 RX7 yX7_know wsX7_know) := goodIn_app (goodIn_of _ (by decide +kernel)) ggX7_frontSize_X7_know
set_option maxRecDepth 20000 in
theorem ggX7_frontSize_X7_isInFront : GoodIn wsX7_frontSize wsX7_isInFront := goodIn_r _ [58, 14, 2, 9, 11, 59, 60, 61, 62, 63, 64, 65, 66, 67, 68, 69, 70, 71, 72, 73, 74, 75, 76, 77, 78, 79, 80, 81] (by decide +kernel) (by decide +kernel)
set_option maxRecDepth 20000 in
theorem gX7_frontSize_X7_isInFront : GoodIn wsX7_frontSize (wsV RX7 156 RX7 yX7_isInFront wsX7_isInFront) := goodIn_app (goodIn_of _ (by decide +kernel)) ggX7_frontSize_X7_isInFront
theorem dX7_frontSize_0 : decode cX7_frontSize 0 = .ok (.aload_n 0, 1) := by decide +kernel
theorem dX7_frontSize_1 : decode cX7_frontSize 1 = .ok (.iconst 0, 1) := by decide +kernel
theorem dX7_frontSize_2 : decode cX7_frontSize 2 = .ok (.putfield 63, 3) := by decide +kernel
theorem dX7_frontSize_5 : decode cX7_frontSize 5 = .ok (.aload_n 0, 1) := by decide +kernel
theorem dX7_frontSize_6 : decode cX7_frontSize 6 = .ok (.invokevirtual 125, 3) := by decide +kernel
theorem dX7_frontSize_9 : decode cX7_frontSize 9 = .ok (.iconst 0, 1) := by decide +kernel
theorem dX7_frontSize_10 : decode cX7_frontSize 10 = .ok (.istore_n 1, 1) := by decide +kernel
theorem dX7_frontSize_11 : decode cX7_frontSize 11 = .ok (.iconst 0, 1) := by decide +kernel
theorem dX7_frontSize_12 : decode cX7_frontSize 12 = .ok (.istore_n 2, 1) := by decide +kernel
theorem dX7_frontSize_13 : decode cX7_frontSize 13 = .ok (.iload_n 2, 1) := by decide +kernel
theorem dX7_frontSize_14 : decode cX7_frontSize 14 = .ok (.iconst 1, 1) := by decide +kernel
theorem dX7_frontSize_15 : decode cX7_frontSize 15 = .ok (.aload_n 0, 1) := by decide +kernel
theorem dX7_frontSize_16 : decode cX7_frontSize 16 = .ok (.getfield 9, 3) := by decide +kernel
theorem dX7_frontSize_19 : decode cX7_frontSize 19 = .ok (.ishl, 1) := by decide +kernel
theorem dX7_frontSize_20 : decode cX7_frontSize 20 = .ok (.if_icmp .ge 25, 3) := by decide +kernel
theorem dX7_frontSize_23 : decode cX7_frontSize 23 = .ok (.iload_n 1, 1) := by decide +kernel
theorem dX7_frontSize_24 : decode cX7_frontSize 24 = .ok (.aload_n 0, 1) := by decide +kernel
theorem dX7_frontSize_25 : decode cX7_frontSize 25 = .ok (.iload_n 2, 1) := by decide +kernel
theorem dX7_frontSize_26 : decode cX7_frontSize 26 = .ok (.invokevirtual 156, 3) := by decide +kernel
theorem dX7_frontSize_29 : decode cX7_frontSize 29 = .ok (.ifCond .eq 7, 3) := by decide +kernel
theorem dX7_frontSize_32 : decode cX7_frontSize 32 = .ok (.iconst 1, 1) := by decide +kernel
theorem dX7_frontSize_33 : decode cX7_frontSize 33 = .ok (.goto 4, 3) := by decide +kernel
theorem dX7_frontSize_36 : decode cX7_frontSize 36 = .ok (.iconst 0, 1) := by decide +kernel
theorem dX7_frontSize_37 : decode cX7_frontSize 37 = .ok (.iadd, 1) := by decide +kernel
theorem dX7_frontSize_38 : decode cX7_frontSize 38 = .ok (.istore_n 1, 1) := by decide +kernel
theorem dX7_frontSize_39 : decode cX7_frontSize 39 = .ok (.iinc 2 1, 3) := by decide +kernel
theorem dX7_frontSize_42 : decode cX7_frontSize 42 = .ok (.goto (-29), 3) := by decide +kernel
theorem dX7_frontSize_45 : decode cX7_frontSize 45 = .ok (.iload_n 1, 1) := by decide +kernel
theorem dX7_frontSize_46 : decode cX7_frontSize 46 = .ok (.ireturn, 1) := by decide +kernel
set_option maxRecDepth 20000 in
theorem ggX7_front_X7_know : GoodIn wsX7_front wsX7_know := goodIn_r _ [7, 8, 2, 9, 10, 11, 12, 13, 14, 15, 16, 17, 6, 18, 19, 20, 21, 22, 23, 24, 25, 26, 27, 28, 29, 30, 31, 32, 33, 34, 35, 36, 37, 38, 39, 40, 41, 42, 43, 44, 45, 46, 47, 48, 49, 50, 51, 52, 53, 54, 63, 64, 65, 66, 67, 68, 69, 70, 71, 72, 73, 74, 75, 76, 77, 78, 79, 80, 81, 82, 83, 84, 85] (by decide +kernel) (by decide +kernel)
set_option maxRecDepth 20000 in
theorem gX7_front_X7_know : GoodIn wsX7_front (wsV RX7 125 RX7 yX7_know wsX7_know) := goodIn_app (goodIn_of _ (by decide +kernel)) ggX7_front_X7_know
set_option maxRecDepth 20000 in
theorem ggX7_front_X7_isInFront : GoodIn wsX7_front wsX7_isInFront := goodIn_r _ [58, 14, 2, 9, 11, 63, 64, 65, 66, 67, 68, 69, 70, 71, 72, 73, 74, 75, 76, 77, 78, 79, 80, 81, 82, 83, 84, 85] (by decide +kernel) (by decide +kernel)
set_option maxRecDepth 20000 in
theorem gX7_front_X7_isInFront : GoodIn wsX7_front (wsV RX7 156 RX7 yX7_isInFront wsX7_isInFront) := goodIn_app (goodIn_of _ (by decide +kernel)) ggX7_front_X7_isInFront
set_option maxRecDepth 20000 in
theorem ggX7_front_X7_fail : GoodIn wsX7_front wsX7_fail := goodIn_r _ [62, 1, 63, 64, 65, 66, 67, 68, 69, 70, 71, 72, 73, 74, 75, 76, 77, 78, 79, 80, 81, 82, 83, 84, 85] (by decide +kernel) (by decide +kernel)
set_option maxRecDepth 20000 in
theorem gX7_front_X7_fail : GoodIn wsX7_front (wsV RX7 77 RX7 yX7_fail wsX7_fail) := goodIn_app (goodIn_of _ (by decide +kernel)) ggX7_front_X7_fail
theorem dX7_front_0 : decode cX7_front 0 = .ok (.aload_n 0, 1) := by decide +kernel
theorem dX7_front_1 : decode cX7_front 1 = .ok (.iconst 0, 1) := by decide +kernel
theorem dX7_front_2 : decode cX7_front 2 = .ok (.putfield 63, 3) := by decide +kernel
theorem dX7_front_5 : decode cX7_front 5 = .ok (.aload_n 0, 1) := by decide +kernel
theorem dX7_front_6 : decode cX7_front 6 = .ok (.invokevirtual 125, 3) := by decide +kernel
theorem dX7_front_9 : decode cX7_front 9 = .ok (.iload_n 1, 1) := by decide +kernel
theorem dX7_front_10 : decode cX7_front 10 = .ok (.istore_n 2, 1) := by decide +kernel
theorem dX7_front_11 : decode cX7_front 11 = .ok (.iconst 0, 1) := by decide +kernel
theorem dX7_front_12 : decode cX7_front 12 = .ok (.istore_n 3, 1) := by decide +kernel
theorem dX7_front_13 : decode cX7_front 13 = .ok (.iload_n 3, 1) := by decide +kernel
theorem dX7_front_14 : decode cX7_front 14 = .ok (.iconst 1, 1) := by decide +kernel
theorem dX7_front_15 : decode cX7_front 15 = .ok (.aload_n 0, 1) := by decide +kernel
theorem dX7_front_16 : decode cX7_front 16 = .ok (.getfield 9, 3) := by decide +kernel
theorem dX7_front_19 : decode cX7_front 19 = .ok (.ishl, 1) := by decide +kernel
theorem dX7_front_20 : decode cX7_front 20 = .ok (.if_icmp .ge 35, 3) := by decide +kernel
theorem dX7_front_23 : decode cX7_front 23 = .ok (.iload_n 2, 1) := by decide +kernel
theorem dX7_front_24 : decode cX7_front 24 = .ok (.ifCond .lt 31, 3) := by decide +kernel
theorem dX7_front_27 : decode cX7_front 27 = .ok (.iload_n 2, 1) := by decide +kernel
theorem dX7_front_28 : decode cX7_front 28 = .ok (.aload_n 0, 1) := by decide +kernel
theorem dX7_front_29 : decode cX7_front 29 = .ok (.iload_n 3, 1) := by decide +kernel
theorem dX7_front_30 : decode cX7_front 30 = .ok (.invokevirtual 156, 3) := by decide +kernel
theorem dX7_front_33 : decode cX7_front 33 = .ok (.ifCond .eq 7, 3) := by decide +kernel
theorem dX7_front_36 : decode cX7_front 36 = .ok (.iconst 1, 1) := by decide +kernel
theorem dX7_front_37 : decode cX7_front 37 = .ok (.goto 4, 3) := by decide +kernel
theorem dX7_front_40 : decode cX7_front 40 = .ok (.iconst 0, 1) := by decide +kernel
theorem dX7_front_41 : decode cX7_front 41 = .ok (.isub, 1) := by decide +kernel
theorem dX7_front_42 : decode cX7_front 42 = .ok (.istore_n 2, 1) := by decide +kernel
theorem dX7_front_43 : decode cX7_front 43 = .ok (.iload_n 2, 1) := by decide +kernel
theorem dX7_front_44 : decode cX7_front 44 = .ok (.ifCond .ge 5, 3) := by decide +kernel
theorem dX7_front_47 : decode cX7_front 47 = .ok (.iload_n 3, 1) := by decide +kernel
theorem dX7_front_48 : decode cX7_front 48 = .ok (.ireturn, 1) := by decide +kernel
theorem dX7_front_49 : decode cX7_front 49 = .ok (.iinc 3 1, 3) := by decide +kernel
theorem dX7_front_52 : decode cX7_front 52 = .ok (.goto (-39), 3) := by decide +kernel
theorem dX7_front_55 : decode cX7_front 55 = .ok (.aload_n 0, 1) := by decide +kernel
theorem dX7_front_56 : decode cX7_front 56 = .ok (.iconst 1, 1) := by decide +kernel
theorem dX7_front_57 : decode cX7_front 57 = .ok (.invokevirtual 77, 3) := by decide +kernel
theorem dX7_front_60 : decode cX7_front 60 = .ok (.ireturn, 1) := by decide +kernel
set_option maxRecDepth 20000 in
theorem ggX7_nearest_X7_isConfiguration : GoodIn wsX7_nearest wsX7_isConfiguration := goodIn_r _ [8, 2, 66, 67, 68, 69, 70, 71, 72, 73, 74, 75, 76, 77, 78, 79, 80, 81, 82, 83, 84, 85, 86, 87, 88] (by decide +kernel) (by decide +kernel)
set_option maxRecDepth 20000 in
theorem gX7_nearest_X7_isConfiguration : GoodIn wsX7_nearest (wsV RX7 117 RX7 yX7_isConfiguration wsX7_isConfiguration) := goodIn_app (goodIn_of _ (by decide +kernel)) ggX7_nearest_X7_isConfiguration
set_option maxRecDepth 20000 in
theorem ggX7_nearest_X7_know : GoodIn wsX7_nearest wsX7_know := goodIn_r _ [12, 13, 2, 14, 15, 16, 17, 18, 3, 19, 20, 21, 7, 22, 23, 24, 25, 26, 27, 28, 29, 30, 31, 32, 33, 34, 35, 36, 37, 38, 39, 40, 41, 42, 43, 44, 45, 46, 47, 48, 49, 50, 51, 52, 53, 54, 55, 56, 57, 58, 66, 67, 68, 69, 70, 71, 72, 73, 74, 75, 76, 77, 78, 79, 80, 81, 82, 83, 84, 85, 86, 87, 88] (by decide +kernel) (by decide +kernel)
set_option maxRecDepth 20000 in
theorem gX7_nearest_X7_know : GoodIn wsX7_nearest (wsV RX7 125 RX7 yX7_know wsX7_know) := goodIn_app (goodIn_of _ (by decide +kernel)) ggX7_nearest_X7_know
set_option maxRecDepth 20000 in
theorem ggX7_nearest_J6_bitCount_0f7a4 : GoodIn wsX7_nearest wsJ6_bitCount_0f7a4 := goodIn_r _ [62, 63, 64, 65] (by decide +kernel) (by decide +kernel)
set_option maxRecDepth 20000 in
theorem gX7_nearest_J6_bitCount_0f7a4 : GoodIn wsX7_nearest (va_wsS RX7 120 yJ6_bitCount_0f7a4 wsJ6_bitCount_0f7a4) := goodIn_app (goodIn_of _ (by decide +kernel)) ggX7_nearest_J6_bitCount_0f7a4
theorem dX7_nearest_0 : decode cX7_nearest 0 = .ok (.aload_n 0, 1) := by decide +kernel
theorem dX7_nearest_1 : decode cX7_nearest 1 = .ok (.aload_n 0, 1) := by decide +kernel
theorem dX7_nearest_2 : decode cX7_nearest 2 = .ok (.iload_n 1, 1) := by decide +kernel
theorem dX7_nearest_3 : decode cX7_nearest 3 = .ok (.invokevirtual 117, 3) := by decide +kernel
theorem dX7_nearest_6 : decode cX7_nearest 6 = .ok (.ifCond .eq 7, 3) := by decide +kernel
theorem dX7_nearest_9 : decode cX7_nearest 9 = .ok (.iconst 0, 1) := by decide +kernel
theorem dX7_nearest_10 : decode cX7_nearest 10 = .ok (.goto 4, 3) := by decide +kernel
theorem dX7_nearest_13 : decode cX7_nearest 13 = .ok (.iconst 1, 1) := by decide +kernel
theorem dX7_nearest_14 : decode cX7_nearest 14 = .ok (.putfield 63, 3) := by decide +kernel
theorem dX7_nearest_17 : decode cX7_nearest 17 = .ok (.aload_n 0, 1) := by decide +kernel
theorem dX7_nearest_18 : decode cX7_nearest 18 = .ok (.getfield 63, 3) := by decide +kernel
theorem dX7_nearest_21 : decode cX7_nearest 21 = .ok (.ifCond .eq 5, 3) := by decide +kernel
theorem dX7_nearest_24 : decode cX7_nearest 24 = .ok (.iconst 0, 1) := by decide +kernel
theorem dX7_nearest_25 : decode cX7_nearest 25 = .ok (.ireturn, 1) := by decide +kernel
theorem dX7_nearest_26 : decode cX7_nearest 26 = .ok (.aload_n 0, 1) := by decide +kernel
theorem dX7_nearest_27 : decode cX7_nearest 27 = .ok (.invokevirtual 125, 3) := by decide +kernel
theorem dX7_nearest_30 : decode cX7_nearest 30 = .ok (.iconst (-1), 1) := by decide +kernel
theorem dX7_nearest_31 : decode cX7_nearest 31 = .ok (.istore_n 2, 1) := by decide +kernel
theorem dX7_nearest_32 : decode cX7_nearest 32 = .ok (.iconst 0, 1) := by decide +kernel
theorem dX7_nearest_33 : decode cX7_nearest 33 = .ok (.istore_n 3, 1) := by decide +kernel
theorem dX7_nearest_34 : decode cX7_nearest 34 = .ok (.iload_n 3, 1) := by decide +kernel
theorem dX7_nearest_35 : decode cX7_nearest 35 = .ok (.iconst 1, 1) := by decide +kernel
theorem dX7_nearest_36 : decode cX7_nearest 36 = .ok (.aload_n 0, 1) := by decide +kernel
theorem dX7_nearest_37 : decode cX7_nearest 37 = .ok (.getfield 9, 3) := by decide +kernel
theorem dX7_nearest_40 : decode cX7_nearest 40 = .ok (.ishl, 1) := by decide +kernel
theorem dX7_nearest_41 : decode cX7_nearest 41 = .ok (.if_icmp .ge 40, 3) := by decide +kernel
theorem dX7_nearest_44 : decode cX7_nearest 44 = .ok (.aload_n 0, 1) := by decide +kernel
theorem dX7_nearest_45 : decode cX7_nearest 45 = .ok (.getfield 48, 3) := by decide +kernel
theorem dX7_nearest_48 : decode cX7_nearest 48 = .ok (.iload_n 3, 1) := by decide +kernel
theorem dX7_nearest_49 : decode cX7_nearest 49 = .ok (.baload, 1) := by decide +kernel
theorem dX7_nearest_50 : decode cX7_nearest 50 = .ok (.ifCond .eq 25, 3) := by decide +kernel
theorem dX7_nearest_53 : decode cX7_nearest 53 = .ok (.iload_n 2, 1) := by decide +kernel
theorem dX7_nearest_54 : decode cX7_nearest 54 = .ok (.iconst (-1), 1) := by decide +kernel
theorem dX7_nearest_55 : decode cX7_nearest 55 = .ok (.if_icmp .eq 18, 3) := by decide +kernel
theorem dX7_nearest_58 : decode cX7_nearest 58 = .ok (.iload_n 3, 1) := by decide +kernel
theorem dX7_nearest_59 : decode cX7_nearest 59 = .ok (.iload_n 1, 1) := by decide +kernel
theorem dX7_nearest_60 : decode cX7_nearest 60 = .ok (.ixor, 1) := by decide +kernel
theorem dX7_nearest_61 : decode cX7_nearest 61 = .ok (.invokestatic 120, 3) := by decide +kernel
theorem dX7_nearest_64 : decode cX7_nearest 64 = .ok (.iload_n 2, 1) := by decide +kernel
theorem dX7_nearest_65 : decode cX7_nearest 65 = .ok (.iload_n 1, 1) := by decide +kernel
theorem dX7_nearest_66 : decode cX7_nearest 66 = .ok (.ixor, 1) := by decide +kernel
theorem dX7_nearest_67 : decode cX7_nearest 67 = .ok (.invokestatic 120, 3) := by decide +kernel
theorem dX7_nearest_70 : decode cX7_nearest 70 = .ok (.if_icmp .ge 5, 3) := by decide +kernel
theorem dX7_nearest_73 : decode cX7_nearest 73 = .ok (.iload_n 3, 1) := by decide +kernel
theorem dX7_nearest_74 : decode cX7_nearest 74 = .ok (.istore_n 2, 1) := by decide +kernel
theorem dX7_nearest_75 : decode cX7_nearest 75 = .ok (.iinc 3 1, 3) := by decide +kernel
theorem dX7_nearest_78 : decode cX7_nearest 78 = .ok (.goto (-44), 3) := by decide +kernel
theorem dX7_nearest_81 : decode cX7_nearest 81 = .ok (.iload_n 2, 1) := by decide +kernel
theorem dX7_nearest_82 : decode cX7_nearest 82 = .ok (.ireturn, 1) := by decide +kernel
set_option maxRecDepth 20000 in
theorem ggX7_pair_X7_has : GoodIn wsX7_pair wsX7_has := goodIn_r _ [4] (by decide +kernel) (by decide +kernel)
set_option maxRecDepth 20000 in
theorem gX7_pair_X7_has : GoodIn wsX7_pair (va_wsS RX7 93 yX7_has wsX7_has) := goodIn_app (goodIn_of _ (by decide +kernel)) ggX7_pair_X7_has
theorem dX7_pair_0 : decode cX7_pair 0 = .ok (.iconst 4, 1) := by decide +kernel
theorem dX7_pair_1 : decode cX7_pair 1 = .ok (.bipush 12, 2) := by decide +kernel
theorem dX7_pair_3 : decode cX7_pair 3 = .ok (.iload_n 1, 1) := by decide +kernel
theorem dX7_pair_4 : decode cX7_pair 4 = .ok (.imul, 1) := by decide +kernel
theorem dX7_pair_5 : decode cX7_pair 5 = .ok (.iload_n 2, 1) := by decide +kernel
theorem dX7_pair_6 : decode cX7_pair 6 = .ok (.iadd, 1) := by decide +kernel
theorem dX7_pair_7 : decode cX7_pair 7 = .ok (.imul, 1) := by decide +kernel
theorem dX7_pair_8 : decode cX7_pair 8 = .ok (.iload_n 0, 1) := by decide +kernel
theorem dX7_pair_9 : decode cX7_pair 9 = .ok (.iload_n 1, 1) := by decide +kernel
theorem dX7_pair_10 : decode cX7_pair 10 = .ok (.invokestatic 93, 3) := by decide +kernel
theorem dX7_pair_13 : decode cX7_pair 13 = .ok (.ifCond .eq 7, 3) := by decide +kernel
theorem dX7_pair_16 : decode cX7_pair 16 = .ok (.iconst 2, 1) := by decide +kernel
theorem dX7_pair_17 : decode cX7_pair 17 = .ok (.goto 4, 3) := by decide +kernel
theorem dX7_pair_20 : decode cX7_pair 20 = .ok (.iconst 0, 1) := by decide +kernel
theorem dX7_pair_21 : decode cX7_pair 21 = .ok (.iadd, 1) := by decide +kernel
theorem dX7_pair_22 : decode cX7_pair 22 = .ok (.iload_n 0, 1) := by decide +kernel
theorem dX7_pair_23 : decode cX7_pair 23 = .ok (.iload_n 2, 1) := by decide +kernel
theorem dX7_pair_24 : decode cX7_pair 24 = .ok (.invokestatic 93, 3) := by decide +kernel
theorem dX7_pair_27 : decode cX7_pair 27 = .ok (.ifCond .eq 7, 3) := by decide +kernel
theorem dX7_pair_30 : decode cX7_pair 30 = .ok (.iconst 1, 1) := by decide +kernel
theorem dX7_pair_31 : decode cX7_pair 31 = .ok (.goto 4, 3) := by decide +kernel
theorem dX7_pair_34 : decode cX7_pair 34 = .ok (.iconst 0, 1) := by decide +kernel
theorem dX7_pair_35 : decode cX7_pair 35 = .ok (.iadd, 1) := by decide +kernel
theorem dX7_pair_36 : decode cX7_pair 36 = .ok (.ireturn, 1) := by decide +kernel
set_option maxRecDepth 20000 in
theorem ggX7_shown_X7_pair : GoodIn wsX7_shown wsX7_pair := goodIn_r _ [6, 7, 8, 5, 9] (by decide +kernel) (by decide +kernel)
set_option maxRecDepth 20000 in
theorem gX7_shown_X7_pair : GoodIn wsX7_shown (va_wsS RX7 159 yX7_pair wsX7_pair) := goodIn_app (goodIn_of _ (by decide +kernel)) ggX7_shown_X7_pair
theorem dX7_shown_0 : decode cX7_shown 0 = .ok (.iconst 0, 1) := by decide +kernel
theorem dX7_shown_1 : decode cX7_shown 1 = .ok (.istore_n 3, 1) := by decide +kernel
theorem dX7_shown_2 : decode cX7_shown 2 = .ok (.iconst 0, 1) := by decide +kernel
theorem dX7_shown_3 : decode cX7_shown 3 = .ok (.istore 4, 2) := by decide +kernel
theorem dX7_shown_5 : decode cX7_shown 5 = .ok (.iload 4, 2) := by decide +kernel
theorem dX7_shown_7 : decode cX7_shown 7 = .ok (.aload_n 0, 1) := by decide +kernel
theorem dX7_shown_8 : decode cX7_shown 8 = .ok (.getfield 9, 3) := by decide +kernel
theorem dX7_shown_11 : decode cX7_shown 11 = .ok (.if_icmp .ge 70, 3) := by decide +kernel
theorem dX7_shown_14 : decode cX7_shown 14 = .ok (.iload 4, 2) := by decide +kernel
theorem dX7_shown_16 : decode cX7_shown 16 = .ok (.iconst 1, 1) := by decide +kernel
theorem dX7_shown_17 : decode cX7_shown 17 = .ok (.iadd, 1) := by decide +kernel
theorem dX7_shown_18 : decode cX7_shown 18 = .ok (.istore 5, 2) := by decide +kernel
theorem dX7_shown_20 : decode cX7_shown 20 = .ok (.iload 5, 2) := by decide +kernel
theorem dX7_shown_22 : decode cX7_shown 22 = .ok (.aload_n 0, 1) := by decide +kernel
theorem dX7_shown_23 : decode cX7_shown 23 = .ok (.getfield 9, 3) := by decide +kernel
theorem dX7_shown_26 : decode cX7_shown 26 = .ok (.if_icmp .ge 49, 3) := by decide +kernel
theorem dX7_shown_29 : decode cX7_shown 29 = .ok (.iload_n 1, 1) := by decide +kernel
theorem dX7_shown_30 : decode cX7_shown 30 = .ok (.iload 4, 2) := by decide +kernel
theorem dX7_shown_32 : decode cX7_shown 32 = .ok (.iload 5, 2) := by decide +kernel
theorem dX7_shown_34 : decode cX7_shown 34 = .ok (.invokestatic 159, 3) := by decide +kernel
theorem dX7_shown_37 : decode cX7_shown 37 = .ok (.istore 6, 2) := by decide +kernel
theorem dX7_shown_39 : decode cX7_shown 39 = .ok (.iload_n 3, 1) := by decide +kernel
theorem dX7_shown_40 : decode cX7_shown 40 = .ok (.aload_n 0, 1) := by decide +kernel
theorem dX7_shown_41 : decode cX7_shown 41 = .ok (.getfield 60, 3) := by decide +kernel
theorem dX7_shown_44 : decode cX7_shown 44 = .ok (.iload 6, 2) := by decide +kernel
theorem dX7_shown_46 : decode cX7_shown 46 = .ok (.baload, 1) := by decide +kernel
theorem dX7_shown_47 : decode cX7_shown 47 = .ok (.ifCond .eq 7, 3) := by decide +kernel
theorem dX7_shown_50 : decode cX7_shown 50 = .ok (.iconst 1, 1) := by decide +kernel
theorem dX7_shown_51 : decode cX7_shown 51 = .ok (.goto 4, 3) := by decide +kernel
theorem dX7_shown_54 : decode cX7_shown 54 = .ok (.iconst 0, 1) := by decide +kernel
theorem dX7_shown_55 : decode cX7_shown 55 = .ok (.iadd, 1) := by decide +kernel
theorem dX7_shown_56 : decode cX7_shown 56 = .ok (.istore_n 3, 1) := by decide +kernel
theorem dX7_shown_57 : decode cX7_shown 57 = .ok (.iload_n 2, 1) := by decide +kernel
theorem dX7_shown_58 : decode cX7_shown 58 = .ok (.ifCond .eq 11, 3) := by decide +kernel
theorem dX7_shown_61 : decode cX7_shown 61 = .ok (.aload_n 0, 1) := by decide +kernel
theorem dX7_shown_62 : decode cX7_shown 62 = .ok (.getfield 60, 3) := by decide +kernel
theorem dX7_shown_65 : decode cX7_shown 65 = .ok (.iload 6, 2) := by decide +kernel
theorem dX7_shown_67 : decode cX7_shown 67 = .ok (.iconst 0, 1) := by decide +kernel
theorem dX7_shown_68 : decode cX7_shown 68 = .ok (.bastore, 1) := by decide +kernel
theorem dX7_shown_69 : decode cX7_shown 69 = .ok (.iinc 5 1, 3) := by decide +kernel
theorem dX7_shown_72 : decode cX7_shown 72 = .ok (.goto (-52), 3) := by decide +kernel
theorem dX7_shown_75 : decode cX7_shown 75 = .ok (.iinc 4 1, 3) := by decide +kernel
theorem dX7_shown_78 : decode cX7_shown 78 = .ok (.goto (-73), 3) := by decide +kernel
theorem dX7_shown_81 : decode cX7_shown 81 = .ok (.iload_n 3, 1) := by decide +kernel
theorem dX7_shown_82 : decode cX7_shown 82 = .ok (.ireturn, 1) := by decide +kernel
set_option maxRecDepth 20000 in
theorem ggX7_findSample_X7_know : GoodIn wsX7_findSample wsX7_know := goodIn_r _ [12, 13, 3, 14, 15, 16, 17, 18, 4, 19, 20, 21, 11, 22, 23, 24, 25, 26, 27, 28, 29, 30, 31, 32, 33, 34, 35, 36, 37, 38, 39, 40, 41, 42, 43, 44, 45, 46, 47, 48, 49, 50, 51, 52, 53, 54, 55, 56, 57, 58, 66, 67, 68, 69, 70, 71, 72, 73, 74, 75, 76, 77, 78, 79, 80, 81, 82, 83, 84, 85, 86, 87, 88] (by decide +kernel) (by decide +kernel)
set_option maxRecDepth 20000 in
theorem gX7_findSample_X7_know : GoodIn wsX7_findSample (wsV RX7 125 RX7 yX7_know wsX7_know) := goodIn_app (goodIn_of _ (by decide +kernel)) ggX7_findSample_X7_know
set_option maxRecDepth 20000 in
theorem ggX7_findSample_X7_pair : GoodIn wsX7_findSample wsX7_pair := goodIn_r _ [61, 23, 24, 11, 25] (by decide +kernel) (by decide +kernel)
set_option maxRecDepth 20000 in
theorem gX7_findSample_X7_pair : GoodIn wsX7_findSample (va_wsS RX7 159 yX7_pair wsX7_pair) := goodIn_app (goodIn_of _ (by decide +kernel)) ggX7_findSample_X7_pair
set_option maxRecDepth 20000 in
theorem ggX7_findSample_X7_shown : GoodIn wsX7_findSample wsX7_shown := goodIn_r _ [65, 3, 2, 59, 60, 11, 61, 23, 24, 25, 66, 67, 68, 69, 70, 71, 72, 73, 74, 75, 76, 77, 78, 79, 80, 81, 82, 83, 84, 85, 86, 87, 88] (by decide +kernel) (by decide +kernel)
set_option maxRecDepth 20000 in
theorem gX7_findSample_X7_shown : GoodIn wsX7_findSample (wsV RX7 168 RX7 yX7_shown wsX7_shown) := goodIn_app (goodIn_of _ (by decide +kernel)) ggX7_findSample_X7_shown
theorem dX7_findSample_0 : decode cX7_findSample 0 = .ok (.aload_n 0, 1) := by decide +kernel
theorem dX7_findSample_1 : decode cX7_findSample 1 = .ok (.invokevirtual 125, 3) := by decide +kernel
theorem dX7_findSample_4 : decode cX7_findSample 4 = .ok (.aload_n 0, 1) := by decide +kernel
theorem dX7_findSample_5 : decode cX7_findSample 5 = .ok (.getfield 70, 3) := by decide +kernel
theorem dX7_findSample_8 : decode cX7_findSample 8 = .ok (.ifCond .eq 4, 3) := by decide +kernel
theorem dX7_findSample_11 : decode cX7_findSample 11 = .ok (.return_, 1) := by decide +kernel
theorem dX7_findSample_12 : decode cX7_findSample 12 = .ok (.aload_n 0, 1) := by decide +kernel
theorem dX7_findSample_13 : decode cX7_findSample 13 = .ok (.iconst 1, 1) := by decide +kernel
theorem dX7_findSample_14 : decode cX7_findSample 14 = .ok (.putfield 70, 3) := by decide +kernel
theorem dX7_findSample_17 : decode cX7_findSample 17 = .ok (.iconst 0, 1) := by decide +kernel
theorem dX7_findSample_18 : decode cX7_findSample 18 = .ok (.istore_n 1, 1) := by decide +kernel
theorem dX7_findSample_19 : decode cX7_findSample 19 = .ok (.iload_n 1, 1) := by decide +kernel
theorem dX7_findSample_20 : decode cX7_findSample 20 = .ok (.sipush 576, 3) := by decide +kernel
theorem dX7_findSample_23 : decode cX7_findSample 23 = .ok (.if_icmp .ge 16, 3) := by decide +kernel
theorem dX7_findSample_26 : decode cX7_findSample 26 = .ok (.aload_n 0, 1) := by decide +kernel
theorem dX7_findSample_27 : decode cX7_findSample 27 = .ok (.getfield 60, 3) := by decide +kernel
theorem dX7_findSample_30 : decode cX7_findSample 30 = .ok (.iload_n 1, 1) := by decide +kernel
theorem dX7_findSample_31 : decode cX7_findSample 31 = .ok (.iconst 0, 1) := by decide +kernel
theorem dX7_findSample_32 : decode cX7_findSample 32 = .ok (.bastore, 1) := by decide +kernel
theorem dX7_findSample_33 : decode cX7_findSample 33 = .ok (.iinc 1 1, 3) := by decide +kernel
theorem dX7_findSample_36 : decode cX7_findSample 36 = .ok (.goto (-17), 3) := by decide +kernel
theorem dX7_findSample_39 : decode cX7_findSample 39 = .ok (.iconst 0, 1) := by decide +kernel
theorem dX7_findSample_40 : decode cX7_findSample 40 = .ok (.istore_n 1, 1) := by decide +kernel
theorem dX7_findSample_41 : decode cX7_findSample 41 = .ok (.iload_n 1, 1) := by decide +kernel
theorem dX7_findSample_42 : decode cX7_findSample 42 = .ok (.iconst 1, 1) := by decide +kernel
theorem dX7_findSample_43 : decode cX7_findSample 43 = .ok (.aload_n 0, 1) := by decide +kernel
theorem dX7_findSample_44 : decode cX7_findSample 44 = .ok (.getfield 9, 3) := by decide +kernel
theorem dX7_findSample_47 : decode cX7_findSample 47 = .ok (.ishl, 1) := by decide +kernel
theorem dX7_findSample_48 : decode cX7_findSample 48 = .ok (.if_icmp .ge 64, 3) := by decide +kernel
theorem dX7_findSample_51 : decode cX7_findSample 51 = .ok (.iconst 0, 1) := by decide +kernel
theorem dX7_findSample_52 : decode cX7_findSample 52 = .ok (.istore_n 2, 1) := by decide +kernel
theorem dX7_findSample_53 : decode cX7_findSample 53 = .ok (.iload_n 2, 1) := by decide +kernel
theorem dX7_findSample_54 : decode cX7_findSample 54 = .ok (.aload_n 0, 1) := by decide +kernel
theorem dX7_findSample_55 : decode cX7_findSample 55 = .ok (.getfield 9, 3) := by decide +kernel
theorem dX7_findSample_58 : decode cX7_findSample 58 = .ok (.if_icmp .ge 48, 3) := by decide +kernel
theorem dX7_findSample_61 : decode cX7_findSample 61 = .ok (.aload_n 0, 1) := by decide +kernel
theorem dX7_findSample_62 : decode cX7_findSample 62 = .ok (.getfield 48, 3) := by decide +kernel
theorem dX7_findSample_65 : decode cX7_findSample 65 = .ok (.iload_n 1, 1) := by decide +kernel
theorem dX7_findSample_66 : decode cX7_findSample 66 = .ok (.baload, 1) := by decide +kernel
theorem dX7_findSample_67 : decode cX7_findSample 67 = .ok (.ifCond .eq 39, 3) := by decide +kernel
theorem dX7_findSample_70 : decode cX7_findSample 70 = .ok (.iload_n 2, 1) := by decide +kernel
theorem dX7_findSample_71 : decode cX7_findSample 71 = .ok (.iconst 1, 1) := by decide +kernel
theorem dX7_findSample_72 : decode cX7_findSample 72 = .ok (.iadd, 1) := by decide +kernel
theorem dX7_findSample_73 : decode cX7_findSample 73 = .ok (.istore_n 3, 1) := by decide +kernel
theorem dX7_findSample_74 : decode cX7_findSample 74 = .ok (.iload_n 3, 1) := by decide +kernel
theorem dX7_findSample_75 : decode cX7_findSample 75 = .ok (.aload_n 0, 1) := by decide +kernel
theorem dX7_findSample_76 : decode cX7_findSample 76 = .ok (.getfield 9, 3) := by decide +kernel
theorem dX7_findSample_79 : decode cX7_findSample 79 = .ok (.if_icmp .ge 21, 3) := by decide +kernel
theorem dX7_findSample_82 : decode cX7_findSample 82 = .ok (.aload_n 0, 1) := by decide +kernel
theorem dX7_findSample_83 : decode cX7_findSample 83 = .ok (.getfield 60, 3) := by decide +kernel
theorem dX7_findSample_86 : decode cX7_findSample 86 = .ok (.iload_n 1, 1) := by decide +kernel
theorem dX7_findSample_87 : decode cX7_findSample 87 = .ok (.iload_n 2, 1) := by decide +kernel
theorem dX7_findSample_88 : decode cX7_findSample 88 = .ok (.iload_n 3, 1) := by decide +kernel
theorem dX7_findSample_89 : decode cX7_findSample 89 = .ok (.invokestatic 159, 3) := by decide +kernel
theorem dX7_findSample_92 : decode cX7_findSample 92 = .ok (.iconst 1, 1) := by decide +kernel
theorem dX7_findSample_93 : decode cX7_findSample 93 = .ok (.bastore, 1) := by decide +kernel
theorem dX7_findSample_94 : decode cX7_findSample 94 = .ok (.iinc 3 1, 3) := by decide +kernel
theorem dX7_findSample_97 : decode cX7_findSample 97 = .ok (.goto (-23), 3) := by decide +kernel
theorem dX7_findSample_100 : decode cX7_findSample 100 = .ok (.iinc 2 1, 3) := by decide +kernel
theorem dX7_findSample_103 : decode cX7_findSample 103 = .ok (.goto (-50), 3) := by decide +kernel
theorem dX7_findSample_106 : decode cX7_findSample 106 = .ok (.iinc 1 1, 3) := by decide +kernel
theorem dX7_findSample_109 : decode cX7_findSample 109 = .ok (.goto (-68), 3) := by decide +kernel
theorem dX7_findSample_112 : decode cX7_findSample 112 = .ok (.aload_n 0, 1) := by decide +kernel
theorem dX7_findSample_113 : decode cX7_findSample 113 = .ok (.iconst 0, 1) := by decide +kernel
theorem dX7_findSample_114 : decode cX7_findSample 114 = .ok (.putfield 162, 3) := by decide +kernel
theorem dX7_findSample_117 : decode cX7_findSample 117 = .ok (.iconst 0, 1) := by decide +kernel
theorem dX7_findSample_118 : decode cX7_findSample 118 = .ok (.istore_n 1, 1) := by decide +kernel
theorem dX7_findSample_119 : decode cX7_findSample 119 = .ok (.iload_n 1, 1) := by decide +kernel
theorem dX7_findSample_120 : decode cX7_findSample 120 = .ok (.sipush 576, 3) := by decide +kernel
theorem dX7_findSample_123 : decode cX7_findSample 123 = .ok (.if_icmp .ge 32, 3) := by decide +kernel
theorem dX7_findSample_126 : decode cX7_findSample 126 = .ok (.aload_n 0, 1) := by decide +kernel
theorem dX7_findSample_127 : decode cX7_findSample 127 = .ok (.dup, 1) := by decide +kernel
theorem dX7_findSample_128 : decode cX7_findSample 128 = .ok (.getfield 162, 3) := by decide +kernel
theorem dX7_findSample_131 : decode cX7_findSample 131 = .ok (.aload_n 0, 1) := by decide +kernel
theorem dX7_findSample_132 : decode cX7_findSample 132 = .ok (.getfield 60, 3) := by decide +kernel
theorem dX7_findSample_135 : decode cX7_findSample 135 = .ok (.iload_n 1, 1) := by decide +kernel
theorem dX7_findSample_136 : decode cX7_findSample 136 = .ok (.baload, 1) := by decide +kernel
theorem dX7_findSample_137 : decode cX7_findSample 137 = .ok (.ifCond .eq 7, 3) := by decide +kernel
theorem dX7_findSample_140 : decode cX7_findSample 140 = .ok (.iconst 1, 1) := by decide +kernel
theorem dX7_findSample_141 : decode cX7_findSample 141 = .ok (.goto 4, 3) := by decide +kernel
theorem dX7_findSample_144 : decode cX7_findSample 144 = .ok (.iconst 0, 1) := by decide +kernel
theorem dX7_findSample_145 : decode cX7_findSample 145 = .ok (.iadd, 1) := by decide +kernel
theorem dX7_findSample_146 : decode cX7_findSample 146 = .ok (.putfield 162, 3) := by decide +kernel
theorem dX7_findSample_149 : decode cX7_findSample 149 = .ok (.iinc 1 1, 3) := by decide +kernel
theorem dX7_findSample_152 : decode cX7_findSample 152 = .ok (.goto (-33), 3) := by decide +kernel
theorem dX7_findSample_155 : decode cX7_findSample 155 = .ok (.aload_n 0, 1) := by decide +kernel
theorem dX7_findSample_156 : decode cX7_findSample 156 = .ok (.iconst 0, 1) := by decide +kernel
theorem dX7_findSample_157 : decode cX7_findSample 157 = .ok (.putfield 165, 3) := by decide +kernel
theorem dX7_findSample_160 : decode cX7_findSample 160 = .ok (.aload_n 0, 1) := by decide +kernel
theorem dX7_findSample_161 : decode cX7_findSample 161 = .ok (.getfield 162, 3) := by decide +kernel
theorem dX7_findSample_164 : decode cX7_findSample 164 = .ok (.istore_n 1, 1) := by decide +kernel
theorem dX7_findSample_165 : decode cX7_findSample 165 = .ok (.iload_n 1, 1) := by decide +kernel
theorem dX7_findSample_166 : decode cX7_findSample 166 = .ok (.ifCond .le 97, 3) := by decide +kernel
theorem dX7_findSample_169 : decode cX7_findSample 169 = .ok (.iconst (-1), 1) := by decide +kernel
theorem dX7_findSample_170 : decode cX7_findSample 170 = .ok (.istore_n 2, 1) := by decide +kernel
theorem dX7_findSample_171 : decode cX7_findSample 171 = .ok (.iconst 0, 1) := by decide +kernel
theorem dX7_findSample_172 : decode cX7_findSample 172 = .ok (.istore_n 3, 1) := by decide +kernel
theorem dX7_findSample_173 : decode cX7_findSample 173 = .ok (.iconst 0, 1) := by decide +kernel
theorem dX7_findSample_174 : decode cX7_findSample 174 = .ok (.istore 4, 2) := by decide +kernel
theorem dX7_findSample_176 : decode cX7_findSample 176 = .ok (.iload 4, 2) := by decide +kernel
theorem dX7_findSample_178 : decode cX7_findSample 178 = .ok (.iconst 1, 1) := by decide +kernel
theorem dX7_findSample_179 : decode cX7_findSample 179 = .ok (.aload_n 0, 1) := by decide +kernel
theorem dX7_findSample_180 : decode cX7_findSample 180 = .ok (.getfield 9, 3) := by decide +kernel
theorem dX7_findSample_183 : decode cX7_findSample 183 = .ok (.ishl, 1) := by decide +kernel
theorem dX7_findSample_184 : decode cX7_findSample 184 = .ok (.if_icmp .ge 47, 3) := by decide +kernel
theorem dX7_findSample_187 : decode cX7_findSample 187 = .ok (.aload_n 0, 1) := by decide +kernel
theorem dX7_findSample_188 : decode cX7_findSample 188 = .ok (.getfield 48, 3) := by decide +kernel
theorem dX7_findSample_191 : decode cX7_findSample 191 = .ok (.iload 4, 2) := by decide +kernel
theorem dX7_findSample_193 : decode cX7_findSample 193 = .ok (.baload, 1) := by decide +kernel
theorem dX7_findSample_194 : decode cX7_findSample 194 = .ok (.ifCond .eq 13, 3) := by decide +kernel
theorem dX7_findSample_197 : decode cX7_findSample 197 = .ok (.aload_n 0, 1) := by decide +kernel
theorem dX7_findSample_198 : decode cX7_findSample 198 = .ok (.iload 4, 2) := by decide +kernel
theorem dX7_findSample_200 : decode cX7_findSample 200 = .ok (.iconst 0, 1) := by decide +kernel
theorem dX7_findSample_201 : decode cX7_findSample 201 = .ok (.invokevirtual 168, 3) := by decide +kernel
theorem dX7_findSample_204 : decode cX7_findSample 204 = .ok (.goto 4, 3) := by decide +kernel
theorem dX7_findSample_207 : decode cX7_findSample 207 = .ok (.iconst 0, 1) := by decide +kernel
theorem dX7_findSample_208 : decode cX7_findSample 208 = .ok (.istore 5, 2) := by decide +kernel
theorem dX7_findSample_210 : decode cX7_findSample 210 = .ok (.iload 5, 2) := by decide +kernel
theorem dX7_findSample_212 : decode cX7_findSample 212 = .ok (.iload_n 3, 1) := by decide +kernel
theorem dX7_findSample_213 : decode cX7_findSample 213 = .ok (.if_icmp .gt 6, 3) := by decide +kernel
theorem dX7_findSample_216 : decode cX7_findSample 216 = .ok (.goto 9, 3) := by decide +kernel
theorem dX7_findSample_219 : decode cX7_findSample 219 = .ok (.iload 4, 2) := by decide +kernel
theorem dX7_findSample_221 : decode cX7_findSample 221 = .ok (.istore_n 2, 1) := by decide +kernel
theorem dX7_findSample_222 : decode cX7_findSample 222 = .ok (.iload 5, 2) := by decide +kernel
theorem dX7_findSample_224 : decode cX7_findSample 224 = .ok (.istore_n 3, 1) := by decide +kernel
theorem dX7_findSample_225 : decode cX7_findSample 225 = .ok (.iinc 4 1, 3) := by decide +kernel
theorem dX7_findSample_228 : decode cX7_findSample 228 = .ok (.goto (-52), 3) := by decide +kernel
theorem dX7_findSample_231 : decode cX7_findSample 231 = .ok (.aload_n 0, 1) := by decide +kernel
theorem dX7_findSample_232 : decode cX7_findSample 232 = .ok (.getfield 57, 3) := by decide +kernel
theorem dX7_findSample_235 : decode cX7_findSample 235 = .ok (.aload_n 0, 1) := by decide +kernel
theorem dX7_findSample_236 : decode cX7_findSample 236 = .ok (.getfield 165, 3) := by decide +kernel
theorem dX7_findSample_239 : decode cX7_findSample 239 = .ok (.iload_n 2, 1) := by decide +kernel
theorem dX7_findSample_240 : decode cX7_findSample 240 = .ok (.iastore, 1) := by decide +kernel
theorem dX7_findSample_241 : decode cX7_findSample 241 = .ok (.aload_n 0, 1) := by decide +kernel
theorem dX7_findSample_242 : decode cX7_findSample 242 = .ok (.dup, 1) := by decide +kernel
theorem dX7_findSample_243 : decode cX7_findSample 243 = .ok (.getfield 165, 3) := by decide +kernel
theorem dX7_findSample_246 : decode cX7_findSample 246 = .ok (.iconst 1, 1) := by decide +kernel
theorem dX7_findSample_247 : decode cX7_findSample 247 = .ok (.iadd, 1) := by decide +kernel
theorem dX7_findSample_248 : decode cX7_findSample 248 = .ok (.putfield 165, 3) := by decide +kernel
theorem dX7_findSample_251 : decode cX7_findSample 251 = .ok (.iload_n 1, 1) := by decide +kernel
theorem dX7_findSample_252 : decode cX7_findSample 252 = .ok (.aload_n 0, 1) := by decide +kernel
theorem dX7_findSample_253 : decode cX7_findSample 253 = .ok (.iload_n 2, 1) := by decide +kernel
theorem dX7_findSample_254 : decode cX7_findSample 254 = .ok (.iconst 1, 1) := by decide +kernel
theorem dX7_findSample_255 : decode cX7_findSample 255 = .ok (.invokevirtual 168, 3) := by decide +kernel
theorem dX7_findSample_258 : decode cX7_findSample 258 = .ok (.isub, 1) := by decide +kernel
theorem dX7_findSample_259 : decode cX7_findSample 259 = .ok (.istore_n 1, 1) := by decide +kernel
theorem dX7_findSample_260 : decode cX7_findSample 260 = .ok (.goto (-95), 3) := by decide +kernel
theorem dX7_findSample_263 : decode cX7_findSample 263 = .ok (.return_, 1) := by decide +kernel
set_option maxRecDepth 20000 in
theorem ggX7_pairCount_X7_findSample : GoodIn wsX7_pairCount wsX7_findSample := goodIn_r _ [7, 8, 9, 10, 11, 2, 12, 13, 14, 15, 16, 6, 17, 18, 19, 20, 21, 22, 23, 24, 25, 26, 27, 28, 29, 30, 31, 32, 33, 34, 35, 36, 37, 38, 39, 40, 41, 42, 43, 44, 45, 46, 47, 48, 49, 50, 51, 52, 53, 54, 55, 56, 57, 58, 59, 60, 61, 62, 63, 64, 65, 66, 67, 68, 69, 70, 71, 72, 73, 74, 75, 76, 77, 78, 79, 80, 81, 82, 83, 84, 85, 86, 87, 88, 89, 90, 91, 92, 93] (by decide +kernel) (by decide +kernel)
set_option maxRecDepth 20000 in
theorem gX7_pairCount_X7_findSample : GoodIn wsX7_pairCount (wsV RX7 172 RX7 yX7_findSample wsX7_findSample) := goodIn_app (goodIn_of _ (by decide +kernel)) ggX7_pairCount_X7_findSample
theorem dX7_pairCount_0 : decode cX7_pairCount 0 = .ok (.aload_n 0, 1) := by decide +kernel
theorem dX7_pairCount_1 : decode cX7_pairCount 1 = .ok (.iconst 0, 1) := by decide +kernel
theorem dX7_pairCount_2 : decode cX7_pairCount 2 = .ok (.putfield 63, 3) := by decide +kernel
theorem dX7_pairCount_5 : decode cX7_pairCount 5 = .ok (.aload_n 0, 1) := by decide +kernel
theorem dX7_pairCount_6 : decode cX7_pairCount 6 = .ok (.invokevirtual 172, 3) := by decide +kernel
theorem dX7_pairCount_9 : decode cX7_pairCount 9 = .ok (.aload_n 0, 1) := by decide +kernel
theorem dX7_pairCount_10 : decode cX7_pairCount 10 = .ok (.getfield 162, 3) := by decide +kernel
theorem dX7_pairCount_13 : decode cX7_pairCount 13 = .ok (.ireturn, 1) := by decide +kernel
set_option maxRecDepth 20000 in
theorem ggX7_sampleSize_X7_findSample : GoodIn wsX7_sampleSize wsX7_findSample := goodIn_r _ [7, 8, 9, 10, 11, 12, 2, 13, 14, 15, 16, 6, 17, 18, 19, 20, 21, 22, 23, 24, 25, 26, 27, 28, 29, 30, 31, 32, 33, 34, 35, 36, 37, 38, 39, 40, 41, 42, 43, 44, 45, 46, 47, 48, 49, 50, 51, 52, 53, 54, 55, 56, 57, 58, 59, 60, 61, 62, 63, 64, 65, 66, 67, 68, 69, 70, 71, 72, 73, 74, 75, 76, 77, 78, 79, 80, 81, 82, 83, 84, 85, 86, 87, 88, 89, 90, 91, 92, 93] (by decide +kernel) (by decide +kernel)
set_option maxRecDepth 20000 in
theorem gX7_sampleSize_X7_findSample : GoodIn wsX7_sampleSize (wsV RX7 172 RX7 yX7_findSample wsX7_findSample) := goodIn_app (goodIn_of _ (by decide +kernel)) ggX7_sampleSize_X7_findSample
theorem dX7_sampleSize_0 : decode cX7_sampleSize 0 = .ok (.aload_n 0, 1) := by decide +kernel
theorem dX7_sampleSize_1 : decode cX7_sampleSize 1 = .ok (.iconst 0, 1) := by decide +kernel
theorem dX7_sampleSize_2 : decode cX7_sampleSize 2 = .ok (.putfield 63, 3) := by decide +kernel
theorem dX7_sampleSize_5 : decode cX7_sampleSize 5 = .ok (.aload_n 0, 1) := by decide +kernel
theorem dX7_sampleSize_6 : decode cX7_sampleSize 6 = .ok (.invokevirtual 172, 3) := by decide +kernel
theorem dX7_sampleSize_9 : decode cX7_sampleSize 9 = .ok (.aload_n 0, 1) := by decide +kernel
theorem dX7_sampleSize_10 : decode cX7_sampleSize 10 = .ok (.getfield 165, 3) := by decide +kernel
theorem dX7_sampleSize_13 : decode cX7_sampleSize 13 = .ok (.ireturn, 1) := by decide +kernel
set_option maxRecDepth 20000 in
theorem ggX7_sample_X7_findSample : GoodIn wsX7_sample wsX7_findSample := goodIn_r _ [8, 9, 10, 11, 12, 13, 2, 3, 14, 15, 16, 7, 17, 18, 19, 20, 21, 22, 23, 24, 25, 26, 27, 28, 29, 30, 31, 32, 33, 34, 35, 36, 37, 38, 39, 40, 41, 42, 43, 44, 45, 46, 47, 48, 49, 50, 51, 52, 53, 54, 55, 56, 57, 58, 59, 60, 61, 62, 63, 64, 65, 66, 67, 68, 69, 70, 75, 76, 77, 78, 79, 80, 81, 82, 83, 84, 85, 86, 87, 88, 89, 90, 91, 92, 93, 94, 95, 96, 97] (by decide +kernel) (by decide +kernel)
set_option maxRecDepth 20000 in
theorem gX7_sample_X7_findSample : GoodIn wsX7_sample (wsV RX7 172 RX7 yX7_findSample wsX7_findSample) := goodIn_app (goodIn_of _ (by decide +kernel)) ggX7_sample_X7_findSample
set_option maxRecDepth 20000 in
theorem ggX7_sample_X7_fail : GoodIn wsX7_sample wsX7_fail := goodIn_r _ [74, 1, 75, 76, 77, 78, 79, 80, 81, 82, 83, 84, 85, 86, 87, 88, 89, 90, 91, 92, 93, 94, 95, 96, 97] (by decide +kernel) (by decide +kernel)
set_option maxRecDepth 20000 in
theorem gX7_sample_X7_fail : GoodIn wsX7_sample (wsV RX7 77 RX7 yX7_fail wsX7_fail) := goodIn_app (goodIn_of _ (by decide +kernel)) ggX7_sample_X7_fail
theorem dX7_sample_0 : decode cX7_sample 0 = .ok (.aload_n 0, 1) := by decide +kernel
theorem dX7_sample_1 : decode cX7_sample 1 = .ok (.iconst 0, 1) := by decide +kernel
theorem dX7_sample_2 : decode cX7_sample 2 = .ok (.putfield 63, 3) := by decide +kernel
theorem dX7_sample_5 : decode cX7_sample 5 = .ok (.aload_n 0, 1) := by decide +kernel
theorem dX7_sample_6 : decode cX7_sample 6 = .ok (.invokevirtual 172, 3) := by decide +kernel
theorem dX7_sample_9 : decode cX7_sample 9 = .ok (.iload_n 1, 1) := by decide +kernel
theorem dX7_sample_10 : decode cX7_sample 10 = .ok (.ifCond .lt 20, 3) := by decide +kernel
theorem dX7_sample_13 : decode cX7_sample 13 = .ok (.iload_n 1, 1) := by decide +kernel
theorem dX7_sample_14 : decode cX7_sample 14 = .ok (.aload_n 0, 1) := by decide +kernel
theorem dX7_sample_15 : decode cX7_sample 15 = .ok (.getfield 165, 3) := by decide +kernel
theorem dX7_sample_18 : decode cX7_sample 18 = .ok (.if_icmp .ge 12, 3) := by decide +kernel
theorem dX7_sample_21 : decode cX7_sample 21 = .ok (.aload_n 0, 1) := by decide +kernel
theorem dX7_sample_22 : decode cX7_sample 22 = .ok (.getfield 57, 3) := by decide +kernel
theorem dX7_sample_25 : decode cX7_sample 25 = .ok (.iload_n 1, 1) := by decide +kernel
theorem dX7_sample_26 : decode cX7_sample 26 = .ok (.iaload, 1) := by decide +kernel
theorem dX7_sample_27 : decode cX7_sample 27 = .ok (.goto 8, 3) := by decide +kernel
theorem dX7_sample_30 : decode cX7_sample 30 = .ok (.aload_n 0, 1) := by decide +kernel
theorem dX7_sample_31 : decode cX7_sample 31 = .ok (.iconst 1, 1) := by decide +kernel
theorem dX7_sample_32 : decode cX7_sample 32 = .ok (.invokevirtual 77, 3) := by decide +kernel
theorem dX7_sample_35 : decode cX7_sample 35 = .ok (.ireturn, 1) := by decide +kernel
set_option maxRecDepth 20000 in
theorem ggX7_digest_X7_know : GoodIn wsX7_digest wsX7_know := goodIn_r _ [22, 23, 3, 24, 7, 25, 8, 16, 17, 26, 27, 28, 21, 29, 30, 31, 32, 33, 34, 35, 36, 5, 6, 37, 38, 39, 40, 41, 42, 43, 44, 45, 46, 47, 48, 10, 49, 50, 51, 52, 14, 12, 13, 11, 53, 54, 55, 56, 15, 9, 61, 62, 63, 64, 65, 66, 67, 68, 69, 70, 71, 72, 73, 74, 75, 76, 77, 78, 79, 80, 81, 82, 83] (by decide +kernel) (by decide +kernel)
set_option maxRecDepth 20000 in
theorem gX7_digest_X7_know : GoodIn wsX7_digest (wsV RX7 125 RX7 yX7_know wsX7_know) := goodIn_app (goodIn_of _ (by decide +kernel)) ggX7_digest_X7_know
set_option maxRecDepth 20000 in
theorem ggX7_digest_X7_count : GoodIn wsX7_digest wsX7_count := goodIn_r _ [60, 3, 61, 62, 63, 64, 65, 66, 67, 68, 69, 70, 71, 72, 73, 74, 75, 76, 77, 78, 79, 80, 81, 82, 83] (by decide +kernel) (by decide +kernel)
set_option maxRecDepth 20000 in
theorem gX7_digest_X7_count : GoodIn wsX7_digest (wsV RX7 128 RX7 yX7_count wsX7_count) := goodIn_app (goodIn_of _ (by decide +kernel)) ggX7_digest_X7_count
theorem dX7_digest_0 : decode cX7_digest 0 = .ok (.aload_n 0, 1) := by decide +kernel
theorem dX7_digest_1 : decode cX7_digest 1 = .ok (.iconst 0, 1) := by decide +kernel
theorem dX7_digest_2 : decode cX7_digest 2 = .ok (.putfield 63, 3) := by decide +kernel
theorem dX7_digest_5 : decode cX7_digest 5 = .ok (.aload_n 0, 1) := by decide +kernel
theorem dX7_digest_6 : decode cX7_digest 6 = .ok (.invokevirtual 125, 3) := by decide +kernel
theorem dX7_digest_9 : decode cX7_digest 9 = .ok (.ldc2_w 175, 3) := by decide +kernel
theorem dX7_digest_12 : decode cX7_digest 12 = .ok (.aload_n 0, 1) := by decide +kernel
theorem dX7_digest_13 : decode cX7_digest 13 = .ok (.getfield 9, 3) := by decide +kernel
theorem dX7_digest_16 : decode cX7_digest 16 = .ok (.i2l, 1) := by decide +kernel
theorem dX7_digest_17 : decode cX7_digest 17 = .ok (.ladd, 1) := by decide +kernel
theorem dX7_digest_18 : decode cX7_digest 18 = .ok (.lstore_n 1, 1) := by decide +kernel
theorem dX7_digest_19 : decode cX7_digest 19 = .ok (.iconst 1, 1) := by decide +kernel
theorem dX7_digest_20 : decode cX7_digest 20 = .ok (.istore_n 3, 1) := by decide +kernel
theorem dX7_digest_21 : decode cX7_digest 21 = .ok (.iload_n 3, 1) := by decide +kernel
theorem dX7_digest_22 : decode cX7_digest 22 = .ok (.aload_n 0, 1) := by decide +kernel
theorem dX7_digest_23 : decode cX7_digest 23 = .ok (.getfield 9, 3) := by decide +kernel
theorem dX7_digest_26 : decode cX7_digest 26 = .ok (.if_icmp .ge 35, 3) := by decide +kernel
theorem dX7_digest_29 : decode cX7_digest 29 = .ok (.lload_n 1, 1) := by decide +kernel
theorem dX7_digest_30 : decode cX7_digest 30 = .ok (.ldc2_w 177, 3) := by decide +kernel
theorem dX7_digest_33 : decode cX7_digest 33 = .ok (.lmul, 1) := by decide +kernel
theorem dX7_digest_34 : decode cX7_digest 34 = .ok (.aload_n 0, 1) := by decide +kernel
theorem dX7_digest_35 : decode cX7_digest 35 = .ok (.getfield 13, 3) := by decide +kernel
theorem dX7_digest_38 : decode cX7_digest 38 = .ok (.iload_n 3, 1) := by decide +kernel
theorem dX7_digest_39 : decode cX7_digest 39 = .ok (.iaload, 1) := by decide +kernel
theorem dX7_digest_40 : decode cX7_digest 40 = .ok (.i2l, 1) := by decide +kernel
theorem dX7_digest_41 : decode cX7_digest 41 = .ok (.ladd, 1) := by decide +kernel
theorem dX7_digest_42 : decode cX7_digest 42 = .ok (.ldc2_w 177, 3) := by decide +kernel
theorem dX7_digest_45 : decode cX7_digest 45 = .ok (.lmul, 1) := by decide +kernel
theorem dX7_digest_46 : decode cX7_digest 46 = .ok (.aload_n 0, 1) := by decide +kernel
theorem dX7_digest_47 : decode cX7_digest 47 = .ok (.getfield 17, 3) := by decide +kernel
theorem dX7_digest_50 : decode cX7_digest 50 = .ok (.iload_n 3, 1) := by decide +kernel
theorem dX7_digest_51 : decode cX7_digest 51 = .ok (.iaload, 1) := by decide +kernel
theorem dX7_digest_52 : decode cX7_digest 52 = .ok (.i2l, 1) := by decide +kernel
theorem dX7_digest_53 : decode cX7_digest 53 = .ok (.ladd, 1) := by decide +kernel
theorem dX7_digest_54 : decode cX7_digest 54 = .ok (.lstore_n 1, 1) := by decide +kernel
theorem dX7_digest_55 : decode cX7_digest 55 = .ok (.iinc 3 1, 3) := by decide +kernel
theorem dX7_digest_58 : decode cX7_digest 58 = .ok (.goto (-37), 3) := by decide +kernel
theorem dX7_digest_61 : decode cX7_digest 61 = .ok (.iconst 0, 1) := by decide +kernel
theorem dX7_digest_62 : decode cX7_digest 62 = .ok (.istore_n 3, 1) := by decide +kernel
theorem dX7_digest_63 : decode cX7_digest 63 = .ok (.iload_n 3, 1) := by decide +kernel
theorem dX7_digest_64 : decode cX7_digest 64 = .ok (.aload_n 0, 1) := by decide +kernel
theorem dX7_digest_65 : decode cX7_digest 65 = .ok (.getfield 9, 3) := by decide +kernel
theorem dX7_digest_68 : decode cX7_digest 68 = .ok (.if_icmp .ge 47, 3) := by decide +kernel
theorem dX7_digest_71 : decode cX7_digest 71 = .ok (.lload_n 1, 1) := by decide +kernel
theorem dX7_digest_72 : decode cX7_digest 72 = .ok (.ldc2_w 177, 3) := by decide +kernel
theorem dX7_digest_75 : decode cX7_digest 75 = .ok (.lmul, 1) := by decide +kernel
theorem dX7_digest_76 : decode cX7_digest 76 = .ok (.aload_n 0, 1) := by decide +kernel
theorem dX7_digest_77 : decode cX7_digest 77 = .ok (.getfield 20, 3) := by decide +kernel
theorem dX7_digest_80 : decode cX7_digest 80 = .ok (.iload_n 3, 1) := by decide +kernel
theorem dX7_digest_81 : decode cX7_digest 81 = .ok (.iaload, 1) := by decide +kernel
theorem dX7_digest_82 : decode cX7_digest 82 = .ok (.i2l, 1) := by decide +kernel
theorem dX7_digest_83 : decode cX7_digest 83 = .ok (.ladd, 1) := by decide +kernel
theorem dX7_digest_84 : decode cX7_digest 84 = .ok (.ldc2_w 177, 3) := by decide +kernel
theorem dX7_digest_87 : decode cX7_digest 87 = .ok (.lmul, 1) := by decide +kernel
theorem dX7_digest_88 : decode cX7_digest 88 = .ok (.aload_n 0, 1) := by decide +kernel
theorem dX7_digest_89 : decode cX7_digest 89 = .ok (.getfield 23, 3) := by decide +kernel
theorem dX7_digest_92 : decode cX7_digest 92 = .ok (.iload_n 3, 1) := by decide +kernel
theorem dX7_digest_93 : decode cX7_digest 93 = .ok (.iaload, 1) := by decide +kernel
theorem dX7_digest_94 : decode cX7_digest 94 = .ok (.i2l, 1) := by decide +kernel
theorem dX7_digest_95 : decode cX7_digest 95 = .ok (.ladd, 1) := by decide +kernel
theorem dX7_digest_96 : decode cX7_digest 96 = .ok (.ldc2_w 177, 3) := by decide +kernel
theorem dX7_digest_99 : decode cX7_digest 99 = .ok (.lmul, 1) := by decide +kernel
theorem dX7_digest_100 : decode cX7_digest 100 = .ok (.aload_n 0, 1) := by decide +kernel
theorem dX7_digest_101 : decode cX7_digest 101 = .ok (.getfield 26, 3) := by decide +kernel
theorem dX7_digest_104 : decode cX7_digest 104 = .ok (.iload_n 3, 1) := by decide +kernel
theorem dX7_digest_105 : decode cX7_digest 105 = .ok (.iaload, 1) := by decide +kernel
theorem dX7_digest_106 : decode cX7_digest 106 = .ok (.i2l, 1) := by decide +kernel
theorem dX7_digest_107 : decode cX7_digest 107 = .ok (.ladd, 1) := by decide +kernel
theorem dX7_digest_108 : decode cX7_digest 108 = .ok (.lstore_n 1, 1) := by decide +kernel
theorem dX7_digest_109 : decode cX7_digest 109 = .ok (.iinc 3 1, 3) := by decide +kernel
theorem dX7_digest_112 : decode cX7_digest 112 = .ok (.goto (-49), 3) := by decide +kernel
theorem dX7_digest_115 : decode cX7_digest 115 = .ok (.lload_n 1, 1) := by decide +kernel
theorem dX7_digest_116 : decode cX7_digest 116 = .ok (.ldc2_w 177, 3) := by decide +kernel
theorem dX7_digest_119 : decode cX7_digest 119 = .ok (.lmul, 1) := by decide +kernel
theorem dX7_digest_120 : decode cX7_digest 120 = .ok (.aload_n 0, 1) := by decide +kernel
theorem dX7_digest_121 : decode cX7_digest 121 = .ok (.getfield 84, 3) := by decide +kernel
theorem dX7_digest_124 : decode cX7_digest 124 = .ok (.i2l, 1) := by decide +kernel
theorem dX7_digest_125 : decode cX7_digest 125 = .ok (.ladd, 1) := by decide +kernel
theorem dX7_digest_126 : decode cX7_digest 126 = .ok (.lstore_n 1, 1) := by decide +kernel
theorem dX7_digest_127 : decode cX7_digest 127 = .ok (.iconst 0, 1) := by decide +kernel
theorem dX7_digest_128 : decode cX7_digest 128 = .ok (.istore_n 3, 1) := by decide +kernel
theorem dX7_digest_129 : decode cX7_digest 129 = .ok (.iload_n 3, 1) := by decide +kernel
theorem dX7_digest_130 : decode cX7_digest 130 = .ok (.aload_n 0, 1) := by decide +kernel
theorem dX7_digest_131 : decode cX7_digest 131 = .ok (.getfield 84, 3) := by decide +kernel
theorem dX7_digest_134 : decode cX7_digest 134 = .ok (.if_icmp .ge 66, 3) := by decide +kernel
theorem dX7_digest_137 : decode cX7_digest 137 = .ok (.lload_n 1, 1) := by decide +kernel
theorem dX7_digest_138 : decode cX7_digest 138 = .ok (.ldc2_w 177, 3) := by decide +kernel
theorem dX7_digest_141 : decode cX7_digest 141 = .ok (.lmul, 1) := by decide +kernel
theorem dX7_digest_142 : decode cX7_digest 142 = .ok (.aload_n 0, 1) := by decide +kernel
theorem dX7_digest_143 : decode cX7_digest 143 = .ok (.getfield 29, 3) := by decide +kernel
theorem dX7_digest_146 : decode cX7_digest 146 = .ok (.iload_n 3, 1) := by decide +kernel
theorem dX7_digest_147 : decode cX7_digest 147 = .ok (.iaload, 1) := by decide +kernel
theorem dX7_digest_148 : decode cX7_digest 148 = .ok (.i2l, 1) := by decide +kernel
theorem dX7_digest_149 : decode cX7_digest 149 = .ok (.ladd, 1) := by decide +kernel
theorem dX7_digest_150 : decode cX7_digest 150 = .ok (.ldc2_w 177, 3) := by decide +kernel
theorem dX7_digest_153 : decode cX7_digest 153 = .ok (.lmul, 1) := by decide +kernel
theorem dX7_digest_154 : decode cX7_digest 154 = .ok (.aload_n 0, 1) := by decide +kernel
theorem dX7_digest_155 : decode cX7_digest 155 = .ok (.getfield 32, 3) := by decide +kernel
theorem dX7_digest_158 : decode cX7_digest 158 = .ok (.iload_n 3, 1) := by decide +kernel
theorem dX7_digest_159 : decode cX7_digest 159 = .ok (.iaload, 1) := by decide +kernel
theorem dX7_digest_160 : decode cX7_digest 160 = .ok (.i2l, 1) := by decide +kernel
theorem dX7_digest_161 : decode cX7_digest 161 = .ok (.ladd, 1) := by decide +kernel
theorem dX7_digest_162 : decode cX7_digest 162 = .ok (.ldc2_w 177, 3) := by decide +kernel
theorem dX7_digest_165 : decode cX7_digest 165 = .ok (.lmul, 1) := by decide +kernel
theorem dX7_digest_166 : decode cX7_digest 166 = .ok (.aload_n 0, 1) := by decide +kernel
theorem dX7_digest_167 : decode cX7_digest 167 = .ok (.getfield 35, 3) := by decide +kernel
theorem dX7_digest_170 : decode cX7_digest 170 = .ok (.iload_n 3, 1) := by decide +kernel
theorem dX7_digest_171 : decode cX7_digest 171 = .ok (.iaload, 1) := by decide +kernel
theorem dX7_digest_172 : decode cX7_digest 172 = .ok (.i2l, 1) := by decide +kernel
theorem dX7_digest_173 : decode cX7_digest 173 = .ok (.ladd, 1) := by decide +kernel
theorem dX7_digest_174 : decode cX7_digest 174 = .ok (.ldc2_w 177, 3) := by decide +kernel
theorem dX7_digest_177 : decode cX7_digest 177 = .ok (.lmul, 1) := by decide +kernel
theorem dX7_digest_178 : decode cX7_digest 178 = .ok (.aload_n 0, 1) := by decide +kernel
theorem dX7_digest_179 : decode cX7_digest 179 = .ok (.getfield 38, 3) := by decide +kernel
theorem dX7_digest_182 : decode cX7_digest 182 = .ok (.iload_n 3, 1) := by decide +kernel
theorem dX7_digest_183 : decode cX7_digest 183 = .ok (.baload, 1) := by decide +kernel
theorem dX7_digest_184 : decode cX7_digest 184 = .ok (.ifCond .eq 7, 3) := by decide +kernel
theorem dX7_digest_187 : decode cX7_digest 187 = .ok (.lconst 1, 1) := by decide +kernel
theorem dX7_digest_188 : decode cX7_digest 188 = .ok (.goto 4, 3) := by decide +kernel
theorem dX7_digest_191 : decode cX7_digest 191 = .ok (.lconst 0, 1) := by decide +kernel
theorem dX7_digest_192 : decode cX7_digest 192 = .ok (.ladd, 1) := by decide +kernel
theorem dX7_digest_193 : decode cX7_digest 193 = .ok (.lstore_n 1, 1) := by decide +kernel
theorem dX7_digest_194 : decode cX7_digest 194 = .ok (.iinc 3 1, 3) := by decide +kernel
theorem dX7_digest_197 : decode cX7_digest 197 = .ok (.goto (-68), 3) := by decide +kernel
theorem dX7_digest_200 : decode cX7_digest 200 = .ok (.lload_n 1, 1) := by decide +kernel
theorem dX7_digest_201 : decode cX7_digest 201 = .ok (.ldc2_w 177, 3) := by decide +kernel
theorem dX7_digest_204 : decode cX7_digest 204 = .ok (.lmul, 1) := by decide +kernel
theorem dX7_digest_205 : decode cX7_digest 205 = .ok (.aload_n 0, 1) := by decide +kernel
theorem dX7_digest_206 : decode cX7_digest 206 = .ok (.getfield 42, 3) := by decide +kernel
theorem dX7_digest_209 : decode cX7_digest 209 = .ok (.i2l, 1) := by decide +kernel
theorem dX7_digest_210 : decode cX7_digest 210 = .ok (.ladd, 1) := by decide +kernel
theorem dX7_digest_211 : decode cX7_digest 211 = .ok (.ldc2_w 177, 3) := by decide +kernel
theorem dX7_digest_214 : decode cX7_digest 214 = .ok (.lmul, 1) := by decide +kernel
theorem dX7_digest_215 : decode cX7_digest 215 = .ok (.aload_n 0, 1) := by decide +kernel
theorem dX7_digest_216 : decode cX7_digest 216 = .ok (.aload_n 0, 1) := by decide +kernel
theorem dX7_digest_217 : decode cX7_digest 217 = .ok (.getfield 45, 3) := by decide +kernel
theorem dX7_digest_220 : decode cX7_digest 220 = .ok (.invokevirtual 128, 3) := by decide +kernel
theorem dX7_digest_223 : decode cX7_digest 223 = .ok (.i2l, 1) := by decide +kernel
theorem dX7_digest_224 : decode cX7_digest 224 = .ok (.ladd, 1) := by decide +kernel
theorem dX7_digest_225 : decode cX7_digest 225 = .ok (.ldc2_w 177, 3) := by decide +kernel
theorem dX7_digest_228 : decode cX7_digest 228 = .ok (.lmul, 1) := by decide +kernel
theorem dX7_digest_229 : decode cX7_digest 229 = .ok (.aload_n 0, 1) := by decide +kernel
theorem dX7_digest_230 : decode cX7_digest 230 = .ok (.aload_n 0, 1) := by decide +kernel
theorem dX7_digest_231 : decode cX7_digest 231 = .ok (.getfield 48, 3) := by decide +kernel
theorem dX7_digest_234 : decode cX7_digest 234 = .ok (.invokevirtual 128, 3) := by decide +kernel
theorem dX7_digest_237 : decode cX7_digest 237 = .ok (.i2l, 1) := by decide +kernel
theorem dX7_digest_238 : decode cX7_digest 238 = .ok (.ladd, 1) := by decide +kernel
theorem dX7_digest_239 : decode cX7_digest 239 = .ok (.lstore_n 1, 1) := by decide +kernel
theorem dX7_digest_240 : decode cX7_digest 240 = .ok (.iconst 0, 1) := by decide +kernel
theorem dX7_digest_241 : decode cX7_digest 241 = .ok (.istore_n 3, 1) := by decide +kernel
theorem dX7_digest_242 : decode cX7_digest 242 = .ok (.iload_n 3, 1) := by decide +kernel
theorem dX7_digest_243 : decode cX7_digest 243 = .ok (.iconst 1, 1) := by decide +kernel
theorem dX7_digest_244 : decode cX7_digest 244 = .ok (.aload_n 0, 1) := by decide +kernel
theorem dX7_digest_245 : decode cX7_digest 245 = .ok (.getfield 9, 3) := by decide +kernel
theorem dX7_digest_248 : decode cX7_digest 248 = .ok (.ishl, 1) := by decide +kernel
theorem dX7_digest_249 : decode cX7_digest 249 = .ok (.if_icmp .ge 27, 3) := by decide +kernel
theorem dX7_digest_252 : decode cX7_digest 252 = .ok (.aload_n 0, 1) := by decide +kernel
theorem dX7_digest_253 : decode cX7_digest 253 = .ok (.getfield 48, 3) := by decide +kernel
theorem dX7_digest_256 : decode cX7_digest 256 = .ok (.iload_n 3, 1) := by decide +kernel
theorem dX7_digest_257 : decode cX7_digest 257 = .ok (.baload, 1) := by decide +kernel
theorem dX7_digest_258 : decode cX7_digest 258 = .ok (.ifCond .eq 12, 3) := by decide +kernel
theorem dX7_digest_261 : decode cX7_digest 261 = .ok (.lload_n 1, 1) := by decide +kernel
theorem dX7_digest_262 : decode cX7_digest 262 = .ok (.ldc2_w 177, 3) := by decide +kernel
theorem dX7_digest_265 : decode cX7_digest 265 = .ok (.lmul, 1) := by decide +kernel
theorem dX7_digest_266 : decode cX7_digest 266 = .ok (.iload_n 3, 1) := by decide +kernel
theorem dX7_digest_267 : decode cX7_digest 267 = .ok (.i2l, 1) := by decide +kernel
theorem dX7_digest_268 : decode cX7_digest 268 = .ok (.ladd, 1) := by decide +kernel
theorem dX7_digest_269 : decode cX7_digest 269 = .ok (.lstore_n 1, 1) := by decide +kernel
theorem dX7_digest_270 : decode cX7_digest 270 = .ok (.iinc 3 1, 3) := by decide +kernel
theorem dX7_digest_273 : decode cX7_digest 273 = .ok (.goto (-31), 3) := by decide +kernel
theorem dX7_digest_276 : decode cX7_digest 276 = .ok (.lload_n 1, 1) := by decide +kernel
theorem dX7_digest_277 : decode cX7_digest 277 = .ok (.lreturn, 1) := by decide +kernel
