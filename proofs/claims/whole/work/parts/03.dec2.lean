theorem dX4_size_31 : decode cX4_size 31 = .ok (.putfield 36, 3) := by decide +kernel
theorem dX4_size_34 : decode cX4_size 34 = .ok (.iconst 1, 1) := by decide +kernel
theorem dX4_size_35 : decode cX4_size 35 = .ok (.ireturn, 1) := by decide +kernel
set_option maxRecDepth 20000 in
theorem ggX4_road_X1_hasNode : GoodIn wsX4_road wsX1_hasNode := goodIn_r _ [7, 8, 59, 60, 61, 62, 63] (by decide +kernel) (by decide +kernel)
set_option maxRecDepth 20000 in
theorem gX4_road_X1_hasNode : GoodIn wsX4_road (wsV RX4 46 RX1 yX1_hasNode wsX1_hasNode) := goodIn_app (goodIn_of _ (by decide +kernel)) ggX4_road_X1_hasNode
set_option maxRecDepth 20000 in
theorem ggX4_road_X1_signedCost : GoodIn wsX4_road wsX1_signedCost := goodIn_r _ [12, 13, 14, 15, 16, 6, 17, 18, 19, 20, 4, 5, 7, 8, 21, 22, 23, 24, 25, 26, 27, 28, 29, 30, 59, 60, 61, 62, 63] (by decide +kernel) (by decide +kernel)
set_option maxRecDepth 20000 in
theorem gX4_road_X1_signedCost : GoodIn wsX4_road (wsV RX4 51 RX1 yX1_signedCost wsX1_signedCost) := goodIn_app (goodIn_of _ (by decide +kernel)) ggX4_road_X1_signedCost
set_option maxRecDepth 20000 in
theorem ggX4_road_X1_change : GoodIn wsX4_road wsX1_change := goodIn_r _ [34, 13, 14, 15, 16, 6, 17, 18, 19, 20, 4, 5, 7, 8, 21, 22, 23, 24, 25, 26, 27, 28, 29, 30, 59, 60, 61, 62, 63] (by decide +kernel) (by decide +kernel)
set_option maxRecDepth 20000 in
theorem gX4_road_X1_change : GoodIn wsX4_road (wsV RX4 55 RX1 yX1_change wsX1_change) := goodIn_app (goodIn_of _ (by decide +kernel)) ggX4_road_X1_change
set_option maxRecDepth 20000 in
theorem ggX4_road_X1_count : GoodIn wsX4_road wsX1_count := goodIn_r _ [38, 39, 59, 60, 61, 62, 63] (by decide +kernel) (by decide +kernel)
set_option maxRecDepth 20000 in
theorem gX4_road_X1_count : GoodIn wsX4_road (wsV RX4 59 RX1 yX1_count wsX1_count) := goodIn_app (goodIn_of _ (by decide +kernel)) ggX4_road_X1_count
set_option maxRecDepth 20000 in
theorem ggX4_road_X1_add : GoodIn wsX4_road wsX1_add := goodIn_r _ [43, 44, 45, 46, 6, 47, 19, 39, 13, 18, 21, 22, 23, 24, 25, 26, 27, 28, 29, 30, 48, 49, 50, 51, 52, 53, 59, 60, 61, 62, 63] (by decide +kernel) (by decide +kernel)
set_option maxRecDepth 20000 in
theorem gX4_road_X1_add : GoodIn wsX4_road (wsV RX4 63 RX1 yX1_add wsX1_add) := goodIn_app (goodIn_of _ (by decide +kernel)) ggX4_road_X1_add
theorem dX4_road_0 : decode cX4_road 0 = .ok (.aload_n 0, 1) := by decide +kernel
theorem dX4_road_1 : decode cX4_road 1 = .ok (.getfield 12, 3) := by decide +kernel
theorem dX4_road_4 : decode cX4_road 4 = .ok (.iload_n 1, 1) := by decide +kernel
theorem dX4_road_5 : decode cX4_road 5 = .ok (.invokevirtual 46, 3) := by decide +kernel
theorem dX4_road_8 : decode cX4_road 8 = .ok (.ifCond .eq 19, 3) := by decide +kernel
theorem dX4_road_11 : decode cX4_road 11 = .ok (.aload_n 0, 1) := by decide +kernel
theorem dX4_road_12 : decode cX4_road 12 = .ok (.getfield 12, 3) := by decide +kernel
theorem dX4_road_15 : decode cX4_road 15 = .ok (.iload_n 2, 1) := by decide +kernel
theorem dX4_road_16 : decode cX4_road 16 = .ok (.invokevirtual 46, 3) := by decide +kernel
theorem dX4_road_19 : decode cX4_road 19 = .ok (.ifCond .eq 8, 3) := by decide +kernel
theorem dX4_road_22 : decode cX4_road 22 = .ok (.iload_n 1, 1) := by decide +kernel
theorem dX4_road_23 : decode cX4_road 23 = .ok (.iload_n 2, 1) := by decide +kernel
theorem dX4_road_24 : decode cX4_road 24 = .ok (.if_icmp .ne 6, 3) := by decide +kernel
theorem dX4_road_27 : decode cX4_road 27 = .ok (.bipush (-14), 2) := by decide +kernel
theorem dX4_road_29 : decode cX4_road 29 = .ok (.ireturn, 1) := by decide +kernel
theorem dX4_road_30 : decode cX4_road 30 = .ok (.iload_n 3, 1) := by decide +kernel
theorem dX4_road_31 : decode cX4_road 31 = .ok (.iconst 1, 1) := by decide +kernel
theorem dX4_road_32 : decode cX4_road 32 = .ok (.if_icmp .lt 9, 3) := by decide +kernel
theorem dX4_road_35 : decode cX4_road 35 = .ok (.iload_n 3, 1) := by decide +kernel
theorem dX4_road_36 : decode cX4_road 36 = .ok (.ldc 50, 2) := by decide +kernel
theorem dX4_road_38 : decode cX4_road 38 = .ok (.if_icmp .le 5, 3) := by decide +kernel
theorem dX4_road_41 : decode cX4_road 41 = .ok (.iconst (-1), 1) := by decide +kernel
theorem dX4_road_42 : decode cX4_road 42 = .ok (.ireturn, 1) := by decide +kernel
theorem dX4_road_43 : decode cX4_road 43 = .ok (.aload_n 0, 1) := by decide +kernel
theorem dX4_road_44 : decode cX4_road 44 = .ok (.getfield 12, 3) := by decide +kernel
theorem dX4_road_47 : decode cX4_road 47 = .ok (.iload_n 1, 1) := by decide +kernel
theorem dX4_road_48 : decode cX4_road 48 = .ok (.iload_n 2, 1) := by decide +kernel
theorem dX4_road_49 : decode cX4_road 49 = .ok (.invokevirtual 51, 3) := by decide +kernel
theorem dX4_road_52 : decode cX4_road 52 = .ok (.istore 4, 2) := by decide +kernel
theorem dX4_road_54 : decode cX4_road 54 = .ok (.iload 4, 2) := by decide +kernel
theorem dX4_road_56 : decode cX4_road 56 = .ok (.ifCond .eq 31, 3) := by decide +kernel
theorem dX4_road_59 : decode cX4_road 59 = .ok (.aload_n 0, 1) := by decide +kernel
theorem dX4_road_60 : decode cX4_road 60 = .ok (.getfield 12, 3) := by decide +kernel
theorem dX4_road_63 : decode cX4_road 63 = .ok (.iload_n 1, 1) := by decide +kernel
theorem dX4_road_64 : decode cX4_road 64 = .ok (.iload_n 2, 1) := by decide +kernel
theorem dX4_road_65 : decode cX4_road 65 = .ok (.iload 4, 2) := by decide +kernel
theorem dX4_road_67 : decode cX4_road 67 = .ok (.ifCond .ge 8, 3) := by decide +kernel
theorem dX4_road_70 : decode cX4_road 70 = .ok (.iload_n 3, 1) := by decide +kernel
theorem dX4_road_71 : decode cX4_road 71 = .ok (.ineg, 1) := by decide +kernel
theorem dX4_road_72 : decode cX4_road 72 = .ok (.goto 4, 3) := by decide +kernel
theorem dX4_road_75 : decode cX4_road 75 = .ok (.iload_n 3, 1) := by decide +kernel
theorem dX4_road_76 : decode cX4_road 76 = .ok (.invokevirtual 55, 3) := by decide +kernel
theorem dX4_road_79 : decode cX4_road 79 = .ok (.aload_n 0, 1) := by decide +kernel
theorem dX4_road_80 : decode cX4_road 80 = .ok (.getfield 12, 3) := by decide +kernel
theorem dX4_road_83 : decode cX4_road 83 = .ok (.invokevirtual 59, 3) := by decide +kernel
theorem dX4_road_86 : decode cX4_road 86 = .ok (.ireturn, 1) := by decide +kernel
theorem dX4_road_87 : decode cX4_road 87 = .ok (.aload_n 0, 1) := by decide +kernel
theorem dX4_road_88 : decode cX4_road 88 = .ok (.getfield 12, 3) := by decide +kernel
theorem dX4_road_91 : decode cX4_road 91 = .ok (.invokevirtual 59, 3) := by decide +kernel
theorem dX4_road_94 : decode cX4_road 94 = .ok (.sipush 2000, 3) := by decide +kernel
theorem dX4_road_97 : decode cX4_road 97 = .ok (.if_icmp .lt 6, 3) := by decide +kernel
theorem dX4_road_100 : decode cX4_road 100 = .ok (.bipush (-12), 2) := by decide +kernel
theorem dX4_road_102 : decode cX4_road 102 = .ok (.ireturn, 1) := by decide +kernel
theorem dX4_road_103 : decode cX4_road 103 = .ok (.aload_n 0, 1) := by decide +kernel
theorem dX4_road_104 : decode cX4_road 104 = .ok (.getfield 12, 3) := by decide +kernel
theorem dX4_road_107 : decode cX4_road 107 = .ok (.iload_n 1, 1) := by decide +kernel
theorem dX4_road_108 : decode cX4_road 108 = .ok (.iload_n 2, 1) := by decide +kernel
theorem dX4_road_109 : decode cX4_road 109 = .ok (.iload_n 3, 1) := by decide +kernel
theorem dX4_road_110 : decode cX4_road 110 = .ok (.invokevirtual 63, 3) := by decide +kernel
theorem dX4_road_113 : decode cX4_road 113 = .ok (.aload_n 0, 1) := by decide +kernel
theorem dX4_road_114 : decode cX4_road 114 = .ok (.getfield 12, 3) := by decide +kernel
theorem dX4_road_117 : decode cX4_road 117 = .ok (.invokevirtual 59, 3) := by decide +kernel
theorem dX4_road_120 : decode cX4_road 120 = .ok (.ireturn, 1) := by decide +kernel
set_option maxRecDepth 20000 in
theorem ggX4_close_X1_signedCost : GoodIn wsX4_close wsX1_signedCost := goodIn_r _ [6, 7, 8, 9, 10, 5, 11, 12, 13, 14, 15, 16, 17, 18, 19, 20, 21, 22, 23, 24, 25, 26, 27, 28, 38, 39, 40, 41, 42] (by decide +kernel) (by decide +kernel)
set_option maxRecDepth 20000 in
theorem gX4_close_X1_signedCost : GoodIn wsX4_close (wsV RX4 51 RX1 yX1_signedCost wsX1_signedCost) := goodIn_app (goodIn_of _ (by decide +kernel)) ggX4_close_X1_signedCost
set_option maxRecDepth 20000 in
theorem ggX4_close_X1_change : GoodIn wsX4_close wsX1_change := goodIn_r _ [32, 7, 8, 9, 10, 5, 11, 12, 13, 14, 15, 16, 17, 18, 19, 20, 21, 22, 23, 24, 25, 26, 27, 28, 38, 39, 40, 41, 42] (by decide +kernel) (by decide +kernel)
set_option maxRecDepth 20000 in
theorem gX4_close_X1_change : GoodIn wsX4_close (wsV RX4 55 RX1 yX1_change wsX1_change) := goodIn_app (goodIn_of _ (by decide +kernel)) ggX4_close_X1_change
theorem dX4_close_0 : decode cX4_close 0 = .ok (.aload_n 0, 1) := by decide +kernel
theorem dX4_close_1 : decode cX4_close 1 = .ok (.getfield 12, 3) := by decide +kernel
theorem dX4_close_4 : decode cX4_close 4 = .ok (.iload_n 1, 1) := by decide +kernel
theorem dX4_close_5 : decode cX4_close 5 = .ok (.iload_n 2, 1) := by decide +kernel
theorem dX4_close_6 : decode cX4_close 6 = .ok (.invokevirtual 51, 3) := by decide +kernel
theorem dX4_close_9 : decode cX4_close 9 = .ok (.istore 4, 2) := by decide +kernel
theorem dX4_close_11 : decode cX4_close 11 = .ok (.iload 4, 2) := by decide +kernel
theorem dX4_close_13 : decode cX4_close 13 = .ok (.ifCond .eq 17, 3) := by decide +kernel
theorem dX4_close_16 : decode cX4_close 16 = .ok (.iload 4, 2) := by decide +kernel
theorem dX4_close_18 : decode cX4_close 18 = .ok (.ifCond .ge 7, 3) := by decide +kernel
theorem dX4_close_21 : decode cX4_close 21 = .ok (.iconst 1, 1) := by decide +kernel
theorem dX4_close_22 : decode cX4_close 22 = .ok (.goto 4, 3) := by decide +kernel
theorem dX4_close_25 : decode cX4_close 25 = .ok (.iconst 0, 1) := by decide +kernel
theorem dX4_close_26 : decode cX4_close 26 = .ok (.iload_n 3, 1) := by decide +kernel
theorem dX4_close_27 : decode cX4_close 27 = .ok (.if_icmp .ne 5, 3) := by decide +kernel
theorem dX4_close_30 : decode cX4_close 30 = .ok (.iconst 0, 1) := by decide +kernel
theorem dX4_close_31 : decode cX4_close 31 = .ok (.ireturn, 1) := by decide +kernel
theorem dX4_close_32 : decode cX4_close 32 = .ok (.aload_n 0, 1) := by decide +kernel
theorem dX4_close_33 : decode cX4_close 33 = .ok (.getfield 12, 3) := by decide +kernel
theorem dX4_close_36 : decode cX4_close 36 = .ok (.iload_n 1, 1) := by decide +kernel
theorem dX4_close_37 : decode cX4_close 37 = .ok (.iload_n 2, 1) := by decide +kernel
theorem dX4_close_38 : decode cX4_close 38 = .ok (.iload 4, 2) := by decide +kernel
theorem dX4_close_40 : decode cX4_close 40 = .ok (.ineg, 1) := by decide +kernel
theorem dX4_close_41 : decode cX4_close 41 = .ok (.invokevirtual 55, 3) := by decide +kernel
theorem dX4_close_44 : decode cX4_close 44 = .ok (.iconst 1, 1) := by decide +kernel
theorem dX4_close_45 : decode cX4_close 45 = .ok (.ireturn, 1) := by decide +kernel
set_option maxRecDepth 20000 in
theorem ggX4_cost_X1_signedCost : GoodIn wsX4_cost wsX1_signedCost := goodIn_r _ [6, 7, 8, 9, 10, 5, 11, 12, 13, 14, 15, 16, 17, 18, 19, 20, 21, 22, 23, 24, 25, 26, 27, 28, 34, 35, 36, 37, 38] (by decide +kernel) (by decide +kernel)
set_option maxRecDepth 20000 in
theorem gX4_cost_X1_signedCost : GoodIn wsX4_cost (wsV RX4 51 RX1 yX1_signedCost wsX1_signedCost) := goodIn_app (goodIn_of _ (by decide +kernel)) ggX4_cost_X1_signedCost
theorem dX4_cost_0 : decode cX4_cost 0 = .ok (.aload_n 0, 1) := by decide +kernel
theorem dX4_cost_1 : decode cX4_cost 1 = .ok (.getfield 12, 3) := by decide +kernel
theorem dX4_cost_4 : decode cX4_cost 4 = .ok (.iload_n 1, 1) := by decide +kernel
theorem dX4_cost_5 : decode cX4_cost 5 = .ok (.iload_n 2, 1) := by decide +kernel
theorem dX4_cost_6 : decode cX4_cost 6 = .ok (.invokevirtual 51, 3) := by decide +kernel
theorem dX4_cost_9 : decode cX4_cost 9 = .ok (.ireturn, 1) := by decide +kernel
set_option maxRecDepth 20000 in
theorem ggX4_bar_X1_hasNode : GoodIn wsX4_bar wsX1_hasNode := goodIn_r _ [7, 8, 44, 45, 46, 47, 48] (by decide +kernel) (by decide +kernel)
set_option maxRecDepth 20000 in
theorem gX4_bar_X1_hasNode : GoodIn wsX4_bar (wsV RX4 46 RX1 yX1_hasNode wsX1_hasNode) := goodIn_app (goodIn_of _ (by decide +kernel)) ggX4_bar_X1_hasNode
set_option maxRecDepth 20000 in
theorem ggX4_bar_X3_isBarred : GoodIn wsX4_bar wsX3_isBarred := goodIn_r _ [13, 14, 15, 16, 17, 12, 18, 19, 20, 21, 42, 43] (by decide +kernel) (by decide +kernel)
set_option maxRecDepth 20000 in
theorem gX4_bar_X3_isBarred : GoodIn wsX4_bar (wsV RX4 66 RX3 yX3_isBarred wsX3_isBarred) := goodIn_app (goodIn_of _ (by decide +kernel)) ggX4_bar_X3_isBarred
set_option maxRecDepth 20000 in
theorem ggX4_bar_X3_remove : GoodIn wsX4_bar wsX3_remove := goodIn_r _ [25, 14, 15, 26, 27, 28, 29, 16, 17, 12, 18, 19, 20, 21, 42, 43] (by decide +kernel) (by decide +kernel)
set_option maxRecDepth 20000 in
theorem gX4_bar_X3_remove : GoodIn wsX4_bar (wsV RX4 72 RX3 yX3_remove wsX3_remove) := goodIn_app (goodIn_of _ (by decide +kernel)) ggX4_bar_X3_remove
set_option maxRecDepth 20000 in
theorem ggX4_bar_X3_add : GoodIn wsX4_bar wsX3_add := goodIn_r _ [33, 15, 14, 16, 17, 12, 18, 19, 20, 21, 34, 35, 36, 27, 28, 29, 42, 43] (by decide +kernel) (by decide +kernel)
set_option maxRecDepth 20000 in
theorem gX4_bar_X3_add : GoodIn wsX4_bar (wsV RX4 75 RX3 yX3_add wsX3_add) := goodIn_app (goodIn_of _ (by decide +kernel)) ggX4_bar_X3_add
theorem dX4_bar_0 : decode cX4_bar 0 = .ok (.aload_n 0, 1) := by decide +kernel
theorem dX4_bar_1 : decode cX4_bar 1 = .ok (.getfield 12, 3) := by decide +kernel
theorem dX4_bar_4 : decode cX4_bar 4 = .ok (.iload_n 1, 1) := by decide +kernel
theorem dX4_bar_5 : decode cX4_bar 5 = .ok (.invokevirtual 46, 3) := by decide +kernel
theorem dX4_bar_8 : decode cX4_bar 8 = .ok (.ifCond .eq 35, 3) := by decide +kernel
theorem dX4_bar_11 : decode cX4_bar 11 = .ok (.aload_n 0, 1) := by decide +kernel
theorem dX4_bar_12 : decode cX4_bar 12 = .ok (.getfield 12, 3) := by decide +kernel
theorem dX4_bar_15 : decode cX4_bar 15 = .ok (.iload_n 2, 1) := by decide +kernel
theorem dX4_bar_16 : decode cX4_bar 16 = .ok (.invokevirtual 46, 3) := by decide +kernel
theorem dX4_bar_19 : decode cX4_bar 19 = .ok (.ifCond .eq 24, 3) := by decide +kernel
theorem dX4_bar_22 : decode cX4_bar 22 = .ok (.aload_n 0, 1) := by decide +kernel
theorem dX4_bar_23 : decode cX4_bar 23 = .ok (.getfield 12, 3) := by decide +kernel
theorem dX4_bar_26 : decode cX4_bar 26 = .ok (.iload_n 3, 1) := by decide +kernel
theorem dX4_bar_27 : decode cX4_bar 27 = .ok (.invokevirtual 46, 3) := by decide +kernel
theorem dX4_bar_30 : decode cX4_bar 30 = .ok (.ifCond .eq 13, 3) := by decide +kernel
theorem dX4_bar_33 : decode cX4_bar 33 = .ok (.iload_n 1, 1) := by decide +kernel
theorem dX4_bar_34 : decode cX4_bar 34 = .ok (.iload_n 2, 1) := by decide +kernel
theorem dX4_bar_35 : decode cX4_bar 35 = .ok (.if_icmp .eq 8, 3) := by decide +kernel
theorem dX4_bar_38 : decode cX4_bar 38 = .ok (.iload_n 2, 1) := by decide +kernel
theorem dX4_bar_39 : decode cX4_bar 39 = .ok (.iload_n 3, 1) := by decide +kernel
theorem dX4_bar_40 : decode cX4_bar 40 = .ok (.if_icmp .ne 6, 3) := by decide +kernel
theorem dX4_bar_43 : decode cX4_bar 43 = .ok (.bipush (-14), 2) := by decide +kernel
theorem dX4_bar_45 : decode cX4_bar 45 = .ok (.ireturn, 1) := by decide +kernel
theorem dX4_bar_46 : decode cX4_bar 46 = .ok (.aload_n 0, 1) := by decide +kernel
theorem dX4_bar_47 : decode cX4_bar 47 = .ok (.getfield 19, 3) := by decide +kernel
theorem dX4_bar_50 : decode cX4_bar 50 = .ok (.iload_n 1, 1) := by decide +kernel
theorem dX4_bar_51 : decode cX4_bar 51 = .ok (.iload_n 2, 1) := by decide +kernel
theorem dX4_bar_52 : decode cX4_bar 52 = .ok (.iload_n 3, 1) := by decide +kernel
theorem dX4_bar_53 : decode cX4_bar 53 = .ok (.invokevirtual 66, 3) := by decide +kernel
theorem dX4_bar_56 : decode cX4_bar 56 = .ok (.iload 4, 2) := by decide +kernel
theorem dX4_bar_58 : decode cX4_bar 58 = .ok (.if_icmp .ne 11, 3) := by decide +kernel
theorem dX4_bar_61 : decode cX4_bar 61 = .ok (.aload_n 0, 1) := by decide +kernel
theorem dX4_bar_62 : decode cX4_bar 62 = .ok (.getfield 19, 3) := by decide +kernel
theorem dX4_bar_65 : decode cX4_bar 65 = .ok (.getfield 70, 3) := by decide +kernel
theorem dX4_bar_68 : decode cX4_bar 68 = .ok (.ireturn, 1) := by decide +kernel
theorem dX4_bar_69 : decode cX4_bar 69 = .ok (.iload 4, 2) := by decide +kernel
theorem dX4_bar_71 : decode cX4_bar 71 = .ok (.ifCond .ne 21, 3) := by decide +kernel
theorem dX4_bar_74 : decode cX4_bar 74 = .ok (.aload_n 0, 1) := by decide +kernel
theorem dX4_bar_75 : decode cX4_bar 75 = .ok (.getfield 19, 3) := by decide +kernel
theorem dX4_bar_78 : decode cX4_bar 78 = .ok (.iload_n 1, 1) := by decide +kernel
theorem dX4_bar_79 : decode cX4_bar 79 = .ok (.iload_n 2, 1) := by decide +kernel
theorem dX4_bar_80 : decode cX4_bar 80 = .ok (.iload_n 3, 1) := by decide +kernel
theorem dX4_bar_81 : decode cX4_bar 81 = .ok (.invokevirtual 72, 3) := by decide +kernel
theorem dX4_bar_84 : decode cX4_bar 84 = .ok (.aload_n 0, 1) := by decide +kernel
theorem dX4_bar_85 : decode cX4_bar 85 = .ok (.getfield 19, 3) := by decide +kernel
theorem dX4_bar_88 : decode cX4_bar 88 = .ok (.getfield 70, 3) := by decide +kernel
theorem dX4_bar_91 : decode cX4_bar 91 = .ok (.ireturn, 1) := by decide +kernel
theorem dX4_bar_92 : decode cX4_bar 92 = .ok (.aload_n 0, 1) := by decide +kernel
theorem dX4_bar_93 : decode cX4_bar 93 = .ok (.getfield 19, 3) := by decide +kernel
theorem dX4_bar_96 : decode cX4_bar 96 = .ok (.getfield 70, 3) := by decide +kernel
theorem dX4_bar_99 : decode cX4_bar 99 = .ok (.sipush 200, 3) := by decide +kernel
theorem dX4_bar_102 : decode cX4_bar 102 = .ok (.if_icmp .lt 6, 3) := by decide +kernel
theorem dX4_bar_105 : decode cX4_bar 105 = .ok (.bipush (-12), 2) := by decide +kernel
theorem dX4_bar_107 : decode cX4_bar 107 = .ok (.ireturn, 1) := by decide +kernel
theorem dX4_bar_108 : decode cX4_bar 108 = .ok (.aload_n 0, 1) := by decide +kernel
theorem dX4_bar_109 : decode cX4_bar 109 = .ok (.getfield 19, 3) := by decide +kernel
theorem dX4_bar_112 : decode cX4_bar 112 = .ok (.iload_n 1, 1) := by decide +kernel
theorem dX4_bar_113 : decode cX4_bar 113 = .ok (.iload_n 2, 1) := by decide +kernel
theorem dX4_bar_114 : decode cX4_bar 114 = .ok (.iload_n 3, 1) := by decide +kernel
theorem dX4_bar_115 : decode cX4_bar 115 = .ok (.invokevirtual 75, 3) := by decide +kernel
theorem dX4_bar_118 : decode cX4_bar 118 = .ok (.aload_n 0, 1) := by decide +kernel
theorem dX4_bar_119 : decode cX4_bar 119 = .ok (.getfield 19, 3) := by decide +kernel
theorem dX4_bar_122 : decode cX4_bar 122 = .ok (.getfield 70, 3) := by decide +kernel
theorem dX4_bar_125 : decode cX4_bar 125 = .ok (.ireturn, 1) := by decide +kernel
set_option maxRecDepth 20000 in
theorem ggX4_route_X1_hasNode : GoodIn wsX4_route wsX1_hasNode := goodIn_r _ [11, 12, 118, 119, 120, 121, 122] (by decide +kernel) (by decide +kernel)
set_option maxRecDepth 20000 in
theorem gX4_route_X1_hasNode : GoodIn wsX4_route (wsV RX4 46 RX1 yX1_hasNode wsX1_hasNode) := goodIn_app (goodIn_of _ (by decide +kernel)) ggX4_route_X1_hasNode
set_option maxRecDepth 20000 in
theorem ggX4_route_X4_append : GoodIn wsX4_route wsX4_append := goodIn_r _ [17, 1, 18, 113, 114, 115, 116, 117] (by decide +kernel) (by decide +kernel)
set_option maxRecDepth 20000 in
theorem gX4_route_X4_append : GoodIn wsX4_route (wsV RX4 78 RX4 yX4_append wsX4_append) := goodIn_app (goodIn_of _ (by decide +kernel)) ggX4_route_X4_append
set_option maxRecDepth 20000 in
theorem ggX4_route_X2_begin : GoodIn wsX4_route wsX2_begin := goodIn_r _ [23, 24, 25, 26, 27, 28, 29, 30, 31, 22, 32, 33, 34, 35, 36, 37, 38, 39, 40, 10, 41, 42, 43, 44, 45, 46, 47, 48, 49, 50, 51, 52, 53, 54, 55, 56, 57, 58, 59, 60, 61, 62, 63, 16, 64, 65, 66, 67, 68, 69, 70, 71, 72, 73, 74, 75, 76, 77, 123, 124, 125, 126, 127, 128, 129, 130, 131, 132, 118, 119, 120, 121, 122, 133, 134] (by decide +kernel) (by decide +kernel)
set_option maxRecDepth 20000 in
theorem gX4_route_X2_begin : GoodIn wsX4_route (wsV RX4 81 RX2 yX2_begin wsX2_begin) := goodIn_app (goodIn_of _ (by decide +kernel)) ggX4_route_X2_begin
set_option maxRecDepth 20000 in
theorem ggX4_route_X2_weightOfFirstArrival : GoodIn wsX4_route wsX2_weightOfFirstArrival := goodIn_r _ [81, 25, 26, 27, 82, 83, 84, 73, 85, 75, 76, 77, 43, 44, 45, 10, 46, 47, 86, 87, 88, 89, 29, 30, 31, 22, 32, 28, 33, 34, 35, 36, 37, 38, 39, 40, 41, 42, 48, 49, 50, 51, 24, 52, 53, 54, 55, 56, 57, 58, 59, 60, 61, 62, 63, 16, 64, 65, 66, 67, 68, 69, 70, 71, 72, 74, 123, 124, 125, 126, 127, 128, 129, 130, 131, 132, 118, 119, 120, 121, 122, 133, 134] (by decide +kernel) (by decide +kernel)
set_option maxRecDepth 20000 in
theorem gX4_route_X2_weightOfFirstArrival : GoodIn wsX4_route (wsV RX4 85 RX2 yX2_weightOfFirstArrival wsX2_weightOfFirstArrival) := goodIn_app (goodIn_of _ (by decide +kernel)) ggX4_route_X2_weightOfFirstArrival
set_option maxRecDepth 20000 in
theorem ggX4_route_X4_layWay : GoodIn wsX4_route wsX4_layWay := goodIn_r _ [93, 4, 2, 13, 14, 15, 16, 17, 1, 18, 94, 95, 96, 22, 97, 26, 27, 43, 44, 45, 10, 46, 47, 98, 99, 100, 101, 102, 103, 8, 9, 11, 12, 104, 105, 106, 107, 108, 109, 110, 63, 64, 48, 49, 50, 51, 24, 52, 53, 54, 55, 56, 57, 58, 59, 60, 61, 62, 111, 66, 67, 68, 42, 69, 112, 87, 88, 89, 113, 114, 115, 116, 117, 123, 124, 125, 126, 127, 128, 129, 118, 119, 120, 121, 122, 133, 134] (by decide +kernel) (by decide +kernel)
set_option maxRecDepth 20000 in
theorem gX4_route_X4_layWay : GoodIn wsX4_route (wsV RX4 91 RX4 yX4_layWay wsX4_layWay) := goodIn_app (goodIn_of _ (by decide +kernel)) ggX4_route_X4_layWay
theorem dX4_route_0 : decode cX4_route 0 = .ok (.aload_n 0, 1) := by decide +kernel
theorem dX4_route_1 : decode cX4_route 1 = .ok (.iconst 0, 1) := by decide +kernel
theorem dX4_route_2 : decode cX4_route 2 = .ok (.putfield 36, 3) := by decide +kernel
theorem dX4_route_5 : decode cX4_route 5 = .ok (.aload_n 0, 1) := by decide +kernel
theorem dX4_route_6 : decode cX4_route 6 = .ok (.getfield 12, 3) := by decide +kernel
theorem dX4_route_9 : decode cX4_route 9 = .ok (.iload_n 1, 1) := by decide +kernel
theorem dX4_route_10 : decode cX4_route 10 = .ok (.invokevirtual 46, 3) := by decide +kernel
theorem dX4_route_13 : decode cX4_route 13 = .ok (.ifCond .eq 14, 3) := by decide +kernel
theorem dX4_route_16 : decode cX4_route 16 = .ok (.aload_n 0, 1) := by decide +kernel
theorem dX4_route_17 : decode cX4_route 17 = .ok (.getfield 12, 3) := by decide +kernel
theorem dX4_route_20 : decode cX4_route 20 = .ok (.iload_n 2, 1) := by decide +kernel
theorem dX4_route_21 : decode cX4_route 21 = .ok (.invokevirtual 46, 3) := by decide +kernel
theorem dX4_route_24 : decode cX4_route 24 = .ok (.ifCond .ne 7, 3) := by decide +kernel
theorem dX4_route_27 : decode cX4_route 27 = .ok (.ldc2_w 76, 3) := by decide +kernel
theorem dX4_route_30 : decode cX4_route 30 = .ok (.lreturn, 1) := by decide +kernel
theorem dX4_route_31 : decode cX4_route 31 = .ok (.iload_n 1, 1) := by decide +kernel
theorem dX4_route_32 : decode cX4_route 32 = .ok (.iload_n 2, 1) := by decide +kernel
theorem dX4_route_33 : decode cX4_route 33 = .ok (.if_icmp .ne 10, 3) := by decide +kernel
theorem dX4_route_36 : decode cX4_route 36 = .ok (.aload_n 0, 1) := by decide +kernel
theorem dX4_route_37 : decode cX4_route 37 = .ok (.iload_n 1, 1) := by decide +kernel
theorem dX4_route_38 : decode cX4_route 38 = .ok (.invokevirtual 78, 3) := by decide +kernel
theorem dX4_route_41 : decode cX4_route 41 = .ok (.lconst 0, 1) := by decide +kernel
theorem dX4_route_42 : decode cX4_route 42 = .ok (.lreturn, 1) := by decide +kernel
theorem dX4_route_43 : decode cX4_route 43 = .ok (.aload_n 0, 1) := by decide +kernel
theorem dX4_route_44 : decode cX4_route 44 = .ok (.getfield 28, 3) := by decide +kernel
theorem dX4_route_47 : decode cX4_route 47 = .ok (.iload_n 2, 1) := by decide +kernel
theorem dX4_route_48 : decode cX4_route 48 = .ok (.iconst 1, 1) := by decide +kernel
theorem dX4_route_49 : decode cX4_route 49 = .ok (.invokevirtual 81, 3) := by decide +kernel
theorem dX4_route_52 : decode cX4_route 52 = .ok (.aload_n 0, 1) := by decide +kernel
theorem dX4_route_53 : decode cX4_route 53 = .ok (.getfield 28, 3) := by decide +kernel
theorem dX4_route_56 : decode cX4_route 56 = .ok (.iload_n 1, 1) := by decide +kernel
theorem dX4_route_57 : decode cX4_route 57 = .ok (.invokevirtual 85, 3) := by decide +kernel
theorem dX4_route_60 : decode cX4_route 60 = .ok (.lstore_n 3, 1) := by decide +kernel
theorem dX4_route_61 : decode cX4_route 61 = .ok (.lload_n 3, 1) := by decide +kernel
theorem dX4_route_62 : decode cX4_route 62 = .ok (.lconst 0, 1) := by decide +kernel
theorem dX4_route_63 : decode cX4_route 63 = .ok (.lcmp, 1) := by decide +kernel
theorem dX4_route_64 : decode cX4_route 64 = .ok (.ifCond .ne 7, 3) := by decide +kernel
theorem dX4_route_67 : decode cX4_route 67 = .ok (.ldc2_w 89, 3) := by decide +kernel
theorem dX4_route_70 : decode cX4_route 70 = .ok (.lreturn, 1) := by decide +kernel
theorem dX4_route_71 : decode cX4_route 71 = .ok (.aload_n 0, 1) := by decide +kernel
theorem dX4_route_72 : decode cX4_route 72 = .ok (.iload_n 1, 1) := by decide +kernel
theorem dX4_route_73 : decode cX4_route 73 = .ok (.lload_n 3, 1) := by decide +kernel
theorem dX4_route_74 : decode cX4_route 74 = .ok (.invokevirtual 91, 3) := by decide +kernel
theorem dX4_route_77 : decode cX4_route 77 = .ok (.lload_n 3, 1) := by decide +kernel
theorem dX4_route_78 : decode cX4_route 78 = .ok (.ldc2_w 95, 3) := by decide +kernel
theorem dX4_route_81 : decode cX4_route 81 = .ok (.ldiv, 1) := by decide +kernel
theorem dX4_route_82 : decode cX4_route 82 = .ok (.lreturn, 1) := by decide +kernel
theorem dX4_length_0 : decode cX4_length 0 = .ok (.aload_n 0, 1) := by decide +kernel
theorem dX4_length_1 : decode cX4_length 1 = .ok (.getfield 36, 3) := by decide +kernel
theorem dX4_length_4 : decode cX4_length 4 = .ok (.ireturn, 1) := by decide +kernel
theorem dX4_node_0 : decode cX4_node 0 = .ok (.iload_n 1, 1) := by decide +kernel
theorem dX4_node_1 : decode cX4_node 1 = .ok (.ifCond .lt 20, 3) := by decide +kernel
theorem dX4_node_4 : decode cX4_node 4 = .ok (.iload_n 1, 1) := by decide +kernel
theorem dX4_node_5 : decode cX4_node 5 = .ok (.aload_n 0, 1) := by decide +kernel
theorem dX4_node_6 : decode cX4_node 6 = .ok (.getfield 36, 3) := by decide +kernel
theorem dX4_node_9 : decode cX4_node 9 = .ok (.if_icmp .ge 12, 3) := by decide +kernel
theorem dX4_node_12 : decode cX4_node 12 = .ok (.aload_n 0, 1) := by decide +kernel
theorem dX4_node_13 : decode cX4_node 13 = .ok (.getfield 32, 3) := by decide +kernel
theorem dX4_node_16 : decode cX4_node 16 = .ok (.iload_n 1, 1) := by decide +kernel
theorem dX4_node_17 : decode cX4_node 17 = .ok (.iaload, 1) := by decide +kernel
theorem dX4_node_18 : decode cX4_node 18 = .ok (.goto 4, 3) := by decide +kernel
theorem dX4_node_21 : decode cX4_node 21 = .ok (.iconst (-1), 1) := by decide +kernel
theorem dX4_node_22 : decode cX4_node 22 = .ok (.ireturn, 1) := by decide +kernel
set_option maxRecDepth 20000 in
theorem ggX4_within_X1_hasNode : GoodIn wsX4_within wsX1_hasNode := goodIn_r _ [7, 8, 87, 88, 89, 90, 91] (by decide +kernel) (by decide +kernel)
set_option maxRecDepth 20000 in
theorem gX4_within_X1_hasNode : GoodIn wsX4_within (wsV RX4 46 RX1 yX1_hasNode wsX1_hasNode) := goodIn_app (goodIn_of _ (by decide +kernel)) ggX4_within_X1_hasNode
set_option maxRecDepth 20000 in
theorem ggX4_within_X2_begin : GoodIn wsX4_within wsX2_begin := goodIn_r _ [13, 14, 15, 16, 17, 18, 19, 20, 21, 12, 22, 23, 24, 25, 26, 27, 28, 29, 30, 6, 31, 32, 33, 34, 35, 36, 37, 38, 39, 40, 41, 42, 43, 44, 45, 46, 47, 48, 49, 50, 51, 52, 53, 54, 55, 56, 57, 58, 59, 60, 61, 62, 63, 64, 65, 66, 67, 68, 92, 93, 94, 95, 96, 97, 98, 99, 100, 101, 87, 88, 89, 90, 91, 102, 103] (by decide +kernel) (by decide +kernel)
set_option maxRecDepth 20000 in
theorem gX4_within_X2_begin : GoodIn wsX4_within (wsV RX4 81 RX2 yX2_begin wsX2_begin) := goodIn_app (goodIn_of _ (by decide +kernel)) ggX4_within_X2_begin
set_option maxRecDepth 20000 in
theorem ggX4_within_X2_countOtherNodes : GoodIn wsX4_within wsX2_countOtherNodes := goodIn_r _ [72, 15, 17, 73, 18, 16, 74, 75, 76, 64, 77, 66, 67, 68, 33, 34, 35, 6, 36, 37, 78, 79, 80, 81, 19, 20, 21, 12, 22, 23, 24, 25, 26, 27, 28, 29, 30, 31, 32, 38, 39, 40, 41, 14, 42, 43, 44, 45, 46, 47, 48, 49, 50, 51, 52, 53, 54, 55, 56, 57, 58, 59, 60, 61, 62, 63, 65, 92, 93, 94, 95, 96, 97, 98, 99, 100, 101, 87, 88, 89, 90, 91, 102, 103] (by decide +kernel) (by decide +kernel)
set_option maxRecDepth 20000 in
theorem gX4_within_X2_countOtherNodes : GoodIn wsX4_within (wsV RX4 97 RX2 yX2_countOtherNodes wsX2_countOtherNodes) := goodIn_app (goodIn_of _ (by decide +kernel)) ggX4_within_X2_countOtherNodes
theorem dX4_within_0 : decode cX4_within 0 = .ok (.aload_n 0, 1) := by decide +kernel
theorem dX4_within_1 : decode cX4_within 1 = .ok (.getfield 12, 3) := by decide +kernel
theorem dX4_within_4 : decode cX4_within 4 = .ok (.iload_n 1, 1) := by decide +kernel
theorem dX4_within_5 : decode cX4_within 5 = .ok (.invokevirtual 46, 3) := by decide +kernel
theorem dX4_within_8 : decode cX4_within 8 = .ok (.ifCond .ne 6, 3) := by decide +kernel
theorem dX4_within_11 : decode cX4_within 11 = .ok (.bipush (-14), 2) := by decide +kernel
theorem dX4_within_13 : decode cX4_within 13 = .ok (.ireturn, 1) := by decide +kernel
theorem dX4_within_14 : decode cX4_within 14 = .ok (.lload_n 2, 1) := by decide +kernel
theorem dX4_within_15 : decode cX4_within 15 = .ok (.lconst 0, 1) := by decide +kernel
theorem dX4_within_16 : decode cX4_within 16 = .ok (.lcmp, 1) := by decide +kernel
theorem dX4_within_17 : decode cX4_within 17 = .ok (.ifCond .ge 5, 3) := by decide +kernel
theorem dX4_within_20 : decode cX4_within 20 = .ok (.iconst 0, 1) := by decide +kernel
theorem dX4_within_21 : decode cX4_within 21 = .ok (.ireturn, 1) := by decide +kernel
theorem dX4_within_22 : decode cX4_within 22 = .ok (.aload_n 0, 1) := by decide +kernel
theorem dX4_within_23 : decode cX4_within 23 = .ok (.getfield 28, 3) := by decide +kernel
theorem dX4_within_26 : decode cX4_within 26 = .ok (.iload_n 1, 1) := by decide +kernel
theorem dX4_within_27 : decode cX4_within 27 = .ok (.iconst 0, 1) := by decide +kernel
theorem dX4_within_28 : decode cX4_within 28 = .ok (.invokevirtual 81, 3) := by decide +kernel
theorem dX4_within_31 : decode cX4_within 31 = .ok (.iconst 1, 1) := by decide +kernel
theorem dX4_within_32 : decode cX4_within 32 = .ok (.aload_n 0, 1) := by decide +kernel
theorem dX4_within_33 : decode cX4_within 33 = .ok (.getfield 28, 3) := by decide +kernel
theorem dX4_within_36 : decode cX4_within 36 = .ok (.lload_n 2, 1) := by decide +kernel
theorem dX4_within_37 : decode cX4_within 37 = .ok (.invokevirtual 97, 3) := by decide +kernel
theorem dX4_within_40 : decode cX4_within 40 = .ok (.iadd, 1) := by decide +kernel
theorem dX4_within_41 : decode cX4_within 41 = .ok (.ireturn, 1) := by decide +kernel
theorem dX4_append_0 : decode cX4_append 0 = .ok (.aload_n 0, 1) := by decide +kernel
theorem dX4_append_1 : decode cX4_append 1 = .ok (.getfield 36, 3) := by decide +kernel
theorem dX4_append_4 : decode cX4_append 4 = .ok (.aload_n 0, 1) := by decide +kernel
theorem dX4_append_5 : decode cX4_append 5 = .ok (.getfield 32, 3) := by decide +kernel
theorem dX4_append_8 : decode cX4_append 8 = .ok (.arraylength, 1) := by decide +kernel
theorem dX4_append_9 : decode cX4_append 9 = .ok (.if_icmp .ge 23, 3) := by decide +kernel
theorem dX4_append_12 : decode cX4_append 12 = .ok (.aload_n 0, 1) := by decide +kernel
theorem dX4_append_13 : decode cX4_append 13 = .ok (.getfield 32, 3) := by decide +kernel
theorem dX4_append_16 : decode cX4_append 16 = .ok (.aload_n 0, 1) := by decide +kernel
theorem dX4_append_17 : decode cX4_append 17 = .ok (.getfield 36, 3) := by decide +kernel
theorem dX4_append_20 : decode cX4_append 20 = .ok (.iload_n 1, 1) := by decide +kernel
theorem dX4_append_21 : decode cX4_append 21 = .ok (.iastore, 1) := by decide +kernel
theorem dX4_append_22 : decode cX4_append 22 = .ok (.aload_n 0, 1) := by decide +kernel
theorem dX4_append_23 : decode cX4_append 23 = .ok (.dup, 1) := by decide +kernel
theorem dX4_append_24 : decode cX4_append 24 = .ok (.getfield 36, 3) := by decide +kernel
theorem dX4_append_27 : decode cX4_append 27 = .ok (.iconst 1, 1) := by decide +kernel
theorem dX4_append_28 : decode cX4_append 28 = .ok (.iadd, 1) := by decide +kernel
theorem dX4_append_29 : decode cX4_append 29 = .ok (.putfield 36, 3) := by decide +kernel
theorem dX4_append_32 : decode cX4_append 32 = .ok (.return_, 1) := by decide +kernel
set_option maxRecDepth 20000 in
theorem ggX4_layWay_X4_append : GoodIn wsX4_layWay wsX4_append := goodIn_r _ [7, 8, 9, 68, 69, 70, 71, 72] (by decide +kernel) (by decide +kernel)
set_option maxRecDepth 20000 in
theorem gX4_layWay_X4_append : GoodIn wsX4_layWay (wsV RX4 78 RX4 yX4_append wsX4_append) := goodIn_app (goodIn_of _ (by decide +kernel)) ggX4_layWay_X4_append
set_option maxRecDepth 20000 in
theorem ggX4_layWay_X2_leastArcBackTo : GoodIn wsX4_layWay wsX2_leastArcBackTo := goodIn_r _ [14, 15, 16, 17, 18, 19, 20, 21, 22, 23, 24, 25, 26, 27, 28, 29, 30, 31, 32, 33, 34, 35, 36, 37, 38, 39, 40, 6, 41, 42, 43, 44, 13, 45, 46, 47, 48, 49, 50, 51, 52, 53, 54, 55, 56, 57, 73, 74, 75, 76, 77, 78, 79, 80, 81, 82, 83, 84, 85, 86] (by decide +kernel) (by decide +kernel)
set_option maxRecDepth 20000 in
theorem gX4_layWay_X2_leastArcBackTo : GoodIn wsX4_layWay (wsV RX4 101 RX2 yX2_leastArcBackTo wsX2_leastArcBackTo) := goodIn_app (goodIn_of _ (by decide +kernel)) ggX4_layWay_X2_leastArcBackTo
set_option maxRecDepth 20000 in
theorem ggX4_layWay_X1_weightOf : GoodIn wsX4_layWay wsX1_weightOf := goodIn_r _ [61, 62, 63, 80, 81, 82, 83, 84] (by decide +kernel) (by decide +kernel)
set_option maxRecDepth 20000 in
theorem gX4_layWay_X1_weightOf : GoodIn wsX4_layWay (wsV RX4 105 RX1 yX1_weightOf wsX1_weightOf) := goodIn_app (goodIn_of _ (by decide +kernel)) ggX4_layWay_X1_weightOf
set_option maxRecDepth 20000 in
theorem ggX4_layWay_X1_originOf : GoodIn wsX4_layWay wsX1_originOf := goodIn_r _ [67, 22, 80, 81, 82, 83, 84] (by decide +kernel) (by decide +kernel)
set_option maxRecDepth 20000 in
theorem gX4_layWay_X1_originOf : GoodIn wsX4_layWay (wsV RX4 108 RX1 yX1_originOf wsX1_originOf) := goodIn_app (goodIn_of _ (by decide +kernel)) ggX4_layWay_X1_originOf
theorem dX4_layWay_0 : decode cX4_layWay 0 = .ok (.iconst (-1), 1) := by decide +kernel
theorem dX4_layWay_1 : decode cX4_layWay 1 = .ok (.istore 4, 2) := by decide +kernel
theorem dX4_layWay_3 : decode cX4_layWay 3 = .ok (.iload_n 1, 1) := by decide +kernel
theorem dX4_layWay_4 : decode cX4_layWay 4 = .ok (.istore 5, 2) := by decide +kernel
theorem dX4_layWay_6 : decode cX4_layWay 6 = .ok (.lload_n 2, 1) := by decide +kernel
theorem dX4_layWay_7 : decode cX4_layWay 7 = .ok (.lstore 6, 2) := by decide +kernel
theorem dX4_layWay_9 : decode cX4_layWay 9 = .ok (.aload_n 0, 1) := by decide +kernel
theorem dX4_layWay_10 : decode cX4_layWay 10 = .ok (.iload 5, 2) := by decide +kernel
theorem dX4_layWay_12 : decode cX4_layWay 12 = .ok (.invokevirtual 78, 3) := by decide +kernel
theorem dX4_layWay_15 : decode cX4_layWay 15 = .ok (.iconst 0, 1) := by decide +kernel
theorem dX4_layWay_16 : decode cX4_layWay 16 = .ok (.istore 8, 2) := by decide +kernel
theorem dX4_layWay_18 : decode cX4_layWay 18 = .ok (.iload 8, 2) := by decide +kernel
theorem dX4_layWay_20 : decode cX4_layWay 20 = .ok (.sipush 4000, 3) := by decide +kernel
theorem dX4_layWay_23 : decode cX4_layWay 23 = .ok (.if_icmp .ge 73, 3) := by decide +kernel
theorem dX4_layWay_26 : decode cX4_layWay 26 = .ok (.lload 6, 2) := by decide +kernel
theorem dX4_layWay_28 : decode cX4_layWay 28 = .ok (.lconst 0, 1) := by decide +kernel
theorem dX4_layWay_29 : decode cX4_layWay 29 = .ok (.lcmp, 1) := by decide +kernel
theorem dX4_layWay_30 : decode cX4_layWay 30 = .ok (.ifCond .le 66, 3) := by decide +kernel
theorem dX4_layWay_33 : decode cX4_layWay 33 = .ok (.aload_n 0, 1) := by decide +kernel
theorem dX4_layWay_34 : decode cX4_layWay 34 = .ok (.getfield 28, 3) := by decide +kernel
theorem dX4_layWay_37 : decode cX4_layWay 37 = .ok (.iload 5, 2) := by decide +kernel
theorem dX4_layWay_39 : decode cX4_layWay 39 = .ok (.iload 4, 2) := by decide +kernel
theorem dX4_layWay_41 : decode cX4_layWay 41 = .ok (.lload 6, 2) := by decide +kernel
theorem dX4_layWay_43 : decode cX4_layWay 43 = .ok (.invokevirtual 101, 3) := by decide +kernel
theorem dX4_layWay_46 : decode cX4_layWay 46 = .ok (.istore 9, 2) := by decide +kernel
theorem dX4_layWay_48 : decode cX4_layWay 48 = .ok (.iload 9, 2) := by decide +kernel
theorem dX4_layWay_50 : decode cX4_layWay 50 = .ok (.iconst (-1), 1) := by decide +kernel
theorem dX4_layWay_51 : decode cX4_layWay 51 = .ok (.if_icmp .ne 4, 3) := by decide +kernel
theorem dX4_layWay_54 : decode cX4_layWay 54 = .ok (.return_, 1) := by decide +kernel
theorem dX4_layWay_55 : decode cX4_layWay 55 = .ok (.lload 6, 2) := by decide +kernel
theorem dX4_layWay_57 : decode cX4_layWay 57 = .ok (.aload_n 0, 1) := by decide +kernel
theorem dX4_layWay_58 : decode cX4_layWay 58 = .ok (.getfield 12, 3) := by decide +kernel
theorem dX4_layWay_61 : decode cX4_layWay 61 = .ok (.iload 9, 2) := by decide +kernel
theorem dX4_layWay_63 : decode cX4_layWay 63 = .ok (.invokevirtual 105, 3) := by decide +kernel
theorem dX4_layWay_66 : decode cX4_layWay 66 = .ok (.lsub, 1) := by decide +kernel
theorem dX4_layWay_67 : decode cX4_layWay 67 = .ok (.lstore 6, 2) := by decide +kernel
theorem dX4_layWay_69 : decode cX4_layWay 69 = .ok (.iload 5, 2) := by decide +kernel
theorem dX4_layWay_71 : decode cX4_layWay 71 = .ok (.istore 4, 2) := by decide +kernel
theorem dX4_layWay_73 : decode cX4_layWay 73 = .ok (.aload_n 0, 1) := by decide +kernel
theorem dX4_layWay_74 : decode cX4_layWay 74 = .ok (.getfield 12, 3) := by decide +kernel
theorem dX4_layWay_77 : decode cX4_layWay 77 = .ok (.iload 9, 2) := by decide +kernel
theorem dX4_layWay_79 : decode cX4_layWay 79 = .ok (.invokevirtual 108, 3) := by decide +kernel
theorem dX4_layWay_82 : decode cX4_layWay 82 = .ok (.istore 5, 2) := by decide +kernel
theorem dX4_layWay_84 : decode cX4_layWay 84 = .ok (.aload_n 0, 1) := by decide +kernel
theorem dX4_layWay_85 : decode cX4_layWay 85 = .ok (.iload 5, 2) := by decide +kernel
theorem dX4_layWay_87 : decode cX4_layWay 87 = .ok (.invokevirtual 78, 3) := by decide +kernel
theorem dX4_layWay_90 : decode cX4_layWay 90 = .ok (.iinc 8 1, 3) := by decide +kernel
theorem dX4_layWay_93 : decode cX4_layWay 93 = .ok (.goto (-75), 3) := by decide +kernel
theorem dX4_layWay_96 : decode cX4_layWay 96 = .ok (.return_, 1) := by decide +kernel
theorem dX4_placeIn_0 : decode cX4_placeIn 0 = .ok (.iload_n 1, 1) := by decide +kernel
theorem dX4_placeIn_1 : decode cX4_placeIn 1 = .ok (.istore 4, 2) := by decide +kernel
theorem dX4_placeIn_3 : decode cX4_placeIn 3 = .ok (.iload_n 2, 1) := by decide +kernel
theorem dX4_placeIn_4 : decode cX4_placeIn 4 = .ok (.istore 5, 2) := by decide +kernel
theorem dX4_placeIn_6 : decode cX4_placeIn 6 = .ok (.iload 4, 2) := by decide +kernel
theorem dX4_placeIn_8 : decode cX4_placeIn 8 = .ok (.iload 5, 2) := by decide +kernel
theorem dX4_placeIn_10 : decode cX4_placeIn 10 = .ok (.if_icmp .ge 39, 3) := by decide +kernel
theorem dX4_placeIn_13 : decode cX4_placeIn 13 = .ok (.iload 4, 2) := by decide +kernel
theorem dX4_placeIn_15 : decode cX4_placeIn 15 = .ok (.iload 5, 2) := by decide +kernel
theorem dX4_placeIn_17 : decode cX4_placeIn 17 = .ok (.iload 4, 2) := by decide +kernel
theorem dX4_placeIn_19 : decode cX4_placeIn 19 = .ok (.isub, 1) := by decide +kernel
theorem dX4_placeIn_20 : decode cX4_placeIn 20 = .ok (.iconst 2, 1) := by decide +kernel
theorem dX4_placeIn_21 : decode cX4_placeIn 21 = .ok (.idiv, 1) := by decide +kernel
theorem dX4_placeIn_22 : decode cX4_placeIn 22 = .ok (.iadd, 1) := by decide +kernel
theorem dX4_placeIn_23 : decode cX4_placeIn 23 = .ok (.istore 6, 2) := by decide +kernel
theorem dX4_placeIn_25 : decode cX4_placeIn 25 = .ok (.aload_n 0, 1) := by decide +kernel
theorem dX4_placeIn_26 : decode cX4_placeIn 26 = .ok (.iload 6, 2) := by decide +kernel
theorem dX4_placeIn_28 : decode cX4_placeIn 28 = .ok (.iaload, 1) := by decide +kernel
theorem dX4_placeIn_29 : decode cX4_placeIn 29 = .ok (.iload_n 3, 1) := by decide +kernel
theorem dX4_placeIn_30 : decode cX4_placeIn 30 = .ok (.if_icmp .ge 12, 3) := by decide +kernel
theorem dX4_placeIn_33 : decode cX4_placeIn 33 = .ok (.iload 6, 2) := by decide +kernel
theorem dX4_placeIn_35 : decode cX4_placeIn 35 = .ok (.iconst 1, 1) := by decide +kernel
theorem dX4_placeIn_36 : decode cX4_placeIn 36 = .ok (.iadd, 1) := by decide +kernel
theorem dX4_placeIn_37 : decode cX4_placeIn 37 = .ok (.istore 4, 2) := by decide +kernel
theorem dX4_placeIn_39 : decode cX4_placeIn 39 = .ok (.goto 7, 3) := by decide +kernel
theorem dX4_placeIn_42 : decode cX4_placeIn 42 = .ok (.iload 6, 2) := by decide +kernel
theorem dX4_placeIn_44 : decode cX4_placeIn 44 = .ok (.istore 5, 2) := by decide +kernel
theorem dX4_placeIn_46 : decode cX4_placeIn 46 = .ok (.goto (-40), 3) := by decide +kernel
theorem dX4_placeIn_49 : decode cX4_placeIn 49 = .ok (.iload 4, 2) := by decide +kernel
theorem dX4_placeIn_51 : decode cX4_placeIn 51 = .ok (.ireturn, 1) := by decide +kernel
theorem dX4_insert_0 : decode cX4_insert 0 = .ok (.iload_n 2, 1) := by decide +kernel
theorem dX4_insert_1 : decode cX4_insert 1 = .ok (.ifCond .lt 14, 3) := by decide +kernel
theorem dX4_insert_4 : decode cX4_insert 4 = .ok (.iload_n 2, 1) := by decide +kernel
theorem dX4_insert_5 : decode cX4_insert 5 = .ok (.iload_n 1, 1) := by decide +kernel
theorem dX4_insert_6 : decode cX4_insert 6 = .ok (.if_icmp .gt 9, 3) := by decide +kernel
theorem dX4_insert_9 : decode cX4_insert 9 = .ok (.iload_n 1, 1) := by decide +kernel
theorem dX4_insert_10 : decode cX4_insert 10 = .ok (.aload_n 0, 1) := by decide +kernel
theorem dX4_insert_11 : decode cX4_insert 11 = .ok (.arraylength, 1) := by decide +kernel
theorem dX4_insert_12 : decode cX4_insert 12 = .ok (.if_icmp .lt 4, 3) := by decide +kernel
theorem dX4_insert_15 : decode cX4_insert 15 = .ok (.return_, 1) := by decide +kernel
theorem dX4_insert_16 : decode cX4_insert 16 = .ok (.aload_n 0, 1) := by decide +kernel
theorem dX4_insert_17 : decode cX4_insert 17 = .ok (.iload_n 2, 1) := by decide +kernel
theorem dX4_insert_18 : decode cX4_insert 18 = .ok (.aload_n 0, 1) := by decide +kernel
theorem dX4_insert_19 : decode cX4_insert 19 = .ok (.iload_n 2, 1) := by decide +kernel
theorem dX4_insert_20 : decode cX4_insert 20 = .ok (.iconst 1, 1) := by decide +kernel
theorem dX4_insert_21 : decode cX4_insert 21 = .ok (.iadd, 1) := by decide +kernel
theorem dX4_insert_22 : decode cX4_insert 22 = .ok (.iload_n 1, 1) := by decide +kernel
theorem dX4_insert_23 : decode cX4_insert 23 = .ok (.iload_n 2, 1) := by decide +kernel
theorem dX4_insert_24 : decode cX4_insert 24 = .ok (.isub, 1) := by decide +kernel
theorem dX4_insert_25 : decode cX4_insert 25 = .ok (.invokestatic 112, 3) := by decide +kernel
theorem dX4_insert_28 : decode cX4_insert 28 = .ok (.aload_n 0, 1) := by decide +kernel
theorem dX4_insert_29 : decode cX4_insert 29 = .ok (.iload_n 2, 1) := by decide +kernel
theorem dX4_insert_30 : decode cX4_insert 30 = .ok (.iload_n 3, 1) := by decide +kernel
theorem dX4_insert_31 : decode cX4_insert 31 = .ok (.iastore, 1) := by decide +kernel
theorem dX4_insert_32 : decode cX4_insert 32 = .ok (.return_, 1) := by decide +kernel
theorem dX5_init_0 : decode cX5_init 0 = .ok (.aload_n 0, 1) := by decide +kernel
theorem dX5_init_1 : decode cX5_init 1 = .ok (.invokespecial 1, 3) := by decide +kernel
theorem dX5_init_4 : decode cX5_init 4 = .ok (.aload_n 0, 1) := by decide +kernel
theorem dX5_init_5 : decode cX5_init 5 = .ok (.iconst 1, 1) := by decide +kernel
theorem dX5_init_6 : decode cX5_init 6 = .ok (.putfield 7, 3) := by decide +kernel
theorem dX5_init_9 : decode cX5_init 9 = .ok (.aload_n 0, 1) := by decide +kernel
theorem dX5_init_10 : decode cX5_init 10 = .ok (.sipush 2000, 3) := by decide +kernel
theorem dX5_init_13 : decode cX5_init 13 = .ok (.newarray .int, 2) := by decide +kernel
theorem dX5_init_15 : decode cX5_init 15 = .ok (.putfield 13, 3) := by decide +kernel
theorem dX5_init_18 : decode cX5_init 18 = .ok (.aload_n 0, 1) := by decide +kernel
theorem dX5_init_19 : decode cX5_init 19 = .ok (.sipush 2000, 3) := by decide +kernel
theorem dX5_init_22 : decode cX5_init 22 = .ok (.newarray .int, 2) := by decide +kernel
theorem dX5_init_24 : decode cX5_init 24 = .ok (.putfield 17, 3) := by decide +kernel
theorem dX5_init_27 : decode cX5_init 27 = .ok (.aload_n 0, 1) := by decide +kernel
theorem dX5_init_28 : decode cX5_init 28 = .ok (.sipush 2000, 3) := by decide +kernel
theorem dX5_init_31 : decode cX5_init 31 = .ok (.newarray .int, 2) := by decide +kernel
theorem dX5_init_33 : decode cX5_init 33 = .ok (.putfield 20, 3) := by decide +kernel
theorem dX5_init_36 : decode cX5_init 36 = .ok (.aload_n 0, 1) := by decide +kernel
theorem dX5_init_37 : decode cX5_init 37 = .ok (.sipush 2000, 3) := by decide +kernel
theorem dX5_init_40 : decode cX5_init 40 = .ok (.newarray .boolean, 2) := by decide +kernel
theorem dX5_init_42 : decode cX5_init 42 = .ok (.putfield 23, 3) := by decide +kernel
theorem dX5_init_45 : decode cX5_init 45 = .ok (.aload_n 0, 1) := by decide +kernel
theorem dX5_init_46 : decode cX5_init 46 = .ok (.sipush 600, 3) := by decide +kernel
theorem dX5_init_49 : decode cX5_init 49 = .ok (.newarray .int, 2) := by decide +kernel
theorem dX5_init_51 : decode cX5_init 51 = .ok (.putfield 27, 3) := by decide +kernel
theorem dX5_init_54 : decode cX5_init 54 = .ok (.aload_n 0, 1) := by decide +kernel
theorem dX5_init_55 : decode cX5_init 55 = .ok (.sipush 4000, 3) := by decide +kernel
theorem dX5_init_58 : decode cX5_init 58 = .ok (.newarray .long, 2) := by decide +kernel
theorem dX5_init_60 : decode cX5_init 60 = .ok (.putfield 30, 3) := by decide +kernel
theorem dX5_init_63 : decode cX5_init 63 = .ok (.aload_n 0, 1) := by decide +kernel
theorem dX5_init_64 : decode cX5_init 64 = .ok (.sipush 4000, 3) := by decide +kernel
theorem dX5_init_67 : decode cX5_init 67 = .ok (.newarray .int, 2) := by decide +kernel
theorem dX5_init_69 : decode cX5_init 69 = .ok (.putfield 34, 3) := by decide +kernel
theorem dX5_init_72 : decode cX5_init 72 = .ok (.aload_n 0, 1) := by decide +kernel
theorem dX5_init_73 : decode cX5_init 73 = .ok (.sipush 4000, 3) := by decide +kernel
theorem dX5_init_76 : decode cX5_init 76 = .ok (.newarray .boolean, 2) := by decide +kernel
theorem dX5_init_78 : decode cX5_init 78 = .ok (.putfield 37, 3) := by decide +kernel
theorem dX5_init_81 : decode cX5_init 81 = .ok (.aload_n 0, 1) := by decide +kernel
theorem dX5_init_82 : decode cX5_init 82 = .ok (.sipush 300, 3) := by decide +kernel
theorem dX5_init_85 : decode cX5_init 85 = .ok (.newarray .int, 2) := by decide +kernel
theorem dX5_init_87 : decode cX5_init 87 = .ok (.putfield 40, 3) := by decide +kernel
theorem dX5_init_90 : decode cX5_init 90 = .ok (.aload_n 0, 1) := by decide +kernel
theorem dX5_init_91 : decode cX5_init 91 = .ok (.sipush 4000, 3) := by decide +kernel
theorem dX5_init_94 : decode cX5_init 94 = .ok (.newarray .int, 2) := by decide +kernel
theorem dX5_init_96 : decode cX5_init 96 = .ok (.putfield 43, 3) := by decide +kernel
theorem dX5_init_99 : decode cX5_init 99 = .ok (.aload_n 0, 1) := by decide +kernel
theorem dX5_init_100 : decode cX5_init 100 = .ok (.sipush 4000, 3) := by decide +kernel
theorem dX5_init_103 : decode cX5_init 103 = .ok (.newarray .int, 2) := by decide +kernel
theorem dX5_init_105 : decode cX5_init 105 = .ok (.putfield 46, 3) := by decide +kernel
theorem dX5_init_108 : decode cX5_init 108 = .ok (.aload_n 0, 1) := by decide +kernel
theorem dX5_init_109 : decode cX5_init 109 = .ok (.sipush 4001, 3) := by decide +kernel
theorem dX5_init_112 : decode cX5_init 112 = .ok (.newarray .int, 2) := by decide +kernel
theorem dX5_init_114 : decode cX5_init 114 = .ok (.putfield 49, 3) := by decide +kernel
theorem dX5_init_117 : decode cX5_init 117 = .ok (.return_, 1) := by decide +kernel
theorem dX5_size_0 : decode cX5_size 0 = .ok (.iload_n 1, 1) := by decide +kernel
theorem dX5_size_1 : decode cX5_size 1 = .ok (.iconst 1, 1) := by decide +kernel
theorem dX5_size_2 : decode cX5_size 2 = .ok (.if_icmp .lt 10, 3) := by decide +kernel
theorem dX5_size_5 : decode cX5_size 5 = .ok (.iload_n 1, 1) := by decide +kernel
theorem dX5_size_6 : decode cX5_size 6 = .ok (.sipush 300, 3) := by decide +kernel
theorem dX5_size_9 : decode cX5_size 9 = .ok (.if_icmp .le 5, 3) := by decide +kernel
theorem dX5_size_12 : decode cX5_size 12 = .ok (.iconst 0, 1) := by decide +kernel
theorem dX5_size_13 : decode cX5_size 13 = .ok (.ireturn, 1) := by decide +kernel
theorem dX5_size_14 : decode cX5_size 14 = .ok (.aload_n 0, 1) := by decide +kernel
theorem dX5_size_15 : decode cX5_size 15 = .ok (.iload_n 1, 1) := by decide +kernel
theorem dX5_size_16 : decode cX5_size 16 = .ok (.putfield 7, 3) := by decide +kernel
theorem dX5_size_19 : decode cX5_size 19 = .ok (.aload_n 0, 1) := by decide +kernel
theorem dX5_size_20 : decode cX5_size 20 = .ok (.iconst 0, 1) := by decide +kernel
theorem dX5_size_21 : decode cX5_size 21 = .ok (.putfield 52, 3) := by decide +kernel
theorem dX5_size_24 : decode cX5_size 24 = .ok (.aload_n 0, 1) := by decide +kernel
theorem dX5_size_25 : decode cX5_size 25 = .ok (.iconst 0, 1) := by decide +kernel
theorem dX5_size_26 : decode cX5_size 26 = .ok (.putfield 55, 3) := by decide +kernel
theorem dX5_size_29 : decode cX5_size 29 = .ok (.aload_n 0, 1) := by decide +kernel
theorem dX5_size_30 : decode cX5_size 30 = .ok (.iconst 0, 1) := by decide +kernel
theorem dX5_size_31 : decode cX5_size 31 = .ok (.putfield 58, 3) := by decide +kernel
theorem dX5_size_34 : decode cX5_size 34 = .ok (.iconst 1, 1) := by decide +kernel
theorem dX5_size_35 : decode cX5_size 35 = .ok (.ireturn, 1) := by decide +kernel
theorem dX5_isNode_0 : decode cX5_isNode 0 = .ok (.iload_n 1, 1) := by decide +kernel
theorem dX5_isNode_1 : decode cX5_isNode 1 = .ok (.ifCond .lt 15, 3) := by decide +kernel
theorem dX5_isNode_4 : decode cX5_isNode 4 = .ok (.iload_n 1, 1) := by decide +kernel
theorem dX5_isNode_5 : decode cX5_isNode 5 = .ok (.aload_n 0, 1) := by decide +kernel
theorem dX5_isNode_6 : decode cX5_isNode 6 = .ok (.getfield 7, 3) := by decide +kernel
theorem dX5_isNode_9 : decode cX5_isNode 9 = .ok (.if_icmp .ge 7, 3) := by decide +kernel
theorem dX5_isNode_12 : decode cX5_isNode 12 = .ok (.iconst 1, 1) := by decide +kernel
theorem dX5_isNode_13 : decode cX5_isNode 13 = .ok (.goto 4, 3) := by decide +kernel
theorem dX5_isNode_16 : decode cX5_isNode 16 = .ok (.iconst 0, 1) := by decide +kernel
theorem dX5_isNode_17 : decode cX5_isNode 17 = .ok (.ireturn, 1) := by decide +kernel
theorem dX5_isBefore_0 : decode cX5_isBefore 0 = .ok (.aload_n 0, 1) := by decide +kernel
theorem dX5_isBefore_1 : decode cX5_isBefore 1 = .ok (.getfield 13, 3) := by decide +kernel
theorem dX5_isBefore_4 : decode cX5_isBefore 4 = .ok (.iload_n 1, 1) := by decide +kernel
theorem dX5_isBefore_5 : decode cX5_isBefore 5 = .ok (.iaload, 1) := by decide +kernel
theorem dX5_isBefore_6 : decode cX5_isBefore 6 = .ok (.iload_n 2, 1) := by decide +kernel
