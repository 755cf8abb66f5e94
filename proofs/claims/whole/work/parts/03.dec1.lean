theorem dX2_weightOfFirstArrival_16 : decode cX2_weightOfFirstArrival 16 = .ok (.istore_n 3, 1) := by decide +kernel
theorem dX2_weightOfFirstArrival_17 : decode cX2_weightOfFirstArrival 17 = .ok (.iload_n 3, 1) := by decide +kernel
theorem dX2_weightOfFirstArrival_18 : decode cX2_weightOfFirstArrival 18 = .ok (.iconst (-1), 1) := by decide +kernel
theorem dX2_weightOfFirstArrival_19 : decode cX2_weightOfFirstArrival 19 = .ok (.if_icmp .ne 5, 3) := by decide +kernel
theorem dX2_weightOfFirstArrival_22 : decode cX2_weightOfFirstArrival 22 = .ok (.lconst 0, 1) := by decide +kernel
theorem dX2_weightOfFirstArrival_23 : decode cX2_weightOfFirstArrival 23 = .ok (.lreturn, 1) := by decide +kernel
theorem dX2_weightOfFirstArrival_24 : decode cX2_weightOfFirstArrival 24 = .ok (.aload_n 0, 1) := by decide +kernel
theorem dX2_weightOfFirstArrival_25 : decode cX2_weightOfFirstArrival 25 = .ok (.getfield 9, 3) := by decide +kernel
theorem dX2_weightOfFirstArrival_28 : decode cX2_weightOfFirstArrival 28 = .ok (.iload_n 3, 1) := by decide +kernel
theorem dX2_weightOfFirstArrival_29 : decode cX2_weightOfFirstArrival 29 = .ok (.invokevirtual 63, 3) := by decide +kernel
theorem dX2_weightOfFirstArrival_32 : decode cX2_weightOfFirstArrival 32 = .ok (.iload_n 1, 1) := by decide +kernel
theorem dX2_weightOfFirstArrival_33 : decode cX2_weightOfFirstArrival 33 = .ok (.if_icmp .ne 10, 3) := by decide +kernel
theorem dX2_weightOfFirstArrival_36 : decode cX2_weightOfFirstArrival 36 = .ok (.aload_n 0, 1) := by decide +kernel
theorem dX2_weightOfFirstArrival_37 : decode cX2_weightOfFirstArrival 37 = .ok (.getfield 19, 3) := by decide +kernel
theorem dX2_weightOfFirstArrival_40 : decode cX2_weightOfFirstArrival 40 = .ok (.iload_n 3, 1) := by decide +kernel
theorem dX2_weightOfFirstArrival_41 : decode cX2_weightOfFirstArrival 41 = .ok (.laload, 1) := by decide +kernel
theorem dX2_weightOfFirstArrival_42 : decode cX2_weightOfFirstArrival 42 = .ok (.lreturn, 1) := by decide +kernel
theorem dX2_weightOfFirstArrival_43 : decode cX2_weightOfFirstArrival 43 = .ok (.aload_n 0, 1) := by decide +kernel
theorem dX2_weightOfFirstArrival_44 : decode cX2_weightOfFirstArrival 44 = .ok (.aload_n 0, 1) := by decide +kernel
theorem dX2_weightOfFirstArrival_45 : decode cX2_weightOfFirstArrival 45 = .ok (.getfield 9, 3) := by decide +kernel
theorem dX2_weightOfFirstArrival_48 : decode cX2_weightOfFirstArrival 48 = .ok (.iload_n 3, 1) := by decide +kernel
theorem dX2_weightOfFirstArrival_49 : decode cX2_weightOfFirstArrival 49 = .ok (.invokevirtual 63, 3) := by decide +kernel
theorem dX2_weightOfFirstArrival_52 : decode cX2_weightOfFirstArrival 52 = .ok (.aload_n 0, 1) := by decide +kernel
theorem dX2_weightOfFirstArrival_53 : decode cX2_weightOfFirstArrival 53 = .ok (.getfield 9, 3) := by decide +kernel
theorem dX2_weightOfFirstArrival_56 : decode cX2_weightOfFirstArrival 56 = .ok (.iload_n 3, 1) := by decide +kernel
theorem dX2_weightOfFirstArrival_57 : decode cX2_weightOfFirstArrival 57 = .ok (.invokevirtual 67, 3) := by decide +kernel
theorem dX2_weightOfFirstArrival_60 : decode cX2_weightOfFirstArrival 60 = .ok (.aload_n 0, 1) := by decide +kernel
theorem dX2_weightOfFirstArrival_61 : decode cX2_weightOfFirstArrival 61 = .ok (.getfield 19, 3) := by decide +kernel
theorem dX2_weightOfFirstArrival_64 : decode cX2_weightOfFirstArrival 64 = .ok (.iload_n 3, 1) := by decide +kernel
theorem dX2_weightOfFirstArrival_65 : decode cX2_weightOfFirstArrival 65 = .ok (.laload, 1) := by decide +kernel
theorem dX2_weightOfFirstArrival_66 : decode cX2_weightOfFirstArrival 66 = .ok (.invokevirtual 55, 3) := by decide +kernel
theorem dX2_weightOfFirstArrival_69 : decode cX2_weightOfFirstArrival 69 = .ok (.iinc 2 1, 3) := by decide +kernel
theorem dX2_weightOfFirstArrival_72 : decode cX2_weightOfFirstArrival 72 = .ok (.goto (-70), 3) := by decide +kernel
theorem dX2_weightOfFirstArrival_75 : decode cX2_weightOfFirstArrival 75 = .ok (.lconst 0, 1) := by decide +kernel
theorem dX2_weightOfFirstArrival_76 : decode cX2_weightOfFirstArrival 76 = .ok (.lreturn, 1) := by decide +kernel
set_option maxRecDepth 20000 in
theorem ggX2_countOtherNodes_X0_take : GoodIn wsX2_countOtherNodes wsX0_take := goodIn_r _ [10, 11, 12, 13, 74, 75, 76] (by decide +kernel) (by decide +kernel)
set_option maxRecDepth 20000 in
theorem gX2_countOtherNodes_X0_take : GoodIn wsX2_countOtherNodes (wsV RX2 59 RX0 yX0_take wsX0_take) := goodIn_app (goodIn_of _ (by decide +kernel)) ggX2_countOtherNodes_X0_take
set_option maxRecDepth 20000 in
theorem ggX2_countOtherNodes_X1_targetOf : GoodIn wsX2_countOtherNodes wsX1_targetOf := goodIn_r _ [18, 19, 77, 78, 79, 80, 81] (by decide +kernel) (by decide +kernel)
set_option maxRecDepth 20000 in
theorem gX2_countOtherNodes_X1_targetOf : GoodIn wsX2_countOtherNodes (wsV RX2 63 RX1 yX1_targetOf wsX1_targetOf) := goodIn_app (goodIn_of _ (by decide +kernel)) ggX2_countOtherNodes_X1_targetOf
set_option maxRecDepth 20000 in
theorem ggX2_countOtherNodes_X1_originOf : GoodIn wsX2_countOtherNodes wsX1_originOf := goodIn_r _ [23, 19, 77, 78, 79, 80, 81] (by decide +kernel) (by decide +kernel)
set_option maxRecDepth 20000 in
theorem gX2_countOtherNodes_X1_originOf : GoodIn wsX2_countOtherNodes (wsV RX2 67 RX1 yX1_originOf wsX1_originOf) := goodIn_app (goodIn_of _ (by decide +kernel)) ggX2_countOtherNodes_X1_originOf
set_option maxRecDepth 20000 in
theorem ggX2_countOtherNodes_X2_spread : GoodIn wsX2_countOtherNodes wsX2_spread := goodIn_r _ [28, 4, 5, 29, 2, 1, 30, 31, 32, 27, 33, 34, 35, 36, 17, 37, 38, 14, 15, 16, 18, 19, 39, 40, 41, 42, 43, 44, 45, 46, 47, 48, 49, 50, 51, 52, 53, 54, 55, 56, 57, 58, 59, 60, 61, 62, 63, 64, 65, 9, 66, 11, 12, 13, 67, 68, 69, 70, 71, 72, 73, 77, 78, 79, 80, 81, 82, 83, 74, 75, 76] (by decide +kernel) (by decide +kernel)
set_option maxRecDepth 20000 in
theorem gX2_countOtherNodes_X2_spread : GoodIn wsX2_countOtherNodes (wsV RX2 55 RX2 yX2_spread wsX2_spread) := goodIn_app (goodIn_of _ (by decide +kernel)) ggX2_countOtherNodes_X2_spread
theorem dX2_countOtherNodes_0 : decode cX2_countOtherNodes 0 = .ok (.iconst 0, 1) := by decide +kernel
theorem dX2_countOtherNodes_1 : decode cX2_countOtherNodes 1 = .ok (.istore_n 3, 1) := by decide +kernel
theorem dX2_countOtherNodes_2 : decode cX2_countOtherNodes 2 = .ok (.iconst 0, 1) := by decide +kernel
theorem dX2_countOtherNodes_3 : decode cX2_countOtherNodes 3 = .ok (.istore 4, 2) := by decide +kernel
theorem dX2_countOtherNodes_5 : decode cX2_countOtherNodes 5 = .ok (.iload 4, 2) := by decide +kernel
theorem dX2_countOtherNodes_7 : decode cX2_countOtherNodes 7 = .ok (.sipush 4000, 3) := by decide +kernel
theorem dX2_countOtherNodes_10 : decode cX2_countOtherNodes 10 = .ok (.if_icmp .ge 92, 3) := by decide +kernel
theorem dX2_countOtherNodes_13 : decode cX2_countOtherNodes 13 = .ok (.aload_n 0, 1) := by decide +kernel
theorem dX2_countOtherNodes_14 : decode cX2_countOtherNodes 14 = .ok (.getfield 28, 3) := by decide +kernel
theorem dX2_countOtherNodes_17 : decode cX2_countOtherNodes 17 = .ok (.invokevirtual 59, 3) := by decide +kernel
theorem dX2_countOtherNodes_20 : decode cX2_countOtherNodes 20 = .ok (.istore 5, 2) := by decide +kernel
theorem dX2_countOtherNodes_22 : decode cX2_countOtherNodes 22 = .ok (.iload 5, 2) := by decide +kernel
theorem dX2_countOtherNodes_24 : decode cX2_countOtherNodes 24 = .ok (.iconst (-1), 1) := by decide +kernel
theorem dX2_countOtherNodes_25 : decode cX2_countOtherNodes 25 = .ok (.if_icmp .eq 19, 3) := by decide +kernel
theorem dX2_countOtherNodes_28 : decode cX2_countOtherNodes 28 = .ok (.aload_n 0, 1) := by decide +kernel
theorem dX2_countOtherNodes_29 : decode cX2_countOtherNodes 29 = .ok (.getfield 19, 3) := by decide +kernel
theorem dX2_countOtherNodes_32 : decode cX2_countOtherNodes 32 = .ok (.iload 5, 2) := by decide +kernel
theorem dX2_countOtherNodes_34 : decode cX2_countOtherNodes 34 = .ok (.laload, 1) := by decide +kernel
theorem dX2_countOtherNodes_35 : decode cX2_countOtherNodes 35 = .ok (.ldc2_w 70, 3) := by decide +kernel
theorem dX2_countOtherNodes_38 : decode cX2_countOtherNodes 38 = .ok (.ldiv, 1) := by decide +kernel
theorem dX2_countOtherNodes_39 : decode cX2_countOtherNodes 39 = .ok (.lload_n 1, 1) := by decide +kernel
theorem dX2_countOtherNodes_40 : decode cX2_countOtherNodes 40 = .ok (.lcmp, 1) := by decide +kernel
theorem dX2_countOtherNodes_41 : decode cX2_countOtherNodes 41 = .ok (.ifCond .le 5, 3) := by decide +kernel
theorem dX2_countOtherNodes_44 : decode cX2_countOtherNodes 44 = .ok (.iload_n 3, 1) := by decide +kernel
theorem dX2_countOtherNodes_45 : decode cX2_countOtherNodes 45 = .ok (.ireturn, 1) := by decide +kernel
theorem dX2_countOtherNodes_46 : decode cX2_countOtherNodes 46 = .ok (.aload_n 0, 1) := by decide +kernel
theorem dX2_countOtherNodes_47 : decode cX2_countOtherNodes 47 = .ok (.getfield 36, 3) := by decide +kernel
theorem dX2_countOtherNodes_50 : decode cX2_countOtherNodes 50 = .ok (.aload_n 0, 1) := by decide +kernel
theorem dX2_countOtherNodes_51 : decode cX2_countOtherNodes 51 = .ok (.getfield 9, 3) := by decide +kernel
theorem dX2_countOtherNodes_54 : decode cX2_countOtherNodes 54 = .ok (.iload 5, 2) := by decide +kernel
theorem dX2_countOtherNodes_56 : decode cX2_countOtherNodes 56 = .ok (.invokevirtual 63, 3) := by decide +kernel
theorem dX2_countOtherNodes_59 : decode cX2_countOtherNodes 59 = .ok (.iaload, 1) := by decide +kernel
theorem dX2_countOtherNodes_60 : decode cX2_countOtherNodes 60 = .ok (.iconst (-1), 1) := by decide +kernel
theorem dX2_countOtherNodes_61 : decode cX2_countOtherNodes 61 = .ok (.if_icmp .ne 6, 3) := by decide +kernel
theorem dX2_countOtherNodes_64 : decode cX2_countOtherNodes 64 = .ok (.iinc 3 1, 3) := by decide +kernel
theorem dX2_countOtherNodes_67 : decode cX2_countOtherNodes 67 = .ok (.aload_n 0, 1) := by decide +kernel
theorem dX2_countOtherNodes_68 : decode cX2_countOtherNodes 68 = .ok (.aload_n 0, 1) := by decide +kernel
theorem dX2_countOtherNodes_69 : decode cX2_countOtherNodes 69 = .ok (.getfield 9, 3) := by decide +kernel
theorem dX2_countOtherNodes_72 : decode cX2_countOtherNodes 72 = .ok (.iload 5, 2) := by decide +kernel
theorem dX2_countOtherNodes_74 : decode cX2_countOtherNodes 74 = .ok (.invokevirtual 63, 3) := by decide +kernel
theorem dX2_countOtherNodes_77 : decode cX2_countOtherNodes 77 = .ok (.aload_n 0, 1) := by decide +kernel
theorem dX2_countOtherNodes_78 : decode cX2_countOtherNodes 78 = .ok (.getfield 9, 3) := by decide +kernel
theorem dX2_countOtherNodes_81 : decode cX2_countOtherNodes 81 = .ok (.iload 5, 2) := by decide +kernel
theorem dX2_countOtherNodes_83 : decode cX2_countOtherNodes 83 = .ok (.invokevirtual 67, 3) := by decide +kernel
theorem dX2_countOtherNodes_86 : decode cX2_countOtherNodes 86 = .ok (.aload_n 0, 1) := by decide +kernel
theorem dX2_countOtherNodes_87 : decode cX2_countOtherNodes 87 = .ok (.getfield 19, 3) := by decide +kernel
theorem dX2_countOtherNodes_90 : decode cX2_countOtherNodes 90 = .ok (.iload 5, 2) := by decide +kernel
theorem dX2_countOtherNodes_92 : decode cX2_countOtherNodes 92 = .ok (.laload, 1) := by decide +kernel
theorem dX2_countOtherNodes_93 : decode cX2_countOtherNodes 93 = .ok (.invokevirtual 55, 3) := by decide +kernel
theorem dX2_countOtherNodes_96 : decode cX2_countOtherNodes 96 = .ok (.iinc 4 1, 3) := by decide +kernel
theorem dX2_countOtherNodes_99 : decode cX2_countOtherNodes 99 = .ok (.goto (-94), 3) := by decide +kernel
theorem dX2_countOtherNodes_102 : decode cX2_countOtherNodes 102 = .ok (.iload_n 3, 1) := by decide +kernel
theorem dX2_countOtherNodes_103 : decode cX2_countOtherNodes 103 = .ok (.ireturn, 1) := by decide +kernel
set_option maxRecDepth 20000 in
theorem ggX2_leastArcBackTo_X1_targetOf : GoodIn wsX2_leastArcBackTo wsX1_targetOf := goodIn_r _ [7, 8, 53, 54, 55, 56, 57] (by decide +kernel) (by decide +kernel)
set_option maxRecDepth 20000 in
theorem gX2_leastArcBackTo_X1_targetOf : GoodIn wsX2_leastArcBackTo (wsV RX2 63 RX1 yX1_targetOf wsX1_targetOf) := goodIn_app (goodIn_of _ (by decide +kernel)) ggX2_leastArcBackTo_X1_targetOf
set_option maxRecDepth 20000 in
theorem ggX2_leastArcBackTo_X1_find : GoodIn wsX2_leastArcBackTo wsX1_find := goodIn_r _ [12, 13, 8, 14, 15, 16, 6, 17, 18, 19, 20, 21, 22, 23, 24, 25, 26, 27, 28, 53, 54, 55, 56, 57] (by decide +kernel) (by decide +kernel)
set_option maxRecDepth 20000 in
theorem gX2_leastArcBackTo_X1_find : GoodIn wsX2_leastArcBackTo (wsV RX2 75 RX1 yX1_find wsX1_find) := goodIn_app (goodIn_of _ (by decide +kernel)) ggX2_leastArcBackTo_X1_find
set_option maxRecDepth 20000 in
theorem ggX2_leastArcBackTo_X2_mayTurn : GoodIn wsX2_leastArcBackTo wsX2_mayTurn := goodIn_r _ [33, 34, 35, 36, 37, 38, 39, 40, 41, 42, 43, 44, 45, 26, 27, 28, 46, 47, 48, 49, 50, 51, 52, 58, 59] (by decide +kernel) (by decide +kernel)
set_option maxRecDepth 20000 in
theorem gX2_leastArcBackTo_X2_mayTurn : GoodIn wsX2_leastArcBackTo (wsV RX2 79 RX2 yX2_mayTurn wsX2_mayTurn) := goodIn_app (goodIn_of _ (by decide +kernel)) ggX2_leastArcBackTo_X2_mayTurn
theorem dX2_leastArcBackTo_0 : decode cX2_leastArcBackTo 0 = .ok (.aload_n 0, 1) := by decide +kernel
theorem dX2_leastArcBackTo_1 : decode cX2_leastArcBackTo 1 = .ok (.getfield 9, 3) := by decide +kernel
theorem dX2_leastArcBackTo_4 : decode cX2_leastArcBackTo 4 = .ok (.getfield 72, 3) := by decide +kernel
theorem dX2_leastArcBackTo_7 : decode cX2_leastArcBackTo 7 = .ok (.iload_n 1, 1) := by decide +kernel
theorem dX2_leastArcBackTo_8 : decode cX2_leastArcBackTo 8 = .ok (.iaload, 1) := by decide +kernel
theorem dX2_leastArcBackTo_9 : decode cX2_leastArcBackTo 9 = .ok (.istore 5, 2) := by decide +kernel
theorem dX2_leastArcBackTo_11 : decode cX2_leastArcBackTo 11 = .ok (.iload 5, 2) := by decide +kernel
theorem dX2_leastArcBackTo_13 : decode cX2_leastArcBackTo 13 = .ok (.aload_n 0, 1) := by decide +kernel
theorem dX2_leastArcBackTo_14 : decode cX2_leastArcBackTo 14 = .ok (.getfield 9, 3) := by decide +kernel
theorem dX2_leastArcBackTo_17 : decode cX2_leastArcBackTo 17 = .ok (.getfield 72, 3) := by decide +kernel
theorem dX2_leastArcBackTo_20 : decode cX2_leastArcBackTo 20 = .ok (.iload_n 1, 1) := by decide +kernel
theorem dX2_leastArcBackTo_21 : decode cX2_leastArcBackTo 21 = .ok (.iconst 1, 1) := by decide +kernel
theorem dX2_leastArcBackTo_22 : decode cX2_leastArcBackTo 22 = .ok (.iadd, 1) := by decide +kernel
theorem dX2_leastArcBackTo_23 : decode cX2_leastArcBackTo 23 = .ok (.iaload, 1) := by decide +kernel
theorem dX2_leastArcBackTo_24 : decode cX2_leastArcBackTo 24 = .ok (.if_icmp .ge 64, 3) := by decide +kernel
theorem dX2_leastArcBackTo_27 : decode cX2_leastArcBackTo 27 = .ok (.aload_n 0, 1) := by decide +kernel
theorem dX2_leastArcBackTo_28 : decode cX2_leastArcBackTo 28 = .ok (.getfield 9, 3) := by decide +kernel
theorem dX2_leastArcBackTo_31 : decode cX2_leastArcBackTo 31 = .ok (.iload 5, 2) := by decide +kernel
theorem dX2_leastArcBackTo_33 : decode cX2_leastArcBackTo 33 = .ok (.invokevirtual 63, 3) := by decide +kernel
theorem dX2_leastArcBackTo_36 : decode cX2_leastArcBackTo 36 = .ok (.istore 6, 2) := by decide +kernel
theorem dX2_leastArcBackTo_38 : decode cX2_leastArcBackTo 38 = .ok (.aload_n 0, 1) := by decide +kernel
theorem dX2_leastArcBackTo_39 : decode cX2_leastArcBackTo 39 = .ok (.getfield 9, 3) := by decide +kernel
theorem dX2_leastArcBackTo_42 : decode cX2_leastArcBackTo 42 = .ok (.iload 6, 2) := by decide +kernel
theorem dX2_leastArcBackTo_44 : decode cX2_leastArcBackTo 44 = .ok (.iload_n 1, 1) := by decide +kernel
theorem dX2_leastArcBackTo_45 : decode cX2_leastArcBackTo 45 = .ok (.invokevirtual 75, 3) := by decide +kernel
theorem dX2_leastArcBackTo_48 : decode cX2_leastArcBackTo 48 = .ok (.istore 7, 2) := by decide +kernel
theorem dX2_leastArcBackTo_50 : decode cX2_leastArcBackTo 50 = .ok (.iload 7, 2) := by decide +kernel
theorem dX2_leastArcBackTo_52 : decode cX2_leastArcBackTo 52 = .ok (.iconst (-1), 1) := by decide +kernel
theorem dX2_leastArcBackTo_53 : decode cX2_leastArcBackTo 53 = .ok (.if_icmp .eq 29, 3) := by decide +kernel
theorem dX2_leastArcBackTo_56 : decode cX2_leastArcBackTo 56 = .ok (.aload_n 0, 1) := by decide +kernel
theorem dX2_leastArcBackTo_57 : decode cX2_leastArcBackTo 57 = .ok (.getfield 19, 3) := by decide +kernel
theorem dX2_leastArcBackTo_60 : decode cX2_leastArcBackTo 60 = .ok (.iload 7, 2) := by decide +kernel
theorem dX2_leastArcBackTo_62 : decode cX2_leastArcBackTo 62 = .ok (.laload, 1) := by decide +kernel
theorem dX2_leastArcBackTo_63 : decode cX2_leastArcBackTo 63 = .ok (.lload_n 3, 1) := by decide +kernel
theorem dX2_leastArcBackTo_64 : decode cX2_leastArcBackTo 64 = .ok (.lcmp, 1) := by decide +kernel
theorem dX2_leastArcBackTo_65 : decode cX2_leastArcBackTo 65 = .ok (.ifCond .ne 17, 3) := by decide +kernel
theorem dX2_leastArcBackTo_68 : decode cX2_leastArcBackTo 68 = .ok (.aload_n 0, 1) := by decide +kernel
theorem dX2_leastArcBackTo_69 : decode cX2_leastArcBackTo 69 = .ok (.iload 6, 2) := by decide +kernel
theorem dX2_leastArcBackTo_71 : decode cX2_leastArcBackTo 71 = .ok (.iload_n 1, 1) := by decide +kernel
theorem dX2_leastArcBackTo_72 : decode cX2_leastArcBackTo 72 = .ok (.iload_n 2, 1) := by decide +kernel
theorem dX2_leastArcBackTo_73 : decode cX2_leastArcBackTo 73 = .ok (.invokevirtual 79, 3) := by decide +kernel
theorem dX2_leastArcBackTo_76 : decode cX2_leastArcBackTo 76 = .ok (.ifCond .eq 6, 3) := by decide +kernel
theorem dX2_leastArcBackTo_79 : decode cX2_leastArcBackTo 79 = .ok (.iload 7, 2) := by decide +kernel
theorem dX2_leastArcBackTo_81 : decode cX2_leastArcBackTo 81 = .ok (.ireturn, 1) := by decide +kernel
theorem dX2_leastArcBackTo_82 : decode cX2_leastArcBackTo 82 = .ok (.iinc 5 1, 3) := by decide +kernel
theorem dX2_leastArcBackTo_85 : decode cX2_leastArcBackTo 85 = .ok (.goto (-74), 3) := by decide +kernel
theorem dX2_leastArcBackTo_88 : decode cX2_leastArcBackTo 88 = .ok (.iconst (-1), 1) := by decide +kernel
theorem dX2_leastArcBackTo_89 : decode cX2_leastArcBackTo 89 = .ok (.ireturn, 1) := by decide +kernel
set_option maxRecDepth 20000 in
theorem ggX2_spread_X2_gatherOpenArcs : GoodIn wsX2_spread wsX2_gatherOpenArcs := goodIn_r _ [10, 2, 3, 1, 11, 12, 13, 14, 15, 16, 54, 55, 56, 57, 58, 59, 60, 61, 62, 63, 64, 65] (by decide +kernel) (by decide +kernel)
set_option maxRecDepth 20000 in
theorem gX2_spread_X2_gatherOpenArcs : GoodIn wsX2_spread (wsV RX2 83 RX2 yX2_gatherOpenArcs wsX2_gatherOpenArcs) := goodIn_app (goodIn_of _ (by decide +kernel)) ggX2_spread_X2_gatherOpenArcs
set_option maxRecDepth 20000 in
theorem ggX2_spread_X1_targetOf : GoodIn wsX2_spread wsX1_targetOf := goodIn_r _ [20, 21, 61, 62, 63, 64, 65] (by decide +kernel) (by decide +kernel)
set_option maxRecDepth 20000 in
theorem gX2_spread_X1_targetOf : GoodIn wsX2_spread (wsV RX2 63 RX1 yX1_targetOf wsX1_targetOf) := goodIn_app (goodIn_of _ (by decide +kernel)) ggX2_spread_X1_targetOf
set_option maxRecDepth 20000 in
theorem ggX2_spread_X2_mayTurn : GoodIn wsX2_spread wsX2_mayTurn := goodIn_r _ [25, 26, 27, 28, 29, 30, 31, 32, 33, 34, 35, 36, 37, 38, 39, 40, 54, 55, 56, 57, 58, 59, 60, 66, 67] (by decide +kernel) (by decide +kernel)
set_option maxRecDepth 20000 in
theorem gX2_spread_X2_mayTurn : GoodIn wsX2_spread (wsV RX2 79 RX2 yX2_mayTurn wsX2_mayTurn) := goodIn_app (goodIn_of _ (by decide +kernel)) ggX2_spread_X2_mayTurn
set_option maxRecDepth 20000 in
theorem ggX2_spread_X1_weightOf : GoodIn wsX2_spread wsX1_weightOf := goodIn_r _ [44, 16, 45, 61, 62, 63, 64, 65] (by decide +kernel) (by decide +kernel)
set_option maxRecDepth 20000 in
theorem gX2_spread_X1_weightOf : GoodIn wsX2_spread (wsV RX2 87 RX1 yX1_weightOf wsX1_weightOf) := goodIn_app (goodIn_of _ (by decide +kernel)) ggX2_spread_X1_weightOf
set_option maxRecDepth 20000 in
theorem ggX2_spread_X0_add : GoodIn wsX2_spread wsX0_add := goodIn_r _ [50, 51, 52, 53, 68, 69, 70] (by decide +kernel) (by decide +kernel)
set_option maxRecDepth 20000 in
theorem gX2_spread_X0_add : GoodIn wsX2_spread (wsV RX2 91 RX0 yX0_add wsX0_add) := goodIn_app (goodIn_of _ (by decide +kernel)) ggX2_spread_X0_add
theorem dX2_spread_0 : decode cX2_spread 0 = .ok (.aload_n 0, 1) := by decide +kernel
theorem dX2_spread_1 : decode cX2_spread 1 = .ok (.getfield 36, 3) := by decide +kernel
theorem dX2_spread_4 : decode cX2_spread 4 = .ok (.iload_n 1, 1) := by decide +kernel
theorem dX2_spread_5 : decode cX2_spread 5 = .ok (.iaload, 1) := by decide +kernel
theorem dX2_spread_6 : decode cX2_spread 6 = .ok (.iconst (-1), 1) := by decide +kernel
theorem dX2_spread_7 : decode cX2_spread 7 = .ok (.if_icmp .ne 8, 3) := by decide +kernel
theorem dX2_spread_10 : decode cX2_spread 10 = .ok (.aload_n 0, 1) := by decide +kernel
theorem dX2_spread_11 : decode cX2_spread 11 = .ok (.iload_n 1, 1) := by decide +kernel
theorem dX2_spread_12 : decode cX2_spread 12 = .ok (.invokevirtual 83, 3) := by decide +kernel
theorem dX2_spread_15 : decode cX2_spread 15 = .ok (.aload_n 0, 1) := by decide +kernel
theorem dX2_spread_16 : decode cX2_spread 16 = .ok (.getfield 9, 3) := by decide +kernel
theorem dX2_spread_19 : decode cX2_spread 19 = .ok (.getfield 72, 3) := by decide +kernel
theorem dX2_spread_22 : decode cX2_spread 22 = .ok (.iload_n 1, 1) := by decide +kernel
theorem dX2_spread_23 : decode cX2_spread 23 = .ok (.iaload, 1) := by decide +kernel
theorem dX2_spread_24 : decode cX2_spread 24 = .ok (.istore 5, 2) := by decide +kernel
theorem dX2_spread_26 : decode cX2_spread 26 = .ok (.iconst 0, 1) := by decide +kernel
theorem dX2_spread_27 : decode cX2_spread 27 = .ok (.istore 6, 2) := by decide +kernel
theorem dX2_spread_29 : decode cX2_spread 29 = .ok (.iconst 0, 1) := by decide +kernel
theorem dX2_spread_30 : decode cX2_spread 30 = .ok (.istore 7, 2) := by decide +kernel
theorem dX2_spread_32 : decode cX2_spread 32 = .ok (.iload 7, 2) := by decide +kernel
theorem dX2_spread_34 : decode cX2_spread 34 = .ok (.aload_n 0, 1) := by decide +kernel
theorem dX2_spread_35 : decode cX2_spread 35 = .ok (.getfield 36, 3) := by decide +kernel
theorem dX2_spread_38 : decode cX2_spread 38 = .ok (.iload_n 1, 1) := by decide +kernel
theorem dX2_spread_39 : decode cX2_spread 39 = .ok (.iaload, 1) := by decide +kernel
theorem dX2_spread_40 : decode cX2_spread 40 = .ok (.if_icmp .ge 84, 3) := by decide +kernel
theorem dX2_spread_43 : decode cX2_spread 43 = .ok (.aload_n 0, 1) := by decide +kernel
theorem dX2_spread_44 : decode cX2_spread 44 = .ok (.getfield 32, 3) := by decide +kernel
theorem dX2_spread_47 : decode cX2_spread 47 = .ok (.iload 5, 2) := by decide +kernel
theorem dX2_spread_49 : decode cX2_spread 49 = .ok (.iload 7, 2) := by decide +kernel
theorem dX2_spread_51 : decode cX2_spread 51 = .ok (.iadd, 1) := by decide +kernel
theorem dX2_spread_52 : decode cX2_spread 52 = .ok (.iaload, 1) := by decide +kernel
theorem dX2_spread_53 : decode cX2_spread 53 = .ok (.istore 8, 2) := by decide +kernel
theorem dX2_spread_55 : decode cX2_spread 55 = .ok (.aload_n 0, 1) := by decide +kernel
theorem dX2_spread_56 : decode cX2_spread 56 = .ok (.iload_n 2, 1) := by decide +kernel
theorem dX2_spread_57 : decode cX2_spread 57 = .ok (.iload_n 1, 1) := by decide +kernel
theorem dX2_spread_58 : decode cX2_spread 58 = .ok (.aload_n 0, 1) := by decide +kernel
theorem dX2_spread_59 : decode cX2_spread 59 = .ok (.getfield 9, 3) := by decide +kernel
theorem dX2_spread_62 : decode cX2_spread 62 = .ok (.iload 8, 2) := by decide +kernel
theorem dX2_spread_64 : decode cX2_spread 64 = .ok (.invokevirtual 63, 3) := by decide +kernel
theorem dX2_spread_67 : decode cX2_spread 67 = .ok (.invokevirtual 79, 3) := by decide +kernel
theorem dX2_spread_70 : decode cX2_spread 70 = .ok (.ifCond .eq 33, 3) := by decide +kernel
theorem dX2_spread_73 : decode cX2_spread 73 = .ok (.aload_n 0, 1) := by decide +kernel
theorem dX2_spread_74 : decode cX2_spread 74 = .ok (.getfield 19, 3) := by decide +kernel
theorem dX2_spread_77 : decode cX2_spread 77 = .ok (.iload 8, 2) := by decide +kernel
theorem dX2_spread_79 : decode cX2_spread 79 = .ok (.lload_n 3, 1) := by decide +kernel
theorem dX2_spread_80 : decode cX2_spread 80 = .ok (.aload_n 0, 1) := by decide +kernel
theorem dX2_spread_81 : decode cX2_spread 81 = .ok (.getfield 9, 3) := by decide +kernel
theorem dX2_spread_84 : decode cX2_spread 84 = .ok (.iload 8, 2) := by decide +kernel
theorem dX2_spread_86 : decode cX2_spread 86 = .ok (.invokevirtual 87, 3) := by decide +kernel
theorem dX2_spread_89 : decode cX2_spread 89 = .ok (.ladd, 1) := by decide +kernel
theorem dX2_spread_90 : decode cX2_spread 90 = .ok (.lastore, 1) := by decide +kernel
theorem dX2_spread_91 : decode cX2_spread 91 = .ok (.aload_n 0, 1) := by decide +kernel
theorem dX2_spread_92 : decode cX2_spread 92 = .ok (.getfield 28, 3) := by decide +kernel
theorem dX2_spread_95 : decode cX2_spread 95 = .ok (.iload 8, 2) := by decide +kernel
theorem dX2_spread_97 : decode cX2_spread 97 = .ok (.invokevirtual 91, 3) := by decide +kernel
theorem dX2_spread_100 : decode cX2_spread 100 = .ok (.goto 18, 3) := by decide +kernel
theorem dX2_spread_103 : decode cX2_spread 103 = .ok (.aload_n 0, 1) := by decide +kernel
theorem dX2_spread_104 : decode cX2_spread 104 = .ok (.getfield 32, 3) := by decide +kernel
theorem dX2_spread_107 : decode cX2_spread 107 = .ok (.iload 5, 2) := by decide +kernel
theorem dX2_spread_109 : decode cX2_spread 109 = .ok (.iload 6, 2) := by decide +kernel
theorem dX2_spread_111 : decode cX2_spread 111 = .ok (.iadd, 1) := by decide +kernel
theorem dX2_spread_112 : decode cX2_spread 112 = .ok (.iload 8, 2) := by decide +kernel
theorem dX2_spread_114 : decode cX2_spread 114 = .ok (.iastore, 1) := by decide +kernel
theorem dX2_spread_115 : decode cX2_spread 115 = .ok (.iinc 6 1, 3) := by decide +kernel
theorem dX2_spread_118 : decode cX2_spread 118 = .ok (.iinc 7 1, 3) := by decide +kernel
theorem dX2_spread_121 : decode cX2_spread 121 = .ok (.goto (-89), 3) := by decide +kernel
theorem dX2_spread_124 : decode cX2_spread 124 = .ok (.aload_n 0, 1) := by decide +kernel
theorem dX2_spread_125 : decode cX2_spread 125 = .ok (.getfield 36, 3) := by decide +kernel
theorem dX2_spread_128 : decode cX2_spread 128 = .ok (.iload_n 1, 1) := by decide +kernel
theorem dX2_spread_129 : decode cX2_spread 129 = .ok (.iload 6, 2) := by decide +kernel
theorem dX2_spread_131 : decode cX2_spread 131 = .ok (.iastore, 1) := by decide +kernel
theorem dX2_spread_132 : decode cX2_spread 132 = .ok (.return_, 1) := by decide +kernel
set_option maxRecDepth 20000 in
theorem ggX2_gatherOpenArcs_X1_isOpen : GoodIn wsX2_gatherOpenArcs wsX1_isOpen := goodIn_r _ [8, 9, 17, 18, 19, 20, 21] (by decide +kernel) (by decide +kernel)
set_option maxRecDepth 20000 in
theorem gX2_gatherOpenArcs_X1_isOpen : GoodIn wsX2_gatherOpenArcs (wsV RX2 94 RX1 yX1_isOpen wsX1_isOpen) := goodIn_app (goodIn_of _ (by decide +kernel)) ggX2_gatherOpenArcs_X1_isOpen
theorem dX2_gatherOpenArcs_0 : decode cX2_gatherOpenArcs 0 = .ok (.aload_n 0, 1) := by decide +kernel
theorem dX2_gatherOpenArcs_1 : decode cX2_gatherOpenArcs 1 = .ok (.getfield 9, 3) := by decide +kernel
theorem dX2_gatherOpenArcs_4 : decode cX2_gatherOpenArcs 4 = .ok (.getfield 72, 3) := by decide +kernel
theorem dX2_gatherOpenArcs_7 : decode cX2_gatherOpenArcs 7 = .ok (.iload_n 1, 1) := by decide +kernel
theorem dX2_gatherOpenArcs_8 : decode cX2_gatherOpenArcs 8 = .ok (.iaload, 1) := by decide +kernel
theorem dX2_gatherOpenArcs_9 : decode cX2_gatherOpenArcs 9 = .ok (.istore_n 2, 1) := by decide +kernel
theorem dX2_gatherOpenArcs_10 : decode cX2_gatherOpenArcs 10 = .ok (.iconst 0, 1) := by decide +kernel
theorem dX2_gatherOpenArcs_11 : decode cX2_gatherOpenArcs 11 = .ok (.istore_n 3, 1) := by decide +kernel
theorem dX2_gatherOpenArcs_12 : decode cX2_gatherOpenArcs 12 = .ok (.iload_n 2, 1) := by decide +kernel
theorem dX2_gatherOpenArcs_13 : decode cX2_gatherOpenArcs 13 = .ok (.istore 4, 2) := by decide +kernel
theorem dX2_gatherOpenArcs_15 : decode cX2_gatherOpenArcs 15 = .ok (.iload 4, 2) := by decide +kernel
theorem dX2_gatherOpenArcs_17 : decode cX2_gatherOpenArcs 17 = .ok (.aload_n 0, 1) := by decide +kernel
theorem dX2_gatherOpenArcs_18 : decode cX2_gatherOpenArcs 18 = .ok (.getfield 9, 3) := by decide +kernel
theorem dX2_gatherOpenArcs_21 : decode cX2_gatherOpenArcs 21 = .ok (.getfield 72, 3) := by decide +kernel
theorem dX2_gatherOpenArcs_24 : decode cX2_gatherOpenArcs 24 = .ok (.iload_n 1, 1) := by decide +kernel
theorem dX2_gatherOpenArcs_25 : decode cX2_gatherOpenArcs 25 = .ok (.iconst 1, 1) := by decide +kernel
theorem dX2_gatherOpenArcs_26 : decode cX2_gatherOpenArcs 26 = .ok (.iadd, 1) := by decide +kernel
theorem dX2_gatherOpenArcs_27 : decode cX2_gatherOpenArcs 27 = .ok (.iaload, 1) := by decide +kernel
theorem dX2_gatherOpenArcs_28 : decode cX2_gatherOpenArcs 28 = .ok (.if_icmp .ge 34, 3) := by decide +kernel
theorem dX2_gatherOpenArcs_31 : decode cX2_gatherOpenArcs 31 = .ok (.aload_n 0, 1) := by decide +kernel
theorem dX2_gatherOpenArcs_32 : decode cX2_gatherOpenArcs 32 = .ok (.getfield 9, 3) := by decide +kernel
theorem dX2_gatherOpenArcs_35 : decode cX2_gatherOpenArcs 35 = .ok (.iload 4, 2) := by decide +kernel
theorem dX2_gatherOpenArcs_37 : decode cX2_gatherOpenArcs 37 = .ok (.invokevirtual 94, 3) := by decide +kernel
theorem dX2_gatherOpenArcs_40 : decode cX2_gatherOpenArcs 40 = .ok (.ifCond .eq 16, 3) := by decide +kernel
theorem dX2_gatherOpenArcs_43 : decode cX2_gatherOpenArcs 43 = .ok (.aload_n 0, 1) := by decide +kernel
theorem dX2_gatherOpenArcs_44 : decode cX2_gatherOpenArcs 44 = .ok (.getfield 32, 3) := by decide +kernel
theorem dX2_gatherOpenArcs_47 : decode cX2_gatherOpenArcs 47 = .ok (.iload_n 2, 1) := by decide +kernel
theorem dX2_gatherOpenArcs_48 : decode cX2_gatherOpenArcs 48 = .ok (.iload_n 3, 1) := by decide +kernel
theorem dX2_gatherOpenArcs_49 : decode cX2_gatherOpenArcs 49 = .ok (.iadd, 1) := by decide +kernel
theorem dX2_gatherOpenArcs_50 : decode cX2_gatherOpenArcs 50 = .ok (.iload 4, 2) := by decide +kernel
theorem dX2_gatherOpenArcs_52 : decode cX2_gatherOpenArcs 52 = .ok (.iastore, 1) := by decide +kernel
theorem dX2_gatherOpenArcs_53 : decode cX2_gatherOpenArcs 53 = .ok (.iinc 3 1, 3) := by decide +kernel
theorem dX2_gatherOpenArcs_56 : decode cX2_gatherOpenArcs 56 = .ok (.iinc 4 1, 3) := by decide +kernel
theorem dX2_gatherOpenArcs_59 : decode cX2_gatherOpenArcs 59 = .ok (.goto (-44), 3) := by decide +kernel
theorem dX2_gatherOpenArcs_62 : decode cX2_gatherOpenArcs 62 = .ok (.aload_n 0, 1) := by decide +kernel
theorem dX2_gatherOpenArcs_63 : decode cX2_gatherOpenArcs 63 = .ok (.getfield 36, 3) := by decide +kernel
theorem dX2_gatherOpenArcs_66 : decode cX2_gatherOpenArcs 66 = .ok (.iload_n 1, 1) := by decide +kernel
theorem dX2_gatherOpenArcs_67 : decode cX2_gatherOpenArcs 67 = .ok (.iload_n 3, 1) := by decide +kernel
theorem dX2_gatherOpenArcs_68 : decode cX2_gatherOpenArcs 68 = .ok (.iastore, 1) := by decide +kernel
theorem dX2_gatherOpenArcs_69 : decode cX2_gatherOpenArcs 69 = .ok (.return_, 1) := by decide +kernel
set_option maxRecDepth 20000 in
theorem ggX2_mayTurn_X3_isBarred : GoodIn wsX2_mayTurn wsX3_isBarred := goodIn_r _ [7, 8, 9, 10, 11, 6, 12, 13, 14, 15, 23, 24] (by decide +kernel) (by decide +kernel)
set_option maxRecDepth 20000 in
theorem gX2_mayTurn_X3_isBarred : GoodIn wsX2_mayTurn (wsV RX2 98 RX3 yX3_isBarred wsX3_isBarred) := goodIn_app (goodIn_of _ (by decide +kernel)) ggX2_mayTurn_X3_isBarred
theorem dX2_mayTurn_0 : decode cX2_mayTurn 0 = .ok (.iload_n 1, 1) := by decide +kernel
theorem dX2_mayTurn_1 : decode cX2_mayTurn 1 = .ok (.iconst (-1), 1) := by decide +kernel
theorem dX2_mayTurn_2 : decode cX2_mayTurn 2 = .ok (.if_icmp .eq 8, 3) := by decide +kernel
theorem dX2_mayTurn_5 : decode cX2_mayTurn 5 = .ok (.iload_n 3, 1) := by decide +kernel
theorem dX2_mayTurn_6 : decode cX2_mayTurn 6 = .ok (.iconst (-1), 1) := by decide +kernel
theorem dX2_mayTurn_7 : decode cX2_mayTurn 7 = .ok (.if_icmp .ne 5, 3) := by decide +kernel
theorem dX2_mayTurn_10 : decode cX2_mayTurn 10 = .ok (.iconst 1, 1) := by decide +kernel
theorem dX2_mayTurn_11 : decode cX2_mayTurn 11 = .ok (.ireturn, 1) := by decide +kernel
theorem dX2_mayTurn_12 : decode cX2_mayTurn 12 = .ok (.aload_n 0, 1) := by decide +kernel
theorem dX2_mayTurn_13 : decode cX2_mayTurn 13 = .ok (.getfield 39, 3) := by decide +kernel
theorem dX2_mayTurn_16 : decode cX2_mayTurn 16 = .ok (.ifCond .eq 24, 3) := by decide +kernel
theorem dX2_mayTurn_19 : decode cX2_mayTurn 19 = .ok (.aload_n 0, 1) := by decide +kernel
theorem dX2_mayTurn_20 : decode cX2_mayTurn 20 = .ok (.getfield 15, 3) := by decide +kernel
theorem dX2_mayTurn_23 : decode cX2_mayTurn 23 = .ok (.iload_n 3, 1) := by decide +kernel
theorem dX2_mayTurn_24 : decode cX2_mayTurn 24 = .ok (.iload_n 2, 1) := by decide +kernel
theorem dX2_mayTurn_25 : decode cX2_mayTurn 25 = .ok (.iload_n 1, 1) := by decide +kernel
theorem dX2_mayTurn_26 : decode cX2_mayTurn 26 = .ok (.invokevirtual 98, 3) := by decide +kernel
theorem dX2_mayTurn_29 : decode cX2_mayTurn 29 = .ok (.ifCond .ne 7, 3) := by decide +kernel
theorem dX2_mayTurn_32 : decode cX2_mayTurn 32 = .ok (.iconst 1, 1) := by decide +kernel
theorem dX2_mayTurn_33 : decode cX2_mayTurn 33 = .ok (.goto 25, 3) := by decide +kernel
theorem dX2_mayTurn_36 : decode cX2_mayTurn 36 = .ok (.iconst 0, 1) := by decide +kernel
theorem dX2_mayTurn_37 : decode cX2_mayTurn 37 = .ok (.goto 21, 3) := by decide +kernel
theorem dX2_mayTurn_40 : decode cX2_mayTurn 40 = .ok (.aload_n 0, 1) := by decide +kernel
theorem dX2_mayTurn_41 : decode cX2_mayTurn 41 = .ok (.getfield 15, 3) := by decide +kernel
theorem dX2_mayTurn_44 : decode cX2_mayTurn 44 = .ok (.iload_n 1, 1) := by decide +kernel
theorem dX2_mayTurn_45 : decode cX2_mayTurn 45 = .ok (.iload_n 2, 1) := by decide +kernel
theorem dX2_mayTurn_46 : decode cX2_mayTurn 46 = .ok (.iload_n 3, 1) := by decide +kernel
theorem dX2_mayTurn_47 : decode cX2_mayTurn 47 = .ok (.invokevirtual 98, 3) := by decide +kernel
theorem dX2_mayTurn_50 : decode cX2_mayTurn 50 = .ok (.ifCond .ne 7, 3) := by decide +kernel
theorem dX2_mayTurn_53 : decode cX2_mayTurn 53 = .ok (.iconst 1, 1) := by decide +kernel
theorem dX2_mayTurn_54 : decode cX2_mayTurn 54 = .ok (.goto 4, 3) := by decide +kernel
theorem dX2_mayTurn_57 : decode cX2_mayTurn 57 = .ok (.iconst 0, 1) := by decide +kernel
theorem dX2_mayTurn_58 : decode cX2_mayTurn 58 = .ok (.ireturn, 1) := by decide +kernel
theorem dX3_init_0 : decode cX3_init 0 = .ok (.aload_n 0, 1) := by decide +kernel
theorem dX3_init_1 : decode cX3_init 1 = .ok (.invokespecial 3, 3) := by decide +kernel
theorem dX3_init_4 : decode cX3_init 4 = .ok (.aload_n 0, 1) := by decide +kernel
theorem dX3_init_5 : decode cX3_init 5 = .ok (.iconst 0, 1) := by decide +kernel
theorem dX3_init_6 : decode cX3_init 6 = .ok (.putfield 9, 3) := by decide +kernel
theorem dX3_init_9 : decode cX3_init 9 = .ok (.aload_n 0, 1) := by decide +kernel
theorem dX3_init_10 : decode cX3_init 10 = .ok (.sipush 200, 3) := by decide +kernel
theorem dX3_init_13 : decode cX3_init 13 = .ok (.newarray .int, 2) := by decide +kernel
theorem dX3_init_15 : decode cX3_init 15 = .ok (.putfield 15, 3) := by decide +kernel
theorem dX3_init_18 : decode cX3_init 18 = .ok (.return_, 1) := by decide +kernel
theorem dX3_reset_0 : decode cX3_reset 0 = .ok (.aload_n 0, 1) := by decide +kernel
theorem dX3_reset_1 : decode cX3_reset 1 = .ok (.iconst 0, 1) := by decide +kernel
theorem dX3_reset_2 : decode cX3_reset 2 = .ok (.putfield 9, 3) := by decide +kernel
theorem dX3_reset_5 : decode cX3_reset 5 = .ok (.return_, 1) := by decide +kernel
set_option maxRecDepth 20000 in
theorem ggX3_isBarred_X3_key : GoodIn wsX3_isBarred wsX3_key := goodIn_r _ [6] (by decide +kernel) (by decide +kernel)
set_option maxRecDepth 20000 in
theorem gX3_isBarred_X3_key : GoodIn wsX3_isBarred (va_wsS RX3 19 yX3_key wsX3_key) := goodIn_app (goodIn_of _ (by decide +kernel)) ggX3_isBarred_X3_key
set_option maxRecDepth 20000 in
theorem ggX3_isBarred_X4_placeIn : GoodIn wsX3_isBarred wsX4_placeIn := goodIn_r _ [9] (by decide +kernel) (by decide +kernel)
set_option maxRecDepth 20000 in
theorem gX3_isBarred_X4_placeIn_n23 : GoodIn wsX3_isBarred (wsX4_placeIn) := ggX3_isBarred_X4_placeIn
theorem dX3_isBarred_0 : decode cX3_isBarred 0 = .ok (.iload_n 1, 1) := by decide +kernel
theorem dX3_isBarred_1 : decode cX3_isBarred 1 = .ok (.iload_n 2, 1) := by decide +kernel
theorem dX3_isBarred_2 : decode cX3_isBarred 2 = .ok (.iload_n 3, 1) := by decide +kernel
theorem dX3_isBarred_3 : decode cX3_isBarred 3 = .ok (.invokestatic 19, 3) := by decide +kernel
theorem dX3_isBarred_6 : decode cX3_isBarred 6 = .ok (.istore 4, 2) := by decide +kernel
theorem dX3_isBarred_8 : decode cX3_isBarred 8 = .ok (.aload_n 0, 1) := by decide +kernel
theorem dX3_isBarred_9 : decode cX3_isBarred 9 = .ok (.getfield 15, 3) := by decide +kernel
theorem dX3_isBarred_12 : decode cX3_isBarred 12 = .ok (.iconst 0, 1) := by decide +kernel
theorem dX3_isBarred_13 : decode cX3_isBarred 13 = .ok (.aload_n 0, 1) := by decide +kernel
theorem dX3_isBarred_14 : decode cX3_isBarred 14 = .ok (.getfield 9, 3) := by decide +kernel
theorem dX3_isBarred_17 : decode cX3_isBarred 17 = .ok (.iload 4, 2) := by decide +kernel
theorem dX3_isBarred_19 : decode cX3_isBarred 19 = .ok (.invokestatic 23, 3) := by decide +kernel
theorem dX3_isBarred_22 : decode cX3_isBarred 22 = .ok (.istore 5, 2) := by decide +kernel
theorem dX3_isBarred_24 : decode cX3_isBarred 24 = .ok (.iload 5, 2) := by decide +kernel
theorem dX3_isBarred_26 : decode cX3_isBarred 26 = .ok (.aload_n 0, 1) := by decide +kernel
theorem dX3_isBarred_27 : decode cX3_isBarred 27 = .ok (.getfield 9, 3) := by decide +kernel
theorem dX3_isBarred_30 : decode cX3_isBarred 30 = .ok (.if_icmp .ge 19, 3) := by decide +kernel
theorem dX3_isBarred_33 : decode cX3_isBarred 33 = .ok (.aload_n 0, 1) := by decide +kernel
theorem dX3_isBarred_34 : decode cX3_isBarred 34 = .ok (.getfield 15, 3) := by decide +kernel
theorem dX3_isBarred_37 : decode cX3_isBarred 37 = .ok (.iload 5, 2) := by decide +kernel
theorem dX3_isBarred_39 : decode cX3_isBarred 39 = .ok (.iaload, 1) := by decide +kernel
theorem dX3_isBarred_40 : decode cX3_isBarred 40 = .ok (.iload 4, 2) := by decide +kernel
theorem dX3_isBarred_42 : decode cX3_isBarred 42 = .ok (.if_icmp .ne 7, 3) := by decide +kernel
theorem dX3_isBarred_45 : decode cX3_isBarred 45 = .ok (.iconst 1, 1) := by decide +kernel
theorem dX3_isBarred_46 : decode cX3_isBarred 46 = .ok (.goto 4, 3) := by decide +kernel
theorem dX3_isBarred_49 : decode cX3_isBarred 49 = .ok (.iconst 0, 1) := by decide +kernel
theorem dX3_isBarred_50 : decode cX3_isBarred 50 = .ok (.ireturn, 1) := by decide +kernel
set_option maxRecDepth 20000 in
theorem ggX3_add_X3_key : GoodIn wsX3_add wsX3_key := goodIn_r _ [6] (by decide +kernel) (by decide +kernel)
set_option maxRecDepth 20000 in
theorem gX3_add_X3_key : GoodIn wsX3_add (va_wsS RX3 19 yX3_key wsX3_key) := goodIn_app (goodIn_of _ (by decide +kernel)) ggX3_add_X3_key
set_option maxRecDepth 20000 in
theorem ggX3_add_X4_placeIn : GoodIn wsX3_add wsX4_placeIn := goodIn_r _ [9] (by decide +kernel) (by decide +kernel)
set_option maxRecDepth 20000 in
theorem gX3_add_X4_placeIn_n23 : GoodIn wsX3_add (wsX4_placeIn) := ggX3_add_X4_placeIn
set_option maxRecDepth 20000 in
theorem ggX3_add_X4_insert : GoodIn wsX3_add wsX4_insert := goodIn_r _ [11, 12, 13, 14, 15] (by decide +kernel) (by decide +kernel)
set_option maxRecDepth 20000 in
theorem gX3_add_X4_insert_n27 : GoodIn wsX3_add (wsX4_insert) := ggX3_add_X4_insert
theorem dX3_add_0 : decode cX3_add 0 = .ok (.aload_n 0, 1) := by decide +kernel
theorem dX3_add_1 : decode cX3_add 1 = .ok (.getfield 9, 3) := by decide +kernel
theorem dX3_add_4 : decode cX3_add 4 = .ok (.aload_n 0, 1) := by decide +kernel
theorem dX3_add_5 : decode cX3_add 5 = .ok (.getfield 15, 3) := by decide +kernel
theorem dX3_add_8 : decode cX3_add 8 = .ok (.arraylength, 1) := by decide +kernel
theorem dX3_add_9 : decode cX3_add 9 = .ok (.if_icmp .lt 4, 3) := by decide +kernel
theorem dX3_add_12 : decode cX3_add 12 = .ok (.return_, 1) := by decide +kernel
theorem dX3_add_13 : decode cX3_add 13 = .ok (.iload_n 1, 1) := by decide +kernel
theorem dX3_add_14 : decode cX3_add 14 = .ok (.iload_n 2, 1) := by decide +kernel
theorem dX3_add_15 : decode cX3_add 15 = .ok (.iload_n 3, 1) := by decide +kernel
theorem dX3_add_16 : decode cX3_add 16 = .ok (.invokestatic 19, 3) := by decide +kernel
theorem dX3_add_19 : decode cX3_add 19 = .ok (.istore 4, 2) := by decide +kernel
theorem dX3_add_21 : decode cX3_add 21 = .ok (.aload_n 0, 1) := by decide +kernel
theorem dX3_add_22 : decode cX3_add 22 = .ok (.getfield 15, 3) := by decide +kernel
theorem dX3_add_25 : decode cX3_add 25 = .ok (.aload_n 0, 1) := by decide +kernel
theorem dX3_add_26 : decode cX3_add 26 = .ok (.getfield 9, 3) := by decide +kernel
theorem dX3_add_29 : decode cX3_add 29 = .ok (.aload_n 0, 1) := by decide +kernel
theorem dX3_add_30 : decode cX3_add 30 = .ok (.getfield 15, 3) := by decide +kernel
theorem dX3_add_33 : decode cX3_add 33 = .ok (.iconst 0, 1) := by decide +kernel
theorem dX3_add_34 : decode cX3_add 34 = .ok (.aload_n 0, 1) := by decide +kernel
theorem dX3_add_35 : decode cX3_add 35 = .ok (.getfield 9, 3) := by decide +kernel
theorem dX3_add_38 : decode cX3_add 38 = .ok (.iload 4, 2) := by decide +kernel
theorem dX3_add_40 : decode cX3_add 40 = .ok (.invokestatic 23, 3) := by decide +kernel
theorem dX3_add_43 : decode cX3_add 43 = .ok (.iload 4, 2) := by decide +kernel
theorem dX3_add_45 : decode cX3_add 45 = .ok (.invokestatic 27, 3) := by decide +kernel
theorem dX3_add_48 : decode cX3_add 48 = .ok (.aload_n 0, 1) := by decide +kernel
theorem dX3_add_49 : decode cX3_add 49 = .ok (.dup, 1) := by decide +kernel
theorem dX3_add_50 : decode cX3_add 50 = .ok (.getfield 9, 3) := by decide +kernel
theorem dX3_add_53 : decode cX3_add 53 = .ok (.iconst 1, 1) := by decide +kernel
theorem dX3_add_54 : decode cX3_add 54 = .ok (.iadd, 1) := by decide +kernel
theorem dX3_add_55 : decode cX3_add 55 = .ok (.putfield 9, 3) := by decide +kernel
theorem dX3_add_58 : decode cX3_add 58 = .ok (.return_, 1) := by decide +kernel
set_option maxRecDepth 20000 in
theorem ggX3_remove_X3_key : GoodIn wsX3_remove wsX3_key := goodIn_r _ [10] (by decide +kernel) (by decide +kernel)
set_option maxRecDepth 20000 in
theorem gX3_remove_X3_key : GoodIn wsX3_remove (va_wsS RX3 19 yX3_key wsX3_key) := goodIn_app (goodIn_of _ (by decide +kernel)) ggX3_remove_X3_key
set_option maxRecDepth 20000 in
theorem ggX3_remove_X4_placeIn : GoodIn wsX3_remove wsX4_placeIn := goodIn_r _ [13] (by decide +kernel) (by decide +kernel)
set_option maxRecDepth 20000 in
theorem gX3_remove_X4_placeIn_n23 : GoodIn wsX3_remove (wsX4_placeIn) := ggX3_remove_X4_placeIn
theorem dX3_remove_0 : decode cX3_remove 0 = .ok (.iload_n 1, 1) := by decide +kernel
theorem dX3_remove_1 : decode cX3_remove 1 = .ok (.iload_n 2, 1) := by decide +kernel
theorem dX3_remove_2 : decode cX3_remove 2 = .ok (.iload_n 3, 1) := by decide +kernel
theorem dX3_remove_3 : decode cX3_remove 3 = .ok (.invokestatic 19, 3) := by decide +kernel
theorem dX3_remove_6 : decode cX3_remove 6 = .ok (.istore 4, 2) := by decide +kernel
theorem dX3_remove_8 : decode cX3_remove 8 = .ok (.aload_n 0, 1) := by decide +kernel
theorem dX3_remove_9 : decode cX3_remove 9 = .ok (.getfield 15, 3) := by decide +kernel
theorem dX3_remove_12 : decode cX3_remove 12 = .ok (.iconst 0, 1) := by decide +kernel
theorem dX3_remove_13 : decode cX3_remove 13 = .ok (.aload_n 0, 1) := by decide +kernel
theorem dX3_remove_14 : decode cX3_remove 14 = .ok (.getfield 9, 3) := by decide +kernel
theorem dX3_remove_17 : decode cX3_remove 17 = .ok (.iload 4, 2) := by decide +kernel
theorem dX3_remove_19 : decode cX3_remove 19 = .ok (.invokestatic 23, 3) := by decide +kernel
theorem dX3_remove_22 : decode cX3_remove 22 = .ok (.istore 5, 2) := by decide +kernel
theorem dX3_remove_24 : decode cX3_remove 24 = .ok (.iload 5, 2) := by decide +kernel
theorem dX3_remove_26 : decode cX3_remove 26 = .ok (.aload_n 0, 1) := by decide +kernel
theorem dX3_remove_27 : decode cX3_remove 27 = .ok (.getfield 9, 3) := by decide +kernel
theorem dX3_remove_30 : decode cX3_remove 30 = .ok (.if_icmp .ge 15, 3) := by decide +kernel
theorem dX3_remove_33 : decode cX3_remove 33 = .ok (.aload_n 0, 1) := by decide +kernel
theorem dX3_remove_34 : decode cX3_remove 34 = .ok (.getfield 15, 3) := by decide +kernel
theorem dX3_remove_37 : decode cX3_remove 37 = .ok (.iload 5, 2) := by decide +kernel
theorem dX3_remove_39 : decode cX3_remove 39 = .ok (.iaload, 1) := by decide +kernel
theorem dX3_remove_40 : decode cX3_remove 40 = .ok (.iload 4, 2) := by decide +kernel
theorem dX3_remove_42 : decode cX3_remove 42 = .ok (.if_icmp .eq 4, 3) := by decide +kernel
theorem dX3_remove_45 : decode cX3_remove 45 = .ok (.return_, 1) := by decide +kernel
theorem dX3_remove_46 : decode cX3_remove 46 = .ok (.aload_n 0, 1) := by decide +kernel
theorem dX3_remove_47 : decode cX3_remove 47 = .ok (.getfield 15, 3) := by decide +kernel
theorem dX3_remove_50 : decode cX3_remove 50 = .ok (.iload 5, 2) := by decide +kernel
theorem dX3_remove_52 : decode cX3_remove 52 = .ok (.iconst 1, 1) := by decide +kernel
theorem dX3_remove_53 : decode cX3_remove 53 = .ok (.iadd, 1) := by decide +kernel
theorem dX3_remove_54 : decode cX3_remove 54 = .ok (.aload_n 0, 1) := by decide +kernel
theorem dX3_remove_55 : decode cX3_remove 55 = .ok (.getfield 15, 3) := by decide +kernel
theorem dX3_remove_58 : decode cX3_remove 58 = .ok (.iload 5, 2) := by decide +kernel
theorem dX3_remove_60 : decode cX3_remove 60 = .ok (.aload_n 0, 1) := by decide +kernel
theorem dX3_remove_61 : decode cX3_remove 61 = .ok (.getfield 9, 3) := by decide +kernel
theorem dX3_remove_64 : decode cX3_remove 64 = .ok (.iload 5, 2) := by decide +kernel
theorem dX3_remove_66 : decode cX3_remove 66 = .ok (.isub, 1) := by decide +kernel
theorem dX3_remove_67 : decode cX3_remove 67 = .ok (.iconst 1, 1) := by decide +kernel
theorem dX3_remove_68 : decode cX3_remove 68 = .ok (.isub, 1) := by decide +kernel
theorem dX3_remove_69 : decode cX3_remove 69 = .ok (.invokestatic 31, 3) := by decide +kernel
theorem dX3_remove_72 : decode cX3_remove 72 = .ok (.aload_n 0, 1) := by decide +kernel
theorem dX3_remove_73 : decode cX3_remove 73 = .ok (.dup, 1) := by decide +kernel
theorem dX3_remove_74 : decode cX3_remove 74 = .ok (.getfield 9, 3) := by decide +kernel
theorem dX3_remove_77 : decode cX3_remove 77 = .ok (.iconst 1, 1) := by decide +kernel
theorem dX3_remove_78 : decode cX3_remove 78 = .ok (.isub, 1) := by decide +kernel
theorem dX3_remove_79 : decode cX3_remove 79 = .ok (.putfield 9, 3) := by decide +kernel
theorem dX3_remove_82 : decode cX3_remove 82 = .ok (.return_, 1) := by decide +kernel
theorem dX3_key_0 : decode cX3_key 0 = .ok (.iload_n 0, 1) := by decide +kernel
theorem dX3_key_1 : decode cX3_key 1 = .ok (.sipush 300, 3) := by decide +kernel
theorem dX3_key_4 : decode cX3_key 4 = .ok (.imul, 1) := by decide +kernel
theorem dX3_key_5 : decode cX3_key 5 = .ok (.iload_n 1, 1) := by decide +kernel
theorem dX3_key_6 : decode cX3_key 6 = .ok (.iadd, 1) := by decide +kernel
theorem dX3_key_7 : decode cX3_key 7 = .ok (.sipush 300, 3) := by decide +kernel
theorem dX3_key_10 : decode cX3_key 10 = .ok (.imul, 1) := by decide +kernel
theorem dX3_key_11 : decode cX3_key 11 = .ok (.iload_n 2, 1) := by decide +kernel
theorem dX3_key_12 : decode cX3_key 12 = .ok (.iadd, 1) := by decide +kernel
theorem dX3_key_13 : decode cX3_key 13 = .ok (.ireturn, 1) := by decide +kernel
set_option maxRecDepth 20000 in
theorem ggX4_init_X1_init : GoodIn wsX4_init wsX1_init := goodIn_r _ [21, 22, 2, 3, 23, 24, 16, 25, 26, 27, 56, 57, 58, 59, 60] (by decide +kernel) (by decide +kernel)
set_option maxRecDepth 20000 in
theorem gX4_init_X1_init : GoodIn wsX4_init (wsX1_init) := ggX4_init_X1_init
set_option maxRecDepth 20000 in
theorem ggX4_init_X3_init : GoodIn wsX4_init wsX3_init := goodIn_r _ [30, 31, 2, 3, 32, 16, 33, 66, 67] (by decide +kernel) (by decide +kernel)
set_option maxRecDepth 20000 in
theorem gX4_init_X3_init : GoodIn wsX4_init (wsX3_init) := ggX4_init_X3_init
set_option maxRecDepth 20000 in
theorem ggX4_init_X2_init : GoodIn wsX4_init wsX2_init := goodIn_r _ [36, 37, 2, 3, 38, 39, 40, 41, 42, 43, 44, 45, 16, 46, 47, 48, 49, 50, 51, 52, 53, 54, 55, 68, 69, 70, 71, 72, 73, 74, 75, 76, 77] (by decide +kernel) (by decide +kernel)
set_option maxRecDepth 20000 in
theorem gX4_init_X2_init : GoodIn wsX4_init (wsX2_init) := ggX4_init_X2_init
theorem dX4_init_0 : decode cX4_init 0 = .ok (.aload_n 0, 1) := by decide +kernel
theorem dX4_init_1 : decode cX4_init 1 = .ok (.invokespecial 3, 3) := by decide +kernel
theorem dX4_init_4 : decode cX4_init 4 = .ok (.aload_n 0, 1) := by decide +kernel
theorem dX4_init_5 : decode cX4_init 5 = .ok (.new 9, 3) := by decide +kernel
theorem dX4_init_8 : decode cX4_init 8 = .ok (.dup, 1) := by decide +kernel
theorem dX4_init_9 : decode cX4_init 9 = .ok (.invokespecial 11, 3) := by decide +kernel
theorem dX4_init_12 : decode cX4_init 12 = .ok (.putfield 12, 3) := by decide +kernel
theorem dX4_init_15 : decode cX4_init 15 = .ok (.aload_n 0, 1) := by decide +kernel
theorem dX4_init_16 : decode cX4_init 16 = .ok (.new 16, 3) := by decide +kernel
theorem dX4_init_19 : decode cX4_init 19 = .ok (.dup, 1) := by decide +kernel
theorem dX4_init_20 : decode cX4_init 20 = .ok (.invokespecial 18, 3) := by decide +kernel
theorem dX4_init_23 : decode cX4_init 23 = .ok (.putfield 19, 3) := by decide +kernel
theorem dX4_init_26 : decode cX4_init 26 = .ok (.aload_n 0, 1) := by decide +kernel
theorem dX4_init_27 : decode cX4_init 27 = .ok (.new 23, 3) := by decide +kernel
theorem dX4_init_30 : decode cX4_init 30 = .ok (.dup, 1) := by decide +kernel
theorem dX4_init_31 : decode cX4_init 31 = .ok (.aload_n 0, 1) := by decide +kernel
theorem dX4_init_32 : decode cX4_init 32 = .ok (.getfield 12, 3) := by decide +kernel
theorem dX4_init_35 : decode cX4_init 35 = .ok (.aload_n 0, 1) := by decide +kernel
theorem dX4_init_36 : decode cX4_init 36 = .ok (.getfield 19, 3) := by decide +kernel
theorem dX4_init_39 : decode cX4_init 39 = .ok (.invokespecial 25, 3) := by decide +kernel
theorem dX4_init_42 : decode cX4_init 42 = .ok (.putfield 28, 3) := by decide +kernel
theorem dX4_init_45 : decode cX4_init 45 = .ok (.aload_n 0, 1) := by decide +kernel
theorem dX4_init_46 : decode cX4_init 46 = .ok (.sipush 4001, 3) := by decide +kernel
theorem dX4_init_49 : decode cX4_init 49 = .ok (.newarray .int, 2) := by decide +kernel
theorem dX4_init_51 : decode cX4_init 51 = .ok (.putfield 32, 3) := by decide +kernel
theorem dX4_init_54 : decode cX4_init 54 = .ok (.aload_n 0, 1) := by decide +kernel
theorem dX4_init_55 : decode cX4_init 55 = .ok (.iconst 0, 1) := by decide +kernel
theorem dX4_init_56 : decode cX4_init 56 = .ok (.putfield 36, 3) := by decide +kernel
theorem dX4_init_59 : decode cX4_init 59 = .ok (.return_, 1) := by decide +kernel
set_option maxRecDepth 20000 in
theorem ggX4_size_X1_reset : GoodIn wsX4_size wsX1_reset := goodIn_r _ [8, 9, 10, 11, 23, 24, 25, 26, 27] (by decide +kernel) (by decide +kernel)
set_option maxRecDepth 20000 in
theorem gX4_size_X1_reset : GoodIn wsX4_size (wsV RX4 40 RX1 yX1_reset wsX1_reset) := goodIn_app (goodIn_of _ (by decide +kernel)) ggX4_size_X1_reset
set_option maxRecDepth 20000 in
theorem ggX4_size_X3_reset : GoodIn wsX4_size wsX3_reset := goodIn_r _ [16, 17, 28, 29] (by decide +kernel) (by decide +kernel)
set_option maxRecDepth 20000 in
theorem gX4_size_X3_reset : GoodIn wsX4_size (wsV RX4 44 RX3 yX3_reset wsX3_reset) := goodIn_app (goodIn_of _ (by decide +kernel)) ggX4_size_X3_reset
theorem dX4_size_0 : decode cX4_size 0 = .ok (.iload_n 1, 1) := by decide +kernel
theorem dX4_size_1 : decode cX4_size 1 = .ok (.iconst 1, 1) := by decide +kernel
theorem dX4_size_2 : decode cX4_size 2 = .ok (.if_icmp .lt 10, 3) := by decide +kernel
theorem dX4_size_5 : decode cX4_size 5 = .ok (.iload_n 1, 1) := by decide +kernel
theorem dX4_size_6 : decode cX4_size 6 = .ok (.sipush 300, 3) := by decide +kernel
theorem dX4_size_9 : decode cX4_size 9 = .ok (.if_icmp .le 5, 3) := by decide +kernel
theorem dX4_size_12 : decode cX4_size 12 = .ok (.iconst 0, 1) := by decide +kernel
theorem dX4_size_13 : decode cX4_size 13 = .ok (.ireturn, 1) := by decide +kernel
theorem dX4_size_14 : decode cX4_size 14 = .ok (.aload_n 0, 1) := by decide +kernel
theorem dX4_size_15 : decode cX4_size 15 = .ok (.getfield 12, 3) := by decide +kernel
theorem dX4_size_18 : decode cX4_size 18 = .ok (.iload_n 1, 1) := by decide +kernel
theorem dX4_size_19 : decode cX4_size 19 = .ok (.invokevirtual 40, 3) := by decide +kernel
theorem dX4_size_22 : decode cX4_size 22 = .ok (.aload_n 0, 1) := by decide +kernel
theorem dX4_size_23 : decode cX4_size 23 = .ok (.getfield 19, 3) := by decide +kernel
theorem dX4_size_26 : decode cX4_size 26 = .ok (.invokevirtual 44, 3) := by decide +kernel
theorem dX4_size_29 : decode cX4_size 29 = .ok (.aload_n 0, 1) := by decide +kernel
theorem dX4_size_30 : decode cX4_size 30 = .ok (.iconst 0, 1) := by decide +kernel
