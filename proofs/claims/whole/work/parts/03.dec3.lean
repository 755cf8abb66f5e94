theorem dX5_isBefore_7 : decode cX5_isBefore 7 = .ok (.if_icmp .eq 21, 3) := by decide +kernel
theorem dX5_isBefore_10 : decode cX5_isBefore 10 = .ok (.aload_n 0, 1) := by decide +kernel
theorem dX5_isBefore_11 : decode cX5_isBefore 11 = .ok (.getfield 13, 3) := by decide +kernel
theorem dX5_isBefore_14 : decode cX5_isBefore 14 = .ok (.iload_n 1, 1) := by decide +kernel
theorem dX5_isBefore_15 : decode cX5_isBefore 15 = .ok (.iaload, 1) := by decide +kernel
theorem dX5_isBefore_16 : decode cX5_isBefore 16 = .ok (.iload_n 2, 1) := by decide +kernel
theorem dX5_isBefore_17 : decode cX5_isBefore 17 = .ok (.if_icmp .ge 7, 3) := by decide +kernel
theorem dX5_isBefore_20 : decode cX5_isBefore 20 = .ok (.iconst 1, 1) := by decide +kernel
theorem dX5_isBefore_21 : decode cX5_isBefore 21 = .ok (.goto 22, 3) := by decide +kernel
theorem dX5_isBefore_24 : decode cX5_isBefore 24 = .ok (.iconst 0, 1) := by decide +kernel
theorem dX5_isBefore_25 : decode cX5_isBefore 25 = .ok (.goto 18, 3) := by decide +kernel
theorem dX5_isBefore_28 : decode cX5_isBefore 28 = .ok (.aload_n 0, 1) := by decide +kernel
theorem dX5_isBefore_29 : decode cX5_isBefore 29 = .ok (.getfield 17, 3) := by decide +kernel
theorem dX5_isBefore_32 : decode cX5_isBefore 32 = .ok (.iload_n 1, 1) := by decide +kernel
theorem dX5_isBefore_33 : decode cX5_isBefore 33 = .ok (.iaload, 1) := by decide +kernel
theorem dX5_isBefore_34 : decode cX5_isBefore 34 = .ok (.iload_n 3, 1) := by decide +kernel
theorem dX5_isBefore_35 : decode cX5_isBefore 35 = .ok (.if_icmp .ge 7, 3) := by decide +kernel
theorem dX5_isBefore_38 : decode cX5_isBefore 38 = .ok (.iconst 1, 1) := by decide +kernel
theorem dX5_isBefore_39 : decode cX5_isBefore 39 = .ok (.goto 4, 3) := by decide +kernel
theorem dX5_isBefore_42 : decode cX5_isBefore 42 = .ok (.iconst 0, 1) := by decide +kernel
theorem dX5_isBefore_43 : decode cX5_isBefore 43 = .ok (.ireturn, 1) := by decide +kernel
set_option maxRecDepth 20000 in
theorem ggX5_placeOf_X5_isBefore : GoodIn wsX5_placeOf wsX5_isBefore := goodIn_r _ [13, 14, 15, 16, 17, 18, 19, 20, 21, 22, 23, 24, 25, 26, 27, 28, 29, 30, 31, 32] (by decide +kernel) (by decide +kernel)
set_option maxRecDepth 20000 in
theorem gX5_placeOf_X5_isBefore : GoodIn wsX5_placeOf (wsV RX5 70 RX5 yX5_isBefore wsX5_isBefore) := goodIn_app (goodIn_of _ (by decide +kernel)) ggX5_placeOf_X5_isBefore
theorem dX5_placeOf_0 : decode cX5_placeOf 0 = .ok (.iconst 0, 1) := by decide +kernel
theorem dX5_placeOf_1 : decode cX5_placeOf 1 = .ok (.istore_n 3, 1) := by decide +kernel
theorem dX5_placeOf_2 : decode cX5_placeOf 2 = .ok (.aload_n 0, 1) := by decide +kernel
theorem dX5_placeOf_3 : decode cX5_placeOf 3 = .ok (.getfield 52, 3) := by decide +kernel
theorem dX5_placeOf_6 : decode cX5_placeOf 6 = .ok (.istore 4, 2) := by decide +kernel
theorem dX5_placeOf_8 : decode cX5_placeOf 8 = .ok (.iload_n 3, 1) := by decide +kernel
theorem dX5_placeOf_9 : decode cX5_placeOf 9 = .ok (.iload 4, 2) := by decide +kernel
theorem dX5_placeOf_11 : decode cX5_placeOf 11 = .ok (.if_icmp .ge 45, 3) := by decide +kernel
theorem dX5_placeOf_14 : decode cX5_placeOf 14 = .ok (.iload_n 3, 1) := by decide +kernel
theorem dX5_placeOf_15 : decode cX5_placeOf 15 = .ok (.iload 4, 2) := by decide +kernel
theorem dX5_placeOf_17 : decode cX5_placeOf 17 = .ok (.iadd, 1) := by decide +kernel
theorem dX5_placeOf_18 : decode cX5_placeOf 18 = .ok (.iconst 2, 1) := by decide +kernel
theorem dX5_placeOf_19 : decode cX5_placeOf 19 = .ok (.idiv, 1) := by decide +kernel
theorem dX5_placeOf_20 : decode cX5_placeOf 20 = .ok (.istore 5, 2) := by decide +kernel
theorem dX5_placeOf_22 : decode cX5_placeOf 22 = .ok (.aload_n 0, 1) := by decide +kernel
theorem dX5_placeOf_23 : decode cX5_placeOf 23 = .ok (.iload 5, 2) := by decide +kernel
theorem dX5_placeOf_25 : decode cX5_placeOf 25 = .ok (.iload_n 1, 1) := by decide +kernel
theorem dX5_placeOf_26 : decode cX5_placeOf 26 = .ok (.iload_n 2, 1) := by decide +kernel
theorem dX5_placeOf_27 : decode cX5_placeOf 27 = .ok (.invokestatic 61, 3) := by decide +kernel
theorem dX5_placeOf_30 : decode cX5_placeOf 30 = .ok (.iload_n 1, 1) := by decide +kernel
theorem dX5_placeOf_31 : decode cX5_placeOf 31 = .ok (.iload_n 2, 1) := by decide +kernel
theorem dX5_placeOf_32 : decode cX5_placeOf 32 = .ok (.invokestatic 67, 3) := by decide +kernel
theorem dX5_placeOf_35 : decode cX5_placeOf 35 = .ok (.invokevirtual 70, 3) := by decide +kernel
theorem dX5_placeOf_38 : decode cX5_placeOf 38 = .ok (.ifCond .eq 11, 3) := by decide +kernel
theorem dX5_placeOf_41 : decode cX5_placeOf 41 = .ok (.iload 5, 2) := by decide +kernel
theorem dX5_placeOf_43 : decode cX5_placeOf 43 = .ok (.iconst 1, 1) := by decide +kernel
theorem dX5_placeOf_44 : decode cX5_placeOf 44 = .ok (.iadd, 1) := by decide +kernel
theorem dX5_placeOf_45 : decode cX5_placeOf 45 = .ok (.istore_n 3, 1) := by decide +kernel
theorem dX5_placeOf_46 : decode cX5_placeOf 46 = .ok (.goto 7, 3) := by decide +kernel
theorem dX5_placeOf_49 : decode cX5_placeOf 49 = .ok (.iload 5, 2) := by decide +kernel
theorem dX5_placeOf_51 : decode cX5_placeOf 51 = .ok (.istore 4, 2) := by decide +kernel
theorem dX5_placeOf_53 : decode cX5_placeOf 53 = .ok (.goto (-45), 3) := by decide +kernel
theorem dX5_placeOf_56 : decode cX5_placeOf 56 = .ok (.iload_n 3, 1) := by decide +kernel
theorem dX5_placeOf_57 : decode cX5_placeOf 57 = .ok (.ireturn, 1) := by decide +kernel
set_option maxRecDepth 20000 in
theorem ggX5_find_X5_placeOf : GoodIn wsX5_find wsX5_placeOf := goodIn_r _ [15, 1, 3, 4, 5, 6, 8, 9, 10, 16, 17, 18, 14, 19, 2, 7, 20, 21, 22, 23, 24, 25, 26, 27, 28, 29, 30, 31, 32, 33, 34, 35, 36] (by decide +kernel) (by decide +kernel)
set_option maxRecDepth 20000 in
theorem gX5_find_X5_placeOf : GoodIn wsX5_find (wsV RX5 74 RX5 yX5_placeOf wsX5_placeOf) := goodIn_app (goodIn_of _ (by decide +kernel)) ggX5_find_X5_placeOf
theorem dX5_find_0 : decode cX5_find 0 = .ok (.aload_n 0, 1) := by decide +kernel
theorem dX5_find_1 : decode cX5_find 1 = .ok (.iload_n 1, 1) := by decide +kernel
theorem dX5_find_2 : decode cX5_find 2 = .ok (.iload_n 2, 1) := by decide +kernel
theorem dX5_find_3 : decode cX5_find 3 = .ok (.invokevirtual 74, 3) := by decide +kernel
theorem dX5_find_6 : decode cX5_find 6 = .ok (.istore_n 3, 1) := by decide +kernel
theorem dX5_find_7 : decode cX5_find 7 = .ok (.iload_n 3, 1) := by decide +kernel
theorem dX5_find_8 : decode cX5_find 8 = .ok (.aload_n 0, 1) := by decide +kernel
theorem dX5_find_9 : decode cX5_find 9 = .ok (.getfield 52, 3) := by decide +kernel
theorem dX5_find_12 : decode cX5_find 12 = .ok (.if_icmp .ge 35, 3) := by decide +kernel
theorem dX5_find_15 : decode cX5_find 15 = .ok (.aload_n 0, 1) := by decide +kernel
theorem dX5_find_16 : decode cX5_find 16 = .ok (.getfield 13, 3) := by decide +kernel
theorem dX5_find_19 : decode cX5_find 19 = .ok (.iload_n 3, 1) := by decide +kernel
theorem dX5_find_20 : decode cX5_find 20 = .ok (.iaload, 1) := by decide +kernel
theorem dX5_find_21 : decode cX5_find 21 = .ok (.iload_n 1, 1) := by decide +kernel
theorem dX5_find_22 : decode cX5_find 22 = .ok (.iload_n 2, 1) := by decide +kernel
theorem dX5_find_23 : decode cX5_find 23 = .ok (.invokestatic 61, 3) := by decide +kernel
theorem dX5_find_26 : decode cX5_find 26 = .ok (.if_icmp .ne 21, 3) := by decide +kernel
theorem dX5_find_29 : decode cX5_find 29 = .ok (.aload_n 0, 1) := by decide +kernel
theorem dX5_find_30 : decode cX5_find 30 = .ok (.getfield 17, 3) := by decide +kernel
theorem dX5_find_33 : decode cX5_find 33 = .ok (.iload_n 3, 1) := by decide +kernel
theorem dX5_find_34 : decode cX5_find 34 = .ok (.iaload, 1) := by decide +kernel
theorem dX5_find_35 : decode cX5_find 35 = .ok (.iload_n 1, 1) := by decide +kernel
theorem dX5_find_36 : decode cX5_find 36 = .ok (.iload_n 2, 1) := by decide +kernel
theorem dX5_find_37 : decode cX5_find 37 = .ok (.invokestatic 67, 3) := by decide +kernel
theorem dX5_find_40 : decode cX5_find 40 = .ok (.if_icmp .ne 7, 3) := by decide +kernel
theorem dX5_find_43 : decode cX5_find 43 = .ok (.iload_n 3, 1) := by decide +kernel
theorem dX5_find_44 : decode cX5_find 44 = .ok (.goto 4, 3) := by decide +kernel
theorem dX5_find_47 : decode cX5_find 47 = .ok (.iconst (-1), 1) := by decide +kernel
theorem dX5_find_48 : decode cX5_find 48 = .ok (.ireturn, 1) := by decide +kernel
set_option maxRecDepth 20000 in
theorem ggX5_road_X5_isNode : GoodIn wsX5_road wsX5_isNode := goodIn_r _ [18, 19, 32, 33, 34, 35, 36, 37, 38, 39, 40, 41, 42, 43, 44, 45, 46, 47, 48] (by decide +kernel) (by decide +kernel)
set_option maxRecDepth 20000 in
theorem gX5_road_X5_isNode : GoodIn wsX5_road (wsV RX5 77 RX5 yX5_isNode wsX5_isNode) := goodIn_app (goodIn_of _ (by decide +kernel)) ggX5_road_X5_isNode
set_option maxRecDepth 20000 in
theorem ggX5_road_X5_find : GoodIn wsX5_road wsX5_find := goodIn_r _ [23, 3, 4, 7, 8, 9, 10, 5, 11, 12, 13, 24, 25, 26, 17, 27, 28, 29, 30, 31, 32, 33, 34, 35, 36, 37, 38, 39, 40, 41, 42, 43, 44, 45, 46, 47, 48] (by decide +kernel) (by decide +kernel)
set_option maxRecDepth 20000 in
theorem gX5_road_X5_find : GoodIn wsX5_road (wsV RX5 82 RX5 yX5_find wsX5_find) := goodIn_app (goodIn_of _ (by decide +kernel)) ggX5_road_X5_find
set_option maxRecDepth 20000 in
theorem ggX5_road_X5_placeOf : GoodIn wsX5_road wsX5_placeOf := goodIn_r _ [27, 3, 7, 8, 9, 10, 11, 12, 13, 28, 29, 30, 17, 31, 4, 5, 32, 33, 34, 35, 36, 37, 38, 39, 40, 41, 42, 43, 44, 45, 46, 47, 48] (by decide +kernel) (by decide +kernel)
set_option maxRecDepth 20000 in
theorem gX5_road_X5_placeOf : GoodIn wsX5_road (wsV RX5 74 RX5 yX5_placeOf wsX5_placeOf) := goodIn_app (goodIn_of _ (by decide +kernel)) ggX5_road_X5_placeOf
theorem dX5_road_0 : decode cX5_road 0 = .ok (.aload_n 0, 1) := by decide +kernel
theorem dX5_road_1 : decode cX5_road 1 = .ok (.iload_n 1, 1) := by decide +kernel
theorem dX5_road_2 : decode cX5_road 2 = .ok (.invokevirtual 77, 3) := by decide +kernel
theorem dX5_road_5 : decode cX5_road 5 = .ok (.ifCond .eq 16, 3) := by decide +kernel
theorem dX5_road_8 : decode cX5_road 8 = .ok (.aload_n 0, 1) := by decide +kernel
theorem dX5_road_9 : decode cX5_road 9 = .ok (.iload_n 2, 1) := by decide +kernel
theorem dX5_road_10 : decode cX5_road 10 = .ok (.invokevirtual 77, 3) := by decide +kernel
theorem dX5_road_13 : decode cX5_road 13 = .ok (.ifCond .eq 8, 3) := by decide +kernel
theorem dX5_road_16 : decode cX5_road 16 = .ok (.iload_n 1, 1) := by decide +kernel
theorem dX5_road_17 : decode cX5_road 17 = .ok (.iload_n 2, 1) := by decide +kernel
theorem dX5_road_18 : decode cX5_road 18 = .ok (.if_icmp .ne 6, 3) := by decide +kernel
theorem dX5_road_21 : decode cX5_road 21 = .ok (.bipush (-14), 2) := by decide +kernel
theorem dX5_road_23 : decode cX5_road 23 = .ok (.ireturn, 1) := by decide +kernel
theorem dX5_road_24 : decode cX5_road 24 = .ok (.iload_n 3, 1) := by decide +kernel
theorem dX5_road_25 : decode cX5_road 25 = .ok (.iconst 1, 1) := by decide +kernel
theorem dX5_road_26 : decode cX5_road 26 = .ok (.if_icmp .lt 9, 3) := by decide +kernel
theorem dX5_road_29 : decode cX5_road 29 = .ok (.iload_n 3, 1) := by decide +kernel
theorem dX5_road_30 : decode cX5_road 30 = .ok (.ldc 81, 2) := by decide +kernel
theorem dX5_road_32 : decode cX5_road 32 = .ok (.if_icmp .le 5, 3) := by decide +kernel
theorem dX5_road_35 : decode cX5_road 35 = .ok (.iconst (-1), 1) := by decide +kernel
theorem dX5_road_36 : decode cX5_road 36 = .ok (.ireturn, 1) := by decide +kernel
theorem dX5_road_37 : decode cX5_road 37 = .ok (.aload_n 0, 1) := by decide +kernel
theorem dX5_road_38 : decode cX5_road 38 = .ok (.iload_n 1, 1) := by decide +kernel
theorem dX5_road_39 : decode cX5_road 39 = .ok (.iload_n 2, 1) := by decide +kernel
theorem dX5_road_40 : decode cX5_road 40 = .ok (.invokevirtual 82, 3) := by decide +kernel
theorem dX5_road_43 : decode cX5_road 43 = .ok (.istore 4, 2) := by decide +kernel
theorem dX5_road_45 : decode cX5_road 45 = .ok (.iload 4, 2) := by decide +kernel
theorem dX5_road_47 : decode cX5_road 47 = .ok (.ifCond .lt 16, 3) := by decide +kernel
theorem dX5_road_50 : decode cX5_road 50 = .ok (.aload_n 0, 1) := by decide +kernel
theorem dX5_road_51 : decode cX5_road 51 = .ok (.getfield 20, 3) := by decide +kernel
theorem dX5_road_54 : decode cX5_road 54 = .ok (.iload 4, 2) := by decide +kernel
theorem dX5_road_56 : decode cX5_road 56 = .ok (.iload_n 3, 1) := by decide +kernel
theorem dX5_road_57 : decode cX5_road 57 = .ok (.iastore, 1) := by decide +kernel
theorem dX5_road_58 : decode cX5_road 58 = .ok (.aload_n 0, 1) := by decide +kernel
theorem dX5_road_59 : decode cX5_road 59 = .ok (.getfield 52, 3) := by decide +kernel
theorem dX5_road_62 : decode cX5_road 62 = .ok (.ireturn, 1) := by decide +kernel
theorem dX5_road_63 : decode cX5_road 63 = .ok (.aload_n 0, 1) := by decide +kernel
theorem dX5_road_64 : decode cX5_road 64 = .ok (.getfield 52, 3) := by decide +kernel
theorem dX5_road_67 : decode cX5_road 67 = .ok (.sipush 2000, 3) := by decide +kernel
theorem dX5_road_70 : decode cX5_road 70 = .ok (.if_icmp .ne 6, 3) := by decide +kernel
theorem dX5_road_73 : decode cX5_road 73 = .ok (.bipush (-12), 2) := by decide +kernel
theorem dX5_road_75 : decode cX5_road 75 = .ok (.ireturn, 1) := by decide +kernel
theorem dX5_road_76 : decode cX5_road 76 = .ok (.aload_n 0, 1) := by decide +kernel
theorem dX5_road_77 : decode cX5_road 77 = .ok (.iload_n 1, 1) := by decide +kernel
theorem dX5_road_78 : decode cX5_road 78 = .ok (.iload_n 2, 1) := by decide +kernel
theorem dX5_road_79 : decode cX5_road 79 = .ok (.invokevirtual 74, 3) := by decide +kernel
theorem dX5_road_82 : decode cX5_road 82 = .ok (.istore 5, 2) := by decide +kernel
theorem dX5_road_84 : decode cX5_road 84 = .ok (.aload_n 0, 1) := by decide +kernel
theorem dX5_road_85 : decode cX5_road 85 = .ok (.getfield 52, 3) := by decide +kernel
theorem dX5_road_88 : decode cX5_road 88 = .ok (.istore 6, 2) := by decide +kernel
theorem dX5_road_90 : decode cX5_road 90 = .ok (.iload 6, 2) := by decide +kernel
theorem dX5_road_92 : decode cX5_road 92 = .ok (.iload 5, 2) := by decide +kernel
theorem dX5_road_94 : decode cX5_road 94 = .ok (.if_icmp .le 73, 3) := by decide +kernel
theorem dX5_road_97 : decode cX5_road 97 = .ok (.aload_n 0, 1) := by decide +kernel
theorem dX5_road_98 : decode cX5_road 98 = .ok (.getfield 13, 3) := by decide +kernel
theorem dX5_road_101 : decode cX5_road 101 = .ok (.iload 6, 2) := by decide +kernel
theorem dX5_road_103 : decode cX5_road 103 = .ok (.aload_n 0, 1) := by decide +kernel
theorem dX5_road_104 : decode cX5_road 104 = .ok (.getfield 13, 3) := by decide +kernel
theorem dX5_road_107 : decode cX5_road 107 = .ok (.iload 6, 2) := by decide +kernel
theorem dX5_road_109 : decode cX5_road 109 = .ok (.iconst 1, 1) := by decide +kernel
theorem dX5_road_110 : decode cX5_road 110 = .ok (.isub, 1) := by decide +kernel
theorem dX5_road_111 : decode cX5_road 111 = .ok (.iaload, 1) := by decide +kernel
theorem dX5_road_112 : decode cX5_road 112 = .ok (.iastore, 1) := by decide +kernel
theorem dX5_road_113 : decode cX5_road 113 = .ok (.aload_n 0, 1) := by decide +kernel
theorem dX5_road_114 : decode cX5_road 114 = .ok (.getfield 17, 3) := by decide +kernel
theorem dX5_road_117 : decode cX5_road 117 = .ok (.iload 6, 2) := by decide +kernel
theorem dX5_road_119 : decode cX5_road 119 = .ok (.aload_n 0, 1) := by decide +kernel
theorem dX5_road_120 : decode cX5_road 120 = .ok (.getfield 17, 3) := by decide +kernel
theorem dX5_road_123 : decode cX5_road 123 = .ok (.iload 6, 2) := by decide +kernel
theorem dX5_road_125 : decode cX5_road 125 = .ok (.iconst 1, 1) := by decide +kernel
theorem dX5_road_126 : decode cX5_road 126 = .ok (.isub, 1) := by decide +kernel
theorem dX5_road_127 : decode cX5_road 127 = .ok (.iaload, 1) := by decide +kernel
theorem dX5_road_128 : decode cX5_road 128 = .ok (.iastore, 1) := by decide +kernel
theorem dX5_road_129 : decode cX5_road 129 = .ok (.aload_n 0, 1) := by decide +kernel
theorem dX5_road_130 : decode cX5_road 130 = .ok (.getfield 20, 3) := by decide +kernel
theorem dX5_road_133 : decode cX5_road 133 = .ok (.iload 6, 2) := by decide +kernel
theorem dX5_road_135 : decode cX5_road 135 = .ok (.aload_n 0, 1) := by decide +kernel
theorem dX5_road_136 : decode cX5_road 136 = .ok (.getfield 20, 3) := by decide +kernel
theorem dX5_road_139 : decode cX5_road 139 = .ok (.iload 6, 2) := by decide +kernel
theorem dX5_road_141 : decode cX5_road 141 = .ok (.iconst 1, 1) := by decide +kernel
theorem dX5_road_142 : decode cX5_road 142 = .ok (.isub, 1) := by decide +kernel
theorem dX5_road_143 : decode cX5_road 143 = .ok (.iaload, 1) := by decide +kernel
theorem dX5_road_144 : decode cX5_road 144 = .ok (.iastore, 1) := by decide +kernel
theorem dX5_road_145 : decode cX5_road 145 = .ok (.aload_n 0, 1) := by decide +kernel
theorem dX5_road_146 : decode cX5_road 146 = .ok (.getfield 23, 3) := by decide +kernel
theorem dX5_road_149 : decode cX5_road 149 = .ok (.iload 6, 2) := by decide +kernel
theorem dX5_road_151 : decode cX5_road 151 = .ok (.aload_n 0, 1) := by decide +kernel
theorem dX5_road_152 : decode cX5_road 152 = .ok (.getfield 23, 3) := by decide +kernel
theorem dX5_road_155 : decode cX5_road 155 = .ok (.iload 6, 2) := by decide +kernel
theorem dX5_road_157 : decode cX5_road 157 = .ok (.iconst 1, 1) := by decide +kernel
theorem dX5_road_158 : decode cX5_road 158 = .ok (.isub, 1) := by decide +kernel
theorem dX5_road_159 : decode cX5_road 159 = .ok (.baload, 1) := by decide +kernel
theorem dX5_road_160 : decode cX5_road 160 = .ok (.bastore, 1) := by decide +kernel
theorem dX5_road_161 : decode cX5_road 161 = .ok (.iinc 6 (-1), 3) := by decide +kernel
theorem dX5_road_164 : decode cX5_road 164 = .ok (.goto (-74), 3) := by decide +kernel
theorem dX5_road_167 : decode cX5_road 167 = .ok (.aload_n 0, 1) := by decide +kernel
theorem dX5_road_168 : decode cX5_road 168 = .ok (.getfield 13, 3) := by decide +kernel
theorem dX5_road_171 : decode cX5_road 171 = .ok (.iload 5, 2) := by decide +kernel
theorem dX5_road_173 : decode cX5_road 173 = .ok (.iload_n 1, 1) := by decide +kernel
theorem dX5_road_174 : decode cX5_road 174 = .ok (.iload_n 2, 1) := by decide +kernel
theorem dX5_road_175 : decode cX5_road 175 = .ok (.invokestatic 61, 3) := by decide +kernel
theorem dX5_road_178 : decode cX5_road 178 = .ok (.iastore, 1) := by decide +kernel
theorem dX5_road_179 : decode cX5_road 179 = .ok (.aload_n 0, 1) := by decide +kernel
theorem dX5_road_180 : decode cX5_road 180 = .ok (.getfield 17, 3) := by decide +kernel
theorem dX5_road_183 : decode cX5_road 183 = .ok (.iload 5, 2) := by decide +kernel
theorem dX5_road_185 : decode cX5_road 185 = .ok (.iload_n 1, 1) := by decide +kernel
theorem dX5_road_186 : decode cX5_road 186 = .ok (.iload_n 2, 1) := by decide +kernel
theorem dX5_road_187 : decode cX5_road 187 = .ok (.invokestatic 67, 3) := by decide +kernel
theorem dX5_road_190 : decode cX5_road 190 = .ok (.iastore, 1) := by decide +kernel
theorem dX5_road_191 : decode cX5_road 191 = .ok (.aload_n 0, 1) := by decide +kernel
theorem dX5_road_192 : decode cX5_road 192 = .ok (.getfield 20, 3) := by decide +kernel
theorem dX5_road_195 : decode cX5_road 195 = .ok (.iload 5, 2) := by decide +kernel
theorem dX5_road_197 : decode cX5_road 197 = .ok (.iload_n 3, 1) := by decide +kernel
theorem dX5_road_198 : decode cX5_road 198 = .ok (.iastore, 1) := by decide +kernel
theorem dX5_road_199 : decode cX5_road 199 = .ok (.aload_n 0, 1) := by decide +kernel
theorem dX5_road_200 : decode cX5_road 200 = .ok (.getfield 23, 3) := by decide +kernel
theorem dX5_road_203 : decode cX5_road 203 = .ok (.iload 5, 2) := by decide +kernel
theorem dX5_road_205 : decode cX5_road 205 = .ok (.iconst 0, 1) := by decide +kernel
theorem dX5_road_206 : decode cX5_road 206 = .ok (.bastore, 1) := by decide +kernel
theorem dX5_road_207 : decode cX5_road 207 = .ok (.aload_n 0, 1) := by decide +kernel
theorem dX5_road_208 : decode cX5_road 208 = .ok (.dup, 1) := by decide +kernel
theorem dX5_road_209 : decode cX5_road 209 = .ok (.getfield 52, 3) := by decide +kernel
theorem dX5_road_212 : decode cX5_road 212 = .ok (.iconst 1, 1) := by decide +kernel
theorem dX5_road_213 : decode cX5_road 213 = .ok (.iadd, 1) := by decide +kernel
theorem dX5_road_214 : decode cX5_road 214 = .ok (.putfield 52, 3) := by decide +kernel
theorem dX5_road_217 : decode cX5_road 217 = .ok (.aload_n 0, 1) := by decide +kernel
theorem dX5_road_218 : decode cX5_road 218 = .ok (.getfield 52, 3) := by decide +kernel
theorem dX5_road_221 : decode cX5_road 221 = .ok (.ireturn, 1) := by decide +kernel
set_option maxRecDepth 20000 in
theorem ggX5_close_X5_find : GoodIn wsX5_close wsX5_find := goodIn_r _ [6, 7, 8, 9, 10, 11, 12, 13, 14, 15, 16, 17, 18, 19, 5, 20, 21, 22, 23, 24, 25, 26, 27, 28, 29, 30, 31, 32, 33, 34, 35, 36, 37, 38, 39, 40, 41] (by decide +kernel) (by decide +kernel)
set_option maxRecDepth 20000 in
theorem gX5_close_X5_find : GoodIn wsX5_close (wsV RX5 82 RX5 yX5_find wsX5_find) := goodIn_app (goodIn_of _ (by decide +kernel)) ggX5_close_X5_find
theorem dX5_close_0 : decode cX5_close 0 = .ok (.aload_n 0, 1) := by decide +kernel
theorem dX5_close_1 : decode cX5_close 1 = .ok (.iload_n 1, 1) := by decide +kernel
theorem dX5_close_2 : decode cX5_close 2 = .ok (.iload_n 2, 1) := by decide +kernel
theorem dX5_close_3 : decode cX5_close 3 = .ok (.invokevirtual 82, 3) := by decide +kernel
theorem dX5_close_6 : decode cX5_close 6 = .ok (.istore 4, 2) := by decide +kernel
theorem dX5_close_8 : decode cX5_close 8 = .ok (.iload 4, 2) := by decide +kernel
theorem dX5_close_10 : decode cX5_close 10 = .ok (.ifCond .lt 14, 3) := by decide +kernel
theorem dX5_close_13 : decode cX5_close 13 = .ok (.aload_n 0, 1) := by decide +kernel
theorem dX5_close_14 : decode cX5_close 14 = .ok (.getfield 23, 3) := by decide +kernel
theorem dX5_close_17 : decode cX5_close 17 = .ok (.iload 4, 2) := by decide +kernel
theorem dX5_close_19 : decode cX5_close 19 = .ok (.baload, 1) := by decide +kernel
theorem dX5_close_20 : decode cX5_close 20 = .ok (.iload_n 3, 1) := by decide +kernel
theorem dX5_close_21 : decode cX5_close 21 = .ok (.if_icmp .ne 5, 3) := by decide +kernel
theorem dX5_close_24 : decode cX5_close 24 = .ok (.iconst 0, 1) := by decide +kernel
theorem dX5_close_25 : decode cX5_close 25 = .ok (.ireturn, 1) := by decide +kernel
theorem dX5_close_26 : decode cX5_close 26 = .ok (.aload_n 0, 1) := by decide +kernel
theorem dX5_close_27 : decode cX5_close 27 = .ok (.getfield 23, 3) := by decide +kernel
theorem dX5_close_30 : decode cX5_close 30 = .ok (.iload 4, 2) := by decide +kernel
theorem dX5_close_32 : decode cX5_close 32 = .ok (.iload_n 3, 1) := by decide +kernel
theorem dX5_close_33 : decode cX5_close 33 = .ok (.bastore, 1) := by decide +kernel
theorem dX5_close_34 : decode cX5_close 34 = .ok (.iconst 1, 1) := by decide +kernel
theorem dX5_close_35 : decode cX5_close 35 = .ok (.ireturn, 1) := by decide +kernel
set_option maxRecDepth 20000 in
theorem ggX5_cost_X5_find : GoodIn wsX5_cost wsX5_find := goodIn_r _ [7, 8, 9, 10, 11, 12, 13, 14, 15, 16, 17, 18, 19, 20, 6, 21, 22, 23, 24, 25, 26, 27, 28, 29, 30, 31, 32, 33, 34, 35, 36, 37, 38, 39, 40, 41, 42] (by decide +kernel) (by decide +kernel)
set_option maxRecDepth 20000 in
theorem gX5_cost_X5_find : GoodIn wsX5_cost (wsV RX5 82 RX5 yX5_find wsX5_find) := goodIn_app (goodIn_of _ (by decide +kernel)) ggX5_cost_X5_find
theorem dX5_cost_0 : decode cX5_cost 0 = .ok (.aload_n 0, 1) := by decide +kernel
theorem dX5_cost_1 : decode cX5_cost 1 = .ok (.iload_n 1, 1) := by decide +kernel
theorem dX5_cost_2 : decode cX5_cost 2 = .ok (.iload_n 2, 1) := by decide +kernel
theorem dX5_cost_3 : decode cX5_cost 3 = .ok (.invokevirtual 82, 3) := by decide +kernel
theorem dX5_cost_6 : decode cX5_cost 6 = .ok (.istore_n 3, 1) := by decide +kernel
theorem dX5_cost_7 : decode cX5_cost 7 = .ok (.iload_n 3, 1) := by decide +kernel
theorem dX5_cost_8 : decode cX5_cost 8 = .ok (.ifCond .ge 7, 3) := by decide +kernel
theorem dX5_cost_11 : decode cX5_cost 11 = .ok (.iconst 0, 1) := by decide +kernel
theorem dX5_cost_12 : decode cX5_cost 12 = .ok (.goto 28, 3) := by decide +kernel
theorem dX5_cost_15 : decode cX5_cost 15 = .ok (.aload_n 0, 1) := by decide +kernel
theorem dX5_cost_16 : decode cX5_cost 16 = .ok (.getfield 23, 3) := by decide +kernel
theorem dX5_cost_19 : decode cX5_cost 19 = .ok (.iload_n 3, 1) := by decide +kernel
theorem dX5_cost_20 : decode cX5_cost 20 = .ok (.baload, 1) := by decide +kernel
theorem dX5_cost_21 : decode cX5_cost 21 = .ok (.ifCond .eq 13, 3) := by decide +kernel
theorem dX5_cost_24 : decode cX5_cost 24 = .ok (.aload_n 0, 1) := by decide +kernel
theorem dX5_cost_25 : decode cX5_cost 25 = .ok (.getfield 20, 3) := by decide +kernel
theorem dX5_cost_28 : decode cX5_cost 28 = .ok (.iload_n 3, 1) := by decide +kernel
theorem dX5_cost_29 : decode cX5_cost 29 = .ok (.iaload, 1) := by decide +kernel
theorem dX5_cost_30 : decode cX5_cost 30 = .ok (.ineg, 1) := by decide +kernel
theorem dX5_cost_31 : decode cX5_cost 31 = .ok (.goto 9, 3) := by decide +kernel
theorem dX5_cost_34 : decode cX5_cost 34 = .ok (.aload_n 0, 1) := by decide +kernel
theorem dX5_cost_35 : decode cX5_cost 35 = .ok (.getfield 20, 3) := by decide +kernel
theorem dX5_cost_38 : decode cX5_cost 38 = .ok (.iload_n 3, 1) := by decide +kernel
theorem dX5_cost_39 : decode cX5_cost 39 = .ok (.iaload, 1) := by decide +kernel
theorem dX5_cost_40 : decode cX5_cost 40 = .ok (.ireturn, 1) := by decide +kernel
theorem dX5_barAt_0 : decode cX5_barAt 0 = .ok (.iconst 0, 1) := by decide +kernel
theorem dX5_barAt_1 : decode cX5_barAt 1 = .ok (.istore 4, 2) := by decide +kernel
theorem dX5_barAt_3 : decode cX5_barAt 3 = .ok (.iload 4, 2) := by decide +kernel
theorem dX5_barAt_5 : decode cX5_barAt 5 = .ok (.aload_n 0, 1) := by decide +kernel
theorem dX5_barAt_6 : decode cX5_barAt 6 = .ok (.getfield 55, 3) := by decide +kernel
theorem dX5_barAt_9 : decode cX5_barAt 9 = .ok (.if_icmp .ge 55, 3) := by decide +kernel
theorem dX5_barAt_12 : decode cX5_barAt 12 = .ok (.aload_n 0, 1) := by decide +kernel
theorem dX5_barAt_13 : decode cX5_barAt 13 = .ok (.getfield 27, 3) := by decide +kernel
theorem dX5_barAt_16 : decode cX5_barAt 16 = .ok (.iconst 3, 1) := by decide +kernel
theorem dX5_barAt_17 : decode cX5_barAt 17 = .ok (.iload 4, 2) := by decide +kernel
theorem dX5_barAt_19 : decode cX5_barAt 19 = .ok (.imul, 1) := by decide +kernel
theorem dX5_barAt_20 : decode cX5_barAt 20 = .ok (.iaload, 1) := by decide +kernel
theorem dX5_barAt_21 : decode cX5_barAt 21 = .ok (.iload_n 1, 1) := by decide +kernel
theorem dX5_barAt_22 : decode cX5_barAt 22 = .ok (.if_icmp .ne 36, 3) := by decide +kernel
theorem dX5_barAt_25 : decode cX5_barAt 25 = .ok (.aload_n 0, 1) := by decide +kernel
theorem dX5_barAt_26 : decode cX5_barAt 26 = .ok (.getfield 27, 3) := by decide +kernel
theorem dX5_barAt_29 : decode cX5_barAt 29 = .ok (.iconst 3, 1) := by decide +kernel
theorem dX5_barAt_30 : decode cX5_barAt 30 = .ok (.iload 4, 2) := by decide +kernel
theorem dX5_barAt_32 : decode cX5_barAt 32 = .ok (.imul, 1) := by decide +kernel
theorem dX5_barAt_33 : decode cX5_barAt 33 = .ok (.iconst 1, 1) := by decide +kernel
theorem dX5_barAt_34 : decode cX5_barAt 34 = .ok (.iadd, 1) := by decide +kernel
theorem dX5_barAt_35 : decode cX5_barAt 35 = .ok (.iaload, 1) := by decide +kernel
theorem dX5_barAt_36 : decode cX5_barAt 36 = .ok (.iload_n 2, 1) := by decide +kernel
theorem dX5_barAt_37 : decode cX5_barAt 37 = .ok (.if_icmp .ne 21, 3) := by decide +kernel
theorem dX5_barAt_40 : decode cX5_barAt 40 = .ok (.aload_n 0, 1) := by decide +kernel
theorem dX5_barAt_41 : decode cX5_barAt 41 = .ok (.getfield 27, 3) := by decide +kernel
theorem dX5_barAt_44 : decode cX5_barAt 44 = .ok (.iconst 3, 1) := by decide +kernel
theorem dX5_barAt_45 : decode cX5_barAt 45 = .ok (.iload 4, 2) := by decide +kernel
theorem dX5_barAt_47 : decode cX5_barAt 47 = .ok (.imul, 1) := by decide +kernel
theorem dX5_barAt_48 : decode cX5_barAt 48 = .ok (.iconst 2, 1) := by decide +kernel
theorem dX5_barAt_49 : decode cX5_barAt 49 = .ok (.iadd, 1) := by decide +kernel
theorem dX5_barAt_50 : decode cX5_barAt 50 = .ok (.iaload, 1) := by decide +kernel
theorem dX5_barAt_51 : decode cX5_barAt 51 = .ok (.iload_n 3, 1) := by decide +kernel
theorem dX5_barAt_52 : decode cX5_barAt 52 = .ok (.if_icmp .ne 6, 3) := by decide +kernel
theorem dX5_barAt_55 : decode cX5_barAt 55 = .ok (.iload 4, 2) := by decide +kernel
theorem dX5_barAt_57 : decode cX5_barAt 57 = .ok (.ireturn, 1) := by decide +kernel
theorem dX5_barAt_58 : decode cX5_barAt 58 = .ok (.iinc 4 1, 3) := by decide +kernel
theorem dX5_barAt_61 : decode cX5_barAt 61 = .ok (.goto (-58), 3) := by decide +kernel
theorem dX5_barAt_64 : decode cX5_barAt 64 = .ok (.iconst (-1), 1) := by decide +kernel
theorem dX5_barAt_65 : decode cX5_barAt 65 = .ok (.ireturn, 1) := by decide +kernel
set_option maxRecDepth 20000 in
theorem ggX5_bar_X5_isNode : GoodIn wsX5_bar wsX5_isNode := goodIn_r _ [7, 8, 13, 14, 15, 16, 17, 18, 19, 20, 21, 22, 23, 24, 25, 26, 27, 28, 29] (by decide +kernel) (by decide +kernel)
set_option maxRecDepth 20000 in
theorem gX5_bar_X5_isNode : GoodIn wsX5_bar (wsV RX5 77 RX5 yX5_isNode wsX5_isNode) := goodIn_app (goodIn_of _ (by decide +kernel)) ggX5_bar_X5_isNode
set_option maxRecDepth 20000 in
theorem ggX5_bar_X5_barAt : GoodIn wsX5_bar wsX5_barAt := goodIn_r _ [12, 1, 2, 13, 14, 15, 16, 17, 18, 19, 20, 21, 22, 23, 24, 25, 26, 27, 28, 29] (by decide +kernel) (by decide +kernel)
set_option maxRecDepth 20000 in
theorem gX5_bar_X5_barAt : GoodIn wsX5_bar (wsV RX5 85 RX5 yX5_barAt wsX5_barAt) := goodIn_app (goodIn_of _ (by decide +kernel)) ggX5_bar_X5_barAt
theorem dX5_bar_0 : decode cX5_bar 0 = .ok (.aload_n 0, 1) := by decide +kernel
theorem dX5_bar_1 : decode cX5_bar 1 = .ok (.iload_n 1, 1) := by decide +kernel
theorem dX5_bar_2 : decode cX5_bar 2 = .ok (.invokevirtual 77, 3) := by decide +kernel
theorem dX5_bar_5 : decode cX5_bar 5 = .ok (.ifCond .eq 29, 3) := by decide +kernel
theorem dX5_bar_8 : decode cX5_bar 8 = .ok (.aload_n 0, 1) := by decide +kernel
theorem dX5_bar_9 : decode cX5_bar 9 = .ok (.iload_n 2, 1) := by decide +kernel
theorem dX5_bar_10 : decode cX5_bar 10 = .ok (.invokevirtual 77, 3) := by decide +kernel
theorem dX5_bar_13 : decode cX5_bar 13 = .ok (.ifCond .eq 21, 3) := by decide +kernel
theorem dX5_bar_16 : decode cX5_bar 16 = .ok (.aload_n 0, 1) := by decide +kernel
theorem dX5_bar_17 : decode cX5_bar 17 = .ok (.iload_n 3, 1) := by decide +kernel
theorem dX5_bar_18 : decode cX5_bar 18 = .ok (.invokevirtual 77, 3) := by decide +kernel
theorem dX5_bar_21 : decode cX5_bar 21 = .ok (.ifCond .eq 13, 3) := by decide +kernel
theorem dX5_bar_24 : decode cX5_bar 24 = .ok (.iload_n 1, 1) := by decide +kernel
theorem dX5_bar_25 : decode cX5_bar 25 = .ok (.iload_n 2, 1) := by decide +kernel
theorem dX5_bar_26 : decode cX5_bar 26 = .ok (.if_icmp .eq 8, 3) := by decide +kernel
theorem dX5_bar_29 : decode cX5_bar 29 = .ok (.iload_n 2, 1) := by decide +kernel
theorem dX5_bar_30 : decode cX5_bar 30 = .ok (.iload_n 3, 1) := by decide +kernel
theorem dX5_bar_31 : decode cX5_bar 31 = .ok (.if_icmp .ne 6, 3) := by decide +kernel
theorem dX5_bar_34 : decode cX5_bar 34 = .ok (.bipush (-14), 2) := by decide +kernel
theorem dX5_bar_36 : decode cX5_bar 36 = .ok (.ireturn, 1) := by decide +kernel
theorem dX5_bar_37 : decode cX5_bar 37 = .ok (.aload_n 0, 1) := by decide +kernel
theorem dX5_bar_38 : decode cX5_bar 38 = .ok (.iload_n 1, 1) := by decide +kernel
theorem dX5_bar_39 : decode cX5_bar 39 = .ok (.iload_n 2, 1) := by decide +kernel
theorem dX5_bar_40 : decode cX5_bar 40 = .ok (.iload_n 3, 1) := by decide +kernel
theorem dX5_bar_41 : decode cX5_bar 41 = .ok (.invokevirtual 85, 3) := by decide +kernel
theorem dX5_bar_44 : decode cX5_bar 44 = .ok (.istore 5, 2) := by decide +kernel
theorem dX5_bar_46 : decode cX5_bar 46 = .ok (.iload 5, 2) := by decide +kernel
theorem dX5_bar_48 : decode cX5_bar 48 = .ok (.ifCond .lt 7, 3) := by decide +kernel
theorem dX5_bar_51 : decode cX5_bar 51 = .ok (.iconst 1, 1) := by decide +kernel
theorem dX5_bar_52 : decode cX5_bar 52 = .ok (.goto 4, 3) := by decide +kernel
theorem dX5_bar_55 : decode cX5_bar 55 = .ok (.iconst 0, 1) := by decide +kernel
theorem dX5_bar_56 : decode cX5_bar 56 = .ok (.iload 4, 2) := by decide +kernel
theorem dX5_bar_58 : decode cX5_bar 58 = .ok (.if_icmp .ne 8, 3) := by decide +kernel
theorem dX5_bar_61 : decode cX5_bar 61 = .ok (.aload_n 0, 1) := by decide +kernel
theorem dX5_bar_62 : decode cX5_bar 62 = .ok (.getfield 55, 3) := by decide +kernel
theorem dX5_bar_65 : decode cX5_bar 65 = .ok (.ireturn, 1) := by decide +kernel
theorem dX5_bar_66 : decode cX5_bar 66 = .ok (.iload 4, 2) := by decide +kernel
theorem dX5_bar_68 : decode cX5_bar 68 = .ok (.ifCond .ne 59, 3) := by decide +kernel
theorem dX5_bar_71 : decode cX5_bar 71 = .ok (.aload_n 0, 1) := by decide +kernel
theorem dX5_bar_72 : decode cX5_bar 72 = .ok (.dup, 1) := by decide +kernel
theorem dX5_bar_73 : decode cX5_bar 73 = .ok (.getfield 55, 3) := by decide +kernel
theorem dX5_bar_76 : decode cX5_bar 76 = .ok (.iconst 1, 1) := by decide +kernel
theorem dX5_bar_77 : decode cX5_bar 77 = .ok (.isub, 1) := by decide +kernel
theorem dX5_bar_78 : decode cX5_bar 78 = .ok (.putfield 55, 3) := by decide +kernel
theorem dX5_bar_81 : decode cX5_bar 81 = .ok (.iconst 0, 1) := by decide +kernel
theorem dX5_bar_82 : decode cX5_bar 82 = .ok (.istore 6, 2) := by decide +kernel
theorem dX5_bar_84 : decode cX5_bar 84 = .ok (.iload 6, 2) := by decide +kernel
theorem dX5_bar_86 : decode cX5_bar 86 = .ok (.iconst 3, 1) := by decide +kernel
theorem dX5_bar_87 : decode cX5_bar 87 = .ok (.if_icmp .ge 35, 3) := by decide +kernel
theorem dX5_bar_90 : decode cX5_bar 90 = .ok (.aload_n 0, 1) := by decide +kernel
theorem dX5_bar_91 : decode cX5_bar 91 = .ok (.getfield 27, 3) := by decide +kernel
theorem dX5_bar_94 : decode cX5_bar 94 = .ok (.iconst 3, 1) := by decide +kernel
theorem dX5_bar_95 : decode cX5_bar 95 = .ok (.iload 5, 2) := by decide +kernel
theorem dX5_bar_97 : decode cX5_bar 97 = .ok (.imul, 1) := by decide +kernel
theorem dX5_bar_98 : decode cX5_bar 98 = .ok (.iload 6, 2) := by decide +kernel
theorem dX5_bar_100 : decode cX5_bar 100 = .ok (.iadd, 1) := by decide +kernel
theorem dX5_bar_101 : decode cX5_bar 101 = .ok (.aload_n 0, 1) := by decide +kernel
theorem dX5_bar_102 : decode cX5_bar 102 = .ok (.getfield 27, 3) := by decide +kernel
theorem dX5_bar_105 : decode cX5_bar 105 = .ok (.iconst 3, 1) := by decide +kernel
theorem dX5_bar_106 : decode cX5_bar 106 = .ok (.aload_n 0, 1) := by decide +kernel
theorem dX5_bar_107 : decode cX5_bar 107 = .ok (.getfield 55, 3) := by decide +kernel
theorem dX5_bar_110 : decode cX5_bar 110 = .ok (.imul, 1) := by decide +kernel
theorem dX5_bar_111 : decode cX5_bar 111 = .ok (.iload 6, 2) := by decide +kernel
theorem dX5_bar_113 : decode cX5_bar 113 = .ok (.iadd, 1) := by decide +kernel
theorem dX5_bar_114 : decode cX5_bar 114 = .ok (.iaload, 1) := by decide +kernel
theorem dX5_bar_115 : decode cX5_bar 115 = .ok (.iastore, 1) := by decide +kernel
theorem dX5_bar_116 : decode cX5_bar 116 = .ok (.iinc 6 1, 3) := by decide +kernel
theorem dX5_bar_119 : decode cX5_bar 119 = .ok (.goto (-35), 3) := by decide +kernel
theorem dX5_bar_122 : decode cX5_bar 122 = .ok (.aload_n 0, 1) := by decide +kernel
theorem dX5_bar_123 : decode cX5_bar 123 = .ok (.getfield 55, 3) := by decide +kernel
theorem dX5_bar_126 : decode cX5_bar 126 = .ok (.ireturn, 1) := by decide +kernel
theorem dX5_bar_127 : decode cX5_bar 127 = .ok (.aload_n 0, 1) := by decide +kernel
theorem dX5_bar_128 : decode cX5_bar 128 = .ok (.getfield 55, 3) := by decide +kernel
theorem dX5_bar_131 : decode cX5_bar 131 = .ok (.sipush 200, 3) := by decide +kernel
theorem dX5_bar_134 : decode cX5_bar 134 = .ok (.if_icmp .ne 6, 3) := by decide +kernel
theorem dX5_bar_137 : decode cX5_bar 137 = .ok (.bipush (-12), 2) := by decide +kernel
theorem dX5_bar_139 : decode cX5_bar 139 = .ok (.ireturn, 1) := by decide +kernel
theorem dX5_bar_140 : decode cX5_bar 140 = .ok (.aload_n 0, 1) := by decide +kernel
theorem dX5_bar_141 : decode cX5_bar 141 = .ok (.getfield 27, 3) := by decide +kernel
theorem dX5_bar_144 : decode cX5_bar 144 = .ok (.iconst 3, 1) := by decide +kernel
theorem dX5_bar_145 : decode cX5_bar 145 = .ok (.aload_n 0, 1) := by decide +kernel
theorem dX5_bar_146 : decode cX5_bar 146 = .ok (.getfield 55, 3) := by decide +kernel
theorem dX5_bar_149 : decode cX5_bar 149 = .ok (.imul, 1) := by decide +kernel
theorem dX5_bar_150 : decode cX5_bar 150 = .ok (.iload_n 1, 1) := by decide +kernel
theorem dX5_bar_151 : decode cX5_bar 151 = .ok (.iastore, 1) := by decide +kernel
theorem dX5_bar_152 : decode cX5_bar 152 = .ok (.aload_n 0, 1) := by decide +kernel
theorem dX5_bar_153 : decode cX5_bar 153 = .ok (.getfield 27, 3) := by decide +kernel
theorem dX5_bar_156 : decode cX5_bar 156 = .ok (.iconst 3, 1) := by decide +kernel
theorem dX5_bar_157 : decode cX5_bar 157 = .ok (.aload_n 0, 1) := by decide +kernel
theorem dX5_bar_158 : decode cX5_bar 158 = .ok (.getfield 55, 3) := by decide +kernel
theorem dX5_bar_161 : decode cX5_bar 161 = .ok (.imul, 1) := by decide +kernel
theorem dX5_bar_162 : decode cX5_bar 162 = .ok (.iconst 1, 1) := by decide +kernel
theorem dX5_bar_163 : decode cX5_bar 163 = .ok (.iadd, 1) := by decide +kernel
theorem dX5_bar_164 : decode cX5_bar 164 = .ok (.iload_n 2, 1) := by decide +kernel
theorem dX5_bar_165 : decode cX5_bar 165 = .ok (.iastore, 1) := by decide +kernel
theorem dX5_bar_166 : decode cX5_bar 166 = .ok (.aload_n 0, 1) := by decide +kernel
theorem dX5_bar_167 : decode cX5_bar 167 = .ok (.getfield 27, 3) := by decide +kernel
theorem dX5_bar_170 : decode cX5_bar 170 = .ok (.iconst 3, 1) := by decide +kernel
theorem dX5_bar_171 : decode cX5_bar 171 = .ok (.aload_n 0, 1) := by decide +kernel
theorem dX5_bar_172 : decode cX5_bar 172 = .ok (.getfield 55, 3) := by decide +kernel
theorem dX5_bar_175 : decode cX5_bar 175 = .ok (.imul, 1) := by decide +kernel
theorem dX5_bar_176 : decode cX5_bar 176 = .ok (.iconst 2, 1) := by decide +kernel
theorem dX5_bar_177 : decode cX5_bar 177 = .ok (.iadd, 1) := by decide +kernel
theorem dX5_bar_178 : decode cX5_bar 178 = .ok (.iload_n 3, 1) := by decide +kernel
theorem dX5_bar_179 : decode cX5_bar 179 = .ok (.iastore, 1) := by decide +kernel
theorem dX5_bar_180 : decode cX5_bar 180 = .ok (.aload_n 0, 1) := by decide +kernel
theorem dX5_bar_181 : decode cX5_bar 181 = .ok (.dup, 1) := by decide +kernel
theorem dX5_bar_182 : decode cX5_bar 182 = .ok (.getfield 55, 3) := by decide +kernel
theorem dX5_bar_185 : decode cX5_bar 185 = .ok (.iconst 1, 1) := by decide +kernel
theorem dX5_bar_186 : decode cX5_bar 186 = .ok (.iadd, 1) := by decide +kernel
theorem dX5_bar_187 : decode cX5_bar 187 = .ok (.putfield 55, 3) := by decide +kernel
theorem dX5_bar_190 : decode cX5_bar 190 = .ok (.aload_n 0, 1) := by decide +kernel
theorem dX5_bar_191 : decode cX5_bar 191 = .ok (.getfield 55, 3) := by decide +kernel
theorem dX5_bar_194 : decode cX5_bar 194 = .ok (.ireturn, 1) := by decide +kernel
theorem dX5_start_0 : decode cX5_start 0 = .ok (.iload_n 1, 1) := by decide +kernel
theorem dX5_start_1 : decode cX5_start 1 = .ok (.iconst 2, 1) := by decide +kernel
theorem dX5_start_2 : decode cX5_start 2 = .ok (.irem, 1) := by decide +kernel
theorem dX5_start_3 : decode cX5_start 3 = .ok (.ifCond .ne 14, 3) := by decide +kernel
theorem dX5_start_6 : decode cX5_start 6 = .ok (.aload_n 0, 1) := by decide +kernel
theorem dX5_start_7 : decode cX5_start 7 = .ok (.getfield 13, 3) := by decide +kernel
theorem dX5_start_10 : decode cX5_start 10 = .ok (.iload_n 1, 1) := by decide +kernel
theorem dX5_start_11 : decode cX5_start 11 = .ok (.iconst 2, 1) := by decide +kernel
theorem dX5_start_12 : decode cX5_start 12 = .ok (.idiv, 1) := by decide +kernel
theorem dX5_start_13 : decode cX5_start 13 = .ok (.iaload, 1) := by decide +kernel
theorem dX5_start_14 : decode cX5_start 14 = .ok (.goto 11, 3) := by decide +kernel
theorem dX5_start_17 : decode cX5_start 17 = .ok (.aload_n 0, 1) := by decide +kernel
theorem dX5_start_18 : decode cX5_start 18 = .ok (.getfield 17, 3) := by decide +kernel
theorem dX5_start_21 : decode cX5_start 21 = .ok (.iload_n 1, 1) := by decide +kernel
theorem dX5_start_22 : decode cX5_start 22 = .ok (.iconst 2, 1) := by decide +kernel
theorem dX5_start_23 : decode cX5_start 23 = .ok (.idiv, 1) := by decide +kernel
theorem dX5_start_24 : decode cX5_start 24 = .ok (.iaload, 1) := by decide +kernel
theorem dX5_start_25 : decode cX5_start 25 = .ok (.ireturn, 1) := by decide +kernel
set_option maxRecDepth 20000 in
theorem ggX5_end_X5_start : GoodIn wsX5_end wsX5_start := goodIn_r _ [5, 6, 7, 8, 9, 10, 11, 12, 13, 14, 15, 16, 17, 18, 19, 20, 21, 22, 23, 24] (by decide +kernel) (by decide +kernel)
set_option maxRecDepth 20000 in
theorem gX5_end_X5_start : GoodIn wsX5_end (wsV RX5 89 RX5 yX5_start wsX5_start) := goodIn_app (goodIn_of _ (by decide +kernel)) ggX5_end_X5_start
theorem dX5_end_0 : decode cX5_end 0 = .ok (.aload_n 0, 1) := by decide +kernel
theorem dX5_end_1 : decode cX5_end 1 = .ok (.iload_n 1, 1) := by decide +kernel
theorem dX5_end_2 : decode cX5_end 2 = .ok (.iconst 1, 1) := by decide +kernel
theorem dX5_end_3 : decode cX5_end 3 = .ok (.ixor, 1) := by decide +kernel
theorem dX5_end_4 : decode cX5_end 4 = .ok (.invokevirtual 89, 3) := by decide +kernel
theorem dX5_end_7 : decode cX5_end 7 = .ok (.ireturn, 1) := by decide +kernel
theorem dX5_isLess_0 : decode cX5_isLess 0 = .ok (.aload_n 0, 1) := by decide +kernel
theorem dX5_isLess_1 : decode cX5_isLess 1 = .ok (.getfield 30, 3) := by decide +kernel
theorem dX5_isLess_4 : decode cX5_isLess 4 = .ok (.iload_n 1, 1) := by decide +kernel
theorem dX5_isLess_5 : decode cX5_isLess 5 = .ok (.laload, 1) := by decide +kernel
theorem dX5_isLess_6 : decode cX5_isLess 6 = .ok (.aload_n 0, 1) := by decide +kernel
theorem dX5_isLess_7 : decode cX5_isLess 7 = .ok (.getfield 30, 3) := by decide +kernel
theorem dX5_isLess_10 : decode cX5_isLess 10 = .ok (.iload_n 2, 1) := by decide +kernel
theorem dX5_isLess_11 : decode cX5_isLess 11 = .ok (.laload, 1) := by decide +kernel
theorem dX5_isLess_12 : decode cX5_isLess 12 = .ok (.lcmp, 1) := by decide +kernel
theorem dX5_isLess_13 : decode cX5_isLess 13 = .ok (.ifCond .eq 27, 3) := by decide +kernel
theorem dX5_isLess_16 : decode cX5_isLess 16 = .ok (.aload_n 0, 1) := by decide +kernel
theorem dX5_isLess_17 : decode cX5_isLess 17 = .ok (.getfield 30, 3) := by decide +kernel
theorem dX5_isLess_20 : decode cX5_isLess 20 = .ok (.iload_n 1, 1) := by decide +kernel
theorem dX5_isLess_21 : decode cX5_isLess 21 = .ok (.laload, 1) := by decide +kernel
theorem dX5_isLess_22 : decode cX5_isLess 22 = .ok (.aload_n 0, 1) := by decide +kernel
theorem dX5_isLess_23 : decode cX5_isLess 23 = .ok (.getfield 30, 3) := by decide +kernel
theorem dX5_isLess_26 : decode cX5_isLess 26 = .ok (.iload_n 2, 1) := by decide +kernel
theorem dX5_isLess_27 : decode cX5_isLess 27 = .ok (.laload, 1) := by decide +kernel
theorem dX5_isLess_28 : decode cX5_isLess 28 = .ok (.lcmp, 1) := by decide +kernel
theorem dX5_isLess_29 : decode cX5_isLess 29 = .ok (.ifCond .ge 7, 3) := by decide +kernel
theorem dX5_isLess_32 : decode cX5_isLess 32 = .ok (.iconst 1, 1) := by decide +kernel
theorem dX5_isLess_33 : decode cX5_isLess 33 = .ok (.goto 27, 3) := by decide +kernel
theorem dX5_isLess_36 : decode cX5_isLess 36 = .ok (.iconst 0, 1) := by decide +kernel
theorem dX5_isLess_37 : decode cX5_isLess 37 = .ok (.goto 23, 3) := by decide +kernel
theorem dX5_isLess_40 : decode cX5_isLess 40 = .ok (.aload_n 0, 1) := by decide +kernel
theorem dX5_isLess_41 : decode cX5_isLess 41 = .ok (.getfield 34, 3) := by decide +kernel
theorem dX5_isLess_44 : decode cX5_isLess 44 = .ok (.iload_n 1, 1) := by decide +kernel
theorem dX5_isLess_45 : decode cX5_isLess 45 = .ok (.iaload, 1) := by decide +kernel
theorem dX5_isLess_46 : decode cX5_isLess 46 = .ok (.aload_n 0, 1) := by decide +kernel
theorem dX5_isLess_47 : decode cX5_isLess 47 = .ok (.getfield 34, 3) := by decide +kernel
theorem dX5_isLess_50 : decode cX5_isLess 50 = .ok (.iload_n 2, 1) := by decide +kernel
theorem dX5_isLess_51 : decode cX5_isLess 51 = .ok (.iaload, 1) := by decide +kernel
theorem dX5_isLess_52 : decode cX5_isLess 52 = .ok (.if_icmp .ge 7, 3) := by decide +kernel
theorem dX5_isLess_55 : decode cX5_isLess 55 = .ok (.iconst 1, 1) := by decide +kernel
theorem dX5_isLess_56 : decode cX5_isLess 56 = .ok (.goto 4, 3) := by decide +kernel
theorem dX5_isLess_59 : decode cX5_isLess 59 = .ok (.iconst 0, 1) := by decide +kernel
theorem dX5_isLess_60 : decode cX5_isLess 60 = .ok (.ireturn, 1) := by decide +kernel
set_option maxRecDepth 20000 in
theorem ggX5_known_X5_isLess : GoodIn wsX5_known wsX5_isLess := goodIn_r _ [11, 1, 3, 12, 13, 14, 15, 16, 17, 18, 19, 20, 21, 22, 23, 24, 25, 26, 27, 28] (by decide +kernel) (by decide +kernel)
set_option maxRecDepth 20000 in
theorem gX5_known_X5_isLess : GoodIn wsX5_known (wsV RX5 96 RX5 yX5_isLess wsX5_isLess) := goodIn_app (goodIn_of _ (by decide +kernel)) ggX5_known_X5_isLess
theorem dX5_known_0 : decode cX5_known 0 = .ok (.aload_n 0, 1) := by decide +kernel
theorem dX5_known_1 : decode cX5_known 1 = .ok (.getfield 30, 3) := by decide +kernel
theorem dX5_known_4 : decode cX5_known 4 = .ok (.iload_n 1, 1) := by decide +kernel
theorem dX5_known_5 : decode cX5_known 5 = .ok (.aload_n 0, 1) := by decide +kernel
theorem dX5_known_6 : decode cX5_known 6 = .ok (.getfield 20, 3) := by decide +kernel
theorem dX5_known_9 : decode cX5_known 9 = .ok (.iload_n 1, 1) := by decide +kernel
theorem dX5_known_10 : decode cX5_known 10 = .ok (.iconst 2, 1) := by decide +kernel
theorem dX5_known_11 : decode cX5_known 11 = .ok (.idiv, 1) := by decide +kernel
theorem dX5_known_12 : decode cX5_known 12 = .ok (.iaload, 1) := by decide +kernel
theorem dX5_known_13 : decode cX5_known 13 = .ok (.i2l, 1) := by decide +kernel
theorem dX5_known_14 : decode cX5_known 14 = .ok (.lload_n 2, 1) := by decide +kernel
theorem dX5_known_15 : decode cX5_known 15 = .ok (.ladd, 1) := by decide +kernel
theorem dX5_known_16 : decode cX5_known 16 = .ok (.lastore, 1) := by decide +kernel
theorem dX5_known_17 : decode cX5_known 17 = .ok (.aload_n 0, 1) := by decide +kernel
theorem dX5_known_18 : decode cX5_known 18 = .ok (.getfield 34, 3) := by decide +kernel
theorem dX5_known_21 : decode cX5_known 21 = .ok (.iload_n 1, 1) := by decide +kernel
theorem dX5_known_22 : decode cX5_known 22 = .ok (.iload 4, 2) := by decide +kernel
theorem dX5_known_24 : decode cX5_known 24 = .ok (.iconst 1, 1) := by decide +kernel
theorem dX5_known_25 : decode cX5_known 25 = .ok (.iadd, 1) := by decide +kernel
theorem dX5_known_26 : decode cX5_known 26 = .ok (.iastore, 1) := by decide +kernel
theorem dX5_known_27 : decode cX5_known 27 = .ok (.aload_n 0, 1) := by decide +kernel
theorem dX5_known_28 : decode cX5_known 28 = .ok (.getfield 37, 3) := by decide +kernel
theorem dX5_known_31 : decode cX5_known 31 = .ok (.iload_n 1, 1) := by decide +kernel
theorem dX5_known_32 : decode cX5_known 32 = .ok (.iconst 1, 1) := by decide +kernel
theorem dX5_known_33 : decode cX5_known 33 = .ok (.bastore, 1) := by decide +kernel
theorem dX5_known_34 : decode cX5_known 34 = .ok (.aload_n 0, 1) := by decide +kernel
theorem dX5_known_35 : decode cX5_known 35 = .ok (.getfield 93, 3) := by decide +kernel
theorem dX5_known_38 : decode cX5_known 38 = .ok (.istore 5, 2) := by decide +kernel
theorem dX5_known_40 : decode cX5_known 40 = .ok (.aload_n 0, 1) := by decide +kernel
theorem dX5_known_41 : decode cX5_known 41 = .ok (.dup, 1) := by decide +kernel
theorem dX5_known_42 : decode cX5_known 42 = .ok (.getfield 93, 3) := by decide +kernel
theorem dX5_known_45 : decode cX5_known 45 = .ok (.iconst 1, 1) := by decide +kernel
theorem dX5_known_46 : decode cX5_known 46 = .ok (.iadd, 1) := by decide +kernel
theorem dX5_known_47 : decode cX5_known 47 = .ok (.putfield 93, 3) := by decide +kernel
theorem dX5_known_50 : decode cX5_known 50 = .ok (.iload 5, 2) := by decide +kernel
theorem dX5_known_52 : decode cX5_known 52 = .ok (.ifCond .le 51, 3) := by decide +kernel
theorem dX5_known_55 : decode cX5_known 55 = .ok (.aload_n 0, 1) := by decide +kernel
theorem dX5_known_56 : decode cX5_known 56 = .ok (.iload_n 1, 1) := by decide +kernel
theorem dX5_known_57 : decode cX5_known 57 = .ok (.aload_n 0, 1) := by decide +kernel
theorem dX5_known_58 : decode cX5_known 58 = .ok (.getfield 46, 3) := by decide +kernel
theorem dX5_known_61 : decode cX5_known 61 = .ok (.iload 5, 2) := by decide +kernel
theorem dX5_known_63 : decode cX5_known 63 = .ok (.iconst 1, 1) := by decide +kernel
