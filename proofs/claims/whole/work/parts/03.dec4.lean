theorem dX5_known_64 : decode cX5_known 64 = .ok (.isub, 1) := by decide +kernel
theorem dX5_known_65 : decode cX5_known 65 = .ok (.iconst 2, 1) := by decide +kernel
theorem dX5_known_66 : decode cX5_known 66 = .ok (.idiv, 1) := by decide +kernel
theorem dX5_known_67 : decode cX5_known 67 = .ok (.iaload, 1) := by decide +kernel
theorem dX5_known_68 : decode cX5_known 68 = .ok (.invokevirtual 96, 3) := by decide +kernel
theorem dX5_known_71 : decode cX5_known 71 = .ok (.ifCond .eq 32, 3) := by decide +kernel
theorem dX5_known_74 : decode cX5_known 74 = .ok (.aload_n 0, 1) := by decide +kernel
theorem dX5_known_75 : decode cX5_known 75 = .ok (.getfield 46, 3) := by decide +kernel
theorem dX5_known_78 : decode cX5_known 78 = .ok (.iload 5, 2) := by decide +kernel
theorem dX5_known_80 : decode cX5_known 80 = .ok (.aload_n 0, 1) := by decide +kernel
theorem dX5_known_81 : decode cX5_known 81 = .ok (.getfield 46, 3) := by decide +kernel
theorem dX5_known_84 : decode cX5_known 84 = .ok (.iload 5, 2) := by decide +kernel
theorem dX5_known_86 : decode cX5_known 86 = .ok (.iconst 1, 1) := by decide +kernel
theorem dX5_known_87 : decode cX5_known 87 = .ok (.isub, 1) := by decide +kernel
theorem dX5_known_88 : decode cX5_known 88 = .ok (.iconst 2, 1) := by decide +kernel
theorem dX5_known_89 : decode cX5_known 89 = .ok (.idiv, 1) := by decide +kernel
theorem dX5_known_90 : decode cX5_known 90 = .ok (.iaload, 1) := by decide +kernel
theorem dX5_known_91 : decode cX5_known 91 = .ok (.iastore, 1) := by decide +kernel
theorem dX5_known_92 : decode cX5_known 92 = .ok (.iload 5, 2) := by decide +kernel
theorem dX5_known_94 : decode cX5_known 94 = .ok (.iconst 1, 1) := by decide +kernel
theorem dX5_known_95 : decode cX5_known 95 = .ok (.isub, 1) := by decide +kernel
theorem dX5_known_96 : decode cX5_known 96 = .ok (.iconst 2, 1) := by decide +kernel
theorem dX5_known_97 : decode cX5_known 97 = .ok (.idiv, 1) := by decide +kernel
theorem dX5_known_98 : decode cX5_known 98 = .ok (.istore 5, 2) := by decide +kernel
theorem dX5_known_100 : decode cX5_known 100 = .ok (.goto (-50), 3) := by decide +kernel
theorem dX5_known_103 : decode cX5_known 103 = .ok (.aload_n 0, 1) := by decide +kernel
theorem dX5_known_104 : decode cX5_known 104 = .ok (.getfield 46, 3) := by decide +kernel
theorem dX5_known_107 : decode cX5_known 107 = .ok (.iload 5, 2) := by decide +kernel
theorem dX5_known_109 : decode cX5_known 109 = .ok (.iload_n 1, 1) := by decide +kernel
theorem dX5_known_110 : decode cX5_known 110 = .ok (.iastore, 1) := by decide +kernel
theorem dX5_known_111 : decode cX5_known 111 = .ok (.return_, 1) := by decide +kernel
set_option maxRecDepth 20000 in
theorem ggX5_pull_X5_isLess : GoodIn wsX5_pull wsX5_isLess := goodIn_r _ [7, 8, 9, 10, 11, 12, 13, 14, 15, 16, 17, 18, 19, 20, 21, 22, 23, 24, 25, 26] (by decide +kernel) (by decide +kernel)
set_option maxRecDepth 20000 in
theorem gX5_pull_X5_isLess : GoodIn wsX5_pull (wsV RX5 96 RX5 yX5_isLess wsX5_isLess) := goodIn_app (goodIn_of _ (by decide +kernel)) ggX5_pull_X5_isLess
theorem dX5_pull_0 : decode cX5_pull 0 = .ok (.aload_n 0, 1) := by decide +kernel
theorem dX5_pull_1 : decode cX5_pull 1 = .ok (.getfield 46, 3) := by decide +kernel
theorem dX5_pull_4 : decode cX5_pull 4 = .ok (.iconst 0, 1) := by decide +kernel
theorem dX5_pull_5 : decode cX5_pull 5 = .ok (.iaload, 1) := by decide +kernel
theorem dX5_pull_6 : decode cX5_pull 6 = .ok (.istore_n 1, 1) := by decide +kernel
theorem dX5_pull_7 : decode cX5_pull 7 = .ok (.aload_n 0, 1) := by decide +kernel
theorem dX5_pull_8 : decode cX5_pull 8 = .ok (.dup, 1) := by decide +kernel
theorem dX5_pull_9 : decode cX5_pull 9 = .ok (.getfield 93, 3) := by decide +kernel
theorem dX5_pull_12 : decode cX5_pull 12 = .ok (.iconst 1, 1) := by decide +kernel
theorem dX5_pull_13 : decode cX5_pull 13 = .ok (.isub, 1) := by decide +kernel
theorem dX5_pull_14 : decode cX5_pull 14 = .ok (.putfield 93, 3) := by decide +kernel
theorem dX5_pull_17 : decode cX5_pull 17 = .ok (.aload_n 0, 1) := by decide +kernel
theorem dX5_pull_18 : decode cX5_pull 18 = .ok (.getfield 46, 3) := by decide +kernel
theorem dX5_pull_21 : decode cX5_pull 21 = .ok (.aload_n 0, 1) := by decide +kernel
theorem dX5_pull_22 : decode cX5_pull 22 = .ok (.getfield 93, 3) := by decide +kernel
theorem dX5_pull_25 : decode cX5_pull 25 = .ok (.iaload, 1) := by decide +kernel
theorem dX5_pull_26 : decode cX5_pull 26 = .ok (.istore_n 2, 1) := by decide +kernel
theorem dX5_pull_27 : decode cX5_pull 27 = .ok (.iconst 0, 1) := by decide +kernel
theorem dX5_pull_28 : decode cX5_pull 28 = .ok (.istore_n 3, 1) := by decide +kernel
theorem dX5_pull_29 : decode cX5_pull 29 = .ok (.iconst 1, 1) := by decide +kernel
theorem dX5_pull_30 : decode cX5_pull 30 = .ok (.aload_n 0, 1) := by decide +kernel
theorem dX5_pull_31 : decode cX5_pull 31 = .ok (.getfield 93, 3) := by decide +kernel
theorem dX5_pull_34 : decode cX5_pull 34 = .ok (.if_icmp .ge 7, 3) := by decide +kernel
theorem dX5_pull_37 : decode cX5_pull 37 = .ok (.iconst 1, 1) := by decide +kernel
theorem dX5_pull_38 : decode cX5_pull 38 = .ok (.goto 4, 3) := by decide +kernel
theorem dX5_pull_41 : decode cX5_pull 41 = .ok (.iconst 0, 1) := by decide +kernel
theorem dX5_pull_42 : decode cX5_pull 42 = .ok (.istore 4, 2) := by decide +kernel
theorem dX5_pull_44 : decode cX5_pull 44 = .ok (.iload 4, 2) := by decide +kernel
theorem dX5_pull_46 : decode cX5_pull 46 = .ok (.ifCond .eq 107, 3) := by decide +kernel
theorem dX5_pull_49 : decode cX5_pull 49 = .ok (.iconst 2, 1) := by decide +kernel
theorem dX5_pull_50 : decode cX5_pull 50 = .ok (.iload_n 3, 1) := by decide +kernel
theorem dX5_pull_51 : decode cX5_pull 51 = .ok (.imul, 1) := by decide +kernel
theorem dX5_pull_52 : decode cX5_pull 52 = .ok (.iconst 1, 1) := by decide +kernel
theorem dX5_pull_53 : decode cX5_pull 53 = .ok (.iadd, 1) := by decide +kernel
theorem dX5_pull_54 : decode cX5_pull 54 = .ok (.istore 5, 2) := by decide +kernel
theorem dX5_pull_56 : decode cX5_pull 56 = .ok (.iload 5, 2) := by decide +kernel
theorem dX5_pull_58 : decode cX5_pull 58 = .ok (.iconst 1, 1) := by decide +kernel
theorem dX5_pull_59 : decode cX5_pull 59 = .ok (.iadd, 1) := by decide +kernel
theorem dX5_pull_60 : decode cX5_pull 60 = .ok (.aload_n 0, 1) := by decide +kernel
theorem dX5_pull_61 : decode cX5_pull 61 = .ok (.getfield 93, 3) := by decide +kernel
theorem dX5_pull_64 : decode cX5_pull 64 = .ok (.if_icmp .ge 29, 3) := by decide +kernel
theorem dX5_pull_67 : decode cX5_pull 67 = .ok (.aload_n 0, 1) := by decide +kernel
theorem dX5_pull_68 : decode cX5_pull 68 = .ok (.aload_n 0, 1) := by decide +kernel
theorem dX5_pull_69 : decode cX5_pull 69 = .ok (.getfield 46, 3) := by decide +kernel
theorem dX5_pull_72 : decode cX5_pull 72 = .ok (.iload 5, 2) := by decide +kernel
theorem dX5_pull_74 : decode cX5_pull 74 = .ok (.iconst 1, 1) := by decide +kernel
theorem dX5_pull_75 : decode cX5_pull 75 = .ok (.iadd, 1) := by decide +kernel
theorem dX5_pull_76 : decode cX5_pull 76 = .ok (.iaload, 1) := by decide +kernel
theorem dX5_pull_77 : decode cX5_pull 77 = .ok (.aload_n 0, 1) := by decide +kernel
theorem dX5_pull_78 : decode cX5_pull 78 = .ok (.getfield 46, 3) := by decide +kernel
theorem dX5_pull_81 : decode cX5_pull 81 = .ok (.iload 5, 2) := by decide +kernel
theorem dX5_pull_83 : decode cX5_pull 83 = .ok (.iaload, 1) := by decide +kernel
theorem dX5_pull_84 : decode cX5_pull 84 = .ok (.invokevirtual 96, 3) := by decide +kernel
theorem dX5_pull_87 : decode cX5_pull 87 = .ok (.ifCond .eq 6, 3) := by decide +kernel
theorem dX5_pull_90 : decode cX5_pull 90 = .ok (.iinc 5 1, 3) := by decide +kernel
theorem dX5_pull_93 : decode cX5_pull 93 = .ok (.aload_n 0, 1) := by decide +kernel
theorem dX5_pull_94 : decode cX5_pull 94 = .ok (.aload_n 0, 1) := by decide +kernel
theorem dX5_pull_95 : decode cX5_pull 95 = .ok (.getfield 46, 3) := by decide +kernel
theorem dX5_pull_98 : decode cX5_pull 98 = .ok (.iload 5, 2) := by decide +kernel
theorem dX5_pull_100 : decode cX5_pull 100 = .ok (.iaload, 1) := by decide +kernel
theorem dX5_pull_101 : decode cX5_pull 101 = .ok (.iload_n 2, 1) := by decide +kernel
theorem dX5_pull_102 : decode cX5_pull 102 = .ok (.invokevirtual 96, 3) := by decide +kernel
theorem dX5_pull_105 : decode cX5_pull 105 = .ok (.istore 4, 2) := by decide +kernel
theorem dX5_pull_107 : decode cX5_pull 107 = .ok (.iload 4, 2) := by decide +kernel
theorem dX5_pull_109 : decode cX5_pull 109 = .ok (.ifCond .ne 6, 3) := by decide +kernel
theorem dX5_pull_112 : decode cX5_pull 112 = .ok (.goto (-68), 3) := by decide +kernel
theorem dX5_pull_115 : decode cX5_pull 115 = .ok (.aload_n 0, 1) := by decide +kernel
theorem dX5_pull_116 : decode cX5_pull 116 = .ok (.getfield 46, 3) := by decide +kernel
theorem dX5_pull_119 : decode cX5_pull 119 = .ok (.iload_n 3, 1) := by decide +kernel
theorem dX5_pull_120 : decode cX5_pull 120 = .ok (.aload_n 0, 1) := by decide +kernel
theorem dX5_pull_121 : decode cX5_pull 121 = .ok (.getfield 46, 3) := by decide +kernel
theorem dX5_pull_124 : decode cX5_pull 124 = .ok (.iload 5, 2) := by decide +kernel
theorem dX5_pull_126 : decode cX5_pull 126 = .ok (.iaload, 1) := by decide +kernel
theorem dX5_pull_127 : decode cX5_pull 127 = .ok (.iastore, 1) := by decide +kernel
theorem dX5_pull_128 : decode cX5_pull 128 = .ok (.iload 5, 2) := by decide +kernel
theorem dX5_pull_130 : decode cX5_pull 130 = .ok (.istore_n 3, 1) := by decide +kernel
theorem dX5_pull_131 : decode cX5_pull 131 = .ok (.iconst 2, 1) := by decide +kernel
theorem dX5_pull_132 : decode cX5_pull 132 = .ok (.iload_n 3, 1) := by decide +kernel
theorem dX5_pull_133 : decode cX5_pull 133 = .ok (.imul, 1) := by decide +kernel
theorem dX5_pull_134 : decode cX5_pull 134 = .ok (.iconst 1, 1) := by decide +kernel
theorem dX5_pull_135 : decode cX5_pull 135 = .ok (.iadd, 1) := by decide +kernel
theorem dX5_pull_136 : decode cX5_pull 136 = .ok (.aload_n 0, 1) := by decide +kernel
theorem dX5_pull_137 : decode cX5_pull 137 = .ok (.getfield 93, 3) := by decide +kernel
theorem dX5_pull_140 : decode cX5_pull 140 = .ok (.if_icmp .ge 7, 3) := by decide +kernel
theorem dX5_pull_143 : decode cX5_pull 143 = .ok (.iconst 1, 1) := by decide +kernel
theorem dX5_pull_144 : decode cX5_pull 144 = .ok (.goto 4, 3) := by decide +kernel
theorem dX5_pull_147 : decode cX5_pull 147 = .ok (.iconst 0, 1) := by decide +kernel
theorem dX5_pull_148 : decode cX5_pull 148 = .ok (.istore 4, 2) := by decide +kernel
theorem dX5_pull_150 : decode cX5_pull 150 = .ok (.goto (-106), 3) := by decide +kernel
theorem dX5_pull_153 : decode cX5_pull 153 = .ok (.aload_n 0, 1) := by decide +kernel
theorem dX5_pull_154 : decode cX5_pull 154 = .ok (.getfield 46, 3) := by decide +kernel
theorem dX5_pull_157 : decode cX5_pull 157 = .ok (.iload_n 3, 1) := by decide +kernel
theorem dX5_pull_158 : decode cX5_pull 158 = .ok (.iload_n 2, 1) := by decide +kernel
theorem dX5_pull_159 : decode cX5_pull 159 = .ok (.iastore, 1) := by decide +kernel
theorem dX5_pull_160 : decode cX5_pull 160 = .ok (.iload_n 1, 1) := by decide +kernel
theorem dX5_pull_161 : decode cX5_pull 161 = .ok (.ireturn, 1) := by decide +kernel
set_option maxRecDepth 20000 in
theorem ggX5_begin_X5_start : GoodIn wsX5_begin wsX5_start := goodIn_r _ [12, 13, 14, 15, 16, 17, 18, 19, 20, 21, 22, 23, 24, 25, 26, 27, 28, 29, 30, 31] (by decide +kernel) (by decide +kernel)
set_option maxRecDepth 20000 in
theorem gX5_begin_X5_start : GoodIn wsX5_begin (wsV RX5 89 RX5 yX5_start wsX5_start) := goodIn_app (goodIn_of _ (by decide +kernel)) ggX5_begin_X5_start
theorem dX5_begin_0 : decode cX5_begin 0 = .ok (.aload_n 0, 1) := by decide +kernel
theorem dX5_begin_1 : decode cX5_begin 1 = .ok (.iconst 0, 1) := by decide +kernel
theorem dX5_begin_2 : decode cX5_begin 2 = .ok (.putfield 93, 3) := by decide +kernel
theorem dX5_begin_5 : decode cX5_begin 5 = .ok (.iconst 0, 1) := by decide +kernel
theorem dX5_begin_6 : decode cX5_begin 6 = .ok (.istore_n 1, 1) := by decide +kernel
theorem dX5_begin_7 : decode cX5_begin 7 = .ok (.iload_n 1, 1) := by decide +kernel
theorem dX5_begin_8 : decode cX5_begin 8 = .ok (.aload_n 0, 1) := by decide +kernel
theorem dX5_begin_9 : decode cX5_begin 9 = .ok (.getfield 7, 3) := by decide +kernel
theorem dX5_begin_12 : decode cX5_begin 12 = .ok (.if_icmp .ge 16, 3) := by decide +kernel
theorem dX5_begin_15 : decode cX5_begin 15 = .ok (.aload_n 0, 1) := by decide +kernel
theorem dX5_begin_16 : decode cX5_begin 16 = .ok (.getfield 40, 3) := by decide +kernel
theorem dX5_begin_19 : decode cX5_begin 19 = .ok (.iload_n 1, 1) := by decide +kernel
theorem dX5_begin_20 : decode cX5_begin 20 = .ok (.iconst (-1), 1) := by decide +kernel
theorem dX5_begin_21 : decode cX5_begin 21 = .ok (.iastore, 1) := by decide +kernel
theorem dX5_begin_22 : decode cX5_begin 22 = .ok (.iinc 1 1, 3) := by decide +kernel
theorem dX5_begin_25 : decode cX5_begin 25 = .ok (.goto (-18), 3) := by decide +kernel
theorem dX5_begin_28 : decode cX5_begin 28 = .ok (.iconst 2, 1) := by decide +kernel
theorem dX5_begin_29 : decode cX5_begin 29 = .ok (.aload_n 0, 1) := by decide +kernel
theorem dX5_begin_30 : decode cX5_begin 30 = .ok (.getfield 52, 3) := by decide +kernel
theorem dX5_begin_33 : decode cX5_begin 33 = .ok (.imul, 1) := by decide +kernel
theorem dX5_begin_34 : decode cX5_begin 34 = .ok (.iconst 1, 1) := by decide +kernel
theorem dX5_begin_35 : decode cX5_begin 35 = .ok (.isub, 1) := by decide +kernel
theorem dX5_begin_36 : decode cX5_begin 36 = .ok (.istore_n 1, 1) := by decide +kernel
theorem dX5_begin_37 : decode cX5_begin 37 = .ok (.iload_n 1, 1) := by decide +kernel
theorem dX5_begin_38 : decode cX5_begin 38 = .ok (.ifCond .lt 57, 3) := by decide +kernel
theorem dX5_begin_41 : decode cX5_begin 41 = .ok (.aload_n 0, 1) := by decide +kernel
theorem dX5_begin_42 : decode cX5_begin 42 = .ok (.getfield 37, 3) := by decide +kernel
theorem dX5_begin_45 : decode cX5_begin 45 = .ok (.iload_n 1, 1) := by decide +kernel
theorem dX5_begin_46 : decode cX5_begin 46 = .ok (.iconst 0, 1) := by decide +kernel
theorem dX5_begin_47 : decode cX5_begin 47 = .ok (.bastore, 1) := by decide +kernel
theorem dX5_begin_48 : decode cX5_begin 48 = .ok (.aload_n 0, 1) := by decide +kernel
theorem dX5_begin_49 : decode cX5_begin 49 = .ok (.getfield 23, 3) := by decide +kernel
theorem dX5_begin_52 : decode cX5_begin 52 = .ok (.iload_n 1, 1) := by decide +kernel
theorem dX5_begin_53 : decode cX5_begin 53 = .ok (.iconst 2, 1) := by decide +kernel
theorem dX5_begin_54 : decode cX5_begin 54 = .ok (.idiv, 1) := by decide +kernel
theorem dX5_begin_55 : decode cX5_begin 55 = .ok (.baload, 1) := by decide +kernel
theorem dX5_begin_56 : decode cX5_begin 56 = .ok (.ifCond .eq 6, 3) := by decide +kernel
theorem dX5_begin_59 : decode cX5_begin 59 = .ok (.goto 30, 3) := by decide +kernel
theorem dX5_begin_62 : decode cX5_begin 62 = .ok (.aload_n 0, 1) := by decide +kernel
theorem dX5_begin_63 : decode cX5_begin 63 = .ok (.getfield 43, 3) := by decide +kernel
theorem dX5_begin_66 : decode cX5_begin 66 = .ok (.iload_n 1, 1) := by decide +kernel
theorem dX5_begin_67 : decode cX5_begin 67 = .ok (.aload_n 0, 1) := by decide +kernel
theorem dX5_begin_68 : decode cX5_begin 68 = .ok (.getfield 40, 3) := by decide +kernel
theorem dX5_begin_71 : decode cX5_begin 71 = .ok (.aload_n 0, 1) := by decide +kernel
theorem dX5_begin_72 : decode cX5_begin 72 = .ok (.iload_n 1, 1) := by decide +kernel
theorem dX5_begin_73 : decode cX5_begin 73 = .ok (.invokevirtual 89, 3) := by decide +kernel
theorem dX5_begin_76 : decode cX5_begin 76 = .ok (.iaload, 1) := by decide +kernel
theorem dX5_begin_77 : decode cX5_begin 77 = .ok (.iastore, 1) := by decide +kernel
theorem dX5_begin_78 : decode cX5_begin 78 = .ok (.aload_n 0, 1) := by decide +kernel
theorem dX5_begin_79 : decode cX5_begin 79 = .ok (.getfield 40, 3) := by decide +kernel
theorem dX5_begin_82 : decode cX5_begin 82 = .ok (.aload_n 0, 1) := by decide +kernel
theorem dX5_begin_83 : decode cX5_begin 83 = .ok (.iload_n 1, 1) := by decide +kernel
theorem dX5_begin_84 : decode cX5_begin 84 = .ok (.invokevirtual 89, 3) := by decide +kernel
theorem dX5_begin_87 : decode cX5_begin 87 = .ok (.iload_n 1, 1) := by decide +kernel
theorem dX5_begin_88 : decode cX5_begin 88 = .ok (.iastore, 1) := by decide +kernel
theorem dX5_begin_89 : decode cX5_begin 89 = .ok (.iinc 1 (-1), 3) := by decide +kernel
theorem dX5_begin_92 : decode cX5_begin 92 = .ok (.goto (-55), 3) := by decide +kernel
theorem dX5_begin_95 : decode cX5_begin 95 = .ok (.return_, 1) := by decide +kernel
set_option maxRecDepth 20000 in
theorem ggX5_spread_X5_begin : GoodIn wsX5_spread wsX5_begin := goodIn_r _ [11, 3, 12, 1, 13, 4, 14, 2, 15, 16, 17, 10, 18, 19, 20, 45, 46, 47, 48, 49, 50, 51, 52, 53, 54, 55, 56, 57, 58, 59, 60, 61] (by decide +kernel) (by decide +kernel)
set_option maxRecDepth 20000 in
theorem gX5_spread_X5_begin : GoodIn wsX5_spread (wsV RX5 100 RX5 yX5_begin wsX5_begin) := goodIn_app (goodIn_of _ (by decide +kernel)) ggX5_spread_X5_begin
set_option maxRecDepth 20000 in
theorem ggX5_spread_X5_known : GoodIn wsX5_spread wsX5_known := goodIn_r _ [24, 5, 25, 6, 4, 3, 26, 27, 28, 29, 10, 30, 45, 46, 47, 48, 49, 50, 51, 52, 53, 54, 55, 56, 57, 58, 59, 60, 61] (by decide +kernel) (by decide +kernel)
set_option maxRecDepth 20000 in
theorem gX5_spread_X5_known : GoodIn wsX5_spread (wsV RX5 103 RX5 yX5_known wsX5_known) := goodIn_app (goodIn_of _ (by decide +kernel)) ggX5_spread_X5_known
set_option maxRecDepth 20000 in
theorem ggX5_spread_X5_pull : GoodIn wsX5_spread wsX5_pull := goodIn_r _ [34, 26, 3, 27, 28, 29, 10, 30, 5, 6, 45, 46, 47, 48, 49, 50, 51, 52, 53, 54, 55, 56, 57, 58, 59, 60, 61] (by decide +kernel) (by decide +kernel)
set_option maxRecDepth 20000 in
theorem gX5_spread_X5_pull : GoodIn wsX5_spread (wsV RX5 107 RX5 yX5_pull wsX5_pull) := goodIn_app (goodIn_of _ (by decide +kernel)) ggX5_spread_X5_pull
set_option maxRecDepth 20000 in
theorem ggX5_spread_X5_start : GoodIn wsX5_spread wsX5_start := goodIn_r _ [18, 19, 20, 45, 46, 47, 48, 49, 50, 51, 52, 53, 54, 55, 56, 57, 58, 59, 60, 61] (by decide +kernel) (by decide +kernel)
set_option maxRecDepth 20000 in
theorem gX5_spread_X5_start : GoodIn wsX5_spread (wsV RX5 89 RX5 yX5_start wsX5_start) := goodIn_app (goodIn_of _ (by decide +kernel)) ggX5_spread_X5_start
set_option maxRecDepth 20000 in
theorem ggX5_spread_X5_end : GoodIn wsX5_spread wsX5_end := goodIn_r _ [38, 15, 16, 17, 10, 18, 19, 20, 45, 46, 47, 48, 49, 50, 51, 52, 53, 54, 55, 56, 57, 58, 59, 60, 61] (by decide +kernel) (by decide +kernel)
set_option maxRecDepth 20000 in
theorem gX5_spread_X5_end : GoodIn wsX5_spread (wsV RX5 111 RX5 yX5_end wsX5_end) := goodIn_app (goodIn_of _ (by decide +kernel)) ggX5_spread_X5_end
set_option maxRecDepth 20000 in
theorem ggX5_spread_X5_barAt : GoodIn wsX5_spread wsX5_barAt := goodIn_r _ [42, 43, 44, 45, 46, 47, 48, 49, 50, 51, 52, 53, 54, 55, 56, 57, 58, 59, 60, 61] (by decide +kernel) (by decide +kernel)
set_option maxRecDepth 20000 in
theorem gX5_spread_X5_barAt : GoodIn wsX5_spread (wsV RX5 85 RX5 yX5_barAt wsX5_barAt) := goodIn_app (goodIn_of _ (by decide +kernel)) ggX5_spread_X5_barAt
theorem dX5_spread_0 : decode cX5_spread 0 = .ok (.aload_n 0, 1) := by decide +kernel
theorem dX5_spread_1 : decode cX5_spread 1 = .ok (.invokevirtual 100, 3) := by decide +kernel
theorem dX5_spread_4 : decode cX5_spread 4 = .ok (.aload_n 0, 1) := by decide +kernel
theorem dX5_spread_5 : decode cX5_spread 5 = .ok (.getfield 40, 3) := by decide +kernel
theorem dX5_spread_8 : decode cX5_spread 8 = .ok (.iload_n 1, 1) := by decide +kernel
theorem dX5_spread_9 : decode cX5_spread 9 = .ok (.iaload, 1) := by decide +kernel
theorem dX5_spread_10 : decode cX5_spread 10 = .ok (.istore_n 2, 1) := by decide +kernel
theorem dX5_spread_11 : decode cX5_spread 11 = .ok (.iload_n 2, 1) := by decide +kernel
theorem dX5_spread_12 : decode cX5_spread 12 = .ok (.ifCond .lt 22, 3) := by decide +kernel
theorem dX5_spread_15 : decode cX5_spread 15 = .ok (.aload_n 0, 1) := by decide +kernel
theorem dX5_spread_16 : decode cX5_spread 16 = .ok (.iload_n 2, 1) := by decide +kernel
theorem dX5_spread_17 : decode cX5_spread 17 = .ok (.iconst 1, 1) := by decide +kernel
theorem dX5_spread_18 : decode cX5_spread 18 = .ok (.ixor, 1) := by decide +kernel
theorem dX5_spread_19 : decode cX5_spread 19 = .ok (.lconst 0, 1) := by decide +kernel
theorem dX5_spread_20 : decode cX5_spread 20 = .ok (.iconst 0, 1) := by decide +kernel
theorem dX5_spread_21 : decode cX5_spread 21 = .ok (.invokevirtual 103, 3) := by decide +kernel
theorem dX5_spread_24 : decode cX5_spread 24 = .ok (.aload_n 0, 1) := by decide +kernel
theorem dX5_spread_25 : decode cX5_spread 25 = .ok (.getfield 43, 3) := by decide +kernel
theorem dX5_spread_28 : decode cX5_spread 28 = .ok (.iload_n 2, 1) := by decide +kernel
theorem dX5_spread_29 : decode cX5_spread 29 = .ok (.iaload, 1) := by decide +kernel
theorem dX5_spread_30 : decode cX5_spread 30 = .ok (.istore_n 2, 1) := by decide +kernel
theorem dX5_spread_31 : decode cX5_spread 31 = .ok (.goto (-20), 3) := by decide +kernel
theorem dX5_spread_34 : decode cX5_spread 34 = .ok (.aload_n 0, 1) := by decide +kernel
theorem dX5_spread_35 : decode cX5_spread 35 = .ok (.getfield 93, 3) := by decide +kernel
theorem dX5_spread_38 : decode cX5_spread 38 = .ok (.ifCond .le 93, 3) := by decide +kernel
theorem dX5_spread_41 : decode cX5_spread 41 = .ok (.aload_n 0, 1) := by decide +kernel
theorem dX5_spread_42 : decode cX5_spread 42 = .ok (.invokevirtual 107, 3) := by decide +kernel
theorem dX5_spread_45 : decode cX5_spread 45 = .ok (.istore_n 2, 1) := by decide +kernel
theorem dX5_spread_46 : decode cX5_spread 46 = .ok (.aload_n 0, 1) := by decide +kernel
theorem dX5_spread_47 : decode cX5_spread 47 = .ok (.getfield 40, 3) := by decide +kernel
theorem dX5_spread_50 : decode cX5_spread 50 = .ok (.aload_n 0, 1) := by decide +kernel
theorem dX5_spread_51 : decode cX5_spread 51 = .ok (.iload_n 2, 1) := by decide +kernel
theorem dX5_spread_52 : decode cX5_spread 52 = .ok (.invokevirtual 89, 3) := by decide +kernel
theorem dX5_spread_55 : decode cX5_spread 55 = .ok (.iaload, 1) := by decide +kernel
theorem dX5_spread_56 : decode cX5_spread 56 = .ok (.istore_n 3, 1) := by decide +kernel
theorem dX5_spread_57 : decode cX5_spread 57 = .ok (.iload_n 3, 1) := by decide +kernel
theorem dX5_spread_58 : decode cX5_spread 58 = .ok (.ifCond .lt 70, 3) := by decide +kernel
theorem dX5_spread_61 : decode cX5_spread 61 = .ok (.iload_n 3, 1) := by decide +kernel
theorem dX5_spread_62 : decode cX5_spread 62 = .ok (.iconst 1, 1) := by decide +kernel
theorem dX5_spread_63 : decode cX5_spread 63 = .ok (.ixor, 1) := by decide +kernel
theorem dX5_spread_64 : decode cX5_spread 64 = .ok (.istore 4, 2) := by decide +kernel
theorem dX5_spread_66 : decode cX5_spread 66 = .ok (.aload_n 0, 1) := by decide +kernel
theorem dX5_spread_67 : decode cX5_spread 67 = .ok (.getfield 37, 3) := by decide +kernel
theorem dX5_spread_70 : decode cX5_spread 70 = .ok (.iload 4, 2) := by decide +kernel
theorem dX5_spread_72 : decode cX5_spread 72 = .ok (.baload, 1) := by decide +kernel
theorem dX5_spread_73 : decode cX5_spread 73 = .ok (.ifCond .ne 45, 3) := by decide +kernel
theorem dX5_spread_76 : decode cX5_spread 76 = .ok (.aload_n 0, 1) := by decide +kernel
theorem dX5_spread_77 : decode cX5_spread 77 = .ok (.aload_n 0, 1) := by decide +kernel
theorem dX5_spread_78 : decode cX5_spread 78 = .ok (.iload 4, 2) := by decide +kernel
theorem dX5_spread_80 : decode cX5_spread 80 = .ok (.invokevirtual 89, 3) := by decide +kernel
theorem dX5_spread_83 : decode cX5_spread 83 = .ok (.aload_n 0, 1) := by decide +kernel
theorem dX5_spread_84 : decode cX5_spread 84 = .ok (.iload 4, 2) := by decide +kernel
theorem dX5_spread_86 : decode cX5_spread 86 = .ok (.invokevirtual 111, 3) := by decide +kernel
theorem dX5_spread_89 : decode cX5_spread 89 = .ok (.aload_n 0, 1) := by decide +kernel
theorem dX5_spread_90 : decode cX5_spread 90 = .ok (.iload_n 2, 1) := by decide +kernel
theorem dX5_spread_91 : decode cX5_spread 91 = .ok (.invokevirtual 111, 3) := by decide +kernel
theorem dX5_spread_94 : decode cX5_spread 94 = .ok (.invokevirtual 85, 3) := by decide +kernel
theorem dX5_spread_97 : decode cX5_spread 97 = .ok (.ifCond .ge 21, 3) := by decide +kernel
theorem dX5_spread_100 : decode cX5_spread 100 = .ok (.aload_n 0, 1) := by decide +kernel
theorem dX5_spread_101 : decode cX5_spread 101 = .ok (.iload 4, 2) := by decide +kernel
theorem dX5_spread_103 : decode cX5_spread 103 = .ok (.aload_n 0, 1) := by decide +kernel
theorem dX5_spread_104 : decode cX5_spread 104 = .ok (.getfield 30, 3) := by decide +kernel
theorem dX5_spread_107 : decode cX5_spread 107 = .ok (.iload_n 2, 1) := by decide +kernel
theorem dX5_spread_108 : decode cX5_spread 108 = .ok (.laload, 1) := by decide +kernel
theorem dX5_spread_109 : decode cX5_spread 109 = .ok (.aload_n 0, 1) := by decide +kernel
theorem dX5_spread_110 : decode cX5_spread 110 = .ok (.getfield 34, 3) := by decide +kernel
theorem dX5_spread_113 : decode cX5_spread 113 = .ok (.iload_n 2, 1) := by decide +kernel
theorem dX5_spread_114 : decode cX5_spread 114 = .ok (.iaload, 1) := by decide +kernel
theorem dX5_spread_115 : decode cX5_spread 115 = .ok (.invokevirtual 103, 3) := by decide +kernel
theorem dX5_spread_118 : decode cX5_spread 118 = .ok (.aload_n 0, 1) := by decide +kernel
theorem dX5_spread_119 : decode cX5_spread 119 = .ok (.getfield 43, 3) := by decide +kernel
theorem dX5_spread_122 : decode cX5_spread 122 = .ok (.iload_n 3, 1) := by decide +kernel
theorem dX5_spread_123 : decode cX5_spread 123 = .ok (.iaload, 1) := by decide +kernel
theorem dX5_spread_124 : decode cX5_spread 124 = .ok (.istore_n 3, 1) := by decide +kernel
theorem dX5_spread_125 : decode cX5_spread 125 = .ok (.goto (-68), 3) := by decide +kernel
theorem dX5_spread_128 : decode cX5_spread 128 = .ok (.goto (-94), 3) := by decide +kernel
theorem dX5_spread_131 : decode cX5_spread 131 = .ok (.return_, 1) := by decide +kernel
set_option maxRecDepth 20000 in
theorem ggX5_better_X5_isLess : GoodIn wsX5_better wsX5_isLess := goodIn_r _ [6, 7, 8, 19, 20, 21, 22, 23, 24, 25, 26, 27, 28, 29, 30, 31, 32, 33, 34, 35] (by decide +kernel) (by decide +kernel)
set_option maxRecDepth 20000 in
theorem gX5_better_X5_isLess : GoodIn wsX5_better (wsV RX5 96 RX5 yX5_isLess wsX5_isLess) := goodIn_app (goodIn_of _ (by decide +kernel)) ggX5_better_X5_isLess
set_option maxRecDepth 20000 in
theorem ggX5_better_X5_end : GoodIn wsX5_better wsX5_end := goodIn_r _ [12, 13, 14, 15, 5, 16, 17, 18, 19, 20, 21, 22, 23, 24, 25, 26, 27, 28, 29, 30, 31, 32, 33, 34, 35] (by decide +kernel) (by decide +kernel)
set_option maxRecDepth 20000 in
theorem gX5_better_X5_end : GoodIn wsX5_better (wsV RX5 111 RX5 yX5_end wsX5_end) := goodIn_app (goodIn_of _ (by decide +kernel)) ggX5_better_X5_end
theorem dX5_better_0 : decode cX5_better 0 = .ok (.aload_n 0, 1) := by decide +kernel
theorem dX5_better_1 : decode cX5_better 1 = .ok (.getfield 37, 3) := by decide +kernel
theorem dX5_better_4 : decode cX5_better 4 = .ok (.iload_n 2, 1) := by decide +kernel
theorem dX5_better_5 : decode cX5_better 5 = .ok (.baload, 1) := by decide +kernel
theorem dX5_better_6 : decode cX5_better 6 = .ok (.ifCond .ne 5, 3) := by decide +kernel
theorem dX5_better_9 : decode cX5_better 9 = .ok (.iload_n 1, 1) := by decide +kernel
theorem dX5_better_10 : decode cX5_better 10 = .ok (.ireturn, 1) := by decide +kernel
theorem dX5_better_11 : decode cX5_better 11 = .ok (.iload_n 1, 1) := by decide +kernel
theorem dX5_better_12 : decode cX5_better 12 = .ok (.ifCond .lt 12, 3) := by decide +kernel
theorem dX5_better_15 : decode cX5_better 15 = .ok (.aload_n 0, 1) := by decide +kernel
theorem dX5_better_16 : decode cX5_better 16 = .ok (.iload_n 2, 1) := by decide +kernel
theorem dX5_better_17 : decode cX5_better 17 = .ok (.iload_n 1, 1) := by decide +kernel
theorem dX5_better_18 : decode cX5_better 18 = .ok (.invokevirtual 96, 3) := by decide +kernel
theorem dX5_better_21 : decode cX5_better 21 = .ok (.ifCond .eq 5, 3) := by decide +kernel
theorem dX5_better_24 : decode cX5_better 24 = .ok (.iload_n 2, 1) := by decide +kernel
theorem dX5_better_25 : decode cX5_better 25 = .ok (.ireturn, 1) := by decide +kernel
theorem dX5_better_26 : decode cX5_better 26 = .ok (.aload_n 0, 1) := by decide +kernel
theorem dX5_better_27 : decode cX5_better 27 = .ok (.iload_n 1, 1) := by decide +kernel
theorem dX5_better_28 : decode cX5_better 28 = .ok (.iload_n 2, 1) := by decide +kernel
theorem dX5_better_29 : decode cX5_better 29 = .ok (.invokevirtual 96, 3) := by decide +kernel
theorem dX5_better_32 : decode cX5_better 32 = .ok (.ifCond .ne 20, 3) := by decide +kernel
theorem dX5_better_35 : decode cX5_better 35 = .ok (.aload_n 0, 1) := by decide +kernel
theorem dX5_better_36 : decode cX5_better 36 = .ok (.iload_n 2, 1) := by decide +kernel
theorem dX5_better_37 : decode cX5_better 37 = .ok (.invokevirtual 111, 3) := by decide +kernel
theorem dX5_better_40 : decode cX5_better 40 = .ok (.aload_n 0, 1) := by decide +kernel
theorem dX5_better_41 : decode cX5_better 41 = .ok (.iload_n 1, 1) := by decide +kernel
theorem dX5_better_42 : decode cX5_better 42 = .ok (.invokevirtual 111, 3) := by decide +kernel
theorem dX5_better_45 : decode cX5_better 45 = .ok (.if_icmp .ge 7, 3) := by decide +kernel
theorem dX5_better_48 : decode cX5_better 48 = .ok (.iload_n 2, 1) := by decide +kernel
theorem dX5_better_49 : decode cX5_better 49 = .ok (.goto 4, 3) := by decide +kernel
theorem dX5_better_52 : decode cX5_better 52 = .ok (.iload_n 1, 1) := by decide +kernel
theorem dX5_better_53 : decode cX5_better 53 = .ok (.ireturn, 1) := by decide +kernel
set_option maxRecDepth 20000 in
theorem ggX5_route_X5_isNode : GoodIn wsX5_route wsX5_isNode := goodIn_r _ [12, 13, 61, 62, 63, 64, 65, 66, 67, 68, 69, 70, 71, 72, 73, 74, 75, 76, 77] (by decide +kernel) (by decide +kernel)
set_option maxRecDepth 20000 in
theorem gX5_route_X5_isNode : GoodIn wsX5_route (wsV RX5 77 RX5 yX5_isNode wsX5_isNode) := goodIn_app (goodIn_of _ (by decide +kernel)) ggX5_route_X5_isNode
set_option maxRecDepth 20000 in
theorem ggX5_route_X5_spread : GoodIn wsX5_route wsX5_spread := goodIn_r _ [17, 4, 5, 18, 19, 7, 20, 21, 22, 23, 11, 24, 13, 25, 26, 27, 28, 29, 30, 31, 32, 33, 34, 35, 36, 37, 38, 39, 40, 41, 42, 43, 44, 45, 46, 47, 48, 49, 50, 51, 52, 53, 54, 55, 56, 61, 62, 63, 64, 65, 66, 67, 68, 69, 70, 71, 72, 73, 74, 75, 76, 77] (by decide +kernel) (by decide +kernel)
set_option maxRecDepth 20000 in
theorem gX5_route_X5_spread : GoodIn wsX5_route (wsV RX5 116 RX5 yX5_spread wsX5_spread) := goodIn_app (goodIn_of _ (by decide +kernel)) ggX5_route_X5_spread
set_option maxRecDepth 20000 in
theorem ggX5_route_X5_better : GoodIn wsX5_route wsX5_better := goodIn_r _ [60, 19, 39, 40, 41, 11, 42, 7, 20, 47, 48, 49, 50, 27, 28, 29, 30, 31, 32, 61, 62, 63, 64, 65, 66, 67, 68, 69, 70, 71, 72, 73, 74, 75, 76, 77] (by decide +kernel) (by decide +kernel)
set_option maxRecDepth 20000 in
theorem gX5_route_X5_better : GoodIn wsX5_route (wsV RX5 120 RX5 yX5_better wsX5_better) := goodIn_app (goodIn_of _ (by decide +kernel)) ggX5_route_X5_better
set_option maxRecDepth 20000 in
theorem ggX5_route_X5_end : GoodIn wsX5_route wsX5_end := goodIn_r _ [50, 27, 28, 29, 11, 30, 31, 32, 61, 62, 63, 64, 65, 66, 67, 68, 69, 70, 71, 72, 73, 74, 75, 76, 77] (by decide +kernel) (by decide +kernel)
set_option maxRecDepth 20000 in
theorem gX5_route_X5_end : GoodIn wsX5_route (wsV RX5 111 RX5 yX5_end wsX5_end) := goodIn_app (goodIn_of _ (by decide +kernel)) ggX5_route_X5_end
set_option maxRecDepth 20000 in
theorem ggX5_route_X5_start : GoodIn wsX5_route wsX5_start := goodIn_r _ [30, 31, 32, 61, 62, 63, 64, 65, 66, 67, 68, 69, 70, 71, 72, 73, 74, 75, 76, 77] (by decide +kernel) (by decide +kernel)
set_option maxRecDepth 20000 in
theorem gX5_route_X5_start : GoodIn wsX5_route (wsV RX5 89 RX5 yX5_start wsX5_start) := goodIn_app (goodIn_of _ (by decide +kernel)) ggX5_route_X5_start
set_option maxRecDepth 20000 in
theorem ggX5_route_X5_barAt : GoodIn wsX5_route wsX5_barAt := goodIn_r _ [54, 55, 56, 61, 62, 63, 64, 65, 66, 67, 68, 69, 70, 71, 72, 73, 74, 75, 76, 77] (by decide +kernel) (by decide +kernel)
set_option maxRecDepth 20000 in
theorem gX5_route_X5_barAt : GoodIn wsX5_route (wsV RX5 85 RX5 yX5_barAt wsX5_barAt) := goodIn_app (goodIn_of _ (by decide +kernel)) ggX5_route_X5_barAt
theorem dX5_route_0 : decode cX5_route 0 = .ok (.aload_n 0, 1) := by decide +kernel
theorem dX5_route_1 : decode cX5_route 1 = .ok (.iconst 0, 1) := by decide +kernel
theorem dX5_route_2 : decode cX5_route 2 = .ok (.putfield 58, 3) := by decide +kernel
theorem dX5_route_5 : decode cX5_route 5 = .ok (.aload_n 0, 1) := by decide +kernel
theorem dX5_route_6 : decode cX5_route 6 = .ok (.iload_n 1, 1) := by decide +kernel
theorem dX5_route_7 : decode cX5_route 7 = .ok (.invokevirtual 77, 3) := by decide +kernel
theorem dX5_route_10 : decode cX5_route 10 = .ok (.ifCond .eq 11, 3) := by decide +kernel
theorem dX5_route_13 : decode cX5_route 13 = .ok (.aload_n 0, 1) := by decide +kernel
theorem dX5_route_14 : decode cX5_route 14 = .ok (.iload_n 2, 1) := by decide +kernel
theorem dX5_route_15 : decode cX5_route 15 = .ok (.invokevirtual 77, 3) := by decide +kernel
theorem dX5_route_18 : decode cX5_route 18 = .ok (.ifCond .ne 7, 3) := by decide +kernel
theorem dX5_route_21 : decode cX5_route 21 = .ok (.ldc2_w 114, 3) := by decide +kernel
theorem dX5_route_24 : decode cX5_route 24 = .ok (.lreturn, 1) := by decide +kernel
theorem dX5_route_25 : decode cX5_route 25 = .ok (.iload_n 1, 1) := by decide +kernel
theorem dX5_route_26 : decode cX5_route 26 = .ok (.iload_n 2, 1) := by decide +kernel
theorem dX5_route_27 : decode cX5_route 27 = .ok (.if_icmp .ne 17, 3) := by decide +kernel
theorem dX5_route_30 : decode cX5_route 30 = .ok (.aload_n 0, 1) := by decide +kernel
theorem dX5_route_31 : decode cX5_route 31 = .ok (.getfield 49, 3) := by decide +kernel
theorem dX5_route_34 : decode cX5_route 34 = .ok (.iconst 0, 1) := by decide +kernel
theorem dX5_route_35 : decode cX5_route 35 = .ok (.iload_n 1, 1) := by decide +kernel
theorem dX5_route_36 : decode cX5_route 36 = .ok (.iastore, 1) := by decide +kernel
theorem dX5_route_37 : decode cX5_route 37 = .ok (.aload_n 0, 1) := by decide +kernel
theorem dX5_route_38 : decode cX5_route 38 = .ok (.iconst 1, 1) := by decide +kernel
theorem dX5_route_39 : decode cX5_route 39 = .ok (.putfield 58, 3) := by decide +kernel
theorem dX5_route_42 : decode cX5_route 42 = .ok (.lconst 0, 1) := by decide +kernel
theorem dX5_route_43 : decode cX5_route 43 = .ok (.lreturn, 1) := by decide +kernel
theorem dX5_route_44 : decode cX5_route 44 = .ok (.aload_n 0, 1) := by decide +kernel
theorem dX5_route_45 : decode cX5_route 45 = .ok (.iload_n 2, 1) := by decide +kernel
theorem dX5_route_46 : decode cX5_route 46 = .ok (.invokevirtual 116, 3) := by decide +kernel
theorem dX5_route_49 : decode cX5_route 49 = .ok (.iconst (-1), 1) := by decide +kernel
theorem dX5_route_50 : decode cX5_route 50 = .ok (.istore_n 3, 1) := by decide +kernel
theorem dX5_route_51 : decode cX5_route 51 = .ok (.aload_n 0, 1) := by decide +kernel
theorem dX5_route_52 : decode cX5_route 52 = .ok (.getfield 40, 3) := by decide +kernel
theorem dX5_route_55 : decode cX5_route 55 = .ok (.iload_n 1, 1) := by decide +kernel
theorem dX5_route_56 : decode cX5_route 56 = .ok (.iaload, 1) := by decide +kernel
theorem dX5_route_57 : decode cX5_route 57 = .ok (.istore 4, 2) := by decide +kernel
theorem dX5_route_59 : decode cX5_route 59 = .ok (.iload 4, 2) := by decide +kernel
theorem dX5_route_61 : decode cX5_route 61 = .ok (.ifCond .lt 23, 3) := by decide +kernel
theorem dX5_route_64 : decode cX5_route 64 = .ok (.aload_n 0, 1) := by decide +kernel
theorem dX5_route_65 : decode cX5_route 65 = .ok (.iload_n 3, 1) := by decide +kernel
theorem dX5_route_66 : decode cX5_route 66 = .ok (.iload 4, 2) := by decide +kernel
theorem dX5_route_68 : decode cX5_route 68 = .ok (.invokevirtual 120, 3) := by decide +kernel
theorem dX5_route_71 : decode cX5_route 71 = .ok (.istore_n 3, 1) := by decide +kernel
theorem dX5_route_72 : decode cX5_route 72 = .ok (.aload_n 0, 1) := by decide +kernel
theorem dX5_route_73 : decode cX5_route 73 = .ok (.getfield 43, 3) := by decide +kernel
theorem dX5_route_76 : decode cX5_route 76 = .ok (.iload 4, 2) := by decide +kernel
theorem dX5_route_78 : decode cX5_route 78 = .ok (.iaload, 1) := by decide +kernel
theorem dX5_route_79 : decode cX5_route 79 = .ok (.istore 4, 2) := by decide +kernel
theorem dX5_route_81 : decode cX5_route 81 = .ok (.goto (-22), 3) := by decide +kernel
theorem dX5_route_84 : decode cX5_route 84 = .ok (.iload_n 3, 1) := by decide +kernel
theorem dX5_route_85 : decode cX5_route 85 = .ok (.ifCond .ge 7, 3) := by decide +kernel
theorem dX5_route_88 : decode cX5_route 88 = .ok (.ldc2_w 123, 3) := by decide +kernel
theorem dX5_route_91 : decode cX5_route 91 = .ok (.lreturn, 1) := by decide +kernel
theorem dX5_route_92 : decode cX5_route 92 = .ok (.aload_n 0, 1) := by decide +kernel
theorem dX5_route_93 : decode cX5_route 93 = .ok (.getfield 30, 3) := by decide +kernel
theorem dX5_route_96 : decode cX5_route 96 = .ok (.iload_n 3, 1) := by decide +kernel
theorem dX5_route_97 : decode cX5_route 97 = .ok (.laload, 1) := by decide +kernel
theorem dX5_route_98 : decode cX5_route 98 = .ok (.lstore 4, 2) := by decide +kernel
theorem dX5_route_100 : decode cX5_route 100 = .ok (.aload_n 0, 1) := by decide +kernel
theorem dX5_route_101 : decode cX5_route 101 = .ok (.getfield 49, 3) := by decide +kernel
theorem dX5_route_104 : decode cX5_route 104 = .ok (.iconst 0, 1) := by decide +kernel
theorem dX5_route_105 : decode cX5_route 105 = .ok (.iload_n 1, 1) := by decide +kernel
theorem dX5_route_106 : decode cX5_route 106 = .ok (.iastore, 1) := by decide +kernel
theorem dX5_route_107 : decode cX5_route 107 = .ok (.aload_n 0, 1) := by decide +kernel
theorem dX5_route_108 : decode cX5_route 108 = .ok (.getfield 49, 3) := by decide +kernel
theorem dX5_route_111 : decode cX5_route 111 = .ok (.iconst 1, 1) := by decide +kernel
theorem dX5_route_112 : decode cX5_route 112 = .ok (.aload_n 0, 1) := by decide +kernel
theorem dX5_route_113 : decode cX5_route 113 = .ok (.iload_n 3, 1) := by decide +kernel
theorem dX5_route_114 : decode cX5_route 114 = .ok (.invokevirtual 111, 3) := by decide +kernel
theorem dX5_route_117 : decode cX5_route 117 = .ok (.iastore, 1) := by decide +kernel
theorem dX5_route_118 : decode cX5_route 118 = .ok (.aload_n 0, 1) := by decide +kernel
theorem dX5_route_119 : decode cX5_route 119 = .ok (.iconst 2, 1) := by decide +kernel
theorem dX5_route_120 : decode cX5_route 120 = .ok (.putfield 58, 3) := by decide +kernel
theorem dX5_route_123 : decode cX5_route 123 = .ok (.aload_n 0, 1) := by decide +kernel
theorem dX5_route_124 : decode cX5_route 124 = .ok (.iload_n 3, 1) := by decide +kernel
theorem dX5_route_125 : decode cX5_route 125 = .ok (.invokevirtual 111, 3) := by decide +kernel
theorem dX5_route_128 : decode cX5_route 128 = .ok (.iload_n 2, 1) := by decide +kernel
theorem dX5_route_129 : decode cX5_route 129 = .ok (.if_icmp .eq 98, 3) := by decide +kernel
theorem dX5_route_132 : decode cX5_route 132 = .ok (.iconst (-1), 1) := by decide +kernel
theorem dX5_route_133 : decode cX5_route 133 = .ok (.istore 6, 2) := by decide +kernel
theorem dX5_route_135 : decode cX5_route 135 = .ok (.aload_n 0, 1) := by decide +kernel
theorem dX5_route_136 : decode cX5_route 136 = .ok (.getfield 40, 3) := by decide +kernel
theorem dX5_route_139 : decode cX5_route 139 = .ok (.aload_n 0, 1) := by decide +kernel
theorem dX5_route_140 : decode cX5_route 140 = .ok (.iload_n 3, 1) := by decide +kernel
theorem dX5_route_141 : decode cX5_route 141 = .ok (.invokevirtual 111, 3) := by decide +kernel
theorem dX5_route_144 : decode cX5_route 144 = .ok (.iaload, 1) := by decide +kernel
theorem dX5_route_145 : decode cX5_route 145 = .ok (.istore 7, 2) := by decide +kernel
theorem dX5_route_147 : decode cX5_route 147 = .ok (.iload 7, 2) := by decide +kernel
theorem dX5_route_149 : decode cX5_route 149 = .ok (.ifCond .lt 48, 3) := by decide +kernel
theorem dX5_route_152 : decode cX5_route 152 = .ok (.aload_n 0, 1) := by decide +kernel
theorem dX5_route_153 : decode cX5_route 153 = .ok (.aload_n 0, 1) := by decide +kernel
theorem dX5_route_154 : decode cX5_route 154 = .ok (.iload_n 3, 1) := by decide +kernel
theorem dX5_route_155 : decode cX5_route 155 = .ok (.invokevirtual 89, 3) := by decide +kernel
theorem dX5_route_158 : decode cX5_route 158 = .ok (.aload_n 0, 1) := by decide +kernel
theorem dX5_route_159 : decode cX5_route 159 = .ok (.iload_n 3, 1) := by decide +kernel
theorem dX5_route_160 : decode cX5_route 160 = .ok (.invokevirtual 111, 3) := by decide +kernel
theorem dX5_route_163 : decode cX5_route 163 = .ok (.aload_n 0, 1) := by decide +kernel
theorem dX5_route_164 : decode cX5_route 164 = .ok (.iload 7, 2) := by decide +kernel
theorem dX5_route_166 : decode cX5_route 166 = .ok (.invokevirtual 111, 3) := by decide +kernel
theorem dX5_route_169 : decode cX5_route 169 = .ok (.invokevirtual 85, 3) := by decide +kernel
theorem dX5_route_172 : decode cX5_route 172 = .ok (.ifCond .ge 13, 3) := by decide +kernel
theorem dX5_route_175 : decode cX5_route 175 = .ok (.aload_n 0, 1) := by decide +kernel
theorem dX5_route_176 : decode cX5_route 176 = .ok (.iload 6, 2) := by decide +kernel
theorem dX5_route_178 : decode cX5_route 178 = .ok (.iload 7, 2) := by decide +kernel
theorem dX5_route_180 : decode cX5_route 180 = .ok (.invokevirtual 120, 3) := by decide +kernel
theorem dX5_route_183 : decode cX5_route 183 = .ok (.istore 6, 2) := by decide +kernel
theorem dX5_route_185 : decode cX5_route 185 = .ok (.aload_n 0, 1) := by decide +kernel
theorem dX5_route_186 : decode cX5_route 186 = .ok (.getfield 43, 3) := by decide +kernel
theorem dX5_route_189 : decode cX5_route 189 = .ok (.iload 7, 2) := by decide +kernel
theorem dX5_route_191 : decode cX5_route 191 = .ok (.iaload, 1) := by decide +kernel
theorem dX5_route_192 : decode cX5_route 192 = .ok (.istore 7, 2) := by decide +kernel
theorem dX5_route_194 : decode cX5_route 194 = .ok (.goto (-47), 3) := by decide +kernel
theorem dX5_route_197 : decode cX5_route 197 = .ok (.iload 6, 2) := by decide +kernel
theorem dX5_route_199 : decode cX5_route 199 = .ok (.istore_n 3, 1) := by decide +kernel
theorem dX5_route_200 : decode cX5_route 200 = .ok (.aload_n 0, 1) := by decide +kernel
theorem dX5_route_201 : decode cX5_route 201 = .ok (.getfield 49, 3) := by decide +kernel
theorem dX5_route_204 : decode cX5_route 204 = .ok (.aload_n 0, 1) := by decide +kernel
theorem dX5_route_205 : decode cX5_route 205 = .ok (.getfield 58, 3) := by decide +kernel
theorem dX5_route_208 : decode cX5_route 208 = .ok (.aload_n 0, 1) := by decide +kernel
theorem dX5_route_209 : decode cX5_route 209 = .ok (.iload_n 3, 1) := by decide +kernel
theorem dX5_route_210 : decode cX5_route 210 = .ok (.invokevirtual 111, 3) := by decide +kernel
theorem dX5_route_213 : decode cX5_route 213 = .ok (.iastore, 1) := by decide +kernel
theorem dX5_route_214 : decode cX5_route 214 = .ok (.aload_n 0, 1) := by decide +kernel
theorem dX5_route_215 : decode cX5_route 215 = .ok (.dup, 1) := by decide +kernel
theorem dX5_route_216 : decode cX5_route 216 = .ok (.getfield 58, 3) := by decide +kernel
theorem dX5_route_219 : decode cX5_route 219 = .ok (.iconst 1, 1) := by decide +kernel
theorem dX5_route_220 : decode cX5_route 220 = .ok (.iadd, 1) := by decide +kernel
theorem dX5_route_221 : decode cX5_route 221 = .ok (.putfield 58, 3) := by decide +kernel
theorem dX5_route_224 : decode cX5_route 224 = .ok (.goto (-101), 3) := by decide +kernel
theorem dX5_route_227 : decode cX5_route 227 = .ok (.lload 4, 2) := by decide +kernel
theorem dX5_route_229 : decode cX5_route 229 = .ok (.lreturn, 1) := by decide +kernel
theorem dX5_length_0 : decode cX5_length 0 = .ok (.aload_n 0, 1) := by decide +kernel
theorem dX5_length_1 : decode cX5_length 1 = .ok (.getfield 58, 3) := by decide +kernel
theorem dX5_length_4 : decode cX5_length 4 = .ok (.ireturn, 1) := by decide +kernel
theorem dX5_node_0 : decode cX5_node 0 = .ok (.iload_n 1, 1) := by decide +kernel
theorem dX5_node_1 : decode cX5_node 1 = .ok (.ifCond .lt 20, 3) := by decide +kernel
theorem dX5_node_4 : decode cX5_node 4 = .ok (.iload_n 1, 1) := by decide +kernel
theorem dX5_node_5 : decode cX5_node 5 = .ok (.aload_n 0, 1) := by decide +kernel
theorem dX5_node_6 : decode cX5_node 6 = .ok (.getfield 58, 3) := by decide +kernel
theorem dX5_node_9 : decode cX5_node 9 = .ok (.if_icmp .ge 12, 3) := by decide +kernel
theorem dX5_node_12 : decode cX5_node 12 = .ok (.aload_n 0, 1) := by decide +kernel
theorem dX5_node_13 : decode cX5_node 13 = .ok (.getfield 49, 3) := by decide +kernel
theorem dX5_node_16 : decode cX5_node 16 = .ok (.iload_n 1, 1) := by decide +kernel
theorem dX5_node_17 : decode cX5_node 17 = .ok (.iaload, 1) := by decide +kernel
theorem dX5_node_18 : decode cX5_node 18 = .ok (.goto 4, 3) := by decide +kernel
theorem dX5_node_21 : decode cX5_node 21 = .ok (.iconst (-1), 1) := by decide +kernel
theorem dX5_node_22 : decode cX5_node 22 = .ok (.ireturn, 1) := by decide +kernel
set_option maxRecDepth 20000 in
theorem ggX5_within_X5_isNode : GoodIn wsX5_within wsX5_isNode := goodIn_r _ [13, 1, 50, 51, 52, 53, 54, 55, 56, 57, 58, 59, 60, 61, 62, 63, 64, 65, 66] (by decide +kernel) (by decide +kernel)
set_option maxRecDepth 20000 in
theorem gX5_within_X5_isNode : GoodIn wsX5_within (wsV RX5 77 RX5 yX5_isNode wsX5_isNode) := goodIn_app (goodIn_of _ (by decide +kernel)) ggX5_within_X5_isNode
set_option maxRecDepth 20000 in
theorem ggX5_within_X5_begin : GoodIn wsX5_within wsX5_begin := goodIn_r _ [17, 5, 1, 3, 18, 7, 19, 4, 20, 21, 22, 12, 23, 24, 25, 50, 51, 52, 53, 54, 55, 56, 57, 58, 59, 60, 61, 62, 63, 64, 65, 66] (by decide +kernel) (by decide +kernel)
set_option maxRecDepth 20000 in
theorem gX5_within_X5_begin : GoodIn wsX5_within (wsV RX5 100 RX5 yX5_begin wsX5_begin) := goodIn_app (goodIn_of _ (by decide +kernel)) ggX5_within_X5_begin
set_option maxRecDepth 20000 in
theorem ggX5_within_X5_known : GoodIn wsX5_within wsX5_known := goodIn_r _ [29, 6, 30, 8, 7, 5, 31, 32, 33, 34, 12, 35, 50, 51, 52, 53, 54, 55, 56, 57, 58, 59, 60, 61, 62, 63, 64, 65, 66] (by decide +kernel) (by decide +kernel)
set_option maxRecDepth 20000 in
theorem gX5_within_X5_known : GoodIn wsX5_within (wsV RX5 103 RX5 yX5_known wsX5_known) := goodIn_app (goodIn_of _ (by decide +kernel)) ggX5_within_X5_known
set_option maxRecDepth 20000 in
theorem ggX5_within_X5_pull : GoodIn wsX5_within wsX5_pull := goodIn_r _ [39, 31, 5, 32, 33, 34, 12, 35, 6, 8, 50, 51, 52, 53, 54, 55, 56, 57, 58, 59, 60, 61, 62, 63, 64, 65, 66] (by decide +kernel) (by decide +kernel)
set_option maxRecDepth 20000 in
theorem gX5_within_X5_pull : GoodIn wsX5_within (wsV RX5 107 RX5 yX5_pull wsX5_pull) := goodIn_app (goodIn_of _ (by decide +kernel)) ggX5_within_X5_pull
set_option maxRecDepth 20000 in
theorem ggX5_within_X5_end : GoodIn wsX5_within wsX5_end := goodIn_r _ [43, 20, 21, 22, 12, 23, 24, 25, 50, 51, 52, 53, 54, 55, 56, 57, 58, 59, 60, 61, 62, 63, 64, 65, 66] (by decide +kernel) (by decide +kernel)
set_option maxRecDepth 20000 in
theorem gX5_within_X5_end : GoodIn wsX5_within (wsV RX5 111 RX5 yX5_end wsX5_end) := goodIn_app (goodIn_of _ (by decide +kernel)) ggX5_within_X5_end
set_option maxRecDepth 20000 in
theorem ggX5_within_X5_start : GoodIn wsX5_within wsX5_start := goodIn_r _ [23, 24, 25, 50, 51, 52, 53, 54, 55, 56, 57, 58, 59, 60, 61, 62, 63, 64, 65, 66] (by decide +kernel) (by decide +kernel)
set_option maxRecDepth 20000 in
theorem gX5_within_X5_start : GoodIn wsX5_within (wsV RX5 89 RX5 yX5_start wsX5_start) := goodIn_app (goodIn_of _ (by decide +kernel)) ggX5_within_X5_start
set_option maxRecDepth 20000 in
theorem ggX5_within_X5_barAt : GoodIn wsX5_within wsX5_barAt := goodIn_r _ [47, 48, 49, 50, 51, 52, 53, 54, 55, 56, 57, 58, 59, 60, 61, 62, 63, 64, 65, 66] (by decide +kernel) (by decide +kernel)
set_option maxRecDepth 20000 in
theorem gX5_within_X5_barAt : GoodIn wsX5_within (wsV RX5 85 RX5 yX5_barAt wsX5_barAt) := goodIn_app (goodIn_of _ (by decide +kernel)) ggX5_within_X5_barAt
theorem dX5_within_0 : decode cX5_within 0 = .ok (.aload_n 0, 1) := by decide +kernel
theorem dX5_within_1 : decode cX5_within 1 = .ok (.iload_n 1, 1) := by decide +kernel
theorem dX5_within_2 : decode cX5_within 2 = .ok (.invokevirtual 77, 3) := by decide +kernel
theorem dX5_within_5 : decode cX5_within 5 = .ok (.ifCond .ne 6, 3) := by decide +kernel
theorem dX5_within_8 : decode cX5_within 8 = .ok (.bipush (-14), 2) := by decide +kernel
theorem dX5_within_10 : decode cX5_within 10 = .ok (.ireturn, 1) := by decide +kernel
theorem dX5_within_11 : decode cX5_within 11 = .ok (.lload_n 2, 1) := by decide +kernel
theorem dX5_within_12 : decode cX5_within 12 = .ok (.lconst 0, 1) := by decide +kernel
theorem dX5_within_13 : decode cX5_within 13 = .ok (.lcmp, 1) := by decide +kernel
theorem dX5_within_14 : decode cX5_within 14 = .ok (.ifCond .ge 5, 3) := by decide +kernel
theorem dX5_within_17 : decode cX5_within 17 = .ok (.iconst 0, 1) := by decide +kernel
theorem dX5_within_18 : decode cX5_within 18 = .ok (.ireturn, 1) := by decide +kernel
theorem dX5_within_19 : decode cX5_within 19 = .ok (.aload_n 0, 1) := by decide +kernel
theorem dX5_within_20 : decode cX5_within 20 = .ok (.getfield 7, 3) := by decide +kernel
theorem dX5_within_23 : decode cX5_within 23 = .ok (.newarray .boolean, 2) := by decide +kernel
theorem dX5_within_25 : decode cX5_within 25 = .ok (.astore 4, 2) := by decide +kernel
theorem dX5_within_27 : decode cX5_within 27 = .ok (.aload 4, 2) := by decide +kernel
theorem dX5_within_29 : decode cX5_within 29 = .ok (.iload_n 1, 1) := by decide +kernel
theorem dX5_within_30 : decode cX5_within 30 = .ok (.iconst 1, 1) := by decide +kernel
theorem dX5_within_31 : decode cX5_within 31 = .ok (.bastore, 1) := by decide +kernel
theorem dX5_within_32 : decode cX5_within 32 = .ok (.iconst 1, 1) := by decide +kernel
theorem dX5_within_33 : decode cX5_within 33 = .ok (.istore 5, 2) := by decide +kernel
theorem dX5_within_35 : decode cX5_within 35 = .ok (.aload_n 0, 1) := by decide +kernel
theorem dX5_within_36 : decode cX5_within 36 = .ok (.invokevirtual 100, 3) := by decide +kernel
theorem dX5_within_39 : decode cX5_within 39 = .ok (.aload_n 0, 1) := by decide +kernel
theorem dX5_within_40 : decode cX5_within 40 = .ok (.getfield 40, 3) := by decide +kernel
theorem dX5_within_43 : decode cX5_within 43 = .ok (.iload_n 1, 1) := by decide +kernel
