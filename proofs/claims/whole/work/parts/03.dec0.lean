theorem dX0_init_0 : decode cX0_init 0 = .ok (.aload_n 0, 1) := by decide +kernel
theorem dX0_init_1 : decode cX0_init 1 = .ok (.invokespecial 3, 3) := by decide +kernel
theorem dX0_init_4 : decode cX0_init 4 = .ok (.aload_n 0, 1) := by decide +kernel
theorem dX0_init_5 : decode cX0_init 5 = .ok (.aload_n 1, 1) := by decide +kernel
theorem dX0_init_6 : decode cX0_init 6 = .ok (.putfield 9, 3) := by decide +kernel
theorem dX0_init_9 : decode cX0_init 9 = .ok (.aload_n 0, 1) := by decide +kernel
theorem dX0_init_10 : decode cX0_init 10 = .ok (.sipush 4000, 3) := by decide +kernel
theorem dX0_init_13 : decode cX0_init 13 = .ok (.newarray .int, 2) := by decide +kernel
theorem dX0_init_15 : decode cX0_init 15 = .ok (.putfield 15, 3) := by decide +kernel
theorem dX0_init_18 : decode cX0_init 18 = .ok (.aload_n 0, 1) := by decide +kernel
theorem dX0_init_19 : decode cX0_init 19 = .ok (.iconst 0, 1) := by decide +kernel
theorem dX0_init_20 : decode cX0_init 20 = .ok (.putfield 19, 3) := by decide +kernel
theorem dX0_init_23 : decode cX0_init 23 = .ok (.return_, 1) := by decide +kernel
theorem dX0_add_0 : decode cX0_add 0 = .ok (.aload_n 0, 1) := by decide +kernel
theorem dX0_add_1 : decode cX0_add 1 = .ok (.getfield 19, 3) := by decide +kernel
theorem dX0_add_4 : decode cX0_add 4 = .ok (.aload_n 0, 1) := by decide +kernel
theorem dX0_add_5 : decode cX0_add 5 = .ok (.getfield 15, 3) := by decide +kernel
theorem dX0_add_8 : decode cX0_add 8 = .ok (.arraylength, 1) := by decide +kernel
theorem dX0_add_9 : decode cX0_add 9 = .ok (.if_icmp .lt 4, 3) := by decide +kernel
theorem dX0_add_12 : decode cX0_add 12 = .ok (.return_, 1) := by decide +kernel
theorem dX0_add_13 : decode cX0_add 13 = .ok (.aload_n 0, 1) := by decide +kernel
theorem dX0_add_14 : decode cX0_add 14 = .ok (.getfield 19, 3) := by decide +kernel
theorem dX0_add_17 : decode cX0_add 17 = .ok (.istore_n 2, 1) := by decide +kernel
theorem dX0_add_18 : decode cX0_add 18 = .ok (.aload_n 0, 1) := by decide +kernel
theorem dX0_add_19 : decode cX0_add 19 = .ok (.dup, 1) := by decide +kernel
theorem dX0_add_20 : decode cX0_add 20 = .ok (.getfield 19, 3) := by decide +kernel
theorem dX0_add_23 : decode cX0_add 23 = .ok (.iconst 1, 1) := by decide +kernel
theorem dX0_add_24 : decode cX0_add 24 = .ok (.iadd, 1) := by decide +kernel
theorem dX0_add_25 : decode cX0_add 25 = .ok (.putfield 19, 3) := by decide +kernel
theorem dX0_add_28 : decode cX0_add 28 = .ok (.iload_n 2, 1) := by decide +kernel
theorem dX0_add_29 : decode cX0_add 29 = .ok (.ifCond .le 50, 3) := by decide +kernel
theorem dX0_add_32 : decode cX0_add 32 = .ok (.iload_n 2, 1) := by decide +kernel
theorem dX0_add_33 : decode cX0_add 33 = .ok (.iconst 1, 1) := by decide +kernel
theorem dX0_add_34 : decode cX0_add 34 = .ok (.isub, 1) := by decide +kernel
theorem dX0_add_35 : decode cX0_add 35 = .ok (.iconst 2, 1) := by decide +kernel
theorem dX0_add_36 : decode cX0_add 36 = .ok (.idiv, 1) := by decide +kernel
theorem dX0_add_37 : decode cX0_add 37 = .ok (.istore_n 3, 1) := by decide +kernel
theorem dX0_add_38 : decode cX0_add 38 = .ok (.aload_n 0, 1) := by decide +kernel
theorem dX0_add_39 : decode cX0_add 39 = .ok (.getfield 9, 3) := by decide +kernel
theorem dX0_add_42 : decode cX0_add 42 = .ok (.aload_n 0, 1) := by decide +kernel
theorem dX0_add_43 : decode cX0_add 43 = .ok (.getfield 15, 3) := by decide +kernel
theorem dX0_add_46 : decode cX0_add 46 = .ok (.iload_n 3, 1) := by decide +kernel
theorem dX0_add_47 : decode cX0_add 47 = .ok (.iaload, 1) := by decide +kernel
theorem dX0_add_48 : decode cX0_add 48 = .ok (.laload, 1) := by decide +kernel
theorem dX0_add_49 : decode cX0_add 49 = .ok (.aload_n 0, 1) := by decide +kernel
theorem dX0_add_50 : decode cX0_add 50 = .ok (.getfield 9, 3) := by decide +kernel
theorem dX0_add_53 : decode cX0_add 53 = .ok (.iload_n 1, 1) := by decide +kernel
theorem dX0_add_54 : decode cX0_add 54 = .ok (.laload, 1) := by decide +kernel
theorem dX0_add_55 : decode cX0_add 55 = .ok (.lcmp, 1) := by decide +kernel
theorem dX0_add_56 : decode cX0_add 56 = .ok (.ifCond .gt 6, 3) := by decide +kernel
theorem dX0_add_59 : decode cX0_add 59 = .ok (.goto 20, 3) := by decide +kernel
theorem dX0_add_62 : decode cX0_add 62 = .ok (.aload_n 0, 1) := by decide +kernel
theorem dX0_add_63 : decode cX0_add 63 = .ok (.getfield 15, 3) := by decide +kernel
theorem dX0_add_66 : decode cX0_add 66 = .ok (.iload_n 2, 1) := by decide +kernel
theorem dX0_add_67 : decode cX0_add 67 = .ok (.aload_n 0, 1) := by decide +kernel
theorem dX0_add_68 : decode cX0_add 68 = .ok (.getfield 15, 3) := by decide +kernel
theorem dX0_add_71 : decode cX0_add 71 = .ok (.iload_n 3, 1) := by decide +kernel
theorem dX0_add_72 : decode cX0_add 72 = .ok (.iaload, 1) := by decide +kernel
theorem dX0_add_73 : decode cX0_add 73 = .ok (.iastore, 1) := by decide +kernel
theorem dX0_add_74 : decode cX0_add 74 = .ok (.iload_n 3, 1) := by decide +kernel
theorem dX0_add_75 : decode cX0_add 75 = .ok (.istore_n 2, 1) := by decide +kernel
theorem dX0_add_76 : decode cX0_add 76 = .ok (.goto (-48), 3) := by decide +kernel
theorem dX0_add_79 : decode cX0_add 79 = .ok (.aload_n 0, 1) := by decide +kernel
theorem dX0_add_80 : decode cX0_add 80 = .ok (.getfield 15, 3) := by decide +kernel
theorem dX0_add_83 : decode cX0_add 83 = .ok (.iload_n 2, 1) := by decide +kernel
theorem dX0_add_84 : decode cX0_add 84 = .ok (.iload_n 1, 1) := by decide +kernel
theorem dX0_add_85 : decode cX0_add 85 = .ok (.iastore, 1) := by decide +kernel
theorem dX0_add_86 : decode cX0_add 86 = .ok (.return_, 1) := by decide +kernel
theorem dX0_take_0 : decode cX0_take 0 = .ok (.aload_n 0, 1) := by decide +kernel
theorem dX0_take_1 : decode cX0_take 1 = .ok (.getfield 19, 3) := by decide +kernel
theorem dX0_take_4 : decode cX0_take 4 = .ok (.ifCond .gt 5, 3) := by decide +kernel
theorem dX0_take_7 : decode cX0_take 7 = .ok (.iconst (-1), 1) := by decide +kernel
theorem dX0_take_8 : decode cX0_take 8 = .ok (.ireturn, 1) := by decide +kernel
theorem dX0_take_9 : decode cX0_take 9 = .ok (.aload_n 0, 1) := by decide +kernel
theorem dX0_take_10 : decode cX0_take 10 = .ok (.getfield 15, 3) := by decide +kernel
theorem dX0_take_13 : decode cX0_take 13 = .ok (.iconst 0, 1) := by decide +kernel
theorem dX0_take_14 : decode cX0_take 14 = .ok (.iaload, 1) := by decide +kernel
theorem dX0_take_15 : decode cX0_take 15 = .ok (.istore_n 1, 1) := by decide +kernel
theorem dX0_take_16 : decode cX0_take 16 = .ok (.aload_n 0, 1) := by decide +kernel
theorem dX0_take_17 : decode cX0_take 17 = .ok (.dup, 1) := by decide +kernel
theorem dX0_take_18 : decode cX0_take 18 = .ok (.getfield 19, 3) := by decide +kernel
theorem dX0_take_21 : decode cX0_take 21 = .ok (.iconst 1, 1) := by decide +kernel
theorem dX0_take_22 : decode cX0_take 22 = .ok (.isub, 1) := by decide +kernel
theorem dX0_take_23 : decode cX0_take 23 = .ok (.putfield 19, 3) := by decide +kernel
theorem dX0_take_26 : decode cX0_take 26 = .ok (.aload_n 0, 1) := by decide +kernel
theorem dX0_take_27 : decode cX0_take 27 = .ok (.getfield 15, 3) := by decide +kernel
theorem dX0_take_30 : decode cX0_take 30 = .ok (.aload_n 0, 1) := by decide +kernel
theorem dX0_take_31 : decode cX0_take 31 = .ok (.getfield 19, 3) := by decide +kernel
theorem dX0_take_34 : decode cX0_take 34 = .ok (.iaload, 1) := by decide +kernel
theorem dX0_take_35 : decode cX0_take 35 = .ok (.istore_n 2, 1) := by decide +kernel
theorem dX0_take_36 : decode cX0_take 36 = .ok (.iconst 0, 1) := by decide +kernel
theorem dX0_take_37 : decode cX0_take 37 = .ok (.istore_n 3, 1) := by decide +kernel
theorem dX0_take_38 : decode cX0_take 38 = .ok (.iconst 1, 1) := by decide +kernel
theorem dX0_take_39 : decode cX0_take 39 = .ok (.istore 4, 2) := by decide +kernel
theorem dX0_take_41 : decode cX0_take 41 = .ok (.iload 4, 2) := by decide +kernel
theorem dX0_take_43 : decode cX0_take 43 = .ok (.aload_n 0, 1) := by decide +kernel
theorem dX0_take_44 : decode cX0_take 44 = .ok (.getfield 19, 3) := by decide +kernel
theorem dX0_take_47 : decode cX0_take 47 = .ok (.if_icmp .ge 98, 3) := by decide +kernel
theorem dX0_take_50 : decode cX0_take 50 = .ok (.iload 4, 2) := by decide +kernel
theorem dX0_take_52 : decode cX0_take 52 = .ok (.iconst 1, 1) := by decide +kernel
theorem dX0_take_53 : decode cX0_take 53 = .ok (.iadd, 1) := by decide +kernel
theorem dX0_take_54 : decode cX0_take 54 = .ok (.aload_n 0, 1) := by decide +kernel
theorem dX0_take_55 : decode cX0_take 55 = .ok (.getfield 19, 3) := by decide +kernel
theorem dX0_take_58 : decode cX0_take 58 = .ok (.if_icmp .ge 36, 3) := by decide +kernel
theorem dX0_take_61 : decode cX0_take 61 = .ok (.aload_n 0, 1) := by decide +kernel
theorem dX0_take_62 : decode cX0_take 62 = .ok (.getfield 9, 3) := by decide +kernel
theorem dX0_take_65 : decode cX0_take 65 = .ok (.aload_n 0, 1) := by decide +kernel
theorem dX0_take_66 : decode cX0_take 66 = .ok (.getfield 15, 3) := by decide +kernel
theorem dX0_take_69 : decode cX0_take 69 = .ok (.iload 4, 2) := by decide +kernel
theorem dX0_take_71 : decode cX0_take 71 = .ok (.iconst 1, 1) := by decide +kernel
theorem dX0_take_72 : decode cX0_take 72 = .ok (.iadd, 1) := by decide +kernel
theorem dX0_take_73 : decode cX0_take 73 = .ok (.iaload, 1) := by decide +kernel
theorem dX0_take_74 : decode cX0_take 74 = .ok (.laload, 1) := by decide +kernel
theorem dX0_take_75 : decode cX0_take 75 = .ok (.aload_n 0, 1) := by decide +kernel
theorem dX0_take_76 : decode cX0_take 76 = .ok (.getfield 9, 3) := by decide +kernel
theorem dX0_take_79 : decode cX0_take 79 = .ok (.aload_n 0, 1) := by decide +kernel
theorem dX0_take_80 : decode cX0_take 80 = .ok (.getfield 15, 3) := by decide +kernel
theorem dX0_take_83 : decode cX0_take 83 = .ok (.iload 4, 2) := by decide +kernel
theorem dX0_take_85 : decode cX0_take 85 = .ok (.iaload, 1) := by decide +kernel
theorem dX0_take_86 : decode cX0_take 86 = .ok (.laload, 1) := by decide +kernel
theorem dX0_take_87 : decode cX0_take 87 = .ok (.lcmp, 1) := by decide +kernel
theorem dX0_take_88 : decode cX0_take 88 = .ok (.ifCond .ge 6, 3) := by decide +kernel
theorem dX0_take_91 : decode cX0_take 91 = .ok (.iinc 4 1, 3) := by decide +kernel
theorem dX0_take_94 : decode cX0_take 94 = .ok (.aload_n 0, 1) := by decide +kernel
theorem dX0_take_95 : decode cX0_take 95 = .ok (.getfield 9, 3) := by decide +kernel
theorem dX0_take_98 : decode cX0_take 98 = .ok (.aload_n 0, 1) := by decide +kernel
theorem dX0_take_99 : decode cX0_take 99 = .ok (.getfield 15, 3) := by decide +kernel
theorem dX0_take_102 : decode cX0_take 102 = .ok (.iload 4, 2) := by decide +kernel
theorem dX0_take_104 : decode cX0_take 104 = .ok (.iaload, 1) := by decide +kernel
theorem dX0_take_105 : decode cX0_take 105 = .ok (.laload, 1) := by decide +kernel
theorem dX0_take_106 : decode cX0_take 106 = .ok (.aload_n 0, 1) := by decide +kernel
theorem dX0_take_107 : decode cX0_take 107 = .ok (.getfield 9, 3) := by decide +kernel
theorem dX0_take_110 : decode cX0_take 110 = .ok (.iload_n 2, 1) := by decide +kernel
theorem dX0_take_111 : decode cX0_take 111 = .ok (.laload, 1) := by decide +kernel
theorem dX0_take_112 : decode cX0_take 112 = .ok (.lcmp, 1) := by decide +kernel
theorem dX0_take_113 : decode cX0_take 113 = .ok (.ifCond .lt 6, 3) := by decide +kernel
theorem dX0_take_116 : decode cX0_take 116 = .ok (.goto 29, 3) := by decide +kernel
theorem dX0_take_119 : decode cX0_take 119 = .ok (.aload_n 0, 1) := by decide +kernel
theorem dX0_take_120 : decode cX0_take 120 = .ok (.getfield 15, 3) := by decide +kernel
theorem dX0_take_123 : decode cX0_take 123 = .ok (.iload_n 3, 1) := by decide +kernel
theorem dX0_take_124 : decode cX0_take 124 = .ok (.aload_n 0, 1) := by decide +kernel
theorem dX0_take_125 : decode cX0_take 125 = .ok (.getfield 15, 3) := by decide +kernel
theorem dX0_take_128 : decode cX0_take 128 = .ok (.iload 4, 2) := by decide +kernel
theorem dX0_take_130 : decode cX0_take 130 = .ok (.iaload, 1) := by decide +kernel
theorem dX0_take_131 : decode cX0_take 131 = .ok (.iastore, 1) := by decide +kernel
theorem dX0_take_132 : decode cX0_take 132 = .ok (.iload 4, 2) := by decide +kernel
theorem dX0_take_134 : decode cX0_take 134 = .ok (.istore_n 3, 1) := by decide +kernel
theorem dX0_take_135 : decode cX0_take 135 = .ok (.iconst 2, 1) := by decide +kernel
theorem dX0_take_136 : decode cX0_take 136 = .ok (.iload_n 3, 1) := by decide +kernel
theorem dX0_take_137 : decode cX0_take 137 = .ok (.imul, 1) := by decide +kernel
theorem dX0_take_138 : decode cX0_take 138 = .ok (.iconst 1, 1) := by decide +kernel
theorem dX0_take_139 : decode cX0_take 139 = .ok (.iadd, 1) := by decide +kernel
theorem dX0_take_140 : decode cX0_take 140 = .ok (.istore 4, 2) := by decide +kernel
theorem dX0_take_142 : decode cX0_take 142 = .ok (.goto (-101), 3) := by decide +kernel
theorem dX0_take_145 : decode cX0_take 145 = .ok (.aload_n 0, 1) := by decide +kernel
theorem dX0_take_146 : decode cX0_take 146 = .ok (.getfield 15, 3) := by decide +kernel
theorem dX0_take_149 : decode cX0_take 149 = .ok (.iload_n 3, 1) := by decide +kernel
theorem dX0_take_150 : decode cX0_take 150 = .ok (.iload_n 2, 1) := by decide +kernel
theorem dX0_take_151 : decode cX0_take 151 = .ok (.iastore, 1) := by decide +kernel
theorem dX0_take_152 : decode cX0_take 152 = .ok (.iload_n 1, 1) := by decide +kernel
theorem dX0_take_153 : decode cX0_take 153 = .ok (.ireturn, 1) := by decide +kernel
theorem dX1_init_0 : decode cX1_init 0 = .ok (.aload_n 0, 1) := by decide +kernel
theorem dX1_init_1 : decode cX1_init 1 = .ok (.invokespecial 3, 3) := by decide +kernel
theorem dX1_init_4 : decode cX1_init 4 = .ok (.aload_n 0, 1) := by decide +kernel
theorem dX1_init_5 : decode cX1_init 5 = .ok (.iconst 1, 1) := by decide +kernel
theorem dX1_init_6 : decode cX1_init 6 = .ok (.putfield 9, 3) := by decide +kernel
theorem dX1_init_9 : decode cX1_init 9 = .ok (.aload_n 0, 1) := by decide +kernel
theorem dX1_init_10 : decode cX1_init 10 = .ok (.iconst 0, 1) := by decide +kernel
theorem dX1_init_11 : decode cX1_init 11 = .ok (.putfield 15, 3) := by decide +kernel
theorem dX1_init_14 : decode cX1_init 14 = .ok (.aload_n 0, 1) := by decide +kernel
theorem dX1_init_15 : decode cX1_init 15 = .ok (.sipush 4000, 3) := by decide +kernel
theorem dX1_init_18 : decode cX1_init 18 = .ok (.newarray .int, 2) := by decide +kernel
theorem dX1_init_20 : decode cX1_init 20 = .ok (.putfield 18, 3) := by decide +kernel
theorem dX1_init_23 : decode cX1_init 23 = .ok (.aload_n 0, 1) := by decide +kernel
theorem dX1_init_24 : decode cX1_init 24 = .ok (.sipush 4000, 3) := by decide +kernel
theorem dX1_init_27 : decode cX1_init 27 = .ok (.newarray .int, 2) := by decide +kernel
theorem dX1_init_29 : decode cX1_init 29 = .ok (.putfield 22, 3) := by decide +kernel
theorem dX1_init_32 : decode cX1_init 32 = .ok (.aload_n 0, 1) := by decide +kernel
theorem dX1_init_33 : decode cX1_init 33 = .ok (.sipush 301, 3) := by decide +kernel
theorem dX1_init_36 : decode cX1_init 36 = .ok (.newarray .int, 2) := by decide +kernel
theorem dX1_init_38 : decode cX1_init 38 = .ok (.putfield 25, 3) := by decide +kernel
theorem dX1_init_41 : decode cX1_init 41 = .ok (.return_, 1) := by decide +kernel
theorem dX1_reset_0 : decode cX1_reset 0 = .ok (.aload_n 0, 1) := by decide +kernel
theorem dX1_reset_1 : decode cX1_reset 1 = .ok (.iload_n 1, 1) := by decide +kernel
theorem dX1_reset_2 : decode cX1_reset 2 = .ok (.putfield 9, 3) := by decide +kernel
theorem dX1_reset_5 : decode cX1_reset 5 = .ok (.aload_n 0, 1) := by decide +kernel
theorem dX1_reset_6 : decode cX1_reset 6 = .ok (.iconst 0, 1) := by decide +kernel
theorem dX1_reset_7 : decode cX1_reset 7 = .ok (.putfield 15, 3) := by decide +kernel
theorem dX1_reset_10 : decode cX1_reset 10 = .ok (.iconst 0, 1) := by decide +kernel
theorem dX1_reset_11 : decode cX1_reset 11 = .ok (.istore_n 2, 1) := by decide +kernel
theorem dX1_reset_12 : decode cX1_reset 12 = .ok (.iload_n 2, 1) := by decide +kernel
theorem dX1_reset_13 : decode cX1_reset 13 = .ok (.aload_n 0, 1) := by decide +kernel
theorem dX1_reset_14 : decode cX1_reset 14 = .ok (.getfield 25, 3) := by decide +kernel
theorem dX1_reset_17 : decode cX1_reset 17 = .ok (.arraylength, 1) := by decide +kernel
theorem dX1_reset_18 : decode cX1_reset 18 = .ok (.if_icmp .ge 16, 3) := by decide +kernel
theorem dX1_reset_21 : decode cX1_reset 21 = .ok (.aload_n 0, 1) := by decide +kernel
theorem dX1_reset_22 : decode cX1_reset 22 = .ok (.getfield 25, 3) := by decide +kernel
theorem dX1_reset_25 : decode cX1_reset 25 = .ok (.iload_n 2, 1) := by decide +kernel
theorem dX1_reset_26 : decode cX1_reset 26 = .ok (.iconst 0, 1) := by decide +kernel
theorem dX1_reset_27 : decode cX1_reset 27 = .ok (.iastore, 1) := by decide +kernel
theorem dX1_reset_28 : decode cX1_reset 28 = .ok (.iinc 2 1, 3) := by decide +kernel
theorem dX1_reset_31 : decode cX1_reset 31 = .ok (.goto (-19), 3) := by decide +kernel
theorem dX1_reset_34 : decode cX1_reset 34 = .ok (.return_, 1) := by decide +kernel
theorem dX1_hasNode_0 : decode cX1_hasNode 0 = .ok (.iload_n 1, 1) := by decide +kernel
theorem dX1_hasNode_1 : decode cX1_hasNode 1 = .ok (.ifCond .lt 15, 3) := by decide +kernel
theorem dX1_hasNode_4 : decode cX1_hasNode 4 = .ok (.iload_n 1, 1) := by decide +kernel
theorem dX1_hasNode_5 : decode cX1_hasNode 5 = .ok (.aload_n 0, 1) := by decide +kernel
theorem dX1_hasNode_6 : decode cX1_hasNode 6 = .ok (.getfield 9, 3) := by decide +kernel
theorem dX1_hasNode_9 : decode cX1_hasNode 9 = .ok (.if_icmp .ge 7, 3) := by decide +kernel
theorem dX1_hasNode_12 : decode cX1_hasNode 12 = .ok (.iconst 1, 1) := by decide +kernel
theorem dX1_hasNode_13 : decode cX1_hasNode 13 = .ok (.goto 4, 3) := by decide +kernel
theorem dX1_hasNode_16 : decode cX1_hasNode 16 = .ok (.iconst 0, 1) := by decide +kernel
theorem dX1_hasNode_17 : decode cX1_hasNode 17 = .ok (.ireturn, 1) := by decide +kernel
theorem dX1_count_0 : decode cX1_count 0 = .ok (.aload_n 0, 1) := by decide +kernel
theorem dX1_count_1 : decode cX1_count 1 = .ok (.getfield 15, 3) := by decide +kernel
theorem dX1_count_4 : decode cX1_count 4 = .ok (.iconst 2, 1) := by decide +kernel
theorem dX1_count_5 : decode cX1_count 5 = .ok (.idiv, 1) := by decide +kernel
theorem dX1_count_6 : decode cX1_count 6 = .ok (.ireturn, 1) := by decide +kernel
theorem dX1_originOf_0 : decode cX1_originOf 0 = .ok (.aload_n 0, 1) := by decide +kernel
theorem dX1_originOf_1 : decode cX1_originOf 1 = .ok (.getfield 18, 3) := by decide +kernel
theorem dX1_originOf_4 : decode cX1_originOf 4 = .ok (.iload_n 1, 1) := by decide +kernel
theorem dX1_originOf_5 : decode cX1_originOf 5 = .ok (.iaload, 1) := by decide +kernel
theorem dX1_originOf_6 : decode cX1_originOf 6 = .ok (.sipush 300, 3) := by decide +kernel
theorem dX1_originOf_9 : decode cX1_originOf 9 = .ok (.idiv, 1) := by decide +kernel
theorem dX1_originOf_10 : decode cX1_originOf 10 = .ok (.ireturn, 1) := by decide +kernel
theorem dX1_targetOf_0 : decode cX1_targetOf 0 = .ok (.aload_n 0, 1) := by decide +kernel
theorem dX1_targetOf_1 : decode cX1_targetOf 1 = .ok (.getfield 18, 3) := by decide +kernel
theorem dX1_targetOf_4 : decode cX1_targetOf 4 = .ok (.iload_n 1, 1) := by decide +kernel
theorem dX1_targetOf_5 : decode cX1_targetOf 5 = .ok (.iaload, 1) := by decide +kernel
theorem dX1_targetOf_6 : decode cX1_targetOf 6 = .ok (.sipush 300, 3) := by decide +kernel
theorem dX1_targetOf_9 : decode cX1_targetOf 9 = .ok (.irem, 1) := by decide +kernel
theorem dX1_targetOf_10 : decode cX1_targetOf 10 = .ok (.ireturn, 1) := by decide +kernel
theorem dX1_isOpen_0 : decode cX1_isOpen 0 = .ok (.aload_n 0, 1) := by decide +kernel
theorem dX1_isOpen_1 : decode cX1_isOpen 1 = .ok (.getfield 22, 3) := by decide +kernel
theorem dX1_isOpen_4 : decode cX1_isOpen 4 = .ok (.iload_n 1, 1) := by decide +kernel
theorem dX1_isOpen_5 : decode cX1_isOpen 5 = .ok (.iaload, 1) := by decide +kernel
theorem dX1_isOpen_6 : decode cX1_isOpen 6 = .ok (.ifCond .le 7, 3) := by decide +kernel
theorem dX1_isOpen_9 : decode cX1_isOpen 9 = .ok (.iconst 1, 1) := by decide +kernel
theorem dX1_isOpen_10 : decode cX1_isOpen 10 = .ok (.goto 4, 3) := by decide +kernel
theorem dX1_isOpen_13 : decode cX1_isOpen 13 = .ok (.iconst 0, 1) := by decide +kernel
theorem dX1_isOpen_14 : decode cX1_isOpen 14 = .ok (.ireturn, 1) := by decide +kernel
theorem dX1_weightOf_0 : decode cX1_weightOf 0 = .ok (.aload_n 0, 1) := by decide +kernel
theorem dX1_weightOf_1 : decode cX1_weightOf 1 = .ok (.getfield 22, 3) := by decide +kernel
theorem dX1_weightOf_4 : decode cX1_weightOf 4 = .ok (.iload_n 1, 1) := by decide +kernel
theorem dX1_weightOf_5 : decode cX1_weightOf 5 = .ok (.iaload, 1) := by decide +kernel
theorem dX1_weightOf_6 : decode cX1_weightOf 6 = .ok (.i2l, 1) := by decide +kernel
theorem dX1_weightOf_7 : decode cX1_weightOf 7 = .ok (.ldc2_w 28, 3) := by decide +kernel
theorem dX1_weightOf_10 : decode cX1_weightOf 10 = .ok (.lmul, 1) := by decide +kernel
theorem dX1_weightOf_11 : decode cX1_weightOf 11 = .ok (.lconst 1, 1) := by decide +kernel
theorem dX1_weightOf_12 : decode cX1_weightOf 12 = .ok (.ladd, 1) := by decide +kernel
theorem dX1_weightOf_13 : decode cX1_weightOf 13 = .ok (.lreturn, 1) := by decide +kernel
set_option maxRecDepth 20000 in
theorem ggX1_find_X1_hasNode : GoodIn wsX1_find wsX1_hasNode := goodIn_r _ [7, 8, 19, 20, 21, 22, 23] (by decide +kernel) (by decide +kernel)
set_option maxRecDepth 20000 in
theorem gX1_find_X1_hasNode : GoodIn wsX1_find (wsV RX1 30 RX1 yX1_hasNode wsX1_hasNode) := goodIn_app (goodIn_of _ (by decide +kernel)) ggX1_find_X1_hasNode
set_option maxRecDepth 20000 in
theorem ggX1_find_X1_placeOf : GoodIn wsX1_find wsX1_placeOf := goodIn_r _ [12, 2, 1, 13, 14, 6, 15, 16, 17, 18, 19, 20, 21, 22, 23] (by decide +kernel) (by decide +kernel)
set_option maxRecDepth 20000 in
theorem gX1_find_X1_placeOf : GoodIn wsX1_find (wsV RX1 34 RX1 yX1_placeOf wsX1_placeOf) := goodIn_app (goodIn_of _ (by decide +kernel)) ggX1_find_X1_placeOf
set_option maxRecDepth 20000 in
theorem ggX1_find_X1_key : GoodIn wsX1_find wsX1_key := goodIn_r _ [15] (by decide +kernel) (by decide +kernel)
set_option maxRecDepth 20000 in
theorem gX1_find_X1_key : GoodIn wsX1_find (va_wsS RX1 38 yX1_key wsX1_key) := goodIn_app (goodIn_of _ (by decide +kernel)) ggX1_find_X1_key
theorem dX1_find_0 : decode cX1_find 0 = .ok (.aload_n 0, 1) := by decide +kernel
theorem dX1_find_1 : decode cX1_find 1 = .ok (.iload_n 1, 1) := by decide +kernel
theorem dX1_find_2 : decode cX1_find 2 = .ok (.invokevirtual 30, 3) := by decide +kernel
theorem dX1_find_5 : decode cX1_find 5 = .ok (.ifCond .eq 11, 3) := by decide +kernel
theorem dX1_find_8 : decode cX1_find 8 = .ok (.aload_n 0, 1) := by decide +kernel
theorem dX1_find_9 : decode cX1_find 9 = .ok (.iload_n 2, 1) := by decide +kernel
theorem dX1_find_10 : decode cX1_find 10 = .ok (.invokevirtual 30, 3) := by decide +kernel
theorem dX1_find_13 : decode cX1_find 13 = .ok (.ifCond .ne 5, 3) := by decide +kernel
theorem dX1_find_16 : decode cX1_find 16 = .ok (.iconst (-1), 1) := by decide +kernel
theorem dX1_find_17 : decode cX1_find 17 = .ok (.ireturn, 1) := by decide +kernel
theorem dX1_find_18 : decode cX1_find 18 = .ok (.aload_n 0, 1) := by decide +kernel
theorem dX1_find_19 : decode cX1_find 19 = .ok (.iload_n 1, 1) := by decide +kernel
theorem dX1_find_20 : decode cX1_find 20 = .ok (.iload_n 2, 1) := by decide +kernel
theorem dX1_find_21 : decode cX1_find 21 = .ok (.invokevirtual 34, 3) := by decide +kernel
theorem dX1_find_24 : decode cX1_find 24 = .ok (.istore_n 3, 1) := by decide +kernel
theorem dX1_find_25 : decode cX1_find 25 = .ok (.iload_n 3, 1) := by decide +kernel
theorem dX1_find_26 : decode cX1_find 26 = .ok (.aload_n 0, 1) := by decide +kernel
theorem dX1_find_27 : decode cX1_find 27 = .ok (.getfield 25, 3) := by decide +kernel
theorem dX1_find_30 : decode cX1_find 30 = .ok (.iload_n 1, 1) := by decide +kernel
theorem dX1_find_31 : decode cX1_find 31 = .ok (.iconst 1, 1) := by decide +kernel
theorem dX1_find_32 : decode cX1_find 32 = .ok (.iadd, 1) := by decide +kernel
theorem dX1_find_33 : decode cX1_find 33 = .ok (.iaload, 1) := by decide +kernel
theorem dX1_find_34 : decode cX1_find 34 = .ok (.if_icmp .ge 21, 3) := by decide +kernel
theorem dX1_find_37 : decode cX1_find 37 = .ok (.aload_n 0, 1) := by decide +kernel
theorem dX1_find_38 : decode cX1_find 38 = .ok (.getfield 18, 3) := by decide +kernel
theorem dX1_find_41 : decode cX1_find 41 = .ok (.iload_n 3, 1) := by decide +kernel
theorem dX1_find_42 : decode cX1_find 42 = .ok (.iaload, 1) := by decide +kernel
theorem dX1_find_43 : decode cX1_find 43 = .ok (.iload_n 1, 1) := by decide +kernel
theorem dX1_find_44 : decode cX1_find 44 = .ok (.iload_n 2, 1) := by decide +kernel
theorem dX1_find_45 : decode cX1_find 45 = .ok (.invokestatic 38, 3) := by decide +kernel
theorem dX1_find_48 : decode cX1_find 48 = .ok (.if_icmp .ne 7, 3) := by decide +kernel
theorem dX1_find_51 : decode cX1_find 51 = .ok (.iload_n 3, 1) := by decide +kernel
theorem dX1_find_52 : decode cX1_find 52 = .ok (.goto 4, 3) := by decide +kernel
theorem dX1_find_55 : decode cX1_find 55 = .ok (.iconst (-1), 1) := by decide +kernel
theorem dX1_find_56 : decode cX1_find 56 = .ok (.ireturn, 1) := by decide +kernel
set_option maxRecDepth 20000 in
theorem ggX1_signedCost_X1_find : GoodIn wsX1_signedCost wsX1_find := goodIn_r _ [6, 7, 8, 9, 10, 11, 5, 12, 13, 14, 15, 16, 17, 18, 19, 20, 21, 22, 23, 24, 25, 26, 27, 28] (by decide +kernel) (by decide +kernel)
set_option maxRecDepth 20000 in
theorem gX1_signedCost_X1_find : GoodIn wsX1_signedCost (wsV RX1 41 RX1 yX1_find wsX1_find) := goodIn_app (goodIn_of _ (by decide +kernel)) ggX1_signedCost_X1_find
theorem dX1_signedCost_0 : decode cX1_signedCost 0 = .ok (.aload_n 0, 1) := by decide +kernel
theorem dX1_signedCost_1 : decode cX1_signedCost 1 = .ok (.iload_n 1, 1) := by decide +kernel
theorem dX1_signedCost_2 : decode cX1_signedCost 2 = .ok (.iload_n 2, 1) := by decide +kernel
theorem dX1_signedCost_3 : decode cX1_signedCost 3 = .ok (.invokevirtual 41, 3) := by decide +kernel
theorem dX1_signedCost_6 : decode cX1_signedCost 6 = .ok (.istore_n 3, 1) := by decide +kernel
theorem dX1_signedCost_7 : decode cX1_signedCost 7 = .ok (.iload_n 3, 1) := by decide +kernel
theorem dX1_signedCost_8 : decode cX1_signedCost 8 = .ok (.iconst (-1), 1) := by decide +kernel
theorem dX1_signedCost_9 : decode cX1_signedCost 9 = .ok (.if_icmp .ne 7, 3) := by decide +kernel
theorem dX1_signedCost_12 : decode cX1_signedCost 12 = .ok (.iconst 0, 1) := by decide +kernel
theorem dX1_signedCost_13 : decode cX1_signedCost 13 = .ok (.goto 9, 3) := by decide +kernel
theorem dX1_signedCost_16 : decode cX1_signedCost 16 = .ok (.aload_n 0, 1) := by decide +kernel
theorem dX1_signedCost_17 : decode cX1_signedCost 17 = .ok (.getfield 22, 3) := by decide +kernel
theorem dX1_signedCost_20 : decode cX1_signedCost 20 = .ok (.iload_n 3, 1) := by decide +kernel
theorem dX1_signedCost_21 : decode cX1_signedCost 21 = .ok (.iaload, 1) := by decide +kernel
theorem dX1_signedCost_22 : decode cX1_signedCost 22 = .ok (.ireturn, 1) := by decide +kernel
set_option maxRecDepth 20000 in
theorem ggX1_change_X1_find : GoodIn wsX1_change wsX1_find := goodIn_r _ [6, 7, 8, 9, 10, 11, 5, 12, 13, 14, 15, 16, 17, 18, 19, 20, 21, 22, 23, 24, 25, 26, 27, 28] (by decide +kernel) (by decide +kernel)
set_option maxRecDepth 20000 in
theorem gX1_change_X1_find : GoodIn wsX1_change (wsV RX1 41 RX1 yX1_find wsX1_find) := goodIn_app (goodIn_of _ (by decide +kernel)) ggX1_change_X1_find
theorem dX1_change_0 : decode cX1_change 0 = .ok (.aload_n 0, 1) := by decide +kernel
theorem dX1_change_1 : decode cX1_change 1 = .ok (.iload_n 1, 1) := by decide +kernel
theorem dX1_change_2 : decode cX1_change 2 = .ok (.iload_n 2, 1) := by decide +kernel
theorem dX1_change_3 : decode cX1_change 3 = .ok (.invokevirtual 41, 3) := by decide +kernel
theorem dX1_change_6 : decode cX1_change 6 = .ok (.istore 4, 2) := by decide +kernel
theorem dX1_change_8 : decode cX1_change 8 = .ok (.aload_n 0, 1) := by decide +kernel
theorem dX1_change_9 : decode cX1_change 9 = .ok (.iload_n 2, 1) := by decide +kernel
theorem dX1_change_10 : decode cX1_change 10 = .ok (.iload_n 1, 1) := by decide +kernel
theorem dX1_change_11 : decode cX1_change 11 = .ok (.invokevirtual 41, 3) := by decide +kernel
theorem dX1_change_14 : decode cX1_change 14 = .ok (.istore 5, 2) := by decide +kernel
theorem dX1_change_16 : decode cX1_change 16 = .ok (.iload 4, 2) := by decide +kernel
theorem dX1_change_18 : decode cX1_change 18 = .ok (.iconst (-1), 1) := by decide +kernel
theorem dX1_change_19 : decode cX1_change 19 = .ok (.if_icmp .eq 9, 3) := by decide +kernel
theorem dX1_change_22 : decode cX1_change 22 = .ok (.iload 5, 2) := by decide +kernel
theorem dX1_change_24 : decode cX1_change 24 = .ok (.iconst (-1), 1) := by decide +kernel
theorem dX1_change_25 : decode cX1_change 25 = .ok (.if_icmp .ne 4, 3) := by decide +kernel
theorem dX1_change_28 : decode cX1_change 28 = .ok (.return_, 1) := by decide +kernel
theorem dX1_change_29 : decode cX1_change 29 = .ok (.aload_n 0, 1) := by decide +kernel
theorem dX1_change_30 : decode cX1_change 30 = .ok (.getfield 22, 3) := by decide +kernel
theorem dX1_change_33 : decode cX1_change 33 = .ok (.iload 4, 2) := by decide +kernel
theorem dX1_change_35 : decode cX1_change 35 = .ok (.iload_n 3, 1) := by decide +kernel
theorem dX1_change_36 : decode cX1_change 36 = .ok (.iastore, 1) := by decide +kernel
theorem dX1_change_37 : decode cX1_change 37 = .ok (.aload_n 0, 1) := by decide +kernel
theorem dX1_change_38 : decode cX1_change 38 = .ok (.getfield 22, 3) := by decide +kernel
theorem dX1_change_41 : decode cX1_change 41 = .ok (.iload 5, 2) := by decide +kernel
theorem dX1_change_43 : decode cX1_change 43 = .ok (.iload_n 3, 1) := by decide +kernel
theorem dX1_change_44 : decode cX1_change 44 = .ok (.iastore, 1) := by decide +kernel
theorem dX1_change_45 : decode cX1_change 45 = .ok (.return_, 1) := by decide +kernel
set_option maxRecDepth 20000 in
theorem ggX1_add_X1_addArc : GoodIn wsX1_add wsX1_addArc := goodIn_r _ [5, 6, 7, 8, 9, 10, 11, 12, 4, 13, 14, 15, 16, 17, 18, 19, 20, 21, 22, 23, 24, 25, 26, 27, 28, 29, 30] (by decide +kernel) (by decide +kernel)
set_option maxRecDepth 20000 in
theorem gX1_add_X1_addArc : GoodIn wsX1_add (wsV RX1 44 RX1 yX1_addArc wsX1_addArc) := goodIn_app (goodIn_of _ (by decide +kernel)) ggX1_add_X1_addArc
theorem dX1_add_0 : decode cX1_add 0 = .ok (.aload_n 0, 1) := by decide +kernel
theorem dX1_add_1 : decode cX1_add 1 = .ok (.iload_n 1, 1) := by decide +kernel
theorem dX1_add_2 : decode cX1_add 2 = .ok (.iload_n 2, 1) := by decide +kernel
theorem dX1_add_3 : decode cX1_add 3 = .ok (.iload_n 3, 1) := by decide +kernel
theorem dX1_add_4 : decode cX1_add 4 = .ok (.invokevirtual 44, 3) := by decide +kernel
theorem dX1_add_7 : decode cX1_add 7 = .ok (.aload_n 0, 1) := by decide +kernel
theorem dX1_add_8 : decode cX1_add 8 = .ok (.iload_n 2, 1) := by decide +kernel
theorem dX1_add_9 : decode cX1_add 9 = .ok (.iload_n 1, 1) := by decide +kernel
theorem dX1_add_10 : decode cX1_add 10 = .ok (.iload_n 3, 1) := by decide +kernel
theorem dX1_add_11 : decode cX1_add 11 = .ok (.invokevirtual 44, 3) := by decide +kernel
theorem dX1_add_14 : decode cX1_add 14 = .ok (.return_, 1) := by decide +kernel
set_option maxRecDepth 20000 in
theorem ggX1_addArc_X1_placeOf : GoodIn wsX1_addArc wsX1_placeOf := goodIn_r _ [9, 1, 4, 10, 11, 8, 12, 13, 14, 15, 22, 23, 24, 25, 26] (by decide +kernel) (by decide +kernel)
set_option maxRecDepth 20000 in
theorem gX1_addArc_X1_placeOf : GoodIn wsX1_addArc (wsV RX1 34 RX1 yX1_placeOf wsX1_placeOf) := goodIn_app (goodIn_of _ (by decide +kernel)) ggX1_addArc_X1_placeOf
set_option maxRecDepth 20000 in
theorem ggX1_addArc_X1_key : GoodIn wsX1_addArc wsX1_key := goodIn_r _ [12] (by decide +kernel) (by decide +kernel)
set_option maxRecDepth 20000 in
theorem gX1_addArc_X1_key : GoodIn wsX1_addArc (va_wsS RX1 38 yX1_key wsX1_key) := goodIn_app (goodIn_of _ (by decide +kernel)) ggX1_addArc_X1_key
set_option maxRecDepth 20000 in
theorem ggX1_addArc_X4_insert : GoodIn wsX1_addArc wsX4_insert := goodIn_r _ [17, 18, 19, 20, 21] (by decide +kernel) (by decide +kernel)
set_option maxRecDepth 20000 in
theorem gX1_addArc_X4_insert_n48 : GoodIn wsX1_addArc (wsX4_insert) := ggX1_addArc_X4_insert
theorem dX1_addArc_0 : decode cX1_addArc 0 = .ok (.aload_n 0, 1) := by decide +kernel
theorem dX1_addArc_1 : decode cX1_addArc 1 = .ok (.iload_n 1, 1) := by decide +kernel
theorem dX1_addArc_2 : decode cX1_addArc 2 = .ok (.iload_n 2, 1) := by decide +kernel
theorem dX1_addArc_3 : decode cX1_addArc 3 = .ok (.invokevirtual 34, 3) := by decide +kernel
theorem dX1_addArc_6 : decode cX1_addArc 6 = .ok (.istore 4, 2) := by decide +kernel
theorem dX1_addArc_8 : decode cX1_addArc 8 = .ok (.aload_n 0, 1) := by decide +kernel
theorem dX1_addArc_9 : decode cX1_addArc 9 = .ok (.getfield 18, 3) := by decide +kernel
theorem dX1_addArc_12 : decode cX1_addArc 12 = .ok (.aload_n 0, 1) := by decide +kernel
theorem dX1_addArc_13 : decode cX1_addArc 13 = .ok (.getfield 15, 3) := by decide +kernel
theorem dX1_addArc_16 : decode cX1_addArc 16 = .ok (.iload 4, 2) := by decide +kernel
theorem dX1_addArc_18 : decode cX1_addArc 18 = .ok (.iload_n 1, 1) := by decide +kernel
theorem dX1_addArc_19 : decode cX1_addArc 19 = .ok (.iload_n 2, 1) := by decide +kernel
theorem dX1_addArc_20 : decode cX1_addArc 20 = .ok (.invokestatic 38, 3) := by decide +kernel
theorem dX1_addArc_23 : decode cX1_addArc 23 = .ok (.invokestatic 48, 3) := by decide +kernel
theorem dX1_addArc_26 : decode cX1_addArc 26 = .ok (.aload_n 0, 1) := by decide +kernel
theorem dX1_addArc_27 : decode cX1_addArc 27 = .ok (.getfield 22, 3) := by decide +kernel
theorem dX1_addArc_30 : decode cX1_addArc 30 = .ok (.aload_n 0, 1) := by decide +kernel
theorem dX1_addArc_31 : decode cX1_addArc 31 = .ok (.getfield 15, 3) := by decide +kernel
theorem dX1_addArc_34 : decode cX1_addArc 34 = .ok (.iload 4, 2) := by decide +kernel
theorem dX1_addArc_36 : decode cX1_addArc 36 = .ok (.iload_n 3, 1) := by decide +kernel
theorem dX1_addArc_37 : decode cX1_addArc 37 = .ok (.invokestatic 48, 3) := by decide +kernel
theorem dX1_addArc_40 : decode cX1_addArc 40 = .ok (.aload_n 0, 1) := by decide +kernel
theorem dX1_addArc_41 : decode cX1_addArc 41 = .ok (.dup, 1) := by decide +kernel
theorem dX1_addArc_42 : decode cX1_addArc 42 = .ok (.getfield 15, 3) := by decide +kernel
theorem dX1_addArc_45 : decode cX1_addArc 45 = .ok (.iconst 1, 1) := by decide +kernel
theorem dX1_addArc_46 : decode cX1_addArc 46 = .ok (.iadd, 1) := by decide +kernel
theorem dX1_addArc_47 : decode cX1_addArc 47 = .ok (.putfield 15, 3) := by decide +kernel
theorem dX1_addArc_50 : decode cX1_addArc 50 = .ok (.iload_n 1, 1) := by decide +kernel
theorem dX1_addArc_51 : decode cX1_addArc 51 = .ok (.iconst 1, 1) := by decide +kernel
theorem dX1_addArc_52 : decode cX1_addArc 52 = .ok (.iadd, 1) := by decide +kernel
theorem dX1_addArc_53 : decode cX1_addArc 53 = .ok (.istore 5, 2) := by decide +kernel
theorem dX1_addArc_55 : decode cX1_addArc 55 = .ok (.iload 5, 2) := by decide +kernel
theorem dX1_addArc_57 : decode cX1_addArc 57 = .ok (.aload_n 0, 1) := by decide +kernel
theorem dX1_addArc_58 : decode cX1_addArc 58 = .ok (.getfield 25, 3) := by decide +kernel
theorem dX1_addArc_61 : decode cX1_addArc 61 = .ok (.arraylength, 1) := by decide +kernel
theorem dX1_addArc_62 : decode cX1_addArc 62 = .ok (.if_icmp .ge 20, 3) := by decide +kernel
theorem dX1_addArc_65 : decode cX1_addArc 65 = .ok (.aload_n 0, 1) := by decide +kernel
theorem dX1_addArc_66 : decode cX1_addArc 66 = .ok (.getfield 25, 3) := by decide +kernel
theorem dX1_addArc_69 : decode cX1_addArc 69 = .ok (.iload 5, 2) := by decide +kernel
theorem dX1_addArc_71 : decode cX1_addArc 71 = .ok (.dup2, 1) := by decide +kernel
theorem dX1_addArc_72 : decode cX1_addArc 72 = .ok (.iaload, 1) := by decide +kernel
theorem dX1_addArc_73 : decode cX1_addArc 73 = .ok (.iconst 1, 1) := by decide +kernel
theorem dX1_addArc_74 : decode cX1_addArc 74 = .ok (.iadd, 1) := by decide +kernel
theorem dX1_addArc_75 : decode cX1_addArc 75 = .ok (.iastore, 1) := by decide +kernel
theorem dX1_addArc_76 : decode cX1_addArc 76 = .ok (.iinc 5 1, 3) := by decide +kernel
theorem dX1_addArc_79 : decode cX1_addArc 79 = .ok (.goto (-24), 3) := by decide +kernel
theorem dX1_addArc_82 : decode cX1_addArc 82 = .ok (.return_, 1) := by decide +kernel
set_option maxRecDepth 20000 in
theorem ggX1_placeOf_X1_key : GoodIn wsX1_placeOf wsX1_key := goodIn_r _ [6] (by decide +kernel) (by decide +kernel)
set_option maxRecDepth 20000 in
theorem gX1_placeOf_X1_key : GoodIn wsX1_placeOf (va_wsS RX1 38 yX1_key wsX1_key) := goodIn_app (goodIn_of _ (by decide +kernel)) ggX1_placeOf_X1_key
set_option maxRecDepth 20000 in
theorem ggX1_placeOf_X4_placeIn : GoodIn wsX1_placeOf wsX4_placeIn := goodIn_r _ [9] (by decide +kernel) (by decide +kernel)
set_option maxRecDepth 20000 in
theorem gX1_placeOf_X4_placeIn_n52 : GoodIn wsX1_placeOf (wsX4_placeIn) := ggX1_placeOf_X4_placeIn
theorem dX1_placeOf_0 : decode cX1_placeOf 0 = .ok (.aload_n 0, 1) := by decide +kernel
theorem dX1_placeOf_1 : decode cX1_placeOf 1 = .ok (.getfield 18, 3) := by decide +kernel
theorem dX1_placeOf_4 : decode cX1_placeOf 4 = .ok (.aload_n 0, 1) := by decide +kernel
theorem dX1_placeOf_5 : decode cX1_placeOf 5 = .ok (.getfield 25, 3) := by decide +kernel
theorem dX1_placeOf_8 : decode cX1_placeOf 8 = .ok (.iload_n 1, 1) := by decide +kernel
theorem dX1_placeOf_9 : decode cX1_placeOf 9 = .ok (.iaload, 1) := by decide +kernel
theorem dX1_placeOf_10 : decode cX1_placeOf 10 = .ok (.aload_n 0, 1) := by decide +kernel
theorem dX1_placeOf_11 : decode cX1_placeOf 11 = .ok (.getfield 25, 3) := by decide +kernel
theorem dX1_placeOf_14 : decode cX1_placeOf 14 = .ok (.iload_n 1, 1) := by decide +kernel
theorem dX1_placeOf_15 : decode cX1_placeOf 15 = .ok (.iconst 1, 1) := by decide +kernel
theorem dX1_placeOf_16 : decode cX1_placeOf 16 = .ok (.iadd, 1) := by decide +kernel
theorem dX1_placeOf_17 : decode cX1_placeOf 17 = .ok (.iaload, 1) := by decide +kernel
theorem dX1_placeOf_18 : decode cX1_placeOf 18 = .ok (.iload_n 1, 1) := by decide +kernel
theorem dX1_placeOf_19 : decode cX1_placeOf 19 = .ok (.iload_n 2, 1) := by decide +kernel
theorem dX1_placeOf_20 : decode cX1_placeOf 20 = .ok (.invokestatic 38, 3) := by decide +kernel
theorem dX1_placeOf_23 : decode cX1_placeOf 23 = .ok (.invokestatic 52, 3) := by decide +kernel
theorem dX1_placeOf_26 : decode cX1_placeOf 26 = .ok (.ireturn, 1) := by decide +kernel
theorem dX1_key_0 : decode cX1_key 0 = .ok (.iload_n 0, 1) := by decide +kernel
theorem dX1_key_1 : decode cX1_key 1 = .ok (.sipush 300, 3) := by decide +kernel
theorem dX1_key_4 : decode cX1_key 4 = .ok (.imul, 1) := by decide +kernel
theorem dX1_key_5 : decode cX1_key 5 = .ok (.iload_n 1, 1) := by decide +kernel
theorem dX1_key_6 : decode cX1_key 6 = .ok (.iadd, 1) := by decide +kernel
theorem dX1_key_7 : decode cX1_key 7 = .ok (.ireturn, 1) := by decide +kernel
set_option maxRecDepth 20000 in
theorem ggX2_init_X0_init : GoodIn wsX2_init wsX0_init := goodIn_r _ [18, 19, 2, 3, 20, 12, 21, 22, 30, 31, 32] (by decide +kernel) (by decide +kernel)
set_option maxRecDepth 20000 in
theorem gX2_init_X0_init : GoodIn wsX2_init (wsX0_init) := ggX2_init_X0_init
theorem dX2_init_0 : decode cX2_init 0 = .ok (.aload_n 0, 1) := by decide +kernel
theorem dX2_init_1 : decode cX2_init 1 = .ok (.invokespecial 3, 3) := by decide +kernel
theorem dX2_init_4 : decode cX2_init 4 = .ok (.aload_n 0, 1) := by decide +kernel
theorem dX2_init_5 : decode cX2_init 5 = .ok (.aload_n 1, 1) := by decide +kernel
theorem dX2_init_6 : decode cX2_init 6 = .ok (.putfield 9, 3) := by decide +kernel
theorem dX2_init_9 : decode cX2_init 9 = .ok (.aload_n 0, 1) := by decide +kernel
theorem dX2_init_10 : decode cX2_init 10 = .ok (.aload_n 2, 1) := by decide +kernel
theorem dX2_init_11 : decode cX2_init 11 = .ok (.putfield 15, 3) := by decide +kernel
theorem dX2_init_14 : decode cX2_init 14 = .ok (.aload_n 0, 1) := by decide +kernel
theorem dX2_init_15 : decode cX2_init 15 = .ok (.sipush 4000, 3) := by decide +kernel
theorem dX2_init_18 : decode cX2_init 18 = .ok (.newarray .long, 2) := by decide +kernel
theorem dX2_init_20 : decode cX2_init 20 = .ok (.putfield 19, 3) := by decide +kernel
theorem dX2_init_23 : decode cX2_init 23 = .ok (.aload_n 0, 1) := by decide +kernel
theorem dX2_init_24 : decode cX2_init 24 = .ok (.new 23, 3) := by decide +kernel
theorem dX2_init_27 : decode cX2_init 27 = .ok (.dup, 1) := by decide +kernel
theorem dX2_init_28 : decode cX2_init 28 = .ok (.aload_n 0, 1) := by decide +kernel
theorem dX2_init_29 : decode cX2_init 29 = .ok (.getfield 19, 3) := by decide +kernel
theorem dX2_init_32 : decode cX2_init 32 = .ok (.invokespecial 25, 3) := by decide +kernel
theorem dX2_init_35 : decode cX2_init 35 = .ok (.putfield 28, 3) := by decide +kernel
theorem dX2_init_38 : decode cX2_init 38 = .ok (.aload_n 0, 1) := by decide +kernel
theorem dX2_init_39 : decode cX2_init 39 = .ok (.sipush 4000, 3) := by decide +kernel
theorem dX2_init_42 : decode cX2_init 42 = .ok (.newarray .int, 2) := by decide +kernel
theorem dX2_init_44 : decode cX2_init 44 = .ok (.putfield 32, 3) := by decide +kernel
theorem dX2_init_47 : decode cX2_init 47 = .ok (.aload_n 0, 1) := by decide +kernel
theorem dX2_init_48 : decode cX2_init 48 = .ok (.sipush 300, 3) := by decide +kernel
theorem dX2_init_51 : decode cX2_init 51 = .ok (.newarray .int, 2) := by decide +kernel
theorem dX2_init_53 : decode cX2_init 53 = .ok (.putfield 36, 3) := by decide +kernel
theorem dX2_init_56 : decode cX2_init 56 = .ok (.aload_n 0, 1) := by decide +kernel
theorem dX2_init_57 : decode cX2_init 57 = .ok (.iconst 0, 1) := by decide +kernel
theorem dX2_init_58 : decode cX2_init 58 = .ok (.putfield 39, 3) := by decide +kernel
theorem dX2_init_61 : decode cX2_init 61 = .ok (.return_, 1) := by decide +kernel
set_option maxRecDepth 20000 in
theorem ggX2_begin_X2_spread : GoodIn wsX2_begin wsX2_spread := goodIn_r _ [10, 5, 3, 11, 4, 2, 12, 13, 14, 9, 15, 16, 17, 18, 19, 20, 21, 22, 23, 24, 25, 26, 27, 28, 29, 30, 1, 31, 32, 33, 34, 35, 36, 37, 38, 39, 40, 41, 42, 43, 44, 45, 46, 47, 48, 49, 50, 51, 52, 53, 54, 55, 56, 57, 58, 59, 60, 61, 62, 63, 64, 68, 69, 70, 71, 72, 73, 74, 65, 66, 67] (by decide +kernel) (by decide +kernel)
set_option maxRecDepth 20000 in
theorem gX2_begin_X2_spread : GoodIn wsX2_begin (wsV RX2 55 RX2 yX2_spread wsX2_spread) := goodIn_app (goodIn_of _ (by decide +kernel)) ggX2_begin_X2_spread
theorem dX2_begin_0 : decode cX2_begin 0 = .ok (.aload_n 0, 1) := by decide +kernel
theorem dX2_begin_1 : decode cX2_begin 1 = .ok (.iload_n 2, 1) := by decide +kernel
theorem dX2_begin_2 : decode cX2_begin 2 = .ok (.putfield 39, 3) := by decide +kernel
theorem dX2_begin_5 : decode cX2_begin 5 = .ok (.aload_n 0, 1) := by decide +kernel
theorem dX2_begin_6 : decode cX2_begin 6 = .ok (.getfield 28, 3) := by decide +kernel
theorem dX2_begin_9 : decode cX2_begin 9 = .ok (.iconst 0, 1) := by decide +kernel
theorem dX2_begin_10 : decode cX2_begin 10 = .ok (.putfield 43, 3) := by decide +kernel
theorem dX2_begin_13 : decode cX2_begin 13 = .ok (.iconst 0, 1) := by decide +kernel
theorem dX2_begin_14 : decode cX2_begin 14 = .ok (.istore_n 3, 1) := by decide +kernel
theorem dX2_begin_15 : decode cX2_begin 15 = .ok (.iload_n 3, 1) := by decide +kernel
theorem dX2_begin_16 : decode cX2_begin 16 = .ok (.aload_n 0, 1) := by decide +kernel
theorem dX2_begin_17 : decode cX2_begin 17 = .ok (.getfield 9, 3) := by decide +kernel
theorem dX2_begin_20 : decode cX2_begin 20 = .ok (.getfield 47, 3) := by decide +kernel
theorem dX2_begin_23 : decode cX2_begin 23 = .ok (.if_icmp .ge 16, 3) := by decide +kernel
theorem dX2_begin_26 : decode cX2_begin 26 = .ok (.aload_n 0, 1) := by decide +kernel
theorem dX2_begin_27 : decode cX2_begin 27 = .ok (.getfield 19, 3) := by decide +kernel
theorem dX2_begin_30 : decode cX2_begin 30 = .ok (.iload_n 3, 1) := by decide +kernel
theorem dX2_begin_31 : decode cX2_begin 31 = .ok (.lconst 0, 1) := by decide +kernel
theorem dX2_begin_32 : decode cX2_begin 32 = .ok (.lastore, 1) := by decide +kernel
theorem dX2_begin_33 : decode cX2_begin 33 = .ok (.iinc 3 1, 3) := by decide +kernel
theorem dX2_begin_36 : decode cX2_begin 36 = .ok (.goto (-21), 3) := by decide +kernel
theorem dX2_begin_39 : decode cX2_begin 39 = .ok (.iconst 0, 1) := by decide +kernel
theorem dX2_begin_40 : decode cX2_begin 40 = .ok (.istore_n 3, 1) := by decide +kernel
theorem dX2_begin_41 : decode cX2_begin 41 = .ok (.iload_n 3, 1) := by decide +kernel
theorem dX2_begin_42 : decode cX2_begin 42 = .ok (.aload_n 0, 1) := by decide +kernel
theorem dX2_begin_43 : decode cX2_begin 43 = .ok (.getfield 9, 3) := by decide +kernel
theorem dX2_begin_46 : decode cX2_begin 46 = .ok (.getfield 52, 3) := by decide +kernel
theorem dX2_begin_49 : decode cX2_begin 49 = .ok (.if_icmp .ge 16, 3) := by decide +kernel
theorem dX2_begin_52 : decode cX2_begin 52 = .ok (.aload_n 0, 1) := by decide +kernel
theorem dX2_begin_53 : decode cX2_begin 53 = .ok (.getfield 36, 3) := by decide +kernel
theorem dX2_begin_56 : decode cX2_begin 56 = .ok (.iload_n 3, 1) := by decide +kernel
theorem dX2_begin_57 : decode cX2_begin 57 = .ok (.iconst (-1), 1) := by decide +kernel
theorem dX2_begin_58 : decode cX2_begin 58 = .ok (.iastore, 1) := by decide +kernel
theorem dX2_begin_59 : decode cX2_begin 59 = .ok (.iinc 3 1, 3) := by decide +kernel
theorem dX2_begin_62 : decode cX2_begin 62 = .ok (.goto (-21), 3) := by decide +kernel
theorem dX2_begin_65 : decode cX2_begin 65 = .ok (.aload_n 0, 1) := by decide +kernel
theorem dX2_begin_66 : decode cX2_begin 66 = .ok (.iload_n 1, 1) := by decide +kernel
theorem dX2_begin_67 : decode cX2_begin 67 = .ok (.iconst (-1), 1) := by decide +kernel
theorem dX2_begin_68 : decode cX2_begin 68 = .ok (.lconst 0, 1) := by decide +kernel
theorem dX2_begin_69 : decode cX2_begin 69 = .ok (.invokevirtual 55, 3) := by decide +kernel
theorem dX2_begin_72 : decode cX2_begin 72 = .ok (.return_, 1) := by decide +kernel
set_option maxRecDepth 20000 in
theorem ggX2_weightOfFirstArrival_X0_take : GoodIn wsX2_weightOfFirstArrival wsX0_take := goodIn_r _ [8, 9, 10, 11, 73, 74, 75] (by decide +kernel) (by decide +kernel)
set_option maxRecDepth 20000 in
theorem gX2_weightOfFirstArrival_X0_take : GoodIn wsX2_weightOfFirstArrival (wsV RX2 59 RX0 yX0_take wsX0_take) := goodIn_app (goodIn_of _ (by decide +kernel)) ggX2_weightOfFirstArrival_X0_take
set_option maxRecDepth 20000 in
theorem ggX2_weightOfFirstArrival_X1_targetOf : GoodIn wsX2_weightOfFirstArrival wsX1_targetOf := goodIn_r _ [16, 17, 76, 77, 78, 79, 80] (by decide +kernel) (by decide +kernel)
set_option maxRecDepth 20000 in
theorem gX2_weightOfFirstArrival_X1_targetOf : GoodIn wsX2_weightOfFirstArrival (wsV RX2 63 RX1 yX1_targetOf wsX1_targetOf) := goodIn_app (goodIn_of _ (by decide +kernel)) ggX2_weightOfFirstArrival_X1_targetOf
set_option maxRecDepth 20000 in
theorem ggX2_weightOfFirstArrival_X1_originOf : GoodIn wsX2_weightOfFirstArrival wsX1_originOf := goodIn_r _ [21, 17, 76, 77, 78, 79, 80] (by decide +kernel) (by decide +kernel)
set_option maxRecDepth 20000 in
theorem gX2_weightOfFirstArrival_X1_originOf : GoodIn wsX2_weightOfFirstArrival (wsV RX2 67 RX1 yX1_originOf wsX1_originOf) := goodIn_app (goodIn_of _ (by decide +kernel)) ggX2_weightOfFirstArrival_X1_originOf
set_option maxRecDepth 20000 in
theorem ggX2_weightOfFirstArrival_X2_spread : GoodIn wsX2_weightOfFirstArrival wsX2_spread := goodIn_r _ [26, 27, 2, 28, 3, 1, 29, 30, 31, 25, 32, 33, 34, 35, 15, 36, 37, 12, 13, 14, 16, 17, 38, 39, 40, 41, 42, 43, 44, 45, 46, 47, 48, 49, 50, 51, 52, 53, 54, 55, 56, 57, 58, 59, 60, 61, 62, 63, 64, 7, 65, 9, 10, 11, 66, 67, 68, 69, 70, 71, 72, 76, 77, 78, 79, 80, 81, 82, 73, 74, 75] (by decide +kernel) (by decide +kernel)
set_option maxRecDepth 20000 in
theorem gX2_weightOfFirstArrival_X2_spread : GoodIn wsX2_weightOfFirstArrival (wsV RX2 55 RX2 yX2_spread wsX2_spread) := goodIn_app (goodIn_of _ (by decide +kernel)) ggX2_weightOfFirstArrival_X2_spread
theorem dX2_weightOfFirstArrival_0 : decode cX2_weightOfFirstArrival 0 = .ok (.iconst 0, 1) := by decide +kernel
theorem dX2_weightOfFirstArrival_1 : decode cX2_weightOfFirstArrival 1 = .ok (.istore_n 2, 1) := by decide +kernel
theorem dX2_weightOfFirstArrival_2 : decode cX2_weightOfFirstArrival 2 = .ok (.iload_n 2, 1) := by decide +kernel
theorem dX2_weightOfFirstArrival_3 : decode cX2_weightOfFirstArrival 3 = .ok (.sipush 4000, 3) := by decide +kernel
theorem dX2_weightOfFirstArrival_6 : decode cX2_weightOfFirstArrival 6 = .ok (.if_icmp .ge 69, 3) := by decide +kernel
theorem dX2_weightOfFirstArrival_9 : decode cX2_weightOfFirstArrival 9 = .ok (.aload_n 0, 1) := by decide +kernel
theorem dX2_weightOfFirstArrival_10 : decode cX2_weightOfFirstArrival 10 = .ok (.getfield 28, 3) := by decide +kernel
theorem dX2_weightOfFirstArrival_13 : decode cX2_weightOfFirstArrival 13 = .ok (.invokevirtual 59, 3) := by decide +kernel
