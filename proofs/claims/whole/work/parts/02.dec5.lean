theorem dX6_gifts_57 : decode cX6_gifts 57 = .ok (.ifCond .lt 110, 3) := by decide +kernel
theorem dX6_gifts_60 : decode cX6_gifts 60 = .ok (.iload_n 2, 1) := by decide +kernel
theorem dX6_gifts_61 : decode cX6_gifts 61 = .ok (.iload 6, 2) := by decide +kernel
theorem dX6_gifts_63 : decode cX6_gifts 63 = .ok (.invokestatic 132, 3) := by decide +kernel
theorem dX6_gifts_66 : decode cX6_gifts 66 = .ok (.ifCond .eq 95, 3) := by decide +kernel
theorem dX6_gifts_69 : decode cX6_gifts 69 = .ok (.aload_n 0, 1) := by decide +kernel
theorem dX6_gifts_70 : decode cX6_gifts 70 = .ok (.getfield 22, 3) := by decide +kernel
theorem dX6_gifts_73 : decode cX6_gifts 73 = .ok (.bipush 10, 2) := by decide +kernel
theorem dX6_gifts_75 : decode cX6_gifts 75 = .ok (.bipush 6, 2) := by decide +kernel
theorem dX6_gifts_77 : decode cX6_gifts 77 = .ok (.iload 6, 2) := by decide +kernel
theorem dX6_gifts_79 : decode cX6_gifts 79 = .ok (.imul, 1) := by decide +kernel
theorem dX6_gifts_80 : decode cX6_gifts 80 = .ok (.iadd, 1) := by decide +kernel
theorem dX6_gifts_81 : decode cX6_gifts 81 = .ok (.iload_n 1, 1) := by decide +kernel
theorem dX6_gifts_82 : decode cX6_gifts 82 = .ok (.iadd, 1) := by decide +kernel
theorem dX6_gifts_83 : decode cX6_gifts 83 = .ok (.iaload, 1) := by decide +kernel
theorem dX6_gifts_84 : decode cX6_gifts 84 = .ok (.istore 7, 2) := by decide +kernel
theorem dX6_gifts_86 : decode cX6_gifts 86 = .ok (.iconst 0, 1) := by decide +kernel
theorem dX6_gifts_87 : decode cX6_gifts 87 = .ok (.istore 8, 2) := by decide +kernel
theorem dX6_gifts_89 : decode cX6_gifts 89 = .ok (.iload 7, 2) := by decide +kernel
theorem dX6_gifts_91 : decode cX6_gifts 91 = .ok (.iload 8, 2) := by decide +kernel
theorem dX6_gifts_93 : decode cX6_gifts 93 = .ok (.iadd, 1) := by decide +kernel
theorem dX6_gifts_94 : decode cX6_gifts 94 = .ok (.iconst 5, 1) := by decide +kernel
theorem dX6_gifts_95 : decode cX6_gifts 95 = .ok (.if_icmp .gt 35, 3) := by decide +kernel
theorem dX6_gifts_98 : decode cX6_gifts 98 = .ok (.aload_n 0, 1) := by decide +kernel
theorem dX6_gifts_99 : decode cX6_gifts 99 = .ok (.iconst 0, 1) := by decide +kernel
theorem dX6_gifts_100 : decode cX6_gifts 100 = .ok (.iload 6, 2) := by decide +kernel
theorem dX6_gifts_102 : decode cX6_gifts 102 = .ok (.iload_n 1, 1) := by decide +kernel
theorem dX6_gifts_103 : decode cX6_gifts 103 = .ok (.aload_n 0, 1) := by decide +kernel
theorem dX6_gifts_104 : decode cX6_gifts 104 = .ok (.getfield 7, 3) := by decide +kernel
theorem dX6_gifts_107 : decode cX6_gifts 107 = .ok (.iload 6, 2) := by decide +kernel
theorem dX6_gifts_109 : decode cX6_gifts 109 = .ok (.iaload, 1) := by decide +kernel
theorem dX6_gifts_110 : decode cX6_gifts 110 = .ok (.iload 7, 2) := by decide +kernel
theorem dX6_gifts_112 : decode cX6_gifts 112 = .ok (.iload 8, 2) := by decide +kernel
theorem dX6_gifts_114 : decode cX6_gifts 114 = .ok (.iadd, 1) := by decide +kernel
theorem dX6_gifts_115 : decode cX6_gifts 115 = .ok (.iload_n 3, 1) := by decide +kernel
theorem dX6_gifts_116 : decode cX6_gifts 116 = .ok (.iload 4, 2) := by decide +kernel
theorem dX6_gifts_118 : decode cX6_gifts 118 = .ok (.invokevirtual 150, 3) := by decide +kernel
theorem dX6_gifts_121 : decode cX6_gifts 121 = .ok (.ifCond .ne 9, 3) := by decide +kernel
theorem dX6_gifts_124 : decode cX6_gifts 124 = .ok (.iinc 8 1, 3) := by decide +kernel
theorem dX6_gifts_127 : decode cX6_gifts 127 = .ok (.goto (-38), 3) := by decide +kernel
theorem dX6_gifts_130 : decode cX6_gifts 130 = .ok (.iload 7, 2) := by decide +kernel
theorem dX6_gifts_132 : decode cX6_gifts 132 = .ok (.iload 8, 2) := by decide +kernel
theorem dX6_gifts_134 : decode cX6_gifts 134 = .ok (.iadd, 1) := by decide +kernel
theorem dX6_gifts_135 : decode cX6_gifts 135 = .ok (.iconst 5, 1) := by decide +kernel
theorem dX6_gifts_136 : decode cX6_gifts 136 = .ok (.if_icmp .gt 13, 3) := by decide +kernel
theorem dX6_gifts_139 : decode cX6_gifts 139 = .ok (.aload_n 0, 1) := by decide +kernel
theorem dX6_gifts_140 : decode cX6_gifts 140 = .ok (.iconst 0, 1) := by decide +kernel
theorem dX6_gifts_141 : decode cX6_gifts 141 = .ok (.iload 6, 2) := by decide +kernel
theorem dX6_gifts_143 : decode cX6_gifts 143 = .ok (.invokevirtual 136, 3) := by decide +kernel
theorem dX6_gifts_146 : decode cX6_gifts 146 = .ok (.ifCond .ne 8, 3) := by decide +kernel
theorem dX6_gifts_149 : decode cX6_gifts 149 = .ok (.bipush (-4), 2) := by decide +kernel
theorem dX6_gifts_151 : decode cX6_gifts 151 = .ok (.goto 8, 3) := by decide +kernel
theorem dX6_gifts_154 : decode cX6_gifts 154 = .ok (.iload 5, 2) := by decide +kernel
theorem dX6_gifts_156 : decode cX6_gifts 156 = .ok (.iload 8, 2) := by decide +kernel
theorem dX6_gifts_158 : decode cX6_gifts 158 = .ok (.iadd, 1) := by decide +kernel
theorem dX6_gifts_159 : decode cX6_gifts 159 = .ok (.istore 5, 2) := by decide +kernel
theorem dX6_gifts_161 : decode cX6_gifts 161 = .ok (.iinc 6 1, 3) := by decide +kernel
theorem dX6_gifts_164 : decode cX6_gifts 164 = .ok (.goto (-118), 3) := by decide +kernel
theorem dX6_gifts_167 : decode cX6_gifts 167 = .ok (.iload 5, 2) := by decide +kernel
theorem dX6_gifts_169 : decode cX6_gifts 169 = .ok (.ireturn, 1) := by decide +kernel
theorem dX6_lists_0 : decode cX6_lists 0 = .ok (.aload_n 0, 1) := by decide +kernel
theorem dX6_lists_1 : decode cX6_lists 1 = .ok (.iconst 0, 1) := by decide +kernel
theorem dX6_lists_2 : decode cX6_lists 2 = .ok (.putfield 216, 3) := by decide +kernel
theorem dX6_lists_5 : decode cX6_lists 5 = .ok (.iconst 0, 1) := by decide +kernel
theorem dX6_lists_6 : decode cX6_lists 6 = .ok (.istore_n 1, 1) := by decide +kernel
theorem dX6_lists_7 : decode cX6_lists 7 = .ok (.iload_n 1, 1) := by decide +kernel
theorem dX6_lists_8 : decode cX6_lists 8 = .ok (.aload_n 0, 1) := by decide +kernel
theorem dX6_lists_9 : decode cX6_lists 9 = .ok (.getfield 65, 3) := by decide +kernel
theorem dX6_lists_12 : decode cX6_lists 12 = .ok (.if_icmp .ge 38, 3) := by decide +kernel
theorem dX6_lists_15 : decode cX6_lists 15 = .ok (.aload_n 0, 1) := by decide +kernel
theorem dX6_lists_16 : decode cX6_lists 16 = .ok (.iconst 0, 1) := by decide +kernel
theorem dX6_lists_17 : decode cX6_lists 17 = .ok (.iload_n 1, 1) := by decide +kernel
theorem dX6_lists_18 : decode cX6_lists 18 = .ok (.invokevirtual 175, 3) := by decide +kernel
theorem dX6_lists_21 : decode cX6_lists 21 = .ok (.ifCond .eq 23, 3) := by decide +kernel
theorem dX6_lists_24 : decode cX6_lists 24 = .ok (.aload_n 0, 1) := by decide +kernel
theorem dX6_lists_25 : decode cX6_lists 25 = .ok (.getfield 45, 3) := by decide +kernel
theorem dX6_lists_28 : decode cX6_lists 28 = .ok (.aload_n 0, 1) := by decide +kernel
theorem dX6_lists_29 : decode cX6_lists 29 = .ok (.getfield 216, 3) := by decide +kernel
theorem dX6_lists_32 : decode cX6_lists 32 = .ok (.iload_n 1, 1) := by decide +kernel
theorem dX6_lists_33 : decode cX6_lists 33 = .ok (.iastore, 1) := by decide +kernel
theorem dX6_lists_34 : decode cX6_lists 34 = .ok (.aload_n 0, 1) := by decide +kernel
theorem dX6_lists_35 : decode cX6_lists 35 = .ok (.dup, 1) := by decide +kernel
theorem dX6_lists_36 : decode cX6_lists 36 = .ok (.getfield 216, 3) := by decide +kernel
theorem dX6_lists_39 : decode cX6_lists 39 = .ok (.iconst 1, 1) := by decide +kernel
theorem dX6_lists_40 : decode cX6_lists 40 = .ok (.iadd, 1) := by decide +kernel
theorem dX6_lists_41 : decode cX6_lists 41 = .ok (.putfield 216, 3) := by decide +kernel
theorem dX6_lists_44 : decode cX6_lists 44 = .ok (.iinc 1 1, 3) := by decide +kernel
theorem dX6_lists_47 : decode cX6_lists 47 = .ok (.goto (-40), 3) := by decide +kernel
theorem dX6_lists_50 : decode cX6_lists 50 = .ok (.return_, 1) := by decide +kernel
theorem dX6_swaps_0 : decode cX6_swaps 0 = .ok (.aload_n 0, 1) := by decide +kernel
theorem dX6_swaps_1 : decode cX6_swaps 1 = .ok (.getfield 45, 3) := by decide +kernel
theorem dX6_swaps_4 : decode cX6_swaps 4 = .ok (.iload_n 1, 1) := by decide +kernel
theorem dX6_swaps_5 : decode cX6_swaps 5 = .ok (.iaload, 1) := by decide +kernel
theorem dX6_swaps_6 : decode cX6_swaps 6 = .ok (.istore_n 3, 1) := by decide +kernel
theorem dX6_swaps_7 : decode cX6_swaps 7 = .ok (.aload_n 0, 1) := by decide +kernel
theorem dX6_swaps_8 : decode cX6_swaps 8 = .ok (.getfield 45, 3) := by decide +kernel
theorem dX6_swaps_11 : decode cX6_swaps 11 = .ok (.iload_n 1, 1) := by decide +kernel
theorem dX6_swaps_12 : decode cX6_swaps 12 = .ok (.aload_n 0, 1) := by decide +kernel
theorem dX6_swaps_13 : decode cX6_swaps 13 = .ok (.getfield 45, 3) := by decide +kernel
theorem dX6_swaps_16 : decode cX6_swaps 16 = .ok (.iload_n 2, 1) := by decide +kernel
theorem dX6_swaps_17 : decode cX6_swaps 17 = .ok (.iaload, 1) := by decide +kernel
theorem dX6_swaps_18 : decode cX6_swaps 18 = .ok (.iastore, 1) := by decide +kernel
theorem dX6_swaps_19 : decode cX6_swaps 19 = .ok (.aload_n 0, 1) := by decide +kernel
theorem dX6_swaps_20 : decode cX6_swaps 20 = .ok (.getfield 45, 3) := by decide +kernel
theorem dX6_swaps_23 : decode cX6_swaps 23 = .ok (.iload_n 2, 1) := by decide +kernel
theorem dX6_swaps_24 : decode cX6_swaps 24 = .ok (.iload_n 3, 1) := by decide +kernel
theorem dX6_swaps_25 : decode cX6_swaps 25 = .ok (.iastore, 1) := by decide +kernel
theorem dX6_swaps_26 : decode cX6_swaps 26 = .ok (.return_, 1) := by decide +kernel
theorem dX6_goesOn_0 : decode cX6_goesOn 0 = .ok (.aload_n 0, 1) := by decide +kernel
theorem dX6_goesOn_1 : decode cX6_goesOn 1 = .ok (.getfield 216, 3) := by decide +kernel
theorem dX6_goesOn_4 : decode cX6_goesOn 4 = .ok (.iconst 2, 1) := by decide +kernel
theorem dX6_goesOn_5 : decode cX6_goesOn 5 = .ok (.isub, 1) := by decide +kernel
theorem dX6_goesOn_6 : decode cX6_goesOn 6 = .ok (.istore_n 1, 1) := by decide +kernel
theorem dX6_goesOn_7 : decode cX6_goesOn 7 = .ok (.iload_n 1, 1) := by decide +kernel
theorem dX6_goesOn_8 : decode cX6_goesOn 8 = .ok (.ifCond .lt 26, 3) := by decide +kernel
theorem dX6_goesOn_11 : decode cX6_goesOn 11 = .ok (.aload_n 0, 1) := by decide +kernel
theorem dX6_goesOn_12 : decode cX6_goesOn 12 = .ok (.getfield 45, 3) := by decide +kernel
theorem dX6_goesOn_15 : decode cX6_goesOn 15 = .ok (.iload_n 1, 1) := by decide +kernel
theorem dX6_goesOn_16 : decode cX6_goesOn 16 = .ok (.iaload, 1) := by decide +kernel
theorem dX6_goesOn_17 : decode cX6_goesOn 17 = .ok (.aload_n 0, 1) := by decide +kernel
theorem dX6_goesOn_18 : decode cX6_goesOn 18 = .ok (.getfield 45, 3) := by decide +kernel
theorem dX6_goesOn_21 : decode cX6_goesOn 21 = .ok (.iload_n 1, 1) := by decide +kernel
theorem dX6_goesOn_22 : decode cX6_goesOn 22 = .ok (.iconst 1, 1) := by decide +kernel
theorem dX6_goesOn_23 : decode cX6_goesOn 23 = .ok (.iadd, 1) := by decide +kernel
theorem dX6_goesOn_24 : decode cX6_goesOn 24 = .ok (.iaload, 1) := by decide +kernel
theorem dX6_goesOn_25 : decode cX6_goesOn 25 = .ok (.if_icmp .le 9, 3) := by decide +kernel
theorem dX6_goesOn_28 : decode cX6_goesOn 28 = .ok (.iinc 1 (-1), 3) := by decide +kernel
theorem dX6_goesOn_31 : decode cX6_goesOn 31 = .ok (.goto (-24), 3) := by decide +kernel
theorem dX6_goesOn_34 : decode cX6_goesOn 34 = .ok (.iload_n 1, 1) := by decide +kernel
theorem dX6_goesOn_35 : decode cX6_goesOn 35 = .ok (.ifCond .ge 5, 3) := by decide +kernel
theorem dX6_goesOn_38 : decode cX6_goesOn 38 = .ok (.iconst 0, 1) := by decide +kernel
theorem dX6_goesOn_39 : decode cX6_goesOn 39 = .ok (.ireturn, 1) := by decide +kernel
theorem dX6_goesOn_40 : decode cX6_goesOn 40 = .ok (.aload_n 0, 1) := by decide +kernel
theorem dX6_goesOn_41 : decode cX6_goesOn 41 = .ok (.getfield 216, 3) := by decide +kernel
theorem dX6_goesOn_44 : decode cX6_goesOn 44 = .ok (.iconst 1, 1) := by decide +kernel
theorem dX6_goesOn_45 : decode cX6_goesOn 45 = .ok (.isub, 1) := by decide +kernel
theorem dX6_goesOn_46 : decode cX6_goesOn 46 = .ok (.istore_n 2, 1) := by decide +kernel
theorem dX6_goesOn_47 : decode cX6_goesOn 47 = .ok (.aload_n 0, 1) := by decide +kernel
theorem dX6_goesOn_48 : decode cX6_goesOn 48 = .ok (.getfield 45, 3) := by decide +kernel
theorem dX6_goesOn_51 : decode cX6_goesOn 51 = .ok (.iload_n 2, 1) := by decide +kernel
theorem dX6_goesOn_52 : decode cX6_goesOn 52 = .ok (.iaload, 1) := by decide +kernel
theorem dX6_goesOn_53 : decode cX6_goesOn 53 = .ok (.aload_n 0, 1) := by decide +kernel
theorem dX6_goesOn_54 : decode cX6_goesOn 54 = .ok (.getfield 45, 3) := by decide +kernel
theorem dX6_goesOn_57 : decode cX6_goesOn 57 = .ok (.iload_n 1, 1) := by decide +kernel
theorem dX6_goesOn_58 : decode cX6_goesOn 58 = .ok (.iaload, 1) := by decide +kernel
theorem dX6_goesOn_59 : decode cX6_goesOn 59 = .ok (.if_icmp .ge 9, 3) := by decide +kernel
theorem dX6_goesOn_62 : decode cX6_goesOn 62 = .ok (.iinc 2 (-1), 3) := by decide +kernel
theorem dX6_goesOn_65 : decode cX6_goesOn 65 = .ok (.goto (-18), 3) := by decide +kernel
theorem dX6_goesOn_68 : decode cX6_goesOn 68 = .ok (.aload_n 0, 1) := by decide +kernel
theorem dX6_goesOn_69 : decode cX6_goesOn 69 = .ok (.iload_n 1, 1) := by decide +kernel
theorem dX6_goesOn_70 : decode cX6_goesOn 70 = .ok (.iload_n 2, 1) := by decide +kernel
theorem dX6_goesOn_71 : decode cX6_goesOn 71 = .ok (.invokevirtual 219, 3) := by decide +kernel
theorem dX6_goesOn_74 : decode cX6_goesOn 74 = .ok (.iload_n 1, 1) := by decide +kernel
theorem dX6_goesOn_75 : decode cX6_goesOn 75 = .ok (.iconst 1, 1) := by decide +kernel
theorem dX6_goesOn_76 : decode cX6_goesOn 76 = .ok (.iadd, 1) := by decide +kernel
theorem dX6_goesOn_77 : decode cX6_goesOn 77 = .ok (.istore_n 3, 1) := by decide +kernel
theorem dX6_goesOn_78 : decode cX6_goesOn 78 = .ok (.aload_n 0, 1) := by decide +kernel
theorem dX6_goesOn_79 : decode cX6_goesOn 79 = .ok (.getfield 216, 3) := by decide +kernel
theorem dX6_goesOn_82 : decode cX6_goesOn 82 = .ok (.iconst 1, 1) := by decide +kernel
theorem dX6_goesOn_83 : decode cX6_goesOn 83 = .ok (.isub, 1) := by decide +kernel
theorem dX6_goesOn_84 : decode cX6_goesOn 84 = .ok (.istore 4, 2) := by decide +kernel
theorem dX6_goesOn_86 : decode cX6_goesOn 86 = .ok (.iload_n 3, 1) := by decide +kernel
theorem dX6_goesOn_87 : decode cX6_goesOn 87 = .ok (.iload 4, 2) := by decide +kernel
theorem dX6_goesOn_89 : decode cX6_goesOn 89 = .ok (.if_icmp .ge 19, 3) := by decide +kernel
theorem dX6_goesOn_92 : decode cX6_goesOn 92 = .ok (.aload_n 0, 1) := by decide +kernel
theorem dX6_goesOn_93 : decode cX6_goesOn 93 = .ok (.iload_n 3, 1) := by decide +kernel
theorem dX6_goesOn_94 : decode cX6_goesOn 94 = .ok (.iload 4, 2) := by decide +kernel
theorem dX6_goesOn_96 : decode cX6_goesOn 96 = .ok (.invokevirtual 219, 3) := by decide +kernel
theorem dX6_goesOn_99 : decode cX6_goesOn 99 = .ok (.iinc 3 1, 3) := by decide +kernel
theorem dX6_goesOn_102 : decode cX6_goesOn 102 = .ok (.iinc 4 (-1), 3) := by decide +kernel
theorem dX6_goesOn_105 : decode cX6_goesOn 105 = .ok (.goto (-19), 3) := by decide +kernel
theorem dX6_goesOn_108 : decode cX6_goesOn 108 = .ok (.iconst 1, 1) := by decide +kernel
theorem dX6_goesOn_109 : decode cX6_goesOn 109 = .ok (.ireturn, 1) := by decide +kernel
theorem dX6_order_0 : decode cX6_order 0 = .ok (.iload_n 1, 1) := by decide +kernel
theorem dX6_order_1 : decode cX6_order 1 = .ok (.iload_n 2, 1) := by decide +kernel
theorem dX6_order_2 : decode cX6_order 2 = .ok (.invokestatic 187, 3) := by decide +kernel
theorem dX6_order_5 : decode cX6_order 5 = .ok (.ifCond .eq 15, 3) := by decide +kernel
theorem dX6_order_8 : decode cX6_order 8 = .ok (.iload_n 3, 1) := by decide +kernel
theorem dX6_order_9 : decode cX6_order 9 = .ok (.i2l, 1) := by decide +kernel
theorem dX6_order_10 : decode cX6_order 10 = .ok (.lconst 0, 1) := by decide +kernel
theorem dX6_order_11 : decode cX6_order 11 = .ok (.ldc2_w 222, 3) := by decide +kernel
theorem dX6_order_14 : decode cX6_order 14 = .ok (.invokestatic 71, 3) := by decide +kernel
theorem dX6_order_17 : decode cX6_order 17 = .ok (.ifCond .ne 5, 3) := by decide +kernel
theorem dX6_order_20 : decode cX6_order 20 = .ok (.iconst (-1), 1) := by decide +kernel
theorem dX6_order_21 : decode cX6_order 21 = .ok (.ireturn, 1) := by decide +kernel
theorem dX6_order_22 : decode cX6_order 22 = .ok (.aload_n 0, 1) := by decide +kernel
theorem dX6_order_23 : decode cX6_order 23 = .ok (.invokevirtual 224, 3) := by decide +kernel
theorem dX6_order_26 : decode cX6_order 26 = .ok (.iconst (-1), 1) := by decide +kernel
theorem dX6_order_27 : decode cX6_order 27 = .ok (.istore 4, 2) := by decide +kernel
theorem dX6_order_29 : decode cX6_order 29 = .ok (.iconst 1, 1) := by decide +kernel
theorem dX6_order_30 : decode cX6_order 30 = .ok (.istore 5, 2) := by decide +kernel
theorem dX6_order_32 : decode cX6_order 32 = .ok (.iload 5, 2) := by decide +kernel
theorem dX6_order_34 : decode cX6_order 34 = .ok (.ifCond .eq 131, 3) := by decide +kernel
theorem dX6_order_37 : decode cX6_order 37 = .ok (.aload_n 0, 1) := by decide +kernel
theorem dX6_order_38 : decode cX6_order 38 = .ok (.iconst 0, 1) := by decide +kernel
theorem dX6_order_39 : decode cX6_order 39 = .ok (.sipush 902, 3) := by decide +kernel
theorem dX6_order_42 : decode cX6_order 42 = .ok (.invokevirtual 119, 3) := by decide +kernel
theorem dX6_order_45 : decode cX6_order 45 = .ok (.iconst 0, 1) := by decide +kernel
theorem dX6_order_46 : decode cX6_order 46 = .ok (.istore 6, 2) := by decide +kernel
theorem dX6_order_48 : decode cX6_order 48 = .ok (.iconst 0, 1) := by decide +kernel
theorem dX6_order_49 : decode cX6_order 49 = .ok (.istore 7, 2) := by decide +kernel
theorem dX6_order_51 : decode cX6_order 51 = .ok (.iload 7, 2) := by decide +kernel
theorem dX6_order_53 : decode cX6_order 53 = .ok (.aload_n 0, 1) := by decide +kernel
theorem dX6_order_54 : decode cX6_order 54 = .ok (.getfield 216, 3) := by decide +kernel
theorem dX6_order_57 : decode cX6_order 57 = .ok (.if_icmp .ge 56, 3) := by decide +kernel
theorem dX6_order_60 : decode cX6_order 60 = .ok (.iload 6, 2) := by decide +kernel
theorem dX6_order_62 : decode cX6_order 62 = .ok (.aload_n 0, 1) := by decide +kernel
theorem dX6_order_63 : decode cX6_order 63 = .ok (.sipush 902, 3) := by decide +kernel
theorem dX6_order_66 : decode cX6_order 66 = .ok (.aload_n 0, 1) := by decide +kernel
theorem dX6_order_67 : decode cX6_order 67 = .ok (.getfield 45, 3) := by decide +kernel
theorem dX6_order_70 : decode cX6_order 70 = .ok (.iload 7, 2) := by decide +kernel
theorem dX6_order_72 : decode cX6_order 72 = .ok (.iaload, 1) := by decide +kernel
theorem dX6_order_73 : decode cX6_order 73 = .ok (.iload_n 1, 1) := by decide +kernel
theorem dX6_order_74 : decode cX6_order 74 = .ok (.iload_n 2, 1) := by decide +kernel
theorem dX6_order_75 : decode cX6_order 75 = .ok (.invokevirtual 190, 3) := by decide +kernel
theorem dX6_order_78 : decode cX6_order 78 = .ok (.ifCond .eq 25, 3) := by decide +kernel
theorem dX6_order_81 : decode cX6_order 81 = .ok (.aload_n 0, 1) := by decide +kernel
theorem dX6_order_82 : decode cX6_order 82 = .ok (.sipush 902, 3) := by decide +kernel
theorem dX6_order_85 : decode cX6_order 85 = .ok (.aload_n 0, 1) := by decide +kernel
theorem dX6_order_86 : decode cX6_order 86 = .ok (.getfield 45, 3) := by decide +kernel
theorem dX6_order_89 : decode cX6_order 89 = .ok (.iload 7, 2) := by decide +kernel
theorem dX6_order_91 : decode cX6_order 91 = .ok (.iaload, 1) := by decide +kernel
theorem dX6_order_92 : decode cX6_order 92 = .ok (.iload_n 1, 1) := by decide +kernel
theorem dX6_order_93 : decode cX6_order 93 = .ok (.iload_n 2, 1) := by decide +kernel
theorem dX6_order_94 : decode cX6_order 94 = .ok (.invokevirtual 197, 3) := by decide +kernel
theorem dX6_order_97 : decode cX6_order 97 = .ok (.invokestatic 209, 3) := by decide +kernel
theorem dX6_order_100 : decode cX6_order 100 = .ok (.goto 4, 3) := by decide +kernel
theorem dX6_order_103 : decode cX6_order 103 = .ok (.iconst 0, 1) := by decide +kernel
theorem dX6_order_104 : decode cX6_order 104 = .ok (.iadd, 1) := by decide +kernel
theorem dX6_order_105 : decode cX6_order 105 = .ok (.istore 6, 2) := by decide +kernel
theorem dX6_order_107 : decode cX6_order 107 = .ok (.iinc 7 1, 3) := by decide +kernel
theorem dX6_order_110 : decode cX6_order 110 = .ok (.goto (-59), 3) := by decide +kernel
theorem dX6_order_113 : decode cX6_order 113 = .ok (.iload 6, 2) := by decide +kernel
theorem dX6_order_115 : decode cX6_order 115 = .ok (.iload 4, 2) := by decide +kernel
theorem dX6_order_117 : decode cX6_order 117 = .ok (.if_icmp .le 39, 3) := by decide +kernel
theorem dX6_order_120 : decode cX6_order 120 = .ok (.iload 6, 2) := by decide +kernel
theorem dX6_order_122 : decode cX6_order 122 = .ok (.istore 4, 2) := by decide +kernel
theorem dX6_order_124 : decode cX6_order 124 = .ok (.iconst 0, 1) := by decide +kernel
theorem dX6_order_125 : decode cX6_order 125 = .ok (.istore 7, 2) := by decide +kernel
theorem dX6_order_127 : decode cX6_order 127 = .ok (.iload 7, 2) := by decide +kernel
theorem dX6_order_129 : decode cX6_order 129 = .ok (.aload_n 0, 1) := by decide +kernel
theorem dX6_order_130 : decode cX6_order 130 = .ok (.getfield 216, 3) := by decide +kernel
theorem dX6_order_133 : decode cX6_order 133 = .ok (.if_icmp .ge 23, 3) := by decide +kernel
theorem dX6_order_136 : decode cX6_order 136 = .ok (.aload_n 0, 1) := by decide +kernel
theorem dX6_order_137 : decode cX6_order 137 = .ok (.getfield 48, 3) := by decide +kernel
theorem dX6_order_140 : decode cX6_order 140 = .ok (.iload 7, 2) := by decide +kernel
theorem dX6_order_142 : decode cX6_order 142 = .ok (.aload_n 0, 1) := by decide +kernel
theorem dX6_order_143 : decode cX6_order 143 = .ok (.getfield 45, 3) := by decide +kernel
theorem dX6_order_146 : decode cX6_order 146 = .ok (.iload 7, 2) := by decide +kernel
theorem dX6_order_148 : decode cX6_order 148 = .ok (.iaload, 1) := by decide +kernel
theorem dX6_order_149 : decode cX6_order 149 = .ok (.iastore, 1) := by decide +kernel
theorem dX6_order_150 : decode cX6_order 150 = .ok (.iinc 7 1, 3) := by decide +kernel
theorem dX6_order_153 : decode cX6_order 153 = .ok (.goto (-26), 3) := by decide +kernel
theorem dX6_order_156 : decode cX6_order 156 = .ok (.aload_n 0, 1) := by decide +kernel
theorem dX6_order_157 : decode cX6_order 157 = .ok (.invokevirtual 227, 3) := by decide +kernel
theorem dX6_order_160 : decode cX6_order 160 = .ok (.istore 5, 2) := by decide +kernel
theorem dX6_order_162 : decode cX6_order 162 = .ok (.goto (-130), 3) := by decide +kernel
theorem dX6_order_165 : decode cX6_order 165 = .ok (.iload_n 3, 1) := by decide +kernel
theorem dX6_order_166 : decode cX6_order 166 = .ok (.ifCond .ne 8, 3) := by decide +kernel
theorem dX6_order_169 : decode cX6_order 169 = .ok (.iload 4, 2) := by decide +kernel
theorem dX6_order_171 : decode cX6_order 171 = .ok (.goto 24, 3) := by decide +kernel
theorem dX6_order_174 : decode cX6_order 174 = .ok (.iload_n 3, 1) := by decide +kernel
theorem dX6_order_175 : decode cX6_order 175 = .ok (.aload_n 0, 1) := by decide +kernel
theorem dX6_order_176 : decode cX6_order 176 = .ok (.getfield 216, 3) := by decide +kernel
theorem dX6_order_179 : decode cX6_order 179 = .ok (.if_icmp .le 8, 3) := by decide +kernel
theorem dX6_order_182 : decode cX6_order 182 = .ok (.bipush (-4), 2) := by decide +kernel
theorem dX6_order_184 : decode cX6_order 184 = .ok (.goto 11, 3) := by decide +kernel
theorem dX6_order_187 : decode cX6_order 187 = .ok (.aload_n 0, 1) := by decide +kernel
theorem dX6_order_188 : decode cX6_order 188 = .ok (.getfield 48, 3) := by decide +kernel
theorem dX6_order_191 : decode cX6_order 191 = .ok (.iload_n 3, 1) := by decide +kernel
theorem dX6_order_192 : decode cX6_order 192 = .ok (.iconst 1, 1) := by decide +kernel
theorem dX6_order_193 : decode cX6_order 193 = .ok (.isub, 1) := by decide +kernel
theorem dX6_order_194 : decode cX6_order 194 = .ok (.iaload, 1) := by decide +kernel
theorem dX6_order_195 : decode cX6_order 195 = .ok (.ireturn, 1) := by decide +kernel
theorem dX6_worth_0 : decode cX6_worth 0 = .ok (.aload_n 0, 1) := by decide +kernel
theorem dX6_worth_1 : decode cX6_worth 1 = .ok (.iconst 0, 1) := by decide +kernel
theorem dX6_worth_2 : decode cX6_worth 2 = .ok (.sipush 902, 3) := by decide +kernel
theorem dX6_worth_5 : decode cX6_worth 5 = .ok (.invokevirtual 119, 3) := by decide +kernel
theorem dX6_worth_8 : decode cX6_worth 8 = .ok (.aload_n 0, 1) := by decide +kernel
theorem dX6_worth_9 : decode cX6_worth 9 = .ok (.sipush 902, 3) := by decide +kernel
theorem dX6_worth_12 : decode cX6_worth 12 = .ok (.iload_n 1, 1) := by decide +kernel
theorem dX6_worth_13 : decode cX6_worth 13 = .ok (.iload_n 2, 1) := by decide +kernel
theorem dX6_worth_14 : decode cX6_worth 14 = .ok (.iload_n 3, 1) := by decide +kernel
theorem dX6_worth_15 : decode cX6_worth 15 = .ok (.iconst 2, 1) := by decide +kernel
theorem dX6_worth_16 : decode cX6_worth 16 = .ok (.irem, 1) := by decide +kernel
theorem dX6_worth_17 : decode cX6_worth 17 = .ok (.iconst 1, 1) := by decide +kernel
theorem dX6_worth_18 : decode cX6_worth 18 = .ok (.if_icmp .ne 7, 3) := by decide +kernel
theorem dX6_worth_21 : decode cX6_worth 21 = .ok (.iconst 1, 1) := by decide +kernel
theorem dX6_worth_22 : decode cX6_worth 22 = .ok (.goto 4, 3) := by decide +kernel
theorem dX6_worth_25 : decode cX6_worth 25 = .ok (.iconst 0, 1) := by decide +kernel
theorem dX6_worth_26 : decode cX6_worth 26 = .ok (.invokevirtual 181, 3) := by decide +kernel
theorem dX6_worth_29 : decode cX6_worth 29 = .ok (.aload_n 0, 1) := by decide +kernel
theorem dX6_worth_30 : decode cX6_worth 30 = .ok (.sipush 902, 3) := by decide +kernel
theorem dX6_worth_33 : decode cX6_worth 33 = .ok (.iload_n 2, 1) := by decide +kernel
theorem dX6_worth_34 : decode cX6_worth 34 = .ok (.iload_n 1, 1) := by decide +kernel
theorem dX6_worth_35 : decode cX6_worth 35 = .ok (.iload_n 3, 1) := by decide +kernel
theorem dX6_worth_36 : decode cX6_worth 36 = .ok (.iconst 2, 1) := by decide +kernel
theorem dX6_worth_37 : decode cX6_worth 37 = .ok (.idiv, 1) := by decide +kernel
theorem dX6_worth_38 : decode cX6_worth 38 = .ok (.iconst 1, 1) := by decide +kernel
theorem dX6_worth_39 : decode cX6_worth 39 = .ok (.if_icmp .ne 7, 3) := by decide +kernel
theorem dX6_worth_42 : decode cX6_worth 42 = .ok (.iconst 1, 1) := by decide +kernel
theorem dX6_worth_43 : decode cX6_worth 43 = .ok (.goto 4, 3) := by decide +kernel
theorem dX6_worth_46 : decode cX6_worth 46 = .ok (.iconst 0, 1) := by decide +kernel
theorem dX6_worth_47 : decode cX6_worth 47 = .ok (.invokevirtual 181, 3) := by decide +kernel
theorem dX6_worth_50 : decode cX6_worth 50 = .ok (.iload 4, 2) := by decide +kernel
theorem dX6_worth_52 : decode cX6_worth 52 = .ok (.ifCond .eq 34, 3) := by decide +kernel
theorem dX6_worth_55 : decode cX6_worth 55 = .ok (.iconst 3, 1) := by decide +kernel
theorem dX6_worth_56 : decode cX6_worth 56 = .ok (.aload_n 0, 1) := by decide +kernel
theorem dX6_worth_57 : decode cX6_worth 57 = .ok (.getfield 22, 3) := by decide +kernel
theorem dX6_worth_60 : decode cX6_worth 60 = .ok (.sipush 912, 3) := by decide +kernel
theorem dX6_worth_63 : decode cX6_worth 63 = .ok (.bipush 6, 2) := by decide +kernel
theorem dX6_worth_65 : decode cX6_worth 65 = .ok (.iload_n 2, 1) := by decide +kernel
theorem dX6_worth_66 : decode cX6_worth 66 = .ok (.imul, 1) := by decide +kernel
theorem dX6_worth_67 : decode cX6_worth 67 = .ok (.iadd, 1) := by decide +kernel
theorem dX6_worth_68 : decode cX6_worth 68 = .ok (.iload_n 1, 1) := by decide +kernel
theorem dX6_worth_69 : decode cX6_worth 69 = .ok (.iadd, 1) := by decide +kernel
theorem dX6_worth_70 : decode cX6_worth 70 = .ok (.iaload, 1) := by decide +kernel
theorem dX6_worth_71 : decode cX6_worth 71 = .ok (.imul, 1) := by decide +kernel
theorem dX6_worth_72 : decode cX6_worth 72 = .ok (.aload_n 0, 1) := by decide +kernel
theorem dX6_worth_73 : decode cX6_worth 73 = .ok (.getfield 22, 3) := by decide +kernel
theorem dX6_worth_76 : decode cX6_worth 76 = .ok (.sipush 902, 3) := by decide +kernel
theorem dX6_worth_79 : decode cX6_worth 79 = .ok (.iload_n 1, 1) := by decide +kernel
theorem dX6_worth_80 : decode cX6_worth 80 = .ok (.iadd, 1) := by decide +kernel
theorem dX6_worth_81 : decode cX6_worth 81 = .ok (.iaload, 1) := by decide +kernel
theorem dX6_worth_82 : decode cX6_worth 82 = .ok (.iadd, 1) := by decide +kernel
theorem dX6_worth_83 : decode cX6_worth 83 = .ok (.goto 31, 3) := by decide +kernel
theorem dX6_worth_86 : decode cX6_worth 86 = .ok (.iconst 3, 1) := by decide +kernel
theorem dX6_worth_87 : decode cX6_worth 87 = .ok (.aload_n 0, 1) := by decide +kernel
theorem dX6_worth_88 : decode cX6_worth 88 = .ok (.getfield 22, 3) := by decide +kernel
theorem dX6_worth_91 : decode cX6_worth 91 = .ok (.sipush 912, 3) := by decide +kernel
theorem dX6_worth_94 : decode cX6_worth 94 = .ok (.bipush 6, 2) := by decide +kernel
theorem dX6_worth_96 : decode cX6_worth 96 = .ok (.iload_n 1, 1) := by decide +kernel
theorem dX6_worth_97 : decode cX6_worth 97 = .ok (.imul, 1) := by decide +kernel
theorem dX6_worth_98 : decode cX6_worth 98 = .ok (.iadd, 1) := by decide +kernel
theorem dX6_worth_99 : decode cX6_worth 99 = .ok (.iload_n 2, 1) := by decide +kernel
theorem dX6_worth_100 : decode cX6_worth 100 = .ok (.iadd, 1) := by decide +kernel
theorem dX6_worth_101 : decode cX6_worth 101 = .ok (.iaload, 1) := by decide +kernel
theorem dX6_worth_102 : decode cX6_worth 102 = .ok (.imul, 1) := by decide +kernel
theorem dX6_worth_103 : decode cX6_worth 103 = .ok (.aload_n 0, 1) := by decide +kernel
theorem dX6_worth_104 : decode cX6_worth 104 = .ok (.getfield 22, 3) := by decide +kernel
theorem dX6_worth_107 : decode cX6_worth 107 = .ok (.sipush 902, 3) := by decide +kernel
theorem dX6_worth_110 : decode cX6_worth 110 = .ok (.iload_n 2, 1) := by decide +kernel
theorem dX6_worth_111 : decode cX6_worth 111 = .ok (.iadd, 1) := by decide +kernel
theorem dX6_worth_112 : decode cX6_worth 112 = .ok (.iaload, 1) := by decide +kernel
theorem dX6_worth_113 : decode cX6_worth 113 = .ok (.iadd, 1) := by decide +kernel
theorem dX6_worth_114 : decode cX6_worth 114 = .ok (.ireturn, 1) := by decide +kernel
theorem dX6_mutual_0 : decode cX6_mutual 0 = .ok (.aload_n 0, 1) := by decide +kernel
theorem dX6_mutual_1 : decode cX6_mutual 1 = .ok (.iload_n 1, 1) := by decide +kernel
theorem dX6_mutual_2 : decode cX6_mutual 2 = .ok (.iload_n 2, 1) := by decide +kernel
theorem dX6_mutual_3 : decode cX6_mutual 3 = .ok (.invokevirtual 147, 3) := by decide +kernel
theorem dX6_mutual_6 : decode cX6_mutual 6 = .ok (.ifCond .eq 13, 3) := by decide +kernel
theorem dX6_mutual_9 : decode cX6_mutual 9 = .ok (.iload_n 3, 1) := by decide +kernel
theorem dX6_mutual_10 : decode cX6_mutual 10 = .ok (.i2l, 1) := by decide +kernel
theorem dX6_mutual_11 : decode cX6_mutual 11 = .ok (.lconst 0, 1) := by decide +kernel
theorem dX6_mutual_12 : decode cX6_mutual 12 = .ok (.lconst 1, 1) := by decide +kernel
theorem dX6_mutual_13 : decode cX6_mutual 13 = .ok (.invokestatic 71, 3) := by decide +kernel
theorem dX6_mutual_16 : decode cX6_mutual 16 = .ok (.ifCond .ne 5, 3) := by decide +kernel
theorem dX6_mutual_19 : decode cX6_mutual 19 = .ok (.iconst (-1), 1) := by decide +kernel
theorem dX6_mutual_20 : decode cX6_mutual 20 = .ok (.ireturn, 1) := by decide +kernel
theorem dX6_mutual_21 : decode cX6_mutual 21 = .ok (.aload_n 0, 1) := by decide +kernel
theorem dX6_mutual_22 : decode cX6_mutual 22 = .ok (.iconst 0, 1) := by decide +kernel
theorem dX6_mutual_23 : decode cX6_mutual 23 = .ok (.iload_n 1, 1) := by decide +kernel
theorem dX6_mutual_24 : decode cX6_mutual 24 = .ok (.invokevirtual 136, 3) := by decide +kernel
theorem dX6_mutual_27 : decode cX6_mutual 27 = .ok (.ifCond .eq 12, 3) := by decide +kernel
theorem dX6_mutual_30 : decode cX6_mutual 30 = .ok (.aload_n 0, 1) := by decide +kernel
theorem dX6_mutual_31 : decode cX6_mutual 31 = .ok (.iconst 0, 1) := by decide +kernel
theorem dX6_mutual_32 : decode cX6_mutual 32 = .ok (.iload_n 2, 1) := by decide +kernel
theorem dX6_mutual_33 : decode cX6_mutual 33 = .ok (.invokevirtual 136, 3) := by decide +kernel
theorem dX6_mutual_36 : decode cX6_mutual 36 = .ok (.ifCond .ne 6, 3) := by decide +kernel
theorem dX6_mutual_39 : decode cX6_mutual 39 = .ok (.bipush (-2), 2) := by decide +kernel
theorem dX6_mutual_41 : decode cX6_mutual 41 = .ok (.ireturn, 1) := by decide +kernel
theorem dX6_mutual_42 : decode cX6_mutual 42 = .ok (.iconst 0, 1) := by decide +kernel
theorem dX6_mutual_43 : decode cX6_mutual 43 = .ok (.istore 4, 2) := by decide +kernel
theorem dX6_mutual_45 : decode cX6_mutual 45 = .ok (.bipush (-4), 2) := by decide +kernel
theorem dX6_mutual_47 : decode cX6_mutual 47 = .ok (.istore 5, 2) := by decide +kernel
theorem dX6_mutual_49 : decode cX6_mutual 49 = .ok (.iconst 0, 1) := by decide +kernel
theorem dX6_mutual_50 : decode cX6_mutual 50 = .ok (.istore 6, 2) := by decide +kernel
theorem dX6_mutual_52 : decode cX6_mutual 52 = .ok (.iload 6, 2) := by decide +kernel
theorem dX6_mutual_54 : decode cX6_mutual 54 = .ok (.iconst 4, 1) := by decide +kernel
theorem dX6_mutual_55 : decode cX6_mutual 55 = .ok (.if_icmp .ge 96, 3) := by decide +kernel
theorem dX6_mutual_58 : decode cX6_mutual 58 = .ok (.aload_n 0, 1) := by decide +kernel
theorem dX6_mutual_59 : decode cX6_mutual 59 = .ok (.iload_n 1, 1) := by decide +kernel
theorem dX6_mutual_60 : decode cX6_mutual 60 = .ok (.iload_n 2, 1) := by decide +kernel
theorem dX6_mutual_61 : decode cX6_mutual 61 = .ok (.iload 6, 2) := by decide +kernel
theorem dX6_mutual_63 : decode cX6_mutual 63 = .ok (.iconst 1, 1) := by decide +kernel
theorem dX6_mutual_64 : decode cX6_mutual 64 = .ok (.invokevirtual 230, 3) := by decide +kernel
theorem dX6_mutual_67 : decode cX6_mutual 67 = .ok (.aload_n 0, 1) := by decide +kernel
theorem dX6_mutual_68 : decode cX6_mutual 68 = .ok (.iload_n 1, 1) := by decide +kernel
theorem dX6_mutual_69 : decode cX6_mutual 69 = .ok (.iload_n 2, 1) := by decide +kernel
theorem dX6_mutual_70 : decode cX6_mutual 70 = .ok (.iload 6, 2) := by decide +kernel
theorem dX6_mutual_72 : decode cX6_mutual 72 = .ok (.iconst 2, 1) := by decide +kernel
theorem dX6_mutual_73 : decode cX6_mutual 73 = .ok (.ixor, 1) := by decide +kernel
theorem dX6_mutual_74 : decode cX6_mutual 74 = .ok (.iconst 1, 1) := by decide +kernel
theorem dX6_mutual_75 : decode cX6_mutual 75 = .ok (.invokevirtual 230, 3) := by decide +kernel
theorem dX6_mutual_78 : decode cX6_mutual 78 = .ok (.if_icmp .lt 30, 3) := by decide +kernel
theorem dX6_mutual_81 : decode cX6_mutual 81 = .ok (.aload_n 0, 1) := by decide +kernel
theorem dX6_mutual_82 : decode cX6_mutual 82 = .ok (.iload_n 1, 1) := by decide +kernel
theorem dX6_mutual_83 : decode cX6_mutual 83 = .ok (.iload_n 2, 1) := by decide +kernel
theorem dX6_mutual_84 : decode cX6_mutual 84 = .ok (.iload 6, 2) := by decide +kernel
theorem dX6_mutual_86 : decode cX6_mutual 86 = .ok (.iconst 0, 1) := by decide +kernel
theorem dX6_mutual_87 : decode cX6_mutual 87 = .ok (.invokevirtual 230, 3) := by decide +kernel
theorem dX6_mutual_90 : decode cX6_mutual 90 = .ok (.aload_n 0, 1) := by decide +kernel
theorem dX6_mutual_91 : decode cX6_mutual 91 = .ok (.iload_n 1, 1) := by decide +kernel
theorem dX6_mutual_92 : decode cX6_mutual 92 = .ok (.iload_n 2, 1) := by decide +kernel
theorem dX6_mutual_93 : decode cX6_mutual 93 = .ok (.iload 6, 2) := by decide +kernel
theorem dX6_mutual_95 : decode cX6_mutual 95 = .ok (.iconst 1, 1) := by decide +kernel
theorem dX6_mutual_96 : decode cX6_mutual 96 = .ok (.ixor, 1) := by decide +kernel
theorem dX6_mutual_97 : decode cX6_mutual 97 = .ok (.iconst 0, 1) := by decide +kernel
theorem dX6_mutual_98 : decode cX6_mutual 98 = .ok (.invokevirtual 230, 3) := by decide +kernel
theorem dX6_mutual_101 : decode cX6_mutual 101 = .ok (.if_icmp .lt 7, 3) := by decide +kernel
theorem dX6_mutual_104 : decode cX6_mutual 104 = .ok (.iconst 1, 1) := by decide +kernel
theorem dX6_mutual_105 : decode cX6_mutual 105 = .ok (.goto 4, 3) := by decide +kernel
theorem dX6_mutual_108 : decode cX6_mutual 108 = .ok (.iconst 0, 1) := by decide +kernel
theorem dX6_mutual_109 : decode cX6_mutual 109 = .ok (.istore 7, 2) := by decide +kernel
theorem dX6_mutual_111 : decode cX6_mutual 111 = .ok (.iload 7, 2) := by decide +kernel
theorem dX6_mutual_113 : decode cX6_mutual 113 = .ok (.ifCond .eq 13, 3) := by decide +kernel
theorem dX6_mutual_116 : decode cX6_mutual 116 = .ok (.iload 4, 2) := by decide +kernel
theorem dX6_mutual_118 : decode cX6_mutual 118 = .ok (.ifCond .ne 8, 3) := by decide +kernel
theorem dX6_mutual_121 : decode cX6_mutual 121 = .ok (.iload 6, 2) := by decide +kernel
theorem dX6_mutual_123 : decode cX6_mutual 123 = .ok (.goto 5, 3) := by decide +kernel
theorem dX6_mutual_126 : decode cX6_mutual 126 = .ok (.iload 5, 2) := by decide +kernel
theorem dX6_mutual_128 : decode cX6_mutual 128 = .ok (.istore 5, 2) := by decide +kernel
theorem dX6_mutual_130 : decode cX6_mutual 130 = .ok (.iload 4, 2) := by decide +kernel
theorem dX6_mutual_132 : decode cX6_mutual 132 = .ok (.iload 7, 2) := by decide +kernel
theorem dX6_mutual_134 : decode cX6_mutual 134 = .ok (.ifCond .eq 7, 3) := by decide +kernel
theorem dX6_mutual_137 : decode cX6_mutual 137 = .ok (.iconst 1, 1) := by decide +kernel
theorem dX6_mutual_138 : decode cX6_mutual 138 = .ok (.goto 4, 3) := by decide +kernel
theorem dX6_mutual_141 : decode cX6_mutual 141 = .ok (.iconst 0, 1) := by decide +kernel
theorem dX6_mutual_142 : decode cX6_mutual 142 = .ok (.iadd, 1) := by decide +kernel
theorem dX6_mutual_143 : decode cX6_mutual 143 = .ok (.istore 4, 2) := by decide +kernel
theorem dX6_mutual_145 : decode cX6_mutual 145 = .ok (.iinc 6 1, 3) := by decide +kernel
theorem dX6_mutual_148 : decode cX6_mutual 148 = .ok (.goto (-96), 3) := by decide +kernel
theorem dX6_mutual_151 : decode cX6_mutual 151 = .ok (.iload_n 3, 1) := by decide +kernel
theorem dX6_mutual_152 : decode cX6_mutual 152 = .ok (.ifCond .ne 8, 3) := by decide +kernel
theorem dX6_mutual_155 : decode cX6_mutual 155 = .ok (.iload 4, 2) := by decide +kernel
theorem dX6_mutual_157 : decode cX6_mutual 157 = .ok (.goto 5, 3) := by decide +kernel
theorem dX6_mutual_160 : decode cX6_mutual 160 = .ok (.iload 5, 2) := by decide +kernel
theorem dX6_mutual_162 : decode cX6_mutual 162 = .ok (.ireturn, 1) := by decide +kernel
theorem dX6_see_0 : decode cX6_see 0 = .ok (.aload_n 0, 1) := by decide +kernel
theorem dX6_see_1 : decode cX6_see 1 = .ok (.iload_n 1, 1) := by decide +kernel
theorem dX6_see_2 : decode cX6_see 2 = .ok (.iload_n 2, 1) := by decide +kernel
theorem dX6_see_3 : decode cX6_see 3 = .ok (.invokevirtual 147, 3) := by decide +kernel
theorem dX6_see_6 : decode cX6_see 6 = .ok (.ifCond .eq 12, 3) := by decide +kernel
theorem dX6_see_9 : decode cX6_see 9 = .ok (.iload_n 3, 1) := by decide +kernel
theorem dX6_see_10 : decode cX6_see 10 = .ok (.iload 4, 2) := by decide +kernel
theorem dX6_see_12 : decode cX6_see 12 = .ok (.invokestatic 187, 3) := by decide +kernel
theorem dX6_see_15 : decode cX6_see 15 = .ok (.ifCond .ne 5, 3) := by decide +kernel
theorem dX6_see_18 : decode cX6_see 18 = .ok (.iconst (-1), 1) := by decide +kernel
theorem dX6_see_19 : decode cX6_see 19 = .ok (.ireturn, 1) := by decide +kernel
theorem dX6_see_20 : decode cX6_see 20 = .ok (.aload_n 0, 1) := by decide +kernel
theorem dX6_see_21 : decode cX6_see 21 = .ok (.getfield 129, 3) := by decide +kernel
theorem dX6_see_24 : decode cX6_see 24 = .ok (.bipush 6, 2) := by decide +kernel
theorem dX6_see_26 : decode cX6_see 26 = .ok (.if_icmp .ne 6, 3) := by decide +kernel
theorem dX6_see_29 : decode cX6_see 29 = .ok (.bipush (-3), 2) := by decide +kernel
theorem dX6_see_31 : decode cX6_see 31 = .ok (.ireturn, 1) := by decide +kernel
theorem dX6_see_32 : decode cX6_see 32 = .ok (.aload_n 0, 1) := by decide +kernel
theorem dX6_see_33 : decode cX6_see 33 = .ok (.getfield 29, 3) := by decide +kernel
theorem dX6_see_36 : decode cX6_see 36 = .ok (.aload_n 0, 1) := by decide +kernel
theorem dX6_see_37 : decode cX6_see 37 = .ok (.getfield 129, 3) := by decide +kernel
theorem dX6_see_40 : decode cX6_see 40 = .ok (.iload_n 1, 1) := by decide +kernel
theorem dX6_see_41 : decode cX6_see 41 = .ok (.iastore, 1) := by decide +kernel
theorem dX6_see_42 : decode cX6_see 42 = .ok (.aload_n 0, 1) := by decide +kernel
theorem dX6_see_43 : decode cX6_see 43 = .ok (.getfield 32, 3) := by decide +kernel
theorem dX6_see_46 : decode cX6_see 46 = .ok (.aload_n 0, 1) := by decide +kernel
theorem dX6_see_47 : decode cX6_see 47 = .ok (.getfield 129, 3) := by decide +kernel
theorem dX6_see_50 : decode cX6_see 50 = .ok (.iload_n 2, 1) := by decide +kernel
theorem dX6_see_51 : decode cX6_see 51 = .ok (.iastore, 1) := by decide +kernel
theorem dX6_see_52 : decode cX6_see 52 = .ok (.aload_n 0, 1) := by decide +kernel
theorem dX6_see_53 : decode cX6_see 53 = .ok (.getfield 35, 3) := by decide +kernel
theorem dX6_see_56 : decode cX6_see 56 = .ok (.aload_n 0, 1) := by decide +kernel
theorem dX6_see_57 : decode cX6_see 57 = .ok (.getfield 129, 3) := by decide +kernel
theorem dX6_see_60 : decode cX6_see 60 = .ok (.iload_n 3, 1) := by decide +kernel
theorem dX6_see_61 : decode cX6_see 61 = .ok (.iastore, 1) := by decide +kernel
theorem dX6_see_62 : decode cX6_see 62 = .ok (.aload_n 0, 1) := by decide +kernel
theorem dX6_see_63 : decode cX6_see 63 = .ok (.getfield 38, 3) := by decide +kernel
theorem dX6_see_66 : decode cX6_see 66 = .ok (.aload_n 0, 1) := by decide +kernel
theorem dX6_see_67 : decode cX6_see 67 = .ok (.getfield 129, 3) := by decide +kernel
theorem dX6_see_70 : decode cX6_see 70 = .ok (.iload 4, 2) := by decide +kernel
theorem dX6_see_72 : decode cX6_see 72 = .ok (.iastore, 1) := by decide +kernel
theorem dX6_see_73 : decode cX6_see 73 = .ok (.aload_n 0, 1) := by decide +kernel
theorem dX6_see_74 : decode cX6_see 74 = .ok (.getfield 41, 3) := by decide +kernel
theorem dX6_see_77 : decode cX6_see 77 = .ok (.aload_n 0, 1) := by decide +kernel
theorem dX6_see_78 : decode cX6_see 78 = .ok (.getfield 129, 3) := by decide +kernel
theorem dX6_see_81 : decode cX6_see 81 = .ok (.iload 5, 2) := by decide +kernel
theorem dX6_see_83 : decode cX6_see 83 = .ok (.bastore, 1) := by decide +kernel
theorem dX6_see_84 : decode cX6_see 84 = .ok (.aload_n 0, 1) := by decide +kernel
theorem dX6_see_85 : decode cX6_see 85 = .ok (.dup, 1) := by decide +kernel
theorem dX6_see_86 : decode cX6_see 86 = .ok (.getfield 129, 3) := by decide +kernel
theorem dX6_see_89 : decode cX6_see 89 = .ok (.iconst 1, 1) := by decide +kernel
theorem dX6_see_90 : decode cX6_see 90 = .ok (.iadd, 1) := by decide +kernel
theorem dX6_see_91 : decode cX6_see 91 = .ok (.putfield 129, 3) := by decide +kernel
theorem dX6_see_94 : decode cX6_see 94 = .ok (.aload_n 0, 1) := by decide +kernel
theorem dX6_see_95 : decode cX6_see 95 = .ok (.getfield 129, 3) := by decide +kernel
theorem dX6_see_98 : decode cX6_see 98 = .ok (.ireturn, 1) := by decide +kernel
theorem dX6_forget_0 : decode cX6_forget 0 = .ok (.aload_n 0, 1) := by decide +kernel
theorem dX6_forget_1 : decode cX6_forget 1 = .ok (.getfield 129, 3) := by decide +kernel
theorem dX6_forget_4 : decode cX6_forget 4 = .ok (.istore_n 1, 1) := by decide +kernel
theorem dX6_forget_5 : decode cX6_forget 5 = .ok (.aload_n 0, 1) := by decide +kernel
theorem dX6_forget_6 : decode cX6_forget 6 = .ok (.iconst 0, 1) := by decide +kernel
theorem dX6_forget_7 : decode cX6_forget 7 = .ok (.putfield 129, 3) := by decide +kernel
theorem dX6_forget_10 : decode cX6_forget 10 = .ok (.iload_n 1, 1) := by decide +kernel
theorem dX6_forget_11 : decode cX6_forget 11 = .ok (.ireturn, 1) := by decide +kernel
theorem dX6_felt_0 : decode cX6_felt 0 = .ok (.aload_n 0, 1) := by decide +kernel
theorem dX6_felt_1 : decode cX6_felt 1 = .ok (.iload_n 1, 1) := by decide +kernel
theorem dX6_felt_2 : decode cX6_felt 2 = .ok (.iload_n 2, 1) := by decide +kernel
theorem dX6_felt_3 : decode cX6_felt 3 = .ok (.invokevirtual 147, 3) := by decide +kernel
theorem dX6_felt_6 : decode cX6_felt 6 = .ok (.ifCond .ne 5, 3) := by decide +kernel
theorem dX6_felt_9 : decode cX6_felt 9 = .ok (.iconst (-1), 1) := by decide +kernel
theorem dX6_felt_10 : decode cX6_felt 10 = .ok (.ireturn, 1) := by decide +kernel
theorem dX6_felt_11 : decode cX6_felt 11 = .ok (.iconst 0, 1) := by decide +kernel
theorem dX6_felt_12 : decode cX6_felt 12 = .ok (.istore_n 3, 1) := by decide +kernel
theorem dX6_felt_13 : decode cX6_felt 13 = .ok (.bipush (-4), 2) := by decide +kernel
theorem dX6_felt_15 : decode cX6_felt 15 = .ok (.istore 4, 2) := by decide +kernel
theorem dX6_felt_17 : decode cX6_felt 17 = .ok (.iload 4, 2) := by decide +kernel
theorem dX6_felt_19 : decode cX6_felt 19 = .ok (.iconst 5, 1) := by decide +kernel
theorem dX6_felt_20 : decode cX6_felt 20 = .ok (.if_icmp .gt 142, 3) := by decide +kernel
theorem dX6_felt_23 : decode cX6_felt 23 = .ok (.iconst 1, 1) := by decide +kernel
theorem dX6_felt_24 : decode cX6_felt 24 = .ok (.istore 5, 2) := by decide +kernel
theorem dX6_felt_26 : decode cX6_felt 26 = .ok (.iconst 0, 1) := by decide +kernel
theorem dX6_felt_27 : decode cX6_felt 27 = .ok (.istore 6, 2) := by decide +kernel
theorem dX6_felt_29 : decode cX6_felt 29 = .ok (.iload 6, 2) := by decide +kernel
theorem dX6_felt_31 : decode cX6_felt 31 = .ok (.aload_n 0, 1) := by decide +kernel
theorem dX6_felt_32 : decode cX6_felt 32 = .ok (.getfield 129, 3) := by decide +kernel
theorem dX6_felt_35 : decode cX6_felt 35 = .ok (.if_icmp .ge 103, 3) := by decide +kernel
theorem dX6_felt_38 : decode cX6_felt 38 = .ok (.aload_n 0, 1) := by decide +kernel
theorem dX6_felt_39 : decode cX6_felt 39 = .ok (.iconst 0, 1) := by decide +kernel
theorem dX6_felt_40 : decode cX6_felt 40 = .ok (.iload_n 1, 1) := by decide +kernel
theorem dX6_felt_41 : decode cX6_felt 41 = .ok (.invokevirtual 136, 3) := by decide +kernel
theorem dX6_felt_44 : decode cX6_felt 44 = .ok (.ifCond .eq 39, 3) := by decide +kernel
theorem dX6_felt_47 : decode cX6_felt 47 = .ok (.aload_n 0, 1) := by decide +kernel
theorem dX6_felt_48 : decode cX6_felt 48 = .ok (.iconst 0, 1) := by decide +kernel
theorem dX6_felt_49 : decode cX6_felt 49 = .ok (.iload_n 1, 1) := by decide +kernel
theorem dX6_felt_50 : decode cX6_felt 50 = .ok (.iload_n 2, 1) := by decide +kernel
theorem dX6_felt_51 : decode cX6_felt 51 = .ok (.aload_n 0, 1) := by decide +kernel
theorem dX6_felt_52 : decode cX6_felt 52 = .ok (.getfield 7, 3) := by decide +kernel
theorem dX6_felt_55 : decode cX6_felt 55 = .ok (.iload_n 1, 1) := by decide +kernel
theorem dX6_felt_56 : decode cX6_felt 56 = .ok (.iaload, 1) := by decide +kernel
theorem dX6_felt_57 : decode cX6_felt 57 = .ok (.iload 4, 2) := by decide +kernel
theorem dX6_felt_59 : decode cX6_felt 59 = .ok (.aload_n 0, 1) := by decide +kernel
theorem dX6_felt_60 : decode cX6_felt 60 = .ok (.getfield 35, 3) := by decide +kernel
theorem dX6_felt_63 : decode cX6_felt 63 = .ok (.iload 6, 2) := by decide +kernel
theorem dX6_felt_65 : decode cX6_felt 65 = .ok (.iaload, 1) := by decide +kernel
theorem dX6_felt_66 : decode cX6_felt 66 = .ok (.aload_n 0, 1) := by decide +kernel
theorem dX6_felt_67 : decode cX6_felt 67 = .ok (.getfield 38, 3) := by decide +kernel
theorem dX6_felt_70 : decode cX6_felt 70 = .ok (.iload 6, 2) := by decide +kernel
theorem dX6_felt_72 : decode cX6_felt 72 = .ok (.iaload, 1) := by decide +kernel
theorem dX6_felt_73 : decode cX6_felt 73 = .ok (.invokevirtual 150, 3) := by decide +kernel
theorem dX6_felt_76 : decode cX6_felt 76 = .ok (.ifCond .eq 7, 3) := by decide +kernel
theorem dX6_felt_79 : decode cX6_felt 79 = .ok (.iconst 1, 1) := by decide +kernel
theorem dX6_felt_80 : decode cX6_felt 80 = .ok (.goto 4, 3) := by decide +kernel
theorem dX6_felt_83 : decode cX6_felt 83 = .ok (.iconst 0, 1) := by decide +kernel
theorem dX6_felt_84 : decode cX6_felt 84 = .ok (.istore 7, 2) := by decide +kernel
theorem dX6_felt_86 : decode cX6_felt 86 = .ok (.iload 5, 2) := by decide +kernel
theorem dX6_felt_88 : decode cX6_felt 88 = .ok (.ifCond .eq 41, 3) := by decide +kernel
theorem dX6_felt_91 : decode cX6_felt 91 = .ok (.aload_n 0, 1) := by decide +kernel
theorem dX6_felt_92 : decode cX6_felt 92 = .ok (.getfield 29, 3) := by decide +kernel
theorem dX6_felt_95 : decode cX6_felt 95 = .ok (.iload 6, 2) := by decide +kernel
theorem dX6_felt_97 : decode cX6_felt 97 = .ok (.iaload, 1) := by decide +kernel
theorem dX6_felt_98 : decode cX6_felt 98 = .ok (.iload_n 1, 1) := by decide +kernel
theorem dX6_felt_99 : decode cX6_felt 99 = .ok (.if_icmp .ne 26, 3) := by decide +kernel
theorem dX6_felt_102 : decode cX6_felt 102 = .ok (.aload_n 0, 1) := by decide +kernel
theorem dX6_felt_103 : decode cX6_felt 103 = .ok (.getfield 32, 3) := by decide +kernel
theorem dX6_felt_106 : decode cX6_felt 106 = .ok (.iload 6, 2) := by decide +kernel
theorem dX6_felt_108 : decode cX6_felt 108 = .ok (.iaload, 1) := by decide +kernel
theorem dX6_felt_109 : decode cX6_felt 109 = .ok (.iload_n 2, 1) := by decide +kernel
theorem dX6_felt_110 : decode cX6_felt 110 = .ok (.if_icmp .ne 15, 3) := by decide +kernel
theorem dX6_felt_113 : decode cX6_felt 113 = .ok (.iload 7, 2) := by decide +kernel
theorem dX6_felt_115 : decode cX6_felt 115 = .ok (.aload_n 0, 1) := by decide +kernel
theorem dX6_felt_116 : decode cX6_felt 116 = .ok (.getfield 41, 3) := by decide +kernel
theorem dX6_felt_119 : decode cX6_felt 119 = .ok (.iload 6, 2) := by decide +kernel
theorem dX6_felt_121 : decode cX6_felt 121 = .ok (.baload, 1) := by decide +kernel
theorem dX6_felt_122 : decode cX6_felt 122 = .ok (.if_icmp .ne 7, 3) := by decide +kernel
theorem dX6_felt_125 : decode cX6_felt 125 = .ok (.iconst 1, 1) := by decide +kernel
theorem dX6_felt_126 : decode cX6_felt 126 = .ok (.goto 4, 3) := by decide +kernel
theorem dX6_felt_129 : decode cX6_felt 129 = .ok (.iconst 0, 1) := by decide +kernel
theorem dX6_felt_130 : decode cX6_felt 130 = .ok (.istore 5, 2) := by decide +kernel
theorem dX6_felt_132 : decode cX6_felt 132 = .ok (.iinc 6 1, 3) := by decide +kernel
theorem dX6_felt_135 : decode cX6_felt 135 = .ok (.goto (-106), 3) := by decide +kernel
theorem dX6_felt_138 : decode cX6_felt 138 = .ok (.iload_n 3, 1) := by decide +kernel
theorem dX6_felt_139 : decode cX6_felt 139 = .ok (.iload 5, 2) := by decide +kernel
theorem dX6_felt_141 : decode cX6_felt 141 = .ok (.ifCond .eq 12, 3) := by decide +kernel
theorem dX6_felt_144 : decode cX6_felt 144 = .ok (.iconst 1, 1) := by decide +kernel
theorem dX6_felt_145 : decode cX6_felt 145 = .ok (.iload 4, 2) := by decide +kernel
theorem dX6_felt_147 : decode cX6_felt 147 = .ok (.iconst 4, 1) := by decide +kernel
theorem dX6_felt_148 : decode cX6_felt 148 = .ok (.iadd, 1) := by decide +kernel
theorem dX6_felt_149 : decode cX6_felt 149 = .ok (.ishl, 1) := by decide +kernel
theorem dX6_felt_150 : decode cX6_felt 150 = .ok (.goto 4, 3) := by decide +kernel
theorem dX6_felt_153 : decode cX6_felt 153 = .ok (.iconst 0, 1) := by decide +kernel
theorem dX6_felt_154 : decode cX6_felt 154 = .ok (.ior, 1) := by decide +kernel
theorem dX6_felt_155 : decode cX6_felt 155 = .ok (.istore_n 3, 1) := by decide +kernel
theorem dX6_felt_156 : decode cX6_felt 156 = .ok (.iinc 4 1, 3) := by decide +kernel
theorem dX6_felt_159 : decode cX6_felt 159 = .ok (.goto (-142), 3) := by decide +kernel
theorem dX6_felt_162 : decode cX6_felt 162 = .ok (.iload_n 3, 1) := by decide +kernel
theorem dX6_felt_163 : decode cX6_felt 163 = .ok (.ireturn, 1) := by decide +kernel
theorem dX6_kinds_0 : decode cX6_kinds 0 = .ok (.aload_n 0, 1) := by decide +kernel
theorem dX6_kinds_1 : decode cX6_kinds 1 = .ok (.iload_n 1, 1) := by decide +kernel
theorem dX6_kinds_2 : decode cX6_kinds 2 = .ok (.invokevirtual 75, 3) := by decide +kernel
theorem dX6_kinds_5 : decode cX6_kinds 5 = .ok (.ifCond .ne 5, 3) := by decide +kernel
theorem dX6_kinds_8 : decode cX6_kinds 8 = .ok (.iconst (-1), 1) := by decide +kernel
theorem dX6_kinds_9 : decode cX6_kinds 9 = .ok (.ireturn, 1) := by decide +kernel
theorem dX6_kinds_10 : decode cX6_kinds 10 = .ok (.iconst 0, 1) := by decide +kernel
theorem dX6_kinds_11 : decode cX6_kinds 11 = .ok (.istore_n 2, 1) := by decide +kernel
theorem dX6_kinds_12 : decode cX6_kinds 12 = .ok (.iconst 0, 1) := by decide +kernel
theorem dX6_kinds_13 : decode cX6_kinds 13 = .ok (.istore_n 3, 1) := by decide +kernel
theorem dX6_kinds_14 : decode cX6_kinds 14 = .ok (.iload_n 3, 1) := by decide +kernel
theorem dX6_kinds_15 : decode cX6_kinds 15 = .ok (.iconst 5, 1) := by decide +kernel
theorem dX6_kinds_16 : decode cX6_kinds 16 = .ok (.if_icmp .ge 147, 3) := by decide +kernel
theorem dX6_kinds_19 : decode cX6_kinds 19 = .ok (.iconst 1, 1) := by decide +kernel
theorem dX6_kinds_20 : decode cX6_kinds 20 = .ok (.istore 4, 2) := by decide +kernel
theorem dX6_kinds_22 : decode cX6_kinds 22 = .ok (.iconst 0, 1) := by decide +kernel
theorem dX6_kinds_23 : decode cX6_kinds 23 = .ok (.istore 5, 2) := by decide +kernel
theorem dX6_kinds_25 : decode cX6_kinds 25 = .ok (.iload 5, 2) := by decide +kernel
theorem dX6_kinds_27 : decode cX6_kinds 27 = .ok (.aload_n 0, 1) := by decide +kernel
theorem dX6_kinds_28 : decode cX6_kinds 28 = .ok (.getfield 129, 3) := by decide +kernel
theorem dX6_kinds_31 : decode cX6_kinds 31 = .ok (.if_icmp .ge 111, 3) := by decide +kernel
theorem dX6_kinds_34 : decode cX6_kinds 34 = .ok (.aload_n 0, 1) := by decide +kernel
theorem dX6_kinds_35 : decode cX6_kinds 35 = .ok (.iconst 0, 1) := by decide +kernel
theorem dX6_kinds_36 : decode cX6_kinds 36 = .ok (.iload_n 1, 1) := by decide +kernel
theorem dX6_kinds_37 : decode cX6_kinds 37 = .ok (.invokevirtual 136, 3) := by decide +kernel
theorem dX6_kinds_40 : decode cX6_kinds 40 = .ok (.ifCond .eq 58, 3) := by decide +kernel
theorem dX6_kinds_43 : decode cX6_kinds 43 = .ok (.aload_n 0, 1) := by decide +kernel
theorem dX6_kinds_44 : decode cX6_kinds 44 = .ok (.iconst 0, 1) := by decide +kernel
theorem dX6_kinds_45 : decode cX6_kinds 45 = .ok (.iload_n 1, 1) := by decide +kernel
theorem dX6_kinds_46 : decode cX6_kinds 46 = .ok (.aload_n 0, 1) := by decide +kernel
theorem dX6_kinds_47 : decode cX6_kinds 47 = .ok (.getfield 32, 3) := by decide +kernel
theorem dX6_kinds_50 : decode cX6_kinds 50 = .ok (.iload 5, 2) := by decide +kernel
theorem dX6_kinds_52 : decode cX6_kinds 52 = .ok (.iaload, 1) := by decide +kernel
theorem dX6_kinds_53 : decode cX6_kinds 53 = .ok (.iload_n 3, 1) := by decide +kernel
theorem dX6_kinds_54 : decode cX6_kinds 54 = .ok (.aload_n 0, 1) := by decide +kernel
theorem dX6_kinds_55 : decode cX6_kinds 55 = .ok (.getfield 22, 3) := by decide +kernel
theorem dX6_kinds_58 : decode cX6_kinds 58 = .ok (.bipush 10, 2) := by decide +kernel
theorem dX6_kinds_60 : decode cX6_kinds 60 = .ok (.bipush 6, 2) := by decide +kernel
theorem dX6_kinds_62 : decode cX6_kinds 62 = .ok (.iload_n 1, 1) := by decide +kernel
theorem dX6_kinds_63 : decode cX6_kinds 63 = .ok (.imul, 1) := by decide +kernel
theorem dX6_kinds_64 : decode cX6_kinds 64 = .ok (.iadd, 1) := by decide +kernel
theorem dX6_kinds_65 : decode cX6_kinds 65 = .ok (.aload_n 0, 1) := by decide +kernel
theorem dX6_kinds_66 : decode cX6_kinds 66 = .ok (.getfield 32, 3) := by decide +kernel
theorem dX6_kinds_69 : decode cX6_kinds 69 = .ok (.iload 5, 2) := by decide +kernel
theorem dX6_kinds_71 : decode cX6_kinds 71 = .ok (.iaload, 1) := by decide +kernel
theorem dX6_kinds_72 : decode cX6_kinds 72 = .ok (.iadd, 1) := by decide +kernel
theorem dX6_kinds_73 : decode cX6_kinds 73 = .ok (.iaload, 1) := by decide +kernel
theorem dX6_kinds_74 : decode cX6_kinds 74 = .ok (.aload_n 0, 1) := by decide +kernel
theorem dX6_kinds_75 : decode cX6_kinds 75 = .ok (.getfield 35, 3) := by decide +kernel
theorem dX6_kinds_78 : decode cX6_kinds 78 = .ok (.iload 5, 2) := by decide +kernel
theorem dX6_kinds_80 : decode cX6_kinds 80 = .ok (.iaload, 1) := by decide +kernel
theorem dX6_kinds_81 : decode cX6_kinds 81 = .ok (.aload_n 0, 1) := by decide +kernel
theorem dX6_kinds_82 : decode cX6_kinds 82 = .ok (.getfield 38, 3) := by decide +kernel
theorem dX6_kinds_85 : decode cX6_kinds 85 = .ok (.iload 5, 2) := by decide +kernel
theorem dX6_kinds_87 : decode cX6_kinds 87 = .ok (.iaload, 1) := by decide +kernel
theorem dX6_kinds_88 : decode cX6_kinds 88 = .ok (.invokevirtual 150, 3) := by decide +kernel
theorem dX6_kinds_91 : decode cX6_kinds 91 = .ok (.ifCond .eq 7, 3) := by decide +kernel
theorem dX6_kinds_94 : decode cX6_kinds 94 = .ok (.iconst 1, 1) := by decide +kernel
theorem dX6_kinds_95 : decode cX6_kinds 95 = .ok (.goto 4, 3) := by decide +kernel
theorem dX6_kinds_98 : decode cX6_kinds 98 = .ok (.iconst 0, 1) := by decide +kernel
theorem dX6_kinds_99 : decode cX6_kinds 99 = .ok (.istore 6, 2) := by decide +kernel
theorem dX6_kinds_101 : decode cX6_kinds 101 = .ok (.iload 4, 2) := by decide +kernel
theorem dX6_kinds_103 : decode cX6_kinds 103 = .ok (.ifCond .eq 30, 3) := by decide +kernel
theorem dX6_kinds_106 : decode cX6_kinds 106 = .ok (.aload_n 0, 1) := by decide +kernel
theorem dX6_kinds_107 : decode cX6_kinds 107 = .ok (.getfield 29, 3) := by decide +kernel
theorem dX6_kinds_110 : decode cX6_kinds 110 = .ok (.iload 5, 2) := by decide +kernel
theorem dX6_kinds_112 : decode cX6_kinds 112 = .ok (.iaload, 1) := by decide +kernel
theorem dX6_kinds_113 : decode cX6_kinds 113 = .ok (.iload_n 1, 1) := by decide +kernel
theorem dX6_kinds_114 : decode cX6_kinds 114 = .ok (.if_icmp .ne 15, 3) := by decide +kernel
theorem dX6_kinds_117 : decode cX6_kinds 117 = .ok (.iload 6, 2) := by decide +kernel
theorem dX6_kinds_119 : decode cX6_kinds 119 = .ok (.aload_n 0, 1) := by decide +kernel
theorem dX6_kinds_120 : decode cX6_kinds 120 = .ok (.getfield 41, 3) := by decide +kernel
theorem dX6_kinds_123 : decode cX6_kinds 123 = .ok (.iload 5, 2) := by decide +kernel
theorem dX6_kinds_125 : decode cX6_kinds 125 = .ok (.baload, 1) := by decide +kernel
theorem dX6_kinds_126 : decode cX6_kinds 126 = .ok (.if_icmp .ne 7, 3) := by decide +kernel
theorem dX6_kinds_129 : decode cX6_kinds 129 = .ok (.iconst 1, 1) := by decide +kernel
theorem dX6_kinds_130 : decode cX6_kinds 130 = .ok (.goto 4, 3) := by decide +kernel
theorem dX6_kinds_133 : decode cX6_kinds 133 = .ok (.iconst 0, 1) := by decide +kernel
theorem dX6_kinds_134 : decode cX6_kinds 134 = .ok (.istore 4, 2) := by decide +kernel
theorem dX6_kinds_136 : decode cX6_kinds 136 = .ok (.iinc 5 1, 3) := by decide +kernel
theorem dX6_kinds_139 : decode cX6_kinds 139 = .ok (.goto (-114), 3) := by decide +kernel
theorem dX6_kinds_142 : decode cX6_kinds 142 = .ok (.iload_n 2, 1) := by decide +kernel
theorem dX6_kinds_143 : decode cX6_kinds 143 = .ok (.iload 4, 2) := by decide +kernel
theorem dX6_kinds_145 : decode cX6_kinds 145 = .ok (.ifCond .eq 9, 3) := by decide +kernel
theorem dX6_kinds_148 : decode cX6_kinds 148 = .ok (.iconst 1, 1) := by decide +kernel
theorem dX6_kinds_149 : decode cX6_kinds 149 = .ok (.iload_n 3, 1) := by decide +kernel
theorem dX6_kinds_150 : decode cX6_kinds 150 = .ok (.ishl, 1) := by decide +kernel
theorem dX6_kinds_151 : decode cX6_kinds 151 = .ok (.goto 4, 3) := by decide +kernel
theorem dX6_kinds_154 : decode cX6_kinds 154 = .ok (.iconst 0, 1) := by decide +kernel
theorem dX6_kinds_155 : decode cX6_kinds 155 = .ok (.ior, 1) := by decide +kernel
theorem dX6_kinds_156 : decode cX6_kinds 156 = .ok (.istore_n 2, 1) := by decide +kernel
theorem dX6_kinds_157 : decode cX6_kinds 157 = .ok (.iinc 3 1, 3) := by decide +kernel
theorem dX6_kinds_160 : decode cX6_kinds 160 = .ok (.goto (-146), 3) := by decide +kernel
theorem dX6_kinds_163 : decode cX6_kinds 163 = .ok (.iload_n 2, 1) := by decide +kernel
theorem dX6_kinds_164 : decode cX6_kinds 164 = .ok (.ireturn, 1) := by decide +kernel
theorem dX6_rain_0 : decode cX6_rain 0 = .ok (.aload_n 0, 1) := by decide +kernel
theorem dX6_rain_1 : decode cX6_rain 1 = .ok (.iload_n 1, 1) := by decide +kernel
theorem dX6_rain_2 : decode cX6_rain 2 = .ok (.invokevirtual 75, 3) := by decide +kernel
theorem dX6_rain_5 : decode cX6_rain 5 = .ok (.ifCond .eq 48, 3) := by decide +kernel
theorem dX6_rain_8 : decode cX6_rain 8 = .ok (.iload_n 2, 1) := by decide +kernel
theorem dX6_rain_9 : decode cX6_rain 9 = .ok (.iload_n 3, 1) := by decide +kernel
theorem dX6_rain_10 : decode cX6_rain 10 = .ok (.invokestatic 187, 3) := by decide +kernel
theorem dX6_rain_13 : decode cX6_rain 13 = .ok (.ifCond .eq 40, 3) := by decide +kernel
theorem dX6_rain_16 : decode cX6_rain 16 = .ok (.iload 4, 2) := by decide +kernel
theorem dX6_rain_18 : decode cX6_rain 18 = .ok (.i2l, 1) := by decide +kernel
theorem dX6_rain_19 : decode cX6_rain 19 = .ok (.lconst 0, 1) := by decide +kernel
theorem dX6_rain_20 : decode cX6_rain 20 = .ok (.ldc2_w 222, 3) := by decide +kernel
theorem dX6_rain_23 : decode cX6_rain 23 = .ok (.invokestatic 71, 3) := by decide +kernel
theorem dX6_rain_26 : decode cX6_rain 26 = .ok (.ifCond .eq 27, 3) := by decide +kernel
theorem dX6_rain_29 : decode cX6_rain 29 = .ok (.iload 5, 2) := by decide +kernel
theorem dX6_rain_31 : decode cX6_rain 31 = .ok (.i2l, 1) := by decide +kernel
theorem dX6_rain_32 : decode cX6_rain 32 = .ok (.lconst 0, 1) := by decide +kernel
theorem dX6_rain_33 : decode cX6_rain 33 = .ok (.ldc2_w 234, 3) := by decide +kernel
theorem dX6_rain_36 : decode cX6_rain 36 = .ok (.invokestatic 71, 3) := by decide +kernel
theorem dX6_rain_39 : decode cX6_rain 39 = .ok (.ifCond .eq 14, 3) := by decide +kernel
theorem dX6_rain_42 : decode cX6_rain 42 = .ok (.iload 6, 2) := by decide +kernel
theorem dX6_rain_44 : decode cX6_rain 44 = .ok (.i2l, 1) := by decide +kernel
theorem dX6_rain_45 : decode cX6_rain 45 = .ok (.lconst 0, 1) := by decide +kernel
theorem dX6_rain_46 : decode cX6_rain 46 = .ok (.lconst 1, 1) := by decide +kernel
theorem dX6_rain_47 : decode cX6_rain 47 = .ok (.invokestatic 71, 3) := by decide +kernel
theorem dX6_rain_50 : decode cX6_rain 50 = .ok (.ifCond .ne 5, 3) := by decide +kernel
theorem dX6_rain_53 : decode cX6_rain 53 = .ok (.iconst (-1), 1) := by decide +kernel
theorem dX6_rain_54 : decode cX6_rain 54 = .ok (.ireturn, 1) := by decide +kernel
theorem dX6_rain_55 : decode cX6_rain 55 = .ok (.aload_n 0, 1) := by decide +kernel
theorem dX6_rain_56 : decode cX6_rain 56 = .ok (.iconst 0, 1) := by decide +kernel
theorem dX6_rain_57 : decode cX6_rain 57 = .ok (.iload_n 1, 1) := by decide +kernel
theorem dX6_rain_58 : decode cX6_rain 58 = .ok (.invokevirtual 136, 3) := by decide +kernel
theorem dX6_rain_61 : decode cX6_rain 61 = .ok (.ifCond .ne 6, 3) := by decide +kernel
theorem dX6_rain_64 : decode cX6_rain 64 = .ok (.bipush (-2), 2) := by decide +kernel
theorem dX6_rain_66 : decode cX6_rain 66 = .ok (.ireturn, 1) := by decide +kernel
theorem dX6_rain_67 : decode cX6_rain 67 = .ok (.aload_n 0, 1) := by decide +kernel
theorem dX6_rain_68 : decode cX6_rain 68 = .ok (.iconst 0, 1) := by decide +kernel
theorem dX6_rain_69 : decode cX6_rain 69 = .ok (.iload_n 1, 1) := by decide +kernel
theorem dX6_rain_70 : decode cX6_rain 70 = .ok (.iload_n 2, 1) := by decide +kernel
theorem dX6_rain_71 : decode cX6_rain 71 = .ok (.iload_n 3, 1) := by decide +kernel
theorem dX6_rain_72 : decode cX6_rain 72 = .ok (.invokevirtual 178, 3) := by decide +kernel
theorem dX6_rain_75 : decode cX6_rain 75 = .ok (.invokestatic 209, 3) := by decide +kernel
theorem dX6_rain_78 : decode cX6_rain 78 = .ok (.istore 7, 2) := by decide +kernel
theorem dX6_rain_80 : decode cX6_rain 80 = .ok (.iconst 0, 1) := by decide +kernel
theorem dX6_rain_81 : decode cX6_rain 81 = .ok (.istore 8, 2) := by decide +kernel
theorem dX6_rain_83 : decode cX6_rain 83 = .ok (.iconst 0, 1) := by decide +kernel
theorem dX6_rain_84 : decode cX6_rain 84 = .ok (.istore 9, 2) := by decide +kernel
theorem dX6_rain_86 : decode cX6_rain 86 = .ok (.iconst 0, 1) := by decide +kernel
theorem dX6_rain_87 : decode cX6_rain 87 = .ok (.istore 10, 2) := by decide +kernel
theorem dX6_rain_89 : decode cX6_rain 89 = .ok (.iload 10, 2) := by decide +kernel
theorem dX6_rain_91 : decode cX6_rain 91 = .ok (.iconst 1, 1) := by decide +kernel
theorem dX6_rain_92 : decode cX6_rain 92 = .ok (.iload 7, 2) := by decide +kernel
theorem dX6_rain_94 : decode cX6_rain 94 = .ok (.ishl, 1) := by decide +kernel
theorem dX6_rain_95 : decode cX6_rain 95 = .ok (.if_icmp .ge 81, 3) := by decide +kernel
theorem dX6_rain_98 : decode cX6_rain 98 = .ok (.iconst 1, 1) := by decide +kernel
theorem dX6_rain_99 : decode cX6_rain 99 = .ok (.istore 11, 2) := by decide +kernel
theorem dX6_rain_101 : decode cX6_rain 101 = .ok (.iconst 0, 1) := by decide +kernel
theorem dX6_rain_102 : decode cX6_rain 102 = .ok (.istore 12, 2) := by decide +kernel
theorem dX6_rain_104 : decode cX6_rain 104 = .ok (.iload 12, 2) := by decide +kernel
theorem dX6_rain_106 : decode cX6_rain 106 = .ok (.iload 7, 2) := by decide +kernel
theorem dX6_rain_108 : decode cX6_rain 108 = .ok (.if_icmp .ge 34, 3) := by decide +kernel
theorem dX6_rain_111 : decode cX6_rain 111 = .ok (.iload 11, 2) := by decide +kernel
theorem dX6_rain_113 : decode cX6_rain 113 = .ok (.iload 10, 2) := by decide +kernel
theorem dX6_rain_115 : decode cX6_rain 115 = .ok (.iload 12, 2) := by decide +kernel
theorem dX6_rain_117 : decode cX6_rain 117 = .ok (.invokestatic 132, 3) := by decide +kernel
theorem dX6_rain_120 : decode cX6_rain 120 = .ok (.ifCond .eq 8, 3) := by decide +kernel
theorem dX6_rain_123 : decode cX6_rain 123 = .ok (.iload 5, 2) := by decide +kernel
theorem dX6_rain_125 : decode cX6_rain 125 = .ok (.goto 8, 3) := by decide +kernel
theorem dX6_rain_128 : decode cX6_rain 128 = .ok (.bipush 10, 2) := by decide +kernel
theorem dX6_rain_130 : decode cX6_rain 130 = .ok (.iload 5, 2) := by decide +kernel
theorem dX6_rain_132 : decode cX6_rain 132 = .ok (.isub, 1) := by decide +kernel
theorem dX6_rain_133 : decode cX6_rain 133 = .ok (.imul, 1) := by decide +kernel
theorem dX6_rain_134 : decode cX6_rain 134 = .ok (.istore 11, 2) := by decide +kernel
theorem dX6_rain_136 : decode cX6_rain 136 = .ok (.iinc 12 1, 3) := by decide +kernel
theorem dX6_rain_139 : decode cX6_rain 139 = .ok (.goto (-35), 3) := by decide +kernel
theorem dX6_rain_142 : decode cX6_rain 142 = .ok (.iload 9, 2) := by decide +kernel
theorem dX6_rain_144 : decode cX6_rain 144 = .ok (.iload 11, 2) := by decide +kernel
theorem dX6_rain_146 : decode cX6_rain 146 = .ok (.iadd, 1) := by decide +kernel
theorem dX6_rain_147 : decode cX6_rain 147 = .ok (.istore 9, 2) := by decide +kernel
theorem dX6_rain_149 : decode cX6_rain 149 = .ok (.iload 8, 2) := by decide +kernel
theorem dX6_rain_151 : decode cX6_rain 151 = .ok (.iload 10, 2) := by decide +kernel
theorem dX6_rain_153 : decode cX6_rain 153 = .ok (.invokestatic 209, 3) := by decide +kernel
theorem dX6_rain_156 : decode cX6_rain 156 = .ok (.iload 4, 2) := by decide +kernel
theorem dX6_rain_158 : decode cX6_rain 158 = .ok (.if_icmp .lt 8, 3) := by decide +kernel
theorem dX6_rain_161 : decode cX6_rain 161 = .ok (.iload 11, 2) := by decide +kernel
theorem dX6_rain_163 : decode cX6_rain 163 = .ok (.goto 4, 3) := by decide +kernel
theorem dX6_rain_166 : decode cX6_rain 166 = .ok (.iconst 0, 1) := by decide +kernel
theorem dX6_rain_167 : decode cX6_rain 167 = .ok (.iadd, 1) := by decide +kernel
theorem dX6_rain_168 : decode cX6_rain 168 = .ok (.istore 8, 2) := by decide +kernel
theorem dX6_rain_170 : decode cX6_rain 170 = .ok (.iinc 10 1, 3) := by decide +kernel
theorem dX6_rain_173 : decode cX6_rain 173 = .ok (.goto (-84), 3) := by decide +kernel
theorem dX6_rain_176 : decode cX6_rain 176 = .ok (.iload 8, 2) := by decide +kernel
theorem dX6_rain_178 : decode cX6_rain 178 = .ok (.istore 10, 2) := by decide +kernel
theorem dX6_rain_180 : decode cX6_rain 180 = .ok (.iload 9, 2) := by decide +kernel
theorem dX6_rain_182 : decode cX6_rain 182 = .ok (.istore 11, 2) := by decide +kernel
theorem dX6_rain_184 : decode cX6_rain 184 = .ok (.iload 11, 2) := by decide +kernel
theorem dX6_rain_186 : decode cX6_rain 186 = .ok (.ifCond .eq 21, 3) := by decide +kernel
theorem dX6_rain_189 : decode cX6_rain 189 = .ok (.iload 10, 2) := by decide +kernel
theorem dX6_rain_191 : decode cX6_rain 191 = .ok (.iload 11, 2) := by decide +kernel
theorem dX6_rain_193 : decode cX6_rain 193 = .ok (.irem, 1) := by decide +kernel
theorem dX6_rain_194 : decode cX6_rain 194 = .ok (.istore 12, 2) := by decide +kernel
theorem dX6_rain_196 : decode cX6_rain 196 = .ok (.iload 11, 2) := by decide +kernel
theorem dX6_rain_198 : decode cX6_rain 198 = .ok (.istore 10, 2) := by decide +kernel
theorem dX6_rain_200 : decode cX6_rain 200 = .ok (.iload 12, 2) := by decide +kernel
theorem dX6_rain_202 : decode cX6_rain 202 = .ok (.istore 11, 2) := by decide +kernel
theorem dX6_rain_204 : decode cX6_rain 204 = .ok (.goto (-20), 3) := by decide +kernel
theorem dX6_rain_207 : decode cX6_rain 207 = .ok (.iload 6, 2) := by decide +kernel
theorem dX6_rain_209 : decode cX6_rain 209 = .ok (.ifCond .ne 11, 3) := by decide +kernel
theorem dX6_rain_212 : decode cX6_rain 212 = .ok (.iload 8, 2) := by decide +kernel
theorem dX6_rain_214 : decode cX6_rain 214 = .ok (.iload 10, 2) := by decide +kernel
theorem dX6_rain_216 : decode cX6_rain 216 = .ok (.idiv, 1) := by decide +kernel
theorem dX6_rain_217 : decode cX6_rain 217 = .ok (.goto 8, 3) := by decide +kernel
theorem dX6_rain_220 : decode cX6_rain 220 = .ok (.iload 9, 2) := by decide +kernel
theorem dX6_rain_222 : decode cX6_rain 222 = .ok (.iload 10, 2) := by decide +kernel
theorem dX6_rain_224 : decode cX6_rain 224 = .ok (.idiv, 1) := by decide +kernel
theorem dX6_rain_225 : decode cX6_rain 225 = .ok (.ireturn, 1) := by decide +kernel
theorem dX6_allCoins_0 : decode cX6_allCoins 0 = .ok (.iconst 0, 1) := by decide +kernel
theorem dX6_allCoins_1 : decode cX6_allCoins 1 = .ok (.istore_n 2, 1) := by decide +kernel
theorem dX6_allCoins_2 : decode cX6_allCoins 2 = .ok (.iconst 0, 1) := by decide +kernel
theorem dX6_allCoins_3 : decode cX6_allCoins 3 = .ok (.istore_n 3, 1) := by decide +kernel
theorem dX6_allCoins_4 : decode cX6_allCoins 4 = .ok (.iload_n 3, 1) := by decide +kernel
theorem dX6_allCoins_5 : decode cX6_allCoins 5 = .ok (.aload_n 0, 1) := by decide +kernel
theorem dX6_allCoins_6 : decode cX6_allCoins 6 = .ok (.getfield 65, 3) := by decide +kernel
theorem dX6_allCoins_9 : decode cX6_allCoins 9 = .ok (.if_icmp .ge 20, 3) := by decide +kernel
theorem dX6_allCoins_12 : decode cX6_allCoins 12 = .ok (.iload_n 2, 1) := by decide +kernel
theorem dX6_allCoins_13 : decode cX6_allCoins 13 = .ok (.aload_n 0, 1) := by decide +kernel
theorem dX6_allCoins_14 : decode cX6_allCoins 14 = .ok (.getfield 22, 3) := by decide +kernel
theorem dX6_allCoins_17 : decode cX6_allCoins 17 = .ok (.iload_n 1, 1) := by decide +kernel
theorem dX6_allCoins_18 : decode cX6_allCoins 18 = .ok (.iload_n 3, 1) := by decide +kernel
theorem dX6_allCoins_19 : decode cX6_allCoins 19 = .ok (.iadd, 1) := by decide +kernel
theorem dX6_allCoins_20 : decode cX6_allCoins 20 = .ok (.iaload, 1) := by decide +kernel
theorem dX6_allCoins_21 : decode cX6_allCoins 21 = .ok (.iadd, 1) := by decide +kernel
theorem dX6_allCoins_22 : decode cX6_allCoins 22 = .ok (.istore_n 2, 1) := by decide +kernel
theorem dX6_allCoins_23 : decode cX6_allCoins 23 = .ok (.iinc 3 1, 3) := by decide +kernel
theorem dX6_allCoins_26 : decode cX6_allCoins 26 = .ok (.goto (-22), 3) := by decide +kernel
theorem dX6_allCoins_29 : decode cX6_allCoins 29 = .ok (.iload_n 2, 1) := by decide +kernel
theorem dX6_allCoins_30 : decode cX6_allCoins 30 = .ok (.ireturn, 1) := by decide +kernel
theorem dX6_year_0 : decode cX6_year 0 = .ok (.iload_n 1, 1) := by decide +kernel
theorem dX6_year_1 : decode cX6_year 1 = .ok (.i2l, 1) := by decide +kernel
theorem dX6_year_2 : decode cX6_year 2 = .ok (.lconst 0, 1) := by decide +kernel
theorem dX6_year_3 : decode cX6_year 3 = .ok (.ldc2_w 236, 3) := by decide +kernel
theorem dX6_year_6 : decode cX6_year 6 = .ok (.invokestatic 71, 3) := by decide +kernel
theorem dX6_year_9 : decode cX6_year 9 = .ok (.ifCond .eq 25, 3) := by decide +kernel
theorem dX6_year_12 : decode cX6_year 12 = .ok (.iload_n 2, 1) := by decide +kernel
theorem dX6_year_13 : decode cX6_year 13 = .ok (.i2l, 1) := by decide +kernel
theorem dX6_year_14 : decode cX6_year 14 = .ok (.lconst 1, 1) := by decide +kernel
theorem dX6_year_15 : decode cX6_year 15 = .ok (.ldc2_w 238, 3) := by decide +kernel
theorem dX6_year_18 : decode cX6_year 18 = .ok (.invokestatic 71, 3) := by decide +kernel
theorem dX6_year_21 : decode cX6_year 21 = .ok (.ifCond .eq 13, 3) := by decide +kernel
theorem dX6_year_24 : decode cX6_year 24 = .ok (.iload_n 3, 1) := by decide +kernel
theorem dX6_year_25 : decode cX6_year 25 = .ok (.i2l, 1) := by decide +kernel
theorem dX6_year_26 : decode cX6_year 26 = .ok (.lconst 0, 1) := by decide +kernel
theorem dX6_year_27 : decode cX6_year 27 = .ok (.lconst 1, 1) := by decide +kernel
theorem dX6_year_28 : decode cX6_year 28 = .ok (.invokestatic 71, 3) := by decide +kernel
theorem dX6_year_31 : decode cX6_year 31 = .ok (.ifCond .ne 5, 3) := by decide +kernel
theorem dX6_year_34 : decode cX6_year 34 = .ok (.iconst (-1), 1) := by decide +kernel
theorem dX6_year_35 : decode cX6_year 35 = .ok (.ireturn, 1) := by decide +kernel
theorem dX6_year_36 : decode cX6_year 36 = .ok (.aload_n 0, 1) := by decide +kernel
theorem dX6_year_37 : decode cX6_year 37 = .ok (.iconst 0, 1) := by decide +kernel
theorem dX6_year_38 : decode cX6_year 38 = .ok (.sipush 902, 3) := by decide +kernel
theorem dX6_year_41 : decode cX6_year 41 = .ok (.invokevirtual 119, 3) := by decide +kernel
theorem dX6_year_44 : decode cX6_year 44 = .ok (.iconst 0, 1) := by decide +kernel
theorem dX6_year_45 : decode cX6_year 45 = .ok (.istore 4, 2) := by decide +kernel
theorem dX6_year_47 : decode cX6_year 47 = .ok (.iconst 0, 1) := by decide +kernel
theorem dX6_year_48 : decode cX6_year 48 = .ok (.istore 5, 2) := by decide +kernel
theorem dX6_year_50 : decode cX6_year 50 = .ok (.iload 5, 2) := by decide +kernel
theorem dX6_year_52 : decode cX6_year 52 = .ok (.iload_n 2, 1) := by decide +kernel
theorem dX6_year_53 : decode cX6_year 53 = .ok (.if_icmp .ge 167, 3) := by decide +kernel
theorem dX6_year_56 : decode cX6_year 56 = .ok (.ldc2_w 240, 3) := by decide +kernel
theorem dX6_year_59 : decode cX6_year 59 = .ok (.iload_n 1, 1) := by decide +kernel
theorem dX6_year_60 : decode cX6_year 60 = .ok (.i2l, 1) := by decide +kernel
theorem dX6_year_61 : decode cX6_year 61 = .ok (.lmul, 1) := by decide +kernel
theorem dX6_year_62 : decode cX6_year 62 = .ok (.ldc2_w 242, 3) := by decide +kernel
theorem dX6_year_65 : decode cX6_year 65 = .ok (.iload 5, 2) := by decide +kernel
theorem dX6_year_67 : decode cX6_year 67 = .ok (.i2l, 1) := by decide +kernel
theorem dX6_year_68 : decode cX6_year 68 = .ok (.lmul, 1) := by decide +kernel
theorem dX6_year_69 : decode cX6_year 69 = .ok (.ladd, 1) := by decide +kernel
theorem dX6_year_70 : decode cX6_year 70 = .ok (.lconst 1, 1) := by decide +kernel
theorem dX6_year_71 : decode cX6_year 71 = .ok (.ladd, 1) := by decide +kernel
theorem dX6_year_72 : decode cX6_year 72 = .ok (.lstore 6, 2) := by decide +kernel
theorem dX6_year_74 : decode cX6_year 74 = .ok (.lload 6, 2) := by decide +kernel
theorem dX6_year_76 : decode cX6_year 76 = .ok (.lload 6, 2) := by decide +kernel
theorem dX6_year_78 : decode cX6_year 78 = .ok (.lmul, 1) := by decide +kernel
theorem dX6_year_79 : decode cX6_year 79 = .ok (.ldc2_w 244, 3) := by decide +kernel
theorem dX6_year_82 : decode cX6_year 82 = .ok (.lrem, 1) := by decide +kernel
theorem dX6_year_83 : decode cX6_year 83 = .ok (.l2i, 1) := by decide +kernel
theorem dX6_year_84 : decode cX6_year 84 = .ok (.istore 8, 2) := by decide +kernel
theorem dX6_year_86 : decode cX6_year 86 = .ok (.iload 8, 2) := by decide +kernel
theorem dX6_year_88 : decode cX6_year 88 = .ok (.aload_n 0, 1) := by decide +kernel
theorem dX6_year_89 : decode cX6_year 89 = .ok (.getfield 65, 3) := by decide +kernel
theorem dX6_year_92 : decode cX6_year 92 = .ok (.irem, 1) := by decide +kernel
theorem dX6_year_93 : decode cX6_year 93 = .ok (.istore 9, 2) := by decide +kernel
theorem dX6_year_95 : decode cX6_year 95 = .ok (.iload 8, 2) := by decide +kernel
theorem dX6_year_97 : decode cX6_year 97 = .ok (.sipush 128, 3) := by decide +kernel
theorem dX6_year_100 : decode cX6_year 100 = .ok (.idiv, 1) := by decide +kernel
theorem dX6_year_101 : decode cX6_year 101 = .ok (.aload_n 0, 1) := by decide +kernel
theorem dX6_year_102 : decode cX6_year 102 = .ok (.getfield 65, 3) := by decide +kernel
theorem dX6_year_105 : decode cX6_year 105 = .ok (.irem, 1) := by decide +kernel
theorem dX6_year_106 : decode cX6_year 106 = .ok (.istore 10, 2) := by decide +kernel
theorem dX6_year_108 : decode cX6_year 108 = .ok (.aload_n 0, 1) := by decide +kernel
theorem dX6_year_109 : decode cX6_year 109 = .ok (.sipush 902, 3) := by decide +kernel
theorem dX6_year_112 : decode cX6_year 112 = .ok (.iload 9, 2) := by decide +kernel
theorem dX6_year_114 : decode cX6_year 114 = .ok (.iload 8, 2) := by decide +kernel
theorem dX6_year_116 : decode cX6_year 116 = .ok (.bipush 8, 2) := by decide +kernel
theorem dX6_year_118 : decode cX6_year 118 = .ok (.idiv, 1) := by decide +kernel
theorem dX6_year_119 : decode cX6_year 119 = .ok (.iconst 4, 1) := by decide +kernel
theorem dX6_year_120 : decode cX6_year 120 = .ok (.irem, 1) := by decide +kernel
theorem dX6_year_121 : decode cX6_year 121 = .ok (.iload 8, 2) := by decide +kernel
theorem dX6_year_123 : decode cX6_year 123 = .ok (.bipush 32, 2) := by decide +kernel
theorem dX6_year_125 : decode cX6_year 125 = .ok (.idiv, 1) := by decide +kernel
theorem dX6_year_126 : decode cX6_year 126 = .ok (.iconst 4, 1) := by decide +kernel
theorem dX6_year_127 : decode cX6_year 127 = .ok (.irem, 1) := by decide +kernel
theorem dX6_year_128 : decode cX6_year 128 = .ok (.invokevirtual 190, 3) := by decide +kernel
theorem dX6_year_131 : decode cX6_year 131 = .ok (.ifCond .eq 37, 3) := by decide +kernel
theorem dX6_year_134 : decode cX6_year 134 = .ok (.iload 4, 2) := by decide +kernel
theorem dX6_year_136 : decode cX6_year 136 = .ok (.aload_n 0, 1) := by decide +kernel
theorem dX6_year_137 : decode cX6_year 137 = .ok (.sipush 902, 3) := by decide +kernel
theorem dX6_year_140 : decode cX6_year 140 = .ok (.iload 9, 2) := by decide +kernel
theorem dX6_year_142 : decode cX6_year 142 = .ok (.iload 8, 2) := by decide +kernel
theorem dX6_year_144 : decode cX6_year 144 = .ok (.bipush 8, 2) := by decide +kernel
theorem dX6_year_146 : decode cX6_year 146 = .ok (.idiv, 1) := by decide +kernel
theorem dX6_year_147 : decode cX6_year 147 = .ok (.iconst 4, 1) := by decide +kernel
theorem dX6_year_148 : decode cX6_year 148 = .ok (.irem, 1) := by decide +kernel
theorem dX6_year_149 : decode cX6_year 149 = .ok (.iload 8, 2) := by decide +kernel
theorem dX6_year_151 : decode cX6_year 151 = .ok (.bipush 32, 2) := by decide +kernel
theorem dX6_year_153 : decode cX6_year 153 = .ok (.idiv, 1) := by decide +kernel
theorem dX6_year_154 : decode cX6_year 154 = .ok (.iconst 4, 1) := by decide +kernel
theorem dX6_year_155 : decode cX6_year 155 = .ok (.irem, 1) := by decide +kernel
theorem dX6_year_156 : decode cX6_year 156 = .ok (.invokevirtual 197, 3) := by decide +kernel
theorem dX6_year_159 : decode cX6_year 159 = .ok (.invokestatic 209, 3) := by decide +kernel
theorem dX6_year_162 : decode cX6_year 162 = .ok (.iadd, 1) := by decide +kernel
theorem dX6_year_163 : decode cX6_year 163 = .ok (.istore 4, 2) := by decide +kernel
theorem dX6_year_165 : decode cX6_year 165 = .ok (.goto 28, 3) := by decide +kernel
theorem dX6_year_168 : decode cX6_year 168 = .ok (.aload_n 0, 1) := by decide +kernel
theorem dX6_year_169 : decode cX6_year 169 = .ok (.sipush 902, 3) := by decide +kernel
theorem dX6_year_172 : decode cX6_year 172 = .ok (.iload 9, 2) := by decide +kernel
theorem dX6_year_174 : decode cX6_year 174 = .ok (.iload 10, 2) := by decide +kernel
theorem dX6_year_176 : decode cX6_year 176 = .ok (.invokevirtual 200, 3) := by decide +kernel
theorem dX6_year_179 : decode cX6_year 179 = .ok (.ifCond .eq 14, 3) := by decide +kernel
theorem dX6_year_182 : decode cX6_year 182 = .ok (.aload_n 0, 1) := by decide +kernel
theorem dX6_year_183 : decode cX6_year 183 = .ok (.sipush 902, 3) := by decide +kernel
theorem dX6_year_186 : decode cX6_year 186 = .ok (.iload 9, 2) := by decide +kernel
theorem dX6_year_188 : decode cX6_year 188 = .ok (.iload 10, 2) := by decide +kernel
theorem dX6_year_190 : decode cX6_year 190 = .ok (.invokevirtual 204, 3) := by decide +kernel
theorem dX6_year_193 : decode cX6_year 193 = .ok (.aload_n 0, 1) := by decide +kernel
theorem dX6_year_194 : decode cX6_year 194 = .ok (.getfield 22, 3) := by decide +kernel
theorem dX6_year_197 : decode cX6_year 197 = .ok (.sipush 910, 3) := by decide +kernel
theorem dX6_year_200 : decode cX6_year 200 = .ok (.dup2, 1) := by decide +kernel
theorem dX6_year_201 : decode cX6_year 201 = .ok (.iaload, 1) := by decide +kernel
theorem dX6_year_202 : decode cX6_year 202 = .ok (.iconst 1, 1) := by decide +kernel
theorem dX6_year_203 : decode cX6_year 203 = .ok (.iadd, 1) := by decide +kernel
theorem dX6_year_204 : decode cX6_year 204 = .ok (.iastore, 1) := by decide +kernel
theorem dX6_year_205 : decode cX6_year 205 = .ok (.aload_n 0, 1) := by decide +kernel
theorem dX6_year_206 : decode cX6_year 206 = .ok (.getfield 22, 3) := by decide +kernel
theorem dX6_year_209 : decode cX6_year 209 = .ok (.sipush 911, 3) := by decide +kernel
theorem dX6_year_212 : decode cX6_year 212 = .ok (.iconst 0, 1) := by decide +kernel
theorem dX6_year_213 : decode cX6_year 213 = .ok (.iastore, 1) := by decide +kernel
theorem dX6_year_214 : decode cX6_year 214 = .ok (.iinc 5 1, 3) := by decide +kernel
theorem dX6_year_217 : decode cX6_year 217 = .ok (.goto (-167), 3) := by decide +kernel
theorem dX6_year_220 : decode cX6_year 220 = .ok (.iload_n 3, 1) := by decide +kernel
theorem dX6_year_221 : decode cX6_year 221 = .ok (.ifCond .ne 8, 3) := by decide +kernel
theorem dX6_year_224 : decode cX6_year 224 = .ok (.iload 4, 2) := by decide +kernel
theorem dX6_year_226 : decode cX6_year 226 = .ok (.goto 10, 3) := by decide +kernel
theorem dX6_year_229 : decode cX6_year 229 = .ok (.aload_n 0, 1) := by decide +kernel
theorem dX6_year_230 : decode cX6_year 230 = .ok (.sipush 902, 3) := by decide +kernel
theorem dX6_year_233 : decode cX6_year 233 = .ok (.invokevirtual 246, 3) := by decide +kernel
theorem dX6_year_236 : decode cX6_year 236 = .ok (.ireturn, 1) := by decide +kernel
theorem dX6_keep_0 : decode cX6_keep 0 = .ok (.aload_n 0, 1) := by decide +kernel
theorem dX6_keep_1 : decode cX6_keep 1 = .ok (.getfield 126, 3) := by decide +kernel
theorem dX6_keep_4 : decode cX6_keep 4 = .ok (.iconst 2, 1) := by decide +kernel
theorem dX6_keep_5 : decode cX6_keep 5 = .ok (.if_icmp .ne 6, 3) := by decide +kernel
theorem dX6_keep_8 : decode cX6_keep 8 = .ok (.bipush (-3), 2) := by decide +kernel
theorem dX6_keep_10 : decode cX6_keep 10 = .ok (.ireturn, 1) := by decide +kernel
theorem dX6_keep_11 : decode cX6_keep 11 = .ok (.aload_n 0, 1) := by decide +kernel
theorem dX6_keep_12 : decode cX6_keep 12 = .ok (.iconst 0, 1) := by decide +kernel
theorem dX6_keep_13 : decode cX6_keep 13 = .ok (.bipush 9, 2) := by decide +kernel
theorem dX6_keep_15 : decode cX6_keep 15 = .ok (.aload_n 0, 1) := by decide +kernel
theorem dX6_keep_16 : decode cX6_keep 16 = .ok (.getfield 126, 3) := by decide +kernel
theorem dX6_keep_19 : decode cX6_keep 19 = .ok (.iadd, 1) := by decide +kernel
theorem dX6_keep_20 : decode cX6_keep 20 = .ok (.bipush 82, 2) := by decide +kernel
theorem dX6_keep_22 : decode cX6_keep 22 = .ok (.imul, 1) := by decide +kernel
theorem dX6_keep_23 : decode cX6_keep 23 = .ok (.invokevirtual 119, 3) := by decide +kernel
theorem dX6_keep_26 : decode cX6_keep 26 = .ok (.aload_n 0, 1) := by decide +kernel
theorem dX6_keep_27 : decode cX6_keep 27 = .ok (.dup, 1) := by decide +kernel
theorem dX6_keep_28 : decode cX6_keep 28 = .ok (.getfield 126, 3) := by decide +kernel
theorem dX6_keep_31 : decode cX6_keep 31 = .ok (.iconst 1, 1) := by decide +kernel
theorem dX6_keep_32 : decode cX6_keep 32 = .ok (.iadd, 1) := by decide +kernel
theorem dX6_keep_33 : decode cX6_keep 33 = .ok (.putfield 126, 3) := by decide +kernel
theorem dX6_keep_36 : decode cX6_keep 36 = .ok (.aload_n 0, 1) := by decide +kernel
theorem dX6_keep_37 : decode cX6_keep 37 = .ok (.getfield 126, 3) := by decide +kernel
theorem dX6_keep_40 : decode cX6_keep 40 = .ok (.ireturn, 1) := by decide +kernel
theorem dX6_back_0 : decode cX6_back 0 = .ok (.aload_n 0, 1) := by decide +kernel
theorem dX6_back_1 : decode cX6_back 1 = .ok (.getfield 126, 3) := by decide +kernel
theorem dX6_back_4 : decode cX6_back 4 = .ok (.ifCond .ne 6, 3) := by decide +kernel
theorem dX6_back_7 : decode cX6_back 7 = .ok (.bipush (-2), 2) := by decide +kernel
theorem dX6_back_9 : decode cX6_back 9 = .ok (.ireturn, 1) := by decide +kernel
theorem dX6_back_10 : decode cX6_back 10 = .ok (.aload_n 0, 1) := by decide +kernel
theorem dX6_back_11 : decode cX6_back 11 = .ok (.dup, 1) := by decide +kernel
theorem dX6_back_12 : decode cX6_back 12 = .ok (.getfield 126, 3) := by decide +kernel
theorem dX6_back_15 : decode cX6_back 15 = .ok (.iconst 1, 1) := by decide +kernel
theorem dX6_back_16 : decode cX6_back 16 = .ok (.isub, 1) := by decide +kernel
theorem dX6_back_17 : decode cX6_back 17 = .ok (.putfield 126, 3) := by decide +kernel
theorem dX6_back_20 : decode cX6_back 20 = .ok (.aload_n 0, 1) := by decide +kernel
theorem dX6_back_21 : decode cX6_back 21 = .ok (.bipush 9, 2) := by decide +kernel
theorem dX6_back_23 : decode cX6_back 23 = .ok (.aload_n 0, 1) := by decide +kernel
theorem dX6_back_24 : decode cX6_back 24 = .ok (.getfield 126, 3) := by decide +kernel
theorem dX6_back_27 : decode cX6_back 27 = .ok (.iadd, 1) := by decide +kernel
theorem dX6_back_28 : decode cX6_back 28 = .ok (.bipush 82, 2) := by decide +kernel
theorem dX6_back_30 : decode cX6_back 30 = .ok (.imul, 1) := by decide +kernel
theorem dX6_back_31 : decode cX6_back 31 = .ok (.iconst 0, 1) := by decide +kernel
theorem dX6_back_32 : decode cX6_back 32 = .ok (.invokevirtual 119, 3) := by decide +kernel
theorem dX6_back_35 : decode cX6_back 35 = .ok (.aload_n 0, 1) := by decide +kernel
theorem dX6_back_36 : decode cX6_back 36 = .ok (.iconst 0, 1) := by decide +kernel
theorem dX6_back_37 : decode cX6_back 37 = .ok (.putfield 123, 3) := by decide +kernel
theorem dX6_back_40 : decode cX6_back 40 = .ok (.aload_n 0, 1) := by decide +kernel
theorem dX6_back_41 : decode cX6_back 41 = .ok (.getfield 126, 3) := by decide +kernel
theorem dX6_back_44 : decode cX6_back 44 = .ok (.ireturn, 1) := by decide +kernel
theorem dX6_allOwed_0 : decode cX6_allOwed 0 = .ok (.iconst 0, 1) := by decide +kernel
theorem dX6_allOwed_1 : decode cX6_allOwed 1 = .ok (.istore_n 1, 1) := by decide +kernel
theorem dX6_allOwed_2 : decode cX6_allOwed 2 = .ok (.iconst 0, 1) := by decide +kernel
theorem dX6_allOwed_3 : decode cX6_allOwed 3 = .ok (.istore_n 2, 1) := by decide +kernel
theorem dX6_allOwed_4 : decode cX6_allOwed 4 = .ok (.iload_n 2, 1) := by decide +kernel
theorem dX6_allOwed_5 : decode cX6_allOwed 5 = .ok (.bipush 36, 2) := by decide +kernel
theorem dX6_allOwed_7 : decode cX6_allOwed 7 = .ok (.if_icmp .ge 21, 3) := by decide +kernel
theorem dX6_allOwed_10 : decode cX6_allOwed 10 = .ok (.iload_n 1, 1) := by decide +kernel
theorem dX6_allOwed_11 : decode cX6_allOwed 11 = .ok (.aload_n 0, 1) := by decide +kernel
theorem dX6_allOwed_12 : decode cX6_allOwed 12 = .ok (.getfield 22, 3) := by decide +kernel
theorem dX6_allOwed_15 : decode cX6_allOwed 15 = .ok (.bipush 46, 2) := by decide +kernel
theorem dX6_allOwed_17 : decode cX6_allOwed 17 = .ok (.iload_n 2, 1) := by decide +kernel
theorem dX6_allOwed_18 : decode cX6_allOwed 18 = .ok (.iadd, 1) := by decide +kernel
theorem dX6_allOwed_19 : decode cX6_allOwed 19 = .ok (.iaload, 1) := by decide +kernel
theorem dX6_allOwed_20 : decode cX6_allOwed 20 = .ok (.iadd, 1) := by decide +kernel
theorem dX6_allOwed_21 : decode cX6_allOwed 21 = .ok (.istore_n 1, 1) := by decide +kernel
theorem dX6_allOwed_22 : decode cX6_allOwed 22 = .ok (.iinc 2 1, 3) := by decide +kernel
theorem dX6_allOwed_25 : decode cX6_allOwed 25 = .ok (.goto (-21), 3) := by decide +kernel
theorem dX6_allOwed_28 : decode cX6_allOwed 28 = .ok (.iload_n 1, 1) := by decide +kernel
theorem dX6_allOwed_29 : decode cX6_allOwed 29 = .ok (.ireturn, 1) := by decide +kernel
theorem dX6_count_0 : decode cX6_count 0 = .ok (.iload_n 1, 1) := by decide +kernel
theorem dX6_count_1 : decode cX6_count 1 = .ok (.ifCond .ne 10, 3) := by decide +kernel
theorem dX6_count_4 : decode cX6_count 4 = .ok (.aload_n 0, 1) := by decide +kernel
theorem dX6_count_5 : decode cX6_count 5 = .ok (.getfield 65, 3) := by decide +kernel
theorem dX6_count_8 : decode cX6_count 8 = .ok (.goto 153, 3) := by decide +kernel
theorem dX6_count_11 : decode cX6_count 11 = .ok (.iload_n 1, 1) := by decide +kernel
theorem dX6_count_12 : decode cX6_count 12 = .ok (.iconst 1, 1) := by decide +kernel
theorem dX6_count_13 : decode cX6_count 13 = .ok (.if_icmp .ne 21, 3) := by decide +kernel
theorem dX6_count_16 : decode cX6_count 16 = .ok (.aload_n 0, 1) := by decide +kernel
theorem dX6_count_17 : decode cX6_count 17 = .ok (.getfield 65, 3) := by decide +kernel
theorem dX6_count_20 : decode cX6_count 20 = .ok (.aload_n 0, 1) := by decide +kernel
theorem dX6_count_21 : decode cX6_count 21 = .ok (.getfield 22, 3) := by decide +kernel
theorem dX6_count_24 : decode cX6_count 24 = .ok (.bipush 6, 2) := by decide +kernel
theorem dX6_count_26 : decode cX6_count 26 = .ok (.iaload, 1) := by decide +kernel
theorem dX6_count_27 : decode cX6_count 27 = .ok (.invokestatic 209, 3) := by decide +kernel
theorem dX6_count_30 : decode cX6_count 30 = .ok (.isub, 1) := by decide +kernel
theorem dX6_count_31 : decode cX6_count 31 = .ok (.goto 130, 3) := by decide +kernel
theorem dX6_count_34 : decode cX6_count 34 = .ok (.iload_n 1, 1) := by decide +kernel
theorem dX6_count_35 : decode cX6_count 35 = .ok (.iconst 2, 1) := by decide +kernel
theorem dX6_count_36 : decode cX6_count 36 = .ok (.if_icmp .ne 16, 3) := by decide +kernel
theorem dX6_count_39 : decode cX6_count 39 = .ok (.aload_n 0, 1) := by decide +kernel
theorem dX6_count_40 : decode cX6_count 40 = .ok (.getfield 22, 3) := by decide +kernel
theorem dX6_count_43 : decode cX6_count 43 = .ok (.bipush 7, 2) := by decide +kernel
theorem dX6_count_45 : decode cX6_count 45 = .ok (.iaload, 1) := by decide +kernel
theorem dX6_count_46 : decode cX6_count 46 = .ok (.invokestatic 209, 3) := by decide +kernel
theorem dX6_count_49 : decode cX6_count 49 = .ok (.goto 112, 3) := by decide +kernel
theorem dX6_count_52 : decode cX6_count 52 = .ok (.iload_n 1, 1) := by decide +kernel
theorem dX6_count_53 : decode cX6_count 53 = .ok (.iconst 3, 1) := by decide +kernel
theorem dX6_count_54 : decode cX6_count 54 = .ok (.if_icmp .ne 13, 3) := by decide +kernel
theorem dX6_count_57 : decode cX6_count 57 = .ok (.aload_n 0, 1) := by decide +kernel
theorem dX6_count_58 : decode cX6_count 58 = .ok (.getfield 22, 3) := by decide +kernel
theorem dX6_count_61 : decode cX6_count 61 = .ok (.bipush 8, 2) := by decide +kernel
theorem dX6_count_63 : decode cX6_count 63 = .ok (.iaload, 1) := by decide +kernel
theorem dX6_count_64 : decode cX6_count 64 = .ok (.goto 97, 3) := by decide +kernel
theorem dX6_count_67 : decode cX6_count 67 = .ok (.iload_n 1, 1) := by decide +kernel
theorem dX6_count_68 : decode cX6_count 68 = .ok (.iconst 4, 1) := by decide +kernel
theorem dX6_count_69 : decode cX6_count 69 = .ok (.if_icmp .ne 13, 3) := by decide +kernel
theorem dX6_count_72 : decode cX6_count 72 = .ok (.aload_n 0, 1) := by decide +kernel
theorem dX6_count_73 : decode cX6_count 73 = .ok (.getfield 22, 3) := by decide +kernel
theorem dX6_count_76 : decode cX6_count 76 = .ok (.bipush 9, 2) := by decide +kernel
theorem dX6_count_78 : decode cX6_count 78 = .ok (.iaload, 1) := by decide +kernel
theorem dX6_count_79 : decode cX6_count 79 = .ok (.goto 82, 3) := by decide +kernel
theorem dX6_count_82 : decode cX6_count 82 = .ok (.iload_n 1, 1) := by decide +kernel
theorem dX6_count_83 : decode cX6_count 83 = .ok (.iconst 5, 1) := by decide +kernel
theorem dX6_count_84 : decode cX6_count 84 = .ok (.if_icmp .ne 11, 3) := by decide +kernel
theorem dX6_count_87 : decode cX6_count 87 = .ok (.aload_n 0, 1) := by decide +kernel
theorem dX6_count_88 : decode cX6_count 88 = .ok (.iconst 0, 1) := by decide +kernel
theorem dX6_count_89 : decode cX6_count 89 = .ok (.invokevirtual 246, 3) := by decide +kernel
theorem dX6_count_92 : decode cX6_count 92 = .ok (.goto 69, 3) := by decide +kernel
theorem dX6_count_95 : decode cX6_count 95 = .ok (.iload_n 1, 1) := by decide +kernel
theorem dX6_count_96 : decode cX6_count 96 = .ok (.bipush 6, 2) := by decide +kernel
theorem dX6_count_98 : decode cX6_count 98 = .ok (.if_icmp .ne 10, 3) := by decide +kernel
theorem dX6_count_101 : decode cX6_count 101 = .ok (.aload_n 0, 1) := by decide +kernel
theorem dX6_count_102 : decode cX6_count 102 = .ok (.invokevirtual 249, 3) := by decide +kernel
theorem dX6_count_105 : decode cX6_count 105 = .ok (.goto 56, 3) := by decide +kernel
theorem dX6_count_108 : decode cX6_count 108 = .ok (.iload_n 1, 1) := by decide +kernel
theorem dX6_count_109 : decode cX6_count 109 = .ok (.bipush 7, 2) := by decide +kernel
theorem dX6_count_111 : decode cX6_count 111 = .ok (.if_icmp .ne 10, 3) := by decide +kernel
theorem dX6_count_114 : decode cX6_count 114 = .ok (.aload_n 0, 1) := by decide +kernel
theorem dX6_count_115 : decode cX6_count 115 = .ok (.getfield 129, 3) := by decide +kernel
theorem dX6_count_118 : decode cX6_count 118 = .ok (.goto 43, 3) := by decide +kernel
theorem dX6_count_121 : decode cX6_count 121 = .ok (.iload_n 1, 1) := by decide +kernel
theorem dX6_count_122 : decode cX6_count 122 = .ok (.bipush 8, 2) := by decide +kernel
theorem dX6_count_124 : decode cX6_count 124 = .ok (.if_icmp .ne 10, 3) := by decide +kernel
theorem dX6_count_127 : decode cX6_count 127 = .ok (.aload_n 0, 1) := by decide +kernel
theorem dX6_count_128 : decode cX6_count 128 = .ok (.getfield 123, 3) := by decide +kernel
theorem dX6_count_131 : decode cX6_count 131 = .ok (.goto 30, 3) := by decide +kernel
theorem dX6_count_134 : decode cX6_count 134 = .ok (.iload_n 1, 1) := by decide +kernel
theorem dX6_count_135 : decode cX6_count 135 = .ok (.bipush 9, 2) := by decide +kernel
theorem dX6_count_137 : decode cX6_count 137 = .ok (.if_icmp .ne 10, 3) := by decide +kernel
theorem dX6_count_140 : decode cX6_count 140 = .ok (.aload_n 0, 1) := by decide +kernel
theorem dX6_count_141 : decode cX6_count 141 = .ok (.getfield 126, 3) := by decide +kernel
theorem dX6_count_144 : decode cX6_count 144 = .ok (.goto 17, 3) := by decide +kernel
theorem dX6_count_147 : decode cX6_count 147 = .ok (.iload_n 1, 1) := by decide +kernel
theorem dX6_count_148 : decode cX6_count 148 = .ok (.bipush 10, 2) := by decide +kernel
theorem dX6_count_150 : decode cX6_count 150 = .ok (.if_icmp .ne 10, 3) := by decide +kernel
theorem dX6_count_153 : decode cX6_count 153 = .ok (.aload_n 0, 1) := by decide +kernel
theorem dX6_count_154 : decode cX6_count 154 = .ok (.getfield 83, 3) := by decide +kernel
theorem dX6_count_157 : decode cX6_count 157 = .ok (.goto 4, 3) := by decide +kernel
theorem dX6_count_160 : decode cX6_count 160 = .ok (.iconst (-1), 1) := by decide +kernel
theorem dX6_count_161 : decode cX6_count 161 = .ok (.ireturn, 1) := by decide +kernel
theorem dJ6_bitCount_0f7a4_0 : decode cJ6_bitCount_0f7a4 0 = .ok (.iload_n 0, 1) := by decide +kernel
theorem dJ6_bitCount_0f7a4_1 : decode cJ6_bitCount_0f7a4 1 = .ok (.iload_n 0, 1) := by decide +kernel
theorem dJ6_bitCount_0f7a4_2 : decode cJ6_bitCount_0f7a4 2 = .ok (.iconst 1, 1) := by decide +kernel
theorem dJ6_bitCount_0f7a4_3 : decode cJ6_bitCount_0f7a4 3 = .ok (.iushr, 1) := by decide +kernel
theorem dJ6_bitCount_0f7a4_4 : decode cJ6_bitCount_0f7a4 4 = .ok (.ldc_w 265, 3) := by decide +kernel
theorem dJ6_bitCount_0f7a4_7 : decode cJ6_bitCount_0f7a4 7 = .ok (.iand, 1) := by decide +kernel
theorem dJ6_bitCount_0f7a4_8 : decode cJ6_bitCount_0f7a4 8 = .ok (.isub, 1) := by decide +kernel
theorem dJ6_bitCount_0f7a4_9 : decode cJ6_bitCount_0f7a4 9 = .ok (.istore_n 0, 1) := by decide +kernel
theorem dJ6_bitCount_0f7a4_10 : decode cJ6_bitCount_0f7a4 10 = .ok (.iload_n 0, 1) := by decide +kernel
theorem dJ6_bitCount_0f7a4_11 : decode cJ6_bitCount_0f7a4 11 = .ok (.ldc_w 266, 3) := by decide +kernel
theorem dJ6_bitCount_0f7a4_14 : decode cJ6_bitCount_0f7a4 14 = .ok (.iand, 1) := by decide +kernel
theorem dJ6_bitCount_0f7a4_15 : decode cJ6_bitCount_0f7a4 15 = .ok (.iload_n 0, 1) := by decide +kernel
theorem dJ6_bitCount_0f7a4_16 : decode cJ6_bitCount_0f7a4 16 = .ok (.iconst 2, 1) := by decide +kernel
theorem dJ6_bitCount_0f7a4_17 : decode cJ6_bitCount_0f7a4 17 = .ok (.iushr, 1) := by decide +kernel
theorem dJ6_bitCount_0f7a4_18 : decode cJ6_bitCount_0f7a4 18 = .ok (.ldc_w 266, 3) := by decide +kernel
theorem dJ6_bitCount_0f7a4_21 : decode cJ6_bitCount_0f7a4 21 = .ok (.iand, 1) := by decide +kernel
theorem dJ6_bitCount_0f7a4_22 : decode cJ6_bitCount_0f7a4 22 = .ok (.iadd, 1) := by decide +kernel
theorem dJ6_bitCount_0f7a4_23 : decode cJ6_bitCount_0f7a4 23 = .ok (.istore_n 0, 1) := by decide +kernel
theorem dJ6_bitCount_0f7a4_24 : decode cJ6_bitCount_0f7a4 24 = .ok (.iload_n 0, 1) := by decide +kernel
theorem dJ6_bitCount_0f7a4_25 : decode cJ6_bitCount_0f7a4 25 = .ok (.iload_n 0, 1) := by decide +kernel
theorem dJ6_bitCount_0f7a4_26 : decode cJ6_bitCount_0f7a4 26 = .ok (.iconst 4, 1) := by decide +kernel
theorem dJ6_bitCount_0f7a4_27 : decode cJ6_bitCount_0f7a4 27 = .ok (.iushr, 1) := by decide +kernel
theorem dJ6_bitCount_0f7a4_28 : decode cJ6_bitCount_0f7a4 28 = .ok (.iadd, 1) := by decide +kernel
theorem dJ6_bitCount_0f7a4_29 : decode cJ6_bitCount_0f7a4 29 = .ok (.ldc_w 267, 3) := by decide +kernel
theorem dJ6_bitCount_0f7a4_32 : decode cJ6_bitCount_0f7a4 32 = .ok (.iand, 1) := by decide +kernel
theorem dJ6_bitCount_0f7a4_33 : decode cJ6_bitCount_0f7a4 33 = .ok (.istore_n 0, 1) := by decide +kernel
theorem dJ6_bitCount_0f7a4_34 : decode cJ6_bitCount_0f7a4 34 = .ok (.iload_n 0, 1) := by decide +kernel
theorem dJ6_bitCount_0f7a4_35 : decode cJ6_bitCount_0f7a4 35 = .ok (.iload_n 0, 1) := by decide +kernel
theorem dJ6_bitCount_0f7a4_36 : decode cJ6_bitCount_0f7a4 36 = .ok (.bipush 8, 2) := by decide +kernel
theorem dJ6_bitCount_0f7a4_38 : decode cJ6_bitCount_0f7a4 38 = .ok (.iushr, 1) := by decide +kernel
theorem dJ6_bitCount_0f7a4_39 : decode cJ6_bitCount_0f7a4 39 = .ok (.iadd, 1) := by decide +kernel
theorem dJ6_bitCount_0f7a4_40 : decode cJ6_bitCount_0f7a4 40 = .ok (.istore_n 0, 1) := by decide +kernel
theorem dJ6_bitCount_0f7a4_41 : decode cJ6_bitCount_0f7a4 41 = .ok (.iload_n 0, 1) := by decide +kernel
theorem dJ6_bitCount_0f7a4_42 : decode cJ6_bitCount_0f7a4 42 = .ok (.iload_n 0, 1) := by decide +kernel
theorem dJ6_bitCount_0f7a4_43 : decode cJ6_bitCount_0f7a4 43 = .ok (.bipush 16, 2) := by decide +kernel
theorem dJ6_bitCount_0f7a4_45 : decode cJ6_bitCount_0f7a4 45 = .ok (.iushr, 1) := by decide +kernel
theorem dJ6_bitCount_0f7a4_46 : decode cJ6_bitCount_0f7a4 46 = .ok (.iadd, 1) := by decide +kernel
theorem dJ6_bitCount_0f7a4_47 : decode cJ6_bitCount_0f7a4 47 = .ok (.istore_n 0, 1) := by decide +kernel
theorem dJ6_bitCount_0f7a4_48 : decode cJ6_bitCount_0f7a4 48 = .ok (.iload_n 0, 1) := by decide +kernel
theorem dJ6_bitCount_0f7a4_49 : decode cJ6_bitCount_0f7a4 49 = .ok (.bipush 63, 2) := by decide +kernel
theorem dJ6_bitCount_0f7a4_51 : decode cJ6_bitCount_0f7a4 51 = .ok (.iand, 1) := by decide +kernel
theorem dJ6_bitCount_0f7a4_52 : decode cJ6_bitCount_0f7a4 52 = .ok (.ireturn, 1) := by decide +kernel
theorem dJ9_max_7cf53_0 : decode cJ9_max_7cf53 0 = .ok (.iload_n 0, 1) := by decide +kernel
theorem dJ9_max_7cf53_1 : decode cJ9_max_7cf53 1 = .ok (.iload_n 1, 1) := by decide +kernel
theorem dJ9_max_7cf53_2 : decode cJ9_max_7cf53 2 = .ok (.if_icmp .lt 7, 3) := by decide +kernel
theorem dJ9_max_7cf53_5 : decode cJ9_max_7cf53 5 = .ok (.iload_n 0, 1) := by decide +kernel
theorem dJ9_max_7cf53_6 : decode cJ9_max_7cf53 6 = .ok (.goto 4, 3) := by decide +kernel
theorem dJ9_max_7cf53_9 : decode cJ9_max_7cf53 9 = .ok (.iload_n 1, 1) := by decide +kernel
theorem dJ9_max_7cf53_10 : decode cJ9_max_7cf53 10 = .ok (.ireturn, 1) := by decide +kernel
theorem dJ9_min_7cf53_0 : decode cJ9_min_7cf53 0 = .ok (.iload_n 0, 1) := by decide +kernel
theorem dJ9_min_7cf53_1 : decode cJ9_min_7cf53 1 = .ok (.iload_n 1, 1) := by decide +kernel
theorem dJ9_min_7cf53_2 : decode cJ9_min_7cf53 2 = .ok (.if_icmp .gt 7, 3) := by decide +kernel
theorem dJ9_min_7cf53_5 : decode cJ9_min_7cf53 5 = .ok (.iload_n 0, 1) := by decide +kernel
theorem dJ9_min_7cf53_6 : decode cJ9_min_7cf53 6 = .ok (.goto 4, 3) := by decide +kernel
theorem dJ9_min_7cf53_9 : decode cJ9_min_7cf53 9 = .ok (.iload_n 1, 1) := by decide +kernel
theorem dJ9_min_7cf53_10 : decode cJ9_min_7cf53 10 = .ok (.ireturn, 1) := by decide +kernel
theorem dJ0_length_8abf5_0 : decode cJ0_length_8abf5 0 = .ok (.aload_n 0, 1) := by decide +kernel
theorem dJ0_length_8abf5_1 : decode cJ0_length_8abf5 1 = .ok (.getfield 9, 3) := by decide +kernel
theorem dJ0_length_8abf5_4 : decode cJ0_length_8abf5 4 = .ok (.arraylength, 1) := by decide +kernel
theorem dJ0_length_8abf5_5 : decode cJ0_length_8abf5 5 = .ok (.aload_n 0, 1) := by decide +kernel
theorem dJ0_length_8abf5_6 : decode cJ0_length_8abf5 6 = .ok (.invokevirtual 335, 3) := by decide +kernel
theorem dJ0_length_8abf5_9 : decode cJ0_length_8abf5 9 = .ok (.ishr, 1) := by decide +kernel
theorem dJ0_length_8abf5_10 : decode cJ0_length_8abf5 10 = .ok (.ireturn, 1) := by decide +kernel
theorem dJ0_charAt_5068e_0 : decode cJ0_charAt_5068e 0 = .ok (.aload_n 0, 1) := by decide +kernel
theorem dJ0_charAt_5068e_1 : decode cJ0_charAt_5068e 1 = .ok (.invokevirtual 492, 3) := by decide +kernel
theorem dJ0_charAt_5068e_4 : decode cJ0_charAt_5068e 4 = .ok (.ifCond .eq 12, 3) := by decide +kernel
theorem dJ0_charAt_5068e_7 : decode cJ0_charAt_5068e 7 = .ok (.aload_n 0, 1) := by decide +kernel
theorem dJ0_charAt_5068e_8 : decode cJ0_charAt_5068e 8 = .ok (.getfield 9, 3) := by decide +kernel
theorem dJ0_charAt_5068e_11 : decode cJ0_charAt_5068e 11 = .ok (.iload_n 1, 1) := by decide +kernel
theorem dJ0_charAt_5068e_12 : decode cJ0_charAt_5068e 12 = .ok (.invokestatic 495, 3) := by decide +kernel
theorem dJ0_charAt_5068e_15 : decode cJ0_charAt_5068e 15 = .ok (.ireturn, 1) := by decide +kernel
theorem dJ0_charAt_5068e_16 : decode cJ0_charAt_5068e 16 = .ok (.aload_n 0, 1) := by decide +kernel
theorem dJ0_charAt_5068e_17 : decode cJ0_charAt_5068e 17 = .ok (.getfield 9, 3) := by decide +kernel
theorem dJ0_charAt_5068e_20 : decode cJ0_charAt_5068e 20 = .ok (.iload_n 1, 1) := by decide +kernel
theorem dJ0_charAt_5068e_21 : decode cJ0_charAt_5068e 21 = .ok (.invokestatic 498, 3) := by decide +kernel
theorem dJ0_charAt_5068e_24 : decode cJ0_charAt_5068e 24 = .ok (.ireturn, 1) := by decide +kernel
theorem dJ0_coder_7d493_0 : decode cJ0_coder_7d493 0 = .ok (.getstatic 38, 3) := by decide +kernel
theorem dJ0_coder_7d493_3 : decode cJ0_coder_7d493 3 = .ok (.ifCond .eq 10, 3) := by decide +kernel
theorem dJ0_coder_7d493_6 : decode cJ0_coder_7d493 6 = .ok (.aload_n 0, 1) := by decide +kernel
theorem dJ0_coder_7d493_7 : decode cJ0_coder_7d493 7 = .ok (.getfield 15, 3) := by decide +kernel
theorem dJ0_coder_7d493_10 : decode cJ0_coder_7d493 10 = .ok (.goto 4, 3) := by decide +kernel
theorem dJ0_coder_7d493_13 : decode cJ0_coder_7d493 13 = .ok (.iconst 1, 1) := by decide +kernel
theorem dJ0_coder_7d493_14 : decode cJ0_coder_7d493 14 = .ok (.ireturn, 1) := by decide +kernel
theorem dJ0_isLatin1_aae02_0 : decode cJ0_isLatin1_aae02 0 = .ok (.getstatic 38, 3) := by decide +kernel
theorem dJ0_isLatin1_aae02_3 : decode cJ0_isLatin1_aae02 3 = .ok (.ifCond .eq 14, 3) := by decide +kernel
theorem dJ0_isLatin1_aae02_6 : decode cJ0_isLatin1_aae02 6 = .ok (.aload_n 0, 1) := by decide +kernel
theorem dJ0_isLatin1_aae02_7 : decode cJ0_isLatin1_aae02 7 = .ok (.getfield 15, 3) := by decide +kernel
theorem dJ0_isLatin1_aae02_10 : decode cJ0_isLatin1_aae02 10 = .ok (.ifCond .ne 7, 3) := by decide +kernel
theorem dJ0_isLatin1_aae02_13 : decode cJ0_isLatin1_aae02 13 = .ok (.iconst 1, 1) := by decide +kernel
theorem dJ0_isLatin1_aae02_14 : decode cJ0_isLatin1_aae02 14 = .ok (.goto 4, 3) := by decide +kernel
theorem dJ0_isLatin1_aae02_17 : decode cJ0_isLatin1_aae02 17 = .ok (.iconst 0, 1) := by decide +kernel
theorem dJ0_isLatin1_aae02_18 : decode cJ0_isLatin1_aae02 18 = .ok (.ireturn, 1) := by decide +kernel
theorem dJ0_checkIndex_df160_0 : decode cJ0_checkIndex_df160 0 = .ok (.iload_n 0, 1) := by decide +kernel
