theorem dX6_reads_131 : decode cX6_reads 131 = .ok (.getfield 97, 3) := by decide +kernel
theorem dX6_reads_134 : decode cX6_reads 134 = .ok (.ifCond .ne 7, 3) := by decide +kernel
theorem dX6_reads_137 : decode cX6_reads 137 = .ok (.iconst 1, 1) := by decide +kernel
theorem dX6_reads_138 : decode cX6_reads 138 = .ok (.goto 4, 3) := by decide +kernel
theorem dX6_reads_141 : decode cX6_reads 141 = .ok (.iconst 0, 1) := by decide +kernel
theorem dX6_reads_142 : decode cX6_reads 142 = .ok (.ireturn, 1) := by decide +kernel
theorem dX6_fault_0 : decode cX6_fault 0 = .ok (.aload_n 0, 1) := by decide +kernel
theorem dX6_fault_1 : decode cX6_fault 1 = .ok (.invokevirtual 115, 3) := by decide +kernel
theorem dX6_fault_4 : decode cX6_fault 4 = .ok (.ifCond .eq 8, 3) := by decide +kernel
theorem dX6_fault_7 : decode cX6_fault 7 = .ok (.bipush (-4), 2) := by decide +kernel
theorem dX6_fault_9 : decode cX6_fault 9 = .ok (.goto 7, 3) := by decide +kernel
theorem dX6_fault_12 : decode cX6_fault 12 = .ok (.aload_n 0, 1) := by decide +kernel
theorem dX6_fault_13 : decode cX6_fault 13 = .ok (.getfield 108, 3) := by decide +kernel
theorem dX6_fault_16 : decode cX6_fault 16 = .ok (.ireturn, 1) := by decide +kernel
theorem dX6_lay_0 : decode cX6_lay 0 = .ok (.aload_n 0, 1) := by decide +kernel
theorem dX6_lay_1 : decode cX6_lay 1 = .ok (.invokevirtual 115, 3) := by decide +kernel
theorem dX6_lay_4 : decode cX6_lay 4 = .ok (.ifCond .eq 10, 3) := by decide +kernel
theorem dX6_lay_7 : decode cX6_lay 7 = .ok (.aload_n 0, 1) := by decide +kernel
theorem dX6_lay_8 : decode cX6_lay 8 = .ok (.getfield 62, 3) := by decide +kernel
theorem dX6_lay_11 : decode cX6_lay 11 = .ok (.ifCond .ne 6, 3) := by decide +kernel
theorem dX6_lay_14 : decode cX6_lay 14 = .ok (.bipush (-2), 2) := by decide +kernel
theorem dX6_lay_16 : decode cX6_lay 16 = .ok (.ireturn, 1) := by decide +kernel
theorem dX6_lay_17 : decode cX6_lay 17 = .ok (.aload_n 0, 1) := by decide +kernel
theorem dX6_lay_18 : decode cX6_lay 18 = .ok (.invokevirtual 59, 3) := by decide +kernel
theorem dX6_lay_21 : decode cX6_lay 21 = .ok (.aload_n 0, 1) := by decide +kernel
theorem dX6_lay_22 : decode cX6_lay 22 = .ok (.sipush 902, 3) := by decide +kernel
theorem dX6_lay_25 : decode cX6_lay 25 = .ok (.iconst 0, 1) := by decide +kernel
theorem dX6_lay_26 : decode cX6_lay 26 = .ok (.invokevirtual 119, 3) := by decide +kernel
theorem dX6_lay_29 : decode cX6_lay 29 = .ok (.aload_n 0, 1) := by decide +kernel
theorem dX6_lay_30 : decode cX6_lay 30 = .ok (.iconst 0, 1) := by decide +kernel
theorem dX6_lay_31 : decode cX6_lay 31 = .ok (.putfield 123, 3) := by decide +kernel
theorem dX6_lay_34 : decode cX6_lay 34 = .ok (.aload_n 0, 1) := by decide +kernel
theorem dX6_lay_35 : decode cX6_lay 35 = .ok (.iconst 0, 1) := by decide +kernel
theorem dX6_lay_36 : decode cX6_lay 36 = .ok (.putfield 126, 3) := by decide +kernel
theorem dX6_lay_39 : decode cX6_lay 39 = .ok (.aload_n 0, 1) := by decide +kernel
theorem dX6_lay_40 : decode cX6_lay 40 = .ok (.iconst 0, 1) := by decide +kernel
theorem dX6_lay_41 : decode cX6_lay 41 = .ok (.putfield 129, 3) := by decide +kernel
theorem dX6_lay_44 : decode cX6_lay 44 = .ok (.aload_n 0, 1) := by decide +kernel
theorem dX6_lay_45 : decode cX6_lay 45 = .ok (.getfield 65, 3) := by decide +kernel
theorem dX6_lay_48 : decode cX6_lay 48 = .ok (.ireturn, 1) := by decide +kernel
theorem dX6_isAlive_0 : decode cX6_isAlive 0 = .ok (.aload_n 0, 1) := by decide +kernel
theorem dX6_isAlive_1 : decode cX6_isAlive 1 = .ok (.getfield 22, 3) := by decide +kernel
theorem dX6_isAlive_4 : decode cX6_isAlive 4 = .ok (.iload_n 1, 1) := by decide +kernel
theorem dX6_isAlive_5 : decode cX6_isAlive 5 = .ok (.bipush 6, 2) := by decide +kernel
theorem dX6_isAlive_7 : decode cX6_isAlive 7 = .ok (.iadd, 1) := by decide +kernel
theorem dX6_isAlive_8 : decode cX6_isAlive 8 = .ok (.iaload, 1) := by decide +kernel
theorem dX6_isAlive_9 : decode cX6_isAlive 9 = .ok (.iload_n 2, 1) := by decide +kernel
theorem dX6_isAlive_10 : decode cX6_isAlive 10 = .ok (.invokestatic 132, 3) := by decide +kernel
theorem dX6_isAlive_13 : decode cX6_isAlive 13 = .ok (.ifCond .ne 7, 3) := by decide +kernel
theorem dX6_isAlive_16 : decode cX6_isAlive 16 = .ok (.iconst 1, 1) := by decide +kernel
theorem dX6_isAlive_17 : decode cX6_isAlive 17 = .ok (.goto 4, 3) := by decide +kernel
theorem dX6_isAlive_20 : decode cX6_isAlive 20 = .ok (.iconst 0, 1) := by decide +kernel
theorem dX6_isAlive_21 : decode cX6_isAlive 21 = .ok (.ireturn, 1) := by decide +kernel
theorem dX6_ageOf_0 : decode cX6_ageOf 0 = .ok (.aload_n 0, 1) := by decide +kernel
theorem dX6_ageOf_1 : decode cX6_ageOf 1 = .ok (.getfield 13, 3) := by decide +kernel
theorem dX6_ageOf_4 : decode cX6_ageOf 4 = .ok (.iload_n 2, 1) := by decide +kernel
theorem dX6_ageOf_5 : decode cX6_ageOf 5 = .ok (.iaload, 1) := by decide +kernel
theorem dX6_ageOf_6 : decode cX6_ageOf 6 = .ok (.aload_n 0, 1) := by decide +kernel
theorem dX6_ageOf_7 : decode cX6_ageOf 7 = .ok (.getfield 22, 3) := by decide +kernel
theorem dX6_ageOf_10 : decode cX6_ageOf 10 = .ok (.iload_n 1, 1) := by decide +kernel
theorem dX6_ageOf_11 : decode cX6_ageOf 11 = .ok (.bipush 8, 2) := by decide +kernel
theorem dX6_ageOf_13 : decode cX6_ageOf 13 = .ok (.iadd, 1) := by decide +kernel
theorem dX6_ageOf_14 : decode cX6_ageOf 14 = .ok (.iaload, 1) := by decide +kernel
theorem dX6_ageOf_15 : decode cX6_ageOf 15 = .ok (.bipush 30, 2) := by decide +kernel
theorem dX6_ageOf_17 : decode cX6_ageOf 17 = .ok (.idiv, 1) := by decide +kernel
theorem dX6_ageOf_18 : decode cX6_ageOf 18 = .ok (.iadd, 1) := by decide +kernel
theorem dX6_ageOf_19 : decode cX6_ageOf 19 = .ok (.ireturn, 1) := by decide +kernel
theorem dX6_heir_0 : decode cX6_heir 0 = .ok (.bipush (-4), 2) := by decide +kernel
theorem dX6_heir_2 : decode cX6_heir 2 = .ok (.istore_n 3, 1) := by decide +kernel
theorem dX6_heir_3 : decode cX6_heir 3 = .ok (.iconst 0, 1) := by decide +kernel
theorem dX6_heir_4 : decode cX6_heir 4 = .ok (.istore 4, 2) := by decide +kernel
theorem dX6_heir_6 : decode cX6_heir 6 = .ok (.iload 4, 2) := by decide +kernel
theorem dX6_heir_8 : decode cX6_heir 8 = .ok (.aload_n 0, 1) := by decide +kernel
theorem dX6_heir_9 : decode cX6_heir 9 = .ok (.getfield 65, 3) := by decide +kernel
theorem dX6_heir_12 : decode cX6_heir 12 = .ok (.if_icmp .ge 84, 3) := by decide +kernel
theorem dX6_heir_15 : decode cX6_heir 15 = .ok (.iload 4, 2) := by decide +kernel
theorem dX6_heir_17 : decode cX6_heir 17 = .ok (.iload_n 2, 1) := by decide +kernel
theorem dX6_heir_18 : decode cX6_heir 18 = .ok (.if_icmp .eq 57, 3) := by decide +kernel
theorem dX6_heir_21 : decode cX6_heir 21 = .ok (.aload_n 0, 1) := by decide +kernel
theorem dX6_heir_22 : decode cX6_heir 22 = .ok (.iload_n 1, 1) := by decide +kernel
theorem dX6_heir_23 : decode cX6_heir 23 = .ok (.iload 4, 2) := by decide +kernel
theorem dX6_heir_25 : decode cX6_heir 25 = .ok (.invokevirtual 136, 3) := by decide +kernel
theorem dX6_heir_28 : decode cX6_heir 28 = .ok (.ifCond .eq 47, 3) := by decide +kernel
theorem dX6_heir_31 : decode cX6_heir 31 = .ok (.iload_n 3, 1) := by decide +kernel
theorem dX6_heir_32 : decode cX6_heir 32 = .ok (.ifCond .lt 39, 3) := by decide +kernel
theorem dX6_heir_35 : decode cX6_heir 35 = .ok (.aload_n 0, 1) := by decide +kernel
theorem dX6_heir_36 : decode cX6_heir 36 = .ok (.getfield 22, 3) := by decide +kernel
theorem dX6_heir_39 : decode cX6_heir 39 = .ok (.iload_n 1, 1) := by decide +kernel
theorem dX6_heir_40 : decode cX6_heir 40 = .ok (.bipush 10, 2) := by decide +kernel
theorem dX6_heir_42 : decode cX6_heir 42 = .ok (.iadd, 1) := by decide +kernel
theorem dX6_heir_43 : decode cX6_heir 43 = .ok (.bipush 6, 2) := by decide +kernel
theorem dX6_heir_45 : decode cX6_heir 45 = .ok (.iload_n 2, 1) := by decide +kernel
theorem dX6_heir_46 : decode cX6_heir 46 = .ok (.imul, 1) := by decide +kernel
theorem dX6_heir_47 : decode cX6_heir 47 = .ok (.iadd, 1) := by decide +kernel
theorem dX6_heir_48 : decode cX6_heir 48 = .ok (.iload 4, 2) := by decide +kernel
theorem dX6_heir_50 : decode cX6_heir 50 = .ok (.iadd, 1) := by decide +kernel
theorem dX6_heir_51 : decode cX6_heir 51 = .ok (.iaload, 1) := by decide +kernel
theorem dX6_heir_52 : decode cX6_heir 52 = .ok (.aload_n 0, 1) := by decide +kernel
theorem dX6_heir_53 : decode cX6_heir 53 = .ok (.getfield 22, 3) := by decide +kernel
theorem dX6_heir_56 : decode cX6_heir 56 = .ok (.iload_n 1, 1) := by decide +kernel
theorem dX6_heir_57 : decode cX6_heir 57 = .ok (.bipush 10, 2) := by decide +kernel
theorem dX6_heir_59 : decode cX6_heir 59 = .ok (.iadd, 1) := by decide +kernel
theorem dX6_heir_60 : decode cX6_heir 60 = .ok (.bipush 6, 2) := by decide +kernel
theorem dX6_heir_62 : decode cX6_heir 62 = .ok (.iload_n 2, 1) := by decide +kernel
theorem dX6_heir_63 : decode cX6_heir 63 = .ok (.imul, 1) := by decide +kernel
theorem dX6_heir_64 : decode cX6_heir 64 = .ok (.iadd, 1) := by decide +kernel
theorem dX6_heir_65 : decode cX6_heir 65 = .ok (.iload_n 3, 1) := by decide +kernel
theorem dX6_heir_66 : decode cX6_heir 66 = .ok (.iadd, 1) := by decide +kernel
theorem dX6_heir_67 : decode cX6_heir 67 = .ok (.iaload, 1) := by decide +kernel
theorem dX6_heir_68 : decode cX6_heir 68 = .ok (.if_icmp .le 7, 3) := by decide +kernel
theorem dX6_heir_71 : decode cX6_heir 71 = .ok (.iconst 1, 1) := by decide +kernel
theorem dX6_heir_72 : decode cX6_heir 72 = .ok (.goto 4, 3) := by decide +kernel
theorem dX6_heir_75 : decode cX6_heir 75 = .ok (.iconst 0, 1) := by decide +kernel
theorem dX6_heir_76 : decode cX6_heir 76 = .ok (.istore 5, 2) := by decide +kernel
theorem dX6_heir_78 : decode cX6_heir 78 = .ok (.iload 5, 2) := by decide +kernel
theorem dX6_heir_80 : decode cX6_heir 80 = .ok (.ifCond .eq 8, 3) := by decide +kernel
theorem dX6_heir_83 : decode cX6_heir 83 = .ok (.iload 4, 2) := by decide +kernel
theorem dX6_heir_85 : decode cX6_heir 85 = .ok (.goto 4, 3) := by decide +kernel
theorem dX6_heir_88 : decode cX6_heir 88 = .ok (.iload_n 3, 1) := by decide +kernel
theorem dX6_heir_89 : decode cX6_heir 89 = .ok (.istore_n 3, 1) := by decide +kernel
theorem dX6_heir_90 : decode cX6_heir 90 = .ok (.iinc 4 1, 3) := by decide +kernel
theorem dX6_heir_93 : decode cX6_heir 93 = .ok (.goto (-87), 3) := by decide +kernel
theorem dX6_heir_96 : decode cX6_heir 96 = .ok (.iload_n 3, 1) := by decide +kernel
theorem dX6_heir_97 : decode cX6_heir 97 = .ok (.ireturn, 1) := by decide +kernel
theorem dX6_person_0 : decode cX6_person 0 = .ok (.aload_n 0, 1) := by decide +kernel
theorem dX6_person_1 : decode cX6_person 1 = .ok (.iload_n 1, 1) := by decide +kernel
theorem dX6_person_2 : decode cX6_person 2 = .ok (.invokevirtual 75, 3) := by decide +kernel
theorem dX6_person_5 : decode cX6_person 5 = .ok (.ifCond .eq 15, 3) := by decide +kernel
theorem dX6_person_8 : decode cX6_person 8 = .ok (.iload_n 2, 1) := by decide +kernel
theorem dX6_person_9 : decode cX6_person 9 = .ok (.i2l, 1) := by decide +kernel
theorem dX6_person_10 : decode cX6_person 10 = .ok (.lconst 0, 1) := by decide +kernel
theorem dX6_person_11 : decode cX6_person 11 = .ok (.ldc2_w 139, 3) := by decide +kernel
theorem dX6_person_14 : decode cX6_person 14 = .ok (.invokestatic 71, 3) := by decide +kernel
theorem dX6_person_17 : decode cX6_person 17 = .ok (.ifCond .ne 5, 3) := by decide +kernel
theorem dX6_person_20 : decode cX6_person 20 = .ok (.iconst (-1), 1) := by decide +kernel
theorem dX6_person_21 : decode cX6_person 21 = .ok (.ireturn, 1) := by decide +kernel
theorem dX6_person_22 : decode cX6_person 22 = .ok (.iload_n 2, 1) := by decide +kernel
theorem dX6_person_23 : decode cX6_person 23 = .ok (.ifCond .ne 12, 3) := by decide +kernel
theorem dX6_person_26 : decode cX6_person 26 = .ok (.aload_n 0, 1) := by decide +kernel
theorem dX6_person_27 : decode cX6_person 27 = .ok (.getfield 7, 3) := by decide +kernel
theorem dX6_person_30 : decode cX6_person 30 = .ok (.iload_n 1, 1) := by decide +kernel
theorem dX6_person_31 : decode cX6_person 31 = .ok (.iaload, 1) := by decide +kernel
theorem dX6_person_32 : decode cX6_person 32 = .ok (.goto 89, 3) := by decide +kernel
theorem dX6_person_35 : decode cX6_person 35 = .ok (.iload_n 2, 1) := by decide +kernel
theorem dX6_person_36 : decode cX6_person 36 = .ok (.iconst 1, 1) := by decide +kernel
theorem dX6_person_37 : decode cX6_person 37 = .ok (.if_icmp .ne 12, 3) := by decide +kernel
theorem dX6_person_40 : decode cX6_person 40 = .ok (.aload_n 0, 1) := by decide +kernel
theorem dX6_person_41 : decode cX6_person 41 = .ok (.iconst 0, 1) := by decide +kernel
theorem dX6_person_42 : decode cX6_person 42 = .ok (.iload_n 1, 1) := by decide +kernel
theorem dX6_person_43 : decode cX6_person 43 = .ok (.invokevirtual 141, 3) := by decide +kernel
theorem dX6_person_46 : decode cX6_person 46 = .ok (.goto 75, 3) := by decide +kernel
theorem dX6_person_49 : decode cX6_person 49 = .ok (.iload_n 2, 1) := by decide +kernel
theorem dX6_person_50 : decode cX6_person 50 = .ok (.iconst 2, 1) := by decide +kernel
theorem dX6_person_51 : decode cX6_person 51 = .ok (.if_icmp .ne 12, 3) := by decide +kernel
theorem dX6_person_54 : decode cX6_person 54 = .ok (.aload_n 0, 1) := by decide +kernel
theorem dX6_person_55 : decode cX6_person 55 = .ok (.getfield 22, 3) := by decide +kernel
theorem dX6_person_58 : decode cX6_person 58 = .ok (.iload_n 1, 1) := by decide +kernel
theorem dX6_person_59 : decode cX6_person 59 = .ok (.iaload, 1) := by decide +kernel
theorem dX6_person_60 : decode cX6_person 60 = .ok (.goto 61, 3) := by decide +kernel
theorem dX6_person_63 : decode cX6_person 63 = .ok (.iload_n 2, 1) := by decide +kernel
theorem dX6_person_64 : decode cX6_person 64 = .ok (.iconst 3, 1) := by decide +kernel
theorem dX6_person_65 : decode cX6_person 65 = .ok (.if_icmp .ne 17, 3) := by decide +kernel
theorem dX6_person_68 : decode cX6_person 68 = .ok (.aload_n 0, 1) := by decide +kernel
theorem dX6_person_69 : decode cX6_person 69 = .ok (.getfield 22, 3) := by decide +kernel
theorem dX6_person_72 : decode cX6_person 72 = .ok (.bipush 6, 2) := by decide +kernel
theorem dX6_person_74 : decode cX6_person 74 = .ok (.iaload, 1) := by decide +kernel
theorem dX6_person_75 : decode cX6_person 75 = .ok (.iload_n 1, 1) := by decide +kernel
theorem dX6_person_76 : decode cX6_person 76 = .ok (.ishr, 1) := by decide +kernel
theorem dX6_person_77 : decode cX6_person 77 = .ok (.iconst 1, 1) := by decide +kernel
theorem dX6_person_78 : decode cX6_person 78 = .ok (.iand, 1) := by decide +kernel
theorem dX6_person_79 : decode cX6_person 79 = .ok (.goto 42, 3) := by decide +kernel
theorem dX6_person_82 : decode cX6_person 82 = .ok (.iload_n 2, 1) := by decide +kernel
theorem dX6_person_83 : decode cX6_person 83 = .ok (.iconst 4, 1) := by decide +kernel
theorem dX6_person_84 : decode cX6_person 84 = .ok (.if_icmp .ne 17, 3) := by decide +kernel
theorem dX6_person_87 : decode cX6_person 87 = .ok (.aload_n 0, 1) := by decide +kernel
theorem dX6_person_88 : decode cX6_person 88 = .ok (.getfield 22, 3) := by decide +kernel
theorem dX6_person_91 : decode cX6_person 91 = .ok (.bipush 7, 2) := by decide +kernel
theorem dX6_person_93 : decode cX6_person 93 = .ok (.iaload, 1) := by decide +kernel
theorem dX6_person_94 : decode cX6_person 94 = .ok (.iload_n 1, 1) := by decide +kernel
theorem dX6_person_95 : decode cX6_person 95 = .ok (.ishr, 1) := by decide +kernel
theorem dX6_person_96 : decode cX6_person 96 = .ok (.iconst 1, 1) := by decide +kernel
theorem dX6_person_97 : decode cX6_person 97 = .ok (.iand, 1) := by decide +kernel
theorem dX6_person_98 : decode cX6_person 98 = .ok (.goto 23, 3) := by decide +kernel
theorem dX6_person_101 : decode cX6_person 101 = .ok (.aload_n 0, 1) := by decide +kernel
theorem dX6_person_102 : decode cX6_person 102 = .ok (.iconst 0, 1) := by decide +kernel
theorem dX6_person_103 : decode cX6_person 103 = .ok (.iload_n 1, 1) := by decide +kernel
theorem dX6_person_104 : decode cX6_person 104 = .ok (.invokevirtual 136, 3) := by decide +kernel
theorem dX6_person_107 : decode cX6_person 107 = .ok (.ifCond .eq 12, 3) := by decide +kernel
theorem dX6_person_110 : decode cX6_person 110 = .ok (.aload_n 0, 1) := by decide +kernel
theorem dX6_person_111 : decode cX6_person 111 = .ok (.iconst 0, 1) := by decide +kernel
theorem dX6_person_112 : decode cX6_person 112 = .ok (.iload_n 1, 1) := by decide +kernel
theorem dX6_person_113 : decode cX6_person 113 = .ok (.invokevirtual 144, 3) := by decide +kernel
theorem dX6_person_116 : decode cX6_person 116 = .ok (.goto 5, 3) := by decide +kernel
theorem dX6_person_119 : decode cX6_person 119 = .ok (.bipush (-4), 2) := by decide +kernel
theorem dX6_person_121 : decode cX6_person 121 = .ok (.ireturn, 1) := by decide +kernel
theorem dX6_tie_0 : decode cX6_tie 0 = .ok (.aload_n 0, 1) := by decide +kernel
theorem dX6_tie_1 : decode cX6_tie 1 = .ok (.iload_n 1, 1) := by decide +kernel
theorem dX6_tie_2 : decode cX6_tie 2 = .ok (.iload_n 2, 1) := by decide +kernel
theorem dX6_tie_3 : decode cX6_tie 3 = .ok (.invokevirtual 147, 3) := by decide +kernel
theorem dX6_tie_6 : decode cX6_tie 6 = .ok (.ifCond .eq 22, 3) := by decide +kernel
theorem dX6_tie_9 : decode cX6_tie 9 = .ok (.aload_n 0, 1) := by decide +kernel
theorem dX6_tie_10 : decode cX6_tie 10 = .ok (.getfield 22, 3) := by decide +kernel
theorem dX6_tie_13 : decode cX6_tie 13 = .ok (.bipush 10, 2) := by decide +kernel
theorem dX6_tie_15 : decode cX6_tie 15 = .ok (.bipush 6, 2) := by decide +kernel
theorem dX6_tie_17 : decode cX6_tie 17 = .ok (.iload_n 1, 1) := by decide +kernel
theorem dX6_tie_18 : decode cX6_tie 18 = .ok (.imul, 1) := by decide +kernel
theorem dX6_tie_19 : decode cX6_tie 19 = .ok (.iadd, 1) := by decide +kernel
theorem dX6_tie_20 : decode cX6_tie 20 = .ok (.iload_n 2, 1) := by decide +kernel
theorem dX6_tie_21 : decode cX6_tie 21 = .ok (.iadd, 1) := by decide +kernel
theorem dX6_tie_22 : decode cX6_tie 22 = .ok (.iaload, 1) := by decide +kernel
theorem dX6_tie_23 : decode cX6_tie 23 = .ok (.iconst 4, 1) := by decide +kernel
theorem dX6_tie_24 : decode cX6_tie 24 = .ok (.iadd, 1) := by decide +kernel
theorem dX6_tie_25 : decode cX6_tie 25 = .ok (.goto 4, 3) := by decide +kernel
theorem dX6_tie_28 : decode cX6_tie 28 = .ok (.iconst (-1), 1) := by decide +kernel
theorem dX6_tie_29 : decode cX6_tie 29 = .ok (.ireturn, 1) := by decide +kernel
theorem dX6_owes_0 : decode cX6_owes 0 = .ok (.aload_n 0, 1) := by decide +kernel
theorem dX6_owes_1 : decode cX6_owes 1 = .ok (.iload_n 1, 1) := by decide +kernel
theorem dX6_owes_2 : decode cX6_owes 2 = .ok (.iload_n 2, 1) := by decide +kernel
theorem dX6_owes_3 : decode cX6_owes 3 = .ok (.invokevirtual 147, 3) := by decide +kernel
theorem dX6_owes_6 : decode cX6_owes 6 = .ok (.ifCond .eq 20, 3) := by decide +kernel
theorem dX6_owes_9 : decode cX6_owes 9 = .ok (.aload_n 0, 1) := by decide +kernel
theorem dX6_owes_10 : decode cX6_owes 10 = .ok (.getfield 22, 3) := by decide +kernel
theorem dX6_owes_13 : decode cX6_owes 13 = .ok (.bipush 46, 2) := by decide +kernel
theorem dX6_owes_15 : decode cX6_owes 15 = .ok (.bipush 6, 2) := by decide +kernel
theorem dX6_owes_17 : decode cX6_owes 17 = .ok (.iload_n 1, 1) := by decide +kernel
theorem dX6_owes_18 : decode cX6_owes 18 = .ok (.imul, 1) := by decide +kernel
theorem dX6_owes_19 : decode cX6_owes 19 = .ok (.iadd, 1) := by decide +kernel
theorem dX6_owes_20 : decode cX6_owes 20 = .ok (.iload_n 2, 1) := by decide +kernel
theorem dX6_owes_21 : decode cX6_owes 21 = .ok (.iadd, 1) := by decide +kernel
theorem dX6_owes_22 : decode cX6_owes 22 = .ok (.iaload, 1) := by decide +kernel
theorem dX6_owes_23 : decode cX6_owes 23 = .ok (.goto 4, 3) := by decide +kernel
theorem dX6_owes_26 : decode cX6_owes 26 = .ok (.iconst (-1), 1) := by decide +kernel
theorem dX6_owes_27 : decode cX6_owes 27 = .ok (.ireturn, 1) := by decide +kernel
theorem dX6_likes_0 : decode cX6_likes 0 = .ok (.iload 5, 2) := by decide +kernel
theorem dX6_likes_2 : decode cX6_likes 2 = .ok (.iload 6, 2) := by decide +kernel
theorem dX6_likes_4 : decode cX6_likes 4 = .ok (.iadd, 1) := by decide +kernel
theorem dX6_likes_5 : decode cX6_likes 5 = .ok (.iconst 2, 1) := by decide +kernel
theorem dX6_likes_6 : decode cX6_likes 6 = .ok (.if_icmp .lt 7, 3) := by decide +kernel
theorem dX6_likes_9 : decode cX6_likes 9 = .ok (.iconst 1, 1) := by decide +kernel
theorem dX6_likes_10 : decode cX6_likes 10 = .ok (.goto 4, 3) := by decide +kernel
theorem dX6_likes_13 : decode cX6_likes 13 = .ok (.iconst 0, 1) := by decide +kernel
theorem dX6_likes_14 : decode cX6_likes 14 = .ok (.istore 8, 2) := by decide +kernel
theorem dX6_likes_16 : decode cX6_likes 16 = .ok (.iload 4, 2) := by decide +kernel
theorem dX6_likes_18 : decode cX6_likes 18 = .ok (.iconst 1, 1) := by decide +kernel
theorem dX6_likes_19 : decode cX6_likes 19 = .ok (.if_icmp .ne 25, 3) := by decide +kernel
theorem dX6_likes_22 : decode cX6_likes 22 = .ok (.iload 5, 2) := by decide +kernel
theorem dX6_likes_24 : decode cX6_likes 24 = .ok (.ifCond .lt 12, 3) := by decide +kernel
theorem dX6_likes_27 : decode cX6_likes 27 = .ok (.iload 5, 2) := by decide +kernel
theorem dX6_likes_29 : decode cX6_likes 29 = .ok (.iload 6, 2) := by decide +kernel
theorem dX6_likes_31 : decode cX6_likes 31 = .ok (.iadd, 1) := by decide +kernel
theorem dX6_likes_32 : decode cX6_likes 32 = .ok (.iconst 4, 1) := by decide +kernel
theorem dX6_likes_33 : decode cX6_likes 33 = .ok (.if_icmp .lt 7, 3) := by decide +kernel
theorem dX6_likes_36 : decode cX6_likes 36 = .ok (.iconst 1, 1) := by decide +kernel
theorem dX6_likes_37 : decode cX6_likes 37 = .ok (.goto 106, 3) := by decide +kernel
theorem dX6_likes_40 : decode cX6_likes 40 = .ok (.iconst 0, 1) := by decide +kernel
theorem dX6_likes_41 : decode cX6_likes 41 = .ok (.goto 102, 3) := by decide +kernel
theorem dX6_likes_44 : decode cX6_likes 44 = .ok (.iload 4, 2) := by decide +kernel
theorem dX6_likes_46 : decode cX6_likes 46 = .ok (.iconst 2, 1) := by decide +kernel
theorem dX6_likes_47 : decode cX6_likes 47 = .ok (.if_icmp .ne 21, 3) := by decide +kernel
theorem dX6_likes_50 : decode cX6_likes 50 = .ok (.iload 7, 2) := by decide +kernel
theorem dX6_likes_52 : decode cX6_likes 52 = .ok (.ifCond .gt 8, 3) := by decide +kernel
theorem dX6_likes_55 : decode cX6_likes 55 = .ok (.iload 8, 2) := by decide +kernel
theorem dX6_likes_57 : decode cX6_likes 57 = .ok (.ifCond .eq 7, 3) := by decide +kernel
theorem dX6_likes_60 : decode cX6_likes 60 = .ok (.iconst 1, 1) := by decide +kernel
theorem dX6_likes_61 : decode cX6_likes 61 = .ok (.goto 82, 3) := by decide +kernel
theorem dX6_likes_64 : decode cX6_likes 64 = .ok (.iconst 0, 1) := by decide +kernel
theorem dX6_likes_65 : decode cX6_likes 65 = .ok (.goto 78, 3) := by decide +kernel
theorem dX6_likes_68 : decode cX6_likes 68 = .ok (.iload 4, 2) := by decide +kernel
theorem dX6_likes_70 : decode cX6_likes 70 = .ok (.iconst 3, 1) := by decide +kernel
theorem dX6_likes_71 : decode cX6_likes 71 = .ok (.if_icmp .ne 28, 3) := by decide +kernel
theorem dX6_likes_74 : decode cX6_likes 74 = .ok (.iload 8, 2) := by decide +kernel
theorem dX6_likes_76 : decode cX6_likes 76 = .ok (.ifCond .eq 19, 3) := by decide +kernel
theorem dX6_likes_79 : decode cX6_likes 79 = .ok (.aload_n 0, 1) := by decide +kernel
theorem dX6_likes_80 : decode cX6_likes 80 = .ok (.getfield 22, 3) := by decide +kernel
theorem dX6_likes_83 : decode cX6_likes 83 = .ok (.iload_n 1, 1) := by decide +kernel
theorem dX6_likes_84 : decode cX6_likes 84 = .ok (.bipush 9, 2) := by decide +kernel
theorem dX6_likes_86 : decode cX6_likes 86 = .ok (.iadd, 1) := by decide +kernel
theorem dX6_likes_87 : decode cX6_likes 87 = .ok (.iaload, 1) := by decide +kernel
theorem dX6_likes_88 : decode cX6_likes 88 = .ok (.ifCond .ne 7, 3) := by decide +kernel
theorem dX6_likes_91 : decode cX6_likes 91 = .ok (.iconst 1, 1) := by decide +kernel
theorem dX6_likes_92 : decode cX6_likes 92 = .ok (.goto 51, 3) := by decide +kernel
theorem dX6_likes_95 : decode cX6_likes 95 = .ok (.iconst 0, 1) := by decide +kernel
theorem dX6_likes_96 : decode cX6_likes 96 = .ok (.goto 47, 3) := by decide +kernel
theorem dX6_likes_99 : decode cX6_likes 99 = .ok (.iload 4, 2) := by decide +kernel
theorem dX6_likes_101 : decode cX6_likes 101 = .ok (.iconst 4, 1) := by decide +kernel
theorem dX6_likes_102 : decode cX6_likes 102 = .ok (.if_icmp .ne 39, 3) := by decide +kernel
theorem dX6_likes_105 : decode cX6_likes 105 = .ok (.aload_n 0, 1) := by decide +kernel
theorem dX6_likes_106 : decode cX6_likes 106 = .ok (.getfield 22, 3) := by decide +kernel
theorem dX6_likes_109 : decode cX6_likes 109 = .ok (.iload_n 1, 1) := by decide +kernel
theorem dX6_likes_110 : decode cX6_likes 110 = .ok (.bipush 46, 2) := by decide +kernel
theorem dX6_likes_112 : decode cX6_likes 112 = .ok (.iadd, 1) := by decide +kernel
theorem dX6_likes_113 : decode cX6_likes 113 = .ok (.bipush 6, 2) := by decide +kernel
theorem dX6_likes_115 : decode cX6_likes 115 = .ok (.iload_n 2, 1) := by decide +kernel
theorem dX6_likes_116 : decode cX6_likes 116 = .ok (.imul, 1) := by decide +kernel
theorem dX6_likes_117 : decode cX6_likes 117 = .ok (.iadd, 1) := by decide +kernel
theorem dX6_likes_118 : decode cX6_likes 118 = .ok (.iload_n 3, 1) := by decide +kernel
theorem dX6_likes_119 : decode cX6_likes 119 = .ok (.iadd, 1) := by decide +kernel
theorem dX6_likes_120 : decode cX6_likes 120 = .ok (.iaload, 1) := by decide +kernel
theorem dX6_likes_121 : decode cX6_likes 121 = .ok (.ifCond .ne 16, 3) := by decide +kernel
theorem dX6_likes_124 : decode cX6_likes 124 = .ok (.iload 5, 2) := by decide +kernel
theorem dX6_likes_126 : decode cX6_likes 126 = .ok (.iload 6, 2) := by decide +kernel
theorem dX6_likes_128 : decode cX6_likes 128 = .ok (.iadd, 1) := by decide +kernel
theorem dX6_likes_129 : decode cX6_likes 129 = .ok (.iconst 1, 1) := by decide +kernel
theorem dX6_likes_130 : decode cX6_likes 130 = .ok (.if_icmp .lt 7, 3) := by decide +kernel
theorem dX6_likes_133 : decode cX6_likes 133 = .ok (.iconst 1, 1) := by decide +kernel
theorem dX6_likes_134 : decode cX6_likes 134 = .ok (.goto 9, 3) := by decide +kernel
theorem dX6_likes_137 : decode cX6_likes 137 = .ok (.iconst 0, 1) := by decide +kernel
theorem dX6_likes_138 : decode cX6_likes 138 = .ok (.goto 5, 3) := by decide +kernel
theorem dX6_likes_141 : decode cX6_likes 141 = .ok (.iload 8, 2) := by decide +kernel
theorem dX6_likes_143 : decode cX6_likes 143 = .ok (.ireturn, 1) := by decide +kernel
theorem dX6_comes_0 : decode cX6_comes 0 = .ok (.iload_n 2, 1) := by decide +kernel
theorem dX6_comes_1 : decode cX6_comes 1 = .ok (.iload_n 3, 1) := by decide +kernel
theorem dX6_comes_2 : decode cX6_comes 2 = .ok (.if_icmp .eq 52, 3) := by decide +kernel
theorem dX6_comes_5 : decode cX6_comes 5 = .ok (.aload_n 0, 1) := by decide +kernel
theorem dX6_comes_6 : decode cX6_comes 6 = .ok (.iload_n 1, 1) := by decide +kernel
theorem dX6_comes_7 : decode cX6_comes 7 = .ok (.iload_n 2, 1) := by decide +kernel
theorem dX6_comes_8 : decode cX6_comes 8 = .ok (.invokevirtual 136, 3) := by decide +kernel
theorem dX6_comes_11 : decode cX6_comes 11 = .ok (.ifCond .eq 43, 3) := by decide +kernel
theorem dX6_comes_14 : decode cX6_comes 14 = .ok (.aload_n 0, 1) := by decide +kernel
theorem dX6_comes_15 : decode cX6_comes 15 = .ok (.iload_n 1, 1) := by decide +kernel
theorem dX6_comes_16 : decode cX6_comes 16 = .ok (.iload_n 2, 1) := by decide +kernel
theorem dX6_comes_17 : decode cX6_comes 17 = .ok (.iload_n 3, 1) := by decide +kernel
theorem dX6_comes_18 : decode cX6_comes 18 = .ok (.aload_n 0, 1) := by decide +kernel
theorem dX6_comes_19 : decode cX6_comes 19 = .ok (.getfield 7, 3) := by decide +kernel
theorem dX6_comes_22 : decode cX6_comes 22 = .ok (.iload_n 2, 1) := by decide +kernel
theorem dX6_comes_23 : decode cX6_comes 23 = .ok (.iaload, 1) := by decide +kernel
theorem dX6_comes_24 : decode cX6_comes 24 = .ok (.aload_n 0, 1) := by decide +kernel
theorem dX6_comes_25 : decode cX6_comes 25 = .ok (.getfield 22, 3) := by decide +kernel
theorem dX6_comes_28 : decode cX6_comes 28 = .ok (.iload_n 1, 1) := by decide +kernel
theorem dX6_comes_29 : decode cX6_comes 29 = .ok (.bipush 10, 2) := by decide +kernel
theorem dX6_comes_31 : decode cX6_comes 31 = .ok (.iadd, 1) := by decide +kernel
theorem dX6_comes_32 : decode cX6_comes 32 = .ok (.bipush 6, 2) := by decide +kernel
theorem dX6_comes_34 : decode cX6_comes 34 = .ok (.iload_n 2, 1) := by decide +kernel
theorem dX6_comes_35 : decode cX6_comes 35 = .ok (.imul, 1) := by decide +kernel
theorem dX6_comes_36 : decode cX6_comes 36 = .ok (.iadd, 1) := by decide +kernel
theorem dX6_comes_37 : decode cX6_comes 37 = .ok (.iload_n 3, 1) := by decide +kernel
theorem dX6_comes_38 : decode cX6_comes 38 = .ok (.iadd, 1) := by decide +kernel
theorem dX6_comes_39 : decode cX6_comes 39 = .ok (.iaload, 1) := by decide +kernel
theorem dX6_comes_40 : decode cX6_comes 40 = .ok (.iload 4, 2) := by decide +kernel
theorem dX6_comes_42 : decode cX6_comes 42 = .ok (.iload 5, 2) := by decide +kernel
theorem dX6_comes_44 : decode cX6_comes 44 = .ok (.invokevirtual 150, 3) := by decide +kernel
theorem dX6_comes_47 : decode cX6_comes 47 = .ok (.ifCond .eq 7, 3) := by decide +kernel
theorem dX6_comes_50 : decode cX6_comes 50 = .ok (.iconst 1, 1) := by decide +kernel
theorem dX6_comes_51 : decode cX6_comes 51 = .ok (.goto 4, 3) := by decide +kernel
theorem dX6_comes_54 : decode cX6_comes 54 = .ok (.iconst 0, 1) := by decide +kernel
theorem dX6_comes_55 : decode cX6_comes 55 = .ok (.ireturn, 1) := by decide +kernel
theorem dX6_comers_0 : decode cX6_comers 0 = .ok (.iconst 0, 1) := by decide +kernel
theorem dX6_comers_1 : decode cX6_comers 1 = .ok (.istore 5, 2) := by decide +kernel
theorem dX6_comers_3 : decode cX6_comers 3 = .ok (.iconst 0, 1) := by decide +kernel
theorem dX6_comers_4 : decode cX6_comers 4 = .ok (.istore 6, 2) := by decide +kernel
theorem dX6_comers_6 : decode cX6_comers 6 = .ok (.iload 6, 2) := by decide +kernel
theorem dX6_comers_8 : decode cX6_comers 8 = .ok (.aload_n 0, 1) := by decide +kernel
theorem dX6_comers_9 : decode cX6_comers 9 = .ok (.getfield 65, 3) := by decide +kernel
theorem dX6_comers_12 : decode cX6_comers 12 = .ok (.if_icmp .ge 36, 3) := by decide +kernel
theorem dX6_comers_15 : decode cX6_comers 15 = .ok (.iload 5, 2) := by decide +kernel
theorem dX6_comers_17 : decode cX6_comers 17 = .ok (.aload_n 0, 1) := by decide +kernel
theorem dX6_comers_18 : decode cX6_comers 18 = .ok (.iload_n 1, 1) := by decide +kernel
theorem dX6_comers_19 : decode cX6_comers 19 = .ok (.iload 6, 2) := by decide +kernel
theorem dX6_comers_21 : decode cX6_comers 21 = .ok (.iload_n 2, 1) := by decide +kernel
theorem dX6_comers_22 : decode cX6_comers 22 = .ok (.iload_n 3, 1) := by decide +kernel
theorem dX6_comers_23 : decode cX6_comers 23 = .ok (.iload 4, 2) := by decide +kernel
theorem dX6_comers_25 : decode cX6_comers 25 = .ok (.invokevirtual 154, 3) := by decide +kernel
theorem dX6_comers_28 : decode cX6_comers 28 = .ok (.ifCond .eq 10, 3) := by decide +kernel
theorem dX6_comers_31 : decode cX6_comers 31 = .ok (.iconst 1, 1) := by decide +kernel
theorem dX6_comers_32 : decode cX6_comers 32 = .ok (.iload 6, 2) := by decide +kernel
theorem dX6_comers_34 : decode cX6_comers 34 = .ok (.ishl, 1) := by decide +kernel
theorem dX6_comers_35 : decode cX6_comers 35 = .ok (.goto 4, 3) := by decide +kernel
theorem dX6_comers_38 : decode cX6_comers 38 = .ok (.iconst 0, 1) := by decide +kernel
theorem dX6_comers_39 : decode cX6_comers 39 = .ok (.ior, 1) := by decide +kernel
theorem dX6_comers_40 : decode cX6_comers 40 = .ok (.istore 5, 2) := by decide +kernel
theorem dX6_comers_42 : decode cX6_comers 42 = .ok (.iinc 6 1, 3) := by decide +kernel
theorem dX6_comers_45 : decode cX6_comers 45 = .ok (.goto (-39), 3) := by decide +kernel
theorem dX6_comers_48 : decode cX6_comers 48 = .ok (.iload 5, 2) := by decide +kernel
theorem dX6_comers_50 : decode cX6_comers 50 = .ok (.ireturn, 1) := by decide +kernel
theorem dX6_bits_0 : decode cX6_bits 0 = .ok (.iconst 0, 1) := by decide +kernel
theorem dX6_bits_1 : decode cX6_bits 1 = .ok (.istore_n 1, 1) := by decide +kernel
theorem dX6_bits_2 : decode cX6_bits 2 = .ok (.iconst 0, 1) := by decide +kernel
theorem dX6_bits_3 : decode cX6_bits 3 = .ok (.istore_n 2, 1) := by decide +kernel
theorem dX6_bits_4 : decode cX6_bits 4 = .ok (.iload_n 2, 1) := by decide +kernel
theorem dX6_bits_5 : decode cX6_bits 5 = .ok (.bipush 6, 2) := by decide +kernel
theorem dX6_bits_7 : decode cX6_bits 7 = .ok (.if_icmp .ge 17, 3) := by decide +kernel
theorem dX6_bits_10 : decode cX6_bits 10 = .ok (.iload_n 1, 1) := by decide +kernel
theorem dX6_bits_11 : decode cX6_bits 11 = .ok (.iload_n 0, 1) := by decide +kernel
theorem dX6_bits_12 : decode cX6_bits 12 = .ok (.iload_n 2, 1) := by decide +kernel
theorem dX6_bits_13 : decode cX6_bits 13 = .ok (.ishr, 1) := by decide +kernel
theorem dX6_bits_14 : decode cX6_bits 14 = .ok (.iconst 1, 1) := by decide +kernel
theorem dX6_bits_15 : decode cX6_bits 15 = .ok (.iand, 1) := by decide +kernel
theorem dX6_bits_16 : decode cX6_bits 16 = .ok (.iadd, 1) := by decide +kernel
theorem dX6_bits_17 : decode cX6_bits 17 = .ok (.istore_n 1, 1) := by decide +kernel
theorem dX6_bits_18 : decode cX6_bits 18 = .ok (.iinc 2 1, 3) := by decide +kernel
theorem dX6_bits_21 : decode cX6_bits 21 = .ok (.goto (-17), 3) := by decide +kernel
theorem dX6_bits_24 : decode cX6_bits 24 = .ok (.iload_n 1, 1) := by decide +kernel
theorem dX6_bits_25 : decode cX6_bits 25 = .ok (.ireturn, 1) := by decide +kernel
theorem dX6_known_0 : decode cX6_known 0 = .ok (.aload_n 0, 1) := by decide +kernel
theorem dX6_known_1 : decode cX6_known 1 = .ok (.getfield 123, 3) := by decide +kernel
theorem dX6_known_4 : decode cX6_known 4 = .ok (.bipush 8, 2) := by decide +kernel
theorem dX6_known_6 : decode cX6_known 6 = .ok (.if_icmp .ne 40, 3) := by decide +kernel
theorem dX6_known_9 : decode cX6_known 9 = .ok (.bipush 82, 2) := by decide +kernel
theorem dX6_known_11 : decode cX6_known 11 = .ok (.istore_n 1, 1) := by decide +kernel
theorem dX6_known_12 : decode cX6_known 12 = .ok (.iload_n 1, 1) := by decide +kernel
theorem dX6_known_13 : decode cX6_known 13 = .ok (.sipush 656, 3) := by decide +kernel
theorem dX6_known_16 : decode cX6_known 16 = .ok (.if_icmp .ge 24, 3) := by decide +kernel
theorem dX6_known_19 : decode cX6_known 19 = .ok (.aload_n 0, 1) := by decide +kernel
theorem dX6_known_20 : decode cX6_known 20 = .ok (.getfield 22, 3) := by decide +kernel
theorem dX6_known_23 : decode cX6_known 23 = .ok (.iload_n 1, 1) := by decide +kernel
theorem dX6_known_24 : decode cX6_known 24 = .ok (.aload_n 0, 1) := by decide +kernel
theorem dX6_known_25 : decode cX6_known 25 = .ok (.getfield 22, 3) := by decide +kernel
theorem dX6_known_28 : decode cX6_known 28 = .ok (.iload_n 1, 1) := by decide +kernel
theorem dX6_known_29 : decode cX6_known 29 = .ok (.bipush 82, 2) := by decide +kernel
theorem dX6_known_31 : decode cX6_known 31 = .ok (.iadd, 1) := by decide +kernel
theorem dX6_known_32 : decode cX6_known 32 = .ok (.iaload, 1) := by decide +kernel
theorem dX6_known_33 : decode cX6_known 33 = .ok (.iastore, 1) := by decide +kernel
theorem dX6_known_34 : decode cX6_known 34 = .ok (.iinc 1 1, 3) := by decide +kernel
theorem dX6_known_37 : decode cX6_known 37 = .ok (.goto (-25), 3) := by decide +kernel
theorem dX6_known_40 : decode cX6_known 40 = .ok (.aload_n 0, 1) := by decide +kernel
theorem dX6_known_41 : decode cX6_known 41 = .ok (.bipush 7, 2) := by decide +kernel
theorem dX6_known_43 : decode cX6_known 43 = .ok (.putfield 123, 3) := by decide +kernel
theorem dX6_known_46 : decode cX6_known 46 = .ok (.aload_n 0, 1) := by decide +kernel
theorem dX6_known_47 : decode cX6_known 47 = .ok (.dup, 1) := by decide +kernel
theorem dX6_known_48 : decode cX6_known 48 = .ok (.getfield 123, 3) := by decide +kernel
theorem dX6_known_51 : decode cX6_known 51 = .ok (.iconst 1, 1) := by decide +kernel
theorem dX6_known_52 : decode cX6_known 52 = .ok (.iadd, 1) := by decide +kernel
theorem dX6_known_53 : decode cX6_known 53 = .ok (.putfield 123, 3) := by decide +kernel
theorem dX6_known_56 : decode cX6_known 56 = .ok (.aload_n 0, 1) := by decide +kernel
theorem dX6_known_57 : decode cX6_known 57 = .ok (.iconst 0, 1) := by decide +kernel
theorem dX6_known_58 : decode cX6_known 58 = .ok (.aload_n 0, 1) := by decide +kernel
theorem dX6_known_59 : decode cX6_known 59 = .ok (.getfield 123, 3) := by decide +kernel
theorem dX6_known_62 : decode cX6_known 62 = .ok (.bipush 82, 2) := by decide +kernel
theorem dX6_known_64 : decode cX6_known 64 = .ok (.imul, 1) := by decide +kernel
theorem dX6_known_65 : decode cX6_known 65 = .ok (.invokevirtual 119, 3) := by decide +kernel
theorem dX6_known_68 : decode cX6_known 68 = .ok (.return_, 1) := by decide +kernel
theorem dX6_gets_0 : decode cX6_gets 0 = .ok (.aload_n 0, 1) := by decide +kernel
theorem dX6_gets_1 : decode cX6_gets 1 = .ok (.getfield 22, 3) := by decide +kernel
theorem dX6_gets_4 : decode cX6_gets 4 = .ok (.iload_n 1, 1) := by decide +kernel
theorem dX6_gets_5 : decode cX6_gets 5 = .ok (.iload_n 2, 1) := by decide +kernel
theorem dX6_gets_6 : decode cX6_gets 6 = .ok (.iadd, 1) := by decide +kernel
theorem dX6_gets_7 : decode cX6_gets 7 = .ok (.sipush 999, 3) := by decide +kernel
theorem dX6_gets_10 : decode cX6_gets 10 = .ok (.aload_n 0, 1) := by decide +kernel
theorem dX6_gets_11 : decode cX6_gets 11 = .ok (.getfield 22, 3) := by decide +kernel
theorem dX6_gets_14 : decode cX6_gets 14 = .ok (.iload_n 1, 1) := by decide +kernel
theorem dX6_gets_15 : decode cX6_gets 15 = .ok (.iload_n 2, 1) := by decide +kernel
theorem dX6_gets_16 : decode cX6_gets 16 = .ok (.iadd, 1) := by decide +kernel
theorem dX6_gets_17 : decode cX6_gets 17 = .ok (.iaload, 1) := by decide +kernel
theorem dX6_gets_18 : decode cX6_gets 18 = .ok (.iload_n 3, 1) := by decide +kernel
theorem dX6_gets_19 : decode cX6_gets 19 = .ok (.iadd, 1) := by decide +kernel
theorem dX6_gets_20 : decode cX6_gets 20 = .ok (.invokestatic 158, 3) := by decide +kernel
theorem dX6_gets_23 : decode cX6_gets 23 = .ok (.iastore, 1) := by decide +kernel
theorem dX6_gets_24 : decode cX6_gets 24 = .ok (.return_, 1) := by decide +kernel
theorem dX6_ties_0 : decode cX6_ties 0 = .ok (.aload_n 0, 1) := by decide +kernel
theorem dX6_ties_1 : decode cX6_ties 1 = .ok (.getfield 22, 3) := by decide +kernel
theorem dX6_ties_4 : decode cX6_ties 4 = .ok (.iload_n 1, 1) := by decide +kernel
theorem dX6_ties_5 : decode cX6_ties 5 = .ok (.bipush 10, 2) := by decide +kernel
theorem dX6_ties_7 : decode cX6_ties 7 = .ok (.iadd, 1) := by decide +kernel
theorem dX6_ties_8 : decode cX6_ties 8 = .ok (.bipush 6, 2) := by decide +kernel
theorem dX6_ties_10 : decode cX6_ties 10 = .ok (.iload_n 2, 1) := by decide +kernel
theorem dX6_ties_11 : decode cX6_ties 11 = .ok (.imul, 1) := by decide +kernel
theorem dX6_ties_12 : decode cX6_ties 12 = .ok (.iadd, 1) := by decide +kernel
theorem dX6_ties_13 : decode cX6_ties 13 = .ok (.iload_n 3, 1) := by decide +kernel
theorem dX6_ties_14 : decode cX6_ties 14 = .ok (.iadd, 1) := by decide +kernel
theorem dX6_ties_15 : decode cX6_ties 15 = .ok (.iconst 5, 1) := by decide +kernel
theorem dX6_ties_16 : decode cX6_ties 16 = .ok (.bipush (-4), 2) := by decide +kernel
theorem dX6_ties_18 : decode cX6_ties 18 = .ok (.aload_n 0, 1) := by decide +kernel
theorem dX6_ties_19 : decode cX6_ties 19 = .ok (.getfield 22, 3) := by decide +kernel
theorem dX6_ties_22 : decode cX6_ties 22 = .ok (.iload_n 1, 1) := by decide +kernel
theorem dX6_ties_23 : decode cX6_ties 23 = .ok (.bipush 10, 2) := by decide +kernel
theorem dX6_ties_25 : decode cX6_ties 25 = .ok (.iadd, 1) := by decide +kernel
theorem dX6_ties_26 : decode cX6_ties 26 = .ok (.bipush 6, 2) := by decide +kernel
theorem dX6_ties_28 : decode cX6_ties 28 = .ok (.iload_n 2, 1) := by decide +kernel
theorem dX6_ties_29 : decode cX6_ties 29 = .ok (.imul, 1) := by decide +kernel
theorem dX6_ties_30 : decode cX6_ties 30 = .ok (.iadd, 1) := by decide +kernel
theorem dX6_ties_31 : decode cX6_ties 31 = .ok (.iload_n 3, 1) := by decide +kernel
theorem dX6_ties_32 : decode cX6_ties 32 = .ok (.iadd, 1) := by decide +kernel
theorem dX6_ties_33 : decode cX6_ties 33 = .ok (.iaload, 1) := by decide +kernel
theorem dX6_ties_34 : decode cX6_ties 34 = .ok (.iload 4, 2) := by decide +kernel
theorem dX6_ties_36 : decode cX6_ties 36 = .ok (.iadd, 1) := by decide +kernel
theorem dX6_ties_37 : decode cX6_ties 37 = .ok (.invokestatic 161, 3) := by decide +kernel
theorem dX6_ties_40 : decode cX6_ties 40 = .ok (.invokestatic 158, 3) := by decide +kernel
theorem dX6_ties_43 : decode cX6_ties 43 = .ok (.iastore, 1) := by decide +kernel
theorem dX6_ties_44 : decode cX6_ties 44 = .ok (.return_, 1) := by decide +kernel
theorem dX6_pays_0 : decode cX6_pays 0 = .ok (.iload 4, 2) := by decide +kernel
theorem dX6_pays_2 : decode cX6_pays 2 = .ok (.aload_n 0, 1) := by decide +kernel
theorem dX6_pays_3 : decode cX6_pays 3 = .ok (.getfield 22, 3) := by decide +kernel
theorem dX6_pays_6 : decode cX6_pays 6 = .ok (.iload_n 1, 1) := by decide +kernel
theorem dX6_pays_7 : decode cX6_pays 7 = .ok (.iload_n 2, 1) := by decide +kernel
theorem dX6_pays_8 : decode cX6_pays 8 = .ok (.iadd, 1) := by decide +kernel
theorem dX6_pays_9 : decode cX6_pays 9 = .ok (.iaload, 1) := by decide +kernel
theorem dX6_pays_10 : decode cX6_pays 10 = .ok (.invokestatic 158, 3) := by decide +kernel
theorem dX6_pays_13 : decode cX6_pays 13 = .ok (.istore 5, 2) := by decide +kernel
theorem dX6_pays_15 : decode cX6_pays 15 = .ok (.aload_n 0, 1) := by decide +kernel
theorem dX6_pays_16 : decode cX6_pays 16 = .ok (.getfield 22, 3) := by decide +kernel
theorem dX6_pays_19 : decode cX6_pays 19 = .ok (.iload_n 1, 1) := by decide +kernel
theorem dX6_pays_20 : decode cX6_pays 20 = .ok (.iload_n 2, 1) := by decide +kernel
theorem dX6_pays_21 : decode cX6_pays 21 = .ok (.iadd, 1) := by decide +kernel
theorem dX6_pays_22 : decode cX6_pays 22 = .ok (.dup2, 1) := by decide +kernel
theorem dX6_pays_23 : decode cX6_pays 23 = .ok (.iaload, 1) := by decide +kernel
theorem dX6_pays_24 : decode cX6_pays 24 = .ok (.iload 5, 2) := by decide +kernel
theorem dX6_pays_26 : decode cX6_pays 26 = .ok (.isub, 1) := by decide +kernel
theorem dX6_pays_27 : decode cX6_pays 27 = .ok (.iastore, 1) := by decide +kernel
theorem dX6_pays_28 : decode cX6_pays 28 = .ok (.aload_n 0, 1) := by decide +kernel
theorem dX6_pays_29 : decode cX6_pays 29 = .ok (.getfield 22, 3) := by decide +kernel
theorem dX6_pays_32 : decode cX6_pays 32 = .ok (.iload_n 1, 1) := by decide +kernel
theorem dX6_pays_33 : decode cX6_pays 33 = .ok (.bipush 46, 2) := by decide +kernel
theorem dX6_pays_35 : decode cX6_pays 35 = .ok (.iadd, 1) := by decide +kernel
theorem dX6_pays_36 : decode cX6_pays 36 = .ok (.bipush 6, 2) := by decide +kernel
theorem dX6_pays_38 : decode cX6_pays 38 = .ok (.iload_n 2, 1) := by decide +kernel
theorem dX6_pays_39 : decode cX6_pays 39 = .ok (.imul, 1) := by decide +kernel
theorem dX6_pays_40 : decode cX6_pays 40 = .ok (.iadd, 1) := by decide +kernel
theorem dX6_pays_41 : decode cX6_pays 41 = .ok (.iload_n 3, 1) := by decide +kernel
theorem dX6_pays_42 : decode cX6_pays 42 = .ok (.iadd, 1) := by decide +kernel
theorem dX6_pays_43 : decode cX6_pays 43 = .ok (.dup2, 1) := by decide +kernel
theorem dX6_pays_44 : decode cX6_pays 44 = .ok (.iaload, 1) := by decide +kernel
theorem dX6_pays_45 : decode cX6_pays 45 = .ok (.iload 5, 2) := by decide +kernel
theorem dX6_pays_47 : decode cX6_pays 47 = .ok (.isub, 1) := by decide +kernel
theorem dX6_pays_48 : decode cX6_pays 48 = .ok (.iastore, 1) := by decide +kernel
theorem dX6_pays_49 : decode cX6_pays 49 = .ok (.aload_n 0, 1) := by decide +kernel
theorem dX6_pays_50 : decode cX6_pays 50 = .ok (.iload_n 1, 1) := by decide +kernel
theorem dX6_pays_51 : decode cX6_pays 51 = .ok (.iload_n 3, 1) := by decide +kernel
theorem dX6_pays_52 : decode cX6_pays 52 = .ok (.iload 5, 2) := by decide +kernel
theorem dX6_pays_54 : decode cX6_pays 54 = .ok (.invokevirtual 164, 3) := by decide +kernel
theorem dX6_pays_57 : decode cX6_pays 57 = .ok (.iload 5, 2) := by decide +kernel
theorem dX6_pays_59 : decode cX6_pays 59 = .ok (.ireturn, 1) := by decide +kernel
theorem dX6_changes_0 : decode cX6_changes 0 = .ok (.aload_n 0, 1) := by decide +kernel
theorem dX6_changes_1 : decode cX6_changes 1 = .ok (.iload_n 1, 1) := by decide +kernel
theorem dX6_changes_2 : decode cX6_changes 2 = .ok (.iload_n 2, 1) := by decide +kernel
theorem dX6_changes_3 : decode cX6_changes 3 = .ok (.iload_n 3, 1) := by decide +kernel
theorem dX6_changes_4 : decode cX6_changes 4 = .ok (.iload 4, 2) := by decide +kernel
theorem dX6_changes_6 : decode cX6_changes 6 = .ok (.ifCond .eq 17, 3) := by decide +kernel
theorem dX6_changes_9 : decode cX6_changes 9 = .ok (.aload_n 0, 1) := by decide +kernel
theorem dX6_changes_10 : decode cX6_changes 10 = .ok (.getfield 7, 3) := by decide +kernel
theorem dX6_changes_13 : decode cX6_changes 13 = .ok (.iload_n 3, 1) := by decide +kernel
theorem dX6_changes_14 : decode cX6_changes 14 = .ok (.iaload, 1) := by decide +kernel
theorem dX6_changes_15 : decode cX6_changes 15 = .ok (.iconst 1, 1) := by decide +kernel
theorem dX6_changes_16 : decode cX6_changes 16 = .ok (.if_icmp .eq 7, 3) := by decide +kernel
theorem dX6_changes_19 : decode cX6_changes 19 = .ok (.iconst 1, 1) := by decide +kernel
theorem dX6_changes_20 : decode cX6_changes 20 = .ok (.goto 4, 3) := by decide +kernel
theorem dX6_changes_23 : decode cX6_changes 23 = .ok (.iconst (-1), 1) := by decide +kernel
theorem dX6_changes_24 : decode cX6_changes 24 = .ok (.invokevirtual 168, 3) := by decide +kernel
theorem dX6_changes_27 : decode cX6_changes 27 = .ok (.iload 4, 2) := by decide +kernel
theorem dX6_changes_29 : decode cX6_changes 29 = .ok (.ifCond .eq 29, 3) := by decide +kernel
theorem dX6_changes_32 : decode cX6_changes 32 = .ok (.aload_n 0, 1) := by decide +kernel
theorem dX6_changes_33 : decode cX6_changes 33 = .ok (.iload_n 1, 1) := by decide +kernel
theorem dX6_changes_34 : decode cX6_changes 34 = .ok (.iload_n 3, 1) := by decide +kernel
theorem dX6_changes_35 : decode cX6_changes 35 = .ok (.iload_n 2, 1) := by decide +kernel
theorem dX6_changes_36 : decode cX6_changes 36 = .ok (.aload_n 0, 1) := by decide +kernel
theorem dX6_changes_37 : decode cX6_changes 37 = .ok (.getfield 22, 3) := by decide +kernel
theorem dX6_changes_40 : decode cX6_changes 40 = .ok (.iload_n 1, 1) := by decide +kernel
theorem dX6_changes_41 : decode cX6_changes 41 = .ok (.bipush 46, 2) := by decide +kernel
theorem dX6_changes_43 : decode cX6_changes 43 = .ok (.iadd, 1) := by decide +kernel
theorem dX6_changes_44 : decode cX6_changes 44 = .ok (.bipush 6, 2) := by decide +kernel
theorem dX6_changes_46 : decode cX6_changes 46 = .ok (.iload_n 3, 1) := by decide +kernel
theorem dX6_changes_47 : decode cX6_changes 47 = .ok (.imul, 1) := by decide +kernel
theorem dX6_changes_48 : decode cX6_changes 48 = .ok (.iadd, 1) := by decide +kernel
theorem dX6_changes_49 : decode cX6_changes 49 = .ok (.iload_n 2, 1) := by decide +kernel
theorem dX6_changes_50 : decode cX6_changes 50 = .ok (.iadd, 1) := by decide +kernel
theorem dX6_changes_51 : decode cX6_changes 51 = .ok (.iaload, 1) := by decide +kernel
theorem dX6_changes_52 : decode cX6_changes 52 = .ok (.iconst 2, 1) := by decide +kernel
theorem dX6_changes_53 : decode cX6_changes 53 = .ok (.idiv, 1) := by decide +kernel
theorem dX6_changes_54 : decode cX6_changes 54 = .ok (.invokevirtual 171, 3) := by decide +kernel
theorem dX6_changes_57 : decode cX6_changes 57 = .ok (.pop, 1) := by decide +kernel
theorem dX6_changes_58 : decode cX6_changes 58 = .ok (.return_, 1) := by decide +kernel
theorem dX6_couldHave_0 : decode cX6_couldHave 0 = .ok (.aload_n 0, 1) := by decide +kernel
theorem dX6_couldHave_1 : decode cX6_couldHave 1 = .ok (.iload_n 1, 1) := by decide +kernel
theorem dX6_couldHave_2 : decode cX6_couldHave 2 = .ok (.iload_n 2, 1) := by decide +kernel
theorem dX6_couldHave_3 : decode cX6_couldHave 3 = .ok (.invokevirtual 136, 3) := by decide +kernel
theorem dX6_couldHave_6 : decode cX6_couldHave 6 = .ok (.ifCond .eq 36, 3) := by decide +kernel
theorem dX6_couldHave_9 : decode cX6_couldHave 9 = .ok (.aload_n 0, 1) := by decide +kernel
theorem dX6_couldHave_10 : decode cX6_couldHave 10 = .ok (.iload_n 1, 1) := by decide +kernel
theorem dX6_couldHave_11 : decode cX6_couldHave 11 = .ok (.iload_n 2, 1) := by decide +kernel
theorem dX6_couldHave_12 : decode cX6_couldHave 12 = .ok (.invokevirtual 141, 3) := by decide +kernel
theorem dX6_couldHave_15 : decode cX6_couldHave 15 = .ok (.aload_n 0, 1) := by decide +kernel
theorem dX6_couldHave_16 : decode cX6_couldHave 16 = .ok (.getfield 68, 3) := by decide +kernel
theorem dX6_couldHave_19 : decode cX6_couldHave 19 = .ok (.if_icmp .lt 23, 3) := by decide +kernel
theorem dX6_couldHave_22 : decode cX6_couldHave 22 = .ok (.aload_n 0, 1) := by decide +kernel
theorem dX6_couldHave_23 : decode cX6_couldHave 23 = .ok (.getfield 22, 3) := by decide +kernel
theorem dX6_couldHave_26 : decode cX6_couldHave 26 = .ok (.iload_n 1, 1) := by decide +kernel
theorem dX6_couldHave_27 : decode cX6_couldHave 27 = .ok (.bipush 7, 2) := by decide +kernel
theorem dX6_couldHave_29 : decode cX6_couldHave 29 = .ok (.iadd, 1) := by decide +kernel
theorem dX6_couldHave_30 : decode cX6_couldHave 30 = .ok (.iaload, 1) := by decide +kernel
theorem dX6_couldHave_31 : decode cX6_couldHave 31 = .ok (.iload_n 2, 1) := by decide +kernel
theorem dX6_couldHave_32 : decode cX6_couldHave 32 = .ok (.invokestatic 132, 3) := by decide +kernel
theorem dX6_couldHave_35 : decode cX6_couldHave 35 = .ok (.ifCond .ne 7, 3) := by decide +kernel
theorem dX6_couldHave_38 : decode cX6_couldHave 38 = .ok (.iconst 1, 1) := by decide +kernel
theorem dX6_couldHave_39 : decode cX6_couldHave 39 = .ok (.goto 4, 3) := by decide +kernel
theorem dX6_couldHave_42 : decode cX6_couldHave 42 = .ok (.iconst 0, 1) := by decide +kernel
theorem dX6_couldHave_43 : decode cX6_couldHave 43 = .ok (.ireturn, 1) := by decide +kernel
theorem dX6_canHave_0 : decode cX6_canHave 0 = .ok (.aload_n 0, 1) := by decide +kernel
theorem dX6_canHave_1 : decode cX6_canHave 1 = .ok (.iload_n 1, 1) := by decide +kernel
theorem dX6_canHave_2 : decode cX6_canHave 2 = .ok (.iload_n 2, 1) := by decide +kernel
theorem dX6_canHave_3 : decode cX6_canHave 3 = .ok (.invokevirtual 175, 3) := by decide +kernel
theorem dX6_canHave_6 : decode cX6_canHave 6 = .ok (.ifCond .eq 26, 3) := by decide +kernel
theorem dX6_canHave_9 : decode cX6_canHave 9 = .ok (.aload_n 0, 1) := by decide +kernel
theorem dX6_canHave_10 : decode cX6_canHave 10 = .ok (.getfield 22, 3) := by decide +kernel
theorem dX6_canHave_13 : decode cX6_canHave 13 = .ok (.iload_n 1, 1) := by decide +kernel
theorem dX6_canHave_14 : decode cX6_canHave 14 = .ok (.iload_n 2, 1) := by decide +kernel
theorem dX6_canHave_15 : decode cX6_canHave 15 = .ok (.iadd, 1) := by decide +kernel
theorem dX6_canHave_16 : decode cX6_canHave 16 = .ok (.iaload, 1) := by decide +kernel
theorem dX6_canHave_17 : decode cX6_canHave 17 = .ok (.iconst 2, 1) := by decide +kernel
theorem dX6_canHave_18 : decode cX6_canHave 18 = .ok (.iload_n 3, 1) := by decide +kernel
theorem dX6_canHave_19 : decode cX6_canHave 19 = .ok (.imul, 1) := by decide +kernel
theorem dX6_canHave_20 : decode cX6_canHave 20 = .ok (.iconst 3, 1) := by decide +kernel
theorem dX6_canHave_21 : decode cX6_canHave 21 = .ok (.iload 4, 2) := by decide +kernel
theorem dX6_canHave_23 : decode cX6_canHave 23 = .ok (.imul, 1) := by decide +kernel
theorem dX6_canHave_24 : decode cX6_canHave 24 = .ok (.iadd, 1) := by decide +kernel
theorem dX6_canHave_25 : decode cX6_canHave 25 = .ok (.if_icmp .lt 7, 3) := by decide +kernel
theorem dX6_canHave_28 : decode cX6_canHave 28 = .ok (.iconst 1, 1) := by decide +kernel
theorem dX6_canHave_29 : decode cX6_canHave 29 = .ok (.goto 4, 3) := by decide +kernel
theorem dX6_canHave_32 : decode cX6_canHave 32 = .ok (.iconst 0, 1) := by decide +kernel
theorem dX6_canHave_33 : decode cX6_canHave 33 = .ok (.ireturn, 1) := by decide +kernel
theorem dX6_holds_0 : decode cX6_holds 0 = .ok (.aload_n 0, 1) := by decide +kernel
theorem dX6_holds_1 : decode cX6_holds 1 = .ok (.iload_n 1, 1) := by decide +kernel
theorem dX6_holds_2 : decode cX6_holds 2 = .ok (.iload_n 2, 1) := by decide +kernel
theorem dX6_holds_3 : decode cX6_holds 3 = .ok (.iload_n 3, 1) := by decide +kernel
theorem dX6_holds_4 : decode cX6_holds 4 = .ok (.iload 4, 2) := by decide +kernel
theorem dX6_holds_6 : decode cX6_holds 6 = .ok (.invokevirtual 178, 3) := by decide +kernel
theorem dX6_holds_9 : decode cX6_holds 9 = .ok (.istore 5, 2) := by decide +kernel
theorem dX6_holds_11 : decode cX6_holds 11 = .ok (.aload_n 0, 1) := by decide +kernel
theorem dX6_holds_12 : decode cX6_holds 12 = .ok (.getfield 22, 3) := by decide +kernel
theorem dX6_holds_15 : decode cX6_holds 15 = .ok (.iload_n 1, 1) := by decide +kernel
theorem dX6_holds_16 : decode cX6_holds 16 = .ok (.iload_n 2, 1) := by decide +kernel
theorem dX6_holds_17 : decode cX6_holds 17 = .ok (.iadd, 1) := by decide +kernel
theorem dX6_holds_18 : decode cX6_holds 18 = .ok (.dup2, 1) := by decide +kernel
theorem dX6_holds_19 : decode cX6_holds 19 = .ok (.iaload, 1) := by decide +kernel
theorem dX6_holds_20 : decode cX6_holds 20 = .ok (.iconst 2, 1) := by decide +kernel
theorem dX6_holds_21 : decode cX6_holds 21 = .ok (.iload_n 3, 1) := by decide +kernel
theorem dX6_holds_22 : decode cX6_holds 22 = .ok (.imul, 1) := by decide +kernel
theorem dX6_holds_23 : decode cX6_holds 23 = .ok (.iconst 3, 1) := by decide +kernel
theorem dX6_holds_24 : decode cX6_holds 24 = .ok (.iload 4, 2) := by decide +kernel
theorem dX6_holds_26 : decode cX6_holds 26 = .ok (.imul, 1) := by decide +kernel
theorem dX6_holds_27 : decode cX6_holds 27 = .ok (.iadd, 1) := by decide +kernel
theorem dX6_holds_28 : decode cX6_holds 28 = .ok (.isub, 1) := by decide +kernel
theorem dX6_holds_29 : decode cX6_holds 29 = .ok (.iastore, 1) := by decide +kernel
theorem dX6_holds_30 : decode cX6_holds 30 = .ok (.iconst 0, 1) := by decide +kernel
theorem dX6_holds_31 : decode cX6_holds 31 = .ok (.istore 6, 2) := by decide +kernel
theorem dX6_holds_33 : decode cX6_holds 33 = .ok (.iload 6, 2) := by decide +kernel
theorem dX6_holds_35 : decode cX6_holds 35 = .ok (.aload_n 0, 1) := by decide +kernel
theorem dX6_holds_36 : decode cX6_holds 36 = .ok (.getfield 65, 3) := by decide +kernel
theorem dX6_holds_39 : decode cX6_holds 39 = .ok (.if_icmp .ge 40, 3) := by decide +kernel
theorem dX6_holds_42 : decode cX6_holds 42 = .ok (.iload 6, 2) := by decide +kernel
theorem dX6_holds_44 : decode cX6_holds 44 = .ok (.iload_n 2, 1) := by decide +kernel
theorem dX6_holds_45 : decode cX6_holds 45 = .ok (.if_icmp .eq 28, 3) := by decide +kernel
theorem dX6_holds_48 : decode cX6_holds 48 = .ok (.aload_n 0, 1) := by decide +kernel
theorem dX6_holds_49 : decode cX6_holds 49 = .ok (.iload_n 1, 1) := by decide +kernel
theorem dX6_holds_50 : decode cX6_holds 50 = .ok (.iload 6, 2) := by decide +kernel
theorem dX6_holds_52 : decode cX6_holds 52 = .ok (.invokevirtual 136, 3) := by decide +kernel
theorem dX6_holds_55 : decode cX6_holds 55 = .ok (.ifCond .eq 18, 3) := by decide +kernel
theorem dX6_holds_58 : decode cX6_holds 58 = .ok (.aload_n 0, 1) := by decide +kernel
theorem dX6_holds_59 : decode cX6_holds 59 = .ok (.iload_n 1, 1) := by decide +kernel
theorem dX6_holds_60 : decode cX6_holds 60 = .ok (.iload_n 2, 1) := by decide +kernel
theorem dX6_holds_61 : decode cX6_holds 61 = .ok (.iload 6, 2) := by decide +kernel
theorem dX6_holds_63 : decode cX6_holds 63 = .ok (.iload 5, 2) := by decide +kernel
theorem dX6_holds_65 : decode cX6_holds 65 = .ok (.iload 6, 2) := by decide +kernel
theorem dX6_holds_67 : decode cX6_holds 67 = .ok (.invokestatic 132, 3) := by decide +kernel
theorem dX6_holds_70 : decode cX6_holds 70 = .ok (.invokevirtual 181, 3) := by decide +kernel
theorem dX6_holds_73 : decode cX6_holds 73 = .ok (.iinc 6 1, 3) := by decide +kernel
theorem dX6_holds_76 : decode cX6_holds 76 = .ok (.goto (-43), 3) := by decide +kernel
theorem dX6_holds_79 : decode cX6_holds 79 = .ok (.aload_n 0, 1) := by decide +kernel
theorem dX6_holds_80 : decode cX6_holds 80 = .ok (.getfield 22, 3) := by decide +kernel
theorem dX6_holds_83 : decode cX6_holds 83 = .ok (.iload_n 1, 1) := by decide +kernel
theorem dX6_holds_84 : decode cX6_holds 84 = .ok (.bipush 7, 2) := by decide +kernel
theorem dX6_holds_86 : decode cX6_holds 86 = .ok (.iadd, 1) := by decide +kernel
theorem dX6_holds_87 : decode cX6_holds 87 = .ok (.dup2, 1) := by decide +kernel
theorem dX6_holds_88 : decode cX6_holds 88 = .ok (.iaload, 1) := by decide +kernel
theorem dX6_holds_89 : decode cX6_holds 89 = .ok (.iconst 1, 1) := by decide +kernel
theorem dX6_holds_90 : decode cX6_holds 90 = .ok (.iload_n 2, 1) := by decide +kernel
theorem dX6_holds_91 : decode cX6_holds 91 = .ok (.ishl, 1) := by decide +kernel
theorem dX6_holds_92 : decode cX6_holds 92 = .ok (.ior, 1) := by decide +kernel
theorem dX6_holds_93 : decode cX6_holds 93 = .ok (.iastore, 1) := by decide +kernel
theorem dX6_holds_94 : decode cX6_holds 94 = .ok (.aload_n 0, 1) := by decide +kernel
theorem dX6_holds_95 : decode cX6_holds 95 = .ok (.getfield 22, 3) := by decide +kernel
theorem dX6_holds_98 : decode cX6_holds 98 = .ok (.iload_n 1, 1) := by decide +kernel
theorem dX6_holds_99 : decode cX6_holds 99 = .ok (.bipush 9, 2) := by decide +kernel
theorem dX6_holds_101 : decode cX6_holds 101 = .ok (.iadd, 1) := by decide +kernel
theorem dX6_holds_102 : decode cX6_holds 102 = .ok (.dup2, 1) := by decide +kernel
theorem dX6_holds_103 : decode cX6_holds 103 = .ok (.iaload, 1) := by decide +kernel
theorem dX6_holds_104 : decode cX6_holds 104 = .ok (.iconst 1, 1) := by decide +kernel
theorem dX6_holds_105 : decode cX6_holds 105 = .ok (.iadd, 1) := by decide +kernel
theorem dX6_holds_106 : decode cX6_holds 106 = .ok (.iastore, 1) := by decide +kernel
theorem dX6_holds_107 : decode cX6_holds 107 = .ok (.iload 5, 2) := by decide +kernel
theorem dX6_holds_109 : decode cX6_holds 109 = .ok (.ireturn, 1) := by decide +kernel
theorem dX6_areBells_0 : decode cX6_areBells 0 = .ok (.iload_n 0, 1) := by decide +kernel
theorem dX6_areBells_1 : decode cX6_areBells 1 = .ok (.i2l, 1) := by decide +kernel
theorem dX6_areBells_2 : decode cX6_areBells 2 = .ok (.lconst 0, 1) := by decide +kernel
theorem dX6_areBells_3 : decode cX6_areBells 3 = .ok (.ldc2_w 185, 3) := by decide +kernel
theorem dX6_areBells_6 : decode cX6_areBells 6 = .ok (.invokestatic 71, 3) := by decide +kernel
theorem dX6_areBells_9 : decode cX6_areBells 9 = .ok (.ifCond .eq 19, 3) := by decide +kernel
theorem dX6_areBells_12 : decode cX6_areBells 12 = .ok (.iload_n 1, 1) := by decide +kernel
theorem dX6_areBells_13 : decode cX6_areBells 13 = .ok (.i2l, 1) := by decide +kernel
theorem dX6_areBells_14 : decode cX6_areBells 14 = .ok (.lconst 0, 1) := by decide +kernel
theorem dX6_areBells_15 : decode cX6_areBells 15 = .ok (.ldc2_w 185, 3) := by decide +kernel
theorem dX6_areBells_18 : decode cX6_areBells 18 = .ok (.invokestatic 71, 3) := by decide +kernel
theorem dX6_areBells_21 : decode cX6_areBells 21 = .ok (.ifCond .eq 7, 3) := by decide +kernel
theorem dX6_areBells_24 : decode cX6_areBells 24 = .ok (.iconst 1, 1) := by decide +kernel
theorem dX6_areBells_25 : decode cX6_areBells 25 = .ok (.goto 4, 3) := by decide +kernel
theorem dX6_areBells_28 : decode cX6_areBells 28 = .ok (.iconst 0, 1) := by decide +kernel
theorem dX6_areBells_29 : decode cX6_areBells 29 = .ok (.ireturn, 1) := by decide +kernel
theorem dX6_trial_0 : decode cX6_trial 0 = .ok (.aload_n 0, 1) := by decide +kernel
theorem dX6_trial_1 : decode cX6_trial 1 = .ok (.iload_n 1, 1) := by decide +kernel
theorem dX6_trial_2 : decode cX6_trial 2 = .ok (.invokevirtual 75, 3) := by decide +kernel
theorem dX6_trial_5 : decode cX6_trial 5 = .ok (.ifCond .eq 11, 3) := by decide +kernel
theorem dX6_trial_8 : decode cX6_trial 8 = .ok (.iload_n 2, 1) := by decide +kernel
theorem dX6_trial_9 : decode cX6_trial 9 = .ok (.iload_n 3, 1) := by decide +kernel
theorem dX6_trial_10 : decode cX6_trial 10 = .ok (.invokestatic 187, 3) := by decide +kernel
theorem dX6_trial_13 : decode cX6_trial 13 = .ok (.ifCond .ne 5, 3) := by decide +kernel
theorem dX6_trial_16 : decode cX6_trial 16 = .ok (.iconst (-1), 1) := by decide +kernel
theorem dX6_trial_17 : decode cX6_trial 17 = .ok (.ireturn, 1) := by decide +kernel
theorem dX6_trial_18 : decode cX6_trial 18 = .ok (.aload_n 0, 1) := by decide +kernel
theorem dX6_trial_19 : decode cX6_trial 19 = .ok (.iconst 0, 1) := by decide +kernel
theorem dX6_trial_20 : decode cX6_trial 20 = .ok (.iload_n 1, 1) := by decide +kernel
theorem dX6_trial_21 : decode cX6_trial 21 = .ok (.iload_n 2, 1) := by decide +kernel
theorem dX6_trial_22 : decode cX6_trial 22 = .ok (.iload_n 3, 1) := by decide +kernel
theorem dX6_trial_23 : decode cX6_trial 23 = .ok (.invokevirtual 190, 3) := by decide +kernel
theorem dX6_trial_26 : decode cX6_trial 26 = .ok (.ifCond .ne 6, 3) := by decide +kernel
theorem dX6_trial_29 : decode cX6_trial 29 = .ok (.bipush (-2), 2) := by decide +kernel
theorem dX6_trial_31 : decode cX6_trial 31 = .ok (.ireturn, 1) := by decide +kernel
theorem dX6_trial_32 : decode cX6_trial 32 = .ok (.aload_n 0, 1) := by decide +kernel
theorem dX6_trial_33 : decode cX6_trial 33 = .ok (.invokevirtual 194, 3) := by decide +kernel
theorem dX6_trial_36 : decode cX6_trial 36 = .ok (.aload_n 0, 1) := by decide +kernel
theorem dX6_trial_37 : decode cX6_trial 37 = .ok (.iconst 0, 1) := by decide +kernel
theorem dX6_trial_38 : decode cX6_trial 38 = .ok (.iload_n 1, 1) := by decide +kernel
theorem dX6_trial_39 : decode cX6_trial 39 = .ok (.iload_n 2, 1) := by decide +kernel
theorem dX6_trial_40 : decode cX6_trial 40 = .ok (.iload_n 3, 1) := by decide +kernel
theorem dX6_trial_41 : decode cX6_trial 41 = .ok (.invokevirtual 197, 3) := by decide +kernel
theorem dX6_trial_44 : decode cX6_trial 44 = .ok (.ireturn, 1) := by decide +kernel
theorem dX6_canGive_0 : decode cX6_canGive 0 = .ok (.iload_n 2, 1) := by decide +kernel
theorem dX6_canGive_1 : decode cX6_canGive 1 = .ok (.iload_n 3, 1) := by decide +kernel
theorem dX6_canGive_2 : decode cX6_canGive 2 = .ok (.if_icmp .eq 57, 3) := by decide +kernel
theorem dX6_canGive_5 : decode cX6_canGive 5 = .ok (.aload_n 0, 1) := by decide +kernel
theorem dX6_canGive_6 : decode cX6_canGive 6 = .ok (.iload_n 1, 1) := by decide +kernel
theorem dX6_canGive_7 : decode cX6_canGive 7 = .ok (.iload_n 2, 1) := by decide +kernel
theorem dX6_canGive_8 : decode cX6_canGive 8 = .ok (.invokevirtual 136, 3) := by decide +kernel
theorem dX6_canGive_11 : decode cX6_canGive 11 = .ok (.ifCond .eq 48, 3) := by decide +kernel
theorem dX6_canGive_14 : decode cX6_canGive 14 = .ok (.aload_n 0, 1) := by decide +kernel
theorem dX6_canGive_15 : decode cX6_canGive 15 = .ok (.iload_n 1, 1) := by decide +kernel
theorem dX6_canGive_16 : decode cX6_canGive 16 = .ok (.iload_n 3, 1) := by decide +kernel
theorem dX6_canGive_17 : decode cX6_canGive 17 = .ok (.invokevirtual 136, 3) := by decide +kernel
theorem dX6_canGive_20 : decode cX6_canGive 20 = .ok (.ifCond .eq 39, 3) := by decide +kernel
theorem dX6_canGive_23 : decode cX6_canGive 23 = .ok (.aload_n 0, 1) := by decide +kernel
theorem dX6_canGive_24 : decode cX6_canGive 24 = .ok (.getfield 22, 3) := by decide +kernel
theorem dX6_canGive_27 : decode cX6_canGive 27 = .ok (.iload_n 1, 1) := by decide +kernel
theorem dX6_canGive_28 : decode cX6_canGive 28 = .ok (.iload_n 2, 1) := by decide +kernel
theorem dX6_canGive_29 : decode cX6_canGive 29 = .ok (.iadd, 1) := by decide +kernel
theorem dX6_canGive_30 : decode cX6_canGive 30 = .ok (.iaload, 1) := by decide +kernel
theorem dX6_canGive_31 : decode cX6_canGive 31 = .ok (.iconst 2, 1) := by decide +kernel
theorem dX6_canGive_32 : decode cX6_canGive 32 = .ok (.if_icmp .lt 27, 3) := by decide +kernel
theorem dX6_canGive_35 : decode cX6_canGive 35 = .ok (.aload_n 0, 1) := by decide +kernel
theorem dX6_canGive_36 : decode cX6_canGive 36 = .ok (.getfield 22, 3) := by decide +kernel
theorem dX6_canGive_39 : decode cX6_canGive 39 = .ok (.iload_n 1, 1) := by decide +kernel
theorem dX6_canGive_40 : decode cX6_canGive 40 = .ok (.bipush 10, 2) := by decide +kernel
theorem dX6_canGive_42 : decode cX6_canGive 42 = .ok (.iadd, 1) := by decide +kernel
theorem dX6_canGive_43 : decode cX6_canGive 43 = .ok (.bipush 6, 2) := by decide +kernel
theorem dX6_canGive_45 : decode cX6_canGive 45 = .ok (.iload_n 3, 1) := by decide +kernel
theorem dX6_canGive_46 : decode cX6_canGive 46 = .ok (.imul, 1) := by decide +kernel
theorem dX6_canGive_47 : decode cX6_canGive 47 = .ok (.iadd, 1) := by decide +kernel
theorem dX6_canGive_48 : decode cX6_canGive 48 = .ok (.iload_n 2, 1) := by decide +kernel
theorem dX6_canGive_49 : decode cX6_canGive 49 = .ok (.iadd, 1) := by decide +kernel
theorem dX6_canGive_50 : decode cX6_canGive 50 = .ok (.iaload, 1) := by decide +kernel
theorem dX6_canGive_51 : decode cX6_canGive 51 = .ok (.iconst 5, 1) := by decide +kernel
theorem dX6_canGive_52 : decode cX6_canGive 52 = .ok (.if_icmp .ge 7, 3) := by decide +kernel
theorem dX6_canGive_55 : decode cX6_canGive 55 = .ok (.iconst 1, 1) := by decide +kernel
theorem dX6_canGive_56 : decode cX6_canGive 56 = .ok (.goto 4, 3) := by decide +kernel
theorem dX6_canGive_59 : decode cX6_canGive 59 = .ok (.iconst 0, 1) := by decide +kernel
theorem dX6_canGive_60 : decode cX6_canGive 60 = .ok (.ireturn, 1) := by decide +kernel
theorem dX6_gives_0 : decode cX6_gives 0 = .ok (.aload_n 0, 1) := by decide +kernel
theorem dX6_gives_1 : decode cX6_gives 1 = .ok (.getfield 22, 3) := by decide +kernel
theorem dX6_gives_4 : decode cX6_gives 4 = .ok (.iload_n 1, 1) := by decide +kernel
theorem dX6_gives_5 : decode cX6_gives 5 = .ok (.iload_n 2, 1) := by decide +kernel
theorem dX6_gives_6 : decode cX6_gives 6 = .ok (.iadd, 1) := by decide +kernel
theorem dX6_gives_7 : decode cX6_gives 7 = .ok (.dup2, 1) := by decide +kernel
theorem dX6_gives_8 : decode cX6_gives 8 = .ok (.iaload, 1) := by decide +kernel
theorem dX6_gives_9 : decode cX6_gives 9 = .ok (.iconst 2, 1) := by decide +kernel
theorem dX6_gives_10 : decode cX6_gives 10 = .ok (.isub, 1) := by decide +kernel
theorem dX6_gives_11 : decode cX6_gives 11 = .ok (.iastore, 1) := by decide +kernel
theorem dX6_gives_12 : decode cX6_gives 12 = .ok (.aload_n 0, 1) := by decide +kernel
theorem dX6_gives_13 : decode cX6_gives 13 = .ok (.iload_n 1, 1) := by decide +kernel
theorem dX6_gives_14 : decode cX6_gives 14 = .ok (.iload_n 3, 1) := by decide +kernel
theorem dX6_gives_15 : decode cX6_gives 15 = .ok (.iload_n 2, 1) := by decide +kernel
theorem dX6_gives_16 : decode cX6_gives 16 = .ok (.iconst 1, 1) := by decide +kernel
theorem dX6_gives_17 : decode cX6_gives 17 = .ok (.invokevirtual 168, 3) := by decide +kernel
theorem dX6_gives_20 : decode cX6_gives 20 = .ok (.return_, 1) := by decide +kernel
theorem dX6_gift_0 : decode cX6_gift 0 = .ok (.aload_n 0, 1) := by decide +kernel
theorem dX6_gift_1 : decode cX6_gift 1 = .ok (.iload_n 1, 1) := by decide +kernel
theorem dX6_gift_2 : decode cX6_gift 2 = .ok (.iload_n 2, 1) := by decide +kernel
theorem dX6_gift_3 : decode cX6_gift 3 = .ok (.invokevirtual 147, 3) := by decide +kernel
theorem dX6_gift_6 : decode cX6_gift 6 = .ok (.ifCond .ne 5, 3) := by decide +kernel
theorem dX6_gift_9 : decode cX6_gift 9 = .ok (.iconst (-1), 1) := by decide +kernel
theorem dX6_gift_10 : decode cX6_gift 10 = .ok (.ireturn, 1) := by decide +kernel
theorem dX6_gift_11 : decode cX6_gift 11 = .ok (.aload_n 0, 1) := by decide +kernel
theorem dX6_gift_12 : decode cX6_gift 12 = .ok (.iconst 0, 1) := by decide +kernel
theorem dX6_gift_13 : decode cX6_gift 13 = .ok (.iload_n 1, 1) := by decide +kernel
theorem dX6_gift_14 : decode cX6_gift 14 = .ok (.iload_n 2, 1) := by decide +kernel
theorem dX6_gift_15 : decode cX6_gift 15 = .ok (.invokevirtual 200, 3) := by decide +kernel
theorem dX6_gift_18 : decode cX6_gift 18 = .ok (.ifCond .ne 6, 3) := by decide +kernel
theorem dX6_gift_21 : decode cX6_gift 21 = .ok (.bipush (-2), 2) := by decide +kernel
theorem dX6_gift_23 : decode cX6_gift 23 = .ok (.ireturn, 1) := by decide +kernel
theorem dX6_gift_24 : decode cX6_gift 24 = .ok (.aload_n 0, 1) := by decide +kernel
theorem dX6_gift_25 : decode cX6_gift 25 = .ok (.invokevirtual 194, 3) := by decide +kernel
theorem dX6_gift_28 : decode cX6_gift 28 = .ok (.aload_n 0, 1) := by decide +kernel
theorem dX6_gift_29 : decode cX6_gift 29 = .ok (.iconst 0, 1) := by decide +kernel
theorem dX6_gift_30 : decode cX6_gift 30 = .ok (.iload_n 1, 1) := by decide +kernel
theorem dX6_gift_31 : decode cX6_gift 31 = .ok (.iload_n 2, 1) := by decide +kernel
theorem dX6_gift_32 : decode cX6_gift 32 = .ok (.invokevirtual 204, 3) := by decide +kernel
theorem dX6_gift_35 : decode cX6_gift 35 = .ok (.aload_n 0, 1) := by decide +kernel
theorem dX6_gift_36 : decode cX6_gift 36 = .ok (.getfield 22, 3) := by decide +kernel
theorem dX6_gift_39 : decode cX6_gift 39 = .ok (.bipush 10, 2) := by decide +kernel
theorem dX6_gift_41 : decode cX6_gift 41 = .ok (.bipush 6, 2) := by decide +kernel
theorem dX6_gift_43 : decode cX6_gift 43 = .ok (.iload_n 2, 1) := by decide +kernel
theorem dX6_gift_44 : decode cX6_gift 44 = .ok (.imul, 1) := by decide +kernel
theorem dX6_gift_45 : decode cX6_gift 45 = .ok (.iadd, 1) := by decide +kernel
theorem dX6_gift_46 : decode cX6_gift 46 = .ok (.iload_n 1, 1) := by decide +kernel
theorem dX6_gift_47 : decode cX6_gift 47 = .ok (.iadd, 1) := by decide +kernel
theorem dX6_gift_48 : decode cX6_gift 48 = .ok (.iaload, 1) := by decide +kernel
theorem dX6_gift_49 : decode cX6_gift 49 = .ok (.iconst 4, 1) := by decide +kernel
theorem dX6_gift_50 : decode cX6_gift 50 = .ok (.iadd, 1) := by decide +kernel
theorem dX6_gift_51 : decode cX6_gift 51 = .ok (.ireturn, 1) := by decide +kernel
theorem dX6_pay_0 : decode cX6_pay 0 = .ok (.aload_n 0, 1) := by decide +kernel
theorem dX6_pay_1 : decode cX6_pay 1 = .ok (.iload_n 1, 1) := by decide +kernel
theorem dX6_pay_2 : decode cX6_pay 2 = .ok (.iload_n 2, 1) := by decide +kernel
theorem dX6_pay_3 : decode cX6_pay 3 = .ok (.invokevirtual 147, 3) := by decide +kernel
theorem dX6_pay_6 : decode cX6_pay 6 = .ok (.ifCond .ne 5, 3) := by decide +kernel
theorem dX6_pay_9 : decode cX6_pay 9 = .ok (.iconst (-1), 1) := by decide +kernel
theorem dX6_pay_10 : decode cX6_pay 10 = .ok (.ireturn, 1) := by decide +kernel
theorem dX6_pay_11 : decode cX6_pay 11 = .ok (.aload_n 0, 1) := by decide +kernel
theorem dX6_pay_12 : decode cX6_pay 12 = .ok (.getfield 22, 3) := by decide +kernel
theorem dX6_pay_15 : decode cX6_pay 15 = .ok (.bipush 46, 2) := by decide +kernel
theorem dX6_pay_17 : decode cX6_pay 17 = .ok (.bipush 6, 2) := by decide +kernel
theorem dX6_pay_19 : decode cX6_pay 19 = .ok (.iload_n 1, 1) := by decide +kernel
theorem dX6_pay_20 : decode cX6_pay 20 = .ok (.imul, 1) := by decide +kernel
theorem dX6_pay_21 : decode cX6_pay 21 = .ok (.iadd, 1) := by decide +kernel
theorem dX6_pay_22 : decode cX6_pay 22 = .ok (.iload_n 2, 1) := by decide +kernel
theorem dX6_pay_23 : decode cX6_pay 23 = .ok (.iadd, 1) := by decide +kernel
theorem dX6_pay_24 : decode cX6_pay 24 = .ok (.iaload, 1) := by decide +kernel
theorem dX6_pay_25 : decode cX6_pay 25 = .ok (.ifCond .eq 12, 3) := by decide +kernel
theorem dX6_pay_28 : decode cX6_pay 28 = .ok (.aload_n 0, 1) := by decide +kernel
theorem dX6_pay_29 : decode cX6_pay 29 = .ok (.getfield 22, 3) := by decide +kernel
theorem dX6_pay_32 : decode cX6_pay 32 = .ok (.iload_n 1, 1) := by decide +kernel
theorem dX6_pay_33 : decode cX6_pay 33 = .ok (.iaload, 1) := by decide +kernel
theorem dX6_pay_34 : decode cX6_pay 34 = .ok (.ifCond .ne 6, 3) := by decide +kernel
theorem dX6_pay_37 : decode cX6_pay 37 = .ok (.bipush (-2), 2) := by decide +kernel
theorem dX6_pay_39 : decode cX6_pay 39 = .ok (.ireturn, 1) := by decide +kernel
theorem dX6_pay_40 : decode cX6_pay 40 = .ok (.aload_n 0, 1) := by decide +kernel
theorem dX6_pay_41 : decode cX6_pay 41 = .ok (.invokevirtual 194, 3) := by decide +kernel
theorem dX6_pay_44 : decode cX6_pay 44 = .ok (.aload_n 0, 1) := by decide +kernel
theorem dX6_pay_45 : decode cX6_pay 45 = .ok (.iconst 0, 1) := by decide +kernel
theorem dX6_pay_46 : decode cX6_pay 46 = .ok (.iload_n 1, 1) := by decide +kernel
theorem dX6_pay_47 : decode cX6_pay 47 = .ok (.iload_n 2, 1) := by decide +kernel
theorem dX6_pay_48 : decode cX6_pay 48 = .ok (.aload_n 0, 1) := by decide +kernel
theorem dX6_pay_49 : decode cX6_pay 49 = .ok (.getfield 22, 3) := by decide +kernel
theorem dX6_pay_52 : decode cX6_pay 52 = .ok (.bipush 46, 2) := by decide +kernel
theorem dX6_pay_54 : decode cX6_pay 54 = .ok (.bipush 6, 2) := by decide +kernel
theorem dX6_pay_56 : decode cX6_pay 56 = .ok (.iload_n 1, 1) := by decide +kernel
theorem dX6_pay_57 : decode cX6_pay 57 = .ok (.imul, 1) := by decide +kernel
theorem dX6_pay_58 : decode cX6_pay 58 = .ok (.iadd, 1) := by decide +kernel
theorem dX6_pay_59 : decode cX6_pay 59 = .ok (.iload_n 2, 1) := by decide +kernel
theorem dX6_pay_60 : decode cX6_pay 60 = .ok (.iadd, 1) := by decide +kernel
theorem dX6_pay_61 : decode cX6_pay 61 = .ok (.iaload, 1) := by decide +kernel
theorem dX6_pay_62 : decode cX6_pay 62 = .ok (.invokevirtual 171, 3) := by decide +kernel
theorem dX6_pay_65 : decode cX6_pay 65 = .ok (.ireturn, 1) := by decide +kernel
theorem dX6_die_0 : decode cX6_die 0 = .ok (.aload_n 0, 1) := by decide +kernel
theorem dX6_die_1 : decode cX6_die 1 = .ok (.iload_n 1, 1) := by decide +kernel
theorem dX6_die_2 : decode cX6_die 2 = .ok (.invokevirtual 75, 3) := by decide +kernel
theorem dX6_die_5 : decode cX6_die 5 = .ok (.ifCond .ne 5, 3) := by decide +kernel
theorem dX6_die_8 : decode cX6_die 8 = .ok (.iconst (-1), 1) := by decide +kernel
theorem dX6_die_9 : decode cX6_die 9 = .ok (.ireturn, 1) := by decide +kernel
theorem dX6_die_10 : decode cX6_die 10 = .ok (.aload_n 0, 1) := by decide +kernel
theorem dX6_die_11 : decode cX6_die 11 = .ok (.iconst 0, 1) := by decide +kernel
theorem dX6_die_12 : decode cX6_die 12 = .ok (.iload_n 1, 1) := by decide +kernel
theorem dX6_die_13 : decode cX6_die 13 = .ok (.invokevirtual 136, 3) := by decide +kernel
theorem dX6_die_16 : decode cX6_die 16 = .ok (.ifCond .ne 6, 3) := by decide +kernel
theorem dX6_die_19 : decode cX6_die 19 = .ok (.bipush (-2), 2) := by decide +kernel
theorem dX6_die_21 : decode cX6_die 21 = .ok (.ireturn, 1) := by decide +kernel
theorem dX6_die_22 : decode cX6_die 22 = .ok (.aload_n 0, 1) := by decide +kernel
theorem dX6_die_23 : decode cX6_die 23 = .ok (.invokevirtual 194, 3) := by decide +kernel
theorem dX6_die_26 : decode cX6_die 26 = .ok (.aload_n 0, 1) := by decide +kernel
theorem dX6_die_27 : decode cX6_die 27 = .ok (.iconst 0, 1) := by decide +kernel
theorem dX6_die_28 : decode cX6_die 28 = .ok (.iload_n 1, 1) := by decide +kernel
theorem dX6_die_29 : decode cX6_die 29 = .ok (.invokevirtual 144, 3) := by decide +kernel
theorem dX6_die_32 : decode cX6_die 32 = .ok (.istore_n 2, 1) := by decide +kernel
theorem dX6_die_33 : decode cX6_die 33 = .ok (.aload_n 0, 1) := by decide +kernel
theorem dX6_die_34 : decode cX6_die 34 = .ok (.getfield 22, 3) := by decide +kernel
theorem dX6_die_37 : decode cX6_die 37 = .ok (.bipush 6, 2) := by decide +kernel
theorem dX6_die_39 : decode cX6_die 39 = .ok (.dup2, 1) := by decide +kernel
theorem dX6_die_40 : decode cX6_die 40 = .ok (.iaload, 1) := by decide +kernel
theorem dX6_die_41 : decode cX6_die 41 = .ok (.iconst 1, 1) := by decide +kernel
theorem dX6_die_42 : decode cX6_die 42 = .ok (.iload_n 1, 1) := by decide +kernel
theorem dX6_die_43 : decode cX6_die 43 = .ok (.ishl, 1) := by decide +kernel
theorem dX6_die_44 : decode cX6_die 44 = .ok (.ior, 1) := by decide +kernel
theorem dX6_die_45 : decode cX6_die 45 = .ok (.iastore, 1) := by decide +kernel
theorem dX6_die_46 : decode cX6_die 46 = .ok (.iload_n 2, 1) := by decide +kernel
theorem dX6_die_47 : decode cX6_die 47 = .ok (.ifCond .lt 15, 3) := by decide +kernel
theorem dX6_die_50 : decode cX6_die 50 = .ok (.aload_n 0, 1) := by decide +kernel
theorem dX6_die_51 : decode cX6_die 51 = .ok (.iconst 0, 1) := by decide +kernel
theorem dX6_die_52 : decode cX6_die 52 = .ok (.iload_n 2, 1) := by decide +kernel
theorem dX6_die_53 : decode cX6_die 53 = .ok (.aload_n 0, 1) := by decide +kernel
theorem dX6_die_54 : decode cX6_die 54 = .ok (.getfield 22, 3) := by decide +kernel
theorem dX6_die_57 : decode cX6_die 57 = .ok (.iload_n 1, 1) := by decide +kernel
theorem dX6_die_58 : decode cX6_die 58 = .ok (.iaload, 1) := by decide +kernel
theorem dX6_die_59 : decode cX6_die 59 = .ok (.invokevirtual 164, 3) := by decide +kernel
theorem dX6_die_62 : decode cX6_die 62 = .ok (.aload_n 0, 1) := by decide +kernel
theorem dX6_die_63 : decode cX6_die 63 = .ok (.getfield 22, 3) := by decide +kernel
theorem dX6_die_66 : decode cX6_die 66 = .ok (.iload_n 1, 1) := by decide +kernel
theorem dX6_die_67 : decode cX6_die 67 = .ok (.iconst 0, 1) := by decide +kernel
theorem dX6_die_68 : decode cX6_die 68 = .ok (.iastore, 1) := by decide +kernel
theorem dX6_die_69 : decode cX6_die 69 = .ok (.iconst 0, 1) := by decide +kernel
theorem dX6_die_70 : decode cX6_die 70 = .ok (.istore_n 3, 1) := by decide +kernel
theorem dX6_die_71 : decode cX6_die 71 = .ok (.iload_n 3, 1) := by decide +kernel
theorem dX6_die_72 : decode cX6_die 72 = .ok (.aload_n 0, 1) := by decide +kernel
theorem dX6_die_73 : decode cX6_die 73 = .ok (.getfield 65, 3) := by decide +kernel
theorem dX6_die_76 : decode cX6_die 76 = .ok (.if_icmp .ge 84, 3) := by decide +kernel
theorem dX6_die_79 : decode cX6_die 79 = .ok (.iload_n 2, 1) := by decide +kernel
theorem dX6_die_80 : decode cX6_die 80 = .ok (.ifCond .lt 44, 3) := by decide +kernel
theorem dX6_die_83 : decode cX6_die 83 = .ok (.iload_n 3, 1) := by decide +kernel
theorem dX6_die_84 : decode cX6_die 84 = .ok (.iload_n 2, 1) := by decide +kernel
theorem dX6_die_85 : decode cX6_die 85 = .ok (.if_icmp .eq 39, 3) := by decide +kernel
theorem dX6_die_88 : decode cX6_die 88 = .ok (.iload_n 3, 1) := by decide +kernel
theorem dX6_die_89 : decode cX6_die 89 = .ok (.iload_n 1, 1) := by decide +kernel
theorem dX6_die_90 : decode cX6_die 90 = .ok (.if_icmp .eq 34, 3) := by decide +kernel
theorem dX6_die_93 : decode cX6_die 93 = .ok (.aload_n 0, 1) := by decide +kernel
theorem dX6_die_94 : decode cX6_die 94 = .ok (.getfield 22, 3) := by decide +kernel
theorem dX6_die_97 : decode cX6_die 97 = .ok (.bipush 46, 2) := by decide +kernel
theorem dX6_die_99 : decode cX6_die 99 = .ok (.bipush 6, 2) := by decide +kernel
theorem dX6_die_101 : decode cX6_die 101 = .ok (.iload_n 3, 1) := by decide +kernel
theorem dX6_die_102 : decode cX6_die 102 = .ok (.imul, 1) := by decide +kernel
theorem dX6_die_103 : decode cX6_die 103 = .ok (.iadd, 1) := by decide +kernel
theorem dX6_die_104 : decode cX6_die 104 = .ok (.iload_n 2, 1) := by decide +kernel
theorem dX6_die_105 : decode cX6_die 105 = .ok (.iadd, 1) := by decide +kernel
theorem dX6_die_106 : decode cX6_die 106 = .ok (.dup2, 1) := by decide +kernel
theorem dX6_die_107 : decode cX6_die 107 = .ok (.iaload, 1) := by decide +kernel
theorem dX6_die_108 : decode cX6_die 108 = .ok (.aload_n 0, 1) := by decide +kernel
theorem dX6_die_109 : decode cX6_die 109 = .ok (.getfield 22, 3) := by decide +kernel
theorem dX6_die_112 : decode cX6_die 112 = .ok (.bipush 46, 2) := by decide +kernel
theorem dX6_die_114 : decode cX6_die 114 = .ok (.bipush 6, 2) := by decide +kernel
theorem dX6_die_116 : decode cX6_die 116 = .ok (.iload_n 3, 1) := by decide +kernel
theorem dX6_die_117 : decode cX6_die 117 = .ok (.imul, 1) := by decide +kernel
theorem dX6_die_118 : decode cX6_die 118 = .ok (.iadd, 1) := by decide +kernel
theorem dX6_die_119 : decode cX6_die 119 = .ok (.iload_n 1, 1) := by decide +kernel
theorem dX6_die_120 : decode cX6_die 120 = .ok (.iadd, 1) := by decide +kernel
theorem dX6_die_121 : decode cX6_die 121 = .ok (.iaload, 1) := by decide +kernel
theorem dX6_die_122 : decode cX6_die 122 = .ok (.iadd, 1) := by decide +kernel
theorem dX6_die_123 : decode cX6_die 123 = .ok (.iastore, 1) := by decide +kernel
theorem dX6_die_124 : decode cX6_die 124 = .ok (.aload_n 0, 1) := by decide +kernel
theorem dX6_die_125 : decode cX6_die 125 = .ok (.getfield 22, 3) := by decide +kernel
theorem dX6_die_128 : decode cX6_die 128 = .ok (.bipush 46, 2) := by decide +kernel
theorem dX6_die_130 : decode cX6_die 130 = .ok (.bipush 6, 2) := by decide +kernel
theorem dX6_die_132 : decode cX6_die 132 = .ok (.iload_n 3, 1) := by decide +kernel
theorem dX6_die_133 : decode cX6_die 133 = .ok (.imul, 1) := by decide +kernel
theorem dX6_die_134 : decode cX6_die 134 = .ok (.iadd, 1) := by decide +kernel
theorem dX6_die_135 : decode cX6_die 135 = .ok (.iload_n 1, 1) := by decide +kernel
theorem dX6_die_136 : decode cX6_die 136 = .ok (.iadd, 1) := by decide +kernel
theorem dX6_die_137 : decode cX6_die 137 = .ok (.iconst 0, 1) := by decide +kernel
theorem dX6_die_138 : decode cX6_die 138 = .ok (.iastore, 1) := by decide +kernel
theorem dX6_die_139 : decode cX6_die 139 = .ok (.aload_n 0, 1) := by decide +kernel
theorem dX6_die_140 : decode cX6_die 140 = .ok (.getfield 22, 3) := by decide +kernel
theorem dX6_die_143 : decode cX6_die 143 = .ok (.bipush 46, 2) := by decide +kernel
theorem dX6_die_145 : decode cX6_die 145 = .ok (.bipush 6, 2) := by decide +kernel
theorem dX6_die_147 : decode cX6_die 147 = .ok (.iload_n 1, 1) := by decide +kernel
theorem dX6_die_148 : decode cX6_die 148 = .ok (.imul, 1) := by decide +kernel
theorem dX6_die_149 : decode cX6_die 149 = .ok (.iadd, 1) := by decide +kernel
theorem dX6_die_150 : decode cX6_die 150 = .ok (.iload_n 3, 1) := by decide +kernel
theorem dX6_die_151 : decode cX6_die 151 = .ok (.iadd, 1) := by decide +kernel
theorem dX6_die_152 : decode cX6_die 152 = .ok (.iconst 0, 1) := by decide +kernel
theorem dX6_die_153 : decode cX6_die 153 = .ok (.iastore, 1) := by decide +kernel
theorem dX6_die_154 : decode cX6_die 154 = .ok (.iinc 3 1, 3) := by decide +kernel
theorem dX6_die_157 : decode cX6_die 157 = .ok (.goto (-86), 3) := by decide +kernel
theorem dX6_die_160 : decode cX6_die 160 = .ok (.iload_n 2, 1) := by decide +kernel
theorem dX6_die_161 : decode cX6_die 161 = .ok (.ireturn, 1) := by decide +kernel
theorem dX6_pass_0 : decode cX6_pass 0 = .ok (.iload_n 1, 1) := by decide +kernel
theorem dX6_pass_1 : decode cX6_pass 1 = .ok (.i2l, 1) := by decide +kernel
theorem dX6_pass_2 : decode cX6_pass 2 = .ok (.lconst 1, 1) := by decide +kernel
theorem dX6_pass_3 : decode cX6_pass 3 = .ok (.ldc2_w 207, 3) := by decide +kernel
theorem dX6_pass_6 : decode cX6_pass 6 = .ok (.invokestatic 71, 3) := by decide +kernel
theorem dX6_pass_9 : decode cX6_pass 9 = .ok (.ifCond .ne 5, 3) := by decide +kernel
theorem dX6_pass_12 : decode cX6_pass 12 = .ok (.iconst (-1), 1) := by decide +kernel
theorem dX6_pass_13 : decode cX6_pass 13 = .ok (.ireturn, 1) := by decide +kernel
theorem dX6_pass_14 : decode cX6_pass 14 = .ok (.aload_n 0, 1) := by decide +kernel
theorem dX6_pass_15 : decode cX6_pass 15 = .ok (.invokevirtual 194, 3) := by decide +kernel
theorem dX6_pass_18 : decode cX6_pass 18 = .ok (.aload_n 0, 1) := by decide +kernel
theorem dX6_pass_19 : decode cX6_pass 19 = .ok (.getfield 22, 3) := by decide +kernel
theorem dX6_pass_22 : decode cX6_pass 22 = .ok (.bipush 8, 2) := by decide +kernel
theorem dX6_pass_24 : decode cX6_pass 24 = .ok (.dup2, 1) := by decide +kernel
theorem dX6_pass_25 : decode cX6_pass 25 = .ok (.iaload, 1) := by decide +kernel
theorem dX6_pass_26 : decode cX6_pass 26 = .ok (.iload_n 1, 1) := by decide +kernel
theorem dX6_pass_27 : decode cX6_pass 27 = .ok (.iadd, 1) := by decide +kernel
theorem dX6_pass_28 : decode cX6_pass 28 = .ok (.iastore, 1) := by decide +kernel
theorem dX6_pass_29 : decode cX6_pass 29 = .ok (.aload_n 0, 1) := by decide +kernel
theorem dX6_pass_30 : decode cX6_pass 30 = .ok (.getfield 22, 3) := by decide +kernel
theorem dX6_pass_33 : decode cX6_pass 33 = .ok (.bipush 9, 2) := by decide +kernel
theorem dX6_pass_35 : decode cX6_pass 35 = .ok (.iconst 0, 1) := by decide +kernel
theorem dX6_pass_36 : decode cX6_pass 36 = .ok (.iastore, 1) := by decide +kernel
theorem dX6_pass_37 : decode cX6_pass 37 = .ok (.aload_n 0, 1) := by decide +kernel
theorem dX6_pass_38 : decode cX6_pass 38 = .ok (.getfield 22, 3) := by decide +kernel
theorem dX6_pass_41 : decode cX6_pass 41 = .ok (.bipush 8, 2) := by decide +kernel
theorem dX6_pass_43 : decode cX6_pass 43 = .ok (.iaload, 1) := by decide +kernel
theorem dX6_pass_44 : decode cX6_pass 44 = .ok (.ireturn, 1) := by decide +kernel
theorem dX6_undo_0 : decode cX6_undo 0 = .ok (.aload_n 0, 1) := by decide +kernel
theorem dX6_undo_1 : decode cX6_undo 1 = .ok (.getfield 123, 3) := by decide +kernel
theorem dX6_undo_4 : decode cX6_undo 4 = .ok (.ifCond .ne 6, 3) := by decide +kernel
theorem dX6_undo_7 : decode cX6_undo 7 = .ok (.bipush (-2), 2) := by decide +kernel
theorem dX6_undo_9 : decode cX6_undo 9 = .ok (.ireturn, 1) := by decide +kernel
theorem dX6_undo_10 : decode cX6_undo 10 = .ok (.aload_n 0, 1) := by decide +kernel
theorem dX6_undo_11 : decode cX6_undo 11 = .ok (.aload_n 0, 1) := by decide +kernel
theorem dX6_undo_12 : decode cX6_undo 12 = .ok (.getfield 123, 3) := by decide +kernel
theorem dX6_undo_15 : decode cX6_undo 15 = .ok (.bipush 82, 2) := by decide +kernel
theorem dX6_undo_17 : decode cX6_undo 17 = .ok (.imul, 1) := by decide +kernel
theorem dX6_undo_18 : decode cX6_undo 18 = .ok (.iconst 0, 1) := by decide +kernel
theorem dX6_undo_19 : decode cX6_undo 19 = .ok (.invokevirtual 119, 3) := by decide +kernel
theorem dX6_undo_22 : decode cX6_undo 22 = .ok (.aload_n 0, 1) := by decide +kernel
theorem dX6_undo_23 : decode cX6_undo 23 = .ok (.dup, 1) := by decide +kernel
theorem dX6_undo_24 : decode cX6_undo 24 = .ok (.getfield 123, 3) := by decide +kernel
theorem dX6_undo_27 : decode cX6_undo 27 = .ok (.iconst 1, 1) := by decide +kernel
theorem dX6_undo_28 : decode cX6_undo 28 = .ok (.isub, 1) := by decide +kernel
theorem dX6_undo_29 : decode cX6_undo 29 = .ok (.putfield 123, 3) := by decide +kernel
theorem dX6_undo_32 : decode cX6_undo 32 = .ok (.aload_n 0, 1) := by decide +kernel
theorem dX6_undo_33 : decode cX6_undo 33 = .ok (.getfield 123, 3) := by decide +kernel
theorem dX6_undo_36 : decode cX6_undo 36 = .ok (.ireturn, 1) := by decide +kernel
theorem dX6_come_0 : decode cX6_come 0 = .ok (.aload_n 0, 1) := by decide +kernel
theorem dX6_come_1 : decode cX6_come 1 = .ok (.iload_n 1, 1) := by decide +kernel
theorem dX6_come_2 : decode cX6_come 2 = .ok (.invokevirtual 75, 3) := by decide +kernel
theorem dX6_come_5 : decode cX6_come 5 = .ok (.ifCond .eq 22, 3) := by decide +kernel
theorem dX6_come_8 : decode cX6_come 8 = .ok (.iload_n 2, 1) := by decide +kernel
theorem dX6_come_9 : decode cX6_come 9 = .ok (.iload_n 3, 1) := by decide +kernel
theorem dX6_come_10 : decode cX6_come 10 = .ok (.invokestatic 187, 3) := by decide +kernel
theorem dX6_come_13 : decode cX6_come 13 = .ok (.ifCond .eq 14, 3) := by decide +kernel
theorem dX6_come_16 : decode cX6_come 16 = .ok (.iload 4, 2) := by decide +kernel
theorem dX6_come_18 : decode cX6_come 18 = .ok (.i2l, 1) := by decide +kernel
theorem dX6_come_19 : decode cX6_come 19 = .ok (.lconst 0, 1) := by decide +kernel
theorem dX6_come_20 : decode cX6_come 20 = .ok (.lconst 1, 1) := by decide +kernel
theorem dX6_come_21 : decode cX6_come 21 = .ok (.invokestatic 71, 3) := by decide +kernel
theorem dX6_come_24 : decode cX6_come 24 = .ok (.ifCond .ne 5, 3) := by decide +kernel
theorem dX6_come_27 : decode cX6_come 27 = .ok (.iconst (-1), 1) := by decide +kernel
theorem dX6_come_28 : decode cX6_come 28 = .ok (.ireturn, 1) := by decide +kernel
theorem dX6_come_29 : decode cX6_come 29 = .ok (.aload_n 0, 1) := by decide +kernel
theorem dX6_come_30 : decode cX6_come 30 = .ok (.iconst 0, 1) := by decide +kernel
theorem dX6_come_31 : decode cX6_come 31 = .ok (.iload_n 1, 1) := by decide +kernel
theorem dX6_come_32 : decode cX6_come 32 = .ok (.invokevirtual 136, 3) := by decide +kernel
theorem dX6_come_35 : decode cX6_come 35 = .ok (.ifCond .ne 6, 3) := by decide +kernel
theorem dX6_come_38 : decode cX6_come 38 = .ok (.bipush (-2), 2) := by decide +kernel
theorem dX6_come_40 : decode cX6_come 40 = .ok (.ireturn, 1) := by decide +kernel
theorem dX6_come_41 : decode cX6_come 41 = .ok (.aload_n 0, 1) := by decide +kernel
theorem dX6_come_42 : decode cX6_come 42 = .ok (.iconst 0, 1) := by decide +kernel
theorem dX6_come_43 : decode cX6_come 43 = .ok (.iload_n 1, 1) := by decide +kernel
theorem dX6_come_44 : decode cX6_come 44 = .ok (.iload_n 2, 1) := by decide +kernel
theorem dX6_come_45 : decode cX6_come 45 = .ok (.iload_n 3, 1) := by decide +kernel
theorem dX6_come_46 : decode cX6_come 46 = .ok (.invokevirtual 178, 3) := by decide +kernel
theorem dX6_come_49 : decode cX6_come 49 = .ok (.istore 5, 2) := by decide +kernel
theorem dX6_come_51 : decode cX6_come 51 = .ok (.iload 4, 2) := by decide +kernel
theorem dX6_come_53 : decode cX6_come 53 = .ok (.ifCond .ne 11, 3) := by decide +kernel
theorem dX6_come_56 : decode cX6_come 56 = .ok (.iload 5, 2) := by decide +kernel
theorem dX6_come_58 : decode cX6_come 58 = .ok (.invokestatic 209, 3) := by decide +kernel
theorem dX6_come_61 : decode cX6_come 61 = .ok (.goto 5, 3) := by decide +kernel
theorem dX6_come_64 : decode cX6_come 64 = .ok (.iload 5, 2) := by decide +kernel
theorem dX6_come_66 : decode cX6_come 66 = .ok (.ireturn, 1) := by decide +kernel
theorem dX6_isSet_0 : decode cX6_isSet 0 = .ok (.iload_n 2, 1) := by decide +kernel
theorem dX6_isSet_1 : decode cX6_isSet 1 = .ok (.i2l, 1) := by decide +kernel
theorem dX6_isSet_2 : decode cX6_isSet 2 = .ok (.lconst 1, 1) := by decide +kernel
theorem dX6_isSet_3 : decode cX6_isSet 3 = .ok (.iconst 1, 1) := by decide +kernel
theorem dX6_isSet_4 : decode cX6_isSet 4 = .ok (.aload_n 0, 1) := by decide +kernel
theorem dX6_isSet_5 : decode cX6_isSet 5 = .ok (.getfield 65, 3) := by decide +kernel
theorem dX6_isSet_8 : decode cX6_isSet 8 = .ok (.ishl, 1) := by decide +kernel
theorem dX6_isSet_9 : decode cX6_isSet 9 = .ok (.iconst 1, 1) := by decide +kernel
theorem dX6_isSet_10 : decode cX6_isSet 10 = .ok (.isub, 1) := by decide +kernel
theorem dX6_isSet_11 : decode cX6_isSet 11 = .ok (.i2l, 1) := by decide +kernel
theorem dX6_isSet_12 : decode cX6_isSet 12 = .ok (.invokestatic 71, 3) := by decide +kernel
theorem dX6_isSet_15 : decode cX6_isSet 15 = .ok (.ifCond .eq 15, 3) := by decide +kernel
theorem dX6_isSet_18 : decode cX6_isSet 18 = .ok (.iload_n 2, 1) := by decide +kernel
theorem dX6_isSet_19 : decode cX6_isSet 19 = .ok (.iload_n 1, 1) := by decide +kernel
theorem dX6_isSet_20 : decode cX6_isSet 20 = .ok (.invokestatic 132, 3) := by decide +kernel
theorem dX6_isSet_23 : decode cX6_isSet 23 = .ok (.ifCond .ne 7, 3) := by decide +kernel
theorem dX6_isSet_26 : decode cX6_isSet 26 = .ok (.iconst 1, 1) := by decide +kernel
theorem dX6_isSet_27 : decode cX6_isSet 27 = .ok (.goto 4, 3) := by decide +kernel
theorem dX6_isSet_30 : decode cX6_isSet 30 = .ok (.iconst 0, 1) := by decide +kernel
theorem dX6_isSet_31 : decode cX6_isSet 31 = .ok (.ireturn, 1) := by decide +kernel
theorem dX6_cheapest_0 : decode cX6_cheapest 0 = .ok (.aload_n 0, 1) := by decide +kernel
theorem dX6_cheapest_1 : decode cX6_cheapest 1 = .ok (.iload_n 1, 1) := by decide +kernel
theorem dX6_cheapest_2 : decode cX6_cheapest 2 = .ok (.invokevirtual 75, 3) := by decide +kernel
theorem dX6_cheapest_5 : decode cX6_cheapest 5 = .ok (.ifCond .eq 22, 3) := by decide +kernel
theorem dX6_cheapest_8 : decode cX6_cheapest 8 = .ok (.aload_n 0, 1) := by decide +kernel
theorem dX6_cheapest_9 : decode cX6_cheapest 9 = .ok (.iload_n 1, 1) := by decide +kernel
theorem dX6_cheapest_10 : decode cX6_cheapest 10 = .ok (.iload_n 2, 1) := by decide +kernel
theorem dX6_cheapest_11 : decode cX6_cheapest 11 = .ok (.invokevirtual 213, 3) := by decide +kernel
theorem dX6_cheapest_14 : decode cX6_cheapest 14 = .ok (.ifCond .eq 13, 3) := by decide +kernel
theorem dX6_cheapest_17 : decode cX6_cheapest 17 = .ok (.iload_n 3, 1) := by decide +kernel
theorem dX6_cheapest_18 : decode cX6_cheapest 18 = .ok (.i2l, 1) := by decide +kernel
theorem dX6_cheapest_19 : decode cX6_cheapest 19 = .ok (.lconst 0, 1) := by decide +kernel
theorem dX6_cheapest_20 : decode cX6_cheapest 20 = .ok (.lconst 1, 1) := by decide +kernel
theorem dX6_cheapest_21 : decode cX6_cheapest 21 = .ok (.invokestatic 71, 3) := by decide +kernel
theorem dX6_cheapest_24 : decode cX6_cheapest 24 = .ok (.ifCond .ne 5, 3) := by decide +kernel
theorem dX6_cheapest_27 : decode cX6_cheapest 27 = .ok (.iconst (-1), 1) := by decide +kernel
theorem dX6_cheapest_28 : decode cX6_cheapest 28 = .ok (.ireturn, 1) := by decide +kernel
theorem dX6_cheapest_29 : decode cX6_cheapest 29 = .ok (.aload_n 0, 1) := by decide +kernel
theorem dX6_cheapest_30 : decode cX6_cheapest 30 = .ok (.iconst 0, 1) := by decide +kernel
theorem dX6_cheapest_31 : decode cX6_cheapest 31 = .ok (.iload_n 1, 1) := by decide +kernel
theorem dX6_cheapest_32 : decode cX6_cheapest 32 = .ok (.invokevirtual 136, 3) := by decide +kernel
theorem dX6_cheapest_35 : decode cX6_cheapest 35 = .ok (.ifCond .ne 6, 3) := by decide +kernel
theorem dX6_cheapest_38 : decode cX6_cheapest 38 = .ok (.bipush (-2), 2) := by decide +kernel
theorem dX6_cheapest_40 : decode cX6_cheapest 40 = .ok (.ireturn, 1) := by decide +kernel
theorem dX6_cheapest_41 : decode cX6_cheapest 41 = .ok (.bipush (-4), 2) := by decide +kernel
theorem dX6_cheapest_43 : decode cX6_cheapest 43 = .ok (.istore 4, 2) := by decide +kernel
theorem dX6_cheapest_45 : decode cX6_cheapest 45 = .ok (.sipush 999, 3) := by decide +kernel
theorem dX6_cheapest_48 : decode cX6_cheapest 48 = .ok (.istore 5, 2) := by decide +kernel
theorem dX6_cheapest_50 : decode cX6_cheapest 50 = .ok (.iconst 0, 1) := by decide +kernel
theorem dX6_cheapest_51 : decode cX6_cheapest 51 = .ok (.istore 6, 2) := by decide +kernel
theorem dX6_cheapest_53 : decode cX6_cheapest 53 = .ok (.iload 6, 2) := by decide +kernel
theorem dX6_cheapest_55 : decode cX6_cheapest 55 = .ok (.bipush 16, 2) := by decide +kernel
theorem dX6_cheapest_57 : decode cX6_cheapest 57 = .ok (.if_icmp .ge 100, 3) := by decide +kernel
theorem dX6_cheapest_60 : decode cX6_cheapest 60 = .ok (.iload 6, 2) := by decide +kernel
theorem dX6_cheapest_62 : decode cX6_cheapest 62 = .ok (.iconst 4, 1) := by decide +kernel
theorem dX6_cheapest_63 : decode cX6_cheapest 63 = .ok (.idiv, 1) := by decide +kernel
theorem dX6_cheapest_64 : decode cX6_cheapest 64 = .ok (.istore 7, 2) := by decide +kernel
theorem dX6_cheapest_66 : decode cX6_cheapest 66 = .ok (.iload 6, 2) := by decide +kernel
theorem dX6_cheapest_68 : decode cX6_cheapest 68 = .ok (.iconst 4, 1) := by decide +kernel
theorem dX6_cheapest_69 : decode cX6_cheapest 69 = .ok (.irem, 1) := by decide +kernel
theorem dX6_cheapest_70 : decode cX6_cheapest 70 = .ok (.istore 8, 2) := by decide +kernel
theorem dX6_cheapest_72 : decode cX6_cheapest 72 = .ok (.iload_n 2, 1) := by decide +kernel
theorem dX6_cheapest_73 : decode cX6_cheapest 73 = .ok (.aload_n 0, 1) := by decide +kernel
theorem dX6_cheapest_74 : decode cX6_cheapest 74 = .ok (.iconst 0, 1) := by decide +kernel
theorem dX6_cheapest_75 : decode cX6_cheapest 75 = .ok (.iload_n 1, 1) := by decide +kernel
theorem dX6_cheapest_76 : decode cX6_cheapest 76 = .ok (.iload 7, 2) := by decide +kernel
theorem dX6_cheapest_78 : decode cX6_cheapest 78 = .ok (.iload 8, 2) := by decide +kernel
theorem dX6_cheapest_80 : decode cX6_cheapest 80 = .ok (.invokevirtual 178, 3) := by decide +kernel
theorem dX6_cheapest_83 : decode cX6_cheapest 83 = .ok (.iconst (-1), 1) := by decide +kernel
theorem dX6_cheapest_84 : decode cX6_cheapest 84 = .ok (.ixor, 1) := by decide +kernel
theorem dX6_cheapest_85 : decode cX6_cheapest 85 = .ok (.iand, 1) := by decide +kernel
theorem dX6_cheapest_86 : decode cX6_cheapest 86 = .ok (.ifCond .ne 21, 3) := by decide +kernel
theorem dX6_cheapest_89 : decode cX6_cheapest 89 = .ok (.iconst 2, 1) := by decide +kernel
theorem dX6_cheapest_90 : decode cX6_cheapest 90 = .ok (.iload 7, 2) := by decide +kernel
theorem dX6_cheapest_92 : decode cX6_cheapest 92 = .ok (.imul, 1) := by decide +kernel
theorem dX6_cheapest_93 : decode cX6_cheapest 93 = .ok (.iconst 3, 1) := by decide +kernel
theorem dX6_cheapest_94 : decode cX6_cheapest 94 = .ok (.iload 8, 2) := by decide +kernel
theorem dX6_cheapest_96 : decode cX6_cheapest 96 = .ok (.imul, 1) := by decide +kernel
theorem dX6_cheapest_97 : decode cX6_cheapest 97 = .ok (.iadd, 1) := by decide +kernel
theorem dX6_cheapest_98 : decode cX6_cheapest 98 = .ok (.iload 5, 2) := by decide +kernel
theorem dX6_cheapest_100 : decode cX6_cheapest 100 = .ok (.if_icmp .ge 7, 3) := by decide +kernel
theorem dX6_cheapest_103 : decode cX6_cheapest 103 = .ok (.iconst 1, 1) := by decide +kernel
theorem dX6_cheapest_104 : decode cX6_cheapest 104 = .ok (.goto 4, 3) := by decide +kernel
theorem dX6_cheapest_107 : decode cX6_cheapest 107 = .ok (.iconst 0, 1) := by decide +kernel
theorem dX6_cheapest_108 : decode cX6_cheapest 108 = .ok (.istore 9, 2) := by decide +kernel
theorem dX6_cheapest_110 : decode cX6_cheapest 110 = .ok (.iload 9, 2) := by decide +kernel
theorem dX6_cheapest_112 : decode cX6_cheapest 112 = .ok (.ifCond .eq 14, 3) := by decide +kernel
theorem dX6_cheapest_115 : decode cX6_cheapest 115 = .ok (.bipush 10, 2) := by decide +kernel
theorem dX6_cheapest_117 : decode cX6_cheapest 117 = .ok (.iload 7, 2) := by decide +kernel
theorem dX6_cheapest_119 : decode cX6_cheapest 119 = .ok (.imul, 1) := by decide +kernel
theorem dX6_cheapest_120 : decode cX6_cheapest 120 = .ok (.iload 8, 2) := by decide +kernel
theorem dX6_cheapest_122 : decode cX6_cheapest 122 = .ok (.iadd, 1) := by decide +kernel
theorem dX6_cheapest_123 : decode cX6_cheapest 123 = .ok (.goto 5, 3) := by decide +kernel
theorem dX6_cheapest_126 : decode cX6_cheapest 126 = .ok (.iload 4, 2) := by decide +kernel
theorem dX6_cheapest_128 : decode cX6_cheapest 128 = .ok (.istore 4, 2) := by decide +kernel
theorem dX6_cheapest_130 : decode cX6_cheapest 130 = .ok (.iload 9, 2) := by decide +kernel
theorem dX6_cheapest_132 : decode cX6_cheapest 132 = .ok (.ifCond .eq 15, 3) := by decide +kernel
theorem dX6_cheapest_135 : decode cX6_cheapest 135 = .ok (.iconst 2, 1) := by decide +kernel
theorem dX6_cheapest_136 : decode cX6_cheapest 136 = .ok (.iload 7, 2) := by decide +kernel
theorem dX6_cheapest_138 : decode cX6_cheapest 138 = .ok (.imul, 1) := by decide +kernel
theorem dX6_cheapest_139 : decode cX6_cheapest 139 = .ok (.iconst 3, 1) := by decide +kernel
theorem dX6_cheapest_140 : decode cX6_cheapest 140 = .ok (.iload 8, 2) := by decide +kernel
theorem dX6_cheapest_142 : decode cX6_cheapest 142 = .ok (.imul, 1) := by decide +kernel
theorem dX6_cheapest_143 : decode cX6_cheapest 143 = .ok (.iadd, 1) := by decide +kernel
theorem dX6_cheapest_144 : decode cX6_cheapest 144 = .ok (.goto 5, 3) := by decide +kernel
theorem dX6_cheapest_147 : decode cX6_cheapest 147 = .ok (.iload 5, 2) := by decide +kernel
theorem dX6_cheapest_149 : decode cX6_cheapest 149 = .ok (.istore 5, 2) := by decide +kernel
theorem dX6_cheapest_151 : decode cX6_cheapest 151 = .ok (.iinc 6 1, 3) := by decide +kernel
theorem dX6_cheapest_154 : decode cX6_cheapest 154 = .ok (.goto (-101), 3) := by decide +kernel
theorem dX6_cheapest_157 : decode cX6_cheapest 157 = .ok (.iload 4, 2) := by decide +kernel
theorem dX6_cheapest_159 : decode cX6_cheapest 159 = .ok (.ifCond .lt 8, 3) := by decide +kernel
theorem dX6_cheapest_162 : decode cX6_cheapest 162 = .ok (.iload_n 3, 1) := by decide +kernel
theorem dX6_cheapest_163 : decode cX6_cheapest 163 = .ok (.iconst 1, 1) := by decide +kernel
theorem dX6_cheapest_164 : decode cX6_cheapest 164 = .ok (.if_icmp .ne 8, 3) := by decide +kernel
theorem dX6_cheapest_167 : decode cX6_cheapest 167 = .ok (.iload 4, 2) := by decide +kernel
theorem dX6_cheapest_169 : decode cX6_cheapest 169 = .ok (.goto 5, 3) := by decide +kernel
theorem dX6_cheapest_172 : decode cX6_cheapest 172 = .ok (.iload 5, 2) := by decide +kernel
theorem dX6_cheapest_174 : decode cX6_cheapest 174 = .ok (.ireturn, 1) := by decide +kernel
theorem dX6_gifts_0 : decode cX6_gifts 0 = .ok (.aload_n 0, 1) := by decide +kernel
theorem dX6_gifts_1 : decode cX6_gifts 1 = .ok (.iload_n 1, 1) := by decide +kernel
theorem dX6_gifts_2 : decode cX6_gifts 2 = .ok (.invokevirtual 75, 3) := by decide +kernel
theorem dX6_gifts_5 : decode cX6_gifts 5 = .ok (.ifCond .eq 21, 3) := by decide +kernel
theorem dX6_gifts_8 : decode cX6_gifts 8 = .ok (.aload_n 0, 1) := by decide +kernel
theorem dX6_gifts_9 : decode cX6_gifts 9 = .ok (.iload_n 1, 1) := by decide +kernel
theorem dX6_gifts_10 : decode cX6_gifts 10 = .ok (.iload_n 2, 1) := by decide +kernel
theorem dX6_gifts_11 : decode cX6_gifts 11 = .ok (.invokevirtual 213, 3) := by decide +kernel
theorem dX6_gifts_14 : decode cX6_gifts 14 = .ok (.ifCond .eq 12, 3) := by decide +kernel
theorem dX6_gifts_17 : decode cX6_gifts 17 = .ok (.iload_n 3, 1) := by decide +kernel
theorem dX6_gifts_18 : decode cX6_gifts 18 = .ok (.iload 4, 2) := by decide +kernel
theorem dX6_gifts_20 : decode cX6_gifts 20 = .ok (.invokestatic 187, 3) := by decide +kernel
theorem dX6_gifts_23 : decode cX6_gifts 23 = .ok (.ifCond .ne 5, 3) := by decide +kernel
theorem dX6_gifts_26 : decode cX6_gifts 26 = .ok (.iconst (-1), 1) := by decide +kernel
theorem dX6_gifts_27 : decode cX6_gifts 27 = .ok (.ireturn, 1) := by decide +kernel
theorem dX6_gifts_28 : decode cX6_gifts 28 = .ok (.aload_n 0, 1) := by decide +kernel
theorem dX6_gifts_29 : decode cX6_gifts 29 = .ok (.iconst 0, 1) := by decide +kernel
theorem dX6_gifts_30 : decode cX6_gifts 30 = .ok (.iload_n 1, 1) := by decide +kernel
theorem dX6_gifts_31 : decode cX6_gifts 31 = .ok (.invokevirtual 136, 3) := by decide +kernel
theorem dX6_gifts_34 : decode cX6_gifts 34 = .ok (.ifCond .ne 6, 3) := by decide +kernel
theorem dX6_gifts_37 : decode cX6_gifts 37 = .ok (.bipush (-2), 2) := by decide +kernel
theorem dX6_gifts_39 : decode cX6_gifts 39 = .ok (.ireturn, 1) := by decide +kernel
theorem dX6_gifts_40 : decode cX6_gifts 40 = .ok (.iconst 0, 1) := by decide +kernel
theorem dX6_gifts_41 : decode cX6_gifts 41 = .ok (.istore 5, 2) := by decide +kernel
theorem dX6_gifts_43 : decode cX6_gifts 43 = .ok (.iconst 0, 1) := by decide +kernel
theorem dX6_gifts_44 : decode cX6_gifts 44 = .ok (.istore 6, 2) := by decide +kernel
theorem dX6_gifts_46 : decode cX6_gifts 46 = .ok (.iload 6, 2) := by decide +kernel
theorem dX6_gifts_48 : decode cX6_gifts 48 = .ok (.aload_n 0, 1) := by decide +kernel
theorem dX6_gifts_49 : decode cX6_gifts 49 = .ok (.getfield 65, 3) := by decide +kernel
theorem dX6_gifts_52 : decode cX6_gifts 52 = .ok (.if_icmp .ge 115, 3) := by decide +kernel
theorem dX6_gifts_55 : decode cX6_gifts 55 = .ok (.iload 5, 2) := by decide +kernel
