theorem dX5_mutual_66 : decode cX5_mutual 66 = .ok (.iload_n 2, 1) := by decide +kernel
theorem dX5_mutual_67 : decode cX5_mutual 67 = .ok (.iload 6, 2) := by decide +kernel
theorem dX5_mutual_69 : decode cX5_mutual 69 = .ok (.invokevirtual 211, 3) := by decide +kernel
theorem dX5_mutual_72 : decode cX5_mutual 72 = .ok (.ifCond .eq 17, 3) := by decide +kernel
theorem dX5_mutual_75 : decode cX5_mutual 75 = .ok (.iinc 4 1, 3) := by decide +kernel
theorem dX5_mutual_78 : decode cX5_mutual 78 = .ok (.iload 5, 2) := by decide +kernel
theorem dX5_mutual_80 : decode cX5_mutual 80 = .ok (.bipush (-4), 2) := by decide +kernel
theorem dX5_mutual_82 : decode cX5_mutual 82 = .ok (.if_icmp .ne 7, 3) := by decide +kernel
theorem dX5_mutual_85 : decode cX5_mutual 85 = .ok (.iload 6, 2) := by decide +kernel
theorem dX5_mutual_87 : decode cX5_mutual 87 = .ok (.istore 5, 2) := by decide +kernel
theorem dX5_mutual_89 : decode cX5_mutual 89 = .ok (.iinc 6 1, 3) := by decide +kernel
theorem dX5_mutual_92 : decode cX5_mutual 92 = .ok (.goto (-34), 3) := by decide +kernel
theorem dX5_mutual_95 : decode cX5_mutual 95 = .ok (.iload_n 3, 1) := by decide +kernel
theorem dX5_mutual_96 : decode cX5_mutual 96 = .ok (.ifCond .ne 8, 3) := by decide +kernel
theorem dX5_mutual_99 : decode cX5_mutual 99 = .ok (.iload 4, 2) := by decide +kernel
theorem dX5_mutual_101 : decode cX5_mutual 101 = .ok (.goto 5, 3) := by decide +kernel
theorem dX5_mutual_104 : decode cX5_mutual 104 = .ok (.iload 5, 2) := by decide +kernel
theorem dX5_mutual_106 : decode cX5_mutual 106 = .ok (.ireturn, 1) := by decide +kernel
theorem dX5_see_0 : decode cX5_see 0 = .ok (.aload_n 0, 1) := by decide +kernel
theorem dX5_see_1 : decode cX5_see 1 = .ok (.getfield 19, 3) := by decide +kernel
theorem dX5_see_4 : decode cX5_see 4 = .ok (.iload_n 1, 1) := by decide +kernel
theorem dX5_see_5 : decode cX5_see 5 = .ok (.iload_n 2, 1) := by decide +kernel
theorem dX5_see_6 : decode cX5_see 6 = .ok (.invokevirtual 121, 3) := by decide +kernel
theorem dX5_see_9 : decode cX5_see 9 = .ok (.ifCond .eq 12, 3) := by decide +kernel
theorem dX5_see_12 : decode cX5_see 12 = .ok (.iload_n 3, 1) := by decide +kernel
theorem dX5_see_13 : decode cX5_see 13 = .ok (.iload 4, 2) := by decide +kernel
theorem dX5_see_15 : decode cX5_see 15 = .ok (.invokestatic 132, 3) := by decide +kernel
theorem dX5_see_18 : decode cX5_see 18 = .ok (.ifCond .ne 5, 3) := by decide +kernel
theorem dX5_see_21 : decode cX5_see 21 = .ok (.iconst (-1), 1) := by decide +kernel
theorem dX5_see_22 : decode cX5_see 22 = .ok (.ireturn, 1) := by decide +kernel
theorem dX5_see_23 : decode cX5_see 23 = .ok (.aload_n 0, 1) := by decide +kernel
theorem dX5_see_24 : decode cX5_see 24 = .ok (.getfield 41, 3) := by decide +kernel
theorem dX5_see_27 : decode cX5_see 27 = .ok (.getfield 94, 3) := by decide +kernel
theorem dX5_see_30 : decode cX5_see 30 = .ok (.bipush 6, 2) := by decide +kernel
theorem dX5_see_32 : decode cX5_see 32 = .ok (.if_icmp .lt 6, 3) := by decide +kernel
theorem dX5_see_35 : decode cX5_see 35 = .ok (.bipush (-3), 2) := by decide +kernel
theorem dX5_see_37 : decode cX5_see 37 = .ok (.ireturn, 1) := by decide +kernel
theorem dX5_see_38 : decode cX5_see 38 = .ok (.aload_n 0, 1) := by decide +kernel
theorem dX5_see_39 : decode cX5_see 39 = .ok (.getfield 41, 3) := by decide +kernel
theorem dX5_see_42 : decode cX5_see 42 = .ok (.iload_n 1, 1) := by decide +kernel
theorem dX5_see_43 : decode cX5_see 43 = .ok (.iload_n 2, 1) := by decide +kernel
theorem dX5_see_44 : decode cX5_see 44 = .ok (.iload_n 3, 1) := by decide +kernel
theorem dX5_see_45 : decode cX5_see 45 = .ok (.iload 4, 2) := by decide +kernel
theorem dX5_see_47 : decode cX5_see 47 = .ok (.iload 5, 2) := by decide +kernel
theorem dX5_see_49 : decode cX5_see 49 = .ok (.invokevirtual 214, 3) := by decide +kernel
theorem dX5_see_52 : decode cX5_see 52 = .ok (.aload_n 0, 1) := by decide +kernel
theorem dX5_see_53 : decode cX5_see 53 = .ok (.getfield 41, 3) := by decide +kernel
theorem dX5_see_56 : decode cX5_see 56 = .ok (.getfield 94, 3) := by decide +kernel
theorem dX5_see_59 : decode cX5_see 59 = .ok (.ireturn, 1) := by decide +kernel
theorem dX5_forget_0 : decode cX5_forget 0 = .ok (.aload_n 0, 1) := by decide +kernel
theorem dX5_forget_1 : decode cX5_forget 1 = .ok (.getfield 41, 3) := by decide +kernel
theorem dX5_forget_4 : decode cX5_forget 4 = .ok (.getfield 94, 3) := by decide +kernel
theorem dX5_forget_7 : decode cX5_forget 7 = .ok (.istore_n 1, 1) := by decide +kernel
theorem dX5_forget_8 : decode cX5_forget 8 = .ok (.aload_n 0, 1) := by decide +kernel
theorem dX5_forget_9 : decode cX5_forget 9 = .ok (.getfield 41, 3) := by decide +kernel
theorem dX5_forget_12 : decode cX5_forget 12 = .ok (.iconst 0, 1) := by decide +kernel
theorem dX5_forget_13 : decode cX5_forget 13 = .ok (.putfield 94, 3) := by decide +kernel
theorem dX5_forget_16 : decode cX5_forget 16 = .ok (.iload_n 1, 1) := by decide +kernel
theorem dX5_forget_17 : decode cX5_forget 17 = .ok (.ireturn, 1) := by decide +kernel
theorem dX5_felt_0 : decode cX5_felt 0 = .ok (.aload_n 0, 1) := by decide +kernel
theorem dX5_felt_1 : decode cX5_felt 1 = .ok (.getfield 19, 3) := by decide +kernel
theorem dX5_felt_4 : decode cX5_felt 4 = .ok (.iload_n 1, 1) := by decide +kernel
theorem dX5_felt_5 : decode cX5_felt 5 = .ok (.iload_n 2, 1) := by decide +kernel
theorem dX5_felt_6 : decode cX5_felt 6 = .ok (.invokevirtual 121, 3) := by decide +kernel
theorem dX5_felt_9 : decode cX5_felt 9 = .ok (.ifCond .ne 5, 3) := by decide +kernel
theorem dX5_felt_12 : decode cX5_felt 12 = .ok (.iconst (-1), 1) := by decide +kernel
theorem dX5_felt_13 : decode cX5_felt 13 = .ok (.ireturn, 1) := by decide +kernel
theorem dX5_felt_14 : decode cX5_felt 14 = .ok (.aload_n 0, 1) := by decide +kernel
theorem dX5_felt_15 : decode cX5_felt 15 = .ok (.getfield 41, 3) := by decide +kernel
theorem dX5_felt_18 : decode cX5_felt 18 = .ok (.aload_n 0, 1) := by decide +kernel
theorem dX5_felt_19 : decode cX5_felt 19 = .ok (.getfield 19, 3) := by decide +kernel
theorem dX5_felt_22 : decode cX5_felt 22 = .ok (.iload_n 1, 1) := by decide +kernel
theorem dX5_felt_23 : decode cX5_felt 23 = .ok (.iload_n 2, 1) := by decide +kernel
theorem dX5_felt_24 : decode cX5_felt 24 = .ok (.invokevirtual 218, 3) := by decide +kernel
theorem dX5_felt_27 : decode cX5_felt 27 = .ok (.ireturn, 1) := by decide +kernel
theorem dX5_kinds_0 : decode cX5_kinds 0 = .ok (.aload_n 0, 1) := by decide +kernel
theorem dX5_kinds_1 : decode cX5_kinds 1 = .ok (.getfield 19, 3) := by decide +kernel
theorem dX5_kinds_4 : decode cX5_kinds 4 = .ok (.iload_n 1, 1) := by decide +kernel
theorem dX5_kinds_5 : decode cX5_kinds 5 = .ok (.invokevirtual 97, 3) := by decide +kernel
theorem dX5_kinds_8 : decode cX5_kinds 8 = .ok (.ifCond .ne 5, 3) := by decide +kernel
theorem dX5_kinds_11 : decode cX5_kinds 11 = .ok (.iconst (-1), 1) := by decide +kernel
theorem dX5_kinds_12 : decode cX5_kinds 12 = .ok (.ireturn, 1) := by decide +kernel
theorem dX5_kinds_13 : decode cX5_kinds 13 = .ok (.aload_n 0, 1) := by decide +kernel
theorem dX5_kinds_14 : decode cX5_kinds 14 = .ok (.getfield 41, 3) := by decide +kernel
theorem dX5_kinds_17 : decode cX5_kinds 17 = .ok (.aload_n 0, 1) := by decide +kernel
theorem dX5_kinds_18 : decode cX5_kinds 18 = .ok (.getfield 19, 3) := by decide +kernel
theorem dX5_kinds_21 : decode cX5_kinds 21 = .ok (.iload_n 1, 1) := by decide +kernel
theorem dX5_kinds_22 : decode cX5_kinds 22 = .ok (.invokevirtual 222, 3) := by decide +kernel
theorem dX5_kinds_25 : decode cX5_kinds 25 = .ok (.ireturn, 1) := by decide +kernel
theorem dX5_rain_0 : decode cX5_rain 0 = .ok (.aload_n 0, 1) := by decide +kernel
theorem dX5_rain_1 : decode cX5_rain 1 = .ok (.getfield 19, 3) := by decide +kernel
theorem dX5_rain_4 : decode cX5_rain 4 = .ok (.iload_n 1, 1) := by decide +kernel
theorem dX5_rain_5 : decode cX5_rain 5 = .ok (.invokevirtual 97, 3) := by decide +kernel
theorem dX5_rain_8 : decode cX5_rain 8 = .ok (.ifCond .eq 22, 3) := by decide +kernel
theorem dX5_rain_11 : decode cX5_rain 11 = .ok (.iload_n 2, 1) := by decide +kernel
theorem dX5_rain_12 : decode cX5_rain 12 = .ok (.iload_n 3, 1) := by decide +kernel
theorem dX5_rain_13 : decode cX5_rain 13 = .ok (.invokestatic 132, 3) := by decide +kernel
theorem dX5_rain_16 : decode cX5_rain 16 = .ok (.ifCond .eq 14, 3) := by decide +kernel
theorem dX5_rain_19 : decode cX5_rain 19 = .ok (.iload 4, 2) := by decide +kernel
theorem dX5_rain_21 : decode cX5_rain 21 = .ok (.iconst 0, 1) := by decide +kernel
theorem dX5_rain_22 : decode cX5_rain 22 = .ok (.bipush 6, 2) := by decide +kernel
theorem dX5_rain_24 : decode cX5_rain 24 = .ok (.invokestatic 75, 3) := by decide +kernel
theorem dX5_rain_27 : decode cX5_rain 27 = .ok (.ifCond .ne 5, 3) := by decide +kernel
theorem dX5_rain_30 : decode cX5_rain 30 = .ok (.iconst (-1), 1) := by decide +kernel
theorem dX5_rain_31 : decode cX5_rain 31 = .ok (.ireturn, 1) := by decide +kernel
theorem dX5_rain_32 : decode cX5_rain 32 = .ok (.iload 5, 2) := by decide +kernel
theorem dX5_rain_34 : decode cX5_rain 34 = .ok (.iconst 0, 1) := by decide +kernel
theorem dX5_rain_35 : decode cX5_rain 35 = .ok (.bipush 10, 2) := by decide +kernel
theorem dX5_rain_37 : decode cX5_rain 37 = .ok (.invokestatic 75, 3) := by decide +kernel
theorem dX5_rain_40 : decode cX5_rain 40 = .ok (.ifCond .eq 13, 3) := by decide +kernel
theorem dX5_rain_43 : decode cX5_rain 43 = .ok (.iload 6, 2) := by decide +kernel
theorem dX5_rain_45 : decode cX5_rain 45 = .ok (.iconst 0, 1) := by decide +kernel
theorem dX5_rain_46 : decode cX5_rain 46 = .ok (.iconst 1, 1) := by decide +kernel
theorem dX5_rain_47 : decode cX5_rain 47 = .ok (.invokestatic 75, 3) := by decide +kernel
theorem dX5_rain_50 : decode cX5_rain 50 = .ok (.ifCond .ne 5, 3) := by decide +kernel
theorem dX5_rain_53 : decode cX5_rain 53 = .ok (.iconst (-1), 1) := by decide +kernel
theorem dX5_rain_54 : decode cX5_rain 54 = .ok (.ireturn, 1) := by decide +kernel
theorem dX5_rain_55 : decode cX5_rain 55 = .ok (.aload_n 0, 1) := by decide +kernel
theorem dX5_rain_56 : decode cX5_rain 56 = .ok (.getfield 19, 3) := by decide +kernel
theorem dX5_rain_59 : decode cX5_rain 59 = .ok (.iload_n 1, 1) := by decide +kernel
theorem dX5_rain_60 : decode cX5_rain 60 = .ok (.invokevirtual 112, 3) := by decide +kernel
theorem dX5_rain_63 : decode cX5_rain 63 = .ok (.ifCond .ne 6, 3) := by decide +kernel
theorem dX5_rain_66 : decode cX5_rain 66 = .ok (.bipush (-2), 2) := by decide +kernel
theorem dX5_rain_68 : decode cX5_rain 68 = .ok (.ireturn, 1) := by decide +kernel
theorem dX5_rain_69 : decode cX5_rain 69 = .ok (.aload_n 0, 1) := by decide +kernel
theorem dX5_rain_70 : decode cX5_rain 70 = .ok (.getfield 19, 3) := by decide +kernel
theorem dX5_rain_73 : decode cX5_rain 73 = .ok (.iload_n 1, 1) := by decide +kernel
theorem dX5_rain_74 : decode cX5_rain 74 = .ok (.iload_n 2, 1) := by decide +kernel
theorem dX5_rain_75 : decode cX5_rain 75 = .ok (.iload_n 3, 1) := by decide +kernel
theorem dX5_rain_76 : decode cX5_rain 76 = .ok (.invokevirtual 168, 3) := by decide +kernel
theorem dX5_rain_79 : decode cX5_rain 79 = .ok (.invokestatic 171, 3) := by decide +kernel
theorem dX5_rain_82 : decode cX5_rain 82 = .ok (.istore 7, 2) := by decide +kernel
theorem dX5_rain_84 : decode cX5_rain 84 = .ok (.iload 7, 2) := by decide +kernel
theorem dX5_rain_86 : decode cX5_rain 86 = .ok (.iload 4, 2) := by decide +kernel
theorem dX5_rain_88 : decode cX5_rain 88 = .ok (.iload 5, 2) := by decide +kernel
theorem dX5_rain_90 : decode cX5_rain 90 = .ok (.invokestatic 226, 3) := by decide +kernel
theorem dX5_rain_93 : decode cX5_rain 93 = .ok (.istore 8, 2) := by decide +kernel
theorem dX5_rain_95 : decode cX5_rain 95 = .ok (.bipush 10, 2) := by decide +kernel
theorem dX5_rain_97 : decode cX5_rain 97 = .ok (.iload 7, 2) := by decide +kernel
theorem dX5_rain_99 : decode cX5_rain 99 = .ok (.invokestatic 229, 3) := by decide +kernel
theorem dX5_rain_102 : decode cX5_rain 102 = .ok (.istore 9, 2) := by decide +kernel
theorem dX5_rain_104 : decode cX5_rain 104 = .ok (.iload 8, 2) := by decide +kernel
theorem dX5_rain_106 : decode cX5_rain 106 = .ok (.iload 9, 2) := by decide +kernel
theorem dX5_rain_108 : decode cX5_rain 108 = .ok (.invokestatic 232, 3) := by decide +kernel
theorem dX5_rain_111 : decode cX5_rain 111 = .ok (.istore 10, 2) := by decide +kernel
theorem dX5_rain_113 : decode cX5_rain 113 = .ok (.iload 6, 2) := by decide +kernel
theorem dX5_rain_115 : decode cX5_rain 115 = .ok (.ifCond .ne 8, 3) := by decide +kernel
theorem dX5_rain_118 : decode cX5_rain 118 = .ok (.iload 8, 2) := by decide +kernel
theorem dX5_rain_120 : decode cX5_rain 120 = .ok (.goto 5, 3) := by decide +kernel
theorem dX5_rain_123 : decode cX5_rain 123 = .ok (.iload 9, 2) := by decide +kernel
theorem dX5_rain_125 : decode cX5_rain 125 = .ok (.iload 10, 2) := by decide +kernel
theorem dX5_rain_127 : decode cX5_rain 127 = .ok (.idiv, 1) := by decide +kernel
theorem dX5_rain_128 : decode cX5_rain 128 = .ok (.ireturn, 1) := by decide +kernel
theorem dX5_year_0 : decode cX5_year 0 = .ok (.iload_n 1, 1) := by decide +kernel
theorem dX5_year_1 : decode cX5_year 1 = .ok (.iconst 0, 1) := by decide +kernel
theorem dX5_year_2 : decode cX5_year 2 = .ok (.sipush 9999, 3) := by decide +kernel
theorem dX5_year_5 : decode cX5_year 5 = .ok (.invokestatic 75, 3) := by decide +kernel
theorem dX5_year_8 : decode cX5_year 8 = .ok (.ifCond .eq 22, 3) := by decide +kernel
theorem dX5_year_11 : decode cX5_year 11 = .ok (.iload_n 2, 1) := by decide +kernel
theorem dX5_year_12 : decode cX5_year 12 = .ok (.iconst 1, 1) := by decide +kernel
theorem dX5_year_13 : decode cX5_year 13 = .ok (.bipush 60, 2) := by decide +kernel
theorem dX5_year_15 : decode cX5_year 15 = .ok (.invokestatic 75, 3) := by decide +kernel
theorem dX5_year_18 : decode cX5_year 18 = .ok (.ifCond .eq 12, 3) := by decide +kernel
theorem dX5_year_21 : decode cX5_year 21 = .ok (.iload_n 3, 1) := by decide +kernel
theorem dX5_year_22 : decode cX5_year 22 = .ok (.iconst 0, 1) := by decide +kernel
theorem dX5_year_23 : decode cX5_year 23 = .ok (.iconst 1, 1) := by decide +kernel
theorem dX5_year_24 : decode cX5_year 24 = .ok (.invokestatic 75, 3) := by decide +kernel
theorem dX5_year_27 : decode cX5_year 27 = .ok (.ifCond .ne 5, 3) := by decide +kernel
theorem dX5_year_30 : decode cX5_year 30 = .ok (.iconst (-1), 1) := by decide +kernel
theorem dX5_year_31 : decode cX5_year 31 = .ok (.ireturn, 1) := by decide +kernel
theorem dX5_year_32 : decode cX5_year 32 = .ok (.aload_n 0, 1) := by decide +kernel
theorem dX5_year_33 : decode cX5_year 33 = .ok (.getfield 23, 3) := by decide +kernel
theorem dX5_year_36 : decode cX5_year 36 = .ok (.aload_n 0, 1) := by decide +kernel
theorem dX5_year_37 : decode cX5_year 37 = .ok (.getfield 19, 3) := by decide +kernel
theorem dX5_year_40 : decode cX5_year 40 = .ok (.invokevirtual 89, 3) := by decide +kernel
theorem dX5_year_43 : decode cX5_year 43 = .ok (.iconst 0, 1) := by decide +kernel
theorem dX5_year_44 : decode cX5_year 44 = .ok (.istore 4, 2) := by decide +kernel
theorem dX5_year_46 : decode cX5_year 46 = .ok (.iconst 0, 1) := by decide +kernel
theorem dX5_year_47 : decode cX5_year 47 = .ok (.istore 5, 2) := by decide +kernel
theorem dX5_year_49 : decode cX5_year 49 = .ok (.iload 5, 2) := by decide +kernel
theorem dX5_year_51 : decode cX5_year 51 = .ok (.iload_n 2, 1) := by decide +kernel
theorem dX5_year_52 : decode cX5_year 52 = .ok (.if_icmp .ge 27, 3) := by decide +kernel
theorem dX5_year_55 : decode cX5_year 55 = .ok (.iload 4, 2) := by decide +kernel
theorem dX5_year_57 : decode cX5_year 57 = .ok (.aload_n 0, 1) := by decide +kernel
theorem dX5_year_58 : decode cX5_year 58 = .ok (.getfield 23, 3) := by decide +kernel
theorem dX5_year_61 : decode cX5_year 61 = .ok (.iload_n 1, 1) := by decide +kernel
theorem dX5_year_62 : decode cX5_year 62 = .ok (.iload 5, 2) := by decide +kernel
theorem dX5_year_64 : decode cX5_year 64 = .ok (.invokestatic 235, 3) := by decide +kernel
theorem dX5_year_67 : decode cX5_year 67 = .ok (.invokevirtual 238, 3) := by decide +kernel
theorem dX5_year_70 : decode cX5_year 70 = .ok (.iadd, 1) := by decide +kernel
theorem dX5_year_71 : decode cX5_year 71 = .ok (.istore 4, 2) := by decide +kernel
theorem dX5_year_73 : decode cX5_year 73 = .ok (.iinc 5 1, 3) := by decide +kernel
theorem dX5_year_76 : decode cX5_year 76 = .ok (.goto (-27), 3) := by decide +kernel
theorem dX5_year_79 : decode cX5_year 79 = .ok (.iload_n 3, 1) := by decide +kernel
theorem dX5_year_80 : decode cX5_year 80 = .ok (.ifCond .ne 8, 3) := by decide +kernel
theorem dX5_year_83 : decode cX5_year 83 = .ok (.iload 4, 2) := by decide +kernel
theorem dX5_year_85 : decode cX5_year 85 = .ok (.goto 10, 3) := by decide +kernel
theorem dX5_year_88 : decode cX5_year 88 = .ok (.aload_n 0, 1) := by decide +kernel
theorem dX5_year_89 : decode cX5_year 89 = .ok (.getfield 23, 3) := by decide +kernel
theorem dX5_year_92 : decode cX5_year 92 = .ok (.invokevirtual 241, 3) := by decide +kernel
theorem dX5_year_95 : decode cX5_year 95 = .ok (.ireturn, 1) := by decide +kernel
theorem dX5_keep_0 : decode cX5_keep 0 = .ok (.aload_n 0, 1) := by decide +kernel
theorem dX5_keep_1 : decode cX5_keep 1 = .ok (.getfield 35, 3) := by decide +kernel
theorem dX5_keep_4 : decode cX5_keep 4 = .ok (.getfield 164, 3) := by decide +kernel
theorem dX5_keep_7 : decode cX5_keep 7 = .ok (.iconst 2, 1) := by decide +kernel
theorem dX5_keep_8 : decode cX5_keep 8 = .ok (.if_icmp .lt 6, 3) := by decide +kernel
theorem dX5_keep_11 : decode cX5_keep 11 = .ok (.bipush (-3), 2) := by decide +kernel
theorem dX5_keep_13 : decode cX5_keep 13 = .ok (.ireturn, 1) := by decide +kernel
theorem dX5_keep_14 : decode cX5_keep 14 = .ok (.aload_n 0, 1) := by decide +kernel
theorem dX5_keep_15 : decode cX5_keep 15 = .ok (.getfield 35, 3) := by decide +kernel
theorem dX5_keep_18 : decode cX5_keep 18 = .ok (.aload_n 0, 1) := by decide +kernel
theorem dX5_keep_19 : decode cX5_keep 19 = .ok (.getfield 19, 3) := by decide +kernel
theorem dX5_keep_22 : decode cX5_keep 22 = .ok (.invokevirtual 138, 3) := by decide +kernel
theorem dX5_keep_25 : decode cX5_keep 25 = .ok (.aload_n 0, 1) := by decide +kernel
theorem dX5_keep_26 : decode cX5_keep 26 = .ok (.getfield 35, 3) := by decide +kernel
theorem dX5_keep_29 : decode cX5_keep 29 = .ok (.getfield 164, 3) := by decide +kernel
theorem dX5_keep_32 : decode cX5_keep 32 = .ok (.ireturn, 1) := by decide +kernel
theorem dX5_back_0 : decode cX5_back 0 = .ok (.aload_n 0, 1) := by decide +kernel
theorem dX5_back_1 : decode cX5_back 1 = .ok (.getfield 35, 3) := by decide +kernel
theorem dX5_back_4 : decode cX5_back 4 = .ok (.getfield 164, 3) := by decide +kernel
theorem dX5_back_7 : decode cX5_back 7 = .ok (.ifCond .ne 6, 3) := by decide +kernel
theorem dX5_back_10 : decode cX5_back 10 = .ok (.bipush (-2), 2) := by decide +kernel
theorem dX5_back_12 : decode cX5_back 12 = .ok (.ireturn, 1) := by decide +kernel
theorem dX5_back_13 : decode cX5_back 13 = .ok (.aload_n 0, 1) := by decide +kernel
theorem dX5_back_14 : decode cX5_back 14 = .ok (.getfield 35, 3) := by decide +kernel
theorem dX5_back_17 : decode cX5_back 17 = .ok (.aload_n 0, 1) := by decide +kernel
theorem dX5_back_18 : decode cX5_back 18 = .ok (.getfield 19, 3) := by decide +kernel
theorem dX5_back_21 : decode cX5_back 21 = .ok (.invokevirtual 165, 3) := by decide +kernel
theorem dX5_back_24 : decode cX5_back 24 = .ok (.aload_n 0, 1) := by decide +kernel
theorem dX5_back_25 : decode cX5_back 25 = .ok (.getfield 31, 3) := by decide +kernel
theorem dX5_back_28 : decode cX5_back 28 = .ok (.invokevirtual 93, 3) := by decide +kernel
theorem dX5_back_31 : decode cX5_back 31 = .ok (.aload_n 0, 1) := by decide +kernel
theorem dX5_back_32 : decode cX5_back 32 = .ok (.getfield 35, 3) := by decide +kernel
theorem dX5_back_35 : decode cX5_back 35 = .ok (.getfield 164, 3) := by decide +kernel
theorem dX5_back_38 : decode cX5_back 38 = .ok (.ireturn, 1) := by decide +kernel
theorem dX5_count_0 : decode cX5_count 0 = .ok (.iload_n 1, 1) := by decide +kernel
theorem dX5_count_1 : decode cX5_count 1 = .ok (.tableswitch 161 0 10 #[59, 67, 86, 97, 105, 113, 121, 129, 137, 145, 153], 59) := by decide +kernel
theorem dX5_count_60 : decode cX5_count 60 = .ok (.aload_n 0, 1) := by decide +kernel
theorem dX5_count_61 : decode cX5_count 61 = .ok (.getfield 19, 3) := by decide +kernel
theorem dX5_count_64 : decode cX5_count 64 = .ok (.getfield 86, 3) := by decide +kernel
theorem dX5_count_67 : decode cX5_count 67 = .ok (.ireturn, 1) := by decide +kernel
theorem dX5_count_68 : decode cX5_count 68 = .ok (.aload_n 0, 1) := by decide +kernel
theorem dX5_count_69 : decode cX5_count 69 = .ok (.getfield 19, 3) := by decide +kernel
theorem dX5_count_72 : decode cX5_count 72 = .ok (.getfield 86, 3) := by decide +kernel
theorem dX5_count_75 : decode cX5_count 75 = .ok (.aload_n 0, 1) := by decide +kernel
theorem dX5_count_76 : decode cX5_count 76 = .ok (.getfield 19, 3) := by decide +kernel
theorem dX5_count_79 : decode cX5_count 79 = .ok (.getfield 244, 3) := by decide +kernel
theorem dX5_count_82 : decode cX5_count 82 = .ok (.invokestatic 171, 3) := by decide +kernel
theorem dX5_count_85 : decode cX5_count 85 = .ok (.isub, 1) := by decide +kernel
theorem dX5_count_86 : decode cX5_count 86 = .ok (.ireturn, 1) := by decide +kernel
theorem dX5_count_87 : decode cX5_count 87 = .ok (.aload_n 0, 1) := by decide +kernel
theorem dX5_count_88 : decode cX5_count 88 = .ok (.getfield 19, 3) := by decide +kernel
theorem dX5_count_91 : decode cX5_count 91 = .ok (.getfield 247, 3) := by decide +kernel
theorem dX5_count_94 : decode cX5_count 94 = .ok (.invokestatic 171, 3) := by decide +kernel
theorem dX5_count_97 : decode cX5_count 97 = .ok (.ireturn, 1) := by decide +kernel
theorem dX5_count_98 : decode cX5_count 98 = .ok (.aload_n 0, 1) := by decide +kernel
theorem dX5_count_99 : decode cX5_count 99 = .ok (.getfield 19, 3) := by decide +kernel
theorem dX5_count_102 : decode cX5_count 102 = .ok (.getfield 161, 3) := by decide +kernel
theorem dX5_count_105 : decode cX5_count 105 = .ok (.ireturn, 1) := by decide +kernel
theorem dX5_count_106 : decode cX5_count 106 = .ok (.aload_n 0, 1) := by decide +kernel
theorem dX5_count_107 : decode cX5_count 107 = .ok (.getfield 19, 3) := by decide +kernel
theorem dX5_count_110 : decode cX5_count 110 = .ok (.getfield 250, 3) := by decide +kernel
theorem dX5_count_113 : decode cX5_count 113 = .ok (.ireturn, 1) := by decide +kernel
theorem dX5_count_114 : decode cX5_count 114 = .ok (.aload_n 0, 1) := by decide +kernel
theorem dX5_count_115 : decode cX5_count 115 = .ok (.getfield 19, 3) := by decide +kernel
theorem dX5_count_118 : decode cX5_count 118 = .ok (.invokevirtual 241, 3) := by decide +kernel
theorem dX5_count_121 : decode cX5_count 121 = .ok (.ireturn, 1) := by decide +kernel
theorem dX5_count_122 : decode cX5_count 122 = .ok (.aload_n 0, 1) := by decide +kernel
theorem dX5_count_123 : decode cX5_count 123 = .ok (.getfield 19, 3) := by decide +kernel
theorem dX5_count_126 : decode cX5_count 126 = .ok (.invokevirtual 253, 3) := by decide +kernel
theorem dX5_count_129 : decode cX5_count 129 = .ok (.ireturn, 1) := by decide +kernel
theorem dX5_count_130 : decode cX5_count 130 = .ok (.aload_n 0, 1) := by decide +kernel
theorem dX5_count_131 : decode cX5_count 131 = .ok (.getfield 41, 3) := by decide +kernel
theorem dX5_count_134 : decode cX5_count 134 = .ok (.getfield 94, 3) := by decide +kernel
theorem dX5_count_137 : decode cX5_count 137 = .ok (.ireturn, 1) := by decide +kernel
theorem dX5_count_138 : decode cX5_count 138 = .ok (.aload_n 0, 1) := by decide +kernel
theorem dX5_count_139 : decode cX5_count 139 = .ok (.getfield 31, 3) := by decide +kernel
theorem dX5_count_142 : decode cX5_count 142 = .ok (.getfield 164, 3) := by decide +kernel
theorem dX5_count_145 : decode cX5_count 145 = .ok (.ireturn, 1) := by decide +kernel
theorem dX5_count_146 : decode cX5_count 146 = .ok (.aload_n 0, 1) := by decide +kernel
theorem dX5_count_147 : decode cX5_count 147 = .ok (.getfield 35, 3) := by decide +kernel
theorem dX5_count_150 : decode cX5_count 150 = .ok (.getfield 164, 3) := by decide +kernel
theorem dX5_count_153 : decode cX5_count 153 = .ok (.ireturn, 1) := by decide +kernel
theorem dX5_count_154 : decode cX5_count 154 = .ok (.aload_n 0, 1) := by decide +kernel
theorem dX5_count_155 : decode cX5_count 155 = .ok (.getfield 10, 3) := by decide +kernel
theorem dX5_count_158 : decode cX5_count 158 = .ok (.getfield 83, 3) := by decide +kernel
theorem dX5_count_161 : decode cX5_count 161 = .ok (.ireturn, 1) := by decide +kernel
theorem dX5_count_162 : decode cX5_count 162 = .ok (.iconst (-1), 1) := by decide +kernel
theorem dX5_count_163 : decode cX5_count 163 = .ok (.ireturn, 1) := by decide +kernel
theorem dX5_isSetOfOthers_0 : decode cX5_isSetOfOthers 0 = .ok (.aload_n 0, 1) := by decide +kernel
theorem dX5_isSetOfOthers_1 : decode cX5_isSetOfOthers 1 = .ok (.getfield 19, 3) := by decide +kernel
theorem dX5_isSetOfOthers_4 : decode cX5_isSetOfOthers 4 = .ok (.iload_n 1, 1) := by decide +kernel
theorem dX5_isSetOfOthers_5 : decode cX5_isSetOfOthers 5 = .ok (.invokevirtual 97, 3) := by decide +kernel
theorem dX5_isSetOfOthers_8 : decode cX5_isSetOfOthers 8 = .ok (.ifCond .eq 34, 3) := by decide +kernel
theorem dX5_isSetOfOthers_11 : decode cX5_isSetOfOthers 11 = .ok (.iload_n 2, 1) := by decide +kernel
theorem dX5_isSetOfOthers_12 : decode cX5_isSetOfOthers 12 = .ok (.iconst 1, 1) := by decide +kernel
theorem dX5_isSetOfOthers_13 : decode cX5_isSetOfOthers 13 = .ok (.iconst 1, 1) := by decide +kernel
theorem dX5_isSetOfOthers_14 : decode cX5_isSetOfOthers 14 = .ok (.aload_n 0, 1) := by decide +kernel
theorem dX5_isSetOfOthers_15 : decode cX5_isSetOfOthers 15 = .ok (.getfield 19, 3) := by decide +kernel
theorem dX5_isSetOfOthers_18 : decode cX5_isSetOfOthers 18 = .ok (.getfield 86, 3) := by decide +kernel
theorem dX5_isSetOfOthers_21 : decode cX5_isSetOfOthers 21 = .ok (.ishl, 1) := by decide +kernel
theorem dX5_isSetOfOthers_22 : decode cX5_isSetOfOthers 22 = .ok (.iconst 1, 1) := by decide +kernel
theorem dX5_isSetOfOthers_23 : decode cX5_isSetOfOthers 23 = .ok (.isub, 1) := by decide +kernel
theorem dX5_isSetOfOthers_24 : decode cX5_isSetOfOthers 24 = .ok (.invokestatic 75, 3) := by decide +kernel
theorem dX5_isSetOfOthers_27 : decode cX5_isSetOfOthers 27 = .ok (.ifCond .eq 15, 3) := by decide +kernel
theorem dX5_isSetOfOthers_30 : decode cX5_isSetOfOthers 30 = .ok (.iload_n 2, 1) := by decide +kernel
theorem dX5_isSetOfOthers_31 : decode cX5_isSetOfOthers 31 = .ok (.iload_n 1, 1) := by decide +kernel
theorem dX5_isSetOfOthers_32 : decode cX5_isSetOfOthers 32 = .ok (.invokestatic 182, 3) := by decide +kernel
theorem dX5_isSetOfOthers_35 : decode cX5_isSetOfOthers 35 = .ok (.ifCond .ne 7, 3) := by decide +kernel
theorem dX5_isSetOfOthers_38 : decode cX5_isSetOfOthers 38 = .ok (.iconst 1, 1) := by decide +kernel
theorem dX5_isSetOfOthers_39 : decode cX5_isSetOfOthers 39 = .ok (.goto 4, 3) := by decide +kernel
theorem dX5_isSetOfOthers_42 : decode cX5_isSetOfOthers 42 = .ok (.iconst 0, 1) := by decide +kernel
theorem dX5_isSetOfOthers_43 : decode cX5_isSetOfOthers 43 = .ok (.ireturn, 1) := by decide +kernel
theorem dX5_rests_0 : decode cX5_rests 0 = .ok (.aload_n 0, 1) := by decide +kernel
theorem dX5_rests_1 : decode cX5_rests 1 = .ok (.iload_n 1, 1) := by decide +kernel
theorem dX5_rests_2 : decode cX5_rests 2 = .ok (.iload_n 2, 1) := by decide +kernel
theorem dX5_rests_3 : decode cX5_rests 3 = .ok (.iload_n 3, 1) := by decide +kernel
theorem dX5_rests_4 : decode cX5_rests 4 = .ok (.invokevirtual 256, 3) := by decide +kernel
theorem dX5_rests_7 : decode cX5_rests 7 = .ok (.aload_n 0, 1) := by decide +kernel
theorem dX5_rests_8 : decode cX5_rests 8 = .ok (.iload_n 1, 1) := by decide +kernel
theorem dX5_rests_9 : decode cX5_rests 9 = .ok (.iload_n 2, 1) := by decide +kernel
theorem dX5_rests_10 : decode cX5_rests 10 = .ok (.iload_n 3, 1) := by decide +kernel
theorem dX5_rests_11 : decode cX5_rests 11 = .ok (.iconst 2, 1) := by decide +kernel
theorem dX5_rests_12 : decode cX5_rests 12 = .ok (.ixor, 1) := by decide +kernel
theorem dX5_rests_13 : decode cX5_rests 13 = .ok (.invokevirtual 256, 3) := by decide +kernel
theorem dX5_rests_16 : decode cX5_rests 16 = .ok (.if_icmp .lt 26, 3) := by decide +kernel
theorem dX5_rests_19 : decode cX5_rests 19 = .ok (.aload_n 0, 1) := by decide +kernel
theorem dX5_rests_20 : decode cX5_rests 20 = .ok (.iload_n 1, 1) := by decide +kernel
theorem dX5_rests_21 : decode cX5_rests 21 = .ok (.iload_n 2, 1) := by decide +kernel
theorem dX5_rests_22 : decode cX5_rests 22 = .ok (.iload_n 3, 1) := by decide +kernel
theorem dX5_rests_23 : decode cX5_rests 23 = .ok (.invokevirtual 259, 3) := by decide +kernel
theorem dX5_rests_26 : decode cX5_rests 26 = .ok (.aload_n 0, 1) := by decide +kernel
theorem dX5_rests_27 : decode cX5_rests 27 = .ok (.iload_n 1, 1) := by decide +kernel
theorem dX5_rests_28 : decode cX5_rests 28 = .ok (.iload_n 2, 1) := by decide +kernel
theorem dX5_rests_29 : decode cX5_rests 29 = .ok (.iload_n 3, 1) := by decide +kernel
theorem dX5_rests_30 : decode cX5_rests 30 = .ok (.iconst 1, 1) := by decide +kernel
theorem dX5_rests_31 : decode cX5_rests 31 = .ok (.ixor, 1) := by decide +kernel
theorem dX5_rests_32 : decode cX5_rests 32 = .ok (.invokevirtual 259, 3) := by decide +kernel
theorem dX5_rests_35 : decode cX5_rests 35 = .ok (.if_icmp .lt 7, 3) := by decide +kernel
theorem dX5_rests_38 : decode cX5_rests 38 = .ok (.iconst 1, 1) := by decide +kernel
theorem dX5_rests_39 : decode cX5_rests 39 = .ok (.goto 4, 3) := by decide +kernel
theorem dX5_rests_42 : decode cX5_rests 42 = .ok (.iconst 0, 1) := by decide +kernel
theorem dX5_rests_43 : decode cX5_rests 43 = .ok (.ireturn, 1) := by decide +kernel
theorem dX5_gainOfFirst_0 : decode cX5_gainOfFirst 0 = .ok (.aload_n 0, 1) := by decide +kernel
theorem dX5_gainOfFirst_1 : decode cX5_gainOfFirst 1 = .ok (.iload_n 1, 1) := by decide +kernel
theorem dX5_gainOfFirst_2 : decode cX5_gainOfFirst 2 = .ok (.iload_n 2, 1) := by decide +kernel
theorem dX5_gainOfFirst_3 : decode cX5_gainOfFirst 3 = .ok (.iload_n 3, 1) := by decide +kernel
theorem dX5_gainOfFirst_4 : decode cX5_gainOfFirst 4 = .ok (.invokevirtual 262, 3) := by decide +kernel
theorem dX5_gainOfFirst_7 : decode cX5_gainOfFirst 7 = .ok (.aload_n 0, 1) := by decide +kernel
theorem dX5_gainOfFirst_8 : decode cX5_gainOfFirst 8 = .ok (.getfield 23, 3) := by decide +kernel
theorem dX5_gainOfFirst_11 : decode cX5_gainOfFirst 11 = .ok (.iload_n 1, 1) := by decide +kernel
theorem dX5_gainOfFirst_12 : decode cX5_gainOfFirst 12 = .ok (.iload_n 2, 1) := by decide +kernel
theorem dX5_gainOfFirst_13 : decode cX5_gainOfFirst 13 = .ok (.invokevirtual 266, 3) := by decide +kernel
theorem dX5_gainOfFirst_16 : decode cX5_gainOfFirst 16 = .ok (.ireturn, 1) := by decide +kernel
theorem dX5_gainOfOther_0 : decode cX5_gainOfOther 0 = .ok (.aload_n 0, 1) := by decide +kernel
theorem dX5_gainOfOther_1 : decode cX5_gainOfOther 1 = .ok (.iload_n 1, 1) := by decide +kernel
theorem dX5_gainOfOther_2 : decode cX5_gainOfOther 2 = .ok (.iload_n 2, 1) := by decide +kernel
theorem dX5_gainOfOther_3 : decode cX5_gainOfOther 3 = .ok (.iload_n 3, 1) := by decide +kernel
theorem dX5_gainOfOther_4 : decode cX5_gainOfOther 4 = .ok (.invokevirtual 262, 3) := by decide +kernel
theorem dX5_gainOfOther_7 : decode cX5_gainOfOther 7 = .ok (.aload_n 0, 1) := by decide +kernel
theorem dX5_gainOfOther_8 : decode cX5_gainOfOther 8 = .ok (.getfield 23, 3) := by decide +kernel
theorem dX5_gainOfOther_11 : decode cX5_gainOfOther 11 = .ok (.iload_n 2, 1) := by decide +kernel
theorem dX5_gainOfOther_12 : decode cX5_gainOfOther 12 = .ok (.iload_n 1, 1) := by decide +kernel
theorem dX5_gainOfOther_13 : decode cX5_gainOfOther 13 = .ok (.invokevirtual 266, 3) := by decide +kernel
theorem dX5_gainOfOther_16 : decode cX5_gainOfOther 16 = .ok (.ireturn, 1) := by decide +kernel
theorem dX5_visitEachOther_0 : decode cX5_visitEachOther 0 = .ok (.aload_n 0, 1) := by decide +kernel
theorem dX5_visitEachOther_1 : decode cX5_visitEachOther 1 = .ok (.getfield 23, 3) := by decide +kernel
theorem dX5_visitEachOther_4 : decode cX5_visitEachOther 4 = .ok (.aload_n 0, 1) := by decide +kernel
theorem dX5_visitEachOther_5 : decode cX5_visitEachOther 5 = .ok (.getfield 19, 3) := by decide +kernel
theorem dX5_visitEachOther_8 : decode cX5_visitEachOther 8 = .ok (.invokevirtual 89, 3) := by decide +kernel
theorem dX5_visitEachOther_11 : decode cX5_visitEachOther 11 = .ok (.aload_n 0, 1) := by decide +kernel
theorem dX5_visitEachOther_12 : decode cX5_visitEachOther 12 = .ok (.getfield 23, 3) := by decide +kernel
theorem dX5_visitEachOther_15 : decode cX5_visitEachOther 15 = .ok (.iload_n 1, 1) := by decide +kernel
theorem dX5_visitEachOther_16 : decode cX5_visitEachOther 16 = .ok (.iload_n 2, 1) := by decide +kernel
theorem dX5_visitEachOther_17 : decode cX5_visitEachOther 17 = .ok (.iload_n 3, 1) := by decide +kernel
theorem dX5_visitEachOther_18 : decode cX5_visitEachOther 18 = .ok (.iconst 1, 1) := by decide +kernel
theorem dX5_visitEachOther_19 : decode cX5_visitEachOther 19 = .ok (.iand, 1) := by decide +kernel
theorem dX5_visitEachOther_20 : decode cX5_visitEachOther 20 = .ok (.ifCond .eq 7, 3) := by decide +kernel
theorem dX5_visitEachOther_23 : decode cX5_visitEachOther 23 = .ok (.iconst 1, 1) := by decide +kernel
theorem dX5_visitEachOther_24 : decode cX5_visitEachOther 24 = .ok (.goto 4, 3) := by decide +kernel
theorem dX5_visitEachOther_27 : decode cX5_visitEachOther 27 = .ok (.iconst 0, 1) := by decide +kernel
theorem dX5_visitEachOther_28 : decode cX5_visitEachOther 28 = .ok (.invokevirtual 269, 3) := by decide +kernel
theorem dX5_visitEachOther_31 : decode cX5_visitEachOther 31 = .ok (.aload_n 0, 1) := by decide +kernel
theorem dX5_visitEachOther_32 : decode cX5_visitEachOther 32 = .ok (.getfield 23, 3) := by decide +kernel
theorem dX5_visitEachOther_35 : decode cX5_visitEachOther 35 = .ok (.iload_n 2, 1) := by decide +kernel
theorem dX5_visitEachOther_36 : decode cX5_visitEachOther 36 = .ok (.iload_n 1, 1) := by decide +kernel
theorem dX5_visitEachOther_37 : decode cX5_visitEachOther 37 = .ok (.iload_n 3, 1) := by decide +kernel
theorem dX5_visitEachOther_38 : decode cX5_visitEachOther 38 = .ok (.iconst 2, 1) := by decide +kernel
theorem dX5_visitEachOther_39 : decode cX5_visitEachOther 39 = .ok (.iand, 1) := by decide +kernel
theorem dX5_visitEachOther_40 : decode cX5_visitEachOther 40 = .ok (.ifCond .eq 7, 3) := by decide +kernel
theorem dX5_visitEachOther_43 : decode cX5_visitEachOther 43 = .ok (.iconst 1, 1) := by decide +kernel
theorem dX5_visitEachOther_44 : decode cX5_visitEachOther 44 = .ok (.goto 4, 3) := by decide +kernel
theorem dX5_visitEachOther_47 : decode cX5_visitEachOther 47 = .ok (.iconst 0, 1) := by decide +kernel
theorem dX5_visitEachOther_48 : decode cX5_visitEachOther 48 = .ok (.invokevirtual 269, 3) := by decide +kernel
theorem dX5_visitEachOther_51 : decode cX5_visitEachOther 51 = .ok (.return_, 1) := by decide +kernel
theorem dX5_within_0 : decode cX5_within 0 = .ok (.iload_n 0, 1) := by decide +kernel
theorem dX5_within_1 : decode cX5_within 1 = .ok (.iload_n 1, 1) := by decide +kernel
theorem dX5_within_2 : decode cX5_within 2 = .ok (.if_icmp .lt 12, 3) := by decide +kernel
theorem dX5_within_5 : decode cX5_within 5 = .ok (.iload_n 0, 1) := by decide +kernel
theorem dX5_within_6 : decode cX5_within 6 = .ok (.iload_n 2, 1) := by decide +kernel
theorem dX5_within_7 : decode cX5_within 7 = .ok (.if_icmp .gt 7, 3) := by decide +kernel
theorem dX5_within_10 : decode cX5_within 10 = .ok (.iconst 1, 1) := by decide +kernel
theorem dX5_within_11 : decode cX5_within 11 = .ok (.goto 4, 3) := by decide +kernel
theorem dX5_within_14 : decode cX5_within 14 = .ok (.iconst 0, 1) := by decide +kernel
theorem dX5_within_15 : decode cX5_within 15 = .ok (.ireturn, 1) := by decide +kernel
theorem dX5_isFare_0 : decode cX5_isFare 0 = .ok (.iload_n 0, 1) := by decide +kernel
theorem dX5_isFare_1 : decode cX5_isFare 1 = .ok (.iconst 0, 1) := by decide +kernel
theorem dX5_isFare_2 : decode cX5_isFare 2 = .ok (.iconst 3, 1) := by decide +kernel
theorem dX5_isFare_3 : decode cX5_isFare 3 = .ok (.invokestatic 75, 3) := by decide +kernel
theorem dX5_isFare_6 : decode cX5_isFare 6 = .ok (.ifCond .eq 16, 3) := by decide +kernel
theorem dX5_isFare_9 : decode cX5_isFare 9 = .ok (.iload_n 1, 1) := by decide +kernel
theorem dX5_isFare_10 : decode cX5_isFare 10 = .ok (.iconst 0, 1) := by decide +kernel
theorem dX5_isFare_11 : decode cX5_isFare 11 = .ok (.iconst 3, 1) := by decide +kernel
theorem dX5_isFare_12 : decode cX5_isFare 12 = .ok (.invokestatic 75, 3) := by decide +kernel
theorem dX5_isFare_15 : decode cX5_isFare 15 = .ok (.ifCond .eq 7, 3) := by decide +kernel
theorem dX5_isFare_18 : decode cX5_isFare 18 = .ok (.iconst 1, 1) := by decide +kernel
theorem dX5_isFare_19 : decode cX5_isFare 19 = .ok (.goto 4, 3) := by decide +kernel
theorem dX5_isFare_22 : decode cX5_isFare 22 = .ok (.iconst 0, 1) := by decide +kernel
theorem dX5_isFare_23 : decode cX5_isFare 23 = .ok (.ireturn, 1) := by decide +kernel
theorem dX5_contains_0 : decode cX5_contains 0 = .ok (.iload_n 0, 1) := by decide +kernel
theorem dX5_contains_1 : decode cX5_contains 1 = .ok (.iload_n 1, 1) := by decide +kernel
theorem dX5_contains_2 : decode cX5_contains 2 = .ok (.ishr, 1) := by decide +kernel
theorem dX5_contains_3 : decode cX5_contains 3 = .ok (.iconst 1, 1) := by decide +kernel
theorem dX5_contains_4 : decode cX5_contains 4 = .ok (.iand, 1) := by decide +kernel
theorem dX5_contains_5 : decode cX5_contains 5 = .ok (.iconst 1, 1) := by decide +kernel
theorem dX5_contains_6 : decode cX5_contains 6 = .ok (.if_icmp .ne 7, 3) := by decide +kernel
theorem dX5_contains_9 : decode cX5_contains 9 = .ok (.iconst 1, 1) := by decide +kernel
theorem dX5_contains_10 : decode cX5_contains 10 = .ok (.goto 4, 3) := by decide +kernel
theorem dX5_contains_13 : decode cX5_contains 13 = .ok (.iconst 0, 1) := by decide +kernel
theorem dX5_contains_14 : decode cX5_contains 14 = .ok (.ireturn, 1) := by decide +kernel
theorem dX5_costOf_0 : decode cX5_costOf 0 = .ok (.iconst 2, 1) := by decide +kernel
theorem dX5_costOf_1 : decode cX5_costOf 1 = .ok (.iload_n 0, 1) := by decide +kernel
theorem dX5_costOf_2 : decode cX5_costOf 2 = .ok (.imul, 1) := by decide +kernel
theorem dX5_costOf_3 : decode cX5_costOf 3 = .ok (.iconst 3, 1) := by decide +kernel
theorem dX5_costOf_4 : decode cX5_costOf 4 = .ok (.iload_n 1, 1) := by decide +kernel
theorem dX5_costOf_5 : decode cX5_costOf 5 = .ok (.imul, 1) := by decide +kernel
theorem dX5_costOf_6 : decode cX5_costOf 6 = .ok (.iadd, 1) := by decide +kernel
theorem dX5_costOf_7 : decode cX5_costOf 7 = .ok (.ireturn, 1) := by decide +kernel
theorem dX5_waysOfTenths_0 : decode cX5_waysOfTenths 0 = .ok (.iconst 0, 1) := by decide +kernel
theorem dX5_waysOfTenths_1 : decode cX5_waysOfTenths 1 = .ok (.istore_n 3, 1) := by decide +kernel
theorem dX5_waysOfTenths_2 : decode cX5_waysOfTenths 2 = .ok (.iload_n 1, 1) := by decide +kernel
theorem dX5_waysOfTenths_3 : decode cX5_waysOfTenths 3 = .ok (.istore 4, 2) := by decide +kernel
theorem dX5_waysOfTenths_5 : decode cX5_waysOfTenths 5 = .ok (.iload 4, 2) := by decide +kernel
theorem dX5_waysOfTenths_7 : decode cX5_waysOfTenths 7 = .ok (.iload_n 0, 1) := by decide +kernel
theorem dX5_waysOfTenths_8 : decode cX5_waysOfTenths 8 = .ok (.if_icmp .gt 37, 3) := by decide +kernel
theorem dX5_waysOfTenths_11 : decode cX5_waysOfTenths 11 = .ok (.iload_n 3, 1) := by decide +kernel
theorem dX5_waysOfTenths_12 : decode cX5_waysOfTenths 12 = .ok (.iload_n 0, 1) := by decide +kernel
theorem dX5_waysOfTenths_13 : decode cX5_waysOfTenths 13 = .ok (.iload 4, 2) := by decide +kernel
theorem dX5_waysOfTenths_15 : decode cX5_waysOfTenths 15 = .ok (.invokestatic 273, 3) := by decide +kernel
theorem dX5_waysOfTenths_18 : decode cX5_waysOfTenths 18 = .ok (.iload_n 2, 1) := by decide +kernel
theorem dX5_waysOfTenths_19 : decode cX5_waysOfTenths 19 = .ok (.iload 4, 2) := by decide +kernel
theorem dX5_waysOfTenths_21 : decode cX5_waysOfTenths 21 = .ok (.invokestatic 229, 3) := by decide +kernel
theorem dX5_waysOfTenths_24 : decode cX5_waysOfTenths 24 = .ok (.imul, 1) := by decide +kernel
theorem dX5_waysOfTenths_25 : decode cX5_waysOfTenths 25 = .ok (.bipush 10, 2) := by decide +kernel
theorem dX5_waysOfTenths_27 : decode cX5_waysOfTenths 27 = .ok (.iload_n 2, 1) := by decide +kernel
theorem dX5_waysOfTenths_28 : decode cX5_waysOfTenths 28 = .ok (.isub, 1) := by decide +kernel
theorem dX5_waysOfTenths_29 : decode cX5_waysOfTenths 29 = .ok (.iload_n 0, 1) := by decide +kernel
theorem dX5_waysOfTenths_30 : decode cX5_waysOfTenths 30 = .ok (.iload 4, 2) := by decide +kernel
theorem dX5_waysOfTenths_32 : decode cX5_waysOfTenths 32 = .ok (.isub, 1) := by decide +kernel
theorem dX5_waysOfTenths_33 : decode cX5_waysOfTenths 33 = .ok (.invokestatic 229, 3) := by decide +kernel
theorem dX5_waysOfTenths_36 : decode cX5_waysOfTenths 36 = .ok (.imul, 1) := by decide +kernel
theorem dX5_waysOfTenths_37 : decode cX5_waysOfTenths 37 = .ok (.iadd, 1) := by decide +kernel
theorem dX5_waysOfTenths_38 : decode cX5_waysOfTenths 38 = .ok (.istore_n 3, 1) := by decide +kernel
theorem dX5_waysOfTenths_39 : decode cX5_waysOfTenths 39 = .ok (.iinc 4 1, 3) := by decide +kernel
theorem dX5_waysOfTenths_42 : decode cX5_waysOfTenths 42 = .ok (.goto (-37), 3) := by decide +kernel
theorem dX5_waysOfTenths_45 : decode cX5_waysOfTenths 45 = .ok (.iload_n 3, 1) := by decide +kernel
theorem dX5_waysOfTenths_46 : decode cX5_waysOfTenths 46 = .ok (.ireturn, 1) := by decide +kernel
theorem dX5_choices_0 : decode cX5_choices 0 = .ok (.iconst 1, 1) := by decide +kernel
theorem dX5_choices_1 : decode cX5_choices 1 = .ok (.istore_n 2, 1) := by decide +kernel
theorem dX5_choices_2 : decode cX5_choices 2 = .ok (.iconst 1, 1) := by decide +kernel
theorem dX5_choices_3 : decode cX5_choices 3 = .ok (.istore_n 3, 1) := by decide +kernel
theorem dX5_choices_4 : decode cX5_choices 4 = .ok (.iload_n 3, 1) := by decide +kernel
theorem dX5_choices_5 : decode cX5_choices 5 = .ok (.iload_n 1, 1) := by decide +kernel
theorem dX5_choices_6 : decode cX5_choices 6 = .ok (.if_icmp .gt 19, 3) := by decide +kernel
theorem dX5_choices_9 : decode cX5_choices 9 = .ok (.iload_n 2, 1) := by decide +kernel
theorem dX5_choices_10 : decode cX5_choices 10 = .ok (.iload_n 0, 1) := by decide +kernel
theorem dX5_choices_11 : decode cX5_choices 11 = .ok (.iload_n 1, 1) := by decide +kernel
theorem dX5_choices_12 : decode cX5_choices 12 = .ok (.isub, 1) := by decide +kernel
theorem dX5_choices_13 : decode cX5_choices 13 = .ok (.iload_n 3, 1) := by decide +kernel
theorem dX5_choices_14 : decode cX5_choices 14 = .ok (.iadd, 1) := by decide +kernel
theorem dX5_choices_15 : decode cX5_choices 15 = .ok (.imul, 1) := by decide +kernel
theorem dX5_choices_16 : decode cX5_choices 16 = .ok (.iload_n 3, 1) := by decide +kernel
theorem dX5_choices_17 : decode cX5_choices 17 = .ok (.idiv, 1) := by decide +kernel
theorem dX5_choices_18 : decode cX5_choices 18 = .ok (.istore_n 2, 1) := by decide +kernel
theorem dX5_choices_19 : decode cX5_choices 19 = .ok (.iinc 3 1, 3) := by decide +kernel
theorem dX5_choices_22 : decode cX5_choices 22 = .ok (.goto (-18), 3) := by decide +kernel
theorem dX5_choices_25 : decode cX5_choices 25 = .ok (.iload_n 2, 1) := by decide +kernel
theorem dX5_choices_26 : decode cX5_choices 26 = .ok (.ireturn, 1) := by decide +kernel
theorem dX5_power_0 : decode cX5_power 0 = .ok (.iconst 1, 1) := by decide +kernel
theorem dX5_power_1 : decode cX5_power 1 = .ok (.istore_n 2, 1) := by decide +kernel
theorem dX5_power_2 : decode cX5_power 2 = .ok (.iconst 0, 1) := by decide +kernel
theorem dX5_power_3 : decode cX5_power 3 = .ok (.istore_n 3, 1) := by decide +kernel
theorem dX5_power_4 : decode cX5_power 4 = .ok (.iload_n 3, 1) := by decide +kernel
theorem dX5_power_5 : decode cX5_power 5 = .ok (.iload_n 1, 1) := by decide +kernel
theorem dX5_power_6 : decode cX5_power 6 = .ok (.if_icmp .ge 13, 3) := by decide +kernel
theorem dX5_power_9 : decode cX5_power 9 = .ok (.iload_n 2, 1) := by decide +kernel
theorem dX5_power_10 : decode cX5_power 10 = .ok (.iload_n 0, 1) := by decide +kernel
theorem dX5_power_11 : decode cX5_power 11 = .ok (.imul, 1) := by decide +kernel
theorem dX5_power_12 : decode cX5_power 12 = .ok (.istore_n 2, 1) := by decide +kernel
theorem dX5_power_13 : decode cX5_power 13 = .ok (.iinc 3 1, 3) := by decide +kernel
theorem dX5_power_16 : decode cX5_power 16 = .ok (.goto (-12), 3) := by decide +kernel
theorem dX5_power_19 : decode cX5_power 19 = .ok (.iload_n 2, 1) := by decide +kernel
theorem dX5_power_20 : decode cX5_power 20 = .ok (.ireturn, 1) := by decide +kernel
theorem dX5_commonDivisor_0 : decode cX5_commonDivisor 0 = .ok (.iload_n 0, 1) := by decide +kernel
theorem dX5_commonDivisor_1 : decode cX5_commonDivisor 1 = .ok (.istore_n 2, 1) := by decide +kernel
theorem dX5_commonDivisor_2 : decode cX5_commonDivisor 2 = .ok (.iload_n 1, 1) := by decide +kernel
theorem dX5_commonDivisor_3 : decode cX5_commonDivisor 3 = .ok (.istore_n 3, 1) := by decide +kernel
theorem dX5_commonDivisor_4 : decode cX5_commonDivisor 4 = .ok (.iconst 0, 1) := by decide +kernel
theorem dX5_commonDivisor_5 : decode cX5_commonDivisor 5 = .ok (.istore 4, 2) := by decide +kernel
theorem dX5_commonDivisor_7 : decode cX5_commonDivisor 7 = .ok (.iload 4, 2) := by decide +kernel
theorem dX5_commonDivisor_9 : decode cX5_commonDivisor 9 = .ok (.bipush 64, 2) := by decide +kernel
theorem dX5_commonDivisor_11 : decode cX5_commonDivisor 11 = .ok (.if_icmp .ge 23, 3) := by decide +kernel
theorem dX5_commonDivisor_14 : decode cX5_commonDivisor 14 = .ok (.iload_n 3, 1) := by decide +kernel
theorem dX5_commonDivisor_15 : decode cX5_commonDivisor 15 = .ok (.ifCond .eq 19, 3) := by decide +kernel
theorem dX5_commonDivisor_18 : decode cX5_commonDivisor 18 = .ok (.iload_n 2, 1) := by decide +kernel
theorem dX5_commonDivisor_19 : decode cX5_commonDivisor 19 = .ok (.iload_n 3, 1) := by decide +kernel
theorem dX5_commonDivisor_20 : decode cX5_commonDivisor 20 = .ok (.irem, 1) := by decide +kernel
theorem dX5_commonDivisor_21 : decode cX5_commonDivisor 21 = .ok (.istore 5, 2) := by decide +kernel
theorem dX5_commonDivisor_23 : decode cX5_commonDivisor 23 = .ok (.iload_n 3, 1) := by decide +kernel
theorem dX5_commonDivisor_24 : decode cX5_commonDivisor 24 = .ok (.istore_n 2, 1) := by decide +kernel
theorem dX5_commonDivisor_25 : decode cX5_commonDivisor 25 = .ok (.iload 5, 2) := by decide +kernel
theorem dX5_commonDivisor_27 : decode cX5_commonDivisor 27 = .ok (.istore_n 3, 1) := by decide +kernel
theorem dX5_commonDivisor_28 : decode cX5_commonDivisor 28 = .ok (.iinc 4 1, 3) := by decide +kernel
theorem dX5_commonDivisor_31 : decode cX5_commonDivisor 31 = .ok (.goto (-24), 3) := by decide +kernel
theorem dX5_commonDivisor_34 : decode cX5_commonDivisor 34 = .ok (.iconst 1, 1) := by decide +kernel
theorem dX5_commonDivisor_35 : decode cX5_commonDivisor 35 = .ok (.iload_n 2, 1) := by decide +kernel
theorem dX5_commonDivisor_36 : decode cX5_commonDivisor 36 = .ok (.invokestatic 276, 3) := by decide +kernel
theorem dX5_commonDivisor_39 : decode cX5_commonDivisor 39 = .ok (.ireturn, 1) := by decide +kernel
theorem dX5_areAlike_0 : decode cX5_areAlike 0 = .ok (.aload_n 0, 1) := by decide +kernel
theorem dX5_areAlike_1 : decode cX5_areAlike 1 = .ok (.arraylength, 1) := by decide +kernel
theorem dX5_areAlike_2 : decode cX5_areAlike 2 = .ok (.aload_n 1, 1) := by decide +kernel
theorem dX5_areAlike_3 : decode cX5_areAlike 3 = .ok (.arraylength, 1) := by decide +kernel
theorem dX5_areAlike_4 : decode cX5_areAlike 4 = .ok (.if_icmp .eq 5, 3) := by decide +kernel
theorem dX5_areAlike_7 : decode cX5_areAlike 7 = .ok (.iconst 0, 1) := by decide +kernel
theorem dX5_areAlike_8 : decode cX5_areAlike 8 = .ok (.ireturn, 1) := by decide +kernel
theorem dX5_areAlike_9 : decode cX5_areAlike 9 = .ok (.iconst 0, 1) := by decide +kernel
theorem dX5_areAlike_10 : decode cX5_areAlike 10 = .ok (.istore_n 2, 1) := by decide +kernel
theorem dX5_areAlike_11 : decode cX5_areAlike 11 = .ok (.iload_n 2, 1) := by decide +kernel
theorem dX5_areAlike_12 : decode cX5_areAlike 12 = .ok (.aload_n 0, 1) := by decide +kernel
theorem dX5_areAlike_13 : decode cX5_areAlike 13 = .ok (.arraylength, 1) := by decide +kernel
theorem dX5_areAlike_14 : decode cX5_areAlike 14 = .ok (.if_icmp .ge 20, 3) := by decide +kernel
theorem dX5_areAlike_17 : decode cX5_areAlike 17 = .ok (.aload_n 0, 1) := by decide +kernel
theorem dX5_areAlike_18 : decode cX5_areAlike 18 = .ok (.iload_n 2, 1) := by decide +kernel
theorem dX5_areAlike_19 : decode cX5_areAlike 19 = .ok (.iaload, 1) := by decide +kernel
theorem dX5_areAlike_20 : decode cX5_areAlike 20 = .ok (.aload_n 1, 1) := by decide +kernel
theorem dX5_areAlike_21 : decode cX5_areAlike 21 = .ok (.iload_n 2, 1) := by decide +kernel
theorem dX5_areAlike_22 : decode cX5_areAlike 22 = .ok (.iaload, 1) := by decide +kernel
theorem dX5_areAlike_23 : decode cX5_areAlike 23 = .ok (.if_icmp .eq 5, 3) := by decide +kernel
theorem dX5_areAlike_26 : decode cX5_areAlike 26 = .ok (.iconst 0, 1) := by decide +kernel
theorem dX5_areAlike_27 : decode cX5_areAlike 27 = .ok (.ireturn, 1) := by decide +kernel
theorem dX5_areAlike_28 : decode cX5_areAlike 28 = .ok (.iinc 2 1, 3) := by decide +kernel
theorem dX5_areAlike_31 : decode cX5_areAlike 31 = .ok (.goto (-20), 3) := by decide +kernel
theorem dX5_areAlike_34 : decode cX5_areAlike 34 = .ok (.iconst 1, 1) := by decide +kernel
theorem dX5_areAlike_35 : decode cX5_areAlike 35 = .ok (.ireturn, 1) := by decide +kernel
theorem dX5_drawOf_0 : decode cX5_drawOf 0 = .ok (.ldc2_w 281, 3) := by decide +kernel
theorem dX5_drawOf_3 : decode cX5_drawOf 3 = .ok (.iload_n 0, 1) := by decide +kernel
theorem dX5_drawOf_4 : decode cX5_drawOf 4 = .ok (.i2l, 1) := by decide +kernel
theorem dX5_drawOf_5 : decode cX5_drawOf 5 = .ok (.lmul, 1) := by decide +kernel
theorem dX5_drawOf_6 : decode cX5_drawOf 6 = .ok (.ldc2_w 283, 3) := by decide +kernel
theorem dX5_drawOf_9 : decode cX5_drawOf 9 = .ok (.iload_n 1, 1) := by decide +kernel
theorem dX5_drawOf_10 : decode cX5_drawOf 10 = .ok (.i2l, 1) := by decide +kernel
theorem dX5_drawOf_11 : decode cX5_drawOf 11 = .ok (.lmul, 1) := by decide +kernel
theorem dX5_drawOf_12 : decode cX5_drawOf 12 = .ok (.ladd, 1) := by decide +kernel
theorem dX5_drawOf_13 : decode cX5_drawOf 13 = .ok (.lconst 1, 1) := by decide +kernel
theorem dX5_drawOf_14 : decode cX5_drawOf 14 = .ok (.ladd, 1) := by decide +kernel
theorem dX5_drawOf_15 : decode cX5_drawOf 15 = .ok (.lstore_n 2, 1) := by decide +kernel
theorem dX5_drawOf_16 : decode cX5_drawOf 16 = .ok (.lload_n 2, 1) := by decide +kernel
theorem dX5_drawOf_17 : decode cX5_drawOf 17 = .ok (.lload_n 2, 1) := by decide +kernel
theorem dX5_drawOf_18 : decode cX5_drawOf 18 = .ok (.lmul, 1) := by decide +kernel
theorem dX5_drawOf_19 : decode cX5_drawOf 19 = .ok (.ldc2_w 285, 3) := by decide +kernel
theorem dX5_drawOf_22 : decode cX5_drawOf 22 = .ok (.lrem, 1) := by decide +kernel
theorem dX5_drawOf_23 : decode cX5_drawOf 23 = .ok (.l2i, 1) := by decide +kernel
theorem dX5_drawOf_24 : decode cX5_drawOf 24 = .ok (.ireturn, 1) := by decide +kernel
theorem dX6_init_0 : decode cX6_init 0 = .ok (.aload_n 0, 1) := by decide +kernel
theorem dX6_init_1 : decode cX6_init 1 = .ok (.invokespecial 1, 3) := by decide +kernel
theorem dX6_init_4 : decode cX6_init 4 = .ok (.aload_n 0, 1) := by decide +kernel
theorem dX6_init_5 : decode cX6_init 5 = .ok (.bipush 6, 2) := by decide +kernel
theorem dX6_init_7 : decode cX6_init 7 = .ok (.newarray .int, 2) := by decide +kernel
theorem dX6_init_9 : decode cX6_init 9 = .ok (.putfield 7, 3) := by decide +kernel
theorem dX6_init_12 : decode cX6_init 12 = .ok (.aload_n 0, 1) := by decide +kernel
theorem dX6_init_13 : decode cX6_init 13 = .ok (.bipush 6, 2) := by decide +kernel
theorem dX6_init_15 : decode cX6_init 15 = .ok (.newarray .int, 2) := by decide +kernel
theorem dX6_init_17 : decode cX6_init 17 = .ok (.putfield 13, 3) := by decide +kernel
theorem dX6_init_20 : decode cX6_init 20 = .ok (.aload_n 0, 1) := by decide +kernel
theorem dX6_init_21 : decode cX6_init 21 = .ok (.bipush 6, 2) := by decide +kernel
theorem dX6_init_23 : decode cX6_init 23 = .ok (.newarray .int, 2) := by decide +kernel
theorem dX6_init_25 : decode cX6_init 25 = .ok (.putfield 16, 3) := by decide +kernel
theorem dX6_init_28 : decode cX6_init 28 = .ok (.aload_n 0, 1) := by decide +kernel
theorem dX6_init_29 : decode cX6_init 29 = .ok (.bipush 6, 2) := by decide +kernel
theorem dX6_init_31 : decode cX6_init 31 = .ok (.newarray .int, 2) := by decide +kernel
theorem dX6_init_33 : decode cX6_init 33 = .ok (.putfield 19, 3) := by decide +kernel
theorem dX6_init_36 : decode cX6_init 36 = .ok (.aload_n 0, 1) := by decide +kernel
theorem dX6_init_37 : decode cX6_init 37 = .ok (.sipush 984, 3) := by decide +kernel
theorem dX6_init_40 : decode cX6_init 40 = .ok (.newarray .int, 2) := by decide +kernel
theorem dX6_init_42 : decode cX6_init 42 = .ok (.putfield 22, 3) := by decide +kernel
theorem dX6_init_45 : decode cX6_init 45 = .ok (.aload_n 0, 1) := by decide +kernel
theorem dX6_init_46 : decode cX6_init 46 = .ok (.sipush 200, 3) := by decide +kernel
theorem dX6_init_49 : decode cX6_init 49 = .ok (.newarray .byte, 2) := by decide +kernel
theorem dX6_init_51 : decode cX6_init 51 = .ok (.putfield 25, 3) := by decide +kernel
theorem dX6_init_54 : decode cX6_init 54 = .ok (.aload_n 0, 1) := by decide +kernel
theorem dX6_init_55 : decode cX6_init 55 = .ok (.bipush 6, 2) := by decide +kernel
theorem dX6_init_57 : decode cX6_init 57 = .ok (.newarray .int, 2) := by decide +kernel
theorem dX6_init_59 : decode cX6_init 59 = .ok (.putfield 29, 3) := by decide +kernel
theorem dX6_init_62 : decode cX6_init 62 = .ok (.aload_n 0, 1) := by decide +kernel
theorem dX6_init_63 : decode cX6_init 63 = .ok (.bipush 6, 2) := by decide +kernel
theorem dX6_init_65 : decode cX6_init 65 = .ok (.newarray .int, 2) := by decide +kernel
theorem dX6_init_67 : decode cX6_init 67 = .ok (.putfield 32, 3) := by decide +kernel
theorem dX6_init_70 : decode cX6_init 70 = .ok (.aload_n 0, 1) := by decide +kernel
theorem dX6_init_71 : decode cX6_init 71 = .ok (.bipush 6, 2) := by decide +kernel
theorem dX6_init_73 : decode cX6_init 73 = .ok (.newarray .int, 2) := by decide +kernel
theorem dX6_init_75 : decode cX6_init 75 = .ok (.putfield 35, 3) := by decide +kernel
theorem dX6_init_78 : decode cX6_init 78 = .ok (.aload_n 0, 1) := by decide +kernel
theorem dX6_init_79 : decode cX6_init 79 = .ok (.bipush 6, 2) := by decide +kernel
theorem dX6_init_81 : decode cX6_init 81 = .ok (.newarray .int, 2) := by decide +kernel
theorem dX6_init_83 : decode cX6_init 83 = .ok (.putfield 38, 3) := by decide +kernel
theorem dX6_init_86 : decode cX6_init 86 = .ok (.aload_n 0, 1) := by decide +kernel
theorem dX6_init_87 : decode cX6_init 87 = .ok (.bipush 6, 2) := by decide +kernel
theorem dX6_init_89 : decode cX6_init 89 = .ok (.newarray .boolean, 2) := by decide +kernel
theorem dX6_init_91 : decode cX6_init 91 = .ok (.putfield 41, 3) := by decide +kernel
theorem dX6_init_94 : decode cX6_init 94 = .ok (.aload_n 0, 1) := by decide +kernel
theorem dX6_init_95 : decode cX6_init 95 = .ok (.bipush 6, 2) := by decide +kernel
theorem dX6_init_97 : decode cX6_init 97 = .ok (.newarray .int, 2) := by decide +kernel
theorem dX6_init_99 : decode cX6_init 99 = .ok (.putfield 45, 3) := by decide +kernel
theorem dX6_init_102 : decode cX6_init 102 = .ok (.aload_n 0, 1) := by decide +kernel
theorem dX6_init_103 : decode cX6_init 103 = .ok (.bipush 6, 2) := by decide +kernel
theorem dX6_init_105 : decode cX6_init 105 = .ok (.newarray .int, 2) := by decide +kernel
theorem dX6_init_107 : decode cX6_init 107 = .ok (.putfield 48, 3) := by decide +kernel
theorem dX6_init_110 : decode cX6_init 110 = .ok (.aload_n 0, 1) := by decide +kernel
theorem dX6_init_111 : decode cX6_init 111 = .ok (.iconst 0, 1) := by decide +kernel
theorem dX6_init_112 : decode cX6_init 112 = .ok (.iconst 0, 1) := by decide +kernel
theorem dX6_init_113 : decode cX6_init 113 = .ok (.bipush 52, 2) := by decide +kernel
theorem dX6_init_115 : decode cX6_init 115 = .ok (.bipush 20, 2) := by decide +kernel
theorem dX6_init_117 : decode cX6_init 117 = .ok (.invokevirtual 51, 3) := by decide +kernel
theorem dX6_init_120 : decode cX6_init 120 = .ok (.aload_n 0, 1) := by decide +kernel
theorem dX6_init_121 : decode cX6_init 121 = .ok (.iconst 0, 1) := by decide +kernel
theorem dX6_init_122 : decode cX6_init 122 = .ok (.iconst 1, 1) := by decide +kernel
theorem dX6_init_123 : decode cX6_init 123 = .ok (.bipush 50, 2) := by decide +kernel
theorem dX6_init_125 : decode cX6_init 125 = .ok (.bipush 9, 2) := by decide +kernel
theorem dX6_init_127 : decode cX6_init 127 = .ok (.invokevirtual 51, 3) := by decide +kernel
theorem dX6_init_130 : decode cX6_init 130 = .ok (.aload_n 0, 1) := by decide +kernel
theorem dX6_init_131 : decode cX6_init 131 = .ok (.iconst 0, 1) := by decide +kernel
theorem dX6_init_132 : decode cX6_init 132 = .ok (.iconst 2, 1) := by decide +kernel
theorem dX6_init_133 : decode cX6_init 133 = .ok (.bipush 60, 2) := by decide +kernel
theorem dX6_init_135 : decode cX6_init 135 = .ok (.iconst 3, 1) := by decide +kernel
theorem dX6_init_136 : decode cX6_init 136 = .ok (.invokevirtual 51, 3) := by decide +kernel
theorem dX6_init_139 : decode cX6_init 139 = .ok (.aload_n 0, 1) := by decide +kernel
theorem dX6_init_140 : decode cX6_init 140 = .ok (.iconst 0, 1) := by decide +kernel
theorem dX6_init_141 : decode cX6_init 141 = .ok (.iconst 3, 1) := by decide +kernel
theorem dX6_init_142 : decode cX6_init 142 = .ok (.bipush 49, 2) := by decide +kernel
theorem dX6_init_144 : decode cX6_init 144 = .ok (.bipush 30, 2) := by decide +kernel
theorem dX6_init_146 : decode cX6_init 146 = .ok (.invokevirtual 51, 3) := by decide +kernel
theorem dX6_init_149 : decode cX6_init 149 = .ok (.aload_n 0, 1) := by decide +kernel
theorem dX6_init_150 : decode cX6_init 150 = .ok (.iconst 0, 1) := by decide +kernel
theorem dX6_init_151 : decode cX6_init 151 = .ok (.iconst 4, 1) := by decide +kernel
theorem dX6_init_152 : decode cX6_init 152 = .ok (.bipush 55, 2) := by decide +kernel
theorem dX6_init_154 : decode cX6_init 154 = .ok (.bipush 14, 2) := by decide +kernel
theorem dX6_init_156 : decode cX6_init 156 = .ok (.invokevirtual 51, 3) := by decide +kernel
theorem dX6_init_159 : decode cX6_init 159 = .ok (.aload_n 0, 1) := by decide +kernel
theorem dX6_init_160 : decode cX6_init 160 = .ok (.getfield 22, 3) := by decide +kernel
theorem dX6_init_163 : decode cX6_init 163 = .ok (.bipush 16, 2) := by decide +kernel
theorem dX6_init_165 : decode cX6_init 165 = .ok (.bipush (-2), 2) := by decide +kernel
theorem dX6_init_167 : decode cX6_init 167 = .ok (.iastore, 1) := by decide +kernel
theorem dX6_init_168 : decode cX6_init 168 = .ok (.aload_n 0, 1) := by decide +kernel
theorem dX6_init_169 : decode cX6_init 169 = .ok (.getfield 22, 3) := by decide +kernel
theorem dX6_init_172 : decode cX6_init 172 = .ok (.bipush 22, 2) := by decide +kernel
theorem dX6_init_174 : decode cX6_init 174 = .ok (.iconst 1, 1) := by decide +kernel
theorem dX6_init_175 : decode cX6_init 175 = .ok (.iastore, 1) := by decide +kernel
theorem dX6_init_176 : decode cX6_init 176 = .ok (.aload_n 0, 1) := by decide +kernel
theorem dX6_init_177 : decode cX6_init 177 = .ok (.getfield 22, 3) := by decide +kernel
theorem dX6_init_180 : decode cX6_init 180 = .ok (.bipush 28, 2) := by decide +kernel
theorem dX6_init_182 : decode cX6_init 182 = .ok (.iconst 4, 1) := by decide +kernel
theorem dX6_init_183 : decode cX6_init 183 = .ok (.iastore, 1) := by decide +kernel
theorem dX6_init_184 : decode cX6_init 184 = .ok (.aload_n 0, 1) := by decide +kernel
theorem dX6_init_185 : decode cX6_init 185 = .ok (.getfield 22, 3) := by decide +kernel
theorem dX6_init_188 : decode cX6_init 188 = .ok (.bipush 34, 2) := by decide +kernel
theorem dX6_init_190 : decode cX6_init 190 = .ok (.iconst 2, 1) := by decide +kernel
theorem dX6_init_191 : decode cX6_init 191 = .ok (.iastore, 1) := by decide +kernel
theorem dX6_init_192 : decode cX6_init 192 = .ok (.aload_n 0, 1) := by decide +kernel
theorem dX6_init_193 : decode cX6_init 193 = .ok (.getfield 22, 3) := by decide +kernel
theorem dX6_init_196 : decode cX6_init 196 = .ok (.bipush 11, 2) := by decide +kernel
theorem dX6_init_198 : decode cX6_init 198 = .ok (.iconst 3, 1) := by decide +kernel
theorem dX6_init_199 : decode cX6_init 199 = .ok (.iastore, 1) := by decide +kernel
theorem dX6_init_200 : decode cX6_init 200 = .ok (.aload_n 0, 1) := by decide +kernel
theorem dX6_init_201 : decode cX6_init 201 = .ok (.getfield 22, 3) := by decide +kernel
theorem dX6_init_204 : decode cX6_init 204 = .ok (.bipush 29, 2) := by decide +kernel
theorem dX6_init_206 : decode cX6_init 206 = .ok (.iconst (-1), 1) := by decide +kernel
theorem dX6_init_207 : decode cX6_init 207 = .ok (.iastore, 1) := by decide +kernel
theorem dX6_init_208 : decode cX6_init 208 = .ok (.aload_n 0, 1) := by decide +kernel
theorem dX6_init_209 : decode cX6_init 209 = .ok (.getfield 22, 3) := by decide +kernel
theorem dX6_init_212 : decode cX6_init 212 = .ok (.bipush 12, 2) := by decide +kernel
theorem dX6_init_214 : decode cX6_init 214 = .ok (.iconst 2, 1) := by decide +kernel
theorem dX6_init_215 : decode cX6_init 215 = .ok (.iastore, 1) := by decide +kernel
theorem dX6_init_216 : decode cX6_init 216 = .ok (.aload_n 0, 1) := by decide +kernel
theorem dX6_init_217 : decode cX6_init 217 = .ok (.getfield 22, 3) := by decide +kernel
theorem dX6_init_220 : decode cX6_init 220 = .ok (.bipush 18, 2) := by decide +kernel
theorem dX6_init_222 : decode cX6_init 222 = .ok (.iconst 5, 1) := by decide +kernel
theorem dX6_init_223 : decode cX6_init 223 = .ok (.iastore, 1) := by decide +kernel
theorem dX6_init_224 : decode cX6_init 224 = .ok (.aload_n 0, 1) := by decide +kernel
theorem dX6_init_225 : decode cX6_init 225 = .ok (.getfield 22, 3) := by decide +kernel
theorem dX6_init_228 : decode cX6_init 228 = .ok (.bipush 37, 2) := by decide +kernel
theorem dX6_init_230 : decode cX6_init 230 = .ok (.iconst 4, 1) := by decide +kernel
theorem dX6_init_231 : decode cX6_init 231 = .ok (.iastore, 1) := by decide +kernel
theorem dX6_init_232 : decode cX6_init 232 = .ok (.aload_n 0, 1) := by decide +kernel
theorem dX6_init_233 : decode cX6_init 233 = .ok (.getfield 22, 3) := by decide +kernel
theorem dX6_init_236 : decode cX6_init 236 = .ok (.bipush 70, 2) := by decide +kernel
theorem dX6_init_238 : decode cX6_init 238 = .ok (.bipush 10, 2) := by decide +kernel
theorem dX6_init_240 : decode cX6_init 240 = .ok (.iastore, 1) := by decide +kernel
theorem dX6_init_241 : decode cX6_init 241 = .ok (.aload_n 0, 1) := by decide +kernel
theorem dX6_init_242 : decode cX6_init 242 = .ok (.getfield 22, 3) := by decide +kernel
theorem dX6_init_245 : decode cX6_init 245 = .ok (.bipush 58, 2) := by decide +kernel
theorem dX6_init_247 : decode cX6_init 247 = .ok (.iconst 3, 1) := by decide +kernel
theorem dX6_init_248 : decode cX6_init 248 = .ok (.iastore, 1) := by decide +kernel
theorem dX6_init_249 : decode cX6_init 249 = .ok (.aload_n 0, 1) := by decide +kernel
theorem dX6_init_250 : decode cX6_init 250 = .ok (.getfield 22, 3) := by decide +kernel
theorem dX6_init_253 : decode cX6_init 253 = .ok (.bipush 68, 2) := by decide +kernel
theorem dX6_init_255 : decode cX6_init 255 = .ok (.bipush 8, 2) := by decide +kernel
theorem dX6_init_257 : decode cX6_init 257 = .ok (.iastore, 1) := by decide +kernel
theorem dX6_init_258 : decode cX6_init 258 = .ok (.aload_n 0, 1) := by decide +kernel
theorem dX6_init_259 : decode cX6_init 259 = .ok (.bipush 50, 2) := by decide +kernel
theorem dX6_init_261 : decode cX6_init 261 = .ok (.putfield 55, 3) := by decide +kernel
theorem dX6_init_264 : decode cX6_init 264 = .ok (.aload_n 0, 1) := by decide +kernel
theorem dX6_init_265 : decode cX6_init 265 = .ok (.invokevirtual 59, 3) := by decide +kernel
theorem dX6_init_268 : decode cX6_init 268 = .ok (.return_, 1) := by decide +kernel
theorem dX6_in_0 : decode cX6_in 0 = .ok (.lload_n 0, 1) := by decide +kernel
theorem dX6_in_1 : decode cX6_in 1 = .ok (.lload_n 2, 1) := by decide +kernel
theorem dX6_in_2 : decode cX6_in 2 = .ok (.lcmp, 1) := by decide +kernel
theorem dX6_in_3 : decode cX6_in 3 = .ok (.ifCond .lt 14, 3) := by decide +kernel
theorem dX6_in_6 : decode cX6_in 6 = .ok (.lload_n 0, 1) := by decide +kernel
theorem dX6_in_7 : decode cX6_in 7 = .ok (.lload 4, 2) := by decide +kernel
theorem dX6_in_9 : decode cX6_in 9 = .ok (.lcmp, 1) := by decide +kernel
theorem dX6_in_10 : decode cX6_in 10 = .ok (.ifCond .gt 7, 3) := by decide +kernel
theorem dX6_in_13 : decode cX6_in 13 = .ok (.iconst 1, 1) := by decide +kernel
theorem dX6_in_14 : decode cX6_in 14 = .ok (.goto 4, 3) := by decide +kernel
theorem dX6_in_17 : decode cX6_in 17 = .ok (.iconst 0, 1) := by decide +kernel
theorem dX6_in_18 : decode cX6_in 18 = .ok (.ireturn, 1) := by decide +kernel
theorem dX6_has_0 : decode cX6_has 0 = .ok (.iload_n 0, 1) := by decide +kernel
theorem dX6_has_1 : decode cX6_has 1 = .ok (.iload_n 1, 1) := by decide +kernel
theorem dX6_has_2 : decode cX6_has 2 = .ok (.ishr, 1) := by decide +kernel
theorem dX6_has_3 : decode cX6_has 3 = .ok (.iconst 1, 1) := by decide +kernel
theorem dX6_has_4 : decode cX6_has 4 = .ok (.iand, 1) := by decide +kernel
theorem dX6_has_5 : decode cX6_has 5 = .ok (.iconst 1, 1) := by decide +kernel
theorem dX6_has_6 : decode cX6_has 6 = .ok (.if_icmp .ne 7, 3) := by decide +kernel
theorem dX6_has_9 : decode cX6_has 9 = .ok (.iconst 1, 1) := by decide +kernel
theorem dX6_has_10 : decode cX6_has 10 = .ok (.goto 4, 3) := by decide +kernel
theorem dX6_has_13 : decode cX6_has 13 = .ok (.iconst 0, 1) := by decide +kernel
theorem dX6_has_14 : decode cX6_has 14 = .ok (.ireturn, 1) := by decide +kernel
theorem dX6_smaller_0 : decode cX6_smaller 0 = .ok (.iload_n 0, 1) := by decide +kernel
theorem dX6_smaller_1 : decode cX6_smaller 1 = .ok (.iload_n 1, 1) := by decide +kernel
theorem dX6_smaller_2 : decode cX6_smaller 2 = .ok (.if_icmp .ge 7, 3) := by decide +kernel
theorem dX6_smaller_5 : decode cX6_smaller 5 = .ok (.iload_n 0, 1) := by decide +kernel
theorem dX6_smaller_6 : decode cX6_smaller 6 = .ok (.goto 4, 3) := by decide +kernel
theorem dX6_smaller_9 : decode cX6_smaller 9 = .ok (.iload_n 1, 1) := by decide +kernel
theorem dX6_smaller_10 : decode cX6_smaller 10 = .ok (.ireturn, 1) := by decide +kernel
theorem dX6_larger_0 : decode cX6_larger 0 = .ok (.iload_n 0, 1) := by decide +kernel
theorem dX6_larger_1 : decode cX6_larger 1 = .ok (.iload_n 1, 1) := by decide +kernel
theorem dX6_larger_2 : decode cX6_larger 2 = .ok (.if_icmp .ge 7, 3) := by decide +kernel
theorem dX6_larger_5 : decode cX6_larger 5 = .ok (.iload_n 1, 1) := by decide +kernel
theorem dX6_larger_6 : decode cX6_larger 6 = .ok (.goto 4, 3) := by decide +kernel
theorem dX6_larger_9 : decode cX6_larger 9 = .ok (.iload_n 0, 1) := by decide +kernel
theorem dX6_larger_10 : decode cX6_larger 10 = .ok (.ireturn, 1) := by decide +kernel
theorem dX6_lives_0 : decode cX6_lives 0 = .ok (.aload_n 0, 1) := by decide +kernel
theorem dX6_lives_1 : decode cX6_lives 1 = .ok (.getfield 16, 3) := by decide +kernel
theorem dX6_lives_4 : decode cX6_lives 4 = .ok (.aload_n 0, 1) := by decide +kernel
theorem dX6_lives_5 : decode cX6_lives 5 = .ok (.getfield 62, 3) := by decide +kernel
theorem dX6_lives_8 : decode cX6_lives 8 = .ok (.iload_n 2, 1) := by decide +kernel
theorem dX6_lives_9 : decode cX6_lives 9 = .ok (.iastore, 1) := by decide +kernel
theorem dX6_lives_10 : decode cX6_lives 10 = .ok (.aload_n 0, 1) := by decide +kernel
theorem dX6_lives_11 : decode cX6_lives 11 = .ok (.getfield 19, 3) := by decide +kernel
theorem dX6_lives_14 : decode cX6_lives 14 = .ok (.aload_n 0, 1) := by decide +kernel
theorem dX6_lives_15 : decode cX6_lives 15 = .ok (.getfield 62, 3) := by decide +kernel
theorem dX6_lives_18 : decode cX6_lives 18 = .ok (.iload_n 3, 1) := by decide +kernel
theorem dX6_lives_19 : decode cX6_lives 19 = .ok (.iastore, 1) := by decide +kernel
theorem dX6_lives_20 : decode cX6_lives 20 = .ok (.aload_n 0, 1) := by decide +kernel
theorem dX6_lives_21 : decode cX6_lives 21 = .ok (.getfield 22, 3) := by decide +kernel
theorem dX6_lives_24 : decode cX6_lives 24 = .ok (.iload_n 1, 1) := by decide +kernel
theorem dX6_lives_25 : decode cX6_lives 25 = .ok (.aload_n 0, 1) := by decide +kernel
theorem dX6_lives_26 : decode cX6_lives 26 = .ok (.getfield 62, 3) := by decide +kernel
theorem dX6_lives_29 : decode cX6_lives 29 = .ok (.iadd, 1) := by decide +kernel
theorem dX6_lives_30 : decode cX6_lives 30 = .ok (.iload 4, 2) := by decide +kernel
theorem dX6_lives_32 : decode cX6_lives 32 = .ok (.iastore, 1) := by decide +kernel
theorem dX6_lives_33 : decode cX6_lives 33 = .ok (.aload_n 0, 1) := by decide +kernel
theorem dX6_lives_34 : decode cX6_lives 34 = .ok (.dup, 1) := by decide +kernel
theorem dX6_lives_35 : decode cX6_lives 35 = .ok (.getfield 62, 3) := by decide +kernel
theorem dX6_lives_38 : decode cX6_lives 38 = .ok (.iconst 1, 1) := by decide +kernel
theorem dX6_lives_39 : decode cX6_lives 39 = .ok (.iadd, 1) := by decide +kernel
theorem dX6_lives_40 : decode cX6_lives 40 = .ok (.putfield 62, 3) := by decide +kernel
theorem dX6_lives_43 : decode cX6_lives 43 = .ok (.return_, 1) := by decide +kernel
theorem dX6_settles_0 : decode cX6_settles 0 = .ok (.aload_n 0, 1) := by decide +kernel
theorem dX6_settles_1 : decode cX6_settles 1 = .ok (.aload_n 0, 1) := by decide +kernel
theorem dX6_settles_2 : decode cX6_settles 2 = .ok (.getfield 62, 3) := by decide +kernel
theorem dX6_settles_5 : decode cX6_settles 5 = .ok (.putfield 65, 3) := by decide +kernel
theorem dX6_settles_8 : decode cX6_settles 8 = .ok (.aload_n 0, 1) := by decide +kernel
theorem dX6_settles_9 : decode cX6_settles 9 = .ok (.aload_n 0, 1) := by decide +kernel
theorem dX6_settles_10 : decode cX6_settles 10 = .ok (.getfield 55, 3) := by decide +kernel
theorem dX6_settles_13 : decode cX6_settles 13 = .ok (.putfield 68, 3) := by decide +kernel
theorem dX6_settles_16 : decode cX6_settles 16 = .ok (.iconst 0, 1) := by decide +kernel
theorem dX6_settles_17 : decode cX6_settles 17 = .ok (.istore_n 1, 1) := by decide +kernel
theorem dX6_settles_18 : decode cX6_settles 18 = .ok (.iload_n 1, 1) := by decide +kernel
theorem dX6_settles_19 : decode cX6_settles 19 = .ok (.bipush 6, 2) := by decide +kernel
theorem dX6_settles_21 : decode cX6_settles 21 = .ok (.if_icmp .ge 33, 3) := by decide +kernel
theorem dX6_settles_24 : decode cX6_settles 24 = .ok (.aload_n 0, 1) := by decide +kernel
theorem dX6_settles_25 : decode cX6_settles 25 = .ok (.getfield 7, 3) := by decide +kernel
theorem dX6_settles_28 : decode cX6_settles 28 = .ok (.iload_n 1, 1) := by decide +kernel
theorem dX6_settles_29 : decode cX6_settles 29 = .ok (.aload_n 0, 1) := by decide +kernel
theorem dX6_settles_30 : decode cX6_settles 30 = .ok (.getfield 16, 3) := by decide +kernel
theorem dX6_settles_33 : decode cX6_settles 33 = .ok (.iload_n 1, 1) := by decide +kernel
theorem dX6_settles_34 : decode cX6_settles 34 = .ok (.iaload, 1) := by decide +kernel
theorem dX6_settles_35 : decode cX6_settles 35 = .ok (.iastore, 1) := by decide +kernel
theorem dX6_settles_36 : decode cX6_settles 36 = .ok (.aload_n 0, 1) := by decide +kernel
theorem dX6_settles_37 : decode cX6_settles 37 = .ok (.getfield 13, 3) := by decide +kernel
theorem dX6_settles_40 : decode cX6_settles 40 = .ok (.iload_n 1, 1) := by decide +kernel
theorem dX6_settles_41 : decode cX6_settles 41 = .ok (.aload_n 0, 1) := by decide +kernel
theorem dX6_settles_42 : decode cX6_settles 42 = .ok (.getfield 19, 3) := by decide +kernel
theorem dX6_settles_45 : decode cX6_settles 45 = .ok (.iload_n 1, 1) := by decide +kernel
theorem dX6_settles_46 : decode cX6_settles 46 = .ok (.iaload, 1) := by decide +kernel
theorem dX6_settles_47 : decode cX6_settles 47 = .ok (.iastore, 1) := by decide +kernel
theorem dX6_settles_48 : decode cX6_settles 48 = .ok (.iinc 1 1, 3) := by decide +kernel
theorem dX6_settles_51 : decode cX6_settles 51 = .ok (.goto (-33), 3) := by decide +kernel
theorem dX6_settles_54 : decode cX6_settles 54 = .ok (.return_, 1) := by decide +kernel
theorem dX6_copies_0 : decode cX6_copies 0 = .ok (.iconst 0, 1) := by decide +kernel
theorem dX6_copies_1 : decode cX6_copies 1 = .ok (.istore_n 3, 1) := by decide +kernel
theorem dX6_copies_2 : decode cX6_copies 2 = .ok (.iload_n 3, 1) := by decide +kernel
theorem dX6_copies_3 : decode cX6_copies 3 = .ok (.bipush 82, 2) := by decide +kernel
theorem dX6_copies_5 : decode cX6_copies 5 = .ok (.if_icmp .ge 25, 3) := by decide +kernel
theorem dX6_copies_8 : decode cX6_copies 8 = .ok (.aload_n 0, 1) := by decide +kernel
theorem dX6_copies_9 : decode cX6_copies 9 = .ok (.getfield 22, 3) := by decide +kernel
theorem dX6_copies_12 : decode cX6_copies 12 = .ok (.iload_n 2, 1) := by decide +kernel
theorem dX6_copies_13 : decode cX6_copies 13 = .ok (.iload_n 3, 1) := by decide +kernel
theorem dX6_copies_14 : decode cX6_copies 14 = .ok (.iadd, 1) := by decide +kernel
theorem dX6_copies_15 : decode cX6_copies 15 = .ok (.aload_n 0, 1) := by decide +kernel
theorem dX6_copies_16 : decode cX6_copies 16 = .ok (.getfield 22, 3) := by decide +kernel
theorem dX6_copies_19 : decode cX6_copies 19 = .ok (.iload_n 1, 1) := by decide +kernel
theorem dX6_copies_20 : decode cX6_copies 20 = .ok (.iload_n 3, 1) := by decide +kernel
theorem dX6_copies_21 : decode cX6_copies 21 = .ok (.iadd, 1) := by decide +kernel
theorem dX6_copies_22 : decode cX6_copies 22 = .ok (.iaload, 1) := by decide +kernel
theorem dX6_copies_23 : decode cX6_copies 23 = .ok (.iastore, 1) := by decide +kernel
theorem dX6_copies_24 : decode cX6_copies 24 = .ok (.iinc 3 1, 3) := by decide +kernel
theorem dX6_copies_27 : decode cX6_copies 27 = .ok (.goto (-25), 3) := by decide +kernel
theorem dX6_copies_30 : decode cX6_copies 30 = .ok (.return_, 1) := by decide +kernel
theorem dX6_isPerson_0 : decode cX6_isPerson 0 = .ok (.iload_n 1, 1) := by decide +kernel
theorem dX6_isPerson_1 : decode cX6_isPerson 1 = .ok (.i2l, 1) := by decide +kernel
theorem dX6_isPerson_2 : decode cX6_isPerson 2 = .ok (.lconst 0, 1) := by decide +kernel
theorem dX6_isPerson_3 : decode cX6_isPerson 3 = .ok (.aload_n 0, 1) := by decide +kernel
theorem dX6_isPerson_4 : decode cX6_isPerson 4 = .ok (.getfield 65, 3) := by decide +kernel
theorem dX6_isPerson_7 : decode cX6_isPerson 7 = .ok (.iconst 1, 1) := by decide +kernel
theorem dX6_isPerson_8 : decode cX6_isPerson 8 = .ok (.isub, 1) := by decide +kernel
theorem dX6_isPerson_9 : decode cX6_isPerson 9 = .ok (.i2l, 1) := by decide +kernel
theorem dX6_isPerson_10 : decode cX6_isPerson 10 = .ok (.invokestatic 71, 3) := by decide +kernel
theorem dX6_isPerson_13 : decode cX6_isPerson 13 = .ok (.ireturn, 1) := by decide +kernel
theorem dX6_areTwo_0 : decode cX6_areTwo 0 = .ok (.aload_n 0, 1) := by decide +kernel
theorem dX6_areTwo_1 : decode cX6_areTwo 1 = .ok (.iload_n 1, 1) := by decide +kernel
theorem dX6_areTwo_2 : decode cX6_areTwo 2 = .ok (.invokevirtual 75, 3) := by decide +kernel
theorem dX6_areTwo_5 : decode cX6_areTwo 5 = .ok (.ifCond .eq 20, 3) := by decide +kernel
theorem dX6_areTwo_8 : decode cX6_areTwo 8 = .ok (.aload_n 0, 1) := by decide +kernel
theorem dX6_areTwo_9 : decode cX6_areTwo 9 = .ok (.iload_n 2, 1) := by decide +kernel
theorem dX6_areTwo_10 : decode cX6_areTwo 10 = .ok (.invokevirtual 75, 3) := by decide +kernel
theorem dX6_areTwo_13 : decode cX6_areTwo 13 = .ok (.ifCond .eq 12, 3) := by decide +kernel
theorem dX6_areTwo_16 : decode cX6_areTwo 16 = .ok (.iload_n 1, 1) := by decide +kernel
theorem dX6_areTwo_17 : decode cX6_areTwo 17 = .ok (.iload_n 2, 1) := by decide +kernel
theorem dX6_areTwo_18 : decode cX6_areTwo 18 = .ok (.if_icmp .eq 7, 3) := by decide +kernel
theorem dX6_areTwo_21 : decode cX6_areTwo 21 = .ok (.iconst 1, 1) := by decide +kernel
theorem dX6_areTwo_22 : decode cX6_areTwo 22 = .ok (.goto 4, 3) := by decide +kernel
theorem dX6_areTwo_25 : decode cX6_areTwo 25 = .ok (.iconst 0, 1) := by decide +kernel
theorem dX6_areTwo_26 : decode cX6_areTwo 26 = .ok (.ireturn, 1) := by decide +kernel
theorem dX6_write_0 : decode cX6_write 0 = .ok (.iload_n 1, 1) := by decide +kernel
theorem dX6_write_1 : decode cX6_write 1 = .ok (.i2l, 1) := by decide +kernel
theorem dX6_write_2 : decode cX6_write 2 = .ok (.ldc2_w 79, 3) := by decide +kernel
theorem dX6_write_5 : decode cX6_write 5 = .ok (.ldc2_w 81, 3) := by decide +kernel
theorem dX6_write_8 : decode cX6_write 8 = .ok (.invokestatic 71, 3) := by decide +kernel
theorem dX6_write_11 : decode cX6_write 11 = .ok (.ifCond .ne 5, 3) := by decide +kernel
theorem dX6_write_14 : decode cX6_write 14 = .ok (.iconst (-1), 1) := by decide +kernel
theorem dX6_write_15 : decode cX6_write 15 = .ok (.ireturn, 1) := by decide +kernel
theorem dX6_write_16 : decode cX6_write 16 = .ok (.aload_n 0, 1) := by decide +kernel
theorem dX6_write_17 : decode cX6_write 17 = .ok (.getfield 83, 3) := by decide +kernel
theorem dX6_write_20 : decode cX6_write 20 = .ok (.sipush 200, 3) := by decide +kernel
theorem dX6_write_23 : decode cX6_write 23 = .ok (.if_icmp .ne 6, 3) := by decide +kernel
theorem dX6_write_26 : decode cX6_write 26 = .ok (.bipush (-3), 2) := by decide +kernel
theorem dX6_write_28 : decode cX6_write 28 = .ok (.ireturn, 1) := by decide +kernel
theorem dX6_write_29 : decode cX6_write 29 = .ok (.aload_n 0, 1) := by decide +kernel
theorem dX6_write_30 : decode cX6_write 30 = .ok (.getfield 25, 3) := by decide +kernel
theorem dX6_write_33 : decode cX6_write 33 = .ok (.aload_n 0, 1) := by decide +kernel
theorem dX6_write_34 : decode cX6_write 34 = .ok (.getfield 83, 3) := by decide +kernel
theorem dX6_write_37 : decode cX6_write 37 = .ok (.iload_n 1, 1) := by decide +kernel
theorem dX6_write_38 : decode cX6_write 38 = .ok (.i2b, 1) := by decide +kernel
theorem dX6_write_39 : decode cX6_write 39 = .ok (.bastore, 1) := by decide +kernel
theorem dX6_write_40 : decode cX6_write 40 = .ok (.aload_n 0, 1) := by decide +kernel
theorem dX6_write_41 : decode cX6_write 41 = .ok (.dup, 1) := by decide +kernel
theorem dX6_write_42 : decode cX6_write 42 = .ok (.getfield 83, 3) := by decide +kernel
theorem dX6_write_45 : decode cX6_write 45 = .ok (.iconst 1, 1) := by decide +kernel
theorem dX6_write_46 : decode cX6_write 46 = .ok (.iadd, 1) := by decide +kernel
theorem dX6_write_47 : decode cX6_write 47 = .ok (.putfield 83, 3) := by decide +kernel
theorem dX6_write_50 : decode cX6_write 50 = .ok (.aload_n 0, 1) := by decide +kernel
theorem dX6_write_51 : decode cX6_write 51 = .ok (.getfield 83, 3) := by decide +kernel
theorem dX6_write_54 : decode cX6_write 54 = .ok (.ireturn, 1) := by decide +kernel
theorem dX6_wipe_0 : decode cX6_wipe 0 = .ok (.aload_n 0, 1) := by decide +kernel
theorem dX6_wipe_1 : decode cX6_wipe 1 = .ok (.getfield 83, 3) := by decide +kernel
theorem dX6_wipe_4 : decode cX6_wipe 4 = .ok (.istore_n 1, 1) := by decide +kernel
theorem dX6_wipe_5 : decode cX6_wipe 5 = .ok (.aload_n 0, 1) := by decide +kernel
theorem dX6_wipe_6 : decode cX6_wipe 6 = .ok (.iconst 0, 1) := by decide +kernel
theorem dX6_wipe_7 : decode cX6_wipe 7 = .ok (.putfield 83, 3) := by decide +kernel
theorem dX6_wipe_10 : decode cX6_wipe 10 = .ok (.iload_n 1, 1) := by decide +kernel
theorem dX6_wipe_11 : decode cX6_wipe 11 = .ok (.ireturn, 1) := by decide +kernel
theorem dX6_next_0 : decode cX6_next 0 = .ok (.aload_n 0, 1) := by decide +kernel
theorem dX6_next_1 : decode cX6_next 1 = .ok (.getfield 86, 3) := by decide +kernel
theorem dX6_next_4 : decode cX6_next 4 = .ok (.aload_n 0, 1) := by decide +kernel
theorem dX6_next_5 : decode cX6_next 5 = .ok (.getfield 83, 3) := by decide +kernel
theorem dX6_next_8 : decode cX6_next 8 = .ok (.if_icmp .ge 15, 3) := by decide +kernel
theorem dX6_next_11 : decode cX6_next 11 = .ok (.aload_n 0, 1) := by decide +kernel
theorem dX6_next_12 : decode cX6_next 12 = .ok (.getfield 25, 3) := by decide +kernel
theorem dX6_next_15 : decode cX6_next 15 = .ok (.aload_n 0, 1) := by decide +kernel
theorem dX6_next_16 : decode cX6_next 16 = .ok (.getfield 86, 3) := by decide +kernel
theorem dX6_next_19 : decode cX6_next 19 = .ok (.baload, 1) := by decide +kernel
theorem dX6_next_20 : decode cX6_next 20 = .ok (.goto 4, 3) := by decide +kernel
theorem dX6_next_23 : decode cX6_next 23 = .ok (.iconst (-1), 1) := by decide +kernel
theorem dX6_next_24 : decode cX6_next 24 = .ok (.ireturn, 1) := by decide +kernel
theorem dX6_number_0 : decode cX6_number 0 = .ok (.iconst 0, 1) := by decide +kernel
theorem dX6_number_1 : decode cX6_number 1 = .ok (.istore_n 3, 1) := by decide +kernel
theorem dX6_number_2 : decode cX6_number 2 = .ok (.iconst 0, 1) := by decide +kernel
theorem dX6_number_3 : decode cX6_number 3 = .ok (.istore 4, 2) := by decide +kernel
theorem dX6_number_5 : decode cX6_number 5 = .ok (.aload_n 0, 1) := by decide +kernel
theorem dX6_number_6 : decode cX6_number 6 = .ok (.invokevirtual 89, 3) := by decide +kernel
theorem dX6_number_9 : decode cX6_number 9 = .ok (.i2l, 1) := by decide +kernel
theorem dX6_number_10 : decode cX6_number 10 = .ok (.ldc2_w 93, 3) := by decide +kernel
theorem dX6_number_13 : decode cX6_number 13 = .ok (.ldc2_w 95, 3) := by decide +kernel
theorem dX6_number_16 : decode cX6_number 16 = .ok (.invokestatic 71, 3) := by decide +kernel
theorem dX6_number_19 : decode cX6_number 19 = .ok (.ifCond .eq 38, 3) := by decide +kernel
theorem dX6_number_22 : decode cX6_number 22 = .ok (.iload 4, 2) := by decide +kernel
theorem dX6_number_24 : decode cX6_number 24 = .ok (.iconst 3, 1) := by decide +kernel
theorem dX6_number_25 : decode cX6_number 25 = .ok (.if_icmp .ge 32, 3) := by decide +kernel
theorem dX6_number_28 : decode cX6_number 28 = .ok (.bipush 10, 2) := by decide +kernel
theorem dX6_number_30 : decode cX6_number 30 = .ok (.iload_n 3, 1) := by decide +kernel
theorem dX6_number_31 : decode cX6_number 31 = .ok (.imul, 1) := by decide +kernel
theorem dX6_number_32 : decode cX6_number 32 = .ok (.aload_n 0, 1) := by decide +kernel
theorem dX6_number_33 : decode cX6_number 33 = .ok (.invokevirtual 89, 3) := by decide +kernel
theorem dX6_number_36 : decode cX6_number 36 = .ok (.iadd, 1) := by decide +kernel
theorem dX6_number_37 : decode cX6_number 37 = .ok (.bipush 48, 2) := by decide +kernel
theorem dX6_number_39 : decode cX6_number 39 = .ok (.isub, 1) := by decide +kernel
theorem dX6_number_40 : decode cX6_number 40 = .ok (.istore_n 3, 1) := by decide +kernel
theorem dX6_number_41 : decode cX6_number 41 = .ok (.iinc 4 1, 3) := by decide +kernel
theorem dX6_number_44 : decode cX6_number 44 = .ok (.aload_n 0, 1) := by decide +kernel
theorem dX6_number_45 : decode cX6_number 45 = .ok (.dup, 1) := by decide +kernel
theorem dX6_number_46 : decode cX6_number 46 = .ok (.getfield 86, 3) := by decide +kernel
theorem dX6_number_49 : decode cX6_number 49 = .ok (.iconst 1, 1) := by decide +kernel
theorem dX6_number_50 : decode cX6_number 50 = .ok (.iadd, 1) := by decide +kernel
theorem dX6_number_51 : decode cX6_number 51 = .ok (.putfield 86, 3) := by decide +kernel
theorem dX6_number_54 : decode cX6_number 54 = .ok (.goto (-49), 3) := by decide +kernel
theorem dX6_number_57 : decode cX6_number 57 = .ok (.aload_n 0, 1) := by decide +kernel
theorem dX6_number_58 : decode cX6_number 58 = .ok (.aload_n 0, 1) := by decide +kernel
theorem dX6_number_59 : decode cX6_number 59 = .ok (.getfield 97, 3) := by decide +kernel
theorem dX6_number_62 : decode cX6_number 62 = .ok (.ifCond .ne 26, 3) := by decide +kernel
theorem dX6_number_65 : decode cX6_number 65 = .ok (.iload 4, 2) := by decide +kernel
theorem dX6_number_67 : decode cX6_number 67 = .ok (.ifCond .eq 21, 3) := by decide +kernel
theorem dX6_number_70 : decode cX6_number 70 = .ok (.iload 4, 2) := by decide +kernel
theorem dX6_number_72 : decode cX6_number 72 = .ok (.iconst 2, 1) := by decide +kernel
theorem dX6_number_73 : decode cX6_number 73 = .ok (.if_icmp .gt 15, 3) := by decide +kernel
theorem dX6_number_76 : decode cX6_number 76 = .ok (.iload_n 3, 1) := by decide +kernel
theorem dX6_number_77 : decode cX6_number 77 = .ok (.i2l, 1) := by decide +kernel
theorem dX6_number_78 : decode cX6_number 78 = .ok (.iload_n 1, 1) := by decide +kernel
theorem dX6_number_79 : decode cX6_number 79 = .ok (.i2l, 1) := by decide +kernel
theorem dX6_number_80 : decode cX6_number 80 = .ok (.iload_n 2, 1) := by decide +kernel
theorem dX6_number_81 : decode cX6_number 81 = .ok (.i2l, 1) := by decide +kernel
theorem dX6_number_82 : decode cX6_number 82 = .ok (.invokestatic 71, 3) := by decide +kernel
theorem dX6_number_85 : decode cX6_number 85 = .ok (.ifCond .ne 7, 3) := by decide +kernel
theorem dX6_number_88 : decode cX6_number 88 = .ok (.iconst 1, 1) := by decide +kernel
theorem dX6_number_89 : decode cX6_number 89 = .ok (.goto 4, 3) := by decide +kernel
theorem dX6_number_92 : decode cX6_number 92 = .ok (.iconst 0, 1) := by decide +kernel
theorem dX6_number_93 : decode cX6_number 93 = .ok (.putfield 97, 3) := by decide +kernel
theorem dX6_number_96 : decode cX6_number 96 = .ok (.aload_n 0, 1) := by decide +kernel
theorem dX6_number_97 : decode cX6_number 97 = .ok (.getfield 97, 3) := by decide +kernel
theorem dX6_number_100 : decode cX6_number 100 = .ok (.ifCond .eq 7, 3) := by decide +kernel
theorem dX6_number_103 : decode cX6_number 103 = .ok (.iconst 0, 1) := by decide +kernel
theorem dX6_number_104 : decode cX6_number 104 = .ok (.goto 4, 3) := by decide +kernel
theorem dX6_number_107 : decode cX6_number 107 = .ok (.iload_n 3, 1) := by decide +kernel
theorem dX6_number_108 : decode cX6_number 108 = .ok (.ireturn, 1) := by decide +kernel
theorem dX6_more_0 : decode cX6_more 0 = .ok (.aload_n 0, 1) := by decide +kernel
theorem dX6_more_1 : decode cX6_more 1 = .ok (.aload_n 0, 1) := by decide +kernel
theorem dX6_more_2 : decode cX6_more 2 = .ok (.getfield 97, 3) := by decide +kernel
theorem dX6_more_5 : decode cX6_more 5 = .ok (.ifCond .ne 12, 3) := by decide +kernel
theorem dX6_more_8 : decode cX6_more 8 = .ok (.aload_n 0, 1) := by decide +kernel
theorem dX6_more_9 : decode cX6_more 9 = .ok (.invokevirtual 89, 3) := by decide +kernel
theorem dX6_more_12 : decode cX6_more 12 = .ok (.bipush 44, 2) := by decide +kernel
theorem dX6_more_14 : decode cX6_more 14 = .ok (.if_icmp .eq 7, 3) := by decide +kernel
theorem dX6_more_17 : decode cX6_more 17 = .ok (.iconst 1, 1) := by decide +kernel
theorem dX6_more_18 : decode cX6_more 18 = .ok (.goto 4, 3) := by decide +kernel
theorem dX6_more_21 : decode cX6_more 21 = .ok (.iconst 0, 1) := by decide +kernel
theorem dX6_more_22 : decode cX6_more 22 = .ok (.putfield 97, 3) := by decide +kernel
theorem dX6_more_25 : decode cX6_more 25 = .ok (.aload_n 0, 1) := by decide +kernel
theorem dX6_more_26 : decode cX6_more 26 = .ok (.dup, 1) := by decide +kernel
theorem dX6_more_27 : decode cX6_more 27 = .ok (.getfield 86, 3) := by decide +kernel
theorem dX6_more_30 : decode cX6_more 30 = .ok (.iconst 1, 1) := by decide +kernel
theorem dX6_more_31 : decode cX6_more 31 = .ok (.iadd, 1) := by decide +kernel
theorem dX6_more_32 : decode cX6_more 32 = .ok (.putfield 86, 3) := by decide +kernel
theorem dX6_more_35 : decode cX6_more 35 = .ok (.aload_n 0, 1) := by decide +kernel
theorem dX6_more_36 : decode cX6_more 36 = .ok (.getfield 97, 3) := by decide +kernel
theorem dX6_more_39 : decode cX6_more 39 = .ok (.ifCond .eq 7, 3) := by decide +kernel
theorem dX6_more_42 : decode cX6_more 42 = .ok (.iconst 0, 1) := by decide +kernel
theorem dX6_more_43 : decode cX6_more 43 = .ok (.goto 9, 3) := by decide +kernel
theorem dX6_more_46 : decode cX6_more 46 = .ok (.aload_n 0, 1) := by decide +kernel
theorem dX6_more_47 : decode cX6_more 47 = .ok (.iload_n 1, 1) := by decide +kernel
theorem dX6_more_48 : decode cX6_more 48 = .ok (.iload_n 2, 1) := by decide +kernel
theorem dX6_more_49 : decode cX6_more 49 = .ok (.invokevirtual 101, 3) := by decide +kernel
theorem dX6_more_52 : decode cX6_more 52 = .ok (.ireturn, 1) := by decide +kernel
theorem dX6_item_0 : decode cX6_item 0 = .ok (.iload_n 1, 1) := by decide +kernel
theorem dX6_item_1 : decode cX6_item 1 = .ok (.bipush 112, 2) := by decide +kernel
theorem dX6_item_3 : decode cX6_item 3 = .ok (.if_icmp .ne 77, 3) := by decide +kernel
theorem dX6_item_6 : decode cX6_item 6 = .ok (.aload_n 0, 1) := by decide +kernel
theorem dX6_item_7 : decode cX6_item 7 = .ok (.aload_n 0, 1) := by decide +kernel
theorem dX6_item_8 : decode cX6_item 8 = .ok (.getfield 62, 3) := by decide +kernel
theorem dX6_item_11 : decode cX6_item 11 = .ok (.bipush 6, 2) := by decide +kernel
theorem dX6_item_13 : decode cX6_item 13 = .ok (.if_icmp .ne 7, 3) := by decide +kernel
theorem dX6_item_16 : decode cX6_item 16 = .ok (.iconst 1, 1) := by decide +kernel
theorem dX6_item_17 : decode cX6_item 17 = .ok (.goto 4, 3) := by decide +kernel
theorem dX6_item_20 : decode cX6_item 20 = .ok (.iconst 0, 1) := by decide +kernel
theorem dX6_item_21 : decode cX6_item 21 = .ok (.putfield 97, 3) := by decide +kernel
theorem dX6_item_24 : decode cX6_item 24 = .ok (.aload_n 0, 1) := by decide +kernel
theorem dX6_item_25 : decode cX6_item 25 = .ok (.getfield 97, 3) := by decide +kernel
theorem dX6_item_28 : decode cX6_item 28 = .ok (.ifCond .eq 7, 3) := by decide +kernel
theorem dX6_item_31 : decode cX6_item 31 = .ok (.iconst 0, 1) := by decide +kernel
theorem dX6_item_32 : decode cX6_item 32 = .ok (.goto 9, 3) := by decide +kernel
theorem dX6_item_35 : decode cX6_item 35 = .ok (.aload_n 0, 1) := by decide +kernel
theorem dX6_item_36 : decode cX6_item 36 = .ok (.iconst 0, 1) := by decide +kernel
theorem dX6_item_37 : decode cX6_item 37 = .ok (.iconst 4, 1) := by decide +kernel
theorem dX6_item_38 : decode cX6_item 38 = .ok (.invokevirtual 101, 3) := by decide +kernel
theorem dX6_item_41 : decode cX6_item 41 = .ok (.istore_n 2, 1) := by decide +kernel
theorem dX6_item_42 : decode cX6_item 42 = .ok (.aload_n 0, 1) := by decide +kernel
theorem dX6_item_43 : decode cX6_item 43 = .ok (.iconst 0, 1) := by decide +kernel
theorem dX6_item_44 : decode cX6_item 44 = .ok (.bipush 99, 2) := by decide +kernel
theorem dX6_item_46 : decode cX6_item 46 = .ok (.invokevirtual 105, 3) := by decide +kernel
theorem dX6_item_49 : decode cX6_item 49 = .ok (.istore_n 3, 1) := by decide +kernel
theorem dX6_item_50 : decode cX6_item 50 = .ok (.aload_n 0, 1) := by decide +kernel
theorem dX6_item_51 : decode cX6_item 51 = .ok (.iconst 0, 1) := by decide +kernel
theorem dX6_item_52 : decode cX6_item 52 = .ok (.bipush 60, 2) := by decide +kernel
theorem dX6_item_54 : decode cX6_item 54 = .ok (.invokevirtual 105, 3) := by decide +kernel
theorem dX6_item_57 : decode cX6_item 57 = .ok (.istore 4, 2) := by decide +kernel
theorem dX6_item_59 : decode cX6_item 59 = .ok (.aload_n 0, 1) := by decide +kernel
theorem dX6_item_60 : decode cX6_item 60 = .ok (.getfield 97, 3) := by decide +kernel
theorem dX6_item_63 : decode cX6_item 63 = .ok (.ifCond .ne 14, 3) := by decide +kernel
theorem dX6_item_66 : decode cX6_item 66 = .ok (.aload_n 0, 1) := by decide +kernel
theorem dX6_item_67 : decode cX6_item 67 = .ok (.sipush 902, 3) := by decide +kernel
theorem dX6_item_70 : decode cX6_item 70 = .ok (.iload_n 2, 1) := by decide +kernel
theorem dX6_item_71 : decode cX6_item 71 = .ok (.iload_n 3, 1) := by decide +kernel
theorem dX6_item_72 : decode cX6_item 72 = .ok (.iload 4, 2) := by decide +kernel
theorem dX6_item_74 : decode cX6_item 74 = .ok (.invokevirtual 51, 3) := by decide +kernel
theorem dX6_item_77 : decode cX6_item 77 = .ok (.goto 159, 3) := by decide +kernel
theorem dX6_item_80 : decode cX6_item 80 = .ok (.iload_n 1, 1) := by decide +kernel
theorem dX6_item_81 : decode cX6_item 81 = .ok (.bipush 116, 2) := by decide +kernel
theorem dX6_item_83 : decode cX6_item 83 = .ok (.if_icmp .eq 9, 3) := by decide +kernel
theorem dX6_item_86 : decode cX6_item 86 = .ok (.iload_n 1, 1) := by decide +kernel
theorem dX6_item_87 : decode cX6_item 87 = .ok (.bipush 111, 2) := by decide +kernel
theorem dX6_item_89 : decode cX6_item 89 = .ok (.if_icmp .ne 122, 3) := by decide +kernel
theorem dX6_item_92 : decode cX6_item 92 = .ok (.aload_n 0, 1) := by decide +kernel
theorem dX6_item_93 : decode cX6_item 93 = .ok (.iconst 0, 1) := by decide +kernel
theorem dX6_item_94 : decode cX6_item 94 = .ok (.aload_n 0, 1) := by decide +kernel
theorem dX6_item_95 : decode cX6_item 95 = .ok (.getfield 62, 3) := by decide +kernel
theorem dX6_item_98 : decode cX6_item 98 = .ok (.iconst 1, 1) := by decide +kernel
theorem dX6_item_99 : decode cX6_item 99 = .ok (.isub, 1) := by decide +kernel
theorem dX6_item_100 : decode cX6_item 100 = .ok (.invokevirtual 101, 3) := by decide +kernel
theorem dX6_item_103 : decode cX6_item 103 = .ok (.istore_n 2, 1) := by decide +kernel
theorem dX6_item_104 : decode cX6_item 104 = .ok (.aload_n 0, 1) := by decide +kernel
theorem dX6_item_105 : decode cX6_item 105 = .ok (.iconst 0, 1) := by decide +kernel
theorem dX6_item_106 : decode cX6_item 106 = .ok (.aload_n 0, 1) := by decide +kernel
theorem dX6_item_107 : decode cX6_item 107 = .ok (.getfield 62, 3) := by decide +kernel
theorem dX6_item_110 : decode cX6_item 110 = .ok (.iconst 1, 1) := by decide +kernel
theorem dX6_item_111 : decode cX6_item 111 = .ok (.isub, 1) := by decide +kernel
theorem dX6_item_112 : decode cX6_item 112 = .ok (.invokevirtual 105, 3) := by decide +kernel
theorem dX6_item_115 : decode cX6_item 115 = .ok (.istore_n 3, 1) := by decide +kernel
theorem dX6_item_116 : decode cX6_item 116 = .ok (.aload_n 0, 1) := by decide +kernel
theorem dX6_item_117 : decode cX6_item 117 = .ok (.iconst 0, 1) := by decide +kernel
theorem dX6_item_118 : decode cX6_item 118 = .ok (.iload_n 1, 1) := by decide +kernel
theorem dX6_item_119 : decode cX6_item 119 = .ok (.bipush 116, 2) := by decide +kernel
theorem dX6_item_121 : decode cX6_item 121 = .ok (.if_icmp .ne 8, 3) := by decide +kernel
theorem dX6_item_124 : decode cX6_item 124 = .ok (.bipush 9, 2) := by decide +kernel
theorem dX6_item_126 : decode cX6_item 126 = .ok (.goto 5, 3) := by decide +kernel
theorem dX6_item_129 : decode cX6_item 129 = .ok (.bipush 60, 2) := by decide +kernel
theorem dX6_item_131 : decode cX6_item 131 = .ok (.invokevirtual 105, 3) := by decide +kernel
theorem dX6_item_134 : decode cX6_item 134 = .ok (.istore 4, 2) := by decide +kernel
theorem dX6_item_136 : decode cX6_item 136 = .ok (.aload_n 0, 1) := by decide +kernel
theorem dX6_item_137 : decode cX6_item 137 = .ok (.aload_n 0, 1) := by decide +kernel
theorem dX6_item_138 : decode cX6_item 138 = .ok (.getfield 97, 3) := by decide +kernel
theorem dX6_item_141 : decode cX6_item 141 = .ok (.ifCond .ne 8, 3) := by decide +kernel
theorem dX6_item_144 : decode cX6_item 144 = .ok (.iload_n 2, 1) := by decide +kernel
theorem dX6_item_145 : decode cX6_item 145 = .ok (.iload_n 3, 1) := by decide +kernel
theorem dX6_item_146 : decode cX6_item 146 = .ok (.if_icmp .ne 7, 3) := by decide +kernel
theorem dX6_item_149 : decode cX6_item 149 = .ok (.iconst 1, 1) := by decide +kernel
theorem dX6_item_150 : decode cX6_item 150 = .ok (.goto 4, 3) := by decide +kernel
theorem dX6_item_153 : decode cX6_item 153 = .ok (.iconst 0, 1) := by decide +kernel
theorem dX6_item_154 : decode cX6_item 154 = .ok (.putfield 97, 3) := by decide +kernel
theorem dX6_item_157 : decode cX6_item 157 = .ok (.aload_n 0, 1) := by decide +kernel
theorem dX6_item_158 : decode cX6_item 158 = .ok (.getfield 97, 3) := by decide +kernel
theorem dX6_item_161 : decode cX6_item 161 = .ok (.ifCond .ne 47, 3) := by decide +kernel
theorem dX6_item_164 : decode cX6_item 164 = .ok (.aload_n 0, 1) := by decide +kernel
theorem dX6_item_165 : decode cX6_item 165 = .ok (.getfield 22, 3) := by decide +kernel
theorem dX6_item_168 : decode cX6_item 168 = .ok (.sipush 902, 3) := by decide +kernel
theorem dX6_item_171 : decode cX6_item 171 = .ok (.iload_n 1, 1) := by decide +kernel
theorem dX6_item_172 : decode cX6_item 172 = .ok (.bipush 116, 2) := by decide +kernel
theorem dX6_item_174 : decode cX6_item 174 = .ok (.if_icmp .ne 8, 3) := by decide +kernel
theorem dX6_item_177 : decode cX6_item 177 = .ok (.bipush 10, 2) := by decide +kernel
theorem dX6_item_179 : decode cX6_item 179 = .ok (.goto 5, 3) := by decide +kernel
theorem dX6_item_182 : decode cX6_item 182 = .ok (.bipush 46, 2) := by decide +kernel
theorem dX6_item_184 : decode cX6_item 184 = .ok (.iadd, 1) := by decide +kernel
theorem dX6_item_185 : decode cX6_item 185 = .ok (.bipush 6, 2) := by decide +kernel
theorem dX6_item_187 : decode cX6_item 187 = .ok (.iload_n 2, 1) := by decide +kernel
theorem dX6_item_188 : decode cX6_item 188 = .ok (.imul, 1) := by decide +kernel
theorem dX6_item_189 : decode cX6_item 189 = .ok (.iadd, 1) := by decide +kernel
theorem dX6_item_190 : decode cX6_item 190 = .ok (.iload_n 3, 1) := by decide +kernel
theorem dX6_item_191 : decode cX6_item 191 = .ok (.iadd, 1) := by decide +kernel
theorem dX6_item_192 : decode cX6_item 192 = .ok (.iload_n 1, 1) := by decide +kernel
theorem dX6_item_193 : decode cX6_item 193 = .ok (.bipush 116, 2) := by decide +kernel
theorem dX6_item_195 : decode cX6_item 195 = .ok (.if_icmp .ne 10, 3) := by decide +kernel
theorem dX6_item_198 : decode cX6_item 198 = .ok (.iload 4, 2) := by decide +kernel
theorem dX6_item_200 : decode cX6_item 200 = .ok (.iconst 4, 1) := by decide +kernel
theorem dX6_item_201 : decode cX6_item 201 = .ok (.isub, 1) := by decide +kernel
theorem dX6_item_202 : decode cX6_item 202 = .ok (.goto 5, 3) := by decide +kernel
theorem dX6_item_205 : decode cX6_item 205 = .ok (.iload 4, 2) := by decide +kernel
theorem dX6_item_207 : decode cX6_item 207 = .ok (.iastore, 1) := by decide +kernel
theorem dX6_item_208 : decode cX6_item 208 = .ok (.goto 28, 3) := by decide +kernel
theorem dX6_item_211 : decode cX6_item 211 = .ok (.iload_n 1, 1) := by decide +kernel
theorem dX6_item_212 : decode cX6_item 212 = .ok (.bipush 103, 2) := by decide +kernel
theorem dX6_item_214 : decode cX6_item 214 = .ok (.if_icmp .ne 17, 3) := by decide +kernel
theorem dX6_item_217 : decode cX6_item 217 = .ok (.aload_n 0, 1) := by decide +kernel
theorem dX6_item_218 : decode cX6_item 218 = .ok (.aload_n 0, 1) := by decide +kernel
theorem dX6_item_219 : decode cX6_item 219 = .ok (.iconst 1, 1) := by decide +kernel
theorem dX6_item_220 : decode cX6_item 220 = .ok (.bipush 99, 2) := by decide +kernel
theorem dX6_item_222 : decode cX6_item 222 = .ok (.invokevirtual 101, 3) := by decide +kernel
theorem dX6_item_225 : decode cX6_item 225 = .ok (.putfield 55, 3) := by decide +kernel
theorem dX6_item_228 : decode cX6_item 228 = .ok (.goto 8, 3) := by decide +kernel
theorem dX6_item_231 : decode cX6_item 231 = .ok (.aload_n 0, 1) := by decide +kernel
theorem dX6_item_232 : decode cX6_item 232 = .ok (.iconst 1, 1) := by decide +kernel
theorem dX6_item_233 : decode cX6_item 233 = .ok (.putfield 97, 3) := by decide +kernel
theorem dX6_item_236 : decode cX6_item 236 = .ok (.return_, 1) := by decide +kernel
theorem dX6_reads_0 : decode cX6_reads 0 = .ok (.aload_n 0, 1) := by decide +kernel
theorem dX6_reads_1 : decode cX6_reads 1 = .ok (.iconst 0, 1) := by decide +kernel
theorem dX6_reads_2 : decode cX6_reads 2 = .ok (.putfield 62, 3) := by decide +kernel
theorem dX6_reads_5 : decode cX6_reads 5 = .ok (.aload_n 0, 1) := by decide +kernel
theorem dX6_reads_6 : decode cX6_reads 6 = .ok (.bipush 50, 2) := by decide +kernel
theorem dX6_reads_8 : decode cX6_reads 8 = .ok (.putfield 55, 3) := by decide +kernel
theorem dX6_reads_11 : decode cX6_reads 11 = .ok (.iconst 0, 1) := by decide +kernel
theorem dX6_reads_12 : decode cX6_reads 12 = .ok (.istore_n 1, 1) := by decide +kernel
theorem dX6_reads_13 : decode cX6_reads 13 = .ok (.iload_n 1, 1) := by decide +kernel
theorem dX6_reads_14 : decode cX6_reads 14 = .ok (.bipush 82, 2) := by decide +kernel
theorem dX6_reads_16 : decode cX6_reads 16 = .ok (.if_icmp .ge 20, 3) := by decide +kernel
theorem dX6_reads_19 : decode cX6_reads 19 = .ok (.aload_n 0, 1) := by decide +kernel
theorem dX6_reads_20 : decode cX6_reads 20 = .ok (.getfield 22, 3) := by decide +kernel
theorem dX6_reads_23 : decode cX6_reads 23 = .ok (.sipush 902, 3) := by decide +kernel
theorem dX6_reads_26 : decode cX6_reads 26 = .ok (.iload_n 1, 1) := by decide +kernel
theorem dX6_reads_27 : decode cX6_reads 27 = .ok (.iadd, 1) := by decide +kernel
theorem dX6_reads_28 : decode cX6_reads 28 = .ok (.iconst 0, 1) := by decide +kernel
theorem dX6_reads_29 : decode cX6_reads 29 = .ok (.iastore, 1) := by decide +kernel
theorem dX6_reads_30 : decode cX6_reads 30 = .ok (.iinc 1 1, 3) := by decide +kernel
theorem dX6_reads_33 : decode cX6_reads 33 = .ok (.goto (-20), 3) := by decide +kernel
theorem dX6_reads_36 : decode cX6_reads 36 = .ok (.aload_n 0, 1) := by decide +kernel
theorem dX6_reads_37 : decode cX6_reads 37 = .ok (.iconst 0, 1) := by decide +kernel
theorem dX6_reads_38 : decode cX6_reads 38 = .ok (.putfield 86, 3) := by decide +kernel
theorem dX6_reads_41 : decode cX6_reads 41 = .ok (.aload_n 0, 1) := by decide +kernel
theorem dX6_reads_42 : decode cX6_reads 42 = .ok (.iconst 0, 1) := by decide +kernel
theorem dX6_reads_43 : decode cX6_reads 43 = .ok (.putfield 97, 3) := by decide +kernel
theorem dX6_reads_46 : decode cX6_reads 46 = .ok (.aload_n 0, 1) := by decide +kernel
theorem dX6_reads_47 : decode cX6_reads 47 = .ok (.getfield 86, 3) := by decide +kernel
theorem dX6_reads_50 : decode cX6_reads 50 = .ok (.aload_n 0, 1) := by decide +kernel
theorem dX6_reads_51 : decode cX6_reads 51 = .ok (.getfield 83, 3) := by decide +kernel
theorem dX6_reads_54 : decode cX6_reads 54 = .ok (.if_icmp .ge 76, 3) := by decide +kernel
theorem dX6_reads_57 : decode cX6_reads 57 = .ok (.aload_n 0, 1) := by decide +kernel
theorem dX6_reads_58 : decode cX6_reads 58 = .ok (.getfield 97, 3) := by decide +kernel
theorem dX6_reads_61 : decode cX6_reads 61 = .ok (.ifCond .ne 69, 3) := by decide +kernel
theorem dX6_reads_64 : decode cX6_reads 64 = .ok (.aload_n 0, 1) := by decide +kernel
theorem dX6_reads_65 : decode cX6_reads 65 = .ok (.aload_n 0, 1) := by decide +kernel
theorem dX6_reads_66 : decode cX6_reads 66 = .ok (.getfield 86, 3) := by decide +kernel
theorem dX6_reads_69 : decode cX6_reads 69 = .ok (.putfield 108, 3) := by decide +kernel
theorem dX6_reads_72 : decode cX6_reads 72 = .ok (.aload_n 0, 1) := by decide +kernel
theorem dX6_reads_73 : decode cX6_reads 73 = .ok (.invokevirtual 89, 3) := by decide +kernel
theorem dX6_reads_76 : decode cX6_reads 76 = .ok (.istore_n 1, 1) := by decide +kernel
theorem dX6_reads_77 : decode cX6_reads 77 = .ok (.aload_n 0, 1) := by decide +kernel
theorem dX6_reads_78 : decode cX6_reads 78 = .ok (.dup, 1) := by decide +kernel
theorem dX6_reads_79 : decode cX6_reads 79 = .ok (.getfield 86, 3) := by decide +kernel
theorem dX6_reads_82 : decode cX6_reads 82 = .ok (.iconst 1, 1) := by decide +kernel
theorem dX6_reads_83 : decode cX6_reads 83 = .ok (.iadd, 1) := by decide +kernel
theorem dX6_reads_84 : decode cX6_reads 84 = .ok (.putfield 86, 3) := by decide +kernel
theorem dX6_reads_87 : decode cX6_reads 87 = .ok (.aload_n 0, 1) := by decide +kernel
theorem dX6_reads_88 : decode cX6_reads 88 = .ok (.iload_n 1, 1) := by decide +kernel
theorem dX6_reads_89 : decode cX6_reads 89 = .ok (.invokevirtual 111, 3) := by decide +kernel
theorem dX6_reads_92 : decode cX6_reads 92 = .ok (.aload_n 0, 1) := by decide +kernel
theorem dX6_reads_93 : decode cX6_reads 93 = .ok (.aload_n 0, 1) := by decide +kernel
theorem dX6_reads_94 : decode cX6_reads 94 = .ok (.getfield 97, 3) := by decide +kernel
theorem dX6_reads_97 : decode cX6_reads 97 = .ok (.ifCond .ne 12, 3) := by decide +kernel
theorem dX6_reads_100 : decode cX6_reads 100 = .ok (.aload_n 0, 1) := by decide +kernel
theorem dX6_reads_101 : decode cX6_reads 101 = .ok (.invokevirtual 89, 3) := by decide +kernel
theorem dX6_reads_104 : decode cX6_reads 104 = .ok (.bipush 59, 2) := by decide +kernel
theorem dX6_reads_106 : decode cX6_reads 106 = .ok (.if_icmp .eq 7, 3) := by decide +kernel
theorem dX6_reads_109 : decode cX6_reads 109 = .ok (.iconst 1, 1) := by decide +kernel
theorem dX6_reads_110 : decode cX6_reads 110 = .ok (.goto 4, 3) := by decide +kernel
theorem dX6_reads_113 : decode cX6_reads 113 = .ok (.iconst 0, 1) := by decide +kernel
theorem dX6_reads_114 : decode cX6_reads 114 = .ok (.putfield 97, 3) := by decide +kernel
theorem dX6_reads_117 : decode cX6_reads 117 = .ok (.aload_n 0, 1) := by decide +kernel
theorem dX6_reads_118 : decode cX6_reads 118 = .ok (.dup, 1) := by decide +kernel
theorem dX6_reads_119 : decode cX6_reads 119 = .ok (.getfield 86, 3) := by decide +kernel
theorem dX6_reads_122 : decode cX6_reads 122 = .ok (.iconst 1, 1) := by decide +kernel
theorem dX6_reads_123 : decode cX6_reads 123 = .ok (.iadd, 1) := by decide +kernel
theorem dX6_reads_124 : decode cX6_reads 124 = .ok (.putfield 86, 3) := by decide +kernel
theorem dX6_reads_127 : decode cX6_reads 127 = .ok (.goto (-81), 3) := by decide +kernel
theorem dX6_reads_130 : decode cX6_reads 130 = .ok (.aload_n 0, 1) := by decide +kernel
