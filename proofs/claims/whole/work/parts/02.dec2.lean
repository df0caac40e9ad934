theorem dX4_debtsOfAll_17 : decode cX4_debtsOfAll 17 = .ok (.iadd, 1) := by decide +kernel
theorem dX4_debtsOfAll_18 : decode cX4_debtsOfAll 18 = .ok (.istore_n 1, 1) := by decide +kernel
theorem dX4_debtsOfAll_19 : decode cX4_debtsOfAll 19 = .ok (.iinc 2 1, 3) := by decide +kernel
theorem dX4_debtsOfAll_22 : decode cX4_debtsOfAll 22 = .ok (.goto (-18), 3) := by decide +kernel
theorem dX4_debtsOfAll_25 : decode cX4_debtsOfAll 25 = .ok (.iload_n 1, 1) := by decide +kernel
theorem dX4_debtsOfAll_26 : decode cX4_debtsOfAll 26 = .ok (.ireturn, 1) := by decide +kernel
theorem dX4_wouldCome_0 : decode cX4_wouldCome 0 = .ok (.aload_n 0, 1) := by decide +kernel
theorem dX4_wouldCome_1 : decode cX4_wouldCome 1 = .ok (.iload_n 1, 1) := by decide +kernel
theorem dX4_wouldCome_2 : decode cX4_wouldCome 2 = .ok (.invokevirtual 71, 3) := by decide +kernel
theorem dX4_wouldCome_5 : decode cX4_wouldCome 5 = .ok (.ifCond .ne 5, 3) := by decide +kernel
theorem dX4_wouldCome_8 : decode cX4_wouldCome 8 = .ok (.iconst 0, 1) := by decide +kernel
theorem dX4_wouldCome_9 : decode cX4_wouldCome 9 = .ok (.ireturn, 1) := by decide +kernel
theorem dX4_wouldCome_10 : decode cX4_wouldCome 10 = .ok (.iload_n 3, 1) := by decide +kernel
theorem dX4_wouldCome_11 : decode cX4_wouldCome 11 = .ok (.iload 5, 2) := by decide +kernel
theorem dX4_wouldCome_13 : decode cX4_wouldCome 13 = .ok (.iadd, 1) := by decide +kernel
theorem dX4_wouldCome_14 : decode cX4_wouldCome 14 = .ok (.istore 7, 2) := by decide +kernel
theorem dX4_wouldCome_16 : decode cX4_wouldCome 16 = .ok (.iload_n 2, 1) := by decide +kernel
theorem dX4_wouldCome_17 : decode cX4_wouldCome 17 = .ok (.tableswitch 105 1 4 #[31, 47, 64, 83], 31) := by decide +kernel
theorem dX4_wouldCome_48 : decode cX4_wouldCome 48 = .ok (.iload_n 3, 1) := by decide +kernel
theorem dX4_wouldCome_49 : decode cX4_wouldCome 49 = .ok (.ifCond .lt 9, 3) := by decide +kernel
theorem dX4_wouldCome_52 : decode cX4_wouldCome 52 = .ok (.iload 7, 2) := by decide +kernel
theorem dX4_wouldCome_54 : decode cX4_wouldCome 54 = .ok (.iconst 4, 1) := by decide +kernel
theorem dX4_wouldCome_55 : decode cX4_wouldCome 55 = .ok (.if_icmp .lt 7, 3) := by decide +kernel
theorem dX4_wouldCome_58 : decode cX4_wouldCome 58 = .ok (.iconst 1, 1) := by decide +kernel
theorem dX4_wouldCome_59 : decode cX4_wouldCome 59 = .ok (.goto 4, 3) := by decide +kernel
theorem dX4_wouldCome_62 : decode cX4_wouldCome 62 = .ok (.iconst 0, 1) := by decide +kernel
theorem dX4_wouldCome_63 : decode cX4_wouldCome 63 = .ok (.ireturn, 1) := by decide +kernel
theorem dX4_wouldCome_64 : decode cX4_wouldCome 64 = .ok (.iload 6, 2) := by decide +kernel
theorem dX4_wouldCome_66 : decode cX4_wouldCome 66 = .ok (.ifCond .gt 9, 3) := by decide +kernel
theorem dX4_wouldCome_69 : decode cX4_wouldCome 69 = .ok (.iload 7, 2) := by decide +kernel
theorem dX4_wouldCome_71 : decode cX4_wouldCome 71 = .ok (.iconst 2, 1) := by decide +kernel
theorem dX4_wouldCome_72 : decode cX4_wouldCome 72 = .ok (.if_icmp .lt 7, 3) := by decide +kernel
theorem dX4_wouldCome_75 : decode cX4_wouldCome 75 = .ok (.iconst 1, 1) := by decide +kernel
theorem dX4_wouldCome_76 : decode cX4_wouldCome 76 = .ok (.goto 4, 3) := by decide +kernel
theorem dX4_wouldCome_79 : decode cX4_wouldCome 79 = .ok (.iconst 0, 1) := by decide +kernel
theorem dX4_wouldCome_80 : decode cX4_wouldCome 80 = .ok (.ireturn, 1) := by decide +kernel
theorem dX4_wouldCome_81 : decode cX4_wouldCome 81 = .ok (.aload_n 0, 1) := by decide +kernel
theorem dX4_wouldCome_82 : decode cX4_wouldCome 82 = .ok (.getfield 43, 3) := by decide +kernel
theorem dX4_wouldCome_85 : decode cX4_wouldCome 85 = .ok (.ifCond .ne 13, 3) := by decide +kernel
theorem dX4_wouldCome_88 : decode cX4_wouldCome 88 = .ok (.iload 7, 2) := by decide +kernel
theorem dX4_wouldCome_90 : decode cX4_wouldCome 90 = .ok (.iconst 2, 1) := by decide +kernel
theorem dX4_wouldCome_91 : decode cX4_wouldCome 91 = .ok (.if_icmp .lt 7, 3) := by decide +kernel
theorem dX4_wouldCome_94 : decode cX4_wouldCome 94 = .ok (.iconst 1, 1) := by decide +kernel
theorem dX4_wouldCome_95 : decode cX4_wouldCome 95 = .ok (.goto 4, 3) := by decide +kernel
theorem dX4_wouldCome_98 : decode cX4_wouldCome 98 = .ok (.iconst 0, 1) := by decide +kernel
theorem dX4_wouldCome_99 : decode cX4_wouldCome 99 = .ok (.ireturn, 1) := by decide +kernel
theorem dX4_wouldCome_100 : decode cX4_wouldCome 100 = .ok (.aload_n 0, 1) := by decide +kernel
theorem dX4_wouldCome_101 : decode cX4_wouldCome 101 = .ok (.iload_n 1, 1) := by decide +kernel
theorem dX4_wouldCome_102 : decode cX4_wouldCome 102 = .ok (.iload 4, 2) := by decide +kernel
theorem dX4_wouldCome_104 : decode cX4_wouldCome 104 = .ok (.invokevirtual 74, 3) := by decide +kernel
theorem dX4_wouldCome_107 : decode cX4_wouldCome 107 = .ok (.ifCond .ne 13, 3) := by decide +kernel
theorem dX4_wouldCome_110 : decode cX4_wouldCome 110 = .ok (.iload 7, 2) := by decide +kernel
theorem dX4_wouldCome_112 : decode cX4_wouldCome 112 = .ok (.iconst 1, 1) := by decide +kernel
theorem dX4_wouldCome_113 : decode cX4_wouldCome 113 = .ok (.if_icmp .lt 7, 3) := by decide +kernel
theorem dX4_wouldCome_116 : decode cX4_wouldCome 116 = .ok (.iconst 1, 1) := by decide +kernel
theorem dX4_wouldCome_117 : decode cX4_wouldCome 117 = .ok (.goto 4, 3) := by decide +kernel
theorem dX4_wouldCome_120 : decode cX4_wouldCome 120 = .ok (.iconst 0, 1) := by decide +kernel
theorem dX4_wouldCome_121 : decode cX4_wouldCome 121 = .ok (.ireturn, 1) := by decide +kernel
theorem dX4_wouldCome_122 : decode cX4_wouldCome 122 = .ok (.iload 7, 2) := by decide +kernel
theorem dX4_wouldCome_124 : decode cX4_wouldCome 124 = .ok (.iconst 2, 1) := by decide +kernel
theorem dX4_wouldCome_125 : decode cX4_wouldCome 125 = .ok (.if_icmp .lt 7, 3) := by decide +kernel
theorem dX4_wouldCome_128 : decode cX4_wouldCome 128 = .ok (.iconst 1, 1) := by decide +kernel
theorem dX4_wouldCome_129 : decode cX4_wouldCome 129 = .ok (.goto 4, 3) := by decide +kernel
theorem dX4_wouldCome_132 : decode cX4_wouldCome 132 = .ok (.iconst 0, 1) := by decide +kernel
theorem dX4_wouldCome_133 : decode cX4_wouldCome 133 = .ok (.ireturn, 1) := by decide +kernel
theorem dX4_guestsOf_0 : decode cX4_guestsOf 0 = .ok (.iconst 0, 1) := by decide +kernel
theorem dX4_guestsOf_1 : decode cX4_guestsOf 1 = .ok (.istore 4, 2) := by decide +kernel
theorem dX4_guestsOf_3 : decode cX4_guestsOf 3 = .ok (.iconst 0, 1) := by decide +kernel
theorem dX4_guestsOf_4 : decode cX4_guestsOf 4 = .ok (.istore 5, 2) := by decide +kernel
theorem dX4_guestsOf_6 : decode cX4_guestsOf 6 = .ok (.iload 5, 2) := by decide +kernel
theorem dX4_guestsOf_8 : decode cX4_guestsOf 8 = .ok (.aload_n 0, 1) := by decide +kernel
theorem dX4_guestsOf_9 : decode cX4_guestsOf 9 = .ok (.getfield 27, 3) := by decide +kernel
theorem dX4_guestsOf_12 : decode cX4_guestsOf 12 = .ok (.if_icmp .ge 50, 3) := by decide +kernel
theorem dX4_guestsOf_15 : decode cX4_guestsOf 15 = .ok (.iload 5, 2) := by decide +kernel
theorem dX4_guestsOf_17 : decode cX4_guestsOf 17 = .ok (.iload_n 1, 1) := by decide +kernel
theorem dX4_guestsOf_18 : decode cX4_guestsOf 18 = .ok (.if_icmp .eq 38, 3) := by decide +kernel
theorem dX4_guestsOf_21 : decode cX4_guestsOf 21 = .ok (.aload_n 0, 1) := by decide +kernel
theorem dX4_guestsOf_22 : decode cX4_guestsOf 22 = .ok (.iload 5, 2) := by decide +kernel
theorem dX4_guestsOf_24 : decode cX4_guestsOf 24 = .ok (.aload_n 0, 1) := by decide +kernel
theorem dX4_guestsOf_25 : decode cX4_guestsOf 25 = .ok (.getfield 9, 3) := by decide +kernel
theorem dX4_guestsOf_28 : decode cX4_guestsOf 28 = .ok (.iload 5, 2) := by decide +kernel
theorem dX4_guestsOf_30 : decode cX4_guestsOf 30 = .ok (.iaload, 1) := by decide +kernel
theorem dX4_guestsOf_31 : decode cX4_guestsOf 31 = .ok (.aload_n 0, 1) := by decide +kernel
theorem dX4_guestsOf_32 : decode cX4_guestsOf 32 = .ok (.iload 5, 2) := by decide +kernel
theorem dX4_guestsOf_34 : decode cX4_guestsOf 34 = .ok (.iload_n 1, 1) := by decide +kernel
theorem dX4_guestsOf_35 : decode cX4_guestsOf 35 = .ok (.invokevirtual 77, 3) := by decide +kernel
theorem dX4_guestsOf_38 : decode cX4_guestsOf 38 = .ok (.iload_n 1, 1) := by decide +kernel
theorem dX4_guestsOf_39 : decode cX4_guestsOf 39 = .ok (.iload_n 2, 1) := by decide +kernel
theorem dX4_guestsOf_40 : decode cX4_guestsOf 40 = .ok (.iload_n 3, 1) := by decide +kernel
theorem dX4_guestsOf_41 : decode cX4_guestsOf 41 = .ok (.invokevirtual 80, 3) := by decide +kernel
theorem dX4_guestsOf_44 : decode cX4_guestsOf 44 = .ok (.ifCond .eq 12, 3) := by decide +kernel
theorem dX4_guestsOf_47 : decode cX4_guestsOf 47 = .ok (.iload 4, 2) := by decide +kernel
theorem dX4_guestsOf_49 : decode cX4_guestsOf 49 = .ok (.iconst 1, 1) := by decide +kernel
theorem dX4_guestsOf_50 : decode cX4_guestsOf 50 = .ok (.iload 5, 2) := by decide +kernel
theorem dX4_guestsOf_52 : decode cX4_guestsOf 52 = .ok (.ishl, 1) := by decide +kernel
theorem dX4_guestsOf_53 : decode cX4_guestsOf 53 = .ok (.ior, 1) := by decide +kernel
theorem dX4_guestsOf_54 : decode cX4_guestsOf 54 = .ok (.istore 4, 2) := by decide +kernel
theorem dX4_guestsOf_56 : decode cX4_guestsOf 56 = .ok (.iinc 5 1, 3) := by decide +kernel
theorem dX4_guestsOf_59 : decode cX4_guestsOf 59 = .ok (.goto (-53), 3) := by decide +kernel
theorem dX4_guestsOf_62 : decode cX4_guestsOf 62 = .ok (.iload 4, 2) := by decide +kernel
theorem dX4_guestsOf_64 : decode cX4_guestsOf 64 = .ok (.ireturn, 1) := by decide +kernel
theorem dX4_giftsUntilComing_0 : decode cX4_giftsUntilComing 0 = .ok (.aload_n 0, 1) := by decide +kernel
theorem dX4_giftsUntilComing_1 : decode cX4_giftsUntilComing 1 = .ok (.iload_n 1, 1) := by decide +kernel
theorem dX4_giftsUntilComing_2 : decode cX4_giftsUntilComing 2 = .ok (.iload_n 2, 1) := by decide +kernel
theorem dX4_giftsUntilComing_3 : decode cX4_giftsUntilComing 3 = .ok (.invokevirtual 77, 3) := by decide +kernel
theorem dX4_giftsUntilComing_6 : decode cX4_giftsUntilComing 6 = .ok (.istore 5, 2) := by decide +kernel
theorem dX4_giftsUntilComing_8 : decode cX4_giftsUntilComing 8 = .ok (.iload 5, 2) := by decide +kernel
theorem dX4_giftsUntilComing_10 : decode cX4_giftsUntilComing 10 = .ok (.istore 6, 2) := by decide +kernel
theorem dX4_giftsUntilComing_12 : decode cX4_giftsUntilComing 12 = .ok (.iload 6, 2) := by decide +kernel
theorem dX4_giftsUntilComing_14 : decode cX4_giftsUntilComing 14 = .ok (.iconst 5, 1) := by decide +kernel
theorem dX4_giftsUntilComing_15 : decode cX4_giftsUntilComing 15 = .ok (.if_icmp .gt 35, 3) := by decide +kernel
theorem dX4_giftsUntilComing_18 : decode cX4_giftsUntilComing 18 = .ok (.aload_n 0, 1) := by decide +kernel
theorem dX4_giftsUntilComing_19 : decode cX4_giftsUntilComing 19 = .ok (.iload_n 1, 1) := by decide +kernel
theorem dX4_giftsUntilComing_20 : decode cX4_giftsUntilComing 20 = .ok (.aload_n 0, 1) := by decide +kernel
theorem dX4_giftsUntilComing_21 : decode cX4_giftsUntilComing 21 = .ok (.getfield 9, 3) := by decide +kernel
theorem dX4_giftsUntilComing_24 : decode cX4_giftsUntilComing 24 = .ok (.iload_n 1, 1) := by decide +kernel
theorem dX4_giftsUntilComing_25 : decode cX4_giftsUntilComing 25 = .ok (.iaload, 1) := by decide +kernel
theorem dX4_giftsUntilComing_26 : decode cX4_giftsUntilComing 26 = .ok (.iload 6, 2) := by decide +kernel
theorem dX4_giftsUntilComing_28 : decode cX4_giftsUntilComing 28 = .ok (.iload_n 2, 1) := by decide +kernel
theorem dX4_giftsUntilComing_29 : decode cX4_giftsUntilComing 29 = .ok (.iload_n 3, 1) := by decide +kernel
theorem dX4_giftsUntilComing_30 : decode cX4_giftsUntilComing 30 = .ok (.iload 4, 2) := by decide +kernel
theorem dX4_giftsUntilComing_32 : decode cX4_giftsUntilComing 32 = .ok (.invokevirtual 80, 3) := by decide +kernel
theorem dX4_giftsUntilComing_35 : decode cX4_giftsUntilComing 35 = .ok (.ifCond .eq 9, 3) := by decide +kernel
theorem dX4_giftsUntilComing_38 : decode cX4_giftsUntilComing 38 = .ok (.iload 6, 2) := by decide +kernel
theorem dX4_giftsUntilComing_40 : decode cX4_giftsUntilComing 40 = .ok (.iload 5, 2) := by decide +kernel
theorem dX4_giftsUntilComing_42 : decode cX4_giftsUntilComing 42 = .ok (.isub, 1) := by decide +kernel
theorem dX4_giftsUntilComing_43 : decode cX4_giftsUntilComing 43 = .ok (.ireturn, 1) := by decide +kernel
theorem dX4_giftsUntilComing_44 : decode cX4_giftsUntilComing 44 = .ok (.iinc 6 1, 3) := by decide +kernel
theorem dX4_giftsUntilComing_47 : decode cX4_giftsUntilComing 47 = .ok (.goto (-35), 3) := by decide +kernel
theorem dX4_giftsUntilComing_50 : decode cX4_giftsUntilComing 50 = .ok (.bipush (-4), 2) := by decide +kernel
theorem dX4_giftsUntilComing_52 : decode cX4_giftsUntilComing 52 = .ok (.ireturn, 1) := by decide +kernel
theorem dX4_isDueForTrial_0 : decode cX4_isDueForTrial 0 = .ok (.aload_n 0, 1) := by decide +kernel
theorem dX4_isDueForTrial_1 : decode cX4_isDueForTrial 1 = .ok (.iload_n 1, 1) := by decide +kernel
theorem dX4_isDueForTrial_2 : decode cX4_isDueForTrial 2 = .ok (.invokevirtual 71, 3) := by decide +kernel
theorem dX4_isDueForTrial_5 : decode cX4_isDueForTrial 5 = .ok (.ifCond .eq 27, 3) := by decide +kernel
theorem dX4_isDueForTrial_8 : decode cX4_isDueForTrial 8 = .ok (.aload_n 0, 1) := by decide +kernel
theorem dX4_isDueForTrial_9 : decode cX4_isDueForTrial 9 = .ok (.iload_n 1, 1) := by decide +kernel
theorem dX4_isDueForTrial_10 : decode cX4_isDueForTrial 10 = .ok (.invokevirtual 84, 3) := by decide +kernel
theorem dX4_isDueForTrial_13 : decode cX4_isDueForTrial 13 = .ok (.ifCond .ne 19, 3) := by decide +kernel
theorem dX4_isDueForTrial_16 : decode cX4_isDueForTrial 16 = .ok (.aload_n 0, 1) := by decide +kernel
theorem dX4_isDueForTrial_17 : decode cX4_isDueForTrial 17 = .ok (.iload_n 1, 1) := by decide +kernel
theorem dX4_isDueForTrial_18 : decode cX4_isDueForTrial 18 = .ok (.invokevirtual 87, 3) := by decide +kernel
theorem dX4_isDueForTrial_21 : decode cX4_isDueForTrial 21 = .ok (.aload_n 0, 1) := by decide +kernel
theorem dX4_isDueForTrial_22 : decode cX4_isDueForTrial 22 = .ok (.getfield 31, 3) := by decide +kernel
theorem dX4_isDueForTrial_25 : decode cX4_isDueForTrial 25 = .ok (.if_icmp .lt 7, 3) := by decide +kernel
theorem dX4_isDueForTrial_28 : decode cX4_isDueForTrial 28 = .ok (.iconst 1, 1) := by decide +kernel
theorem dX4_isDueForTrial_29 : decode cX4_isDueForTrial 29 = .ok (.goto 4, 3) := by decide +kernel
theorem dX4_isDueForTrial_32 : decode cX4_isDueForTrial 32 = .ok (.iconst 0, 1) := by decide +kernel
theorem dX4_isDueForTrial_33 : decode cX4_isDueForTrial 33 = .ok (.ireturn, 1) := by decide +kernel
theorem dX4_canHoldTrial_0 : decode cX4_canHoldTrial 0 = .ok (.aload_n 0, 1) := by decide +kernel
theorem dX4_canHoldTrial_1 : decode cX4_canHoldTrial 1 = .ok (.iload_n 1, 1) := by decide +kernel
theorem dX4_canHoldTrial_2 : decode cX4_canHoldTrial 2 = .ok (.invokevirtual 91, 3) := by decide +kernel
theorem dX4_canHoldTrial_5 : decode cX4_canHoldTrial 5 = .ok (.ifCond .eq 21, 3) := by decide +kernel
theorem dX4_canHoldTrial_8 : decode cX4_canHoldTrial 8 = .ok (.aload_n 0, 1) := by decide +kernel
theorem dX4_canHoldTrial_9 : decode cX4_canHoldTrial 9 = .ok (.getfield 18, 3) := by decide +kernel
theorem dX4_canHoldTrial_12 : decode cX4_canHoldTrial 12 = .ok (.iload_n 1, 1) := by decide +kernel
theorem dX4_canHoldTrial_13 : decode cX4_canHoldTrial 13 = .ok (.iaload, 1) := by decide +kernel
theorem dX4_canHoldTrial_14 : decode cX4_canHoldTrial 14 = .ok (.iload_n 2, 1) := by decide +kernel
theorem dX4_canHoldTrial_15 : decode cX4_canHoldTrial 15 = .ok (.iload_n 3, 1) := by decide +kernel
theorem dX4_canHoldTrial_16 : decode cX4_canHoldTrial 16 = .ok (.invokestatic 94, 3) := by decide +kernel
theorem dX4_canHoldTrial_19 : decode cX4_canHoldTrial 19 = .ok (.if_icmp .lt 7, 3) := by decide +kernel
theorem dX4_canHoldTrial_22 : decode cX4_canHoldTrial 22 = .ok (.iconst 1, 1) := by decide +kernel
theorem dX4_canHoldTrial_23 : decode cX4_canHoldTrial 23 = .ok (.goto 4, 3) := by decide +kernel
theorem dX4_canHoldTrial_26 : decode cX4_canHoldTrial 26 = .ok (.iconst 0, 1) := by decide +kernel
theorem dX4_canHoldTrial_27 : decode cX4_canHoldTrial 27 = .ok (.ireturn, 1) := by decide +kernel
theorem dX4_holdTrial_0 : decode cX4_holdTrial 0 = .ok (.aload_n 0, 1) := by decide +kernel
theorem dX4_holdTrial_1 : decode cX4_holdTrial 1 = .ok (.iload_n 1, 1) := by decide +kernel
theorem dX4_holdTrial_2 : decode cX4_holdTrial 2 = .ok (.iload_n 2, 1) := by decide +kernel
theorem dX4_holdTrial_3 : decode cX4_holdTrial 3 = .ok (.iload_n 3, 1) := by decide +kernel
theorem dX4_holdTrial_4 : decode cX4_holdTrial 4 = .ok (.invokevirtual 97, 3) := by decide +kernel
theorem dX4_holdTrial_7 : decode cX4_holdTrial 7 = .ok (.istore 4, 2) := by decide +kernel
theorem dX4_holdTrial_9 : decode cX4_holdTrial 9 = .ok (.aload_n 0, 1) := by decide +kernel
theorem dX4_holdTrial_10 : decode cX4_holdTrial 10 = .ok (.getfield 18, 3) := by decide +kernel
theorem dX4_holdTrial_13 : decode cX4_holdTrial 13 = .ok (.iload_n 1, 1) := by decide +kernel
theorem dX4_holdTrial_14 : decode cX4_holdTrial 14 = .ok (.dup2, 1) := by decide +kernel
theorem dX4_holdTrial_15 : decode cX4_holdTrial 15 = .ok (.iaload, 1) := by decide +kernel
theorem dX4_holdTrial_16 : decode cX4_holdTrial 16 = .ok (.iload_n 2, 1) := by decide +kernel
theorem dX4_holdTrial_17 : decode cX4_holdTrial 17 = .ok (.iload_n 3, 1) := by decide +kernel
theorem dX4_holdTrial_18 : decode cX4_holdTrial 18 = .ok (.invokestatic 94, 3) := by decide +kernel
theorem dX4_holdTrial_21 : decode cX4_holdTrial 21 = .ok (.isub, 1) := by decide +kernel
theorem dX4_holdTrial_22 : decode cX4_holdTrial 22 = .ok (.iastore, 1) := by decide +kernel
theorem dX4_holdTrial_23 : decode cX4_holdTrial 23 = .ok (.iconst 0, 1) := by decide +kernel
theorem dX4_holdTrial_24 : decode cX4_holdTrial 24 = .ok (.istore 5, 2) := by decide +kernel
theorem dX4_holdTrial_26 : decode cX4_holdTrial 26 = .ok (.iload 5, 2) := by decide +kernel
theorem dX4_holdTrial_28 : decode cX4_holdTrial 28 = .ok (.aload_n 0, 1) := by decide +kernel
theorem dX4_holdTrial_29 : decode cX4_holdTrial 29 = .ok (.getfield 27, 3) := by decide +kernel
theorem dX4_holdTrial_32 : decode cX4_holdTrial 32 = .ok (.if_icmp .ge 38, 3) := by decide +kernel
theorem dX4_holdTrial_35 : decode cX4_holdTrial 35 = .ok (.iload 5, 2) := by decide +kernel
theorem dX4_holdTrial_37 : decode cX4_holdTrial 37 = .ok (.iload_n 1, 1) := by decide +kernel
theorem dX4_holdTrial_38 : decode cX4_holdTrial 38 = .ok (.if_icmp .eq 26, 3) := by decide +kernel
theorem dX4_holdTrial_41 : decode cX4_holdTrial 41 = .ok (.aload_n 0, 1) := by decide +kernel
theorem dX4_holdTrial_42 : decode cX4_holdTrial 42 = .ok (.iload 5, 2) := by decide +kernel
theorem dX4_holdTrial_44 : decode cX4_holdTrial 44 = .ok (.invokevirtual 71, 3) := by decide +kernel
theorem dX4_holdTrial_47 : decode cX4_holdTrial 47 = .ok (.ifCond .eq 17, 3) := by decide +kernel
theorem dX4_holdTrial_50 : decode cX4_holdTrial 50 = .ok (.aload_n 0, 1) := by decide +kernel
theorem dX4_holdTrial_51 : decode cX4_holdTrial 51 = .ok (.iload_n 1, 1) := by decide +kernel
theorem dX4_holdTrial_52 : decode cX4_holdTrial 52 = .ok (.iload 5, 2) := by decide +kernel
theorem dX4_holdTrial_54 : decode cX4_holdTrial 54 = .ok (.iload 4, 2) := by decide +kernel
theorem dX4_holdTrial_56 : decode cX4_holdTrial 56 = .ok (.iload 5, 2) := by decide +kernel
theorem dX4_holdTrial_58 : decode cX4_holdTrial 58 = .ok (.invokestatic 68, 3) := by decide +kernel
theorem dX4_holdTrial_61 : decode cX4_holdTrial 61 = .ok (.invokevirtual 101, 3) := by decide +kernel
theorem dX4_holdTrial_64 : decode cX4_holdTrial 64 = .ok (.iinc 5 1, 3) := by decide +kernel
theorem dX4_holdTrial_67 : decode cX4_holdTrial 67 = .ok (.goto (-41), 3) := by decide +kernel
theorem dX4_holdTrial_70 : decode cX4_holdTrial 70 = .ok (.aload_n 0, 1) := by decide +kernel
theorem dX4_holdTrial_71 : decode cX4_holdTrial 71 = .ok (.dup, 1) := by decide +kernel
theorem dX4_holdTrial_72 : decode cX4_holdTrial 72 = .ok (.getfield 37, 3) := by decide +kernel
theorem dX4_holdTrial_75 : decode cX4_holdTrial 75 = .ok (.iconst 1, 1) := by decide +kernel
theorem dX4_holdTrial_76 : decode cX4_holdTrial 76 = .ok (.iload_n 1, 1) := by decide +kernel
theorem dX4_holdTrial_77 : decode cX4_holdTrial 77 = .ok (.ishl, 1) := by decide +kernel
theorem dX4_holdTrial_78 : decode cX4_holdTrial 78 = .ok (.ior, 1) := by decide +kernel
theorem dX4_holdTrial_79 : decode cX4_holdTrial 79 = .ok (.putfield 37, 3) := by decide +kernel
theorem dX4_holdTrial_82 : decode cX4_holdTrial 82 = .ok (.aload_n 0, 1) := by decide +kernel
theorem dX4_holdTrial_83 : decode cX4_holdTrial 83 = .ok (.dup, 1) := by decide +kernel
theorem dX4_holdTrial_84 : decode cX4_holdTrial 84 = .ok (.getfield 43, 3) := by decide +kernel
theorem dX4_holdTrial_87 : decode cX4_holdTrial 87 = .ok (.iconst 1, 1) := by decide +kernel
theorem dX4_holdTrial_88 : decode cX4_holdTrial 88 = .ok (.iadd, 1) := by decide +kernel
theorem dX4_holdTrial_89 : decode cX4_holdTrial 89 = .ok (.putfield 43, 3) := by decide +kernel
theorem dX4_holdTrial_92 : decode cX4_holdTrial 92 = .ok (.iload 4, 2) := by decide +kernel
theorem dX4_holdTrial_94 : decode cX4_holdTrial 94 = .ok (.ireturn, 1) := by decide +kernel
theorem dX4_meet_0 : decode cX4_meet 0 = .ok (.iload_n 3, 1) := by decide +kernel
theorem dX4_meet_1 : decode cX4_meet 1 = .ok (.ifCond .eq 17, 3) := by decide +kernel
theorem dX4_meet_4 : decode cX4_meet 4 = .ok (.aload_n 0, 1) := by decide +kernel
theorem dX4_meet_5 : decode cX4_meet 5 = .ok (.getfield 9, 3) := by decide +kernel
theorem dX4_meet_8 : decode cX4_meet 8 = .ok (.iload_n 2, 1) := by decide +kernel
theorem dX4_meet_9 : decode cX4_meet 9 = .ok (.iaload, 1) := by decide +kernel
theorem dX4_meet_10 : decode cX4_meet 10 = .ok (.iconst 1, 1) := by decide +kernel
theorem dX4_meet_11 : decode cX4_meet 11 = .ok (.if_icmp .eq 7, 3) := by decide +kernel
theorem dX4_meet_14 : decode cX4_meet 14 = .ok (.iconst 1, 1) := by decide +kernel
theorem dX4_meet_15 : decode cX4_meet 15 = .ok (.goto 4, 3) := by decide +kernel
theorem dX4_meet_18 : decode cX4_meet 18 = .ok (.iconst 0, 1) := by decide +kernel
theorem dX4_meet_19 : decode cX4_meet 19 = .ok (.istore 4, 2) := by decide +kernel
theorem dX4_meet_21 : decode cX4_meet 21 = .ok (.aload_n 0, 1) := by decide +kernel
theorem dX4_meet_22 : decode cX4_meet 22 = .ok (.iload_n 1, 1) := by decide +kernel
theorem dX4_meet_23 : decode cX4_meet 23 = .ok (.iload_n 2, 1) := by decide +kernel
theorem dX4_meet_24 : decode cX4_meet 24 = .ok (.iload 4, 2) := by decide +kernel
theorem dX4_meet_26 : decode cX4_meet 26 = .ok (.ifCond .eq 7, 3) := by decide +kernel
theorem dX4_meet_29 : decode cX4_meet 29 = .ok (.iconst 1, 1) := by decide +kernel
theorem dX4_meet_30 : decode cX4_meet 30 = .ok (.goto 4, 3) := by decide +kernel
theorem dX4_meet_33 : decode cX4_meet 33 = .ok (.iconst (-1), 1) := by decide +kernel
theorem dX4_meet_34 : decode cX4_meet 34 = .ok (.invokevirtual 105, 3) := by decide +kernel
theorem dX4_meet_37 : decode cX4_meet 37 = .ok (.iload_n 3, 1) := by decide +kernel
theorem dX4_meet_38 : decode cX4_meet 38 = .ok (.ifCond .eq 18, 3) := by decide +kernel
theorem dX4_meet_41 : decode cX4_meet 41 = .ok (.aload_n 0, 1) := by decide +kernel
theorem dX4_meet_42 : decode cX4_meet 42 = .ok (.iload_n 2, 1) := by decide +kernel
theorem dX4_meet_43 : decode cX4_meet 43 = .ok (.iload_n 1, 1) := by decide +kernel
theorem dX4_meet_44 : decode cX4_meet 44 = .ok (.aload_n 0, 1) := by decide +kernel
theorem dX4_meet_45 : decode cX4_meet 45 = .ok (.iload_n 2, 1) := by decide +kernel
theorem dX4_meet_46 : decode cX4_meet 46 = .ok (.iload_n 1, 1) := by decide +kernel
theorem dX4_meet_47 : decode cX4_meet 47 = .ok (.invokevirtual 74, 3) := by decide +kernel
theorem dX4_meet_50 : decode cX4_meet 50 = .ok (.iconst 2, 1) := by decide +kernel
theorem dX4_meet_51 : decode cX4_meet 51 = .ok (.idiv, 1) := by decide +kernel
theorem dX4_meet_52 : decode cX4_meet 52 = .ok (.invokevirtual 109, 3) := by decide +kernel
theorem dX4_meet_55 : decode cX4_meet 55 = .ok (.pop, 1) := by decide +kernel
theorem dX4_meet_56 : decode cX4_meet 56 = .ok (.return_, 1) := by decide +kernel
theorem dX4_changeTie_0 : decode cX4_changeTie 0 = .ok (.aload_n 0, 1) := by decide +kernel
theorem dX4_changeTie_1 : decode cX4_changeTie 1 = .ok (.iload_n 1, 1) := by decide +kernel
theorem dX4_changeTie_2 : decode cX4_changeTie 2 = .ok (.iload_n 2, 1) := by decide +kernel
theorem dX4_changeTie_3 : decode cX4_changeTie 3 = .ok (.invokevirtual 77, 3) := by decide +kernel
theorem dX4_changeTie_6 : decode cX4_changeTie 6 = .ok (.iload_n 3, 1) := by decide +kernel
theorem dX4_changeTie_7 : decode cX4_changeTie 7 = .ok (.iadd, 1) := by decide +kernel
theorem dX4_changeTie_8 : decode cX4_changeTie 8 = .ok (.istore 4, 2) := by decide +kernel
theorem dX4_changeTie_10 : decode cX4_changeTie 10 = .ok (.aload_n 0, 1) := by decide +kernel
theorem dX4_changeTie_11 : decode cX4_changeTie 11 = .ok (.getfield 21, 3) := by decide +kernel
theorem dX4_changeTie_14 : decode cX4_changeTie 14 = .ok (.aload_n 0, 1) := by decide +kernel
theorem dX4_changeTie_15 : decode cX4_changeTie 15 = .ok (.iload_n 1, 1) := by decide +kernel
theorem dX4_changeTie_16 : decode cX4_changeTie 16 = .ok (.iload_n 2, 1) := by decide +kernel
theorem dX4_changeTie_17 : decode cX4_changeTie 17 = .ok (.invokevirtual 60, 3) := by decide +kernel
theorem dX4_changeTie_20 : decode cX4_changeTie 20 = .ok (.bipush (-4), 2) := by decide +kernel
theorem dX4_changeTie_22 : decode cX4_changeTie 22 = .ok (.iconst 5, 1) := by decide +kernel
theorem dX4_changeTie_23 : decode cX4_changeTie 23 = .ok (.iload 4, 2) := by decide +kernel
theorem dX4_changeTie_25 : decode cX4_changeTie 25 = .ok (.invokestatic 112, 3) := by decide +kernel
theorem dX4_changeTie_28 : decode cX4_changeTie 28 = .ok (.invokestatic 117, 3) := by decide +kernel
theorem dX4_changeTie_31 : decode cX4_changeTie 31 = .ok (.iastore, 1) := by decide +kernel
theorem dX4_changeTie_32 : decode cX4_changeTie 32 = .ok (.return_, 1) := by decide +kernel
theorem dX4_payOff_0 : decode cX4_payOff 0 = .ok (.iload_n 3, 1) := by decide +kernel
theorem dX4_payOff_1 : decode cX4_payOff 1 = .ok (.aload_n 0, 1) := by decide +kernel
theorem dX4_payOff_2 : decode cX4_payOff 2 = .ok (.getfield 18, 3) := by decide +kernel
theorem dX4_payOff_5 : decode cX4_payOff 5 = .ok (.iload_n 1, 1) := by decide +kernel
theorem dX4_payOff_6 : decode cX4_payOff 6 = .ok (.iaload, 1) := by decide +kernel
theorem dX4_payOff_7 : decode cX4_payOff 7 = .ok (.invokestatic 112, 3) := by decide +kernel
theorem dX4_payOff_10 : decode cX4_payOff 10 = .ok (.istore 4, 2) := by decide +kernel
theorem dX4_payOff_12 : decode cX4_payOff 12 = .ok (.aload_n 0, 1) := by decide +kernel
theorem dX4_payOff_13 : decode cX4_payOff 13 = .ok (.getfield 18, 3) := by decide +kernel
theorem dX4_payOff_16 : decode cX4_payOff 16 = .ok (.iload_n 1, 1) := by decide +kernel
theorem dX4_payOff_17 : decode cX4_payOff 17 = .ok (.dup2, 1) := by decide +kernel
theorem dX4_payOff_18 : decode cX4_payOff 18 = .ok (.iaload, 1) := by decide +kernel
theorem dX4_payOff_19 : decode cX4_payOff 19 = .ok (.iload 4, 2) := by decide +kernel
theorem dX4_payOff_21 : decode cX4_payOff 21 = .ok (.isub, 1) := by decide +kernel
theorem dX4_payOff_22 : decode cX4_payOff 22 = .ok (.iastore, 1) := by decide +kernel
theorem dX4_payOff_23 : decode cX4_payOff 23 = .ok (.aload_n 0, 1) := by decide +kernel
theorem dX4_payOff_24 : decode cX4_payOff 24 = .ok (.getfield 24, 3) := by decide +kernel
theorem dX4_payOff_27 : decode cX4_payOff 27 = .ok (.aload_n 0, 1) := by decide +kernel
theorem dX4_payOff_28 : decode cX4_payOff 28 = .ok (.iload_n 1, 1) := by decide +kernel
theorem dX4_payOff_29 : decode cX4_payOff 29 = .ok (.iload_n 2, 1) := by decide +kernel
theorem dX4_payOff_30 : decode cX4_payOff 30 = .ok (.invokevirtual 60, 3) := by decide +kernel
theorem dX4_payOff_33 : decode cX4_payOff 33 = .ok (.dup2, 1) := by decide +kernel
theorem dX4_payOff_34 : decode cX4_payOff 34 = .ok (.iaload, 1) := by decide +kernel
theorem dX4_payOff_35 : decode cX4_payOff 35 = .ok (.iload 4, 2) := by decide +kernel
theorem dX4_payOff_37 : decode cX4_payOff 37 = .ok (.isub, 1) := by decide +kernel
theorem dX4_payOff_38 : decode cX4_payOff 38 = .ok (.iastore, 1) := by decide +kernel
theorem dX4_payOff_39 : decode cX4_payOff 39 = .ok (.aload_n 0, 1) := by decide +kernel
theorem dX4_payOff_40 : decode cX4_payOff 40 = .ok (.iload_n 2, 1) := by decide +kernel
theorem dX4_payOff_41 : decode cX4_payOff 41 = .ok (.iload 4, 2) := by decide +kernel
theorem dX4_payOff_43 : decode cX4_payOff 43 = .ok (.invokevirtual 120, 3) := by decide +kernel
theorem dX4_payOff_46 : decode cX4_payOff 46 = .ok (.iload 4, 2) := by decide +kernel
theorem dX4_payOff_48 : decode cX4_payOff 48 = .ok (.ireturn, 1) := by decide +kernel
theorem dX4_receive_0 : decode cX4_receive 0 = .ok (.aload_n 0, 1) := by decide +kernel
theorem dX4_receive_1 : decode cX4_receive 1 = .ok (.getfield 18, 3) := by decide +kernel
theorem dX4_receive_4 : decode cX4_receive 4 = .ok (.iload_n 1, 1) := by decide +kernel
theorem dX4_receive_5 : decode cX4_receive 5 = .ok (.sipush 999, 3) := by decide +kernel
theorem dX4_receive_8 : decode cX4_receive 8 = .ok (.aload_n 0, 1) := by decide +kernel
theorem dX4_receive_9 : decode cX4_receive 9 = .ok (.getfield 18, 3) := by decide +kernel
theorem dX4_receive_12 : decode cX4_receive 12 = .ok (.iload_n 1, 1) := by decide +kernel
theorem dX4_receive_13 : decode cX4_receive 13 = .ok (.iaload, 1) := by decide +kernel
theorem dX4_receive_14 : decode cX4_receive 14 = .ok (.iload_n 2, 1) := by decide +kernel
theorem dX4_receive_15 : decode cX4_receive 15 = .ok (.iadd, 1) := by decide +kernel
theorem dX4_receive_16 : decode cX4_receive 16 = .ok (.invokestatic 112, 3) := by decide +kernel
theorem dX4_receive_19 : decode cX4_receive 19 = .ok (.iastore, 1) := by decide +kernel
theorem dX4_receive_20 : decode cX4_receive 20 = .ok (.return_, 1) := by decide +kernel
theorem dX4_canGive_0 : decode cX4_canGive 0 = .ok (.aload_n 0, 1) := by decide +kernel
theorem dX4_canGive_1 : decode cX4_canGive 1 = .ok (.iload_n 1, 1) := by decide +kernel
theorem dX4_canGive_2 : decode cX4_canGive 2 = .ok (.invokevirtual 71, 3) := by decide +kernel
theorem dX4_canGive_5 : decode cX4_canGive 5 = .ok (.ifCond .eq 35, 3) := by decide +kernel
theorem dX4_canGive_8 : decode cX4_canGive 8 = .ok (.aload_n 0, 1) := by decide +kernel
theorem dX4_canGive_9 : decode cX4_canGive 9 = .ok (.iload_n 2, 1) := by decide +kernel
theorem dX4_canGive_10 : decode cX4_canGive 10 = .ok (.invokevirtual 71, 3) := by decide +kernel
theorem dX4_canGive_13 : decode cX4_canGive 13 = .ok (.ifCond .eq 27, 3) := by decide +kernel
theorem dX4_canGive_16 : decode cX4_canGive 16 = .ok (.aload_n 0, 1) := by decide +kernel
theorem dX4_canGive_17 : decode cX4_canGive 17 = .ok (.getfield 18, 3) := by decide +kernel
theorem dX4_canGive_20 : decode cX4_canGive 20 = .ok (.iload_n 1, 1) := by decide +kernel
theorem dX4_canGive_21 : decode cX4_canGive 21 = .ok (.iaload, 1) := by decide +kernel
theorem dX4_canGive_22 : decode cX4_canGive 22 = .ok (.iconst 2, 1) := by decide +kernel
theorem dX4_canGive_23 : decode cX4_canGive 23 = .ok (.if_icmp .lt 17, 3) := by decide +kernel
theorem dX4_canGive_26 : decode cX4_canGive 26 = .ok (.aload_n 0, 1) := by decide +kernel
theorem dX4_canGive_27 : decode cX4_canGive 27 = .ok (.iload_n 2, 1) := by decide +kernel
theorem dX4_canGive_28 : decode cX4_canGive 28 = .ok (.iload_n 1, 1) := by decide +kernel
theorem dX4_canGive_29 : decode cX4_canGive 29 = .ok (.invokevirtual 77, 3) := by decide +kernel
theorem dX4_canGive_32 : decode cX4_canGive 32 = .ok (.iconst 5, 1) := by decide +kernel
theorem dX4_canGive_33 : decode cX4_canGive 33 = .ok (.if_icmp .ge 7, 3) := by decide +kernel
theorem dX4_canGive_36 : decode cX4_canGive 36 = .ok (.iconst 1, 1) := by decide +kernel
theorem dX4_canGive_37 : decode cX4_canGive 37 = .ok (.goto 4, 3) := by decide +kernel
theorem dX4_canGive_40 : decode cX4_canGive 40 = .ok (.iconst 0, 1) := by decide +kernel
theorem dX4_canGive_41 : decode cX4_canGive 41 = .ok (.ireturn, 1) := by decide +kernel
theorem dX4_give_0 : decode cX4_give 0 = .ok (.aload_n 0, 1) := by decide +kernel
theorem dX4_give_1 : decode cX4_give 1 = .ok (.getfield 18, 3) := by decide +kernel
theorem dX4_give_4 : decode cX4_give 4 = .ok (.iload_n 1, 1) := by decide +kernel
theorem dX4_give_5 : decode cX4_give 5 = .ok (.dup2, 1) := by decide +kernel
theorem dX4_give_6 : decode cX4_give 6 = .ok (.iaload, 1) := by decide +kernel
theorem dX4_give_7 : decode cX4_give 7 = .ok (.iconst 2, 1) := by decide +kernel
theorem dX4_give_8 : decode cX4_give 8 = .ok (.isub, 1) := by decide +kernel
theorem dX4_give_9 : decode cX4_give 9 = .ok (.iastore, 1) := by decide +kernel
theorem dX4_give_10 : decode cX4_give 10 = .ok (.aload_n 0, 1) := by decide +kernel
theorem dX4_give_11 : decode cX4_give 11 = .ok (.iload_n 2, 1) := by decide +kernel
theorem dX4_give_12 : decode cX4_give 12 = .ok (.iload_n 1, 1) := by decide +kernel
theorem dX4_give_13 : decode cX4_give 13 = .ok (.iconst 1, 1) := by decide +kernel
theorem dX4_give_14 : decode cX4_give 14 = .ok (.invokevirtual 105, 3) := by decide +kernel
theorem dX4_give_17 : decode cX4_give 17 = .ok (.return_, 1) := by decide +kernel
theorem dX4_heirOf_0 : decode cX4_heirOf 0 = .ok (.bipush (-4), 2) := by decide +kernel
theorem dX4_heirOf_2 : decode cX4_heirOf 2 = .ok (.istore_n 2, 1) := by decide +kernel
theorem dX4_heirOf_3 : decode cX4_heirOf 3 = .ok (.bipush (-5), 2) := by decide +kernel
theorem dX4_heirOf_5 : decode cX4_heirOf 5 = .ok (.istore_n 3, 1) := by decide +kernel
theorem dX4_heirOf_6 : decode cX4_heirOf 6 = .ok (.iconst 0, 1) := by decide +kernel
theorem dX4_heirOf_7 : decode cX4_heirOf 7 = .ok (.istore 4, 2) := by decide +kernel
theorem dX4_heirOf_9 : decode cX4_heirOf 9 = .ok (.iload 4, 2) := by decide +kernel
theorem dX4_heirOf_11 : decode cX4_heirOf 11 = .ok (.aload_n 0, 1) := by decide +kernel
theorem dX4_heirOf_12 : decode cX4_heirOf 12 = .ok (.getfield 27, 3) := by decide +kernel
theorem dX4_heirOf_15 : decode cX4_heirOf 15 = .ok (.if_icmp .ge 46, 3) := by decide +kernel
theorem dX4_heirOf_18 : decode cX4_heirOf 18 = .ok (.iload 4, 2) := by decide +kernel
theorem dX4_heirOf_20 : decode cX4_heirOf 20 = .ok (.iload_n 1, 1) := by decide +kernel
theorem dX4_heirOf_21 : decode cX4_heirOf 21 = .ok (.if_icmp .eq 34, 3) := by decide +kernel
theorem dX4_heirOf_24 : decode cX4_heirOf 24 = .ok (.aload_n 0, 1) := by decide +kernel
theorem dX4_heirOf_25 : decode cX4_heirOf 25 = .ok (.iload 4, 2) := by decide +kernel
theorem dX4_heirOf_27 : decode cX4_heirOf 27 = .ok (.invokevirtual 71, 3) := by decide +kernel
theorem dX4_heirOf_30 : decode cX4_heirOf 30 = .ok (.ifCond .eq 25, 3) := by decide +kernel
theorem dX4_heirOf_33 : decode cX4_heirOf 33 = .ok (.aload_n 0, 1) := by decide +kernel
theorem dX4_heirOf_34 : decode cX4_heirOf 34 = .ok (.iload_n 1, 1) := by decide +kernel
theorem dX4_heirOf_35 : decode cX4_heirOf 35 = .ok (.iload 4, 2) := by decide +kernel
theorem dX4_heirOf_37 : decode cX4_heirOf 37 = .ok (.invokevirtual 77, 3) := by decide +kernel
theorem dX4_heirOf_40 : decode cX4_heirOf 40 = .ok (.iload_n 3, 1) := by decide +kernel
theorem dX4_heirOf_41 : decode cX4_heirOf 41 = .ok (.if_icmp .le 14, 3) := by decide +kernel
theorem dX4_heirOf_44 : decode cX4_heirOf 44 = .ok (.aload_n 0, 1) := by decide +kernel
theorem dX4_heirOf_45 : decode cX4_heirOf 45 = .ok (.iload_n 1, 1) := by decide +kernel
theorem dX4_heirOf_46 : decode cX4_heirOf 46 = .ok (.iload 4, 2) := by decide +kernel
theorem dX4_heirOf_48 : decode cX4_heirOf 48 = .ok (.invokevirtual 77, 3) := by decide +kernel
theorem dX4_heirOf_51 : decode cX4_heirOf 51 = .ok (.istore_n 3, 1) := by decide +kernel
theorem dX4_heirOf_52 : decode cX4_heirOf 52 = .ok (.iload 4, 2) := by decide +kernel
theorem dX4_heirOf_54 : decode cX4_heirOf 54 = .ok (.istore_n 2, 1) := by decide +kernel
theorem dX4_heirOf_55 : decode cX4_heirOf 55 = .ok (.iinc 4 1, 3) := by decide +kernel
theorem dX4_heirOf_58 : decode cX4_heirOf 58 = .ok (.goto (-49), 3) := by decide +kernel
theorem dX4_heirOf_61 : decode cX4_heirOf 61 = .ok (.iload_n 2, 1) := by decide +kernel
theorem dX4_heirOf_62 : decode cX4_heirOf 62 = .ok (.ireturn, 1) := by decide +kernel
theorem dX4_bury_0 : decode cX4_bury 0 = .ok (.aload_n 0, 1) := by decide +kernel
theorem dX4_bury_1 : decode cX4_bury 1 = .ok (.iload_n 1, 1) := by decide +kernel
theorem dX4_bury_2 : decode cX4_bury 2 = .ok (.invokevirtual 124, 3) := by decide +kernel
theorem dX4_bury_5 : decode cX4_bury 5 = .ok (.istore_n 2, 1) := by decide +kernel
theorem dX4_bury_6 : decode cX4_bury 6 = .ok (.iload_n 2, 1) := by decide +kernel
theorem dX4_bury_7 : decode cX4_bury 7 = .ok (.ifCond .lt 9, 3) := by decide +kernel
theorem dX4_bury_10 : decode cX4_bury 10 = .ok (.aload_n 0, 1) := by decide +kernel
theorem dX4_bury_11 : decode cX4_bury 11 = .ok (.iload_n 1, 1) := by decide +kernel
theorem dX4_bury_12 : decode cX4_bury 12 = .ok (.iload_n 2, 1) := by decide +kernel
theorem dX4_bury_13 : decode cX4_bury 13 = .ok (.invokevirtual 127, 3) := by decide +kernel
theorem dX4_bury_16 : decode cX4_bury 16 = .ok (.aload_n 0, 1) := by decide +kernel
theorem dX4_bury_17 : decode cX4_bury 17 = .ok (.dup, 1) := by decide +kernel
theorem dX4_bury_18 : decode cX4_bury 18 = .ok (.getfield 34, 3) := by decide +kernel
theorem dX4_bury_21 : decode cX4_bury 21 = .ok (.iconst 1, 1) := by decide +kernel
theorem dX4_bury_22 : decode cX4_bury 22 = .ok (.iload_n 1, 1) := by decide +kernel
theorem dX4_bury_23 : decode cX4_bury 23 = .ok (.ishl, 1) := by decide +kernel
theorem dX4_bury_24 : decode cX4_bury 24 = .ok (.ior, 1) := by decide +kernel
theorem dX4_bury_25 : decode cX4_bury 25 = .ok (.putfield 34, 3) := by decide +kernel
theorem dX4_bury_28 : decode cX4_bury 28 = .ok (.aload_n 0, 1) := by decide +kernel
theorem dX4_bury_29 : decode cX4_bury 29 = .ok (.getfield 18, 3) := by decide +kernel
theorem dX4_bury_32 : decode cX4_bury 32 = .ok (.iload_n 1, 1) := by decide +kernel
theorem dX4_bury_33 : decode cX4_bury 33 = .ok (.iconst 0, 1) := by decide +kernel
theorem dX4_bury_34 : decode cX4_bury 34 = .ok (.iastore, 1) := by decide +kernel
theorem dX4_bury_35 : decode cX4_bury 35 = .ok (.iconst 0, 1) := by decide +kernel
theorem dX4_bury_36 : decode cX4_bury 36 = .ok (.istore_n 3, 1) := by decide +kernel
theorem dX4_bury_37 : decode cX4_bury 37 = .ok (.iload_n 3, 1) := by decide +kernel
theorem dX4_bury_38 : decode cX4_bury 38 = .ok (.aload_n 0, 1) := by decide +kernel
theorem dX4_bury_39 : decode cX4_bury 39 = .ok (.getfield 27, 3) := by decide +kernel
theorem dX4_bury_42 : decode cX4_bury 42 = .ok (.if_icmp .ge 33, 3) := by decide +kernel
theorem dX4_bury_45 : decode cX4_bury 45 = .ok (.aload_n 0, 1) := by decide +kernel
theorem dX4_bury_46 : decode cX4_bury 46 = .ok (.getfield 24, 3) := by decide +kernel
theorem dX4_bury_49 : decode cX4_bury 49 = .ok (.aload_n 0, 1) := by decide +kernel
theorem dX4_bury_50 : decode cX4_bury 50 = .ok (.iload_n 3, 1) := by decide +kernel
theorem dX4_bury_51 : decode cX4_bury 51 = .ok (.iload_n 1, 1) := by decide +kernel
theorem dX4_bury_52 : decode cX4_bury 52 = .ok (.invokevirtual 60, 3) := by decide +kernel
theorem dX4_bury_55 : decode cX4_bury 55 = .ok (.iconst 0, 1) := by decide +kernel
theorem dX4_bury_56 : decode cX4_bury 56 = .ok (.iastore, 1) := by decide +kernel
theorem dX4_bury_57 : decode cX4_bury 57 = .ok (.aload_n 0, 1) := by decide +kernel
theorem dX4_bury_58 : decode cX4_bury 58 = .ok (.getfield 24, 3) := by decide +kernel
theorem dX4_bury_61 : decode cX4_bury 61 = .ok (.aload_n 0, 1) := by decide +kernel
theorem dX4_bury_62 : decode cX4_bury 62 = .ok (.iload_n 1, 1) := by decide +kernel
theorem dX4_bury_63 : decode cX4_bury 63 = .ok (.iload_n 3, 1) := by decide +kernel
theorem dX4_bury_64 : decode cX4_bury 64 = .ok (.invokevirtual 60, 3) := by decide +kernel
theorem dX4_bury_67 : decode cX4_bury 67 = .ok (.iconst 0, 1) := by decide +kernel
theorem dX4_bury_68 : decode cX4_bury 68 = .ok (.iastore, 1) := by decide +kernel
theorem dX4_bury_69 : decode cX4_bury 69 = .ok (.iinc 3 1, 3) := by decide +kernel
theorem dX4_bury_72 : decode cX4_bury 72 = .ok (.goto (-35), 3) := by decide +kernel
theorem dX4_bury_75 : decode cX4_bury 75 = .ok (.iload_n 2, 1) := by decide +kernel
theorem dX4_bury_76 : decode cX4_bury 76 = .ok (.ireturn, 1) := by decide +kernel
theorem dX4_bequeath_0 : decode cX4_bequeath 0 = .ok (.aload_n 0, 1) := by decide +kernel
theorem dX4_bequeath_1 : decode cX4_bequeath 1 = .ok (.iload_n 2, 1) := by decide +kernel
theorem dX4_bequeath_2 : decode cX4_bequeath 2 = .ok (.aload_n 0, 1) := by decide +kernel
theorem dX4_bequeath_3 : decode cX4_bequeath 3 = .ok (.getfield 18, 3) := by decide +kernel
theorem dX4_bequeath_6 : decode cX4_bequeath 6 = .ok (.iload_n 1, 1) := by decide +kernel
theorem dX4_bequeath_7 : decode cX4_bequeath 7 = .ok (.iaload, 1) := by decide +kernel
theorem dX4_bequeath_8 : decode cX4_bequeath 8 = .ok (.invokevirtual 120, 3) := by decide +kernel
theorem dX4_bequeath_11 : decode cX4_bequeath 11 = .ok (.iconst 0, 1) := by decide +kernel
theorem dX4_bequeath_12 : decode cX4_bequeath 12 = .ok (.istore_n 3, 1) := by decide +kernel
theorem dX4_bequeath_13 : decode cX4_bequeath 13 = .ok (.iload_n 3, 1) := by decide +kernel
theorem dX4_bequeath_14 : decode cX4_bequeath 14 = .ok (.aload_n 0, 1) := by decide +kernel
theorem dX4_bequeath_15 : decode cX4_bequeath 15 = .ok (.getfield 27, 3) := by decide +kernel
theorem dX4_bequeath_18 : decode cX4_bequeath 18 = .ok (.if_icmp .ge 34, 3) := by decide +kernel
theorem dX4_bequeath_21 : decode cX4_bequeath 21 = .ok (.iload_n 3, 1) := by decide +kernel
theorem dX4_bequeath_22 : decode cX4_bequeath 22 = .ok (.iload_n 2, 1) := by decide +kernel
theorem dX4_bequeath_23 : decode cX4_bequeath 23 = .ok (.if_icmp .eq 23, 3) := by decide +kernel
theorem dX4_bequeath_26 : decode cX4_bequeath 26 = .ok (.aload_n 0, 1) := by decide +kernel
theorem dX4_bequeath_27 : decode cX4_bequeath 27 = .ok (.getfield 24, 3) := by decide +kernel
theorem dX4_bequeath_30 : decode cX4_bequeath 30 = .ok (.aload_n 0, 1) := by decide +kernel
theorem dX4_bequeath_31 : decode cX4_bequeath 31 = .ok (.iload_n 3, 1) := by decide +kernel
theorem dX4_bequeath_32 : decode cX4_bequeath 32 = .ok (.iload_n 2, 1) := by decide +kernel
theorem dX4_bequeath_33 : decode cX4_bequeath 33 = .ok (.invokevirtual 60, 3) := by decide +kernel
theorem dX4_bequeath_36 : decode cX4_bequeath 36 = .ok (.dup2, 1) := by decide +kernel
theorem dX4_bequeath_37 : decode cX4_bequeath 37 = .ok (.iaload, 1) := by decide +kernel
theorem dX4_bequeath_38 : decode cX4_bequeath 38 = .ok (.aload_n 0, 1) := by decide +kernel
theorem dX4_bequeath_39 : decode cX4_bequeath 39 = .ok (.iload_n 3, 1) := by decide +kernel
theorem dX4_bequeath_40 : decode cX4_bequeath 40 = .ok (.iload_n 1, 1) := by decide +kernel
theorem dX4_bequeath_41 : decode cX4_bequeath 41 = .ok (.invokevirtual 74, 3) := by decide +kernel
theorem dX4_bequeath_44 : decode cX4_bequeath 44 = .ok (.iadd, 1) := by decide +kernel
theorem dX4_bequeath_45 : decode cX4_bequeath 45 = .ok (.iastore, 1) := by decide +kernel
theorem dX4_bequeath_46 : decode cX4_bequeath 46 = .ok (.iinc 3 1, 3) := by decide +kernel
theorem dX4_bequeath_49 : decode cX4_bequeath 49 = .ok (.goto (-36), 3) := by decide +kernel
theorem dX4_bequeath_52 : decode cX4_bequeath 52 = .ok (.return_, 1) := by decide +kernel
theorem dX4_letDaysGoBy_0 : decode cX4_letDaysGoBy 0 = .ok (.aload_n 0, 1) := by decide +kernel
theorem dX4_letDaysGoBy_1 : decode cX4_letDaysGoBy 1 = .ok (.dup, 1) := by decide +kernel
theorem dX4_letDaysGoBy_2 : decode cX4_letDaysGoBy 2 = .ok (.getfield 40, 3) := by decide +kernel
theorem dX4_letDaysGoBy_5 : decode cX4_letDaysGoBy 5 = .ok (.iload_n 1, 1) := by decide +kernel
theorem dX4_letDaysGoBy_6 : decode cX4_letDaysGoBy 6 = .ok (.iadd, 1) := by decide +kernel
theorem dX4_letDaysGoBy_7 : decode cX4_letDaysGoBy 7 = .ok (.putfield 40, 3) := by decide +kernel
theorem dX4_letDaysGoBy_10 : decode cX4_letDaysGoBy 10 = .ok (.aload_n 0, 1) := by decide +kernel
theorem dX4_letDaysGoBy_11 : decode cX4_letDaysGoBy 11 = .ok (.iconst 0, 1) := by decide +kernel
theorem dX4_letDaysGoBy_12 : decode cX4_letDaysGoBy 12 = .ok (.putfield 43, 3) := by decide +kernel
theorem dX4_letDaysGoBy_15 : decode cX4_letDaysGoBy 15 = .ok (.return_, 1) := by decide +kernel
theorem dX4_liveOneDay_0 : decode cX4_liveOneDay 0 = .ok (.aload_n 0, 1) := by decide +kernel
theorem dX4_liveOneDay_1 : decode cX4_liveOneDay 1 = .ok (.getfield 27, 3) := by decide +kernel
theorem dX4_liveOneDay_4 : decode cX4_liveOneDay 4 = .ok (.iconst 1, 1) := by decide +kernel
theorem dX4_liveOneDay_5 : decode cX4_liveOneDay 5 = .ok (.if_icmp .ge 5, 3) := by decide +kernel
theorem dX4_liveOneDay_8 : decode cX4_liveOneDay 8 = .ok (.iconst 0, 1) := by decide +kernel
theorem dX4_liveOneDay_9 : decode cX4_liveOneDay 9 = .ok (.ireturn, 1) := by decide +kernel
theorem dX4_liveOneDay_10 : decode cX4_liveOneDay 10 = .ok (.iload_n 1, 1) := by decide +kernel
theorem dX4_liveOneDay_11 : decode cX4_liveOneDay 11 = .ok (.aload_n 0, 1) := by decide +kernel
theorem dX4_liveOneDay_12 : decode cX4_liveOneDay 12 = .ok (.getfield 27, 3) := by decide +kernel
theorem dX4_liveOneDay_15 : decode cX4_liveOneDay 15 = .ok (.irem, 1) := by decide +kernel
theorem dX4_liveOneDay_16 : decode cX4_liveOneDay 16 = .ok (.istore_n 2, 1) := by decide +kernel
theorem dX4_liveOneDay_17 : decode cX4_liveOneDay 17 = .ok (.iload_n 1, 1) := by decide +kernel
theorem dX4_liveOneDay_18 : decode cX4_liveOneDay 18 = .ok (.bipush 8, 2) := by decide +kernel
theorem dX4_liveOneDay_20 : decode cX4_liveOneDay 20 = .ok (.idiv, 1) := by decide +kernel
theorem dX4_liveOneDay_21 : decode cX4_liveOneDay 21 = .ok (.iconst 4, 1) := by decide +kernel
theorem dX4_liveOneDay_22 : decode cX4_liveOneDay 22 = .ok (.irem, 1) := by decide +kernel
theorem dX4_liveOneDay_23 : decode cX4_liveOneDay 23 = .ok (.istore_n 3, 1) := by decide +kernel
theorem dX4_liveOneDay_24 : decode cX4_liveOneDay 24 = .ok (.iload_n 1, 1) := by decide +kernel
theorem dX4_liveOneDay_25 : decode cX4_liveOneDay 25 = .ok (.bipush 32, 2) := by decide +kernel
theorem dX4_liveOneDay_27 : decode cX4_liveOneDay 27 = .ok (.idiv, 1) := by decide +kernel
theorem dX4_liveOneDay_28 : decode cX4_liveOneDay 28 = .ok (.iconst 4, 1) := by decide +kernel
theorem dX4_liveOneDay_29 : decode cX4_liveOneDay 29 = .ok (.irem, 1) := by decide +kernel
theorem dX4_liveOneDay_30 : decode cX4_liveOneDay 30 = .ok (.istore 4, 2) := by decide +kernel
theorem dX4_liveOneDay_32 : decode cX4_liveOneDay 32 = .ok (.iload_n 1, 1) := by decide +kernel
theorem dX4_liveOneDay_33 : decode cX4_liveOneDay 33 = .ok (.sipush 128, 3) := by decide +kernel
theorem dX4_liveOneDay_36 : decode cX4_liveOneDay 36 = .ok (.idiv, 1) := by decide +kernel
theorem dX4_liveOneDay_37 : decode cX4_liveOneDay 37 = .ok (.aload_n 0, 1) := by decide +kernel
theorem dX4_liveOneDay_38 : decode cX4_liveOneDay 38 = .ok (.getfield 27, 3) := by decide +kernel
theorem dX4_liveOneDay_41 : decode cX4_liveOneDay 41 = .ok (.irem, 1) := by decide +kernel
theorem dX4_liveOneDay_42 : decode cX4_liveOneDay 42 = .ok (.istore 5, 2) := by decide +kernel
theorem dX4_liveOneDay_44 : decode cX4_liveOneDay 44 = .ok (.iconst 0, 1) := by decide +kernel
theorem dX4_liveOneDay_45 : decode cX4_liveOneDay 45 = .ok (.istore 6, 2) := by decide +kernel
theorem dX4_liveOneDay_47 : decode cX4_liveOneDay 47 = .ok (.aload_n 0, 1) := by decide +kernel
theorem dX4_liveOneDay_48 : decode cX4_liveOneDay 48 = .ok (.iload_n 2, 1) := by decide +kernel
theorem dX4_liveOneDay_49 : decode cX4_liveOneDay 49 = .ok (.iload_n 3, 1) := by decide +kernel
theorem dX4_liveOneDay_50 : decode cX4_liveOneDay 50 = .ok (.iload 4, 2) := by decide +kernel
theorem dX4_liveOneDay_52 : decode cX4_liveOneDay 52 = .ok (.invokevirtual 130, 3) := by decide +kernel
theorem dX4_liveOneDay_55 : decode cX4_liveOneDay 55 = .ok (.ifCond .eq 19, 3) := by decide +kernel
theorem dX4_liveOneDay_58 : decode cX4_liveOneDay 58 = .ok (.aload_n 0, 1) := by decide +kernel
theorem dX4_liveOneDay_59 : decode cX4_liveOneDay 59 = .ok (.iload_n 2, 1) := by decide +kernel
theorem dX4_liveOneDay_60 : decode cX4_liveOneDay 60 = .ok (.iload_n 3, 1) := by decide +kernel
theorem dX4_liveOneDay_61 : decode cX4_liveOneDay 61 = .ok (.iload 4, 2) := by decide +kernel
theorem dX4_liveOneDay_63 : decode cX4_liveOneDay 63 = .ok (.invokevirtual 134, 3) := by decide +kernel
theorem dX4_liveOneDay_66 : decode cX4_liveOneDay 66 = .ok (.invokestatic 137, 3) := by decide +kernel
theorem dX4_liveOneDay_69 : decode cX4_liveOneDay 69 = .ok (.istore 6, 2) := by decide +kernel
theorem dX4_liveOneDay_71 : decode cX4_liveOneDay 71 = .ok (.goto 26, 3) := by decide +kernel
theorem dX4_liveOneDay_74 : decode cX4_liveOneDay 74 = .ok (.iload_n 2, 1) := by decide +kernel
theorem dX4_liveOneDay_75 : decode cX4_liveOneDay 75 = .ok (.iload 5, 2) := by decide +kernel
theorem dX4_liveOneDay_77 : decode cX4_liveOneDay 77 = .ok (.if_icmp .eq 20, 3) := by decide +kernel
theorem dX4_liveOneDay_80 : decode cX4_liveOneDay 80 = .ok (.aload_n 0, 1) := by decide +kernel
theorem dX4_liveOneDay_81 : decode cX4_liveOneDay 81 = .ok (.iload_n 2, 1) := by decide +kernel
theorem dX4_liveOneDay_82 : decode cX4_liveOneDay 82 = .ok (.iload 5, 2) := by decide +kernel
theorem dX4_liveOneDay_84 : decode cX4_liveOneDay 84 = .ok (.invokevirtual 142, 3) := by decide +kernel
theorem dX4_liveOneDay_87 : decode cX4_liveOneDay 87 = .ok (.ifCond .eq 10, 3) := by decide +kernel
theorem dX4_liveOneDay_90 : decode cX4_liveOneDay 90 = .ok (.aload_n 0, 1) := by decide +kernel
theorem dX4_liveOneDay_91 : decode cX4_liveOneDay 91 = .ok (.iload_n 2, 1) := by decide +kernel
theorem dX4_liveOneDay_92 : decode cX4_liveOneDay 92 = .ok (.iload 5, 2) := by decide +kernel
theorem dX4_liveOneDay_94 : decode cX4_liveOneDay 94 = .ok (.invokevirtual 145, 3) := by decide +kernel
theorem dX4_liveOneDay_97 : decode cX4_liveOneDay 97 = .ok (.aload_n 0, 1) := by decide +kernel
theorem dX4_liveOneDay_98 : decode cX4_liveOneDay 98 = .ok (.iconst 1, 1) := by decide +kernel
theorem dX4_liveOneDay_99 : decode cX4_liveOneDay 99 = .ok (.invokevirtual 148, 3) := by decide +kernel
theorem dX4_liveOneDay_102 : decode cX4_liveOneDay 102 = .ok (.iload 6, 2) := by decide +kernel
theorem dX4_liveOneDay_104 : decode cX4_liveOneDay 104 = .ok (.ireturn, 1) := by decide +kernel
theorem dX4_gainOf_0 : decode cX4_gainOf 0 = .ok (.iconst 3, 1) := by decide +kernel
theorem dX4_gainOf_1 : decode cX4_gainOf 1 = .ok (.aload_n 0, 1) := by decide +kernel
theorem dX4_gainOf_2 : decode cX4_gainOf 2 = .ok (.iload_n 2, 1) := by decide +kernel
theorem dX4_gainOf_3 : decode cX4_gainOf 3 = .ok (.iload_n 1, 1) := by decide +kernel
theorem dX4_gainOf_4 : decode cX4_gainOf 4 = .ok (.invokevirtual 77, 3) := by decide +kernel
theorem dX4_gainOf_7 : decode cX4_gainOf 7 = .ok (.imul, 1) := by decide +kernel
theorem dX4_gainOf_8 : decode cX4_gainOf 8 = .ok (.aload_n 0, 1) := by decide +kernel
theorem dX4_gainOf_9 : decode cX4_gainOf 9 = .ok (.getfield 18, 3) := by decide +kernel
theorem dX4_gainOf_12 : decode cX4_gainOf 12 = .ok (.iload_n 1, 1) := by decide +kernel
theorem dX4_gainOf_13 : decode cX4_gainOf 13 = .ok (.iaload, 1) := by decide +kernel
theorem dX4_gainOf_14 : decode cX4_gainOf 14 = .ok (.iadd, 1) := by decide +kernel
theorem dX4_gainOf_15 : decode cX4_gainOf 15 = .ok (.ireturn, 1) := by decide +kernel
theorem dX5_init_0 : decode cX5_init 0 = .ok (.aload_n 0, 1) := by decide +kernel
theorem dX5_init_1 : decode cX5_init 1 = .ok (.invokespecial 1, 3) := by decide +kernel
theorem dX5_init_4 : decode cX5_init 4 = .ok (.aload_n 0, 1) := by decide +kernel
theorem dX5_init_5 : decode cX5_init 5 = .ok (.new 7, 3) := by decide +kernel
theorem dX5_init_8 : decode cX5_init 8 = .ok (.dup, 1) := by decide +kernel
theorem dX5_init_9 : decode cX5_init 9 = .ok (.invokespecial 9, 3) := by decide +kernel
theorem dX5_init_12 : decode cX5_init 12 = .ok (.putfield 10, 3) := by decide +kernel
theorem dX5_init_15 : decode cX5_init 15 = .ok (.aload_n 0, 1) := by decide +kernel
theorem dX5_init_16 : decode cX5_init 16 = .ok (.new 16, 3) := by decide +kernel
theorem dX5_init_19 : decode cX5_init 19 = .ok (.dup, 1) := by decide +kernel
theorem dX5_init_20 : decode cX5_init 20 = .ok (.invokespecial 18, 3) := by decide +kernel
theorem dX5_init_23 : decode cX5_init 23 = .ok (.putfield 19, 3) := by decide +kernel
theorem dX5_init_26 : decode cX5_init 26 = .ok (.aload_n 0, 1) := by decide +kernel
theorem dX5_init_27 : decode cX5_init 27 = .ok (.new 16, 3) := by decide +kernel
theorem dX5_init_30 : decode cX5_init 30 = .ok (.dup, 1) := by decide +kernel
theorem dX5_init_31 : decode cX5_init 31 = .ok (.invokespecial 18, 3) := by decide +kernel
theorem dX5_init_34 : decode cX5_init 34 = .ok (.putfield 23, 3) := by decide +kernel
theorem dX5_init_37 : decode cX5_init 37 = .ok (.aload_n 0, 1) := by decide +kernel
theorem dX5_init_38 : decode cX5_init 38 = .ok (.new 26, 3) := by decide +kernel
theorem dX5_init_41 : decode cX5_init 41 = .ok (.dup, 1) := by decide +kernel
theorem dX5_init_42 : decode cX5_init 42 = .ok (.bipush 8, 2) := by decide +kernel
theorem dX5_init_44 : decode cX5_init 44 = .ok (.invokespecial 28, 3) := by decide +kernel
theorem dX5_init_47 : decode cX5_init 47 = .ok (.putfield 31, 3) := by decide +kernel
theorem dX5_init_50 : decode cX5_init 50 = .ok (.aload_n 0, 1) := by decide +kernel
theorem dX5_init_51 : decode cX5_init 51 = .ok (.new 26, 3) := by decide +kernel
theorem dX5_init_54 : decode cX5_init 54 = .ok (.dup, 1) := by decide +kernel
theorem dX5_init_55 : decode cX5_init 55 = .ok (.iconst 2, 1) := by decide +kernel
theorem dX5_init_56 : decode cX5_init 56 = .ok (.invokespecial 28, 3) := by decide +kernel
theorem dX5_init_59 : decode cX5_init 59 = .ok (.putfield 35, 3) := by decide +kernel
theorem dX5_init_62 : decode cX5_init 62 = .ok (.aload_n 0, 1) := by decide +kernel
theorem dX5_init_63 : decode cX5_init 63 = .ok (.new 38, 3) := by decide +kernel
theorem dX5_init_66 : decode cX5_init 66 = .ok (.dup, 1) := by decide +kernel
theorem dX5_init_67 : decode cX5_init 67 = .ok (.invokespecial 40, 3) := by decide +kernel
theorem dX5_init_70 : decode cX5_init 70 = .ok (.putfield 41, 3) := by decide +kernel
theorem dX5_init_73 : decode cX5_init 73 = .ok (.aload_n 0, 1) := by decide +kernel
theorem dX5_init_74 : decode cX5_init 74 = .ok (.new 45, 3) := by decide +kernel
theorem dX5_init_77 : decode cX5_init 77 = .ok (.dup, 1) := by decide +kernel
theorem dX5_init_78 : decode cX5_init 78 = .ok (.invokespecial 47, 3) := by decide +kernel
theorem dX5_init_81 : decode cX5_init 81 = .ok (.putfield 48, 3) := by decide +kernel
theorem dX5_init_84 : decode cX5_init 84 = .ok (.iconst 0, 1) := by decide +kernel
theorem dX5_init_85 : decode cX5_init 85 = .ok (.istore_n 1, 1) := by decide +kernel
theorem dX5_init_86 : decode cX5_init 86 = .ok (.iload_n 1, 1) := by decide +kernel
theorem dX5_init_87 : decode cX5_init 87 = .ok (.ldc 52, 2) := by decide +kernel
theorem dX5_init_89 : decode cX5_init 89 = .ok (.invokevirtual 54, 3) := by decide +kernel
theorem dX5_init_92 : decode cX5_init 92 = .ok (.if_icmp .ge 22, 3) := by decide +kernel
theorem dX5_init_95 : decode cX5_init 95 = .ok (.aload_n 0, 1) := by decide +kernel
theorem dX5_init_96 : decode cX5_init 96 = .ok (.getfield 10, 3) := by decide +kernel
theorem dX5_init_99 : decode cX5_init 99 = .ok (.ldc 52, 2) := by decide +kernel
theorem dX5_init_101 : decode cX5_init 101 = .ok (.iload_n 1, 1) := by decide +kernel
theorem dX5_init_102 : decode cX5_init 102 = .ok (.invokevirtual 60, 3) := by decide +kernel
theorem dX5_init_105 : decode cX5_init 105 = .ok (.invokevirtual 64, 3) := by decide +kernel
theorem dX5_init_108 : decode cX5_init 108 = .ok (.iinc 1 1, 3) := by decide +kernel
theorem dX5_init_111 : decode cX5_init 111 = .ok (.goto (-25), 3) := by decide +kernel
theorem dX5_init_114 : decode cX5_init 114 = .ok (.aload_n 0, 1) := by decide +kernel
theorem dX5_init_115 : decode cX5_init 115 = .ok (.getfield 10, 3) := by decide +kernel
theorem dX5_init_118 : decode cX5_init 118 = .ok (.aload_n 0, 1) := by decide +kernel
theorem dX5_init_119 : decode cX5_init 119 = .ok (.getfield 19, 3) := by decide +kernel
theorem dX5_init_122 : decode cX5_init 122 = .ok (.invokevirtual 68, 3) := by decide +kernel
theorem dX5_init_125 : decode cX5_init 125 = .ok (.pop, 1) := by decide +kernel
theorem dX5_init_126 : decode cX5_init 126 = .ok (.aload_n 0, 1) := by decide +kernel
theorem dX5_init_127 : decode cX5_init 127 = .ok (.getfield 10, 3) := by decide +kernel
theorem dX5_init_130 : decode cX5_init 130 = .ok (.invokevirtual 72, 3) := by decide +kernel
theorem dX5_init_133 : decode cX5_init 133 = .ok (.return_, 1) := by decide +kernel
theorem dX5_write_0 : decode cX5_write 0 = .ok (.iload_n 1, 1) := by decide +kernel
theorem dX5_write_1 : decode cX5_write 1 = .ok (.bipush 32, 2) := by decide +kernel
theorem dX5_write_3 : decode cX5_write 3 = .ok (.bipush 126, 2) := by decide +kernel
theorem dX5_write_5 : decode cX5_write 5 = .ok (.invokestatic 75, 3) := by decide +kernel
theorem dX5_write_8 : decode cX5_write 8 = .ok (.ifCond .ne 5, 3) := by decide +kernel
theorem dX5_write_11 : decode cX5_write 11 = .ok (.iconst (-1), 1) := by decide +kernel
theorem dX5_write_12 : decode cX5_write 12 = .ok (.ireturn, 1) := by decide +kernel
theorem dX5_write_13 : decode cX5_write 13 = .ok (.aload_n 0, 1) := by decide +kernel
theorem dX5_write_14 : decode cX5_write 14 = .ok (.getfield 10, 3) := by decide +kernel
theorem dX5_write_17 : decode cX5_write 17 = .ok (.invokevirtual 79, 3) := by decide +kernel
theorem dX5_write_20 : decode cX5_write 20 = .ok (.ifCond .eq 6, 3) := by decide +kernel
theorem dX5_write_23 : decode cX5_write 23 = .ok (.bipush (-3), 2) := by decide +kernel
theorem dX5_write_25 : decode cX5_write 25 = .ok (.ireturn, 1) := by decide +kernel
theorem dX5_write_26 : decode cX5_write 26 = .ok (.aload_n 0, 1) := by decide +kernel
theorem dX5_write_27 : decode cX5_write 27 = .ok (.getfield 10, 3) := by decide +kernel
theorem dX5_write_30 : decode cX5_write 30 = .ok (.iload_n 1, 1) := by decide +kernel
theorem dX5_write_31 : decode cX5_write 31 = .ok (.i2c, 1) := by decide +kernel
theorem dX5_write_32 : decode cX5_write 32 = .ok (.invokevirtual 64, 3) := by decide +kernel
theorem dX5_write_35 : decode cX5_write 35 = .ok (.aload_n 0, 1) := by decide +kernel
theorem dX5_write_36 : decode cX5_write 36 = .ok (.getfield 10, 3) := by decide +kernel
theorem dX5_write_39 : decode cX5_write 39 = .ok (.getfield 83, 3) := by decide +kernel
theorem dX5_write_42 : decode cX5_write 42 = .ok (.ireturn, 1) := by decide +kernel
theorem dX5_wipe_0 : decode cX5_wipe 0 = .ok (.aload_n 0, 1) := by decide +kernel
theorem dX5_wipe_1 : decode cX5_wipe 1 = .ok (.getfield 10, 3) := by decide +kernel
theorem dX5_wipe_4 : decode cX5_wipe 4 = .ok (.getfield 83, 3) := by decide +kernel
theorem dX5_wipe_7 : decode cX5_wipe 7 = .ok (.istore_n 1, 1) := by decide +kernel
theorem dX5_wipe_8 : decode cX5_wipe 8 = .ok (.aload_n 0, 1) := by decide +kernel
theorem dX5_wipe_9 : decode cX5_wipe 9 = .ok (.getfield 10, 3) := by decide +kernel
theorem dX5_wipe_12 : decode cX5_wipe 12 = .ok (.invokevirtual 72, 3) := by decide +kernel
theorem dX5_wipe_15 : decode cX5_wipe 15 = .ok (.iload_n 1, 1) := by decide +kernel
theorem dX5_wipe_16 : decode cX5_wipe 16 = .ok (.ireturn, 1) := by decide +kernel
theorem dX5_fault_0 : decode cX5_fault 0 = .ok (.aload_n 0, 1) := by decide +kernel
theorem dX5_fault_1 : decode cX5_fault 1 = .ok (.getfield 10, 3) := by decide +kernel
theorem dX5_fault_4 : decode cX5_fault 4 = .ok (.aload_n 0, 1) := by decide +kernel
theorem dX5_fault_5 : decode cX5_fault 5 = .ok (.getfield 23, 3) := by decide +kernel
theorem dX5_fault_8 : decode cX5_fault 8 = .ok (.invokevirtual 68, 3) := by decide +kernel
theorem dX5_fault_11 : decode cX5_fault 11 = .ok (.ireturn, 1) := by decide +kernel
theorem dX5_lay_0 : decode cX5_lay 0 = .ok (.aload_n 0, 1) := by decide +kernel
theorem dX5_lay_1 : decode cX5_lay 1 = .ok (.getfield 10, 3) := by decide +kernel
theorem dX5_lay_4 : decode cX5_lay 4 = .ok (.aload_n 0, 1) := by decide +kernel
theorem dX5_lay_5 : decode cX5_lay 5 = .ok (.getfield 23, 3) := by decide +kernel
theorem dX5_lay_8 : decode cX5_lay 8 = .ok (.invokevirtual 68, 3) := by decide +kernel
theorem dX5_lay_11 : decode cX5_lay 11 = .ok (.bipush (-4), 2) := by decide +kernel
theorem dX5_lay_13 : decode cX5_lay 13 = .ok (.if_icmp .ne 14, 3) := by decide +kernel
theorem dX5_lay_16 : decode cX5_lay 16 = .ok (.aload_n 0, 1) := by decide +kernel
theorem dX5_lay_17 : decode cX5_lay 17 = .ok (.getfield 23, 3) := by decide +kernel
theorem dX5_lay_20 : decode cX5_lay 20 = .ok (.getfield 86, 3) := by decide +kernel
theorem dX5_lay_23 : decode cX5_lay 23 = .ok (.iconst 1, 1) := by decide +kernel
theorem dX5_lay_24 : decode cX5_lay 24 = .ok (.if_icmp .ge 6, 3) := by decide +kernel
theorem dX5_lay_27 : decode cX5_lay 27 = .ok (.bipush (-2), 2) := by decide +kernel
theorem dX5_lay_29 : decode cX5_lay 29 = .ok (.ireturn, 1) := by decide +kernel
theorem dX5_lay_30 : decode cX5_lay 30 = .ok (.aload_n 0, 1) := by decide +kernel
theorem dX5_lay_31 : decode cX5_lay 31 = .ok (.getfield 19, 3) := by decide +kernel
theorem dX5_lay_34 : decode cX5_lay 34 = .ok (.aload_n 0, 1) := by decide +kernel
theorem dX5_lay_35 : decode cX5_lay 35 = .ok (.getfield 23, 3) := by decide +kernel
theorem dX5_lay_38 : decode cX5_lay 38 = .ok (.invokevirtual 89, 3) := by decide +kernel
theorem dX5_lay_41 : decode cX5_lay 41 = .ok (.aload_n 0, 1) := by decide +kernel
theorem dX5_lay_42 : decode cX5_lay 42 = .ok (.getfield 31, 3) := by decide +kernel
theorem dX5_lay_45 : decode cX5_lay 45 = .ok (.invokevirtual 93, 3) := by decide +kernel
theorem dX5_lay_48 : decode cX5_lay 48 = .ok (.aload_n 0, 1) := by decide +kernel
theorem dX5_lay_49 : decode cX5_lay 49 = .ok (.getfield 35, 3) := by decide +kernel
theorem dX5_lay_52 : decode cX5_lay 52 = .ok (.invokevirtual 93, 3) := by decide +kernel
theorem dX5_lay_55 : decode cX5_lay 55 = .ok (.aload_n 0, 1) := by decide +kernel
theorem dX5_lay_56 : decode cX5_lay 56 = .ok (.getfield 41, 3) := by decide +kernel
theorem dX5_lay_59 : decode cX5_lay 59 = .ok (.iconst 0, 1) := by decide +kernel
theorem dX5_lay_60 : decode cX5_lay 60 = .ok (.putfield 94, 3) := by decide +kernel
theorem dX5_lay_63 : decode cX5_lay 63 = .ok (.aload_n 0, 1) := by decide +kernel
theorem dX5_lay_64 : decode cX5_lay 64 = .ok (.getfield 19, 3) := by decide +kernel
theorem dX5_lay_67 : decode cX5_lay 67 = .ok (.getfield 86, 3) := by decide +kernel
theorem dX5_lay_70 : decode cX5_lay 70 = .ok (.ireturn, 1) := by decide +kernel
theorem dX5_person_0 : decode cX5_person 0 = .ok (.aload_n 0, 1) := by decide +kernel
theorem dX5_person_1 : decode cX5_person 1 = .ok (.getfield 19, 3) := by decide +kernel
theorem dX5_person_4 : decode cX5_person 4 = .ok (.iload_n 1, 1) := by decide +kernel
theorem dX5_person_5 : decode cX5_person 5 = .ok (.invokevirtual 97, 3) := by decide +kernel
theorem dX5_person_8 : decode cX5_person 8 = .ok (.ifCond .eq 12, 3) := by decide +kernel
theorem dX5_person_11 : decode cX5_person 11 = .ok (.iload_n 2, 1) := by decide +kernel
theorem dX5_person_12 : decode cX5_person 12 = .ok (.iconst 0, 1) := by decide +kernel
theorem dX5_person_13 : decode cX5_person 13 = .ok (.iconst 5, 1) := by decide +kernel
theorem dX5_person_14 : decode cX5_person 14 = .ok (.invokestatic 75, 3) := by decide +kernel
theorem dX5_person_17 : decode cX5_person 17 = .ok (.ifCond .ne 5, 3) := by decide +kernel
theorem dX5_person_20 : decode cX5_person 20 = .ok (.iconst (-1), 1) := by decide +kernel
theorem dX5_person_21 : decode cX5_person 21 = .ok (.ireturn, 1) := by decide +kernel
theorem dX5_person_22 : decode cX5_person 22 = .ok (.iload_n 2, 1) := by decide +kernel
theorem dX5_person_23 : decode cX5_person 23 = .ok (.tableswitch 96 0 4 #[33, 43, 52, 62, 79], 33) := by decide +kernel
theorem dX5_person_56 : decode cX5_person 56 = .ok (.aload_n 0, 1) := by decide +kernel
theorem dX5_person_57 : decode cX5_person 57 = .ok (.getfield 19, 3) := by decide +kernel
theorem dX5_person_60 : decode cX5_person 60 = .ok (.getfield 101, 3) := by decide +kernel
theorem dX5_person_63 : decode cX5_person 63 = .ok (.iload_n 1, 1) := by decide +kernel
theorem dX5_person_64 : decode cX5_person 64 = .ok (.iaload, 1) := by decide +kernel
theorem dX5_person_65 : decode cX5_person 65 = .ok (.ireturn, 1) := by decide +kernel
theorem dX5_person_66 : decode cX5_person 66 = .ok (.aload_n 0, 1) := by decide +kernel
theorem dX5_person_67 : decode cX5_person 67 = .ok (.getfield 19, 3) := by decide +kernel
theorem dX5_person_70 : decode cX5_person 70 = .ok (.iload_n 1, 1) := by decide +kernel
theorem dX5_person_71 : decode cX5_person 71 = .ok (.invokevirtual 105, 3) := by decide +kernel
theorem dX5_person_74 : decode cX5_person 74 = .ok (.ireturn, 1) := by decide +kernel
theorem dX5_person_75 : decode cX5_person 75 = .ok (.aload_n 0, 1) := by decide +kernel
theorem dX5_person_76 : decode cX5_person 76 = .ok (.getfield 19, 3) := by decide +kernel
theorem dX5_person_79 : decode cX5_person 79 = .ok (.getfield 109, 3) := by decide +kernel
theorem dX5_person_82 : decode cX5_person 82 = .ok (.iload_n 1, 1) := by decide +kernel
theorem dX5_person_83 : decode cX5_person 83 = .ok (.iaload, 1) := by decide +kernel
theorem dX5_person_84 : decode cX5_person 84 = .ok (.ireturn, 1) := by decide +kernel
theorem dX5_person_85 : decode cX5_person 85 = .ok (.aload_n 0, 1) := by decide +kernel
theorem dX5_person_86 : decode cX5_person 86 = .ok (.getfield 19, 3) := by decide +kernel
theorem dX5_person_89 : decode cX5_person 89 = .ok (.iload_n 1, 1) := by decide +kernel
theorem dX5_person_90 : decode cX5_person 90 = .ok (.invokevirtual 112, 3) := by decide +kernel
theorem dX5_person_93 : decode cX5_person 93 = .ok (.ifCond .eq 7, 3) := by decide +kernel
theorem dX5_person_96 : decode cX5_person 96 = .ok (.iconst 0, 1) := by decide +kernel
theorem dX5_person_97 : decode cX5_person 97 = .ok (.goto 4, 3) := by decide +kernel
theorem dX5_person_100 : decode cX5_person 100 = .ok (.iconst 1, 1) := by decide +kernel
theorem dX5_person_101 : decode cX5_person 101 = .ok (.ireturn, 1) := by decide +kernel
theorem dX5_person_102 : decode cX5_person 102 = .ok (.aload_n 0, 1) := by decide +kernel
theorem dX5_person_103 : decode cX5_person 103 = .ok (.getfield 19, 3) := by decide +kernel
theorem dX5_person_106 : decode cX5_person 106 = .ok (.iload_n 1, 1) := by decide +kernel
theorem dX5_person_107 : decode cX5_person 107 = .ok (.invokevirtual 115, 3) := by decide +kernel
theorem dX5_person_110 : decode cX5_person 110 = .ok (.ifCond .eq 7, 3) := by decide +kernel
theorem dX5_person_113 : decode cX5_person 113 = .ok (.iconst 1, 1) := by decide +kernel
theorem dX5_person_114 : decode cX5_person 114 = .ok (.goto 4, 3) := by decide +kernel
theorem dX5_person_117 : decode cX5_person 117 = .ok (.iconst 0, 1) := by decide +kernel
theorem dX5_person_118 : decode cX5_person 118 = .ok (.ireturn, 1) := by decide +kernel
theorem dX5_person_119 : decode cX5_person 119 = .ok (.aload_n 0, 1) := by decide +kernel
theorem dX5_person_120 : decode cX5_person 120 = .ok (.getfield 19, 3) := by decide +kernel
theorem dX5_person_123 : decode cX5_person 123 = .ok (.iload_n 1, 1) := by decide +kernel
theorem dX5_person_124 : decode cX5_person 124 = .ok (.invokevirtual 112, 3) := by decide +kernel
theorem dX5_person_127 : decode cX5_person 127 = .ok (.ifCond .eq 14, 3) := by decide +kernel
theorem dX5_person_130 : decode cX5_person 130 = .ok (.aload_n 0, 1) := by decide +kernel
theorem dX5_person_131 : decode cX5_person 131 = .ok (.getfield 19, 3) := by decide +kernel
theorem dX5_person_134 : decode cX5_person 134 = .ok (.iload_n 1, 1) := by decide +kernel
theorem dX5_person_135 : decode cX5_person 135 = .ok (.invokevirtual 118, 3) := by decide +kernel
theorem dX5_person_138 : decode cX5_person 138 = .ok (.goto 5, 3) := by decide +kernel
theorem dX5_person_141 : decode cX5_person 141 = .ok (.bipush (-4), 2) := by decide +kernel
theorem dX5_person_143 : decode cX5_person 143 = .ok (.ireturn, 1) := by decide +kernel
theorem dX5_tie_0 : decode cX5_tie 0 = .ok (.aload_n 0, 1) := by decide +kernel
theorem dX5_tie_1 : decode cX5_tie 1 = .ok (.getfield 19, 3) := by decide +kernel
theorem dX5_tie_4 : decode cX5_tie 4 = .ok (.iload_n 1, 1) := by decide +kernel
theorem dX5_tie_5 : decode cX5_tie 5 = .ok (.iload_n 2, 1) := by decide +kernel
theorem dX5_tie_6 : decode cX5_tie 6 = .ok (.invokevirtual 121, 3) := by decide +kernel
theorem dX5_tie_9 : decode cX5_tie 9 = .ok (.ifCond .ne 5, 3) := by decide +kernel
theorem dX5_tie_12 : decode cX5_tie 12 = .ok (.iconst (-1), 1) := by decide +kernel
theorem dX5_tie_13 : decode cX5_tie 13 = .ok (.ireturn, 1) := by decide +kernel
theorem dX5_tie_14 : decode cX5_tie 14 = .ok (.aload_n 0, 1) := by decide +kernel
theorem dX5_tie_15 : decode cX5_tie 15 = .ok (.getfield 19, 3) := by decide +kernel
theorem dX5_tie_18 : decode cX5_tie 18 = .ok (.iload_n 1, 1) := by decide +kernel
theorem dX5_tie_19 : decode cX5_tie 19 = .ok (.iload_n 2, 1) := by decide +kernel
theorem dX5_tie_20 : decode cX5_tie 20 = .ok (.invokevirtual 125, 3) := by decide +kernel
theorem dX5_tie_23 : decode cX5_tie 23 = .ok (.iconst 4, 1) := by decide +kernel
theorem dX5_tie_24 : decode cX5_tie 24 = .ok (.iadd, 1) := by decide +kernel
theorem dX5_tie_25 : decode cX5_tie 25 = .ok (.ireturn, 1) := by decide +kernel
theorem dX5_owes_0 : decode cX5_owes 0 = .ok (.aload_n 0, 1) := by decide +kernel
theorem dX5_owes_1 : decode cX5_owes 1 = .ok (.getfield 19, 3) := by decide +kernel
theorem dX5_owes_4 : decode cX5_owes 4 = .ok (.iload_n 1, 1) := by decide +kernel
theorem dX5_owes_5 : decode cX5_owes 5 = .ok (.iload_n 2, 1) := by decide +kernel
theorem dX5_owes_6 : decode cX5_owes 6 = .ok (.invokevirtual 121, 3) := by decide +kernel
theorem dX5_owes_9 : decode cX5_owes 9 = .ok (.ifCond .ne 5, 3) := by decide +kernel
theorem dX5_owes_12 : decode cX5_owes 12 = .ok (.iconst (-1), 1) := by decide +kernel
theorem dX5_owes_13 : decode cX5_owes 13 = .ok (.ireturn, 1) := by decide +kernel
theorem dX5_owes_14 : decode cX5_owes 14 = .ok (.aload_n 0, 1) := by decide +kernel
theorem dX5_owes_15 : decode cX5_owes 15 = .ok (.getfield 19, 3) := by decide +kernel
theorem dX5_owes_18 : decode cX5_owes 18 = .ok (.iload_n 1, 1) := by decide +kernel
theorem dX5_owes_19 : decode cX5_owes 19 = .ok (.iload_n 2, 1) := by decide +kernel
theorem dX5_owes_20 : decode cX5_owes 20 = .ok (.invokevirtual 129, 3) := by decide +kernel
theorem dX5_owes_23 : decode cX5_owes 23 = .ok (.ireturn, 1) := by decide +kernel
theorem dX5_trial_0 : decode cX5_trial 0 = .ok (.aload_n 0, 1) := by decide +kernel
theorem dX5_trial_1 : decode cX5_trial 1 = .ok (.getfield 19, 3) := by decide +kernel
theorem dX5_trial_4 : decode cX5_trial 4 = .ok (.iload_n 1, 1) := by decide +kernel
theorem dX5_trial_5 : decode cX5_trial 5 = .ok (.invokevirtual 97, 3) := by decide +kernel
theorem dX5_trial_8 : decode cX5_trial 8 = .ok (.ifCond .eq 11, 3) := by decide +kernel
theorem dX5_trial_11 : decode cX5_trial 11 = .ok (.iload_n 2, 1) := by decide +kernel
theorem dX5_trial_12 : decode cX5_trial 12 = .ok (.iload_n 3, 1) := by decide +kernel
theorem dX5_trial_13 : decode cX5_trial 13 = .ok (.invokestatic 132, 3) := by decide +kernel
theorem dX5_trial_16 : decode cX5_trial 16 = .ok (.ifCond .ne 5, 3) := by decide +kernel
theorem dX5_trial_19 : decode cX5_trial 19 = .ok (.iconst (-1), 1) := by decide +kernel
theorem dX5_trial_20 : decode cX5_trial 20 = .ok (.ireturn, 1) := by decide +kernel
theorem dX5_trial_21 : decode cX5_trial 21 = .ok (.aload_n 0, 1) := by decide +kernel
theorem dX5_trial_22 : decode cX5_trial 22 = .ok (.getfield 19, 3) := by decide +kernel
theorem dX5_trial_25 : decode cX5_trial 25 = .ok (.iload_n 1, 1) := by decide +kernel
theorem dX5_trial_26 : decode cX5_trial 26 = .ok (.iload_n 2, 1) := by decide +kernel
theorem dX5_trial_27 : decode cX5_trial 27 = .ok (.iload_n 3, 1) := by decide +kernel
theorem dX5_trial_28 : decode cX5_trial 28 = .ok (.invokevirtual 135, 3) := by decide +kernel
theorem dX5_trial_31 : decode cX5_trial 31 = .ok (.ifCond .ne 6, 3) := by decide +kernel
theorem dX5_trial_34 : decode cX5_trial 34 = .ok (.bipush (-2), 2) := by decide +kernel
theorem dX5_trial_36 : decode cX5_trial 36 = .ok (.ireturn, 1) := by decide +kernel
theorem dX5_trial_37 : decode cX5_trial 37 = .ok (.aload_n 0, 1) := by decide +kernel
theorem dX5_trial_38 : decode cX5_trial 38 = .ok (.getfield 31, 3) := by decide +kernel
theorem dX5_trial_41 : decode cX5_trial 41 = .ok (.aload_n 0, 1) := by decide +kernel
theorem dX5_trial_42 : decode cX5_trial 42 = .ok (.getfield 19, 3) := by decide +kernel
theorem dX5_trial_45 : decode cX5_trial 45 = .ok (.invokevirtual 138, 3) := by decide +kernel
theorem dX5_trial_48 : decode cX5_trial 48 = .ok (.aload_n 0, 1) := by decide +kernel
theorem dX5_trial_49 : decode cX5_trial 49 = .ok (.getfield 19, 3) := by decide +kernel
theorem dX5_trial_52 : decode cX5_trial 52 = .ok (.iload_n 1, 1) := by decide +kernel
theorem dX5_trial_53 : decode cX5_trial 53 = .ok (.iload_n 2, 1) := by decide +kernel
theorem dX5_trial_54 : decode cX5_trial 54 = .ok (.iload_n 3, 1) := by decide +kernel
theorem dX5_trial_55 : decode cX5_trial 55 = .ok (.invokevirtual 141, 3) := by decide +kernel
theorem dX5_trial_58 : decode cX5_trial 58 = .ok (.ireturn, 1) := by decide +kernel
theorem dX5_gift_0 : decode cX5_gift 0 = .ok (.aload_n 0, 1) := by decide +kernel
theorem dX5_gift_1 : decode cX5_gift 1 = .ok (.getfield 19, 3) := by decide +kernel
theorem dX5_gift_4 : decode cX5_gift 4 = .ok (.iload_n 1, 1) := by decide +kernel
theorem dX5_gift_5 : decode cX5_gift 5 = .ok (.iload_n 2, 1) := by decide +kernel
theorem dX5_gift_6 : decode cX5_gift 6 = .ok (.invokevirtual 121, 3) := by decide +kernel
theorem dX5_gift_9 : decode cX5_gift 9 = .ok (.ifCond .ne 5, 3) := by decide +kernel
theorem dX5_gift_12 : decode cX5_gift 12 = .ok (.iconst (-1), 1) := by decide +kernel
theorem dX5_gift_13 : decode cX5_gift 13 = .ok (.ireturn, 1) := by decide +kernel
theorem dX5_gift_14 : decode cX5_gift 14 = .ok (.aload_n 0, 1) := by decide +kernel
theorem dX5_gift_15 : decode cX5_gift 15 = .ok (.getfield 19, 3) := by decide +kernel
theorem dX5_gift_18 : decode cX5_gift 18 = .ok (.iload_n 1, 1) := by decide +kernel
theorem dX5_gift_19 : decode cX5_gift 19 = .ok (.iload_n 2, 1) := by decide +kernel
theorem dX5_gift_20 : decode cX5_gift 20 = .ok (.invokevirtual 145, 3) := by decide +kernel
theorem dX5_gift_23 : decode cX5_gift 23 = .ok (.ifCond .ne 6, 3) := by decide +kernel
theorem dX5_gift_26 : decode cX5_gift 26 = .ok (.bipush (-2), 2) := by decide +kernel
theorem dX5_gift_28 : decode cX5_gift 28 = .ok (.ireturn, 1) := by decide +kernel
theorem dX5_gift_29 : decode cX5_gift 29 = .ok (.aload_n 0, 1) := by decide +kernel
theorem dX5_gift_30 : decode cX5_gift 30 = .ok (.getfield 31, 3) := by decide +kernel
theorem dX5_gift_33 : decode cX5_gift 33 = .ok (.aload_n 0, 1) := by decide +kernel
theorem dX5_gift_34 : decode cX5_gift 34 = .ok (.getfield 19, 3) := by decide +kernel
theorem dX5_gift_37 : decode cX5_gift 37 = .ok (.invokevirtual 138, 3) := by decide +kernel
theorem dX5_gift_40 : decode cX5_gift 40 = .ok (.aload_n 0, 1) := by decide +kernel
theorem dX5_gift_41 : decode cX5_gift 41 = .ok (.getfield 19, 3) := by decide +kernel
theorem dX5_gift_44 : decode cX5_gift 44 = .ok (.iload_n 1, 1) := by decide +kernel
theorem dX5_gift_45 : decode cX5_gift 45 = .ok (.iload_n 2, 1) := by decide +kernel
theorem dX5_gift_46 : decode cX5_gift 46 = .ok (.invokevirtual 148, 3) := by decide +kernel
theorem dX5_gift_49 : decode cX5_gift 49 = .ok (.aload_n 0, 1) := by decide +kernel
theorem dX5_gift_50 : decode cX5_gift 50 = .ok (.getfield 19, 3) := by decide +kernel
theorem dX5_gift_53 : decode cX5_gift 53 = .ok (.iload_n 2, 1) := by decide +kernel
theorem dX5_gift_54 : decode cX5_gift 54 = .ok (.iload_n 1, 1) := by decide +kernel
theorem dX5_gift_55 : decode cX5_gift 55 = .ok (.invokevirtual 125, 3) := by decide +kernel
theorem dX5_gift_58 : decode cX5_gift 58 = .ok (.iconst 4, 1) := by decide +kernel
theorem dX5_gift_59 : decode cX5_gift 59 = .ok (.iadd, 1) := by decide +kernel
theorem dX5_gift_60 : decode cX5_gift 60 = .ok (.ireturn, 1) := by decide +kernel
theorem dX5_pay_0 : decode cX5_pay 0 = .ok (.aload_n 0, 1) := by decide +kernel
theorem dX5_pay_1 : decode cX5_pay 1 = .ok (.getfield 19, 3) := by decide +kernel
theorem dX5_pay_4 : decode cX5_pay 4 = .ok (.iload_n 1, 1) := by decide +kernel
theorem dX5_pay_5 : decode cX5_pay 5 = .ok (.iload_n 2, 1) := by decide +kernel
theorem dX5_pay_6 : decode cX5_pay 6 = .ok (.invokevirtual 121, 3) := by decide +kernel
theorem dX5_pay_9 : decode cX5_pay 9 = .ok (.ifCond .ne 5, 3) := by decide +kernel
theorem dX5_pay_12 : decode cX5_pay 12 = .ok (.iconst (-1), 1) := by decide +kernel
theorem dX5_pay_13 : decode cX5_pay 13 = .ok (.ireturn, 1) := by decide +kernel
theorem dX5_pay_14 : decode cX5_pay 14 = .ok (.aload_n 0, 1) := by decide +kernel
theorem dX5_pay_15 : decode cX5_pay 15 = .ok (.getfield 19, 3) := by decide +kernel
theorem dX5_pay_18 : decode cX5_pay 18 = .ok (.iload_n 1, 1) := by decide +kernel
theorem dX5_pay_19 : decode cX5_pay 19 = .ok (.iload_n 2, 1) := by decide +kernel
theorem dX5_pay_20 : decode cX5_pay 20 = .ok (.invokevirtual 129, 3) := by decide +kernel
theorem dX5_pay_23 : decode cX5_pay 23 = .ok (.istore_n 3, 1) := by decide +kernel
theorem dX5_pay_24 : decode cX5_pay 24 = .ok (.iload_n 3, 1) := by decide +kernel
theorem dX5_pay_25 : decode cX5_pay 25 = .ok (.ifCond .eq 15, 3) := by decide +kernel
theorem dX5_pay_28 : decode cX5_pay 28 = .ok (.aload_n 0, 1) := by decide +kernel
theorem dX5_pay_29 : decode cX5_pay 29 = .ok (.getfield 19, 3) := by decide +kernel
theorem dX5_pay_32 : decode cX5_pay 32 = .ok (.getfield 109, 3) := by decide +kernel
theorem dX5_pay_35 : decode cX5_pay 35 = .ok (.iload_n 1, 1) := by decide +kernel
theorem dX5_pay_36 : decode cX5_pay 36 = .ok (.iaload, 1) := by decide +kernel
theorem dX5_pay_37 : decode cX5_pay 37 = .ok (.ifCond .ne 6, 3) := by decide +kernel
theorem dX5_pay_40 : decode cX5_pay 40 = .ok (.bipush (-2), 2) := by decide +kernel
theorem dX5_pay_42 : decode cX5_pay 42 = .ok (.ireturn, 1) := by decide +kernel
theorem dX5_pay_43 : decode cX5_pay 43 = .ok (.aload_n 0, 1) := by decide +kernel
theorem dX5_pay_44 : decode cX5_pay 44 = .ok (.getfield 31, 3) := by decide +kernel
theorem dX5_pay_47 : decode cX5_pay 47 = .ok (.aload_n 0, 1) := by decide +kernel
theorem dX5_pay_48 : decode cX5_pay 48 = .ok (.getfield 19, 3) := by decide +kernel
theorem dX5_pay_51 : decode cX5_pay 51 = .ok (.invokevirtual 138, 3) := by decide +kernel
theorem dX5_pay_54 : decode cX5_pay 54 = .ok (.aload_n 0, 1) := by decide +kernel
theorem dX5_pay_55 : decode cX5_pay 55 = .ok (.getfield 19, 3) := by decide +kernel
theorem dX5_pay_58 : decode cX5_pay 58 = .ok (.iload_n 1, 1) := by decide +kernel
theorem dX5_pay_59 : decode cX5_pay 59 = .ok (.iload_n 2, 1) := by decide +kernel
theorem dX5_pay_60 : decode cX5_pay 60 = .ok (.iload_n 3, 1) := by decide +kernel
theorem dX5_pay_61 : decode cX5_pay 61 = .ok (.invokevirtual 152, 3) := by decide +kernel
theorem dX5_pay_64 : decode cX5_pay 64 = .ok (.ireturn, 1) := by decide +kernel
theorem dX5_die_0 : decode cX5_die 0 = .ok (.aload_n 0, 1) := by decide +kernel
theorem dX5_die_1 : decode cX5_die 1 = .ok (.getfield 19, 3) := by decide +kernel
theorem dX5_die_4 : decode cX5_die 4 = .ok (.iload_n 1, 1) := by decide +kernel
theorem dX5_die_5 : decode cX5_die 5 = .ok (.invokevirtual 97, 3) := by decide +kernel
theorem dX5_die_8 : decode cX5_die 8 = .ok (.ifCond .ne 5, 3) := by decide +kernel
theorem dX5_die_11 : decode cX5_die 11 = .ok (.iconst (-1), 1) := by decide +kernel
theorem dX5_die_12 : decode cX5_die 12 = .ok (.ireturn, 1) := by decide +kernel
theorem dX5_die_13 : decode cX5_die 13 = .ok (.aload_n 0, 1) := by decide +kernel
theorem dX5_die_14 : decode cX5_die 14 = .ok (.getfield 19, 3) := by decide +kernel
theorem dX5_die_17 : decode cX5_die 17 = .ok (.iload_n 1, 1) := by decide +kernel
theorem dX5_die_18 : decode cX5_die 18 = .ok (.invokevirtual 112, 3) := by decide +kernel
theorem dX5_die_21 : decode cX5_die 21 = .ok (.ifCond .ne 6, 3) := by decide +kernel
theorem dX5_die_24 : decode cX5_die 24 = .ok (.bipush (-2), 2) := by decide +kernel
theorem dX5_die_26 : decode cX5_die 26 = .ok (.ireturn, 1) := by decide +kernel
theorem dX5_die_27 : decode cX5_die 27 = .ok (.aload_n 0, 1) := by decide +kernel
theorem dX5_die_28 : decode cX5_die 28 = .ok (.getfield 31, 3) := by decide +kernel
theorem dX5_die_31 : decode cX5_die 31 = .ok (.aload_n 0, 1) := by decide +kernel
theorem dX5_die_32 : decode cX5_die 32 = .ok (.getfield 19, 3) := by decide +kernel
theorem dX5_die_35 : decode cX5_die 35 = .ok (.invokevirtual 138, 3) := by decide +kernel
theorem dX5_die_38 : decode cX5_die 38 = .ok (.aload_n 0, 1) := by decide +kernel
theorem dX5_die_39 : decode cX5_die 39 = .ok (.getfield 19, 3) := by decide +kernel
theorem dX5_die_42 : decode cX5_die 42 = .ok (.iload_n 1, 1) := by decide +kernel
theorem dX5_die_43 : decode cX5_die 43 = .ok (.invokevirtual 155, 3) := by decide +kernel
theorem dX5_die_46 : decode cX5_die 46 = .ok (.ireturn, 1) := by decide +kernel
theorem dX5_pass_0 : decode cX5_pass 0 = .ok (.iload_n 1, 1) := by decide +kernel
theorem dX5_pass_1 : decode cX5_pass 1 = .ok (.iconst 1, 1) := by decide +kernel
theorem dX5_pass_2 : decode cX5_pass 2 = .ok (.bipush 30, 2) := by decide +kernel
theorem dX5_pass_4 : decode cX5_pass 4 = .ok (.invokestatic 75, 3) := by decide +kernel
theorem dX5_pass_7 : decode cX5_pass 7 = .ok (.ifCond .ne 5, 3) := by decide +kernel
theorem dX5_pass_10 : decode cX5_pass 10 = .ok (.iconst (-1), 1) := by decide +kernel
theorem dX5_pass_11 : decode cX5_pass 11 = .ok (.ireturn, 1) := by decide +kernel
theorem dX5_pass_12 : decode cX5_pass 12 = .ok (.aload_n 0, 1) := by decide +kernel
theorem dX5_pass_13 : decode cX5_pass 13 = .ok (.getfield 31, 3) := by decide +kernel
theorem dX5_pass_16 : decode cX5_pass 16 = .ok (.aload_n 0, 1) := by decide +kernel
theorem dX5_pass_17 : decode cX5_pass 17 = .ok (.getfield 19, 3) := by decide +kernel
theorem dX5_pass_20 : decode cX5_pass 20 = .ok (.invokevirtual 138, 3) := by decide +kernel
theorem dX5_pass_23 : decode cX5_pass 23 = .ok (.aload_n 0, 1) := by decide +kernel
theorem dX5_pass_24 : decode cX5_pass 24 = .ok (.getfield 19, 3) := by decide +kernel
theorem dX5_pass_27 : decode cX5_pass 27 = .ok (.iload_n 1, 1) := by decide +kernel
theorem dX5_pass_28 : decode cX5_pass 28 = .ok (.invokevirtual 158, 3) := by decide +kernel
theorem dX5_pass_31 : decode cX5_pass 31 = .ok (.aload_n 0, 1) := by decide +kernel
theorem dX5_pass_32 : decode cX5_pass 32 = .ok (.getfield 19, 3) := by decide +kernel
theorem dX5_pass_35 : decode cX5_pass 35 = .ok (.getfield 161, 3) := by decide +kernel
theorem dX5_pass_38 : decode cX5_pass 38 = .ok (.ireturn, 1) := by decide +kernel
theorem dX5_undo_0 : decode cX5_undo 0 = .ok (.aload_n 0, 1) := by decide +kernel
theorem dX5_undo_1 : decode cX5_undo 1 = .ok (.getfield 31, 3) := by decide +kernel
theorem dX5_undo_4 : decode cX5_undo 4 = .ok (.getfield 164, 3) := by decide +kernel
theorem dX5_undo_7 : decode cX5_undo 7 = .ok (.ifCond .ne 6, 3) := by decide +kernel
theorem dX5_undo_10 : decode cX5_undo 10 = .ok (.bipush (-2), 2) := by decide +kernel
theorem dX5_undo_12 : decode cX5_undo 12 = .ok (.ireturn, 1) := by decide +kernel
theorem dX5_undo_13 : decode cX5_undo 13 = .ok (.aload_n 0, 1) := by decide +kernel
theorem dX5_undo_14 : decode cX5_undo 14 = .ok (.getfield 31, 3) := by decide +kernel
theorem dX5_undo_17 : decode cX5_undo 17 = .ok (.aload_n 0, 1) := by decide +kernel
theorem dX5_undo_18 : decode cX5_undo 18 = .ok (.getfield 19, 3) := by decide +kernel
theorem dX5_undo_21 : decode cX5_undo 21 = .ok (.invokevirtual 165, 3) := by decide +kernel
theorem dX5_undo_24 : decode cX5_undo 24 = .ok (.aload_n 0, 1) := by decide +kernel
theorem dX5_undo_25 : decode cX5_undo 25 = .ok (.getfield 31, 3) := by decide +kernel
theorem dX5_undo_28 : decode cX5_undo 28 = .ok (.getfield 164, 3) := by decide +kernel
theorem dX5_undo_31 : decode cX5_undo 31 = .ok (.ireturn, 1) := by decide +kernel
theorem dX5_come_0 : decode cX5_come 0 = .ok (.aload_n 0, 1) := by decide +kernel
theorem dX5_come_1 : decode cX5_come 1 = .ok (.getfield 19, 3) := by decide +kernel
theorem dX5_come_4 : decode cX5_come 4 = .ok (.iload_n 1, 1) := by decide +kernel
theorem dX5_come_5 : decode cX5_come 5 = .ok (.invokevirtual 97, 3) := by decide +kernel
theorem dX5_come_8 : decode cX5_come 8 = .ok (.ifCond .eq 21, 3) := by decide +kernel
theorem dX5_come_11 : decode cX5_come 11 = .ok (.iload_n 2, 1) := by decide +kernel
theorem dX5_come_12 : decode cX5_come 12 = .ok (.iload_n 3, 1) := by decide +kernel
theorem dX5_come_13 : decode cX5_come 13 = .ok (.invokestatic 132, 3) := by decide +kernel
theorem dX5_come_16 : decode cX5_come 16 = .ok (.ifCond .eq 13, 3) := by decide +kernel
theorem dX5_come_19 : decode cX5_come 19 = .ok (.iload 4, 2) := by decide +kernel
theorem dX5_come_21 : decode cX5_come 21 = .ok (.iconst 0, 1) := by decide +kernel
theorem dX5_come_22 : decode cX5_come 22 = .ok (.iconst 1, 1) := by decide +kernel
theorem dX5_come_23 : decode cX5_come 23 = .ok (.invokestatic 75, 3) := by decide +kernel
theorem dX5_come_26 : decode cX5_come 26 = .ok (.ifCond .ne 5, 3) := by decide +kernel
theorem dX5_come_29 : decode cX5_come 29 = .ok (.iconst (-1), 1) := by decide +kernel
theorem dX5_come_30 : decode cX5_come 30 = .ok (.ireturn, 1) := by decide +kernel
theorem dX5_come_31 : decode cX5_come 31 = .ok (.aload_n 0, 1) := by decide +kernel
theorem dX5_come_32 : decode cX5_come 32 = .ok (.getfield 19, 3) := by decide +kernel
theorem dX5_come_35 : decode cX5_come 35 = .ok (.iload_n 1, 1) := by decide +kernel
theorem dX5_come_36 : decode cX5_come 36 = .ok (.invokevirtual 112, 3) := by decide +kernel
theorem dX5_come_39 : decode cX5_come 39 = .ok (.ifCond .ne 6, 3) := by decide +kernel
theorem dX5_come_42 : decode cX5_come 42 = .ok (.bipush (-2), 2) := by decide +kernel
theorem dX5_come_44 : decode cX5_come 44 = .ok (.ireturn, 1) := by decide +kernel
theorem dX5_come_45 : decode cX5_come 45 = .ok (.aload_n 0, 1) := by decide +kernel
theorem dX5_come_46 : decode cX5_come 46 = .ok (.getfield 19, 3) := by decide +kernel
theorem dX5_come_49 : decode cX5_come 49 = .ok (.iload_n 1, 1) := by decide +kernel
theorem dX5_come_50 : decode cX5_come 50 = .ok (.iload_n 2, 1) := by decide +kernel
theorem dX5_come_51 : decode cX5_come 51 = .ok (.iload_n 3, 1) := by decide +kernel
theorem dX5_come_52 : decode cX5_come 52 = .ok (.invokevirtual 168, 3) := by decide +kernel
theorem dX5_come_55 : decode cX5_come 55 = .ok (.istore 5, 2) := by decide +kernel
theorem dX5_come_57 : decode cX5_come 57 = .ok (.iload 4, 2) := by decide +kernel
theorem dX5_come_59 : decode cX5_come 59 = .ok (.ifCond .ne 11, 3) := by decide +kernel
theorem dX5_come_62 : decode cX5_come 62 = .ok (.iload 5, 2) := by decide +kernel
theorem dX5_come_64 : decode cX5_come 64 = .ok (.invokestatic 171, 3) := by decide +kernel
theorem dX5_come_67 : decode cX5_come 67 = .ok (.goto 5, 3) := by decide +kernel
theorem dX5_come_70 : decode cX5_come 70 = .ok (.iload 5, 2) := by decide +kernel
theorem dX5_come_72 : decode cX5_come 72 = .ok (.ireturn, 1) := by decide +kernel
theorem dX5_cheapest_0 : decode cX5_cheapest 0 = .ok (.aload_n 0, 1) := by decide +kernel
theorem dX5_cheapest_1 : decode cX5_cheapest 1 = .ok (.iload_n 1, 1) := by decide +kernel
theorem dX5_cheapest_2 : decode cX5_cheapest 2 = .ok (.iload_n 2, 1) := by decide +kernel
theorem dX5_cheapest_3 : decode cX5_cheapest 3 = .ok (.invokevirtual 176, 3) := by decide +kernel
theorem dX5_cheapest_6 : decode cX5_cheapest 6 = .ok (.ifCond .eq 12, 3) := by decide +kernel
theorem dX5_cheapest_9 : decode cX5_cheapest 9 = .ok (.iload_n 3, 1) := by decide +kernel
theorem dX5_cheapest_10 : decode cX5_cheapest 10 = .ok (.iconst 0, 1) := by decide +kernel
theorem dX5_cheapest_11 : decode cX5_cheapest 11 = .ok (.iconst 1, 1) := by decide +kernel
theorem dX5_cheapest_12 : decode cX5_cheapest 12 = .ok (.invokestatic 75, 3) := by decide +kernel
theorem dX5_cheapest_15 : decode cX5_cheapest 15 = .ok (.ifCond .ne 5, 3) := by decide +kernel
theorem dX5_cheapest_18 : decode cX5_cheapest 18 = .ok (.iconst (-1), 1) := by decide +kernel
theorem dX5_cheapest_19 : decode cX5_cheapest 19 = .ok (.ireturn, 1) := by decide +kernel
theorem dX5_cheapest_20 : decode cX5_cheapest 20 = .ok (.aload_n 0, 1) := by decide +kernel
theorem dX5_cheapest_21 : decode cX5_cheapest 21 = .ok (.getfield 19, 3) := by decide +kernel
theorem dX5_cheapest_24 : decode cX5_cheapest 24 = .ok (.iload_n 1, 1) := by decide +kernel
theorem dX5_cheapest_25 : decode cX5_cheapest 25 = .ok (.invokevirtual 112, 3) := by decide +kernel
theorem dX5_cheapest_28 : decode cX5_cheapest 28 = .ok (.ifCond .ne 6, 3) := by decide +kernel
theorem dX5_cheapest_31 : decode cX5_cheapest 31 = .ok (.bipush (-2), 2) := by decide +kernel
theorem dX5_cheapest_33 : decode cX5_cheapest 33 = .ok (.ireturn, 1) := by decide +kernel
theorem dX5_cheapest_34 : decode cX5_cheapest 34 = .ok (.bipush (-4), 2) := by decide +kernel
theorem dX5_cheapest_36 : decode cX5_cheapest 36 = .ok (.istore 4, 2) := by decide +kernel
theorem dX5_cheapest_38 : decode cX5_cheapest 38 = .ok (.bipush (-4), 2) := by decide +kernel
theorem dX5_cheapest_40 : decode cX5_cheapest 40 = .ok (.istore 5, 2) := by decide +kernel
theorem dX5_cheapest_42 : decode cX5_cheapest 42 = .ok (.iconst 0, 1) := by decide +kernel
theorem dX5_cheapest_43 : decode cX5_cheapest 43 = .ok (.istore 6, 2) := by decide +kernel
theorem dX5_cheapest_45 : decode cX5_cheapest 45 = .ok (.iload 6, 2) := by decide +kernel
theorem dX5_cheapest_47 : decode cX5_cheapest 47 = .ok (.iconst 3, 1) := by decide +kernel
theorem dX5_cheapest_48 : decode cX5_cheapest 48 = .ok (.if_icmp .gt 91, 3) := by decide +kernel
theorem dX5_cheapest_51 : decode cX5_cheapest 51 = .ok (.iconst 0, 1) := by decide +kernel
theorem dX5_cheapest_52 : decode cX5_cheapest 52 = .ok (.istore 7, 2) := by decide +kernel
theorem dX5_cheapest_54 : decode cX5_cheapest 54 = .ok (.iload 7, 2) := by decide +kernel
theorem dX5_cheapest_56 : decode cX5_cheapest 56 = .ok (.iconst 3, 1) := by decide +kernel
theorem dX5_cheapest_57 : decode cX5_cheapest 57 = .ok (.if_icmp .gt 76, 3) := by decide +kernel
theorem dX5_cheapest_60 : decode cX5_cheapest 60 = .ok (.iload 6, 2) := by decide +kernel
theorem dX5_cheapest_62 : decode cX5_cheapest 62 = .ok (.iload 7, 2) := by decide +kernel
theorem dX5_cheapest_64 : decode cX5_cheapest 64 = .ok (.invokestatic 179, 3) := by decide +kernel
theorem dX5_cheapest_67 : decode cX5_cheapest 67 = .ok (.istore 8, 2) := by decide +kernel
theorem dX5_cheapest_69 : decode cX5_cheapest 69 = .ok (.iload 4, 2) := by decide +kernel
theorem dX5_cheapest_71 : decode cX5_cheapest 71 = .ok (.bipush (-4), 2) := by decide +kernel
theorem dX5_cheapest_73 : decode cX5_cheapest 73 = .ok (.if_icmp .eq 10, 3) := by decide +kernel
theorem dX5_cheapest_76 : decode cX5_cheapest 76 = .ok (.iload 8, 2) := by decide +kernel
theorem dX5_cheapest_78 : decode cX5_cheapest 78 = .ok (.iload 4, 2) := by decide +kernel
theorem dX5_cheapest_80 : decode cX5_cheapest 80 = .ok (.if_icmp .ge 7, 3) := by decide +kernel
theorem dX5_cheapest_83 : decode cX5_cheapest 83 = .ok (.iconst 1, 1) := by decide +kernel
theorem dX5_cheapest_84 : decode cX5_cheapest 84 = .ok (.goto 4, 3) := by decide +kernel
theorem dX5_cheapest_87 : decode cX5_cheapest 87 = .ok (.iconst 0, 1) := by decide +kernel
theorem dX5_cheapest_88 : decode cX5_cheapest 88 = .ok (.istore 9, 2) := by decide +kernel
theorem dX5_cheapest_90 : decode cX5_cheapest 90 = .ok (.iload 9, 2) := by decide +kernel
theorem dX5_cheapest_92 : decode cX5_cheapest 92 = .ok (.ifCond .eq 35, 3) := by decide +kernel
theorem dX5_cheapest_95 : decode cX5_cheapest 95 = .ok (.aload_n 0, 1) := by decide +kernel
theorem dX5_cheapest_96 : decode cX5_cheapest 96 = .ok (.getfield 19, 3) := by decide +kernel
theorem dX5_cheapest_99 : decode cX5_cheapest 99 = .ok (.iload_n 1, 1) := by decide +kernel
theorem dX5_cheapest_100 : decode cX5_cheapest 100 = .ok (.iload 6, 2) := by decide +kernel
theorem dX5_cheapest_102 : decode cX5_cheapest 102 = .ok (.iload 7, 2) := by decide +kernel
theorem dX5_cheapest_104 : decode cX5_cheapest 104 = .ok (.invokevirtual 168, 3) := by decide +kernel
theorem dX5_cheapest_107 : decode cX5_cheapest 107 = .ok (.iload_n 2, 1) := by decide +kernel
theorem dX5_cheapest_108 : decode cX5_cheapest 108 = .ok (.iand, 1) := by decide +kernel
theorem dX5_cheapest_109 : decode cX5_cheapest 109 = .ok (.iload_n 2, 1) := by decide +kernel
theorem dX5_cheapest_110 : decode cX5_cheapest 110 = .ok (.if_icmp .ne 17, 3) := by decide +kernel
theorem dX5_cheapest_113 : decode cX5_cheapest 113 = .ok (.iload 8, 2) := by decide +kernel
theorem dX5_cheapest_115 : decode cX5_cheapest 115 = .ok (.istore 4, 2) := by decide +kernel
theorem dX5_cheapest_117 : decode cX5_cheapest 117 = .ok (.bipush 10, 2) := by decide +kernel
theorem dX5_cheapest_119 : decode cX5_cheapest 119 = .ok (.iload 6, 2) := by decide +kernel
theorem dX5_cheapest_121 : decode cX5_cheapest 121 = .ok (.imul, 1) := by decide +kernel
theorem dX5_cheapest_122 : decode cX5_cheapest 122 = .ok (.iload 7, 2) := by decide +kernel
theorem dX5_cheapest_124 : decode cX5_cheapest 124 = .ok (.iadd, 1) := by decide +kernel
theorem dX5_cheapest_125 : decode cX5_cheapest 125 = .ok (.istore 5, 2) := by decide +kernel
theorem dX5_cheapest_127 : decode cX5_cheapest 127 = .ok (.iinc 7 1, 3) := by decide +kernel
theorem dX5_cheapest_130 : decode cX5_cheapest 130 = .ok (.goto (-76), 3) := by decide +kernel
theorem dX5_cheapest_133 : decode cX5_cheapest 133 = .ok (.iinc 6 1, 3) := by decide +kernel
theorem dX5_cheapest_136 : decode cX5_cheapest 136 = .ok (.goto (-91), 3) := by decide +kernel
theorem dX5_cheapest_139 : decode cX5_cheapest 139 = .ok (.iload_n 3, 1) := by decide +kernel
theorem dX5_cheapest_140 : decode cX5_cheapest 140 = .ok (.ifCond .ne 8, 3) := by decide +kernel
theorem dX5_cheapest_143 : decode cX5_cheapest 143 = .ok (.iload 4, 2) := by decide +kernel
theorem dX5_cheapest_145 : decode cX5_cheapest 145 = .ok (.goto 5, 3) := by decide +kernel
theorem dX5_cheapest_148 : decode cX5_cheapest 148 = .ok (.iload 5, 2) := by decide +kernel
theorem dX5_cheapest_150 : decode cX5_cheapest 150 = .ok (.ireturn, 1) := by decide +kernel
theorem dX5_gifts_0 : decode cX5_gifts 0 = .ok (.aload_n 0, 1) := by decide +kernel
theorem dX5_gifts_1 : decode cX5_gifts 1 = .ok (.iload_n 1, 1) := by decide +kernel
theorem dX5_gifts_2 : decode cX5_gifts 2 = .ok (.iload_n 2, 1) := by decide +kernel
theorem dX5_gifts_3 : decode cX5_gifts 3 = .ok (.invokevirtual 176, 3) := by decide +kernel
theorem dX5_gifts_6 : decode cX5_gifts 6 = .ok (.ifCond .eq 12, 3) := by decide +kernel
theorem dX5_gifts_9 : decode cX5_gifts 9 = .ok (.iload_n 3, 1) := by decide +kernel
theorem dX5_gifts_10 : decode cX5_gifts 10 = .ok (.iload 4, 2) := by decide +kernel
theorem dX5_gifts_12 : decode cX5_gifts 12 = .ok (.invokestatic 132, 3) := by decide +kernel
theorem dX5_gifts_15 : decode cX5_gifts 15 = .ok (.ifCond .ne 5, 3) := by decide +kernel
theorem dX5_gifts_18 : decode cX5_gifts 18 = .ok (.iconst (-1), 1) := by decide +kernel
theorem dX5_gifts_19 : decode cX5_gifts 19 = .ok (.ireturn, 1) := by decide +kernel
theorem dX5_gifts_20 : decode cX5_gifts 20 = .ok (.aload_n 0, 1) := by decide +kernel
theorem dX5_gifts_21 : decode cX5_gifts 21 = .ok (.getfield 19, 3) := by decide +kernel
theorem dX5_gifts_24 : decode cX5_gifts 24 = .ok (.iload_n 1, 1) := by decide +kernel
theorem dX5_gifts_25 : decode cX5_gifts 25 = .ok (.invokevirtual 112, 3) := by decide +kernel
theorem dX5_gifts_28 : decode cX5_gifts 28 = .ok (.ifCond .ne 6, 3) := by decide +kernel
theorem dX5_gifts_31 : decode cX5_gifts 31 = .ok (.bipush (-2), 2) := by decide +kernel
theorem dX5_gifts_33 : decode cX5_gifts 33 = .ok (.ireturn, 1) := by decide +kernel
theorem dX5_gifts_34 : decode cX5_gifts 34 = .ok (.iconst 0, 1) := by decide +kernel
theorem dX5_gifts_35 : decode cX5_gifts 35 = .ok (.istore 5, 2) := by decide +kernel
theorem dX5_gifts_37 : decode cX5_gifts 37 = .ok (.iconst 0, 1) := by decide +kernel
theorem dX5_gifts_38 : decode cX5_gifts 38 = .ok (.istore 6, 2) := by decide +kernel
theorem dX5_gifts_40 : decode cX5_gifts 40 = .ok (.iload 6, 2) := by decide +kernel
theorem dX5_gifts_42 : decode cX5_gifts 42 = .ok (.aload_n 0, 1) := by decide +kernel
theorem dX5_gifts_43 : decode cX5_gifts 43 = .ok (.getfield 19, 3) := by decide +kernel
theorem dX5_gifts_46 : decode cX5_gifts 46 = .ok (.getfield 86, 3) := by decide +kernel
theorem dX5_gifts_49 : decode cX5_gifts 49 = .ok (.if_icmp .ge 50, 3) := by decide +kernel
theorem dX5_gifts_52 : decode cX5_gifts 52 = .ok (.iload_n 2, 1) := by decide +kernel
theorem dX5_gifts_53 : decode cX5_gifts 53 = .ok (.iload 6, 2) := by decide +kernel
theorem dX5_gifts_55 : decode cX5_gifts 55 = .ok (.invokestatic 182, 3) := by decide +kernel
theorem dX5_gifts_58 : decode cX5_gifts 58 = .ok (.ifCond .eq 35, 3) := by decide +kernel
theorem dX5_gifts_61 : decode cX5_gifts 61 = .ok (.aload_n 0, 1) := by decide +kernel
theorem dX5_gifts_62 : decode cX5_gifts 62 = .ok (.getfield 19, 3) := by decide +kernel
theorem dX5_gifts_65 : decode cX5_gifts 65 = .ok (.iload 6, 2) := by decide +kernel
theorem dX5_gifts_67 : decode cX5_gifts 67 = .ok (.iload_n 1, 1) := by decide +kernel
theorem dX5_gifts_68 : decode cX5_gifts 68 = .ok (.iload_n 3, 1) := by decide +kernel
theorem dX5_gifts_69 : decode cX5_gifts 69 = .ok (.iload 4, 2) := by decide +kernel
theorem dX5_gifts_71 : decode cX5_gifts 71 = .ok (.invokevirtual 185, 3) := by decide +kernel
theorem dX5_gifts_74 : decode cX5_gifts 74 = .ok (.istore 7, 2) := by decide +kernel
theorem dX5_gifts_76 : decode cX5_gifts 76 = .ok (.iload 7, 2) := by decide +kernel
theorem dX5_gifts_78 : decode cX5_gifts 78 = .ok (.bipush (-4), 2) := by decide +kernel
theorem dX5_gifts_80 : decode cX5_gifts 80 = .ok (.if_icmp .ne 6, 3) := by decide +kernel
theorem dX5_gifts_83 : decode cX5_gifts 83 = .ok (.bipush (-4), 2) := by decide +kernel
theorem dX5_gifts_85 : decode cX5_gifts 85 = .ok (.ireturn, 1) := by decide +kernel
theorem dX5_gifts_86 : decode cX5_gifts 86 = .ok (.iload 5, 2) := by decide +kernel
theorem dX5_gifts_88 : decode cX5_gifts 88 = .ok (.iload 7, 2) := by decide +kernel
theorem dX5_gifts_90 : decode cX5_gifts 90 = .ok (.iadd, 1) := by decide +kernel
theorem dX5_gifts_91 : decode cX5_gifts 91 = .ok (.istore 5, 2) := by decide +kernel
theorem dX5_gifts_93 : decode cX5_gifts 93 = .ok (.iinc 6 1, 3) := by decide +kernel
theorem dX5_gifts_96 : decode cX5_gifts 96 = .ok (.goto (-56), 3) := by decide +kernel
theorem dX5_gifts_99 : decode cX5_gifts 99 = .ok (.iload 5, 2) := by decide +kernel
theorem dX5_gifts_101 : decode cX5_gifts 101 = .ok (.ireturn, 1) := by decide +kernel
theorem dX5_order_0 : decode cX5_order 0 = .ok (.iload_n 1, 1) := by decide +kernel
theorem dX5_order_1 : decode cX5_order 1 = .ok (.iload_n 2, 1) := by decide +kernel
theorem dX5_order_2 : decode cX5_order 2 = .ok (.invokestatic 132, 3) := by decide +kernel
theorem dX5_order_5 : decode cX5_order 5 = .ok (.ifCond .eq 13, 3) := by decide +kernel
theorem dX5_order_8 : decode cX5_order 8 = .ok (.iload_n 3, 1) := by decide +kernel
theorem dX5_order_9 : decode cX5_order 9 = .ok (.iconst 0, 1) := by decide +kernel
theorem dX5_order_10 : decode cX5_order 10 = .ok (.bipush 6, 2) := by decide +kernel
theorem dX5_order_12 : decode cX5_order 12 = .ok (.invokestatic 75, 3) := by decide +kernel
theorem dX5_order_15 : decode cX5_order 15 = .ok (.ifCond .ne 5, 3) := by decide +kernel
theorem dX5_order_18 : decode cX5_order 18 = .ok (.iconst (-1), 1) := by decide +kernel
theorem dX5_order_19 : decode cX5_order 19 = .ok (.ireturn, 1) := by decide +kernel
theorem dX5_order_20 : decode cX5_order 20 = .ok (.aload_n 0, 1) := by decide +kernel
theorem dX5_order_21 : decode cX5_order 21 = .ok (.getfield 48, 3) := by decide +kernel
theorem dX5_order_24 : decode cX5_order 24 = .ok (.aload_n 0, 1) := by decide +kernel
theorem dX5_order_25 : decode cX5_order 25 = .ok (.getfield 19, 3) := by decide +kernel
theorem dX5_order_28 : decode cX5_order 28 = .ok (.iload_n 1, 1) := by decide +kernel
theorem dX5_order_29 : decode cX5_order 29 = .ok (.iload_n 2, 1) := by decide +kernel
theorem dX5_order_30 : decode cX5_order 30 = .ok (.invokevirtual 189, 3) := by decide +kernel
theorem dX5_order_33 : decode cX5_order 33 = .ok (.ifCond .ne 32, 3) := by decide +kernel
theorem dX5_order_36 : decode cX5_order 36 = .ok (.aload_n 0, 1) := by decide +kernel
theorem dX5_order_37 : decode cX5_order 37 = .ok (.getfield 48, 3) := by decide +kernel
theorem dX5_order_40 : decode cX5_order 40 = .ok (.aload_n 0, 1) := by decide +kernel
theorem dX5_order_41 : decode cX5_order 41 = .ok (.getfield 19, 3) := by decide +kernel
theorem dX5_order_44 : decode cX5_order 44 = .ok (.iload_n 1, 1) := by decide +kernel
theorem dX5_order_45 : decode cX5_order 45 = .ok (.iload_n 2, 1) := by decide +kernel
theorem dX5_order_46 : decode cX5_order 46 = .ok (.invokevirtual 193, 3) := by decide +kernel
theorem dX5_order_49 : decode cX5_order 49 = .ok (.aload_n 0, 1) := by decide +kernel
theorem dX5_order_50 : decode cX5_order 50 = .ok (.getfield 48, 3) := by decide +kernel
theorem dX5_order_53 : decode cX5_order 53 = .ok (.iconst 0, 1) := by decide +kernel
theorem dX5_order_54 : decode cX5_order 54 = .ok (.aload_n 0, 1) := by decide +kernel
theorem dX5_order_55 : decode cX5_order 55 = .ok (.getfield 48, 3) := by decide +kernel
theorem dX5_order_58 : decode cX5_order 58 = .ok (.getfield 197, 3) := by decide +kernel
theorem dX5_order_61 : decode cX5_order 61 = .ok (.iconst 0, 1) := by decide +kernel
theorem dX5_order_62 : decode cX5_order 62 = .ok (.invokestatic 200, 3) := by decide +kernel
theorem dX5_order_65 : decode cX5_order 65 = .ok (.iload_n 3, 1) := by decide +kernel
theorem dX5_order_66 : decode cX5_order 66 = .ok (.ifCond .ne 11, 3) := by decide +kernel
theorem dX5_order_69 : decode cX5_order 69 = .ok (.aload_n 0, 1) := by decide +kernel
theorem dX5_order_70 : decode cX5_order 70 = .ok (.getfield 48, 3) := by decide +kernel
theorem dX5_order_73 : decode cX5_order 73 = .ok (.getfield 204, 3) := by decide +kernel
theorem dX5_order_76 : decode cX5_order 76 = .ok (.ireturn, 1) := by decide +kernel
theorem dX5_order_77 : decode cX5_order 77 = .ok (.iload_n 3, 1) := by decide +kernel
theorem dX5_order_78 : decode cX5_order 78 = .ok (.aload_n 0, 1) := by decide +kernel
theorem dX5_order_79 : decode cX5_order 79 = .ok (.getfield 48, 3) := by decide +kernel
theorem dX5_order_82 : decode cX5_order 82 = .ok (.getfield 207, 3) := by decide +kernel
theorem dX5_order_85 : decode cX5_order 85 = .ok (.if_icmp .gt 17, 3) := by decide +kernel
theorem dX5_order_88 : decode cX5_order 88 = .ok (.aload_n 0, 1) := by decide +kernel
theorem dX5_order_89 : decode cX5_order 89 = .ok (.getfield 48, 3) := by decide +kernel
theorem dX5_order_92 : decode cX5_order 92 = .ok (.getfield 208, 3) := by decide +kernel
theorem dX5_order_95 : decode cX5_order 95 = .ok (.iload_n 3, 1) := by decide +kernel
theorem dX5_order_96 : decode cX5_order 96 = .ok (.iconst 1, 1) := by decide +kernel
theorem dX5_order_97 : decode cX5_order 97 = .ok (.isub, 1) := by decide +kernel
theorem dX5_order_98 : decode cX5_order 98 = .ok (.iaload, 1) := by decide +kernel
theorem dX5_order_99 : decode cX5_order 99 = .ok (.goto 5, 3) := by decide +kernel
theorem dX5_order_102 : decode cX5_order 102 = .ok (.bipush (-4), 2) := by decide +kernel
theorem dX5_order_104 : decode cX5_order 104 = .ok (.ireturn, 1) := by decide +kernel
theorem dX5_mutual_0 : decode cX5_mutual 0 = .ok (.aload_n 0, 1) := by decide +kernel
theorem dX5_mutual_1 : decode cX5_mutual 1 = .ok (.getfield 19, 3) := by decide +kernel
theorem dX5_mutual_4 : decode cX5_mutual 4 = .ok (.iload_n 1, 1) := by decide +kernel
theorem dX5_mutual_5 : decode cX5_mutual 5 = .ok (.iload_n 2, 1) := by decide +kernel
theorem dX5_mutual_6 : decode cX5_mutual 6 = .ok (.invokevirtual 121, 3) := by decide +kernel
theorem dX5_mutual_9 : decode cX5_mutual 9 = .ok (.ifCond .eq 12, 3) := by decide +kernel
theorem dX5_mutual_12 : decode cX5_mutual 12 = .ok (.iload_n 3, 1) := by decide +kernel
theorem dX5_mutual_13 : decode cX5_mutual 13 = .ok (.iconst 0, 1) := by decide +kernel
theorem dX5_mutual_14 : decode cX5_mutual 14 = .ok (.iconst 1, 1) := by decide +kernel
theorem dX5_mutual_15 : decode cX5_mutual 15 = .ok (.invokestatic 75, 3) := by decide +kernel
theorem dX5_mutual_18 : decode cX5_mutual 18 = .ok (.ifCond .ne 5, 3) := by decide +kernel
theorem dX5_mutual_21 : decode cX5_mutual 21 = .ok (.iconst (-1), 1) := by decide +kernel
theorem dX5_mutual_22 : decode cX5_mutual 22 = .ok (.ireturn, 1) := by decide +kernel
theorem dX5_mutual_23 : decode cX5_mutual 23 = .ok (.aload_n 0, 1) := by decide +kernel
theorem dX5_mutual_24 : decode cX5_mutual 24 = .ok (.getfield 19, 3) := by decide +kernel
theorem dX5_mutual_27 : decode cX5_mutual 27 = .ok (.iload_n 1, 1) := by decide +kernel
theorem dX5_mutual_28 : decode cX5_mutual 28 = .ok (.invokevirtual 112, 3) := by decide +kernel
theorem dX5_mutual_31 : decode cX5_mutual 31 = .ok (.ifCond .eq 14, 3) := by decide +kernel
theorem dX5_mutual_34 : decode cX5_mutual 34 = .ok (.aload_n 0, 1) := by decide +kernel
theorem dX5_mutual_35 : decode cX5_mutual 35 = .ok (.getfield 19, 3) := by decide +kernel
theorem dX5_mutual_38 : decode cX5_mutual 38 = .ok (.iload_n 2, 1) := by decide +kernel
theorem dX5_mutual_39 : decode cX5_mutual 39 = .ok (.invokevirtual 112, 3) := by decide +kernel
theorem dX5_mutual_42 : decode cX5_mutual 42 = .ok (.ifCond .ne 6, 3) := by decide +kernel
theorem dX5_mutual_45 : decode cX5_mutual 45 = .ok (.bipush (-2), 2) := by decide +kernel
theorem dX5_mutual_47 : decode cX5_mutual 47 = .ok (.ireturn, 1) := by decide +kernel
theorem dX5_mutual_48 : decode cX5_mutual 48 = .ok (.iconst 0, 1) := by decide +kernel
theorem dX5_mutual_49 : decode cX5_mutual 49 = .ok (.istore 4, 2) := by decide +kernel
theorem dX5_mutual_51 : decode cX5_mutual 51 = .ok (.bipush (-4), 2) := by decide +kernel
theorem dX5_mutual_53 : decode cX5_mutual 53 = .ok (.istore 5, 2) := by decide +kernel
theorem dX5_mutual_55 : decode cX5_mutual 55 = .ok (.iconst 0, 1) := by decide +kernel
theorem dX5_mutual_56 : decode cX5_mutual 56 = .ok (.istore 6, 2) := by decide +kernel
theorem dX5_mutual_58 : decode cX5_mutual 58 = .ok (.iload 6, 2) := by decide +kernel
theorem dX5_mutual_60 : decode cX5_mutual 60 = .ok (.iconst 4, 1) := by decide +kernel
theorem dX5_mutual_61 : decode cX5_mutual 61 = .ok (.if_icmp .ge 34, 3) := by decide +kernel
theorem dX5_mutual_64 : decode cX5_mutual 64 = .ok (.aload_n 0, 1) := by decide +kernel
theorem dX5_mutual_65 : decode cX5_mutual 65 = .ok (.iload_n 1, 1) := by decide +kernel
