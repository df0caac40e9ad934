theorem dX0_init_0 : decode cX0_init 0 = .ok (.aload_n 0, 1) := by decide +kernel
theorem dX0_init_1 : decode cX0_init 1 = .ok (.invokespecial 3, 3) := by decide +kernel
theorem dX0_init_4 : decode cX0_init 4 = .ok (.aload_n 0, 1) := by decide +kernel
theorem dX0_init_5 : decode cX0_init 5 = .ok (.bipush 7, 2) := by decide +kernel
theorem dX0_init_7 : decode cX0_init 7 = .ok (.anewarray 9, 3) := by decide +kernel
theorem dX0_init_10 : decode cX0_init 10 = .ok (.putfield 11, 3) := by decide +kernel
theorem dX0_init_13 : decode cX0_init 13 = .ok (.aload_n 0, 1) := by decide +kernel
theorem dX0_init_14 : decode cX0_init 14 = .ok (.bipush 6, 2) := by decide +kernel
theorem dX0_init_16 : decode cX0_init 16 = .ok (.newarray .int, 2) := by decide +kernel
theorem dX0_init_18 : decode cX0_init 18 = .ok (.putfield 17, 3) := by decide +kernel
theorem dX0_init_21 : decode cX0_init 21 = .ok (.aload_n 0, 1) := by decide +kernel
theorem dX0_init_22 : decode cX0_init 22 = .ok (.bipush 6, 2) := by decide +kernel
theorem dX0_init_24 : decode cX0_init 24 = .ok (.newarray .int, 2) := by decide +kernel
theorem dX0_init_26 : decode cX0_init 26 = .ok (.putfield 21, 3) := by decide +kernel
theorem dX0_init_29 : decode cX0_init 29 = .ok (.aload_n 0, 1) := by decide +kernel
theorem dX0_init_30 : decode cX0_init 30 = .ok (.iconst 0, 1) := by decide +kernel
theorem dX0_init_31 : decode cX0_init 31 = .ok (.putfield 24, 3) := by decide +kernel
theorem dX0_init_34 : decode cX0_init 34 = .ok (.aload_n 0, 1) := by decide +kernel
theorem dX0_init_35 : decode cX0_init 35 = .ok (.iconst 0, 1) := by decide +kernel
theorem dX0_init_36 : decode cX0_init 36 = .ok (.putfield 28, 3) := by decide +kernel
theorem dX0_init_39 : decode cX0_init 39 = .ok (.aload_n 0, 1) := by decide +kernel
theorem dX0_init_40 : decode cX0_init 40 = .ok (.iconst 0, 1) := by decide +kernel
theorem dX0_init_41 : decode cX0_init 41 = .ok (.putfield 31, 3) := by decide +kernel
theorem dX0_init_44 : decode cX0_init 44 = .ok (.aload_n 0, 1) := by decide +kernel
theorem dX0_init_45 : decode cX0_init 45 = .ok (.iconst 0, 1) := by decide +kernel
theorem dX0_init_46 : decode cX0_init 46 = .ok (.putfield 34, 3) := by decide +kernel
theorem dX0_init_49 : decode cX0_init 49 = .ok (.aload_n 0, 1) := by decide +kernel
theorem dX0_init_50 : decode cX0_init 50 = .ok (.iconst 0, 1) := by decide +kernel
theorem dX0_init_51 : decode cX0_init 51 = .ok (.putfield 37, 3) := by decide +kernel
theorem dX0_init_54 : decode cX0_init 54 = .ok (.iconst 0, 1) := by decide +kernel
theorem dX0_init_55 : decode cX0_init 55 = .ok (.istore_n 1, 1) := by decide +kernel
theorem dX0_init_56 : decode cX0_init 56 = .ok (.iload_n 1, 1) := by decide +kernel
theorem dX0_init_57 : decode cX0_init 57 = .ok (.aload_n 0, 1) := by decide +kernel
theorem dX0_init_58 : decode cX0_init 58 = .ok (.getfield 11, 3) := by decide +kernel
theorem dX0_init_61 : decode cX0_init 61 = .ok (.arraylength, 1) := by decide +kernel
theorem dX0_init_62 : decode cX0_init 62 = .ok (.if_icmp .ge 22, 3) := by decide +kernel
theorem dX0_init_65 : decode cX0_init 65 = .ok (.aload_n 0, 1) := by decide +kernel
theorem dX0_init_66 : decode cX0_init 66 = .ok (.getfield 11, 3) := by decide +kernel
theorem dX0_init_69 : decode cX0_init 69 = .ok (.iload_n 1, 1) := by decide +kernel
theorem dX0_init_70 : decode cX0_init 70 = .ok (.new 9, 3) := by decide +kernel
theorem dX0_init_73 : decode cX0_init 73 = .ok (.dup, 1) := by decide +kernel
theorem dX0_init_74 : decode cX0_init 74 = .ok (.invokespecial 40, 3) := by decide +kernel
theorem dX0_init_77 : decode cX0_init 77 = .ok (.aastore, 1) := by decide +kernel
theorem dX0_init_78 : decode cX0_init 78 = .ok (.iinc 1 1, 3) := by decide +kernel
theorem dX0_init_81 : decode cX0_init 81 = .ok (.goto (-25), 3) := by decide +kernel
theorem dX0_init_84 : decode cX0_init 84 = .ok (.return_, 1) := by decide +kernel
theorem dX0_isFor_0 : decode cX0_isFor 0 = .ok (.aload_n 0, 1) := by decide +kernel
theorem dX0_isFor_1 : decode cX0_isFor 1 = .ok (.getfield 24, 3) := by decide +kernel
theorem dX0_isFor_4 : decode cX0_isFor 4 = .ok (.iload_n 2, 1) := by decide +kernel
theorem dX0_isFor_5 : decode cX0_isFor 5 = .ok (.if_icmp .ne 28, 3) := by decide +kernel
theorem dX0_isFor_8 : decode cX0_isFor 8 = .ok (.aload_n 0, 1) := by decide +kernel
theorem dX0_isFor_9 : decode cX0_isFor 9 = .ok (.getfield 28, 3) := by decide +kernel
theorem dX0_isFor_12 : decode cX0_isFor 12 = .ok (.iload_n 3, 1) := by decide +kernel
theorem dX0_isFor_13 : decode cX0_isFor 13 = .ok (.if_icmp .ne 20, 3) := by decide +kernel
theorem dX0_isFor_16 : decode cX0_isFor 16 = .ok (.aload_n 0, 1) := by decide +kernel
theorem dX0_isFor_17 : decode cX0_isFor 17 = .ok (.getfield 11, 3) := by decide +kernel
theorem dX0_isFor_20 : decode cX0_isFor 20 = .ok (.iconst 0, 1) := by decide +kernel
theorem dX0_isFor_21 : decode cX0_isFor 21 = .ok (.aaload, 1) := by decide +kernel
theorem dX0_isFor_22 : decode cX0_isFor 22 = .ok (.aload_n 1, 1) := by decide +kernel
theorem dX0_isFor_23 : decode cX0_isFor 23 = .ok (.invokevirtual 41, 3) := by decide +kernel
theorem dX0_isFor_26 : decode cX0_isFor 26 = .ok (.ifCond .eq 7, 3) := by decide +kernel
theorem dX0_isFor_29 : decode cX0_isFor 29 = .ok (.iconst 1, 1) := by decide +kernel
theorem dX0_isFor_30 : decode cX0_isFor 30 = .ok (.goto 4, 3) := by decide +kernel
theorem dX0_isFor_33 : decode cX0_isFor 33 = .ok (.iconst 0, 1) := by decide +kernel
theorem dX0_isFor_34 : decode cX0_isFor 34 = .ok (.ireturn, 1) := by decide +kernel
theorem dX0_start_0 : decode cX0_start 0 = .ok (.aload_n 0, 1) := by decide +kernel
theorem dX0_start_1 : decode cX0_start 1 = .ok (.getfield 11, 3) := by decide +kernel
theorem dX0_start_4 : decode cX0_start 4 = .ok (.iconst 0, 1) := by decide +kernel
theorem dX0_start_5 : decode cX0_start 5 = .ok (.aaload, 1) := by decide +kernel
theorem dX0_start_6 : decode cX0_start 6 = .ok (.aload_n 1, 1) := by decide +kernel
theorem dX0_start_7 : decode cX0_start 7 = .ok (.invokevirtual 45, 3) := by decide +kernel
theorem dX0_start_10 : decode cX0_start 10 = .ok (.aload_n 0, 1) := by decide +kernel
theorem dX0_start_11 : decode cX0_start 11 = .ok (.iload_n 2, 1) := by decide +kernel
theorem dX0_start_12 : decode cX0_start 12 = .ok (.putfield 24, 3) := by decide +kernel
theorem dX0_start_15 : decode cX0_start 15 = .ok (.aload_n 0, 1) := by decide +kernel
theorem dX0_start_16 : decode cX0_start 16 = .ok (.iload_n 3, 1) := by decide +kernel
theorem dX0_start_17 : decode cX0_start 17 = .ok (.putfield 28, 3) := by decide +kernel
theorem dX0_start_20 : decode cX0_start 20 = .ok (.aload_n 0, 1) := by decide +kernel
theorem dX0_start_21 : decode cX0_start 21 = .ok (.iconst 0, 1) := by decide +kernel
theorem dX0_start_22 : decode cX0_start 22 = .ok (.putfield 31, 3) := by decide +kernel
theorem dX0_start_25 : decode cX0_start 25 = .ok (.iconst 0, 1) := by decide +kernel
theorem dX0_start_26 : decode cX0_start 26 = .ok (.istore 4, 2) := by decide +kernel
theorem dX0_start_28 : decode cX0_start 28 = .ok (.iload 4, 2) := by decide +kernel
theorem dX0_start_30 : decode cX0_start 30 = .ok (.aload_n 1, 1) := by decide +kernel
theorem dX0_start_31 : decode cX0_start 31 = .ok (.getfield 49, 3) := by decide +kernel
theorem dX0_start_34 : decode cX0_start 34 = .ok (.if_icmp .ge 31, 3) := by decide +kernel
theorem dX0_start_37 : decode cX0_start 37 = .ok (.aload_n 1, 1) := by decide +kernel
theorem dX0_start_38 : decode cX0_start 38 = .ok (.iload 4, 2) := by decide +kernel
theorem dX0_start_40 : decode cX0_start 40 = .ok (.invokevirtual 52, 3) := by decide +kernel
theorem dX0_start_43 : decode cX0_start 43 = .ok (.ifCond .eq 16, 3) := by decide +kernel
theorem dX0_start_46 : decode cX0_start 46 = .ok (.aload_n 0, 1) := by decide +kernel
theorem dX0_start_47 : decode cX0_start 47 = .ok (.dup, 1) := by decide +kernel
theorem dX0_start_48 : decode cX0_start 48 = .ok (.getfield 31, 3) := by decide +kernel
theorem dX0_start_51 : decode cX0_start 51 = .ok (.iconst 1, 1) := by decide +kernel
theorem dX0_start_52 : decode cX0_start 52 = .ok (.iload 4, 2) := by decide +kernel
theorem dX0_start_54 : decode cX0_start 54 = .ok (.ishl, 1) := by decide +kernel
theorem dX0_start_55 : decode cX0_start 55 = .ok (.ior, 1) := by decide +kernel
theorem dX0_start_56 : decode cX0_start 56 = .ok (.putfield 31, 3) := by decide +kernel
theorem dX0_start_59 : decode cX0_start 59 = .ok (.iinc 4 1, 3) := by decide +kernel
theorem dX0_start_62 : decode cX0_start 62 = .ok (.goto (-34), 3) := by decide +kernel
theorem dX0_start_65 : decode cX0_start 65 = .ok (.aload_n 0, 1) := by decide +kernel
theorem dX0_start_66 : decode cX0_start 66 = .ok (.aload_n 0, 1) := by decide +kernel
theorem dX0_start_67 : decode cX0_start 67 = .ok (.getfield 31, 3) := by decide +kernel
theorem dX0_start_70 : decode cX0_start 70 = .ok (.invokestatic 56, 3) := by decide +kernel
theorem dX0_start_73 : decode cX0_start 73 = .ok (.putfield 34, 3) := by decide +kernel
theorem dX0_start_76 : decode cX0_start 76 = .ok (.aload_n 0, 1) := by decide +kernel
theorem dX0_start_77 : decode cX0_start 77 = .ok (.iconst (-1), 1) := by decide +kernel
theorem dX0_start_78 : decode cX0_start 78 = .ok (.putfield 37, 3) := by decide +kernel
theorem dX0_start_81 : decode cX0_start 81 = .ok (.return_, 1) := by decide +kernel
theorem dX0_tryAll_0 : decode cX0_tryAll 0 = .ok (.iload_n 2, 1) := by decide +kernel
theorem dX0_tryAll_1 : decode cX0_tryAll 1 = .ok (.ifCond .eq 9, 3) := by decide +kernel
theorem dX0_tryAll_4 : decode cX0_tryAll 4 = .ok (.iload_n 1, 1) := by decide +kernel
theorem dX0_tryAll_5 : decode cX0_tryAll 5 = .ok (.bipush 6, 2) := by decide +kernel
theorem dX0_tryAll_7 : decode cX0_tryAll 7 = .ok (.if_icmp .lt 9, 3) := by decide +kernel
theorem dX0_tryAll_10 : decode cX0_tryAll 10 = .ok (.aload_n 0, 1) := by decide +kernel
theorem dX0_tryAll_11 : decode cX0_tryAll 11 = .ok (.iload_n 3, 1) := by decide +kernel
theorem dX0_tryAll_12 : decode cX0_tryAll 12 = .ok (.invokevirtual 62, 3) := by decide +kernel
theorem dX0_tryAll_15 : decode cX0_tryAll 15 = .ok (.return_, 1) := by decide +kernel
theorem dX0_tryAll_16 : decode cX0_tryAll 16 = .ok (.aload_n 0, 1) := by decide +kernel
theorem dX0_tryAll_17 : decode cX0_tryAll 17 = .ok (.getfield 11, 3) := by decide +kernel
theorem dX0_tryAll_20 : decode cX0_tryAll 20 = .ok (.iconst 0, 1) := by decide +kernel
theorem dX0_tryAll_21 : decode cX0_tryAll 21 = .ok (.aaload, 1) := by decide +kernel
theorem dX0_tryAll_22 : decode cX0_tryAll 22 = .ok (.getfield 49, 3) := by decide +kernel
theorem dX0_tryAll_25 : decode cX0_tryAll 25 = .ok (.iconst 1, 1) := by decide +kernel
theorem dX0_tryAll_26 : decode cX0_tryAll 26 = .ok (.isub, 1) := by decide +kernel
theorem dX0_tryAll_27 : decode cX0_tryAll 27 = .ok (.istore 4, 2) := by decide +kernel
theorem dX0_tryAll_29 : decode cX0_tryAll 29 = .ok (.iload_n 3, 1) := by decide +kernel
theorem dX0_tryAll_30 : decode cX0_tryAll 30 = .ok (.iload_n 2, 1) := by decide +kernel
theorem dX0_tryAll_31 : decode cX0_tryAll 31 = .ok (.invokestatic 56, 3) := by decide +kernel
theorem dX0_tryAll_34 : decode cX0_tryAll 34 = .ok (.iload 4, 2) := by decide +kernel
theorem dX0_tryAll_36 : decode cX0_tryAll 36 = .ok (.imul, 1) := by decide +kernel
theorem dX0_tryAll_37 : decode cX0_tryAll 37 = .ok (.iadd, 1) := by decide +kernel
theorem dX0_tryAll_38 : decode cX0_tryAll 38 = .ok (.aload_n 0, 1) := by decide +kernel
theorem dX0_tryAll_39 : decode cX0_tryAll 39 = .ok (.getfield 37, 3) := by decide +kernel
theorem dX0_tryAll_42 : decode cX0_tryAll 42 = .ok (.if_icmp .gt 4, 3) := by decide +kernel
theorem dX0_tryAll_45 : decode cX0_tryAll 45 = .ok (.return_, 1) := by decide +kernel
theorem dX0_tryAll_46 : decode cX0_tryAll 46 = .ok (.iconst 0, 1) := by decide +kernel
theorem dX0_tryAll_47 : decode cX0_tryAll 47 = .ok (.istore 5, 2) := by decide +kernel
theorem dX0_tryAll_49 : decode cX0_tryAll 49 = .ok (.iload 5, 2) := by decide +kernel
theorem dX0_tryAll_51 : decode cX0_tryAll 51 = .ok (.bipush 6, 2) := by decide +kernel
theorem dX0_tryAll_53 : decode cX0_tryAll 53 = .ok (.if_icmp .ge 46, 3) := by decide +kernel
theorem dX0_tryAll_56 : decode cX0_tryAll 56 = .ok (.iload_n 2, 1) := by decide +kernel
theorem dX0_tryAll_57 : decode cX0_tryAll 57 = .ok (.iload 5, 2) := by decide +kernel
theorem dX0_tryAll_59 : decode cX0_tryAll 59 = .ok (.invokestatic 66, 3) := by decide +kernel
theorem dX0_tryAll_62 : decode cX0_tryAll 62 = .ok (.ifCond .eq 31, 3) := by decide +kernel
theorem dX0_tryAll_65 : decode cX0_tryAll 65 = .ok (.aload_n 0, 1) := by decide +kernel
theorem dX0_tryAll_66 : decode cX0_tryAll 66 = .ok (.iload_n 1, 1) := by decide +kernel
theorem dX0_tryAll_67 : decode cX0_tryAll 67 = .ok (.iload 5, 2) := by decide +kernel
theorem dX0_tryAll_69 : decode cX0_tryAll 69 = .ok (.invokevirtual 70, 3) := by decide +kernel
theorem dX0_tryAll_72 : decode cX0_tryAll 72 = .ok (.istore 6, 2) := by decide +kernel
theorem dX0_tryAll_74 : decode cX0_tryAll 74 = .ok (.aload_n 0, 1) := by decide +kernel
theorem dX0_tryAll_75 : decode cX0_tryAll 75 = .ok (.iload_n 1, 1) := by decide +kernel
theorem dX0_tryAll_76 : decode cX0_tryAll 76 = .ok (.iconst 1, 1) := by decide +kernel
theorem dX0_tryAll_77 : decode cX0_tryAll 77 = .ok (.iadd, 1) := by decide +kernel
theorem dX0_tryAll_78 : decode cX0_tryAll 78 = .ok (.iload_n 2, 1) := by decide +kernel
theorem dX0_tryAll_79 : decode cX0_tryAll 79 = .ok (.iconst 1, 1) := by decide +kernel
theorem dX0_tryAll_80 : decode cX0_tryAll 80 = .ok (.iload 5, 2) := by decide +kernel
theorem dX0_tryAll_82 : decode cX0_tryAll 82 = .ok (.ishl, 1) := by decide +kernel
theorem dX0_tryAll_83 : decode cX0_tryAll 83 = .ok (.iconst (-1), 1) := by decide +kernel
theorem dX0_tryAll_84 : decode cX0_tryAll 84 = .ok (.ixor, 1) := by decide +kernel
theorem dX0_tryAll_85 : decode cX0_tryAll 85 = .ok (.iand, 1) := by decide +kernel
theorem dX0_tryAll_86 : decode cX0_tryAll 86 = .ok (.iload_n 3, 1) := by decide +kernel
theorem dX0_tryAll_87 : decode cX0_tryAll 87 = .ok (.iload 6, 2) := by decide +kernel
theorem dX0_tryAll_89 : decode cX0_tryAll 89 = .ok (.iadd, 1) := by decide +kernel
theorem dX0_tryAll_90 : decode cX0_tryAll 90 = .ok (.invokestatic 74, 3) := by decide +kernel
theorem dX0_tryAll_93 : decode cX0_tryAll 93 = .ok (.iinc 5 1, 3) := by decide +kernel
theorem dX0_tryAll_96 : decode cX0_tryAll 96 = .ok (.goto (-47), 3) := by decide +kernel
theorem dX0_tryAll_99 : decode cX0_tryAll 99 = .ok (.return_, 1) := by decide +kernel
theorem dX0_step_0 : decode cX0_step 0 = .ok (.aload_n 0, 1) := by decide +kernel
theorem dX0_step_1 : decode cX0_step 1 = .ok (.getfield 17, 3) := by decide +kernel
theorem dX0_step_4 : decode cX0_step 4 = .ok (.iload_n 1, 1) := by decide +kernel
theorem dX0_step_5 : decode cX0_step 5 = .ok (.iload_n 2, 1) := by decide +kernel
theorem dX0_step_6 : decode cX0_step 6 = .ok (.iastore, 1) := by decide +kernel
theorem dX0_step_7 : decode cX0_step 7 = .ok (.aload_n 0, 1) := by decide +kernel
theorem dX0_step_8 : decode cX0_step 8 = .ok (.getfield 11, 3) := by decide +kernel
theorem dX0_step_11 : decode cX0_step 11 = .ok (.iload_n 1, 1) := by decide +kernel
theorem dX0_step_12 : decode cX0_step 12 = .ok (.iconst 1, 1) := by decide +kernel
theorem dX0_step_13 : decode cX0_step 13 = .ok (.iadd, 1) := by decide +kernel
theorem dX0_step_14 : decode cX0_step 14 = .ok (.aaload, 1) := by decide +kernel
theorem dX0_step_15 : decode cX0_step 15 = .ok (.astore_n 3, 1) := by decide +kernel
theorem dX0_step_16 : decode cX0_step 16 = .ok (.aload_n 3, 1) := by decide +kernel
theorem dX0_step_17 : decode cX0_step 17 = .ok (.aload_n 0, 1) := by decide +kernel
theorem dX0_step_18 : decode cX0_step 18 = .ok (.getfield 11, 3) := by decide +kernel
theorem dX0_step_21 : decode cX0_step 21 = .ok (.iload_n 1, 1) := by decide +kernel
theorem dX0_step_22 : decode cX0_step 22 = .ok (.aaload, 1) := by decide +kernel
theorem dX0_step_23 : decode cX0_step 23 = .ok (.invokevirtual 45, 3) := by decide +kernel
theorem dX0_step_26 : decode cX0_step 26 = .ok (.aload_n 3, 1) := by decide +kernel
theorem dX0_step_27 : decode cX0_step 27 = .ok (.iload_n 2, 1) := by decide +kernel
theorem dX0_step_28 : decode cX0_step 28 = .ok (.aload_n 0, 1) := by decide +kernel
theorem dX0_step_29 : decode cX0_step 29 = .ok (.getfield 24, 3) := by decide +kernel
theorem dX0_step_32 : decode cX0_step 32 = .ok (.aload_n 0, 1) := by decide +kernel
theorem dX0_step_33 : decode cX0_step 33 = .ok (.getfield 28, 3) := by decide +kernel
theorem dX0_step_36 : decode cX0_step 36 = .ok (.invokevirtual 78, 3) := by decide +kernel
theorem dX0_step_39 : decode cX0_step 39 = .ok (.ifCond .ne 5, 3) := by decide +kernel
theorem dX0_step_42 : decode cX0_step 42 = .ok (.iconst 0, 1) := by decide +kernel
theorem dX0_step_43 : decode cX0_step 43 = .ok (.ireturn, 1) := by decide +kernel
theorem dX0_step_44 : decode cX0_step 44 = .ok (.aload_n 3, 1) := by decide +kernel
theorem dX0_step_45 : decode cX0_step 45 = .ok (.iload_n 2, 1) := by decide +kernel
theorem dX0_step_46 : decode cX0_step 46 = .ok (.aload_n 0, 1) := by decide +kernel
theorem dX0_step_47 : decode cX0_step 47 = .ok (.getfield 24, 3) := by decide +kernel
theorem dX0_step_50 : decode cX0_step 50 = .ok (.aload_n 0, 1) := by decide +kernel
theorem dX0_step_51 : decode cX0_step 51 = .ok (.getfield 28, 3) := by decide +kernel
theorem dX0_step_54 : decode cX0_step 54 = .ok (.invokevirtual 82, 3) := by decide +kernel
theorem dX0_step_57 : decode cX0_step 57 = .ok (.invokestatic 56, 3) := by decide +kernel
theorem dX0_step_60 : decode cX0_step 60 = .ok (.ireturn, 1) := by decide +kernel
theorem dX0_note_0 : decode cX0_note 0 = .ok (.iload_n 1, 1) := by decide +kernel
theorem dX0_note_1 : decode cX0_note 1 = .ok (.aload_n 0, 1) := by decide +kernel
theorem dX0_note_2 : decode cX0_note 2 = .ok (.getfield 37, 3) := by decide +kernel
theorem dX0_note_5 : decode cX0_note 5 = .ok (.if_icmp .gt 4, 3) := by decide +kernel
theorem dX0_note_8 : decode cX0_note 8 = .ok (.return_, 1) := by decide +kernel
theorem dX0_note_9 : decode cX0_note 9 = .ok (.aload_n 0, 1) := by decide +kernel
theorem dX0_note_10 : decode cX0_note 10 = .ok (.iload_n 1, 1) := by decide +kernel
theorem dX0_note_11 : decode cX0_note 11 = .ok (.putfield 37, 3) := by decide +kernel
theorem dX0_note_14 : decode cX0_note 14 = .ok (.aload_n 0, 1) := by decide +kernel
theorem dX0_note_15 : decode cX0_note 15 = .ok (.getfield 17, 3) := by decide +kernel
theorem dX0_note_18 : decode cX0_note 18 = .ok (.iconst 0, 1) := by decide +kernel
theorem dX0_note_19 : decode cX0_note 19 = .ok (.aload_n 0, 1) := by decide +kernel
theorem dX0_note_20 : decode cX0_note 20 = .ok (.getfield 21, 3) := by decide +kernel
theorem dX0_note_23 : decode cX0_note 23 = .ok (.iconst 0, 1) := by decide +kernel
theorem dX0_note_24 : decode cX0_note 24 = .ok (.bipush 6, 2) := by decide +kernel
theorem dX0_note_26 : decode cX0_note 26 = .ok (.invokestatic 86, 3) := by decide +kernel
theorem dX0_note_29 : decode cX0_note 29 = .ok (.return_, 1) := by decide +kernel
theorem dX1_init_0 : decode cX1_init 0 = .ok (.aload_n 0, 1) := by decide +kernel
theorem dX1_init_1 : decode cX1_init 1 = .ok (.invokespecial 1, 3) := by decide +kernel
theorem dX1_init_4 : decode cX1_init 4 = .ok (.aload_n 0, 1) := by decide +kernel
theorem dX1_init_5 : decode cX1_init 5 = .ok (.iconst 0, 1) := by decide +kernel
theorem dX1_init_6 : decode cX1_init 6 = .ok (.putfield 7, 3) := by decide +kernel
theorem dX1_init_9 : decode cX1_init 9 = .ok (.aload_n 0, 1) := by decide +kernel
theorem dX1_init_10 : decode cX1_init 10 = .ok (.iconst 0, 1) := by decide +kernel
theorem dX1_init_11 : decode cX1_init 11 = .ok (.putfield 13, 3) := by decide +kernel
theorem dX1_init_14 : decode cX1_init 14 = .ok (.aload_n 0, 1) := by decide +kernel
theorem dX1_init_15 : decode cX1_init 15 = .ok (.iconst 1, 1) := by decide +kernel
theorem dX1_init_16 : decode cX1_init 16 = .ok (.iload_n 1, 1) := by decide +kernel
theorem dX1_init_17 : decode cX1_init 17 = .ok (.invokestatic 16, 3) := by decide +kernel
theorem dX1_init_20 : decode cX1_init 20 = .ok (.anewarray 22, 3) := by decide +kernel
theorem dX1_init_23 : decode cX1_init 23 = .ok (.putfield 24, 3) := by decide +kernel
theorem dX1_init_26 : decode cX1_init 26 = .ok (.iconst 0, 1) := by decide +kernel
theorem dX1_init_27 : decode cX1_init 27 = .ok (.istore_n 2, 1) := by decide +kernel
theorem dX1_init_28 : decode cX1_init 28 = .ok (.iload_n 2, 1) := by decide +kernel
theorem dX1_init_29 : decode cX1_init 29 = .ok (.aload_n 0, 1) := by decide +kernel
theorem dX1_init_30 : decode cX1_init 30 = .ok (.getfield 24, 3) := by decide +kernel
theorem dX1_init_33 : decode cX1_init 33 = .ok (.arraylength, 1) := by decide +kernel
theorem dX1_init_34 : decode cX1_init 34 = .ok (.if_icmp .ge 22, 3) := by decide +kernel
theorem dX1_init_37 : decode cX1_init 37 = .ok (.aload_n 0, 1) := by decide +kernel
theorem dX1_init_38 : decode cX1_init 38 = .ok (.getfield 24, 3) := by decide +kernel
theorem dX1_init_41 : decode cX1_init 41 = .ok (.iload_n 2, 1) := by decide +kernel
theorem dX1_init_42 : decode cX1_init 42 = .ok (.new 22, 3) := by decide +kernel
theorem dX1_init_45 : decode cX1_init 45 = .ok (.dup, 1) := by decide +kernel
theorem dX1_init_46 : decode cX1_init 46 = .ok (.invokespecial 28, 3) := by decide +kernel
theorem dX1_init_49 : decode cX1_init 49 = .ok (.aastore, 1) := by decide +kernel
theorem dX1_init_50 : decode cX1_init 50 = .ok (.iinc 2 1, 3) := by decide +kernel
theorem dX1_init_53 : decode cX1_init 53 = .ok (.goto (-25), 3) := by decide +kernel
theorem dX1_init_56 : decode cX1_init 56 = .ok (.return_, 1) := by decide +kernel
theorem dX1_put_0 : decode cX1_put 0 = .ok (.aload_n 0, 1) := by decide +kernel
theorem dX1_put_1 : decode cX1_put 1 = .ok (.getfield 24, 3) := by decide +kernel
theorem dX1_put_4 : decode cX1_put 4 = .ok (.aload_n 0, 1) := by decide +kernel
theorem dX1_put_5 : decode cX1_put 5 = .ok (.getfield 13, 3) := by decide +kernel
theorem dX1_put_8 : decode cX1_put 8 = .ok (.aaload, 1) := by decide +kernel
theorem dX1_put_9 : decode cX1_put 9 = .ok (.aload_n 1, 1) := by decide +kernel
theorem dX1_put_10 : decode cX1_put 10 = .ok (.invokevirtual 29, 3) := by decide +kernel
theorem dX1_put_13 : decode cX1_put 13 = .ok (.aload_n 0, 1) := by decide +kernel
theorem dX1_put_14 : decode cX1_put 14 = .ok (.aload_n 0, 1) := by decide +kernel
theorem dX1_put_15 : decode cX1_put 15 = .ok (.getfield 13, 3) := by decide +kernel
theorem dX1_put_18 : decode cX1_put 18 = .ok (.iconst 1, 1) := by decide +kernel
theorem dX1_put_19 : decode cX1_put 19 = .ok (.iadd, 1) := by decide +kernel
theorem dX1_put_20 : decode cX1_put 20 = .ok (.aload_n 0, 1) := by decide +kernel
theorem dX1_put_21 : decode cX1_put 21 = .ok (.getfield 24, 3) := by decide +kernel
theorem dX1_put_24 : decode cX1_put 24 = .ok (.arraylength, 1) := by decide +kernel
theorem dX1_put_25 : decode cX1_put 25 = .ok (.irem, 1) := by decide +kernel
theorem dX1_put_26 : decode cX1_put 26 = .ok (.putfield 13, 3) := by decide +kernel
theorem dX1_put_29 : decode cX1_put 29 = .ok (.aload_n 0, 1) := by decide +kernel
theorem dX1_put_30 : decode cX1_put 30 = .ok (.aload_n 0, 1) := by decide +kernel
theorem dX1_put_31 : decode cX1_put 31 = .ok (.getfield 24, 3) := by decide +kernel
theorem dX1_put_34 : decode cX1_put 34 = .ok (.arraylength, 1) := by decide +kernel
theorem dX1_put_35 : decode cX1_put 35 = .ok (.aload_n 0, 1) := by decide +kernel
theorem dX1_put_36 : decode cX1_put 36 = .ok (.getfield 7, 3) := by decide +kernel
theorem dX1_put_39 : decode cX1_put 39 = .ok (.iconst 1, 1) := by decide +kernel
theorem dX1_put_40 : decode cX1_put 40 = .ok (.iadd, 1) := by decide +kernel
theorem dX1_put_41 : decode cX1_put 41 = .ok (.invokestatic 33, 3) := by decide +kernel
theorem dX1_put_44 : decode cX1_put 44 = .ok (.putfield 7, 3) := by decide +kernel
theorem dX1_put_47 : decode cX1_put 47 = .ok (.return_, 1) := by decide +kernel
theorem dX1_takeInto_0 : decode cX1_takeInto 0 = .ok (.aload_n 0, 1) := by decide +kernel
theorem dX1_takeInto_1 : decode cX1_takeInto 1 = .ok (.getfield 7, 3) := by decide +kernel
theorem dX1_takeInto_4 : decode cX1_takeInto 4 = .ok (.ifCond .ne 4, 3) := by decide +kernel
theorem dX1_takeInto_7 : decode cX1_takeInto 7 = .ok (.return_, 1) := by decide +kernel
theorem dX1_takeInto_8 : decode cX1_takeInto 8 = .ok (.aload_n 0, 1) := by decide +kernel
theorem dX1_takeInto_9 : decode cX1_takeInto 9 = .ok (.aload_n 0, 1) := by decide +kernel
theorem dX1_takeInto_10 : decode cX1_takeInto 10 = .ok (.getfield 13, 3) := by decide +kernel
theorem dX1_takeInto_13 : decode cX1_takeInto 13 = .ok (.aload_n 0, 1) := by decide +kernel
theorem dX1_takeInto_14 : decode cX1_takeInto 14 = .ok (.getfield 24, 3) := by decide +kernel
theorem dX1_takeInto_17 : decode cX1_takeInto 17 = .ok (.arraylength, 1) := by decide +kernel
theorem dX1_takeInto_18 : decode cX1_takeInto 18 = .ok (.iadd, 1) := by decide +kernel
theorem dX1_takeInto_19 : decode cX1_takeInto 19 = .ok (.iconst 1, 1) := by decide +kernel
theorem dX1_takeInto_20 : decode cX1_takeInto 20 = .ok (.isub, 1) := by decide +kernel
theorem dX1_takeInto_21 : decode cX1_takeInto 21 = .ok (.aload_n 0, 1) := by decide +kernel
theorem dX1_takeInto_22 : decode cX1_takeInto 22 = .ok (.getfield 24, 3) := by decide +kernel
theorem dX1_takeInto_25 : decode cX1_takeInto 25 = .ok (.arraylength, 1) := by decide +kernel
theorem dX1_takeInto_26 : decode cX1_takeInto 26 = .ok (.irem, 1) := by decide +kernel
theorem dX1_takeInto_27 : decode cX1_takeInto 27 = .ok (.putfield 13, 3) := by decide +kernel
theorem dX1_takeInto_30 : decode cX1_takeInto 30 = .ok (.aload_n 1, 1) := by decide +kernel
theorem dX1_takeInto_31 : decode cX1_takeInto 31 = .ok (.aload_n 0, 1) := by decide +kernel
theorem dX1_takeInto_32 : decode cX1_takeInto 32 = .ok (.getfield 24, 3) := by decide +kernel
theorem dX1_takeInto_35 : decode cX1_takeInto 35 = .ok (.aload_n 0, 1) := by decide +kernel
theorem dX1_takeInto_36 : decode cX1_takeInto 36 = .ok (.getfield 13, 3) := by decide +kernel
theorem dX1_takeInto_39 : decode cX1_takeInto 39 = .ok (.aaload, 1) := by decide +kernel
theorem dX1_takeInto_40 : decode cX1_takeInto 40 = .ok (.invokevirtual 29, 3) := by decide +kernel
theorem dX1_takeInto_43 : decode cX1_takeInto 43 = .ok (.aload_n 0, 1) := by decide +kernel
theorem dX1_takeInto_44 : decode cX1_takeInto 44 = .ok (.dup, 1) := by decide +kernel
theorem dX1_takeInto_45 : decode cX1_takeInto 45 = .ok (.getfield 7, 3) := by decide +kernel
theorem dX1_takeInto_48 : decode cX1_takeInto 48 = .ok (.iconst 1, 1) := by decide +kernel
theorem dX1_takeInto_49 : decode cX1_takeInto 49 = .ok (.isub, 1) := by decide +kernel
theorem dX1_takeInto_50 : decode cX1_takeInto 50 = .ok (.putfield 7, 3) := by decide +kernel
theorem dX1_takeInto_53 : decode cX1_takeInto 53 = .ok (.return_, 1) := by decide +kernel
theorem dX1_clear_0 : decode cX1_clear 0 = .ok (.aload_n 0, 1) := by decide +kernel
theorem dX1_clear_1 : decode cX1_clear 1 = .ok (.iconst 0, 1) := by decide +kernel
theorem dX1_clear_2 : decode cX1_clear 2 = .ok (.putfield 7, 3) := by decide +kernel
theorem dX1_clear_5 : decode cX1_clear 5 = .ok (.return_, 1) := by decide +kernel
theorem dX2_init_0 : decode cX2_init 0 = .ok (.aload_n 0, 1) := by decide +kernel
theorem dX2_init_1 : decode cX2_init 1 = .ok (.invokespecial 3, 3) := by decide +kernel
theorem dX2_init_4 : decode cX2_init 4 = .ok (.aload_n 0, 1) := by decide +kernel
theorem dX2_init_5 : decode cX2_init 5 = .ok (.bipush 6, 2) := by decide +kernel
theorem dX2_init_7 : decode cX2_init 7 = .ok (.newarray .int, 2) := by decide +kernel
theorem dX2_init_9 : decode cX2_init 9 = .ok (.putfield 9, 3) := by decide +kernel
theorem dX2_init_12 : decode cX2_init 12 = .ok (.aload_n 0, 1) := by decide +kernel
theorem dX2_init_13 : decode cX2_init 13 = .ok (.bipush 6, 2) := by decide +kernel
theorem dX2_init_15 : decode cX2_init 15 = .ok (.newarray .int, 2) := by decide +kernel
theorem dX2_init_17 : decode cX2_init 17 = .ok (.putfield 15, 3) := by decide +kernel
theorem dX2_init_20 : decode cX2_init 20 = .ok (.aload_n 0, 1) := by decide +kernel
theorem dX2_init_21 : decode cX2_init 21 = .ok (.bipush 6, 2) := by decide +kernel
theorem dX2_init_23 : decode cX2_init 23 = .ok (.newarray .int, 2) := by decide +kernel
theorem dX2_init_25 : decode cX2_init 25 = .ok (.putfield 18, 3) := by decide +kernel
theorem dX2_init_28 : decode cX2_init 28 = .ok (.aload_n 0, 1) := by decide +kernel
theorem dX2_init_29 : decode cX2_init 29 = .ok (.bipush 6, 2) := by decide +kernel
theorem dX2_init_31 : decode cX2_init 31 = .ok (.newarray .int, 2) := by decide +kernel
theorem dX2_init_33 : decode cX2_init 33 = .ok (.putfield 21, 3) := by decide +kernel
theorem dX2_init_36 : decode cX2_init 36 = .ok (.aload_n 0, 1) := by decide +kernel
theorem dX2_init_37 : decode cX2_init 37 = .ok (.bipush 6, 2) := by decide +kernel
theorem dX2_init_39 : decode cX2_init 39 = .ok (.newarray .boolean, 2) := by decide +kernel
theorem dX2_init_41 : decode cX2_init 41 = .ok (.putfield 24, 3) := by decide +kernel
theorem dX2_init_44 : decode cX2_init 44 = .ok (.aload_n 0, 1) := by decide +kernel
theorem dX2_init_45 : decode cX2_init 45 = .ok (.iconst 0, 1) := by decide +kernel
theorem dX2_init_46 : decode cX2_init 46 = .ok (.putfield 28, 3) := by decide +kernel
theorem dX2_init_49 : decode cX2_init 49 = .ok (.return_, 1) := by decide +kernel
theorem dX2_add_0 : decode cX2_add 0 = .ok (.aload_n 0, 1) := by decide +kernel
theorem dX2_add_1 : decode cX2_add 1 = .ok (.getfield 28, 3) := by decide +kernel
theorem dX2_add_4 : decode cX2_add 4 = .ok (.bipush 6, 2) := by decide +kernel
theorem dX2_add_6 : decode cX2_add 6 = .ok (.if_icmp .lt 4, 3) := by decide +kernel
theorem dX2_add_9 : decode cX2_add 9 = .ok (.return_, 1) := by decide +kernel
theorem dX2_add_10 : decode cX2_add 10 = .ok (.aload_n 0, 1) := by decide +kernel
theorem dX2_add_11 : decode cX2_add 11 = .ok (.getfield 9, 3) := by decide +kernel
theorem dX2_add_14 : decode cX2_add 14 = .ok (.aload_n 0, 1) := by decide +kernel
theorem dX2_add_15 : decode cX2_add 15 = .ok (.getfield 28, 3) := by decide +kernel
theorem dX2_add_18 : decode cX2_add 18 = .ok (.iload_n 1, 1) := by decide +kernel
theorem dX2_add_19 : decode cX2_add 19 = .ok (.iastore, 1) := by decide +kernel
theorem dX2_add_20 : decode cX2_add 20 = .ok (.aload_n 0, 1) := by decide +kernel
theorem dX2_add_21 : decode cX2_add 21 = .ok (.getfield 15, 3) := by decide +kernel
theorem dX2_add_24 : decode cX2_add 24 = .ok (.aload_n 0, 1) := by decide +kernel
theorem dX2_add_25 : decode cX2_add 25 = .ok (.getfield 28, 3) := by decide +kernel
theorem dX2_add_28 : decode cX2_add 28 = .ok (.iload_n 2, 1) := by decide +kernel
theorem dX2_add_29 : decode cX2_add 29 = .ok (.iastore, 1) := by decide +kernel
theorem dX2_add_30 : decode cX2_add 30 = .ok (.aload_n 0, 1) := by decide +kernel
theorem dX2_add_31 : decode cX2_add 31 = .ok (.getfield 18, 3) := by decide +kernel
theorem dX2_add_34 : decode cX2_add 34 = .ok (.aload_n 0, 1) := by decide +kernel
theorem dX2_add_35 : decode cX2_add 35 = .ok (.getfield 28, 3) := by decide +kernel
theorem dX2_add_38 : decode cX2_add 38 = .ok (.iload_n 3, 1) := by decide +kernel
theorem dX2_add_39 : decode cX2_add 39 = .ok (.iastore, 1) := by decide +kernel
theorem dX2_add_40 : decode cX2_add 40 = .ok (.aload_n 0, 1) := by decide +kernel
theorem dX2_add_41 : decode cX2_add 41 = .ok (.getfield 21, 3) := by decide +kernel
theorem dX2_add_44 : decode cX2_add 44 = .ok (.aload_n 0, 1) := by decide +kernel
theorem dX2_add_45 : decode cX2_add 45 = .ok (.getfield 28, 3) := by decide +kernel
theorem dX2_add_48 : decode cX2_add 48 = .ok (.iload 4, 2) := by decide +kernel
theorem dX2_add_50 : decode cX2_add 50 = .ok (.iastore, 1) := by decide +kernel
theorem dX2_add_51 : decode cX2_add 51 = .ok (.aload_n 0, 1) := by decide +kernel
theorem dX2_add_52 : decode cX2_add 52 = .ok (.getfield 24, 3) := by decide +kernel
theorem dX2_add_55 : decode cX2_add 55 = .ok (.aload_n 0, 1) := by decide +kernel
theorem dX2_add_56 : decode cX2_add 56 = .ok (.getfield 28, 3) := by decide +kernel
theorem dX2_add_59 : decode cX2_add 59 = .ok (.iload 5, 2) := by decide +kernel
theorem dX2_add_61 : decode cX2_add 61 = .ok (.bastore, 1) := by decide +kernel
theorem dX2_add_62 : decode cX2_add 62 = .ok (.aload_n 0, 1) := by decide +kernel
theorem dX2_add_63 : decode cX2_add 63 = .ok (.dup, 1) := by decide +kernel
theorem dX2_add_64 : decode cX2_add 64 = .ok (.getfield 28, 3) := by decide +kernel
theorem dX2_add_67 : decode cX2_add 67 = .ok (.iconst 1, 1) := by decide +kernel
theorem dX2_add_68 : decode cX2_add 68 = .ok (.iadd, 1) := by decide +kernel
theorem dX2_add_69 : decode cX2_add 69 = .ok (.putfield 28, 3) := by decide +kernel
theorem dX2_add_72 : decode cX2_add 72 = .ok (.return_, 1) := by decide +kernel
theorem dX2_tiesThatFit_0 : decode cX2_tiesThatFit 0 = .ok (.iconst 0, 1) := by decide +kernel
theorem dX2_tiesThatFit_1 : decode cX2_tiesThatFit 1 = .ok (.istore 4, 2) := by decide +kernel
theorem dX2_tiesThatFit_3 : decode cX2_tiesThatFit 3 = .ok (.bipush (-4), 2) := by decide +kernel
theorem dX2_tiesThatFit_5 : decode cX2_tiesThatFit 5 = .ok (.istore 5, 2) := by decide +kernel
theorem dX2_tiesThatFit_7 : decode cX2_tiesThatFit 7 = .ok (.iload 5, 2) := by decide +kernel
theorem dX2_tiesThatFit_9 : decode cX2_tiesThatFit 9 = .ok (.iconst 5, 1) := by decide +kernel
theorem dX2_tiesThatFit_10 : decode cX2_tiesThatFit 10 = .ok (.if_icmp .gt 32, 3) := by decide +kernel
theorem dX2_tiesThatFit_13 : decode cX2_tiesThatFit 13 = .ok (.aload_n 0, 1) := by decide +kernel
theorem dX2_tiesThatFit_14 : decode cX2_tiesThatFit 14 = .ok (.aload_n 1, 1) := by decide +kernel
theorem dX2_tiesThatFit_15 : decode cX2_tiesThatFit 15 = .ok (.iload_n 2, 1) := by decide +kernel
theorem dX2_tiesThatFit_16 : decode cX2_tiesThatFit 16 = .ok (.iload_n 3, 1) := by decide +kernel
theorem dX2_tiesThatFit_17 : decode cX2_tiesThatFit 17 = .ok (.iload 5, 2) := by decide +kernel
theorem dX2_tiesThatFit_19 : decode cX2_tiesThatFit 19 = .ok (.invokevirtual 32, 3) := by decide +kernel
theorem dX2_tiesThatFit_22 : decode cX2_tiesThatFit 22 = .ok (.ifCond .eq 14, 3) := by decide +kernel
theorem dX2_tiesThatFit_25 : decode cX2_tiesThatFit 25 = .ok (.iload 4, 2) := by decide +kernel
theorem dX2_tiesThatFit_27 : decode cX2_tiesThatFit 27 = .ok (.iconst 1, 1) := by decide +kernel
theorem dX2_tiesThatFit_28 : decode cX2_tiesThatFit 28 = .ok (.iload 5, 2) := by decide +kernel
theorem dX2_tiesThatFit_30 : decode cX2_tiesThatFit 30 = .ok (.iconst 4, 1) := by decide +kernel
theorem dX2_tiesThatFit_31 : decode cX2_tiesThatFit 31 = .ok (.iadd, 1) := by decide +kernel
theorem dX2_tiesThatFit_32 : decode cX2_tiesThatFit 32 = .ok (.ishl, 1) := by decide +kernel
theorem dX2_tiesThatFit_33 : decode cX2_tiesThatFit 33 = .ok (.ior, 1) := by decide +kernel
theorem dX2_tiesThatFit_34 : decode cX2_tiesThatFit 34 = .ok (.istore 4, 2) := by decide +kernel
theorem dX2_tiesThatFit_36 : decode cX2_tiesThatFit 36 = .ok (.iinc 5 1, 3) := by decide +kernel
theorem dX2_tiesThatFit_39 : decode cX2_tiesThatFit 39 = .ok (.goto (-32), 3) := by decide +kernel
theorem dX2_tiesThatFit_42 : decode cX2_tiesThatFit 42 = .ok (.iload 4, 2) := by decide +kernel
theorem dX2_tiesThatFit_44 : decode cX2_tiesThatFit 44 = .ok (.ireturn, 1) := by decide +kernel
theorem dX2_kindsThatFit_0 : decode cX2_kindsThatFit 0 = .ok (.iconst 0, 1) := by decide +kernel
theorem dX2_kindsThatFit_1 : decode cX2_kindsThatFit 1 = .ok (.istore_n 3, 1) := by decide +kernel
theorem dX2_kindsThatFit_2 : decode cX2_kindsThatFit 2 = .ok (.iconst 0, 1) := by decide +kernel
theorem dX2_kindsThatFit_3 : decode cX2_kindsThatFit 3 = .ok (.istore 4, 2) := by decide +kernel
theorem dX2_kindsThatFit_5 : decode cX2_kindsThatFit 5 = .ok (.iload 4, 2) := by decide +kernel
theorem dX2_kindsThatFit_7 : decode cX2_kindsThatFit 7 = .ok (.iconst 4, 1) := by decide +kernel
theorem dX2_kindsThatFit_8 : decode cX2_kindsThatFit 8 = .ok (.if_icmp .gt 27, 3) := by decide +kernel
theorem dX2_kindsThatFit_11 : decode cX2_kindsThatFit 11 = .ok (.aload_n 0, 1) := by decide +kernel
theorem dX2_kindsThatFit_12 : decode cX2_kindsThatFit 12 = .ok (.aload_n 1, 1) := by decide +kernel
theorem dX2_kindsThatFit_13 : decode cX2_kindsThatFit 13 = .ok (.iload_n 2, 1) := by decide +kernel
theorem dX2_kindsThatFit_14 : decode cX2_kindsThatFit 14 = .ok (.iload 4, 2) := by decide +kernel
theorem dX2_kindsThatFit_16 : decode cX2_kindsThatFit 16 = .ok (.invokevirtual 36, 3) := by decide +kernel
theorem dX2_kindsThatFit_19 : decode cX2_kindsThatFit 19 = .ok (.ifCond .eq 10, 3) := by decide +kernel
theorem dX2_kindsThatFit_22 : decode cX2_kindsThatFit 22 = .ok (.iload_n 3, 1) := by decide +kernel
theorem dX2_kindsThatFit_23 : decode cX2_kindsThatFit 23 = .ok (.iconst 1, 1) := by decide +kernel
theorem dX2_kindsThatFit_24 : decode cX2_kindsThatFit 24 = .ok (.iload 4, 2) := by decide +kernel
theorem dX2_kindsThatFit_26 : decode cX2_kindsThatFit 26 = .ok (.ishl, 1) := by decide +kernel
theorem dX2_kindsThatFit_27 : decode cX2_kindsThatFit 27 = .ok (.ior, 1) := by decide +kernel
theorem dX2_kindsThatFit_28 : decode cX2_kindsThatFit 28 = .ok (.istore_n 3, 1) := by decide +kernel
theorem dX2_kindsThatFit_29 : decode cX2_kindsThatFit 29 = .ok (.iinc 4 1, 3) := by decide +kernel
theorem dX2_kindsThatFit_32 : decode cX2_kindsThatFit 32 = .ok (.goto (-27), 3) := by decide +kernel
theorem dX2_kindsThatFit_35 : decode cX2_kindsThatFit 35 = .ok (.iload_n 3, 1) := by decide +kernel
theorem dX2_kindsThatFit_36 : decode cX2_kindsThatFit 36 = .ok (.ireturn, 1) := by decide +kernel
theorem dX2_tieFits_0 : decode cX2_tieFits 0 = .ok (.iconst 0, 1) := by decide +kernel
theorem dX2_tieFits_1 : decode cX2_tieFits 1 = .ok (.istore 5, 2) := by decide +kernel
theorem dX2_tieFits_3 : decode cX2_tieFits 3 = .ok (.iload 5, 2) := by decide +kernel
theorem dX2_tieFits_5 : decode cX2_tieFits 5 = .ok (.aload_n 0, 1) := by decide +kernel
theorem dX2_tieFits_6 : decode cX2_tieFits 6 = .ok (.getfield 28, 3) := by decide +kernel
theorem dX2_tieFits_9 : decode cX2_tieFits 9 = .ok (.if_icmp .ge 63, 3) := by decide +kernel
theorem dX2_tieFits_12 : decode cX2_tieFits 12 = .ok (.aload_n 0, 1) := by decide +kernel
theorem dX2_tieFits_13 : decode cX2_tieFits 13 = .ok (.getfield 9, 3) := by decide +kernel
theorem dX2_tieFits_16 : decode cX2_tieFits 16 = .ok (.iload 5, 2) := by decide +kernel
theorem dX2_tieFits_18 : decode cX2_tieFits 18 = .ok (.iaload, 1) := by decide +kernel
theorem dX2_tieFits_19 : decode cX2_tieFits 19 = .ok (.iload_n 2, 1) := by decide +kernel
theorem dX2_tieFits_20 : decode cX2_tieFits 20 = .ok (.if_icmp .ne 18, 3) := by decide +kernel
theorem dX2_tieFits_23 : decode cX2_tieFits 23 = .ok (.aload_n 0, 1) := by decide +kernel
theorem dX2_tieFits_24 : decode cX2_tieFits 24 = .ok (.getfield 15, 3) := by decide +kernel
theorem dX2_tieFits_27 : decode cX2_tieFits 27 = .ok (.iload 5, 2) := by decide +kernel
theorem dX2_tieFits_29 : decode cX2_tieFits 29 = .ok (.iaload, 1) := by decide +kernel
theorem dX2_tieFits_30 : decode cX2_tieFits 30 = .ok (.iload_n 3, 1) := by decide +kernel
theorem dX2_tieFits_31 : decode cX2_tieFits 31 = .ok (.if_icmp .ne 7, 3) := by decide +kernel
theorem dX2_tieFits_34 : decode cX2_tieFits 34 = .ok (.iconst 1, 1) := by decide +kernel
theorem dX2_tieFits_35 : decode cX2_tieFits 35 = .ok (.goto 4, 3) := by decide +kernel
theorem dX2_tieFits_38 : decode cX2_tieFits 38 = .ok (.iconst 0, 1) := by decide +kernel
theorem dX2_tieFits_39 : decode cX2_tieFits 39 = .ok (.istore 6, 2) := by decide +kernel
theorem dX2_tieFits_41 : decode cX2_tieFits 41 = .ok (.iload 6, 2) := by decide +kernel
theorem dX2_tieFits_43 : decode cX2_tieFits 43 = .ok (.ifCond .eq 23, 3) := by decide +kernel
theorem dX2_tieFits_46 : decode cX2_tieFits 46 = .ok (.aload_n 0, 1) := by decide +kernel
theorem dX2_tieFits_47 : decode cX2_tieFits 47 = .ok (.iload 5, 2) := by decide +kernel
theorem dX2_tieFits_49 : decode cX2_tieFits 49 = .ok (.aload_n 1, 1) := by decide +kernel
theorem dX2_tieFits_50 : decode cX2_tieFits 50 = .ok (.aload_n 1, 1) := by decide +kernel
theorem dX2_tieFits_51 : decode cX2_tieFits 51 = .ok (.getfield 40, 3) := by decide +kernel
theorem dX2_tieFits_54 : decode cX2_tieFits 54 = .ok (.iload_n 2, 1) := by decide +kernel
theorem dX2_tieFits_55 : decode cX2_tieFits 55 = .ok (.iaload, 1) := by decide +kernel
theorem dX2_tieFits_56 : decode cX2_tieFits 56 = .ok (.iload 4, 2) := by decide +kernel
theorem dX2_tieFits_58 : decode cX2_tieFits 58 = .ok (.invokevirtual 45, 3) := by decide +kernel
theorem dX2_tieFits_61 : decode cX2_tieFits 61 = .ok (.ifCond .ne 5, 3) := by decide +kernel
theorem dX2_tieFits_64 : decode cX2_tieFits 64 = .ok (.iconst 0, 1) := by decide +kernel
theorem dX2_tieFits_65 : decode cX2_tieFits 65 = .ok (.ireturn, 1) := by decide +kernel
theorem dX2_tieFits_66 : decode cX2_tieFits 66 = .ok (.iinc 5 1, 3) := by decide +kernel
theorem dX2_tieFits_69 : decode cX2_tieFits 69 = .ok (.goto (-66), 3) := by decide +kernel
theorem dX2_tieFits_72 : decode cX2_tieFits 72 = .ok (.iconst 1, 1) := by decide +kernel
theorem dX2_tieFits_73 : decode cX2_tieFits 73 = .ok (.ireturn, 1) := by decide +kernel
theorem dX2_kindFits_0 : decode cX2_kindFits 0 = .ok (.iconst 0, 1) := by decide +kernel
theorem dX2_kindFits_1 : decode cX2_kindFits 1 = .ok (.istore 4, 2) := by decide +kernel
theorem dX2_kindFits_3 : decode cX2_kindFits 3 = .ok (.iload 4, 2) := by decide +kernel
theorem dX2_kindFits_5 : decode cX2_kindFits 5 = .ok (.aload_n 0, 1) := by decide +kernel
theorem dX2_kindFits_6 : decode cX2_kindFits 6 = .ok (.getfield 28, 3) := by decide +kernel
theorem dX2_kindFits_9 : decode cX2_kindFits 9 = .ok (.if_icmp .ge 57, 3) := by decide +kernel
theorem dX2_kindFits_12 : decode cX2_kindFits 12 = .ok (.aload_n 0, 1) := by decide +kernel
theorem dX2_kindFits_13 : decode cX2_kindFits 13 = .ok (.getfield 9, 3) := by decide +kernel
theorem dX2_kindFits_16 : decode cX2_kindFits 16 = .ok (.iload 4, 2) := by decide +kernel
theorem dX2_kindFits_18 : decode cX2_kindFits 18 = .ok (.iaload, 1) := by decide +kernel
theorem dX2_kindFits_19 : decode cX2_kindFits 19 = .ok (.iload_n 2, 1) := by decide +kernel
theorem dX2_kindFits_20 : decode cX2_kindFits 20 = .ok (.if_icmp .ne 7, 3) := by decide +kernel
theorem dX2_kindFits_23 : decode cX2_kindFits 23 = .ok (.iconst 1, 1) := by decide +kernel
theorem dX2_kindFits_24 : decode cX2_kindFits 24 = .ok (.goto 4, 3) := by decide +kernel
theorem dX2_kindFits_27 : decode cX2_kindFits 27 = .ok (.iconst 0, 1) := by decide +kernel
theorem dX2_kindFits_28 : decode cX2_kindFits 28 = .ok (.istore 5, 2) := by decide +kernel
theorem dX2_kindFits_30 : decode cX2_kindFits 30 = .ok (.iload 5, 2) := by decide +kernel
theorem dX2_kindFits_32 : decode cX2_kindFits 32 = .ok (.ifCond .eq 28, 3) := by decide +kernel
theorem dX2_kindFits_35 : decode cX2_kindFits 35 = .ok (.aload_n 0, 1) := by decide +kernel
theorem dX2_kindFits_36 : decode cX2_kindFits 36 = .ok (.iload 4, 2) := by decide +kernel
theorem dX2_kindFits_38 : decode cX2_kindFits 38 = .ok (.aload_n 1, 1) := by decide +kernel
theorem dX2_kindFits_39 : decode cX2_kindFits 39 = .ok (.iload_n 3, 1) := by decide +kernel
theorem dX2_kindFits_40 : decode cX2_kindFits 40 = .ok (.aload_n 1, 1) := by decide +kernel
theorem dX2_kindFits_41 : decode cX2_kindFits 41 = .ok (.iload_n 2, 1) := by decide +kernel
theorem dX2_kindFits_42 : decode cX2_kindFits 42 = .ok (.aload_n 0, 1) := by decide +kernel
theorem dX2_kindFits_43 : decode cX2_kindFits 43 = .ok (.getfield 15, 3) := by decide +kernel
theorem dX2_kindFits_46 : decode cX2_kindFits 46 = .ok (.iload 4, 2) := by decide +kernel
theorem dX2_kindFits_48 : decode cX2_kindFits 48 = .ok (.iaload, 1) := by decide +kernel
theorem dX2_kindFits_49 : decode cX2_kindFits 49 = .ok (.invokevirtual 49, 3) := by decide +kernel
theorem dX2_kindFits_52 : decode cX2_kindFits 52 = .ok (.invokevirtual 45, 3) := by decide +kernel
theorem dX2_kindFits_55 : decode cX2_kindFits 55 = .ok (.ifCond .ne 5, 3) := by decide +kernel
theorem dX2_kindFits_58 : decode cX2_kindFits 58 = .ok (.iconst 0, 1) := by decide +kernel
theorem dX2_kindFits_59 : decode cX2_kindFits 59 = .ok (.ireturn, 1) := by decide +kernel
theorem dX2_kindFits_60 : decode cX2_kindFits 60 = .ok (.iinc 4 1, 3) := by decide +kernel
theorem dX2_kindFits_63 : decode cX2_kindFits 63 = .ok (.goto (-60), 3) := by decide +kernel
theorem dX2_kindFits_66 : decode cX2_kindFits 66 = .ok (.iconst 1, 1) := by decide +kernel
theorem dX2_kindFits_67 : decode cX2_kindFits 67 = .ok (.ireturn, 1) := by decide +kernel
theorem dX2_isSo_0 : decode cX2_isSo 0 = .ok (.aload_n 0, 1) := by decide +kernel
theorem dX2_isSo_1 : decode cX2_isSo 1 = .ok (.getfield 24, 3) := by decide +kernel
theorem dX2_isSo_4 : decode cX2_isSo 4 = .ok (.iload_n 1, 1) := by decide +kernel
theorem dX2_isSo_5 : decode cX2_isSo 5 = .ok (.baload, 1) := by decide +kernel
theorem dX2_isSo_6 : decode cX2_isSo 6 = .ok (.aload_n 2, 1) := by decide +kernel
theorem dX2_isSo_7 : decode cX2_isSo 7 = .ok (.aload_n 0, 1) := by decide +kernel
theorem dX2_isSo_8 : decode cX2_isSo 8 = .ok (.getfield 9, 3) := by decide +kernel
theorem dX2_isSo_11 : decode cX2_isSo 11 = .ok (.iload_n 1, 1) := by decide +kernel
theorem dX2_isSo_12 : decode cX2_isSo 12 = .ok (.iaload, 1) := by decide +kernel
theorem dX2_isSo_13 : decode cX2_isSo 13 = .ok (.iload_n 3, 1) := by decide +kernel
theorem dX2_isSo_14 : decode cX2_isSo 14 = .ok (.iload 4, 2) := by decide +kernel
theorem dX2_isSo_16 : decode cX2_isSo 16 = .ok (.aload_n 0, 1) := by decide +kernel
theorem dX2_isSo_17 : decode cX2_isSo 17 = .ok (.getfield 15, 3) := by decide +kernel
theorem dX2_isSo_20 : decode cX2_isSo 20 = .ok (.iload_n 1, 1) := by decide +kernel
theorem dX2_isSo_21 : decode cX2_isSo 21 = .ok (.iaload, 1) := by decide +kernel
theorem dX2_isSo_22 : decode cX2_isSo 22 = .ok (.aload_n 0, 1) := by decide +kernel
theorem dX2_isSo_23 : decode cX2_isSo 23 = .ok (.getfield 18, 3) := by decide +kernel
theorem dX2_isSo_26 : decode cX2_isSo 26 = .ok (.iload_n 1, 1) := by decide +kernel
theorem dX2_isSo_27 : decode cX2_isSo 27 = .ok (.iaload, 1) := by decide +kernel
theorem dX2_isSo_28 : decode cX2_isSo 28 = .ok (.aload_n 0, 1) := by decide +kernel
theorem dX2_isSo_29 : decode cX2_isSo 29 = .ok (.getfield 21, 3) := by decide +kernel
theorem dX2_isSo_32 : decode cX2_isSo 32 = .ok (.iload_n 1, 1) := by decide +kernel
theorem dX2_isSo_33 : decode cX2_isSo 33 = .ok (.iaload, 1) := by decide +kernel
theorem dX2_isSo_34 : decode cX2_isSo 34 = .ok (.invokevirtual 53, 3) := by decide +kernel
theorem dX2_isSo_37 : decode cX2_isSo 37 = .ok (.if_icmp .ne 7, 3) := by decide +kernel
theorem dX2_isSo_40 : decode cX2_isSo 40 = .ok (.iconst 1, 1) := by decide +kernel
theorem dX2_isSo_41 : decode cX2_isSo 41 = .ok (.goto 4, 3) := by decide +kernel
theorem dX2_isSo_44 : decode cX2_isSo 44 = .ok (.iconst 0, 1) := by decide +kernel
theorem dX2_isSo_45 : decode cX2_isSo 45 = .ok (.ireturn, 1) := by decide +kernel
theorem dX3_init_0 : decode cX3_init 0 = .ok (.aload_n 0, 1) := by decide +kernel
theorem dX3_init_1 : decode cX3_init 1 = .ok (.invokespecial 3, 3) := by decide +kernel
theorem dX3_init_4 : decode cX3_init 4 = .ok (.aload_n 0, 1) := by decide +kernel
theorem dX3_init_5 : decode cX3_init 5 = .ok (.sipush 200, 3) := by decide +kernel
theorem dX3_init_8 : decode cX3_init 8 = .ok (.newarray .char, 2) := by decide +kernel
theorem dX3_init_10 : decode cX3_init 10 = .ok (.putfield 9, 3) := by decide +kernel
theorem dX3_init_13 : decode cX3_init 13 = .ok (.aload_n 0, 1) := by decide +kernel
theorem dX3_init_14 : decode cX3_init 14 = .ok (.iconst 3, 1) := by decide +kernel
theorem dX3_init_15 : decode cX3_init 15 = .ok (.newarray .int, 2) := by decide +kernel
theorem dX3_init_17 : decode cX3_init 17 = .ok (.putfield 15, 3) := by decide +kernel
theorem dX3_init_20 : decode cX3_init 20 = .ok (.aload_n 0, 1) := by decide +kernel
theorem dX3_init_21 : decode cX3_init 21 = .ok (.iconst 0, 1) := by decide +kernel
theorem dX3_init_22 : decode cX3_init 22 = .ok (.putfield 19, 3) := by decide +kernel
theorem dX3_init_25 : decode cX3_init 25 = .ok (.aload_n 0, 1) := by decide +kernel
theorem dX3_init_26 : decode cX3_init 26 = .ok (.iconst 0, 1) := by decide +kernel
theorem dX3_init_27 : decode cX3_init 27 = .ok (.putfield 23, 3) := by decide +kernel
theorem dX3_init_30 : decode cX3_init 30 = .ok (.return_, 1) := by decide +kernel
theorem dX3_isFull_0 : decode cX3_isFull 0 = .ok (.aload_n 0, 1) := by decide +kernel
theorem dX3_isFull_1 : decode cX3_isFull 1 = .ok (.getfield 19, 3) := by decide +kernel
theorem dX3_isFull_4 : decode cX3_isFull 4 = .ok (.sipush 200, 3) := by decide +kernel
theorem dX3_isFull_7 : decode cX3_isFull 7 = .ok (.if_icmp .lt 7, 3) := by decide +kernel
theorem dX3_isFull_10 : decode cX3_isFull 10 = .ok (.iconst 1, 1) := by decide +kernel
theorem dX3_isFull_11 : decode cX3_isFull 11 = .ok (.goto 4, 3) := by decide +kernel
theorem dX3_isFull_14 : decode cX3_isFull 14 = .ok (.iconst 0, 1) := by decide +kernel
theorem dX3_isFull_15 : decode cX3_isFull 15 = .ok (.ireturn, 1) := by decide +kernel
theorem dX3_append_0 : decode cX3_append 0 = .ok (.aload_n 0, 1) := by decide +kernel
theorem dX3_append_1 : decode cX3_append 1 = .ok (.invokevirtual 26, 3) := by decide +kernel
theorem dX3_append_4 : decode cX3_append 4 = .ok (.ifCond .eq 4, 3) := by decide +kernel
theorem dX3_append_7 : decode cX3_append 7 = .ok (.return_, 1) := by decide +kernel
theorem dX3_append_8 : decode cX3_append 8 = .ok (.aload_n 0, 1) := by decide +kernel
theorem dX3_append_9 : decode cX3_append 9 = .ok (.getfield 9, 3) := by decide +kernel
theorem dX3_append_12 : decode cX3_append 12 = .ok (.aload_n 0, 1) := by decide +kernel
theorem dX3_append_13 : decode cX3_append 13 = .ok (.getfield 19, 3) := by decide +kernel
theorem dX3_append_16 : decode cX3_append 16 = .ok (.iload_n 1, 1) := by decide +kernel
theorem dX3_append_17 : decode cX3_append 17 = .ok (.castore, 1) := by decide +kernel
theorem dX3_append_18 : decode cX3_append 18 = .ok (.aload_n 0, 1) := by decide +kernel
theorem dX3_append_19 : decode cX3_append 19 = .ok (.dup, 1) := by decide +kernel
theorem dX3_append_20 : decode cX3_append 20 = .ok (.getfield 19, 3) := by decide +kernel
theorem dX3_append_23 : decode cX3_append 23 = .ok (.iconst 1, 1) := by decide +kernel
theorem dX3_append_24 : decode cX3_append 24 = .ok (.iadd, 1) := by decide +kernel
theorem dX3_append_25 : decode cX3_append 25 = .ok (.putfield 19, 3) := by decide +kernel
theorem dX3_append_28 : decode cX3_append 28 = .ok (.return_, 1) := by decide +kernel
theorem dX3_clear_0 : decode cX3_clear 0 = .ok (.aload_n 0, 1) := by decide +kernel
theorem dX3_clear_1 : decode cX3_clear 1 = .ok (.iconst 0, 1) := by decide +kernel
theorem dX3_clear_2 : decode cX3_clear 2 = .ok (.putfield 19, 3) := by decide +kernel
theorem dX3_clear_5 : decode cX3_clear 5 = .ok (.return_, 1) := by decide +kernel
theorem dX3_readInto_0 : decode cX3_readInto 0 = .ok (.aload_n 1, 1) := by decide +kernel
theorem dX3_readInto_1 : decode cX3_readInto 1 = .ok (.invokevirtual 30, 3) := by decide +kernel
theorem dX3_readInto_4 : decode cX3_readInto 4 = .ok (.aload_n 0, 1) := by decide +kernel
theorem dX3_readInto_5 : decode cX3_readInto 5 = .ok (.iconst 0, 1) := by decide +kernel
theorem dX3_readInto_6 : decode cX3_readInto 6 = .ok (.putfield 23, 3) := by decide +kernel
theorem dX3_readInto_9 : decode cX3_readInto 9 = .ok (.iconst 0, 1) := by decide +kernel
theorem dX3_readInto_10 : decode cX3_readInto 10 = .ok (.istore_n 2, 1) := by decide +kernel
theorem dX3_readInto_11 : decode cX3_readInto 11 = .ok (.iload_n 2, 1) := by decide +kernel
theorem dX3_readInto_12 : decode cX3_readInto 12 = .ok (.sipush 200, 3) := by decide +kernel
theorem dX3_readInto_15 : decode cX3_readInto 15 = .ok (.if_icmp .ge 35, 3) := by decide +kernel
theorem dX3_readInto_18 : decode cX3_readInto 18 = .ok (.aload_n 0, 1) := by decide +kernel
theorem dX3_readInto_19 : decode cX3_readInto 19 = .ok (.getfield 23, 3) := by decide +kernel
theorem dX3_readInto_22 : decode cX3_readInto 22 = .ok (.aload_n 0, 1) := by decide +kernel
theorem dX3_readInto_23 : decode cX3_readInto 23 = .ok (.getfield 19, 3) := by decide +kernel
theorem dX3_readInto_26 : decode cX3_readInto 26 = .ok (.if_icmp .ge 24, 3) := by decide +kernel
theorem dX3_readInto_29 : decode cX3_readInto 29 = .ok (.aload_n 0, 1) := by decide +kernel
theorem dX3_readInto_30 : decode cX3_readInto 30 = .ok (.getfield 23, 3) := by decide +kernel
theorem dX3_readInto_33 : decode cX3_readInto 33 = .ok (.istore_n 3, 1) := by decide +kernel
theorem dX3_readInto_34 : decode cX3_readInto 34 = .ok (.aload_n 0, 1) := by decide +kernel
theorem dX3_readInto_35 : decode cX3_readInto 35 = .ok (.aload_n 1, 1) := by decide +kernel
theorem dX3_readInto_36 : decode cX3_readInto 36 = .ok (.invokevirtual 35, 3) := by decide +kernel
theorem dX3_readInto_39 : decode cX3_readInto 39 = .ok (.ifCond .ne 5, 3) := by decide +kernel
theorem dX3_readInto_42 : decode cX3_readInto 42 = .ok (.iload_n 3, 1) := by decide +kernel
theorem dX3_readInto_43 : decode cX3_readInto 43 = .ok (.ireturn, 1) := by decide +kernel
theorem dX3_readInto_44 : decode cX3_readInto 44 = .ok (.iinc 2 1, 3) := by decide +kernel
theorem dX3_readInto_47 : decode cX3_readInto 47 = .ok (.goto (-36), 3) := by decide +kernel
theorem dX3_readInto_50 : decode cX3_readInto 50 = .ok (.bipush (-4), 2) := by decide +kernel
theorem dX3_readInto_52 : decode cX3_readInto 52 = .ok (.ireturn, 1) := by decide +kernel
theorem dX3_readItem_0 : decode cX3_readItem 0 = .ok (.aload_n 0, 1) := by decide +kernel
theorem dX3_readItem_1 : decode cX3_readItem 1 = .ok (.invokevirtual 39, 3) := by decide +kernel
theorem dX3_readItem_4 : decode cX3_readItem 4 = .ok (.istore_n 2, 1) := by decide +kernel
theorem dX3_readItem_5 : decode cX3_readItem 5 = .ok (.iload_n 2, 1) := by decide +kernel
theorem dX3_readItem_6 : decode cX3_readItem 6 = .ok (.bipush 103, 2) := by decide +kernel
theorem dX3_readItem_8 : decode cX3_readItem 8 = .ok (.if_icmp .ne 7, 3) := by decide +kernel
theorem dX3_readItem_11 : decode cX3_readItem 11 = .ok (.iconst 0, 1) := by decide +kernel
theorem dX3_readItem_12 : decode cX3_readItem 12 = .ok (.goto 4, 3) := by decide +kernel
theorem dX3_readItem_15 : decode cX3_readItem 15 = .ok (.iconst 2, 1) := by decide +kernel
theorem dX3_readItem_16 : decode cX3_readItem 16 = .ok (.istore_n 3, 1) := by decide +kernel
theorem dX3_readItem_17 : decode cX3_readItem 17 = .ok (.iconst 0, 1) := by decide +kernel
theorem dX3_readItem_18 : decode cX3_readItem 18 = .ok (.istore 4, 2) := by decide +kernel
theorem dX3_readItem_20 : decode cX3_readItem 20 = .ok (.iload 4, 2) := by decide +kernel
theorem dX3_readItem_22 : decode cX3_readItem 22 = .ok (.iload_n 3, 1) := by decide +kernel
theorem dX3_readItem_23 : decode cX3_readItem 23 = .ok (.if_icmp .gt 40, 3) := by decide +kernel
theorem dX3_readItem_26 : decode cX3_readItem 26 = .ok (.aload_n 0, 1) := by decide +kernel
theorem dX3_readItem_27 : decode cX3_readItem 27 = .ok (.iload 4, 2) := by decide +kernel
theorem dX3_readItem_29 : decode cX3_readItem 29 = .ok (.invokevirtual 43, 3) := by decide +kernel
theorem dX3_readItem_32 : decode cX3_readItem 32 = .ok (.ifCond .eq 23, 3) := by decide +kernel
theorem dX3_readItem_35 : decode cX3_readItem 35 = .ok (.aload_n 0, 1) := by decide +kernel
theorem dX3_readItem_36 : decode cX3_readItem 36 = .ok (.invokevirtual 39, 3) := by decide +kernel
theorem dX3_readItem_39 : decode cX3_readItem 39 = .ok (.iload 4, 2) := by decide +kernel
theorem dX3_readItem_41 : decode cX3_readItem 41 = .ok (.iload_n 3, 1) := by decide +kernel
theorem dX3_readItem_42 : decode cX3_readItem 42 = .ok (.if_icmp .ge 8, 3) := by decide +kernel
theorem dX3_readItem_45 : decode cX3_readItem 45 = .ok (.bipush 44, 2) := by decide +kernel
theorem dX3_readItem_47 : decode cX3_readItem 47 = .ok (.goto 5, 3) := by decide +kernel
theorem dX3_readItem_50 : decode cX3_readItem 50 = .ok (.bipush 59, 2) := by decide +kernel
theorem dX3_readItem_52 : decode cX3_readItem 52 = .ok (.if_icmp .eq 5, 3) := by decide +kernel
theorem dX3_readItem_55 : decode cX3_readItem 55 = .ok (.iconst 0, 1) := by decide +kernel
theorem dX3_readItem_56 : decode cX3_readItem 56 = .ok (.ireturn, 1) := by decide +kernel
theorem dX3_readItem_57 : decode cX3_readItem 57 = .ok (.iinc 4 1, 3) := by decide +kernel
theorem dX3_readItem_60 : decode cX3_readItem 60 = .ok (.goto (-40), 3) := by decide +kernel
theorem dX3_readItem_63 : decode cX3_readItem 63 = .ok (.aload_n 0, 1) := by decide +kernel
theorem dX3_readItem_64 : decode cX3_readItem 64 = .ok (.aload_n 1, 1) := by decide +kernel
theorem dX3_readItem_65 : decode cX3_readItem 65 = .ok (.iload_n 2, 1) := by decide +kernel
theorem dX3_readItem_66 : decode cX3_readItem 66 = .ok (.invokevirtual 47, 3) := by decide +kernel
theorem dX3_readItem_69 : decode cX3_readItem 69 = .ok (.ireturn, 1) := by decide +kernel
theorem dX3_readNumber_0 : decode cX3_readNumber 0 = .ok (.aload_n 0, 1) := by decide +kernel
theorem dX3_readNumber_1 : decode cX3_readNumber 1 = .ok (.invokevirtual 51, 3) := by decide +kernel
theorem dX3_readNumber_4 : decode cX3_readNumber 4 = .ok (.ifCond .ne 5, 3) := by decide +kernel
theorem dX3_readNumber_7 : decode cX3_readNumber 7 = .ok (.iconst 0, 1) := by decide +kernel
theorem dX3_readNumber_8 : decode cX3_readNumber 8 = .ok (.ireturn, 1) := by decide +kernel
theorem dX3_readNumber_9 : decode cX3_readNumber 9 = .ok (.aload_n 0, 1) := by decide +kernel
theorem dX3_readNumber_10 : decode cX3_readNumber 10 = .ok (.invokevirtual 39, 3) := by decide +kernel
theorem dX3_readNumber_13 : decode cX3_readNumber 13 = .ok (.bipush 48, 2) := by decide +kernel
theorem dX3_readNumber_15 : decode cX3_readNumber 15 = .ok (.isub, 1) := by decide +kernel
theorem dX3_readNumber_16 : decode cX3_readNumber 16 = .ok (.istore_n 2, 1) := by decide +kernel
theorem dX3_readNumber_17 : decode cX3_readNumber 17 = .ok (.aload_n 0, 1) := by decide +kernel
theorem dX3_readNumber_18 : decode cX3_readNumber 18 = .ok (.invokevirtual 51, 3) := by decide +kernel
theorem dX3_readNumber_21 : decode cX3_readNumber 21 = .ok (.ifCond .eq 16, 3) := by decide +kernel
theorem dX3_readNumber_24 : decode cX3_readNumber 24 = .ok (.bipush 10, 2) := by decide +kernel
theorem dX3_readNumber_26 : decode cX3_readNumber 26 = .ok (.iload_n 2, 1) := by decide +kernel
theorem dX3_readNumber_27 : decode cX3_readNumber 27 = .ok (.imul, 1) := by decide +kernel
theorem dX3_readNumber_28 : decode cX3_readNumber 28 = .ok (.aload_n 0, 1) := by decide +kernel
theorem dX3_readNumber_29 : decode cX3_readNumber 29 = .ok (.invokevirtual 39, 3) := by decide +kernel
theorem dX3_readNumber_32 : decode cX3_readNumber 32 = .ok (.bipush 48, 2) := by decide +kernel
theorem dX3_readNumber_34 : decode cX3_readNumber 34 = .ok (.isub, 1) := by decide +kernel
theorem dX3_readNumber_35 : decode cX3_readNumber 35 = .ok (.iadd, 1) := by decide +kernel
theorem dX3_readNumber_36 : decode cX3_readNumber 36 = .ok (.istore_n 2, 1) := by decide +kernel
theorem dX3_readNumber_37 : decode cX3_readNumber 37 = .ok (.aload_n 0, 1) := by decide +kernel
theorem dX3_readNumber_38 : decode cX3_readNumber 38 = .ok (.getfield 15, 3) := by decide +kernel
theorem dX3_readNumber_41 : decode cX3_readNumber 41 = .ok (.iload_n 1, 1) := by decide +kernel
theorem dX3_readNumber_42 : decode cX3_readNumber 42 = .ok (.iload_n 2, 1) := by decide +kernel
theorem dX3_readNumber_43 : decode cX3_readNumber 43 = .ok (.iastore, 1) := by decide +kernel
theorem dX3_readNumber_44 : decode cX3_readNumber 44 = .ok (.iconst 1, 1) := by decide +kernel
theorem dX3_readNumber_45 : decode cX3_readNumber 45 = .ok (.ireturn, 1) := by decide +kernel
theorem dX3_isAtFigure_0 : decode cX3_isAtFigure 0 = .ok (.aload_n 0, 1) := by decide +kernel
theorem dX3_isAtFigure_1 : decode cX3_isAtFigure 1 = .ok (.getfield 23, 3) := by decide +kernel
theorem dX3_isAtFigure_4 : decode cX3_isAtFigure 4 = .ok (.aload_n 0, 1) := by decide +kernel
theorem dX3_isAtFigure_5 : decode cX3_isAtFigure 5 = .ok (.getfield 19, 3) := by decide +kernel
theorem dX3_isAtFigure_8 : decode cX3_isAtFigure 8 = .ok (.if_icmp .ge 35, 3) := by decide +kernel
theorem dX3_isAtFigure_11 : decode cX3_isAtFigure 11 = .ok (.aload_n 0, 1) := by decide +kernel
theorem dX3_isAtFigure_12 : decode cX3_isAtFigure 12 = .ok (.getfield 9, 3) := by decide +kernel
theorem dX3_isAtFigure_15 : decode cX3_isAtFigure 15 = .ok (.aload_n 0, 1) := by decide +kernel
theorem dX3_isAtFigure_16 : decode cX3_isAtFigure 16 = .ok (.getfield 23, 3) := by decide +kernel
theorem dX3_isAtFigure_19 : decode cX3_isAtFigure 19 = .ok (.caload, 1) := by decide +kernel
theorem dX3_isAtFigure_20 : decode cX3_isAtFigure 20 = .ok (.bipush 48, 2) := by decide +kernel
theorem dX3_isAtFigure_22 : decode cX3_isAtFigure 22 = .ok (.if_icmp .lt 21, 3) := by decide +kernel
theorem dX3_isAtFigure_25 : decode cX3_isAtFigure 25 = .ok (.aload_n 0, 1) := by decide +kernel
theorem dX3_isAtFigure_26 : decode cX3_isAtFigure 26 = .ok (.getfield 9, 3) := by decide +kernel
theorem dX3_isAtFigure_29 : decode cX3_isAtFigure 29 = .ok (.aload_n 0, 1) := by decide +kernel
theorem dX3_isAtFigure_30 : decode cX3_isAtFigure 30 = .ok (.getfield 23, 3) := by decide +kernel
theorem dX3_isAtFigure_33 : decode cX3_isAtFigure 33 = .ok (.caload, 1) := by decide +kernel
theorem dX3_isAtFigure_34 : decode cX3_isAtFigure 34 = .ok (.bipush 57, 2) := by decide +kernel
theorem dX3_isAtFigure_36 : decode cX3_isAtFigure 36 = .ok (.if_icmp .gt 7, 3) := by decide +kernel
theorem dX3_isAtFigure_39 : decode cX3_isAtFigure 39 = .ok (.iconst 1, 1) := by decide +kernel
theorem dX3_isAtFigure_40 : decode cX3_isAtFigure 40 = .ok (.goto 4, 3) := by decide +kernel
theorem dX3_isAtFigure_43 : decode cX3_isAtFigure 43 = .ok (.iconst 0, 1) := by decide +kernel
theorem dX3_isAtFigure_44 : decode cX3_isAtFigure 44 = .ok (.ireturn, 1) := by decide +kernel
theorem dX3_next_0 : decode cX3_next 0 = .ok (.aload_n 0, 1) := by decide +kernel
theorem dX3_next_1 : decode cX3_next 1 = .ok (.getfield 23, 3) := by decide +kernel
theorem dX3_next_4 : decode cX3_next 4 = .ok (.aload_n 0, 1) := by decide +kernel
theorem dX3_next_5 : decode cX3_next 5 = .ok (.getfield 19, 3) := by decide +kernel
theorem dX3_next_8 : decode cX3_next 8 = .ok (.if_icmp .lt 6, 3) := by decide +kernel
theorem dX3_next_11 : decode cX3_next 11 = .ok (.bipush 32, 2) := by decide +kernel
theorem dX3_next_13 : decode cX3_next 13 = .ok (.ireturn, 1) := by decide +kernel
theorem dX3_next_14 : decode cX3_next 14 = .ok (.aload_n 0, 1) := by decide +kernel
theorem dX3_next_15 : decode cX3_next 15 = .ok (.getfield 9, 3) := by decide +kernel
theorem dX3_next_18 : decode cX3_next 18 = .ok (.aload_n 0, 1) := by decide +kernel
theorem dX3_next_19 : decode cX3_next 19 = .ok (.getfield 23, 3) := by decide +kernel
theorem dX3_next_22 : decode cX3_next 22 = .ok (.caload, 1) := by decide +kernel
theorem dX3_next_23 : decode cX3_next 23 = .ok (.istore_n 1, 1) := by decide +kernel
theorem dX3_next_24 : decode cX3_next 24 = .ok (.aload_n 0, 1) := by decide +kernel
theorem dX3_next_25 : decode cX3_next 25 = .ok (.dup, 1) := by decide +kernel
theorem dX3_next_26 : decode cX3_next 26 = .ok (.getfield 23, 3) := by decide +kernel
theorem dX3_next_29 : decode cX3_next 29 = .ok (.iconst 1, 1) := by decide +kernel
theorem dX3_next_30 : decode cX3_next 30 = .ok (.iadd, 1) := by decide +kernel
theorem dX3_next_31 : decode cX3_next 31 = .ok (.putfield 23, 3) := by decide +kernel
theorem dX3_next_34 : decode cX3_next 34 = .ok (.iload_n 1, 1) := by decide +kernel
theorem dX3_next_35 : decode cX3_next 35 = .ok (.ireturn, 1) := by decide +kernel
theorem dX3_tell_0 : decode cX3_tell 0 = .ok (.iload_n 2, 1) := by decide +kernel
theorem dX3_tell_1 : decode cX3_tell 1 = .ok (.lookupswitch 123 #[(103, 112), (111, 89), (112, 43), (116, 66)], 43) := by decide +kernel
theorem dX3_tell_44 : decode cX3_tell 44 = .ok (.aload_n 1, 1) := by decide +kernel
theorem dX3_tell_45 : decode cX3_tell 45 = .ok (.aload_n 0, 1) := by decide +kernel
theorem dX3_tell_46 : decode cX3_tell 46 = .ok (.getfield 15, 3) := by decide +kernel
theorem dX3_tell_49 : decode cX3_tell 49 = .ok (.iconst 0, 1) := by decide +kernel
theorem dX3_tell_50 : decode cX3_tell 50 = .ok (.iaload, 1) := by decide +kernel
theorem dX3_tell_51 : decode cX3_tell 51 = .ok (.aload_n 0, 1) := by decide +kernel
theorem dX3_tell_52 : decode cX3_tell 52 = .ok (.getfield 15, 3) := by decide +kernel
theorem dX3_tell_55 : decode cX3_tell 55 = .ok (.iconst 1, 1) := by decide +kernel
theorem dX3_tell_56 : decode cX3_tell 56 = .ok (.iaload, 1) := by decide +kernel
theorem dX3_tell_57 : decode cX3_tell 57 = .ok (.aload_n 0, 1) := by decide +kernel
theorem dX3_tell_58 : decode cX3_tell 58 = .ok (.getfield 15, 3) := by decide +kernel
theorem dX3_tell_61 : decode cX3_tell 61 = .ok (.iconst 2, 1) := by decide +kernel
theorem dX3_tell_62 : decode cX3_tell 62 = .ok (.iaload, 1) := by decide +kernel
theorem dX3_tell_63 : decode cX3_tell 63 = .ok (.invokevirtual 54, 3) := by decide +kernel
theorem dX3_tell_66 : decode cX3_tell 66 = .ok (.ireturn, 1) := by decide +kernel
theorem dX3_tell_67 : decode cX3_tell 67 = .ok (.aload_n 1, 1) := by decide +kernel
theorem dX3_tell_68 : decode cX3_tell 68 = .ok (.aload_n 0, 1) := by decide +kernel
theorem dX3_tell_69 : decode cX3_tell 69 = .ok (.getfield 15, 3) := by decide +kernel
theorem dX3_tell_72 : decode cX3_tell 72 = .ok (.iconst 0, 1) := by decide +kernel
theorem dX3_tell_73 : decode cX3_tell 73 = .ok (.iaload, 1) := by decide +kernel
theorem dX3_tell_74 : decode cX3_tell 74 = .ok (.aload_n 0, 1) := by decide +kernel
theorem dX3_tell_75 : decode cX3_tell 75 = .ok (.getfield 15, 3) := by decide +kernel
theorem dX3_tell_78 : decode cX3_tell 78 = .ok (.iconst 1, 1) := by decide +kernel
theorem dX3_tell_79 : decode cX3_tell 79 = .ok (.iaload, 1) := by decide +kernel
theorem dX3_tell_80 : decode cX3_tell 80 = .ok (.aload_n 0, 1) := by decide +kernel
theorem dX3_tell_81 : decode cX3_tell 81 = .ok (.getfield 15, 3) := by decide +kernel
theorem dX3_tell_84 : decode cX3_tell 84 = .ok (.iconst 2, 1) := by decide +kernel
theorem dX3_tell_85 : decode cX3_tell 85 = .ok (.iaload, 1) := by decide +kernel
theorem dX3_tell_86 : decode cX3_tell 86 = .ok (.invokevirtual 58, 3) := by decide +kernel
theorem dX3_tell_89 : decode cX3_tell 89 = .ok (.ireturn, 1) := by decide +kernel
theorem dX3_tell_90 : decode cX3_tell 90 = .ok (.aload_n 1, 1) := by decide +kernel
theorem dX3_tell_91 : decode cX3_tell 91 = .ok (.aload_n 0, 1) := by decide +kernel
theorem dX3_tell_92 : decode cX3_tell 92 = .ok (.getfield 15, 3) := by decide +kernel
theorem dX3_tell_95 : decode cX3_tell 95 = .ok (.iconst 0, 1) := by decide +kernel
theorem dX3_tell_96 : decode cX3_tell 96 = .ok (.iaload, 1) := by decide +kernel
theorem dX3_tell_97 : decode cX3_tell 97 = .ok (.aload_n 0, 1) := by decide +kernel
theorem dX3_tell_98 : decode cX3_tell 98 = .ok (.getfield 15, 3) := by decide +kernel
theorem dX3_tell_101 : decode cX3_tell 101 = .ok (.iconst 1, 1) := by decide +kernel
theorem dX3_tell_102 : decode cX3_tell 102 = .ok (.iaload, 1) := by decide +kernel
theorem dX3_tell_103 : decode cX3_tell 103 = .ok (.aload_n 0, 1) := by decide +kernel
theorem dX3_tell_104 : decode cX3_tell 104 = .ok (.getfield 15, 3) := by decide +kernel
theorem dX3_tell_107 : decode cX3_tell 107 = .ok (.iconst 2, 1) := by decide +kernel
theorem dX3_tell_108 : decode cX3_tell 108 = .ok (.iaload, 1) := by decide +kernel
theorem dX3_tell_109 : decode cX3_tell 109 = .ok (.invokevirtual 61, 3) := by decide +kernel
theorem dX3_tell_112 : decode cX3_tell 112 = .ok (.ireturn, 1) := by decide +kernel
theorem dX3_tell_113 : decode cX3_tell 113 = .ok (.aload_n 1, 1) := by decide +kernel
theorem dX3_tell_114 : decode cX3_tell 114 = .ok (.aload_n 0, 1) := by decide +kernel
theorem dX3_tell_115 : decode cX3_tell 115 = .ok (.getfield 15, 3) := by decide +kernel
theorem dX3_tell_118 : decode cX3_tell 118 = .ok (.iconst 0, 1) := by decide +kernel
theorem dX3_tell_119 : decode cX3_tell 119 = .ok (.iaload, 1) := by decide +kernel
theorem dX3_tell_120 : decode cX3_tell 120 = .ok (.invokevirtual 64, 3) := by decide +kernel
theorem dX3_tell_123 : decode cX3_tell 123 = .ok (.ireturn, 1) := by decide +kernel
theorem dX3_tell_124 : decode cX3_tell 124 = .ok (.iconst 0, 1) := by decide +kernel
theorem dX3_tell_125 : decode cX3_tell 125 = .ok (.ireturn, 1) := by decide +kernel
theorem dX4_init_0 : decode cX4_init 0 = .ok (.aload_n 0, 1) := by decide +kernel
theorem dX4_init_1 : decode cX4_init 1 = .ok (.invokespecial 3, 3) := by decide +kernel
theorem dX4_init_4 : decode cX4_init 4 = .ok (.aload_n 0, 1) := by decide +kernel
theorem dX4_init_5 : decode cX4_init 5 = .ok (.bipush 6, 2) := by decide +kernel
theorem dX4_init_7 : decode cX4_init 7 = .ok (.newarray .int, 2) := by decide +kernel
theorem dX4_init_9 : decode cX4_init 9 = .ok (.putfield 9, 3) := by decide +kernel
theorem dX4_init_12 : decode cX4_init 12 = .ok (.aload_n 0, 1) := by decide +kernel
theorem dX4_init_13 : decode cX4_init 13 = .ok (.bipush 6, 2) := by decide +kernel
theorem dX4_init_15 : decode cX4_init 15 = .ok (.newarray .int, 2) := by decide +kernel
theorem dX4_init_17 : decode cX4_init 17 = .ok (.putfield 15, 3) := by decide +kernel
theorem dX4_init_20 : decode cX4_init 20 = .ok (.aload_n 0, 1) := by decide +kernel
theorem dX4_init_21 : decode cX4_init 21 = .ok (.bipush 6, 2) := by decide +kernel
theorem dX4_init_23 : decode cX4_init 23 = .ok (.newarray .int, 2) := by decide +kernel
theorem dX4_init_25 : decode cX4_init 25 = .ok (.putfield 18, 3) := by decide +kernel
theorem dX4_init_28 : decode cX4_init 28 = .ok (.aload_n 0, 1) := by decide +kernel
theorem dX4_init_29 : decode cX4_init 29 = .ok (.bipush 36, 2) := by decide +kernel
theorem dX4_init_31 : decode cX4_init 31 = .ok (.newarray .int, 2) := by decide +kernel
theorem dX4_init_33 : decode cX4_init 33 = .ok (.putfield 21, 3) := by decide +kernel
theorem dX4_init_36 : decode cX4_init 36 = .ok (.aload_n 0, 1) := by decide +kernel
theorem dX4_init_37 : decode cX4_init 37 = .ok (.bipush 36, 2) := by decide +kernel
theorem dX4_init_39 : decode cX4_init 39 = .ok (.newarray .int, 2) := by decide +kernel
theorem dX4_init_41 : decode cX4_init 41 = .ok (.putfield 24, 3) := by decide +kernel
theorem dX4_init_44 : decode cX4_init 44 = .ok (.aload_n 0, 1) := by decide +kernel
theorem dX4_init_45 : decode cX4_init 45 = .ok (.iconst 0, 1) := by decide +kernel
theorem dX4_init_46 : decode cX4_init 46 = .ok (.putfield 27, 3) := by decide +kernel
theorem dX4_init_49 : decode cX4_init 49 = .ok (.aload_n 0, 1) := by decide +kernel
theorem dX4_init_50 : decode cX4_init 50 = .ok (.bipush 50, 2) := by decide +kernel
theorem dX4_init_52 : decode cX4_init 52 = .ok (.putfield 31, 3) := by decide +kernel
theorem dX4_init_55 : decode cX4_init 55 = .ok (.aload_n 0, 1) := by decide +kernel
theorem dX4_init_56 : decode cX4_init 56 = .ok (.iconst 0, 1) := by decide +kernel
theorem dX4_init_57 : decode cX4_init 57 = .ok (.putfield 34, 3) := by decide +kernel
theorem dX4_init_60 : decode cX4_init 60 = .ok (.aload_n 0, 1) := by decide +kernel
theorem dX4_init_61 : decode cX4_init 61 = .ok (.iconst 0, 1) := by decide +kernel
theorem dX4_init_62 : decode cX4_init 62 = .ok (.putfield 37, 3) := by decide +kernel
theorem dX4_init_65 : decode cX4_init 65 = .ok (.aload_n 0, 1) := by decide +kernel
theorem dX4_init_66 : decode cX4_init 66 = .ok (.iconst 0, 1) := by decide +kernel
theorem dX4_init_67 : decode cX4_init 67 = .ok (.putfield 40, 3) := by decide +kernel
theorem dX4_init_70 : decode cX4_init 70 = .ok (.aload_n 0, 1) := by decide +kernel
theorem dX4_init_71 : decode cX4_init 71 = .ok (.iconst 0, 1) := by decide +kernel
theorem dX4_init_72 : decode cX4_init 72 = .ok (.putfield 43, 3) := by decide +kernel
theorem dX4_init_75 : decode cX4_init 75 = .ok (.return_, 1) := by decide +kernel
theorem dX4_empty_0 : decode cX4_empty 0 = .ok (.iconst 0, 1) := by decide +kernel
theorem dX4_empty_1 : decode cX4_empty 1 = .ok (.istore_n 1, 1) := by decide +kernel
theorem dX4_empty_2 : decode cX4_empty 2 = .ok (.iload_n 1, 1) := by decide +kernel
theorem dX4_empty_3 : decode cX4_empty 3 = .ok (.bipush 6, 2) := by decide +kernel
theorem dX4_empty_5 : decode cX4_empty 5 = .ok (.if_icmp .ge 30, 3) := by decide +kernel
theorem dX4_empty_8 : decode cX4_empty 8 = .ok (.aload_n 0, 1) := by decide +kernel
theorem dX4_empty_9 : decode cX4_empty 9 = .ok (.getfield 9, 3) := by decide +kernel
theorem dX4_empty_12 : decode cX4_empty 12 = .ok (.iload_n 1, 1) := by decide +kernel
theorem dX4_empty_13 : decode cX4_empty 13 = .ok (.iconst 0, 1) := by decide +kernel
theorem dX4_empty_14 : decode cX4_empty 14 = .ok (.iastore, 1) := by decide +kernel
theorem dX4_empty_15 : decode cX4_empty 15 = .ok (.aload_n 0, 1) := by decide +kernel
theorem dX4_empty_16 : decode cX4_empty 16 = .ok (.getfield 15, 3) := by decide +kernel
theorem dX4_empty_19 : decode cX4_empty 19 = .ok (.iload_n 1, 1) := by decide +kernel
theorem dX4_empty_20 : decode cX4_empty 20 = .ok (.iconst 0, 1) := by decide +kernel
theorem dX4_empty_21 : decode cX4_empty 21 = .ok (.iastore, 1) := by decide +kernel
theorem dX4_empty_22 : decode cX4_empty 22 = .ok (.aload_n 0, 1) := by decide +kernel
theorem dX4_empty_23 : decode cX4_empty 23 = .ok (.getfield 18, 3) := by decide +kernel
theorem dX4_empty_26 : decode cX4_empty 26 = .ok (.iload_n 1, 1) := by decide +kernel
theorem dX4_empty_27 : decode cX4_empty 27 = .ok (.iconst 0, 1) := by decide +kernel
theorem dX4_empty_28 : decode cX4_empty 28 = .ok (.iastore, 1) := by decide +kernel
theorem dX4_empty_29 : decode cX4_empty 29 = .ok (.iinc 1 1, 3) := by decide +kernel
theorem dX4_empty_32 : decode cX4_empty 32 = .ok (.goto (-30), 3) := by decide +kernel
theorem dX4_empty_35 : decode cX4_empty 35 = .ok (.iconst 0, 1) := by decide +kernel
theorem dX4_empty_36 : decode cX4_empty 36 = .ok (.istore_n 1, 1) := by decide +kernel
theorem dX4_empty_37 : decode cX4_empty 37 = .ok (.iload_n 1, 1) := by decide +kernel
theorem dX4_empty_38 : decode cX4_empty 38 = .ok (.bipush 36, 2) := by decide +kernel
theorem dX4_empty_40 : decode cX4_empty 40 = .ok (.if_icmp .ge 23, 3) := by decide +kernel
theorem dX4_empty_43 : decode cX4_empty 43 = .ok (.aload_n 0, 1) := by decide +kernel
theorem dX4_empty_44 : decode cX4_empty 44 = .ok (.getfield 21, 3) := by decide +kernel
theorem dX4_empty_47 : decode cX4_empty 47 = .ok (.iload_n 1, 1) := by decide +kernel
theorem dX4_empty_48 : decode cX4_empty 48 = .ok (.iconst 0, 1) := by decide +kernel
theorem dX4_empty_49 : decode cX4_empty 49 = .ok (.iastore, 1) := by decide +kernel
theorem dX4_empty_50 : decode cX4_empty 50 = .ok (.aload_n 0, 1) := by decide +kernel
theorem dX4_empty_51 : decode cX4_empty 51 = .ok (.getfield 24, 3) := by decide +kernel
theorem dX4_empty_54 : decode cX4_empty 54 = .ok (.iload_n 1, 1) := by decide +kernel
theorem dX4_empty_55 : decode cX4_empty 55 = .ok (.iconst 0, 1) := by decide +kernel
theorem dX4_empty_56 : decode cX4_empty 56 = .ok (.iastore, 1) := by decide +kernel
theorem dX4_empty_57 : decode cX4_empty 57 = .ok (.iinc 1 1, 3) := by decide +kernel
theorem dX4_empty_60 : decode cX4_empty 60 = .ok (.goto (-23), 3) := by decide +kernel
theorem dX4_empty_63 : decode cX4_empty 63 = .ok (.aload_n 0, 1) := by decide +kernel
theorem dX4_empty_64 : decode cX4_empty 64 = .ok (.iconst 0, 1) := by decide +kernel
theorem dX4_empty_65 : decode cX4_empty 65 = .ok (.putfield 27, 3) := by decide +kernel
theorem dX4_empty_68 : decode cX4_empty 68 = .ok (.aload_n 0, 1) := by decide +kernel
theorem dX4_empty_69 : decode cX4_empty 69 = .ok (.bipush 50, 2) := by decide +kernel
theorem dX4_empty_71 : decode cX4_empty 71 = .ok (.putfield 31, 3) := by decide +kernel
theorem dX4_empty_74 : decode cX4_empty 74 = .ok (.aload_n 0, 1) := by decide +kernel
theorem dX4_empty_75 : decode cX4_empty 75 = .ok (.iconst 0, 1) := by decide +kernel
theorem dX4_empty_76 : decode cX4_empty 76 = .ok (.putfield 34, 3) := by decide +kernel
theorem dX4_empty_79 : decode cX4_empty 79 = .ok (.aload_n 0, 1) := by decide +kernel
theorem dX4_empty_80 : decode cX4_empty 80 = .ok (.iconst 0, 1) := by decide +kernel
theorem dX4_empty_81 : decode cX4_empty 81 = .ok (.putfield 37, 3) := by decide +kernel
theorem dX4_empty_84 : decode cX4_empty 84 = .ok (.aload_n 0, 1) := by decide +kernel
theorem dX4_empty_85 : decode cX4_empty 85 = .ok (.iconst 0, 1) := by decide +kernel
theorem dX4_empty_86 : decode cX4_empty 86 = .ok (.putfield 40, 3) := by decide +kernel
theorem dX4_empty_89 : decode cX4_empty 89 = .ok (.aload_n 0, 1) := by decide +kernel
theorem dX4_empty_90 : decode cX4_empty 90 = .ok (.iconst 0, 1) := by decide +kernel
theorem dX4_empty_91 : decode cX4_empty 91 = .ok (.putfield 43, 3) := by decide +kernel
theorem dX4_empty_94 : decode cX4_empty 94 = .ok (.return_, 1) := by decide +kernel
theorem dX4_copyFrom_0 : decode cX4_copyFrom 0 = .ok (.aload_n 1, 1) := by decide +kernel
theorem dX4_copyFrom_1 : decode cX4_copyFrom 1 = .ok (.getfield 9, 3) := by decide +kernel
theorem dX4_copyFrom_4 : decode cX4_copyFrom 4 = .ok (.iconst 0, 1) := by decide +kernel
theorem dX4_copyFrom_5 : decode cX4_copyFrom 5 = .ok (.aload_n 0, 1) := by decide +kernel
theorem dX4_copyFrom_6 : decode cX4_copyFrom 6 = .ok (.getfield 9, 3) := by decide +kernel
theorem dX4_copyFrom_9 : decode cX4_copyFrom 9 = .ok (.iconst 0, 1) := by decide +kernel
theorem dX4_copyFrom_10 : decode cX4_copyFrom 10 = .ok (.bipush 6, 2) := by decide +kernel
theorem dX4_copyFrom_12 : decode cX4_copyFrom 12 = .ok (.invokestatic 46, 3) := by decide +kernel
theorem dX4_copyFrom_15 : decode cX4_copyFrom 15 = .ok (.aload_n 1, 1) := by decide +kernel
theorem dX4_copyFrom_16 : decode cX4_copyFrom 16 = .ok (.getfield 15, 3) := by decide +kernel
theorem dX4_copyFrom_19 : decode cX4_copyFrom 19 = .ok (.iconst 0, 1) := by decide +kernel
theorem dX4_copyFrom_20 : decode cX4_copyFrom 20 = .ok (.aload_n 0, 1) := by decide +kernel
theorem dX4_copyFrom_21 : decode cX4_copyFrom 21 = .ok (.getfield 15, 3) := by decide +kernel
theorem dX4_copyFrom_24 : decode cX4_copyFrom 24 = .ok (.iconst 0, 1) := by decide +kernel
theorem dX4_copyFrom_25 : decode cX4_copyFrom 25 = .ok (.bipush 6, 2) := by decide +kernel
theorem dX4_copyFrom_27 : decode cX4_copyFrom 27 = .ok (.invokestatic 46, 3) := by decide +kernel
theorem dX4_copyFrom_30 : decode cX4_copyFrom 30 = .ok (.aload_n 1, 1) := by decide +kernel
theorem dX4_copyFrom_31 : decode cX4_copyFrom 31 = .ok (.getfield 18, 3) := by decide +kernel
theorem dX4_copyFrom_34 : decode cX4_copyFrom 34 = .ok (.iconst 0, 1) := by decide +kernel
theorem dX4_copyFrom_35 : decode cX4_copyFrom 35 = .ok (.aload_n 0, 1) := by decide +kernel
theorem dX4_copyFrom_36 : decode cX4_copyFrom 36 = .ok (.getfield 18, 3) := by decide +kernel
theorem dX4_copyFrom_39 : decode cX4_copyFrom 39 = .ok (.iconst 0, 1) := by decide +kernel
theorem dX4_copyFrom_40 : decode cX4_copyFrom 40 = .ok (.bipush 6, 2) := by decide +kernel
theorem dX4_copyFrom_42 : decode cX4_copyFrom 42 = .ok (.invokestatic 46, 3) := by decide +kernel
theorem dX4_copyFrom_45 : decode cX4_copyFrom 45 = .ok (.aload_n 1, 1) := by decide +kernel
theorem dX4_copyFrom_46 : decode cX4_copyFrom 46 = .ok (.getfield 21, 3) := by decide +kernel
theorem dX4_copyFrom_49 : decode cX4_copyFrom 49 = .ok (.iconst 0, 1) := by decide +kernel
theorem dX4_copyFrom_50 : decode cX4_copyFrom 50 = .ok (.aload_n 0, 1) := by decide +kernel
theorem dX4_copyFrom_51 : decode cX4_copyFrom 51 = .ok (.getfield 21, 3) := by decide +kernel
theorem dX4_copyFrom_54 : decode cX4_copyFrom 54 = .ok (.iconst 0, 1) := by decide +kernel
theorem dX4_copyFrom_55 : decode cX4_copyFrom 55 = .ok (.bipush 36, 2) := by decide +kernel
theorem dX4_copyFrom_57 : decode cX4_copyFrom 57 = .ok (.invokestatic 46, 3) := by decide +kernel
theorem dX4_copyFrom_60 : decode cX4_copyFrom 60 = .ok (.aload_n 1, 1) := by decide +kernel
theorem dX4_copyFrom_61 : decode cX4_copyFrom 61 = .ok (.getfield 24, 3) := by decide +kernel
theorem dX4_copyFrom_64 : decode cX4_copyFrom 64 = .ok (.iconst 0, 1) := by decide +kernel
theorem dX4_copyFrom_65 : decode cX4_copyFrom 65 = .ok (.aload_n 0, 1) := by decide +kernel
theorem dX4_copyFrom_66 : decode cX4_copyFrom 66 = .ok (.getfield 24, 3) := by decide +kernel
theorem dX4_copyFrom_69 : decode cX4_copyFrom 69 = .ok (.iconst 0, 1) := by decide +kernel
theorem dX4_copyFrom_70 : decode cX4_copyFrom 70 = .ok (.bipush 36, 2) := by decide +kernel
theorem dX4_copyFrom_72 : decode cX4_copyFrom 72 = .ok (.invokestatic 46, 3) := by decide +kernel
theorem dX4_copyFrom_75 : decode cX4_copyFrom 75 = .ok (.aload_n 0, 1) := by decide +kernel
theorem dX4_copyFrom_76 : decode cX4_copyFrom 76 = .ok (.aload_n 1, 1) := by decide +kernel
theorem dX4_copyFrom_77 : decode cX4_copyFrom 77 = .ok (.getfield 27, 3) := by decide +kernel
theorem dX4_copyFrom_80 : decode cX4_copyFrom 80 = .ok (.putfield 27, 3) := by decide +kernel
theorem dX4_copyFrom_83 : decode cX4_copyFrom 83 = .ok (.aload_n 0, 1) := by decide +kernel
theorem dX4_copyFrom_84 : decode cX4_copyFrom 84 = .ok (.aload_n 1, 1) := by decide +kernel
theorem dX4_copyFrom_85 : decode cX4_copyFrom 85 = .ok (.getfield 31, 3) := by decide +kernel
theorem dX4_copyFrom_88 : decode cX4_copyFrom 88 = .ok (.putfield 31, 3) := by decide +kernel
theorem dX4_copyFrom_91 : decode cX4_copyFrom 91 = .ok (.aload_n 0, 1) := by decide +kernel
theorem dX4_copyFrom_92 : decode cX4_copyFrom 92 = .ok (.aload_n 1, 1) := by decide +kernel
theorem dX4_copyFrom_93 : decode cX4_copyFrom 93 = .ok (.getfield 34, 3) := by decide +kernel
theorem dX4_copyFrom_96 : decode cX4_copyFrom 96 = .ok (.putfield 34, 3) := by decide +kernel
theorem dX4_copyFrom_99 : decode cX4_copyFrom 99 = .ok (.aload_n 0, 1) := by decide +kernel
theorem dX4_copyFrom_100 : decode cX4_copyFrom 100 = .ok (.aload_n 1, 1) := by decide +kernel
theorem dX4_copyFrom_101 : decode cX4_copyFrom 101 = .ok (.getfield 37, 3) := by decide +kernel
theorem dX4_copyFrom_104 : decode cX4_copyFrom 104 = .ok (.putfield 37, 3) := by decide +kernel
theorem dX4_copyFrom_107 : decode cX4_copyFrom 107 = .ok (.aload_n 0, 1) := by decide +kernel
theorem dX4_copyFrom_108 : decode cX4_copyFrom 108 = .ok (.aload_n 1, 1) := by decide +kernel
theorem dX4_copyFrom_109 : decode cX4_copyFrom 109 = .ok (.getfield 40, 3) := by decide +kernel
theorem dX4_copyFrom_112 : decode cX4_copyFrom 112 = .ok (.putfield 40, 3) := by decide +kernel
theorem dX4_copyFrom_115 : decode cX4_copyFrom 115 = .ok (.aload_n 0, 1) := by decide +kernel
theorem dX4_copyFrom_116 : decode cX4_copyFrom 116 = .ok (.aload_n 1, 1) := by decide +kernel
theorem dX4_copyFrom_117 : decode cX4_copyFrom 117 = .ok (.getfield 43, 3) := by decide +kernel
theorem dX4_copyFrom_120 : decode cX4_copyFrom 120 = .ok (.putfield 43, 3) := by decide +kernel
theorem dX4_copyFrom_123 : decode cX4_copyFrom 123 = .ok (.return_, 1) := by decide +kernel
theorem dX4_isLike_0 : decode cX4_isLike 0 = .ok (.aload_n 0, 1) := by decide +kernel
theorem dX4_isLike_1 : decode cX4_isLike 1 = .ok (.getfield 27, 3) := by decide +kernel
theorem dX4_isLike_4 : decode cX4_isLike 4 = .ok (.aload_n 1, 1) := by decide +kernel
theorem dX4_isLike_5 : decode cX4_isLike 5 = .ok (.getfield 27, 3) := by decide +kernel
theorem dX4_isLike_8 : decode cX4_isLike 8 = .ok (.if_icmp .ne 132, 3) := by decide +kernel
theorem dX4_isLike_11 : decode cX4_isLike 11 = .ok (.aload_n 0, 1) := by decide +kernel
theorem dX4_isLike_12 : decode cX4_isLike 12 = .ok (.getfield 31, 3) := by decide +kernel
theorem dX4_isLike_15 : decode cX4_isLike 15 = .ok (.aload_n 1, 1) := by decide +kernel
theorem dX4_isLike_16 : decode cX4_isLike 16 = .ok (.getfield 31, 3) := by decide +kernel
theorem dX4_isLike_19 : decode cX4_isLike 19 = .ok (.if_icmp .ne 121, 3) := by decide +kernel
theorem dX4_isLike_22 : decode cX4_isLike 22 = .ok (.aload_n 0, 1) := by decide +kernel
theorem dX4_isLike_23 : decode cX4_isLike 23 = .ok (.getfield 34, 3) := by decide +kernel
theorem dX4_isLike_26 : decode cX4_isLike 26 = .ok (.aload_n 1, 1) := by decide +kernel
theorem dX4_isLike_27 : decode cX4_isLike 27 = .ok (.getfield 34, 3) := by decide +kernel
theorem dX4_isLike_30 : decode cX4_isLike 30 = .ok (.if_icmp .ne 110, 3) := by decide +kernel
theorem dX4_isLike_33 : decode cX4_isLike 33 = .ok (.aload_n 0, 1) := by decide +kernel
theorem dX4_isLike_34 : decode cX4_isLike 34 = .ok (.getfield 37, 3) := by decide +kernel
theorem dX4_isLike_37 : decode cX4_isLike 37 = .ok (.aload_n 1, 1) := by decide +kernel
theorem dX4_isLike_38 : decode cX4_isLike 38 = .ok (.getfield 37, 3) := by decide +kernel
theorem dX4_isLike_41 : decode cX4_isLike 41 = .ok (.if_icmp .ne 99, 3) := by decide +kernel
theorem dX4_isLike_44 : decode cX4_isLike 44 = .ok (.aload_n 0, 1) := by decide +kernel
theorem dX4_isLike_45 : decode cX4_isLike 45 = .ok (.getfield 40, 3) := by decide +kernel
theorem dX4_isLike_48 : decode cX4_isLike 48 = .ok (.aload_n 1, 1) := by decide +kernel
theorem dX4_isLike_49 : decode cX4_isLike 49 = .ok (.getfield 40, 3) := by decide +kernel
theorem dX4_isLike_52 : decode cX4_isLike 52 = .ok (.if_icmp .ne 88, 3) := by decide +kernel
theorem dX4_isLike_55 : decode cX4_isLike 55 = .ok (.aload_n 0, 1) := by decide +kernel
theorem dX4_isLike_56 : decode cX4_isLike 56 = .ok (.getfield 43, 3) := by decide +kernel
theorem dX4_isLike_59 : decode cX4_isLike 59 = .ok (.aload_n 1, 1) := by decide +kernel
theorem dX4_isLike_60 : decode cX4_isLike 60 = .ok (.getfield 43, 3) := by decide +kernel
theorem dX4_isLike_63 : decode cX4_isLike 63 = .ok (.if_icmp .ne 77, 3) := by decide +kernel
theorem dX4_isLike_66 : decode cX4_isLike 66 = .ok (.aload_n 0, 1) := by decide +kernel
theorem dX4_isLike_67 : decode cX4_isLike 67 = .ok (.getfield 9, 3) := by decide +kernel
theorem dX4_isLike_70 : decode cX4_isLike 70 = .ok (.aload_n 1, 1) := by decide +kernel
theorem dX4_isLike_71 : decode cX4_isLike 71 = .ok (.getfield 9, 3) := by decide +kernel
theorem dX4_isLike_74 : decode cX4_isLike 74 = .ok (.invokestatic 52, 3) := by decide +kernel
theorem dX4_isLike_77 : decode cX4_isLike 77 = .ok (.ifCond .eq 63, 3) := by decide +kernel
theorem dX4_isLike_80 : decode cX4_isLike 80 = .ok (.aload_n 0, 1) := by decide +kernel
theorem dX4_isLike_81 : decode cX4_isLike 81 = .ok (.getfield 15, 3) := by decide +kernel
theorem dX4_isLike_84 : decode cX4_isLike 84 = .ok (.aload_n 1, 1) := by decide +kernel
theorem dX4_isLike_85 : decode cX4_isLike 85 = .ok (.getfield 15, 3) := by decide +kernel
theorem dX4_isLike_88 : decode cX4_isLike 88 = .ok (.invokestatic 52, 3) := by decide +kernel
theorem dX4_isLike_91 : decode cX4_isLike 91 = .ok (.ifCond .eq 49, 3) := by decide +kernel
theorem dX4_isLike_94 : decode cX4_isLike 94 = .ok (.aload_n 0, 1) := by decide +kernel
theorem dX4_isLike_95 : decode cX4_isLike 95 = .ok (.getfield 18, 3) := by decide +kernel
theorem dX4_isLike_98 : decode cX4_isLike 98 = .ok (.aload_n 1, 1) := by decide +kernel
theorem dX4_isLike_99 : decode cX4_isLike 99 = .ok (.getfield 18, 3) := by decide +kernel
theorem dX4_isLike_102 : decode cX4_isLike 102 = .ok (.invokestatic 52, 3) := by decide +kernel
theorem dX4_isLike_105 : decode cX4_isLike 105 = .ok (.ifCond .eq 35, 3) := by decide +kernel
theorem dX4_isLike_108 : decode cX4_isLike 108 = .ok (.aload_n 0, 1) := by decide +kernel
theorem dX4_isLike_109 : decode cX4_isLike 109 = .ok (.getfield 21, 3) := by decide +kernel
theorem dX4_isLike_112 : decode cX4_isLike 112 = .ok (.aload_n 1, 1) := by decide +kernel
theorem dX4_isLike_113 : decode cX4_isLike 113 = .ok (.getfield 21, 3) := by decide +kernel
theorem dX4_isLike_116 : decode cX4_isLike 116 = .ok (.invokestatic 52, 3) := by decide +kernel
theorem dX4_isLike_119 : decode cX4_isLike 119 = .ok (.ifCond .eq 21, 3) := by decide +kernel
theorem dX4_isLike_122 : decode cX4_isLike 122 = .ok (.aload_n 0, 1) := by decide +kernel
theorem dX4_isLike_123 : decode cX4_isLike 123 = .ok (.getfield 24, 3) := by decide +kernel
theorem dX4_isLike_126 : decode cX4_isLike 126 = .ok (.aload_n 1, 1) := by decide +kernel
theorem dX4_isLike_127 : decode cX4_isLike 127 = .ok (.getfield 24, 3) := by decide +kernel
theorem dX4_isLike_130 : decode cX4_isLike 130 = .ok (.invokestatic 52, 3) := by decide +kernel
theorem dX4_isLike_133 : decode cX4_isLike 133 = .ok (.ifCond .eq 7, 3) := by decide +kernel
theorem dX4_isLike_136 : decode cX4_isLike 136 = .ok (.iconst 1, 1) := by decide +kernel
theorem dX4_isLike_137 : decode cX4_isLike 137 = .ok (.goto 4, 3) := by decide +kernel
theorem dX4_isLike_140 : decode cX4_isLike 140 = .ok (.iconst 0, 1) := by decide +kernel
theorem dX4_isLike_141 : decode cX4_isLike 141 = .ok (.ireturn, 1) := by decide +kernel
theorem dX4_tellPerson_0 : decode cX4_tellPerson 0 = .ok (.aload_n 0, 1) := by decide +kernel
theorem dX4_tellPerson_1 : decode cX4_tellPerson 1 = .ok (.getfield 27, 3) := by decide +kernel
theorem dX4_tellPerson_4 : decode cX4_tellPerson 4 = .ok (.bipush 6, 2) := by decide +kernel
theorem dX4_tellPerson_6 : decode cX4_tellPerson 6 = .ok (.if_icmp .ge 14, 3) := by decide +kernel
theorem dX4_tellPerson_9 : decode cX4_tellPerson 9 = .ok (.iload_n 1, 1) := by decide +kernel
theorem dX4_tellPerson_10 : decode cX4_tellPerson 10 = .ok (.iconst 4, 1) := by decide +kernel
theorem dX4_tellPerson_11 : decode cX4_tellPerson 11 = .ok (.if_icmp .gt 9, 3) := by decide +kernel
theorem dX4_tellPerson_14 : decode cX4_tellPerson 14 = .ok (.iload_n 3, 1) := by decide +kernel
theorem dX4_tellPerson_15 : decode cX4_tellPerson 15 = .ok (.bipush 60, 2) := by decide +kernel
theorem dX4_tellPerson_17 : decode cX4_tellPerson 17 = .ok (.if_icmp .le 5, 3) := by decide +kernel
theorem dX4_tellPerson_20 : decode cX4_tellPerson 20 = .ok (.iconst 0, 1) := by decide +kernel
theorem dX4_tellPerson_21 : decode cX4_tellPerson 21 = .ok (.ireturn, 1) := by decide +kernel
theorem dX4_tellPerson_22 : decode cX4_tellPerson 22 = .ok (.aload_n 0, 1) := by decide +kernel
theorem dX4_tellPerson_23 : decode cX4_tellPerson 23 = .ok (.getfield 9, 3) := by decide +kernel
theorem dX4_tellPerson_26 : decode cX4_tellPerson 26 = .ok (.aload_n 0, 1) := by decide +kernel
theorem dX4_tellPerson_27 : decode cX4_tellPerson 27 = .ok (.getfield 27, 3) := by decide +kernel
theorem dX4_tellPerson_30 : decode cX4_tellPerson 30 = .ok (.iload_n 1, 1) := by decide +kernel
theorem dX4_tellPerson_31 : decode cX4_tellPerson 31 = .ok (.iastore, 1) := by decide +kernel
theorem dX4_tellPerson_32 : decode cX4_tellPerson 32 = .ok (.aload_n 0, 1) := by decide +kernel
theorem dX4_tellPerson_33 : decode cX4_tellPerson 33 = .ok (.getfield 15, 3) := by decide +kernel
theorem dX4_tellPerson_36 : decode cX4_tellPerson 36 = .ok (.aload_n 0, 1) := by decide +kernel
theorem dX4_tellPerson_37 : decode cX4_tellPerson 37 = .ok (.getfield 27, 3) := by decide +kernel
theorem dX4_tellPerson_40 : decode cX4_tellPerson 40 = .ok (.iload_n 2, 1) := by decide +kernel
theorem dX4_tellPerson_41 : decode cX4_tellPerson 41 = .ok (.iastore, 1) := by decide +kernel
theorem dX4_tellPerson_42 : decode cX4_tellPerson 42 = .ok (.aload_n 0, 1) := by decide +kernel
theorem dX4_tellPerson_43 : decode cX4_tellPerson 43 = .ok (.getfield 18, 3) := by decide +kernel
theorem dX4_tellPerson_46 : decode cX4_tellPerson 46 = .ok (.aload_n 0, 1) := by decide +kernel
theorem dX4_tellPerson_47 : decode cX4_tellPerson 47 = .ok (.getfield 27, 3) := by decide +kernel
theorem dX4_tellPerson_50 : decode cX4_tellPerson 50 = .ok (.iload_n 3, 1) := by decide +kernel
theorem dX4_tellPerson_51 : decode cX4_tellPerson 51 = .ok (.iastore, 1) := by decide +kernel
theorem dX4_tellPerson_52 : decode cX4_tellPerson 52 = .ok (.aload_n 0, 1) := by decide +kernel
theorem dX4_tellPerson_53 : decode cX4_tellPerson 53 = .ok (.dup, 1) := by decide +kernel
theorem dX4_tellPerson_54 : decode cX4_tellPerson 54 = .ok (.getfield 27, 3) := by decide +kernel
theorem dX4_tellPerson_57 : decode cX4_tellPerson 57 = .ok (.iconst 1, 1) := by decide +kernel
theorem dX4_tellPerson_58 : decode cX4_tellPerson 58 = .ok (.iadd, 1) := by decide +kernel
theorem dX4_tellPerson_59 : decode cX4_tellPerson 59 = .ok (.putfield 27, 3) := by decide +kernel
theorem dX4_tellPerson_62 : decode cX4_tellPerson 62 = .ok (.iconst 1, 1) := by decide +kernel
theorem dX4_tellPerson_63 : decode cX4_tellPerson 63 = .ok (.ireturn, 1) := by decide +kernel
theorem dX4_tellTie_0 : decode cX4_tellTie 0 = .ok (.aload_n 0, 1) := by decide +kernel
theorem dX4_tellTie_1 : decode cX4_tellTie 1 = .ok (.iload_n 1, 1) := by decide +kernel
theorem dX4_tellTie_2 : decode cX4_tellTie 2 = .ok (.iload_n 2, 1) := by decide +kernel
theorem dX4_tellTie_3 : decode cX4_tellTie 3 = .ok (.invokevirtual 56, 3) := by decide +kernel
theorem dX4_tellTie_6 : decode cX4_tellTie 6 = .ok (.ifCond .eq 9, 3) := by decide +kernel
theorem dX4_tellTie_9 : decode cX4_tellTie 9 = .ok (.iload_n 3, 1) := by decide +kernel
theorem dX4_tellTie_10 : decode cX4_tellTie 10 = .ok (.bipush 9, 2) := by decide +kernel
theorem dX4_tellTie_12 : decode cX4_tellTie 12 = .ok (.if_icmp .le 5, 3) := by decide +kernel
theorem dX4_tellTie_15 : decode cX4_tellTie 15 = .ok (.iconst 0, 1) := by decide +kernel
theorem dX4_tellTie_16 : decode cX4_tellTie 16 = .ok (.ireturn, 1) := by decide +kernel
theorem dX4_tellTie_17 : decode cX4_tellTie 17 = .ok (.aload_n 0, 1) := by decide +kernel
theorem dX4_tellTie_18 : decode cX4_tellTie 18 = .ok (.getfield 21, 3) := by decide +kernel
theorem dX4_tellTie_21 : decode cX4_tellTie 21 = .ok (.aload_n 0, 1) := by decide +kernel
theorem dX4_tellTie_22 : decode cX4_tellTie 22 = .ok (.iload_n 1, 1) := by decide +kernel
theorem dX4_tellTie_23 : decode cX4_tellTie 23 = .ok (.iload_n 2, 1) := by decide +kernel
theorem dX4_tellTie_24 : decode cX4_tellTie 24 = .ok (.invokevirtual 60, 3) := by decide +kernel
theorem dX4_tellTie_27 : decode cX4_tellTie 27 = .ok (.iload_n 3, 1) := by decide +kernel
theorem dX4_tellTie_28 : decode cX4_tellTie 28 = .ok (.iconst 4, 1) := by decide +kernel
theorem dX4_tellTie_29 : decode cX4_tellTie 29 = .ok (.isub, 1) := by decide +kernel
theorem dX4_tellTie_30 : decode cX4_tellTie 30 = .ok (.iastore, 1) := by decide +kernel
theorem dX4_tellTie_31 : decode cX4_tellTie 31 = .ok (.iconst 1, 1) := by decide +kernel
theorem dX4_tellTie_32 : decode cX4_tellTie 32 = .ok (.ireturn, 1) := by decide +kernel
theorem dX4_tellDebt_0 : decode cX4_tellDebt 0 = .ok (.aload_n 0, 1) := by decide +kernel
theorem dX4_tellDebt_1 : decode cX4_tellDebt 1 = .ok (.iload_n 1, 1) := by decide +kernel
theorem dX4_tellDebt_2 : decode cX4_tellDebt 2 = .ok (.iload_n 2, 1) := by decide +kernel
theorem dX4_tellDebt_3 : decode cX4_tellDebt 3 = .ok (.invokevirtual 56, 3) := by decide +kernel
theorem dX4_tellDebt_6 : decode cX4_tellDebt 6 = .ok (.ifCond .eq 9, 3) := by decide +kernel
theorem dX4_tellDebt_9 : decode cX4_tellDebt 9 = .ok (.iload_n 3, 1) := by decide +kernel
theorem dX4_tellDebt_10 : decode cX4_tellDebt 10 = .ok (.bipush 60, 2) := by decide +kernel
theorem dX4_tellDebt_12 : decode cX4_tellDebt 12 = .ok (.if_icmp .le 5, 3) := by decide +kernel
theorem dX4_tellDebt_15 : decode cX4_tellDebt 15 = .ok (.iconst 0, 1) := by decide +kernel
theorem dX4_tellDebt_16 : decode cX4_tellDebt 16 = .ok (.ireturn, 1) := by decide +kernel
theorem dX4_tellDebt_17 : decode cX4_tellDebt 17 = .ok (.aload_n 0, 1) := by decide +kernel
theorem dX4_tellDebt_18 : decode cX4_tellDebt 18 = .ok (.getfield 24, 3) := by decide +kernel
theorem dX4_tellDebt_21 : decode cX4_tellDebt 21 = .ok (.aload_n 0, 1) := by decide +kernel
theorem dX4_tellDebt_22 : decode cX4_tellDebt 22 = .ok (.iload_n 1, 1) := by decide +kernel
theorem dX4_tellDebt_23 : decode cX4_tellDebt 23 = .ok (.iload_n 2, 1) := by decide +kernel
theorem dX4_tellDebt_24 : decode cX4_tellDebt 24 = .ok (.invokevirtual 60, 3) := by decide +kernel
theorem dX4_tellDebt_27 : decode cX4_tellDebt 27 = .ok (.iload_n 3, 1) := by decide +kernel
theorem dX4_tellDebt_28 : decode cX4_tellDebt 28 = .ok (.iastore, 1) := by decide +kernel
theorem dX4_tellDebt_29 : decode cX4_tellDebt 29 = .ok (.iconst 1, 1) := by decide +kernel
theorem dX4_tellDebt_30 : decode cX4_tellDebt 30 = .ok (.ireturn, 1) := by decide +kernel
theorem dX4_tellTrialAge_0 : decode cX4_tellTrialAge 0 = .ok (.iload_n 1, 1) := by decide +kernel
theorem dX4_tellTrialAge_1 : decode cX4_tellTrialAge 1 = .ok (.iconst 1, 1) := by decide +kernel
theorem dX4_tellTrialAge_2 : decode cX4_tellTrialAge 2 = .ok (.if_icmp .ge 5, 3) := by decide +kernel
theorem dX4_tellTrialAge_5 : decode cX4_tellTrialAge 5 = .ok (.iconst 0, 1) := by decide +kernel
theorem dX4_tellTrialAge_6 : decode cX4_tellTrialAge 6 = .ok (.ireturn, 1) := by decide +kernel
theorem dX4_tellTrialAge_7 : decode cX4_tellTrialAge 7 = .ok (.aload_n 0, 1) := by decide +kernel
theorem dX4_tellTrialAge_8 : decode cX4_tellTrialAge 8 = .ok (.iload_n 1, 1) := by decide +kernel
theorem dX4_tellTrialAge_9 : decode cX4_tellTrialAge 9 = .ok (.putfield 31, 3) := by decide +kernel
theorem dX4_tellTrialAge_12 : decode cX4_tellTrialAge 12 = .ok (.iconst 1, 1) := by decide +kernel
theorem dX4_tellTrialAge_13 : decode cX4_tellTrialAge 13 = .ok (.ireturn, 1) := by decide +kernel
theorem dX4_has_0 : decode cX4_has 0 = .ok (.iload_n 1, 1) := by decide +kernel
theorem dX4_has_1 : decode cX4_has 1 = .ok (.ifCond .lt 15, 3) := by decide +kernel
theorem dX4_has_4 : decode cX4_has 4 = .ok (.iload_n 1, 1) := by decide +kernel
theorem dX4_has_5 : decode cX4_has 5 = .ok (.aload_n 0, 1) := by decide +kernel
theorem dX4_has_6 : decode cX4_has 6 = .ok (.getfield 27, 3) := by decide +kernel
theorem dX4_has_9 : decode cX4_has 9 = .ok (.if_icmp .ge 7, 3) := by decide +kernel
theorem dX4_has_12 : decode cX4_has 12 = .ok (.iconst 1, 1) := by decide +kernel
theorem dX4_has_13 : decode cX4_has 13 = .ok (.goto 4, 3) := by decide +kernel
theorem dX4_has_16 : decode cX4_has 16 = .ok (.iconst 0, 1) := by decide +kernel
theorem dX4_has_17 : decode cX4_has 17 = .ok (.ireturn, 1) := by decide +kernel
theorem dX4_hasTwo_0 : decode cX4_hasTwo 0 = .ok (.aload_n 0, 1) := by decide +kernel
theorem dX4_hasTwo_1 : decode cX4_hasTwo 1 = .ok (.iload_n 1, 1) := by decide +kernel
theorem dX4_hasTwo_2 : decode cX4_hasTwo 2 = .ok (.invokevirtual 64, 3) := by decide +kernel
theorem dX4_hasTwo_5 : decode cX4_hasTwo 5 = .ok (.ifCond .eq 20, 3) := by decide +kernel
theorem dX4_hasTwo_8 : decode cX4_hasTwo 8 = .ok (.aload_n 0, 1) := by decide +kernel
theorem dX4_hasTwo_9 : decode cX4_hasTwo 9 = .ok (.iload_n 2, 1) := by decide +kernel
theorem dX4_hasTwo_10 : decode cX4_hasTwo 10 = .ok (.invokevirtual 64, 3) := by decide +kernel
theorem dX4_hasTwo_13 : decode cX4_hasTwo 13 = .ok (.ifCond .eq 12, 3) := by decide +kernel
theorem dX4_hasTwo_16 : decode cX4_hasTwo 16 = .ok (.iload_n 1, 1) := by decide +kernel
theorem dX4_hasTwo_17 : decode cX4_hasTwo 17 = .ok (.iload_n 2, 1) := by decide +kernel
theorem dX4_hasTwo_18 : decode cX4_hasTwo 18 = .ok (.if_icmp .eq 7, 3) := by decide +kernel
theorem dX4_hasTwo_21 : decode cX4_hasTwo 21 = .ok (.iconst 1, 1) := by decide +kernel
theorem dX4_hasTwo_22 : decode cX4_hasTwo 22 = .ok (.goto 4, 3) := by decide +kernel
theorem dX4_hasTwo_25 : decode cX4_hasTwo 25 = .ok (.iconst 0, 1) := by decide +kernel
theorem dX4_hasTwo_26 : decode cX4_hasTwo 26 = .ok (.ireturn, 1) := by decide +kernel
theorem dX4_lives_0 : decode cX4_lives 0 = .ok (.aload_n 0, 1) := by decide +kernel
theorem dX4_lives_1 : decode cX4_lives 1 = .ok (.getfield 34, 3) := by decide +kernel
theorem dX4_lives_4 : decode cX4_lives 4 = .ok (.iload_n 1, 1) := by decide +kernel
theorem dX4_lives_5 : decode cX4_lives 5 = .ok (.invokestatic 68, 3) := by decide +kernel
theorem dX4_lives_8 : decode cX4_lives 8 = .ok (.ifCond .ne 7, 3) := by decide +kernel
theorem dX4_lives_11 : decode cX4_lives 11 = .ok (.iconst 1, 1) := by decide +kernel
theorem dX4_lives_12 : decode cX4_lives 12 = .ok (.goto 4, 3) := by decide +kernel
theorem dX4_lives_15 : decode cX4_lives 15 = .ok (.iconst 0, 1) := by decide +kernel
theorem dX4_lives_16 : decode cX4_lives 16 = .ok (.ireturn, 1) := by decide +kernel
theorem dX4_hadTrial_0 : decode cX4_hadTrial 0 = .ok (.aload_n 0, 1) := by decide +kernel
theorem dX4_hadTrial_1 : decode cX4_hadTrial 1 = .ok (.getfield 37, 3) := by decide +kernel
theorem dX4_hadTrial_4 : decode cX4_hadTrial 4 = .ok (.iload_n 1, 1) := by decide +kernel
theorem dX4_hadTrial_5 : decode cX4_hadTrial 5 = .ok (.invokestatic 68, 3) := by decide +kernel
theorem dX4_hadTrial_8 : decode cX4_hadTrial 8 = .ok (.ireturn, 1) := by decide +kernel
theorem dX4_ageOf_0 : decode cX4_ageOf 0 = .ok (.aload_n 0, 1) := by decide +kernel
theorem dX4_ageOf_1 : decode cX4_ageOf 1 = .ok (.getfield 15, 3) := by decide +kernel
theorem dX4_ageOf_4 : decode cX4_ageOf 4 = .ok (.iload_n 1, 1) := by decide +kernel
theorem dX4_ageOf_5 : decode cX4_ageOf 5 = .ok (.iaload, 1) := by decide +kernel
theorem dX4_ageOf_6 : decode cX4_ageOf 6 = .ok (.aload_n 0, 1) := by decide +kernel
theorem dX4_ageOf_7 : decode cX4_ageOf 7 = .ok (.getfield 40, 3) := by decide +kernel
theorem dX4_ageOf_10 : decode cX4_ageOf 10 = .ok (.bipush 30, 2) := by decide +kernel
theorem dX4_ageOf_12 : decode cX4_ageOf 12 = .ok (.idiv, 1) := by decide +kernel
theorem dX4_ageOf_13 : decode cX4_ageOf 13 = .ok (.iadd, 1) := by decide +kernel
theorem dX4_ageOf_14 : decode cX4_ageOf 14 = .ok (.ireturn, 1) := by decide +kernel
theorem dX4_tieOf_0 : decode cX4_tieOf 0 = .ok (.aload_n 0, 1) := by decide +kernel
theorem dX4_tieOf_1 : decode cX4_tieOf 1 = .ok (.getfield 21, 3) := by decide +kernel
theorem dX4_tieOf_4 : decode cX4_tieOf 4 = .ok (.aload_n 0, 1) := by decide +kernel
theorem dX4_tieOf_5 : decode cX4_tieOf 5 = .ok (.iload_n 1, 1) := by decide +kernel
theorem dX4_tieOf_6 : decode cX4_tieOf 6 = .ok (.iload_n 2, 1) := by decide +kernel
theorem dX4_tieOf_7 : decode cX4_tieOf 7 = .ok (.invokevirtual 60, 3) := by decide +kernel
theorem dX4_tieOf_10 : decode cX4_tieOf 10 = .ok (.iaload, 1) := by decide +kernel
theorem dX4_tieOf_11 : decode cX4_tieOf 11 = .ok (.ireturn, 1) := by decide +kernel
theorem dX4_debtOf_0 : decode cX4_debtOf 0 = .ok (.aload_n 0, 1) := by decide +kernel
theorem dX4_debtOf_1 : decode cX4_debtOf 1 = .ok (.getfield 24, 3) := by decide +kernel
theorem dX4_debtOf_4 : decode cX4_debtOf 4 = .ok (.aload_n 0, 1) := by decide +kernel
theorem dX4_debtOf_5 : decode cX4_debtOf 5 = .ok (.iload_n 1, 1) := by decide +kernel
theorem dX4_debtOf_6 : decode cX4_debtOf 6 = .ok (.iload_n 2, 1) := by decide +kernel
theorem dX4_debtOf_7 : decode cX4_debtOf 7 = .ok (.invokevirtual 60, 3) := by decide +kernel
theorem dX4_debtOf_10 : decode cX4_debtOf 10 = .ok (.iaload, 1) := by decide +kernel
theorem dX4_debtOf_11 : decode cX4_debtOf 11 = .ok (.ireturn, 1) := by decide +kernel
theorem dX4_cell_0 : decode cX4_cell 0 = .ok (.iload_n 1, 1) := by decide +kernel
theorem dX4_cell_1 : decode cX4_cell 1 = .ok (.bipush 6, 2) := by decide +kernel
theorem dX4_cell_3 : decode cX4_cell 3 = .ok (.imul, 1) := by decide +kernel
theorem dX4_cell_4 : decode cX4_cell 4 = .ok (.iload_n 2, 1) := by decide +kernel
theorem dX4_cell_5 : decode cX4_cell 5 = .ok (.iadd, 1) := by decide +kernel
theorem dX4_cell_6 : decode cX4_cell 6 = .ok (.ireturn, 1) := by decide +kernel
theorem dX4_coinsOfAll_0 : decode cX4_coinsOfAll 0 = .ok (.iconst 0, 1) := by decide +kernel
theorem dX4_coinsOfAll_1 : decode cX4_coinsOfAll 1 = .ok (.istore_n 1, 1) := by decide +kernel
theorem dX4_coinsOfAll_2 : decode cX4_coinsOfAll 2 = .ok (.iconst 0, 1) := by decide +kernel
theorem dX4_coinsOfAll_3 : decode cX4_coinsOfAll 3 = .ok (.istore_n 2, 1) := by decide +kernel
theorem dX4_coinsOfAll_4 : decode cX4_coinsOfAll 4 = .ok (.iload_n 2, 1) := by decide +kernel
theorem dX4_coinsOfAll_5 : decode cX4_coinsOfAll 5 = .ok (.aload_n 0, 1) := by decide +kernel
theorem dX4_coinsOfAll_6 : decode cX4_coinsOfAll 6 = .ok (.getfield 27, 3) := by decide +kernel
theorem dX4_coinsOfAll_9 : decode cX4_coinsOfAll 9 = .ok (.if_icmp .ge 18, 3) := by decide +kernel
theorem dX4_coinsOfAll_12 : decode cX4_coinsOfAll 12 = .ok (.iload_n 1, 1) := by decide +kernel
theorem dX4_coinsOfAll_13 : decode cX4_coinsOfAll 13 = .ok (.aload_n 0, 1) := by decide +kernel
theorem dX4_coinsOfAll_14 : decode cX4_coinsOfAll 14 = .ok (.getfield 18, 3) := by decide +kernel
theorem dX4_coinsOfAll_17 : decode cX4_coinsOfAll 17 = .ok (.iload_n 2, 1) := by decide +kernel
theorem dX4_coinsOfAll_18 : decode cX4_coinsOfAll 18 = .ok (.iaload, 1) := by decide +kernel
theorem dX4_coinsOfAll_19 : decode cX4_coinsOfAll 19 = .ok (.iadd, 1) := by decide +kernel
theorem dX4_coinsOfAll_20 : decode cX4_coinsOfAll 20 = .ok (.istore_n 1, 1) := by decide +kernel
theorem dX4_coinsOfAll_21 : decode cX4_coinsOfAll 21 = .ok (.iinc 2 1, 3) := by decide +kernel
theorem dX4_coinsOfAll_24 : decode cX4_coinsOfAll 24 = .ok (.goto (-20), 3) := by decide +kernel
theorem dX4_coinsOfAll_27 : decode cX4_coinsOfAll 27 = .ok (.iload_n 1, 1) := by decide +kernel
theorem dX4_coinsOfAll_28 : decode cX4_coinsOfAll 28 = .ok (.ireturn, 1) := by decide +kernel
theorem dX4_debtsOfAll_0 : decode cX4_debtsOfAll 0 = .ok (.iconst 0, 1) := by decide +kernel
theorem dX4_debtsOfAll_1 : decode cX4_debtsOfAll 1 = .ok (.istore_n 1, 1) := by decide +kernel
theorem dX4_debtsOfAll_2 : decode cX4_debtsOfAll 2 = .ok (.iconst 0, 1) := by decide +kernel
theorem dX4_debtsOfAll_3 : decode cX4_debtsOfAll 3 = .ok (.istore_n 2, 1) := by decide +kernel
theorem dX4_debtsOfAll_4 : decode cX4_debtsOfAll 4 = .ok (.iload_n 2, 1) := by decide +kernel
theorem dX4_debtsOfAll_5 : decode cX4_debtsOfAll 5 = .ok (.bipush 36, 2) := by decide +kernel
theorem dX4_debtsOfAll_7 : decode cX4_debtsOfAll 7 = .ok (.if_icmp .ge 18, 3) := by decide +kernel
theorem dX4_debtsOfAll_10 : decode cX4_debtsOfAll 10 = .ok (.iload_n 1, 1) := by decide +kernel
theorem dX4_debtsOfAll_11 : decode cX4_debtsOfAll 11 = .ok (.aload_n 0, 1) := by decide +kernel
theorem dX4_debtsOfAll_12 : decode cX4_debtsOfAll 12 = .ok (.getfield 24, 3) := by decide +kernel
theorem dX4_debtsOfAll_15 : decode cX4_debtsOfAll 15 = .ok (.iload_n 2, 1) := by decide +kernel
theorem dX4_debtsOfAll_16 : decode cX4_debtsOfAll 16 = .ok (.iaload, 1) := by decide +kernel
