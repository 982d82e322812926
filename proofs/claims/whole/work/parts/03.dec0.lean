/-! decode rows 0 -/
theorem dX0_init_0 : decode cX0_init 0 = .ok (.aload_n 0, 1) := by decide +kernel
theorem dX0_init_1 : decode cX0_init 1 = .ok (.invokespecial 3, 3) := by decide +kernel
theorem dX0_init_4 : decode cX0_init 4 = .ok (.aload_n 0, 1) := by decide +kernel
theorem dX0_init_5 : decode cX0_init 5 = .ok (.bipush 12, 2) := by decide +kernel
theorem dX0_init_7 : decode cX0_init 7 = .ok (.newarray .int, 2) := by decide +kernel
theorem dX0_init_9 : decode cX0_init 9 = .ok (.putfield 9, 3) := by decide +kernel
theorem dX0_init_12 : decode cX0_init 12 = .ok (.aload_n 0, 1) := by decide +kernel
theorem dX0_init_13 : decode cX0_init 13 = .ok (.bipush 12, 2) := by decide +kernel
theorem dX0_init_15 : decode cX0_init 15 = .ok (.newarray .int, 2) := by decide +kernel
theorem dX0_init_17 : decode cX0_init 17 = .ok (.putfield 15, 3) := by decide +kernel
theorem dX0_init_20 : decode cX0_init 20 = .ok (.return_, 1) := by decide +kernel
theorem dX0_become_0 : decode cX0_become 0 = .ok (.aload_n 1, 1) := by decide +kernel
theorem dX0_become_1 : decode cX0_become 1 = .ok (.getfield 9, 3) := by decide +kernel
theorem dX0_become_4 : decode cX0_become 4 = .ok (.iconst 0, 1) := by decide +kernel
theorem dX0_become_5 : decode cX0_become 5 = .ok (.aload_n 0, 1) := by decide +kernel
theorem dX0_become_6 : decode cX0_become 6 = .ok (.getfield 9, 3) := by decide +kernel
theorem dX0_become_9 : decode cX0_become 9 = .ok (.iconst 0, 1) := by decide +kernel
theorem dX0_become_10 : decode cX0_become 10 = .ok (.bipush 12, 2) := by decide +kernel
theorem dX0_become_12 : decode cX0_become 12 = .ok (.invokestatic 18, 3) := by decide +kernel
theorem dX0_become_15 : decode cX0_become 15 = .ok (.aload_n 1, 1) := by decide +kernel
theorem dX0_become_16 : decode cX0_become 16 = .ok (.getfield 15, 3) := by decide +kernel
theorem dX0_become_19 : decode cX0_become 19 = .ok (.iconst 0, 1) := by decide +kernel
theorem dX0_become_20 : decode cX0_become 20 = .ok (.aload_n 0, 1) := by decide +kernel
theorem dX0_become_21 : decode cX0_become 21 = .ok (.getfield 15, 3) := by decide +kernel
theorem dX0_become_24 : decode cX0_become 24 = .ok (.iconst 0, 1) := by decide +kernel
theorem dX0_become_25 : decode cX0_become 25 = .ok (.bipush 12, 2) := by decide +kernel
theorem dX0_become_27 : decode cX0_become 27 = .ok (.invokestatic 18, 3) := by decide +kernel
theorem dX0_become_30 : decode cX0_become 30 = .ok (.aload_n 0, 1) := by decide +kernel
theorem dX0_become_31 : decode cX0_become 31 = .ok (.aload_n 1, 1) := by decide +kernel
theorem dX0_become_32 : decode cX0_become 32 = .ok (.getfield 24, 3) := by decide +kernel
theorem dX0_become_35 : decode cX0_become 35 = .ok (.putfield 24, 3) := by decide +kernel
theorem dX0_become_38 : decode cX0_become 38 = .ok (.return_, 1) := by decide +kernel
theorem dX0_add_0 : decode cX0_add 0 = .ok (.aload_n 0, 1) := by decide +kernel
theorem dX0_add_1 : decode cX0_add 1 = .ok (.getfield 24, 3) := by decide +kernel
theorem dX0_add_4 : decode cX0_add 4 = .ok (.iconst 0, 1) := by decide +kernel
theorem dX0_add_5 : decode cX0_add 5 = .ok (.bipush 11, 2) := by decide +kernel
theorem dX0_add_7 : decode cX0_add 7 = .ok (.invokestatic 28, 3) := by decide +kernel
theorem dX0_add_10 : decode cX0_add 10 = .ok (.ifCond .eq 33, 3) := by decide +kernel
theorem dX0_add_13 : decode cX0_add 13 = .ok (.aload_n 0, 1) := by decide +kernel
theorem dX0_add_14 : decode cX0_add 14 = .ok (.getfield 9, 3) := by decide +kernel
theorem dX0_add_17 : decode cX0_add 17 = .ok (.aload_n 0, 1) := by decide +kernel
theorem dX0_add_18 : decode cX0_add 18 = .ok (.getfield 24, 3) := by decide +kernel
theorem dX0_add_21 : decode cX0_add 21 = .ok (.iload_n 1, 1) := by decide +kernel
theorem dX0_add_22 : decode cX0_add 22 = .ok (.iastore, 1) := by decide +kernel
theorem dX0_add_23 : decode cX0_add 23 = .ok (.aload_n 0, 1) := by decide +kernel
theorem dX0_add_24 : decode cX0_add 24 = .ok (.getfield 15, 3) := by decide +kernel
theorem dX0_add_27 : decode cX0_add 27 = .ok (.aload_n 0, 1) := by decide +kernel
theorem dX0_add_28 : decode cX0_add 28 = .ok (.getfield 24, 3) := by decide +kernel
theorem dX0_add_31 : decode cX0_add 31 = .ok (.iload_n 2, 1) := by decide +kernel
theorem dX0_add_32 : decode cX0_add 32 = .ok (.iastore, 1) := by decide +kernel
theorem dX0_add_33 : decode cX0_add 33 = .ok (.aload_n 0, 1) := by decide +kernel
theorem dX0_add_34 : decode cX0_add 34 = .ok (.dup, 1) := by decide +kernel
theorem dX0_add_35 : decode cX0_add 35 = .ok (.getfield 24, 3) := by decide +kernel
theorem dX0_add_38 : decode cX0_add 38 = .ok (.iconst 1, 1) := by decide +kernel
theorem dX0_add_39 : decode cX0_add 39 = .ok (.iadd, 1) := by decide +kernel
theorem dX0_add_40 : decode cX0_add 40 = .ok (.putfield 24, 3) := by decide +kernel
theorem dX0_add_43 : decode cX0_add 43 = .ok (.return_, 1) := by decide +kernel
theorem dX0_ticksOfAll_0 : decode cX0_ticksOfAll 0 = .ok (.iconst 0, 1) := by decide +kernel
theorem dX0_ticksOfAll_1 : decode cX0_ticksOfAll 1 = .ok (.istore_n 1, 1) := by decide +kernel
theorem dX0_ticksOfAll_2 : decode cX0_ticksOfAll 2 = .ok (.iconst 0, 1) := by decide +kernel
theorem dX0_ticksOfAll_3 : decode cX0_ticksOfAll 3 = .ok (.istore_n 2, 1) := by decide +kernel
theorem dX0_ticksOfAll_4 : decode cX0_ticksOfAll 4 = .ok (.iload_n 2, 1) := by decide +kernel
theorem dX0_ticksOfAll_5 : decode cX0_ticksOfAll 5 = .ok (.aload_n 0, 1) := by decide +kernel
theorem dX0_ticksOfAll_6 : decode cX0_ticksOfAll 6 = .ok (.getfield 24, 3) := by decide +kernel
theorem dX0_ticksOfAll_9 : decode cX0_ticksOfAll 9 = .ok (.if_icmp .ge 29, 3) := by decide +kernel
theorem dX0_ticksOfAll_12 : decode cX0_ticksOfAll 12 = .ok (.aload_n 0, 1) := by decide +kernel
theorem dX0_ticksOfAll_13 : decode cX0_ticksOfAll 13 = .ok (.getfield 9, 3) := by decide +kernel
theorem dX0_ticksOfAll_16 : decode cX0_ticksOfAll 16 = .ok (.iload_n 2, 1) := by decide +kernel
theorem dX0_ticksOfAll_17 : decode cX0_ticksOfAll 17 = .ok (.iaload, 1) := by decide +kernel
theorem dX0_ticksOfAll_18 : decode cX0_ticksOfAll 18 = .ok (.bipush 12, 2) := by decide +kernel
theorem dX0_ticksOfAll_20 : decode cX0_ticksOfAll 20 = .ok (.if_icmp .ne 12, 3) := by decide +kernel
theorem dX0_ticksOfAll_23 : decode cX0_ticksOfAll 23 = .ok (.iload_n 1, 1) := by decide +kernel
theorem dX0_ticksOfAll_24 : decode cX0_ticksOfAll 24 = .ok (.aload_n 0, 1) := by decide +kernel
theorem dX0_ticksOfAll_25 : decode cX0_ticksOfAll 25 = .ok (.getfield 15, 3) := by decide +kernel
theorem dX0_ticksOfAll_28 : decode cX0_ticksOfAll 28 = .ok (.iload_n 2, 1) := by decide +kernel
theorem dX0_ticksOfAll_29 : decode cX0_ticksOfAll 29 = .ok (.iaload, 1) := by decide +kernel
theorem dX0_ticksOfAll_30 : decode cX0_ticksOfAll 30 = .ok (.iadd, 1) := by decide +kernel
theorem dX0_ticksOfAll_31 : decode cX0_ticksOfAll 31 = .ok (.istore_n 1, 1) := by decide +kernel
theorem dX0_ticksOfAll_32 : decode cX0_ticksOfAll 32 = .ok (.iinc 2 1, 3) := by decide +kernel
theorem dX0_ticksOfAll_35 : decode cX0_ticksOfAll 35 = .ok (.goto (-31), 3) := by decide +kernel
theorem dX0_ticksOfAll_38 : decode cX0_ticksOfAll 38 = .ok (.iload_n 1, 1) := by decide +kernel
theorem dX0_ticksOfAll_39 : decode cX0_ticksOfAll 39 = .ok (.ireturn, 1) := by decide +kernel
theorem dX0_doDeed_0 : decode cX0_doDeed 0 = .ok (.iload_n 1, 1) := by decide +kernel
theorem dX0_doDeed_1 : decode cX0_doDeed 1 = .ok (.iconst 0, 1) := by decide +kernel
theorem dX0_doDeed_2 : decode cX0_doDeed 2 = .ok (.aload_n 0, 1) := by decide +kernel
theorem dX0_doDeed_3 : decode cX0_doDeed 3 = .ok (.getfield 24, 3) := by decide +kernel
theorem dX0_doDeed_6 : decode cX0_doDeed 6 = .ok (.iconst 1, 1) := by decide +kernel
theorem dX0_doDeed_7 : decode cX0_doDeed 7 = .ok (.isub, 1) := by decide +kernel
theorem dX0_doDeed_8 : decode cX0_doDeed 8 = .ok (.invokestatic 28, 3) := by decide +kernel
theorem dX0_doDeed_11 : decode cX0_doDeed 11 = .ok (.ifCond .ne 4, 3) := by decide +kernel
theorem dX0_doDeed_14 : decode cX0_doDeed 14 = .ok (.return_, 1) := by decide +kernel
theorem dX0_doDeed_15 : decode cX0_doDeed 15 = .ok (.aload_n 0, 1) := by decide +kernel
theorem dX0_doDeed_16 : decode cX0_doDeed 16 = .ok (.getfield 9, 3) := by decide +kernel
theorem dX0_doDeed_19 : decode cX0_doDeed 19 = .ok (.iload_n 1, 1) := by decide +kernel
theorem dX0_doDeed_20 : decode cX0_doDeed 20 = .ok (.iaload, 1) := by decide +kernel
theorem dX0_doDeed_21 : decode cX0_doDeed 21 = .ok (.istore_n 3, 1) := by decide +kernel
theorem dX0_doDeed_22 : decode cX0_doDeed 22 = .ok (.aload_n 0, 1) := by decide +kernel
theorem dX0_doDeed_23 : decode cX0_doDeed 23 = .ok (.getfield 15, 3) := by decide +kernel
theorem dX0_doDeed_26 : decode cX0_doDeed 26 = .ok (.iload_n 1, 1) := by decide +kernel
theorem dX0_doDeed_27 : decode cX0_doDeed 27 = .ok (.iaload, 1) := by decide +kernel
theorem dX0_doDeed_28 : decode cX0_doDeed 28 = .ok (.istore 4, 2) := by decide +kernel
theorem dX0_doDeed_30 : decode cX0_doDeed 30 = .ok (.iload_n 3, 1) := by decide +kernel
theorem dX0_doDeed_31 : decode cX0_doDeed 31 = .ok (.bipush 7, 2) := by decide +kernel
theorem dX0_doDeed_33 : decode cX0_doDeed 33 = .ok (.if_icmp .ge 14, 3) := by decide +kernel
theorem dX0_doDeed_36 : decode cX0_doDeed 36 = .ok (.aload_n 2, 1) := by decide +kernel
theorem dX0_doDeed_37 : decode cX0_doDeed 37 = .ok (.getfield 32, 3) := by decide +kernel
theorem dX0_doDeed_40 : decode cX0_doDeed 40 = .ok (.iload 4, 2) := by decide +kernel
theorem dX0_doDeed_42 : decode cX0_doDeed 42 = .ok (.iload_n 3, 1) := by decide +kernel
theorem dX0_doDeed_43 : decode cX0_doDeed 43 = .ok (.iastore, 1) := by decide +kernel
theorem dX0_doDeed_44 : decode cX0_doDeed 44 = .ok (.goto 44, 3) := by decide +kernel
theorem dX0_doDeed_47 : decode cX0_doDeed 47 = .ok (.iload_n 3, 1) := by decide +kernel
theorem dX0_doDeed_48 : decode cX0_doDeed 48 = .ok (.bipush 11, 2) := by decide +kernel
theorem dX0_doDeed_50 : decode cX0_doDeed 50 = .ok (.if_icmp .ge 17, 3) := by decide +kernel
theorem dX0_doDeed_53 : decode cX0_doDeed 53 = .ok (.aload_n 2, 1) := by decide +kernel
theorem dX0_doDeed_54 : decode cX0_doDeed 54 = .ok (.getfield 37, 3) := by decide +kernel
theorem dX0_doDeed_57 : decode cX0_doDeed 57 = .ok (.iload_n 3, 1) := by decide +kernel
theorem dX0_doDeed_58 : decode cX0_doDeed 58 = .ok (.bipush 7, 2) := by decide +kernel
theorem dX0_doDeed_60 : decode cX0_doDeed 60 = .ok (.isub, 1) := by decide +kernel
theorem dX0_doDeed_61 : decode cX0_doDeed 61 = .ok (.iload 4, 2) := by decide +kernel
theorem dX0_doDeed_63 : decode cX0_doDeed 63 = .ok (.iastore, 1) := by decide +kernel
theorem dX0_doDeed_64 : decode cX0_doDeed 64 = .ok (.goto 24, 3) := by decide +kernel
theorem dX0_doDeed_67 : decode cX0_doDeed 67 = .ok (.iload_n 3, 1) := by decide +kernel
theorem dX0_doDeed_68 : decode cX0_doDeed 68 = .ok (.bipush 11, 2) := by decide +kernel
theorem dX0_doDeed_70 : decode cX0_doDeed 70 = .ok (.if_icmp .ne 12, 3) := by decide +kernel
theorem dX0_doDeed_73 : decode cX0_doDeed 73 = .ok (.aload_n 2, 1) := by decide +kernel
theorem dX0_doDeed_74 : decode cX0_doDeed 74 = .ok (.iload 4, 2) := by decide +kernel
theorem dX0_doDeed_76 : decode cX0_doDeed 76 = .ok (.invokevirtual 40, 3) := by decide +kernel
theorem dX0_doDeed_79 : decode cX0_doDeed 79 = .ok (.goto 9, 3) := by decide +kernel
theorem dX0_doDeed_82 : decode cX0_doDeed 82 = .ok (.aload_n 2, 1) := by decide +kernel
theorem dX0_doDeed_83 : decode cX0_doDeed 83 = .ok (.iload 4, 2) := by decide +kernel
theorem dX0_doDeed_85 : decode cX0_doDeed 85 = .ok (.invokevirtual 44, 3) := by decide +kernel
theorem dX0_doDeed_88 : decode cX0_doDeed 88 = .ok (.return_, 1) := by decide +kernel
theorem dX0_takes_0 : decode cX0_takes 0 = .ok (.iload_n 1, 1) := by decide +kernel
theorem dX0_takes_1 : decode cX0_takes 1 = .ok (.getstatic 47, 3) := by decide +kernel
theorem dX0_takes_4 : decode cX0_takes 4 = .ok (.iload_n 0, 1) := by decide +kernel
theorem dX0_takes_5 : decode cX0_takes 5 = .ok (.iaload, 1) := by decide +kernel
theorem dX0_takes_6 : decode cX0_takes 6 = .ok (.getstatic 50, 3) := by decide +kernel
theorem dX0_takes_9 : decode cX0_takes 9 = .ok (.iload_n 0, 1) := by decide +kernel
theorem dX0_takes_10 : decode cX0_takes 10 = .ok (.iaload, 1) := by decide +kernel
theorem dX0_takes_11 : decode cX0_takes 11 = .ok (.invokestatic 28, 3) := by decide +kernel
theorem dX0_takes_14 : decode cX0_takes 14 = .ok (.ireturn, 1) := by decide +kernel
theorem dX0_wordOf_0 : decode cX0_wordOf 0 = .ok (.iload_n 0, 1) := by decide +kernel
theorem dX0_wordOf_1 : decode cX0_wordOf 1 = .ok (.tableswitch 99 0 11 #[63, 66, 69, 72, 75, 78, 81, 84, 87, 90, 93, 96], 63) := by decide +kernel
theorem dX0_wordOf_64 : decode cX0_wordOf 64 = .ok (.ldc 53, 2) := by decide +kernel
theorem dX0_wordOf_66 : decode cX0_wordOf 66 = .ok (.areturn, 1) := by decide +kernel
theorem dX0_wordOf_67 : decode cX0_wordOf 67 = .ok (.ldc 55, 2) := by decide +kernel
theorem dX0_wordOf_69 : decode cX0_wordOf 69 = .ok (.areturn, 1) := by decide +kernel
theorem dX0_wordOf_70 : decode cX0_wordOf 70 = .ok (.ldc 57, 2) := by decide +kernel
theorem dX0_wordOf_72 : decode cX0_wordOf 72 = .ok (.areturn, 1) := by decide +kernel
theorem dX0_wordOf_73 : decode cX0_wordOf 73 = .ok (.ldc 59, 2) := by decide +kernel
theorem dX0_wordOf_75 : decode cX0_wordOf 75 = .ok (.areturn, 1) := by decide +kernel
theorem dX0_wordOf_76 : decode cX0_wordOf 76 = .ok (.ldc 61, 2) := by decide +kernel
theorem dX0_wordOf_78 : decode cX0_wordOf 78 = .ok (.areturn, 1) := by decide +kernel
theorem dX0_wordOf_79 : decode cX0_wordOf 79 = .ok (.ldc 63, 2) := by decide +kernel
theorem dX0_wordOf_81 : decode cX0_wordOf 81 = .ok (.areturn, 1) := by decide +kernel
theorem dX0_wordOf_82 : decode cX0_wordOf 82 = .ok (.ldc 65, 2) := by decide +kernel
theorem dX0_wordOf_84 : decode cX0_wordOf 84 = .ok (.areturn, 1) := by decide +kernel
theorem dX0_wordOf_85 : decode cX0_wordOf 85 = .ok (.ldc 67, 2) := by decide +kernel
theorem dX0_wordOf_87 : decode cX0_wordOf 87 = .ok (.areturn, 1) := by decide +kernel
theorem dX0_wordOf_88 : decode cX0_wordOf 88 = .ok (.ldc 69, 2) := by decide +kernel
theorem dX0_wordOf_90 : decode cX0_wordOf 90 = .ok (.areturn, 1) := by decide +kernel
theorem dX0_wordOf_91 : decode cX0_wordOf 91 = .ok (.ldc 71, 2) := by decide +kernel
theorem dX0_wordOf_93 : decode cX0_wordOf 93 = .ok (.areturn, 1) := by decide +kernel
theorem dX0_wordOf_94 : decode cX0_wordOf 94 = .ok (.ldc 73, 2) := by decide +kernel
theorem dX0_wordOf_96 : decode cX0_wordOf 96 = .ok (.areturn, 1) := by decide +kernel
theorem dX0_wordOf_97 : decode cX0_wordOf 97 = .ok (.ldc 75, 2) := by decide +kernel
theorem dX0_wordOf_99 : decode cX0_wordOf 99 = .ok (.areturn, 1) := by decide +kernel
theorem dX0_wordOf_100 : decode cX0_wordOf 100 = .ok (.ldc 77, 2) := by decide +kernel
theorem dX0_wordOf_102 : decode cX0_wordOf 102 = .ok (.areturn, 1) := by decide +kernel
theorem dX1_init_0 : decode cX1_init 0 = .ok (.aload_n 0, 1) := by decide +kernel
theorem dX1_init_1 : decode cX1_init 1 = .ok (.invokespecial 1, 3) := by decide +kernel
theorem dX1_init_4 : decode cX1_init 4 = .ok (.aload_n 0, 1) := by decide +kernel
theorem dX1_init_5 : decode cX1_init 5 = .ok (.bipush 40, 2) := by decide +kernel
theorem dX1_init_7 : decode cX1_init 7 = .ok (.newarray .int, 2) := by decide +kernel
theorem dX1_init_9 : decode cX1_init 9 = .ok (.putfield 9, 3) := by decide +kernel
theorem dX1_init_12 : decode cX1_init 12 = .ok (.return_, 1) := by decide +kernel
theorem dX1_begin_0 : decode cX1_begin 0 = .ok (.aload_n 0, 1) := by decide +kernel
theorem dX1_begin_1 : decode cX1_begin 1 = .ok (.iload_n 1, 1) := by decide +kernel
theorem dX1_begin_2 : decode cX1_begin 2 = .ok (.putfield 13, 3) := by decide +kernel
theorem dX1_begin_5 : decode cX1_begin 5 = .ok (.aload_n 0, 1) := by decide +kernel
theorem dX1_begin_6 : decode cX1_begin 6 = .ok (.iload_n 1, 1) := by decide +kernel
theorem dX1_begin_7 : decode cX1_begin 7 = .ok (.ifCond .ne 7, 3) := by decide +kernel
theorem dX1_begin_10 : decode cX1_begin 10 = .ok (.iconst 0, 1) := by decide +kernel
theorem dX1_begin_11 : decode cX1_begin 11 = .ok (.goto 4, 3) := by decide +kernel
theorem dX1_begin_14 : decode cX1_begin 14 = .ok (.iload_n 2, 1) := by decide +kernel
theorem dX1_begin_15 : decode cX1_begin 15 = .ok (.putfield 17, 3) := by decide +kernel
theorem dX1_begin_18 : decode cX1_begin 18 = .ok (.iconst 0, 1) := by decide +kernel
theorem dX1_begin_19 : decode cX1_begin 19 = .ok (.istore_n 3, 1) := by decide +kernel
theorem dX1_begin_20 : decode cX1_begin 20 = .ok (.iload_n 3, 1) := by decide +kernel
theorem dX1_begin_21 : decode cX1_begin 21 = .ok (.bipush 40, 2) := by decide +kernel
theorem dX1_begin_23 : decode cX1_begin 23 = .ok (.if_icmp .ge 16, 3) := by decide +kernel
theorem dX1_begin_26 : decode cX1_begin 26 = .ok (.aload_n 0, 1) := by decide +kernel
theorem dX1_begin_27 : decode cX1_begin 27 = .ok (.getfield 9, 3) := by decide +kernel
theorem dX1_begin_30 : decode cX1_begin 30 = .ok (.iload_n 3, 1) := by decide +kernel
theorem dX1_begin_31 : decode cX1_begin 31 = .ok (.iconst 0, 1) := by decide +kernel
theorem dX1_begin_32 : decode cX1_begin 32 = .ok (.iastore, 1) := by decide +kernel
theorem dX1_begin_33 : decode cX1_begin 33 = .ok (.iinc 3 1, 3) := by decide +kernel
theorem dX1_begin_36 : decode cX1_begin 36 = .ok (.goto (-16), 3) := by decide +kernel
theorem dX1_begin_39 : decode cX1_begin 39 = .ok (.return_, 1) := by decide +kernel
theorem dX1_isMissing_0 : decode cX1_isMissing 0 = .ok (.aload_n 0, 1) := by decide +kernel
theorem dX1_isMissing_1 : decode cX1_isMissing 1 = .ok (.getfield 13, 3) := by decide +kernel
theorem dX1_isMissing_4 : decode cX1_isMissing 4 = .ok (.ifCond .ne 7, 3) := by decide +kernel
theorem dX1_isMissing_7 : decode cX1_isMissing 7 = .ok (.iconst 1, 1) := by decide +kernel
theorem dX1_isMissing_8 : decode cX1_isMissing 8 = .ok (.goto 4, 3) := by decide +kernel
theorem dX1_isMissing_11 : decode cX1_isMissing 11 = .ok (.iconst 0, 1) := by decide +kernel
theorem dX1_isMissing_12 : decode cX1_isMissing 12 = .ok (.ireturn, 1) := by decide +kernel
theorem dX1_has_0 : decode cX1_has 0 = .ok (.iload_n 1, 1) := by decide +kernel
theorem dX1_has_1 : decode cX1_has 1 = .ok (.ifCond .lt 29, 3) := by decide +kernel
theorem dX1_has_4 : decode cX1_has 4 = .ok (.iload_n 2, 1) := by decide +kernel
theorem dX1_has_5 : decode cX1_has 5 = .ok (.ifCond .lt 25, 3) := by decide +kernel
theorem dX1_has_8 : decode cX1_has 8 = .ok (.iload_n 1, 1) := by decide +kernel
theorem dX1_has_9 : decode cX1_has 9 = .ok (.aload_n 0, 1) := by decide +kernel
theorem dX1_has_10 : decode cX1_has 10 = .ok (.getfield 17, 3) := by decide +kernel
theorem dX1_has_13 : decode cX1_has 13 = .ok (.if_icmp .gt 17, 3) := by decide +kernel
theorem dX1_has_16 : decode cX1_has 16 = .ok (.iload_n 2, 1) := by decide +kernel
theorem dX1_has_17 : decode cX1_has 17 = .ok (.aload_n 0, 1) := by decide +kernel
theorem dX1_has_18 : decode cX1_has 18 = .ok (.getfield 17, 3) := by decide +kernel
theorem dX1_has_21 : decode cX1_has 21 = .ok (.iload_n 1, 1) := by decide +kernel
theorem dX1_has_22 : decode cX1_has 22 = .ok (.isub, 1) := by decide +kernel
theorem dX1_has_23 : decode cX1_has 23 = .ok (.if_icmp .gt 7, 3) := by decide +kernel
theorem dX1_has_26 : decode cX1_has 26 = .ok (.iconst 1, 1) := by decide +kernel
theorem dX1_has_27 : decode cX1_has 27 = .ok (.goto 4, 3) := by decide +kernel
theorem dX1_has_30 : decode cX1_has 30 = .ok (.iconst 0, 1) := by decide +kernel
theorem dX1_has_31 : decode cX1_has 31 = .ok (.ireturn, 1) := by decide +kernel
theorem dX1_put_0 : decode cX1_put 0 = .ok (.iload_n 1, 1) := by decide +kernel
theorem dX1_put_1 : decode cX1_put 1 = .ok (.iconst 0, 1) := by decide +kernel
theorem dX1_put_2 : decode cX1_put 2 = .ok (.aload_n 0, 1) := by decide +kernel
theorem dX1_put_3 : decode cX1_put 3 = .ok (.getfield 17, 3) := by decide +kernel
theorem dX1_put_6 : decode cX1_put 6 = .ok (.iconst 1, 1) := by decide +kernel
theorem dX1_put_7 : decode cX1_put 7 = .ok (.isub, 1) := by decide +kernel
theorem dX1_put_8 : decode cX1_put 8 = .ok (.invokestatic 20, 3) := by decide +kernel
theorem dX1_put_11 : decode cX1_put 11 = .ok (.ifCond .eq 14, 3) := by decide +kernel
theorem dX1_put_14 : decode cX1_put 14 = .ok (.aload_n 0, 1) := by decide +kernel
theorem dX1_put_15 : decode cX1_put 15 = .ok (.getfield 9, 3) := by decide +kernel
theorem dX1_put_18 : decode cX1_put 18 = .ok (.iload_n 1, 1) := by decide +kernel
theorem dX1_put_19 : decode cX1_put 19 = .ok (.aload_n 0, 1) := by decide +kernel
theorem dX1_put_20 : decode cX1_put 20 = .ok (.iload_n 2, 1) := by decide +kernel
theorem dX1_put_21 : decode cX1_put 21 = .ok (.invokevirtual 26, 3) := by decide +kernel
theorem dX1_put_24 : decode cX1_put 24 = .ok (.iastore, 1) := by decide +kernel
theorem dX1_put_25 : decode cX1_put 25 = .ok (.return_, 1) := by decide +kernel
theorem dX1_cut_0 : decode cX1_cut 0 = .ok (.aload_n 0, 1) := by decide +kernel
theorem dX1_cut_1 : decode cX1_cut 1 = .ok (.getfield 13, 3) := by decide +kernel
theorem dX1_cut_4 : decode cX1_cut 4 = .ok (.lookupswitch 34 #[(8, 28), (16, 31)], 28) := by decide +kernel
theorem dX1_cut_32 : decode cX1_cut 32 = .ok (.iload_n 1, 1) := by decide +kernel
theorem dX1_cut_33 : decode cX1_cut 33 = .ok (.i2b, 1) := by decide +kernel
theorem dX1_cut_34 : decode cX1_cut 34 = .ok (.ireturn, 1) := by decide +kernel
theorem dX1_cut_35 : decode cX1_cut 35 = .ok (.iload_n 1, 1) := by decide +kernel
theorem dX1_cut_36 : decode cX1_cut 36 = .ok (.i2s, 1) := by decide +kernel
theorem dX1_cut_37 : decode cX1_cut 37 = .ok (.ireturn, 1) := by decide +kernel
theorem dX1_cut_38 : decode cX1_cut 38 = .ok (.iload_n 1, 1) := by decide +kernel
theorem dX1_cut_39 : decode cX1_cut 39 = .ok (.ireturn, 1) := by decide +kernel
theorem dX2_init_0 : decode cX2_init 0 = .ok (.aload_n 0, 1) := by decide +kernel
theorem dX2_init_1 : decode cX2_init 1 = .ok (.invokespecial 1, 3) := by decide +kernel
theorem dX2_init_4 : decode cX2_init 4 = .ok (.return_, 1) := by decide +kernel
theorem dX2_begin_0 : decode cX2_begin 0 = .ok (.aload_n 0, 1) := by decide +kernel
theorem dX2_begin_1 : decode cX2_begin 1 = .ok (.iload_n 1, 1) := by decide +kernel
theorem dX2_begin_2 : decode cX2_begin 2 = .ok (.i2l, 1) := by decide +kernel
theorem dX2_begin_3 : decode cX2_begin 3 = .ok (.putfield 7, 3) := by decide +kernel
theorem dX2_begin_6 : decode cX2_begin 6 = .ok (.aload_n 0, 1) := by decide +kernel
theorem dX2_begin_7 : decode cX2_begin 7 = .ok (.iload_n 2, 1) := by decide +kernel
theorem dX2_begin_8 : decode cX2_begin 8 = .ok (.i2l, 1) := by decide +kernel
theorem dX2_begin_9 : decode cX2_begin 9 = .ok (.putfield 13, 3) := by decide +kernel
theorem dX2_begin_12 : decode cX2_begin 12 = .ok (.aload_n 0, 1) := by decide +kernel
theorem dX2_begin_13 : decode cX2_begin 13 = .ok (.lconst 0, 1) := by decide +kernel
theorem dX2_begin_14 : decode cX2_begin 14 = .ok (.putfield 16, 3) := by decide +kernel
theorem dX2_begin_17 : decode cX2_begin 17 = .ok (.return_, 1) := by decide +kernel
theorem dX2_apply_0 : decode cX2_apply 0 = .ok (.aload_n 0, 1) := by decide +kernel
theorem dX2_apply_1 : decode cX2_apply 1 = .ok (.getfield 7, 3) := by decide +kernel
theorem dX2_apply_4 : decode cX2_apply 4 = .ok (.aload_n 0, 1) := by decide +kernel
theorem dX2_apply_5 : decode cX2_apply 5 = .ok (.getfield 13, 3) := by decide +kernel
theorem dX2_apply_8 : decode cX2_apply 8 = .ok (.aload_n 0, 1) := by decide +kernel
theorem dX2_apply_9 : decode cX2_apply 9 = .ok (.getfield 7, 3) := by decide +kernel
theorem dX2_apply_12 : decode cX2_apply 12 = .ok (.lsub, 1) := by decide +kernel
theorem dX2_apply_13 : decode cX2_apply 13 = .ok (.ldc2_w 19, 3) := by decide +kernel
theorem dX2_apply_16 : decode cX2_apply 16 = .ok (.ldiv, 1) := by decide +kernel
theorem dX2_apply_17 : decode cX2_apply 17 = .ok (.ladd, 1) := by decide +kernel
theorem dX2_apply_18 : decode cX2_apply 18 = .ok (.lstore_n 1, 1) := by decide +kernel
theorem dX2_apply_19 : decode cX2_apply 19 = .ok (.aload_n 0, 1) := by decide +kernel
theorem dX2_apply_20 : decode cX2_apply 20 = .ok (.getfield 13, 3) := by decide +kernel
theorem dX2_apply_23 : decode cX2_apply 23 = .ok (.aload_n 0, 1) := by decide +kernel
theorem dX2_apply_24 : decode cX2_apply 24 = .ok (.getfield 7, 3) := by decide +kernel
theorem dX2_apply_27 : decode cX2_apply 27 = .ok (.ldc2_w 21, 3) := by decide +kernel
theorem dX2_apply_30 : decode cX2_apply 30 = .ok (.aload_n 0, 1) := by decide +kernel
theorem dX2_apply_31 : decode cX2_apply 31 = .ok (.getfield 16, 3) := by decide +kernel
theorem dX2_apply_34 : decode cX2_apply 34 = .ok (.lsub, 1) := by decide +kernel
theorem dX2_apply_35 : decode cX2_apply 35 = .ok (.lmul, 1) := by decide +kernel
theorem dX2_apply_36 : decode cX2_apply 36 = .ok (.ldc2_w 23, 3) := by decide +kernel
theorem dX2_apply_39 : decode cX2_apply 39 = .ok (.ldiv, 1) := by decide +kernel
theorem dX2_apply_40 : decode cX2_apply 40 = .ok (.aload_n 0, 1) := by decide +kernel
theorem dX2_apply_41 : decode cX2_apply 41 = .ok (.getfield 13, 3) := by decide +kernel
theorem dX2_apply_44 : decode cX2_apply 44 = .ok (.lsub, 1) := by decide +kernel
theorem dX2_apply_45 : decode cX2_apply 45 = .ok (.ldc2_w 23, 3) := by decide +kernel
theorem dX2_apply_48 : decode cX2_apply 48 = .ok (.ldiv, 1) := by decide +kernel
theorem dX2_apply_49 : decode cX2_apply 49 = .ok (.ladd, 1) := by decide +kernel
theorem dX2_apply_50 : decode cX2_apply 50 = .ok (.lstore_n 3, 1) := by decide +kernel
theorem dX2_apply_51 : decode cX2_apply 51 = .ok (.aload_n 0, 1) := by decide +kernel
theorem dX2_apply_52 : decode cX2_apply 52 = .ok (.getfield 16, 3) := by decide +kernel
theorem dX2_apply_55 : decode cX2_apply 55 = .ok (.aload_n 0, 1) := by decide +kernel
theorem dX2_apply_56 : decode cX2_apply 56 = .ok (.getfield 7, 3) := by decide +kernel
theorem dX2_apply_59 : decode cX2_apply 59 = .ok (.aload_n 0, 1) := by decide +kernel
theorem dX2_apply_60 : decode cX2_apply 60 = .ok (.getfield 13, 3) := by decide +kernel
theorem dX2_apply_63 : decode cX2_apply 63 = .ok (.lmul, 1) := by decide +kernel
theorem dX2_apply_64 : decode cX2_apply 64 = .ok (.ldc2_w 23, 3) := by decide +kernel
theorem dX2_apply_67 : decode cX2_apply 67 = .ok (.ldiv, 1) := by decide +kernel
theorem dX2_apply_68 : decode cX2_apply 68 = .ok (.ldc2_w 25, 3) := by decide +kernel
theorem dX2_apply_71 : decode cX2_apply 71 = .ok (.aload_n 0, 1) := by decide +kernel
theorem dX2_apply_72 : decode cX2_apply 72 = .ok (.getfield 16, 3) := by decide +kernel
theorem dX2_apply_75 : decode cX2_apply 75 = .ok (.lmul, 1) := by decide +kernel
theorem dX2_apply_76 : decode cX2_apply 76 = .ok (.ldc2_w 27, 3) := by decide +kernel
theorem dX2_apply_79 : decode cX2_apply 79 = .ok (.ldiv, 1) := by decide +kernel
theorem dX2_apply_80 : decode cX2_apply 80 = .ok (.lsub, 1) := by decide +kernel
theorem dX2_apply_81 : decode cX2_apply 81 = .ok (.ldc2_w 23, 3) := by decide +kernel
theorem dX2_apply_84 : decode cX2_apply 84 = .ok (.ldiv, 1) := by decide +kernel
theorem dX2_apply_85 : decode cX2_apply 85 = .ok (.ladd, 1) := by decide +kernel
theorem dX2_apply_86 : decode cX2_apply 86 = .ok (.lstore 5, 2) := by decide +kernel
theorem dX2_apply_88 : decode cX2_apply 88 = .ok (.aload_n 0, 1) := by decide +kernel
theorem dX2_apply_89 : decode cX2_apply 89 = .ok (.lload_n 1, 1) := by decide +kernel
theorem dX2_apply_90 : decode cX2_apply 90 = .ok (.invokestatic 29, 3) := by decide +kernel
theorem dX2_apply_93 : decode cX2_apply 93 = .ok (.putfield 7, 3) := by decide +kernel
theorem dX2_apply_96 : decode cX2_apply 96 = .ok (.aload_n 0, 1) := by decide +kernel
theorem dX2_apply_97 : decode cX2_apply 97 = .ok (.lload_n 3, 1) := by decide +kernel
theorem dX2_apply_98 : decode cX2_apply 98 = .ok (.invokestatic 29, 3) := by decide +kernel
theorem dX2_apply_101 : decode cX2_apply 101 = .ok (.putfield 13, 3) := by decide +kernel
theorem dX2_apply_104 : decode cX2_apply 104 = .ok (.aload_n 0, 1) := by decide +kernel
theorem dX2_apply_105 : decode cX2_apply 105 = .ok (.lload 5, 2) := by decide +kernel
theorem dX2_apply_107 : decode cX2_apply 107 = .ok (.invokestatic 29, 3) := by decide +kernel
theorem dX2_apply_110 : decode cX2_apply 110 = .ok (.putfield 16, 3) := by decide +kernel
theorem dX2_apply_113 : decode cX2_apply 113 = .ok (.return_, 1) := by decide +kernel
theorem dX2_held_0 : decode cX2_held 0 = .ok (.ldc2_w 33, 3) := by decide +kernel
theorem dX2_held_3 : decode cX2_held 3 = .ok (.lload_n 0, 1) := by decide +kernel
theorem dX2_held_4 : decode cX2_held 4 = .ok (.ldc2_w 35, 3) := by decide +kernel
theorem dX2_held_7 : decode cX2_held 7 = .ok (.invokestatic 37, 3) := by decide +kernel
theorem dX2_held_10 : decode cX2_held 10 = .ok (.invokestatic 43, 3) := by decide +kernel
theorem dX2_held_13 : decode cX2_held 13 = .ok (.lreturn, 1) := by decide +kernel
theorem dX3_init_0 : decode cX3_init 0 = .ok (.aload_n 0, 1) := by decide +kernel
theorem dX3_init_1 : decode cX3_init 1 = .ok (.invokespecial 3, 3) := by decide +kernel
theorem dX3_init_4 : decode cX3_init 4 = .ok (.aload_n 0, 1) := by decide +kernel
theorem dX3_init_5 : decode cX3_init 5 = .ok (.new 9, 3) := by decide +kernel
theorem dX3_init_8 : decode cX3_init 8 = .ok (.dup, 1) := by decide +kernel
theorem dX3_init_9 : decode cX3_init 9 = .ok (.invokespecial 11, 3) := by decide +kernel
theorem dX3_init_12 : decode cX3_init 12 = .ok (.putfield 12, 3) := by decide +kernel
theorem dX3_init_15 : decode cX3_init 15 = .ok (.aload_n 0, 1) := by decide +kernel
theorem dX3_init_16 : decode cX3_init 16 = .ok (.bipush 6, 2) := by decide +kernel
theorem dX3_init_18 : decode cX3_init 18 = .ok (.anewarray 18, 3) := by decide +kernel
theorem dX3_init_21 : decode cX3_init 21 = .ok (.putfield 20, 3) := by decide +kernel
theorem dX3_init_24 : decode cX3_init 24 = .ok (.aload_n 0, 1) := by decide +kernel
theorem dX3_init_25 : decode cX3_init 25 = .ok (.bipush 10, 2) := by decide +kernel
theorem dX3_init_27 : decode cX3_init 27 = .ok (.newarray .int, 2) := by decide +kernel
theorem dX3_init_29 : decode cX3_init 29 = .ok (.putfield 24, 3) := by decide +kernel
theorem dX3_init_32 : decode cX3_init 32 = .ok (.aload_n 0, 1) := by decide +kernel
theorem dX3_init_33 : decode cX3_init 33 = .ok (.iconst 1, 1) := by decide +kernel
theorem dX3_init_34 : decode cX3_init 34 = .ok (.putfield 28, 3) := by decide +kernel
theorem dX3_init_37 : decode cX3_init 37 = .ok (.iconst 0, 1) := by decide +kernel
theorem dX3_init_38 : decode cX3_init 38 = .ok (.istore_n 1, 1) := by decide +kernel
theorem dX3_init_39 : decode cX3_init 39 = .ok (.iload_n 1, 1) := by decide +kernel
theorem dX3_init_40 : decode cX3_init 40 = .ok (.bipush 6, 2) := by decide +kernel
theorem dX3_init_42 : decode cX3_init 42 = .ok (.if_icmp .ge 22, 3) := by decide +kernel
theorem dX3_init_45 : decode cX3_init 45 = .ok (.aload_n 0, 1) := by decide +kernel
theorem dX3_init_46 : decode cX3_init 46 = .ok (.getfield 20, 3) := by decide +kernel
theorem dX3_init_49 : decode cX3_init 49 = .ok (.iload_n 1, 1) := by decide +kernel
theorem dX3_init_50 : decode cX3_init 50 = .ok (.new 18, 3) := by decide +kernel
theorem dX3_init_53 : decode cX3_init 53 = .ok (.dup, 1) := by decide +kernel
theorem dX3_init_54 : decode cX3_init 54 = .ok (.invokespecial 32, 3) := by decide +kernel
theorem dX3_init_57 : decode cX3_init 57 = .ok (.aastore, 1) := by decide +kernel
theorem dX3_init_58 : decode cX3_init 58 = .ok (.iinc 1 1, 3) := by decide +kernel
theorem dX3_init_61 : decode cX3_init 61 = .ok (.goto (-22), 3) := by decide +kernel
theorem dX3_init_64 : decode cX3_init 64 = .ok (.iconst 0, 1) := by decide +kernel
theorem dX3_init_65 : decode cX3_init 65 = .ok (.istore_n 1, 1) := by decide +kernel
theorem dX3_init_66 : decode cX3_init 66 = .ok (.iload_n 1, 1) := by decide +kernel
theorem dX3_init_67 : decode cX3_init 67 = .ok (.bipush 10, 2) := by decide +kernel
theorem dX3_init_69 : decode cX3_init 69 = .ok (.if_icmp .ge 16, 3) := by decide +kernel
theorem dX3_init_72 : decode cX3_init 72 = .ok (.aload_n 0, 1) := by decide +kernel
theorem dX3_init_73 : decode cX3_init 73 = .ok (.getfield 24, 3) := by decide +kernel
theorem dX3_init_76 : decode cX3_init 76 = .ok (.iload_n 1, 1) := by decide +kernel
theorem dX3_init_77 : decode cX3_init 77 = .ok (.iconst (-1), 1) := by decide +kernel
theorem dX3_init_78 : decode cX3_init 78 = .ok (.iastore, 1) := by decide +kernel
theorem dX3_init_79 : decode cX3_init 79 = .ok (.iinc 1 1, 3) := by decide +kernel
theorem dX3_init_82 : decode cX3_init 82 = .ok (.goto (-16), 3) := by decide +kernel
theorem dX3_init_85 : decode cX3_init 85 = .ok (.return_, 1) := by decide +kernel
theorem dX3_become_0 : decode cX3_become 0 = .ok (.aload_n 0, 1) := by decide +kernel
theorem dX3_become_1 : decode cX3_become 1 = .ok (.getfield 12, 3) := by decide +kernel
theorem dX3_become_4 : decode cX3_become 4 = .ok (.aload_n 1, 1) := by decide +kernel
theorem dX3_become_5 : decode cX3_become 5 = .ok (.getfield 12, 3) := by decide +kernel
theorem dX3_become_8 : decode cX3_become 8 = .ok (.invokevirtual 33, 3) := by decide +kernel
theorem dX3_become_11 : decode cX3_become 11 = .ok (.iconst 0, 1) := by decide +kernel
theorem dX3_become_12 : decode cX3_become 12 = .ok (.istore_n 2, 1) := by decide +kernel
theorem dX3_become_13 : decode cX3_become 13 = .ok (.iload_n 2, 1) := by decide +kernel
theorem dX3_become_14 : decode cX3_become 14 = .ok (.bipush 6, 2) := by decide +kernel
theorem dX3_become_16 : decode cX3_become 16 = .ok (.if_icmp .ge 24, 3) := by decide +kernel
theorem dX3_become_19 : decode cX3_become 19 = .ok (.aload_n 0, 1) := by decide +kernel
theorem dX3_become_20 : decode cX3_become 20 = .ok (.getfield 20, 3) := by decide +kernel
theorem dX3_become_23 : decode cX3_become 23 = .ok (.iload_n 2, 1) := by decide +kernel
theorem dX3_become_24 : decode cX3_become 24 = .ok (.aaload, 1) := by decide +kernel
theorem dX3_become_25 : decode cX3_become 25 = .ok (.aload_n 1, 1) := by decide +kernel
theorem dX3_become_26 : decode cX3_become 26 = .ok (.getfield 20, 3) := by decide +kernel
theorem dX3_become_29 : decode cX3_become 29 = .ok (.iload_n 2, 1) := by decide +kernel
theorem dX3_become_30 : decode cX3_become 30 = .ok (.aaload, 1) := by decide +kernel
theorem dX3_become_31 : decode cX3_become 31 = .ok (.invokevirtual 37, 3) := by decide +kernel
theorem dX3_become_34 : decode cX3_become 34 = .ok (.iinc 2 1, 3) := by decide +kernel
theorem dX3_become_37 : decode cX3_become 37 = .ok (.goto (-24), 3) := by decide +kernel
theorem dX3_become_40 : decode cX3_become 40 = .ok (.aload_n 0, 1) := by decide +kernel
theorem dX3_become_41 : decode cX3_become 41 = .ok (.aload_n 1, 1) := by decide +kernel
theorem dX3_become_42 : decode cX3_become 42 = .ok (.getfield 40, 3) := by decide +kernel
theorem dX3_become_45 : decode cX3_become 45 = .ok (.putfield 40, 3) := by decide +kernel
theorem dX3_become_48 : decode cX3_become 48 = .ok (.aload_n 1, 1) := by decide +kernel
theorem dX3_become_49 : decode cX3_become 49 = .ok (.getfield 24, 3) := by decide +kernel
theorem dX3_become_52 : decode cX3_become 52 = .ok (.iconst 0, 1) := by decide +kernel
theorem dX3_become_53 : decode cX3_become 53 = .ok (.aload_n 0, 1) := by decide +kernel
theorem dX3_become_54 : decode cX3_become 54 = .ok (.getfield 24, 3) := by decide +kernel
theorem dX3_become_57 : decode cX3_become 57 = .ok (.iconst 0, 1) := by decide +kernel
theorem dX3_become_58 : decode cX3_become 58 = .ok (.bipush 10, 2) := by decide +kernel
theorem dX3_become_60 : decode cX3_become 60 = .ok (.invokestatic 43, 3) := by decide +kernel
theorem dX3_become_63 : decode cX3_become 63 = .ok (.aload_n 0, 1) := by decide +kernel
theorem dX3_become_64 : decode cX3_become 64 = .ok (.aload_n 1, 1) := by decide +kernel
theorem dX3_become_65 : decode cX3_become 65 = .ok (.getfield 28, 3) := by decide +kernel
theorem dX3_become_68 : decode cX3_become 68 = .ok (.putfield 28, 3) := by decide +kernel
theorem dX3_become_71 : decode cX3_become 71 = .ok (.return_, 1) := by decide +kernel
theorem dX3_draw_0 : decode cX3_draw 0 = .ok (.aload_n 0, 1) := by decide +kernel
theorem dX3_draw_1 : decode cX3_draw 1 = .ok (.aload_n 0, 1) := by decide +kernel
theorem dX3_draw_2 : decode cX3_draw 2 = .ok (.getfield 28, 3) := by decide +kernel
theorem dX3_draw_5 : decode cX3_draw 5 = .ok (.ldc 49, 2) := by decide +kernel
theorem dX3_draw_7 : decode cX3_draw 7 = .ok (.imul, 1) := by decide +kernel
theorem dX3_draw_8 : decode cX3_draw 8 = .ok (.sipush 12345, 3) := by decide +kernel
theorem dX3_draw_11 : decode cX3_draw 11 = .ok (.iadd, 1) := by decide +kernel
theorem dX3_draw_12 : decode cX3_draw 12 = .ok (.putfield 28, 3) := by decide +kernel
theorem dX3_draw_15 : decode cX3_draw 15 = .ok (.aload_n 0, 1) := by decide +kernel
theorem dX3_draw_16 : decode cX3_draw 16 = .ok (.getfield 28, 3) := by decide +kernel
theorem dX3_draw_19 : decode cX3_draw 19 = .ok (.bipush 8, 2) := by decide +kernel
theorem dX3_draw_21 : decode cX3_draw 21 = .ok (.iushr, 1) := by decide +kernel
theorem dX3_draw_22 : decode cX3_draw 22 = .ok (.ireturn, 1) := by decide +kernel
theorem dX4_init_0 : decode cX4_init 0 = .ok (.aload_n 0, 1) := by decide +kernel
theorem dX4_init_1 : decode cX4_init 1 = .ok (.invokespecial 1, 3) := by decide +kernel
theorem dX4_init_4 : decode cX4_init 4 = .ok (.aload_n 0, 1) := by decide +kernel
theorem dX4_init_5 : decode cX4_init 5 = .ok (.bipush 100, 2) := by decide +kernel
theorem dX4_init_7 : decode cX4_init 7 = .ok (.newarray .int, 2) := by decide +kernel
theorem dX4_init_9 : decode cX4_init 9 = .ok (.putfield 9, 3) := by decide +kernel
theorem dX4_init_12 : decode cX4_init 12 = .ok (.return_, 1) := by decide +kernel
theorem dX4_append_0 : decode cX4_append 0 = .ok (.aload_n 0, 1) := by decide +kernel
theorem dX4_append_1 : decode cX4_append 1 = .ok (.getfield 13, 3) := by decide +kernel
theorem dX4_append_4 : decode cX4_append 4 = .ok (.iconst 0, 1) := by decide +kernel
theorem dX4_append_5 : decode cX4_append 5 = .ok (.bipush 99, 2) := by decide +kernel
theorem dX4_append_7 : decode cX4_append 7 = .ok (.invokestatic 17, 3) := by decide +kernel
theorem dX4_append_10 : decode cX4_append 10 = .ok (.ifCond .eq 27, 3) := by decide +kernel
theorem dX4_append_13 : decode cX4_append 13 = .ok (.aload_n 0, 1) := by decide +kernel
theorem dX4_append_14 : decode cX4_append 14 = .ok (.getfield 9, 3) := by decide +kernel
theorem dX4_append_17 : decode cX4_append 17 = .ok (.aload_n 0, 1) := by decide +kernel
theorem dX4_append_18 : decode cX4_append 18 = .ok (.getfield 13, 3) := by decide +kernel
theorem dX4_append_21 : decode cX4_append 21 = .ok (.iload_n 1, 1) := by decide +kernel
theorem dX4_append_22 : decode cX4_append 22 = .ok (.sipush 255, 3) := by decide +kernel
theorem dX4_append_25 : decode cX4_append 25 = .ok (.iand, 1) := by decide +kernel
theorem dX4_append_26 : decode cX4_append 26 = .ok (.iastore, 1) := by decide +kernel
theorem dX4_append_27 : decode cX4_append 27 = .ok (.aload_n 0, 1) := by decide +kernel
theorem dX4_append_28 : decode cX4_append 28 = .ok (.dup, 1) := by decide +kernel
theorem dX4_append_29 : decode cX4_append 29 = .ok (.getfield 13, 3) := by decide +kernel
theorem dX4_append_32 : decode cX4_append 32 = .ok (.iconst 1, 1) := by decide +kernel
theorem dX4_append_33 : decode cX4_append 33 = .ok (.iadd, 1) := by decide +kernel
theorem dX4_append_34 : decode cX4_append 34 = .ok (.putfield 13, 3) := by decide +kernel
theorem dX4_append_37 : decode cX4_append 37 = .ok (.return_, 1) := by decide +kernel
theorem dX4_byteAt_0 : decode cX4_byteAt 0 = .ok (.iload_n 1, 1) := by decide +kernel
theorem dX4_byteAt_1 : decode cX4_byteAt 1 = .ok (.ifCond .lt 20, 3) := by decide +kernel
theorem dX4_byteAt_4 : decode cX4_byteAt 4 = .ok (.iload_n 1, 1) := by decide +kernel
theorem dX4_byteAt_5 : decode cX4_byteAt 5 = .ok (.aload_n 0, 1) := by decide +kernel
theorem dX4_byteAt_6 : decode cX4_byteAt 6 = .ok (.getfield 13, 3) := by decide +kernel
theorem dX4_byteAt_9 : decode cX4_byteAt 9 = .ok (.if_icmp .ge 12, 3) := by decide +kernel
theorem dX4_byteAt_12 : decode cX4_byteAt 12 = .ok (.aload_n 0, 1) := by decide +kernel
theorem dX4_byteAt_13 : decode cX4_byteAt 13 = .ok (.getfield 9, 3) := by decide +kernel
theorem dX4_byteAt_16 : decode cX4_byteAt 16 = .ok (.iload_n 1, 1) := by decide +kernel
theorem dX4_byteAt_17 : decode cX4_byteAt 17 = .ok (.iaload, 1) := by decide +kernel
theorem dX4_byteAt_18 : decode cX4_byteAt 18 = .ok (.goto 4, 3) := by decide +kernel
theorem dX4_byteAt_21 : decode cX4_byteAt 21 = .ok (.iconst (-1), 1) := by decide +kernel
theorem dX4_byteAt_22 : decode cX4_byteAt 22 = .ok (.ireturn, 1) := by decide +kernel
theorem dX4_isLetter_0 : decode cX4_isLetter 0 = .ok (.aload_n 0, 1) := by decide +kernel
theorem dX4_isLetter_1 : decode cX4_isLetter 1 = .ok (.iload_n 1, 1) := by decide +kernel
theorem dX4_isLetter_2 : decode cX4_isLetter 2 = .ok (.invokevirtual 23, 3) := by decide +kernel
theorem dX4_isLetter_5 : decode cX4_isLetter 5 = .ok (.bipush 97, 2) := by decide +kernel
theorem dX4_isLetter_7 : decode cX4_isLetter 7 = .ok (.bipush 122, 2) := by decide +kernel
theorem dX4_isLetter_9 : decode cX4_isLetter 9 = .ok (.invokestatic 17, 3) := by decide +kernel
theorem dX4_isLetter_12 : decode cX4_isLetter 12 = .ok (.ireturn, 1) := by decide +kernel
theorem dX4_isDigit_0 : decode cX4_isDigit 0 = .ok (.aload_n 0, 1) := by decide +kernel
theorem dX4_isDigit_1 : decode cX4_isDigit 1 = .ok (.iload_n 1, 1) := by decide +kernel
theorem dX4_isDigit_2 : decode cX4_isDigit 2 = .ok (.invokevirtual 23, 3) := by decide +kernel
theorem dX4_isDigit_5 : decode cX4_isDigit 5 = .ok (.bipush 48, 2) := by decide +kernel
theorem dX4_isDigit_7 : decode cX4_isDigit 7 = .ok (.bipush 57, 2) := by decide +kernel
theorem dX4_isDigit_9 : decode cX4_isDigit 9 = .ok (.invokestatic 17, 3) := by decide +kernel
theorem dX4_isDigit_12 : decode cX4_isDigit 12 = .ok (.ireturn, 1) := by decide +kernel
theorem dX4_isWordAt_0 : decode cX4_isWordAt 0 = .ok (.iload_n 2, 1) := by decide +kernel
theorem dX4_isWordAt_1 : decode cX4_isWordAt 1 = .ok (.iload_n 1, 1) := by decide +kernel
theorem dX4_isWordAt_2 : decode cX4_isWordAt 2 = .ok (.isub, 1) := by decide +kernel
theorem dX4_isWordAt_3 : decode cX4_isWordAt 3 = .ok (.aload_n 3, 1) := by decide +kernel
theorem dX4_isWordAt_4 : decode cX4_isWordAt 4 = .ok (.invokevirtual 27, 3) := by decide +kernel
theorem dX4_isWordAt_7 : decode cX4_isWordAt 7 = .ok (.if_icmp .eq 5, 3) := by decide +kernel
theorem dX4_isWordAt_10 : decode cX4_isWordAt 10 = .ok (.iconst 0, 1) := by decide +kernel
theorem dX4_isWordAt_11 : decode cX4_isWordAt 11 = .ok (.ireturn, 1) := by decide +kernel
theorem dX4_isWordAt_12 : decode cX4_isWordAt 12 = .ok (.iconst 0, 1) := by decide +kernel
theorem dX4_isWordAt_13 : decode cX4_isWordAt 13 = .ok (.istore 4, 2) := by decide +kernel
theorem dX4_isWordAt_15 : decode cX4_isWordAt 15 = .ok (.iload 4, 2) := by decide +kernel
theorem dX4_isWordAt_17 : decode cX4_isWordAt 17 = .ok (.aload_n 3, 1) := by decide +kernel
theorem dX4_isWordAt_18 : decode cX4_isWordAt 18 = .ok (.invokevirtual 27, 3) := by decide +kernel
theorem dX4_isWordAt_21 : decode cX4_isWordAt 21 = .ok (.if_icmp .ge 28, 3) := by decide +kernel
theorem dX4_isWordAt_24 : decode cX4_isWordAt 24 = .ok (.aload_n 0, 1) := by decide +kernel
theorem dX4_isWordAt_25 : decode cX4_isWordAt 25 = .ok (.iload_n 1, 1) := by decide +kernel
theorem dX4_isWordAt_26 : decode cX4_isWordAt 26 = .ok (.iload 4, 2) := by decide +kernel
theorem dX4_isWordAt_28 : decode cX4_isWordAt 28 = .ok (.iadd, 1) := by decide +kernel
theorem dX4_isWordAt_29 : decode cX4_isWordAt 29 = .ok (.invokevirtual 23, 3) := by decide +kernel
theorem dX4_isWordAt_32 : decode cX4_isWordAt 32 = .ok (.aload_n 3, 1) := by decide +kernel
theorem dX4_isWordAt_33 : decode cX4_isWordAt 33 = .ok (.iload 4, 2) := by decide +kernel
theorem dX4_isWordAt_35 : decode cX4_isWordAt 35 = .ok (.invokevirtual 33, 3) := by decide +kernel
theorem dX4_isWordAt_38 : decode cX4_isWordAt 38 = .ok (.if_icmp .eq 5, 3) := by decide +kernel
theorem dX4_isWordAt_41 : decode cX4_isWordAt 41 = .ok (.iconst 0, 1) := by decide +kernel
theorem dX4_isWordAt_42 : decode cX4_isWordAt 42 = .ok (.ireturn, 1) := by decide +kernel
theorem dX4_isWordAt_43 : decode cX4_isWordAt 43 = .ok (.iinc 4 1, 3) := by decide +kernel
theorem dX4_isWordAt_46 : decode cX4_isWordAt 46 = .ok (.goto (-31), 3) := by decide +kernel
theorem dX4_isWordAt_49 : decode cX4_isWordAt 49 = .ok (.iconst 1, 1) := by decide +kernel
theorem dX4_isWordAt_50 : decode cX4_isWordAt 50 = .ok (.ireturn, 1) := by decide +kernel
theorem dX5_init_0 : decode cX5_init 0 = .ok (.aload_n 0, 1) := by decide +kernel
theorem dX5_init_1 : decode cX5_init 1 = .ok (.invokespecial 3, 3) := by decide +kernel
theorem dX5_init_4 : decode cX5_init 4 = .ok (.aload_n 0, 1) := by decide +kernel
theorem dX5_init_5 : decode cX5_init 5 = .ok (.new 9, 3) := by decide +kernel
theorem dX5_init_8 : decode cX5_init 8 = .ok (.dup, 1) := by decide +kernel
theorem dX5_init_9 : decode cX5_init 9 = .ok (.invokespecial 11, 3) := by decide +kernel
theorem dX5_init_12 : decode cX5_init 12 = .ok (.putfield 12, 3) := by decide +kernel
theorem dX5_init_15 : decode cX5_init 15 = .ok (.return_, 1) := by decide +kernel
theorem dX5_read_0 : decode cX5_read 0 = .ok (.aload_n 0, 1) := by decide +kernel
theorem dX5_read_1 : decode cX5_read 1 = .ok (.iconst 0, 1) := by decide +kernel
theorem dX5_read_2 : decode cX5_read 2 = .ok (.putfield 18, 3) := by decide +kernel
theorem dX5_read_5 : decode cX5_read 5 = .ok (.aload_n 1, 1) := by decide +kernel
theorem dX5_read_6 : decode cX5_read 6 = .ok (.iconst 0, 1) := by decide +kernel
theorem dX5_read_7 : decode cX5_read 7 = .ok (.putfield 22, 3) := by decide +kernel
theorem dX5_read_10 : decode cX5_read 10 = .ok (.aload_n 0, 1) := by decide +kernel
theorem dX5_read_11 : decode cX5_read 11 = .ok (.invokevirtual 27, 3) := by decide +kernel
theorem dX5_read_14 : decode cX5_read 14 = .ok (.iconst 0, 1) := by decide +kernel
theorem dX5_read_15 : decode cX5_read 15 = .ok (.istore_n 2, 1) := by decide +kernel
theorem dX5_read_16 : decode cX5_read 16 = .ok (.iload_n 2, 1) := by decide +kernel
theorem dX5_read_17 : decode cX5_read 17 = .ok (.bipush 12, 2) := by decide +kernel
theorem dX5_read_19 : decode cX5_read 19 = .ok (.if_icmp .ge 56, 3) := by decide +kernel
theorem dX5_read_22 : decode cX5_read 22 = .ok (.aload_n 0, 1) := by decide +kernel
theorem dX5_read_23 : decode cX5_read 23 = .ok (.aload_n 1, 1) := by decide +kernel
theorem dX5_read_24 : decode cX5_read 24 = .ok (.invokevirtual 30, 3) := by decide +kernel
theorem dX5_read_27 : decode cX5_read 27 = .ok (.ifCond .ne 8, 3) := by decide +kernel
theorem dX5_read_30 : decode cX5_read 30 = .ok (.aload_n 0, 1) := by decide +kernel
theorem dX5_read_31 : decode cX5_read 31 = .ok (.getfield 34, 3) := by decide +kernel
theorem dX5_read_34 : decode cX5_read 34 = .ok (.ireturn, 1) := by decide +kernel
theorem dX5_read_35 : decode cX5_read 35 = .ok (.aload_n 0, 1) := by decide +kernel
theorem dX5_read_36 : decode cX5_read 36 = .ok (.getfield 34, 3) := by decide +kernel
theorem dX5_read_39 : decode cX5_read 39 = .ok (.aload_n 0, 1) := by decide +kernel
theorem dX5_read_40 : decode cX5_read 40 = .ok (.getfield 12, 3) := by decide +kernel
theorem dX5_read_43 : decode cX5_read 43 = .ok (.getfield 37, 3) := by decide +kernel
theorem dX5_read_46 : decode cX5_read 46 = .ok (.if_icmp .ne 5, 3) := by decide +kernel
theorem dX5_read_49 : decode cX5_read 49 = .ok (.iconst (-1), 1) := by decide +kernel
theorem dX5_read_50 : decode cX5_read 50 = .ok (.ireturn, 1) := by decide +kernel
theorem dX5_read_51 : decode cX5_read 51 = .ok (.aload_n 0, 1) := by decide +kernel
theorem dX5_read_52 : decode cX5_read 52 = .ok (.bipush 59, 2) := by decide +kernel
theorem dX5_read_54 : decode cX5_read 54 = .ok (.invokevirtual 38, 3) := by decide +kernel
theorem dX5_read_57 : decode cX5_read 57 = .ok (.ifCond .ne 8, 3) := by decide +kernel
theorem dX5_read_60 : decode cX5_read 60 = .ok (.aload_n 0, 1) := by decide +kernel
theorem dX5_read_61 : decode cX5_read 61 = .ok (.getfield 34, 3) := by decide +kernel
theorem dX5_read_64 : decode cX5_read 64 = .ok (.ireturn, 1) := by decide +kernel
theorem dX5_read_65 : decode cX5_read 65 = .ok (.aload_n 0, 1) := by decide +kernel
theorem dX5_read_66 : decode cX5_read 66 = .ok (.invokevirtual 27, 3) := by decide +kernel
theorem dX5_read_69 : decode cX5_read 69 = .ok (.iinc 2 1, 3) := by decide +kernel
theorem dX5_read_72 : decode cX5_read 72 = .ok (.goto (-56), 3) := by decide +kernel
theorem dX5_read_75 : decode cX5_read 75 = .ok (.aload_n 0, 1) := by decide +kernel
theorem dX5_read_76 : decode cX5_read 76 = .ok (.getfield 34, 3) := by decide +kernel
theorem dX5_read_79 : decode cX5_read 79 = .ok (.ireturn, 1) := by decide +kernel
theorem dX5_readDeed_0 : decode cX5_readDeed 0 = .ok (.aload_n 0, 1) := by decide +kernel
theorem dX5_readDeed_1 : decode cX5_readDeed 1 = .ok (.getfield 42, 3) := by decide +kernel
theorem dX5_readDeed_4 : decode cX5_readDeed 4 = .ok (.istore_n 2, 1) := by decide +kernel
theorem dX5_readDeed_5 : decode cX5_readDeed 5 = .ok (.aload_n 0, 1) := by decide +kernel
theorem dX5_readDeed_6 : decode cX5_readDeed 6 = .ok (.getfield 45, 3) := by decide +kernel
theorem dX5_readDeed_9 : decode cX5_readDeed 9 = .ok (.ifCond .ne 8, 3) := by decide +kernel
theorem dX5_readDeed_12 : decode cX5_readDeed 12 = .ok (.iload_n 2, 1) := by decide +kernel
theorem dX5_readDeed_13 : decode cX5_readDeed 13 = .ok (.iconst (-1), 1) := by decide +kernel
theorem dX5_readDeed_14 : decode cX5_readDeed 14 = .ok (.if_icmp .ne 5, 3) := by decide +kernel
theorem dX5_readDeed_17 : decode cX5_readDeed 17 = .ok (.iconst 0, 1) := by decide +kernel
theorem dX5_readDeed_18 : decode cX5_readDeed 18 = .ok (.ireturn, 1) := by decide +kernel
theorem dX5_readDeed_19 : decode cX5_readDeed 19 = .ok (.aload_n 0, 1) := by decide +kernel
theorem dX5_readDeed_20 : decode cX5_readDeed 20 = .ok (.invokevirtual 27, 3) := by decide +kernel
theorem dX5_readDeed_23 : decode cX5_readDeed 23 = .ok (.iload_n 2, 1) := by decide +kernel
theorem dX5_readDeed_24 : decode cX5_readDeed 24 = .ok (.bipush 11, 2) := by decide +kernel
theorem dX5_readDeed_26 : decode cX5_readDeed 26 = .ok (.if_icmp .ne 16, 3) := by decide +kernel
theorem dX5_readDeed_29 : decode cX5_readDeed 29 = .ok (.aload_n 0, 1) := by decide +kernel
theorem dX5_readDeed_30 : decode cX5_readDeed 30 = .ok (.bipush 45, 2) := by decide +kernel
theorem dX5_readDeed_32 : decode cX5_readDeed 32 = .ok (.invokevirtual 38, 3) := by decide +kernel
theorem dX5_readDeed_35 : decode cX5_readDeed 35 = .ok (.ifCond .eq 7, 3) := by decide +kernel
theorem dX5_readDeed_38 : decode cX5_readDeed 38 = .ok (.iconst 1, 1) := by decide +kernel
theorem dX5_readDeed_39 : decode cX5_readDeed 39 = .ok (.goto 4, 3) := by decide +kernel
theorem dX5_readDeed_42 : decode cX5_readDeed 42 = .ok (.iconst 0, 1) := by decide +kernel
theorem dX5_readDeed_43 : decode cX5_readDeed 43 = .ok (.istore_n 3, 1) := by decide +kernel
theorem dX5_readDeed_44 : decode cX5_readDeed 44 = .ok (.iload_n 3, 1) := by decide +kernel
theorem dX5_readDeed_45 : decode cX5_readDeed 45 = .ok (.ifCond .eq 7, 3) := by decide +kernel
theorem dX5_readDeed_48 : decode cX5_readDeed 48 = .ok (.aload_n 0, 1) := by decide +kernel
theorem dX5_readDeed_49 : decode cX5_readDeed 49 = .ok (.invokevirtual 27, 3) := by decide +kernel
theorem dX5_readDeed_52 : decode cX5_readDeed 52 = .ok (.aload_n 0, 1) := by decide +kernel
theorem dX5_readDeed_53 : decode cX5_readDeed 53 = .ok (.getfield 45, 3) := by decide +kernel
theorem dX5_readDeed_56 : decode cX5_readDeed 56 = .ok (.iconst 1, 1) := by decide +kernel
theorem dX5_readDeed_57 : decode cX5_readDeed 57 = .ok (.if_icmp .ne 14, 3) := by decide +kernel
theorem dX5_readDeed_60 : decode cX5_readDeed 60 = .ok (.iload_n 2, 1) := by decide +kernel
theorem dX5_readDeed_61 : decode cX5_readDeed 61 = .ok (.aload_n 0, 1) := by decide +kernel
theorem dX5_readDeed_62 : decode cX5_readDeed 62 = .ok (.getfield 42, 3) := by decide +kernel
theorem dX5_readDeed_65 : decode cX5_readDeed 65 = .ok (.invokestatic 48, 3) := by decide +kernel
theorem dX5_readDeed_68 : decode cX5_readDeed 68 = .ok (.ifCond .ne 5, 3) := by decide +kernel
theorem dX5_readDeed_71 : decode cX5_readDeed 71 = .ok (.iconst 0, 1) := by decide +kernel
theorem dX5_readDeed_72 : decode cX5_readDeed 72 = .ok (.ireturn, 1) := by decide +kernel
theorem dX5_readDeed_73 : decode cX5_readDeed 73 = .ok (.aload_n 1, 1) := by decide +kernel
theorem dX5_readDeed_74 : decode cX5_readDeed 74 = .ok (.iload_n 2, 1) := by decide +kernel
theorem dX5_readDeed_75 : decode cX5_readDeed 75 = .ok (.iload_n 3, 1) := by decide +kernel
theorem dX5_readDeed_76 : decode cX5_readDeed 76 = .ok (.ifCond .eq 11, 3) := by decide +kernel
theorem dX5_readDeed_79 : decode cX5_readDeed 79 = .ok (.aload_n 0, 1) := by decide +kernel
theorem dX5_readDeed_80 : decode cX5_readDeed 80 = .ok (.getfield 42, 3) := by decide +kernel
theorem dX5_readDeed_83 : decode cX5_readDeed 83 = .ok (.ineg, 1) := by decide +kernel
theorem dX5_readDeed_84 : decode cX5_readDeed 84 = .ok (.goto 7, 3) := by decide +kernel
theorem dX5_readDeed_87 : decode cX5_readDeed 87 = .ok (.aload_n 0, 1) := by decide +kernel
theorem dX5_readDeed_88 : decode cX5_readDeed 88 = .ok (.getfield 42, 3) := by decide +kernel
theorem dX5_readDeed_91 : decode cX5_readDeed 91 = .ok (.invokevirtual 52, 3) := by decide +kernel
theorem dX5_readDeed_94 : decode cX5_readDeed 94 = .ok (.aload_n 0, 1) := by decide +kernel
theorem dX5_readDeed_95 : decode cX5_readDeed 95 = .ok (.invokevirtual 27, 3) := by decide +kernel
theorem dX5_readDeed_98 : decode cX5_readDeed 98 = .ok (.iconst 1, 1) := by decide +kernel
theorem dX5_readDeed_99 : decode cX5_readDeed 99 = .ok (.ireturn, 1) := by decide +kernel
theorem dX5_isSign_0 : decode cX5_isSign 0 = .ok (.aload_n 0, 1) := by decide +kernel
theorem dX5_isSign_1 : decode cX5_isSign 1 = .ok (.getfield 45, 3) := by decide +kernel
theorem dX5_isSign_4 : decode cX5_isSign 4 = .ok (.iconst 2, 1) := by decide +kernel
theorem dX5_isSign_5 : decode cX5_isSign 5 = .ok (.if_icmp .ne 15, 3) := by decide +kernel
theorem dX5_isSign_8 : decode cX5_isSign 8 = .ok (.aload_n 0, 1) := by decide +kernel
theorem dX5_isSign_9 : decode cX5_isSign 9 = .ok (.getfield 42, 3) := by decide +kernel
theorem dX5_isSign_12 : decode cX5_isSign 12 = .ok (.iload_n 1, 1) := by decide +kernel
theorem dX5_isSign_13 : decode cX5_isSign 13 = .ok (.if_icmp .ne 7, 3) := by decide +kernel
theorem dX5_isSign_16 : decode cX5_isSign 16 = .ok (.iconst 1, 1) := by decide +kernel
theorem dX5_isSign_17 : decode cX5_isSign 17 = .ok (.goto 4, 3) := by decide +kernel
theorem dX5_isSign_20 : decode cX5_isSign 20 = .ok (.iconst 0, 1) := by decide +kernel
theorem dX5_isSign_21 : decode cX5_isSign 21 = .ok (.ireturn, 1) := by decide +kernel
theorem dX5_next_0 : decode cX5_next 0 = .ok (.aload_n 0, 1) := by decide +kernel
theorem dX5_next_1 : decode cX5_next 1 = .ok (.aload_n 0, 1) := by decide +kernel
theorem dX5_next_2 : decode cX5_next 2 = .ok (.getfield 18, 3) := by decide +kernel
theorem dX5_next_5 : decode cX5_next 5 = .ok (.putfield 34, 3) := by decide +kernel
theorem dX5_next_8 : decode cX5_next 8 = .ok (.aload_n 0, 1) := by decide +kernel
theorem dX5_next_9 : decode cX5_next 9 = .ok (.getfield 34, 3) := by decide +kernel
theorem dX5_next_12 : decode cX5_next 12 = .ok (.aload_n 0, 1) := by decide +kernel
theorem dX5_next_13 : decode cX5_next 13 = .ok (.getfield 12, 3) := by decide +kernel
theorem dX5_next_16 : decode cX5_next 16 = .ok (.getfield 37, 3) := by decide +kernel
theorem dX5_next_19 : decode cX5_next 19 = .ok (.if_icmp .ge 32, 3) := by decide +kernel
theorem dX5_next_22 : decode cX5_next 22 = .ok (.aload_n 0, 1) := by decide +kernel
theorem dX5_next_23 : decode cX5_next 23 = .ok (.getfield 12, 3) := by decide +kernel
theorem dX5_next_26 : decode cX5_next 26 = .ok (.aload_n 0, 1) := by decide +kernel
theorem dX5_next_27 : decode cX5_next 27 = .ok (.getfield 34, 3) := by decide +kernel
theorem dX5_next_30 : decode cX5_next 30 = .ok (.invokevirtual 56, 3) := by decide +kernel
theorem dX5_next_33 : decode cX5_next 33 = .ok (.bipush 32, 2) := by decide +kernel
theorem dX5_next_35 : decode cX5_next 35 = .ok (.if_icmp .ne 16, 3) := by decide +kernel
theorem dX5_next_38 : decode cX5_next 38 = .ok (.aload_n 0, 1) := by decide +kernel
theorem dX5_next_39 : decode cX5_next 39 = .ok (.dup, 1) := by decide +kernel
theorem dX5_next_40 : decode cX5_next 40 = .ok (.getfield 34, 3) := by decide +kernel
theorem dX5_next_43 : decode cX5_next 43 = .ok (.iconst 1, 1) := by decide +kernel
theorem dX5_next_44 : decode cX5_next 44 = .ok (.iadd, 1) := by decide +kernel
theorem dX5_next_45 : decode cX5_next 45 = .ok (.putfield 34, 3) := by decide +kernel
theorem dX5_next_48 : decode cX5_next 48 = .ok (.goto (-40), 3) := by decide +kernel
theorem dX5_next_51 : decode cX5_next 51 = .ok (.aload_n 0, 1) := by decide +kernel
theorem dX5_next_52 : decode cX5_next 52 = .ok (.aload_n 0, 1) := by decide +kernel
theorem dX5_next_53 : decode cX5_next 53 = .ok (.getfield 34, 3) := by decide +kernel
theorem dX5_next_56 : decode cX5_next 56 = .ok (.putfield 18, 3) := by decide +kernel
theorem dX5_next_59 : decode cX5_next 59 = .ok (.aload_n 0, 1) := by decide +kernel
theorem dX5_next_60 : decode cX5_next 60 = .ok (.getfield 12, 3) := by decide +kernel
theorem dX5_next_63 : decode cX5_next 63 = .ok (.aload_n 0, 1) := by decide +kernel
theorem dX5_next_64 : decode cX5_next 64 = .ok (.getfield 34, 3) := by decide +kernel
theorem dX5_next_67 : decode cX5_next 67 = .ok (.invokevirtual 60, 3) := by decide +kernel
theorem dX5_next_70 : decode cX5_next 70 = .ok (.ifCond .eq 10, 3) := by decide +kernel
theorem dX5_next_73 : decode cX5_next 73 = .ok (.aload_n 0, 1) := by decide +kernel
theorem dX5_next_74 : decode cX5_next 74 = .ok (.invokevirtual 64, 3) := by decide +kernel
theorem dX5_next_77 : decode cX5_next 77 = .ok (.goto 28, 3) := by decide +kernel
theorem dX5_next_80 : decode cX5_next 80 = .ok (.aload_n 0, 1) := by decide +kernel
theorem dX5_next_81 : decode cX5_next 81 = .ok (.getfield 12, 3) := by decide +kernel
theorem dX5_next_84 : decode cX5_next 84 = .ok (.aload_n 0, 1) := by decide +kernel
theorem dX5_next_85 : decode cX5_next 85 = .ok (.getfield 34, 3) := by decide +kernel
theorem dX5_next_88 : decode cX5_next 88 = .ok (.invokevirtual 67, 3) := by decide +kernel
theorem dX5_next_91 : decode cX5_next 91 = .ok (.ifCond .eq 10, 3) := by decide +kernel
theorem dX5_next_94 : decode cX5_next 94 = .ok (.aload_n 0, 1) := by decide +kernel
theorem dX5_next_95 : decode cX5_next 95 = .ok (.invokevirtual 70, 3) := by decide +kernel
theorem dX5_next_98 : decode cX5_next 98 = .ok (.goto 7, 3) := by decide +kernel
theorem dX5_next_101 : decode cX5_next 101 = .ok (.aload_n 0, 1) := by decide +kernel
theorem dX5_next_102 : decode cX5_next 102 = .ok (.invokevirtual 73, 3) := by decide +kernel
theorem dX5_next_105 : decode cX5_next 105 = .ok (.return_, 1) := by decide +kernel
theorem dX5_readWord_0 : decode cX5_readWord 0 = .ok (.aload_n 0, 1) := by decide +kernel
theorem dX5_readWord_1 : decode cX5_readWord 1 = .ok (.getfield 18, 3) := by decide +kernel
theorem dX5_readWord_4 : decode cX5_readWord 4 = .ok (.aload_n 0, 1) := by decide +kernel
theorem dX5_readWord_5 : decode cX5_readWord 5 = .ok (.getfield 12, 3) := by decide +kernel
theorem dX5_readWord_8 : decode cX5_readWord 8 = .ok (.getfield 37, 3) := by decide +kernel
theorem dX5_readWord_11 : decode cX5_readWord 11 = .ok (.if_icmp .ge 30, 3) := by decide +kernel
theorem dX5_readWord_14 : decode cX5_readWord 14 = .ok (.aload_n 0, 1) := by decide +kernel
theorem dX5_readWord_15 : decode cX5_readWord 15 = .ok (.getfield 12, 3) := by decide +kernel
theorem dX5_readWord_18 : decode cX5_readWord 18 = .ok (.aload_n 0, 1) := by decide +kernel
theorem dX5_readWord_19 : decode cX5_readWord 19 = .ok (.getfield 18, 3) := by decide +kernel
theorem dX5_readWord_22 : decode cX5_readWord 22 = .ok (.invokevirtual 60, 3) := by decide +kernel
theorem dX5_readWord_25 : decode cX5_readWord 25 = .ok (.ifCond .eq 16, 3) := by decide +kernel
theorem dX5_readWord_28 : decode cX5_readWord 28 = .ok (.aload_n 0, 1) := by decide +kernel
theorem dX5_readWord_29 : decode cX5_readWord 29 = .ok (.dup, 1) := by decide +kernel
theorem dX5_readWord_30 : decode cX5_readWord 30 = .ok (.getfield 18, 3) := by decide +kernel
theorem dX5_readWord_33 : decode cX5_readWord 33 = .ok (.iconst 1, 1) := by decide +kernel
theorem dX5_readWord_34 : decode cX5_readWord 34 = .ok (.iadd, 1) := by decide +kernel
theorem dX5_readWord_35 : decode cX5_readWord 35 = .ok (.putfield 18, 3) := by decide +kernel
theorem dX5_readWord_38 : decode cX5_readWord 38 = .ok (.goto (-38), 3) := by decide +kernel
theorem dX5_readWord_41 : decode cX5_readWord 41 = .ok (.aload_n 0, 1) := by decide +kernel
theorem dX5_readWord_42 : decode cX5_readWord 42 = .ok (.iconst 0, 1) := by decide +kernel
theorem dX5_readWord_43 : decode cX5_readWord 43 = .ok (.putfield 45, 3) := by decide +kernel
theorem dX5_readWord_46 : decode cX5_readWord 46 = .ok (.aload_n 0, 1) := by decide +kernel
theorem dX5_readWord_47 : decode cX5_readWord 47 = .ok (.iconst (-1), 1) := by decide +kernel
theorem dX5_readWord_48 : decode cX5_readWord 48 = .ok (.putfield 42, 3) := by decide +kernel
theorem dX5_readWord_51 : decode cX5_readWord 51 = .ok (.iconst 0, 1) := by decide +kernel
theorem dX5_readWord_52 : decode cX5_readWord 52 = .ok (.istore_n 1, 1) := by decide +kernel
theorem dX5_readWord_53 : decode cX5_readWord 53 = .ok (.iload_n 1, 1) := by decide +kernel
theorem dX5_readWord_54 : decode cX5_readWord 54 = .ok (.bipush 13, 2) := by decide +kernel
theorem dX5_readWord_56 : decode cX5_readWord 56 = .ok (.if_icmp .ge 36, 3) := by decide +kernel
theorem dX5_readWord_59 : decode cX5_readWord 59 = .ok (.aload_n 0, 1) := by decide +kernel
theorem dX5_readWord_60 : decode cX5_readWord 60 = .ok (.getfield 12, 3) := by decide +kernel
theorem dX5_readWord_63 : decode cX5_readWord 63 = .ok (.aload_n 0, 1) := by decide +kernel
theorem dX5_readWord_64 : decode cX5_readWord 64 = .ok (.getfield 34, 3) := by decide +kernel
theorem dX5_readWord_67 : decode cX5_readWord 67 = .ok (.aload_n 0, 1) := by decide +kernel
theorem dX5_readWord_68 : decode cX5_readWord 68 = .ok (.getfield 18, 3) := by decide +kernel
theorem dX5_readWord_71 : decode cX5_readWord 71 = .ok (.iload_n 1, 1) := by decide +kernel
theorem dX5_readWord_72 : decode cX5_readWord 72 = .ok (.invokestatic 76, 3) := by decide +kernel
theorem dX5_readWord_75 : decode cX5_readWord 75 = .ok (.invokevirtual 80, 3) := by decide +kernel
theorem dX5_readWord_78 : decode cX5_readWord 78 = .ok (.ifCond .eq 8, 3) := by decide +kernel
theorem dX5_readWord_81 : decode cX5_readWord 81 = .ok (.aload_n 0, 1) := by decide +kernel
theorem dX5_readWord_82 : decode cX5_readWord 82 = .ok (.iload_n 1, 1) := by decide +kernel
theorem dX5_readWord_83 : decode cX5_readWord 83 = .ok (.putfield 42, 3) := by decide +kernel
theorem dX5_readWord_86 : decode cX5_readWord 86 = .ok (.iinc 1 1, 3) := by decide +kernel
theorem dX5_readWord_89 : decode cX5_readWord 89 = .ok (.goto (-36), 3) := by decide +kernel
theorem dX5_readWord_92 : decode cX5_readWord 92 = .ok (.return_, 1) := by decide +kernel
theorem dX5_readNumber_0 : decode cX5_readNumber 0 = .ok (.aload_n 0, 1) := by decide +kernel
theorem dX5_readNumber_1 : decode cX5_readNumber 1 = .ok (.iconst 1, 1) := by decide +kernel
theorem dX5_readNumber_2 : decode cX5_readNumber 2 = .ok (.putfield 45, 3) := by decide +kernel
theorem dX5_readNumber_5 : decode cX5_readNumber 5 = .ok (.aload_n 0, 1) := by decide +kernel
theorem dX5_readNumber_6 : decode cX5_readNumber 6 = .ok (.iconst 0, 1) := by decide +kernel
theorem dX5_readNumber_7 : decode cX5_readNumber 7 = .ok (.putfield 42, 3) := by decide +kernel
theorem dX5_readNumber_10 : decode cX5_readNumber 10 = .ok (.aload_n 0, 1) := by decide +kernel
theorem dX5_readNumber_11 : decode cX5_readNumber 11 = .ok (.getfield 18, 3) := by decide +kernel
theorem dX5_readNumber_14 : decode cX5_readNumber 14 = .ok (.aload_n 0, 1) := by decide +kernel
theorem dX5_readNumber_15 : decode cX5_readNumber 15 = .ok (.getfield 12, 3) := by decide +kernel
theorem dX5_readNumber_18 : decode cX5_readNumber 18 = .ok (.getfield 37, 3) := by decide +kernel
theorem dX5_readNumber_21 : decode cX5_readNumber 21 = .ok (.if_icmp .ge 62, 3) := by decide +kernel
theorem dX5_readNumber_24 : decode cX5_readNumber 24 = .ok (.aload_n 0, 1) := by decide +kernel
theorem dX5_readNumber_25 : decode cX5_readNumber 25 = .ok (.getfield 12, 3) := by decide +kernel
theorem dX5_readNumber_28 : decode cX5_readNumber 28 = .ok (.aload_n 0, 1) := by decide +kernel
theorem dX5_readNumber_29 : decode cX5_readNumber 29 = .ok (.getfield 18, 3) := by decide +kernel
theorem dX5_readNumber_32 : decode cX5_readNumber 32 = .ok (.invokevirtual 67, 3) := by decide +kernel
theorem dX5_readNumber_35 : decode cX5_readNumber 35 = .ok (.ifCond .eq 48, 3) := by decide +kernel
theorem dX5_readNumber_38 : decode cX5_readNumber 38 = .ok (.aload_n 0, 1) := by decide +kernel
theorem dX5_readNumber_39 : decode cX5_readNumber 39 = .ok (.aload_n 0, 1) := by decide +kernel
theorem dX5_readNumber_40 : decode cX5_readNumber 40 = .ok (.getfield 42, 3) := by decide +kernel
theorem dX5_readNumber_43 : decode cX5_readNumber 43 = .ok (.bipush 10, 2) := by decide +kernel
theorem dX5_readNumber_45 : decode cX5_readNumber 45 = .ok (.imul, 1) := by decide +kernel
theorem dX5_readNumber_46 : decode cX5_readNumber 46 = .ok (.aload_n 0, 1) := by decide +kernel
theorem dX5_readNumber_47 : decode cX5_readNumber 47 = .ok (.getfield 12, 3) := by decide +kernel
theorem dX5_readNumber_50 : decode cX5_readNumber 50 = .ok (.aload_n 0, 1) := by decide +kernel
theorem dX5_readNumber_51 : decode cX5_readNumber 51 = .ok (.getfield 18, 3) := by decide +kernel
theorem dX5_readNumber_54 : decode cX5_readNumber 54 = .ok (.invokevirtual 56, 3) := by decide +kernel
theorem dX5_readNumber_57 : decode cX5_readNumber 57 = .ok (.iadd, 1) := by decide +kernel
theorem dX5_readNumber_58 : decode cX5_readNumber 58 = .ok (.bipush 48, 2) := by decide +kernel
theorem dX5_readNumber_60 : decode cX5_readNumber 60 = .ok (.isub, 1) := by decide +kernel
theorem dX5_readNumber_61 : decode cX5_readNumber 61 = .ok (.sipush 1000, 3) := by decide +kernel
theorem dX5_readNumber_64 : decode cX5_readNumber 64 = .ok (.invokestatic 84, 3) := by decide +kernel
theorem dX5_readNumber_67 : decode cX5_readNumber 67 = .ok (.putfield 42, 3) := by decide +kernel
theorem dX5_readNumber_70 : decode cX5_readNumber 70 = .ok (.aload_n 0, 1) := by decide +kernel
theorem dX5_readNumber_71 : decode cX5_readNumber 71 = .ok (.dup, 1) := by decide +kernel
theorem dX5_readNumber_72 : decode cX5_readNumber 72 = .ok (.getfield 18, 3) := by decide +kernel
theorem dX5_readNumber_75 : decode cX5_readNumber 75 = .ok (.iconst 1, 1) := by decide +kernel
theorem dX5_readNumber_76 : decode cX5_readNumber 76 = .ok (.iadd, 1) := by decide +kernel
theorem dX5_readNumber_77 : decode cX5_readNumber 77 = .ok (.putfield 18, 3) := by decide +kernel
theorem dX5_readNumber_80 : decode cX5_readNumber 80 = .ok (.goto (-70), 3) := by decide +kernel
theorem dX5_readNumber_83 : decode cX5_readNumber 83 = .ok (.return_, 1) := by decide +kernel
theorem dX5_readSign_0 : decode cX5_readSign 0 = .ok (.aload_n 0, 1) := by decide +kernel
theorem dX5_readSign_1 : decode cX5_readSign 1 = .ok (.aload_n 0, 1) := by decide +kernel
theorem dX5_readSign_2 : decode cX5_readSign 2 = .ok (.getfield 12, 3) := by decide +kernel
theorem dX5_readSign_5 : decode cX5_readSign 5 = .ok (.aload_n 0, 1) := by decide +kernel
theorem dX5_readSign_6 : decode cX5_readSign 6 = .ok (.getfield 34, 3) := by decide +kernel
theorem dX5_readSign_9 : decode cX5_readSign 9 = .ok (.invokevirtual 56, 3) := by decide +kernel
theorem dX5_readSign_12 : decode cX5_readSign 12 = .ok (.putfield 42, 3) := by decide +kernel
theorem dX5_readSign_15 : decode cX5_readSign 15 = .ok (.aload_n 0, 1) := by decide +kernel
theorem dX5_readSign_16 : decode cX5_readSign 16 = .ok (.aload_n 0, 1) := by decide +kernel
theorem dX5_readSign_17 : decode cX5_readSign 17 = .ok (.getfield 42, 3) := by decide +kernel
theorem dX5_readSign_20 : decode cX5_readSign 20 = .ok (.bipush 59, 2) := by decide +kernel
theorem dX5_readSign_22 : decode cX5_readSign 22 = .ok (.if_icmp .eq 12, 3) := by decide +kernel
theorem dX5_readSign_25 : decode cX5_readSign 25 = .ok (.aload_n 0, 1) := by decide +kernel
theorem dX5_readSign_26 : decode cX5_readSign 26 = .ok (.getfield 42, 3) := by decide +kernel
theorem dX5_readSign_29 : decode cX5_readSign 29 = .ok (.bipush 45, 2) := by decide +kernel
theorem dX5_readSign_31 : decode cX5_readSign 31 = .ok (.if_icmp .ne 7, 3) := by decide +kernel
theorem dX5_readSign_34 : decode cX5_readSign 34 = .ok (.iconst 2, 1) := by decide +kernel
theorem dX5_readSign_35 : decode cX5_readSign 35 = .ok (.goto 4, 3) := by decide +kernel
theorem dX5_readSign_38 : decode cX5_readSign 38 = .ok (.iconst 3, 1) := by decide +kernel
theorem dX5_readSign_39 : decode cX5_readSign 39 = .ok (.putfield 45, 3) := by decide +kernel
theorem dX5_readSign_42 : decode cX5_readSign 42 = .ok (.aload_n 0, 1) := by decide +kernel
theorem dX5_readSign_43 : decode cX5_readSign 43 = .ok (.getfield 45, 3) := by decide +kernel
theorem dX5_readSign_46 : decode cX5_readSign 46 = .ok (.iconst 2, 1) := by decide +kernel
theorem dX5_readSign_47 : decode cX5_readSign 47 = .ok (.if_icmp .ne 13, 3) := by decide +kernel
theorem dX5_readSign_50 : decode cX5_readSign 50 = .ok (.aload_n 0, 1) := by decide +kernel
theorem dX5_readSign_51 : decode cX5_readSign 51 = .ok (.dup, 1) := by decide +kernel
theorem dX5_readSign_52 : decode cX5_readSign 52 = .ok (.getfield 18, 3) := by decide +kernel
theorem dX5_readSign_55 : decode cX5_readSign 55 = .ok (.iconst 1, 1) := by decide +kernel
theorem dX5_readSign_56 : decode cX5_readSign 56 = .ok (.iadd, 1) := by decide +kernel
theorem dX5_readSign_57 : decode cX5_readSign 57 = .ok (.putfield 18, 3) := by decide +kernel
theorem dX5_readSign_60 : decode cX5_readSign 60 = .ok (.return_, 1) := by decide +kernel
theorem dX6_init_0 : decode cX6_init 0 = .ok (.aload_n 0, 1) := by decide +kernel
theorem dX6_init_1 : decode cX6_init 1 = .ok (.invokespecial 3, 3) := by decide +kernel
theorem dX6_init_4 : decode cX6_init 4 = .ok (.aload_n 0, 1) := by decide +kernel
theorem dX6_init_5 : decode cX6_init 5 = .ok (.iconst 4, 1) := by decide +kernel
theorem dX6_init_6 : decode cX6_init 6 = .ok (.newarray .int, 2) := by decide +kernel
theorem dX6_init_8 : decode cX6_init 8 = .ok (.dup, 1) := by decide +kernel
theorem dX6_init_9 : decode cX6_init 9 = .ok (.iconst 0, 1) := by decide +kernel
theorem dX6_init_10 : decode cX6_init 10 = .ok (.bipush 10, 2) := by decide +kernel
theorem dX6_init_12 : decode cX6_init 12 = .ok (.iastore, 1) := by decide +kernel
theorem dX6_init_13 : decode cX6_init 13 = .ok (.dup, 1) := by decide +kernel
theorem dX6_init_14 : decode cX6_init 14 = .ok (.iconst 1, 1) := by decide +kernel
theorem dX6_init_15 : decode cX6_init 15 = .ok (.iconst 5, 1) := by decide +kernel
theorem dX6_init_16 : decode cX6_init 16 = .ok (.iastore, 1) := by decide +kernel
theorem dX6_init_17 : decode cX6_init 17 = .ok (.dup, 1) := by decide +kernel
theorem dX6_init_18 : decode cX6_init 18 = .ok (.iconst 2, 1) := by decide +kernel
theorem dX6_init_19 : decode cX6_init 19 = .ok (.bipush 10, 2) := by decide +kernel
theorem dX6_init_21 : decode cX6_init 21 = .ok (.iastore, 1) := by decide +kernel
theorem dX6_init_22 : decode cX6_init 22 = .ok (.dup, 1) := by decide +kernel
theorem dX6_init_23 : decode cX6_init 23 = .ok (.iconst 3, 1) := by decide +kernel
theorem dX6_init_24 : decode cX6_init 24 = .ok (.bipush 10, 2) := by decide +kernel
theorem dX6_init_26 : decode cX6_init 26 = .ok (.iastore, 1) := by decide +kernel
theorem dX6_init_27 : decode cX6_init 27 = .ok (.putfield 9, 3) := by decide +kernel
theorem dX6_init_30 : decode cX6_init 30 = .ok (.aload_n 0, 1) := by decide +kernel
theorem dX6_init_31 : decode cX6_init 31 = .ok (.bipush 12, 2) := by decide +kernel
theorem dX6_init_33 : decode cX6_init 33 = .ok (.newarray .int, 2) := by decide +kernel
theorem dX6_init_35 : decode cX6_init 35 = .ok (.putfield 15, 3) := by decide +kernel
theorem dX6_init_38 : decode cX6_init 38 = .ok (.aload_n 0, 1) := by decide +kernel
theorem dX6_init_39 : decode cX6_init 39 = .ok (.bipush 12, 2) := by decide +kernel
theorem dX6_init_41 : decode cX6_init 41 = .ok (.newarray .int, 2) := by decide +kernel
theorem dX6_init_43 : decode cX6_init 43 = .ok (.putfield 18, 3) := by decide +kernel
theorem dX6_init_46 : decode cX6_init 46 = .ok (.aload_n 0, 1) := by decide +kernel
theorem dX6_init_47 : decode cX6_init 47 = .ok (.bipush 40, 2) := by decide +kernel
theorem dX6_init_49 : decode cX6_init 49 = .ok (.newarray .int, 2) := by decide +kernel
theorem dX6_init_51 : decode cX6_init 51 = .ok (.putfield 21, 3) := by decide +kernel
theorem dX6_init_54 : decode cX6_init 54 = .ok (.aload_n 0, 1) := by decide +kernel
theorem dX6_init_55 : decode cX6_init 55 = .ok (.bipush 40, 2) := by decide +kernel
theorem dX6_init_57 : decode cX6_init 57 = .ok (.newarray .int, 2) := by decide +kernel
theorem dX6_init_59 : decode cX6_init 59 = .ok (.putfield 24, 3) := by decide +kernel
theorem dX6_init_62 : decode cX6_init 62 = .ok (.return_, 1) := by decide +kernel
theorem dX6_become_0 : decode cX6_become 0 = .ok (.aload_n 1, 1) := by decide +kernel
theorem dX6_become_1 : decode cX6_become 1 = .ok (.getfield 9, 3) := by decide +kernel
theorem dX6_become_4 : decode cX6_become 4 = .ok (.iconst 0, 1) := by decide +kernel
theorem dX6_become_5 : decode cX6_become 5 = .ok (.aload_n 0, 1) := by decide +kernel
theorem dX6_become_6 : decode cX6_become 6 = .ok (.getfield 9, 3) := by decide +kernel
theorem dX6_become_9 : decode cX6_become 9 = .ok (.iconst 0, 1) := by decide +kernel
theorem dX6_become_10 : decode cX6_become 10 = .ok (.iconst 4, 1) := by decide +kernel
theorem dX6_become_11 : decode cX6_become 11 = .ok (.invokestatic 27, 3) := by decide +kernel
theorem dX6_become_14 : decode cX6_become 14 = .ok (.aload_n 1, 1) := by decide +kernel
theorem dX6_become_15 : decode cX6_become 15 = .ok (.getfield 15, 3) := by decide +kernel
theorem dX6_become_18 : decode cX6_become 18 = .ok (.iconst 0, 1) := by decide +kernel
theorem dX6_become_19 : decode cX6_become 19 = .ok (.aload_n 0, 1) := by decide +kernel
theorem dX6_become_20 : decode cX6_become 20 = .ok (.getfield 15, 3) := by decide +kernel
theorem dX6_become_23 : decode cX6_become 23 = .ok (.iconst 0, 1) := by decide +kernel
theorem dX6_become_24 : decode cX6_become 24 = .ok (.bipush 12, 2) := by decide +kernel
theorem dX6_become_26 : decode cX6_become 26 = .ok (.invokestatic 27, 3) := by decide +kernel
theorem dX6_become_29 : decode cX6_become 29 = .ok (.aload_n 1, 1) := by decide +kernel
theorem dX6_become_30 : decode cX6_become 30 = .ok (.getfield 18, 3) := by decide +kernel
theorem dX6_become_33 : decode cX6_become 33 = .ok (.iconst 0, 1) := by decide +kernel
theorem dX6_become_34 : decode cX6_become 34 = .ok (.aload_n 0, 1) := by decide +kernel
theorem dX6_become_35 : decode cX6_become 35 = .ok (.getfield 18, 3) := by decide +kernel
theorem dX6_become_38 : decode cX6_become 38 = .ok (.iconst 0, 1) := by decide +kernel
theorem dX6_become_39 : decode cX6_become 39 = .ok (.bipush 12, 2) := by decide +kernel
theorem dX6_become_41 : decode cX6_become 41 = .ok (.invokestatic 27, 3) := by decide +kernel
theorem dX6_become_44 : decode cX6_become 44 = .ok (.aload_n 1, 1) := by decide +kernel
theorem dX6_become_45 : decode cX6_become 45 = .ok (.getfield 21, 3) := by decide +kernel
theorem dX6_become_48 : decode cX6_become 48 = .ok (.iconst 0, 1) := by decide +kernel
theorem dX6_become_49 : decode cX6_become 49 = .ok (.aload_n 0, 1) := by decide +kernel
theorem dX6_become_50 : decode cX6_become 50 = .ok (.getfield 21, 3) := by decide +kernel
theorem dX6_become_53 : decode cX6_become 53 = .ok (.iconst 0, 1) := by decide +kernel
theorem dX6_become_54 : decode cX6_become 54 = .ok (.bipush 40, 2) := by decide +kernel
theorem dX6_become_56 : decode cX6_become 56 = .ok (.invokestatic 27, 3) := by decide +kernel
theorem dX6_become_59 : decode cX6_become 59 = .ok (.aload_n 1, 1) := by decide +kernel
theorem dX6_become_60 : decode cX6_become 60 = .ok (.getfield 24, 3) := by decide +kernel
theorem dX6_become_63 : decode cX6_become 63 = .ok (.iconst 0, 1) := by decide +kernel
theorem dX6_become_64 : decode cX6_become 64 = .ok (.aload_n 0, 1) := by decide +kernel
theorem dX6_become_65 : decode cX6_become 65 = .ok (.getfield 24, 3) := by decide +kernel
theorem dX6_become_68 : decode cX6_become 68 = .ok (.iconst 0, 1) := by decide +kernel
theorem dX6_become_69 : decode cX6_become 69 = .ok (.bipush 40, 2) := by decide +kernel
theorem dX6_become_71 : decode cX6_become 71 = .ok (.invokestatic 27, 3) := by decide +kernel
theorem dX6_become_74 : decode cX6_become 74 = .ok (.aload_n 0, 1) := by decide +kernel
theorem dX6_become_75 : decode cX6_become 75 = .ok (.aload_n 1, 1) := by decide +kernel
theorem dX6_become_76 : decode cX6_become 76 = .ok (.getfield 33, 3) := by decide +kernel
theorem dX6_become_79 : decode cX6_become 79 = .ok (.putfield 33, 3) := by decide +kernel
theorem dX6_become_82 : decode cX6_become 82 = .ok (.aload_n 0, 1) := by decide +kernel
theorem dX6_become_83 : decode cX6_become 83 = .ok (.aload_n 1, 1) := by decide +kernel
theorem dX6_become_84 : decode cX6_become 84 = .ok (.getfield 37, 3) := by decide +kernel
theorem dX6_become_87 : decode cX6_become 87 = .ok (.putfield 37, 3) := by decide +kernel
theorem dX6_become_90 : decode cX6_become 90 = .ok (.aload_n 0, 1) := by decide +kernel
theorem dX6_become_91 : decode cX6_become 91 = .ok (.aload_n 1, 1) := by decide +kernel
theorem dX6_become_92 : decode cX6_become 92 = .ok (.getfield 40, 3) := by decide +kernel
theorem dX6_become_95 : decode cX6_become 95 = .ok (.putfield 40, 3) := by decide +kernel
theorem dX6_become_98 : decode cX6_become 98 = .ok (.aload_n 0, 1) := by decide +kernel
theorem dX6_become_99 : decode cX6_become 99 = .ok (.aload_n 1, 1) := by decide +kernel
theorem dX6_become_100 : decode cX6_become 100 = .ok (.getfield 43, 3) := by decide +kernel
theorem dX6_become_103 : decode cX6_become 103 = .ok (.putfield 43, 3) := by decide +kernel
theorem dX6_become_106 : decode cX6_become 106 = .ok (.aload_n 0, 1) := by decide +kernel
theorem dX6_become_107 : decode cX6_become 107 = .ok (.aload_n 1, 1) := by decide +kernel
theorem dX6_become_108 : decode cX6_become 108 = .ok (.getfield 46, 3) := by decide +kernel
theorem dX6_become_111 : decode cX6_become 111 = .ok (.putfield 46, 3) := by decide +kernel
theorem dX6_become_114 : decode cX6_become 114 = .ok (.aload_n 0, 1) := by decide +kernel
theorem dX6_become_115 : decode cX6_become 115 = .ok (.aload_n 1, 1) := by decide +kernel
theorem dX6_become_116 : decode cX6_become 116 = .ok (.getfield 49, 3) := by decide +kernel
theorem dX6_become_119 : decode cX6_become 119 = .ok (.putfield 49, 3) := by decide +kernel
theorem dX6_become_122 : decode cX6_become 122 = .ok (.aload_n 0, 1) := by decide +kernel
theorem dX6_become_123 : decode cX6_become 123 = .ok (.aload_n 1, 1) := by decide +kernel
theorem dX6_become_124 : decode cX6_become 124 = .ok (.getfield 52, 3) := by decide +kernel
theorem dX6_become_127 : decode cX6_become 127 = .ok (.putfield 52, 3) := by decide +kernel
theorem dX6_become_130 : decode cX6_become 130 = .ok (.aload_n 0, 1) := by decide +kernel
theorem dX6_become_131 : decode cX6_become 131 = .ok (.aload_n 1, 1) := by decide +kernel
theorem dX6_become_132 : decode cX6_become 132 = .ok (.getfield 55, 3) := by decide +kernel
theorem dX6_become_135 : decode cX6_become 135 = .ok (.putfield 55, 3) := by decide +kernel
theorem dX6_become_138 : decode cX6_become 138 = .ok (.return_, 1) := by decide +kernel
theorem dX6_logged_0 : decode cX6_logged 0 = .ok (.aload_n 0, 1) := by decide +kernel
theorem dX6_logged_1 : decode cX6_logged 1 = .ok (.getfield 52, 3) := by decide +kernel
theorem dX6_logged_4 : decode cX6_logged 4 = .ok (.bipush 40, 2) := by decide +kernel
theorem dX6_logged_6 : decode cX6_logged 6 = .ok (.invokestatic 58, 3) := by decide +kernel
theorem dX6_logged_9 : decode cX6_logged 9 = .ok (.ireturn, 1) := by decide +kernel
theorem dX6_placeOf_0 : decode cX6_placeOf 0 = .ok (.iload_n 1, 1) := by decide +kernel
theorem dX6_placeOf_1 : decode cX6_placeOf 1 = .ok (.aload_n 0, 1) := by decide +kernel
theorem dX6_placeOf_2 : decode cX6_placeOf 2 = .ok (.getfield 37, 3) := by decide +kernel
theorem dX6_placeOf_5 : decode cX6_placeOf 5 = .ok (.bipush 100, 2) := by decide +kernel
theorem dX6_placeOf_7 : decode cX6_placeOf 7 = .ok (.idiv, 1) := by decide +kernel
theorem dX6_placeOf_8 : decode cX6_placeOf 8 = .ok (.iadd, 1) := by decide +kernel
theorem dX6_placeOf_9 : decode cX6_placeOf 9 = .ok (.bipush 12, 2) := by decide +kernel
theorem dX6_placeOf_11 : decode cX6_placeOf 11 = .ok (.irem, 1) := by decide +kernel
theorem dX6_placeOf_12 : decode cX6_placeOf 12 = .ok (.ireturn, 1) := by decide +kernel
theorem dX6_topCup_0 : decode cX6_topCup 0 = .ok (.bipush 12, 2) := by decide +kernel
theorem dX6_topCup_2 : decode cX6_topCup 2 = .ok (.aload_n 0, 1) := by decide +kernel
theorem dX6_topCup_3 : decode cX6_topCup 3 = .ok (.getfield 37, 3) := by decide +kernel
theorem dX6_topCup_6 : decode cX6_topCup 6 = .ok (.bipush 100, 2) := by decide +kernel
theorem dX6_topCup_8 : decode cX6_topCup 8 = .ok (.idiv, 1) := by decide +kernel
theorem dX6_topCup_9 : decode cX6_topCup 9 = .ok (.isub, 1) := by decide +kernel
theorem dX6_topCup_10 : decode cX6_topCup 10 = .ok (.bipush 12, 2) := by decide +kernel
theorem dX6_topCup_12 : decode cX6_topCup 12 = .ok (.irem, 1) := by decide +kernel
theorem dX6_topCup_13 : decode cX6_topCup 13 = .ok (.ireturn, 1) := by decide +kernel
theorem dX6_roomOf_0 : decode cX6_roomOf 0 = .ok (.getstatic 64, 3) := by decide +kernel
theorem dX6_roomOf_3 : decode cX6_roomOf 3 = .ok (.aload_n 0, 1) := by decide +kernel
theorem dX6_roomOf_4 : decode cX6_roomOf 4 = .ok (.getfield 15, 3) := by decide +kernel
theorem dX6_roomOf_7 : decode cX6_roomOf 7 = .ok (.iload_n 1, 1) := by decide +kernel
theorem dX6_roomOf_8 : decode cX6_roomOf 8 = .ok (.iaload, 1) := by decide +kernel
theorem dX6_roomOf_9 : decode cX6_roomOf 9 = .ok (.iaload, 1) := by decide +kernel
theorem dX6_roomOf_10 : decode cX6_roomOf 10 = .ok (.ireturn, 1) := by decide +kernel
theorem dX6_isOf_0 : decode cX6_isOf 0 = .ok (.aload_n 0, 1) := by decide +kernel
theorem dX6_isOf_1 : decode cX6_isOf 1 = .ok (.getfield 15, 3) := by decide +kernel
theorem dX6_isOf_4 : decode cX6_isOf 4 = .ok (.iload_n 1, 1) := by decide +kernel
theorem dX6_isOf_5 : decode cX6_isOf 5 = .ok (.iaload, 1) := by decide +kernel
theorem dX6_isOf_6 : decode cX6_isOf 6 = .ok (.istore_n 3, 1) := by decide +kernel
theorem dX6_isOf_7 : decode cX6_isOf 7 = .ok (.iconst 0, 1) := by decide +kernel
theorem dX6_isOf_8 : decode cX6_isOf 8 = .ok (.istore 4, 2) := by decide +kernel
theorem dX6_isOf_10 : decode cX6_isOf 10 = .ok (.iload 4, 2) := by decide +kernel
theorem dX6_isOf_12 : decode cX6_isOf 12 = .ok (.bipush 7, 2) := by decide +kernel
theorem dX6_isOf_14 : decode cX6_isOf 14 = .ok (.if_icmp .ge 32, 3) := by decide +kernel
theorem dX6_isOf_17 : decode cX6_isOf 17 = .ok (.iload_n 3, 1) := by decide +kernel
theorem dX6_isOf_18 : decode cX6_isOf 18 = .ok (.iconst 0, 1) := by decide +kernel
theorem dX6_isOf_19 : decode cX6_isOf 19 = .ok (.bipush 6, 2) := by decide +kernel
theorem dX6_isOf_21 : decode cX6_isOf 21 = .ok (.invokestatic 67, 3) := by decide +kernel
theorem dX6_isOf_24 : decode cX6_isOf 24 = .ok (.ifCond .eq 22, 3) := by decide +kernel
theorem dX6_isOf_27 : decode cX6_isOf 27 = .ok (.iload_n 3, 1) := by decide +kernel
theorem dX6_isOf_28 : decode cX6_isOf 28 = .ok (.iload_n 2, 1) := by decide +kernel
theorem dX6_isOf_29 : decode cX6_isOf 29 = .ok (.if_icmp .ne 5, 3) := by decide +kernel
theorem dX6_isOf_32 : decode cX6_isOf 32 = .ok (.iconst 1, 1) := by decide +kernel
theorem dX6_isOf_33 : decode cX6_isOf 33 = .ok (.ireturn, 1) := by decide +kernel
theorem dX6_isOf_34 : decode cX6_isOf 34 = .ok (.getstatic 71, 3) := by decide +kernel
theorem dX6_isOf_37 : decode cX6_isOf 37 = .ok (.iload_n 3, 1) := by decide +kernel
theorem dX6_isOf_38 : decode cX6_isOf 38 = .ok (.iaload, 1) := by decide +kernel
theorem dX6_isOf_39 : decode cX6_isOf 39 = .ok (.istore_n 3, 1) := by decide +kernel
theorem dX6_isOf_40 : decode cX6_isOf 40 = .ok (.iinc 4 1, 3) := by decide +kernel
theorem dX6_isOf_43 : decode cX6_isOf 43 = .ok (.goto (-33), 3) := by decide +kernel
theorem dX6_isOf_46 : decode cX6_isOf 46 = .ok (.iconst 0, 1) := by decide +kernel
theorem dX6_isOf_47 : decode cX6_isOf 47 = .ok (.ireturn, 1) := by decide +kernel
theorem dX6_leakOf_0 : decode cX6_leakOf 0 = .ok (.aload_n 0, 1) := by decide +kernel
theorem dX6_leakOf_1 : decode cX6_leakOf 1 = .ok (.getfield 18, 3) := by decide +kernel
theorem dX6_leakOf_4 : decode cX6_leakOf 4 = .ok (.iload_n 1, 1) := by decide +kernel
theorem dX6_leakOf_5 : decode cX6_leakOf 5 = .ok (.iaload, 1) := by decide +kernel
theorem dX6_leakOf_6 : decode cX6_leakOf 6 = .ok (.istore_n 2, 1) := by decide +kernel
theorem dX6_leakOf_7 : decode cX6_leakOf 7 = .ok (.iload_n 2, 1) := by decide +kernel
theorem dX6_leakOf_8 : decode cX6_leakOf 8 = .ok (.aload_n 0, 1) := by decide +kernel
theorem dX6_leakOf_9 : decode cX6_leakOf 9 = .ok (.getfield 9, 3) := by decide +kernel
theorem dX6_leakOf_12 : decode cX6_leakOf 12 = .ok (.iconst 1, 1) := by decide +kernel
theorem dX6_leakOf_13 : decode cX6_leakOf 13 = .ok (.iaload, 1) := by decide +kernel
theorem dX6_leakOf_14 : decode cX6_leakOf 14 = .ok (.imul, 1) := by decide +kernel
theorem dX6_leakOf_15 : decode cX6_leakOf 15 = .ok (.bipush 100, 2) := by decide +kernel
theorem dX6_leakOf_17 : decode cX6_leakOf 17 = .ok (.idiv, 1) := by decide +kernel
theorem dX6_leakOf_18 : decode cX6_leakOf 18 = .ok (.istore_n 3, 1) := by decide +kernel
theorem dX6_leakOf_19 : decode cX6_leakOf 19 = .ok (.iload_n 2, 1) := by decide +kernel
theorem dX6_leakOf_20 : decode cX6_leakOf 20 = .ok (.bipush 100, 2) := by decide +kernel
theorem dX6_leakOf_22 : decode cX6_leakOf 22 = .ok (.isub, 1) := by decide +kernel
theorem dX6_leakOf_23 : decode cX6_leakOf 23 = .ok (.iconst 0, 1) := by decide +kernel
theorem dX6_leakOf_24 : decode cX6_leakOf 24 = .ok (.invokestatic 74, 3) := by decide +kernel
theorem dX6_leakOf_27 : decode cX6_leakOf 27 = .ok (.aload_n 0, 1) := by decide +kernel
theorem dX6_leakOf_28 : decode cX6_leakOf 28 = .ok (.getfield 9, 3) := by decide +kernel
theorem dX6_leakOf_31 : decode cX6_leakOf 31 = .ok (.iconst 1, 1) := by decide +kernel
theorem dX6_leakOf_32 : decode cX6_leakOf 32 = .ok (.iaload, 1) := by decide +kernel
theorem dX6_leakOf_33 : decode cX6_leakOf 33 = .ok (.imul, 1) := by decide +kernel
theorem dX6_leakOf_34 : decode cX6_leakOf 34 = .ok (.bipush 100, 2) := by decide +kernel
theorem dX6_leakOf_36 : decode cX6_leakOf 36 = .ok (.idiv, 1) := by decide +kernel
theorem dX6_leakOf_37 : decode cX6_leakOf 37 = .ok (.istore 4, 2) := by decide +kernel
theorem dX6_leakOf_39 : decode cX6_leakOf 39 = .ok (.aload_n 0, 1) := by decide +kernel
theorem dX6_leakOf_40 : decode cX6_leakOf 40 = .ok (.getfield 15, 3) := by decide +kernel
theorem dX6_leakOf_43 : decode cX6_leakOf 43 = .ok (.iload_n 1, 1) := by decide +kernel
theorem dX6_leakOf_44 : decode cX6_leakOf 44 = .ok (.iaload, 1) := by decide +kernel
theorem dX6_leakOf_45 : decode cX6_leakOf 45 = .ok (.tableswitch 69 1 6 #[39, 41, 49, 41, 52, 41], 39) := by decide +kernel
theorem dX6_leakOf_84 : decode cX6_leakOf 84 = .ok (.iconst 0, 1) := by decide +kernel
theorem dX6_leakOf_85 : decode cX6_leakOf 85 = .ok (.ireturn, 1) := by decide +kernel
theorem dX6_leakOf_86 : decode cX6_leakOf 86 = .ok (.iconst 2, 1) := by decide +kernel
theorem dX6_leakOf_87 : decode cX6_leakOf 87 = .ok (.iload_n 3, 1) := by decide +kernel
theorem dX6_leakOf_88 : decode cX6_leakOf 88 = .ok (.imul, 1) := by decide +kernel
theorem dX6_leakOf_89 : decode cX6_leakOf 89 = .ok (.iload_n 2, 1) := by decide +kernel
theorem dX6_leakOf_90 : decode cX6_leakOf 90 = .ok (.invokestatic 58, 3) := by decide +kernel
theorem dX6_leakOf_93 : decode cX6_leakOf 93 = .ok (.ireturn, 1) := by decide +kernel
theorem dX6_leakOf_94 : decode cX6_leakOf 94 = .ok (.iload 4, 2) := by decide +kernel
theorem dX6_leakOf_96 : decode cX6_leakOf 96 = .ok (.ireturn, 1) := by decide +kernel
theorem dX6_leakOf_97 : decode cX6_leakOf 97 = .ok (.aload_n 0, 1) := by decide +kernel
theorem dX6_leakOf_98 : decode cX6_leakOf 98 = .ok (.iload_n 1, 1) := by decide +kernel
theorem dX6_leakOf_99 : decode cX6_leakOf 99 = .ok (.invokevirtual 77, 3) := by decide +kernel
theorem dX6_leakOf_102 : decode cX6_leakOf 102 = .ok (.bipush 6, 2) := by decide +kernel
theorem dX6_leakOf_104 : decode cX6_leakOf 104 = .ok (.if_icmp .ne 7, 3) := by decide +kernel
theorem dX6_leakOf_107 : decode cX6_leakOf 107 = .ok (.iload_n 2, 1) := by decide +kernel
theorem dX6_leakOf_108 : decode cX6_leakOf 108 = .ok (.goto 5, 3) := by decide +kernel
theorem dX6_leakOf_111 : decode cX6_leakOf 111 = .ok (.iload 4, 2) := by decide +kernel
theorem dX6_leakOf_113 : decode cX6_leakOf 113 = .ok (.ireturn, 1) := by decide +kernel
theorem dX6_leakOf_114 : decode cX6_leakOf 114 = .ok (.iload_n 3, 1) := by decide +kernel
theorem dX6_leakOf_115 : decode cX6_leakOf 115 = .ok (.ireturn, 1) := by decide +kernel
theorem dX6_waterOfAll_0 : decode cX6_waterOfAll 0 = .ok (.iconst 0, 1) := by decide +kernel
theorem dX6_waterOfAll_1 : decode cX6_waterOfAll 1 = .ok (.istore_n 1, 1) := by decide +kernel
theorem dX6_waterOfAll_2 : decode cX6_waterOfAll 2 = .ok (.iconst 0, 1) := by decide +kernel
theorem dX6_waterOfAll_3 : decode cX6_waterOfAll 3 = .ok (.istore_n 2, 1) := by decide +kernel
theorem dX6_waterOfAll_4 : decode cX6_waterOfAll 4 = .ok (.iload_n 2, 1) := by decide +kernel
theorem dX6_waterOfAll_5 : decode cX6_waterOfAll 5 = .ok (.bipush 12, 2) := by decide +kernel
theorem dX6_waterOfAll_7 : decode cX6_waterOfAll 7 = .ok (.if_icmp .ge 18, 3) := by decide +kernel
theorem dX6_waterOfAll_10 : decode cX6_waterOfAll 10 = .ok (.iload_n 1, 1) := by decide +kernel
theorem dX6_waterOfAll_11 : decode cX6_waterOfAll 11 = .ok (.aload_n 0, 1) := by decide +kernel
theorem dX6_waterOfAll_12 : decode cX6_waterOfAll 12 = .ok (.getfield 18, 3) := by decide +kernel
theorem dX6_waterOfAll_15 : decode cX6_waterOfAll 15 = .ok (.iload_n 2, 1) := by decide +kernel
theorem dX6_waterOfAll_16 : decode cX6_waterOfAll 16 = .ok (.iaload, 1) := by decide +kernel
theorem dX6_waterOfAll_17 : decode cX6_waterOfAll 17 = .ok (.iadd, 1) := by decide +kernel
theorem dX6_waterOfAll_18 : decode cX6_waterOfAll 18 = .ok (.istore_n 1, 1) := by decide +kernel
theorem dX6_waterOfAll_19 : decode cX6_waterOfAll 19 = .ok (.iinc 2 1, 3) := by decide +kernel
theorem dX6_waterOfAll_22 : decode cX6_waterOfAll 22 = .ok (.goto (-18), 3) := by decide +kernel
theorem dX6_waterOfAll_25 : decode cX6_waterOfAll 25 = .ok (.iload_n 1, 1) := by decide +kernel
theorem dX6_waterOfAll_26 : decode cX6_waterOfAll 26 = .ok (.ireturn, 1) := by decide +kernel
theorem dX6_pull_0 : decode cX6_pull 0 = .ok (.iconst 0, 1) := by decide +kernel
theorem dX6_pull_1 : decode cX6_pull 1 = .ok (.istore_n 1, 1) := by decide +kernel
theorem dX6_pull_2 : decode cX6_pull 2 = .ok (.iconst 0, 1) := by decide +kernel
theorem dX6_pull_3 : decode cX6_pull 3 = .ok (.istore_n 2, 1) := by decide +kernel
theorem dX6_pull_4 : decode cX6_pull 4 = .ok (.iload_n 2, 1) := by decide +kernel
theorem dX6_pull_5 : decode cX6_pull 5 = .ok (.bipush 12, 2) := by decide +kernel
theorem dX6_pull_7 : decode cX6_pull 7 = .ok (.if_icmp .ge 28, 3) := by decide +kernel
theorem dX6_pull_10 : decode cX6_pull 10 = .ok (.iload_n 1, 1) := by decide +kernel
theorem dX6_pull_11 : decode cX6_pull 11 = .ok (.aload_n 0, 1) := by decide +kernel
theorem dX6_pull_12 : decode cX6_pull 12 = .ok (.getfield 18, 3) := by decide +kernel
theorem dX6_pull_15 : decode cX6_pull 15 = .ok (.iload_n 2, 1) := by decide +kernel
theorem dX6_pull_16 : decode cX6_pull 16 = .ok (.iaload, 1) := by decide +kernel
theorem dX6_pull_17 : decode cX6_pull 17 = .ok (.getstatic 81, 3) := by decide +kernel
theorem dX6_pull_20 : decode cX6_pull 20 = .ok (.aload_n 0, 1) := by decide +kernel
theorem dX6_pull_21 : decode cX6_pull 21 = .ok (.iload_n 2, 1) := by decide +kernel
theorem dX6_pull_22 : decode cX6_pull 22 = .ok (.invokevirtual 77, 3) := by decide +kernel
theorem dX6_pull_25 : decode cX6_pull 25 = .ok (.iaload, 1) := by decide +kernel
theorem dX6_pull_26 : decode cX6_pull 26 = .ok (.imul, 1) := by decide +kernel
theorem dX6_pull_27 : decode cX6_pull 27 = .ok (.iadd, 1) := by decide +kernel
theorem dX6_pull_28 : decode cX6_pull 28 = .ok (.istore_n 1, 1) := by decide +kernel
theorem dX6_pull_29 : decode cX6_pull 29 = .ok (.iinc 2 1, 3) := by decide +kernel
theorem dX6_pull_32 : decode cX6_pull 32 = .ok (.goto (-28), 3) := by decide +kernel
theorem dX6_pull_35 : decode cX6_pull 35 = .ok (.iload_n 1, 1) := by decide +kernel
theorem dX6_pull_36 : decode cX6_pull 36 = .ok (.ireturn, 1) := by decide +kernel
theorem dX6_nudge_0 : decode cX6_nudge 0 = .ok (.aload_n 0, 1) := by decide +kernel
theorem dX6_nudge_1 : decode cX6_nudge 1 = .ok (.aload_n 0, 1) := by decide +kernel
theorem dX6_nudge_2 : decode cX6_nudge 2 = .ok (.getfield 33, 3) := by decide +kernel
theorem dX6_nudge_5 : decode cX6_nudge 5 = .ok (.iload_n 1, 1) := by decide +kernel
theorem dX6_nudge_6 : decode cX6_nudge 6 = .ok (.iadd, 1) := by decide +kernel
theorem dX6_nudge_7 : decode cX6_nudge 7 = .ok (.invokestatic 84, 3) := by decide +kernel
theorem dX6_nudge_10 : decode cX6_nudge 10 = .ok (.putfield 33, 3) := by decide +kernel
theorem dX6_nudge_13 : decode cX6_nudge 13 = .ok (.aload_n 0, 1) := by decide +kernel
theorem dX6_nudge_14 : decode cX6_nudge 14 = .ok (.getfield 33, 3) := by decide +kernel
theorem dX6_nudge_17 : decode cX6_nudge 17 = .ok (.ifCond .eq 15, 3) := by decide +kernel
theorem dX6_nudge_20 : decode cX6_nudge 20 = .ok (.aload_n 0, 1) := by decide +kernel
theorem dX6_nudge_21 : decode cX6_nudge 21 = .ok (.aload_n 0, 1) := by decide +kernel
theorem dX6_nudge_22 : decode cX6_nudge 22 = .ok (.getfield 33, 3) := by decide +kernel
theorem dX6_nudge_25 : decode cX6_nudge 25 = .ok (.iconst 0, 1) := by decide +kernel
theorem dX6_nudge_26 : decode cX6_nudge 26 = .ok (.invokestatic 87, 3) := by decide +kernel
theorem dX6_nudge_29 : decode cX6_nudge 29 = .ok (.putfield 40, 3) := by decide +kernel
theorem dX6_nudge_32 : decode cX6_nudge 32 = .ok (.return_, 1) := by decide +kernel
theorem dX6_steps_0 : decode cX6_steps 0 = .ok (.iconst 0, 1) := by decide +kernel
theorem dX6_steps_1 : decode cX6_steps 1 = .ok (.istore_n 2, 1) := by decide +kernel
theorem dX6_steps_2 : decode cX6_steps 2 = .ok (.iload_n 2, 1) := by decide +kernel
theorem dX6_steps_3 : decode cX6_steps 3 = .ok (.iload_n 1, 1) := by decide +kernel
theorem dX6_steps_4 : decode cX6_steps 4 = .ok (.if_icmp .ge 13, 3) := by decide +kernel
theorem dX6_steps_7 : decode cX6_steps 7 = .ok (.aload_n 0, 1) := by decide +kernel
theorem dX6_steps_8 : decode cX6_steps 8 = .ok (.invokevirtual 92, 3) := by decide +kernel
theorem dX6_steps_11 : decode cX6_steps 11 = .ok (.iinc 2 1, 3) := by decide +kernel
theorem dX6_steps_14 : decode cX6_steps 14 = .ok (.goto (-12), 3) := by decide +kernel
theorem dX6_steps_17 : decode cX6_steps 17 = .ok (.return_, 1) := by decide +kernel
theorem dX6_step_0 : decode cX6_step 0 = .ok (.aload_n 0, 1) := by decide +kernel
theorem dX6_step_1 : decode cX6_step 1 = .ok (.invokevirtual 95, 3) := by decide +kernel
theorem dX6_step_4 : decode cX6_step 4 = .ok (.iconst 0, 1) := by decide +kernel
theorem dX6_step_5 : decode cX6_step 5 = .ok (.istore_n 1, 1) := by decide +kernel
theorem dX6_step_6 : decode cX6_step 6 = .ok (.iload_n 1, 1) := by decide +kernel
theorem dX6_step_7 : decode cX6_step 7 = .ok (.bipush 12, 2) := by decide +kernel
theorem dX6_step_9 : decode cX6_step 9 = .ok (.if_icmp .ge 14, 3) := by decide +kernel
theorem dX6_step_12 : decode cX6_step 12 = .ok (.aload_n 0, 1) := by decide +kernel
theorem dX6_step_13 : decode cX6_step 13 = .ok (.iload_n 1, 1) := by decide +kernel
theorem dX6_step_14 : decode cX6_step 14 = .ok (.invokevirtual 98, 3) := by decide +kernel
theorem dX6_step_17 : decode cX6_step 17 = .ok (.iinc 1 1, 3) := by decide +kernel
theorem dX6_step_20 : decode cX6_step 20 = .ok (.goto (-14), 3) := by decide +kernel
theorem dX6_step_23 : decode cX6_step 23 = .ok (.aload_n 0, 1) := by decide +kernel
theorem dX6_step_24 : decode cX6_step 24 = .ok (.invokevirtual 102, 3) := by decide +kernel
theorem dX6_step_27 : decode cX6_step 27 = .ok (.aload_n 0, 1) := by decide +kernel
theorem dX6_step_28 : decode cX6_step 28 = .ok (.dup, 1) := by decide +kernel
theorem dX6_step_29 : decode cX6_step 29 = .ok (.getfield 49, 3) := by decide +kernel
theorem dX6_step_32 : decode cX6_step 32 = .ok (.iconst 1, 1) := by decide +kernel
theorem dX6_step_33 : decode cX6_step 33 = .ok (.iadd, 1) := by decide +kernel
theorem dX6_step_34 : decode cX6_step 34 = .ok (.putfield 49, 3) := by decide +kernel
theorem dX6_step_37 : decode cX6_step 37 = .ok (.aload_n 0, 1) := by decide +kernel
theorem dX6_step_38 : decode cX6_step 38 = .ok (.invokevirtual 105, 3) := by decide +kernel
theorem dX6_step_41 : decode cX6_step 41 = .ok (.return_, 1) := by decide +kernel
theorem dX6_goes_0 : decode cX6_goes 0 = .ok (.iload_n 1, 1) := by decide +kernel
theorem dX6_goes_1 : decode cX6_goes 1 = .ok (.iconst 2, 1) := by decide +kernel
theorem dX6_goes_2 : decode cX6_goes 2 = .ok (.idiv, 1) := by decide +kernel
theorem dX6_goes_3 : decode cX6_goes 3 = .ok (.istore_n 2, 1) := by decide +kernel
theorem dX6_goes_4 : decode cX6_goes 4 = .ok (.aload_n 0, 1) := by decide +kernel
theorem dX6_goes_5 : decode cX6_goes 5 = .ok (.getfield 52, 3) := by decide +kernel
theorem dX6_goes_8 : decode cX6_goes 8 = .ok (.istore_n 3, 1) := by decide +kernel
theorem dX6_goes_9 : decode cX6_goes 9 = .ok (.aload_n 0, 1) := by decide +kernel
theorem dX6_goes_10 : decode cX6_goes 10 = .ok (.iload_n 2, 1) := by decide +kernel
theorem dX6_goes_11 : decode cX6_goes 11 = .ok (.invokevirtual 108, 3) := by decide +kernel
theorem dX6_goes_14 : decode cX6_goes 14 = .ok (.aload_n 0, 1) := by decide +kernel
theorem dX6_goes_15 : decode cX6_goes 15 = .ok (.getfield 52, 3) := by decide +kernel
theorem dX6_goes_18 : decode cX6_goes 18 = .ok (.istore 4, 2) := by decide +kernel
theorem dX6_goes_20 : decode cX6_goes 20 = .ok (.iconst 1, 1) := by decide +kernel
theorem dX6_goes_21 : decode cX6_goes 21 = .ok (.istore 5, 2) := by decide +kernel
theorem dX6_goes_23 : decode cX6_goes 23 = .ok (.iload_n 2, 1) := by decide +kernel
theorem dX6_goes_24 : decode cX6_goes 24 = .ok (.istore 6, 2) := by decide +kernel
theorem dX6_goes_26 : decode cX6_goes 26 = .ok (.iload 6, 2) := by decide +kernel
theorem dX6_goes_28 : decode cX6_goes 28 = .ok (.iload_n 1, 1) := by decide +kernel
theorem dX6_goes_29 : decode cX6_goes 29 = .ok (.if_icmp .ge 32, 3) := by decide +kernel
theorem dX6_goes_32 : decode cX6_goes 32 = .ok (.aload_n 0, 1) := by decide +kernel
theorem dX6_goes_33 : decode cX6_goes 33 = .ok (.invokevirtual 92, 3) := by decide +kernel
theorem dX6_goes_36 : decode cX6_goes 36 = .ok (.iload 5, 2) := by decide +kernel
theorem dX6_goes_38 : decode cX6_goes 38 = .ok (.ifCond .eq 14, 3) := by decide +kernel
theorem dX6_goes_41 : decode cX6_goes 41 = .ok (.aload_n 0, 1) := by decide +kernel
theorem dX6_goes_42 : decode cX6_goes 42 = .ok (.getfield 33, 3) := by decide +kernel
theorem dX6_goes_45 : decode cX6_goes 45 = .ok (.ifCond .ne 7, 3) := by decide +kernel
theorem dX6_goes_48 : decode cX6_goes 48 = .ok (.iconst 1, 1) := by decide +kernel
theorem dX6_goes_49 : decode cX6_goes 49 = .ok (.goto 4, 3) := by decide +kernel
theorem dX6_goes_52 : decode cX6_goes 52 = .ok (.iconst 0, 1) := by decide +kernel
theorem dX6_goes_53 : decode cX6_goes 53 = .ok (.istore 5, 2) := by decide +kernel
theorem dX6_goes_55 : decode cX6_goes 55 = .ok (.iinc 6 1, 3) := by decide +kernel
theorem dX6_goes_58 : decode cX6_goes 58 = .ok (.goto (-32), 3) := by decide +kernel
theorem dX6_goes_61 : decode cX6_goes 61 = .ok (.iload 5, 2) := by decide +kernel
theorem dX6_goes_63 : decode cX6_goes 63 = .ok (.ifCond .eq 5, 3) := by decide +kernel
theorem dX6_goes_66 : decode cX6_goes 66 = .ok (.iconst 0, 1) := by decide +kernel
theorem dX6_goes_67 : decode cX6_goes 67 = .ok (.ireturn, 1) := by decide +kernel
theorem dX6_goes_68 : decode cX6_goes 68 = .ok (.aload_n 0, 1) := by decide +kernel
theorem dX6_goes_69 : decode cX6_goes 69 = .ok (.getfield 52, 3) := by decide +kernel
theorem dX6_goes_72 : decode cX6_goes 72 = .ok (.iload_n 3, 1) := by decide +kernel
theorem dX6_goes_73 : decode cX6_goes 73 = .ok (.if_icmp .ne 5, 3) := by decide +kernel
theorem dX6_goes_76 : decode cX6_goes 76 = .ok (.iconst 1, 1) := by decide +kernel
theorem dX6_goes_77 : decode cX6_goes 77 = .ok (.ireturn, 1) := by decide +kernel
theorem dX6_goes_78 : decode cX6_goes 78 = .ok (.aload_n 0, 1) := by decide +kernel
theorem dX6_goes_79 : decode cX6_goes 79 = .ok (.getfield 52, 3) := by decide +kernel
theorem dX6_goes_82 : decode cX6_goes 82 = .ok (.iload 4, 2) := by decide +kernel
theorem dX6_goes_84 : decode cX6_goes 84 = .ok (.if_icmp .ne 7, 3) := by decide +kernel
theorem dX6_goes_87 : decode cX6_goes 87 = .ok (.iconst 2, 1) := by decide +kernel
theorem dX6_goes_88 : decode cX6_goes 88 = .ok (.goto 4, 3) := by decide +kernel
theorem dX6_goes_91 : decode cX6_goes 91 = .ok (.iconst 3, 1) := by decide +kernel
theorem dX6_goes_92 : decode cX6_goes 92 = .ok (.ireturn, 1) := by decide +kernel
theorem dX6_pour_0 : decode cX6_pour 0 = .ok (.aload_n 0, 1) := by decide +kernel
theorem dX6_pour_1 : decode cX6_pour 1 = .ok (.invokevirtual 111, 3) := by decide +kernel
theorem dX6_pour_4 : decode cX6_pour 4 = .ok (.istore_n 1, 1) := by decide +kernel
theorem dX6_pour_5 : decode cX6_pour 5 = .ok (.aload_n 0, 1) := by decide +kernel
theorem dX6_pour_6 : decode cX6_pour 6 = .ok (.iload_n 1, 1) := by decide +kernel
theorem dX6_pour_7 : decode cX6_pour 7 = .ok (.invokevirtual 115, 3) := by decide +kernel
theorem dX6_pour_10 : decode cX6_pour 10 = .ok (.aload_n 0, 1) := by decide +kernel
theorem dX6_pour_11 : decode cX6_pour 11 = .ok (.getfield 18, 3) := by decide +kernel
theorem dX6_pour_14 : decode cX6_pour 14 = .ok (.iload_n 1, 1) := by decide +kernel
theorem dX6_pour_15 : decode cX6_pour 15 = .ok (.iaload, 1) := by decide +kernel
theorem dX6_pour_16 : decode cX6_pour 16 = .ok (.isub, 1) := by decide +kernel
theorem dX6_pour_17 : decode cX6_pour 17 = .ok (.iconst 0, 1) := by decide +kernel
theorem dX6_pour_18 : decode cX6_pour 18 = .ok (.invokestatic 74, 3) := by decide +kernel
theorem dX6_pour_21 : decode cX6_pour 21 = .ok (.istore_n 2, 1) := by decide +kernel
theorem dX6_pour_22 : decode cX6_pour 22 = .ok (.aload_n 0, 1) := by decide +kernel
theorem dX6_pour_23 : decode cX6_pour 23 = .ok (.getfield 9, 3) := by decide +kernel
theorem dX6_pour_26 : decode cX6_pour 26 = .ok (.iconst 0, 1) := by decide +kernel
theorem dX6_pour_27 : decode cX6_pour 27 = .ok (.iaload, 1) := by decide +kernel
theorem dX6_pour_28 : decode cX6_pour 28 = .ok (.iload_n 2, 1) := by decide +kernel
theorem dX6_pour_29 : decode cX6_pour 29 = .ok (.invokestatic 58, 3) := by decide +kernel
theorem dX6_pour_32 : decode cX6_pour 32 = .ok (.istore_n 3, 1) := by decide +kernel
theorem dX6_pour_33 : decode cX6_pour 33 = .ok (.aload_n 0, 1) := by decide +kernel
theorem dX6_pour_34 : decode cX6_pour 34 = .ok (.getfield 18, 3) := by decide +kernel
theorem dX6_pour_37 : decode cX6_pour 37 = .ok (.iload_n 1, 1) := by decide +kernel
theorem dX6_pour_38 : decode cX6_pour 38 = .ok (.dup2, 1) := by decide +kernel
theorem dX6_pour_39 : decode cX6_pour 39 = .ok (.iaload, 1) := by decide +kernel
theorem dX6_pour_40 : decode cX6_pour 40 = .ok (.iload_n 3, 1) := by decide +kernel
theorem dX6_pour_41 : decode cX6_pour 41 = .ok (.iadd, 1) := by decide +kernel
theorem dX6_pour_42 : decode cX6_pour 42 = .ok (.iastore, 1) := by decide +kernel
theorem dX6_pour_43 : decode cX6_pour 43 = .ok (.aload_n 0, 1) := by decide +kernel
theorem dX6_pour_44 : decode cX6_pour 44 = .ok (.dup, 1) := by decide +kernel
theorem dX6_pour_45 : decode cX6_pour 45 = .ok (.getfield 43, 3) := by decide +kernel
theorem dX6_pour_48 : decode cX6_pour 48 = .ok (.aload_n 0, 1) := by decide +kernel
theorem dX6_pour_49 : decode cX6_pour 49 = .ok (.getfield 9, 3) := by decide +kernel
theorem dX6_pour_52 : decode cX6_pour 52 = .ok (.iconst 0, 1) := by decide +kernel
theorem dX6_pour_53 : decode cX6_pour 53 = .ok (.iaload, 1) := by decide +kernel
theorem dX6_pour_54 : decode cX6_pour 54 = .ok (.iload_n 3, 1) := by decide +kernel
theorem dX6_pour_55 : decode cX6_pour 55 = .ok (.isub, 1) := by decide +kernel
theorem dX6_pour_56 : decode cX6_pour 56 = .ok (.iadd, 1) := by decide +kernel
theorem dX6_pour_57 : decode cX6_pour 57 = .ok (.putfield 43, 3) := by decide +kernel
theorem dX6_pour_60 : decode cX6_pour 60 = .ok (.return_, 1) := by decide +kernel
theorem dX6_drain_0 : decode cX6_drain 0 = .ok (.aload_n 0, 1) := by decide +kernel
theorem dX6_drain_1 : decode cX6_drain 1 = .ok (.iload_n 1, 1) := by decide +kernel
theorem dX6_drain_2 : decode cX6_drain 2 = .ok (.invokevirtual 118, 3) := by decide +kernel
theorem dX6_drain_5 : decode cX6_drain 5 = .ok (.istore_n 2, 1) := by decide +kernel
theorem dX6_drain_6 : decode cX6_drain 6 = .ok (.aload_n 0, 1) := by decide +kernel
theorem dX6_drain_7 : decode cX6_drain 7 = .ok (.getfield 18, 3) := by decide +kernel
theorem dX6_drain_10 : decode cX6_drain 10 = .ok (.iload_n 1, 1) := by decide +kernel
theorem dX6_drain_11 : decode cX6_drain 11 = .ok (.dup2, 1) := by decide +kernel
theorem dX6_drain_12 : decode cX6_drain 12 = .ok (.iaload, 1) := by decide +kernel
theorem dX6_drain_13 : decode cX6_drain 13 = .ok (.iload_n 2, 1) := by decide +kernel
theorem dX6_drain_14 : decode cX6_drain 14 = .ok (.isub, 1) := by decide +kernel
theorem dX6_drain_15 : decode cX6_drain 15 = .ok (.iastore, 1) := by decide +kernel
theorem dX6_drain_16 : decode cX6_drain 16 = .ok (.aload_n 0, 1) := by decide +kernel
theorem dX6_drain_17 : decode cX6_drain 17 = .ok (.dup, 1) := by decide +kernel
theorem dX6_drain_18 : decode cX6_drain 18 = .ok (.getfield 46, 3) := by decide +kernel
theorem dX6_drain_21 : decode cX6_drain 21 = .ok (.iload_n 2, 1) := by decide +kernel
theorem dX6_drain_22 : decode cX6_drain 22 = .ok (.iadd, 1) := by decide +kernel
theorem dX6_drain_23 : decode cX6_drain 23 = .ok (.putfield 46, 3) := by decide +kernel
theorem dX6_drain_26 : decode cX6_drain 26 = .ok (.aload_n 0, 1) := by decide +kernel
theorem dX6_drain_27 : decode cX6_drain 27 = .ok (.getfield 15, 3) := by decide +kernel
theorem dX6_drain_30 : decode cX6_drain 30 = .ok (.iload_n 1, 1) := by decide +kernel
theorem dX6_drain_31 : decode cX6_drain 31 = .ok (.iaload, 1) := by decide +kernel
theorem dX6_drain_32 : decode cX6_drain 32 = .ok (.bipush 6, 2) := by decide +kernel
theorem dX6_drain_34 : decode cX6_drain 34 = .ok (.if_icmp .ne 8, 3) := by decide +kernel
theorem dX6_drain_37 : decode cX6_drain 37 = .ok (.aload_n 0, 1) := by decide +kernel
theorem dX6_drain_38 : decode cX6_drain 38 = .ok (.iload_n 1, 1) := by decide +kernel
theorem dX6_drain_39 : decode cX6_drain 39 = .ok (.invokevirtual 121, 3) := by decide +kernel
theorem dX6_drain_42 : decode cX6_drain 42 = .ok (.return_, 1) := by decide +kernel
theorem dX6_passOn_0 : decode cX6_passOn 0 = .ok (.iload_n 1, 1) := by decide +kernel
theorem dX6_passOn_1 : decode cX6_passOn 1 = .ok (.iconst 1, 1) := by decide +kernel
theorem dX6_passOn_2 : decode cX6_passOn 2 = .ok (.iadd, 1) := by decide +kernel
theorem dX6_passOn_3 : decode cX6_passOn 3 = .ok (.bipush 12, 2) := by decide +kernel
theorem dX6_passOn_5 : decode cX6_passOn 5 = .ok (.irem, 1) := by decide +kernel
theorem dX6_passOn_6 : decode cX6_passOn 6 = .ok (.istore_n 2, 1) := by decide +kernel
theorem dX6_passOn_7 : decode cX6_passOn 7 = .ok (.aload_n 0, 1) := by decide +kernel
theorem dX6_passOn_8 : decode cX6_passOn 8 = .ok (.getfield 18, 3) := by decide +kernel
theorem dX6_passOn_11 : decode cX6_passOn 11 = .ok (.iload_n 1, 1) := by decide +kernel
theorem dX6_passOn_12 : decode cX6_passOn 12 = .ok (.iaload, 1) := by decide +kernel
theorem dX6_passOn_13 : decode cX6_passOn 13 = .ok (.aload_n 0, 1) := by decide +kernel
theorem dX6_passOn_14 : decode cX6_passOn 14 = .ok (.getfield 18, 3) := by decide +kernel
theorem dX6_passOn_17 : decode cX6_passOn 17 = .ok (.iload_n 2, 1) := by decide +kernel
theorem dX6_passOn_18 : decode cX6_passOn 18 = .ok (.iaload, 1) := by decide +kernel
theorem dX6_passOn_19 : decode cX6_passOn 19 = .ok (.if_icmp .le 37, 3) := by decide +kernel
theorem dX6_passOn_22 : decode cX6_passOn 22 = .ok (.aload_n 0, 1) := by decide +kernel
theorem dX6_passOn_23 : decode cX6_passOn 23 = .ok (.getfield 18, 3) := by decide +kernel
theorem dX6_passOn_26 : decode cX6_passOn 26 = .ok (.iload_n 2, 1) := by decide +kernel
theorem dX6_passOn_27 : decode cX6_passOn 27 = .ok (.iaload, 1) := by decide +kernel
theorem dX6_passOn_28 : decode cX6_passOn 28 = .ok (.aload_n 0, 1) := by decide +kernel
theorem dX6_passOn_29 : decode cX6_passOn 29 = .ok (.iload_n 2, 1) := by decide +kernel
theorem dX6_passOn_30 : decode cX6_passOn 30 = .ok (.invokevirtual 115, 3) := by decide +kernel
theorem dX6_passOn_33 : decode cX6_passOn 33 = .ok (.if_icmp .ge 23, 3) := by decide +kernel
theorem dX6_passOn_36 : decode cX6_passOn 36 = .ok (.aload_n 0, 1) := by decide +kernel
theorem dX6_passOn_37 : decode cX6_passOn 37 = .ok (.getfield 18, 3) := by decide +kernel
theorem dX6_passOn_40 : decode cX6_passOn 40 = .ok (.iload_n 1, 1) := by decide +kernel
theorem dX6_passOn_41 : decode cX6_passOn 41 = .ok (.dup2, 1) := by decide +kernel
theorem dX6_passOn_42 : decode cX6_passOn 42 = .ok (.iaload, 1) := by decide +kernel
theorem dX6_passOn_43 : decode cX6_passOn 43 = .ok (.iconst 1, 1) := by decide +kernel
theorem dX6_passOn_44 : decode cX6_passOn 44 = .ok (.isub, 1) := by decide +kernel
theorem dX6_passOn_45 : decode cX6_passOn 45 = .ok (.iastore, 1) := by decide +kernel
theorem dX6_passOn_46 : decode cX6_passOn 46 = .ok (.aload_n 0, 1) := by decide +kernel
theorem dX6_passOn_47 : decode cX6_passOn 47 = .ok (.getfield 18, 3) := by decide +kernel
theorem dX6_passOn_50 : decode cX6_passOn 50 = .ok (.iload_n 2, 1) := by decide +kernel
theorem dX6_passOn_51 : decode cX6_passOn 51 = .ok (.dup2, 1) := by decide +kernel
theorem dX6_passOn_52 : decode cX6_passOn 52 = .ok (.iaload, 1) := by decide +kernel
theorem dX6_passOn_53 : decode cX6_passOn 53 = .ok (.iconst 1, 1) := by decide +kernel
theorem dX6_passOn_54 : decode cX6_passOn 54 = .ok (.iadd, 1) := by decide +kernel
theorem dX6_passOn_55 : decode cX6_passOn 55 = .ok (.iastore, 1) := by decide +kernel
theorem dX6_passOn_56 : decode cX6_passOn 56 = .ok (.return_, 1) := by decide +kernel
theorem dX6_swing_0 : decode cX6_swing 0 = .ok (.bipush 100, 2) := by decide +kernel
theorem dX6_swing_2 : decode cX6_swing 2 = .ok (.aload_n 0, 1) := by decide +kernel
theorem dX6_swing_3 : decode cX6_swing 3 = .ok (.getfield 9, 3) := by decide +kernel
theorem dX6_swing_6 : decode cX6_swing 6 = .ok (.iconst 3, 1) := by decide +kernel
theorem dX6_swing_7 : decode cX6_swing 7 = .ok (.iaload, 1) := by decide +kernel
theorem dX6_swing_8 : decode cX6_swing 8 = .ok (.imul, 1) := by decide +kernel
theorem dX6_swing_9 : decode cX6_swing 9 = .ok (.istore_n 1, 1) := by decide +kernel
theorem dX6_swing_10 : decode cX6_swing 10 = .ok (.iload_n 1, 1) := by decide +kernel
theorem dX6_swing_11 : decode cX6_swing 11 = .ok (.ifCond .le 18, 3) := by decide +kernel
theorem dX6_swing_14 : decode cX6_swing 14 = .ok (.aload_n 0, 1) := by decide +kernel
theorem dX6_swing_15 : decode cX6_swing 15 = .ok (.dup, 1) := by decide +kernel
theorem dX6_swing_16 : decode cX6_swing 16 = .ok (.getfield 33, 3) := by decide +kernel
theorem dX6_swing_19 : decode cX6_swing 19 = .ok (.aload_n 0, 1) := by decide +kernel
theorem dX6_swing_20 : decode cX6_swing 20 = .ok (.invokevirtual 124, 3) := by decide +kernel
theorem dX6_swing_23 : decode cX6_swing 23 = .ok (.iload_n 1, 1) := by decide +kernel
theorem dX6_swing_24 : decode cX6_swing 24 = .ok (.idiv, 1) := by decide +kernel
theorem dX6_swing_25 : decode cX6_swing 25 = .ok (.iadd, 1) := by decide +kernel
theorem dX6_swing_26 : decode cX6_swing 26 = .ok (.putfield 33, 3) := by decide +kernel
theorem dX6_swing_29 : decode cX6_swing 29 = .ok (.aload_n 0, 1) := by decide +kernel
theorem dX6_swing_30 : decode cX6_swing 30 = .ok (.dup, 1) := by decide +kernel
theorem dX6_swing_31 : decode cX6_swing 31 = .ok (.getfield 33, 3) := by decide +kernel
theorem dX6_swing_34 : decode cX6_swing 34 = .ok (.aload_n 0, 1) := by decide +kernel
theorem dX6_swing_35 : decode cX6_swing 35 = .ok (.getfield 33, 3) := by decide +kernel
theorem dX6_swing_38 : decode cX6_swing 38 = .ok (.aload_n 0, 1) := by decide +kernel
theorem dX6_swing_39 : decode cX6_swing 39 = .ok (.getfield 9, 3) := by decide +kernel
theorem dX6_swing_42 : decode cX6_swing 42 = .ok (.iconst 2, 1) := by decide +kernel
theorem dX6_swing_43 : decode cX6_swing 43 = .ok (.iaload, 1) := by decide +kernel
theorem dX6_swing_44 : decode cX6_swing 44 = .ok (.imul, 1) := by decide +kernel
theorem dX6_swing_45 : decode cX6_swing 45 = .ok (.bipush 100, 2) := by decide +kernel
theorem dX6_swing_47 : decode cX6_swing 47 = .ok (.idiv, 1) := by decide +kernel
theorem dX6_swing_48 : decode cX6_swing 48 = .ok (.isub, 1) := by decide +kernel
theorem dX6_swing_49 : decode cX6_swing 49 = .ok (.putfield 33, 3) := by decide +kernel
theorem dX6_swing_52 : decode cX6_swing 52 = .ok (.aload_n 0, 1) := by decide +kernel
theorem dX6_swing_53 : decode cX6_swing 53 = .ok (.aload_n 0, 1) := by decide +kernel
theorem dX6_swing_54 : decode cX6_swing 54 = .ok (.getfield 33, 3) := by decide +kernel
theorem dX6_swing_57 : decode cX6_swing 57 = .ok (.invokestatic 84, 3) := by decide +kernel
theorem dX6_swing_60 : decode cX6_swing 60 = .ok (.putfield 33, 3) := by decide +kernel
theorem dX6_swing_63 : decode cX6_swing 63 = .ok (.aload_n 0, 1) := by decide +kernel
theorem dX6_swing_64 : decode cX6_swing 64 = .ok (.aload_n 0, 1) := by decide +kernel
theorem dX6_swing_65 : decode cX6_swing 65 = .ok (.getfield 37, 3) := by decide +kernel
theorem dX6_swing_68 : decode cX6_swing 68 = .ok (.aload_n 0, 1) := by decide +kernel
theorem dX6_swing_69 : decode cX6_swing 69 = .ok (.getfield 33, 3) := by decide +kernel
theorem dX6_swing_72 : decode cX6_swing 72 = .ok (.iadd, 1) := by decide +kernel
theorem dX6_swing_73 : decode cX6_swing 73 = .ok (.sipush 1200, 3) := by decide +kernel
theorem dX6_swing_76 : decode cX6_swing 76 = .ok (.invokestatic 127, 3) := by decide +kernel
theorem dX6_swing_79 : decode cX6_swing 79 = .ok (.putfield 37, 3) := by decide +kernel
theorem dX6_swing_82 : decode cX6_swing 82 = .ok (.return_, 1) := by decide +kernel
theorem dX6_watchWay_0 : decode cX6_watchWay 0 = .ok (.aload_n 0, 1) := by decide +kernel
theorem dX6_watchWay_1 : decode cX6_watchWay 1 = .ok (.getfield 33, 3) := by decide +kernel
theorem dX6_watchWay_4 : decode cX6_watchWay 4 = .ok (.iconst 0, 1) := by decide +kernel
theorem dX6_watchWay_5 : decode cX6_watchWay 5 = .ok (.invokestatic 87, 3) := by decide +kernel
theorem dX6_watchWay_8 : decode cX6_watchWay 8 = .ok (.istore_n 1, 1) := by decide +kernel
theorem dX6_watchWay_9 : decode cX6_watchWay 9 = .ok (.iload_n 1, 1) := by decide +kernel
theorem dX6_watchWay_10 : decode cX6_watchWay 10 = .ok (.aload_n 0, 1) := by decide +kernel
theorem dX6_watchWay_11 : decode cX6_watchWay 11 = .ok (.getfield 40, 3) := by decide +kernel
theorem dX6_watchWay_14 : decode cX6_watchWay 14 = .ok (.imul, 1) := by decide +kernel
theorem dX6_watchWay_15 : decode cX6_watchWay 15 = .ok (.ifCond .ge 12, 3) := by decide +kernel
theorem dX6_watchWay_18 : decode cX6_watchWay 18 = .ok (.aload_n 0, 1) := by decide +kernel
theorem dX6_watchWay_19 : decode cX6_watchWay 19 = .ok (.invokevirtual 130, 3) := by decide +kernel
theorem dX6_watchWay_22 : decode cX6_watchWay 22 = .ok (.aload_n 0, 1) := by decide +kernel
theorem dX6_watchWay_23 : decode cX6_watchWay 23 = .ok (.iconst 0, 1) := by decide +kernel
theorem dX6_watchWay_24 : decode cX6_watchWay 24 = .ok (.putfield 55, 3) := by decide +kernel
theorem dX6_watchWay_27 : decode cX6_watchWay 27 = .ok (.aload_n 0, 1) := by decide +kernel
theorem dX6_watchWay_28 : decode cX6_watchWay 28 = .ok (.aload_n 0, 1) := by decide +kernel
theorem dX6_watchWay_29 : decode cX6_watchWay 29 = .ok (.getfield 55, 3) := by decide +kernel
theorem dX6_watchWay_32 : decode cX6_watchWay 32 = .ok (.aload_n 0, 1) := by decide +kernel
theorem dX6_watchWay_33 : decode cX6_watchWay 33 = .ok (.getfield 33, 3) := by decide +kernel
theorem dX6_watchWay_36 : decode cX6_watchWay 36 = .ok (.invokestatic 133, 3) := by decide +kernel
theorem dX6_watchWay_39 : decode cX6_watchWay 39 = .ok (.invokestatic 74, 3) := by decide +kernel
theorem dX6_watchWay_42 : decode cX6_watchWay 42 = .ok (.putfield 55, 3) := by decide +kernel
theorem dX6_watchWay_45 : decode cX6_watchWay 45 = .ok (.iload_n 1, 1) := by decide +kernel
theorem dX6_watchWay_46 : decode cX6_watchWay 46 = .ok (.ifCond .eq 8, 3) := by decide +kernel
theorem dX6_watchWay_49 : decode cX6_watchWay 49 = .ok (.aload_n 0, 1) := by decide +kernel
theorem dX6_watchWay_50 : decode cX6_watchWay 50 = .ok (.iload_n 1, 1) := by decide +kernel
theorem dX6_watchWay_51 : decode cX6_watchWay 51 = .ok (.putfield 40, 3) := by decide +kernel
theorem dX6_watchWay_54 : decode cX6_watchWay 54 = .ok (.return_, 1) := by decide +kernel
theorem dX6_logTurn_0 : decode cX6_logTurn 0 = .ok (.aload_n 0, 1) := by decide +kernel
theorem dX6_logTurn_1 : decode cX6_logTurn 1 = .ok (.getfield 52, 3) := by decide +kernel
theorem dX6_logTurn_4 : decode cX6_logTurn 4 = .ok (.iconst 0, 1) := by decide +kernel
theorem dX6_logTurn_5 : decode cX6_logTurn 5 = .ok (.bipush 39, 2) := by decide +kernel
theorem dX6_logTurn_7 : decode cX6_logTurn 7 = .ok (.invokestatic 67, 3) := by decide +kernel
theorem dX6_logTurn_10 : decode cX6_logTurn 10 = .ok (.ifCond .eq 29, 3) := by decide +kernel
theorem dX6_logTurn_13 : decode cX6_logTurn 13 = .ok (.aload_n 0, 1) := by decide +kernel
theorem dX6_logTurn_14 : decode cX6_logTurn 14 = .ok (.getfield 21, 3) := by decide +kernel
theorem dX6_logTurn_17 : decode cX6_logTurn 17 = .ok (.aload_n 0, 1) := by decide +kernel
theorem dX6_logTurn_18 : decode cX6_logTurn 18 = .ok (.getfield 52, 3) := by decide +kernel
theorem dX6_logTurn_21 : decode cX6_logTurn 21 = .ok (.aload_n 0, 1) := by decide +kernel
theorem dX6_logTurn_22 : decode cX6_logTurn 22 = .ok (.getfield 49, 3) := by decide +kernel
theorem dX6_logTurn_25 : decode cX6_logTurn 25 = .ok (.iastore, 1) := by decide +kernel
theorem dX6_logTurn_26 : decode cX6_logTurn 26 = .ok (.aload_n 0, 1) := by decide +kernel
theorem dX6_logTurn_27 : decode cX6_logTurn 27 = .ok (.getfield 24, 3) := by decide +kernel
theorem dX6_logTurn_30 : decode cX6_logTurn 30 = .ok (.aload_n 0, 1) := by decide +kernel
theorem dX6_logTurn_31 : decode cX6_logTurn 31 = .ok (.getfield 52, 3) := by decide +kernel
theorem dX6_logTurn_34 : decode cX6_logTurn 34 = .ok (.aload_n 0, 1) := by decide +kernel
theorem dX6_logTurn_35 : decode cX6_logTurn 35 = .ok (.getfield 55, 3) := by decide +kernel
theorem dX6_logTurn_38 : decode cX6_logTurn 38 = .ok (.iastore, 1) := by decide +kernel
theorem dX6_logTurn_39 : decode cX6_logTurn 39 = .ok (.aload_n 0, 1) := by decide +kernel
theorem dX6_logTurn_40 : decode cX6_logTurn 40 = .ok (.dup, 1) := by decide +kernel
theorem dX6_logTurn_41 : decode cX6_logTurn 41 = .ok (.getfield 52, 3) := by decide +kernel
theorem dX6_logTurn_44 : decode cX6_logTurn 44 = .ok (.iconst 1, 1) := by decide +kernel
theorem dX6_logTurn_45 : decode cX6_logTurn 45 = .ok (.iadd, 1) := by decide +kernel
theorem dX6_logTurn_46 : decode cX6_logTurn 46 = .ok (.putfield 52, 3) := by decide +kernel
theorem dX6_logTurn_49 : decode cX6_logTurn 49 = .ok (.return_, 1) := by decide +kernel
theorem dX6_held_0 : decode cX6_held 0 = .ok (.sipush (-600), 3) := by decide +kernel
theorem dX6_held_3 : decode cX6_held 3 = .ok (.iload_n 0, 1) := by decide +kernel
theorem dX6_held_4 : decode cX6_held 4 = .ok (.sipush 600, 3) := by decide +kernel
theorem dX6_held_7 : decode cX6_held 7 = .ok (.invokestatic 58, 3) := by decide +kernel
theorem dX6_held_10 : decode cX6_held 10 = .ok (.invokestatic 74, 3) := by decide +kernel
theorem dX6_held_13 : decode cX6_held 13 = .ok (.ireturn, 1) := by decide +kernel
theorem dX7_init_0 : decode cX7_init 0 = .ok (.aload_n 0, 1) := by decide +kernel
theorem dX7_init_1 : decode cX7_init 1 = .ok (.invokespecial 3, 3) := by decide +kernel
theorem dX7_init_4 : decode cX7_init 4 = .ok (.aload_n 0, 1) := by decide +kernel
theorem dX7_init_5 : decode cX7_init 5 = .ok (.new 9, 3) := by decide +kernel
theorem dX7_init_8 : decode cX7_init 8 = .ok (.dup, 1) := by decide +kernel
theorem dX7_init_9 : decode cX7_init 9 = .ok (.invokespecial 11, 3) := by decide +kernel
theorem dX7_init_12 : decode cX7_init 12 = .ok (.putfield 12, 3) := by decide +kernel
theorem dX7_init_15 : decode cX7_init 15 = .ok (.aload_n 0, 1) := by decide +kernel
theorem dX7_init_16 : decode cX7_init 16 = .ok (.new 9, 3) := by decide +kernel
theorem dX7_init_19 : decode cX7_init 19 = .ok (.dup, 1) := by decide +kernel
theorem dX7_init_20 : decode cX7_init 20 = .ok (.invokespecial 11, 3) := by decide +kernel
theorem dX7_init_23 : decode cX7_init 23 = .ok (.putfield 16, 3) := by decide +kernel
theorem dX7_init_26 : decode cX7_init 26 = .ok (.aload_n 0, 1) := by decide +kernel
theorem dX7_init_27 : decode cX7_init 27 = .ok (.new 19, 3) := by decide +kernel
theorem dX7_init_30 : decode cX7_init 30 = .ok (.dup, 1) := by decide +kernel
theorem dX7_init_31 : decode cX7_init 31 = .ok (.invokespecial 21, 3) := by decide +kernel
theorem dX7_init_34 : decode cX7_init 34 = .ok (.putfield 22, 3) := by decide +kernel
theorem dX7_init_37 : decode cX7_init 37 = .ok (.aload_n 0, 1) := by decide +kernel
theorem dX7_init_38 : decode cX7_init 38 = .ok (.aload_n 0, 1) := by decide +kernel
theorem dX7_init_39 : decode cX7_init 39 = .ok (.getfield 22, 3) := by decide +kernel
theorem dX7_init_42 : decode cX7_init 42 = .ok (.getfield 26, 3) := by decide +kernel
theorem dX7_init_45 : decode cX7_init 45 = .ok (.putfield 30, 3) := by decide +kernel
theorem dX7_init_48 : decode cX7_init 48 = .ok (.aload_n 0, 1) := by decide +kernel
theorem dX7_init_49 : decode cX7_init 49 = .ok (.iconst 4, 1) := by decide +kernel
theorem dX7_init_50 : decode cX7_init 50 = .ok (.anewarray 31, 3) := by decide +kernel
theorem dX7_init_53 : decode cX7_init 53 = .ok (.putfield 33, 3) := by decide +kernel
theorem dX7_init_56 : decode cX7_init 56 = .ok (.aload_n 0, 1) := by decide +kernel
theorem dX7_init_57 : decode cX7_init 57 = .ok (.new 37, 3) := by decide +kernel
theorem dX7_init_60 : decode cX7_init 60 = .ok (.dup, 1) := by decide +kernel
theorem dX7_init_61 : decode cX7_init 61 = .ok (.invokespecial 39, 3) := by decide +kernel
theorem dX7_init_64 : decode cX7_init 64 = .ok (.putfield 40, 3) := by decide +kernel
theorem dX7_init_67 : decode cX7_init 67 = .ok (.aload_n 0, 1) := by decide +kernel
theorem dX7_init_68 : decode cX7_init 68 = .ok (.new 37, 3) := by decide +kernel
theorem dX7_init_71 : decode cX7_init 71 = .ok (.dup, 1) := by decide +kernel
theorem dX7_init_72 : decode cX7_init 72 = .ok (.invokespecial 39, 3) := by decide +kernel
theorem dX7_init_75 : decode cX7_init 75 = .ok (.putfield 44, 3) := by decide +kernel
theorem dX7_init_78 : decode cX7_init 78 = .ok (.aload_n 0, 1) := by decide +kernel
theorem dX7_init_79 : decode cX7_init 79 = .ok (.new 47, 3) := by decide +kernel
theorem dX7_init_82 : decode cX7_init 82 = .ok (.dup, 1) := by decide +kernel
theorem dX7_init_83 : decode cX7_init 83 = .ok (.invokespecial 49, 3) := by decide +kernel
theorem dX7_init_86 : decode cX7_init 86 = .ok (.putfield 50, 3) := by decide +kernel
theorem dX7_init_89 : decode cX7_init 89 = .ok (.aload_n 0, 1) := by decide +kernel
theorem dX7_init_90 : decode cX7_init 90 = .ok (.bipush 7, 2) := by decide +kernel
theorem dX7_init_92 : decode cX7_init 92 = .ok (.newarray .int, 2) := by decide +kernel
theorem dX7_init_94 : decode cX7_init 94 = .ok (.putfield 54, 3) := by decide +kernel
theorem dX7_init_97 : decode cX7_init 97 = .ok (.iconst 0, 1) := by decide +kernel
theorem dX7_init_98 : decode cX7_init 98 = .ok (.istore_n 1, 1) := by decide +kernel
theorem dX7_init_99 : decode cX7_init 99 = .ok (.iload_n 1, 1) := by decide +kernel
theorem dX7_init_100 : decode cX7_init 100 = .ok (.iconst 4, 1) := by decide +kernel
theorem dX7_init_101 : decode cX7_init 101 = .ok (.if_icmp .ge 22, 3) := by decide +kernel
theorem dX7_init_104 : decode cX7_init 104 = .ok (.aload_n 0, 1) := by decide +kernel
theorem dX7_init_105 : decode cX7_init 105 = .ok (.getfield 33, 3) := by decide +kernel
theorem dX7_init_108 : decode cX7_init 108 = .ok (.iload_n 1, 1) := by decide +kernel
theorem dX7_init_109 : decode cX7_init 109 = .ok (.new 31, 3) := by decide +kernel
theorem dX7_init_112 : decode cX7_init 112 = .ok (.dup, 1) := by decide +kernel
theorem dX7_init_113 : decode cX7_init 113 = .ok (.invokespecial 58, 3) := by decide +kernel
theorem dX7_init_116 : decode cX7_init 116 = .ok (.aastore, 1) := by decide +kernel
theorem dX7_init_117 : decode cX7_init 117 = .ok (.iinc 1 1, 3) := by decide +kernel
theorem dX7_init_120 : decode cX7_init 120 = .ok (.goto (-21), 3) := by decide +kernel
theorem dX7_init_123 : decode cX7_init 123 = .ok (.return_, 1) := by decide +kernel
theorem dX7_set_0 : decode cX7_set 0 = .ok (.iload_n 1, 1) := by decide +kernel
theorem dX7_set_1 : decode cX7_set 1 = .ok (.iconst 0, 1) := by decide +kernel
theorem dX7_set_2 : decode cX7_set 2 = .ok (.iconst 3, 1) := by decide +kernel
theorem dX7_set_3 : decode cX7_set 3 = .ok (.invokestatic 59, 3) := by decide +kernel
theorem dX7_set_6 : decode cX7_set 6 = .ok (.ifCond .ne 10, 3) := by decide +kernel
theorem dX7_set_9 : decode cX7_set 9 = .ok (.aload_n 0, 1) := by decide +kernel
theorem dX7_set_10 : decode cX7_set 10 = .ok (.ldc 63, 2) := by decide +kernel
theorem dX7_set_12 : decode cX7_set 12 = .ok (.invokevirtual 64, 3) := by decide +kernel
theorem dX7_set_15 : decode cX7_set 15 = .ok (.ireturn, 1) := by decide +kernel
theorem dX7_set_16 : decode cX7_set 16 = .ok (.iload_n 1, 1) := by decide +kernel
theorem dX7_set_17 : decode cX7_set 17 = .ok (.iconst 3, 1) := by decide +kernel
theorem dX7_set_18 : decode cX7_set 18 = .ok (.if_icmp .ne 7, 3) := by decide +kernel
theorem dX7_set_21 : decode cX7_set 21 = .ok (.iconst 1, 1) := by decide +kernel
theorem dX7_set_22 : decode cX7_set 22 = .ok (.goto 4, 3) := by decide +kernel
theorem dX7_set_25 : decode cX7_set 25 = .ok (.iconst 0, 1) := by decide +kernel
theorem dX7_set_26 : decode cX7_set 26 = .ok (.istore_n 3, 1) := by decide +kernel
theorem dX7_set_27 : decode cX7_set 27 = .ok (.iload_n 2, 1) := by decide +kernel
theorem dX7_set_28 : decode cX7_set 28 = .ok (.iload_n 3, 1) := by decide +kernel
theorem dX7_set_29 : decode cX7_set 29 = .ok (.bipush 99, 2) := by decide +kernel
theorem dX7_set_31 : decode cX7_set 31 = .ok (.invokestatic 59, 3) := by decide +kernel
theorem dX7_set_34 : decode cX7_set 34 = .ok (.ifCond .ne 10, 3) := by decide +kernel
theorem dX7_set_37 : decode cX7_set 37 = .ok (.aload_n 0, 1) := by decide +kernel
theorem dX7_set_38 : decode cX7_set 38 = .ok (.ldc 63, 2) := by decide +kernel
theorem dX7_set_40 : decode cX7_set 40 = .ok (.invokevirtual 64, 3) := by decide +kernel
theorem dX7_set_43 : decode cX7_set 43 = .ok (.ireturn, 1) := by decide +kernel
theorem dX7_set_44 : decode cX7_set 44 = .ok (.aload_n 0, 1) := by decide +kernel
theorem dX7_set_45 : decode cX7_set 45 = .ok (.getfield 12, 3) := by decide +kernel
theorem dX7_set_48 : decode cX7_set 48 = .ok (.getfield 68, 3) := by decide +kernel
theorem dX7_set_51 : decode cX7_set 51 = .ok (.getfield 71, 3) := by decide +kernel
theorem dX7_set_54 : decode cX7_set 54 = .ok (.iload_n 1, 1) := by decide +kernel
theorem dX7_set_55 : decode cX7_set 55 = .ok (.iaload, 1) := by decide +kernel
theorem dX7_set_56 : decode cX7_set 56 = .ok (.istore 4, 2) := by decide +kernel
theorem dX7_set_58 : decode cX7_set 58 = .ok (.aload_n 0, 1) := by decide +kernel
theorem dX7_set_59 : decode cX7_set 59 = .ok (.getfield 12, 3) := by decide +kernel
theorem dX7_set_62 : decode cX7_set 62 = .ok (.getfield 68, 3) := by decide +kernel
theorem dX7_set_65 : decode cX7_set 65 = .ok (.getfield 71, 3) := by decide +kernel
theorem dX7_set_68 : decode cX7_set 68 = .ok (.iload_n 1, 1) := by decide +kernel
theorem dX7_set_69 : decode cX7_set 69 = .ok (.iload_n 2, 1) := by decide +kernel
theorem dX7_set_70 : decode cX7_set 70 = .ok (.iastore, 1) := by decide +kernel
theorem dX7_set_71 : decode cX7_set 71 = .ok (.iload 4, 2) := by decide +kernel
theorem dX7_set_73 : decode cX7_set 73 = .ok (.ireturn, 1) := by decide +kernel
theorem dX7_kind_0 : decode cX7_kind 0 = .ok (.iload_n 1, 1) := by decide +kernel
theorem dX7_kind_1 : decode cX7_kind 1 = .ok (.invokestatic 74, 3) := by decide +kernel
theorem dX7_kind_4 : decode cX7_kind 4 = .ok (.ifCond .eq 10, 3) := by decide +kernel
theorem dX7_kind_7 : decode cX7_kind 7 = .ok (.iload_n 2, 1) := by decide +kernel
theorem dX7_kind_8 : decode cX7_kind 8 = .ok (.invokestatic 78, 3) := by decide +kernel
theorem dX7_kind_11 : decode cX7_kind 11 = .ok (.ifCond .ne 10, 3) := by decide +kernel
theorem dX7_kind_14 : decode cX7_kind 14 = .ok (.aload_n 0, 1) := by decide +kernel
theorem dX7_kind_15 : decode cX7_kind 15 = .ok (.ldc 63, 2) := by decide +kernel
theorem dX7_kind_17 : decode cX7_kind 17 = .ok (.invokevirtual 64, 3) := by decide +kernel
theorem dX7_kind_20 : decode cX7_kind 20 = .ok (.ireturn, 1) := by decide +kernel
theorem dX7_kind_21 : decode cX7_kind 21 = .ok (.aload_n 0, 1) := by decide +kernel
theorem dX7_kind_22 : decode cX7_kind 22 = .ok (.getfield 12, 3) := by decide +kernel
theorem dX7_kind_25 : decode cX7_kind 25 = .ok (.getfield 68, 3) := by decide +kernel
theorem dX7_kind_28 : decode cX7_kind 28 = .ok (.getfield 81, 3) := by decide +kernel
theorem dX7_kind_31 : decode cX7_kind 31 = .ok (.iload_n 1, 1) := by decide +kernel
theorem dX7_kind_32 : decode cX7_kind 32 = .ok (.iaload, 1) := by decide +kernel
theorem dX7_kind_33 : decode cX7_kind 33 = .ok (.istore_n 3, 1) := by decide +kernel
theorem dX7_kind_34 : decode cX7_kind 34 = .ok (.aload_n 0, 1) := by decide +kernel
theorem dX7_kind_35 : decode cX7_kind 35 = .ok (.getfield 12, 3) := by decide +kernel
theorem dX7_kind_38 : decode cX7_kind 38 = .ok (.getfield 68, 3) := by decide +kernel
theorem dX7_kind_41 : decode cX7_kind 41 = .ok (.getfield 81, 3) := by decide +kernel
theorem dX7_kind_44 : decode cX7_kind 44 = .ok (.iload_n 1, 1) := by decide +kernel
theorem dX7_kind_45 : decode cX7_kind 45 = .ok (.iload_n 2, 1) := by decide +kernel
theorem dX7_kind_46 : decode cX7_kind 46 = .ok (.iastore, 1) := by decide +kernel
theorem dX7_kind_47 : decode cX7_kind 47 = .ok (.iload_n 3, 1) := by decide +kernel
theorem dX7_kind_48 : decode cX7_kind 48 = .ok (.ireturn, 1) := by decide +kernel
theorem dX7_cupOf_0 : decode cX7_cupOf 0 = .ok (.iload_n 1, 1) := by decide +kernel
theorem dX7_cupOf_1 : decode cX7_cupOf 1 = .ok (.invokestatic 74, 3) := by decide +kernel
theorem dX7_cupOf_4 : decode cX7_cupOf 4 = .ok (.ifCond .ne 10, 3) := by decide +kernel
theorem dX7_cupOf_7 : decode cX7_cupOf 7 = .ok (.aload_n 0, 1) := by decide +kernel
theorem dX7_cupOf_8 : decode cX7_cupOf 8 = .ok (.ldc 63, 2) := by decide +kernel
theorem dX7_cupOf_10 : decode cX7_cupOf 10 = .ok (.invokevirtual 64, 3) := by decide +kernel
theorem dX7_cupOf_13 : decode cX7_cupOf 13 = .ok (.ireturn, 1) := by decide +kernel
theorem dX7_cupOf_14 : decode cX7_cupOf 14 = .ok (.iload_n 2, 1) := by decide +kernel
theorem dX7_cupOf_15 : decode cX7_cupOf 15 = .ok (.tableswitch 95 0 4 #[33, 46, 59, 71, 83], 33) := by decide +kernel
theorem dX7_cupOf_48 : decode cX7_cupOf 48 = .ok (.aload_n 0, 1) := by decide +kernel
theorem dX7_cupOf_49 : decode cX7_cupOf 49 = .ok (.getfield 12, 3) := by decide +kernel
theorem dX7_cupOf_52 : decode cX7_cupOf 52 = .ok (.getfield 68, 3) := by decide +kernel
theorem dX7_cupOf_55 : decode cX7_cupOf 55 = .ok (.getfield 81, 3) := by decide +kernel
theorem dX7_cupOf_58 : decode cX7_cupOf 58 = .ok (.iload_n 1, 1) := by decide +kernel
theorem dX7_cupOf_59 : decode cX7_cupOf 59 = .ok (.iaload, 1) := by decide +kernel
theorem dX7_cupOf_60 : decode cX7_cupOf 60 = .ok (.ireturn, 1) := by decide +kernel
theorem dX7_cupOf_61 : decode cX7_cupOf 61 = .ok (.aload_n 0, 1) := by decide +kernel
theorem dX7_cupOf_62 : decode cX7_cupOf 62 = .ok (.getfield 12, 3) := by decide +kernel
theorem dX7_cupOf_65 : decode cX7_cupOf 65 = .ok (.getfield 68, 3) := by decide +kernel
theorem dX7_cupOf_68 : decode cX7_cupOf 68 = .ok (.getfield 84, 3) := by decide +kernel
theorem dX7_cupOf_71 : decode cX7_cupOf 71 = .ok (.iload_n 1, 1) := by decide +kernel
theorem dX7_cupOf_72 : decode cX7_cupOf 72 = .ok (.iaload, 1) := by decide +kernel
theorem dX7_cupOf_73 : decode cX7_cupOf 73 = .ok (.ireturn, 1) := by decide +kernel
theorem dX7_cupOf_74 : decode cX7_cupOf 74 = .ok (.aload_n 0, 1) := by decide +kernel
theorem dX7_cupOf_75 : decode cX7_cupOf 75 = .ok (.getfield 12, 3) := by decide +kernel
theorem dX7_cupOf_78 : decode cX7_cupOf 78 = .ok (.getfield 68, 3) := by decide +kernel
theorem dX7_cupOf_81 : decode cX7_cupOf 81 = .ok (.iload_n 1, 1) := by decide +kernel
theorem dX7_cupOf_82 : decode cX7_cupOf 82 = .ok (.invokevirtual 87, 3) := by decide +kernel
theorem dX7_cupOf_85 : decode cX7_cupOf 85 = .ok (.ireturn, 1) := by decide +kernel
theorem dX7_cupOf_86 : decode cX7_cupOf 86 = .ok (.aload_n 0, 1) := by decide +kernel
theorem dX7_cupOf_87 : decode cX7_cupOf 87 = .ok (.getfield 12, 3) := by decide +kernel
theorem dX7_cupOf_90 : decode cX7_cupOf 90 = .ok (.getfield 68, 3) := by decide +kernel
theorem dX7_cupOf_93 : decode cX7_cupOf 93 = .ok (.iload_n 1, 1) := by decide +kernel
theorem dX7_cupOf_94 : decode cX7_cupOf 94 = .ok (.invokevirtual 90, 3) := by decide +kernel
theorem dX7_cupOf_97 : decode cX7_cupOf 97 = .ok (.ireturn, 1) := by decide +kernel
theorem dX7_cupOf_98 : decode cX7_cupOf 98 = .ok (.aload_n 0, 1) := by decide +kernel
theorem dX7_cupOf_99 : decode cX7_cupOf 99 = .ok (.getfield 12, 3) := by decide +kernel
theorem dX7_cupOf_102 : decode cX7_cupOf 102 = .ok (.getfield 68, 3) := by decide +kernel
theorem dX7_cupOf_105 : decode cX7_cupOf 105 = .ok (.iload_n 1, 1) := by decide +kernel
theorem dX7_cupOf_106 : decode cX7_cupOf 106 = .ok (.invokevirtual 93, 3) := by decide +kernel
theorem dX7_cupOf_109 : decode cX7_cupOf 109 = .ok (.ireturn, 1) := by decide +kernel
theorem dX7_cupOf_110 : decode cX7_cupOf 110 = .ok (.aload_n 0, 1) := by decide +kernel
theorem dX7_cupOf_111 : decode cX7_cupOf 111 = .ok (.ldc 63, 2) := by decide +kernel
theorem dX7_cupOf_113 : decode cX7_cupOf 113 = .ok (.invokevirtual 64, 3) := by decide +kernel
theorem dX7_cupOf_116 : decode cX7_cupOf 116 = .ok (.ireturn, 1) := by decide +kernel
theorem dX7_fill_0 : decode cX7_fill 0 = .ok (.iload_n 1, 1) := by decide +kernel
theorem dX7_fill_1 : decode cX7_fill 1 = .ok (.invokestatic 74, 3) := by decide +kernel
theorem dX7_fill_4 : decode cX7_fill 4 = .ok (.ifCond .eq 14, 3) := by decide +kernel
theorem dX7_fill_7 : decode cX7_fill 7 = .ok (.iload_n 2, 1) := by decide +kernel
theorem dX7_fill_8 : decode cX7_fill 8 = .ok (.iconst 1, 1) := by decide +kernel
theorem dX7_fill_9 : decode cX7_fill 9 = .ok (.sipush 999, 3) := by decide +kernel
theorem dX7_fill_12 : decode cX7_fill 12 = .ok (.invokestatic 59, 3) := by decide +kernel
theorem dX7_fill_15 : decode cX7_fill 15 = .ok (.ifCond .ne 10, 3) := by decide +kernel
theorem dX7_fill_18 : decode cX7_fill 18 = .ok (.aload_n 0, 1) := by decide +kernel
theorem dX7_fill_19 : decode cX7_fill 19 = .ok (.ldc 63, 2) := by decide +kernel
theorem dX7_fill_21 : decode cX7_fill 21 = .ok (.invokevirtual 64, 3) := by decide +kernel
theorem dX7_fill_24 : decode cX7_fill 24 = .ok (.ireturn, 1) := by decide +kernel
theorem dX7_fill_25 : decode cX7_fill 25 = .ok (.aload_n 0, 1) := by decide +kernel
theorem dX7_fill_26 : decode cX7_fill 26 = .ok (.getfield 12, 3) := by decide +kernel
theorem dX7_fill_29 : decode cX7_fill 29 = .ok (.getfield 68, 3) := by decide +kernel
theorem dX7_fill_32 : decode cX7_fill 32 = .ok (.astore_n 3, 1) := by decide +kernel
theorem dX7_fill_33 : decode cX7_fill 33 = .ok (.aload_n 3, 1) := by decide +kernel
theorem dX7_fill_34 : decode cX7_fill 34 = .ok (.iload_n 1, 1) := by decide +kernel
theorem dX7_fill_35 : decode cX7_fill 35 = .ok (.invokevirtual 90, 3) := by decide +kernel
theorem dX7_fill_38 : decode cX7_fill 38 = .ok (.aload_n 3, 1) := by decide +kernel
theorem dX7_fill_39 : decode cX7_fill 39 = .ok (.getfield 84, 3) := by decide +kernel
theorem dX7_fill_42 : decode cX7_fill 42 = .ok (.iload_n 1, 1) := by decide +kernel
theorem dX7_fill_43 : decode cX7_fill 43 = .ok (.iaload, 1) := by decide +kernel
theorem dX7_fill_44 : decode cX7_fill 44 = .ok (.isub, 1) := by decide +kernel
theorem dX7_fill_45 : decode cX7_fill 45 = .ok (.iload_n 2, 1) := by decide +kernel
theorem dX7_fill_46 : decode cX7_fill 46 = .ok (.if_icmp .ge 10, 3) := by decide +kernel
theorem dX7_fill_49 : decode cX7_fill 49 = .ok (.aload_n 0, 1) := by decide +kernel
theorem dX7_fill_50 : decode cX7_fill 50 = .ok (.ldc 96, 2) := by decide +kernel
theorem dX7_fill_52 : decode cX7_fill 52 = .ok (.invokevirtual 64, 3) := by decide +kernel
theorem dX7_fill_55 : decode cX7_fill 55 = .ok (.ireturn, 1) := by decide +kernel
theorem dX7_fill_56 : decode cX7_fill 56 = .ok (.aload_n 3, 1) := by decide +kernel
theorem dX7_fill_57 : decode cX7_fill 57 = .ok (.getfield 84, 3) := by decide +kernel
theorem dX7_fill_60 : decode cX7_fill 60 = .ok (.iload_n 1, 1) := by decide +kernel
theorem dX7_fill_61 : decode cX7_fill 61 = .ok (.dup2, 1) := by decide +kernel
theorem dX7_fill_62 : decode cX7_fill 62 = .ok (.iaload, 1) := by decide +kernel
theorem dX7_fill_63 : decode cX7_fill 63 = .ok (.iload_n 2, 1) := by decide +kernel
theorem dX7_fill_64 : decode cX7_fill 64 = .ok (.iadd, 1) := by decide +kernel
theorem dX7_fill_65 : decode cX7_fill 65 = .ok (.iastore, 1) := by decide +kernel
theorem dX7_fill_66 : decode cX7_fill 66 = .ok (.aload_n 3, 1) := by decide +kernel
theorem dX7_fill_67 : decode cX7_fill 67 = .ok (.getfield 84, 3) := by decide +kernel
theorem dX7_fill_70 : decode cX7_fill 70 = .ok (.iload_n 1, 1) := by decide +kernel
theorem dX7_fill_71 : decode cX7_fill 71 = .ok (.iaload, 1) := by decide +kernel
theorem dX7_fill_72 : decode cX7_fill 72 = .ok (.ireturn, 1) := by decide +kernel
theorem dX7_empty_0 : decode cX7_empty 0 = .ok (.iload_n 1, 1) := by decide +kernel
theorem dX7_empty_1 : decode cX7_empty 1 = .ok (.invokestatic 74, 3) := by decide +kernel
theorem dX7_empty_4 : decode cX7_empty 4 = .ok (.ifCond .ne 10, 3) := by decide +kernel
theorem dX7_empty_7 : decode cX7_empty 7 = .ok (.aload_n 0, 1) := by decide +kernel
theorem dX7_empty_8 : decode cX7_empty 8 = .ok (.ldc 63, 2) := by decide +kernel
theorem dX7_empty_10 : decode cX7_empty 10 = .ok (.invokevirtual 64, 3) := by decide +kernel
theorem dX7_empty_13 : decode cX7_empty 13 = .ok (.ireturn, 1) := by decide +kernel
theorem dX7_empty_14 : decode cX7_empty 14 = .ok (.aload_n 0, 1) := by decide +kernel
theorem dX7_empty_15 : decode cX7_empty 15 = .ok (.getfield 12, 3) := by decide +kernel
theorem dX7_empty_18 : decode cX7_empty 18 = .ok (.getfield 68, 3) := by decide +kernel
theorem dX7_empty_21 : decode cX7_empty 21 = .ok (.getfield 84, 3) := by decide +kernel
theorem dX7_empty_24 : decode cX7_empty 24 = .ok (.iload_n 1, 1) := by decide +kernel
theorem dX7_empty_25 : decode cX7_empty 25 = .ok (.iaload, 1) := by decide +kernel
theorem dX7_empty_26 : decode cX7_empty 26 = .ok (.istore_n 2, 1) := by decide +kernel
theorem dX7_empty_27 : decode cX7_empty 27 = .ok (.aload_n 0, 1) := by decide +kernel
theorem dX7_empty_28 : decode cX7_empty 28 = .ok (.getfield 12, 3) := by decide +kernel
theorem dX7_empty_31 : decode cX7_empty 31 = .ok (.getfield 68, 3) := by decide +kernel
theorem dX7_empty_34 : decode cX7_empty 34 = .ok (.getfield 84, 3) := by decide +kernel
theorem dX7_empty_37 : decode cX7_empty 37 = .ok (.iload_n 1, 1) := by decide +kernel
theorem dX7_empty_38 : decode cX7_empty 38 = .ok (.iconst 0, 1) := by decide +kernel
theorem dX7_empty_39 : decode cX7_empty 39 = .ok (.iastore, 1) := by decide +kernel
theorem dX7_empty_40 : decode cX7_empty 40 = .ok (.iload_n 2, 1) := by decide +kernel
theorem dX7_empty_41 : decode cX7_empty 41 = .ok (.ireturn, 1) := by decide +kernel
theorem dX7_touch_0 : decode cX7_touch 0 = .ok (.iload_n 1, 1) := by decide +kernel
theorem dX7_touch_1 : decode cX7_touch 1 = .ok (.invokestatic 97, 3) := by decide +kernel
theorem dX7_touch_4 : decode cX7_touch 4 = .ok (.ifCond .ne 10, 3) := by decide +kernel
theorem dX7_touch_7 : decode cX7_touch 7 = .ok (.aload_n 0, 1) := by decide +kernel
theorem dX7_touch_8 : decode cX7_touch 8 = .ok (.ldc 63, 2) := by decide +kernel
theorem dX7_touch_10 : decode cX7_touch 10 = .ok (.invokevirtual 64, 3) := by decide +kernel
theorem dX7_touch_13 : decode cX7_touch 13 = .ok (.ireturn, 1) := by decide +kernel
theorem dX7_touch_14 : decode cX7_touch 14 = .ok (.aload_n 0, 1) := by decide +kernel
theorem dX7_touch_15 : decode cX7_touch 15 = .ok (.getfield 12, 3) := by decide +kernel
theorem dX7_touch_18 : decode cX7_touch 18 = .ok (.getfield 68, 3) := by decide +kernel
theorem dX7_touch_21 : decode cX7_touch 21 = .ok (.iload_n 1, 1) := by decide +kernel
theorem dX7_touch_22 : decode cX7_touch 22 = .ok (.invokevirtual 100, 3) := by decide +kernel
theorem dX7_touch_25 : decode cX7_touch 25 = .ok (.aload_n 0, 1) := by decide +kernel
theorem dX7_touch_26 : decode cX7_touch 26 = .ok (.getfield 12, 3) := by decide +kernel
theorem dX7_touch_29 : decode cX7_touch 29 = .ok (.getfield 68, 3) := by decide +kernel
theorem dX7_touch_32 : decode cX7_touch 32 = .ok (.getfield 104, 3) := by decide +kernel
theorem dX7_touch_35 : decode cX7_touch 35 = .ok (.ireturn, 1) := by decide +kernel
theorem dX7_stop_0 : decode cX7_stop 0 = .ok (.iload_n 1, 1) := by decide +kernel
theorem dX7_stop_1 : decode cX7_stop 1 = .ok (.iconst 0, 1) := by decide +kernel
theorem dX7_stop_2 : decode cX7_stop 2 = .ok (.sipush 1199, 3) := by decide +kernel
theorem dX7_stop_5 : decode cX7_stop 5 = .ok (.invokestatic 59, 3) := by decide +kernel
theorem dX7_stop_8 : decode cX7_stop 8 = .ok (.ifCond .ne 10, 3) := by decide +kernel
theorem dX7_stop_11 : decode cX7_stop 11 = .ok (.aload_n 0, 1) := by decide +kernel
theorem dX7_stop_12 : decode cX7_stop 12 = .ok (.ldc 63, 2) := by decide +kernel
theorem dX7_stop_14 : decode cX7_stop 14 = .ok (.invokevirtual 64, 3) := by decide +kernel
theorem dX7_stop_17 : decode cX7_stop 17 = .ok (.ireturn, 1) := by decide +kernel
theorem dX7_stop_18 : decode cX7_stop 18 = .ok (.aload_n 0, 1) := by decide +kernel
theorem dX7_stop_19 : decode cX7_stop 19 = .ok (.getfield 12, 3) := by decide +kernel
theorem dX7_stop_22 : decode cX7_stop 22 = .ok (.getfield 68, 3) := by decide +kernel
theorem dX7_stop_25 : decode cX7_stop 25 = .ok (.getfield 104, 3) := by decide +kernel
theorem dX7_stop_28 : decode cX7_stop 28 = .ok (.istore_n 2, 1) := by decide +kernel
theorem dX7_stop_29 : decode cX7_stop 29 = .ok (.aload_n 0, 1) := by decide +kernel
theorem dX7_stop_30 : decode cX7_stop 30 = .ok (.getfield 12, 3) := by decide +kernel
theorem dX7_stop_33 : decode cX7_stop 33 = .ok (.getfield 68, 3) := by decide +kernel
theorem dX7_stop_36 : decode cX7_stop 36 = .ok (.iconst 0, 1) := by decide +kernel
theorem dX7_stop_37 : decode cX7_stop 37 = .ok (.putfield 104, 3) := by decide +kernel
theorem dX7_stop_40 : decode cX7_stop 40 = .ok (.aload_n 0, 1) := by decide +kernel
theorem dX7_stop_41 : decode cX7_stop 41 = .ok (.getfield 12, 3) := by decide +kernel
theorem dX7_stop_44 : decode cX7_stop 44 = .ok (.getfield 68, 3) := by decide +kernel
theorem dX7_stop_47 : decode cX7_stop 47 = .ok (.iload_n 1, 1) := by decide +kernel
theorem dX7_stop_48 : decode cX7_stop 48 = .ok (.putfield 108, 3) := by decide +kernel
theorem dX7_stop_51 : decode cX7_stop 51 = .ok (.iload_n 2, 1) := by decide +kernel
theorem dX7_stop_52 : decode cX7_stop 52 = .ok (.ireturn, 1) := by decide +kernel
theorem dX7_tick_0 : decode cX7_tick 0 = .ok (.iload_n 1, 1) := by decide +kernel
theorem dX7_tick_1 : decode cX7_tick 1 = .ok (.iconst 1, 1) := by decide +kernel
theorem dX7_tick_2 : decode cX7_tick 2 = .ok (.bipush 100, 2) := by decide +kernel
theorem dX7_tick_4 : decode cX7_tick 4 = .ok (.invokestatic 59, 3) := by decide +kernel
theorem dX7_tick_7 : decode cX7_tick 7 = .ok (.ifCond .ne 10, 3) := by decide +kernel
theorem dX7_tick_10 : decode cX7_tick 10 = .ok (.aload_n 0, 1) := by decide +kernel
theorem dX7_tick_11 : decode cX7_tick 11 = .ok (.ldc 63, 2) := by decide +kernel
theorem dX7_tick_13 : decode cX7_tick 13 = .ok (.invokevirtual 64, 3) := by decide +kernel
theorem dX7_tick_16 : decode cX7_tick 16 = .ok (.ireturn, 1) := by decide +kernel
theorem dX7_tick_17 : decode cX7_tick 17 = .ok (.aload_n 0, 1) := by decide +kernel
theorem dX7_tick_18 : decode cX7_tick 18 = .ok (.getfield 12, 3) := by decide +kernel
theorem dX7_tick_21 : decode cX7_tick 21 = .ok (.getfield 68, 3) := by decide +kernel
theorem dX7_tick_24 : decode cX7_tick 24 = .ok (.iload_n 1, 1) := by decide +kernel
theorem dX7_tick_25 : decode cX7_tick 25 = .ok (.invokevirtual 111, 3) := by decide +kernel
theorem dX7_tick_28 : decode cX7_tick 28 = .ok (.aload_n 0, 1) := by decide +kernel
theorem dX7_tick_29 : decode cX7_tick 29 = .ok (.getfield 12, 3) := by decide +kernel
theorem dX7_tick_32 : decode cX7_tick 32 = .ok (.getfield 68, 3) := by decide +kernel
theorem dX7_tick_35 : decode cX7_tick 35 = .ok (.getfield 104, 3) := by decide +kernel
theorem dX7_tick_38 : decode cX7_tick 38 = .ok (.ireturn, 1) := by decide +kernel
theorem dX7_now_0 : decode cX7_now 0 = .ok (.aload_n 0, 1) := by decide +kernel
theorem dX7_now_1 : decode cX7_now 1 = .ok (.getfield 12, 3) := by decide +kernel
theorem dX7_now_4 : decode cX7_now 4 = .ok (.getfield 68, 3) := by decide +kernel
theorem dX7_now_7 : decode cX7_now 7 = .ok (.astore_n 2, 1) := by decide +kernel
theorem dX7_now_8 : decode cX7_now 8 = .ok (.iload_n 1, 1) := by decide +kernel
theorem dX7_now_9 : decode cX7_now 9 = .ok (.tableswitch 87 0 7 #[47, 52, 57, 62, 67, 72, 77, 82], 47) := by decide +kernel
theorem dX7_now_56 : decode cX7_now 56 = .ok (.aload_n 2, 1) := by decide +kernel
theorem dX7_now_57 : decode cX7_now 57 = .ok (.getfield 104, 3) := by decide +kernel
theorem dX7_now_60 : decode cX7_now 60 = .ok (.ireturn, 1) := by decide +kernel
theorem dX7_now_61 : decode cX7_now 61 = .ok (.aload_n 2, 1) := by decide +kernel
theorem dX7_now_62 : decode cX7_now 62 = .ok (.getfield 108, 3) := by decide +kernel
theorem dX7_now_65 : decode cX7_now 65 = .ok (.ireturn, 1) := by decide +kernel
theorem dX7_now_66 : decode cX7_now 66 = .ok (.aload_n 2, 1) := by decide +kernel
theorem dX7_now_67 : decode cX7_now 67 = .ok (.getfield 114, 3) := by decide +kernel
theorem dX7_now_70 : decode cX7_now 70 = .ok (.ireturn, 1) := by decide +kernel
theorem dX7_now_71 : decode cX7_now 71 = .ok (.aload_n 2, 1) := by decide +kernel
theorem dX7_now_72 : decode cX7_now 72 = .ok (.invokevirtual 117, 3) := by decide +kernel
theorem dX7_now_75 : decode cX7_now 75 = .ok (.ireturn, 1) := by decide +kernel
theorem dX7_now_76 : decode cX7_now 76 = .ok (.aload_n 2, 1) := by decide +kernel
theorem dX7_now_77 : decode cX7_now 77 = .ok (.getfield 121, 3) := by decide +kernel
theorem dX7_now_80 : decode cX7_now 80 = .ok (.ireturn, 1) := by decide +kernel
theorem dX7_now_81 : decode cX7_now 81 = .ok (.aload_n 2, 1) := by decide +kernel
theorem dX7_now_82 : decode cX7_now 82 = .ok (.getfield 124, 3) := by decide +kernel
theorem dX7_now_85 : decode cX7_now 85 = .ok (.ireturn, 1) := by decide +kernel
theorem dX7_now_86 : decode cX7_now 86 = .ok (.aload_n 2, 1) := by decide +kernel
theorem dX7_now_87 : decode cX7_now 87 = .ok (.getfield 127, 3) := by decide +kernel
theorem dX7_now_90 : decode cX7_now 90 = .ok (.ireturn, 1) := by decide +kernel
theorem dX7_now_91 : decode cX7_now 91 = .ok (.aload_n 2, 1) := by decide +kernel
theorem dX7_now_92 : decode cX7_now 92 = .ok (.invokevirtual 130, 3) := by decide +kernel
theorem dX7_now_95 : decode cX7_now 95 = .ok (.ireturn, 1) := by decide +kernel
theorem dX7_now_96 : decode cX7_now 96 = .ok (.aload_n 0, 1) := by decide +kernel
theorem dX7_now_97 : decode cX7_now 97 = .ok (.ldc 63, 2) := by decide +kernel
theorem dX7_now_99 : decode cX7_now 99 = .ok (.invokevirtual 64, 3) := by decide +kernel
theorem dX7_now_102 : decode cX7_now 102 = .ok (.ireturn, 1) := by decide +kernel
theorem dX7_torque_0 : decode cX7_torque 0 = .ok (.aload_n 0, 1) := by decide +kernel
theorem dX7_torque_1 : decode cX7_torque 1 = .ok (.getfield 12, 3) := by decide +kernel
theorem dX7_torque_4 : decode cX7_torque 4 = .ok (.getfield 68, 3) := by decide +kernel
theorem dX7_torque_7 : decode cX7_torque 7 = .ok (.invokevirtual 133, 3) := by decide +kernel
theorem dX7_torque_10 : decode cX7_torque 10 = .ok (.ireturn, 1) := by decide +kernel
theorem dX7_turn_0 : decode cX7_turn 0 = .ok (.iload_n 1, 1) := by decide +kernel
theorem dX7_turn_1 : decode cX7_turn 1 = .ok (.iconst 0, 1) := by decide +kernel
theorem dX7_turn_2 : decode cX7_turn 2 = .ok (.aload_n 0, 1) := by decide +kernel
theorem dX7_turn_3 : decode cX7_turn 3 = .ok (.getfield 12, 3) := by decide +kernel
theorem dX7_turn_6 : decode cX7_turn 6 = .ok (.getfield 68, 3) := by decide +kernel
theorem dX7_turn_9 : decode cX7_turn 9 = .ok (.invokevirtual 136, 3) := by decide +kernel
theorem dX7_turn_12 : decode cX7_turn 12 = .ok (.iconst 1, 1) := by decide +kernel
theorem dX7_turn_13 : decode cX7_turn 13 = .ok (.isub, 1) := by decide +kernel
theorem dX7_turn_14 : decode cX7_turn 14 = .ok (.invokestatic 59, 3) := by decide +kernel
theorem dX7_turn_17 : decode cX7_turn 17 = .ok (.ifCond .ne 10, 3) := by decide +kernel
theorem dX7_turn_20 : decode cX7_turn 20 = .ok (.aload_n 0, 1) := by decide +kernel
theorem dX7_turn_21 : decode cX7_turn 21 = .ok (.ldc 63, 2) := by decide +kernel
theorem dX7_turn_23 : decode cX7_turn 23 = .ok (.invokevirtual 64, 3) := by decide +kernel
theorem dX7_turn_26 : decode cX7_turn 26 = .ok (.ireturn, 1) := by decide +kernel
theorem dX7_turn_27 : decode cX7_turn 27 = .ok (.iload_n 2, 1) := by decide +kernel
theorem dX7_turn_28 : decode cX7_turn 28 = .ok (.lookupswitch 54 #[(0, 28), (1, 41)], 28) := by decide +kernel
theorem dX7_turn_56 : decode cX7_turn 56 = .ok (.aload_n 0, 1) := by decide +kernel
theorem dX7_turn_57 : decode cX7_turn 57 = .ok (.getfield 12, 3) := by decide +kernel
theorem dX7_turn_60 : decode cX7_turn 60 = .ok (.getfield 68, 3) := by decide +kernel
theorem dX7_turn_63 : decode cX7_turn 63 = .ok (.getfield 139, 3) := by decide +kernel
theorem dX7_turn_66 : decode cX7_turn 66 = .ok (.iload_n 1, 1) := by decide +kernel
theorem dX7_turn_67 : decode cX7_turn 67 = .ok (.iaload, 1) := by decide +kernel
theorem dX7_turn_68 : decode cX7_turn 68 = .ok (.ireturn, 1) := by decide +kernel
theorem dX7_turn_69 : decode cX7_turn 69 = .ok (.aload_n 0, 1) := by decide +kernel
theorem dX7_turn_70 : decode cX7_turn 70 = .ok (.getfield 12, 3) := by decide +kernel
theorem dX7_turn_73 : decode cX7_turn 73 = .ok (.getfield 68, 3) := by decide +kernel
theorem dX7_turn_76 : decode cX7_turn 76 = .ok (.getfield 142, 3) := by decide +kernel
theorem dX7_turn_79 : decode cX7_turn 79 = .ok (.iload_n 1, 1) := by decide +kernel
theorem dX7_turn_80 : decode cX7_turn 80 = .ok (.iaload, 1) := by decide +kernel
theorem dX7_turn_81 : decode cX7_turn 81 = .ok (.ireturn, 1) := by decide +kernel
theorem dX7_turn_82 : decode cX7_turn 82 = .ok (.aload_n 0, 1) := by decide +kernel
theorem dX7_turn_83 : decode cX7_turn 83 = .ok (.ldc 63, 2) := by decide +kernel
theorem dX7_turn_85 : decode cX7_turn 85 = .ok (.invokevirtual 64, 3) := by decide +kernel
theorem dX7_turn_88 : decode cX7_turn 88 = .ok (.ireturn, 1) := by decide +kernel
theorem dX7_nextPeak_0 : decode cX7_nextPeak 0 = .ok (.iload_n 1, 1) := by decide +kernel
theorem dX7_nextPeak_1 : decode cX7_nextPeak 1 = .ok (.iconst 0, 1) := by decide +kernel
theorem dX7_nextPeak_2 : decode cX7_nextPeak 2 = .ok (.sipush 600, 3) := by decide +kernel
theorem dX7_nextPeak_5 : decode cX7_nextPeak 5 = .ok (.invokestatic 59, 3) := by decide +kernel
theorem dX7_nextPeak_8 : decode cX7_nextPeak 8 = .ok (.ifCond .ne 10, 3) := by decide +kernel
theorem dX7_nextPeak_11 : decode cX7_nextPeak 11 = .ok (.aload_n 0, 1) := by decide +kernel
theorem dX7_nextPeak_12 : decode cX7_nextPeak 12 = .ok (.ldc 63, 2) := by decide +kernel
theorem dX7_nextPeak_14 : decode cX7_nextPeak 14 = .ok (.invokevirtual 64, 3) := by decide +kernel
theorem dX7_nextPeak_17 : decode cX7_nextPeak 17 = .ok (.ireturn, 1) := by decide +kernel
theorem dX7_nextPeak_18 : decode cX7_nextPeak 18 = .ok (.aload_n 0, 1) := by decide +kernel
theorem dX7_nextPeak_19 : decode cX7_nextPeak 19 = .ok (.getfield 12, 3) := by decide +kernel
theorem dX7_nextPeak_22 : decode cX7_nextPeak 22 = .ok (.getfield 68, 3) := by decide +kernel
theorem dX7_nextPeak_25 : decode cX7_nextPeak 25 = .ok (.invokevirtual 136, 3) := by decide +kernel
theorem dX7_nextPeak_28 : decode cX7_nextPeak 28 = .ok (.istore_n 2, 1) := by decide +kernel
theorem dX7_nextPeak_29 : decode cX7_nextPeak 29 = .ok (.iload_n 2, 1) := by decide +kernel
theorem dX7_nextPeak_30 : decode cX7_nextPeak 30 = .ok (.iconst 2, 1) := by decide +kernel
theorem dX7_nextPeak_31 : decode cX7_nextPeak 31 = .ok (.if_icmp .ge 10, 3) := by decide +kernel
theorem dX7_nextPeak_34 : decode cX7_nextPeak 34 = .ok (.aload_n 0, 1) := by decide +kernel
theorem dX7_nextPeak_35 : decode cX7_nextPeak 35 = .ok (.ldc 145, 2) := by decide +kernel
theorem dX7_nextPeak_37 : decode cX7_nextPeak 37 = .ok (.invokevirtual 64, 3) := by decide +kernel
theorem dX7_nextPeak_40 : decode cX7_nextPeak 40 = .ok (.ireturn, 1) := by decide +kernel
theorem dX7_nextPeak_41 : decode cX7_nextPeak 41 = .ok (.aload_n 0, 1) := by decide +kernel
theorem dX7_nextPeak_42 : decode cX7_nextPeak 42 = .ok (.getfield 12, 3) := by decide +kernel
theorem dX7_nextPeak_45 : decode cX7_nextPeak 45 = .ok (.getfield 68, 3) := by decide +kernel
theorem dX7_nextPeak_48 : decode cX7_nextPeak 48 = .ok (.getfield 142, 3) := by decide +kernel
theorem dX7_nextPeak_51 : decode cX7_nextPeak 51 = .ok (.astore_n 3, 1) := by decide +kernel
theorem dX7_nextPeak_52 : decode cX7_nextPeak 52 = .ok (.iconst 0, 1) := by decide +kernel
theorem dX7_nextPeak_53 : decode cX7_nextPeak 53 = .ok (.istore 4, 2) := by decide +kernel
theorem dX7_nextPeak_55 : decode cX7_nextPeak 55 = .ok (.iconst 1, 1) := by decide +kernel
theorem dX7_nextPeak_56 : decode cX7_nextPeak 56 = .ok (.istore 5, 2) := by decide +kernel
theorem dX7_nextPeak_58 : decode cX7_nextPeak 58 = .ok (.iload 5, 2) := by decide +kernel
theorem dX7_nextPeak_60 : decode cX7_nextPeak 60 = .ok (.iconst 1, 1) := by decide +kernel
theorem dX7_nextPeak_61 : decode cX7_nextPeak 61 = .ok (.iadd, 1) := by decide +kernel
theorem dX7_nextPeak_62 : decode cX7_nextPeak 62 = .ok (.iload_n 2, 1) := by decide +kernel
theorem dX7_nextPeak_63 : decode cX7_nextPeak 63 = .ok (.if_icmp .ge 34, 3) := by decide +kernel
theorem dX7_nextPeak_66 : decode cX7_nextPeak 66 = .ok (.aload_n 3, 1) := by decide +kernel
theorem dX7_nextPeak_67 : decode cX7_nextPeak 67 = .ok (.iload 5, 2) := by decide +kernel
theorem dX7_nextPeak_69 : decode cX7_nextPeak 69 = .ok (.iaload, 1) := by decide +kernel
theorem dX7_nextPeak_70 : decode cX7_nextPeak 70 = .ok (.iload_n 1, 1) := by decide +kernel
theorem dX7_nextPeak_71 : decode cX7_nextPeak 71 = .ok (.isub, 1) := by decide +kernel
theorem dX7_nextPeak_72 : decode cX7_nextPeak 72 = .ok (.invokestatic 146, 3) := by decide +kernel
theorem dX7_nextPeak_75 : decode cX7_nextPeak 75 = .ok (.aload_n 3, 1) := by decide +kernel
theorem dX7_nextPeak_76 : decode cX7_nextPeak 76 = .ok (.iload 4, 2) := by decide +kernel
theorem dX7_nextPeak_78 : decode cX7_nextPeak 78 = .ok (.iaload, 1) := by decide +kernel
theorem dX7_nextPeak_79 : decode cX7_nextPeak 79 = .ok (.iload_n 1, 1) := by decide +kernel
theorem dX7_nextPeak_80 : decode cX7_nextPeak 80 = .ok (.isub, 1) := by decide +kernel
theorem dX7_nextPeak_81 : decode cX7_nextPeak 81 = .ok (.invokestatic 146, 3) := by decide +kernel
theorem dX7_nextPeak_84 : decode cX7_nextPeak 84 = .ok (.if_icmp .ge 7, 3) := by decide +kernel
theorem dX7_nextPeak_87 : decode cX7_nextPeak 87 = .ok (.iload 5, 2) := by decide +kernel
theorem dX7_nextPeak_89 : decode cX7_nextPeak 89 = .ok (.istore 4, 2) := by decide +kernel
theorem dX7_nextPeak_91 : decode cX7_nextPeak 91 = .ok (.iinc 5 1, 3) := by decide +kernel
theorem dX7_nextPeak_94 : decode cX7_nextPeak 94 = .ok (.goto (-36), 3) := by decide +kernel
theorem dX7_nextPeak_97 : decode cX7_nextPeak 97 = .ok (.aload_n 3, 1) := by decide +kernel
theorem dX7_nextPeak_98 : decode cX7_nextPeak 98 = .ok (.iload 4, 2) := by decide +kernel
theorem dX7_nextPeak_100 : decode cX7_nextPeak 100 = .ok (.iconst 1, 1) := by decide +kernel
theorem dX7_nextPeak_101 : decode cX7_nextPeak 101 = .ok (.iadd, 1) := by decide +kernel
theorem dX7_nextPeak_102 : decode cX7_nextPeak 102 = .ok (.iaload, 1) := by decide +kernel
theorem dX7_nextPeak_103 : decode cX7_nextPeak 103 = .ok (.ireturn, 1) := by decide +kernel
theorem dX7_rising_0 : decode cX7_rising 0 = .ok (.aload_n 0, 1) := by decide +kernel
theorem dX7_rising_1 : decode cX7_rising 1 = .ok (.getfield 12, 3) := by decide +kernel
theorem dX7_rising_4 : decode cX7_rising 4 = .ok (.getfield 68, 3) := by decide +kernel
theorem dX7_rising_7 : decode cX7_rising 7 = .ok (.getfield 142, 3) := by decide +kernel
theorem dX7_rising_10 : decode cX7_rising 10 = .ok (.astore_n 1, 1) := by decide +kernel
theorem dX7_rising_11 : decode cX7_rising 11 = .ok (.iconst 0, 1) := by decide +kernel
theorem dX7_rising_12 : decode cX7_rising 12 = .ok (.istore_n 2, 1) := by decide +kernel
theorem dX7_rising_13 : decode cX7_rising 13 = .ok (.iconst 1, 1) := by decide +kernel
theorem dX7_rising_14 : decode cX7_rising 14 = .ok (.istore_n 3, 1) := by decide +kernel
theorem dX7_rising_15 : decode cX7_rising 15 = .ok (.iload_n 3, 1) := by decide +kernel
theorem dX7_rising_16 : decode cX7_rising 16 = .ok (.aload_n 0, 1) := by decide +kernel
theorem dX7_rising_17 : decode cX7_rising 17 = .ok (.getfield 12, 3) := by decide +kernel
theorem dX7_rising_20 : decode cX7_rising 20 = .ok (.getfield 68, 3) := by decide +kernel
theorem dX7_rising_23 : decode cX7_rising 23 = .ok (.invokevirtual 136, 3) := by decide +kernel
theorem dX7_rising_26 : decode cX7_rising 26 = .ok (.if_icmp .ge 23, 3) := by decide +kernel
theorem dX7_rising_29 : decode cX7_rising 29 = .ok (.aload_n 1, 1) := by decide +kernel
theorem dX7_rising_30 : decode cX7_rising 30 = .ok (.iload_n 3, 1) := by decide +kernel
theorem dX7_rising_31 : decode cX7_rising 31 = .ok (.iaload, 1) := by decide +kernel
theorem dX7_rising_32 : decode cX7_rising 32 = .ok (.aload_n 1, 1) := by decide +kernel
theorem dX7_rising_33 : decode cX7_rising 33 = .ok (.iload_n 3, 1) := by decide +kernel
theorem dX7_rising_34 : decode cX7_rising 34 = .ok (.iconst 1, 1) := by decide +kernel
theorem dX7_rising_35 : decode cX7_rising 35 = .ok (.isub, 1) := by decide +kernel
theorem dX7_rising_36 : decode cX7_rising 36 = .ok (.iaload, 1) := by decide +kernel
theorem dX7_rising_37 : decode cX7_rising 37 = .ok (.if_icmp .le 6, 3) := by decide +kernel
theorem dX7_rising_40 : decode cX7_rising 40 = .ok (.iinc 2 1, 3) := by decide +kernel
theorem dX7_rising_43 : decode cX7_rising 43 = .ok (.iinc 3 1, 3) := by decide +kernel
theorem dX7_rising_46 : decode cX7_rising 46 = .ok (.goto (-31), 3) := by decide +kernel
theorem dX7_rising_49 : decode cX7_rising 49 = .ok (.iload_n 2, 1) := by decide +kernel
theorem dX7_rising_50 : decode cX7_rising 50 = .ok (.ireturn, 1) := by decide +kernel
theorem dX7_quickest_0 : decode cX7_quickest 0 = .ok (.aload_n 0, 1) := by decide +kernel
theorem dX7_quickest_1 : decode cX7_quickest 1 = .ok (.getfield 12, 3) := by decide +kernel
theorem dX7_quickest_4 : decode cX7_quickest 4 = .ok (.getfield 68, 3) := by decide +kernel
theorem dX7_quickest_7 : decode cX7_quickest 7 = .ok (.invokevirtual 136, 3) := by decide +kernel
theorem dX7_quickest_10 : decode cX7_quickest 10 = .ok (.istore_n 1, 1) := by decide +kernel
theorem dX7_quickest_11 : decode cX7_quickest 11 = .ok (.iload_n 1, 1) := by decide +kernel
theorem dX7_quickest_12 : decode cX7_quickest 12 = .ok (.iconst 2, 1) := by decide +kernel
theorem dX7_quickest_13 : decode cX7_quickest 13 = .ok (.if_icmp .ge 10, 3) := by decide +kernel
theorem dX7_quickest_16 : decode cX7_quickest 16 = .ok (.aload_n 0, 1) := by decide +kernel
theorem dX7_quickest_17 : decode cX7_quickest 17 = .ok (.ldc 145, 2) := by decide +kernel
theorem dX7_quickest_19 : decode cX7_quickest 19 = .ok (.invokevirtual 64, 3) := by decide +kernel
theorem dX7_quickest_22 : decode cX7_quickest 22 = .ok (.ireturn, 1) := by decide +kernel
theorem dX7_quickest_23 : decode cX7_quickest 23 = .ok (.aload_n 0, 1) := by decide +kernel
theorem dX7_quickest_24 : decode cX7_quickest 24 = .ok (.getfield 12, 3) := by decide +kernel
theorem dX7_quickest_27 : decode cX7_quickest 27 = .ok (.getfield 68, 3) := by decide +kernel
theorem dX7_quickest_30 : decode cX7_quickest 30 = .ok (.getfield 139, 3) := by decide +kernel
theorem dX7_quickest_33 : decode cX7_quickest 33 = .ok (.astore_n 2, 1) := by decide +kernel
theorem dX7_quickest_34 : decode cX7_quickest 34 = .ok (.aload_n 2, 1) := by decide +kernel
theorem dX7_quickest_35 : decode cX7_quickest 35 = .ok (.iconst 1, 1) := by decide +kernel
theorem dX7_quickest_36 : decode cX7_quickest 36 = .ok (.iaload, 1) := by decide +kernel
theorem dX7_quickest_37 : decode cX7_quickest 37 = .ok (.aload_n 2, 1) := by decide +kernel
theorem dX7_quickest_38 : decode cX7_quickest 38 = .ok (.iconst 0, 1) := by decide +kernel
theorem dX7_quickest_39 : decode cX7_quickest 39 = .ok (.iaload, 1) := by decide +kernel
theorem dX7_quickest_40 : decode cX7_quickest 40 = .ok (.isub, 1) := by decide +kernel
theorem dX7_quickest_41 : decode cX7_quickest 41 = .ok (.istore_n 3, 1) := by decide +kernel
theorem dX7_quickest_42 : decode cX7_quickest 42 = .ok (.iconst 2, 1) := by decide +kernel
theorem dX7_quickest_43 : decode cX7_quickest 43 = .ok (.istore 4, 2) := by decide +kernel
theorem dX7_quickest_45 : decode cX7_quickest 45 = .ok (.iload 4, 2) := by decide +kernel
theorem dX7_quickest_47 : decode cX7_quickest 47 = .ok (.iload_n 1, 1) := by decide +kernel
theorem dX7_quickest_48 : decode cX7_quickest 48 = .ok (.if_icmp .ge 25, 3) := by decide +kernel
theorem dX7_quickest_51 : decode cX7_quickest 51 = .ok (.iload_n 3, 1) := by decide +kernel
theorem dX7_quickest_52 : decode cX7_quickest 52 = .ok (.aload_n 2, 1) := by decide +kernel
theorem dX7_quickest_53 : decode cX7_quickest 53 = .ok (.iload 4, 2) := by decide +kernel
theorem dX7_quickest_55 : decode cX7_quickest 55 = .ok (.iaload, 1) := by decide +kernel
theorem dX7_quickest_56 : decode cX7_quickest 56 = .ok (.aload_n 2, 1) := by decide +kernel
theorem dX7_quickest_57 : decode cX7_quickest 57 = .ok (.iload 4, 2) := by decide +kernel
theorem dX7_quickest_59 : decode cX7_quickest 59 = .ok (.iconst 1, 1) := by decide +kernel
theorem dX7_quickest_60 : decode cX7_quickest 60 = .ok (.isub, 1) := by decide +kernel
theorem dX7_quickest_61 : decode cX7_quickest 61 = .ok (.iaload, 1) := by decide +kernel
theorem dX7_quickest_62 : decode cX7_quickest 62 = .ok (.isub, 1) := by decide +kernel
theorem dX7_quickest_63 : decode cX7_quickest 63 = .ok (.invokestatic 151, 3) := by decide +kernel
theorem dX7_quickest_66 : decode cX7_quickest 66 = .ok (.istore_n 3, 1) := by decide +kernel
theorem dX7_quickest_67 : decode cX7_quickest 67 = .ok (.iinc 4 1, 3) := by decide +kernel
theorem dX7_quickest_70 : decode cX7_quickest 70 = .ok (.goto (-25), 3) := by decide +kernel
theorem dX7_quickest_73 : decode cX7_quickest 73 = .ok (.iload_n 3, 1) := by decide +kernel
theorem dX7_quickest_74 : decode cX7_quickest 74 = .ok (.ireturn, 1) := by decide +kernel
theorem dX7_feed_0 : decode cX7_feed 0 = .ok (.iload_n 2, 1) := by decide +kernel
theorem dX7_feed_1 : decode cX7_feed 1 = .ok (.iconst 1, 1) := by decide +kernel
theorem dX7_feed_2 : decode cX7_feed 2 = .ok (.iconst 4, 1) := by decide +kernel
theorem dX7_feed_3 : decode cX7_feed 3 = .ok (.invokestatic 59, 3) := by decide +kernel
theorem dX7_feed_6 : decode cX7_feed 6 = .ok (.ifCond .ne 10, 3) := by decide +kernel
theorem dX7_feed_9 : decode cX7_feed 9 = .ok (.aload_n 0, 1) := by decide +kernel
theorem dX7_feed_10 : decode cX7_feed 10 = .ok (.ldc 63, 2) := by decide +kernel
theorem dX7_feed_12 : decode cX7_feed 12 = .ok (.invokevirtual 64, 3) := by decide +kernel
theorem dX7_feed_15 : decode cX7_feed 15 = .ok (.ireturn, 1) := by decide +kernel
theorem dX7_feed_16 : decode cX7_feed 16 = .ok (.aload_n 0, 1) := by decide +kernel
theorem dX7_feed_17 : decode cX7_feed 17 = .ok (.getfield 30, 3) := by decide +kernel
theorem dX7_feed_20 : decode cX7_feed 20 = .ok (.getfield 155, 3) := by decide +kernel
theorem dX7_feed_23 : decode cX7_feed 23 = .ok (.iload_n 2, 1) := by decide +kernel
theorem dX7_feed_24 : decode cX7_feed 24 = .ok (.iadd, 1) := by decide +kernel
theorem dX7_feed_25 : decode cX7_feed 25 = .ok (.bipush 100, 2) := by decide +kernel
theorem dX7_feed_27 : decode cX7_feed 27 = .ok (.if_icmp .le 10, 3) := by decide +kernel
theorem dX7_feed_30 : decode cX7_feed 30 = .ok (.aload_n 0, 1) := by decide +kernel
theorem dX7_feed_31 : decode cX7_feed 31 = .ok (.ldc 96, 2) := by decide +kernel
theorem dX7_feed_33 : decode cX7_feed 33 = .ok (.invokevirtual 64, 3) := by decide +kernel
theorem dX7_feed_36 : decode cX7_feed 36 = .ok (.ireturn, 1) := by decide +kernel
theorem dX7_feed_37 : decode cX7_feed 37 = .ok (.iload_n 2, 1) := by decide +kernel
theorem dX7_feed_38 : decode cX7_feed 38 = .ok (.iconst 1, 1) := by decide +kernel
theorem dX7_feed_39 : decode cX7_feed 39 = .ok (.isub, 1) := by decide +kernel
theorem dX7_feed_40 : decode cX7_feed 40 = .ok (.istore_n 3, 1) := by decide +kernel
theorem dX7_feed_41 : decode cX7_feed 41 = .ok (.iload_n 3, 1) := by decide +kernel
theorem dX7_feed_42 : decode cX7_feed 42 = .ok (.ifCond .lt 22, 3) := by decide +kernel
theorem dX7_feed_45 : decode cX7_feed 45 = .ok (.aload_n 0, 1) := by decide +kernel
theorem dX7_feed_46 : decode cX7_feed 46 = .ok (.getfield 30, 3) := by decide +kernel
theorem dX7_feed_49 : decode cX7_feed 49 = .ok (.iload_n 1, 1) := by decide +kernel
theorem dX7_feed_50 : decode cX7_feed 50 = .ok (.bipush 8, 2) := by decide +kernel
theorem dX7_feed_52 : decode cX7_feed 52 = .ok (.iload_n 3, 1) := by decide +kernel
theorem dX7_feed_53 : decode cX7_feed 53 = .ok (.imul, 1) := by decide +kernel
theorem dX7_feed_54 : decode cX7_feed 54 = .ok (.ishr, 1) := by decide +kernel
theorem dX7_feed_55 : decode cX7_feed 55 = .ok (.invokevirtual 160, 3) := by decide +kernel
theorem dX7_feed_58 : decode cX7_feed 58 = .ok (.iinc 3 (-1), 3) := by decide +kernel
theorem dX7_feed_61 : decode cX7_feed 61 = .ok (.goto (-20), 3) := by decide +kernel
theorem dX7_feed_64 : decode cX7_feed 64 = .ok (.aload_n 0, 1) := by decide +kernel
theorem dX7_feed_65 : decode cX7_feed 65 = .ok (.getfield 30, 3) := by decide +kernel
theorem dX7_feed_68 : decode cX7_feed 68 = .ok (.getfield 155, 3) := by decide +kernel
theorem dX7_feed_71 : decode cX7_feed 71 = .ok (.ireturn, 1) := by decide +kernel
theorem dX7_wipe_0 : decode cX7_wipe 0 = .ok (.aload_n 0, 1) := by decide +kernel
theorem dX7_wipe_1 : decode cX7_wipe 1 = .ok (.getfield 30, 3) := by decide +kernel
theorem dX7_wipe_4 : decode cX7_wipe 4 = .ok (.getfield 155, 3) := by decide +kernel
theorem dX7_wipe_7 : decode cX7_wipe 7 = .ok (.istore_n 1, 1) := by decide +kernel
theorem dX7_wipe_8 : decode cX7_wipe 8 = .ok (.aload_n 0, 1) := by decide +kernel
theorem dX7_wipe_9 : decode cX7_wipe 9 = .ok (.getfield 30, 3) := by decide +kernel
theorem dX7_wipe_12 : decode cX7_wipe 12 = .ok (.iconst 0, 1) := by decide +kernel
theorem dX7_wipe_13 : decode cX7_wipe 13 = .ok (.putfield 155, 3) := by decide +kernel
theorem dX7_wipe_16 : decode cX7_wipe 16 = .ok (.iload_n 1, 1) := by decide +kernel
theorem dX7_wipe_17 : decode cX7_wipe 17 = .ok (.ireturn, 1) := by decide +kernel
theorem dX7_program_0 : decode cX7_program 0 = .ok (.aload_n 0, 1) := by decide +kernel
theorem dX7_program_1 : decode cX7_program 1 = .ok (.getfield 12, 3) := by decide +kernel
theorem dX7_program_4 : decode cX7_program 4 = .ok (.getfield 163, 3) := by decide +kernel
theorem dX7_program_7 : decode cX7_program 7 = .ok (.iconst 0, 1) := by decide +kernel
theorem dX7_program_8 : decode cX7_program 8 = .ok (.iconst 5, 1) := by decide +kernel
theorem dX7_program_9 : decode cX7_program 9 = .ok (.invokestatic 59, 3) := by decide +kernel
theorem dX7_program_12 : decode cX7_program 12 = .ok (.ifCond .ne 10, 3) := by decide +kernel
theorem dX7_program_15 : decode cX7_program 15 = .ok (.aload_n 0, 1) := by decide +kernel
theorem dX7_program_16 : decode cX7_program 16 = .ok (.ldc 96, 2) := by decide +kernel
theorem dX7_program_18 : decode cX7_program 18 = .ok (.invokevirtual 64, 3) := by decide +kernel
theorem dX7_program_21 : decode cX7_program 21 = .ok (.ireturn, 1) := by decide +kernel
theorem dX7_program_22 : decode cX7_program 22 = .ok (.aload_n 0, 1) := by decide +kernel
theorem dX7_program_23 : decode cX7_program 23 = .ok (.getfield 22, 3) := by decide +kernel
theorem dX7_program_26 : decode cX7_program 26 = .ok (.aload_n 0, 1) := by decide +kernel
theorem dX7_program_27 : decode cX7_program 27 = .ok (.getfield 12, 3) := by decide +kernel
theorem dX7_program_30 : decode cX7_program 30 = .ok (.getfield 166, 3) := by decide +kernel
theorem dX7_program_33 : decode cX7_program 33 = .ok (.aload_n 0, 1) := by decide +kernel
theorem dX7_program_34 : decode cX7_program 34 = .ok (.getfield 12, 3) := by decide +kernel
theorem dX7_program_37 : decode cX7_program 37 = .ok (.getfield 163, 3) := by decide +kernel
theorem dX7_program_40 : decode cX7_program 40 = .ok (.aaload, 1) := by decide +kernel
theorem dX7_program_41 : decode cX7_program 41 = .ok (.invokevirtual 170, 3) := by decide +kernel
theorem dX7_program_44 : decode cX7_program 44 = .ok (.istore_n 1, 1) := by decide +kernel
theorem dX7_program_45 : decode cX7_program 45 = .ok (.aload_n 0, 1) := by decide +kernel
theorem dX7_program_46 : decode cX7_program 46 = .ok (.getfield 30, 3) := by decide +kernel
theorem dX7_program_49 : decode cX7_program 49 = .ok (.iconst 0, 1) := by decide +kernel
theorem dX7_program_50 : decode cX7_program 50 = .ok (.putfield 155, 3) := by decide +kernel
theorem dX7_program_53 : decode cX7_program 53 = .ok (.iload_n 1, 1) := by decide +kernel
theorem dX7_program_54 : decode cX7_program 54 = .ok (.iconst (-1), 1) := by decide +kernel
theorem dX7_program_55 : decode cX7_program 55 = .ok (.if_icmp .eq 7, 3) := by decide +kernel
theorem dX7_program_58 : decode cX7_program 58 = .ok (.iconst (-1), 1) := by decide +kernel
theorem dX7_program_59 : decode cX7_program 59 = .ok (.iload_n 1, 1) := by decide +kernel
theorem dX7_program_60 : decode cX7_program 60 = .ok (.isub, 1) := by decide +kernel
theorem dX7_program_61 : decode cX7_program 61 = .ok (.ireturn, 1) := by decide +kernel
theorem dX7_program_62 : decode cX7_program 62 = .ok (.aload_n 0, 1) := by decide +kernel
theorem dX7_program_63 : decode cX7_program 63 = .ok (.getfield 12, 3) := by decide +kernel
theorem dX7_program_66 : decode cX7_program 66 = .ok (.dup, 1) := by decide +kernel
theorem dX7_program_67 : decode cX7_program 67 = .ok (.getfield 163, 3) := by decide +kernel
theorem dX7_program_70 : decode cX7_program 70 = .ok (.iconst 1, 1) := by decide +kernel
theorem dX7_program_71 : decode cX7_program 71 = .ok (.iadd, 1) := by decide +kernel
theorem dX7_program_72 : decode cX7_program 72 = .ok (.putfield 163, 3) := by decide +kernel
theorem dX7_program_75 : decode cX7_program 75 = .ok (.aload_n 0, 1) := by decide +kernel
theorem dX7_program_76 : decode cX7_program 76 = .ok (.getfield 12, 3) := by decide +kernel
theorem dX7_program_79 : decode cX7_program 79 = .ok (.getfield 163, 3) := by decide +kernel
theorem dX7_program_82 : decode cX7_program 82 = .ok (.iconst 1, 1) := by decide +kernel
theorem dX7_program_83 : decode cX7_program 83 = .ok (.isub, 1) := by decide +kernel
theorem dX7_program_84 : decode cX7_program 84 = .ok (.ireturn, 1) := by decide +kernel
theorem dX7_programOf_0 : decode cX7_programOf 0 = .ok (.aload_n 0, 1) := by decide +kernel
theorem dX7_programOf_1 : decode cX7_programOf 1 = .ok (.iload_n 1, 1) := by decide +kernel
theorem dX7_programOf_2 : decode cX7_programOf 2 = .ok (.invokevirtual 174, 3) := by decide +kernel
theorem dX7_programOf_5 : decode cX7_programOf 5 = .ok (.ifCond .ne 10, 3) := by decide +kernel
theorem dX7_programOf_8 : decode cX7_programOf 8 = .ok (.aload_n 0, 1) := by decide +kernel
theorem dX7_programOf_9 : decode cX7_programOf 9 = .ok (.ldc 63, 2) := by decide +kernel
theorem dX7_programOf_11 : decode cX7_programOf 11 = .ok (.invokevirtual 64, 3) := by decide +kernel
theorem dX7_programOf_14 : decode cX7_programOf 14 = .ok (.ireturn, 1) := by decide +kernel
theorem dX7_programOf_15 : decode cX7_programOf 15 = .ok (.iload_n 2, 1) := by decide +kernel
theorem dX7_programOf_16 : decode cX7_programOf 16 = .ok (.lookupswitch 54 #[(0, 28), (1, 41)], 28) := by decide +kernel
theorem dX7_programOf_44 : decode cX7_programOf 44 = .ok (.aload_n 0, 1) := by decide +kernel
theorem dX7_programOf_45 : decode cX7_programOf 45 = .ok (.getfield 12, 3) := by decide +kernel
theorem dX7_programOf_48 : decode cX7_programOf 48 = .ok (.getfield 166, 3) := by decide +kernel
theorem dX7_programOf_51 : decode cX7_programOf 51 = .ok (.iload_n 1, 1) := by decide +kernel
theorem dX7_programOf_52 : decode cX7_programOf 52 = .ok (.aaload, 1) := by decide +kernel
theorem dX7_programOf_53 : decode cX7_programOf 53 = .ok (.getfield 177, 3) := by decide +kernel
theorem dX7_programOf_56 : decode cX7_programOf 56 = .ok (.ireturn, 1) := by decide +kernel
theorem dX7_programOf_57 : decode cX7_programOf 57 = .ok (.aload_n 0, 1) := by decide +kernel
theorem dX7_programOf_58 : decode cX7_programOf 58 = .ok (.getfield 12, 3) := by decide +kernel
theorem dX7_programOf_61 : decode cX7_programOf 61 = .ok (.getfield 166, 3) := by decide +kernel
theorem dX7_programOf_64 : decode cX7_programOf 64 = .ok (.iload_n 1, 1) := by decide +kernel
theorem dX7_programOf_65 : decode cX7_programOf 65 = .ok (.aaload, 1) := by decide +kernel
theorem dX7_programOf_66 : decode cX7_programOf 66 = .ok (.invokevirtual 180, 3) := by decide +kernel
theorem dX7_programOf_69 : decode cX7_programOf 69 = .ok (.ireturn, 1) := by decide +kernel
theorem dX7_programOf_70 : decode cX7_programOf 70 = .ok (.aload_n 0, 1) := by decide +kernel
theorem dX7_programOf_71 : decode cX7_programOf 71 = .ok (.ldc 63, 2) := by decide +kernel
theorem dX7_programOf_73 : decode cX7_programOf 73 = .ok (.invokevirtual 64, 3) := by decide +kernel
theorem dX7_programOf_76 : decode cX7_programOf 76 = .ok (.ireturn, 1) := by decide +kernel
theorem dX7_play_0 : decode cX7_play 0 = .ok (.aload_n 0, 1) := by decide +kernel
theorem dX7_play_1 : decode cX7_play 1 = .ok (.iload_n 1, 1) := by decide +kernel
theorem dX7_play_2 : decode cX7_play 2 = .ok (.invokevirtual 174, 3) := by decide +kernel
theorem dX7_play_5 : decode cX7_play 5 = .ok (.ifCond .ne 10, 3) := by decide +kernel
theorem dX7_play_8 : decode cX7_play 8 = .ok (.aload_n 0, 1) := by decide +kernel
theorem dX7_play_9 : decode cX7_play 9 = .ok (.ldc 63, 2) := by decide +kernel
theorem dX7_play_11 : decode cX7_play 11 = .ok (.invokevirtual 64, 3) := by decide +kernel
theorem dX7_play_14 : decode cX7_play 14 = .ok (.ireturn, 1) := by decide +kernel
theorem dX7_play_15 : decode cX7_play 15 = .ok (.aload_n 0, 1) := by decide +kernel
theorem dX7_play_16 : decode cX7_play 16 = .ok (.getfield 12, 3) := by decide +kernel
theorem dX7_play_19 : decode cX7_play 19 = .ok (.getfield 166, 3) := by decide +kernel
theorem dX7_play_22 : decode cX7_play 22 = .ok (.iload_n 1, 1) := by decide +kernel
theorem dX7_play_23 : decode cX7_play 23 = .ok (.aaload, 1) := by decide +kernel
theorem dX7_play_24 : decode cX7_play 24 = .ok (.astore_n 2, 1) := by decide +kernel
theorem dX7_play_25 : decode cX7_play 25 = .ok (.iconst 0, 1) := by decide +kernel
theorem dX7_play_26 : decode cX7_play 26 = .ok (.istore_n 3, 1) := by decide +kernel
theorem dX7_play_27 : decode cX7_play 27 = .ok (.iload_n 3, 1) := by decide +kernel
theorem dX7_play_28 : decode cX7_play 28 = .ok (.aload_n 2, 1) := by decide +kernel
theorem dX7_play_29 : decode cX7_play 29 = .ok (.getfield 177, 3) := by decide +kernel
theorem dX7_play_32 : decode cX7_play 32 = .ok (.if_icmp .ge 21, 3) := by decide +kernel
theorem dX7_play_35 : decode cX7_play 35 = .ok (.aload_n 2, 1) := by decide +kernel
theorem dX7_play_36 : decode cX7_play 36 = .ok (.iload_n 3, 1) := by decide +kernel
theorem dX7_play_37 : decode cX7_play 37 = .ok (.aload_n 0, 1) := by decide +kernel
theorem dX7_play_38 : decode cX7_play 38 = .ok (.getfield 12, 3) := by decide +kernel
theorem dX7_play_41 : decode cX7_play 41 = .ok (.getfield 68, 3) := by decide +kernel
theorem dX7_play_44 : decode cX7_play 44 = .ok (.invokevirtual 183, 3) := by decide +kernel
theorem dX7_play_47 : decode cX7_play 47 = .ok (.iinc 3 1, 3) := by decide +kernel
theorem dX7_play_50 : decode cX7_play 50 = .ok (.goto (-23), 3) := by decide +kernel
theorem dX7_play_53 : decode cX7_play 53 = .ok (.aload_n 0, 1) := by decide +kernel
theorem dX7_play_54 : decode cX7_play 54 = .ok (.getfield 12, 3) := by decide +kernel
theorem dX7_play_57 : decode cX7_play 57 = .ok (.getfield 68, 3) := by decide +kernel
theorem dX7_play_60 : decode cX7_play 60 = .ok (.getfield 104, 3) := by decide +kernel
theorem dX7_play_63 : decode cX7_play 63 = .ok (.ireturn, 1) := by decide +kernel
theorem dX7_ahead_0 : decode cX7_ahead 0 = .ok (.iload_n 1, 1) := by decide +kernel
theorem dX7_ahead_1 : decode cX7_ahead 1 = .ok (.invokestatic 187, 3) := by decide +kernel
theorem dX7_ahead_4 : decode cX7_ahead 4 = .ok (.ifCond .eq 12, 3) := by decide +kernel
theorem dX7_ahead_7 : decode cX7_ahead 7 = .ok (.iload_n 2, 1) := by decide +kernel
theorem dX7_ahead_8 : decode cX7_ahead 8 = .ok (.iconst 0, 1) := by decide +kernel
theorem dX7_ahead_9 : decode cX7_ahead 9 = .ok (.iconst 3, 1) := by decide +kernel
theorem dX7_ahead_10 : decode cX7_ahead 10 = .ok (.invokestatic 59, 3) := by decide +kernel
theorem dX7_ahead_13 : decode cX7_ahead 13 = .ok (.ifCond .ne 10, 3) := by decide +kernel
theorem dX7_ahead_16 : decode cX7_ahead 16 = .ok (.aload_n 0, 1) := by decide +kernel
theorem dX7_ahead_17 : decode cX7_ahead 17 = .ok (.ldc 63, 2) := by decide +kernel
theorem dX7_ahead_19 : decode cX7_ahead 19 = .ok (.invokevirtual 64, 3) := by decide +kernel
theorem dX7_ahead_22 : decode cX7_ahead 22 = .ok (.ireturn, 1) := by decide +kernel
theorem dX7_ahead_23 : decode cX7_ahead 23 = .ok (.aload_n 0, 1) := by decide +kernel
theorem dX7_ahead_24 : decode cX7_ahead 24 = .ok (.getfield 40, 3) := by decide +kernel
theorem dX7_ahead_27 : decode cX7_ahead 27 = .ok (.aload_n 0, 1) := by decide +kernel
theorem dX7_ahead_28 : decode cX7_ahead 28 = .ok (.getfield 12, 3) := by decide +kernel
theorem dX7_ahead_31 : decode cX7_ahead 31 = .ok (.getfield 68, 3) := by decide +kernel
theorem dX7_ahead_34 : decode cX7_ahead 34 = .ok (.invokevirtual 190, 3) := by decide +kernel
theorem dX7_ahead_37 : decode cX7_ahead 37 = .ok (.aload_n 0, 1) := by decide +kernel
theorem dX7_ahead_38 : decode cX7_ahead 38 = .ok (.getfield 40, 3) := by decide +kernel
theorem dX7_ahead_41 : decode cX7_ahead 41 = .ok (.iload_n 1, 1) := by decide +kernel
theorem dX7_ahead_42 : decode cX7_ahead 42 = .ok (.invokevirtual 111, 3) := by decide +kernel
theorem dX7_ahead_45 : decode cX7_ahead 45 = .ok (.iload_n 2, 1) := by decide +kernel
theorem dX7_ahead_46 : decode cX7_ahead 46 = .ok (.tableswitch 50 0 2 #[26, 34, 42], 26) := by decide +kernel
theorem dX7_ahead_72 : decode cX7_ahead 72 = .ok (.aload_n 0, 1) := by decide +kernel
theorem dX7_ahead_73 : decode cX7_ahead 73 = .ok (.getfield 40, 3) := by decide +kernel
theorem dX7_ahead_76 : decode cX7_ahead 76 = .ok (.getfield 104, 3) := by decide +kernel
theorem dX7_ahead_79 : decode cX7_ahead 79 = .ok (.ireturn, 1) := by decide +kernel
theorem dX7_ahead_80 : decode cX7_ahead 80 = .ok (.aload_n 0, 1) := by decide +kernel
theorem dX7_ahead_81 : decode cX7_ahead 81 = .ok (.getfield 40, 3) := by decide +kernel
theorem dX7_ahead_84 : decode cX7_ahead 84 = .ok (.getfield 108, 3) := by decide +kernel
theorem dX7_ahead_87 : decode cX7_ahead 87 = .ok (.ireturn, 1) := by decide +kernel
theorem dX7_ahead_88 : decode cX7_ahead 88 = .ok (.aload_n 0, 1) := by decide +kernel
theorem dX7_ahead_89 : decode cX7_ahead 89 = .ok (.getfield 40, 3) := by decide +kernel
theorem dX7_ahead_92 : decode cX7_ahead 92 = .ok (.invokevirtual 117, 3) := by decide +kernel
theorem dX7_ahead_95 : decode cX7_ahead 95 = .ok (.ireturn, 1) := by decide +kernel
theorem dX7_ahead_96 : decode cX7_ahead 96 = .ok (.aload_n 0, 1) := by decide +kernel
theorem dX7_ahead_97 : decode cX7_ahead 97 = .ok (.getfield 40, 3) := by decide +kernel
theorem dX7_ahead_100 : decode cX7_ahead 100 = .ok (.getfield 194, 3) := by decide +kernel
theorem dX7_ahead_103 : decode cX7_ahead 103 = .ok (.aload_n 0, 1) := by decide +kernel
theorem dX7_ahead_104 : decode cX7_ahead 104 = .ok (.getfield 12, 3) := by decide +kernel
theorem dX7_ahead_107 : decode cX7_ahead 107 = .ok (.getfield 68, 3) := by decide +kernel
theorem dX7_ahead_110 : decode cX7_ahead 110 = .ok (.getfield 194, 3) := by decide +kernel
theorem dX7_ahead_113 : decode cX7_ahead 113 = .ok (.isub, 1) := by decide +kernel
theorem dX7_ahead_114 : decode cX7_ahead 114 = .ok (.ireturn, 1) := by decide +kernel
theorem dX7_apart_0 : decode cX7_apart 0 = .ok (.iload_n 1, 1) := by decide +kernel
theorem dX7_apart_1 : decode cX7_apart 1 = .ok (.invokestatic 97, 3) := by decide +kernel
theorem dX7_apart_4 : decode cX7_apart 4 = .ok (.ifCond .eq 10, 3) := by decide +kernel
theorem dX7_apart_7 : decode cX7_apart 7 = .ok (.iload_n 2, 1) := by decide +kernel
theorem dX7_apart_8 : decode cX7_apart 8 = .ok (.invokestatic 187, 3) := by decide +kernel
theorem dX7_apart_11 : decode cX7_apart 11 = .ok (.ifCond .ne 10, 3) := by decide +kernel
theorem dX7_apart_14 : decode cX7_apart 14 = .ok (.aload_n 0, 1) := by decide +kernel
theorem dX7_apart_15 : decode cX7_apart 15 = .ok (.ldc 63, 2) := by decide +kernel
theorem dX7_apart_17 : decode cX7_apart 17 = .ok (.invokevirtual 64, 3) := by decide +kernel
theorem dX7_apart_20 : decode cX7_apart 20 = .ok (.ireturn, 1) := by decide +kernel
theorem dX7_apart_21 : decode cX7_apart 21 = .ok (.aload_n 0, 1) := by decide +kernel
theorem dX7_apart_22 : decode cX7_apart 22 = .ok (.iload_n 1, 1) := by decide +kernel
theorem dX7_apart_23 : decode cX7_apart 23 = .ok (.invokevirtual 197, 3) := by decide +kernel
theorem dX7_apart_26 : decode cX7_apart 26 = .ok (.aload_n 0, 1) := by decide +kernel
theorem dX7_apart_27 : decode cX7_apart 27 = .ok (.getfield 40, 3) := by decide +kernel
theorem dX7_apart_30 : decode cX7_apart 30 = .ok (.iload_n 2, 1) := by decide +kernel
theorem dX7_apart_31 : decode cX7_apart 31 = .ok (.invokevirtual 111, 3) := by decide +kernel
theorem dX7_apart_34 : decode cX7_apart 34 = .ok (.aload_n 0, 1) := by decide +kernel
theorem dX7_apart_35 : decode cX7_apart 35 = .ok (.getfield 44, 3) := by decide +kernel
theorem dX7_apart_38 : decode cX7_apart 38 = .ok (.iload_n 2, 1) := by decide +kernel
theorem dX7_apart_39 : decode cX7_apart 39 = .ok (.invokevirtual 111, 3) := by decide +kernel
theorem dX7_apart_42 : decode cX7_apart 42 = .ok (.aload_n 0, 1) := by decide +kernel
theorem dX7_apart_43 : decode cX7_apart 43 = .ok (.invokevirtual 200, 3) := by decide +kernel
theorem dX7_apart_46 : decode cX7_apart 46 = .ok (.ireturn, 1) := by decide +kernel
theorem dX7_parts_0 : decode cX7_parts 0 = .ok (.iload_n 1, 1) := by decide +kernel
theorem dX7_parts_1 : decode cX7_parts 1 = .ok (.invokestatic 97, 3) := by decide +kernel
theorem dX7_parts_4 : decode cX7_parts 4 = .ok (.ifCond .eq 14, 3) := by decide +kernel
theorem dX7_parts_7 : decode cX7_parts 7 = .ok (.iload_n 2, 1) := by decide +kernel
theorem dX7_parts_8 : decode cX7_parts 8 = .ok (.iconst 1, 1) := by decide +kernel
theorem dX7_parts_9 : decode cX7_parts 9 = .ok (.sipush 1200, 3) := by decide +kernel
theorem dX7_parts_12 : decode cX7_parts 12 = .ok (.invokestatic 59, 3) := by decide +kernel
theorem dX7_parts_15 : decode cX7_parts 15 = .ok (.ifCond .ne 10, 3) := by decide +kernel
theorem dX7_parts_18 : decode cX7_parts 18 = .ok (.aload_n 0, 1) := by decide +kernel
theorem dX7_parts_19 : decode cX7_parts 19 = .ok (.ldc 63, 2) := by decide +kernel
theorem dX7_parts_21 : decode cX7_parts 21 = .ok (.invokevirtual 64, 3) := by decide +kernel
theorem dX7_parts_24 : decode cX7_parts 24 = .ok (.ireturn, 1) := by decide +kernel
theorem dX7_parts_25 : decode cX7_parts 25 = .ok (.aload_n 0, 1) := by decide +kernel
theorem dX7_parts_26 : decode cX7_parts 26 = .ok (.iload_n 1, 1) := by decide +kernel
theorem dX7_parts_27 : decode cX7_parts 27 = .ok (.invokevirtual 197, 3) := by decide +kernel
theorem dX7_parts_30 : decode cX7_parts 30 = .ok (.iconst 0, 1) := by decide +kernel
theorem dX7_parts_31 : decode cX7_parts 31 = .ok (.istore_n 3, 1) := by decide +kernel
theorem dX7_parts_32 : decode cX7_parts 32 = .ok (.iload_n 3, 1) := by decide +kernel
theorem dX7_parts_33 : decode cX7_parts 33 = .ok (.sipush 400, 3) := by decide +kernel
theorem dX7_parts_36 : decode cX7_parts 36 = .ok (.if_icmp .gt 33, 3) := by decide +kernel
theorem dX7_parts_39 : decode cX7_parts 39 = .ok (.aload_n 0, 1) := by decide +kernel
theorem dX7_parts_40 : decode cX7_parts 40 = .ok (.invokevirtual 200, 3) := by decide +kernel
theorem dX7_parts_43 : decode cX7_parts 43 = .ok (.iload_n 2, 1) := by decide +kernel
theorem dX7_parts_44 : decode cX7_parts 44 = .ok (.if_icmp .lt 5, 3) := by decide +kernel
theorem dX7_parts_47 : decode cX7_parts 47 = .ok (.iload_n 3, 1) := by decide +kernel
theorem dX7_parts_48 : decode cX7_parts 48 = .ok (.ireturn, 1) := by decide +kernel
theorem dX7_parts_49 : decode cX7_parts 49 = .ok (.aload_n 0, 1) := by decide +kernel
theorem dX7_parts_50 : decode cX7_parts 50 = .ok (.getfield 40, 3) := by decide +kernel
theorem dX7_parts_53 : decode cX7_parts 53 = .ok (.invokevirtual 203, 3) := by decide +kernel
theorem dX7_parts_56 : decode cX7_parts 56 = .ok (.aload_n 0, 1) := by decide +kernel
theorem dX7_parts_57 : decode cX7_parts 57 = .ok (.getfield 44, 3) := by decide +kernel
theorem dX7_parts_60 : decode cX7_parts 60 = .ok (.invokevirtual 203, 3) := by decide +kernel
theorem dX7_parts_63 : decode cX7_parts 63 = .ok (.iinc 3 1, 3) := by decide +kernel
theorem dX7_parts_66 : decode cX7_parts 66 = .ok (.goto (-34), 3) := by decide +kernel
theorem dX7_parts_69 : decode cX7_parts 69 = .ok (.aload_n 0, 1) := by decide +kernel
theorem dX7_parts_70 : decode cX7_parts 70 = .ok (.ldc 145, 2) := by decide +kernel
theorem dX7_parts_72 : decode cX7_parts 72 = .ok (.invokevirtual 64, 3) := by decide +kernel
theorem dX7_parts_75 : decode cX7_parts 75 = .ok (.ireturn, 1) := by decide +kernel
theorem dX7_going_0 : decode cX7_going 0 = .ok (.iload_n 1, 1) := by decide +kernel
theorem dX7_going_1 : decode cX7_going 1 = .ok (.invokestatic 206, 3) := by decide +kernel
theorem dX7_going_4 : decode cX7_going 4 = .ok (.ifCond .ne 10, 3) := by decide +kernel
theorem dX7_going_7 : decode cX7_going 7 = .ok (.aload_n 0, 1) := by decide +kernel
theorem dX7_going_8 : decode cX7_going 8 = .ok (.ldc 63, 2) := by decide +kernel
theorem dX7_going_10 : decode cX7_going 10 = .ok (.invokevirtual 64, 3) := by decide +kernel
theorem dX7_going_13 : decode cX7_going 13 = .ok (.ireturn, 1) := by decide +kernel
theorem dX7_going_14 : decode cX7_going 14 = .ok (.aload_n 0, 1) := by decide +kernel
theorem dX7_going_15 : decode cX7_going 15 = .ok (.getfield 40, 3) := by decide +kernel
theorem dX7_going_18 : decode cX7_going 18 = .ok (.aload_n 0, 1) := by decide +kernel
theorem dX7_going_19 : decode cX7_going 19 = .ok (.getfield 12, 3) := by decide +kernel
theorem dX7_going_22 : decode cX7_going 22 = .ok (.getfield 68, 3) := by decide +kernel
theorem dX7_going_25 : decode cX7_going 25 = .ok (.invokevirtual 190, 3) := by decide +kernel
theorem dX7_going_28 : decode cX7_going 28 = .ok (.aload_n 0, 1) := by decide +kernel
theorem dX7_going_29 : decode cX7_going 29 = .ok (.getfield 40, 3) := by decide +kernel
theorem dX7_going_32 : decode cX7_going 32 = .ok (.iload_n 1, 1) := by decide +kernel
theorem dX7_going_33 : decode cX7_going 33 = .ok (.invokevirtual 209, 3) := by decide +kernel
theorem dX7_going_36 : decode cX7_going 36 = .ok (.ireturn, 1) := by decide +kernel
theorem dX7_tapFor_0 : decode cX7_tapFor 0 = .ok (.iload_n 1, 1) := by decide +kernel
theorem dX7_tapFor_1 : decode cX7_tapFor 1 = .ok (.iconst 0, 1) := by decide +kernel
theorem dX7_tapFor_2 : decode cX7_tapFor 2 = .ok (.iconst 3, 1) := by decide +kernel
theorem dX7_tapFor_3 : decode cX7_tapFor 3 = .ok (.invokestatic 59, 3) := by decide +kernel
theorem dX7_tapFor_6 : decode cX7_tapFor 6 = .ok (.ifCond .eq 10, 3) := by decide +kernel
theorem dX7_tapFor_9 : decode cX7_tapFor 9 = .ok (.iload_n 2, 1) := by decide +kernel
theorem dX7_tapFor_10 : decode cX7_tapFor 10 = .ok (.invokestatic 206, 3) := by decide +kernel
theorem dX7_tapFor_13 : decode cX7_tapFor 13 = .ok (.ifCond .ne 10, 3) := by decide +kernel
theorem dX7_tapFor_16 : decode cX7_tapFor 16 = .ok (.aload_n 0, 1) := by decide +kernel
theorem dX7_tapFor_17 : decode cX7_tapFor 17 = .ok (.ldc 63, 2) := by decide +kernel
theorem dX7_tapFor_19 : decode cX7_tapFor 19 = .ok (.invokevirtual 64, 3) := by decide +kernel
theorem dX7_tapFor_22 : decode cX7_tapFor 22 = .ok (.ireturn, 1) := by decide +kernel
theorem dX7_tapFor_23 : decode cX7_tapFor 23 = .ok (.iconst 0, 1) := by decide +kernel
theorem dX7_tapFor_24 : decode cX7_tapFor 24 = .ok (.istore_n 3, 1) := by decide +kernel
theorem dX7_tapFor_25 : decode cX7_tapFor 25 = .ok (.iload_n 3, 1) := by decide +kernel
theorem dX7_tapFor_26 : decode cX7_tapFor 26 = .ok (.bipush 99, 2) := by decide +kernel
theorem dX7_tapFor_28 : decode cX7_tapFor 28 = .ok (.if_icmp .gt 47, 3) := by decide +kernel
theorem dX7_tapFor_31 : decode cX7_tapFor 31 = .ok (.aload_n 0, 1) := by decide +kernel
theorem dX7_tapFor_32 : decode cX7_tapFor 32 = .ok (.getfield 40, 3) := by decide +kernel
theorem dX7_tapFor_35 : decode cX7_tapFor 35 = .ok (.aload_n 0, 1) := by decide +kernel
theorem dX7_tapFor_36 : decode cX7_tapFor 36 = .ok (.getfield 12, 3) := by decide +kernel
theorem dX7_tapFor_39 : decode cX7_tapFor 39 = .ok (.getfield 68, 3) := by decide +kernel
theorem dX7_tapFor_42 : decode cX7_tapFor 42 = .ok (.invokevirtual 190, 3) := by decide +kernel
theorem dX7_tapFor_45 : decode cX7_tapFor 45 = .ok (.aload_n 0, 1) := by decide +kernel
theorem dX7_tapFor_46 : decode cX7_tapFor 46 = .ok (.getfield 40, 3) := by decide +kernel
theorem dX7_tapFor_49 : decode cX7_tapFor 49 = .ok (.getfield 71, 3) := by decide +kernel
theorem dX7_tapFor_52 : decode cX7_tapFor 52 = .ok (.iconst 0, 1) := by decide +kernel
theorem dX7_tapFor_53 : decode cX7_tapFor 53 = .ok (.iload_n 3, 1) := by decide +kernel
theorem dX7_tapFor_54 : decode cX7_tapFor 54 = .ok (.iastore, 1) := by decide +kernel
theorem dX7_tapFor_55 : decode cX7_tapFor 55 = .ok (.aload_n 0, 1) := by decide +kernel
theorem dX7_tapFor_56 : decode cX7_tapFor 56 = .ok (.getfield 40, 3) := by decide +kernel
theorem dX7_tapFor_59 : decode cX7_tapFor 59 = .ok (.iload_n 2, 1) := by decide +kernel
theorem dX7_tapFor_60 : decode cX7_tapFor 60 = .ok (.invokevirtual 209, 3) := by decide +kernel
theorem dX7_tapFor_63 : decode cX7_tapFor 63 = .ok (.iload_n 1, 1) := by decide +kernel
theorem dX7_tapFor_64 : decode cX7_tapFor 64 = .ok (.if_icmp .ne 5, 3) := by decide +kernel
theorem dX7_tapFor_67 : decode cX7_tapFor 67 = .ok (.iload_n 3, 1) := by decide +kernel
theorem dX7_tapFor_68 : decode cX7_tapFor 68 = .ok (.ireturn, 1) := by decide +kernel
theorem dX7_tapFor_69 : decode cX7_tapFor 69 = .ok (.iinc 3 1, 3) := by decide +kernel
theorem dX7_tapFor_72 : decode cX7_tapFor 72 = .ok (.goto (-47), 3) := by decide +kernel
theorem dX7_tapFor_75 : decode cX7_tapFor 75 = .ok (.aload_n 0, 1) := by decide +kernel
theorem dX7_tapFor_76 : decode cX7_tapFor 76 = .ok (.ldc 145, 2) := by decide +kernel
theorem dX7_tapFor_78 : decode cX7_tapFor 78 = .ok (.invokevirtual 64, 3) := by decide +kernel
theorem dX7_tapFor_81 : decode cX7_tapFor 81 = .ok (.ireturn, 1) := by decide +kernel
theorem dX7_bounds_0 : decode cX7_bounds 0 = .ok (.iload_n 1, 1) := by decide +kernel
theorem dX7_bounds_1 : decode cX7_bounds 1 = .ok (.invokestatic 187, 3) := by decide +kernel
theorem dX7_bounds_4 : decode cX7_bounds 4 = .ok (.ifCond .eq 12, 3) := by decide +kernel
theorem dX7_bounds_7 : decode cX7_bounds 7 = .ok (.iload_n 2, 1) := by decide +kernel
theorem dX7_bounds_8 : decode cX7_bounds 8 = .ok (.iconst 0, 1) := by decide +kernel
theorem dX7_bounds_9 : decode cX7_bounds 9 = .ok (.iconst 1, 1) := by decide +kernel
theorem dX7_bounds_10 : decode cX7_bounds 10 = .ok (.invokestatic 59, 3) := by decide +kernel
theorem dX7_bounds_13 : decode cX7_bounds 13 = .ok (.ifCond .ne 10, 3) := by decide +kernel
theorem dX7_bounds_16 : decode cX7_bounds 16 = .ok (.aload_n 0, 1) := by decide +kernel
theorem dX7_bounds_17 : decode cX7_bounds 17 = .ok (.ldc 63, 2) := by decide +kernel
theorem dX7_bounds_19 : decode cX7_bounds 19 = .ok (.invokevirtual 64, 3) := by decide +kernel
theorem dX7_bounds_22 : decode cX7_bounds 22 = .ok (.ireturn, 1) := by decide +kernel
theorem dX7_bounds_23 : decode cX7_bounds 23 = .ok (.aload_n 0, 1) := by decide +kernel
theorem dX7_bounds_24 : decode cX7_bounds 24 = .ok (.getfield 40, 3) := by decide +kernel
theorem dX7_bounds_27 : decode cX7_bounds 27 = .ok (.aload_n 0, 1) := by decide +kernel
theorem dX7_bounds_28 : decode cX7_bounds 28 = .ok (.getfield 12, 3) := by decide +kernel
theorem dX7_bounds_31 : decode cX7_bounds 31 = .ok (.getfield 68, 3) := by decide +kernel
theorem dX7_bounds_34 : decode cX7_bounds 34 = .ok (.invokevirtual 190, 3) := by decide +kernel
theorem dX7_bounds_37 : decode cX7_bounds 37 = .ok (.aload_n 0, 1) := by decide +kernel
theorem dX7_bounds_38 : decode cX7_bounds 38 = .ok (.getfield 40, 3) := by decide +kernel
theorem dX7_bounds_41 : decode cX7_bounds 41 = .ok (.getfield 104, 3) := by decide +kernel
theorem dX7_bounds_44 : decode cX7_bounds 44 = .ok (.istore_n 3, 1) := by decide +kernel
theorem dX7_bounds_45 : decode cX7_bounds 45 = .ok (.aload_n 0, 1) := by decide +kernel
theorem dX7_bounds_46 : decode cX7_bounds 46 = .ok (.getfield 40, 3) := by decide +kernel
theorem dX7_bounds_49 : decode cX7_bounds 49 = .ok (.getfield 104, 3) := by decide +kernel
theorem dX7_bounds_52 : decode cX7_bounds 52 = .ok (.istore 4, 2) := by decide +kernel
theorem dX7_bounds_54 : decode cX7_bounds 54 = .ok (.iconst 1, 1) := by decide +kernel
theorem dX7_bounds_55 : decode cX7_bounds 55 = .ok (.istore 5, 2) := by decide +kernel
theorem dX7_bounds_57 : decode cX7_bounds 57 = .ok (.iload 5, 2) := by decide +kernel
theorem dX7_bounds_59 : decode cX7_bounds 59 = .ok (.iload_n 1, 1) := by decide +kernel
theorem dX7_bounds_60 : decode cX7_bounds 60 = .ok (.if_icmp .gt 42, 3) := by decide +kernel
theorem dX7_bounds_63 : decode cX7_bounds 63 = .ok (.aload_n 0, 1) := by decide +kernel
theorem dX7_bounds_64 : decode cX7_bounds 64 = .ok (.getfield 40, 3) := by decide +kernel
theorem dX7_bounds_67 : decode cX7_bounds 67 = .ok (.invokevirtual 203, 3) := by decide +kernel
theorem dX7_bounds_70 : decode cX7_bounds 70 = .ok (.iload_n 3, 1) := by decide +kernel
theorem dX7_bounds_71 : decode cX7_bounds 71 = .ok (.aload_n 0, 1) := by decide +kernel
theorem dX7_bounds_72 : decode cX7_bounds 72 = .ok (.getfield 40, 3) := by decide +kernel
theorem dX7_bounds_75 : decode cX7_bounds 75 = .ok (.getfield 104, 3) := by decide +kernel
theorem dX7_bounds_78 : decode cX7_bounds 78 = .ok (.invokestatic 151, 3) := by decide +kernel
theorem dX7_bounds_81 : decode cX7_bounds 81 = .ok (.istore_n 3, 1) := by decide +kernel
theorem dX7_bounds_82 : decode cX7_bounds 82 = .ok (.iload 4, 2) := by decide +kernel
theorem dX7_bounds_84 : decode cX7_bounds 84 = .ok (.aload_n 0, 1) := by decide +kernel
theorem dX7_bounds_85 : decode cX7_bounds 85 = .ok (.getfield 40, 3) := by decide +kernel
theorem dX7_bounds_88 : decode cX7_bounds 88 = .ok (.getfield 104, 3) := by decide +kernel
theorem dX7_bounds_91 : decode cX7_bounds 91 = .ok (.invokestatic 212, 3) := by decide +kernel
theorem dX7_bounds_94 : decode cX7_bounds 94 = .ok (.istore 4, 2) := by decide +kernel
theorem dX7_bounds_96 : decode cX7_bounds 96 = .ok (.iinc 5 1, 3) := by decide +kernel
theorem dX7_bounds_99 : decode cX7_bounds 99 = .ok (.goto (-42), 3) := by decide +kernel
theorem dX7_bounds_102 : decode cX7_bounds 102 = .ok (.iload_n 2, 1) := by decide +kernel
theorem dX7_bounds_103 : decode cX7_bounds 103 = .ok (.ifCond .ne 7, 3) := by decide +kernel
theorem dX7_bounds_106 : decode cX7_bounds 106 = .ok (.iload_n 3, 1) := by decide +kernel
theorem dX7_bounds_107 : decode cX7_bounds 107 = .ok (.goto 5, 3) := by decide +kernel
theorem dX7_bounds_110 : decode cX7_bounds 110 = .ok (.iload 4, 2) := by decide +kernel
theorem dX7_bounds_112 : decode cX7_bounds 112 = .ok (.ireturn, 1) := by decide +kernel
theorem dX7_often_0 : decode cX7_often 0 = .ok (.iload_n 1, 1) := by decide +kernel
theorem dX7_often_1 : decode cX7_often 1 = .ok (.iconst 1, 1) := by decide +kernel
theorem dX7_often_2 : decode cX7_often 2 = .ok (.sipush 400, 3) := by decide +kernel
theorem dX7_often_5 : decode cX7_often 5 = .ok (.invokestatic 59, 3) := by decide +kernel
theorem dX7_often_8 : decode cX7_often 8 = .ok (.ifCond .ne 10, 3) := by decide +kernel
theorem dX7_often_11 : decode cX7_often 11 = .ok (.aload_n 0, 1) := by decide +kernel
theorem dX7_often_12 : decode cX7_often 12 = .ok (.ldc 63, 2) := by decide +kernel
theorem dX7_often_14 : decode cX7_often 14 = .ok (.invokevirtual 64, 3) := by decide +kernel
theorem dX7_often_17 : decode cX7_often 17 = .ok (.ireturn, 1) := by decide +kernel
theorem dX7_often_18 : decode cX7_often 18 = .ok (.aload_n 0, 1) := by decide +kernel
theorem dX7_often_19 : decode cX7_often 19 = .ok (.getfield 40, 3) := by decide +kernel
theorem dX7_often_22 : decode cX7_often 22 = .ok (.aload_n 0, 1) := by decide +kernel
theorem dX7_often_23 : decode cX7_often 23 = .ok (.getfield 12, 3) := by decide +kernel
theorem dX7_often_26 : decode cX7_often 26 = .ok (.getfield 68, 3) := by decide +kernel
theorem dX7_often_29 : decode cX7_often 29 = .ok (.invokevirtual 190, 3) := by decide +kernel
theorem dX7_often_32 : decode cX7_often 32 = .ok (.iconst 0, 1) := by decide +kernel
theorem dX7_often_33 : decode cX7_often 33 = .ok (.istore_n 2, 1) := by decide +kernel
theorem dX7_often_34 : decode cX7_often 34 = .ok (.iconst 1, 1) := by decide +kernel
theorem dX7_often_35 : decode cX7_often 35 = .ok (.istore_n 3, 1) := by decide +kernel
theorem dX7_often_36 : decode cX7_often 36 = .ok (.iload_n 3, 1) := by decide +kernel
theorem dX7_often_37 : decode cX7_often 37 = .ok (.iload_n 1, 1) := by decide +kernel
theorem dX7_often_38 : decode cX7_often 38 = .ok (.if_icmp .gt 29, 3) := by decide +kernel
theorem dX7_often_41 : decode cX7_often 41 = .ok (.aload_n 0, 1) := by decide +kernel
theorem dX7_often_42 : decode cX7_often 42 = .ok (.getfield 40, 3) := by decide +kernel
theorem dX7_often_45 : decode cX7_often 45 = .ok (.invokevirtual 203, 3) := by decide +kernel
theorem dX7_often_48 : decode cX7_often 48 = .ok (.aload_n 0, 1) := by decide +kernel
theorem dX7_often_49 : decode cX7_often 49 = .ok (.getfield 40, 3) := by decide +kernel
theorem dX7_often_52 : decode cX7_often 52 = .ok (.getfield 104, 3) := by decide +kernel
theorem dX7_often_55 : decode cX7_often 55 = .ok (.ifCond .le 6, 3) := by decide +kernel
theorem dX7_often_58 : decode cX7_often 58 = .ok (.iinc 2 1, 3) := by decide +kernel
theorem dX7_often_61 : decode cX7_often 61 = .ok (.iinc 3 1, 3) := by decide +kernel
theorem dX7_often_64 : decode cX7_often 64 = .ok (.goto (-28), 3) := by decide +kernel
theorem dX7_often_67 : decode cX7_often 67 = .ok (.iload_n 2, 1) := by decide +kernel
theorem dX7_often_68 : decode cX7_often 68 = .ok (.ireturn, 1) := by decide +kernel
theorem dX7_holds_0 : decode cX7_holds 0 = .ok (.iload_n 1, 1) := by decide +kernel
theorem dX7_holds_1 : decode cX7_holds 1 = .ok (.iconst 1, 1) := by decide +kernel
theorem dX7_holds_2 : decode cX7_holds 2 = .ok (.sipush 400, 3) := by decide +kernel
theorem dX7_holds_5 : decode cX7_holds 5 = .ok (.invokestatic 59, 3) := by decide +kernel
theorem dX7_holds_8 : decode cX7_holds 8 = .ok (.ifCond .ne 10, 3) := by decide +kernel
theorem dX7_holds_11 : decode cX7_holds 11 = .ok (.aload_n 0, 1) := by decide +kernel
theorem dX7_holds_12 : decode cX7_holds 12 = .ok (.ldc 63, 2) := by decide +kernel
theorem dX7_holds_14 : decode cX7_holds 14 = .ok (.invokevirtual 64, 3) := by decide +kernel
theorem dX7_holds_17 : decode cX7_holds 17 = .ok (.ireturn, 1) := by decide +kernel
theorem dX7_holds_18 : decode cX7_holds 18 = .ok (.iconst 0, 1) := by decide +kernel
theorem dX7_holds_19 : decode cX7_holds 19 = .ok (.istore_n 2, 1) := by decide +kernel
theorem dX7_holds_20 : decode cX7_holds 20 = .ok (.iload_n 2, 1) := by decide +kernel
theorem dX7_holds_21 : decode cX7_holds 21 = .ok (.bipush 50, 2) := by decide +kernel
theorem dX7_holds_23 : decode cX7_holds 23 = .ok (.if_icmp .gt 37, 3) := by decide +kernel
theorem dX7_holds_26 : decode cX7_holds 26 = .ok (.aload_n 0, 1) := by decide +kernel
theorem dX7_holds_27 : decode cX7_holds 27 = .ok (.iload_n 2, 1) := by decide +kernel
theorem dX7_holds_28 : decode cX7_holds 28 = .ok (.iload_n 1, 1) := by decide +kernel
theorem dX7_holds_29 : decode cX7_holds 29 = .ok (.invokevirtual 215, 3) := by decide +kernel
theorem dX7_holds_32 : decode cX7_holds 32 = .ok (.ifCond .eq 5, 3) := by decide +kernel
theorem dX7_holds_35 : decode cX7_holds 35 = .ok (.iload_n 2, 1) := by decide +kernel
theorem dX7_holds_36 : decode cX7_holds 36 = .ok (.ireturn, 1) := by decide +kernel
theorem dX7_holds_37 : decode cX7_holds 37 = .ok (.iload_n 2, 1) := by decide +kernel
theorem dX7_holds_38 : decode cX7_holds 38 = .ok (.ifCond .eq 16, 3) := by decide +kernel
theorem dX7_holds_41 : decode cX7_holds 41 = .ok (.aload_n 0, 1) := by decide +kernel
theorem dX7_holds_42 : decode cX7_holds 42 = .ok (.iload_n 2, 1) := by decide +kernel
theorem dX7_holds_43 : decode cX7_holds 43 = .ok (.ineg, 1) := by decide +kernel
theorem dX7_holds_44 : decode cX7_holds 44 = .ok (.iload_n 1, 1) := by decide +kernel
theorem dX7_holds_45 : decode cX7_holds 45 = .ok (.invokevirtual 215, 3) := by decide +kernel
theorem dX7_holds_48 : decode cX7_holds 48 = .ok (.ifCond .eq 6, 3) := by decide +kernel
theorem dX7_holds_51 : decode cX7_holds 51 = .ok (.iload_n 2, 1) := by decide +kernel
theorem dX7_holds_52 : decode cX7_holds 52 = .ok (.ineg, 1) := by decide +kernel
theorem dX7_holds_53 : decode cX7_holds 53 = .ok (.ireturn, 1) := by decide +kernel
theorem dX7_holds_54 : decode cX7_holds 54 = .ok (.iinc 2 1, 3) := by decide +kernel
theorem dX7_holds_57 : decode cX7_holds 57 = .ok (.goto (-37), 3) := by decide +kernel
theorem dX7_holds_60 : decode cX7_holds 60 = .ok (.aload_n 0, 1) := by decide +kernel
theorem dX7_holds_61 : decode cX7_holds 61 = .ok (.ldc 145, 2) := by decide +kernel
theorem dX7_holds_63 : decode cX7_holds 63 = .ok (.invokevirtual 64, 3) := by decide +kernel
theorem dX7_holds_66 : decode cX7_holds 66 = .ok (.ireturn, 1) := by decide +kernel
theorem dX7_chance_0 : decode cX7_chance 0 = .ok (.iload_n 1, 1) := by decide +kernel
theorem dX7_chance_1 : decode cX7_chance 1 = .ok (.iconst 1, 1) := by decide +kernel
theorem dX7_chance_2 : decode cX7_chance 2 = .ok (.bipush 20, 2) := by decide +kernel
theorem dX7_chance_4 : decode cX7_chance 4 = .ok (.invokestatic 59, 3) := by decide +kernel
theorem dX7_chance_7 : decode cX7_chance 7 = .ok (.ifCond .eq 14, 3) := by decide +kernel
theorem dX7_chance_10 : decode cX7_chance 10 = .ok (.iload_n 2, 1) := by decide +kernel
theorem dX7_chance_11 : decode cX7_chance 11 = .ok (.iconst 1, 1) := by decide +kernel
theorem dX7_chance_12 : decode cX7_chance 12 = .ok (.sipush 200, 3) := by decide +kernel
theorem dX7_chance_15 : decode cX7_chance 15 = .ok (.invokestatic 59, 3) := by decide +kernel
theorem dX7_chance_18 : decode cX7_chance 18 = .ok (.ifCond .ne 10, 3) := by decide +kernel
theorem dX7_chance_21 : decode cX7_chance 21 = .ok (.aload_n 0, 1) := by decide +kernel
theorem dX7_chance_22 : decode cX7_chance 22 = .ok (.ldc 63, 2) := by decide +kernel
theorem dX7_chance_24 : decode cX7_chance 24 = .ok (.invokevirtual 64, 3) := by decide +kernel
theorem dX7_chance_27 : decode cX7_chance 27 = .ok (.ireturn, 1) := by decide +kernel
theorem dX7_chance_28 : decode cX7_chance 28 = .ok (.iconst 0, 1) := by decide +kernel
theorem dX7_chance_29 : decode cX7_chance 29 = .ok (.istore_n 3, 1) := by decide +kernel
theorem dX7_chance_30 : decode cX7_chance 30 = .ok (.iconst 0, 1) := by decide +kernel
theorem dX7_chance_31 : decode cX7_chance 31 = .ok (.istore 4, 2) := by decide +kernel
theorem dX7_chance_33 : decode cX7_chance 33 = .ok (.iload 4, 2) := by decide +kernel
theorem dX7_chance_35 : decode cX7_chance 35 = .ok (.iload_n 1, 1) := by decide +kernel
theorem dX7_chance_36 : decode cX7_chance 36 = .ok (.if_icmp .ge 64, 3) := by decide +kernel
theorem dX7_chance_39 : decode cX7_chance 39 = .ok (.aload_n 0, 1) := by decide +kernel
theorem dX7_chance_40 : decode cX7_chance 40 = .ok (.getfield 40, 3) := by decide +kernel
theorem dX7_chance_43 : decode cX7_chance 43 = .ok (.aload_n 0, 1) := by decide +kernel
theorem dX7_chance_44 : decode cX7_chance 44 = .ok (.getfield 12, 3) := by decide +kernel
theorem dX7_chance_47 : decode cX7_chance 47 = .ok (.getfield 68, 3) := by decide +kernel
theorem dX7_chance_50 : decode cX7_chance 50 = .ok (.invokevirtual 190, 3) := by decide +kernel
theorem dX7_chance_53 : decode cX7_chance 53 = .ok (.aload_n 0, 1) := by decide +kernel
theorem dX7_chance_54 : decode cX7_chance 54 = .ok (.getfield 40, 3) := by decide +kernel
theorem dX7_chance_57 : decode cX7_chance 57 = .ok (.aload_n 0, 1) := by decide +kernel
theorem dX7_chance_58 : decode cX7_chance 58 = .ok (.getfield 12, 3) := by decide +kernel
theorem dX7_chance_61 : decode cX7_chance 61 = .ok (.invokevirtual 219, 3) := by decide +kernel
theorem dX7_chance_64 : decode cX7_chance 64 = .ok (.bipush 21, 2) := by decide +kernel
theorem dX7_chance_66 : decode cX7_chance 66 = .ok (.irem, 1) := by decide +kernel
theorem dX7_chance_67 : decode cX7_chance 67 = .ok (.bipush 10, 2) := by decide +kernel
theorem dX7_chance_69 : decode cX7_chance 69 = .ok (.isub, 1) := by decide +kernel
theorem dX7_chance_70 : decode cX7_chance 70 = .ok (.invokevirtual 100, 3) := by decide +kernel
theorem dX7_chance_73 : decode cX7_chance 73 = .ok (.aload_n 0, 1) := by decide +kernel
theorem dX7_chance_74 : decode cX7_chance 74 = .ok (.getfield 40, 3) := by decide +kernel
theorem dX7_chance_77 : decode cX7_chance 77 = .ok (.iload_n 2, 1) := by decide +kernel
theorem dX7_chance_78 : decode cX7_chance 78 = .ok (.invokevirtual 111, 3) := by decide +kernel
theorem dX7_chance_81 : decode cX7_chance 81 = .ok (.aload_n 0, 1) := by decide +kernel
theorem dX7_chance_82 : decode cX7_chance 82 = .ok (.getfield 40, 3) := by decide +kernel
theorem dX7_chance_85 : decode cX7_chance 85 = .ok (.getfield 104, 3) := by decide +kernel
theorem dX7_chance_88 : decode cX7_chance 88 = .ok (.ifCond .le 6, 3) := by decide +kernel
theorem dX7_chance_91 : decode cX7_chance 91 = .ok (.iinc 3 1, 3) := by decide +kernel
theorem dX7_chance_94 : decode cX7_chance 94 = .ok (.iinc 4 1, 3) := by decide +kernel
theorem dX7_chance_97 : decode cX7_chance 97 = .ok (.goto (-64), 3) := by decide +kernel
theorem dX7_chance_100 : decode cX7_chance 100 = .ok (.iload_n 3, 1) := by decide +kernel
theorem dX7_chance_101 : decode cX7_chance 101 = .ok (.ireturn, 1) := by decide +kernel
theorem dX7_brief_0 : decode cX7_brief 0 = .ok (.iload_n 1, 1) := by decide +kernel
theorem dX7_brief_1 : decode cX7_brief 1 = .ok (.iload_n 2, 1) := by decide +kernel
theorem dX7_brief_2 : decode cX7_brief 2 = .ok (.iload_n 3, 1) := by decide +kernel
theorem dX7_brief_3 : decode cX7_brief 3 = .ok (.invokestatic 222, 3) := by decide +kernel
theorem dX7_brief_6 : decode cX7_brief 6 = .ok (.ifCond .eq 13, 3) := by decide +kernel
theorem dX7_brief_9 : decode cX7_brief 9 = .ok (.iload 4, 2) := by decide +kernel
theorem dX7_brief_11 : decode cX7_brief 11 = .ok (.iconst 0, 1) := by decide +kernel
theorem dX7_brief_12 : decode cX7_brief 12 = .ok (.iconst 2, 1) := by decide +kernel
theorem dX7_brief_13 : decode cX7_brief 13 = .ok (.invokestatic 59, 3) := by decide +kernel
theorem dX7_brief_16 : decode cX7_brief 16 = .ok (.ifCond .ne 10, 3) := by decide +kernel
theorem dX7_brief_19 : decode cX7_brief 19 = .ok (.aload_n 0, 1) := by decide +kernel
