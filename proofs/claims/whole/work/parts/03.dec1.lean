/-! decode rows 1 -/
theorem dX7_brief_20 : decode cX7_brief 20 = .ok (.ldc 63, 2) := by decide +kernel
theorem dX7_brief_22 : decode cX7_brief 22 = .ok (.invokevirtual 64, 3) := by decide +kernel
theorem dX7_brief_25 : decode cX7_brief 25 = .ok (.ireturn, 1) := by decide +kernel
theorem dX7_brief_26 : decode cX7_brief 26 = .ok (.aload_n 0, 1) := by decide +kernel
theorem dX7_brief_27 : decode cX7_brief 27 = .ok (.getfield 50, 3) := by decide +kernel
theorem dX7_brief_30 : decode cX7_brief 30 = .ok (.iload_n 1, 1) := by decide +kernel
theorem dX7_brief_31 : decode cX7_brief 31 = .ok (.iload_n 2, 1) := by decide +kernel
theorem dX7_brief_32 : decode cX7_brief 32 = .ok (.invokevirtual 225, 3) := by decide +kernel
theorem dX7_brief_35 : decode cX7_brief 35 = .ok (.iconst 0, 1) := by decide +kernel
theorem dX7_brief_36 : decode cX7_brief 36 = .ok (.istore 5, 2) := by decide +kernel
theorem dX7_brief_38 : decode cX7_brief 38 = .ok (.iload 5, 2) := by decide +kernel
theorem dX7_brief_40 : decode cX7_brief 40 = .ok (.iload_n 3, 1) := by decide +kernel
theorem dX7_brief_41 : decode cX7_brief 41 = .ok (.if_icmp .ge 16, 3) := by decide +kernel
theorem dX7_brief_44 : decode cX7_brief 44 = .ok (.aload_n 0, 1) := by decide +kernel
theorem dX7_brief_45 : decode cX7_brief 45 = .ok (.getfield 50, 3) := by decide +kernel
theorem dX7_brief_48 : decode cX7_brief 48 = .ok (.invokevirtual 229, 3) := by decide +kernel
theorem dX7_brief_51 : decode cX7_brief 51 = .ok (.iinc 5 1, 3) := by decide +kernel
theorem dX7_brief_54 : decode cX7_brief 54 = .ok (.goto (-16), 3) := by decide +kernel
theorem dX7_brief_57 : decode cX7_brief 57 = .ok (.iload 4, 2) := by decide +kernel
theorem dX7_brief_59 : decode cX7_brief 59 = .ok (.lookupswitch 43 #[(0, 25), (1, 34)], 25) := by decide +kernel
theorem dX7_brief_84 : decode cX7_brief 84 = .ok (.aload_n 0, 1) := by decide +kernel
theorem dX7_brief_85 : decode cX7_brief 85 = .ok (.getfield 50, 3) := by decide +kernel
theorem dX7_brief_88 : decode cX7_brief 88 = .ok (.getfield 232, 3) := by decide +kernel
theorem dX7_brief_91 : decode cX7_brief 91 = .ok (.l2i, 1) := by decide +kernel
theorem dX7_brief_92 : decode cX7_brief 92 = .ok (.ireturn, 1) := by decide +kernel
theorem dX7_brief_93 : decode cX7_brief 93 = .ok (.aload_n 0, 1) := by decide +kernel
theorem dX7_brief_94 : decode cX7_brief 94 = .ok (.getfield 50, 3) := by decide +kernel
theorem dX7_brief_97 : decode cX7_brief 97 = .ok (.getfield 236, 3) := by decide +kernel
theorem dX7_brief_100 : decode cX7_brief 100 = .ok (.l2i, 1) := by decide +kernel
theorem dX7_brief_101 : decode cX7_brief 101 = .ok (.ireturn, 1) := by decide +kernel
theorem dX7_brief_102 : decode cX7_brief 102 = .ok (.aload_n 0, 1) := by decide +kernel
theorem dX7_brief_103 : decode cX7_brief 103 = .ok (.getfield 50, 3) := by decide +kernel
theorem dX7_brief_106 : decode cX7_brief 106 = .ok (.getfield 239, 3) := by decide +kernel
theorem dX7_brief_109 : decode cX7_brief 109 = .ok (.l2i, 1) := by decide +kernel
theorem dX7_brief_110 : decode cX7_brief 110 = .ok (.ireturn, 1) := by decide +kernel
theorem dX7_flips_0 : decode cX7_flips 0 = .ok (.iload_n 1, 1) := by decide +kernel
theorem dX7_flips_1 : decode cX7_flips 1 = .ok (.iload_n 2, 1) := by decide +kernel
theorem dX7_flips_2 : decode cX7_flips 2 = .ok (.iload_n 3, 1) := by decide +kernel
theorem dX7_flips_3 : decode cX7_flips 3 = .ok (.invokestatic 222, 3) := by decide +kernel
theorem dX7_flips_6 : decode cX7_flips 6 = .ok (.ifCond .ne 10, 3) := by decide +kernel
theorem dX7_flips_9 : decode cX7_flips 9 = .ok (.aload_n 0, 1) := by decide +kernel
theorem dX7_flips_10 : decode cX7_flips 10 = .ok (.ldc 63, 2) := by decide +kernel
theorem dX7_flips_12 : decode cX7_flips 12 = .ok (.invokevirtual 64, 3) := by decide +kernel
theorem dX7_flips_15 : decode cX7_flips 15 = .ok (.ireturn, 1) := by decide +kernel
theorem dX7_flips_16 : decode cX7_flips 16 = .ok (.aload_n 0, 1) := by decide +kernel
theorem dX7_flips_17 : decode cX7_flips 17 = .ok (.getfield 50, 3) := by decide +kernel
theorem dX7_flips_20 : decode cX7_flips 20 = .ok (.iload_n 1, 1) := by decide +kernel
theorem dX7_flips_21 : decode cX7_flips 21 = .ok (.iload_n 2, 1) := by decide +kernel
theorem dX7_flips_22 : decode cX7_flips 22 = .ok (.invokevirtual 225, 3) := by decide +kernel
theorem dX7_flips_25 : decode cX7_flips 25 = .ok (.aload_n 0, 1) := by decide +kernel
theorem dX7_flips_26 : decode cX7_flips 26 = .ok (.getfield 50, 3) := by decide +kernel
theorem dX7_flips_29 : decode cX7_flips 29 = .ok (.getfield 232, 3) := by decide +kernel
theorem dX7_flips_32 : decode cX7_flips 32 = .ok (.lconst 0, 1) := by decide +kernel
theorem dX7_flips_33 : decode cX7_flips 33 = .ok (.invokestatic 242, 3) := by decide +kernel
theorem dX7_flips_36 : decode cX7_flips 36 = .ok (.istore 4, 2) := by decide +kernel
theorem dX7_flips_38 : decode cX7_flips 38 = .ok (.iconst 0, 1) := by decide +kernel
theorem dX7_flips_39 : decode cX7_flips 39 = .ok (.istore 5, 2) := by decide +kernel
theorem dX7_flips_41 : decode cX7_flips 41 = .ok (.iconst 0, 1) := by decide +kernel
theorem dX7_flips_42 : decode cX7_flips 42 = .ok (.istore 6, 2) := by decide +kernel
theorem dX7_flips_44 : decode cX7_flips 44 = .ok (.iload 6, 2) := by decide +kernel
theorem dX7_flips_46 : decode cX7_flips 46 = .ok (.iload_n 3, 1) := by decide +kernel
theorem dX7_flips_47 : decode cX7_flips 47 = .ok (.if_icmp .ge 49, 3) := by decide +kernel
theorem dX7_flips_50 : decode cX7_flips 50 = .ok (.aload_n 0, 1) := by decide +kernel
theorem dX7_flips_51 : decode cX7_flips 51 = .ok (.getfield 50, 3) := by decide +kernel
theorem dX7_flips_54 : decode cX7_flips 54 = .ok (.invokevirtual 229, 3) := by decide +kernel
theorem dX7_flips_57 : decode cX7_flips 57 = .ok (.aload_n 0, 1) := by decide +kernel
theorem dX7_flips_58 : decode cX7_flips 58 = .ok (.getfield 50, 3) := by decide +kernel
theorem dX7_flips_61 : decode cX7_flips 61 = .ok (.getfield 232, 3) := by decide +kernel
theorem dX7_flips_64 : decode cX7_flips 64 = .ok (.lconst 0, 1) := by decide +kernel
theorem dX7_flips_65 : decode cX7_flips 65 = .ok (.invokestatic 242, 3) := by decide +kernel
theorem dX7_flips_68 : decode cX7_flips 68 = .ok (.istore 7, 2) := by decide +kernel
theorem dX7_flips_70 : decode cX7_flips 70 = .ok (.iload 7, 2) := by decide +kernel
theorem dX7_flips_72 : decode cX7_flips 72 = .ok (.iload 4, 2) := by decide +kernel
theorem dX7_flips_74 : decode cX7_flips 74 = .ok (.imul, 1) := by decide +kernel
theorem dX7_flips_75 : decode cX7_flips 75 = .ok (.ifCond .ge 6, 3) := by decide +kernel
theorem dX7_flips_78 : decode cX7_flips 78 = .ok (.iinc 5 1, 3) := by decide +kernel
theorem dX7_flips_81 : decode cX7_flips 81 = .ok (.iload 7, 2) := by decide +kernel
theorem dX7_flips_83 : decode cX7_flips 83 = .ok (.ifCond .eq 7, 3) := by decide +kernel
theorem dX7_flips_86 : decode cX7_flips 86 = .ok (.iload 7, 2) := by decide +kernel
theorem dX7_flips_88 : decode cX7_flips 88 = .ok (.istore 4, 2) := by decide +kernel
theorem dX7_flips_90 : decode cX7_flips 90 = .ok (.iinc 6 1, 3) := by decide +kernel
theorem dX7_flips_93 : decode cX7_flips 93 = .ok (.goto (-49), 3) := by decide +kernel
theorem dX7_flips_96 : decode cX7_flips 96 = .ok (.iload 5, 2) := by decide +kernel
theorem dX7_flips_98 : decode cX7_flips 98 = .ok (.ireturn, 1) := by decide +kernel
theorem dX7_seed_0 : decode cX7_seed 0 = .ok (.aload_n 0, 1) := by decide +kernel
theorem dX7_seed_1 : decode cX7_seed 1 = .ok (.getfield 12, 3) := by decide +kernel
theorem dX7_seed_4 : decode cX7_seed 4 = .ok (.getfield 248, 3) := by decide +kernel
theorem dX7_seed_7 : decode cX7_seed 7 = .ok (.istore_n 2, 1) := by decide +kernel
theorem dX7_seed_8 : decode cX7_seed 8 = .ok (.aload_n 0, 1) := by decide +kernel
theorem dX7_seed_9 : decode cX7_seed 9 = .ok (.getfield 12, 3) := by decide +kernel
theorem dX7_seed_12 : decode cX7_seed 12 = .ok (.iload_n 1, 1) := by decide +kernel
theorem dX7_seed_13 : decode cX7_seed 13 = .ok (.putfield 248, 3) := by decide +kernel
theorem dX7_seed_16 : decode cX7_seed 16 = .ok (.iload_n 2, 1) := by decide +kernel
theorem dX7_seed_17 : decode cX7_seed 17 = .ok (.ireturn, 1) := by decide +kernel
theorem dX7_hold_0 : decode cX7_hold 0 = .ok (.iload_n 1, 1) := by decide +kernel
theorem dX7_hold_1 : decode cX7_hold 1 = .ok (.invokestatic 250, 3) := by decide +kernel
theorem dX7_hold_4 : decode cX7_hold 4 = .ok (.ifCond .eq 15, 3) := by decide +kernel
theorem dX7_hold_7 : decode cX7_hold 7 = .ok (.iload_n 2, 1) := by decide +kernel
theorem dX7_hold_8 : decode cX7_hold 8 = .ok (.iconst (-1), 1) := by decide +kernel
theorem dX7_hold_9 : decode cX7_hold 9 = .ok (.if_icmp .eq 17, 3) := by decide +kernel
theorem dX7_hold_12 : decode cX7_hold 12 = .ok (.iload_n 2, 1) := by decide +kernel
theorem dX7_hold_13 : decode cX7_hold 13 = .ok (.invokestatic 74, 3) := by decide +kernel
theorem dX7_hold_16 : decode cX7_hold 16 = .ok (.ifCond .ne 10, 3) := by decide +kernel
theorem dX7_hold_19 : decode cX7_hold 19 = .ok (.aload_n 0, 1) := by decide +kernel
theorem dX7_hold_20 : decode cX7_hold 20 = .ok (.ldc 63, 2) := by decide +kernel
theorem dX7_hold_22 : decode cX7_hold 22 = .ok (.invokevirtual 64, 3) := by decide +kernel
theorem dX7_hold_25 : decode cX7_hold 25 = .ok (.ireturn, 1) := by decide +kernel
theorem dX7_hold_26 : decode cX7_hold 26 = .ok (.aload_n 0, 1) := by decide +kernel
theorem dX7_hold_27 : decode cX7_hold 27 = .ok (.getfield 12, 3) := by decide +kernel
theorem dX7_hold_30 : decode cX7_hold 30 = .ok (.getfield 253, 3) := by decide +kernel
theorem dX7_hold_33 : decode cX7_hold 33 = .ok (.iload_n 1, 1) := by decide +kernel
theorem dX7_hold_34 : decode cX7_hold 34 = .ok (.iload_n 2, 1) := by decide +kernel
theorem dX7_hold_35 : decode cX7_hold 35 = .ok (.iastore, 1) := by decide +kernel
theorem dX7_hold_36 : decode cX7_hold 36 = .ok (.iconst 1, 1) := by decide +kernel
theorem dX7_hold_37 : decode cX7_hold 37 = .ok (.ireturn, 1) := by decide +kernel
theorem dX7_as_0 : decode cX7_as 0 = .ok (.iload_n 1, 1) := by decide +kernel
theorem dX7_as_1 : decode cX7_as 1 = .ok (.invokestatic 250, 3) := by decide +kernel
theorem dX7_as_4 : decode cX7_as 4 = .ok (.ifCond .eq 10, 3) := by decide +kernel
theorem dX7_as_7 : decode cX7_as 7 = .ok (.iload_n 2, 1) := by decide +kernel
theorem dX7_as_8 : decode cX7_as 8 = .ok (.invokestatic 78, 3) := by decide +kernel
theorem dX7_as_11 : decode cX7_as 11 = .ok (.ifCond .ne 10, 3) := by decide +kernel
theorem dX7_as_14 : decode cX7_as 14 = .ok (.aload_n 0, 1) := by decide +kernel
theorem dX7_as_15 : decode cX7_as 15 = .ok (.ldc 63, 2) := by decide +kernel
theorem dX7_as_17 : decode cX7_as 17 = .ok (.invokevirtual 64, 3) := by decide +kernel
theorem dX7_as_20 : decode cX7_as 20 = .ok (.ireturn, 1) := by decide +kernel
theorem dX7_as_21 : decode cX7_as 21 = .ok (.aload_n 0, 1) := by decide +kernel
theorem dX7_as_22 : decode cX7_as 22 = .ok (.getfield 12, 3) := by decide +kernel
theorem dX7_as_25 : decode cX7_as 25 = .ok (.getfield 253, 3) := by decide +kernel
theorem dX7_as_28 : decode cX7_as 28 = .ok (.iload_n 1, 1) := by decide +kernel
theorem dX7_as_29 : decode cX7_as 29 = .ok (.iaload, 1) := by decide +kernel
theorem dX7_as_30 : decode cX7_as 30 = .ok (.istore_n 3, 1) := by decide +kernel
theorem dX7_as_31 : decode cX7_as 31 = .ok (.iload_n 3, 1) := by decide +kernel
theorem dX7_as_32 : decode cX7_as 32 = .ok (.invokestatic 74, 3) := by decide +kernel
theorem dX7_as_35 : decode cX7_as 35 = .ok (.ifCond .ne 11, 3) := by decide +kernel
theorem dX7_as_38 : decode cX7_as 38 = .ok (.aload_n 0, 1) := by decide +kernel
theorem dX7_as_39 : decode cX7_as 39 = .ok (.ldc_w 256, 3) := by decide +kernel
theorem dX7_as_42 : decode cX7_as 42 = .ok (.invokevirtual 64, 3) := by decide +kernel
theorem dX7_as_45 : decode cX7_as 45 = .ok (.ireturn, 1) := by decide +kernel
theorem dX7_as_46 : decode cX7_as 46 = .ok (.aload_n 0, 1) := by decide +kernel
theorem dX7_as_47 : decode cX7_as 47 = .ok (.getfield 12, 3) := by decide +kernel
theorem dX7_as_50 : decode cX7_as 50 = .ok (.getfield 68, 3) := by decide +kernel
theorem dX7_as_53 : decode cX7_as 53 = .ok (.iload_n 3, 1) := by decide +kernel
theorem dX7_as_54 : decode cX7_as 54 = .ok (.iload_n 2, 1) := by decide +kernel
theorem dX7_as_55 : decode cX7_as 55 = .ok (.invokevirtual 257, 3) := by decide +kernel
theorem dX7_as_58 : decode cX7_as 58 = .ok (.ifCond .ne 11, 3) := by decide +kernel
theorem dX7_as_61 : decode cX7_as 61 = .ok (.aload_n 0, 1) := by decide +kernel
theorem dX7_as_62 : decode cX7_as 62 = .ok (.ldc_w 260, 3) := by decide +kernel
theorem dX7_as_65 : decode cX7_as 65 = .ok (.invokevirtual 64, 3) := by decide +kernel
theorem dX7_as_68 : decode cX7_as 68 = .ok (.ireturn, 1) := by decide +kernel
theorem dX7_as_69 : decode cX7_as 69 = .ok (.iload_n 3, 1) := by decide +kernel
theorem dX7_as_70 : decode cX7_as 70 = .ok (.ireturn, 1) := by decide +kernel
theorem dX7_sheet_0 : decode cX7_sheet 0 = .ok (.iload_n 2, 1) := by decide +kernel
theorem dX7_sheet_1 : decode cX7_sheet 1 = .ok (.ifCond .eq 21, 3) := by decide +kernel
theorem dX7_sheet_4 : decode cX7_sheet 4 = .ok (.iload_n 2, 1) := by decide +kernel
theorem dX7_sheet_5 : decode cX7_sheet 5 = .ok (.bipush 8, 2) := by decide +kernel
theorem dX7_sheet_7 : decode cX7_sheet 7 = .ok (.if_icmp .eq 15, 3) := by decide +kernel
theorem dX7_sheet_10 : decode cX7_sheet 10 = .ok (.iload_n 2, 1) := by decide +kernel
theorem dX7_sheet_11 : decode cX7_sheet 11 = .ok (.bipush 16, 2) := by decide +kernel
theorem dX7_sheet_13 : decode cX7_sheet 13 = .ok (.if_icmp .eq 9, 3) := by decide +kernel
theorem dX7_sheet_16 : decode cX7_sheet 16 = .ok (.iload_n 2, 1) := by decide +kernel
theorem dX7_sheet_17 : decode cX7_sheet 17 = .ok (.bipush 32, 2) := by decide +kernel
theorem dX7_sheet_19 : decode cX7_sheet 19 = .ok (.if_icmp .ne 7, 3) := by decide +kernel
theorem dX7_sheet_22 : decode cX7_sheet 22 = .ok (.iconst 1, 1) := by decide +kernel
theorem dX7_sheet_23 : decode cX7_sheet 23 = .ok (.goto 4, 3) := by decide +kernel
theorem dX7_sheet_26 : decode cX7_sheet 26 = .ok (.iconst 0, 1) := by decide +kernel
theorem dX7_sheet_27 : decode cX7_sheet 27 = .ok (.istore 4, 2) := by decide +kernel
theorem dX7_sheet_29 : decode cX7_sheet 29 = .ok (.iload_n 1, 1) := by decide +kernel
theorem dX7_sheet_30 : decode cX7_sheet 30 = .ok (.invokestatic 261, 3) := by decide +kernel
theorem dX7_sheet_33 : decode cX7_sheet 33 = .ok (.ifCond .eq 8, 3) := by decide +kernel
theorem dX7_sheet_36 : decode cX7_sheet 36 = .ok (.iload 4, 2) := by decide +kernel
theorem dX7_sheet_38 : decode cX7_sheet 38 = .ok (.ifCond .ne 10, 3) := by decide +kernel
theorem dX7_sheet_41 : decode cX7_sheet 41 = .ok (.aload_n 0, 1) := by decide +kernel
theorem dX7_sheet_42 : decode cX7_sheet 42 = .ok (.ldc 63, 2) := by decide +kernel
theorem dX7_sheet_44 : decode cX7_sheet 44 = .ok (.invokevirtual 64, 3) := by decide +kernel
theorem dX7_sheet_47 : decode cX7_sheet 47 = .ok (.ireturn, 1) := by decide +kernel
theorem dX7_sheet_48 : decode cX7_sheet 48 = .ok (.iload_n 3, 1) := by decide +kernel
theorem dX7_sheet_49 : decode cX7_sheet 49 = .ok (.ifCond .ge 11, 3) := by decide +kernel
theorem dX7_sheet_52 : decode cX7_sheet 52 = .ok (.aload_n 0, 1) := by decide +kernel
theorem dX7_sheet_53 : decode cX7_sheet 53 = .ok (.ldc_w 264, 3) := by decide +kernel
theorem dX7_sheet_56 : decode cX7_sheet 56 = .ok (.invokevirtual 64, 3) := by decide +kernel
theorem dX7_sheet_59 : decode cX7_sheet 59 = .ok (.ireturn, 1) := by decide +kernel
theorem dX7_sheet_60 : decode cX7_sheet 60 = .ok (.iload_n 3, 1) := by decide +kernel
theorem dX7_sheet_61 : decode cX7_sheet 61 = .ok (.bipush 40, 2) := by decide +kernel
theorem dX7_sheet_63 : decode cX7_sheet 63 = .ok (.if_icmp .le 10, 3) := by decide +kernel
theorem dX7_sheet_66 : decode cX7_sheet 66 = .ok (.aload_n 0, 1) := by decide +kernel
theorem dX7_sheet_67 : decode cX7_sheet 67 = .ok (.ldc 63, 2) := by decide +kernel
theorem dX7_sheet_69 : decode cX7_sheet 69 = .ok (.invokevirtual 64, 3) := by decide +kernel
theorem dX7_sheet_72 : decode cX7_sheet 72 = .ok (.ireturn, 1) := by decide +kernel
theorem dX7_sheet_73 : decode cX7_sheet 73 = .ok (.aload_n 0, 1) := by decide +kernel
theorem dX7_sheet_74 : decode cX7_sheet 74 = .ok (.getfield 33, 3) := by decide +kernel
theorem dX7_sheet_77 : decode cX7_sheet 77 = .ok (.iload_n 1, 1) := by decide +kernel
theorem dX7_sheet_78 : decode cX7_sheet 78 = .ok (.aaload, 1) := by decide +kernel
theorem dX7_sheet_79 : decode cX7_sheet 79 = .ok (.iload_n 2, 1) := by decide +kernel
theorem dX7_sheet_80 : decode cX7_sheet 80 = .ok (.iload_n 3, 1) := by decide +kernel
theorem dX7_sheet_81 : decode cX7_sheet 81 = .ok (.invokevirtual 265, 3) := by decide +kernel
theorem dX7_sheet_84 : decode cX7_sheet 84 = .ok (.iload_n 2, 1) := by decide +kernel
theorem dX7_sheet_85 : decode cX7_sheet 85 = .ok (.ifCond .ne 7, 3) := by decide +kernel
theorem dX7_sheet_88 : decode cX7_sheet 88 = .ok (.iconst 0, 1) := by decide +kernel
theorem dX7_sheet_89 : decode cX7_sheet 89 = .ok (.goto 4, 3) := by decide +kernel
theorem dX7_sheet_92 : decode cX7_sheet 92 = .ok (.iload_n 3, 1) := by decide +kernel
theorem dX7_sheet_93 : decode cX7_sheet 93 = .ok (.ireturn, 1) := by decide +kernel
theorem dX7_write_0 : decode cX7_write 0 = .ok (.iload_n 1, 1) := by decide +kernel
theorem dX7_write_1 : decode cX7_write 1 = .ok (.invokestatic 261, 3) := by decide +kernel
theorem dX7_write_4 : decode cX7_write 4 = .ok (.ifCond .ne 10, 3) := by decide +kernel
theorem dX7_write_7 : decode cX7_write 7 = .ok (.aload_n 0, 1) := by decide +kernel
theorem dX7_write_8 : decode cX7_write 8 = .ok (.ldc 63, 2) := by decide +kernel
theorem dX7_write_10 : decode cX7_write 10 = .ok (.invokevirtual 64, 3) := by decide +kernel
theorem dX7_write_13 : decode cX7_write 13 = .ok (.ireturn, 1) := by decide +kernel
theorem dX7_write_14 : decode cX7_write 14 = .ok (.aload_n 0, 1) := by decide +kernel
theorem dX7_write_15 : decode cX7_write 15 = .ok (.getfield 33, 3) := by decide +kernel
theorem dX7_write_18 : decode cX7_write 18 = .ok (.iload_n 1, 1) := by decide +kernel
theorem dX7_write_19 : decode cX7_write 19 = .ok (.aaload, 1) := by decide +kernel
theorem dX7_write_20 : decode cX7_write 20 = .ok (.invokevirtual 266, 3) := by decide +kernel
theorem dX7_write_23 : decode cX7_write 23 = .ok (.ifCond .eq 11, 3) := by decide +kernel
theorem dX7_write_26 : decode cX7_write 26 = .ok (.aload_n 0, 1) := by decide +kernel
theorem dX7_write_27 : decode cX7_write 27 = .ok (.ldc_w 256, 3) := by decide +kernel
theorem dX7_write_30 : decode cX7_write 30 = .ok (.invokevirtual 64, 3) := by decide +kernel
theorem dX7_write_33 : decode cX7_write 33 = .ok (.ireturn, 1) := by decide +kernel
theorem dX7_write_34 : decode cX7_write 34 = .ok (.iload_n 2, 1) := by decide +kernel
theorem dX7_write_35 : decode cX7_write 35 = .ok (.iconst 0, 1) := by decide +kernel
theorem dX7_write_36 : decode cX7_write 36 = .ok (.aload_n 0, 1) := by decide +kernel
theorem dX7_write_37 : decode cX7_write 37 = .ok (.getfield 33, 3) := by decide +kernel
theorem dX7_write_40 : decode cX7_write 40 = .ok (.iload_n 1, 1) := by decide +kernel
theorem dX7_write_41 : decode cX7_write 41 = .ok (.aaload, 1) := by decide +kernel
theorem dX7_write_42 : decode cX7_write 42 = .ok (.getfield 270, 3) := by decide +kernel
theorem dX7_write_45 : decode cX7_write 45 = .ok (.iconst 1, 1) := by decide +kernel
theorem dX7_write_46 : decode cX7_write 46 = .ok (.isub, 1) := by decide +kernel
theorem dX7_write_47 : decode cX7_write 47 = .ok (.invokestatic 59, 3) := by decide +kernel
theorem dX7_write_50 : decode cX7_write 50 = .ok (.ifCond .ne 10, 3) := by decide +kernel
theorem dX7_write_53 : decode cX7_write 53 = .ok (.aload_n 0, 1) := by decide +kernel
theorem dX7_write_54 : decode cX7_write 54 = .ok (.ldc 63, 2) := by decide +kernel
theorem dX7_write_56 : decode cX7_write 56 = .ok (.invokevirtual 64, 3) := by decide +kernel
theorem dX7_write_59 : decode cX7_write 59 = .ok (.ireturn, 1) := by decide +kernel
theorem dX7_write_60 : decode cX7_write 60 = .ok (.aload_n 0, 1) := by decide +kernel
theorem dX7_write_61 : decode cX7_write 61 = .ok (.getfield 33, 3) := by decide +kernel
theorem dX7_write_64 : decode cX7_write 64 = .ok (.iload_n 1, 1) := by decide +kernel
theorem dX7_write_65 : decode cX7_write 65 = .ok (.aaload, 1) := by decide +kernel
theorem dX7_write_66 : decode cX7_write 66 = .ok (.iload_n 2, 1) := by decide +kernel
theorem dX7_write_67 : decode cX7_write 67 = .ok (.iload_n 3, 1) := by decide +kernel
theorem dX7_write_68 : decode cX7_write 68 = .ok (.invokevirtual 271, 3) := by decide +kernel
theorem dX7_write_71 : decode cX7_write 71 = .ok (.iconst 1, 1) := by decide +kernel
theorem dX7_write_72 : decode cX7_write 72 = .ok (.ireturn, 1) := by decide +kernel
theorem dX7_copy_0 : decode cX7_copy 0 = .ok (.iload_n 1, 1) := by decide +kernel
theorem dX7_copy_1 : decode cX7_copy 1 = .ok (.invokestatic 261, 3) := by decide +kernel
theorem dX7_copy_4 : decode cX7_copy 4 = .ok (.ifCond .eq 10, 3) := by decide +kernel
theorem dX7_copy_7 : decode cX7_copy 7 = .ok (.iload_n 3, 1) := by decide +kernel
theorem dX7_copy_8 : decode cX7_copy 8 = .ok (.invokestatic 261, 3) := by decide +kernel
theorem dX7_copy_11 : decode cX7_copy 11 = .ok (.ifCond .ne 10, 3) := by decide +kernel
theorem dX7_copy_14 : decode cX7_copy 14 = .ok (.aload_n 0, 1) := by decide +kernel
theorem dX7_copy_15 : decode cX7_copy 15 = .ok (.ldc 63, 2) := by decide +kernel
theorem dX7_copy_17 : decode cX7_copy 17 = .ok (.invokevirtual 64, 3) := by decide +kernel
theorem dX7_copy_20 : decode cX7_copy 20 = .ok (.ireturn, 1) := by decide +kernel
theorem dX7_copy_21 : decode cX7_copy 21 = .ok (.aload_n 0, 1) := by decide +kernel
theorem dX7_copy_22 : decode cX7_copy 22 = .ok (.getfield 33, 3) := by decide +kernel
theorem dX7_copy_25 : decode cX7_copy 25 = .ok (.iload_n 1, 1) := by decide +kernel
theorem dX7_copy_26 : decode cX7_copy 26 = .ok (.aaload, 1) := by decide +kernel
theorem dX7_copy_27 : decode cX7_copy 27 = .ok (.astore 6, 2) := by decide +kernel
theorem dX7_copy_29 : decode cX7_copy 29 = .ok (.aload_n 0, 1) := by decide +kernel
theorem dX7_copy_30 : decode cX7_copy 30 = .ok (.getfield 33, 3) := by decide +kernel
theorem dX7_copy_33 : decode cX7_copy 33 = .ok (.iload_n 3, 1) := by decide +kernel
theorem dX7_copy_34 : decode cX7_copy 34 = .ok (.aaload, 1) := by decide +kernel
theorem dX7_copy_35 : decode cX7_copy 35 = .ok (.astore 7, 2) := by decide +kernel
theorem dX7_copy_37 : decode cX7_copy 37 = .ok (.aload 6, 2) := by decide +kernel
theorem dX7_copy_39 : decode cX7_copy 39 = .ok (.invokevirtual 266, 3) := by decide +kernel
theorem dX7_copy_42 : decode cX7_copy 42 = .ok (.ifCond .ne 11, 3) := by decide +kernel
theorem dX7_copy_45 : decode cX7_copy 45 = .ok (.aload 7, 2) := by decide +kernel
theorem dX7_copy_47 : decode cX7_copy 47 = .ok (.invokevirtual 266, 3) := by decide +kernel
theorem dX7_copy_50 : decode cX7_copy 50 = .ok (.ifCond .eq 11, 3) := by decide +kernel
theorem dX7_copy_53 : decode cX7_copy 53 = .ok (.aload_n 0, 1) := by decide +kernel
theorem dX7_copy_54 : decode cX7_copy 54 = .ok (.ldc_w 256, 3) := by decide +kernel
theorem dX7_copy_57 : decode cX7_copy 57 = .ok (.invokevirtual 64, 3) := by decide +kernel
theorem dX7_copy_60 : decode cX7_copy 60 = .ok (.ireturn, 1) := by decide +kernel
theorem dX7_copy_61 : decode cX7_copy 61 = .ok (.aload 6, 2) := by decide +kernel
theorem dX7_copy_63 : decode cX7_copy 63 = .ok (.getfield 274, 3) := by decide +kernel
theorem dX7_copy_66 : decode cX7_copy 66 = .ok (.aload 7, 2) := by decide +kernel
theorem dX7_copy_68 : decode cX7_copy 68 = .ok (.getfield 274, 3) := by decide +kernel
theorem dX7_copy_71 : decode cX7_copy 71 = .ok (.if_icmp .eq 11, 3) := by decide +kernel
theorem dX7_copy_74 : decode cX7_copy 74 = .ok (.aload_n 0, 1) := by decide +kernel
theorem dX7_copy_75 : decode cX7_copy 75 = .ok (.ldc_w 260, 3) := by decide +kernel
theorem dX7_copy_78 : decode cX7_copy 78 = .ok (.invokevirtual 64, 3) := by decide +kernel
theorem dX7_copy_81 : decode cX7_copy 81 = .ok (.ireturn, 1) := by decide +kernel
theorem dX7_copy_82 : decode cX7_copy 82 = .ok (.aload 6, 2) := by decide +kernel
theorem dX7_copy_84 : decode cX7_copy 84 = .ok (.iload_n 2, 1) := by decide +kernel
theorem dX7_copy_85 : decode cX7_copy 85 = .ok (.iload 5, 2) := by decide +kernel
theorem dX7_copy_87 : decode cX7_copy 87 = .ok (.invokevirtual 277, 3) := by decide +kernel
theorem dX7_copy_90 : decode cX7_copy 90 = .ok (.ifCond .eq 15, 3) := by decide +kernel
theorem dX7_copy_93 : decode cX7_copy 93 = .ok (.aload 7, 2) := by decide +kernel
theorem dX7_copy_95 : decode cX7_copy 95 = .ok (.iload 4, 2) := by decide +kernel
theorem dX7_copy_97 : decode cX7_copy 97 = .ok (.iload 5, 2) := by decide +kernel
theorem dX7_copy_99 : decode cX7_copy 99 = .ok (.invokevirtual 277, 3) := by decide +kernel
theorem dX7_copy_102 : decode cX7_copy 102 = .ok (.ifCond .ne 10, 3) := by decide +kernel
theorem dX7_copy_105 : decode cX7_copy 105 = .ok (.aload_n 0, 1) := by decide +kernel
theorem dX7_copy_106 : decode cX7_copy 106 = .ok (.ldc 63, 2) := by decide +kernel
theorem dX7_copy_108 : decode cX7_copy 108 = .ok (.invokevirtual 64, 3) := by decide +kernel
theorem dX7_copy_111 : decode cX7_copy 111 = .ok (.ireturn, 1) := by decide +kernel
theorem dX7_copy_112 : decode cX7_copy 112 = .ok (.aload 6, 2) := by decide +kernel
theorem dX7_copy_114 : decode cX7_copy 114 = .ok (.getfield 280, 3) := by decide +kernel
theorem dX7_copy_117 : decode cX7_copy 117 = .ok (.iload_n 2, 1) := by decide +kernel
theorem dX7_copy_118 : decode cX7_copy 118 = .ok (.aload 7, 2) := by decide +kernel
theorem dX7_copy_120 : decode cX7_copy 120 = .ok (.getfield 280, 3) := by decide +kernel
theorem dX7_copy_123 : decode cX7_copy 123 = .ok (.iload 4, 2) := by decide +kernel
theorem dX7_copy_125 : decode cX7_copy 125 = .ok (.iload 5, 2) := by decide +kernel
theorem dX7_copy_127 : decode cX7_copy 127 = .ok (.invokestatic 283, 3) := by decide +kernel
theorem dX7_copy_130 : decode cX7_copy 130 = .ok (.iload 5, 2) := by decide +kernel
theorem dX7_copy_132 : decode cX7_copy 132 = .ok (.ireturn, 1) := by decide +kernel
theorem dX7_load_0 : decode cX7_load 0 = .ok (.iload_n 1, 1) := by decide +kernel
theorem dX7_load_1 : decode cX7_load 1 = .ok (.invokestatic 261, 3) := by decide +kernel
theorem dX7_load_4 : decode cX7_load 4 = .ok (.ifCond .ne 10, 3) := by decide +kernel
theorem dX7_load_7 : decode cX7_load 7 = .ok (.aload_n 0, 1) := by decide +kernel
theorem dX7_load_8 : decode cX7_load 8 = .ok (.ldc 63, 2) := by decide +kernel
theorem dX7_load_10 : decode cX7_load 10 = .ok (.invokevirtual 64, 3) := by decide +kernel
theorem dX7_load_13 : decode cX7_load 13 = .ok (.ireturn, 1) := by decide +kernel
theorem dX7_load_14 : decode cX7_load 14 = .ok (.aload_n 0, 1) := by decide +kernel
theorem dX7_load_15 : decode cX7_load 15 = .ok (.getfield 33, 3) := by decide +kernel
theorem dX7_load_18 : decode cX7_load 18 = .ok (.iload_n 1, 1) := by decide +kernel
theorem dX7_load_19 : decode cX7_load 19 = .ok (.aaload, 1) := by decide +kernel
theorem dX7_load_20 : decode cX7_load 20 = .ok (.astore_n 2, 1) := by decide +kernel
theorem dX7_load_21 : decode cX7_load 21 = .ok (.aload_n 2, 1) := by decide +kernel
theorem dX7_load_22 : decode cX7_load 22 = .ok (.invokevirtual 266, 3) := by decide +kernel
theorem dX7_load_25 : decode cX7_load 25 = .ok (.ifCond .eq 11, 3) := by decide +kernel
theorem dX7_load_28 : decode cX7_load 28 = .ok (.aload_n 0, 1) := by decide +kernel
theorem dX7_load_29 : decode cX7_load 29 = .ok (.ldc_w 256, 3) := by decide +kernel
theorem dX7_load_32 : decode cX7_load 32 = .ok (.invokevirtual 64, 3) := by decide +kernel
theorem dX7_load_35 : decode cX7_load 35 = .ok (.ireturn, 1) := by decide +kernel
theorem dX7_load_36 : decode cX7_load 36 = .ok (.iconst 0, 1) := by decide +kernel
theorem dX7_load_37 : decode cX7_load 37 = .ok (.istore_n 3, 1) := by decide +kernel
theorem dX7_load_38 : decode cX7_load 38 = .ok (.iload_n 3, 1) := by decide +kernel
theorem dX7_load_39 : decode cX7_load 39 = .ok (.aload_n 2, 1) := by decide +kernel
theorem dX7_load_40 : decode cX7_load 40 = .ok (.getfield 270, 3) := by decide +kernel
theorem dX7_load_43 : decode cX7_load 43 = .ok (.if_icmp .ge 57, 3) := by decide +kernel
theorem dX7_load_46 : decode cX7_load 46 = .ok (.iload_n 3, 1) := by decide +kernel
theorem dX7_load_47 : decode cX7_load 47 = .ok (.bipush 12, 2) := by decide +kernel
theorem dX7_load_49 : decode cX7_load 49 = .ok (.if_icmp .ge 51, 3) := by decide +kernel
theorem dX7_load_52 : decode cX7_load 52 = .ok (.aload_n 2, 1) := by decide +kernel
theorem dX7_load_53 : decode cX7_load 53 = .ok (.getfield 280, 3) := by decide +kernel
theorem dX7_load_56 : decode cX7_load 56 = .ok (.iload_n 3, 1) := by decide +kernel
theorem dX7_load_57 : decode cX7_load 57 = .ok (.iaload, 1) := by decide +kernel
theorem dX7_load_58 : decode cX7_load 58 = .ok (.iconst 0, 1) := by decide +kernel
theorem dX7_load_59 : decode cX7_load 59 = .ok (.aload_n 0, 1) := by decide +kernel
theorem dX7_load_60 : decode cX7_load 60 = .ok (.getfield 12, 3) := by decide +kernel
theorem dX7_load_63 : decode cX7_load 63 = .ok (.getfield 68, 3) := by decide +kernel
theorem dX7_load_66 : decode cX7_load 66 = .ok (.iload_n 3, 1) := by decide +kernel
theorem dX7_load_67 : decode cX7_load 67 = .ok (.invokevirtual 90, 3) := by decide +kernel
theorem dX7_load_70 : decode cX7_load 70 = .ok (.invokestatic 59, 3) := by decide +kernel
theorem dX7_load_73 : decode cX7_load 73 = .ok (.ifCond .eq 27, 3) := by decide +kernel
theorem dX7_load_76 : decode cX7_load 76 = .ok (.aload_n 0, 1) := by decide +kernel
theorem dX7_load_77 : decode cX7_load 77 = .ok (.getfield 12, 3) := by decide +kernel
theorem dX7_load_80 : decode cX7_load 80 = .ok (.getfield 68, 3) := by decide +kernel
theorem dX7_load_83 : decode cX7_load 83 = .ok (.getfield 84, 3) := by decide +kernel
theorem dX7_load_86 : decode cX7_load 86 = .ok (.iload_n 3, 1) := by decide +kernel
theorem dX7_load_87 : decode cX7_load 87 = .ok (.aload_n 2, 1) := by decide +kernel
theorem dX7_load_88 : decode cX7_load 88 = .ok (.getfield 280, 3) := by decide +kernel
theorem dX7_load_91 : decode cX7_load 91 = .ok (.iload_n 3, 1) := by decide +kernel
theorem dX7_load_92 : decode cX7_load 92 = .ok (.iaload, 1) := by decide +kernel
theorem dX7_load_93 : decode cX7_load 93 = .ok (.iastore, 1) := by decide +kernel
theorem dX7_load_94 : decode cX7_load 94 = .ok (.iinc 3 1, 3) := by decide +kernel
theorem dX7_load_97 : decode cX7_load 97 = .ok (.goto (-59), 3) := by decide +kernel
theorem dX7_load_100 : decode cX7_load 100 = .ok (.iload_n 3, 1) := by decide +kernel
theorem dX7_load_101 : decode cX7_load 101 = .ok (.ireturn, 1) := by decide +kernel
theorem dX7_judge_0 : decode cX7_judge 0 = .ok (.iload_n 1, 1) := by decide +kernel
theorem dX7_judge_1 : decode cX7_judge 1 = .ok (.invokestatic 261, 3) := by decide +kernel
theorem dX7_judge_4 : decode cX7_judge 4 = .ok (.ifCond .ne 10, 3) := by decide +kernel
theorem dX7_judge_7 : decode cX7_judge 7 = .ok (.aload_n 0, 1) := by decide +kernel
theorem dX7_judge_8 : decode cX7_judge 8 = .ok (.ldc 63, 2) := by decide +kernel
theorem dX7_judge_10 : decode cX7_judge 10 = .ok (.invokevirtual 64, 3) := by decide +kernel
theorem dX7_judge_13 : decode cX7_judge 13 = .ok (.ireturn, 1) := by decide +kernel
theorem dX7_judge_14 : decode cX7_judge 14 = .ok (.aload_n 0, 1) := by decide +kernel
theorem dX7_judge_15 : decode cX7_judge 15 = .ok (.getfield 33, 3) := by decide +kernel
theorem dX7_judge_18 : decode cX7_judge 18 = .ok (.iload_n 1, 1) := by decide +kernel
theorem dX7_judge_19 : decode cX7_judge 19 = .ok (.aaload, 1) := by decide +kernel
theorem dX7_judge_20 : decode cX7_judge 20 = .ok (.astore_n 2, 1) := by decide +kernel
theorem dX7_judge_21 : decode cX7_judge 21 = .ok (.aload_n 2, 1) := by decide +kernel
theorem dX7_judge_22 : decode cX7_judge 22 = .ok (.invokevirtual 266, 3) := by decide +kernel
theorem dX7_judge_25 : decode cX7_judge 25 = .ok (.ifCond .eq 11, 3) := by decide +kernel
theorem dX7_judge_28 : decode cX7_judge 28 = .ok (.aload_n 0, 1) := by decide +kernel
theorem dX7_judge_29 : decode cX7_judge 29 = .ok (.ldc_w 256, 3) := by decide +kernel
theorem dX7_judge_32 : decode cX7_judge 32 = .ok (.invokevirtual 64, 3) := by decide +kernel
theorem dX7_judge_35 : decode cX7_judge 35 = .ok (.ireturn, 1) := by decide +kernel
theorem dX7_judge_36 : decode cX7_judge 36 = .ok (.aload_n 0, 1) := by decide +kernel
theorem dX7_judge_37 : decode cX7_judge 37 = .ok (.getfield 40, 3) := by decide +kernel
theorem dX7_judge_40 : decode cX7_judge 40 = .ok (.aload_n 0, 1) := by decide +kernel
theorem dX7_judge_41 : decode cX7_judge 41 = .ok (.getfield 12, 3) := by decide +kernel
theorem dX7_judge_44 : decode cX7_judge 44 = .ok (.getfield 68, 3) := by decide +kernel
theorem dX7_judge_47 : decode cX7_judge 47 = .ok (.invokevirtual 190, 3) := by decide +kernel
theorem dX7_judge_50 : decode cX7_judge 50 = .ok (.iconst 0, 1) := by decide +kernel
theorem dX7_judge_51 : decode cX7_judge 51 = .ok (.istore_n 3, 1) := by decide +kernel
theorem dX7_judge_52 : decode cX7_judge 52 = .ok (.iload_n 3, 1) := by decide +kernel
theorem dX7_judge_53 : decode cX7_judge 53 = .ok (.aload_n 2, 1) := by decide +kernel
theorem dX7_judge_54 : decode cX7_judge 54 = .ok (.getfield 270, 3) := by decide +kernel
theorem dX7_judge_57 : decode cX7_judge 57 = .ok (.if_icmp .ge 36, 3) := by decide +kernel
theorem dX7_judge_60 : decode cX7_judge 60 = .ok (.aload_n 0, 1) := by decide +kernel
theorem dX7_judge_61 : decode cX7_judge 61 = .ok (.getfield 40, 3) := by decide +kernel
theorem dX7_judge_64 : decode cX7_judge 64 = .ok (.invokevirtual 203, 3) := by decide +kernel
theorem dX7_judge_67 : decode cX7_judge 67 = .ok (.aload_n 0, 1) := by decide +kernel
theorem dX7_judge_68 : decode cX7_judge 68 = .ok (.getfield 40, 3) := by decide +kernel
theorem dX7_judge_71 : decode cX7_judge 71 = .ok (.getfield 104, 3) := by decide +kernel
theorem dX7_judge_74 : decode cX7_judge 74 = .ok (.aload_n 2, 1) := by decide +kernel
theorem dX7_judge_75 : decode cX7_judge 75 = .ok (.getfield 280, 3) := by decide +kernel
theorem dX7_judge_78 : decode cX7_judge 78 = .ok (.iload_n 3, 1) := by decide +kernel
theorem dX7_judge_79 : decode cX7_judge 79 = .ok (.iaload, 1) := by decide +kernel
theorem dX7_judge_80 : decode cX7_judge 80 = .ok (.if_icmp .eq 7, 3) := by decide +kernel
theorem dX7_judge_83 : decode cX7_judge 83 = .ok (.iconst 1, 1) := by decide +kernel
theorem dX7_judge_84 : decode cX7_judge 84 = .ok (.iload_n 3, 1) := by decide +kernel
theorem dX7_judge_85 : decode cX7_judge 85 = .ok (.iadd, 1) := by decide +kernel
theorem dX7_judge_86 : decode cX7_judge 86 = .ok (.ireturn, 1) := by decide +kernel
theorem dX7_judge_87 : decode cX7_judge 87 = .ok (.iinc 3 1, 3) := by decide +kernel
theorem dX7_judge_90 : decode cX7_judge 90 = .ok (.goto (-38), 3) := by decide +kernel
theorem dX7_judge_93 : decode cX7_judge 93 = .ok (.iconst 0, 1) := by decide +kernel
theorem dX7_judge_94 : decode cX7_judge 94 = .ok (.ireturn, 1) := by decide +kernel
theorem dX7_image_0 : decode cX7_image 0 = .ok (.aload_n 0, 1) := by decide +kernel
theorem dX7_image_1 : decode cX7_image 1 = .ok (.getfield 16, 3) := by decide +kernel
theorem dX7_image_4 : decode cX7_image 4 = .ok (.aload_n 0, 1) := by decide +kernel
theorem dX7_image_5 : decode cX7_image 5 = .ok (.getfield 12, 3) := by decide +kernel
theorem dX7_image_8 : decode cX7_image 8 = .ok (.invokevirtual 289, 3) := by decide +kernel
theorem dX7_image_11 : decode cX7_image 11 = .ok (.aload_n 0, 1) := by decide +kernel
theorem dX7_image_12 : decode cX7_image 12 = .ok (.iconst 1, 1) := by decide +kernel
theorem dX7_image_13 : decode cX7_image 13 = .ok (.putfield 292, 3) := by decide +kernel
theorem dX7_image_16 : decode cX7_image 16 = .ok (.iconst 1, 1) := by decide +kernel
theorem dX7_image_17 : decode cX7_image 17 = .ok (.ireturn, 1) := by decide +kernel
theorem dX7_undo_0 : decode cX7_undo 0 = .ok (.aload_n 0, 1) := by decide +kernel
theorem dX7_undo_1 : decode cX7_undo 1 = .ok (.getfield 292, 3) := by decide +kernel
theorem dX7_undo_4 : decode cX7_undo 4 = .ok (.ifCond .ne 10, 3) := by decide +kernel
theorem dX7_undo_7 : decode cX7_undo 7 = .ok (.aload_n 0, 1) := by decide +kernel
theorem dX7_undo_8 : decode cX7_undo 8 = .ok (.ldc 145, 2) := by decide +kernel
theorem dX7_undo_10 : decode cX7_undo 10 = .ok (.invokevirtual 64, 3) := by decide +kernel
theorem dX7_undo_13 : decode cX7_undo 13 = .ok (.ireturn, 1) := by decide +kernel
theorem dX7_undo_14 : decode cX7_undo 14 = .ok (.aload_n 0, 1) := by decide +kernel
theorem dX7_undo_15 : decode cX7_undo 15 = .ok (.getfield 12, 3) := by decide +kernel
theorem dX7_undo_18 : decode cX7_undo 18 = .ok (.aload_n 0, 1) := by decide +kernel
theorem dX7_undo_19 : decode cX7_undo 19 = .ok (.getfield 16, 3) := by decide +kernel
theorem dX7_undo_22 : decode cX7_undo 22 = .ok (.invokevirtual 289, 3) := by decide +kernel
theorem dX7_undo_25 : decode cX7_undo 25 = .ok (.aload_n 0, 1) := by decide +kernel
theorem dX7_undo_26 : decode cX7_undo 26 = .ok (.getfield 12, 3) := by decide +kernel
theorem dX7_undo_29 : decode cX7_undo 29 = .ok (.getfield 68, 3) := by decide +kernel
theorem dX7_undo_32 : decode cX7_undo 32 = .ok (.getfield 127, 3) := by decide +kernel
theorem dX7_undo_35 : decode cX7_undo 35 = .ok (.ireturn, 1) := by decide +kernel
theorem dX7_tear_0 : decode cX7_tear 0 = .ok (.aload_n 0, 1) := by decide +kernel
theorem dX7_tear_1 : decode cX7_tear 1 = .ok (.getfield 292, 3) := by decide +kernel
theorem dX7_tear_4 : decode cX7_tear 4 = .ok (.ifCond .eq 7, 3) := by decide +kernel
theorem dX7_tear_7 : decode cX7_tear 7 = .ok (.iconst 1, 1) := by decide +kernel
theorem dX7_tear_8 : decode cX7_tear 8 = .ok (.goto 4, 3) := by decide +kernel
theorem dX7_tear_11 : decode cX7_tear 11 = .ok (.iconst 0, 1) := by decide +kernel
theorem dX7_tear_12 : decode cX7_tear 12 = .ok (.istore_n 1, 1) := by decide +kernel
theorem dX7_tear_13 : decode cX7_tear 13 = .ok (.aload_n 0, 1) := by decide +kernel
theorem dX7_tear_14 : decode cX7_tear 14 = .ok (.iconst 0, 1) := by decide +kernel
theorem dX7_tear_15 : decode cX7_tear 15 = .ok (.putfield 292, 3) := by decide +kernel
theorem dX7_tear_18 : decode cX7_tear 18 = .ok (.iload_n 1, 1) := by decide +kernel
theorem dX7_tear_19 : decode cX7_tear 19 = .ok (.ireturn, 1) := by decide +kernel
theorem dX7_count_0 : decode cX7_count 0 = .ok (.iload_n 1, 1) := by decide +kernel
theorem dX7_count_1 : decode cX7_count 1 = .ok (.tableswitch 149 0 8 #[51, 64, 77, 90, 103, 114, 125, 133, 141], 51) := by decide +kernel
theorem dX7_count_52 : decode cX7_count 52 = .ok (.aload_n 0, 1) := by decide +kernel
theorem dX7_count_53 : decode cX7_count 53 = .ok (.getfield 12, 3) := by decide +kernel
theorem dX7_count_56 : decode cX7_count 56 = .ok (.getfield 68, 3) := by decide +kernel
theorem dX7_count_59 : decode cX7_count 59 = .ok (.getfield 71, 3) := by decide +kernel
theorem dX7_count_62 : decode cX7_count 62 = .ok (.iconst 0, 1) := by decide +kernel
theorem dX7_count_63 : decode cX7_count 63 = .ok (.iaload, 1) := by decide +kernel
theorem dX7_count_64 : decode cX7_count 64 = .ok (.ireturn, 1) := by decide +kernel
theorem dX7_count_65 : decode cX7_count 65 = .ok (.aload_n 0, 1) := by decide +kernel
theorem dX7_count_66 : decode cX7_count 66 = .ok (.getfield 12, 3) := by decide +kernel
theorem dX7_count_69 : decode cX7_count 69 = .ok (.getfield 68, 3) := by decide +kernel
theorem dX7_count_72 : decode cX7_count 72 = .ok (.getfield 71, 3) := by decide +kernel
theorem dX7_count_75 : decode cX7_count 75 = .ok (.iconst 1, 1) := by decide +kernel
theorem dX7_count_76 : decode cX7_count 76 = .ok (.iaload, 1) := by decide +kernel
theorem dX7_count_77 : decode cX7_count 77 = .ok (.ireturn, 1) := by decide +kernel
theorem dX7_count_78 : decode cX7_count 78 = .ok (.aload_n 0, 1) := by decide +kernel
theorem dX7_count_79 : decode cX7_count 79 = .ok (.getfield 12, 3) := by decide +kernel
theorem dX7_count_82 : decode cX7_count 82 = .ok (.getfield 68, 3) := by decide +kernel
theorem dX7_count_85 : decode cX7_count 85 = .ok (.getfield 71, 3) := by decide +kernel
theorem dX7_count_88 : decode cX7_count 88 = .ok (.iconst 2, 1) := by decide +kernel
theorem dX7_count_89 : decode cX7_count 89 = .ok (.iaload, 1) := by decide +kernel
theorem dX7_count_90 : decode cX7_count 90 = .ok (.ireturn, 1) := by decide +kernel
theorem dX7_count_91 : decode cX7_count 91 = .ok (.aload_n 0, 1) := by decide +kernel
theorem dX7_count_92 : decode cX7_count 92 = .ok (.getfield 12, 3) := by decide +kernel
theorem dX7_count_95 : decode cX7_count 95 = .ok (.getfield 68, 3) := by decide +kernel
theorem dX7_count_98 : decode cX7_count 98 = .ok (.getfield 71, 3) := by decide +kernel
theorem dX7_count_101 : decode cX7_count 101 = .ok (.iconst 3, 1) := by decide +kernel
theorem dX7_count_102 : decode cX7_count 102 = .ok (.iaload, 1) := by decide +kernel
theorem dX7_count_103 : decode cX7_count 103 = .ok (.ireturn, 1) := by decide +kernel
theorem dX7_count_104 : decode cX7_count 104 = .ok (.aload_n 0, 1) := by decide +kernel
theorem dX7_count_105 : decode cX7_count 105 = .ok (.getfield 12, 3) := by decide +kernel
theorem dX7_count_108 : decode cX7_count 108 = .ok (.getfield 68, 3) := by decide +kernel
theorem dX7_count_111 : decode cX7_count 111 = .ok (.invokevirtual 136, 3) := by decide +kernel
theorem dX7_count_114 : decode cX7_count 114 = .ok (.ireturn, 1) := by decide +kernel
theorem dX7_count_115 : decode cX7_count 115 = .ok (.aload_n 0, 1) := by decide +kernel
theorem dX7_count_116 : decode cX7_count 116 = .ok (.getfield 12, 3) := by decide +kernel
theorem dX7_count_119 : decode cX7_count 119 = .ok (.getfield 68, 3) := by decide +kernel
theorem dX7_count_122 : decode cX7_count 122 = .ok (.getfield 194, 3) := by decide +kernel
theorem dX7_count_125 : decode cX7_count 125 = .ok (.ireturn, 1) := by decide +kernel
theorem dX7_count_126 : decode cX7_count 126 = .ok (.aload_n 0, 1) := by decide +kernel
theorem dX7_count_127 : decode cX7_count 127 = .ok (.getfield 12, 3) := by decide +kernel
theorem dX7_count_130 : decode cX7_count 130 = .ok (.getfield 163, 3) := by decide +kernel
theorem dX7_count_133 : decode cX7_count 133 = .ok (.ireturn, 1) := by decide +kernel
theorem dX7_count_134 : decode cX7_count 134 = .ok (.aload_n 0, 1) := by decide +kernel
theorem dX7_count_135 : decode cX7_count 135 = .ok (.getfield 30, 3) := by decide +kernel
theorem dX7_count_138 : decode cX7_count 138 = .ok (.getfield 155, 3) := by decide +kernel
theorem dX7_count_141 : decode cX7_count 141 = .ok (.ireturn, 1) := by decide +kernel
theorem dX7_count_142 : decode cX7_count 142 = .ok (.aload_n 0, 1) := by decide +kernel
theorem dX7_count_143 : decode cX7_count 143 = .ok (.getfield 12, 3) := by decide +kernel
theorem dX7_count_146 : decode cX7_count 146 = .ok (.getfield 248, 3) := by decide +kernel
theorem dX7_count_149 : decode cX7_count 149 = .ok (.ireturn, 1) := by decide +kernel
theorem dX7_count_150 : decode cX7_count 150 = .ok (.aload_n 0, 1) := by decide +kernel
theorem dX7_count_151 : decode cX7_count 151 = .ok (.ldc 63, 2) := by decide +kernel
theorem dX7_count_153 : decode cX7_count 153 = .ok (.invokevirtual 64, 3) := by decide +kernel
theorem dX7_count_156 : decode cX7_count 156 = .ok (.ireturn, 1) := by decide +kernel
theorem dX7_status_0 : decode cX7_status 0 = .ok (.iload_n 1, 1) := by decide +kernel
theorem dX7_status_1 : decode cX7_status 1 = .ok (.iconst (-1), 1) := by decide +kernel
theorem dX7_status_2 : decode cX7_status 2 = .ok (.if_icmp .ne 8, 3) := by decide +kernel
theorem dX7_status_5 : decode cX7_status 5 = .ok (.aload_n 0, 1) := by decide +kernel
theorem dX7_status_6 : decode cX7_status 6 = .ok (.invokevirtual 296, 3) := by decide +kernel
theorem dX7_status_9 : decode cX7_status 9 = .ok (.ireturn, 1) := by decide +kernel
theorem dX7_status_10 : decode cX7_status 10 = .ok (.iload_n 1, 1) := by decide +kernel
theorem dX7_status_11 : decode cX7_status 11 = .ok (.iconst 0, 1) := by decide +kernel
theorem dX7_status_12 : decode cX7_status 12 = .ok (.bipush 6, 2) := by decide +kernel
theorem dX7_status_14 : decode cX7_status 14 = .ok (.invokestatic 59, 3) := by decide +kernel
theorem dX7_status_17 : decode cX7_status 17 = .ok (.ifCond .ne 10, 3) := by decide +kernel
theorem dX7_status_20 : decode cX7_status 20 = .ok (.aload_n 0, 1) := by decide +kernel
theorem dX7_status_21 : decode cX7_status 21 = .ok (.ldc 63, 2) := by decide +kernel
theorem dX7_status_23 : decode cX7_status 23 = .ok (.invokevirtual 64, 3) := by decide +kernel
theorem dX7_status_26 : decode cX7_status 26 = .ok (.ireturn, 1) := by decide +kernel
theorem dX7_status_27 : decode cX7_status 27 = .ok (.aload_n 0, 1) := by decide +kernel
theorem dX7_status_28 : decode cX7_status 28 = .ok (.getfield 54, 3) := by decide +kernel
theorem dX7_status_31 : decode cX7_status 31 = .ok (.iload_n 1, 1) := by decide +kernel
theorem dX7_status_32 : decode cX7_status 32 = .ok (.iaload, 1) := by decide +kernel
theorem dX7_status_33 : decode cX7_status 33 = .ok (.ireturn, 1) := by decide +kernel
theorem dX7_finding_0 : decode cX7_finding 0 = .ok (.ldc 63, 2) := by decide +kernel
theorem dX7_finding_2 : decode cX7_finding 2 = .ok (.iload_n 1, 1) := by decide +kernel
theorem dX7_finding_3 : decode cX7_finding 3 = .ok (.isub, 1) := by decide +kernel
theorem dX7_finding_4 : decode cX7_finding 4 = .ok (.istore_n 2, 1) := by decide +kernel
theorem dX7_finding_5 : decode cX7_finding 5 = .ok (.iload_n 2, 1) := by decide +kernel
theorem dX7_finding_6 : decode cX7_finding 6 = .ok (.iconst 0, 1) := by decide +kernel
theorem dX7_finding_7 : decode cX7_finding 7 = .ok (.bipush 6, 2) := by decide +kernel
theorem dX7_finding_9 : decode cX7_finding 9 = .ok (.invokestatic 59, 3) := by decide +kernel
theorem dX7_finding_12 : decode cX7_finding 12 = .ok (.ifCond .eq 13, 3) := by decide +kernel
theorem dX7_finding_15 : decode cX7_finding 15 = .ok (.aload_n 0, 1) := by decide +kernel
theorem dX7_finding_16 : decode cX7_finding 16 = .ok (.getfield 54, 3) := by decide +kernel
theorem dX7_finding_19 : decode cX7_finding 19 = .ok (.iload_n 2, 1) := by decide +kernel
theorem dX7_finding_20 : decode cX7_finding 20 = .ok (.dup2, 1) := by decide +kernel
theorem dX7_finding_21 : decode cX7_finding 21 = .ok (.iaload, 1) := by decide +kernel
theorem dX7_finding_22 : decode cX7_finding 22 = .ok (.iconst 1, 1) := by decide +kernel
theorem dX7_finding_23 : decode cX7_finding 23 = .ok (.iadd, 1) := by decide +kernel
theorem dX7_finding_24 : decode cX7_finding 24 = .ok (.iastore, 1) := by decide +kernel
theorem dX7_finding_25 : decode cX7_finding 25 = .ok (.iload_n 1, 1) := by decide +kernel
theorem dX7_finding_26 : decode cX7_finding 26 = .ok (.ireturn, 1) := by decide +kernel
theorem dX7_findingsOfAll_0 : decode cX7_findingsOfAll 0 = .ok (.iconst 0, 1) := by decide +kernel
theorem dX7_findingsOfAll_1 : decode cX7_findingsOfAll 1 = .ok (.istore_n 1, 1) := by decide +kernel
theorem dX7_findingsOfAll_2 : decode cX7_findingsOfAll 2 = .ok (.iconst 0, 1) := by decide +kernel
theorem dX7_findingsOfAll_3 : decode cX7_findingsOfAll 3 = .ok (.istore_n 2, 1) := by decide +kernel
theorem dX7_findingsOfAll_4 : decode cX7_findingsOfAll 4 = .ok (.iload_n 2, 1) := by decide +kernel
theorem dX7_findingsOfAll_5 : decode cX7_findingsOfAll 5 = .ok (.bipush 7, 2) := by decide +kernel
theorem dX7_findingsOfAll_7 : decode cX7_findingsOfAll 7 = .ok (.if_icmp .ge 18, 3) := by decide +kernel
theorem dX7_findingsOfAll_10 : decode cX7_findingsOfAll 10 = .ok (.iload_n 1, 1) := by decide +kernel
theorem dX7_findingsOfAll_11 : decode cX7_findingsOfAll 11 = .ok (.aload_n 0, 1) := by decide +kernel
theorem dX7_findingsOfAll_12 : decode cX7_findingsOfAll 12 = .ok (.getfield 54, 3) := by decide +kernel
theorem dX7_findingsOfAll_15 : decode cX7_findingsOfAll 15 = .ok (.iload_n 2, 1) := by decide +kernel
theorem dX7_findingsOfAll_16 : decode cX7_findingsOfAll 16 = .ok (.iaload, 1) := by decide +kernel
theorem dX7_findingsOfAll_17 : decode cX7_findingsOfAll 17 = .ok (.iadd, 1) := by decide +kernel
theorem dX7_findingsOfAll_18 : decode cX7_findingsOfAll 18 = .ok (.istore_n 1, 1) := by decide +kernel
theorem dX7_findingsOfAll_19 : decode cX7_findingsOfAll 19 = .ok (.iinc 2 1, 3) := by decide +kernel
theorem dX7_findingsOfAll_22 : decode cX7_findingsOfAll 22 = .ok (.goto (-18), 3) := by decide +kernel
theorem dX7_findingsOfAll_25 : decode cX7_findingsOfAll 25 = .ok (.iload_n 1, 1) := by decide +kernel
theorem dX7_findingsOfAll_26 : decode cX7_findingsOfAll 26 = .ok (.ireturn, 1) := by decide +kernel
theorem dX7_beginTwoRuns_0 : decode cX7_beginTwoRuns 0 = .ok (.aload_n 0, 1) := by decide +kernel
theorem dX7_beginTwoRuns_1 : decode cX7_beginTwoRuns 1 = .ok (.getfield 40, 3) := by decide +kernel
theorem dX7_beginTwoRuns_4 : decode cX7_beginTwoRuns 4 = .ok (.aload_n 0, 1) := by decide +kernel
theorem dX7_beginTwoRuns_5 : decode cX7_beginTwoRuns 5 = .ok (.getfield 12, 3) := by decide +kernel
theorem dX7_beginTwoRuns_8 : decode cX7_beginTwoRuns 8 = .ok (.getfield 68, 3) := by decide +kernel
theorem dX7_beginTwoRuns_11 : decode cX7_beginTwoRuns 11 = .ok (.invokevirtual 190, 3) := by decide +kernel
theorem dX7_beginTwoRuns_14 : decode cX7_beginTwoRuns 14 = .ok (.aload_n 0, 1) := by decide +kernel
theorem dX7_beginTwoRuns_15 : decode cX7_beginTwoRuns 15 = .ok (.getfield 44, 3) := by decide +kernel
theorem dX7_beginTwoRuns_18 : decode cX7_beginTwoRuns 18 = .ok (.aload_n 0, 1) := by decide +kernel
theorem dX7_beginTwoRuns_19 : decode cX7_beginTwoRuns 19 = .ok (.getfield 12, 3) := by decide +kernel
theorem dX7_beginTwoRuns_22 : decode cX7_beginTwoRuns 22 = .ok (.getfield 68, 3) := by decide +kernel
theorem dX7_beginTwoRuns_25 : decode cX7_beginTwoRuns 25 = .ok (.invokevirtual 190, 3) := by decide +kernel
theorem dX7_beginTwoRuns_28 : decode cX7_beginTwoRuns 28 = .ok (.aload_n 0, 1) := by decide +kernel
theorem dX7_beginTwoRuns_29 : decode cX7_beginTwoRuns 29 = .ok (.getfield 44, 3) := by decide +kernel
theorem dX7_beginTwoRuns_32 : decode cX7_beginTwoRuns 32 = .ok (.iload_n 1, 1) := by decide +kernel
theorem dX7_beginTwoRuns_33 : decode cX7_beginTwoRuns 33 = .ok (.invokevirtual 100, 3) := by decide +kernel
theorem dX7_beginTwoRuns_36 : decode cX7_beginTwoRuns 36 = .ok (.return_, 1) := by decide +kernel
theorem dX7_differenceOfRuns_0 : decode cX7_differenceOfRuns 0 = .ok (.aload_n 0, 1) := by decide +kernel
theorem dX7_differenceOfRuns_1 : decode cX7_differenceOfRuns 1 = .ok (.getfield 40, 3) := by decide +kernel
theorem dX7_differenceOfRuns_4 : decode cX7_differenceOfRuns 4 = .ok (.getfield 104, 3) := by decide +kernel
theorem dX7_differenceOfRuns_7 : decode cX7_differenceOfRuns 7 = .ok (.aload_n 0, 1) := by decide +kernel
theorem dX7_differenceOfRuns_8 : decode cX7_differenceOfRuns 8 = .ok (.getfield 44, 3) := by decide +kernel
theorem dX7_differenceOfRuns_11 : decode cX7_differenceOfRuns 11 = .ok (.getfield 104, 3) := by decide +kernel
theorem dX7_differenceOfRuns_14 : decode cX7_differenceOfRuns 14 = .ok (.isub, 1) := by decide +kernel
theorem dX7_differenceOfRuns_15 : decode cX7_differenceOfRuns 15 = .ok (.invokestatic 146, 3) := by decide +kernel
theorem dX7_differenceOfRuns_18 : decode cX7_differenceOfRuns 18 = .ok (.ireturn, 1) := by decide +kernel
theorem dX7_isHeldBy_0 : decode cX7_isHeldBy 0 = .ok (.aload_n 0, 1) := by decide +kernel
theorem dX7_isHeldBy_1 : decode cX7_isHeldBy 1 = .ok (.getfield 40, 3) := by decide +kernel
theorem dX7_isHeldBy_4 : decode cX7_isHeldBy 4 = .ok (.aload_n 0, 1) := by decide +kernel
theorem dX7_isHeldBy_5 : decode cX7_isHeldBy 5 = .ok (.getfield 12, 3) := by decide +kernel
theorem dX7_isHeldBy_8 : decode cX7_isHeldBy 8 = .ok (.getfield 68, 3) := by decide +kernel
theorem dX7_isHeldBy_11 : decode cX7_isHeldBy 11 = .ok (.invokevirtual 190, 3) := by decide +kernel
theorem dX7_isHeldBy_14 : decode cX7_isHeldBy 14 = .ok (.aload_n 0, 1) := by decide +kernel
theorem dX7_isHeldBy_15 : decode cX7_isHeldBy 15 = .ok (.getfield 40, 3) := by decide +kernel
theorem dX7_isHeldBy_18 : decode cX7_isHeldBy 18 = .ok (.iload_n 1, 1) := by decide +kernel
theorem dX7_isHeldBy_19 : decode cX7_isHeldBy 19 = .ok (.invokevirtual 100, 3) := by decide +kernel
theorem dX7_isHeldBy_22 : decode cX7_isHeldBy 22 = .ok (.iconst 1, 1) := by decide +kernel
theorem dX7_isHeldBy_23 : decode cX7_isHeldBy 23 = .ok (.istore_n 3, 1) := by decide +kernel
theorem dX7_isHeldBy_24 : decode cX7_isHeldBy 24 = .ok (.iload_n 3, 1) := by decide +kernel
theorem dX7_isHeldBy_25 : decode cX7_isHeldBy 25 = .ok (.iload_n 2, 1) := by decide +kernel
theorem dX7_isHeldBy_26 : decode cX7_isHeldBy 26 = .ok (.if_icmp .gt 38, 3) := by decide +kernel
theorem dX7_isHeldBy_29 : decode cX7_isHeldBy 29 = .ok (.aload_n 0, 1) := by decide +kernel
theorem dX7_isHeldBy_30 : decode cX7_isHeldBy 30 = .ok (.getfield 40, 3) := by decide +kernel
theorem dX7_isHeldBy_33 : decode cX7_isHeldBy 33 = .ok (.invokevirtual 203, 3) := by decide +kernel
theorem dX7_isHeldBy_36 : decode cX7_isHeldBy 36 = .ok (.aload_n 0, 1) := by decide +kernel
theorem dX7_isHeldBy_37 : decode cX7_isHeldBy 37 = .ok (.getfield 40, 3) := by decide +kernel
theorem dX7_isHeldBy_40 : decode cX7_isHeldBy 40 = .ok (.getfield 194, 3) := by decide +kernel
theorem dX7_isHeldBy_43 : decode cX7_isHeldBy 43 = .ok (.aload_n 0, 1) := by decide +kernel
theorem dX7_isHeldBy_44 : decode cX7_isHeldBy 44 = .ok (.getfield 12, 3) := by decide +kernel
theorem dX7_isHeldBy_47 : decode cX7_isHeldBy 47 = .ok (.getfield 68, 3) := by decide +kernel
theorem dX7_isHeldBy_50 : decode cX7_isHeldBy 50 = .ok (.getfield 194, 3) := by decide +kernel
theorem dX7_isHeldBy_53 : decode cX7_isHeldBy 53 = .ok (.if_icmp .eq 5, 3) := by decide +kernel
theorem dX7_isHeldBy_56 : decode cX7_isHeldBy 56 = .ok (.iconst 0, 1) := by decide +kernel
theorem dX7_isHeldBy_57 : decode cX7_isHeldBy 57 = .ok (.ireturn, 1) := by decide +kernel
theorem dX7_isHeldBy_58 : decode cX7_isHeldBy 58 = .ok (.iinc 3 1, 3) := by decide +kernel
theorem dX7_isHeldBy_61 : decode cX7_isHeldBy 61 = .ok (.goto (-37), 3) := by decide +kernel
theorem dX7_isHeldBy_64 : decode cX7_isHeldBy 64 = .ok (.iconst 1, 1) := by decide +kernel
theorem dX7_isHeldBy_65 : decode cX7_isHeldBy 65 = .ok (.ireturn, 1) := by decide +kernel
theorem dX7_isProgram_0 : decode cX7_isProgram 0 = .ok (.iload_n 1, 1) := by decide +kernel
theorem dX7_isProgram_1 : decode cX7_isProgram 1 = .ok (.iconst 0, 1) := by decide +kernel
theorem dX7_isProgram_2 : decode cX7_isProgram 2 = .ok (.aload_n 0, 1) := by decide +kernel
theorem dX7_isProgram_3 : decode cX7_isProgram 3 = .ok (.getfield 12, 3) := by decide +kernel
theorem dX7_isProgram_6 : decode cX7_isProgram 6 = .ok (.getfield 163, 3) := by decide +kernel
theorem dX7_isProgram_9 : decode cX7_isProgram 9 = .ok (.bipush 6, 2) := by decide +kernel
theorem dX7_isProgram_11 : decode cX7_isProgram 11 = .ok (.invokestatic 151, 3) := by decide +kernel
theorem dX7_isProgram_14 : decode cX7_isProgram 14 = .ok (.iconst 1, 1) := by decide +kernel
theorem dX7_isProgram_15 : decode cX7_isProgram 15 = .ok (.isub, 1) := by decide +kernel
theorem dX7_isProgram_16 : decode cX7_isProgram 16 = .ok (.invokestatic 59, 3) := by decide +kernel
theorem dX7_isProgram_19 : decode cX7_isProgram 19 = .ok (.ireturn, 1) := by decide +kernel
theorem dX7_isCup_0 : decode cX7_isCup 0 = .ok (.iload_n 0, 1) := by decide +kernel
theorem dX7_isCup_1 : decode cX7_isCup 1 = .ok (.iconst 0, 1) := by decide +kernel
theorem dX7_isCup_2 : decode cX7_isCup 2 = .ok (.bipush 11, 2) := by decide +kernel
theorem dX7_isCup_4 : decode cX7_isCup 4 = .ok (.invokestatic 59, 3) := by decide +kernel
theorem dX7_isCup_7 : decode cX7_isCup 7 = .ok (.ireturn, 1) := by decide +kernel
theorem dX7_isKind_0 : decode cX7_isKind 0 = .ok (.iload_n 0, 1) := by decide +kernel
theorem dX7_isKind_1 : decode cX7_isKind 1 = .ok (.iconst 0, 1) := by decide +kernel
theorem dX7_isKind_2 : decode cX7_isKind 2 = .ok (.bipush 6, 2) := by decide +kernel
theorem dX7_isKind_4 : decode cX7_isKind 4 = .ok (.invokestatic 59, 3) := by decide +kernel
theorem dX7_isKind_7 : decode cX7_isKind 7 = .ok (.ireturn, 1) := by decide +kernel
theorem dX7_isSpot_0 : decode cX7_isSpot 0 = .ok (.iload_n 0, 1) := by decide +kernel
theorem dX7_isSpot_1 : decode cX7_isSpot 1 = .ok (.iconst 0, 1) := by decide +kernel
theorem dX7_isSpot_2 : decode cX7_isSpot 2 = .ok (.bipush 9, 2) := by decide +kernel
theorem dX7_isSpot_4 : decode cX7_isSpot 4 = .ok (.invokestatic 59, 3) := by decide +kernel
theorem dX7_isSpot_7 : decode cX7_isSpot 7 = .ok (.ireturn, 1) := by decide +kernel
theorem dX7_isSheet_0 : decode cX7_isSheet 0 = .ok (.iload_n 0, 1) := by decide +kernel
theorem dX7_isSheet_1 : decode cX7_isSheet 1 = .ok (.iconst 0, 1) := by decide +kernel
theorem dX7_isSheet_2 : decode cX7_isSheet 2 = .ok (.iconst 3, 1) := by decide +kernel
theorem dX7_isSheet_3 : decode cX7_isSheet 3 = .ok (.invokestatic 59, 3) := by decide +kernel
theorem dX7_isSheet_6 : decode cX7_isSheet 6 = .ok (.ireturn, 1) := by decide +kernel
theorem dX7_isTouch_0 : decode cX7_isTouch 0 = .ok (.iload_n 0, 1) := by decide +kernel
theorem dX7_isTouch_1 : decode cX7_isTouch 1 = .ok (.sipush (-200), 3) := by decide +kernel
theorem dX7_isTouch_4 : decode cX7_isTouch 4 = .ok (.sipush 200, 3) := by decide +kernel
theorem dX7_isTouch_7 : decode cX7_isTouch 7 = .ok (.invokestatic 59, 3) := by decide +kernel
theorem dX7_isTouch_10 : decode cX7_isTouch 10 = .ok (.ireturn, 1) := by decide +kernel
theorem dX7_isAhead_0 : decode cX7_isAhead 0 = .ok (.iload_n 0, 1) := by decide +kernel
theorem dX7_isAhead_1 : decode cX7_isAhead 1 = .ok (.iconst 0, 1) := by decide +kernel
theorem dX7_isAhead_2 : decode cX7_isAhead 2 = .ok (.sipush 400, 3) := by decide +kernel
theorem dX7_isAhead_5 : decode cX7_isAhead 5 = .ok (.invokestatic 59, 3) := by decide +kernel
theorem dX7_isAhead_8 : decode cX7_isAhead 8 = .ok (.ireturn, 1) := by decide +kernel
theorem dX7_isLongRun_0 : decode cX7_isLongRun 0 = .ok (.iload_n 0, 1) := by decide +kernel
theorem dX7_isLongRun_1 : decode cX7_isLongRun 1 = .ok (.bipush 10, 2) := by decide +kernel
theorem dX7_isLongRun_3 : decode cX7_isLongRun 3 = .ok (.sipush 400, 3) := by decide +kernel
theorem dX7_isLongRun_6 : decode cX7_isLongRun 6 = .ok (.invokestatic 59, 3) := by decide +kernel
theorem dX7_isLongRun_9 : decode cX7_isLongRun 9 = .ok (.ireturn, 1) := by decide +kernel
theorem dX7_isRuleBegin_0 : decode cX7_isRuleBegin 0 = .ok (.iload_n 0, 1) := by decide +kernel
theorem dX7_isRuleBegin_1 : decode cX7_isRuleBegin 1 = .ok (.sipush (-999), 3) := by decide +kernel
theorem dX7_isRuleBegin_4 : decode cX7_isRuleBegin 4 = .ok (.sipush 999, 3) := by decide +kernel
theorem dX7_isRuleBegin_7 : decode cX7_isRuleBegin 7 = .ok (.invokestatic 59, 3) := by decide +kernel
theorem dX7_isRuleBegin_10 : decode cX7_isRuleBegin 10 = .ok (.ifCond .eq 31, 3) := by decide +kernel
theorem dX7_isRuleBegin_13 : decode cX7_isRuleBegin 13 = .ok (.iload_n 1, 1) := by decide +kernel
theorem dX7_isRuleBegin_14 : decode cX7_isRuleBegin 14 = .ok (.sipush (-999), 3) := by decide +kernel
theorem dX7_isRuleBegin_17 : decode cX7_isRuleBegin 17 = .ok (.sipush 999, 3) := by decide +kernel
theorem dX7_isRuleBegin_20 : decode cX7_isRuleBegin 20 = .ok (.invokestatic 59, 3) := by decide +kernel
theorem dX7_isRuleBegin_23 : decode cX7_isRuleBegin 23 = .ok (.ifCond .eq 18, 3) := by decide +kernel
theorem dX7_isRuleBegin_26 : decode cX7_isRuleBegin 26 = .ok (.iload_n 2, 1) := by decide +kernel
theorem dX7_isRuleBegin_27 : decode cX7_isRuleBegin 27 = .ok (.iconst 0, 1) := by decide +kernel
theorem dX7_isRuleBegin_28 : decode cX7_isRuleBegin 28 = .ok (.sipush 200, 3) := by decide +kernel
theorem dX7_isRuleBegin_31 : decode cX7_isRuleBegin 31 = .ok (.invokestatic 59, 3) := by decide +kernel
theorem dX7_isRuleBegin_34 : decode cX7_isRuleBegin 34 = .ok (.ifCond .eq 7, 3) := by decide +kernel
theorem dX7_isRuleBegin_37 : decode cX7_isRuleBegin 37 = .ok (.iconst 1, 1) := by decide +kernel
theorem dX7_isRuleBegin_38 : decode cX7_isRuleBegin 38 = .ok (.goto 4, 3) := by decide +kernel
theorem dX7_isRuleBegin_41 : decode cX7_isRuleBegin 41 = .ok (.iconst 0, 1) := by decide +kernel
theorem dX7_isRuleBegin_42 : decode cX7_isRuleBegin 42 = .ok (.ireturn, 1) := by decide +kernel
theorem dX7_within_0 : decode cX7_within 0 = .ok (.iload_n 1, 1) := by decide +kernel
theorem dX7_within_1 : decode cX7_within 1 = .ok (.iload_n 0, 1) := by decide +kernel
theorem dX7_within_2 : decode cX7_within 2 = .ok (.if_icmp .gt 12, 3) := by decide +kernel
theorem dX7_within_5 : decode cX7_within 5 = .ok (.iload_n 0, 1) := by decide +kernel
theorem dX7_within_6 : decode cX7_within 6 = .ok (.iload_n 2, 1) := by decide +kernel
theorem dX7_within_7 : decode cX7_within 7 = .ok (.if_icmp .gt 7, 3) := by decide +kernel
theorem dX7_within_10 : decode cX7_within 10 = .ok (.iconst 1, 1) := by decide +kernel
theorem dX7_within_11 : decode cX7_within 11 = .ok (.goto 4, 3) := by decide +kernel
theorem dX7_within_14 : decode cX7_within 14 = .ok (.iconst 0, 1) := by decide +kernel
theorem dX7_within_15 : decode cX7_within 15 = .ok (.ireturn, 1) := by decide +kernel
theorem dX8_init_0 : decode cX8_init 0 = .ok (.aload_n 0, 1) := by decide +kernel
theorem dX8_init_1 : decode cX8_init 1 = .ok (.invokespecial 3, 3) := by decide +kernel
theorem dX8_init_4 : decode cX8_init 4 = .ok (.aload_n 0, 1) := by decide +kernel
theorem dX8_init_5 : decode cX8_init 5 = .ok (.sipush 284, 3) := by decide +kernel
theorem dX8_init_8 : decode cX8_init 8 = .ok (.newarray .int, 2) := by decide +kernel
theorem dX8_init_10 : decode cX8_init 10 = .ok (.putfield 9, 3) := by decide +kernel
theorem dX8_init_13 : decode cX8_init 13 = .ok (.aload_n 0, 1) := by decide +kernel
theorem dX8_init_14 : decode cX8_init 14 = .ok (.sipush 284, 3) := by decide +kernel
theorem dX8_init_17 : decode cX8_init 17 = .ok (.newarray .int, 2) := by decide +kernel
theorem dX8_init_19 : decode cX8_init 19 = .ok (.putfield 13, 3) := by decide +kernel
theorem dX8_init_22 : decode cX8_init 22 = .ok (.aload_n 0, 1) := by decide +kernel
theorem dX8_init_23 : decode cX8_init 23 = .ok (.sipush 284, 3) := by decide +kernel
theorem dX8_init_26 : decode cX8_init 26 = .ok (.newarray .int, 2) := by decide +kernel
theorem dX8_init_28 : decode cX8_init 28 = .ok (.putfield 16, 3) := by decide +kernel
theorem dX8_init_31 : decode cX8_init 31 = .ok (.aload_n 0, 1) := by decide +kernel
theorem dX8_init_32 : decode cX8_init 32 = .ok (.sipush 284, 3) := by decide +kernel
theorem dX8_init_35 : decode cX8_init 35 = .ok (.newarray .int, 2) := by decide +kernel
theorem dX8_init_37 : decode cX8_init 37 = .ok (.putfield 19, 3) := by decide +kernel
theorem dX8_init_40 : decode cX8_init 40 = .ok (.aload_n 0, 1) := by decide +kernel
theorem dX8_init_41 : decode cX8_init 41 = .ok (.bipush 7, 2) := by decide +kernel
theorem dX8_init_43 : decode cX8_init 43 = .ok (.newarray .int, 2) := by decide +kernel
theorem dX8_init_45 : decode cX8_init 45 = .ok (.putfield 22, 3) := by decide +kernel
theorem dX8_init_48 : decode cX8_init 48 = .ok (.aload_n 0, 1) := by decide +kernel
theorem dX8_init_49 : decode cX8_init 49 = .ok (.bipush 12, 2) := by decide +kernel
theorem dX8_init_51 : decode cX8_init 51 = .ok (.newarray .int, 2) := by decide +kernel
theorem dX8_init_53 : decode cX8_init 53 = .ok (.dup, 1) := by decide +kernel
theorem dX8_init_54 : decode cX8_init 54 = .ok (.iconst 0, 1) := by decide +kernel
theorem dX8_init_55 : decode cX8_init 55 = .ok (.iconst 0, 1) := by decide +kernel
theorem dX8_init_56 : decode cX8_init 56 = .ok (.iastore, 1) := by decide +kernel
theorem dX8_init_57 : decode cX8_init 57 = .ok (.dup, 1) := by decide +kernel
theorem dX8_init_58 : decode cX8_init 58 = .ok (.iconst 1, 1) := by decide +kernel
theorem dX8_init_59 : decode cX8_init 59 = .ok (.bipush 50, 2) := by decide +kernel
theorem dX8_init_61 : decode cX8_init 61 = .ok (.iastore, 1) := by decide +kernel
theorem dX8_init_62 : decode cX8_init 62 = .ok (.dup, 1) := by decide +kernel
theorem dX8_init_63 : decode cX8_init 63 = .ok (.iconst 2, 1) := by decide +kernel
theorem dX8_init_64 : decode cX8_init 64 = .ok (.bipush 87, 2) := by decide +kernel
theorem dX8_init_66 : decode cX8_init 66 = .ok (.iastore, 1) := by decide +kernel
theorem dX8_init_67 : decode cX8_init 67 = .ok (.dup, 1) := by decide +kernel
theorem dX8_init_68 : decode cX8_init 68 = .ok (.iconst 3, 1) := by decide +kernel
theorem dX8_init_69 : decode cX8_init 69 = .ok (.bipush 100, 2) := by decide +kernel
theorem dX8_init_71 : decode cX8_init 71 = .ok (.iastore, 1) := by decide +kernel
theorem dX8_init_72 : decode cX8_init 72 = .ok (.dup, 1) := by decide +kernel
theorem dX8_init_73 : decode cX8_init 73 = .ok (.iconst 4, 1) := by decide +kernel
theorem dX8_init_74 : decode cX8_init 74 = .ok (.bipush 87, 2) := by decide +kernel
theorem dX8_init_76 : decode cX8_init 76 = .ok (.iastore, 1) := by decide +kernel
theorem dX8_init_77 : decode cX8_init 77 = .ok (.dup, 1) := by decide +kernel
theorem dX8_init_78 : decode cX8_init 78 = .ok (.iconst 5, 1) := by decide +kernel
theorem dX8_init_79 : decode cX8_init 79 = .ok (.bipush 50, 2) := by decide +kernel
theorem dX8_init_81 : decode cX8_init 81 = .ok (.iastore, 1) := by decide +kernel
theorem dX8_init_82 : decode cX8_init 82 = .ok (.dup, 1) := by decide +kernel
theorem dX8_init_83 : decode cX8_init 83 = .ok (.bipush 6, 2) := by decide +kernel
theorem dX8_init_85 : decode cX8_init 85 = .ok (.iconst 0, 1) := by decide +kernel
theorem dX8_init_86 : decode cX8_init 86 = .ok (.iastore, 1) := by decide +kernel
theorem dX8_init_87 : decode cX8_init 87 = .ok (.dup, 1) := by decide +kernel
theorem dX8_init_88 : decode cX8_init 88 = .ok (.bipush 7, 2) := by decide +kernel
theorem dX8_init_90 : decode cX8_init 90 = .ok (.bipush (-50), 2) := by decide +kernel
theorem dX8_init_92 : decode cX8_init 92 = .ok (.iastore, 1) := by decide +kernel
theorem dX8_init_93 : decode cX8_init 93 = .ok (.dup, 1) := by decide +kernel
theorem dX8_init_94 : decode cX8_init 94 = .ok (.bipush 8, 2) := by decide +kernel
theorem dX8_init_96 : decode cX8_init 96 = .ok (.bipush (-87), 2) := by decide +kernel
theorem dX8_init_98 : decode cX8_init 98 = .ok (.iastore, 1) := by decide +kernel
theorem dX8_init_99 : decode cX8_init 99 = .ok (.dup, 1) := by decide +kernel
theorem dX8_init_100 : decode cX8_init 100 = .ok (.bipush 9, 2) := by decide +kernel
theorem dX8_init_102 : decode cX8_init 102 = .ok (.bipush (-100), 2) := by decide +kernel
theorem dX8_init_104 : decode cX8_init 104 = .ok (.iastore, 1) := by decide +kernel
theorem dX8_init_105 : decode cX8_init 105 = .ok (.dup, 1) := by decide +kernel
theorem dX8_init_106 : decode cX8_init 106 = .ok (.bipush 10, 2) := by decide +kernel
theorem dX8_init_108 : decode cX8_init 108 = .ok (.bipush (-87), 2) := by decide +kernel
theorem dX8_init_110 : decode cX8_init 110 = .ok (.iastore, 1) := by decide +kernel
theorem dX8_init_111 : decode cX8_init 111 = .ok (.dup, 1) := by decide +kernel
theorem dX8_init_112 : decode cX8_init 112 = .ok (.bipush 11, 2) := by decide +kernel
theorem dX8_init_114 : decode cX8_init 114 = .ok (.bipush (-50), 2) := by decide +kernel
theorem dX8_init_116 : decode cX8_init 116 = .ok (.iastore, 1) := by decide +kernel
theorem dX8_init_117 : decode cX8_init 117 = .ok (.putfield 25, 3) := by decide +kernel
theorem dX8_init_120 : decode cX8_init 120 = .ok (.aload_n 0, 1) := by decide +kernel
theorem dX8_init_121 : decode cX8_init 121 = .ok (.bipush 100, 2) := by decide +kernel
theorem dX8_init_123 : decode cX8_init 123 = .ok (.newarray .int, 2) := by decide +kernel
theorem dX8_init_125 : decode cX8_init 125 = .ok (.putfield 28, 3) := by decide +kernel
theorem dX8_init_128 : decode cX8_init 128 = .ok (.aload_n 0, 1) := by decide +kernel
theorem dX8_init_129 : decode cX8_init 129 = .ok (.iconst 3, 1) := by decide +kernel
theorem dX8_init_130 : decode cX8_init 130 = .ok (.newarray .int, 2) := by decide +kernel
theorem dX8_init_132 : decode cX8_init 132 = .ok (.putfield 31, 3) := by decide +kernel
theorem dX8_init_135 : decode cX8_init 135 = .ok (.aload_n 0, 1) := by decide +kernel
theorem dX8_init_136 : decode cX8_init 136 = .ok (.iconst 4, 1) := by decide +kernel
theorem dX8_init_137 : decode cX8_init 137 = .ok (.newarray .int, 2) := by decide +kernel
theorem dX8_init_139 : decode cX8_init 139 = .ok (.putfield 34, 3) := by decide +kernel
theorem dX8_init_142 : decode cX8_init 142 = .ok (.aload_n 0, 1) := by decide +kernel
theorem dX8_init_143 : decode cX8_init 143 = .ok (.iconst 4, 1) := by decide +kernel
theorem dX8_init_144 : decode cX8_init 144 = .ok (.newarray .int, 2) := by decide +kernel
theorem dX8_init_146 : decode cX8_init 146 = .ok (.putfield 37, 3) := by decide +kernel
theorem dX8_init_149 : decode cX8_init 149 = .ok (.aload_n 0, 1) := by decide +kernel
theorem dX8_init_150 : decode cX8_init 150 = .ok (.sipush 160, 3) := by decide +kernel
theorem dX8_init_153 : decode cX8_init 153 = .ok (.newarray .int, 2) := by decide +kernel
theorem dX8_init_155 : decode cX8_init 155 = .ok (.putfield 40, 3) := by decide +kernel
theorem dX8_init_158 : decode cX8_init 158 = .ok (.aload_n 0, 1) := by decide +kernel
theorem dX8_init_159 : decode cX8_init 159 = .ok (.bipush 40, 2) := by decide +kernel
theorem dX8_init_161 : decode cX8_init 161 = .ok (.newarray .int, 2) := by decide +kernel
theorem dX8_init_163 : decode cX8_init 163 = .ok (.putfield 43, 3) := by decide +kernel
theorem dX8_init_166 : decode cX8_init 166 = .ok (.aload_n 0, 1) := by decide +kernel
theorem dX8_init_167 : decode cX8_init 167 = .ok (.getfield 9, 3) := by decide +kernel
theorem dX8_init_170 : decode cX8_init 170 = .ok (.iconst 0, 1) := by decide +kernel
theorem dX8_init_171 : decode cX8_init 171 = .ok (.bipush 10, 2) := by decide +kernel
theorem dX8_init_173 : decode cX8_init 173 = .ok (.iastore, 1) := by decide +kernel
theorem dX8_init_174 : decode cX8_init 174 = .ok (.aload_n 0, 1) := by decide +kernel
theorem dX8_init_175 : decode cX8_init 175 = .ok (.getfield 9, 3) := by decide +kernel
theorem dX8_init_178 : decode cX8_init 178 = .ok (.iconst 1, 1) := by decide +kernel
theorem dX8_init_179 : decode cX8_init 179 = .ok (.iconst 5, 1) := by decide +kernel
theorem dX8_init_180 : decode cX8_init 180 = .ok (.iastore, 1) := by decide +kernel
theorem dX8_init_181 : decode cX8_init 181 = .ok (.aload_n 0, 1) := by decide +kernel
theorem dX8_init_182 : decode cX8_init 182 = .ok (.getfield 9, 3) := by decide +kernel
theorem dX8_init_185 : decode cX8_init 185 = .ok (.iconst 2, 1) := by decide +kernel
theorem dX8_init_186 : decode cX8_init 186 = .ok (.bipush 10, 2) := by decide +kernel
theorem dX8_init_188 : decode cX8_init 188 = .ok (.iastore, 1) := by decide +kernel
theorem dX8_init_189 : decode cX8_init 189 = .ok (.aload_n 0, 1) := by decide +kernel
theorem dX8_init_190 : decode cX8_init 190 = .ok (.getfield 9, 3) := by decide +kernel
theorem dX8_init_193 : decode cX8_init 193 = .ok (.iconst 3, 1) := by decide +kernel
theorem dX8_init_194 : decode cX8_init 194 = .ok (.bipush 10, 2) := by decide +kernel
theorem dX8_init_196 : decode cX8_init 196 = .ok (.iastore, 1) := by decide +kernel
theorem dX8_init_197 : decode cX8_init 197 = .ok (.aload_n 0, 1) := by decide +kernel
theorem dX8_init_198 : decode cX8_init 198 = .ok (.getfield 9, 3) := by decide +kernel
theorem dX8_init_201 : decode cX8_init 201 = .ok (.bipush 12, 2) := by decide +kernel
theorem dX8_init_203 : decode cX8_init 203 = .ok (.iconst 1, 1) := by decide +kernel
theorem dX8_init_204 : decode cX8_init 204 = .ok (.iastore, 1) := by decide +kernel
theorem dX8_init_205 : decode cX8_init 205 = .ok (.iconst 0, 1) := by decide +kernel
theorem dX8_init_206 : decode cX8_init 206 = .ok (.istore_n 1, 1) := by decide +kernel
theorem dX8_init_207 : decode cX8_init 207 = .ok (.iload_n 1, 1) := by decide +kernel
theorem dX8_init_208 : decode cX8_init 208 = .ok (.bipush 10, 2) := by decide +kernel
theorem dX8_init_210 : decode cX8_init 210 = .ok (.if_icmp .ge 19, 3) := by decide +kernel
theorem dX8_init_213 : decode cX8_init 213 = .ok (.aload_n 0, 1) := by decide +kernel
theorem dX8_init_214 : decode cX8_init 214 = .ok (.getfield 9, 3) := by decide +kernel
theorem dX8_init_217 : decode cX8_init 217 = .ok (.bipush 124, 2) := by decide +kernel
theorem dX8_init_219 : decode cX8_init 219 = .ok (.iload_n 1, 1) := by decide +kernel
theorem dX8_init_220 : decode cX8_init 220 = .ok (.iadd, 1) := by decide +kernel
theorem dX8_init_221 : decode cX8_init 221 = .ok (.iconst (-1), 1) := by decide +kernel
theorem dX8_init_222 : decode cX8_init 222 = .ok (.iastore, 1) := by decide +kernel
theorem dX8_init_223 : decode cX8_init 223 = .ok (.iinc 1 1, 3) := by decide +kernel
theorem dX8_init_226 : decode cX8_init 226 = .ok (.goto (-19), 3) := by decide +kernel
theorem dX8_init_229 : decode cX8_init 229 = .ok (.return_, 1) := by decide +kernel
theorem dX8_finds_0 : decode cX8_finds 0 = .ok (.aload_n 0, 1) := by decide +kernel
theorem dX8_finds_1 : decode cX8_finds 1 = .ok (.getfield 22, 3) := by decide +kernel
theorem dX8_finds_4 : decode cX8_finds 4 = .ok (.ldc 46, 2) := by decide +kernel
theorem dX8_finds_6 : decode cX8_finds 6 = .ok (.iload_n 1, 1) := by decide +kernel
theorem dX8_finds_7 : decode cX8_finds 7 = .ok (.isub, 1) := by decide +kernel
theorem dX8_finds_8 : decode cX8_finds 8 = .ok (.dup2, 1) := by decide +kernel
theorem dX8_finds_9 : decode cX8_finds 9 = .ok (.iaload, 1) := by decide +kernel
theorem dX8_finds_10 : decode cX8_finds 10 = .ok (.iconst 1, 1) := by decide +kernel
theorem dX8_finds_11 : decode cX8_finds 11 = .ok (.iadd, 1) := by decide +kernel
theorem dX8_finds_12 : decode cX8_finds 12 = .ok (.iastore, 1) := by decide +kernel
theorem dX8_finds_13 : decode cX8_finds 13 = .ok (.iload_n 1, 1) := by decide +kernel
theorem dX8_finds_14 : decode cX8_finds 14 = .ok (.ireturn, 1) := by decide +kernel
theorem dX8_in_0 : decode cX8_in 0 = .ok (.lload_n 0, 1) := by decide +kernel
theorem dX8_in_1 : decode cX8_in 1 = .ok (.lload_n 2, 1) := by decide +kernel
theorem dX8_in_2 : decode cX8_in 2 = .ok (.lcmp, 1) := by decide +kernel
theorem dX8_in_3 : decode cX8_in 3 = .ok (.ifCond .lt 14, 3) := by decide +kernel
theorem dX8_in_6 : decode cX8_in 6 = .ok (.lload_n 0, 1) := by decide +kernel
theorem dX8_in_7 : decode cX8_in 7 = .ok (.lload 4, 2) := by decide +kernel
theorem dX8_in_9 : decode cX8_in 9 = .ok (.lcmp, 1) := by decide +kernel
theorem dX8_in_10 : decode cX8_in 10 = .ok (.ifCond .gt 7, 3) := by decide +kernel
theorem dX8_in_13 : decode cX8_in 13 = .ok (.iconst 1, 1) := by decide +kernel
theorem dX8_in_14 : decode cX8_in 14 = .ok (.goto 4, 3) := by decide +kernel
theorem dX8_in_17 : decode cX8_in 17 = .ok (.iconst 0, 1) := by decide +kernel
theorem dX8_in_18 : decode cX8_in 18 = .ok (.ireturn, 1) := by decide +kernel
theorem dX8_held_0 : decode cX8_held 0 = .ok (.lload_n 0, 1) := by decide +kernel
theorem dX8_held_1 : decode cX8_held 1 = .ok (.iload_n 2, 1) := by decide +kernel
theorem dX8_held_2 : decode cX8_held 2 = .ok (.i2l, 1) := by decide +kernel
theorem dX8_held_3 : decode cX8_held 3 = .ok (.lcmp, 1) := by decide +kernel
theorem dX8_held_4 : decode cX8_held 4 = .ok (.ifCond .ge 8, 3) := by decide +kernel
theorem dX8_held_7 : decode cX8_held 7 = .ok (.iload_n 2, 1) := by decide +kernel
theorem dX8_held_8 : decode cX8_held 8 = .ok (.i2l, 1) := by decide +kernel
theorem dX8_held_9 : decode cX8_held 9 = .ok (.goto 16, 3) := by decide +kernel
theorem dX8_held_12 : decode cX8_held 12 = .ok (.lload_n 0, 1) := by decide +kernel
theorem dX8_held_13 : decode cX8_held 13 = .ok (.iload_n 3, 1) := by decide +kernel
theorem dX8_held_14 : decode cX8_held 14 = .ok (.i2l, 1) := by decide +kernel
theorem dX8_held_15 : decode cX8_held 15 = .ok (.lcmp, 1) := by decide +kernel
theorem dX8_held_16 : decode cX8_held 16 = .ok (.ifCond .le 8, 3) := by decide +kernel
theorem dX8_held_19 : decode cX8_held 19 = .ok (.iload_n 3, 1) := by decide +kernel
theorem dX8_held_20 : decode cX8_held 20 = .ok (.i2l, 1) := by decide +kernel
theorem dX8_held_21 : decode cX8_held 21 = .ok (.goto 4, 3) := by decide +kernel
theorem dX8_held_24 : decode cX8_held 24 = .ok (.lload_n 0, 1) := by decide +kernel
theorem dX8_held_25 : decode cX8_held 25 = .ok (.l2i, 1) := by decide +kernel
theorem dX8_held_26 : decode cX8_held 26 = .ok (.ireturn, 1) := by decide +kernel
theorem dX8_copies_0 : decode cX8_copies 0 = .ok (.iconst 0, 1) := by decide +kernel
theorem dX8_copies_1 : decode cX8_copies 1 = .ok (.istore_n 2, 1) := by decide +kernel
theorem dX8_copies_2 : decode cX8_copies 2 = .ok (.iload_n 2, 1) := by decide +kernel
theorem dX8_copies_3 : decode cX8_copies 3 = .ok (.sipush 284, 3) := by decide +kernel
theorem dX8_copies_6 : decode cX8_copies 6 = .ok (.if_icmp .ge 15, 3) := by decide +kernel
theorem dX8_copies_9 : decode cX8_copies 9 = .ok (.aload_n 1, 1) := by decide +kernel
theorem dX8_copies_10 : decode cX8_copies 10 = .ok (.iload_n 2, 1) := by decide +kernel
theorem dX8_copies_11 : decode cX8_copies 11 = .ok (.aload_n 0, 1) := by decide +kernel
theorem dX8_copies_12 : decode cX8_copies 12 = .ok (.iload_n 2, 1) := by decide +kernel
theorem dX8_copies_13 : decode cX8_copies 13 = .ok (.iaload, 1) := by decide +kernel
theorem dX8_copies_14 : decode cX8_copies 14 = .ok (.iastore, 1) := by decide +kernel
theorem dX8_copies_15 : decode cX8_copies 15 = .ok (.iinc 2 1, 3) := by decide +kernel
theorem dX8_copies_18 : decode cX8_copies 18 = .ok (.goto (-16), 3) := by decide +kernel
theorem dX8_copies_21 : decode cX8_copies 21 = .ok (.return_, 1) := by decide +kernel
theorem dX8_isCup_0 : decode cX8_isCup 0 = .ok (.iload_n 0, 1) := by decide +kernel
theorem dX8_isCup_1 : decode cX8_isCup 1 = .ok (.i2l, 1) := by decide +kernel
theorem dX8_isCup_2 : decode cX8_isCup 2 = .ok (.lconst 0, 1) := by decide +kernel
theorem dX8_isCup_3 : decode cX8_isCup 3 = .ok (.ldc2_w 47, 3) := by decide +kernel
theorem dX8_isCup_6 : decode cX8_isCup 6 = .ok (.invokestatic 49, 3) := by decide +kernel
theorem dX8_isCup_9 : decode cX8_isCup 9 = .ok (.ireturn, 1) := by decide +kernel
theorem dX8_mayBe_0 : decode cX8_mayBe 0 = .ok (.iload_n 0, 1) := by decide +kernel
theorem dX8_mayBe_1 : decode cX8_mayBe 1 = .ok (.iconst 3, 1) := by decide +kernel
theorem dX8_mayBe_2 : decode cX8_mayBe 2 = .ok (.if_icmp .ne 15, 3) := by decide +kernel
theorem dX8_mayBe_5 : decode cX8_mayBe 5 = .ok (.iload_n 1, 1) := by decide +kernel
theorem dX8_mayBe_6 : decode cX8_mayBe 6 = .ok (.i2l, 1) := by decide +kernel
theorem dX8_mayBe_7 : decode cX8_mayBe 7 = .ok (.lconst 1, 1) := by decide +kernel
theorem dX8_mayBe_8 : decode cX8_mayBe 8 = .ok (.ldc2_w 53, 3) := by decide +kernel
theorem dX8_mayBe_11 : decode cX8_mayBe 11 = .ok (.invokestatic 49, 3) := by decide +kernel
theorem dX8_mayBe_14 : decode cX8_mayBe 14 = .ok (.goto 32, 3) := by decide +kernel
theorem dX8_mayBe_17 : decode cX8_mayBe 17 = .ok (.iload_n 0, 1) := by decide +kernel
theorem dX8_mayBe_18 : decode cX8_mayBe 18 = .ok (.i2l, 1) := by decide +kernel
theorem dX8_mayBe_19 : decode cX8_mayBe 19 = .ok (.lconst 0, 1) := by decide +kernel
theorem dX8_mayBe_20 : decode cX8_mayBe 20 = .ok (.ldc2_w 55, 3) := by decide +kernel
theorem dX8_mayBe_23 : decode cX8_mayBe 23 = .ok (.invokestatic 49, 3) := by decide +kernel
theorem dX8_mayBe_26 : decode cX8_mayBe 26 = .ok (.ifCond .eq 19, 3) := by decide +kernel
theorem dX8_mayBe_29 : decode cX8_mayBe 29 = .ok (.iload_n 1, 1) := by decide +kernel
theorem dX8_mayBe_30 : decode cX8_mayBe 30 = .ok (.i2l, 1) := by decide +kernel
theorem dX8_mayBe_31 : decode cX8_mayBe 31 = .ok (.lconst 0, 1) := by decide +kernel
theorem dX8_mayBe_32 : decode cX8_mayBe 32 = .ok (.ldc2_w 53, 3) := by decide +kernel
theorem dX8_mayBe_35 : decode cX8_mayBe 35 = .ok (.invokestatic 49, 3) := by decide +kernel
theorem dX8_mayBe_38 : decode cX8_mayBe 38 = .ok (.ifCond .eq 7, 3) := by decide +kernel
theorem dX8_mayBe_41 : decode cX8_mayBe 41 = .ok (.iconst 1, 1) := by decide +kernel
theorem dX8_mayBe_42 : decode cX8_mayBe 42 = .ok (.goto 4, 3) := by decide +kernel
theorem dX8_mayBe_45 : decode cX8_mayBe 45 = .ok (.iconst 0, 1) := by decide +kernel
theorem dX8_mayBe_46 : decode cX8_mayBe 46 = .ok (.ireturn, 1) := by decide +kernel
theorem dX8_set_0 : decode cX8_set 0 = .ok (.iload_n 1, 1) := by decide +kernel
theorem dX8_set_1 : decode cX8_set 1 = .ok (.iload_n 2, 1) := by decide +kernel
theorem dX8_set_2 : decode cX8_set 2 = .ok (.invokestatic 57, 3) := by decide +kernel
theorem dX8_set_5 : decode cX8_set 5 = .ok (.ifCond .ne 10, 3) := by decide +kernel
theorem dX8_set_8 : decode cX8_set 8 = .ok (.aload_n 0, 1) := by decide +kernel
theorem dX8_set_9 : decode cX8_set 9 = .ok (.ldc 46, 2) := by decide +kernel
theorem dX8_set_11 : decode cX8_set 11 = .ok (.invokevirtual 61, 3) := by decide +kernel
theorem dX8_set_14 : decode cX8_set 14 = .ok (.ireturn, 1) := by decide +kernel
theorem dX8_set_15 : decode cX8_set 15 = .ok (.aload_n 0, 1) := by decide +kernel
theorem dX8_set_16 : decode cX8_set 16 = .ok (.getfield 9, 3) := by decide +kernel
theorem dX8_set_19 : decode cX8_set 19 = .ok (.iload_n 1, 1) := by decide +kernel
theorem dX8_set_20 : decode cX8_set 20 = .ok (.iaload, 1) := by decide +kernel
theorem dX8_set_21 : decode cX8_set 21 = .ok (.istore_n 3, 1) := by decide +kernel
theorem dX8_set_22 : decode cX8_set 22 = .ok (.aload_n 0, 1) := by decide +kernel
theorem dX8_set_23 : decode cX8_set 23 = .ok (.getfield 9, 3) := by decide +kernel
theorem dX8_set_26 : decode cX8_set 26 = .ok (.iload_n 1, 1) := by decide +kernel
theorem dX8_set_27 : decode cX8_set 27 = .ok (.iload_n 2, 1) := by decide +kernel
theorem dX8_set_28 : decode cX8_set 28 = .ok (.iastore, 1) := by decide +kernel
theorem dX8_set_29 : decode cX8_set 29 = .ok (.iload_n 3, 1) := by decide +kernel
theorem dX8_set_30 : decode cX8_set 30 = .ok (.ireturn, 1) := by decide +kernel
theorem dX8_kind_0 : decode cX8_kind 0 = .ok (.iload_n 1, 1) := by decide +kernel
theorem dX8_kind_1 : decode cX8_kind 1 = .ok (.invokestatic 65, 3) := by decide +kernel
theorem dX8_kind_4 : decode cX8_kind 4 = .ok (.ifCond .eq 15, 3) := by decide +kernel
theorem dX8_kind_7 : decode cX8_kind 7 = .ok (.iload_n 2, 1) := by decide +kernel
theorem dX8_kind_8 : decode cX8_kind 8 = .ok (.i2l, 1) := by decide +kernel
theorem dX8_kind_9 : decode cX8_kind 9 = .ok (.lconst 0, 1) := by decide +kernel
theorem dX8_kind_10 : decode cX8_kind 10 = .ok (.ldc2_w 69, 3) := by decide +kernel
theorem dX8_kind_13 : decode cX8_kind 13 = .ok (.invokestatic 49, 3) := by decide +kernel
theorem dX8_kind_16 : decode cX8_kind 16 = .ok (.ifCond .ne 10, 3) := by decide +kernel
theorem dX8_kind_19 : decode cX8_kind 19 = .ok (.aload_n 0, 1) := by decide +kernel
theorem dX8_kind_20 : decode cX8_kind 20 = .ok (.ldc 46, 2) := by decide +kernel
theorem dX8_kind_22 : decode cX8_kind 22 = .ok (.invokevirtual 61, 3) := by decide +kernel
theorem dX8_kind_25 : decode cX8_kind 25 = .ok (.ireturn, 1) := by decide +kernel
theorem dX8_kind_26 : decode cX8_kind 26 = .ok (.aload_n 0, 1) := by decide +kernel
theorem dX8_kind_27 : decode cX8_kind 27 = .ok (.getfield 9, 3) := by decide +kernel
theorem dX8_kind_30 : decode cX8_kind 30 = .ok (.bipush 32, 2) := by decide +kernel
theorem dX8_kind_32 : decode cX8_kind 32 = .ok (.iload_n 1, 1) := by decide +kernel
theorem dX8_kind_33 : decode cX8_kind 33 = .ok (.iadd, 1) := by decide +kernel
theorem dX8_kind_34 : decode cX8_kind 34 = .ok (.iaload, 1) := by decide +kernel
theorem dX8_kind_35 : decode cX8_kind 35 = .ok (.istore_n 3, 1) := by decide +kernel
theorem dX8_kind_36 : decode cX8_kind 36 = .ok (.aload_n 0, 1) := by decide +kernel
theorem dX8_kind_37 : decode cX8_kind 37 = .ok (.getfield 9, 3) := by decide +kernel
theorem dX8_kind_40 : decode cX8_kind 40 = .ok (.bipush 32, 2) := by decide +kernel
theorem dX8_kind_42 : decode cX8_kind 42 = .ok (.iload_n 1, 1) := by decide +kernel
theorem dX8_kind_43 : decode cX8_kind 43 = .ok (.iadd, 1) := by decide +kernel
theorem dX8_kind_44 : decode cX8_kind 44 = .ok (.iload_n 2, 1) := by decide +kernel
theorem dX8_kind_45 : decode cX8_kind 45 = .ok (.iastore, 1) := by decide +kernel
theorem dX8_kind_46 : decode cX8_kind 46 = .ok (.iload_n 3, 1) := by decide +kernel
theorem dX8_kind_47 : decode cX8_kind 47 = .ok (.ireturn, 1) := by decide +kernel
theorem dX8_placeOf_0 : decode cX8_placeOf 0 = .ok (.iload_n 1, 1) := by decide +kernel
theorem dX8_placeOf_1 : decode cX8_placeOf 1 = .ok (.aload_n 0, 1) := by decide +kernel
theorem dX8_placeOf_2 : decode cX8_placeOf 2 = .ok (.iconst 5, 1) := by decide +kernel
theorem dX8_placeOf_3 : decode cX8_placeOf 3 = .ok (.iaload, 1) := by decide +kernel
theorem dX8_placeOf_4 : decode cX8_placeOf 4 = .ok (.bipush 100, 2) := by decide +kernel
theorem dX8_placeOf_6 : decode cX8_placeOf 6 = .ok (.idiv, 1) := by decide +kernel
theorem dX8_placeOf_7 : decode cX8_placeOf 7 = .ok (.iadd, 1) := by decide +kernel
theorem dX8_placeOf_8 : decode cX8_placeOf 8 = .ok (.bipush 12, 2) := by decide +kernel
theorem dX8_placeOf_10 : decode cX8_placeOf 10 = .ok (.irem, 1) := by decide +kernel
theorem dX8_placeOf_11 : decode cX8_placeOf 11 = .ok (.ireturn, 1) := by decide +kernel
theorem dX8_roomOf_0 : decode cX8_roomOf 0 = .ok (.aload_n 0, 1) := by decide +kernel
theorem dX8_roomOf_1 : decode cX8_roomOf 1 = .ok (.bipush 32, 2) := by decide +kernel
theorem dX8_roomOf_3 : decode cX8_roomOf 3 = .ok (.iload_n 1, 1) := by decide +kernel
theorem dX8_roomOf_4 : decode cX8_roomOf 4 = .ok (.iadd, 1) := by decide +kernel
theorem dX8_roomOf_5 : decode cX8_roomOf 5 = .ok (.iaload, 1) := by decide +kernel
theorem dX8_roomOf_6 : decode cX8_roomOf 6 = .ok (.tableswitch 34 4 6 #[26, 30, 26], 26) := by decide +kernel
theorem dX8_roomOf_32 : decode cX8_roomOf 32 = .ok (.sipush 200, 3) := by decide +kernel
theorem dX8_roomOf_35 : decode cX8_roomOf 35 = .ok (.ireturn, 1) := by decide +kernel
theorem dX8_roomOf_36 : decode cX8_roomOf 36 = .ok (.sipush 500, 3) := by decide +kernel
theorem dX8_roomOf_39 : decode cX8_roomOf 39 = .ok (.ireturn, 1) := by decide +kernel
theorem dX8_roomOf_40 : decode cX8_roomOf 40 = .ok (.sipush 999, 3) := by decide +kernel
theorem dX8_roomOf_43 : decode cX8_roomOf 43 = .ok (.ireturn, 1) := by decide +kernel
theorem dX8_leaksFrom_0 : decode cX8_leaksFrom 0 = .ok (.aload_n 0, 1) := by decide +kernel
theorem dX8_leaksFrom_1 : decode cX8_leaksFrom 1 = .ok (.bipush 20, 2) := by decide +kernel
theorem dX8_leaksFrom_3 : decode cX8_leaksFrom 3 = .ok (.iload_n 1, 1) := by decide +kernel
theorem dX8_leaksFrom_4 : decode cX8_leaksFrom 4 = .ok (.iadd, 1) := by decide +kernel
theorem dX8_leaksFrom_5 : decode cX8_leaksFrom 5 = .ok (.iaload, 1) := by decide +kernel
theorem dX8_leaksFrom_6 : decode cX8_leaksFrom 6 = .ok (.istore_n 2, 1) := by decide +kernel
theorem dX8_leaksFrom_7 : decode cX8_leaksFrom 7 = .ok (.iload_n 2, 1) := by decide +kernel
theorem dX8_leaksFrom_8 : decode cX8_leaksFrom 8 = .ok (.aload_n 0, 1) := by decide +kernel
theorem dX8_leaksFrom_9 : decode cX8_leaksFrom 9 = .ok (.iconst 1, 1) := by decide +kernel
theorem dX8_leaksFrom_10 : decode cX8_leaksFrom 10 = .ok (.iaload, 1) := by decide +kernel
theorem dX8_leaksFrom_11 : decode cX8_leaksFrom 11 = .ok (.imul, 1) := by decide +kernel
theorem dX8_leaksFrom_12 : decode cX8_leaksFrom 12 = .ok (.bipush 100, 2) := by decide +kernel
theorem dX8_leaksFrom_14 : decode cX8_leaksFrom 14 = .ok (.idiv, 1) := by decide +kernel
theorem dX8_leaksFrom_15 : decode cX8_leaksFrom 15 = .ok (.istore_n 3, 1) := by decide +kernel
theorem dX8_leaksFrom_16 : decode cX8_leaksFrom 16 = .ok (.iload_n 2, 1) := by decide +kernel
theorem dX8_leaksFrom_17 : decode cX8_leaksFrom 17 = .ok (.bipush 100, 2) := by decide +kernel
theorem dX8_leaksFrom_19 : decode cX8_leaksFrom 19 = .ok (.if_icmp .le 17, 3) := by decide +kernel
theorem dX8_leaksFrom_22 : decode cX8_leaksFrom 22 = .ok (.iload_n 2, 1) := by decide +kernel
theorem dX8_leaksFrom_23 : decode cX8_leaksFrom 23 = .ok (.bipush 100, 2) := by decide +kernel
theorem dX8_leaksFrom_25 : decode cX8_leaksFrom 25 = .ok (.isub, 1) := by decide +kernel
theorem dX8_leaksFrom_26 : decode cX8_leaksFrom 26 = .ok (.aload_n 0, 1) := by decide +kernel
theorem dX8_leaksFrom_27 : decode cX8_leaksFrom 27 = .ok (.iconst 1, 1) := by decide +kernel
theorem dX8_leaksFrom_28 : decode cX8_leaksFrom 28 = .ok (.iaload, 1) := by decide +kernel
theorem dX8_leaksFrom_29 : decode cX8_leaksFrom 29 = .ok (.imul, 1) := by decide +kernel
theorem dX8_leaksFrom_30 : decode cX8_leaksFrom 30 = .ok (.bipush 100, 2) := by decide +kernel
theorem dX8_leaksFrom_32 : decode cX8_leaksFrom 32 = .ok (.idiv, 1) := by decide +kernel
theorem dX8_leaksFrom_33 : decode cX8_leaksFrom 33 = .ok (.goto 4, 3) := by decide +kernel
theorem dX8_leaksFrom_36 : decode cX8_leaksFrom 36 = .ok (.iconst 0, 1) := by decide +kernel
theorem dX8_leaksFrom_37 : decode cX8_leaksFrom 37 = .ok (.istore 4, 2) := by decide +kernel
theorem dX8_leaksFrom_39 : decode cX8_leaksFrom 39 = .ok (.aload_n 0, 1) := by decide +kernel
theorem dX8_leaksFrom_40 : decode cX8_leaksFrom 40 = .ok (.bipush 32, 2) := by decide +kernel
theorem dX8_leaksFrom_42 : decode cX8_leaksFrom 42 = .ok (.iload_n 1, 1) := by decide +kernel
theorem dX8_leaksFrom_43 : decode cX8_leaksFrom 43 = .ok (.iadd, 1) := by decide +kernel
theorem dX8_leaksFrom_44 : decode cX8_leaksFrom 44 = .ok (.iaload, 1) := by decide +kernel
theorem dX8_leaksFrom_45 : decode cX8_leaksFrom 45 = .ok (.tableswitch 76 1 6 #[39, 41, 56, 41, 59, 41], 39) := by decide +kernel
theorem dX8_leaksFrom_84 : decode cX8_leaksFrom 84 = .ok (.iconst 0, 1) := by decide +kernel
theorem dX8_leaksFrom_85 : decode cX8_leaksFrom 85 = .ok (.ireturn, 1) := by decide +kernel
theorem dX8_leaksFrom_86 : decode cX8_leaksFrom 86 = .ok (.iconst 2, 1) := by decide +kernel
theorem dX8_leaksFrom_87 : decode cX8_leaksFrom 87 = .ok (.iload_n 3, 1) := by decide +kernel
theorem dX8_leaksFrom_88 : decode cX8_leaksFrom 88 = .ok (.imul, 1) := by decide +kernel
theorem dX8_leaksFrom_89 : decode cX8_leaksFrom 89 = .ok (.iload_n 2, 1) := by decide +kernel
theorem dX8_leaksFrom_90 : decode cX8_leaksFrom 90 = .ok (.if_icmp .ge 9, 3) := by decide +kernel
theorem dX8_leaksFrom_93 : decode cX8_leaksFrom 93 = .ok (.iconst 2, 1) := by decide +kernel
theorem dX8_leaksFrom_94 : decode cX8_leaksFrom 94 = .ok (.iload_n 3, 1) := by decide +kernel
theorem dX8_leaksFrom_95 : decode cX8_leaksFrom 95 = .ok (.imul, 1) := by decide +kernel
theorem dX8_leaksFrom_96 : decode cX8_leaksFrom 96 = .ok (.goto 4, 3) := by decide +kernel
theorem dX8_leaksFrom_99 : decode cX8_leaksFrom 99 = .ok (.iload_n 2, 1) := by decide +kernel
theorem dX8_leaksFrom_100 : decode cX8_leaksFrom 100 = .ok (.ireturn, 1) := by decide +kernel
theorem dX8_leaksFrom_101 : decode cX8_leaksFrom 101 = .ok (.iload 4, 2) := by decide +kernel
theorem dX8_leaksFrom_103 : decode cX8_leaksFrom 103 = .ok (.ireturn, 1) := by decide +kernel
theorem dX8_leaksFrom_104 : decode cX8_leaksFrom 104 = .ok (.aload_n 0, 1) := by decide +kernel
theorem dX8_leaksFrom_105 : decode cX8_leaksFrom 105 = .ok (.iload_n 1, 1) := by decide +kernel
theorem dX8_leaksFrom_106 : decode cX8_leaksFrom 106 = .ok (.invokestatic 71, 3) := by decide +kernel
theorem dX8_leaksFrom_109 : decode cX8_leaksFrom 109 = .ok (.bipush 6, 2) := by decide +kernel
theorem dX8_leaksFrom_111 : decode cX8_leaksFrom 111 = .ok (.if_icmp .ne 7, 3) := by decide +kernel
theorem dX8_leaksFrom_114 : decode cX8_leaksFrom 114 = .ok (.iload_n 2, 1) := by decide +kernel
theorem dX8_leaksFrom_115 : decode cX8_leaksFrom 115 = .ok (.goto 5, 3) := by decide +kernel
theorem dX8_leaksFrom_118 : decode cX8_leaksFrom 118 = .ok (.iload 4, 2) := by decide +kernel
theorem dX8_leaksFrom_120 : decode cX8_leaksFrom 120 = .ok (.ireturn, 1) := by decide +kernel
theorem dX8_leaksFrom_121 : decode cX8_leaksFrom 121 = .ok (.iload_n 3, 1) := by decide +kernel
theorem dX8_leaksFrom_122 : decode cX8_leaksFrom 122 = .ok (.ireturn, 1) := by decide +kernel
theorem dX8_cupOf_0 : decode cX8_cupOf 0 = .ok (.iload_n 1, 1) := by decide +kernel
theorem dX8_cupOf_1 : decode cX8_cupOf 1 = .ok (.invokestatic 65, 3) := by decide +kernel
theorem dX8_cupOf_4 : decode cX8_cupOf 4 = .ok (.ifCond .eq 15, 3) := by decide +kernel
theorem dX8_cupOf_7 : decode cX8_cupOf 7 = .ok (.iload_n 2, 1) := by decide +kernel
theorem dX8_cupOf_8 : decode cX8_cupOf 8 = .ok (.i2l, 1) := by decide +kernel
theorem dX8_cupOf_9 : decode cX8_cupOf 9 = .ok (.lconst 0, 1) := by decide +kernel
theorem dX8_cupOf_10 : decode cX8_cupOf 10 = .ok (.ldc2_w 75, 3) := by decide +kernel
theorem dX8_cupOf_13 : decode cX8_cupOf 13 = .ok (.invokestatic 49, 3) := by decide +kernel
theorem dX8_cupOf_16 : decode cX8_cupOf 16 = .ok (.ifCond .ne 10, 3) := by decide +kernel
theorem dX8_cupOf_19 : decode cX8_cupOf 19 = .ok (.aload_n 0, 1) := by decide +kernel
theorem dX8_cupOf_20 : decode cX8_cupOf 20 = .ok (.ldc 46, 2) := by decide +kernel
theorem dX8_cupOf_22 : decode cX8_cupOf 22 = .ok (.invokevirtual 61, 3) := by decide +kernel
theorem dX8_cupOf_25 : decode cX8_cupOf 25 = .ok (.ireturn, 1) := by decide +kernel
theorem dX8_cupOf_26 : decode cX8_cupOf 26 = .ok (.iload_n 2, 1) := by decide +kernel
theorem dX8_cupOf_27 : decode cX8_cupOf 27 = .ok (.tableswitch 67 0 3 #[29, 39, 49, 58], 29) := by decide +kernel
theorem dX8_cupOf_56 : decode cX8_cupOf 56 = .ok (.aload_n 0, 1) := by decide +kernel
theorem dX8_cupOf_57 : decode cX8_cupOf 57 = .ok (.getfield 9, 3) := by decide +kernel
theorem dX8_cupOf_60 : decode cX8_cupOf 60 = .ok (.bipush 32, 2) := by decide +kernel
theorem dX8_cupOf_62 : decode cX8_cupOf 62 = .ok (.iload_n 1, 1) := by decide +kernel
theorem dX8_cupOf_63 : decode cX8_cupOf 63 = .ok (.iadd, 1) := by decide +kernel
theorem dX8_cupOf_64 : decode cX8_cupOf 64 = .ok (.iaload, 1) := by decide +kernel
theorem dX8_cupOf_65 : decode cX8_cupOf 65 = .ok (.ireturn, 1) := by decide +kernel
theorem dX8_cupOf_66 : decode cX8_cupOf 66 = .ok (.aload_n 0, 1) := by decide +kernel
theorem dX8_cupOf_67 : decode cX8_cupOf 67 = .ok (.getfield 9, 3) := by decide +kernel
theorem dX8_cupOf_70 : decode cX8_cupOf 70 = .ok (.bipush 20, 2) := by decide +kernel
theorem dX8_cupOf_72 : decode cX8_cupOf 72 = .ok (.iload_n 1, 1) := by decide +kernel
theorem dX8_cupOf_73 : decode cX8_cupOf 73 = .ok (.iadd, 1) := by decide +kernel
theorem dX8_cupOf_74 : decode cX8_cupOf 74 = .ok (.iaload, 1) := by decide +kernel
theorem dX8_cupOf_75 : decode cX8_cupOf 75 = .ok (.ireturn, 1) := by decide +kernel
theorem dX8_cupOf_76 : decode cX8_cupOf 76 = .ok (.aload_n 0, 1) := by decide +kernel
theorem dX8_cupOf_77 : decode cX8_cupOf 77 = .ok (.getfield 9, 3) := by decide +kernel
theorem dX8_cupOf_80 : decode cX8_cupOf 80 = .ok (.iload_n 1, 1) := by decide +kernel
theorem dX8_cupOf_81 : decode cX8_cupOf 81 = .ok (.invokestatic 71, 3) := by decide +kernel
theorem dX8_cupOf_84 : decode cX8_cupOf 84 = .ok (.ireturn, 1) := by decide +kernel
theorem dX8_cupOf_85 : decode cX8_cupOf 85 = .ok (.aload_n 0, 1) := by decide +kernel
theorem dX8_cupOf_86 : decode cX8_cupOf 86 = .ok (.getfield 9, 3) := by decide +kernel
theorem dX8_cupOf_89 : decode cX8_cupOf 89 = .ok (.iload_n 1, 1) := by decide +kernel
theorem dX8_cupOf_90 : decode cX8_cupOf 90 = .ok (.invokestatic 77, 3) := by decide +kernel
theorem dX8_cupOf_93 : decode cX8_cupOf 93 = .ok (.ireturn, 1) := by decide +kernel
theorem dX8_cupOf_94 : decode cX8_cupOf 94 = .ok (.aload_n 0, 1) := by decide +kernel
theorem dX8_cupOf_95 : decode cX8_cupOf 95 = .ok (.getfield 9, 3) := by decide +kernel
theorem dX8_cupOf_98 : decode cX8_cupOf 98 = .ok (.iload_n 1, 1) := by decide +kernel
theorem dX8_cupOf_99 : decode cX8_cupOf 99 = .ok (.invokestatic 80, 3) := by decide +kernel
theorem dX8_cupOf_102 : decode cX8_cupOf 102 = .ok (.ireturn, 1) := by decide +kernel
theorem dX8_fill_0 : decode cX8_fill 0 = .ok (.iload_n 1, 1) := by decide +kernel
theorem dX8_fill_1 : decode cX8_fill 1 = .ok (.invokestatic 65, 3) := by decide +kernel
theorem dX8_fill_4 : decode cX8_fill 4 = .ok (.ifCond .eq 15, 3) := by decide +kernel
theorem dX8_fill_7 : decode cX8_fill 7 = .ok (.iload_n 2, 1) := by decide +kernel
theorem dX8_fill_8 : decode cX8_fill 8 = .ok (.i2l, 1) := by decide +kernel
theorem dX8_fill_9 : decode cX8_fill 9 = .ok (.lconst 1, 1) := by decide +kernel
theorem dX8_fill_10 : decode cX8_fill 10 = .ok (.ldc2_w 83, 3) := by decide +kernel
theorem dX8_fill_13 : decode cX8_fill 13 = .ok (.invokestatic 49, 3) := by decide +kernel
theorem dX8_fill_16 : decode cX8_fill 16 = .ok (.ifCond .ne 10, 3) := by decide +kernel
theorem dX8_fill_19 : decode cX8_fill 19 = .ok (.aload_n 0, 1) := by decide +kernel
theorem dX8_fill_20 : decode cX8_fill 20 = .ok (.ldc 46, 2) := by decide +kernel
theorem dX8_fill_22 : decode cX8_fill 22 = .ok (.invokevirtual 61, 3) := by decide +kernel
theorem dX8_fill_25 : decode cX8_fill 25 = .ok (.ireturn, 1) := by decide +kernel
theorem dX8_fill_26 : decode cX8_fill 26 = .ok (.aload_n 0, 1) := by decide +kernel
theorem dX8_fill_27 : decode cX8_fill 27 = .ok (.getfield 9, 3) := by decide +kernel
theorem dX8_fill_30 : decode cX8_fill 30 = .ok (.bipush 20, 2) := by decide +kernel
theorem dX8_fill_32 : decode cX8_fill 32 = .ok (.iload_n 1, 1) := by decide +kernel
theorem dX8_fill_33 : decode cX8_fill 33 = .ok (.iadd, 1) := by decide +kernel
theorem dX8_fill_34 : decode cX8_fill 34 = .ok (.iaload, 1) := by decide +kernel
theorem dX8_fill_35 : decode cX8_fill 35 = .ok (.iload_n 2, 1) := by decide +kernel
theorem dX8_fill_36 : decode cX8_fill 36 = .ok (.iadd, 1) := by decide +kernel
theorem dX8_fill_37 : decode cX8_fill 37 = .ok (.aload_n 0, 1) := by decide +kernel
theorem dX8_fill_38 : decode cX8_fill 38 = .ok (.getfield 9, 3) := by decide +kernel
theorem dX8_fill_41 : decode cX8_fill 41 = .ok (.iload_n 1, 1) := by decide +kernel
theorem dX8_fill_42 : decode cX8_fill 42 = .ok (.invokestatic 77, 3) := by decide +kernel
theorem dX8_fill_45 : decode cX8_fill 45 = .ok (.if_icmp .le 10, 3) := by decide +kernel
theorem dX8_fill_48 : decode cX8_fill 48 = .ok (.aload_n 0, 1) := by decide +kernel
theorem dX8_fill_49 : decode cX8_fill 49 = .ok (.ldc 85, 2) := by decide +kernel
theorem dX8_fill_51 : decode cX8_fill 51 = .ok (.invokevirtual 61, 3) := by decide +kernel
theorem dX8_fill_54 : decode cX8_fill 54 = .ok (.ireturn, 1) := by decide +kernel
theorem dX8_fill_55 : decode cX8_fill 55 = .ok (.aload_n 0, 1) := by decide +kernel
theorem dX8_fill_56 : decode cX8_fill 56 = .ok (.getfield 9, 3) := by decide +kernel
theorem dX8_fill_59 : decode cX8_fill 59 = .ok (.bipush 20, 2) := by decide +kernel
theorem dX8_fill_61 : decode cX8_fill 61 = .ok (.iload_n 1, 1) := by decide +kernel
theorem dX8_fill_62 : decode cX8_fill 62 = .ok (.iadd, 1) := by decide +kernel
theorem dX8_fill_63 : decode cX8_fill 63 = .ok (.dup2, 1) := by decide +kernel
theorem dX8_fill_64 : decode cX8_fill 64 = .ok (.iaload, 1) := by decide +kernel
theorem dX8_fill_65 : decode cX8_fill 65 = .ok (.iload_n 2, 1) := by decide +kernel
theorem dX8_fill_66 : decode cX8_fill 66 = .ok (.iadd, 1) := by decide +kernel
theorem dX8_fill_67 : decode cX8_fill 67 = .ok (.iastore, 1) := by decide +kernel
theorem dX8_fill_68 : decode cX8_fill 68 = .ok (.aload_n 0, 1) := by decide +kernel
theorem dX8_fill_69 : decode cX8_fill 69 = .ok (.getfield 9, 3) := by decide +kernel
theorem dX8_fill_72 : decode cX8_fill 72 = .ok (.bipush 20, 2) := by decide +kernel
theorem dX8_fill_74 : decode cX8_fill 74 = .ok (.iload_n 1, 1) := by decide +kernel
theorem dX8_fill_75 : decode cX8_fill 75 = .ok (.iadd, 1) := by decide +kernel
theorem dX8_fill_76 : decode cX8_fill 76 = .ok (.iaload, 1) := by decide +kernel
theorem dX8_fill_77 : decode cX8_fill 77 = .ok (.ireturn, 1) := by decide +kernel
theorem dX8_empty_0 : decode cX8_empty 0 = .ok (.iload_n 1, 1) := by decide +kernel
theorem dX8_empty_1 : decode cX8_empty 1 = .ok (.invokestatic 65, 3) := by decide +kernel
theorem dX8_empty_4 : decode cX8_empty 4 = .ok (.ifCond .ne 10, 3) := by decide +kernel
theorem dX8_empty_7 : decode cX8_empty 7 = .ok (.aload_n 0, 1) := by decide +kernel
theorem dX8_empty_8 : decode cX8_empty 8 = .ok (.ldc 46, 2) := by decide +kernel
theorem dX8_empty_10 : decode cX8_empty 10 = .ok (.invokevirtual 61, 3) := by decide +kernel
theorem dX8_empty_13 : decode cX8_empty 13 = .ok (.ireturn, 1) := by decide +kernel
theorem dX8_empty_14 : decode cX8_empty 14 = .ok (.aload_n 0, 1) := by decide +kernel
theorem dX8_empty_15 : decode cX8_empty 15 = .ok (.getfield 9, 3) := by decide +kernel
theorem dX8_empty_18 : decode cX8_empty 18 = .ok (.bipush 20, 2) := by decide +kernel
theorem dX8_empty_20 : decode cX8_empty 20 = .ok (.iload_n 1, 1) := by decide +kernel
theorem dX8_empty_21 : decode cX8_empty 21 = .ok (.iadd, 1) := by decide +kernel
theorem dX8_empty_22 : decode cX8_empty 22 = .ok (.iaload, 1) := by decide +kernel
theorem dX8_empty_23 : decode cX8_empty 23 = .ok (.istore_n 2, 1) := by decide +kernel
theorem dX8_empty_24 : decode cX8_empty 24 = .ok (.aload_n 0, 1) := by decide +kernel
theorem dX8_empty_25 : decode cX8_empty 25 = .ok (.getfield 9, 3) := by decide +kernel
theorem dX8_empty_28 : decode cX8_empty 28 = .ok (.bipush 20, 2) := by decide +kernel
theorem dX8_empty_30 : decode cX8_empty 30 = .ok (.iload_n 1, 1) := by decide +kernel
theorem dX8_empty_31 : decode cX8_empty 31 = .ok (.iadd, 1) := by decide +kernel
theorem dX8_empty_32 : decode cX8_empty 32 = .ok (.iconst 0, 1) := by decide +kernel
theorem dX8_empty_33 : decode cX8_empty 33 = .ok (.iastore, 1) := by decide +kernel
theorem dX8_empty_34 : decode cX8_empty 34 = .ok (.iload_n 2, 1) := by decide +kernel
theorem dX8_empty_35 : decode cX8_empty 35 = .ok (.ireturn, 1) := by decide +kernel
theorem dX8_touches_0 : decode cX8_touches 0 = .ok (.aload_n 0, 1) := by decide +kernel
theorem dX8_touches_1 : decode cX8_touches 1 = .ok (.iconst 4, 1) := by decide +kernel
theorem dX8_touches_2 : decode cX8_touches 2 = .ok (.aload_n 0, 1) := by decide +kernel
theorem dX8_touches_3 : decode cX8_touches 3 = .ok (.iconst 4, 1) := by decide +kernel
theorem dX8_touches_4 : decode cX8_touches 4 = .ok (.iaload, 1) := by decide +kernel
theorem dX8_touches_5 : decode cX8_touches 5 = .ok (.iload_n 1, 1) := by decide +kernel
theorem dX8_touches_6 : decode cX8_touches 6 = .ok (.iadd, 1) := by decide +kernel
theorem dX8_touches_7 : decode cX8_touches 7 = .ok (.i2l, 1) := by decide +kernel
theorem dX8_touches_8 : decode cX8_touches 8 = .ok (.sipush (-600), 3) := by decide +kernel
theorem dX8_touches_11 : decode cX8_touches 11 = .ok (.sipush 600, 3) := by decide +kernel
theorem dX8_touches_14 : decode cX8_touches 14 = .ok (.invokestatic 86, 3) := by decide +kernel
theorem dX8_touches_17 : decode cX8_touches 17 = .ok (.iastore, 1) := by decide +kernel
theorem dX8_touches_18 : decode cX8_touches 18 = .ok (.aload_n 0, 1) := by decide +kernel
theorem dX8_touches_19 : decode cX8_touches 19 = .ok (.bipush 6, 2) := by decide +kernel
theorem dX8_touches_21 : decode cX8_touches 21 = .ok (.aload_n 0, 1) := by decide +kernel
theorem dX8_touches_22 : decode cX8_touches 22 = .ok (.iconst 4, 1) := by decide +kernel
theorem dX8_touches_23 : decode cX8_touches 23 = .ok (.iaload, 1) := by decide +kernel
theorem dX8_touches_24 : decode cX8_touches 24 = .ok (.ifCond .ne 10, 3) := by decide +kernel
theorem dX8_touches_27 : decode cX8_touches 27 = .ok (.aload_n 0, 1) := by decide +kernel
theorem dX8_touches_28 : decode cX8_touches 28 = .ok (.bipush 6, 2) := by decide +kernel
theorem dX8_touches_30 : decode cX8_touches 30 = .ok (.iaload, 1) := by decide +kernel
theorem dX8_touches_31 : decode cX8_touches 31 = .ok (.goto 14, 3) := by decide +kernel
theorem dX8_touches_34 : decode cX8_touches 34 = .ok (.aload_n 0, 1) := by decide +kernel
theorem dX8_touches_35 : decode cX8_touches 35 = .ok (.iconst 4, 1) := by decide +kernel
theorem dX8_touches_36 : decode cX8_touches 36 = .ok (.iaload, 1) := by decide +kernel
theorem dX8_touches_37 : decode cX8_touches 37 = .ok (.ifCond .le 7, 3) := by decide +kernel
theorem dX8_touches_40 : decode cX8_touches 40 = .ok (.iconst 1, 1) := by decide +kernel
theorem dX8_touches_41 : decode cX8_touches 41 = .ok (.goto 4, 3) := by decide +kernel
theorem dX8_touches_44 : decode cX8_touches 44 = .ok (.iconst (-1), 1) := by decide +kernel
theorem dX8_touches_45 : decode cX8_touches 45 = .ok (.iastore, 1) := by decide +kernel
theorem dX8_touches_46 : decode cX8_touches 46 = .ok (.return_, 1) := by decide +kernel
theorem dX8_touch_0 : decode cX8_touch 0 = .ok (.iload_n 1, 1) := by decide +kernel
theorem dX8_touch_1 : decode cX8_touch 1 = .ok (.i2l, 1) := by decide +kernel
theorem dX8_touch_2 : decode cX8_touch 2 = .ok (.ldc2_w 90, 3) := by decide +kernel
theorem dX8_touch_5 : decode cX8_touch 5 = .ok (.ldc2_w 92, 3) := by decide +kernel
theorem dX8_touch_8 : decode cX8_touch 8 = .ok (.invokestatic 49, 3) := by decide +kernel
theorem dX8_touch_11 : decode cX8_touch 11 = .ok (.ifCond .ne 10, 3) := by decide +kernel
theorem dX8_touch_14 : decode cX8_touch 14 = .ok (.aload_n 0, 1) := by decide +kernel
theorem dX8_touch_15 : decode cX8_touch 15 = .ok (.ldc 46, 2) := by decide +kernel
theorem dX8_touch_17 : decode cX8_touch 17 = .ok (.invokevirtual 61, 3) := by decide +kernel
theorem dX8_touch_20 : decode cX8_touch 20 = .ok (.ireturn, 1) := by decide +kernel
theorem dX8_touch_21 : decode cX8_touch 21 = .ok (.aload_n 0, 1) := by decide +kernel
theorem dX8_touch_22 : decode cX8_touch 22 = .ok (.getfield 9, 3) := by decide +kernel
theorem dX8_touch_25 : decode cX8_touch 25 = .ok (.iload_n 1, 1) := by decide +kernel
theorem dX8_touch_26 : decode cX8_touch 26 = .ok (.invokestatic 94, 3) := by decide +kernel
theorem dX8_touch_29 : decode cX8_touch 29 = .ok (.aload_n 0, 1) := by decide +kernel
theorem dX8_touch_30 : decode cX8_touch 30 = .ok (.getfield 9, 3) := by decide +kernel
theorem dX8_touch_33 : decode cX8_touch 33 = .ok (.iconst 4, 1) := by decide +kernel
theorem dX8_touch_34 : decode cX8_touch 34 = .ok (.iaload, 1) := by decide +kernel
theorem dX8_touch_35 : decode cX8_touch 35 = .ok (.ireturn, 1) := by decide +kernel
theorem dX8_stop_0 : decode cX8_stop 0 = .ok (.iload_n 1, 1) := by decide +kernel
theorem dX8_stop_1 : decode cX8_stop 1 = .ok (.i2l, 1) := by decide +kernel
theorem dX8_stop_2 : decode cX8_stop 2 = .ok (.lconst 0, 1) := by decide +kernel
theorem dX8_stop_3 : decode cX8_stop 3 = .ok (.ldc2_w 98, 3) := by decide +kernel
theorem dX8_stop_6 : decode cX8_stop 6 = .ok (.invokestatic 49, 3) := by decide +kernel
theorem dX8_stop_9 : decode cX8_stop 9 = .ok (.ifCond .ne 10, 3) := by decide +kernel
theorem dX8_stop_12 : decode cX8_stop 12 = .ok (.aload_n 0, 1) := by decide +kernel
theorem dX8_stop_13 : decode cX8_stop 13 = .ok (.ldc 46, 2) := by decide +kernel
theorem dX8_stop_15 : decode cX8_stop 15 = .ok (.invokevirtual 61, 3) := by decide +kernel
theorem dX8_stop_18 : decode cX8_stop 18 = .ok (.ireturn, 1) := by decide +kernel
theorem dX8_stop_19 : decode cX8_stop 19 = .ok (.aload_n 0, 1) := by decide +kernel
theorem dX8_stop_20 : decode cX8_stop 20 = .ok (.getfield 9, 3) := by decide +kernel
theorem dX8_stop_23 : decode cX8_stop 23 = .ok (.iconst 4, 1) := by decide +kernel
theorem dX8_stop_24 : decode cX8_stop 24 = .ok (.iaload, 1) := by decide +kernel
theorem dX8_stop_25 : decode cX8_stop 25 = .ok (.istore_n 2, 1) := by decide +kernel
theorem dX8_stop_26 : decode cX8_stop 26 = .ok (.aload_n 0, 1) := by decide +kernel
theorem dX8_stop_27 : decode cX8_stop 27 = .ok (.getfield 9, 3) := by decide +kernel
theorem dX8_stop_30 : decode cX8_stop 30 = .ok (.iconst 4, 1) := by decide +kernel
theorem dX8_stop_31 : decode cX8_stop 31 = .ok (.iconst 0, 1) := by decide +kernel
theorem dX8_stop_32 : decode cX8_stop 32 = .ok (.iastore, 1) := by decide +kernel
theorem dX8_stop_33 : decode cX8_stop 33 = .ok (.aload_n 0, 1) := by decide +kernel
theorem dX8_stop_34 : decode cX8_stop 34 = .ok (.getfield 9, 3) := by decide +kernel
theorem dX8_stop_37 : decode cX8_stop 37 = .ok (.iconst 5, 1) := by decide +kernel
theorem dX8_stop_38 : decode cX8_stop 38 = .ok (.iload_n 1, 1) := by decide +kernel
theorem dX8_stop_39 : decode cX8_stop 39 = .ok (.iastore, 1) := by decide +kernel
theorem dX8_stop_40 : decode cX8_stop 40 = .ok (.iload_n 2, 1) := by decide +kernel
theorem dX8_stop_41 : decode cX8_stop 41 = .ok (.ireturn, 1) := by decide +kernel
theorem dX8_torqueOf_0 : decode cX8_torqueOf 0 = .ok (.iconst 0, 1) := by decide +kernel
theorem dX8_torqueOf_1 : decode cX8_torqueOf 1 = .ok (.istore_n 2, 1) := by decide +kernel
theorem dX8_torqueOf_2 : decode cX8_torqueOf 2 = .ok (.iconst 0, 1) := by decide +kernel
theorem dX8_torqueOf_3 : decode cX8_torqueOf 3 = .ok (.istore_n 3, 1) := by decide +kernel
theorem dX8_torqueOf_4 : decode cX8_torqueOf 4 = .ok (.iload_n 3, 1) := by decide +kernel
theorem dX8_torqueOf_5 : decode cX8_torqueOf 5 = .ok (.bipush 12, 2) := by decide +kernel
theorem dX8_torqueOf_7 : decode cX8_torqueOf 7 = .ok (.if_icmp .ge 29, 3) := by decide +kernel
theorem dX8_torqueOf_10 : decode cX8_torqueOf 10 = .ok (.iload_n 2, 1) := by decide +kernel
theorem dX8_torqueOf_11 : decode cX8_torqueOf 11 = .ok (.aload_n 1, 1) := by decide +kernel
theorem dX8_torqueOf_12 : decode cX8_torqueOf 12 = .ok (.bipush 20, 2) := by decide +kernel
theorem dX8_torqueOf_14 : decode cX8_torqueOf 14 = .ok (.iload_n 3, 1) := by decide +kernel
theorem dX8_torqueOf_15 : decode cX8_torqueOf 15 = .ok (.iadd, 1) := by decide +kernel
theorem dX8_torqueOf_16 : decode cX8_torqueOf 16 = .ok (.iaload, 1) := by decide +kernel
theorem dX8_torqueOf_17 : decode cX8_torqueOf 17 = .ok (.aload_n 0, 1) := by decide +kernel
theorem dX8_torqueOf_18 : decode cX8_torqueOf 18 = .ok (.getfield 25, 3) := by decide +kernel
theorem dX8_torqueOf_21 : decode cX8_torqueOf 21 = .ok (.aload_n 1, 1) := by decide +kernel
theorem dX8_torqueOf_22 : decode cX8_torqueOf 22 = .ok (.iload_n 3, 1) := by decide +kernel
theorem dX8_torqueOf_23 : decode cX8_torqueOf 23 = .ok (.invokestatic 71, 3) := by decide +kernel
theorem dX8_torqueOf_26 : decode cX8_torqueOf 26 = .ok (.iaload, 1) := by decide +kernel
theorem dX8_torqueOf_27 : decode cX8_torqueOf 27 = .ok (.imul, 1) := by decide +kernel
theorem dX8_torqueOf_28 : decode cX8_torqueOf 28 = .ok (.iadd, 1) := by decide +kernel
theorem dX8_torqueOf_29 : decode cX8_torqueOf 29 = .ok (.istore_n 2, 1) := by decide +kernel
theorem dX8_torqueOf_30 : decode cX8_torqueOf 30 = .ok (.iinc 3 1, 3) := by decide +kernel
theorem dX8_torqueOf_33 : decode cX8_torqueOf 33 = .ok (.goto (-29), 3) := by decide +kernel
theorem dX8_torqueOf_36 : decode cX8_torqueOf 36 = .ok (.iload_n 2, 1) := by decide +kernel
theorem dX8_torqueOf_37 : decode cX8_torqueOf 37 = .ok (.ireturn, 1) := by decide +kernel
theorem dX8_notes_0 : decode cX8_notes 0 = .ok (.aload_n 0, 1) := by decide +kernel
theorem dX8_notes_1 : decode cX8_notes 1 = .ok (.iconst 4, 1) := by decide +kernel
theorem dX8_notes_2 : decode cX8_notes 2 = .ok (.iaload, 1) := by decide +kernel
theorem dX8_notes_3 : decode cX8_notes 3 = .ok (.istore_n 1, 1) := by decide +kernel
theorem dX8_notes_4 : decode cX8_notes 4 = .ok (.iload_n 1, 1) := by decide +kernel
theorem dX8_notes_5 : decode cX8_notes 5 = .ok (.ifCond .ge 8, 3) := by decide +kernel
theorem dX8_notes_8 : decode cX8_notes 8 = .ok (.iload_n 1, 1) := by decide +kernel
theorem dX8_notes_9 : decode cX8_notes 9 = .ok (.ineg, 1) := by decide +kernel
theorem dX8_notes_10 : decode cX8_notes 10 = .ok (.goto 4, 3) := by decide +kernel
theorem dX8_notes_13 : decode cX8_notes 13 = .ok (.iload_n 1, 1) := by decide +kernel
theorem dX8_notes_14 : decode cX8_notes 14 = .ok (.istore_n 2, 1) := by decide +kernel
theorem dX8_notes_15 : decode cX8_notes 15 = .ok (.iload_n 1, 1) := by decide +kernel
theorem dX8_notes_16 : decode cX8_notes 16 = .ok (.ifCond .eq 88, 3) := by decide +kernel
theorem dX8_notes_19 : decode cX8_notes 19 = .ok (.aload_n 0, 1) := by decide +kernel
theorem dX8_notes_20 : decode cX8_notes 20 = .ok (.bipush 6, 2) := by decide +kernel
theorem dX8_notes_22 : decode cX8_notes 22 = .ok (.iaload, 1) := by decide +kernel
theorem dX8_notes_23 : decode cX8_notes 23 = .ok (.ifCond .eq 81, 3) := by decide +kernel
theorem dX8_notes_26 : decode cX8_notes 26 = .ok (.iload_n 1, 1) := by decide +kernel
theorem dX8_notes_27 : decode cX8_notes 27 = .ok (.ifCond .le 7, 3) := by decide +kernel
theorem dX8_notes_30 : decode cX8_notes 30 = .ok (.iconst 1, 1) := by decide +kernel
theorem dX8_notes_31 : decode cX8_notes 31 = .ok (.goto 4, 3) := by decide +kernel
theorem dX8_notes_34 : decode cX8_notes 34 = .ok (.iconst 0, 1) := by decide +kernel
theorem dX8_notes_35 : decode cX8_notes 35 = .ok (.aload_n 0, 1) := by decide +kernel
theorem dX8_notes_36 : decode cX8_notes 36 = .ok (.bipush 6, 2) := by decide +kernel
theorem dX8_notes_38 : decode cX8_notes 38 = .ok (.iaload, 1) := by decide +kernel
theorem dX8_notes_39 : decode cX8_notes 39 = .ok (.ifCond .le 7, 3) := by decide +kernel
theorem dX8_notes_42 : decode cX8_notes 42 = .ok (.iconst 1, 1) := by decide +kernel
theorem dX8_notes_43 : decode cX8_notes 43 = .ok (.goto 4, 3) := by decide +kernel
theorem dX8_notes_46 : decode cX8_notes 46 = .ok (.iconst 0, 1) := by decide +kernel
theorem dX8_notes_47 : decode cX8_notes 47 = .ok (.if_icmp .eq 57, 3) := by decide +kernel
theorem dX8_notes_50 : decode cX8_notes 50 = .ok (.aload_n 0, 1) := by decide +kernel
theorem dX8_notes_51 : decode cX8_notes 51 = .ok (.bipush 10, 2) := by decide +kernel
theorem dX8_notes_53 : decode cX8_notes 53 = .ok (.iaload, 1) := by decide +kernel
theorem dX8_notes_54 : decode cX8_notes 54 = .ok (.bipush 40, 2) := by decide +kernel
theorem dX8_notes_56 : decode cX8_notes 56 = .ok (.if_icmp .ge 35, 3) := by decide +kernel
theorem dX8_notes_59 : decode cX8_notes 59 = .ok (.aload_n 0, 1) := by decide +kernel
theorem dX8_notes_60 : decode cX8_notes 60 = .ok (.bipush 44, 2) := by decide +kernel
theorem dX8_notes_62 : decode cX8_notes 62 = .ok (.iconst 2, 1) := by decide +kernel
theorem dX8_notes_63 : decode cX8_notes 63 = .ok (.aload_n 0, 1) := by decide +kernel
theorem dX8_notes_64 : decode cX8_notes 64 = .ok (.bipush 10, 2) := by decide +kernel
theorem dX8_notes_66 : decode cX8_notes 66 = .ok (.iaload, 1) := by decide +kernel
theorem dX8_notes_67 : decode cX8_notes 67 = .ok (.imul, 1) := by decide +kernel
theorem dX8_notes_68 : decode cX8_notes 68 = .ok (.iadd, 1) := by decide +kernel
theorem dX8_notes_69 : decode cX8_notes 69 = .ok (.aload_n 0, 1) := by decide +kernel
theorem dX8_notes_70 : decode cX8_notes 70 = .ok (.bipush 9, 2) := by decide +kernel
theorem dX8_notes_72 : decode cX8_notes 72 = .ok (.iaload, 1) := by decide +kernel
theorem dX8_notes_73 : decode cX8_notes 73 = .ok (.iastore, 1) := by decide +kernel
theorem dX8_notes_74 : decode cX8_notes 74 = .ok (.aload_n 0, 1) := by decide +kernel
theorem dX8_notes_75 : decode cX8_notes 75 = .ok (.bipush 44, 2) := by decide +kernel
theorem dX8_notes_77 : decode cX8_notes 77 = .ok (.iconst 2, 1) := by decide +kernel
theorem dX8_notes_78 : decode cX8_notes 78 = .ok (.aload_n 0, 1) := by decide +kernel
theorem dX8_notes_79 : decode cX8_notes 79 = .ok (.bipush 10, 2) := by decide +kernel
theorem dX8_notes_81 : decode cX8_notes 81 = .ok (.iaload, 1) := by decide +kernel
theorem dX8_notes_82 : decode cX8_notes 82 = .ok (.imul, 1) := by decide +kernel
theorem dX8_notes_83 : decode cX8_notes 83 = .ok (.iadd, 1) := by decide +kernel
theorem dX8_notes_84 : decode cX8_notes 84 = .ok (.iconst 1, 1) := by decide +kernel
theorem dX8_notes_85 : decode cX8_notes 85 = .ok (.iadd, 1) := by decide +kernel
theorem dX8_notes_86 : decode cX8_notes 86 = .ok (.aload_n 0, 1) := by decide +kernel
theorem dX8_notes_87 : decode cX8_notes 87 = .ok (.bipush 11, 2) := by decide +kernel
theorem dX8_notes_89 : decode cX8_notes 89 = .ok (.iaload, 1) := by decide +kernel
theorem dX8_notes_90 : decode cX8_notes 90 = .ok (.iastore, 1) := by decide +kernel
theorem dX8_notes_91 : decode cX8_notes 91 = .ok (.aload_n 0, 1) := by decide +kernel
theorem dX8_notes_92 : decode cX8_notes 92 = .ok (.bipush 10, 2) := by decide +kernel
theorem dX8_notes_94 : decode cX8_notes 94 = .ok (.dup2, 1) := by decide +kernel
theorem dX8_notes_95 : decode cX8_notes 95 = .ok (.iaload, 1) := by decide +kernel
theorem dX8_notes_96 : decode cX8_notes 96 = .ok (.iconst 1, 1) := by decide +kernel
theorem dX8_notes_97 : decode cX8_notes 97 = .ok (.iadd, 1) := by decide +kernel
theorem dX8_notes_98 : decode cX8_notes 98 = .ok (.iastore, 1) := by decide +kernel
theorem dX8_notes_99 : decode cX8_notes 99 = .ok (.aload_n 0, 1) := by decide +kernel
theorem dX8_notes_100 : decode cX8_notes 100 = .ok (.bipush 11, 2) := by decide +kernel
theorem dX8_notes_102 : decode cX8_notes 102 = .ok (.iconst 0, 1) := by decide +kernel
theorem dX8_notes_103 : decode cX8_notes 103 = .ok (.iastore, 1) := by decide +kernel
theorem dX8_notes_104 : decode cX8_notes 104 = .ok (.aload_n 0, 1) := by decide +kernel
theorem dX8_notes_105 : decode cX8_notes 105 = .ok (.bipush 11, 2) := by decide +kernel
theorem dX8_notes_107 : decode cX8_notes 107 = .ok (.iload_n 2, 1) := by decide +kernel
theorem dX8_notes_108 : decode cX8_notes 108 = .ok (.aload_n 0, 1) := by decide +kernel
theorem dX8_notes_109 : decode cX8_notes 109 = .ok (.bipush 11, 2) := by decide +kernel
theorem dX8_notes_111 : decode cX8_notes 111 = .ok (.iaload, 1) := by decide +kernel
theorem dX8_notes_112 : decode cX8_notes 112 = .ok (.if_icmp .le 7, 3) := by decide +kernel
theorem dX8_notes_115 : decode cX8_notes 115 = .ok (.iload_n 2, 1) := by decide +kernel
theorem dX8_notes_116 : decode cX8_notes 116 = .ok (.goto 7, 3) := by decide +kernel
theorem dX8_notes_119 : decode cX8_notes 119 = .ok (.aload_n 0, 1) := by decide +kernel
theorem dX8_notes_120 : decode cX8_notes 120 = .ok (.bipush 11, 2) := by decide +kernel
theorem dX8_notes_122 : decode cX8_notes 122 = .ok (.iaload, 1) := by decide +kernel
theorem dX8_notes_123 : decode cX8_notes 123 = .ok (.iastore, 1) := by decide +kernel
theorem dX8_notes_124 : decode cX8_notes 124 = .ok (.aload_n 0, 1) := by decide +kernel
theorem dX8_notes_125 : decode cX8_notes 125 = .ok (.bipush 6, 2) := by decide +kernel
theorem dX8_notes_127 : decode cX8_notes 127 = .ok (.iload_n 1, 1) := by decide +kernel
theorem dX8_notes_128 : decode cX8_notes 128 = .ok (.ifCond .ne 10, 3) := by decide +kernel
theorem dX8_notes_131 : decode cX8_notes 131 = .ok (.aload_n 0, 1) := by decide +kernel
theorem dX8_notes_132 : decode cX8_notes 132 = .ok (.bipush 6, 2) := by decide +kernel
theorem dX8_notes_134 : decode cX8_notes 134 = .ok (.iaload, 1) := by decide +kernel
theorem dX8_notes_135 : decode cX8_notes 135 = .ok (.goto 12, 3) := by decide +kernel
theorem dX8_notes_138 : decode cX8_notes 138 = .ok (.iload_n 1, 1) := by decide +kernel
theorem dX8_notes_139 : decode cX8_notes 139 = .ok (.ifCond .le 7, 3) := by decide +kernel
theorem dX8_notes_142 : decode cX8_notes 142 = .ok (.iconst 1, 1) := by decide +kernel
theorem dX8_notes_143 : decode cX8_notes 143 = .ok (.goto 4, 3) := by decide +kernel
theorem dX8_notes_146 : decode cX8_notes 146 = .ok (.iconst (-1), 1) := by decide +kernel
theorem dX8_notes_147 : decode cX8_notes 147 = .ok (.iastore, 1) := by decide +kernel
theorem dX8_notes_148 : decode cX8_notes 148 = .ok (.return_, 1) := by decide +kernel
theorem dX8_goesBy_0 : decode cX8_goesBy 0 = .ok (.iconst 0, 1) := by decide +kernel
theorem dX8_goesBy_1 : decode cX8_goesBy 1 = .ok (.istore_n 2, 1) := by decide +kernel
theorem dX8_goesBy_2 : decode cX8_goesBy 2 = .ok (.iload_n 2, 1) := by decide +kernel
theorem dX8_goesBy_3 : decode cX8_goesBy 3 = .ok (.bipush 12, 2) := by decide +kernel
theorem dX8_goesBy_5 : decode cX8_goesBy 5 = .ok (.if_icmp .ge 78, 3) := by decide +kernel
theorem dX8_goesBy_8 : decode cX8_goesBy 8 = .ok (.aload_n 1, 1) := by decide +kernel
theorem dX8_goesBy_9 : decode cX8_goesBy 9 = .ok (.iload_n 2, 1) := by decide +kernel
theorem dX8_goesBy_10 : decode cX8_goesBy 10 = .ok (.invokestatic 71, 3) := by decide +kernel
theorem dX8_goesBy_13 : decode cX8_goesBy 13 = .ok (.ifCond .ne 64, 3) := by decide +kernel
theorem dX8_goesBy_16 : decode cX8_goesBy 16 = .ok (.aload_n 1, 1) := by decide +kernel
theorem dX8_goesBy_17 : decode cX8_goesBy 17 = .ok (.iload_n 2, 1) := by decide +kernel
theorem dX8_goesBy_18 : decode cX8_goesBy 18 = .ok (.invokestatic 77, 3) := by decide +kernel
theorem dX8_goesBy_21 : decode cX8_goesBy 21 = .ok (.aload_n 1, 1) := by decide +kernel
theorem dX8_goesBy_22 : decode cX8_goesBy 22 = .ok (.bipush 20, 2) := by decide +kernel
theorem dX8_goesBy_24 : decode cX8_goesBy 24 = .ok (.iload_n 2, 1) := by decide +kernel
theorem dX8_goesBy_25 : decode cX8_goesBy 25 = .ok (.iadd, 1) := by decide +kernel
theorem dX8_goesBy_26 : decode cX8_goesBy 26 = .ok (.iaload, 1) := by decide +kernel
theorem dX8_goesBy_27 : decode cX8_goesBy 27 = .ok (.isub, 1) := by decide +kernel
theorem dX8_goesBy_28 : decode cX8_goesBy 28 = .ok (.istore_n 3, 1) := by decide +kernel
theorem dX8_goesBy_29 : decode cX8_goesBy 29 = .ok (.iload_n 3, 1) := by decide +kernel
theorem dX8_goesBy_30 : decode cX8_goesBy 30 = .ok (.ifCond .ge 7, 3) := by decide +kernel
theorem dX8_goesBy_33 : decode cX8_goesBy 33 = .ok (.iconst 0, 1) := by decide +kernel
theorem dX8_goesBy_34 : decode cX8_goesBy 34 = .ok (.goto 17, 3) := by decide +kernel
theorem dX8_goesBy_37 : decode cX8_goesBy 37 = .ok (.iload_n 3, 1) := by decide +kernel
theorem dX8_goesBy_38 : decode cX8_goesBy 38 = .ok (.aload_n 1, 1) := by decide +kernel
theorem dX8_goesBy_39 : decode cX8_goesBy 39 = .ok (.iconst 0, 1) := by decide +kernel
theorem dX8_goesBy_40 : decode cX8_goesBy 40 = .ok (.iaload, 1) := by decide +kernel
theorem dX8_goesBy_41 : decode cX8_goesBy 41 = .ok (.if_icmp .ge 7, 3) := by decide +kernel
theorem dX8_goesBy_44 : decode cX8_goesBy 44 = .ok (.iload_n 3, 1) := by decide +kernel
theorem dX8_goesBy_45 : decode cX8_goesBy 45 = .ok (.goto 6, 3) := by decide +kernel
theorem dX8_goesBy_48 : decode cX8_goesBy 48 = .ok (.aload_n 1, 1) := by decide +kernel
theorem dX8_goesBy_49 : decode cX8_goesBy 49 = .ok (.iconst 0, 1) := by decide +kernel
theorem dX8_goesBy_50 : decode cX8_goesBy 50 = .ok (.iaload, 1) := by decide +kernel
theorem dX8_goesBy_51 : decode cX8_goesBy 51 = .ok (.istore 4, 2) := by decide +kernel
theorem dX8_goesBy_53 : decode cX8_goesBy 53 = .ok (.aload_n 1, 1) := by decide +kernel
theorem dX8_goesBy_54 : decode cX8_goesBy 54 = .ok (.bipush 20, 2) := by decide +kernel
theorem dX8_goesBy_56 : decode cX8_goesBy 56 = .ok (.iload_n 2, 1) := by decide +kernel
theorem dX8_goesBy_57 : decode cX8_goesBy 57 = .ok (.iadd, 1) := by decide +kernel
theorem dX8_goesBy_58 : decode cX8_goesBy 58 = .ok (.dup2, 1) := by decide +kernel
theorem dX8_goesBy_59 : decode cX8_goesBy 59 = .ok (.iaload, 1) := by decide +kernel
theorem dX8_goesBy_60 : decode cX8_goesBy 60 = .ok (.iload 4, 2) := by decide +kernel
theorem dX8_goesBy_62 : decode cX8_goesBy 62 = .ok (.iadd, 1) := by decide +kernel
theorem dX8_goesBy_63 : decode cX8_goesBy 63 = .ok (.iastore, 1) := by decide +kernel
theorem dX8_goesBy_64 : decode cX8_goesBy 64 = .ok (.aload_n 1, 1) := by decide +kernel
theorem dX8_goesBy_65 : decode cX8_goesBy 65 = .ok (.bipush 7, 2) := by decide +kernel
theorem dX8_goesBy_67 : decode cX8_goesBy 67 = .ok (.dup2, 1) := by decide +kernel
theorem dX8_goesBy_68 : decode cX8_goesBy 68 = .ok (.iaload, 1) := by decide +kernel
theorem dX8_goesBy_69 : decode cX8_goesBy 69 = .ok (.aload_n 1, 1) := by decide +kernel
theorem dX8_goesBy_70 : decode cX8_goesBy 70 = .ok (.iconst 0, 1) := by decide +kernel
theorem dX8_goesBy_71 : decode cX8_goesBy 71 = .ok (.iaload, 1) := by decide +kernel
theorem dX8_goesBy_72 : decode cX8_goesBy 72 = .ok (.iload 4, 2) := by decide +kernel
theorem dX8_goesBy_74 : decode cX8_goesBy 74 = .ok (.isub, 1) := by decide +kernel
theorem dX8_goesBy_75 : decode cX8_goesBy 75 = .ok (.iadd, 1) := by decide +kernel
theorem dX8_goesBy_76 : decode cX8_goesBy 76 = .ok (.iastore, 1) := by decide +kernel
theorem dX8_goesBy_77 : decode cX8_goesBy 77 = .ok (.iinc 2 1, 3) := by decide +kernel
theorem dX8_goesBy_80 : decode cX8_goesBy 80 = .ok (.goto (-78), 3) := by decide +kernel
theorem dX8_goesBy_83 : decode cX8_goesBy 83 = .ok (.iconst 0, 1) := by decide +kernel
theorem dX8_goesBy_84 : decode cX8_goesBy 84 = .ok (.istore_n 2, 1) := by decide +kernel
theorem dX8_goesBy_85 : decode cX8_goesBy 85 = .ok (.iload_n 2, 1) := by decide +kernel
theorem dX8_goesBy_86 : decode cX8_goesBy 86 = .ok (.bipush 12, 2) := by decide +kernel
theorem dX8_goesBy_88 : decode cX8_goesBy 88 = .ok (.if_icmp .ge 105, 3) := by decide +kernel
theorem dX8_goesBy_91 : decode cX8_goesBy 91 = .ok (.aload_n 1, 1) := by decide +kernel
theorem dX8_goesBy_92 : decode cX8_goesBy 92 = .ok (.iload_n 2, 1) := by decide +kernel
theorem dX8_goesBy_93 : decode cX8_goesBy 93 = .ok (.invokestatic 80, 3) := by decide +kernel
theorem dX8_goesBy_96 : decode cX8_goesBy 96 = .ok (.istore_n 3, 1) := by decide +kernel
theorem dX8_goesBy_97 : decode cX8_goesBy 97 = .ok (.aload_n 1, 1) := by decide +kernel
theorem dX8_goesBy_98 : decode cX8_goesBy 98 = .ok (.bipush 20, 2) := by decide +kernel
theorem dX8_goesBy_100 : decode cX8_goesBy 100 = .ok (.iload_n 2, 1) := by decide +kernel
theorem dX8_goesBy_101 : decode cX8_goesBy 101 = .ok (.iadd, 1) := by decide +kernel
theorem dX8_goesBy_102 : decode cX8_goesBy 102 = .ok (.dup2, 1) := by decide +kernel
theorem dX8_goesBy_103 : decode cX8_goesBy 103 = .ok (.iaload, 1) := by decide +kernel
theorem dX8_goesBy_104 : decode cX8_goesBy 104 = .ok (.iload_n 3, 1) := by decide +kernel
theorem dX8_goesBy_105 : decode cX8_goesBy 105 = .ok (.isub, 1) := by decide +kernel
theorem dX8_goesBy_106 : decode cX8_goesBy 106 = .ok (.iastore, 1) := by decide +kernel
theorem dX8_goesBy_107 : decode cX8_goesBy 107 = .ok (.aload_n 1, 1) := by decide +kernel
theorem dX8_goesBy_108 : decode cX8_goesBy 108 = .ok (.bipush 8, 2) := by decide +kernel
theorem dX8_goesBy_110 : decode cX8_goesBy 110 = .ok (.dup2, 1) := by decide +kernel
theorem dX8_goesBy_111 : decode cX8_goesBy 111 = .ok (.iaload, 1) := by decide +kernel
theorem dX8_goesBy_112 : decode cX8_goesBy 112 = .ok (.iload_n 3, 1) := by decide +kernel
theorem dX8_goesBy_113 : decode cX8_goesBy 113 = .ok (.iadd, 1) := by decide +kernel
theorem dX8_goesBy_114 : decode cX8_goesBy 114 = .ok (.iastore, 1) := by decide +kernel
theorem dX8_goesBy_115 : decode cX8_goesBy 115 = .ok (.iload_n 2, 1) := by decide +kernel
theorem dX8_goesBy_116 : decode cX8_goesBy 116 = .ok (.iconst 1, 1) := by decide +kernel
theorem dX8_goesBy_117 : decode cX8_goesBy 117 = .ok (.iadd, 1) := by decide +kernel
theorem dX8_goesBy_118 : decode cX8_goesBy 118 = .ok (.bipush 12, 2) := by decide +kernel
theorem dX8_goesBy_120 : decode cX8_goesBy 120 = .ok (.irem, 1) := by decide +kernel
theorem dX8_goesBy_121 : decode cX8_goesBy 121 = .ok (.istore 4, 2) := by decide +kernel
theorem dX8_goesBy_123 : decode cX8_goesBy 123 = .ok (.aload_n 1, 1) := by decide +kernel
theorem dX8_goesBy_124 : decode cX8_goesBy 124 = .ok (.bipush 32, 2) := by decide +kernel
theorem dX8_goesBy_126 : decode cX8_goesBy 126 = .ok (.iload_n 2, 1) := by decide +kernel
theorem dX8_goesBy_127 : decode cX8_goesBy 127 = .ok (.iadd, 1) := by decide +kernel
theorem dX8_goesBy_128 : decode cX8_goesBy 128 = .ok (.iaload, 1) := by decide +kernel
theorem dX8_goesBy_129 : decode cX8_goesBy 129 = .ok (.bipush 6, 2) := by decide +kernel
theorem dX8_goesBy_131 : decode cX8_goesBy 131 = .ok (.if_icmp .ne 56, 3) := by decide +kernel
theorem dX8_goesBy_134 : decode cX8_goesBy 134 = .ok (.aload_n 1, 1) := by decide +kernel
theorem dX8_goesBy_135 : decode cX8_goesBy 135 = .ok (.bipush 20, 2) := by decide +kernel
theorem dX8_goesBy_137 : decode cX8_goesBy 137 = .ok (.iload_n 2, 1) := by decide +kernel
theorem dX8_goesBy_138 : decode cX8_goesBy 138 = .ok (.iadd, 1) := by decide +kernel
theorem dX8_goesBy_139 : decode cX8_goesBy 139 = .ok (.iaload, 1) := by decide +kernel
theorem dX8_goesBy_140 : decode cX8_goesBy 140 = .ok (.aload_n 1, 1) := by decide +kernel
theorem dX8_goesBy_141 : decode cX8_goesBy 141 = .ok (.bipush 20, 2) := by decide +kernel
theorem dX8_goesBy_143 : decode cX8_goesBy 143 = .ok (.iload 4, 2) := by decide +kernel
theorem dX8_goesBy_145 : decode cX8_goesBy 145 = .ok (.iadd, 1) := by decide +kernel
theorem dX8_goesBy_146 : decode cX8_goesBy 146 = .ok (.iaload, 1) := by decide +kernel
theorem dX8_goesBy_147 : decode cX8_goesBy 147 = .ok (.if_icmp .le 40, 3) := by decide +kernel
theorem dX8_goesBy_150 : decode cX8_goesBy 150 = .ok (.aload_n 1, 1) := by decide +kernel
theorem dX8_goesBy_151 : decode cX8_goesBy 151 = .ok (.bipush 20, 2) := by decide +kernel
theorem dX8_goesBy_153 : decode cX8_goesBy 153 = .ok (.iload 4, 2) := by decide +kernel
theorem dX8_goesBy_155 : decode cX8_goesBy 155 = .ok (.iadd, 1) := by decide +kernel
theorem dX8_goesBy_156 : decode cX8_goesBy 156 = .ok (.iaload, 1) := by decide +kernel
theorem dX8_goesBy_157 : decode cX8_goesBy 157 = .ok (.aload_n 1, 1) := by decide +kernel
theorem dX8_goesBy_158 : decode cX8_goesBy 158 = .ok (.iload 4, 2) := by decide +kernel
theorem dX8_goesBy_160 : decode cX8_goesBy 160 = .ok (.invokestatic 77, 3) := by decide +kernel
theorem dX8_goesBy_163 : decode cX8_goesBy 163 = .ok (.if_icmp .ge 24, 3) := by decide +kernel
theorem dX8_goesBy_166 : decode cX8_goesBy 166 = .ok (.aload_n 1, 1) := by decide +kernel
theorem dX8_goesBy_167 : decode cX8_goesBy 167 = .ok (.bipush 20, 2) := by decide +kernel
theorem dX8_goesBy_169 : decode cX8_goesBy 169 = .ok (.iload_n 2, 1) := by decide +kernel
theorem dX8_goesBy_170 : decode cX8_goesBy 170 = .ok (.iadd, 1) := by decide +kernel
theorem dX8_goesBy_171 : decode cX8_goesBy 171 = .ok (.dup2, 1) := by decide +kernel
theorem dX8_goesBy_172 : decode cX8_goesBy 172 = .ok (.iaload, 1) := by decide +kernel
theorem dX8_goesBy_173 : decode cX8_goesBy 173 = .ok (.iconst 1, 1) := by decide +kernel
theorem dX8_goesBy_174 : decode cX8_goesBy 174 = .ok (.isub, 1) := by decide +kernel
theorem dX8_goesBy_175 : decode cX8_goesBy 175 = .ok (.iastore, 1) := by decide +kernel
theorem dX8_goesBy_176 : decode cX8_goesBy 176 = .ok (.aload_n 1, 1) := by decide +kernel
theorem dX8_goesBy_177 : decode cX8_goesBy 177 = .ok (.bipush 20, 2) := by decide +kernel
theorem dX8_goesBy_179 : decode cX8_goesBy 179 = .ok (.iload 4, 2) := by decide +kernel
theorem dX8_goesBy_181 : decode cX8_goesBy 181 = .ok (.iadd, 1) := by decide +kernel
theorem dX8_goesBy_182 : decode cX8_goesBy 182 = .ok (.dup2, 1) := by decide +kernel
theorem dX8_goesBy_183 : decode cX8_goesBy 183 = .ok (.iaload, 1) := by decide +kernel
theorem dX8_goesBy_184 : decode cX8_goesBy 184 = .ok (.iconst 1, 1) := by decide +kernel
theorem dX8_goesBy_185 : decode cX8_goesBy 185 = .ok (.iadd, 1) := by decide +kernel
theorem dX8_goesBy_186 : decode cX8_goesBy 186 = .ok (.iastore, 1) := by decide +kernel
theorem dX8_goesBy_187 : decode cX8_goesBy 187 = .ok (.iinc 2 1, 3) := by decide +kernel
theorem dX8_goesBy_190 : decode cX8_goesBy 190 = .ok (.goto (-105), 3) := by decide +kernel
theorem dX8_goesBy_193 : decode cX8_goesBy 193 = .ok (.aload_n 1, 1) := by decide +kernel
theorem dX8_goesBy_194 : decode cX8_goesBy 194 = .ok (.iconst 4, 1) := by decide +kernel
theorem dX8_goesBy_195 : decode cX8_goesBy 195 = .ok (.iaload, 1) := by decide +kernel
theorem dX8_goesBy_196 : decode cX8_goesBy 196 = .ok (.aload_n 0, 1) := by decide +kernel
theorem dX8_goesBy_197 : decode cX8_goesBy 197 = .ok (.aload_n 1, 1) := by decide +kernel
theorem dX8_goesBy_198 : decode cX8_goesBy 198 = .ok (.invokevirtual 100, 3) := by decide +kernel
theorem dX8_goesBy_201 : decode cX8_goesBy 201 = .ok (.bipush 100, 2) := by decide +kernel
theorem dX8_goesBy_203 : decode cX8_goesBy 203 = .ok (.aload_n 1, 1) := by decide +kernel
theorem dX8_goesBy_204 : decode cX8_goesBy 204 = .ok (.iconst 3, 1) := by decide +kernel
theorem dX8_goesBy_205 : decode cX8_goesBy 205 = .ok (.iaload, 1) := by decide +kernel
theorem dX8_goesBy_206 : decode cX8_goesBy 206 = .ok (.imul, 1) := by decide +kernel
theorem dX8_goesBy_207 : decode cX8_goesBy 207 = .ok (.idiv, 1) := by decide +kernel
theorem dX8_goesBy_208 : decode cX8_goesBy 208 = .ok (.iadd, 1) := by decide +kernel
theorem dX8_goesBy_209 : decode cX8_goesBy 209 = .ok (.istore_n 2, 1) := by decide +kernel
theorem dX8_goesBy_210 : decode cX8_goesBy 210 = .ok (.aload_n 1, 1) := by decide +kernel
theorem dX8_goesBy_211 : decode cX8_goesBy 211 = .ok (.iconst 4, 1) := by decide +kernel
theorem dX8_goesBy_212 : decode cX8_goesBy 212 = .ok (.iload_n 2, 1) := by decide +kernel
theorem dX8_goesBy_213 : decode cX8_goesBy 213 = .ok (.iload_n 2, 1) := by decide +kernel
theorem dX8_goesBy_214 : decode cX8_goesBy 214 = .ok (.aload_n 1, 1) := by decide +kernel
theorem dX8_goesBy_215 : decode cX8_goesBy 215 = .ok (.iconst 2, 1) := by decide +kernel
theorem dX8_goesBy_216 : decode cX8_goesBy 216 = .ok (.iaload, 1) := by decide +kernel
theorem dX8_goesBy_217 : decode cX8_goesBy 217 = .ok (.imul, 1) := by decide +kernel
theorem dX8_goesBy_218 : decode cX8_goesBy 218 = .ok (.bipush 100, 2) := by decide +kernel
theorem dX8_goesBy_220 : decode cX8_goesBy 220 = .ok (.idiv, 1) := by decide +kernel
theorem dX8_goesBy_221 : decode cX8_goesBy 221 = .ok (.isub, 1) := by decide +kernel
theorem dX8_goesBy_222 : decode cX8_goesBy 222 = .ok (.i2l, 1) := by decide +kernel
theorem dX8_goesBy_223 : decode cX8_goesBy 223 = .ok (.sipush (-600), 3) := by decide +kernel
theorem dX8_goesBy_226 : decode cX8_goesBy 226 = .ok (.sipush 600, 3) := by decide +kernel
theorem dX8_goesBy_229 : decode cX8_goesBy 229 = .ok (.invokestatic 86, 3) := by decide +kernel
theorem dX8_goesBy_232 : decode cX8_goesBy 232 = .ok (.iastore, 1) := by decide +kernel
theorem dX8_goesBy_233 : decode cX8_goesBy 233 = .ok (.aload_n 1, 1) := by decide +kernel
theorem dX8_goesBy_234 : decode cX8_goesBy 234 = .ok (.iconst 5, 1) := by decide +kernel
theorem dX8_goesBy_235 : decode cX8_goesBy 235 = .ok (.aload_n 1, 1) := by decide +kernel
theorem dX8_goesBy_236 : decode cX8_goesBy 236 = .ok (.iconst 5, 1) := by decide +kernel
theorem dX8_goesBy_237 : decode cX8_goesBy 237 = .ok (.iaload, 1) := by decide +kernel
theorem dX8_goesBy_238 : decode cX8_goesBy 238 = .ok (.aload_n 1, 1) := by decide +kernel
theorem dX8_goesBy_239 : decode cX8_goesBy 239 = .ok (.iconst 4, 1) := by decide +kernel
theorem dX8_goesBy_240 : decode cX8_goesBy 240 = .ok (.iaload, 1) := by decide +kernel
theorem dX8_goesBy_241 : decode cX8_goesBy 241 = .ok (.iadd, 1) := by decide +kernel
theorem dX8_goesBy_242 : decode cX8_goesBy 242 = .ok (.sipush 1200, 3) := by decide +kernel
theorem dX8_goesBy_245 : decode cX8_goesBy 245 = .ok (.iadd, 1) := by decide +kernel
theorem dX8_goesBy_246 : decode cX8_goesBy 246 = .ok (.sipush 1200, 3) := by decide +kernel
theorem dX8_goesBy_249 : decode cX8_goesBy 249 = .ok (.irem, 1) := by decide +kernel
theorem dX8_goesBy_250 : decode cX8_goesBy 250 = .ok (.iastore, 1) := by decide +kernel
theorem dX8_goesBy_251 : decode cX8_goesBy 251 = .ok (.aload_n 1, 1) := by decide +kernel
theorem dX8_goesBy_252 : decode cX8_goesBy 252 = .ok (.bipush 9, 2) := by decide +kernel
theorem dX8_goesBy_254 : decode cX8_goesBy 254 = .ok (.dup2, 1) := by decide +kernel
theorem dX8_goesBy_255 : decode cX8_goesBy 255 = .ok (.iaload, 1) := by decide +kernel
theorem dX8_goesBy_256 : decode cX8_goesBy 256 = .ok (.iconst 1, 1) := by decide +kernel
theorem dX8_goesBy_257 : decode cX8_goesBy 257 = .ok (.iadd, 1) := by decide +kernel
theorem dX8_goesBy_258 : decode cX8_goesBy 258 = .ok (.iastore, 1) := by decide +kernel
theorem dX8_goesBy_259 : decode cX8_goesBy 259 = .ok (.aload_n 1, 1) := by decide +kernel
theorem dX8_goesBy_260 : decode cX8_goesBy 260 = .ok (.invokestatic 104, 3) := by decide +kernel
theorem dX8_goesBy_263 : decode cX8_goesBy 263 = .ok (.return_, 1) := by decide +kernel
theorem dX8_goesOn_0 : decode cX8_goesOn 0 = .ok (.iconst 0, 1) := by decide +kernel
theorem dX8_goesOn_1 : decode cX8_goesOn 1 = .ok (.istore_n 3, 1) := by decide +kernel
theorem dX8_goesOn_2 : decode cX8_goesOn 2 = .ok (.iload_n 3, 1) := by decide +kernel
theorem dX8_goesOn_3 : decode cX8_goesOn 3 = .ok (.iload_n 2, 1) := by decide +kernel
theorem dX8_goesOn_4 : decode cX8_goesOn 4 = .ok (.if_icmp .ge 14, 3) := by decide +kernel
theorem dX8_goesOn_7 : decode cX8_goesOn 7 = .ok (.aload_n 0, 1) := by decide +kernel
theorem dX8_goesOn_8 : decode cX8_goesOn 8 = .ok (.aload_n 1, 1) := by decide +kernel
theorem dX8_goesOn_9 : decode cX8_goesOn 9 = .ok (.invokevirtual 108, 3) := by decide +kernel
theorem dX8_goesOn_12 : decode cX8_goesOn 12 = .ok (.iinc 3 1, 3) := by decide +kernel
theorem dX8_goesOn_15 : decode cX8_goesOn 15 = .ok (.goto (-13), 3) := by decide +kernel
theorem dX8_goesOn_18 : decode cX8_goesOn 18 = .ok (.return_, 1) := by decide +kernel
theorem dX8_tick_0 : decode cX8_tick 0 = .ok (.iload_n 1, 1) := by decide +kernel
theorem dX8_tick_1 : decode cX8_tick 1 = .ok (.i2l, 1) := by decide +kernel
theorem dX8_tick_2 : decode cX8_tick 2 = .ok (.lconst 1, 1) := by decide +kernel
theorem dX8_tick_3 : decode cX8_tick 3 = .ok (.ldc2_w 111, 3) := by decide +kernel
theorem dX8_tick_6 : decode cX8_tick 6 = .ok (.invokestatic 49, 3) := by decide +kernel
theorem dX8_tick_9 : decode cX8_tick 9 = .ok (.ifCond .ne 10, 3) := by decide +kernel
theorem dX8_tick_12 : decode cX8_tick 12 = .ok (.aload_n 0, 1) := by decide +kernel
theorem dX8_tick_13 : decode cX8_tick 13 = .ok (.ldc 46, 2) := by decide +kernel
theorem dX8_tick_15 : decode cX8_tick 15 = .ok (.invokevirtual 61, 3) := by decide +kernel
theorem dX8_tick_18 : decode cX8_tick 18 = .ok (.ireturn, 1) := by decide +kernel
theorem dX8_tick_19 : decode cX8_tick 19 = .ok (.aload_n 0, 1) := by decide +kernel
theorem dX8_tick_20 : decode cX8_tick 20 = .ok (.aload_n 0, 1) := by decide +kernel
theorem dX8_tick_21 : decode cX8_tick 21 = .ok (.getfield 9, 3) := by decide +kernel
theorem dX8_tick_24 : decode cX8_tick 24 = .ok (.iload_n 1, 1) := by decide +kernel
theorem dX8_tick_25 : decode cX8_tick 25 = .ok (.invokevirtual 113, 3) := by decide +kernel
theorem dX8_tick_28 : decode cX8_tick 28 = .ok (.aload_n 0, 1) := by decide +kernel
theorem dX8_tick_29 : decode cX8_tick 29 = .ok (.getfield 9, 3) := by decide +kernel
theorem dX8_tick_32 : decode cX8_tick 32 = .ok (.iconst 4, 1) := by decide +kernel
theorem dX8_tick_33 : decode cX8_tick 33 = .ok (.iaload, 1) := by decide +kernel
theorem dX8_tick_34 : decode cX8_tick 34 = .ok (.ireturn, 1) := by decide +kernel
theorem dX8_allWater_0 : decode cX8_allWater 0 = .ok (.iconst 0, 1) := by decide +kernel
theorem dX8_allWater_1 : decode cX8_allWater 1 = .ok (.istore_n 1, 1) := by decide +kernel
theorem dX8_allWater_2 : decode cX8_allWater 2 = .ok (.iconst 0, 1) := by decide +kernel
theorem dX8_allWater_3 : decode cX8_allWater 3 = .ok (.istore_n 2, 1) := by decide +kernel
theorem dX8_allWater_4 : decode cX8_allWater 4 = .ok (.iload_n 2, 1) := by decide +kernel
theorem dX8_allWater_5 : decode cX8_allWater 5 = .ok (.bipush 12, 2) := by decide +kernel
theorem dX8_allWater_7 : decode cX8_allWater 7 = .ok (.if_icmp .ge 18, 3) := by decide +kernel
theorem dX8_allWater_10 : decode cX8_allWater 10 = .ok (.iload_n 1, 1) := by decide +kernel
theorem dX8_allWater_11 : decode cX8_allWater 11 = .ok (.aload_n 0, 1) := by decide +kernel
theorem dX8_allWater_12 : decode cX8_allWater 12 = .ok (.bipush 20, 2) := by decide +kernel
theorem dX8_allWater_14 : decode cX8_allWater 14 = .ok (.iload_n 2, 1) := by decide +kernel
theorem dX8_allWater_15 : decode cX8_allWater 15 = .ok (.iadd, 1) := by decide +kernel
theorem dX8_allWater_16 : decode cX8_allWater 16 = .ok (.iaload, 1) := by decide +kernel
theorem dX8_allWater_17 : decode cX8_allWater 17 = .ok (.iadd, 1) := by decide +kernel
theorem dX8_allWater_18 : decode cX8_allWater 18 = .ok (.istore_n 1, 1) := by decide +kernel
theorem dX8_allWater_19 : decode cX8_allWater 19 = .ok (.iinc 2 1, 3) := by decide +kernel
theorem dX8_allWater_22 : decode cX8_allWater 22 = .ok (.goto (-18), 3) := by decide +kernel
theorem dX8_allWater_25 : decode cX8_allWater 25 = .ok (.iload_n 1, 1) := by decide +kernel
theorem dX8_allWater_26 : decode cX8_allWater 26 = .ok (.ireturn, 1) := by decide +kernel
theorem dX8_now_0 : decode cX8_now 0 = .ok (.iload_n 1, 1) := by decide +kernel
theorem dX8_now_1 : decode cX8_now 1 = .ok (.tableswitch 117 0 7 #[47, 54, 61, 69, 77, 85, 93, 101], 47) := by decide +kernel
theorem dX8_now_48 : decode cX8_now 48 = .ok (.aload_n 0, 1) := by decide +kernel
theorem dX8_now_49 : decode cX8_now 49 = .ok (.getfield 9, 3) := by decide +kernel
theorem dX8_now_52 : decode cX8_now 52 = .ok (.iconst 4, 1) := by decide +kernel
theorem dX8_now_53 : decode cX8_now 53 = .ok (.iaload, 1) := by decide +kernel
theorem dX8_now_54 : decode cX8_now 54 = .ok (.ireturn, 1) := by decide +kernel
theorem dX8_now_55 : decode cX8_now 55 = .ok (.aload_n 0, 1) := by decide +kernel
theorem dX8_now_56 : decode cX8_now 56 = .ok (.getfield 9, 3) := by decide +kernel
theorem dX8_now_59 : decode cX8_now 59 = .ok (.iconst 5, 1) := by decide +kernel
theorem dX8_now_60 : decode cX8_now 60 = .ok (.iaload, 1) := by decide +kernel
theorem dX8_now_61 : decode cX8_now 61 = .ok (.ireturn, 1) := by decide +kernel
theorem dX8_now_62 : decode cX8_now 62 = .ok (.aload_n 0, 1) := by decide +kernel
theorem dX8_now_63 : decode cX8_now 63 = .ok (.getfield 9, 3) := by decide +kernel
theorem dX8_now_66 : decode cX8_now 66 = .ok (.bipush 6, 2) := by decide +kernel
theorem dX8_now_68 : decode cX8_now 68 = .ok (.iaload, 1) := by decide +kernel
theorem dX8_now_69 : decode cX8_now 69 = .ok (.ireturn, 1) := by decide +kernel
theorem dX8_now_70 : decode cX8_now 70 = .ok (.aload_n 0, 1) := by decide +kernel
theorem dX8_now_71 : decode cX8_now 71 = .ok (.getfield 9, 3) := by decide +kernel
theorem dX8_now_74 : decode cX8_now 74 = .ok (.invokestatic 116, 3) := by decide +kernel
theorem dX8_now_77 : decode cX8_now 77 = .ok (.ireturn, 1) := by decide +kernel
theorem dX8_now_78 : decode cX8_now 78 = .ok (.aload_n 0, 1) := by decide +kernel
theorem dX8_now_79 : decode cX8_now 79 = .ok (.getfield 9, 3) := by decide +kernel
theorem dX8_now_82 : decode cX8_now 82 = .ok (.bipush 7, 2) := by decide +kernel
theorem dX8_now_84 : decode cX8_now 84 = .ok (.iaload, 1) := by decide +kernel
theorem dX8_now_85 : decode cX8_now 85 = .ok (.ireturn, 1) := by decide +kernel
theorem dX8_now_86 : decode cX8_now 86 = .ok (.aload_n 0, 1) := by decide +kernel
theorem dX8_now_87 : decode cX8_now 87 = .ok (.getfield 9, 3) := by decide +kernel
theorem dX8_now_90 : decode cX8_now 90 = .ok (.bipush 8, 2) := by decide +kernel
theorem dX8_now_92 : decode cX8_now 92 = .ok (.iaload, 1) := by decide +kernel
theorem dX8_now_93 : decode cX8_now 93 = .ok (.ireturn, 1) := by decide +kernel
theorem dX8_now_94 : decode cX8_now 94 = .ok (.aload_n 0, 1) := by decide +kernel
theorem dX8_now_95 : decode cX8_now 95 = .ok (.getfield 9, 3) := by decide +kernel
theorem dX8_now_98 : decode cX8_now 98 = .ok (.bipush 9, 2) := by decide +kernel
theorem dX8_now_100 : decode cX8_now 100 = .ok (.iaload, 1) := by decide +kernel
theorem dX8_now_101 : decode cX8_now 101 = .ok (.ireturn, 1) := by decide +kernel
theorem dX8_now_102 : decode cX8_now 102 = .ok (.bipush 12, 2) := by decide +kernel
theorem dX8_now_104 : decode cX8_now 104 = .ok (.aload_n 0, 1) := by decide +kernel
theorem dX8_now_105 : decode cX8_now 105 = .ok (.getfield 9, 3) := by decide +kernel
theorem dX8_now_108 : decode cX8_now 108 = .ok (.iconst 5, 1) := by decide +kernel
theorem dX8_now_109 : decode cX8_now 109 = .ok (.iaload, 1) := by decide +kernel
theorem dX8_now_110 : decode cX8_now 110 = .ok (.bipush 100, 2) := by decide +kernel
theorem dX8_now_112 : decode cX8_now 112 = .ok (.idiv, 1) := by decide +kernel
theorem dX8_now_113 : decode cX8_now 113 = .ok (.isub, 1) := by decide +kernel
theorem dX8_now_114 : decode cX8_now 114 = .ok (.bipush 12, 2) := by decide +kernel
theorem dX8_now_116 : decode cX8_now 116 = .ok (.irem, 1) := by decide +kernel
theorem dX8_now_117 : decode cX8_now 117 = .ok (.ireturn, 1) := by decide +kernel
theorem dX8_now_118 : decode cX8_now 118 = .ok (.aload_n 0, 1) := by decide +kernel
theorem dX8_now_119 : decode cX8_now 119 = .ok (.ldc 46, 2) := by decide +kernel
theorem dX8_now_121 : decode cX8_now 121 = .ok (.invokevirtual 61, 3) := by decide +kernel
theorem dX8_now_124 : decode cX8_now 124 = .ok (.ireturn, 1) := by decide +kernel
theorem dX8_torque_0 : decode cX8_torque 0 = .ok (.aload_n 0, 1) := by decide +kernel
theorem dX8_torque_1 : decode cX8_torque 1 = .ok (.aload_n 0, 1) := by decide +kernel
theorem dX8_torque_2 : decode cX8_torque 2 = .ok (.getfield 9, 3) := by decide +kernel
theorem dX8_torque_5 : decode cX8_torque 5 = .ok (.invokevirtual 100, 3) := by decide +kernel
theorem dX8_torque_8 : decode cX8_torque 8 = .ok (.ireturn, 1) := by decide +kernel
theorem dX8_logged_0 : decode cX8_logged 0 = .ok (.aload_n 0, 1) := by decide +kernel
theorem dX8_logged_1 : decode cX8_logged 1 = .ok (.getfield 9, 3) := by decide +kernel
theorem dX8_logged_4 : decode cX8_logged 4 = .ok (.bipush 10, 2) := by decide +kernel
theorem dX8_logged_6 : decode cX8_logged 6 = .ok (.iaload, 1) := by decide +kernel
theorem dX8_logged_7 : decode cX8_logged 7 = .ok (.bipush 40, 2) := by decide +kernel
theorem dX8_logged_9 : decode cX8_logged 9 = .ok (.if_icmp .ge 13, 3) := by decide +kernel
theorem dX8_logged_12 : decode cX8_logged 12 = .ok (.aload_n 0, 1) := by decide +kernel
theorem dX8_logged_13 : decode cX8_logged 13 = .ok (.getfield 9, 3) := by decide +kernel
theorem dX8_logged_16 : decode cX8_logged 16 = .ok (.bipush 10, 2) := by decide +kernel
theorem dX8_logged_18 : decode cX8_logged 18 = .ok (.iaload, 1) := by decide +kernel
theorem dX8_logged_19 : decode cX8_logged 19 = .ok (.goto 5, 3) := by decide +kernel
theorem dX8_logged_22 : decode cX8_logged 22 = .ok (.bipush 40, 2) := by decide +kernel
theorem dX8_logged_24 : decode cX8_logged 24 = .ok (.ireturn, 1) := by decide +kernel
theorem dX8_peak_0 : decode cX8_peak 0 = .ok (.aload_n 0, 1) := by decide +kernel
theorem dX8_peak_1 : decode cX8_peak 1 = .ok (.getfield 9, 3) := by decide +kernel
theorem dX8_peak_4 : decode cX8_peak 4 = .ok (.bipush 44, 2) := by decide +kernel
theorem dX8_peak_6 : decode cX8_peak 6 = .ok (.iconst 2, 1) := by decide +kernel
theorem dX8_peak_7 : decode cX8_peak 7 = .ok (.iload_n 1, 1) := by decide +kernel
theorem dX8_peak_8 : decode cX8_peak 8 = .ok (.imul, 1) := by decide +kernel
theorem dX8_peak_9 : decode cX8_peak 9 = .ok (.iadd, 1) := by decide +kernel
theorem dX8_peak_10 : decode cX8_peak 10 = .ok (.iconst 1, 1) := by decide +kernel
theorem dX8_peak_11 : decode cX8_peak 11 = .ok (.iadd, 1) := by decide +kernel
theorem dX8_peak_12 : decode cX8_peak 12 = .ok (.iaload, 1) := by decide +kernel
theorem dX8_peak_13 : decode cX8_peak 13 = .ok (.ireturn, 1) := by decide +kernel
theorem dX8_turn_0 : decode cX8_turn 0 = .ok (.iload_n 1, 1) := by decide +kernel
theorem dX8_turn_1 : decode cX8_turn 1 = .ok (.i2l, 1) := by decide +kernel
theorem dX8_turn_2 : decode cX8_turn 2 = .ok (.lconst 0, 1) := by decide +kernel
theorem dX8_turn_3 : decode cX8_turn 3 = .ok (.aload_n 0, 1) := by decide +kernel
theorem dX8_turn_4 : decode cX8_turn 4 = .ok (.invokevirtual 119, 3) := by decide +kernel
theorem dX8_turn_7 : decode cX8_turn 7 = .ok (.iconst 1, 1) := by decide +kernel
theorem dX8_turn_8 : decode cX8_turn 8 = .ok (.isub, 1) := by decide +kernel
theorem dX8_turn_9 : decode cX8_turn 9 = .ok (.i2l, 1) := by decide +kernel
theorem dX8_turn_10 : decode cX8_turn 10 = .ok (.invokestatic 49, 3) := by decide +kernel
theorem dX8_turn_13 : decode cX8_turn 13 = .ok (.ifCond .eq 29, 3) := by decide +kernel
theorem dX8_turn_16 : decode cX8_turn 16 = .ok (.iload_n 2, 1) := by decide +kernel
theorem dX8_turn_17 : decode cX8_turn 17 = .ok (.i2l, 1) := by decide +kernel
theorem dX8_turn_18 : decode cX8_turn 18 = .ok (.lconst 0, 1) := by decide +kernel
theorem dX8_turn_19 : decode cX8_turn 19 = .ok (.lconst 1, 1) := by decide +kernel
theorem dX8_turn_20 : decode cX8_turn 20 = .ok (.invokestatic 49, 3) := by decide +kernel
theorem dX8_turn_23 : decode cX8_turn 23 = .ok (.ifCond .eq 19, 3) := by decide +kernel
theorem dX8_turn_26 : decode cX8_turn 26 = .ok (.aload_n 0, 1) := by decide +kernel
theorem dX8_turn_27 : decode cX8_turn 27 = .ok (.getfield 9, 3) := by decide +kernel
theorem dX8_turn_30 : decode cX8_turn 30 = .ok (.bipush 44, 2) := by decide +kernel
theorem dX8_turn_32 : decode cX8_turn 32 = .ok (.iconst 2, 1) := by decide +kernel
theorem dX8_turn_33 : decode cX8_turn 33 = .ok (.iload_n 1, 1) := by decide +kernel
theorem dX8_turn_34 : decode cX8_turn 34 = .ok (.imul, 1) := by decide +kernel
theorem dX8_turn_35 : decode cX8_turn 35 = .ok (.iadd, 1) := by decide +kernel
theorem dX8_turn_36 : decode cX8_turn 36 = .ok (.iload_n 2, 1) := by decide +kernel
theorem dX8_turn_37 : decode cX8_turn 37 = .ok (.iadd, 1) := by decide +kernel
theorem dX8_turn_38 : decode cX8_turn 38 = .ok (.iaload, 1) := by decide +kernel
theorem dX8_turn_39 : decode cX8_turn 39 = .ok (.goto 9, 3) := by decide +kernel
theorem dX8_turn_42 : decode cX8_turn 42 = .ok (.aload_n 0, 1) := by decide +kernel
theorem dX8_turn_43 : decode cX8_turn 43 = .ok (.ldc 46, 2) := by decide +kernel
theorem dX8_turn_45 : decode cX8_turn 45 = .ok (.invokevirtual 61, 3) := by decide +kernel
theorem dX8_turn_48 : decode cX8_turn 48 = .ok (.ireturn, 1) := by decide +kernel
theorem dX8_nextPeak_0 : decode cX8_nextPeak 0 = .ok (.iload_n 1, 1) := by decide +kernel
theorem dX8_nextPeak_1 : decode cX8_nextPeak 1 = .ok (.i2l, 1) := by decide +kernel
theorem dX8_nextPeak_2 : decode cX8_nextPeak 2 = .ok (.lconst 0, 1) := by decide +kernel
theorem dX8_nextPeak_3 : decode cX8_nextPeak 3 = .ok (.ldc2_w 123, 3) := by decide +kernel
theorem dX8_nextPeak_6 : decode cX8_nextPeak 6 = .ok (.invokestatic 49, 3) := by decide +kernel
theorem dX8_nextPeak_9 : decode cX8_nextPeak 9 = .ok (.ifCond .ne 10, 3) := by decide +kernel
theorem dX8_nextPeak_12 : decode cX8_nextPeak 12 = .ok (.aload_n 0, 1) := by decide +kernel
theorem dX8_nextPeak_13 : decode cX8_nextPeak 13 = .ok (.ldc 46, 2) := by decide +kernel
theorem dX8_nextPeak_15 : decode cX8_nextPeak 15 = .ok (.invokevirtual 61, 3) := by decide +kernel
theorem dX8_nextPeak_18 : decode cX8_nextPeak 18 = .ok (.ireturn, 1) := by decide +kernel
theorem dX8_nextPeak_19 : decode cX8_nextPeak 19 = .ok (.aload_n 0, 1) := by decide +kernel
theorem dX8_nextPeak_20 : decode cX8_nextPeak 20 = .ok (.invokevirtual 119, 3) := by decide +kernel
theorem dX8_nextPeak_23 : decode cX8_nextPeak 23 = .ok (.iconst 2, 1) := by decide +kernel
theorem dX8_nextPeak_24 : decode cX8_nextPeak 24 = .ok (.if_icmp .ge 10, 3) := by decide +kernel
theorem dX8_nextPeak_27 : decode cX8_nextPeak 27 = .ok (.aload_n 0, 1) := by decide +kernel
theorem dX8_nextPeak_28 : decode cX8_nextPeak 28 = .ok (.ldc 125, 2) := by decide +kernel
theorem dX8_nextPeak_30 : decode cX8_nextPeak 30 = .ok (.invokevirtual 61, 3) := by decide +kernel
theorem dX8_nextPeak_33 : decode cX8_nextPeak 33 = .ok (.ireturn, 1) := by decide +kernel
theorem dX8_nextPeak_34 : decode cX8_nextPeak 34 = .ok (.iconst 0, 1) := by decide +kernel
theorem dX8_nextPeak_35 : decode cX8_nextPeak 35 = .ok (.istore_n 2, 1) := by decide +kernel
theorem dX8_nextPeak_36 : decode cX8_nextPeak 36 = .ok (.sipush 9999, 3) := by decide +kernel
theorem dX8_nextPeak_39 : decode cX8_nextPeak 39 = .ok (.istore_n 3, 1) := by decide +kernel
theorem dX8_nextPeak_40 : decode cX8_nextPeak 40 = .ok (.iconst 0, 1) := by decide +kernel
theorem dX8_nextPeak_41 : decode cX8_nextPeak 41 = .ok (.istore 4, 2) := by decide +kernel
theorem dX8_nextPeak_43 : decode cX8_nextPeak 43 = .ok (.iload 4, 2) := by decide +kernel
theorem dX8_nextPeak_45 : decode cX8_nextPeak 45 = .ok (.aload_n 0, 1) := by decide +kernel
theorem dX8_nextPeak_46 : decode cX8_nextPeak 46 = .ok (.invokevirtual 119, 3) := by decide +kernel
theorem dX8_nextPeak_49 : decode cX8_nextPeak 49 = .ok (.iconst 1, 1) := by decide +kernel
theorem dX8_nextPeak_50 : decode cX8_nextPeak 50 = .ok (.isub, 1) := by decide +kernel
theorem dX8_nextPeak_51 : decode cX8_nextPeak 51 = .ok (.if_icmp .ge 66, 3) := by decide +kernel
theorem dX8_nextPeak_54 : decode cX8_nextPeak 54 = .ok (.aload_n 0, 1) := by decide +kernel
theorem dX8_nextPeak_55 : decode cX8_nextPeak 55 = .ok (.iload 4, 2) := by decide +kernel
theorem dX8_nextPeak_57 : decode cX8_nextPeak 57 = .ok (.invokevirtual 126, 3) := by decide +kernel
theorem dX8_nextPeak_60 : decode cX8_nextPeak 60 = .ok (.iload_n 1, 1) := by decide +kernel
theorem dX8_nextPeak_61 : decode cX8_nextPeak 61 = .ok (.if_icmp .le 14, 3) := by decide +kernel
theorem dX8_nextPeak_64 : decode cX8_nextPeak 64 = .ok (.aload_n 0, 1) := by decide +kernel
theorem dX8_nextPeak_65 : decode cX8_nextPeak 65 = .ok (.iload 4, 2) := by decide +kernel
theorem dX8_nextPeak_67 : decode cX8_nextPeak 67 = .ok (.invokevirtual 126, 3) := by decide +kernel
theorem dX8_nextPeak_70 : decode cX8_nextPeak 70 = .ok (.iload_n 1, 1) := by decide +kernel
theorem dX8_nextPeak_71 : decode cX8_nextPeak 71 = .ok (.isub, 1) := by decide +kernel
theorem dX8_nextPeak_72 : decode cX8_nextPeak 72 = .ok (.goto 11, 3) := by decide +kernel
theorem dX8_nextPeak_75 : decode cX8_nextPeak 75 = .ok (.iload_n 1, 1) := by decide +kernel
theorem dX8_nextPeak_76 : decode cX8_nextPeak 76 = .ok (.aload_n 0, 1) := by decide +kernel
theorem dX8_nextPeak_77 : decode cX8_nextPeak 77 = .ok (.iload 4, 2) := by decide +kernel
theorem dX8_nextPeak_79 : decode cX8_nextPeak 79 = .ok (.invokevirtual 126, 3) := by decide +kernel
theorem dX8_nextPeak_82 : decode cX8_nextPeak 82 = .ok (.isub, 1) := by decide +kernel
theorem dX8_nextPeak_83 : decode cX8_nextPeak 83 = .ok (.istore 5, 2) := by decide +kernel
theorem dX8_nextPeak_85 : decode cX8_nextPeak 85 = .ok (.iload 5, 2) := by decide +kernel
theorem dX8_nextPeak_87 : decode cX8_nextPeak 87 = .ok (.iload_n 3, 1) := by decide +kernel
theorem dX8_nextPeak_88 : decode cX8_nextPeak 88 = .ok (.if_icmp .ge 8, 3) := by decide +kernel
theorem dX8_nextPeak_91 : decode cX8_nextPeak 91 = .ok (.iload 4, 2) := by decide +kernel
theorem dX8_nextPeak_93 : decode cX8_nextPeak 93 = .ok (.goto 4, 3) := by decide +kernel
theorem dX8_nextPeak_96 : decode cX8_nextPeak 96 = .ok (.iload_n 2, 1) := by decide +kernel
theorem dX8_nextPeak_97 : decode cX8_nextPeak 97 = .ok (.istore_n 2, 1) := by decide +kernel
theorem dX8_nextPeak_98 : decode cX8_nextPeak 98 = .ok (.iload 5, 2) := by decide +kernel
theorem dX8_nextPeak_100 : decode cX8_nextPeak 100 = .ok (.iload_n 3, 1) := by decide +kernel
theorem dX8_nextPeak_101 : decode cX8_nextPeak 101 = .ok (.if_icmp .ge 8, 3) := by decide +kernel
theorem dX8_nextPeak_104 : decode cX8_nextPeak 104 = .ok (.iload 5, 2) := by decide +kernel
theorem dX8_nextPeak_106 : decode cX8_nextPeak 106 = .ok (.goto 4, 3) := by decide +kernel
theorem dX8_nextPeak_109 : decode cX8_nextPeak 109 = .ok (.iload_n 3, 1) := by decide +kernel
theorem dX8_nextPeak_110 : decode cX8_nextPeak 110 = .ok (.istore_n 3, 1) := by decide +kernel
theorem dX8_nextPeak_111 : decode cX8_nextPeak 111 = .ok (.iinc 4 1, 3) := by decide +kernel
theorem dX8_nextPeak_114 : decode cX8_nextPeak 114 = .ok (.goto (-71), 3) := by decide +kernel
theorem dX8_nextPeak_117 : decode cX8_nextPeak 117 = .ok (.aload_n 0, 1) := by decide +kernel
theorem dX8_nextPeak_118 : decode cX8_nextPeak 118 = .ok (.iload_n 2, 1) := by decide +kernel
theorem dX8_nextPeak_119 : decode cX8_nextPeak 119 = .ok (.iconst 1, 1) := by decide +kernel
theorem dX8_nextPeak_120 : decode cX8_nextPeak 120 = .ok (.iadd, 1) := by decide +kernel
theorem dX8_nextPeak_121 : decode cX8_nextPeak 121 = .ok (.invokevirtual 126, 3) := by decide +kernel
theorem dX8_nextPeak_124 : decode cX8_nextPeak 124 = .ok (.ireturn, 1) := by decide +kernel
theorem dX8_rising_0 : decode cX8_rising 0 = .ok (.iconst 0, 1) := by decide +kernel
theorem dX8_rising_1 : decode cX8_rising 1 = .ok (.istore_n 1, 1) := by decide +kernel
theorem dX8_rising_2 : decode cX8_rising 2 = .ok (.iconst 1, 1) := by decide +kernel
theorem dX8_rising_3 : decode cX8_rising 3 = .ok (.istore_n 2, 1) := by decide +kernel
theorem dX8_rising_4 : decode cX8_rising 4 = .ok (.iload_n 2, 1) := by decide +kernel
theorem dX8_rising_5 : decode cX8_rising 5 = .ok (.aload_n 0, 1) := by decide +kernel
theorem dX8_rising_6 : decode cX8_rising 6 = .ok (.invokevirtual 119, 3) := by decide +kernel
theorem dX8_rising_9 : decode cX8_rising 9 = .ok (.if_icmp .ge 32, 3) := by decide +kernel
theorem dX8_rising_12 : decode cX8_rising 12 = .ok (.iload_n 1, 1) := by decide +kernel
theorem dX8_rising_13 : decode cX8_rising 13 = .ok (.aload_n 0, 1) := by decide +kernel
theorem dX8_rising_14 : decode cX8_rising 14 = .ok (.iload_n 2, 1) := by decide +kernel
theorem dX8_rising_15 : decode cX8_rising 15 = .ok (.invokevirtual 126, 3) := by decide +kernel
theorem dX8_rising_18 : decode cX8_rising 18 = .ok (.aload_n 0, 1) := by decide +kernel
theorem dX8_rising_19 : decode cX8_rising 19 = .ok (.iload_n 2, 1) := by decide +kernel
theorem dX8_rising_20 : decode cX8_rising 20 = .ok (.iconst 1, 1) := by decide +kernel
theorem dX8_rising_21 : decode cX8_rising 21 = .ok (.isub, 1) := by decide +kernel
theorem dX8_rising_22 : decode cX8_rising 22 = .ok (.invokevirtual 126, 3) := by decide +kernel
theorem dX8_rising_25 : decode cX8_rising 25 = .ok (.if_icmp .le 7, 3) := by decide +kernel
theorem dX8_rising_28 : decode cX8_rising 28 = .ok (.iconst 1, 1) := by decide +kernel
theorem dX8_rising_29 : decode cX8_rising 29 = .ok (.goto 4, 3) := by decide +kernel
theorem dX8_rising_32 : decode cX8_rising 32 = .ok (.iconst 0, 1) := by decide +kernel
theorem dX8_rising_33 : decode cX8_rising 33 = .ok (.iadd, 1) := by decide +kernel
theorem dX8_rising_34 : decode cX8_rising 34 = .ok (.istore_n 1, 1) := by decide +kernel
theorem dX8_rising_35 : decode cX8_rising 35 = .ok (.iinc 2 1, 3) := by decide +kernel
theorem dX8_rising_38 : decode cX8_rising 38 = .ok (.goto (-34), 3) := by decide +kernel
theorem dX8_rising_41 : decode cX8_rising 41 = .ok (.iload_n 1, 1) := by decide +kernel
theorem dX8_rising_42 : decode cX8_rising 42 = .ok (.ireturn, 1) := by decide +kernel
theorem dX8_quickest_0 : decode cX8_quickest 0 = .ok (.aload_n 0, 1) := by decide +kernel
theorem dX8_quickest_1 : decode cX8_quickest 1 = .ok (.invokevirtual 119, 3) := by decide +kernel
theorem dX8_quickest_4 : decode cX8_quickest 4 = .ok (.iconst 2, 1) := by decide +kernel
theorem dX8_quickest_5 : decode cX8_quickest 5 = .ok (.if_icmp .ge 10, 3) := by decide +kernel
theorem dX8_quickest_8 : decode cX8_quickest 8 = .ok (.aload_n 0, 1) := by decide +kernel
theorem dX8_quickest_9 : decode cX8_quickest 9 = .ok (.ldc 125, 2) := by decide +kernel
theorem dX8_quickest_11 : decode cX8_quickest 11 = .ok (.invokevirtual 61, 3) := by decide +kernel
theorem dX8_quickest_14 : decode cX8_quickest 14 = .ok (.ireturn, 1) := by decide +kernel
theorem dX8_quickest_15 : decode cX8_quickest 15 = .ok (.aload_n 0, 1) := by decide +kernel
theorem dX8_quickest_16 : decode cX8_quickest 16 = .ok (.getfield 9, 3) := by decide +kernel
theorem dX8_quickest_19 : decode cX8_quickest 19 = .ok (.bipush 46, 2) := by decide +kernel
theorem dX8_quickest_21 : decode cX8_quickest 21 = .ok (.iaload, 1) := by decide +kernel
theorem dX8_quickest_22 : decode cX8_quickest 22 = .ok (.aload_n 0, 1) := by decide +kernel
theorem dX8_quickest_23 : decode cX8_quickest 23 = .ok (.getfield 9, 3) := by decide +kernel
theorem dX8_quickest_26 : decode cX8_quickest 26 = .ok (.bipush 44, 2) := by decide +kernel
theorem dX8_quickest_28 : decode cX8_quickest 28 = .ok (.iaload, 1) := by decide +kernel
theorem dX8_quickest_29 : decode cX8_quickest 29 = .ok (.isub, 1) := by decide +kernel
theorem dX8_quickest_30 : decode cX8_quickest 30 = .ok (.istore_n 1, 1) := by decide +kernel
theorem dX8_quickest_31 : decode cX8_quickest 31 = .ok (.iconst 2, 1) := by decide +kernel
theorem dX8_quickest_32 : decode cX8_quickest 32 = .ok (.istore_n 2, 1) := by decide +kernel
theorem dX8_quickest_33 : decode cX8_quickest 33 = .ok (.iload_n 2, 1) := by decide +kernel
theorem dX8_quickest_34 : decode cX8_quickest 34 = .ok (.aload_n 0, 1) := by decide +kernel
theorem dX8_quickest_35 : decode cX8_quickest 35 = .ok (.invokevirtual 119, 3) := by decide +kernel
theorem dX8_quickest_38 : decode cX8_quickest 38 = .ok (.if_icmp .ge 46, 3) := by decide +kernel
theorem dX8_quickest_41 : decode cX8_quickest 41 = .ok (.aload_n 0, 1) := by decide +kernel
theorem dX8_quickest_42 : decode cX8_quickest 42 = .ok (.getfield 9, 3) := by decide +kernel
theorem dX8_quickest_45 : decode cX8_quickest 45 = .ok (.bipush 44, 2) := by decide +kernel
theorem dX8_quickest_47 : decode cX8_quickest 47 = .ok (.iconst 2, 1) := by decide +kernel
theorem dX8_quickest_48 : decode cX8_quickest 48 = .ok (.iload_n 2, 1) := by decide +kernel
theorem dX8_quickest_49 : decode cX8_quickest 49 = .ok (.imul, 1) := by decide +kernel
theorem dX8_quickest_50 : decode cX8_quickest 50 = .ok (.iadd, 1) := by decide +kernel
theorem dX8_quickest_51 : decode cX8_quickest 51 = .ok (.iaload, 1) := by decide +kernel
theorem dX8_quickest_52 : decode cX8_quickest 52 = .ok (.aload_n 0, 1) := by decide +kernel
theorem dX8_quickest_53 : decode cX8_quickest 53 = .ok (.getfield 9, 3) := by decide +kernel
theorem dX8_quickest_56 : decode cX8_quickest 56 = .ok (.bipush 44, 2) := by decide +kernel
theorem dX8_quickest_58 : decode cX8_quickest 58 = .ok (.iconst 2, 1) := by decide +kernel
theorem dX8_quickest_59 : decode cX8_quickest 59 = .ok (.iload_n 2, 1) := by decide +kernel
theorem dX8_quickest_60 : decode cX8_quickest 60 = .ok (.imul, 1) := by decide +kernel
theorem dX8_quickest_61 : decode cX8_quickest 61 = .ok (.iadd, 1) := by decide +kernel
theorem dX8_quickest_62 : decode cX8_quickest 62 = .ok (.iconst 2, 1) := by decide +kernel
theorem dX8_quickest_63 : decode cX8_quickest 63 = .ok (.isub, 1) := by decide +kernel
theorem dX8_quickest_64 : decode cX8_quickest 64 = .ok (.iaload, 1) := by decide +kernel
theorem dX8_quickest_65 : decode cX8_quickest 65 = .ok (.isub, 1) := by decide +kernel
theorem dX8_quickest_66 : decode cX8_quickest 66 = .ok (.istore_n 3, 1) := by decide +kernel
theorem dX8_quickest_67 : decode cX8_quickest 67 = .ok (.iload_n 3, 1) := by decide +kernel
theorem dX8_quickest_68 : decode cX8_quickest 68 = .ok (.iload_n 1, 1) := by decide +kernel
theorem dX8_quickest_69 : decode cX8_quickest 69 = .ok (.if_icmp .ge 7, 3) := by decide +kernel
theorem dX8_quickest_72 : decode cX8_quickest 72 = .ok (.iload_n 3, 1) := by decide +kernel
theorem dX8_quickest_73 : decode cX8_quickest 73 = .ok (.goto 4, 3) := by decide +kernel
theorem dX8_quickest_76 : decode cX8_quickest 76 = .ok (.iload_n 1, 1) := by decide +kernel
theorem dX8_quickest_77 : decode cX8_quickest 77 = .ok (.istore_n 1, 1) := by decide +kernel
theorem dX8_quickest_78 : decode cX8_quickest 78 = .ok (.iinc 2 1, 3) := by decide +kernel
theorem dX8_quickest_81 : decode cX8_quickest 81 = .ok (.goto (-48), 3) := by decide +kernel
theorem dX8_quickest_84 : decode cX8_quickest 84 = .ok (.iload_n 1, 1) := by decide +kernel
theorem dX8_quickest_85 : decode cX8_quickest 85 = .ok (.ireturn, 1) := by decide +kernel
theorem dX8_feed_0 : decode cX8_feed 0 = .ok (.iload_n 2, 1) := by decide +kernel
theorem dX8_feed_1 : decode cX8_feed 1 = .ok (.i2l, 1) := by decide +kernel
theorem dX8_feed_2 : decode cX8_feed 2 = .ok (.lconst 1, 1) := by decide +kernel
theorem dX8_feed_3 : decode cX8_feed 3 = .ok (.ldc2_w 75, 3) := by decide +kernel
theorem dX8_feed_6 : decode cX8_feed 6 = .ok (.invokestatic 49, 3) := by decide +kernel
theorem dX8_feed_9 : decode cX8_feed 9 = .ok (.ifCond .ne 10, 3) := by decide +kernel
theorem dX8_feed_12 : decode cX8_feed 12 = .ok (.aload_n 0, 1) := by decide +kernel
theorem dX8_feed_13 : decode cX8_feed 13 = .ok (.ldc 46, 2) := by decide +kernel
theorem dX8_feed_15 : decode cX8_feed 15 = .ok (.invokevirtual 61, 3) := by decide +kernel
theorem dX8_feed_18 : decode cX8_feed 18 = .ok (.ireturn, 1) := by decide +kernel
theorem dX8_feed_19 : decode cX8_feed 19 = .ok (.aload_n 0, 1) := by decide +kernel
theorem dX8_feed_20 : decode cX8_feed 20 = .ok (.getfield 129, 3) := by decide +kernel
theorem dX8_feed_23 : decode cX8_feed 23 = .ok (.iload_n 2, 1) := by decide +kernel
theorem dX8_feed_24 : decode cX8_feed 24 = .ok (.iadd, 1) := by decide +kernel
theorem dX8_feed_25 : decode cX8_feed 25 = .ok (.bipush 100, 2) := by decide +kernel
theorem dX8_feed_27 : decode cX8_feed 27 = .ok (.if_icmp .le 10, 3) := by decide +kernel
theorem dX8_feed_30 : decode cX8_feed 30 = .ok (.aload_n 0, 1) := by decide +kernel
theorem dX8_feed_31 : decode cX8_feed 31 = .ok (.ldc 85, 2) := by decide +kernel
theorem dX8_feed_33 : decode cX8_feed 33 = .ok (.invokevirtual 61, 3) := by decide +kernel
theorem dX8_feed_36 : decode cX8_feed 36 = .ok (.ireturn, 1) := by decide +kernel
theorem dX8_feed_37 : decode cX8_feed 37 = .ok (.iload_n 2, 1) := by decide +kernel
theorem dX8_feed_38 : decode cX8_feed 38 = .ok (.iconst 1, 1) := by decide +kernel
theorem dX8_feed_39 : decode cX8_feed 39 = .ok (.isub, 1) := by decide +kernel
theorem dX8_feed_40 : decode cX8_feed 40 = .ok (.istore_n 3, 1) := by decide +kernel
theorem dX8_feed_41 : decode cX8_feed 41 = .ok (.iload_n 3, 1) := by decide +kernel
theorem dX8_feed_42 : decode cX8_feed 42 = .ok (.ifCond .lt 38, 3) := by decide +kernel
theorem dX8_feed_45 : decode cX8_feed 45 = .ok (.aload_n 0, 1) := by decide +kernel
theorem dX8_feed_46 : decode cX8_feed 46 = .ok (.getfield 28, 3) := by decide +kernel
theorem dX8_feed_49 : decode cX8_feed 49 = .ok (.aload_n 0, 1) := by decide +kernel
theorem dX8_feed_50 : decode cX8_feed 50 = .ok (.getfield 129, 3) := by decide +kernel
theorem dX8_feed_53 : decode cX8_feed 53 = .ok (.iload_n 1, 1) := by decide +kernel
theorem dX8_feed_54 : decode cX8_feed 54 = .ok (.bipush 8, 2) := by decide +kernel
theorem dX8_feed_56 : decode cX8_feed 56 = .ok (.iload_n 3, 1) := by decide +kernel
theorem dX8_feed_57 : decode cX8_feed 57 = .ok (.imul, 1) := by decide +kernel
theorem dX8_feed_58 : decode cX8_feed 58 = .ok (.ishr, 1) := by decide +kernel
theorem dX8_feed_59 : decode cX8_feed 59 = .ok (.sipush 255, 3) := by decide +kernel
theorem dX8_feed_62 : decode cX8_feed 62 = .ok (.iand, 1) := by decide +kernel
theorem dX8_feed_63 : decode cX8_feed 63 = .ok (.iastore, 1) := by decide +kernel
theorem dX8_feed_64 : decode cX8_feed 64 = .ok (.aload_n 0, 1) := by decide +kernel
theorem dX8_feed_65 : decode cX8_feed 65 = .ok (.dup, 1) := by decide +kernel
theorem dX8_feed_66 : decode cX8_feed 66 = .ok (.getfield 129, 3) := by decide +kernel
theorem dX8_feed_69 : decode cX8_feed 69 = .ok (.iconst 1, 1) := by decide +kernel
theorem dX8_feed_70 : decode cX8_feed 70 = .ok (.iadd, 1) := by decide +kernel
theorem dX8_feed_71 : decode cX8_feed 71 = .ok (.putfield 129, 3) := by decide +kernel
theorem dX8_feed_74 : decode cX8_feed 74 = .ok (.iinc 3 (-1), 3) := by decide +kernel
theorem dX8_feed_77 : decode cX8_feed 77 = .ok (.goto (-36), 3) := by decide +kernel
theorem dX8_feed_80 : decode cX8_feed 80 = .ok (.aload_n 0, 1) := by decide +kernel
theorem dX8_feed_81 : decode cX8_feed 81 = .ok (.getfield 129, 3) := by decide +kernel
theorem dX8_feed_84 : decode cX8_feed 84 = .ok (.ireturn, 1) := by decide +kernel
theorem dX8_wipe_0 : decode cX8_wipe 0 = .ok (.aload_n 0, 1) := by decide +kernel
theorem dX8_wipe_1 : decode cX8_wipe 1 = .ok (.getfield 129, 3) := by decide +kernel
theorem dX8_wipe_4 : decode cX8_wipe 4 = .ok (.istore_n 1, 1) := by decide +kernel
theorem dX8_wipe_5 : decode cX8_wipe 5 = .ok (.aload_n 0, 1) := by decide +kernel
theorem dX8_wipe_6 : decode cX8_wipe 6 = .ok (.iconst 0, 1) := by decide +kernel
theorem dX8_wipe_7 : decode cX8_wipe 7 = .ok (.putfield 129, 3) := by decide +kernel
theorem dX8_wipe_10 : decode cX8_wipe 10 = .ok (.iload_n 1, 1) := by decide +kernel
theorem dX8_wipe_11 : decode cX8_wipe 11 = .ok (.ireturn, 1) := by decide +kernel
theorem dX8_isLetter_0 : decode cX8_isLetter 0 = .ok (.iload_n 0, 1) := by decide +kernel
theorem dX8_isLetter_1 : decode cX8_isLetter 1 = .ok (.bipush 97, 2) := by decide +kernel
theorem dX8_isLetter_3 : decode cX8_isLetter 3 = .ok (.if_icmp .lt 13, 3) := by decide +kernel
theorem dX8_isLetter_6 : decode cX8_isLetter 6 = .ok (.iload_n 0, 1) := by decide +kernel
theorem dX8_isLetter_7 : decode cX8_isLetter 7 = .ok (.bipush 122, 2) := by decide +kernel
theorem dX8_isLetter_9 : decode cX8_isLetter 9 = .ok (.if_icmp .gt 7, 3) := by decide +kernel
theorem dX8_isLetter_12 : decode cX8_isLetter 12 = .ok (.iconst 1, 1) := by decide +kernel
theorem dX8_isLetter_13 : decode cX8_isLetter 13 = .ok (.goto 4, 3) := by decide +kernel
theorem dX8_isLetter_16 : decode cX8_isLetter 16 = .ok (.iconst 0, 1) := by decide +kernel
theorem dX8_isLetter_17 : decode cX8_isLetter 17 = .ok (.ireturn, 1) := by decide +kernel
theorem dX8_isDigit_0 : decode cX8_isDigit 0 = .ok (.iload_n 0, 1) := by decide +kernel
theorem dX8_isDigit_1 : decode cX8_isDigit 1 = .ok (.bipush 48, 2) := by decide +kernel
theorem dX8_isDigit_3 : decode cX8_isDigit 3 = .ok (.if_icmp .lt 13, 3) := by decide +kernel
theorem dX8_isDigit_6 : decode cX8_isDigit 6 = .ok (.iload_n 0, 1) := by decide +kernel
theorem dX8_isDigit_7 : decode cX8_isDigit 7 = .ok (.bipush 57, 2) := by decide +kernel
theorem dX8_isDigit_9 : decode cX8_isDigit 9 = .ok (.if_icmp .gt 7, 3) := by decide +kernel
theorem dX8_isDigit_12 : decode cX8_isDigit 12 = .ok (.iconst 1, 1) := by decide +kernel
theorem dX8_isDigit_13 : decode cX8_isDigit 13 = .ok (.goto 4, 3) := by decide +kernel
theorem dX8_isDigit_16 : decode cX8_isDigit 16 = .ok (.iconst 0, 1) := by decide +kernel
theorem dX8_isDigit_17 : decode cX8_isDigit 17 = .ok (.ireturn, 1) := by decide +kernel
theorem dX8_look_0 : decode cX8_look 0 = .ok (.aload_n 0, 1) := by decide +kernel
theorem dX8_look_1 : decode cX8_look 1 = .ok (.getfield 133, 3) := by decide +kernel
theorem dX8_look_4 : decode cX8_look 4 = .ok (.aload_n 0, 1) := by decide +kernel
theorem dX8_look_5 : decode cX8_look 5 = .ok (.getfield 129, 3) := by decide +kernel
theorem dX8_look_8 : decode cX8_look 8 = .ok (.if_icmp .ge 30, 3) := by decide +kernel
theorem dX8_look_11 : decode cX8_look 11 = .ok (.aload_n 0, 1) := by decide +kernel
theorem dX8_look_12 : decode cX8_look 12 = .ok (.getfield 28, 3) := by decide +kernel
theorem dX8_look_15 : decode cX8_look 15 = .ok (.aload_n 0, 1) := by decide +kernel
theorem dX8_look_16 : decode cX8_look 16 = .ok (.getfield 133, 3) := by decide +kernel
theorem dX8_look_19 : decode cX8_look 19 = .ok (.iaload, 1) := by decide +kernel
theorem dX8_look_20 : decode cX8_look 20 = .ok (.bipush 32, 2) := by decide +kernel
theorem dX8_look_22 : decode cX8_look 22 = .ok (.if_icmp .ne 16, 3) := by decide +kernel
theorem dX8_look_25 : decode cX8_look 25 = .ok (.aload_n 0, 1) := by decide +kernel
theorem dX8_look_26 : decode cX8_look 26 = .ok (.dup, 1) := by decide +kernel
theorem dX8_look_27 : decode cX8_look 27 = .ok (.getfield 133, 3) := by decide +kernel
theorem dX8_look_30 : decode cX8_look 30 = .ok (.iconst 1, 1) := by decide +kernel
theorem dX8_look_31 : decode cX8_look 31 = .ok (.iadd, 1) := by decide +kernel
theorem dX8_look_32 : decode cX8_look 32 = .ok (.putfield 133, 3) := by decide +kernel
theorem dX8_look_35 : decode cX8_look 35 = .ok (.goto (-35), 3) := by decide +kernel
theorem dX8_look_38 : decode cX8_look 38 = .ok (.aload_n 0, 1) := by decide +kernel
theorem dX8_look_39 : decode cX8_look 39 = .ok (.aload_n 0, 1) := by decide +kernel
theorem dX8_look_40 : decode cX8_look 40 = .ok (.getfield 133, 3) := by decide +kernel
theorem dX8_look_43 : decode cX8_look 43 = .ok (.putfield 136, 3) := by decide +kernel
theorem dX8_look_46 : decode cX8_look 46 = .ok (.aload_n 0, 1) := by decide +kernel
theorem dX8_look_47 : decode cX8_look 47 = .ok (.lconst 0, 1) := by decide +kernel
theorem dX8_look_48 : decode cX8_look 48 = .ok (.putfield 139, 3) := by decide +kernel
theorem dX8_look_51 : decode cX8_look 51 = .ok (.aload_n 0, 1) := by decide +kernel
theorem dX8_look_52 : decode cX8_look 52 = .ok (.iconst 0, 1) := by decide +kernel
theorem dX8_look_53 : decode cX8_look 53 = .ok (.putfield 143, 3) := by decide +kernel
theorem dX8_look_56 : decode cX8_look 56 = .ok (.aload_n 0, 1) := by decide +kernel
theorem dX8_look_57 : decode cX8_look 57 = .ok (.getfield 133, 3) := by decide +kernel
theorem dX8_look_60 : decode cX8_look 60 = .ok (.aload_n 0, 1) := by decide +kernel
theorem dX8_look_61 : decode cX8_look 61 = .ok (.getfield 129, 3) := by decide +kernel
theorem dX8_look_64 : decode cX8_look 64 = .ok (.if_icmp .ne 9, 3) := by decide +kernel
theorem dX8_look_67 : decode cX8_look 67 = .ok (.aload_n 0, 1) := by decide +kernel
theorem dX8_look_68 : decode cX8_look 68 = .ok (.iconst 0, 1) := by decide +kernel
theorem dX8_look_69 : decode cX8_look 69 = .ok (.putfield 146, 3) := by decide +kernel
theorem dX8_look_72 : decode cX8_look 72 = .ok (.return_, 1) := by decide +kernel
theorem dX8_look_73 : decode cX8_look 73 = .ok (.aload_n 0, 1) := by decide +kernel
theorem dX8_look_74 : decode cX8_look 74 = .ok (.getfield 28, 3) := by decide +kernel
theorem dX8_look_77 : decode cX8_look 77 = .ok (.aload_n 0, 1) := by decide +kernel
theorem dX8_look_78 : decode cX8_look 78 = .ok (.getfield 133, 3) := by decide +kernel
theorem dX8_look_81 : decode cX8_look 81 = .ok (.iaload, 1) := by decide +kernel
theorem dX8_look_82 : decode cX8_look 82 = .ok (.istore_n 1, 1) := by decide +kernel
theorem dX8_look_83 : decode cX8_look 83 = .ok (.aload_n 0, 1) := by decide +kernel
theorem dX8_look_84 : decode cX8_look 84 = .ok (.iload_n 1, 1) := by decide +kernel
theorem dX8_look_85 : decode cX8_look 85 = .ok (.invokestatic 149, 3) := by decide +kernel
theorem dX8_look_88 : decode cX8_look 88 = .ok (.ifCond .eq 7, 3) := by decide +kernel
theorem dX8_look_91 : decode cX8_look 91 = .ok (.iconst 1, 1) := by decide +kernel
theorem dX8_look_92 : decode cX8_look 92 = .ok (.goto 31, 3) := by decide +kernel
theorem dX8_look_95 : decode cX8_look 95 = .ok (.iload_n 1, 1) := by decide +kernel
theorem dX8_look_96 : decode cX8_look 96 = .ok (.invokestatic 152, 3) := by decide +kernel
theorem dX8_look_99 : decode cX8_look 99 = .ok (.ifCond .eq 7, 3) := by decide +kernel
theorem dX8_look_102 : decode cX8_look 102 = .ok (.iconst 2, 1) := by decide +kernel
theorem dX8_look_103 : decode cX8_look 103 = .ok (.goto 20, 3) := by decide +kernel
theorem dX8_look_106 : decode cX8_look 106 = .ok (.iload_n 1, 1) := by decide +kernel
theorem dX8_look_107 : decode cX8_look 107 = .ok (.bipush 59, 2) := by decide +kernel
theorem dX8_look_109 : decode cX8_look 109 = .ok (.if_icmp .eq 9, 3) := by decide +kernel
theorem dX8_look_112 : decode cX8_look 112 = .ok (.iload_n 1, 1) := by decide +kernel
theorem dX8_look_113 : decode cX8_look 113 = .ok (.bipush 45, 2) := by decide +kernel
theorem dX8_look_115 : decode cX8_look 115 = .ok (.if_icmp .ne 7, 3) := by decide +kernel
theorem dX8_look_118 : decode cX8_look 118 = .ok (.iconst 3, 1) := by decide +kernel
theorem dX8_look_119 : decode cX8_look 119 = .ok (.goto 4, 3) := by decide +kernel
theorem dX8_look_122 : decode cX8_look 122 = .ok (.iconst 4, 1) := by decide +kernel
theorem dX8_look_123 : decode cX8_look 123 = .ok (.putfield 146, 3) := by decide +kernel
theorem dX8_look_126 : decode cX8_look 126 = .ok (.aload_n 0, 1) := by decide +kernel
theorem dX8_look_127 : decode cX8_look 127 = .ok (.getfield 146, 3) := by decide +kernel
theorem dX8_look_130 : decode cX8_look 130 = .ok (.iconst 2, 1) := by decide +kernel
theorem dX8_look_131 : decode cX8_look 131 = .ok (.if_icmp .le 18, 3) := by decide +kernel
theorem dX8_look_134 : decode cX8_look 134 = .ok (.aload_n 0, 1) := by decide +kernel
theorem dX8_look_135 : decode cX8_look 135 = .ok (.iload_n 1, 1) := by decide +kernel
theorem dX8_look_136 : decode cX8_look 136 = .ok (.putfield 143, 3) := by decide +kernel
theorem dX8_look_139 : decode cX8_look 139 = .ok (.aload_n 0, 1) := by decide +kernel
theorem dX8_look_140 : decode cX8_look 140 = .ok (.dup, 1) := by decide +kernel
theorem dX8_look_141 : decode cX8_look 141 = .ok (.getfield 133, 3) := by decide +kernel
theorem dX8_look_144 : decode cX8_look 144 = .ok (.iconst 1, 1) := by decide +kernel
theorem dX8_look_145 : decode cX8_look 145 = .ok (.iadd, 1) := by decide +kernel
theorem dX8_look_146 : decode cX8_look 146 = .ok (.putfield 133, 3) := by decide +kernel
theorem dX8_look_149 : decode cX8_look 149 = .ok (.aload_n 0, 1) := by decide +kernel
theorem dX8_look_150 : decode cX8_look 150 = .ok (.getfield 146, 3) := by decide +kernel
theorem dX8_look_153 : decode cX8_look 153 = .ok (.iconst 1, 1) := by decide +kernel
theorem dX8_look_154 : decode cX8_look 154 = .ok (.if_icmp .ne 91, 3) := by decide +kernel
theorem dX8_look_157 : decode cX8_look 157 = .ok (.aload_n 0, 1) := by decide +kernel
theorem dX8_look_158 : decode cX8_look 158 = .ok (.getfield 133, 3) := by decide +kernel
theorem dX8_look_161 : decode cX8_look 161 = .ok (.aload_n 0, 1) := by decide +kernel
theorem dX8_look_162 : decode cX8_look 162 = .ok (.getfield 129, 3) := by decide +kernel
theorem dX8_look_165 : decode cX8_look 165 = .ok (.if_icmp .ge 80, 3) := by decide +kernel
theorem dX8_look_168 : decode cX8_look 168 = .ok (.aload_n 0, 1) := by decide +kernel
theorem dX8_look_169 : decode cX8_look 169 = .ok (.getfield 28, 3) := by decide +kernel
theorem dX8_look_172 : decode cX8_look 172 = .ok (.aload_n 0, 1) := by decide +kernel
theorem dX8_look_173 : decode cX8_look 173 = .ok (.getfield 133, 3) := by decide +kernel
theorem dX8_look_176 : decode cX8_look 176 = .ok (.iaload, 1) := by decide +kernel
theorem dX8_look_177 : decode cX8_look 177 = .ok (.invokestatic 149, 3) := by decide +kernel
theorem dX8_look_180 : decode cX8_look 180 = .ok (.ifCond .eq 65, 3) := by decide +kernel
theorem dX8_look_183 : decode cX8_look 183 = .ok (.aload_n 0, 1) := by decide +kernel
theorem dX8_look_184 : decode cX8_look 184 = .ok (.aload_n 0, 1) := by decide +kernel
theorem dX8_look_185 : decode cX8_look 185 = .ok (.getfield 133, 3) := by decide +kernel
theorem dX8_look_188 : decode cX8_look 188 = .ok (.aload_n 0, 1) := by decide +kernel
theorem dX8_look_189 : decode cX8_look 189 = .ok (.getfield 136, 3) := by decide +kernel
theorem dX8_look_192 : decode cX8_look 192 = .ok (.isub, 1) := by decide +kernel
theorem dX8_look_193 : decode cX8_look 193 = .ok (.bipush 8, 2) := by decide +kernel
theorem dX8_look_195 : decode cX8_look 195 = .ok (.if_icmp .ge 31, 3) := by decide +kernel
theorem dX8_look_198 : decode cX8_look 198 = .ok (.ldc2_w 155, 3) := by decide +kernel
theorem dX8_look_201 : decode cX8_look 201 = .ok (.aload_n 0, 1) := by decide +kernel
theorem dX8_look_202 : decode cX8_look 202 = .ok (.getfield 139, 3) := by decide +kernel
theorem dX8_look_205 : decode cX8_look 205 = .ok (.lmul, 1) := by decide +kernel
theorem dX8_look_206 : decode cX8_look 206 = .ok (.aload_n 0, 1) := by decide +kernel
theorem dX8_look_207 : decode cX8_look 207 = .ok (.getfield 28, 3) := by decide +kernel
theorem dX8_look_210 : decode cX8_look 210 = .ok (.aload_n 0, 1) := by decide +kernel
theorem dX8_look_211 : decode cX8_look 211 = .ok (.getfield 133, 3) := by decide +kernel
theorem dX8_look_214 : decode cX8_look 214 = .ok (.iaload, 1) := by decide +kernel
theorem dX8_look_215 : decode cX8_look 215 = .ok (.i2l, 1) := by decide +kernel
theorem dX8_look_216 : decode cX8_look 216 = .ok (.ladd, 1) := by decide +kernel
theorem dX8_look_217 : decode cX8_look 217 = .ok (.ldc2_w 157, 3) := by decide +kernel
theorem dX8_look_220 : decode cX8_look 220 = .ok (.lsub, 1) := by decide +kernel
theorem dX8_look_221 : decode cX8_look 221 = .ok (.lconst 1, 1) := by decide +kernel
theorem dX8_look_222 : decode cX8_look 222 = .ok (.ladd, 1) := by decide +kernel
theorem dX8_look_223 : decode cX8_look 223 = .ok (.goto 6, 3) := by decide +kernel
theorem dX8_look_226 : decode cX8_look 226 = .ok (.ldc2_w 159, 3) := by decide +kernel
theorem dX8_look_229 : decode cX8_look 229 = .ok (.putfield 139, 3) := by decide +kernel
theorem dX8_look_232 : decode cX8_look 232 = .ok (.aload_n 0, 1) := by decide +kernel
theorem dX8_look_233 : decode cX8_look 233 = .ok (.dup, 1) := by decide +kernel
theorem dX8_look_234 : decode cX8_look 234 = .ok (.getfield 133, 3) := by decide +kernel
theorem dX8_look_237 : decode cX8_look 237 = .ok (.iconst 1, 1) := by decide +kernel
theorem dX8_look_238 : decode cX8_look 238 = .ok (.iadd, 1) := by decide +kernel
theorem dX8_look_239 : decode cX8_look 239 = .ok (.putfield 133, 3) := by decide +kernel
theorem dX8_look_242 : decode cX8_look 242 = .ok (.goto (-93), 3) := by decide +kernel
theorem dX8_look_245 : decode cX8_look 245 = .ok (.aload_n 0, 1) := by decide +kernel
theorem dX8_look_246 : decode cX8_look 246 = .ok (.getfield 146, 3) := by decide +kernel
theorem dX8_look_249 : decode cX8_look 249 = .ok (.iconst 2, 1) := by decide +kernel
theorem dX8_look_250 : decode cX8_look 250 = .ok (.if_icmp .ne 82, 3) := by decide +kernel
theorem dX8_look_253 : decode cX8_look 253 = .ok (.aload_n 0, 1) := by decide +kernel
theorem dX8_look_254 : decode cX8_look 254 = .ok (.getfield 133, 3) := by decide +kernel
theorem dX8_look_257 : decode cX8_look 257 = .ok (.aload_n 0, 1) := by decide +kernel
theorem dX8_look_258 : decode cX8_look 258 = .ok (.getfield 129, 3) := by decide +kernel
theorem dX8_look_261 : decode cX8_look 261 = .ok (.if_icmp .ge 71, 3) := by decide +kernel
theorem dX8_look_264 : decode cX8_look 264 = .ok (.aload_n 0, 1) := by decide +kernel
theorem dX8_look_265 : decode cX8_look 265 = .ok (.getfield 28, 3) := by decide +kernel
theorem dX8_look_268 : decode cX8_look 268 = .ok (.aload_n 0, 1) := by decide +kernel
theorem dX8_look_269 : decode cX8_look 269 = .ok (.getfield 133, 3) := by decide +kernel
theorem dX8_look_272 : decode cX8_look 272 = .ok (.iaload, 1) := by decide +kernel
theorem dX8_look_273 : decode cX8_look 273 = .ok (.invokestatic 152, 3) := by decide +kernel
theorem dX8_look_276 : decode cX8_look 276 = .ok (.ifCond .eq 56, 3) := by decide +kernel
theorem dX8_look_279 : decode cX8_look 279 = .ok (.aload_n 0, 1) := by decide +kernel
theorem dX8_look_280 : decode cX8_look 280 = .ok (.aload_n 0, 1) := by decide +kernel
theorem dX8_look_281 : decode cX8_look 281 = .ok (.getfield 143, 3) := by decide +kernel
theorem dX8_look_284 : decode cX8_look 284 = .ok (.sipush 999, 3) := by decide +kernel
theorem dX8_look_287 : decode cX8_look 287 = .ok (.if_icmp .le 9, 3) := by decide +kernel
theorem dX8_look_290 : decode cX8_look 290 = .ok (.sipush 1000, 3) := by decide +kernel
theorem dX8_look_293 : decode cX8_look 293 = .ok (.goto 23, 3) := by decide +kernel
theorem dX8_look_296 : decode cX8_look 296 = .ok (.bipush 10, 2) := by decide +kernel
theorem dX8_look_298 : decode cX8_look 298 = .ok (.aload_n 0, 1) := by decide +kernel
theorem dX8_look_299 : decode cX8_look 299 = .ok (.getfield 143, 3) := by decide +kernel
theorem dX8_look_302 : decode cX8_look 302 = .ok (.imul, 1) := by decide +kernel
theorem dX8_look_303 : decode cX8_look 303 = .ok (.aload_n 0, 1) := by decide +kernel
theorem dX8_look_304 : decode cX8_look 304 = .ok (.getfield 28, 3) := by decide +kernel
theorem dX8_look_307 : decode cX8_look 307 = .ok (.aload_n 0, 1) := by decide +kernel
theorem dX8_look_308 : decode cX8_look 308 = .ok (.getfield 133, 3) := by decide +kernel
theorem dX8_look_311 : decode cX8_look 311 = .ok (.iaload, 1) := by decide +kernel
theorem dX8_look_312 : decode cX8_look 312 = .ok (.iadd, 1) := by decide +kernel
theorem dX8_look_313 : decode cX8_look 313 = .ok (.bipush 48, 2) := by decide +kernel
theorem dX8_look_315 : decode cX8_look 315 = .ok (.isub, 1) := by decide +kernel
theorem dX8_look_316 : decode cX8_look 316 = .ok (.putfield 143, 3) := by decide +kernel
theorem dX8_look_319 : decode cX8_look 319 = .ok (.aload_n 0, 1) := by decide +kernel
theorem dX8_look_320 : decode cX8_look 320 = .ok (.dup, 1) := by decide +kernel
theorem dX8_look_321 : decode cX8_look 321 = .ok (.getfield 133, 3) := by decide +kernel
theorem dX8_look_324 : decode cX8_look 324 = .ok (.iconst 1, 1) := by decide +kernel
theorem dX8_look_325 : decode cX8_look 325 = .ok (.iadd, 1) := by decide +kernel
theorem dX8_look_326 : decode cX8_look 326 = .ok (.putfield 133, 3) := by decide +kernel
theorem dX8_look_329 : decode cX8_look 329 = .ok (.goto (-84), 3) := by decide +kernel
theorem dX8_look_332 : decode cX8_look 332 = .ok (.return_, 1) := by decide +kernel
theorem dX8_isWord_0 : decode cX8_isWord 0 = .ok (.lconst 0, 1) := by decide +kernel
theorem dX8_isWord_1 : decode cX8_isWord 1 = .ok (.lstore_n 2, 1) := by decide +kernel
theorem dX8_isWord_2 : decode cX8_isWord 2 = .ok (.iconst 0, 1) := by decide +kernel
theorem dX8_isWord_3 : decode cX8_isWord 3 = .ok (.istore 4, 2) := by decide +kernel
theorem dX8_isWord_5 : decode cX8_isWord 5 = .ok (.iload 4, 2) := by decide +kernel
theorem dX8_isWord_7 : decode cX8_isWord 7 = .ok (.aload_n 1, 1) := by decide +kernel
theorem dX8_isWord_8 : decode cX8_isWord 8 = .ok (.invokevirtual 161, 3) := by decide +kernel
theorem dX8_isWord_11 : decode cX8_isWord 11 = .ok (.if_icmp .ge 29, 3) := by decide +kernel
theorem dX8_isWord_14 : decode cX8_isWord 14 = .ok (.ldc2_w 155, 3) := by decide +kernel
theorem dX8_isWord_17 : decode cX8_isWord 17 = .ok (.lload_n 2, 1) := by decide +kernel
theorem dX8_isWord_18 : decode cX8_isWord 18 = .ok (.lmul, 1) := by decide +kernel
theorem dX8_isWord_19 : decode cX8_isWord 19 = .ok (.aload_n 1, 1) := by decide +kernel
theorem dX8_isWord_20 : decode cX8_isWord 20 = .ok (.iload 4, 2) := by decide +kernel
theorem dX8_isWord_22 : decode cX8_isWord 22 = .ok (.invokevirtual 166, 3) := by decide +kernel
theorem dX8_isWord_25 : decode cX8_isWord 25 = .ok (.i2l, 1) := by decide +kernel
theorem dX8_isWord_26 : decode cX8_isWord 26 = .ok (.ladd, 1) := by decide +kernel
theorem dX8_isWord_27 : decode cX8_isWord 27 = .ok (.ldc2_w 157, 3) := by decide +kernel
theorem dX8_isWord_30 : decode cX8_isWord 30 = .ok (.lsub, 1) := by decide +kernel
theorem dX8_isWord_31 : decode cX8_isWord 31 = .ok (.lconst 1, 1) := by decide +kernel
theorem dX8_isWord_32 : decode cX8_isWord 32 = .ok (.ladd, 1) := by decide +kernel
theorem dX8_isWord_33 : decode cX8_isWord 33 = .ok (.lstore_n 2, 1) := by decide +kernel
theorem dX8_isWord_34 : decode cX8_isWord 34 = .ok (.iinc 4 1, 3) := by decide +kernel
theorem dX8_isWord_37 : decode cX8_isWord 37 = .ok (.goto (-32), 3) := by decide +kernel
theorem dX8_isWord_40 : decode cX8_isWord 40 = .ok (.aload_n 0, 1) := by decide +kernel
theorem dX8_isWord_41 : decode cX8_isWord 41 = .ok (.getfield 146, 3) := by decide +kernel
theorem dX8_isWord_44 : decode cX8_isWord 44 = .ok (.iconst 1, 1) := by decide +kernel
theorem dX8_isWord_45 : decode cX8_isWord 45 = .ok (.if_icmp .ne 16, 3) := by decide +kernel
theorem dX8_isWord_48 : decode cX8_isWord 48 = .ok (.aload_n 0, 1) := by decide +kernel
theorem dX8_isWord_49 : decode cX8_isWord 49 = .ok (.getfield 139, 3) := by decide +kernel
theorem dX8_isWord_52 : decode cX8_isWord 52 = .ok (.lload_n 2, 1) := by decide +kernel
theorem dX8_isWord_53 : decode cX8_isWord 53 = .ok (.lcmp, 1) := by decide +kernel
theorem dX8_isWord_54 : decode cX8_isWord 54 = .ok (.ifCond .ne 7, 3) := by decide +kernel
theorem dX8_isWord_57 : decode cX8_isWord 57 = .ok (.iconst 1, 1) := by decide +kernel
theorem dX8_isWord_58 : decode cX8_isWord 58 = .ok (.goto 4, 3) := by decide +kernel
theorem dX8_isWord_61 : decode cX8_isWord 61 = .ok (.iconst 0, 1) := by decide +kernel
theorem dX8_isWord_62 : decode cX8_isWord 62 = .ok (.ireturn, 1) := by decide +kernel
theorem dX8_deed_0 : decode cX8_deed 0 = .ok (.aload_n 0, 1) := by decide +kernel
theorem dX8_deed_1 : decode cX8_deed 1 = .ok (.ldc 170, 2) := by decide +kernel
theorem dX8_deed_3 : decode cX8_deed 3 = .ok (.invokevirtual 172, 3) := by decide +kernel
theorem dX8_deed_6 : decode cX8_deed 6 = .ok (.ifCond .ne 12, 3) := by decide +kernel
theorem dX8_deed_9 : decode cX8_deed 9 = .ok (.aload_n 0, 1) := by decide +kernel
theorem dX8_deed_10 : decode cX8_deed 10 = .ok (.ldc 176, 2) := by decide +kernel
theorem dX8_deed_12 : decode cX8_deed 12 = .ok (.invokevirtual 172, 3) := by decide +kernel
theorem dX8_deed_15 : decode cX8_deed 15 = .ok (.ifCond .eq 18, 3) := by decide +kernel
theorem dX8_deed_18 : decode cX8_deed 18 = .ok (.aload_n 0, 1) := by decide +kernel
theorem dX8_deed_19 : decode cX8_deed 19 = .ok (.ldc 170, 2) := by decide +kernel
theorem dX8_deed_21 : decode cX8_deed 21 = .ok (.invokevirtual 172, 3) := by decide +kernel
theorem dX8_deed_24 : decode cX8_deed 24 = .ok (.ifCond .eq 7, 3) := by decide +kernel
theorem dX8_deed_27 : decode cX8_deed 27 = .ok (.iconst 0, 1) := by decide +kernel
theorem dX8_deed_28 : decode cX8_deed 28 = .ok (.goto 4, 3) := by decide +kernel
theorem dX8_deed_31 : decode cX8_deed 31 = .ok (.iconst 1, 1) := by decide +kernel
theorem dX8_deed_32 : decode cX8_deed 32 = .ok (.ireturn, 1) := by decide +kernel
theorem dX8_deed_33 : decode cX8_deed 33 = .ok (.aload_n 0, 1) := by decide +kernel
theorem dX8_deed_34 : decode cX8_deed 34 = .ok (.ldc 178, 2) := by decide +kernel
theorem dX8_deed_36 : decode cX8_deed 36 = .ok (.invokevirtual 172, 3) := by decide +kernel
theorem dX8_deed_39 : decode cX8_deed 39 = .ok (.ifCond .ne 12, 3) := by decide +kernel
theorem dX8_deed_42 : decode cX8_deed 42 = .ok (.aload_n 0, 1) := by decide +kernel
theorem dX8_deed_43 : decode cX8_deed 43 = .ok (.ldc 180, 2) := by decide +kernel
theorem dX8_deed_45 : decode cX8_deed 45 = .ok (.invokevirtual 172, 3) := by decide +kernel
theorem dX8_deed_48 : decode cX8_deed 48 = .ok (.ifCond .eq 18, 3) := by decide +kernel
theorem dX8_deed_51 : decode cX8_deed 51 = .ok (.aload_n 0, 1) := by decide +kernel
theorem dX8_deed_52 : decode cX8_deed 52 = .ok (.ldc 180, 2) := by decide +kernel
theorem dX8_deed_54 : decode cX8_deed 54 = .ok (.invokevirtual 172, 3) := by decide +kernel
theorem dX8_deed_57 : decode cX8_deed 57 = .ok (.ifCond .eq 7, 3) := by decide +kernel
theorem dX8_deed_60 : decode cX8_deed 60 = .ok (.iconst 3, 1) := by decide +kernel
theorem dX8_deed_61 : decode cX8_deed 61 = .ok (.goto 4, 3) := by decide +kernel
theorem dX8_deed_64 : decode cX8_deed 64 = .ok (.iconst 2, 1) := by decide +kernel
theorem dX8_deed_65 : decode cX8_deed 65 = .ok (.ireturn, 1) := by decide +kernel
theorem dX8_deed_66 : decode cX8_deed 66 = .ok (.aload_n 0, 1) := by decide +kernel
theorem dX8_deed_67 : decode cX8_deed 67 = .ok (.ldc 182, 2) := by decide +kernel
theorem dX8_deed_69 : decode cX8_deed 69 = .ok (.invokevirtual 172, 3) := by decide +kernel
theorem dX8_deed_72 : decode cX8_deed 72 = .ok (.ifCond .ne 12, 3) := by decide +kernel
theorem dX8_deed_75 : decode cX8_deed 75 = .ok (.aload_n 0, 1) := by decide +kernel
theorem dX8_deed_76 : decode cX8_deed 76 = .ok (.ldc 184, 2) := by decide +kernel
theorem dX8_deed_78 : decode cX8_deed 78 = .ok (.invokevirtual 172, 3) := by decide +kernel
theorem dX8_deed_81 : decode cX8_deed 81 = .ok (.ifCond .eq 18, 3) := by decide +kernel
theorem dX8_deed_84 : decode cX8_deed 84 = .ok (.aload_n 0, 1) := by decide +kernel
theorem dX8_deed_85 : decode cX8_deed 85 = .ok (.ldc 182, 2) := by decide +kernel
theorem dX8_deed_87 : decode cX8_deed 87 = .ok (.invokevirtual 172, 3) := by decide +kernel
theorem dX8_deed_90 : decode cX8_deed 90 = .ok (.ifCond .eq 7, 3) := by decide +kernel
theorem dX8_deed_93 : decode cX8_deed 93 = .ok (.iconst 4, 1) := by decide +kernel
theorem dX8_deed_94 : decode cX8_deed 94 = .ok (.goto 4, 3) := by decide +kernel
theorem dX8_deed_97 : decode cX8_deed 97 = .ok (.iconst 5, 1) := by decide +kernel
theorem dX8_deed_98 : decode cX8_deed 98 = .ok (.ireturn, 1) := by decide +kernel
theorem dX8_deed_99 : decode cX8_deed 99 = .ok (.aload_n 0, 1) := by decide +kernel
theorem dX8_deed_100 : decode cX8_deed 100 = .ok (.ldc 186, 2) := by decide +kernel
theorem dX8_deed_102 : decode cX8_deed 102 = .ok (.invokevirtual 172, 3) := by decide +kernel
theorem dX8_deed_105 : decode cX8_deed 105 = .ok (.ifCond .ne 12, 3) := by decide +kernel
theorem dX8_deed_108 : decode cX8_deed 108 = .ok (.aload_n 0, 1) := by decide +kernel
theorem dX8_deed_109 : decode cX8_deed 109 = .ok (.ldc 188, 2) := by decide +kernel
theorem dX8_deed_111 : decode cX8_deed 111 = .ok (.invokevirtual 172, 3) := by decide +kernel
theorem dX8_deed_114 : decode cX8_deed 114 = .ok (.ifCond .eq 20, 3) := by decide +kernel
theorem dX8_deed_117 : decode cX8_deed 117 = .ok (.aload_n 0, 1) := by decide +kernel
theorem dX8_deed_118 : decode cX8_deed 118 = .ok (.ldc 188, 2) := by decide +kernel
theorem dX8_deed_120 : decode cX8_deed 120 = .ok (.invokevirtual 172, 3) := by decide +kernel
theorem dX8_deed_123 : decode cX8_deed 123 = .ok (.ifCond .eq 8, 3) := by decide +kernel
theorem dX8_deed_126 : decode cX8_deed 126 = .ok (.bipush 7, 2) := by decide +kernel
theorem dX8_deed_128 : decode cX8_deed 128 = .ok (.goto 5, 3) := by decide +kernel
theorem dX8_deed_131 : decode cX8_deed 131 = .ok (.bipush 6, 2) := by decide +kernel
theorem dX8_deed_133 : decode cX8_deed 133 = .ok (.ireturn, 1) := by decide +kernel
theorem dX8_deed_134 : decode cX8_deed 134 = .ok (.aload_n 0, 1) := by decide +kernel
theorem dX8_deed_135 : decode cX8_deed 135 = .ok (.ldc 190, 2) := by decide +kernel
theorem dX8_deed_137 : decode cX8_deed 137 = .ok (.invokevirtual 172, 3) := by decide +kernel
theorem dX8_deed_140 : decode cX8_deed 140 = .ok (.ifCond .ne 12, 3) := by decide +kernel
theorem dX8_deed_143 : decode cX8_deed 143 = .ok (.aload_n 0, 1) := by decide +kernel
theorem dX8_deed_144 : decode cX8_deed 144 = .ok (.ldc 192, 2) := by decide +kernel
theorem dX8_deed_146 : decode cX8_deed 146 = .ok (.invokevirtual 172, 3) := by decide +kernel
theorem dX8_deed_149 : decode cX8_deed 149 = .ok (.ifCond .eq 20, 3) := by decide +kernel
theorem dX8_deed_152 : decode cX8_deed 152 = .ok (.aload_n 0, 1) := by decide +kernel
theorem dX8_deed_153 : decode cX8_deed 153 = .ok (.ldc 192, 2) := by decide +kernel
theorem dX8_deed_155 : decode cX8_deed 155 = .ok (.invokevirtual 172, 3) := by decide +kernel
theorem dX8_deed_158 : decode cX8_deed 158 = .ok (.ifCond .eq 8, 3) := by decide +kernel
theorem dX8_deed_161 : decode cX8_deed 161 = .ok (.bipush 9, 2) := by decide +kernel
theorem dX8_deed_163 : decode cX8_deed 163 = .ok (.goto 5, 3) := by decide +kernel
theorem dX8_deed_166 : decode cX8_deed 166 = .ok (.bipush 8, 2) := by decide +kernel
theorem dX8_deed_168 : decode cX8_deed 168 = .ok (.ireturn, 1) := by decide +kernel
theorem dX8_deed_169 : decode cX8_deed 169 = .ok (.aload_n 0, 1) := by decide +kernel
theorem dX8_deed_170 : decode cX8_deed 170 = .ok (.ldc 194, 2) := by decide +kernel
theorem dX8_deed_172 : decode cX8_deed 172 = .ok (.invokevirtual 172, 3) := by decide +kernel
theorem dX8_deed_175 : decode cX8_deed 175 = .ok (.ifCond .eq 8, 3) := by decide +kernel
theorem dX8_deed_178 : decode cX8_deed 178 = .ok (.bipush 10, 2) := by decide +kernel
theorem dX8_deed_180 : decode cX8_deed 180 = .ok (.goto 32, 3) := by decide +kernel
theorem dX8_deed_183 : decode cX8_deed 183 = .ok (.aload_n 0, 1) := by decide +kernel
theorem dX8_deed_184 : decode cX8_deed 184 = .ok (.ldc 196, 2) := by decide +kernel
theorem dX8_deed_186 : decode cX8_deed 186 = .ok (.invokevirtual 172, 3) := by decide +kernel
theorem dX8_deed_189 : decode cX8_deed 189 = .ok (.ifCond .eq 8, 3) := by decide +kernel
theorem dX8_deed_192 : decode cX8_deed 192 = .ok (.bipush 11, 2) := by decide +kernel
theorem dX8_deed_194 : decode cX8_deed 194 = .ok (.goto 18, 3) := by decide +kernel
theorem dX8_deed_197 : decode cX8_deed 197 = .ok (.aload_n 0, 1) := by decide +kernel
theorem dX8_deed_198 : decode cX8_deed 198 = .ok (.ldc 198, 2) := by decide +kernel
theorem dX8_deed_200 : decode cX8_deed 200 = .ok (.invokevirtual 172, 3) := by decide +kernel
theorem dX8_deed_203 : decode cX8_deed 203 = .ok (.ifCond .eq 8, 3) := by decide +kernel
theorem dX8_deed_206 : decode cX8_deed 206 = .ok (.bipush 12, 2) := by decide +kernel
theorem dX8_deed_208 : decode cX8_deed 208 = .ok (.goto 4, 3) := by decide +kernel
theorem dX8_deed_211 : decode cX8_deed 211 = .ok (.iconst (-1), 1) := by decide +kernel
theorem dX8_deed_212 : decode cX8_deed 212 = .ok (.ireturn, 1) := by decide +kernel
theorem dX8_leastOf_0 : decode cX8_leastOf 0 = .ok (.iload_n 0, 1) := by decide +kernel
theorem dX8_leastOf_1 : decode cX8_leastOf 1 = .ok (.bipush 10, 2) := by decide +kernel
theorem dX8_leastOf_3 : decode cX8_leastOf 3 = .ok (.if_icmp .eq 9, 3) := by decide +kernel
theorem dX8_leastOf_6 : decode cX8_leastOf 6 = .ok (.iload_n 0, 1) := by decide +kernel
theorem dX8_leastOf_7 : decode cX8_leastOf 7 = .ok (.bipush 12, 2) := by decide +kernel
theorem dX8_leastOf_9 : decode cX8_leastOf 9 = .ok (.if_icmp .ne 7, 3) := by decide +kernel
theorem dX8_leastOf_12 : decode cX8_leastOf 12 = .ok (.iconst 1, 1) := by decide +kernel
theorem dX8_leastOf_13 : decode cX8_leastOf 13 = .ok (.goto 4, 3) := by decide +kernel
theorem dX8_leastOf_16 : decode cX8_leastOf 16 = .ok (.iconst 0, 1) := by decide +kernel
theorem dX8_leastOf_17 : decode cX8_leastOf 17 = .ok (.ireturn, 1) := by decide +kernel
theorem dX8_mostOf_0 : decode cX8_mostOf 0 = .ok (.iload_n 0, 1) := by decide +kernel
theorem dX8_mostOf_1 : decode cX8_mostOf 1 = .ok (.bipush 7, 2) := by decide +kernel
theorem dX8_mostOf_3 : decode cX8_mostOf 3 = .ok (.if_icmp .ge 8, 3) := by decide +kernel
theorem dX8_mostOf_6 : decode cX8_mostOf 6 = .ok (.bipush 11, 2) := by decide +kernel
theorem dX8_mostOf_8 : decode cX8_mostOf 8 = .ok (.goto 28, 3) := by decide +kernel
theorem dX8_mostOf_11 : decode cX8_mostOf 11 = .ok (.iload_n 0, 1) := by decide +kernel
theorem dX8_mostOf_12 : decode cX8_mostOf 12 = .ok (.bipush 11, 2) := by decide +kernel
theorem dX8_mostOf_14 : decode cX8_mostOf 14 = .ok (.if_icmp .ne 9, 3) := by decide +kernel
theorem dX8_mostOf_17 : decode cX8_mostOf 17 = .ok (.sipush 200, 3) := by decide +kernel
theorem dX8_mostOf_20 : decode cX8_mostOf 20 = .ok (.goto 16, 3) := by decide +kernel
theorem dX8_mostOf_23 : decode cX8_mostOf 23 = .ok (.iload_n 0, 1) := by decide +kernel
theorem dX8_mostOf_24 : decode cX8_mostOf 24 = .ok (.bipush 12, 2) := by decide +kernel
theorem dX8_mostOf_26 : decode cX8_mostOf 26 = .ok (.if_icmp .ne 8, 3) := by decide +kernel
theorem dX8_mostOf_29 : decode cX8_mostOf 29 = .ok (.bipush 50, 2) := by decide +kernel
theorem dX8_mostOf_31 : decode cX8_mostOf 31 = .ok (.goto 5, 3) := by decide +kernel
theorem dX8_mostOf_34 : decode cX8_mostOf 34 = .ok (.bipush 99, 2) := by decide +kernel
theorem dX8_mostOf_36 : decode cX8_mostOf 36 = .ok (.ireturn, 1) := by decide +kernel
theorem dX8_must_0 : decode cX8_must 0 = .ok (.aload_n 0, 1) := by decide +kernel
theorem dX8_must_1 : decode cX8_must 1 = .ok (.aload_n 0, 1) := by decide +kernel
theorem dX8_must_2 : decode cX8_must 2 = .ok (.getfield 200, 3) := by decide +kernel
theorem dX8_must_5 : decode cX8_must 5 = .ok (.ifCond .ne 7, 3) := by decide +kernel
theorem dX8_must_8 : decode cX8_must 8 = .ok (.iload_n 1, 1) := by decide +kernel
theorem dX8_must_9 : decode cX8_must 9 = .ok (.ifCond .ne 7, 3) := by decide +kernel
theorem dX8_must_12 : decode cX8_must 12 = .ok (.iconst 1, 1) := by decide +kernel
theorem dX8_must_13 : decode cX8_must 13 = .ok (.goto 4, 3) := by decide +kernel
theorem dX8_must_16 : decode cX8_must 16 = .ok (.iconst 0, 1) := by decide +kernel
theorem dX8_must_17 : decode cX8_must 17 = .ok (.putfield 200, 3) := by decide +kernel
theorem dX8_must_20 : decode cX8_must 20 = .ok (.return_, 1) := by decide +kernel
theorem dX8_reads_0 : decode cX8_reads 0 = .ok (.aload_n 0, 1) := by decide +kernel
theorem dX8_reads_1 : decode cX8_reads 1 = .ok (.invokevirtual 204, 3) := by decide +kernel
theorem dX8_reads_4 : decode cX8_reads 4 = .ok (.istore_n 2, 1) := by decide +kernel
theorem dX8_reads_5 : decode cX8_reads 5 = .ok (.aload_n 0, 1) := by decide +kernel
theorem dX8_reads_6 : decode cX8_reads 6 = .ok (.iload_n 2, 1) := by decide +kernel
theorem dX8_reads_7 : decode cX8_reads 7 = .ok (.ifCond .lt 18, 3) := by decide +kernel
theorem dX8_reads_10 : decode cX8_reads 10 = .ok (.aload_n 0, 1) := by decide +kernel
theorem dX8_reads_11 : decode cX8_reads 11 = .ok (.getfield 9, 3) := by decide +kernel
theorem dX8_reads_14 : decode cX8_reads 14 = .ok (.iload_n 1, 1) := by decide +kernel
theorem dX8_reads_15 : decode cX8_reads 15 = .ok (.iaload, 1) := by decide +kernel
theorem dX8_reads_16 : decode cX8_reads 16 = .ok (.bipush 12, 2) := by decide +kernel
theorem dX8_reads_18 : decode cX8_reads 18 = .ok (.if_icmp .ge 7, 3) := by decide +kernel
theorem dX8_reads_21 : decode cX8_reads 21 = .ok (.iconst 1, 1) := by decide +kernel
theorem dX8_reads_22 : decode cX8_reads 22 = .ok (.goto 4, 3) := by decide +kernel
theorem dX8_reads_25 : decode cX8_reads 25 = .ok (.iconst 0, 1) := by decide +kernel
theorem dX8_reads_26 : decode cX8_reads 26 = .ok (.invokevirtual 207, 3) := by decide +kernel
theorem dX8_reads_29 : decode cX8_reads 29 = .ok (.aload_n 0, 1) := by decide +kernel
theorem dX8_reads_30 : decode cX8_reads 30 = .ok (.getfield 200, 3) := by decide +kernel
theorem dX8_reads_33 : decode cX8_reads 33 = .ok (.ifCond .eq 4, 3) := by decide +kernel
theorem dX8_reads_36 : decode cX8_reads 36 = .ok (.return_, 1) := by decide +kernel
theorem dX8_reads_37 : decode cX8_reads 37 = .ok (.aload_n 0, 1) := by decide +kernel
theorem dX8_reads_38 : decode cX8_reads 38 = .ok (.invokevirtual 211, 3) := by decide +kernel
theorem dX8_reads_41 : decode cX8_reads 41 = .ok (.iconst 1, 1) := by decide +kernel
theorem dX8_reads_42 : decode cX8_reads 42 = .ok (.istore_n 3, 1) := by decide +kernel
theorem dX8_reads_43 : decode cX8_reads 43 = .ok (.iload_n 2, 1) := by decide +kernel
theorem dX8_reads_44 : decode cX8_reads 44 = .ok (.bipush 11, 2) := by decide +kernel
theorem dX8_reads_46 : decode cX8_reads 46 = .ok (.if_icmp .ne 26, 3) := by decide +kernel
theorem dX8_reads_49 : decode cX8_reads 49 = .ok (.aload_n 0, 1) := by decide +kernel
theorem dX8_reads_50 : decode cX8_reads 50 = .ok (.getfield 146, 3) := by decide +kernel
theorem dX8_reads_53 : decode cX8_reads 53 = .ok (.iconst 3, 1) := by decide +kernel
theorem dX8_reads_54 : decode cX8_reads 54 = .ok (.if_icmp .ne 18, 3) := by decide +kernel
theorem dX8_reads_57 : decode cX8_reads 57 = .ok (.aload_n 0, 1) := by decide +kernel
theorem dX8_reads_58 : decode cX8_reads 58 = .ok (.getfield 143, 3) := by decide +kernel
theorem dX8_reads_61 : decode cX8_reads 61 = .ok (.bipush 45, 2) := by decide +kernel
theorem dX8_reads_63 : decode cX8_reads 63 = .ok (.if_icmp .ne 9, 3) := by decide +kernel
theorem dX8_reads_66 : decode cX8_reads 66 = .ok (.iconst (-1), 1) := by decide +kernel
theorem dX8_reads_67 : decode cX8_reads 67 = .ok (.istore_n 3, 1) := by decide +kernel
theorem dX8_reads_68 : decode cX8_reads 68 = .ok (.aload_n 0, 1) := by decide +kernel
theorem dX8_reads_69 : decode cX8_reads 69 = .ok (.invokevirtual 211, 3) := by decide +kernel
theorem dX8_reads_72 : decode cX8_reads 72 = .ok (.aload_n 0, 1) := by decide +kernel
theorem dX8_reads_73 : decode cX8_reads 73 = .ok (.aload_n 0, 1) := by decide +kernel
theorem dX8_reads_74 : decode cX8_reads 74 = .ok (.getfield 146, 3) := by decide +kernel
theorem dX8_reads_77 : decode cX8_reads 77 = .ok (.iconst 2, 1) := by decide +kernel
theorem dX8_reads_78 : decode cX8_reads 78 = .ok (.if_icmp .ne 28, 3) := by decide +kernel
theorem dX8_reads_81 : decode cX8_reads 81 = .ok (.aload_n 0, 1) := by decide +kernel
theorem dX8_reads_82 : decode cX8_reads 82 = .ok (.getfield 143, 3) := by decide +kernel
theorem dX8_reads_85 : decode cX8_reads 85 = .ok (.i2l, 1) := by decide +kernel
theorem dX8_reads_86 : decode cX8_reads 86 = .ok (.iload_n 2, 1) := by decide +kernel
theorem dX8_reads_87 : decode cX8_reads 87 = .ok (.invokestatic 214, 3) := by decide +kernel
theorem dX8_reads_90 : decode cX8_reads 90 = .ok (.i2l, 1) := by decide +kernel
theorem dX8_reads_91 : decode cX8_reads 91 = .ok (.iload_n 2, 1) := by decide +kernel
theorem dX8_reads_92 : decode cX8_reads 92 = .ok (.invokestatic 217, 3) := by decide +kernel
theorem dX8_reads_95 : decode cX8_reads 95 = .ok (.i2l, 1) := by decide +kernel
theorem dX8_reads_96 : decode cX8_reads 96 = .ok (.invokestatic 49, 3) := by decide +kernel
theorem dX8_reads_99 : decode cX8_reads 99 = .ok (.ifCond .eq 7, 3) := by decide +kernel
theorem dX8_reads_102 : decode cX8_reads 102 = .ok (.iconst 1, 1) := by decide +kernel
theorem dX8_reads_103 : decode cX8_reads 103 = .ok (.goto 4, 3) := by decide +kernel
theorem dX8_reads_106 : decode cX8_reads 106 = .ok (.iconst 0, 1) := by decide +kernel
theorem dX8_reads_107 : decode cX8_reads 107 = .ok (.invokevirtual 207, 3) := by decide +kernel
theorem dX8_reads_110 : decode cX8_reads 110 = .ok (.aload_n 0, 1) := by decide +kernel
theorem dX8_reads_111 : decode cX8_reads 111 = .ok (.getfield 200, 3) := by decide +kernel
theorem dX8_reads_114 : decode cX8_reads 114 = .ok (.ifCond .eq 4, 3) := by decide +kernel
theorem dX8_reads_117 : decode cX8_reads 117 = .ok (.return_, 1) := by decide +kernel
theorem dX8_reads_118 : decode cX8_reads 118 = .ok (.aload_n 0, 1) := by decide +kernel
theorem dX8_reads_119 : decode cX8_reads 119 = .ok (.getfield 9, 3) := by decide +kernel
theorem dX8_reads_122 : decode cX8_reads 122 = .ok (.iload_n 1, 1) := by decide +kernel
theorem dX8_reads_123 : decode cX8_reads 123 = .ok (.iconst 1, 1) := by decide +kernel
theorem dX8_reads_124 : decode cX8_reads 124 = .ok (.iadd, 1) := by decide +kernel
theorem dX8_reads_125 : decode cX8_reads 125 = .ok (.iconst 2, 1) := by decide +kernel
theorem dX8_reads_126 : decode cX8_reads 126 = .ok (.aload_n 0, 1) := by decide +kernel
theorem dX8_reads_127 : decode cX8_reads 127 = .ok (.getfield 9, 3) := by decide +kernel
theorem dX8_reads_130 : decode cX8_reads 130 = .ok (.iload_n 1, 1) := by decide +kernel
theorem dX8_reads_131 : decode cX8_reads 131 = .ok (.iaload, 1) := by decide +kernel
theorem dX8_reads_132 : decode cX8_reads 132 = .ok (.imul, 1) := by decide +kernel
theorem dX8_reads_133 : decode cX8_reads 133 = .ok (.iadd, 1) := by decide +kernel
theorem dX8_reads_134 : decode cX8_reads 134 = .ok (.iload_n 2, 1) := by decide +kernel
theorem dX8_reads_135 : decode cX8_reads 135 = .ok (.iastore, 1) := by decide +kernel
theorem dX8_reads_136 : decode cX8_reads 136 = .ok (.aload_n 0, 1) := by decide +kernel
theorem dX8_reads_137 : decode cX8_reads 137 = .ok (.getfield 9, 3) := by decide +kernel
theorem dX8_reads_140 : decode cX8_reads 140 = .ok (.iload_n 1, 1) := by decide +kernel
theorem dX8_reads_141 : decode cX8_reads 141 = .ok (.iconst 2, 1) := by decide +kernel
theorem dX8_reads_142 : decode cX8_reads 142 = .ok (.iadd, 1) := by decide +kernel
theorem dX8_reads_143 : decode cX8_reads 143 = .ok (.iconst 2, 1) := by decide +kernel
theorem dX8_reads_144 : decode cX8_reads 144 = .ok (.aload_n 0, 1) := by decide +kernel
theorem dX8_reads_145 : decode cX8_reads 145 = .ok (.getfield 9, 3) := by decide +kernel
theorem dX8_reads_148 : decode cX8_reads 148 = .ok (.iload_n 1, 1) := by decide +kernel
theorem dX8_reads_149 : decode cX8_reads 149 = .ok (.iaload, 1) := by decide +kernel
theorem dX8_reads_150 : decode cX8_reads 150 = .ok (.imul, 1) := by decide +kernel
theorem dX8_reads_151 : decode cX8_reads 151 = .ok (.iadd, 1) := by decide +kernel
theorem dX8_reads_152 : decode cX8_reads 152 = .ok (.iload_n 3, 1) := by decide +kernel
theorem dX8_reads_153 : decode cX8_reads 153 = .ok (.aload_n 0, 1) := by decide +kernel
theorem dX8_reads_154 : decode cX8_reads 154 = .ok (.getfield 143, 3) := by decide +kernel
theorem dX8_reads_157 : decode cX8_reads 157 = .ok (.imul, 1) := by decide +kernel
theorem dX8_reads_158 : decode cX8_reads 158 = .ok (.iastore, 1) := by decide +kernel
theorem dX8_reads_159 : decode cX8_reads 159 = .ok (.aload_n 0, 1) := by decide +kernel
theorem dX8_reads_160 : decode cX8_reads 160 = .ok (.getfield 9, 3) := by decide +kernel
theorem dX8_reads_163 : decode cX8_reads 163 = .ok (.iload_n 1, 1) := by decide +kernel
theorem dX8_reads_164 : decode cX8_reads 164 = .ok (.dup2, 1) := by decide +kernel
theorem dX8_reads_165 : decode cX8_reads 165 = .ok (.iaload, 1) := by decide +kernel
theorem dX8_reads_166 : decode cX8_reads 166 = .ok (.iconst 1, 1) := by decide +kernel
theorem dX8_reads_167 : decode cX8_reads 167 = .ok (.iadd, 1) := by decide +kernel
theorem dX8_reads_168 : decode cX8_reads 168 = .ok (.iastore, 1) := by decide +kernel
theorem dX8_reads_169 : decode cX8_reads 169 = .ok (.aload_n 0, 1) := by decide +kernel
theorem dX8_reads_170 : decode cX8_reads 170 = .ok (.invokevirtual 211, 3) := by decide +kernel
theorem dX8_reads_173 : decode cX8_reads 173 = .ok (.return_, 1) := by decide +kernel
theorem dX8_program_0 : decode cX8_program 0 = .ok (.aload_n 0, 1) := by decide +kernel
theorem dX8_program_1 : decode cX8_program 1 = .ok (.getfield 9, 3) := by decide +kernel
theorem dX8_program_4 : decode cX8_program 4 = .ok (.bipush 13, 2) := by decide +kernel
theorem dX8_program_6 : decode cX8_program 6 = .ok (.iaload, 1) := by decide +kernel
