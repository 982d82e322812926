/-! decode rows 2 -/
theorem dX8_program_7 : decode cX8_program 7 = .ok (.bipush 6, 2) := by decide +kernel
theorem dX8_program_9 : decode cX8_program 9 = .ok (.if_icmp .ne 10, 3) := by decide +kernel
theorem dX8_program_12 : decode cX8_program 12 = .ok (.aload_n 0, 1) := by decide +kernel
theorem dX8_program_13 : decode cX8_program 13 = .ok (.ldc 85, 2) := by decide +kernel
theorem dX8_program_15 : decode cX8_program 15 = .ok (.invokevirtual 61, 3) := by decide +kernel
theorem dX8_program_18 : decode cX8_program 18 = .ok (.ireturn, 1) := by decide +kernel
theorem dX8_program_19 : decode cX8_program 19 = .ok (.sipush 134, 3) := by decide +kernel
theorem dX8_program_22 : decode cX8_program 22 = .ok (.bipush 25, 2) := by decide +kernel
theorem dX8_program_24 : decode cX8_program 24 = .ok (.aload_n 0, 1) := by decide +kernel
theorem dX8_program_25 : decode cX8_program 25 = .ok (.getfield 9, 3) := by decide +kernel
theorem dX8_program_28 : decode cX8_program 28 = .ok (.bipush 13, 2) := by decide +kernel
theorem dX8_program_30 : decode cX8_program 30 = .ok (.iaload, 1) := by decide +kernel
theorem dX8_program_31 : decode cX8_program 31 = .ok (.imul, 1) := by decide +kernel
theorem dX8_program_32 : decode cX8_program 32 = .ok (.iadd, 1) := by decide +kernel
theorem dX8_program_33 : decode cX8_program 33 = .ok (.istore_n 1, 1) := by decide +kernel
theorem dX8_program_34 : decode cX8_program 34 = .ok (.aload_n 0, 1) := by decide +kernel
theorem dX8_program_35 : decode cX8_program 35 = .ok (.getfield 9, 3) := by decide +kernel
theorem dX8_program_38 : decode cX8_program 38 = .ok (.iload_n 1, 1) := by decide +kernel
theorem dX8_program_39 : decode cX8_program 39 = .ok (.iconst 0, 1) := by decide +kernel
theorem dX8_program_40 : decode cX8_program 40 = .ok (.iastore, 1) := by decide +kernel
theorem dX8_program_41 : decode cX8_program 41 = .ok (.aload_n 0, 1) := by decide +kernel
theorem dX8_program_42 : decode cX8_program 42 = .ok (.iconst 0, 1) := by decide +kernel
theorem dX8_program_43 : decode cX8_program 43 = .ok (.putfield 133, 3) := by decide +kernel
theorem dX8_program_46 : decode cX8_program 46 = .ok (.aload_n 0, 1) := by decide +kernel
theorem dX8_program_47 : decode cX8_program 47 = .ok (.iconst 0, 1) := by decide +kernel
theorem dX8_program_48 : decode cX8_program 48 = .ok (.putfield 200, 3) := by decide +kernel
theorem dX8_program_51 : decode cX8_program 51 = .ok (.aload_n 0, 1) := by decide +kernel
theorem dX8_program_52 : decode cX8_program 52 = .ok (.invokevirtual 211, 3) := by decide +kernel
theorem dX8_program_55 : decode cX8_program 55 = .ok (.aload_n 0, 1) := by decide +kernel
theorem dX8_program_56 : decode cX8_program 56 = .ok (.iload_n 1, 1) := by decide +kernel
theorem dX8_program_57 : decode cX8_program 57 = .ok (.invokevirtual 220, 3) := by decide +kernel
theorem dX8_program_60 : decode cX8_program 60 = .ok (.aload_n 0, 1) := by decide +kernel
theorem dX8_program_61 : decode cX8_program 61 = .ok (.getfield 200, 3) := by decide +kernel
theorem dX8_program_64 : decode cX8_program 64 = .ok (.ifCond .ne 55, 3) := by decide +kernel
theorem dX8_program_67 : decode cX8_program 67 = .ok (.aload_n 0, 1) := by decide +kernel
theorem dX8_program_68 : decode cX8_program 68 = .ok (.getfield 146, 3) := by decide +kernel
theorem dX8_program_71 : decode cX8_program 71 = .ok (.ifCond .eq 48, 3) := by decide +kernel
theorem dX8_program_74 : decode cX8_program 74 = .ok (.aload_n 0, 1) := by decide +kernel
theorem dX8_program_75 : decode cX8_program 75 = .ok (.aload_n 0, 1) := by decide +kernel
theorem dX8_program_76 : decode cX8_program 76 = .ok (.getfield 146, 3) := by decide +kernel
theorem dX8_program_79 : decode cX8_program 79 = .ok (.iconst 3, 1) := by decide +kernel
theorem dX8_program_80 : decode cX8_program 80 = .ok (.if_icmp .ne 16, 3) := by decide +kernel
theorem dX8_program_83 : decode cX8_program 83 = .ok (.aload_n 0, 1) := by decide +kernel
theorem dX8_program_84 : decode cX8_program 84 = .ok (.getfield 143, 3) := by decide +kernel
theorem dX8_program_87 : decode cX8_program 87 = .ok (.bipush 59, 2) := by decide +kernel
theorem dX8_program_89 : decode cX8_program 89 = .ok (.if_icmp .ne 7, 3) := by decide +kernel
theorem dX8_program_92 : decode cX8_program 92 = .ok (.iconst 1, 1) := by decide +kernel
theorem dX8_program_93 : decode cX8_program 93 = .ok (.goto 4, 3) := by decide +kernel
theorem dX8_program_96 : decode cX8_program 96 = .ok (.iconst 0, 1) := by decide +kernel
theorem dX8_program_97 : decode cX8_program 97 = .ok (.invokevirtual 207, 3) := by decide +kernel
theorem dX8_program_100 : decode cX8_program 100 = .ok (.aload_n 0, 1) := by decide +kernel
theorem dX8_program_101 : decode cX8_program 101 = .ok (.getfield 200, 3) := by decide +kernel
theorem dX8_program_104 : decode cX8_program 104 = .ok (.ifCond .ne (-44), 3) := by decide +kernel
theorem dX8_program_107 : decode cX8_program 107 = .ok (.aload_n 0, 1) := by decide +kernel
theorem dX8_program_108 : decode cX8_program 108 = .ok (.invokevirtual 211, 3) := by decide +kernel
theorem dX8_program_111 : decode cX8_program 111 = .ok (.aload_n 0, 1) := by decide +kernel
theorem dX8_program_112 : decode cX8_program 112 = .ok (.iload_n 1, 1) := by decide +kernel
theorem dX8_program_113 : decode cX8_program 113 = .ok (.invokevirtual 220, 3) := by decide +kernel
theorem dX8_program_116 : decode cX8_program 116 = .ok (.goto (-56), 3) := by decide +kernel
theorem dX8_program_119 : decode cX8_program 119 = .ok (.aload_n 0, 1) := by decide +kernel
theorem dX8_program_120 : decode cX8_program 120 = .ok (.iconst 0, 1) := by decide +kernel
theorem dX8_program_121 : decode cX8_program 121 = .ok (.putfield 129, 3) := by decide +kernel
theorem dX8_program_124 : decode cX8_program 124 = .ok (.aload_n 0, 1) := by decide +kernel
theorem dX8_program_125 : decode cX8_program 125 = .ok (.getfield 200, 3) := by decide +kernel
theorem dX8_program_128 : decode cX8_program 128 = .ok (.ifCond .eq 10, 3) := by decide +kernel
theorem dX8_program_131 : decode cX8_program 131 = .ok (.iconst (-1), 1) := by decide +kernel
theorem dX8_program_132 : decode cX8_program 132 = .ok (.aload_n 0, 1) := by decide +kernel
theorem dX8_program_133 : decode cX8_program 133 = .ok (.getfield 136, 3) := by decide +kernel
theorem dX8_program_136 : decode cX8_program 136 = .ok (.isub, 1) := by decide +kernel
theorem dX8_program_137 : decode cX8_program 137 = .ok (.ireturn, 1) := by decide +kernel
theorem dX8_program_138 : decode cX8_program 138 = .ok (.aload_n 0, 1) := by decide +kernel
theorem dX8_program_139 : decode cX8_program 139 = .ok (.getfield 9, 3) := by decide +kernel
theorem dX8_program_142 : decode cX8_program 142 = .ok (.bipush 13, 2) := by decide +kernel
theorem dX8_program_144 : decode cX8_program 144 = .ok (.dup2, 1) := by decide +kernel
theorem dX8_program_145 : decode cX8_program 145 = .ok (.iaload, 1) := by decide +kernel
theorem dX8_program_146 : decode cX8_program 146 = .ok (.iconst 1, 1) := by decide +kernel
theorem dX8_program_147 : decode cX8_program 147 = .ok (.iadd, 1) := by decide +kernel
theorem dX8_program_148 : decode cX8_program 148 = .ok (.iastore, 1) := by decide +kernel
theorem dX8_program_149 : decode cX8_program 149 = .ok (.aload_n 0, 1) := by decide +kernel
theorem dX8_program_150 : decode cX8_program 150 = .ok (.getfield 9, 3) := by decide +kernel
theorem dX8_program_153 : decode cX8_program 153 = .ok (.bipush 13, 2) := by decide +kernel
theorem dX8_program_155 : decode cX8_program 155 = .ok (.iaload, 1) := by decide +kernel
theorem dX8_program_156 : decode cX8_program 156 = .ok (.iconst 1, 1) := by decide +kernel
theorem dX8_program_157 : decode cX8_program 157 = .ok (.isub, 1) := by decide +kernel
theorem dX8_program_158 : decode cX8_program 158 = .ok (.ireturn, 1) := by decide +kernel
theorem dX8_isProgram_0 : decode cX8_isProgram 0 = .ok (.iload_n 1, 1) := by decide +kernel
theorem dX8_isProgram_1 : decode cX8_isProgram 1 = .ok (.i2l, 1) := by decide +kernel
theorem dX8_isProgram_2 : decode cX8_isProgram 2 = .ok (.lconst 0, 1) := by decide +kernel
theorem dX8_isProgram_3 : decode cX8_isProgram 3 = .ok (.aload_n 0, 1) := by decide +kernel
theorem dX8_isProgram_4 : decode cX8_isProgram 4 = .ok (.getfield 9, 3) := by decide +kernel
theorem dX8_isProgram_7 : decode cX8_isProgram 7 = .ok (.bipush 13, 2) := by decide +kernel
theorem dX8_isProgram_9 : decode cX8_isProgram 9 = .ok (.iaload, 1) := by decide +kernel
theorem dX8_isProgram_10 : decode cX8_isProgram 10 = .ok (.iconst 1, 1) := by decide +kernel
theorem dX8_isProgram_11 : decode cX8_isProgram 11 = .ok (.isub, 1) := by decide +kernel
theorem dX8_isProgram_12 : decode cX8_isProgram 12 = .ok (.i2l, 1) := by decide +kernel
theorem dX8_isProgram_13 : decode cX8_isProgram 13 = .ok (.invokestatic 49, 3) := by decide +kernel
theorem dX8_isProgram_16 : decode cX8_isProgram 16 = .ok (.ireturn, 1) := by decide +kernel
theorem dX8_programOf_0 : decode cX8_programOf 0 = .ok (.aload_n 0, 1) := by decide +kernel
theorem dX8_programOf_1 : decode cX8_programOf 1 = .ok (.iload_n 1, 1) := by decide +kernel
theorem dX8_programOf_2 : decode cX8_programOf 2 = .ok (.invokevirtual 224, 3) := by decide +kernel
theorem dX8_programOf_5 : decode cX8_programOf 5 = .ok (.ifCond .eq 13, 3) := by decide +kernel
theorem dX8_programOf_8 : decode cX8_programOf 8 = .ok (.iload_n 2, 1) := by decide +kernel
theorem dX8_programOf_9 : decode cX8_programOf 9 = .ok (.i2l, 1) := by decide +kernel
theorem dX8_programOf_10 : decode cX8_programOf 10 = .ok (.lconst 0, 1) := by decide +kernel
theorem dX8_programOf_11 : decode cX8_programOf 11 = .ok (.lconst 1, 1) := by decide +kernel
theorem dX8_programOf_12 : decode cX8_programOf 12 = .ok (.invokestatic 49, 3) := by decide +kernel
theorem dX8_programOf_15 : decode cX8_programOf 15 = .ok (.ifCond .ne 10, 3) := by decide +kernel
theorem dX8_programOf_18 : decode cX8_programOf 18 = .ok (.aload_n 0, 1) := by decide +kernel
theorem dX8_programOf_19 : decode cX8_programOf 19 = .ok (.ldc 46, 2) := by decide +kernel
theorem dX8_programOf_21 : decode cX8_programOf 21 = .ok (.invokevirtual 61, 3) := by decide +kernel
theorem dX8_programOf_24 : decode cX8_programOf 24 = .ok (.ireturn, 1) := by decide +kernel
theorem dX8_programOf_25 : decode cX8_programOf 25 = .ok (.sipush 134, 3) := by decide +kernel
theorem dX8_programOf_28 : decode cX8_programOf 28 = .ok (.bipush 25, 2) := by decide +kernel
theorem dX8_programOf_30 : decode cX8_programOf 30 = .ok (.iload_n 1, 1) := by decide +kernel
theorem dX8_programOf_31 : decode cX8_programOf 31 = .ok (.imul, 1) := by decide +kernel
theorem dX8_programOf_32 : decode cX8_programOf 32 = .ok (.iadd, 1) := by decide +kernel
theorem dX8_programOf_33 : decode cX8_programOf 33 = .ok (.istore_n 3, 1) := by decide +kernel
theorem dX8_programOf_34 : decode cX8_programOf 34 = .ok (.iconst 0, 1) := by decide +kernel
theorem dX8_programOf_35 : decode cX8_programOf 35 = .ok (.istore 4, 2) := by decide +kernel
theorem dX8_programOf_37 : decode cX8_programOf 37 = .ok (.iconst 0, 1) := by decide +kernel
theorem dX8_programOf_38 : decode cX8_programOf 38 = .ok (.istore 5, 2) := by decide +kernel
theorem dX8_programOf_40 : decode cX8_programOf 40 = .ok (.iload 5, 2) := by decide +kernel
theorem dX8_programOf_42 : decode cX8_programOf 42 = .ok (.aload_n 0, 1) := by decide +kernel
theorem dX8_programOf_43 : decode cX8_programOf 43 = .ok (.getfield 9, 3) := by decide +kernel
theorem dX8_programOf_46 : decode cX8_programOf 46 = .ok (.iload_n 3, 1) := by decide +kernel
theorem dX8_programOf_47 : decode cX8_programOf 47 = .ok (.iaload, 1) := by decide +kernel
theorem dX8_programOf_48 : decode cX8_programOf 48 = .ok (.if_icmp .ge 49, 3) := by decide +kernel
theorem dX8_programOf_51 : decode cX8_programOf 51 = .ok (.iload 4, 2) := by decide +kernel
theorem dX8_programOf_53 : decode cX8_programOf 53 = .ok (.aload_n 0, 1) := by decide +kernel
theorem dX8_programOf_54 : decode cX8_programOf 54 = .ok (.getfield 9, 3) := by decide +kernel
theorem dX8_programOf_57 : decode cX8_programOf 57 = .ok (.iload_n 3, 1) := by decide +kernel
theorem dX8_programOf_58 : decode cX8_programOf 58 = .ok (.iconst 1, 1) := by decide +kernel
theorem dX8_programOf_59 : decode cX8_programOf 59 = .ok (.iadd, 1) := by decide +kernel
theorem dX8_programOf_60 : decode cX8_programOf 60 = .ok (.iconst 2, 1) := by decide +kernel
theorem dX8_programOf_61 : decode cX8_programOf 61 = .ok (.iload 5, 2) := by decide +kernel
theorem dX8_programOf_63 : decode cX8_programOf 63 = .ok (.imul, 1) := by decide +kernel
theorem dX8_programOf_64 : decode cX8_programOf 64 = .ok (.iadd, 1) := by decide +kernel
theorem dX8_programOf_65 : decode cX8_programOf 65 = .ok (.iaload, 1) := by decide +kernel
theorem dX8_programOf_66 : decode cX8_programOf 66 = .ok (.bipush 12, 2) := by decide +kernel
theorem dX8_programOf_68 : decode cX8_programOf 68 = .ok (.if_icmp .ne 19, 3) := by decide +kernel
theorem dX8_programOf_71 : decode cX8_programOf 71 = .ok (.aload_n 0, 1) := by decide +kernel
theorem dX8_programOf_72 : decode cX8_programOf 72 = .ok (.getfield 9, 3) := by decide +kernel
theorem dX8_programOf_75 : decode cX8_programOf 75 = .ok (.iload_n 3, 1) := by decide +kernel
theorem dX8_programOf_76 : decode cX8_programOf 76 = .ok (.iconst 2, 1) := by decide +kernel
theorem dX8_programOf_77 : decode cX8_programOf 77 = .ok (.iadd, 1) := by decide +kernel
theorem dX8_programOf_78 : decode cX8_programOf 78 = .ok (.iconst 2, 1) := by decide +kernel
theorem dX8_programOf_79 : decode cX8_programOf 79 = .ok (.iload 5, 2) := by decide +kernel
theorem dX8_programOf_81 : decode cX8_programOf 81 = .ok (.imul, 1) := by decide +kernel
theorem dX8_programOf_82 : decode cX8_programOf 82 = .ok (.iadd, 1) := by decide +kernel
theorem dX8_programOf_83 : decode cX8_programOf 83 = .ok (.iaload, 1) := by decide +kernel
theorem dX8_programOf_84 : decode cX8_programOf 84 = .ok (.goto 4, 3) := by decide +kernel
theorem dX8_programOf_87 : decode cX8_programOf 87 = .ok (.iconst 0, 1) := by decide +kernel
theorem dX8_programOf_88 : decode cX8_programOf 88 = .ok (.iadd, 1) := by decide +kernel
theorem dX8_programOf_89 : decode cX8_programOf 89 = .ok (.istore 4, 2) := by decide +kernel
theorem dX8_programOf_91 : decode cX8_programOf 91 = .ok (.iinc 5 1, 3) := by decide +kernel
theorem dX8_programOf_94 : decode cX8_programOf 94 = .ok (.goto (-54), 3) := by decide +kernel
theorem dX8_programOf_97 : decode cX8_programOf 97 = .ok (.iload_n 2, 1) := by decide +kernel
theorem dX8_programOf_98 : decode cX8_programOf 98 = .ok (.ifCond .ne 12, 3) := by decide +kernel
theorem dX8_programOf_101 : decode cX8_programOf 101 = .ok (.aload_n 0, 1) := by decide +kernel
theorem dX8_programOf_102 : decode cX8_programOf 102 = .ok (.getfield 9, 3) := by decide +kernel
theorem dX8_programOf_105 : decode cX8_programOf 105 = .ok (.iload_n 3, 1) := by decide +kernel
theorem dX8_programOf_106 : decode cX8_programOf 106 = .ok (.iaload, 1) := by decide +kernel
theorem dX8_programOf_107 : decode cX8_programOf 107 = .ok (.goto 5, 3) := by decide +kernel
theorem dX8_programOf_110 : decode cX8_programOf 110 = .ok (.iload 4, 2) := by decide +kernel
theorem dX8_programOf_112 : decode cX8_programOf 112 = .ok (.ireturn, 1) := by decide +kernel
theorem dX8_plays_0 : decode cX8_plays 0 = .ok (.iload_n 1, 1) := by decide +kernel
theorem dX8_plays_1 : decode cX8_plays 1 = .ok (.bipush 7, 2) := by decide +kernel
theorem dX8_plays_3 : decode cX8_plays 3 = .ok (.if_icmp .ge 16, 3) := by decide +kernel
theorem dX8_plays_6 : decode cX8_plays 6 = .ok (.aload_n 0, 1) := by decide +kernel
theorem dX8_plays_7 : decode cX8_plays 7 = .ok (.getfield 9, 3) := by decide +kernel
theorem dX8_plays_10 : decode cX8_plays 10 = .ok (.bipush 32, 2) := by decide +kernel
theorem dX8_plays_12 : decode cX8_plays 12 = .ok (.iload_n 2, 1) := by decide +kernel
theorem dX8_plays_13 : decode cX8_plays 13 = .ok (.iadd, 1) := by decide +kernel
theorem dX8_plays_14 : decode cX8_plays 14 = .ok (.iload_n 1, 1) := by decide +kernel
theorem dX8_plays_15 : decode cX8_plays 15 = .ok (.iastore, 1) := by decide +kernel
theorem dX8_plays_16 : decode cX8_plays 16 = .ok (.goto 50, 3) := by decide +kernel
theorem dX8_plays_19 : decode cX8_plays 19 = .ok (.iload_n 1, 1) := by decide +kernel
theorem dX8_plays_20 : decode cX8_plays 20 = .ok (.bipush 11, 2) := by decide +kernel
theorem dX8_plays_22 : decode cX8_plays 22 = .ok (.if_icmp .ne 14, 3) := by decide +kernel
theorem dX8_plays_25 : decode cX8_plays 25 = .ok (.aload_n 0, 1) := by decide +kernel
theorem dX8_plays_26 : decode cX8_plays 26 = .ok (.getfield 9, 3) := by decide +kernel
theorem dX8_plays_29 : decode cX8_plays 29 = .ok (.iload_n 2, 1) := by decide +kernel
theorem dX8_plays_30 : decode cX8_plays 30 = .ok (.invokestatic 94, 3) := by decide +kernel
theorem dX8_plays_33 : decode cX8_plays 33 = .ok (.goto 33, 3) := by decide +kernel
theorem dX8_plays_36 : decode cX8_plays 36 = .ok (.iload_n 1, 1) := by decide +kernel
theorem dX8_plays_37 : decode cX8_plays 37 = .ok (.bipush 12, 2) := by decide +kernel
theorem dX8_plays_39 : decode cX8_plays 39 = .ok (.if_icmp .ne 15, 3) := by decide +kernel
theorem dX8_plays_42 : decode cX8_plays 42 = .ok (.aload_n 0, 1) := by decide +kernel
theorem dX8_plays_43 : decode cX8_plays 43 = .ok (.aload_n 0, 1) := by decide +kernel
theorem dX8_plays_44 : decode cX8_plays 44 = .ok (.getfield 9, 3) := by decide +kernel
theorem dX8_plays_47 : decode cX8_plays 47 = .ok (.iload_n 2, 1) := by decide +kernel
theorem dX8_plays_48 : decode cX8_plays 48 = .ok (.invokevirtual 113, 3) := by decide +kernel
theorem dX8_plays_51 : decode cX8_plays 51 = .ok (.goto 15, 3) := by decide +kernel
theorem dX8_plays_54 : decode cX8_plays 54 = .ok (.aload_n 0, 1) := by decide +kernel
theorem dX8_plays_55 : decode cX8_plays 55 = .ok (.getfield 9, 3) := by decide +kernel
theorem dX8_plays_58 : decode cX8_plays 58 = .ok (.iconst 0, 1) := by decide +kernel
theorem dX8_plays_59 : decode cX8_plays 59 = .ok (.iload_n 1, 1) := by decide +kernel
theorem dX8_plays_60 : decode cX8_plays 60 = .ok (.iadd, 1) := by decide +kernel
theorem dX8_plays_61 : decode cX8_plays 61 = .ok (.bipush 7, 2) := by decide +kernel
theorem dX8_plays_63 : decode cX8_plays 63 = .ok (.isub, 1) := by decide +kernel
theorem dX8_plays_64 : decode cX8_plays 64 = .ok (.iload_n 2, 1) := by decide +kernel
theorem dX8_plays_65 : decode cX8_plays 65 = .ok (.iastore, 1) := by decide +kernel
theorem dX8_plays_66 : decode cX8_plays 66 = .ok (.return_, 1) := by decide +kernel
theorem dX8_play_0 : decode cX8_play 0 = .ok (.aload_n 0, 1) := by decide +kernel
theorem dX8_play_1 : decode cX8_play 1 = .ok (.iload_n 1, 1) := by decide +kernel
theorem dX8_play_2 : decode cX8_play 2 = .ok (.invokevirtual 224, 3) := by decide +kernel
theorem dX8_play_5 : decode cX8_play 5 = .ok (.ifCond .ne 10, 3) := by decide +kernel
theorem dX8_play_8 : decode cX8_play 8 = .ok (.aload_n 0, 1) := by decide +kernel
theorem dX8_play_9 : decode cX8_play 9 = .ok (.ldc 46, 2) := by decide +kernel
theorem dX8_play_11 : decode cX8_play 11 = .ok (.invokevirtual 61, 3) := by decide +kernel
theorem dX8_play_14 : decode cX8_play 14 = .ok (.ireturn, 1) := by decide +kernel
theorem dX8_play_15 : decode cX8_play 15 = .ok (.sipush 134, 3) := by decide +kernel
theorem dX8_play_18 : decode cX8_play 18 = .ok (.bipush 25, 2) := by decide +kernel
theorem dX8_play_20 : decode cX8_play 20 = .ok (.iload_n 1, 1) := by decide +kernel
theorem dX8_play_21 : decode cX8_play 21 = .ok (.imul, 1) := by decide +kernel
theorem dX8_play_22 : decode cX8_play 22 = .ok (.iadd, 1) := by decide +kernel
theorem dX8_play_23 : decode cX8_play 23 = .ok (.istore_n 2, 1) := by decide +kernel
theorem dX8_play_24 : decode cX8_play 24 = .ok (.iconst 0, 1) := by decide +kernel
theorem dX8_play_25 : decode cX8_play 25 = .ok (.istore_n 3, 1) := by decide +kernel
theorem dX8_play_26 : decode cX8_play 26 = .ok (.iload_n 3, 1) := by decide +kernel
theorem dX8_play_27 : decode cX8_play 27 = .ok (.aload_n 0, 1) := by decide +kernel
theorem dX8_play_28 : decode cX8_play 28 = .ok (.getfield 9, 3) := by decide +kernel
theorem dX8_play_31 : decode cX8_play 31 = .ok (.iload_n 2, 1) := by decide +kernel
theorem dX8_play_32 : decode cX8_play 32 = .ok (.iaload, 1) := by decide +kernel
theorem dX8_play_33 : decode cX8_play 33 = .ok (.if_icmp .ge 37, 3) := by decide +kernel
theorem dX8_play_36 : decode cX8_play 36 = .ok (.aload_n 0, 1) := by decide +kernel
theorem dX8_play_37 : decode cX8_play 37 = .ok (.aload_n 0, 1) := by decide +kernel
theorem dX8_play_38 : decode cX8_play 38 = .ok (.getfield 9, 3) := by decide +kernel
theorem dX8_play_41 : decode cX8_play 41 = .ok (.iload_n 2, 1) := by decide +kernel
theorem dX8_play_42 : decode cX8_play 42 = .ok (.iconst 1, 1) := by decide +kernel
theorem dX8_play_43 : decode cX8_play 43 = .ok (.iadd, 1) := by decide +kernel
theorem dX8_play_44 : decode cX8_play 44 = .ok (.iconst 2, 1) := by decide +kernel
theorem dX8_play_45 : decode cX8_play 45 = .ok (.iload_n 3, 1) := by decide +kernel
theorem dX8_play_46 : decode cX8_play 46 = .ok (.imul, 1) := by decide +kernel
theorem dX8_play_47 : decode cX8_play 47 = .ok (.iadd, 1) := by decide +kernel
theorem dX8_play_48 : decode cX8_play 48 = .ok (.iaload, 1) := by decide +kernel
theorem dX8_play_49 : decode cX8_play 49 = .ok (.aload_n 0, 1) := by decide +kernel
theorem dX8_play_50 : decode cX8_play 50 = .ok (.getfield 9, 3) := by decide +kernel
theorem dX8_play_53 : decode cX8_play 53 = .ok (.iload_n 2, 1) := by decide +kernel
theorem dX8_play_54 : decode cX8_play 54 = .ok (.iconst 2, 1) := by decide +kernel
theorem dX8_play_55 : decode cX8_play 55 = .ok (.iadd, 1) := by decide +kernel
theorem dX8_play_56 : decode cX8_play 56 = .ok (.iconst 2, 1) := by decide +kernel
theorem dX8_play_57 : decode cX8_play 57 = .ok (.iload_n 3, 1) := by decide +kernel
theorem dX8_play_58 : decode cX8_play 58 = .ok (.imul, 1) := by decide +kernel
theorem dX8_play_59 : decode cX8_play 59 = .ok (.iadd, 1) := by decide +kernel
theorem dX8_play_60 : decode cX8_play 60 = .ok (.iaload, 1) := by decide +kernel
theorem dX8_play_61 : decode cX8_play 61 = .ok (.invokevirtual 227, 3) := by decide +kernel
theorem dX8_play_64 : decode cX8_play 64 = .ok (.iinc 3 1, 3) := by decide +kernel
theorem dX8_play_67 : decode cX8_play 67 = .ok (.goto (-41), 3) := by decide +kernel
theorem dX8_play_70 : decode cX8_play 70 = .ok (.aload_n 0, 1) := by decide +kernel
theorem dX8_play_71 : decode cX8_play 71 = .ok (.getfield 9, 3) := by decide +kernel
theorem dX8_play_74 : decode cX8_play 74 = .ok (.iconst 4, 1) := by decide +kernel
theorem dX8_play_75 : decode cX8_play 75 = .ok (.iaload, 1) := by decide +kernel
theorem dX8_play_76 : decode cX8_play 76 = .ok (.ireturn, 1) := by decide +kernel
theorem dX8_ahead_0 : decode cX8_ahead 0 = .ok (.iload_n 1, 1) := by decide +kernel
theorem dX8_ahead_1 : decode cX8_ahead 1 = .ok (.i2l, 1) := by decide +kernel
theorem dX8_ahead_2 : decode cX8_ahead 2 = .ok (.lconst 0, 1) := by decide +kernel
theorem dX8_ahead_3 : decode cX8_ahead 3 = .ok (.ldc2_w 231, 3) := by decide +kernel
theorem dX8_ahead_6 : decode cX8_ahead 6 = .ok (.invokestatic 49, 3) := by decide +kernel
theorem dX8_ahead_9 : decode cX8_ahead 9 = .ok (.ifCond .eq 15, 3) := by decide +kernel
theorem dX8_ahead_12 : decode cX8_ahead 12 = .ok (.iload_n 2, 1) := by decide +kernel
theorem dX8_ahead_13 : decode cX8_ahead 13 = .ok (.i2l, 1) := by decide +kernel
theorem dX8_ahead_14 : decode cX8_ahead 14 = .ok (.lconst 0, 1) := by decide +kernel
theorem dX8_ahead_15 : decode cX8_ahead 15 = .ok (.ldc2_w 233, 3) := by decide +kernel
theorem dX8_ahead_18 : decode cX8_ahead 18 = .ok (.invokestatic 49, 3) := by decide +kernel
theorem dX8_ahead_21 : decode cX8_ahead 21 = .ok (.ifCond .ne 10, 3) := by decide +kernel
theorem dX8_ahead_24 : decode cX8_ahead 24 = .ok (.aload_n 0, 1) := by decide +kernel
theorem dX8_ahead_25 : decode cX8_ahead 25 = .ok (.ldc 46, 2) := by decide +kernel
theorem dX8_ahead_27 : decode cX8_ahead 27 = .ok (.invokevirtual 61, 3) := by decide +kernel
theorem dX8_ahead_30 : decode cX8_ahead 30 = .ok (.ireturn, 1) := by decide +kernel
theorem dX8_ahead_31 : decode cX8_ahead 31 = .ok (.aload_n 0, 1) := by decide +kernel
theorem dX8_ahead_32 : decode cX8_ahead 32 = .ok (.getfield 9, 3) := by decide +kernel
theorem dX8_ahead_35 : decode cX8_ahead 35 = .ok (.aload_n 0, 1) := by decide +kernel
theorem dX8_ahead_36 : decode cX8_ahead 36 = .ok (.getfield 13, 3) := by decide +kernel
theorem dX8_ahead_39 : decode cX8_ahead 39 = .ok (.invokestatic 235, 3) := by decide +kernel
theorem dX8_ahead_42 : decode cX8_ahead 42 = .ok (.aload_n 0, 1) := by decide +kernel
theorem dX8_ahead_43 : decode cX8_ahead 43 = .ok (.aload_n 0, 1) := by decide +kernel
theorem dX8_ahead_44 : decode cX8_ahead 44 = .ok (.getfield 13, 3) := by decide +kernel
theorem dX8_ahead_47 : decode cX8_ahead 47 = .ok (.iload_n 1, 1) := by decide +kernel
theorem dX8_ahead_48 : decode cX8_ahead 48 = .ok (.invokevirtual 113, 3) := by decide +kernel
theorem dX8_ahead_51 : decode cX8_ahead 51 = .ok (.iload_n 2, 1) := by decide +kernel
theorem dX8_ahead_52 : decode cX8_ahead 52 = .ok (.ifCond .ne 12, 3) := by decide +kernel
theorem dX8_ahead_55 : decode cX8_ahead 55 = .ok (.aload_n 0, 1) := by decide +kernel
theorem dX8_ahead_56 : decode cX8_ahead 56 = .ok (.getfield 13, 3) := by decide +kernel
theorem dX8_ahead_59 : decode cX8_ahead 59 = .ok (.iconst 4, 1) := by decide +kernel
theorem dX8_ahead_60 : decode cX8_ahead 60 = .ok (.iaload, 1) := by decide +kernel
theorem dX8_ahead_61 : decode cX8_ahead 61 = .ok (.goto 47, 3) := by decide +kernel
theorem dX8_ahead_64 : decode cX8_ahead 64 = .ok (.iload_n 2, 1) := by decide +kernel
theorem dX8_ahead_65 : decode cX8_ahead 65 = .ok (.iconst 1, 1) := by decide +kernel
theorem dX8_ahead_66 : decode cX8_ahead 66 = .ok (.if_icmp .ne 12, 3) := by decide +kernel
theorem dX8_ahead_69 : decode cX8_ahead 69 = .ok (.aload_n 0, 1) := by decide +kernel
theorem dX8_ahead_70 : decode cX8_ahead 70 = .ok (.getfield 13, 3) := by decide +kernel
theorem dX8_ahead_73 : decode cX8_ahead 73 = .ok (.iconst 5, 1) := by decide +kernel
theorem dX8_ahead_74 : decode cX8_ahead 74 = .ok (.iaload, 1) := by decide +kernel
theorem dX8_ahead_75 : decode cX8_ahead 75 = .ok (.goto 33, 3) := by decide +kernel
theorem dX8_ahead_78 : decode cX8_ahead 78 = .ok (.iload_n 2, 1) := by decide +kernel
theorem dX8_ahead_79 : decode cX8_ahead 79 = .ok (.iconst 2, 1) := by decide +kernel
theorem dX8_ahead_80 : decode cX8_ahead 80 = .ok (.if_icmp .ne 13, 3) := by decide +kernel
theorem dX8_ahead_83 : decode cX8_ahead 83 = .ok (.aload_n 0, 1) := by decide +kernel
theorem dX8_ahead_84 : decode cX8_ahead 84 = .ok (.getfield 13, 3) := by decide +kernel
theorem dX8_ahead_87 : decode cX8_ahead 87 = .ok (.invokestatic 116, 3) := by decide +kernel
theorem dX8_ahead_90 : decode cX8_ahead 90 = .ok (.goto 18, 3) := by decide +kernel
theorem dX8_ahead_93 : decode cX8_ahead 93 = .ok (.aload_n 0, 1) := by decide +kernel
theorem dX8_ahead_94 : decode cX8_ahead 94 = .ok (.getfield 13, 3) := by decide +kernel
theorem dX8_ahead_97 : decode cX8_ahead 97 = .ok (.bipush 10, 2) := by decide +kernel
theorem dX8_ahead_99 : decode cX8_ahead 99 = .ok (.iaload, 1) := by decide +kernel
theorem dX8_ahead_100 : decode cX8_ahead 100 = .ok (.aload_n 0, 1) := by decide +kernel
theorem dX8_ahead_101 : decode cX8_ahead 101 = .ok (.getfield 9, 3) := by decide +kernel
theorem dX8_ahead_104 : decode cX8_ahead 104 = .ok (.bipush 10, 2) := by decide +kernel
theorem dX8_ahead_106 : decode cX8_ahead 106 = .ok (.iaload, 1) := by decide +kernel
theorem dX8_ahead_107 : decode cX8_ahead 107 = .ok (.isub, 1) := by decide +kernel
theorem dX8_ahead_108 : decode cX8_ahead 108 = .ok (.ireturn, 1) := by decide +kernel
theorem dX8_differ_0 : decode cX8_differ 0 = .ok (.aload_n 0, 1) := by decide +kernel
theorem dX8_differ_1 : decode cX8_differ 1 = .ok (.iconst 4, 1) := by decide +kernel
theorem dX8_differ_2 : decode cX8_differ 2 = .ok (.iaload, 1) := by decide +kernel
theorem dX8_differ_3 : decode cX8_differ 3 = .ok (.aload_n 1, 1) := by decide +kernel
theorem dX8_differ_4 : decode cX8_differ 4 = .ok (.iconst 4, 1) := by decide +kernel
theorem dX8_differ_5 : decode cX8_differ 5 = .ok (.iaload, 1) := by decide +kernel
theorem dX8_differ_6 : decode cX8_differ 6 = .ok (.isub, 1) := by decide +kernel
theorem dX8_differ_7 : decode cX8_differ 7 = .ok (.istore_n 2, 1) := by decide +kernel
theorem dX8_differ_8 : decode cX8_differ 8 = .ok (.iload_n 2, 1) := by decide +kernel
theorem dX8_differ_9 : decode cX8_differ 9 = .ok (.ifCond .ge 8, 3) := by decide +kernel
theorem dX8_differ_12 : decode cX8_differ 12 = .ok (.iload_n 2, 1) := by decide +kernel
theorem dX8_differ_13 : decode cX8_differ 13 = .ok (.ineg, 1) := by decide +kernel
theorem dX8_differ_14 : decode cX8_differ 14 = .ok (.goto 4, 3) := by decide +kernel
theorem dX8_differ_17 : decode cX8_differ 17 = .ok (.iload_n 2, 1) := by decide +kernel
theorem dX8_differ_18 : decode cX8_differ 18 = .ok (.ireturn, 1) := by decide +kernel
theorem dX8_twoBegin_0 : decode cX8_twoBegin 0 = .ok (.aload_n 0, 1) := by decide +kernel
theorem dX8_twoBegin_1 : decode cX8_twoBegin 1 = .ok (.getfield 9, 3) := by decide +kernel
theorem dX8_twoBegin_4 : decode cX8_twoBegin 4 = .ok (.aload_n 0, 1) := by decide +kernel
theorem dX8_twoBegin_5 : decode cX8_twoBegin 5 = .ok (.getfield 13, 3) := by decide +kernel
theorem dX8_twoBegin_8 : decode cX8_twoBegin 8 = .ok (.invokestatic 235, 3) := by decide +kernel
theorem dX8_twoBegin_11 : decode cX8_twoBegin 11 = .ok (.aload_n 0, 1) := by decide +kernel
theorem dX8_twoBegin_12 : decode cX8_twoBegin 12 = .ok (.getfield 9, 3) := by decide +kernel
theorem dX8_twoBegin_15 : decode cX8_twoBegin 15 = .ok (.aload_n 0, 1) := by decide +kernel
theorem dX8_twoBegin_16 : decode cX8_twoBegin 16 = .ok (.getfield 16, 3) := by decide +kernel
theorem dX8_twoBegin_19 : decode cX8_twoBegin 19 = .ok (.invokestatic 235, 3) := by decide +kernel
theorem dX8_twoBegin_22 : decode cX8_twoBegin 22 = .ok (.aload_n 0, 1) := by decide +kernel
theorem dX8_twoBegin_23 : decode cX8_twoBegin 23 = .ok (.getfield 16, 3) := by decide +kernel
theorem dX8_twoBegin_26 : decode cX8_twoBegin 26 = .ok (.iload_n 1, 1) := by decide +kernel
theorem dX8_twoBegin_27 : decode cX8_twoBegin 27 = .ok (.invokestatic 94, 3) := by decide +kernel
theorem dX8_twoBegin_30 : decode cX8_twoBegin 30 = .ok (.return_, 1) := by decide +kernel
theorem dX8_apart_0 : decode cX8_apart 0 = .ok (.iload_n 1, 1) := by decide +kernel
theorem dX8_apart_1 : decode cX8_apart 1 = .ok (.i2l, 1) := by decide +kernel
theorem dX8_apart_2 : decode cX8_apart 2 = .ok (.ldc2_w 90, 3) := by decide +kernel
theorem dX8_apart_5 : decode cX8_apart 5 = .ok (.ldc2_w 92, 3) := by decide +kernel
theorem dX8_apart_8 : decode cX8_apart 8 = .ok (.invokestatic 49, 3) := by decide +kernel
theorem dX8_apart_11 : decode cX8_apart 11 = .ok (.ifCond .eq 15, 3) := by decide +kernel
theorem dX8_apart_14 : decode cX8_apart 14 = .ok (.iload_n 2, 1) := by decide +kernel
theorem dX8_apart_15 : decode cX8_apart 15 = .ok (.i2l, 1) := by decide +kernel
theorem dX8_apart_16 : decode cX8_apart 16 = .ok (.lconst 0, 1) := by decide +kernel
theorem dX8_apart_17 : decode cX8_apart 17 = .ok (.ldc2_w 231, 3) := by decide +kernel
theorem dX8_apart_20 : decode cX8_apart 20 = .ok (.invokestatic 49, 3) := by decide +kernel
theorem dX8_apart_23 : decode cX8_apart 23 = .ok (.ifCond .ne 10, 3) := by decide +kernel
theorem dX8_apart_26 : decode cX8_apart 26 = .ok (.aload_n 0, 1) := by decide +kernel
theorem dX8_apart_27 : decode cX8_apart 27 = .ok (.ldc 46, 2) := by decide +kernel
theorem dX8_apart_29 : decode cX8_apart 29 = .ok (.invokevirtual 61, 3) := by decide +kernel
theorem dX8_apart_32 : decode cX8_apart 32 = .ok (.ireturn, 1) := by decide +kernel
theorem dX8_apart_33 : decode cX8_apart 33 = .ok (.aload_n 0, 1) := by decide +kernel
theorem dX8_apart_34 : decode cX8_apart 34 = .ok (.iload_n 1, 1) := by decide +kernel
theorem dX8_apart_35 : decode cX8_apart 35 = .ok (.invokevirtual 239, 3) := by decide +kernel
theorem dX8_apart_38 : decode cX8_apart 38 = .ok (.aload_n 0, 1) := by decide +kernel
theorem dX8_apart_39 : decode cX8_apart 39 = .ok (.aload_n 0, 1) := by decide +kernel
theorem dX8_apart_40 : decode cX8_apart 40 = .ok (.getfield 13, 3) := by decide +kernel
theorem dX8_apart_43 : decode cX8_apart 43 = .ok (.iload_n 2, 1) := by decide +kernel
theorem dX8_apart_44 : decode cX8_apart 44 = .ok (.invokevirtual 113, 3) := by decide +kernel
theorem dX8_apart_47 : decode cX8_apart 47 = .ok (.aload_n 0, 1) := by decide +kernel
theorem dX8_apart_48 : decode cX8_apart 48 = .ok (.aload_n 0, 1) := by decide +kernel
theorem dX8_apart_49 : decode cX8_apart 49 = .ok (.getfield 16, 3) := by decide +kernel
theorem dX8_apart_52 : decode cX8_apart 52 = .ok (.iload_n 2, 1) := by decide +kernel
theorem dX8_apart_53 : decode cX8_apart 53 = .ok (.invokevirtual 113, 3) := by decide +kernel
theorem dX8_apart_56 : decode cX8_apart 56 = .ok (.aload_n 0, 1) := by decide +kernel
theorem dX8_apart_57 : decode cX8_apart 57 = .ok (.getfield 13, 3) := by decide +kernel
theorem dX8_apart_60 : decode cX8_apart 60 = .ok (.aload_n 0, 1) := by decide +kernel
theorem dX8_apart_61 : decode cX8_apart 61 = .ok (.getfield 16, 3) := by decide +kernel
theorem dX8_apart_64 : decode cX8_apart 64 = .ok (.invokestatic 242, 3) := by decide +kernel
theorem dX8_apart_67 : decode cX8_apart 67 = .ok (.ireturn, 1) := by decide +kernel
theorem dX8_parts_0 : decode cX8_parts 0 = .ok (.iload_n 1, 1) := by decide +kernel
theorem dX8_parts_1 : decode cX8_parts 1 = .ok (.i2l, 1) := by decide +kernel
theorem dX8_parts_2 : decode cX8_parts 2 = .ok (.ldc2_w 90, 3) := by decide +kernel
theorem dX8_parts_5 : decode cX8_parts 5 = .ok (.ldc2_w 92, 3) := by decide +kernel
theorem dX8_parts_8 : decode cX8_parts 8 = .ok (.invokestatic 49, 3) := by decide +kernel
theorem dX8_parts_11 : decode cX8_parts 11 = .ok (.ifCond .eq 15, 3) := by decide +kernel
theorem dX8_parts_14 : decode cX8_parts 14 = .ok (.iload_n 2, 1) := by decide +kernel
theorem dX8_parts_15 : decode cX8_parts 15 = .ok (.i2l, 1) := by decide +kernel
theorem dX8_parts_16 : decode cX8_parts 16 = .ok (.lconst 1, 1) := by decide +kernel
theorem dX8_parts_17 : decode cX8_parts 17 = .ok (.ldc2_w 246, 3) := by decide +kernel
theorem dX8_parts_20 : decode cX8_parts 20 = .ok (.invokestatic 49, 3) := by decide +kernel
theorem dX8_parts_23 : decode cX8_parts 23 = .ok (.ifCond .ne 10, 3) := by decide +kernel
theorem dX8_parts_26 : decode cX8_parts 26 = .ok (.aload_n 0, 1) := by decide +kernel
theorem dX8_parts_27 : decode cX8_parts 27 = .ok (.ldc 46, 2) := by decide +kernel
theorem dX8_parts_29 : decode cX8_parts 29 = .ok (.invokevirtual 61, 3) := by decide +kernel
theorem dX8_parts_32 : decode cX8_parts 32 = .ok (.ireturn, 1) := by decide +kernel
theorem dX8_parts_33 : decode cX8_parts 33 = .ok (.aload_n 0, 1) := by decide +kernel
theorem dX8_parts_34 : decode cX8_parts 34 = .ok (.iload_n 1, 1) := by decide +kernel
theorem dX8_parts_35 : decode cX8_parts 35 = .ok (.invokevirtual 239, 3) := by decide +kernel
theorem dX8_parts_38 : decode cX8_parts 38 = .ok (.iconst 0, 1) := by decide +kernel
theorem dX8_parts_39 : decode cX8_parts 39 = .ok (.istore_n 3, 1) := by decide +kernel
theorem dX8_parts_40 : decode cX8_parts 40 = .ok (.iload_n 3, 1) := by decide +kernel
theorem dX8_parts_41 : decode cX8_parts 41 = .ok (.sipush 400, 3) := by decide +kernel
theorem dX8_parts_44 : decode cX8_parts 44 = .ok (.if_icmp .gt 42, 3) := by decide +kernel
theorem dX8_parts_47 : decode cX8_parts 47 = .ok (.aload_n 0, 1) := by decide +kernel
theorem dX8_parts_48 : decode cX8_parts 48 = .ok (.getfield 13, 3) := by decide +kernel
theorem dX8_parts_51 : decode cX8_parts 51 = .ok (.aload_n 0, 1) := by decide +kernel
theorem dX8_parts_52 : decode cX8_parts 52 = .ok (.getfield 16, 3) := by decide +kernel
theorem dX8_parts_55 : decode cX8_parts 55 = .ok (.invokestatic 242, 3) := by decide +kernel
theorem dX8_parts_58 : decode cX8_parts 58 = .ok (.iload_n 2, 1) := by decide +kernel
theorem dX8_parts_59 : decode cX8_parts 59 = .ok (.if_icmp .lt 5, 3) := by decide +kernel
theorem dX8_parts_62 : decode cX8_parts 62 = .ok (.iload_n 3, 1) := by decide +kernel
theorem dX8_parts_63 : decode cX8_parts 63 = .ok (.ireturn, 1) := by decide +kernel
theorem dX8_parts_64 : decode cX8_parts 64 = .ok (.aload_n 0, 1) := by decide +kernel
theorem dX8_parts_65 : decode cX8_parts 65 = .ok (.aload_n 0, 1) := by decide +kernel
theorem dX8_parts_66 : decode cX8_parts 66 = .ok (.getfield 13, 3) := by decide +kernel
theorem dX8_parts_69 : decode cX8_parts 69 = .ok (.invokevirtual 108, 3) := by decide +kernel
theorem dX8_parts_72 : decode cX8_parts 72 = .ok (.aload_n 0, 1) := by decide +kernel
theorem dX8_parts_73 : decode cX8_parts 73 = .ok (.aload_n 0, 1) := by decide +kernel
theorem dX8_parts_74 : decode cX8_parts 74 = .ok (.getfield 16, 3) := by decide +kernel
theorem dX8_parts_77 : decode cX8_parts 77 = .ok (.invokevirtual 108, 3) := by decide +kernel
theorem dX8_parts_80 : decode cX8_parts 80 = .ok (.iinc 3 1, 3) := by decide +kernel
theorem dX8_parts_83 : decode cX8_parts 83 = .ok (.goto (-43), 3) := by decide +kernel
theorem dX8_parts_86 : decode cX8_parts 86 = .ok (.aload_n 0, 1) := by decide +kernel
theorem dX8_parts_87 : decode cX8_parts 87 = .ok (.ldc 125, 2) := by decide +kernel
theorem dX8_parts_89 : decode cX8_parts 89 = .ok (.invokevirtual 61, 3) := by decide +kernel
theorem dX8_parts_92 : decode cX8_parts 92 = .ok (.ireturn, 1) := by decide +kernel
theorem dX8_goingOf_0 : decode cX8_goingOf 0 = .ok (.aload_n 0, 1) := by decide +kernel
theorem dX8_goingOf_1 : decode cX8_goingOf 1 = .ok (.getfield 13, 3) := by decide +kernel
theorem dX8_goingOf_4 : decode cX8_goingOf 4 = .ok (.bipush 10, 2) := by decide +kernel
theorem dX8_goingOf_6 : decode cX8_goingOf 6 = .ok (.iaload, 1) := by decide +kernel
theorem dX8_goingOf_7 : decode cX8_goingOf 7 = .ok (.istore_n 2, 1) := by decide +kernel
theorem dX8_goingOf_8 : decode cX8_goingOf 8 = .ok (.aload_n 0, 1) := by decide +kernel
theorem dX8_goingOf_9 : decode cX8_goingOf 9 = .ok (.getfield 13, 3) := by decide +kernel
theorem dX8_goingOf_12 : decode cX8_goingOf 12 = .ok (.bipush 10, 2) := by decide +kernel
theorem dX8_goingOf_14 : decode cX8_goingOf 14 = .ok (.iaload, 1) := by decide +kernel
theorem dX8_goingOf_15 : decode cX8_goingOf 15 = .ok (.istore_n 3, 1) := by decide +kernel
theorem dX8_goingOf_16 : decode cX8_goingOf 16 = .ok (.iconst 1, 1) := by decide +kernel
theorem dX8_goingOf_17 : decode cX8_goingOf 17 = .ok (.istore 4, 2) := by decide +kernel
theorem dX8_goingOf_19 : decode cX8_goingOf 19 = .ok (.iconst 1, 1) := by decide +kernel
theorem dX8_goingOf_20 : decode cX8_goingOf 20 = .ok (.istore 5, 2) := by decide +kernel
theorem dX8_goingOf_22 : decode cX8_goingOf 22 = .ok (.iload 5, 2) := by decide +kernel
theorem dX8_goingOf_24 : decode cX8_goingOf 24 = .ok (.iload_n 1, 1) := by decide +kernel
theorem dX8_goingOf_25 : decode cX8_goingOf 25 = .ok (.if_icmp .gt 66, 3) := by decide +kernel
theorem dX8_goingOf_28 : decode cX8_goingOf 28 = .ok (.aload_n 0, 1) := by decide +kernel
theorem dX8_goingOf_29 : decode cX8_goingOf 29 = .ok (.aload_n 0, 1) := by decide +kernel
theorem dX8_goingOf_30 : decode cX8_goingOf 30 = .ok (.getfield 13, 3) := by decide +kernel
theorem dX8_goingOf_33 : decode cX8_goingOf 33 = .ok (.invokevirtual 108, 3) := by decide +kernel
theorem dX8_goingOf_36 : decode cX8_goingOf 36 = .ok (.iload 5, 2) := by decide +kernel
theorem dX8_goingOf_38 : decode cX8_goingOf 38 = .ok (.iload_n 1, 1) := by decide +kernel
theorem dX8_goingOf_39 : decode cX8_goingOf 39 = .ok (.iconst 2, 1) := by decide +kernel
theorem dX8_goingOf_40 : decode cX8_goingOf 40 = .ok (.idiv, 1) := by decide +kernel
theorem dX8_goingOf_41 : decode cX8_goingOf 41 = .ok (.if_icmp .gt 13, 3) := by decide +kernel
theorem dX8_goingOf_44 : decode cX8_goingOf 44 = .ok (.aload_n 0, 1) := by decide +kernel
theorem dX8_goingOf_45 : decode cX8_goingOf 45 = .ok (.getfield 13, 3) := by decide +kernel
theorem dX8_goingOf_48 : decode cX8_goingOf 48 = .ok (.bipush 10, 2) := by decide +kernel
theorem dX8_goingOf_50 : decode cX8_goingOf 50 = .ok (.iaload, 1) := by decide +kernel
theorem dX8_goingOf_51 : decode cX8_goingOf 51 = .ok (.goto 4, 3) := by decide +kernel
theorem dX8_goingOf_54 : decode cX8_goingOf 54 = .ok (.iload_n 3, 1) := by decide +kernel
theorem dX8_goingOf_55 : decode cX8_goingOf 55 = .ok (.istore_n 3, 1) := by decide +kernel
theorem dX8_goingOf_56 : decode cX8_goingOf 56 = .ok (.iload 4, 2) := by decide +kernel
theorem dX8_goingOf_58 : decode cX8_goingOf 58 = .ok (.ifCond .eq 24, 3) := by decide +kernel
theorem dX8_goingOf_61 : decode cX8_goingOf 61 = .ok (.iload 5, 2) := by decide +kernel
theorem dX8_goingOf_63 : decode cX8_goingOf 63 = .ok (.iload_n 1, 1) := by decide +kernel
theorem dX8_goingOf_64 : decode cX8_goingOf 64 = .ok (.iconst 2, 1) := by decide +kernel
theorem dX8_goingOf_65 : decode cX8_goingOf 65 = .ok (.idiv, 1) := by decide +kernel
theorem dX8_goingOf_66 : decode cX8_goingOf 66 = .ok (.if_icmp .le 12, 3) := by decide +kernel
theorem dX8_goingOf_69 : decode cX8_goingOf 69 = .ok (.aload_n 0, 1) := by decide +kernel
theorem dX8_goingOf_70 : decode cX8_goingOf 70 = .ok (.getfield 13, 3) := by decide +kernel
theorem dX8_goingOf_73 : decode cX8_goingOf 73 = .ok (.iconst 4, 1) := by decide +kernel
theorem dX8_goingOf_74 : decode cX8_goingOf 74 = .ok (.iaload, 1) := by decide +kernel
theorem dX8_goingOf_75 : decode cX8_goingOf 75 = .ok (.ifCond .ne 7, 3) := by decide +kernel
theorem dX8_goingOf_78 : decode cX8_goingOf 78 = .ok (.iconst 1, 1) := by decide +kernel
theorem dX8_goingOf_79 : decode cX8_goingOf 79 = .ok (.goto 4, 3) := by decide +kernel
theorem dX8_goingOf_82 : decode cX8_goingOf 82 = .ok (.iconst 0, 1) := by decide +kernel
theorem dX8_goingOf_83 : decode cX8_goingOf 83 = .ok (.istore 4, 2) := by decide +kernel
theorem dX8_goingOf_85 : decode cX8_goingOf 85 = .ok (.iinc 5 1, 3) := by decide +kernel
theorem dX8_goingOf_88 : decode cX8_goingOf 88 = .ok (.goto (-66), 3) := by decide +kernel
theorem dX8_goingOf_91 : decode cX8_goingOf 91 = .ok (.iload 4, 2) := by decide +kernel
theorem dX8_goingOf_93 : decode cX8_goingOf 93 = .ok (.ifCond .eq 7, 3) := by decide +kernel
theorem dX8_goingOf_96 : decode cX8_goingOf 96 = .ok (.iconst 0, 1) := by decide +kernel
theorem dX8_goingOf_97 : decode cX8_goingOf 97 = .ok (.goto 34, 3) := by decide +kernel
theorem dX8_goingOf_100 : decode cX8_goingOf 100 = .ok (.aload_n 0, 1) := by decide +kernel
theorem dX8_goingOf_101 : decode cX8_goingOf 101 = .ok (.getfield 13, 3) := by decide +kernel
theorem dX8_goingOf_104 : decode cX8_goingOf 104 = .ok (.bipush 10, 2) := by decide +kernel
theorem dX8_goingOf_106 : decode cX8_goingOf 106 = .ok (.iaload, 1) := by decide +kernel
theorem dX8_goingOf_107 : decode cX8_goingOf 107 = .ok (.iload_n 2, 1) := by decide +kernel
theorem dX8_goingOf_108 : decode cX8_goingOf 108 = .ok (.if_icmp .ne 7, 3) := by decide +kernel
theorem dX8_goingOf_111 : decode cX8_goingOf 111 = .ok (.iconst 1, 1) := by decide +kernel
theorem dX8_goingOf_112 : decode cX8_goingOf 112 = .ok (.goto 19, 3) := by decide +kernel
theorem dX8_goingOf_115 : decode cX8_goingOf 115 = .ok (.aload_n 0, 1) := by decide +kernel
theorem dX8_goingOf_116 : decode cX8_goingOf 116 = .ok (.getfield 13, 3) := by decide +kernel
theorem dX8_goingOf_119 : decode cX8_goingOf 119 = .ok (.bipush 10, 2) := by decide +kernel
theorem dX8_goingOf_121 : decode cX8_goingOf 121 = .ok (.iaload, 1) := by decide +kernel
theorem dX8_goingOf_122 : decode cX8_goingOf 122 = .ok (.iload_n 3, 1) := by decide +kernel
theorem dX8_goingOf_123 : decode cX8_goingOf 123 = .ok (.if_icmp .ne 7, 3) := by decide +kernel
theorem dX8_goingOf_126 : decode cX8_goingOf 126 = .ok (.iconst 2, 1) := by decide +kernel
theorem dX8_goingOf_127 : decode cX8_goingOf 127 = .ok (.goto 4, 3) := by decide +kernel
theorem dX8_goingOf_130 : decode cX8_goingOf 130 = .ok (.iconst 3, 1) := by decide +kernel
theorem dX8_goingOf_131 : decode cX8_goingOf 131 = .ok (.ireturn, 1) := by decide +kernel
theorem dX8_going_0 : decode cX8_going 0 = .ok (.iload_n 1, 1) := by decide +kernel
theorem dX8_going_1 : decode cX8_going 1 = .ok (.i2l, 1) := by decide +kernel
theorem dX8_going_2 : decode cX8_going 2 = .ok (.ldc2_w 248, 3) := by decide +kernel
theorem dX8_going_5 : decode cX8_going 5 = .ok (.ldc2_w 231, 3) := by decide +kernel
theorem dX8_going_8 : decode cX8_going 8 = .ok (.invokestatic 49, 3) := by decide +kernel
theorem dX8_going_11 : decode cX8_going 11 = .ok (.ifCond .ne 10, 3) := by decide +kernel
theorem dX8_going_14 : decode cX8_going 14 = .ok (.aload_n 0, 1) := by decide +kernel
theorem dX8_going_15 : decode cX8_going 15 = .ok (.ldc 46, 2) := by decide +kernel
theorem dX8_going_17 : decode cX8_going 17 = .ok (.invokevirtual 61, 3) := by decide +kernel
theorem dX8_going_20 : decode cX8_going 20 = .ok (.ireturn, 1) := by decide +kernel
theorem dX8_going_21 : decode cX8_going 21 = .ok (.aload_n 0, 1) := by decide +kernel
theorem dX8_going_22 : decode cX8_going 22 = .ok (.getfield 9, 3) := by decide +kernel
theorem dX8_going_25 : decode cX8_going 25 = .ok (.aload_n 0, 1) := by decide +kernel
theorem dX8_going_26 : decode cX8_going 26 = .ok (.getfield 13, 3) := by decide +kernel
theorem dX8_going_29 : decode cX8_going 29 = .ok (.invokestatic 235, 3) := by decide +kernel
theorem dX8_going_32 : decode cX8_going 32 = .ok (.aload_n 0, 1) := by decide +kernel
theorem dX8_going_33 : decode cX8_going 33 = .ok (.iload_n 1, 1) := by decide +kernel
theorem dX8_going_34 : decode cX8_going 34 = .ok (.invokevirtual 250, 3) := by decide +kernel
theorem dX8_going_37 : decode cX8_going 37 = .ok (.ireturn, 1) := by decide +kernel
theorem dX8_tapFor_0 : decode cX8_tapFor 0 = .ok (.iload_n 1, 1) := by decide +kernel
theorem dX8_tapFor_1 : decode cX8_tapFor 1 = .ok (.i2l, 1) := by decide +kernel
theorem dX8_tapFor_2 : decode cX8_tapFor 2 = .ok (.lconst 0, 1) := by decide +kernel
theorem dX8_tapFor_3 : decode cX8_tapFor 3 = .ok (.ldc2_w 233, 3) := by decide +kernel
theorem dX8_tapFor_6 : decode cX8_tapFor 6 = .ok (.invokestatic 49, 3) := by decide +kernel
theorem dX8_tapFor_9 : decode cX8_tapFor 9 = .ok (.ifCond .eq 17, 3) := by decide +kernel
theorem dX8_tapFor_12 : decode cX8_tapFor 12 = .ok (.iload_n 2, 1) := by decide +kernel
theorem dX8_tapFor_13 : decode cX8_tapFor 13 = .ok (.i2l, 1) := by decide +kernel
theorem dX8_tapFor_14 : decode cX8_tapFor 14 = .ok (.ldc2_w 248, 3) := by decide +kernel
theorem dX8_tapFor_17 : decode cX8_tapFor 17 = .ok (.ldc2_w 231, 3) := by decide +kernel
theorem dX8_tapFor_20 : decode cX8_tapFor 20 = .ok (.invokestatic 49, 3) := by decide +kernel
theorem dX8_tapFor_23 : decode cX8_tapFor 23 = .ok (.ifCond .ne 10, 3) := by decide +kernel
theorem dX8_tapFor_26 : decode cX8_tapFor 26 = .ok (.aload_n 0, 1) := by decide +kernel
theorem dX8_tapFor_27 : decode cX8_tapFor 27 = .ok (.ldc 46, 2) := by decide +kernel
theorem dX8_tapFor_29 : decode cX8_tapFor 29 = .ok (.invokevirtual 61, 3) := by decide +kernel
theorem dX8_tapFor_32 : decode cX8_tapFor 32 = .ok (.ireturn, 1) := by decide +kernel
theorem dX8_tapFor_33 : decode cX8_tapFor 33 = .ok (.iconst 0, 1) := by decide +kernel
theorem dX8_tapFor_34 : decode cX8_tapFor 34 = .ok (.istore_n 3, 1) := by decide +kernel
theorem dX8_tapFor_35 : decode cX8_tapFor 35 = .ok (.iload_n 3, 1) := by decide +kernel
theorem dX8_tapFor_36 : decode cX8_tapFor 36 = .ok (.bipush 100, 2) := by decide +kernel
theorem dX8_tapFor_38 : decode cX8_tapFor 38 = .ok (.if_icmp .ge 38, 3) := by decide +kernel
theorem dX8_tapFor_41 : decode cX8_tapFor 41 = .ok (.aload_n 0, 1) := by decide +kernel
theorem dX8_tapFor_42 : decode cX8_tapFor 42 = .ok (.getfield 9, 3) := by decide +kernel
theorem dX8_tapFor_45 : decode cX8_tapFor 45 = .ok (.aload_n 0, 1) := by decide +kernel
theorem dX8_tapFor_46 : decode cX8_tapFor 46 = .ok (.getfield 13, 3) := by decide +kernel
theorem dX8_tapFor_49 : decode cX8_tapFor 49 = .ok (.invokestatic 235, 3) := by decide +kernel
theorem dX8_tapFor_52 : decode cX8_tapFor 52 = .ok (.aload_n 0, 1) := by decide +kernel
theorem dX8_tapFor_53 : decode cX8_tapFor 53 = .ok (.getfield 13, 3) := by decide +kernel
theorem dX8_tapFor_56 : decode cX8_tapFor 56 = .ok (.iconst 0, 1) := by decide +kernel
theorem dX8_tapFor_57 : decode cX8_tapFor 57 = .ok (.iload_n 3, 1) := by decide +kernel
theorem dX8_tapFor_58 : decode cX8_tapFor 58 = .ok (.iastore, 1) := by decide +kernel
theorem dX8_tapFor_59 : decode cX8_tapFor 59 = .ok (.aload_n 0, 1) := by decide +kernel
theorem dX8_tapFor_60 : decode cX8_tapFor 60 = .ok (.iload_n 2, 1) := by decide +kernel
theorem dX8_tapFor_61 : decode cX8_tapFor 61 = .ok (.invokevirtual 250, 3) := by decide +kernel
theorem dX8_tapFor_64 : decode cX8_tapFor 64 = .ok (.iload_n 1, 1) := by decide +kernel
theorem dX8_tapFor_65 : decode cX8_tapFor 65 = .ok (.if_icmp .ne 5, 3) := by decide +kernel
theorem dX8_tapFor_68 : decode cX8_tapFor 68 = .ok (.iload_n 3, 1) := by decide +kernel
theorem dX8_tapFor_69 : decode cX8_tapFor 69 = .ok (.ireturn, 1) := by decide +kernel
theorem dX8_tapFor_70 : decode cX8_tapFor 70 = .ok (.iinc 3 1, 3) := by decide +kernel
theorem dX8_tapFor_73 : decode cX8_tapFor 73 = .ok (.goto (-38), 3) := by decide +kernel
theorem dX8_tapFor_76 : decode cX8_tapFor 76 = .ok (.aload_n 0, 1) := by decide +kernel
theorem dX8_tapFor_77 : decode cX8_tapFor 77 = .ok (.ldc 125, 2) := by decide +kernel
theorem dX8_tapFor_79 : decode cX8_tapFor 79 = .ok (.invokevirtual 61, 3) := by decide +kernel
theorem dX8_tapFor_82 : decode cX8_tapFor 82 = .ok (.ireturn, 1) := by decide +kernel
theorem dX8_bounds_0 : decode cX8_bounds 0 = .ok (.iload_n 1, 1) := by decide +kernel
theorem dX8_bounds_1 : decode cX8_bounds 1 = .ok (.i2l, 1) := by decide +kernel
theorem dX8_bounds_2 : decode cX8_bounds 2 = .ok (.lconst 0, 1) := by decide +kernel
theorem dX8_bounds_3 : decode cX8_bounds 3 = .ok (.ldc2_w 231, 3) := by decide +kernel
theorem dX8_bounds_6 : decode cX8_bounds 6 = .ok (.invokestatic 49, 3) := by decide +kernel
theorem dX8_bounds_9 : decode cX8_bounds 9 = .ok (.ifCond .eq 13, 3) := by decide +kernel
theorem dX8_bounds_12 : decode cX8_bounds 12 = .ok (.iload_n 2, 1) := by decide +kernel
theorem dX8_bounds_13 : decode cX8_bounds 13 = .ok (.i2l, 1) := by decide +kernel
theorem dX8_bounds_14 : decode cX8_bounds 14 = .ok (.lconst 0, 1) := by decide +kernel
theorem dX8_bounds_15 : decode cX8_bounds 15 = .ok (.lconst 1, 1) := by decide +kernel
theorem dX8_bounds_16 : decode cX8_bounds 16 = .ok (.invokestatic 49, 3) := by decide +kernel
theorem dX8_bounds_19 : decode cX8_bounds 19 = .ok (.ifCond .ne 10, 3) := by decide +kernel
theorem dX8_bounds_22 : decode cX8_bounds 22 = .ok (.aload_n 0, 1) := by decide +kernel
theorem dX8_bounds_23 : decode cX8_bounds 23 = .ok (.ldc 46, 2) := by decide +kernel
theorem dX8_bounds_25 : decode cX8_bounds 25 = .ok (.invokevirtual 61, 3) := by decide +kernel
theorem dX8_bounds_28 : decode cX8_bounds 28 = .ok (.ireturn, 1) := by decide +kernel
theorem dX8_bounds_29 : decode cX8_bounds 29 = .ok (.aload_n 0, 1) := by decide +kernel
theorem dX8_bounds_30 : decode cX8_bounds 30 = .ok (.getfield 9, 3) := by decide +kernel
theorem dX8_bounds_33 : decode cX8_bounds 33 = .ok (.aload_n 0, 1) := by decide +kernel
theorem dX8_bounds_34 : decode cX8_bounds 34 = .ok (.getfield 13, 3) := by decide +kernel
theorem dX8_bounds_37 : decode cX8_bounds 37 = .ok (.invokestatic 235, 3) := by decide +kernel
theorem dX8_bounds_40 : decode cX8_bounds 40 = .ok (.aload_n 0, 1) := by decide +kernel
theorem dX8_bounds_41 : decode cX8_bounds 41 = .ok (.getfield 13, 3) := by decide +kernel
theorem dX8_bounds_44 : decode cX8_bounds 44 = .ok (.iconst 4, 1) := by decide +kernel
theorem dX8_bounds_45 : decode cX8_bounds 45 = .ok (.iaload, 1) := by decide +kernel
theorem dX8_bounds_46 : decode cX8_bounds 46 = .ok (.istore_n 3, 1) := by decide +kernel
theorem dX8_bounds_47 : decode cX8_bounds 47 = .ok (.iconst 0, 1) := by decide +kernel
theorem dX8_bounds_48 : decode cX8_bounds 48 = .ok (.istore 4, 2) := by decide +kernel
theorem dX8_bounds_50 : decode cX8_bounds 50 = .ok (.iload 4, 2) := by decide +kernel
theorem dX8_bounds_52 : decode cX8_bounds 52 = .ok (.iload_n 1, 1) := by decide +kernel
theorem dX8_bounds_53 : decode cX8_bounds 53 = .ok (.if_icmp .ge 55, 3) := by decide +kernel
theorem dX8_bounds_56 : decode cX8_bounds 56 = .ok (.aload_n 0, 1) := by decide +kernel
theorem dX8_bounds_57 : decode cX8_bounds 57 = .ok (.aload_n 0, 1) := by decide +kernel
theorem dX8_bounds_58 : decode cX8_bounds 58 = .ok (.getfield 13, 3) := by decide +kernel
theorem dX8_bounds_61 : decode cX8_bounds 61 = .ok (.invokevirtual 108, 3) := by decide +kernel
theorem dX8_bounds_64 : decode cX8_bounds 64 = .ok (.iload_n 2, 1) := by decide +kernel
theorem dX8_bounds_65 : decode cX8_bounds 65 = .ok (.ifCond .ne 16, 3) := by decide +kernel
theorem dX8_bounds_68 : decode cX8_bounds 68 = .ok (.aload_n 0, 1) := by decide +kernel
theorem dX8_bounds_69 : decode cX8_bounds 69 = .ok (.getfield 13, 3) := by decide +kernel
theorem dX8_bounds_72 : decode cX8_bounds 72 = .ok (.iconst 4, 1) := by decide +kernel
theorem dX8_bounds_73 : decode cX8_bounds 73 = .ok (.iaload, 1) := by decide +kernel
theorem dX8_bounds_74 : decode cX8_bounds 74 = .ok (.iload_n 3, 1) := by decide +kernel
theorem dX8_bounds_75 : decode cX8_bounds 75 = .ok (.if_icmp .ge 25, 3) := by decide +kernel
theorem dX8_bounds_78 : decode cX8_bounds 78 = .ok (.goto 13, 3) := by decide +kernel
theorem dX8_bounds_81 : decode cX8_bounds 81 = .ok (.aload_n 0, 1) := by decide +kernel
theorem dX8_bounds_82 : decode cX8_bounds 82 = .ok (.getfield 13, 3) := by decide +kernel
theorem dX8_bounds_85 : decode cX8_bounds 85 = .ok (.iconst 4, 1) := by decide +kernel
theorem dX8_bounds_86 : decode cX8_bounds 86 = .ok (.iaload, 1) := by decide +kernel
theorem dX8_bounds_87 : decode cX8_bounds 87 = .ok (.iload_n 3, 1) := by decide +kernel
theorem dX8_bounds_88 : decode cX8_bounds 88 = .ok (.if_icmp .le 12, 3) := by decide +kernel
theorem dX8_bounds_91 : decode cX8_bounds 91 = .ok (.aload_n 0, 1) := by decide +kernel
theorem dX8_bounds_92 : decode cX8_bounds 92 = .ok (.getfield 13, 3) := by decide +kernel
theorem dX8_bounds_95 : decode cX8_bounds 95 = .ok (.iconst 4, 1) := by decide +kernel
theorem dX8_bounds_96 : decode cX8_bounds 96 = .ok (.iaload, 1) := by decide +kernel
theorem dX8_bounds_97 : decode cX8_bounds 97 = .ok (.goto 4, 3) := by decide +kernel
theorem dX8_bounds_100 : decode cX8_bounds 100 = .ok (.iload_n 3, 1) := by decide +kernel
theorem dX8_bounds_101 : decode cX8_bounds 101 = .ok (.istore_n 3, 1) := by decide +kernel
theorem dX8_bounds_102 : decode cX8_bounds 102 = .ok (.iinc 4 1, 3) := by decide +kernel
theorem dX8_bounds_105 : decode cX8_bounds 105 = .ok (.goto (-55), 3) := by decide +kernel
theorem dX8_bounds_108 : decode cX8_bounds 108 = .ok (.iload_n 3, 1) := by decide +kernel
theorem dX8_bounds_109 : decode cX8_bounds 109 = .ok (.ireturn, 1) := by decide +kernel
theorem dX8_often_0 : decode cX8_often 0 = .ok (.iload_n 1, 1) := by decide +kernel
theorem dX8_often_1 : decode cX8_often 1 = .ok (.i2l, 1) := by decide +kernel
theorem dX8_often_2 : decode cX8_often 2 = .ok (.lconst 1, 1) := by decide +kernel
theorem dX8_often_3 : decode cX8_often 3 = .ok (.ldc2_w 231, 3) := by decide +kernel
theorem dX8_often_6 : decode cX8_often 6 = .ok (.invokestatic 49, 3) := by decide +kernel
theorem dX8_often_9 : decode cX8_often 9 = .ok (.ifCond .ne 10, 3) := by decide +kernel
theorem dX8_often_12 : decode cX8_often 12 = .ok (.aload_n 0, 1) := by decide +kernel
theorem dX8_often_13 : decode cX8_often 13 = .ok (.ldc 46, 2) := by decide +kernel
theorem dX8_often_15 : decode cX8_often 15 = .ok (.invokevirtual 61, 3) := by decide +kernel
theorem dX8_often_18 : decode cX8_often 18 = .ok (.ireturn, 1) := by decide +kernel
theorem dX8_often_19 : decode cX8_often 19 = .ok (.aload_n 0, 1) := by decide +kernel
theorem dX8_often_20 : decode cX8_often 20 = .ok (.getfield 9, 3) := by decide +kernel
theorem dX8_often_23 : decode cX8_often 23 = .ok (.aload_n 0, 1) := by decide +kernel
theorem dX8_often_24 : decode cX8_often 24 = .ok (.getfield 13, 3) := by decide +kernel
theorem dX8_often_27 : decode cX8_often 27 = .ok (.invokestatic 235, 3) := by decide +kernel
theorem dX8_often_30 : decode cX8_often 30 = .ok (.iconst 0, 1) := by decide +kernel
theorem dX8_often_31 : decode cX8_often 31 = .ok (.istore_n 2, 1) := by decide +kernel
theorem dX8_often_32 : decode cX8_often 32 = .ok (.iconst 0, 1) := by decide +kernel
theorem dX8_often_33 : decode cX8_often 33 = .ok (.istore_n 3, 1) := by decide +kernel
theorem dX8_often_34 : decode cX8_often 34 = .ok (.iload_n 3, 1) := by decide +kernel
theorem dX8_often_35 : decode cX8_often 35 = .ok (.iload_n 1, 1) := by decide +kernel
theorem dX8_often_36 : decode cX8_often 36 = .ok (.if_icmp .ge 34, 3) := by decide +kernel
theorem dX8_often_39 : decode cX8_often 39 = .ok (.aload_n 0, 1) := by decide +kernel
theorem dX8_often_40 : decode cX8_often 40 = .ok (.aload_n 0, 1) := by decide +kernel
theorem dX8_often_41 : decode cX8_often 41 = .ok (.getfield 13, 3) := by decide +kernel
theorem dX8_often_44 : decode cX8_often 44 = .ok (.invokevirtual 108, 3) := by decide +kernel
theorem dX8_often_47 : decode cX8_often 47 = .ok (.iload_n 2, 1) := by decide +kernel
theorem dX8_often_48 : decode cX8_often 48 = .ok (.aload_n 0, 1) := by decide +kernel
theorem dX8_often_49 : decode cX8_often 49 = .ok (.getfield 13, 3) := by decide +kernel
theorem dX8_often_52 : decode cX8_often 52 = .ok (.iconst 4, 1) := by decide +kernel
theorem dX8_often_53 : decode cX8_often 53 = .ok (.iaload, 1) := by decide +kernel
theorem dX8_often_54 : decode cX8_often 54 = .ok (.ifCond .le 7, 3) := by decide +kernel
theorem dX8_often_57 : decode cX8_often 57 = .ok (.iconst 1, 1) := by decide +kernel
theorem dX8_often_58 : decode cX8_often 58 = .ok (.goto 4, 3) := by decide +kernel
theorem dX8_often_61 : decode cX8_often 61 = .ok (.iconst 0, 1) := by decide +kernel
theorem dX8_often_62 : decode cX8_often 62 = .ok (.iadd, 1) := by decide +kernel
theorem dX8_often_63 : decode cX8_often 63 = .ok (.istore_n 2, 1) := by decide +kernel
theorem dX8_often_64 : decode cX8_often 64 = .ok (.iinc 3 1, 3) := by decide +kernel
theorem dX8_often_67 : decode cX8_often 67 = .ok (.goto (-33), 3) := by decide +kernel
theorem dX8_often_70 : decode cX8_often 70 = .ok (.iload_n 2, 1) := by decide +kernel
theorem dX8_often_71 : decode cX8_often 71 = .ok (.ireturn, 1) := by decide +kernel
theorem dX8_holds_0 : decode cX8_holds 0 = .ok (.iload_n 1, 1) := by decide +kernel
theorem dX8_holds_1 : decode cX8_holds 1 = .ok (.i2l, 1) := by decide +kernel
theorem dX8_holds_2 : decode cX8_holds 2 = .ok (.lconst 1, 1) := by decide +kernel
theorem dX8_holds_3 : decode cX8_holds 3 = .ok (.ldc2_w 231, 3) := by decide +kernel
theorem dX8_holds_6 : decode cX8_holds 6 = .ok (.invokestatic 49, 3) := by decide +kernel
theorem dX8_holds_9 : decode cX8_holds 9 = .ok (.ifCond .ne 10, 3) := by decide +kernel
theorem dX8_holds_12 : decode cX8_holds 12 = .ok (.aload_n 0, 1) := by decide +kernel
theorem dX8_holds_13 : decode cX8_holds 13 = .ok (.ldc 46, 2) := by decide +kernel
theorem dX8_holds_15 : decode cX8_holds 15 = .ok (.invokevirtual 61, 3) := by decide +kernel
theorem dX8_holds_18 : decode cX8_holds 18 = .ok (.ireturn, 1) := by decide +kernel
theorem dX8_holds_19 : decode cX8_holds 19 = .ok (.iconst 0, 1) := by decide +kernel
theorem dX8_holds_20 : decode cX8_holds 20 = .ok (.istore_n 2, 1) := by decide +kernel
theorem dX8_holds_21 : decode cX8_holds 21 = .ok (.iload_n 2, 1) := by decide +kernel
theorem dX8_holds_22 : decode cX8_holds 22 = .ok (.bipush 100, 2) := by decide +kernel
theorem dX8_holds_24 : decode cX8_holds 24 = .ok (.if_icmp .gt 76, 3) := by decide +kernel
theorem dX8_holds_27 : decode cX8_holds 27 = .ok (.iload_n 2, 1) := by decide +kernel
theorem dX8_holds_28 : decode cX8_holds 28 = .ok (.iconst 2, 1) := by decide +kernel
theorem dX8_holds_29 : decode cX8_holds 29 = .ok (.irem, 1) := by decide +kernel
theorem dX8_holds_30 : decode cX8_holds 30 = .ok (.iconst 1, 1) := by decide +kernel
theorem dX8_holds_31 : decode cX8_holds 31 = .ok (.if_icmp .ne 11, 3) := by decide +kernel
theorem dX8_holds_34 : decode cX8_holds 34 = .ok (.iload_n 2, 1) := by decide +kernel
theorem dX8_holds_35 : decode cX8_holds 35 = .ok (.iconst 1, 1) := by decide +kernel
theorem dX8_holds_36 : decode cX8_holds 36 = .ok (.iadd, 1) := by decide +kernel
theorem dX8_holds_37 : decode cX8_holds 37 = .ok (.iconst 2, 1) := by decide +kernel
theorem dX8_holds_38 : decode cX8_holds 38 = .ok (.idiv, 1) := by decide +kernel
theorem dX8_holds_39 : decode cX8_holds 39 = .ok (.goto 7, 3) := by decide +kernel
theorem dX8_holds_42 : decode cX8_holds 42 = .ok (.iload_n 2, 1) := by decide +kernel
theorem dX8_holds_43 : decode cX8_holds 43 = .ok (.ineg, 1) := by decide +kernel
theorem dX8_holds_44 : decode cX8_holds 44 = .ok (.iconst 2, 1) := by decide +kernel
theorem dX8_holds_45 : decode cX8_holds 45 = .ok (.idiv, 1) := by decide +kernel
theorem dX8_holds_46 : decode cX8_holds 46 = .ok (.istore_n 3, 1) := by decide +kernel
theorem dX8_holds_47 : decode cX8_holds 47 = .ok (.aload_n 0, 1) := by decide +kernel
theorem dX8_holds_48 : decode cX8_holds 48 = .ok (.getfield 9, 3) := by decide +kernel
theorem dX8_holds_51 : decode cX8_holds 51 = .ok (.aload_n 0, 1) := by decide +kernel
theorem dX8_holds_52 : decode cX8_holds 52 = .ok (.getfield 13, 3) := by decide +kernel
theorem dX8_holds_55 : decode cX8_holds 55 = .ok (.invokestatic 235, 3) := by decide +kernel
theorem dX8_holds_58 : decode cX8_holds 58 = .ok (.aload_n 0, 1) := by decide +kernel
theorem dX8_holds_59 : decode cX8_holds 59 = .ok (.getfield 13, 3) := by decide +kernel
theorem dX8_holds_62 : decode cX8_holds 62 = .ok (.iload_n 3, 1) := by decide +kernel
theorem dX8_holds_63 : decode cX8_holds 63 = .ok (.invokestatic 94, 3) := by decide +kernel
theorem dX8_holds_66 : decode cX8_holds 66 = .ok (.aload_n 0, 1) := by decide +kernel
theorem dX8_holds_67 : decode cX8_holds 67 = .ok (.aload_n 0, 1) := by decide +kernel
theorem dX8_holds_68 : decode cX8_holds 68 = .ok (.getfield 13, 3) := by decide +kernel
theorem dX8_holds_71 : decode cX8_holds 71 = .ok (.iload_n 1, 1) := by decide +kernel
theorem dX8_holds_72 : decode cX8_holds 72 = .ok (.invokevirtual 113, 3) := by decide +kernel
theorem dX8_holds_75 : decode cX8_holds 75 = .ok (.aload_n 0, 1) := by decide +kernel
theorem dX8_holds_76 : decode cX8_holds 76 = .ok (.getfield 13, 3) := by decide +kernel
theorem dX8_holds_79 : decode cX8_holds 79 = .ok (.bipush 10, 2) := by decide +kernel
theorem dX8_holds_81 : decode cX8_holds 81 = .ok (.iaload, 1) := by decide +kernel
theorem dX8_holds_82 : decode cX8_holds 82 = .ok (.aload_n 0, 1) := by decide +kernel
theorem dX8_holds_83 : decode cX8_holds 83 = .ok (.getfield 9, 3) := by decide +kernel
theorem dX8_holds_86 : decode cX8_holds 86 = .ok (.bipush 10, 2) := by decide +kernel
theorem dX8_holds_88 : decode cX8_holds 88 = .ok (.iaload, 1) := by decide +kernel
theorem dX8_holds_89 : decode cX8_holds 89 = .ok (.if_icmp .ne 5, 3) := by decide +kernel
theorem dX8_holds_92 : decode cX8_holds 92 = .ok (.iload_n 3, 1) := by decide +kernel
theorem dX8_holds_93 : decode cX8_holds 93 = .ok (.ireturn, 1) := by decide +kernel
theorem dX8_holds_94 : decode cX8_holds 94 = .ok (.iinc 2 1, 3) := by decide +kernel
theorem dX8_holds_97 : decode cX8_holds 97 = .ok (.goto (-76), 3) := by decide +kernel
theorem dX8_holds_100 : decode cX8_holds 100 = .ok (.aload_n 0, 1) := by decide +kernel
theorem dX8_holds_101 : decode cX8_holds 101 = .ok (.ldc 125, 2) := by decide +kernel
theorem dX8_holds_103 : decode cX8_holds 103 = .ok (.invokevirtual 61, 3) := by decide +kernel
theorem dX8_holds_106 : decode cX8_holds 106 = .ok (.ireturn, 1) := by decide +kernel
theorem dX8_drawn_0 : decode cX8_drawn 0 = .ok (.aload_n 0, 1) := by decide +kernel
theorem dX8_drawn_1 : decode cX8_drawn 1 = .ok (.getfield 9, 3) := by decide +kernel
theorem dX8_drawn_4 : decode cX8_drawn 4 = .ok (.bipush 12, 2) := by decide +kernel
theorem dX8_drawn_6 : decode cX8_drawn 6 = .ok (.aload_n 0, 1) := by decide +kernel
theorem dX8_drawn_7 : decode cX8_drawn 7 = .ok (.getfield 9, 3) := by decide +kernel
theorem dX8_drawn_10 : decode cX8_drawn 10 = .ok (.bipush 12, 2) := by decide +kernel
theorem dX8_drawn_12 : decode cX8_drawn 12 = .ok (.iaload, 1) := by decide +kernel
theorem dX8_drawn_13 : decode cX8_drawn 13 = .ok (.ldc 253, 2) := by decide +kernel
theorem dX8_drawn_15 : decode cX8_drawn 15 = .ok (.imul, 1) := by decide +kernel
theorem dX8_drawn_16 : decode cX8_drawn 16 = .ok (.sipush 12345, 3) := by decide +kernel
theorem dX8_drawn_19 : decode cX8_drawn 19 = .ok (.iadd, 1) := by decide +kernel
theorem dX8_drawn_20 : decode cX8_drawn 20 = .ok (.iastore, 1) := by decide +kernel
theorem dX8_drawn_21 : decode cX8_drawn 21 = .ok (.aload_n 0, 1) := by decide +kernel
theorem dX8_drawn_22 : decode cX8_drawn 22 = .ok (.getfield 9, 3) := by decide +kernel
theorem dX8_drawn_25 : decode cX8_drawn 25 = .ok (.bipush 12, 2) := by decide +kernel
theorem dX8_drawn_27 : decode cX8_drawn 27 = .ok (.iaload, 1) := by decide +kernel
theorem dX8_drawn_28 : decode cX8_drawn 28 = .ok (.bipush 8, 2) := by decide +kernel
theorem dX8_drawn_30 : decode cX8_drawn 30 = .ok (.iushr, 1) := by decide +kernel
theorem dX8_drawn_31 : decode cX8_drawn 31 = .ok (.ireturn, 1) := by decide +kernel
theorem dX8_chance_0 : decode cX8_chance 0 = .ok (.iload_n 1, 1) := by decide +kernel
theorem dX8_chance_1 : decode cX8_chance 1 = .ok (.i2l, 1) := by decide +kernel
theorem dX8_chance_2 : decode cX8_chance 2 = .ok (.lconst 1, 1) := by decide +kernel
theorem dX8_chance_3 : decode cX8_chance 3 = .ok (.ldc2_w 254, 3) := by decide +kernel
theorem dX8_chance_6 : decode cX8_chance 6 = .ok (.invokestatic 49, 3) := by decide +kernel
theorem dX8_chance_9 : decode cX8_chance 9 = .ok (.ifCond .eq 15, 3) := by decide +kernel
theorem dX8_chance_12 : decode cX8_chance 12 = .ok (.iload_n 2, 1) := by decide +kernel
theorem dX8_chance_13 : decode cX8_chance 13 = .ok (.i2l, 1) := by decide +kernel
theorem dX8_chance_14 : decode cX8_chance 14 = .ok (.lconst 1, 1) := by decide +kernel
theorem dX8_chance_15 : decode cX8_chance 15 = .ok (.ldc2_w 92, 3) := by decide +kernel
theorem dX8_chance_18 : decode cX8_chance 18 = .ok (.invokestatic 49, 3) := by decide +kernel
theorem dX8_chance_21 : decode cX8_chance 21 = .ok (.ifCond .ne 10, 3) := by decide +kernel
theorem dX8_chance_24 : decode cX8_chance 24 = .ok (.aload_n 0, 1) := by decide +kernel
theorem dX8_chance_25 : decode cX8_chance 25 = .ok (.ldc 46, 2) := by decide +kernel
theorem dX8_chance_27 : decode cX8_chance 27 = .ok (.invokevirtual 61, 3) := by decide +kernel
theorem dX8_chance_30 : decode cX8_chance 30 = .ok (.ireturn, 1) := by decide +kernel
theorem dX8_chance_31 : decode cX8_chance 31 = .ok (.iconst 0, 1) := by decide +kernel
theorem dX8_chance_32 : decode cX8_chance 32 = .ok (.istore_n 3, 1) := by decide +kernel
theorem dX8_chance_33 : decode cX8_chance 33 = .ok (.iconst 0, 1) := by decide +kernel
theorem dX8_chance_34 : decode cX8_chance 34 = .ok (.istore 4, 2) := by decide +kernel
theorem dX8_chance_36 : decode cX8_chance 36 = .ok (.iload 4, 2) := by decide +kernel
theorem dX8_chance_38 : decode cX8_chance 38 = .ok (.iload_n 1, 1) := by decide +kernel
theorem dX8_chance_39 : decode cX8_chance 39 = .ok (.if_icmp .ge 67, 3) := by decide +kernel
theorem dX8_chance_42 : decode cX8_chance 42 = .ok (.aload_n 0, 1) := by decide +kernel
theorem dX8_chance_43 : decode cX8_chance 43 = .ok (.invokevirtual 256, 3) := by decide +kernel
theorem dX8_chance_46 : decode cX8_chance 46 = .ok (.bipush 21, 2) := by decide +kernel
theorem dX8_chance_48 : decode cX8_chance 48 = .ok (.irem, 1) := by decide +kernel
theorem dX8_chance_49 : decode cX8_chance 49 = .ok (.bipush 10, 2) := by decide +kernel
theorem dX8_chance_51 : decode cX8_chance 51 = .ok (.isub, 1) := by decide +kernel
theorem dX8_chance_52 : decode cX8_chance 52 = .ok (.istore 5, 2) := by decide +kernel
theorem dX8_chance_54 : decode cX8_chance 54 = .ok (.aload_n 0, 1) := by decide +kernel
theorem dX8_chance_55 : decode cX8_chance 55 = .ok (.getfield 9, 3) := by decide +kernel
theorem dX8_chance_58 : decode cX8_chance 58 = .ok (.aload_n 0, 1) := by decide +kernel
theorem dX8_chance_59 : decode cX8_chance 59 = .ok (.getfield 13, 3) := by decide +kernel
theorem dX8_chance_62 : decode cX8_chance 62 = .ok (.invokestatic 235, 3) := by decide +kernel
theorem dX8_chance_65 : decode cX8_chance 65 = .ok (.aload_n 0, 1) := by decide +kernel
theorem dX8_chance_66 : decode cX8_chance 66 = .ok (.getfield 13, 3) := by decide +kernel
theorem dX8_chance_69 : decode cX8_chance 69 = .ok (.iload 5, 2) := by decide +kernel
theorem dX8_chance_71 : decode cX8_chance 71 = .ok (.invokestatic 94, 3) := by decide +kernel
theorem dX8_chance_74 : decode cX8_chance 74 = .ok (.aload_n 0, 1) := by decide +kernel
theorem dX8_chance_75 : decode cX8_chance 75 = .ok (.aload_n 0, 1) := by decide +kernel
theorem dX8_chance_76 : decode cX8_chance 76 = .ok (.getfield 13, 3) := by decide +kernel
theorem dX8_chance_79 : decode cX8_chance 79 = .ok (.iload_n 2, 1) := by decide +kernel
theorem dX8_chance_80 : decode cX8_chance 80 = .ok (.invokevirtual 113, 3) := by decide +kernel
theorem dX8_chance_83 : decode cX8_chance 83 = .ok (.iload_n 3, 1) := by decide +kernel
theorem dX8_chance_84 : decode cX8_chance 84 = .ok (.aload_n 0, 1) := by decide +kernel
theorem dX8_chance_85 : decode cX8_chance 85 = .ok (.getfield 13, 3) := by decide +kernel
theorem dX8_chance_88 : decode cX8_chance 88 = .ok (.iconst 4, 1) := by decide +kernel
theorem dX8_chance_89 : decode cX8_chance 89 = .ok (.iaload, 1) := by decide +kernel
theorem dX8_chance_90 : decode cX8_chance 90 = .ok (.ifCond .le 7, 3) := by decide +kernel
theorem dX8_chance_93 : decode cX8_chance 93 = .ok (.iconst 1, 1) := by decide +kernel
theorem dX8_chance_94 : decode cX8_chance 94 = .ok (.goto 4, 3) := by decide +kernel
theorem dX8_chance_97 : decode cX8_chance 97 = .ok (.iconst 0, 1) := by decide +kernel
theorem dX8_chance_98 : decode cX8_chance 98 = .ok (.iadd, 1) := by decide +kernel
theorem dX8_chance_99 : decode cX8_chance 99 = .ok (.istore_n 3, 1) := by decide +kernel
theorem dX8_chance_100 : decode cX8_chance 100 = .ok (.iinc 4 1, 3) := by decide +kernel
theorem dX8_chance_103 : decode cX8_chance 103 = .ok (.goto (-67), 3) := by decide +kernel
theorem dX8_chance_106 : decode cX8_chance 106 = .ok (.iload_n 3, 1) := by decide +kernel
theorem dX8_chance_107 : decode cX8_chance 107 = .ok (.ireturn, 1) := by decide +kernel
theorem dX8_briefly_0 : decode cX8_briefly 0 = .ok (.aload_n 0, 1) := by decide +kernel
theorem dX8_briefly_1 : decode cX8_briefly 1 = .ok (.getfield 31, 3) := by decide +kernel
theorem dX8_briefly_4 : decode cX8_briefly 4 = .ok (.iconst 0, 1) := by decide +kernel
theorem dX8_briefly_5 : decode cX8_briefly 5 = .ok (.iaload, 1) := by decide +kernel
theorem dX8_briefly_6 : decode cX8_briefly 6 = .ok (.i2l, 1) := by decide +kernel
theorem dX8_briefly_7 : decode cX8_briefly 7 = .ok (.lstore_n 1, 1) := by decide +kernel
theorem dX8_briefly_8 : decode cX8_briefly 8 = .ok (.aload_n 0, 1) := by decide +kernel
theorem dX8_briefly_9 : decode cX8_briefly 9 = .ok (.getfield 31, 3) := by decide +kernel
theorem dX8_briefly_12 : decode cX8_briefly 12 = .ok (.iconst 1, 1) := by decide +kernel
theorem dX8_briefly_13 : decode cX8_briefly 13 = .ok (.iaload, 1) := by decide +kernel
theorem dX8_briefly_14 : decode cX8_briefly 14 = .ok (.i2l, 1) := by decide +kernel
theorem dX8_briefly_15 : decode cX8_briefly 15 = .ok (.lstore_n 3, 1) := by decide +kernel
theorem dX8_briefly_16 : decode cX8_briefly 16 = .ok (.aload_n 0, 1) := by decide +kernel
theorem dX8_briefly_17 : decode cX8_briefly 17 = .ok (.getfield 31, 3) := by decide +kernel
theorem dX8_briefly_20 : decode cX8_briefly 20 = .ok (.iconst 2, 1) := by decide +kernel
theorem dX8_briefly_21 : decode cX8_briefly 21 = .ok (.iaload, 1) := by decide +kernel
theorem dX8_briefly_22 : decode cX8_briefly 22 = .ok (.i2l, 1) := by decide +kernel
theorem dX8_briefly_23 : decode cX8_briefly 23 = .ok (.lstore 5, 2) := by decide +kernel
theorem dX8_briefly_25 : decode cX8_briefly 25 = .ok (.aload_n 0, 1) := by decide +kernel
theorem dX8_briefly_26 : decode cX8_briefly 26 = .ok (.getfield 31, 3) := by decide +kernel
theorem dX8_briefly_29 : decode cX8_briefly 29 = .ok (.iconst 0, 1) := by decide +kernel
theorem dX8_briefly_30 : decode cX8_briefly 30 = .ok (.lload_n 1, 1) := by decide +kernel
theorem dX8_briefly_31 : decode cX8_briefly 31 = .ok (.lload_n 3, 1) := by decide +kernel
theorem dX8_briefly_32 : decode cX8_briefly 32 = .ok (.lload_n 1, 1) := by decide +kernel
theorem dX8_briefly_33 : decode cX8_briefly 33 = .ok (.lsub, 1) := by decide +kernel
theorem dX8_briefly_34 : decode cX8_briefly 34 = .ok (.ldc2_w 248, 3) := by decide +kernel
theorem dX8_briefly_37 : decode cX8_briefly 37 = .ok (.ldiv, 1) := by decide +kernel
theorem dX8_briefly_38 : decode cX8_briefly 38 = .ok (.ladd, 1) := by decide +kernel
theorem dX8_briefly_39 : decode cX8_briefly 39 = .ok (.ldc_w 259, 3) := by decide +kernel
theorem dX8_briefly_42 : decode cX8_briefly 42 = .ok (.ldc_w 260, 3) := by decide +kernel
theorem dX8_briefly_45 : decode cX8_briefly 45 = .ok (.invokestatic 86, 3) := by decide +kernel
theorem dX8_briefly_48 : decode cX8_briefly 48 = .ok (.iastore, 1) := by decide +kernel
theorem dX8_briefly_49 : decode cX8_briefly 49 = .ok (.aload_n 0, 1) := by decide +kernel
theorem dX8_briefly_50 : decode cX8_briefly 50 = .ok (.getfield 31, 3) := by decide +kernel
theorem dX8_briefly_53 : decode cX8_briefly 53 = .ok (.iconst 1, 1) := by decide +kernel
theorem dX8_briefly_54 : decode cX8_briefly 54 = .ok (.lload_n 3, 1) := by decide +kernel
theorem dX8_briefly_55 : decode cX8_briefly 55 = .ok (.lload_n 1, 1) := by decide +kernel
theorem dX8_briefly_56 : decode cX8_briefly 56 = .ok (.ldc2_w 261, 3) := by decide +kernel
theorem dX8_briefly_59 : decode cX8_briefly 59 = .ok (.lload 5, 2) := by decide +kernel
theorem dX8_briefly_61 : decode cX8_briefly 61 = .ok (.lsub, 1) := by decide +kernel
theorem dX8_briefly_62 : decode cX8_briefly 62 = .ok (.lmul, 1) := by decide +kernel
theorem dX8_briefly_63 : decode cX8_briefly 63 = .ok (.ldc2_w 111, 3) := by decide +kernel
theorem dX8_briefly_66 : decode cX8_briefly 66 = .ok (.ldiv, 1) := by decide +kernel
theorem dX8_briefly_67 : decode cX8_briefly 67 = .ok (.lload_n 3, 1) := by decide +kernel
theorem dX8_briefly_68 : decode cX8_briefly 68 = .ok (.lsub, 1) := by decide +kernel
theorem dX8_briefly_69 : decode cX8_briefly 69 = .ok (.ldc2_w 111, 3) := by decide +kernel
theorem dX8_briefly_72 : decode cX8_briefly 72 = .ok (.ldiv, 1) := by decide +kernel
theorem dX8_briefly_73 : decode cX8_briefly 73 = .ok (.ladd, 1) := by decide +kernel
theorem dX8_briefly_74 : decode cX8_briefly 74 = .ok (.ldc_w 259, 3) := by decide +kernel
theorem dX8_briefly_77 : decode cX8_briefly 77 = .ok (.ldc_w 260, 3) := by decide +kernel
theorem dX8_briefly_80 : decode cX8_briefly 80 = .ok (.invokestatic 86, 3) := by decide +kernel
theorem dX8_briefly_83 : decode cX8_briefly 83 = .ok (.iastore, 1) := by decide +kernel
theorem dX8_briefly_84 : decode cX8_briefly 84 = .ok (.aload_n 0, 1) := by decide +kernel
theorem dX8_briefly_85 : decode cX8_briefly 85 = .ok (.getfield 31, 3) := by decide +kernel
theorem dX8_briefly_88 : decode cX8_briefly 88 = .ok (.iconst 2, 1) := by decide +kernel
theorem dX8_briefly_89 : decode cX8_briefly 89 = .ok (.lload 5, 2) := by decide +kernel
theorem dX8_briefly_91 : decode cX8_briefly 91 = .ok (.lload_n 1, 1) := by decide +kernel
theorem dX8_briefly_92 : decode cX8_briefly 92 = .ok (.lload_n 3, 1) := by decide +kernel
theorem dX8_briefly_93 : decode cX8_briefly 93 = .ok (.lmul, 1) := by decide +kernel
theorem dX8_briefly_94 : decode cX8_briefly 94 = .ok (.ldc2_w 111, 3) := by decide +kernel
theorem dX8_briefly_97 : decode cX8_briefly 97 = .ok (.ldiv, 1) := by decide +kernel
theorem dX8_briefly_98 : decode cX8_briefly 98 = .ok (.ldc2_w 263, 3) := by decide +kernel
theorem dX8_briefly_101 : decode cX8_briefly 101 = .ok (.lload 5, 2) := by decide +kernel
theorem dX8_briefly_103 : decode cX8_briefly 103 = .ok (.lmul, 1) := by decide +kernel
theorem dX8_briefly_104 : decode cX8_briefly 104 = .ok (.ldc2_w 233, 3) := by decide +kernel
theorem dX8_briefly_107 : decode cX8_briefly 107 = .ok (.ldiv, 1) := by decide +kernel
theorem dX8_briefly_108 : decode cX8_briefly 108 = .ok (.lsub, 1) := by decide +kernel
theorem dX8_briefly_109 : decode cX8_briefly 109 = .ok (.ldc2_w 111, 3) := by decide +kernel
theorem dX8_briefly_112 : decode cX8_briefly 112 = .ok (.ldiv, 1) := by decide +kernel
theorem dX8_briefly_113 : decode cX8_briefly 113 = .ok (.ladd, 1) := by decide +kernel
theorem dX8_briefly_114 : decode cX8_briefly 114 = .ok (.ldc_w 259, 3) := by decide +kernel
theorem dX8_briefly_117 : decode cX8_briefly 117 = .ok (.ldc_w 260, 3) := by decide +kernel
theorem dX8_briefly_120 : decode cX8_briefly 120 = .ok (.invokestatic 86, 3) := by decide +kernel
theorem dX8_briefly_123 : decode cX8_briefly 123 = .ok (.iastore, 1) := by decide +kernel
theorem dX8_briefly_124 : decode cX8_briefly 124 = .ok (.return_, 1) := by decide +kernel
theorem dX8_begins_0 : decode cX8_begins 0 = .ok (.aload_n 0, 1) := by decide +kernel
theorem dX8_begins_1 : decode cX8_begins 1 = .ok (.getfield 31, 3) := by decide +kernel
theorem dX8_begins_4 : decode cX8_begins 4 = .ok (.iconst 0, 1) := by decide +kernel
theorem dX8_begins_5 : decode cX8_begins 5 = .ok (.iload_n 1, 1) := by decide +kernel
theorem dX8_begins_6 : decode cX8_begins 6 = .ok (.iastore, 1) := by decide +kernel
theorem dX8_begins_7 : decode cX8_begins 7 = .ok (.aload_n 0, 1) := by decide +kernel
theorem dX8_begins_8 : decode cX8_begins 8 = .ok (.getfield 31, 3) := by decide +kernel
theorem dX8_begins_11 : decode cX8_begins 11 = .ok (.iconst 1, 1) := by decide +kernel
theorem dX8_begins_12 : decode cX8_begins 12 = .ok (.iload_n 2, 1) := by decide +kernel
theorem dX8_begins_13 : decode cX8_begins 13 = .ok (.iastore, 1) := by decide +kernel
theorem dX8_begins_14 : decode cX8_begins 14 = .ok (.aload_n 0, 1) := by decide +kernel
theorem dX8_begins_15 : decode cX8_begins 15 = .ok (.getfield 31, 3) := by decide +kernel
theorem dX8_begins_18 : decode cX8_begins 18 = .ok (.iconst 2, 1) := by decide +kernel
theorem dX8_begins_19 : decode cX8_begins 19 = .ok (.iconst 0, 1) := by decide +kernel
theorem dX8_begins_20 : decode cX8_begins 20 = .ok (.iastore, 1) := by decide +kernel
theorem dX8_begins_21 : decode cX8_begins 21 = .ok (.return_, 1) := by decide +kernel
theorem dX8_isBrief_0 : decode cX8_isBrief 0 = .ok (.iload_n 0, 1) := by decide +kernel
theorem dX8_isBrief_1 : decode cX8_isBrief 1 = .ok (.i2l, 1) := by decide +kernel
theorem dX8_isBrief_2 : decode cX8_isBrief 2 = .ok (.ldc2_w 265, 3) := by decide +kernel
theorem dX8_isBrief_5 : decode cX8_isBrief 5 = .ok (.ldc2_w 83, 3) := by decide +kernel
theorem dX8_isBrief_8 : decode cX8_isBrief 8 = .ok (.invokestatic 49, 3) := by decide +kernel
theorem dX8_isBrief_11 : decode cX8_isBrief 11 = .ok (.ifCond .eq 33, 3) := by decide +kernel
theorem dX8_isBrief_14 : decode cX8_isBrief 14 = .ok (.iload_n 1, 1) := by decide +kernel
theorem dX8_isBrief_15 : decode cX8_isBrief 15 = .ok (.i2l, 1) := by decide +kernel
theorem dX8_isBrief_16 : decode cX8_isBrief 16 = .ok (.ldc2_w 265, 3) := by decide +kernel
theorem dX8_isBrief_19 : decode cX8_isBrief 19 = .ok (.ldc2_w 83, 3) := by decide +kernel
theorem dX8_isBrief_22 : decode cX8_isBrief 22 = .ok (.invokestatic 49, 3) := by decide +kernel
theorem dX8_isBrief_25 : decode cX8_isBrief 25 = .ok (.ifCond .eq 19, 3) := by decide +kernel
theorem dX8_isBrief_28 : decode cX8_isBrief 28 = .ok (.iload_n 2, 1) := by decide +kernel
theorem dX8_isBrief_29 : decode cX8_isBrief 29 = .ok (.i2l, 1) := by decide +kernel
theorem dX8_isBrief_30 : decode cX8_isBrief 30 = .ok (.lconst 0, 1) := by decide +kernel
theorem dX8_isBrief_31 : decode cX8_isBrief 31 = .ok (.ldc2_w 92, 3) := by decide +kernel
theorem dX8_isBrief_34 : decode cX8_isBrief 34 = .ok (.invokestatic 49, 3) := by decide +kernel
theorem dX8_isBrief_37 : decode cX8_isBrief 37 = .ok (.ifCond .eq 7, 3) := by decide +kernel
theorem dX8_isBrief_40 : decode cX8_isBrief 40 = .ok (.iconst 1, 1) := by decide +kernel
theorem dX8_isBrief_41 : decode cX8_isBrief 41 = .ok (.goto 4, 3) := by decide +kernel
theorem dX8_isBrief_44 : decode cX8_isBrief 44 = .ok (.iconst 0, 1) := by decide +kernel
theorem dX8_isBrief_45 : decode cX8_isBrief 45 = .ok (.ireturn, 1) := by decide +kernel
theorem dX8_brief_0 : decode cX8_brief 0 = .ok (.iload_n 1, 1) := by decide +kernel
theorem dX8_brief_1 : decode cX8_brief 1 = .ok (.iload_n 2, 1) := by decide +kernel
theorem dX8_brief_2 : decode cX8_brief 2 = .ok (.iload_n 3, 1) := by decide +kernel
theorem dX8_brief_3 : decode cX8_brief 3 = .ok (.invokestatic 267, 3) := by decide +kernel
theorem dX8_brief_6 : decode cX8_brief 6 = .ok (.ifCond .eq 16, 3) := by decide +kernel
theorem dX8_brief_9 : decode cX8_brief 9 = .ok (.iload 4, 2) := by decide +kernel
theorem dX8_brief_11 : decode cX8_brief 11 = .ok (.i2l, 1) := by decide +kernel
theorem dX8_brief_12 : decode cX8_brief 12 = .ok (.lconst 0, 1) := by decide +kernel
theorem dX8_brief_13 : decode cX8_brief 13 = .ok (.ldc2_w 55, 3) := by decide +kernel
theorem dX8_brief_16 : decode cX8_brief 16 = .ok (.invokestatic 49, 3) := by decide +kernel
theorem dX8_brief_19 : decode cX8_brief 19 = .ok (.ifCond .ne 10, 3) := by decide +kernel
theorem dX8_brief_22 : decode cX8_brief 22 = .ok (.aload_n 0, 1) := by decide +kernel
theorem dX8_brief_23 : decode cX8_brief 23 = .ok (.ldc 46, 2) := by decide +kernel
theorem dX8_brief_25 : decode cX8_brief 25 = .ok (.invokevirtual 61, 3) := by decide +kernel
theorem dX8_brief_28 : decode cX8_brief 28 = .ok (.ireturn, 1) := by decide +kernel
theorem dX8_brief_29 : decode cX8_brief 29 = .ok (.aload_n 0, 1) := by decide +kernel
theorem dX8_brief_30 : decode cX8_brief 30 = .ok (.iload_n 1, 1) := by decide +kernel
theorem dX8_brief_31 : decode cX8_brief 31 = .ok (.iload_n 2, 1) := by decide +kernel
theorem dX8_brief_32 : decode cX8_brief 32 = .ok (.invokevirtual 271, 3) := by decide +kernel
theorem dX8_brief_35 : decode cX8_brief 35 = .ok (.iconst 0, 1) := by decide +kernel
theorem dX8_brief_36 : decode cX8_brief 36 = .ok (.istore 5, 2) := by decide +kernel
theorem dX8_brief_38 : decode cX8_brief 38 = .ok (.iload 5, 2) := by decide +kernel
theorem dX8_brief_40 : decode cX8_brief 40 = .ok (.iload_n 3, 1) := by decide +kernel
theorem dX8_brief_41 : decode cX8_brief 41 = .ok (.if_icmp .ge 13, 3) := by decide +kernel
theorem dX8_brief_44 : decode cX8_brief 44 = .ok (.aload_n 0, 1) := by decide +kernel
theorem dX8_brief_45 : decode cX8_brief 45 = .ok (.invokevirtual 274, 3) := by decide +kernel
theorem dX8_brief_48 : decode cX8_brief 48 = .ok (.iinc 5 1, 3) := by decide +kernel
theorem dX8_brief_51 : decode cX8_brief 51 = .ok (.goto (-13), 3) := by decide +kernel
theorem dX8_brief_54 : decode cX8_brief 54 = .ok (.aload_n 0, 1) := by decide +kernel
theorem dX8_brief_55 : decode cX8_brief 55 = .ok (.getfield 31, 3) := by decide +kernel
theorem dX8_brief_58 : decode cX8_brief 58 = .ok (.iload 4, 2) := by decide +kernel
theorem dX8_brief_60 : decode cX8_brief 60 = .ok (.iaload, 1) := by decide +kernel
theorem dX8_brief_61 : decode cX8_brief 61 = .ok (.ireturn, 1) := by decide +kernel
theorem dX8_flips_0 : decode cX8_flips 0 = .ok (.iload_n 1, 1) := by decide +kernel
theorem dX8_flips_1 : decode cX8_flips 1 = .ok (.iload_n 2, 1) := by decide +kernel
theorem dX8_flips_2 : decode cX8_flips 2 = .ok (.iload_n 3, 1) := by decide +kernel
theorem dX8_flips_3 : decode cX8_flips 3 = .ok (.invokestatic 267, 3) := by decide +kernel
theorem dX8_flips_6 : decode cX8_flips 6 = .ok (.ifCond .ne 10, 3) := by decide +kernel
theorem dX8_flips_9 : decode cX8_flips 9 = .ok (.aload_n 0, 1) := by decide +kernel
theorem dX8_flips_10 : decode cX8_flips 10 = .ok (.ldc 46, 2) := by decide +kernel
theorem dX8_flips_12 : decode cX8_flips 12 = .ok (.invokevirtual 61, 3) := by decide +kernel
theorem dX8_flips_15 : decode cX8_flips 15 = .ok (.ireturn, 1) := by decide +kernel
theorem dX8_flips_16 : decode cX8_flips 16 = .ok (.aload_n 0, 1) := by decide +kernel
theorem dX8_flips_17 : decode cX8_flips 17 = .ok (.iload_n 1, 1) := by decide +kernel
theorem dX8_flips_18 : decode cX8_flips 18 = .ok (.iload_n 2, 1) := by decide +kernel
theorem dX8_flips_19 : decode cX8_flips 19 = .ok (.invokevirtual 271, 3) := by decide +kernel
theorem dX8_flips_22 : decode cX8_flips 22 = .ok (.iload_n 1, 1) := by decide +kernel
theorem dX8_flips_23 : decode cX8_flips 23 = .ok (.ifCond .le 7, 3) := by decide +kernel
theorem dX8_flips_26 : decode cX8_flips 26 = .ok (.iconst 1, 1) := by decide +kernel
theorem dX8_flips_27 : decode cX8_flips 27 = .ok (.goto 12, 3) := by decide +kernel
theorem dX8_flips_30 : decode cX8_flips 30 = .ok (.iload_n 1, 1) := by decide +kernel
theorem dX8_flips_31 : decode cX8_flips 31 = .ok (.ifCond .ge 7, 3) := by decide +kernel
theorem dX8_flips_34 : decode cX8_flips 34 = .ok (.iconst (-1), 1) := by decide +kernel
theorem dX8_flips_35 : decode cX8_flips 35 = .ok (.goto 4, 3) := by decide +kernel
theorem dX8_flips_38 : decode cX8_flips 38 = .ok (.iconst 0, 1) := by decide +kernel
theorem dX8_flips_39 : decode cX8_flips 39 = .ok (.istore 4, 2) := by decide +kernel
theorem dX8_flips_41 : decode cX8_flips 41 = .ok (.iconst 0, 1) := by decide +kernel
theorem dX8_flips_42 : decode cX8_flips 42 = .ok (.istore 5, 2) := by decide +kernel
theorem dX8_flips_44 : decode cX8_flips 44 = .ok (.iconst 0, 1) := by decide +kernel
theorem dX8_flips_45 : decode cX8_flips 45 = .ok (.istore 6, 2) := by decide +kernel
theorem dX8_flips_47 : decode cX8_flips 47 = .ok (.iload 6, 2) := by decide +kernel
theorem dX8_flips_49 : decode cX8_flips 49 = .ok (.iload_n 3, 1) := by decide +kernel
theorem dX8_flips_50 : decode cX8_flips 50 = .ok (.if_icmp .ge 69, 3) := by decide +kernel
theorem dX8_flips_53 : decode cX8_flips 53 = .ok (.aload_n 0, 1) := by decide +kernel
theorem dX8_flips_54 : decode cX8_flips 54 = .ok (.invokevirtual 274, 3) := by decide +kernel
theorem dX8_flips_57 : decode cX8_flips 57 = .ok (.aload_n 0, 1) := by decide +kernel
theorem dX8_flips_58 : decode cX8_flips 58 = .ok (.getfield 31, 3) := by decide +kernel
theorem dX8_flips_61 : decode cX8_flips 61 = .ok (.iconst 0, 1) := by decide +kernel
theorem dX8_flips_62 : decode cX8_flips 62 = .ok (.iaload, 1) := by decide +kernel
theorem dX8_flips_63 : decode cX8_flips 63 = .ok (.ifCond .le 7, 3) := by decide +kernel
theorem dX8_flips_66 : decode cX8_flips 66 = .ok (.iconst 1, 1) := by decide +kernel
theorem dX8_flips_67 : decode cX8_flips 67 = .ok (.goto 18, 3) := by decide +kernel
theorem dX8_flips_70 : decode cX8_flips 70 = .ok (.aload_n 0, 1) := by decide +kernel
theorem dX8_flips_71 : decode cX8_flips 71 = .ok (.getfield 31, 3) := by decide +kernel
theorem dX8_flips_74 : decode cX8_flips 74 = .ok (.iconst 0, 1) := by decide +kernel
theorem dX8_flips_75 : decode cX8_flips 75 = .ok (.iaload, 1) := by decide +kernel
theorem dX8_flips_76 : decode cX8_flips 76 = .ok (.ifCond .ge 7, 3) := by decide +kernel
theorem dX8_flips_79 : decode cX8_flips 79 = .ok (.iconst (-1), 1) := by decide +kernel
theorem dX8_flips_80 : decode cX8_flips 80 = .ok (.goto 5, 3) := by decide +kernel
theorem dX8_flips_83 : decode cX8_flips 83 = .ok (.iload 4, 2) := by decide +kernel
theorem dX8_flips_85 : decode cX8_flips 85 = .ok (.istore 7, 2) := by decide +kernel
theorem dX8_flips_87 : decode cX8_flips 87 = .ok (.iload 5, 2) := by decide +kernel
theorem dX8_flips_89 : decode cX8_flips 89 = .ok (.iload 4, 2) := by decide +kernel
theorem dX8_flips_91 : decode cX8_flips 91 = .ok (.ifCond .eq 14, 3) := by decide +kernel
theorem dX8_flips_94 : decode cX8_flips 94 = .ok (.iload 7, 2) := by decide +kernel
theorem dX8_flips_96 : decode cX8_flips 96 = .ok (.iload 4, 2) := by decide +kernel
theorem dX8_flips_98 : decode cX8_flips 98 = .ok (.if_icmp .eq 7, 3) := by decide +kernel
theorem dX8_flips_101 : decode cX8_flips 101 = .ok (.iconst 1, 1) := by decide +kernel
theorem dX8_flips_102 : decode cX8_flips 102 = .ok (.goto 4, 3) := by decide +kernel
theorem dX8_flips_105 : decode cX8_flips 105 = .ok (.iconst 0, 1) := by decide +kernel
theorem dX8_flips_106 : decode cX8_flips 106 = .ok (.iadd, 1) := by decide +kernel
theorem dX8_flips_107 : decode cX8_flips 107 = .ok (.istore 5, 2) := by decide +kernel
theorem dX8_flips_109 : decode cX8_flips 109 = .ok (.iload 7, 2) := by decide +kernel
theorem dX8_flips_111 : decode cX8_flips 111 = .ok (.istore 4, 2) := by decide +kernel
theorem dX8_flips_113 : decode cX8_flips 113 = .ok (.iinc 6 1, 3) := by decide +kernel
theorem dX8_flips_116 : decode cX8_flips 116 = .ok (.goto (-69), 3) := by decide +kernel
theorem dX8_flips_119 : decode cX8_flips 119 = .ok (.iload 5, 2) := by decide +kernel
theorem dX8_flips_121 : decode cX8_flips 121 = .ok (.ireturn, 1) := by decide +kernel
theorem dX8_seed_0 : decode cX8_seed 0 = .ok (.aload_n 0, 1) := by decide +kernel
theorem dX8_seed_1 : decode cX8_seed 1 = .ok (.getfield 9, 3) := by decide +kernel
theorem dX8_seed_4 : decode cX8_seed 4 = .ok (.bipush 12, 2) := by decide +kernel
theorem dX8_seed_6 : decode cX8_seed 6 = .ok (.iaload, 1) := by decide +kernel
theorem dX8_seed_7 : decode cX8_seed 7 = .ok (.istore_n 2, 1) := by decide +kernel
theorem dX8_seed_8 : decode cX8_seed 8 = .ok (.aload_n 0, 1) := by decide +kernel
theorem dX8_seed_9 : decode cX8_seed 9 = .ok (.getfield 9, 3) := by decide +kernel
theorem dX8_seed_12 : decode cX8_seed 12 = .ok (.bipush 12, 2) := by decide +kernel
theorem dX8_seed_14 : decode cX8_seed 14 = .ok (.iload_n 1, 1) := by decide +kernel
theorem dX8_seed_15 : decode cX8_seed 15 = .ok (.iastore, 1) := by decide +kernel
theorem dX8_seed_16 : decode cX8_seed 16 = .ok (.iload_n 2, 1) := by decide +kernel
theorem dX8_seed_17 : decode cX8_seed 17 = .ok (.ireturn, 1) := by decide +kernel
theorem dX8_hold_0 : decode cX8_hold 0 = .ok (.iload_n 1, 1) := by decide +kernel
theorem dX8_hold_1 : decode cX8_hold 1 = .ok (.i2l, 1) := by decide +kernel
theorem dX8_hold_2 : decode cX8_hold 2 = .ok (.lconst 0, 1) := by decide +kernel
theorem dX8_hold_3 : decode cX8_hold 3 = .ok (.ldc2_w 277, 3) := by decide +kernel
theorem dX8_hold_6 : decode cX8_hold 6 = .ok (.invokestatic 49, 3) := by decide +kernel
theorem dX8_hold_9 : decode cX8_hold 9 = .ok (.ifCond .eq 15, 3) := by decide +kernel
theorem dX8_hold_12 : decode cX8_hold 12 = .ok (.iload_n 2, 1) := by decide +kernel
theorem dX8_hold_13 : decode cX8_hold 13 = .ok (.iconst (-1), 1) := by decide +kernel
theorem dX8_hold_14 : decode cX8_hold 14 = .ok (.if_icmp .eq 17, 3) := by decide +kernel
theorem dX8_hold_17 : decode cX8_hold 17 = .ok (.iload_n 2, 1) := by decide +kernel
theorem dX8_hold_18 : decode cX8_hold 18 = .ok (.invokestatic 65, 3) := by decide +kernel
theorem dX8_hold_21 : decode cX8_hold 21 = .ok (.ifCond .ne 10, 3) := by decide +kernel
theorem dX8_hold_24 : decode cX8_hold 24 = .ok (.aload_n 0, 1) := by decide +kernel
theorem dX8_hold_25 : decode cX8_hold 25 = .ok (.ldc 46, 2) := by decide +kernel
theorem dX8_hold_27 : decode cX8_hold 27 = .ok (.invokevirtual 61, 3) := by decide +kernel
theorem dX8_hold_30 : decode cX8_hold 30 = .ok (.ireturn, 1) := by decide +kernel
theorem dX8_hold_31 : decode cX8_hold 31 = .ok (.aload_n 0, 1) := by decide +kernel
theorem dX8_hold_32 : decode cX8_hold 32 = .ok (.getfield 9, 3) := by decide +kernel
theorem dX8_hold_35 : decode cX8_hold 35 = .ok (.bipush 124, 2) := by decide +kernel
theorem dX8_hold_37 : decode cX8_hold 37 = .ok (.iload_n 1, 1) := by decide +kernel
theorem dX8_hold_38 : decode cX8_hold 38 = .ok (.iadd, 1) := by decide +kernel
theorem dX8_hold_39 : decode cX8_hold 39 = .ok (.iload_n 2, 1) := by decide +kernel
theorem dX8_hold_40 : decode cX8_hold 40 = .ok (.iastore, 1) := by decide +kernel
theorem dX8_hold_41 : decode cX8_hold 41 = .ok (.iconst 1, 1) := by decide +kernel
theorem dX8_hold_42 : decode cX8_hold 42 = .ok (.ireturn, 1) := by decide +kernel
theorem dX8_isOf_0 : decode cX8_isOf 0 = .ok (.iload_n 1, 1) := by decide +kernel
theorem dX8_isOf_1 : decode cX8_isOf 1 = .ok (.ifCond .eq 45, 3) := by decide +kernel
theorem dX8_isOf_4 : decode cX8_isOf 4 = .ok (.iload_n 0, 1) := by decide +kernel
theorem dX8_isOf_5 : decode cX8_isOf 5 = .ok (.iload_n 1, 1) := by decide +kernel
theorem dX8_isOf_6 : decode cX8_isOf 6 = .ok (.if_icmp .eq 40, 3) := by decide +kernel
theorem dX8_isOf_9 : decode cX8_isOf 9 = .ok (.iload_n 1, 1) := by decide +kernel
theorem dX8_isOf_10 : decode cX8_isOf 10 = .ok (.iconst 2, 1) := by decide +kernel
theorem dX8_isOf_11 : decode cX8_isOf 11 = .ok (.if_icmp .ne 14, 3) := by decide +kernel
theorem dX8_isOf_14 : decode cX8_isOf 14 = .ok (.iload_n 0, 1) := by decide +kernel
theorem dX8_isOf_15 : decode cX8_isOf 15 = .ok (.iconst 4, 1) := by decide +kernel
theorem dX8_isOf_16 : decode cX8_isOf 16 = .ok (.if_icmp .eq 30, 3) := by decide +kernel
theorem dX8_isOf_19 : decode cX8_isOf 19 = .ok (.iload_n 0, 1) := by decide +kernel
theorem dX8_isOf_20 : decode cX8_isOf 20 = .ok (.bipush 6, 2) := by decide +kernel
theorem dX8_isOf_22 : decode cX8_isOf 22 = .ok (.if_icmp .eq 24, 3) := by decide +kernel
theorem dX8_isOf_25 : decode cX8_isOf 25 = .ok (.iload_n 1, 1) := by decide +kernel
theorem dX8_isOf_26 : decode cX8_isOf 26 = .ok (.iconst 4, 1) := by decide +kernel
theorem dX8_isOf_27 : decode cX8_isOf 27 = .ok (.if_icmp .ne 9, 3) := by decide +kernel
theorem dX8_isOf_30 : decode cX8_isOf 30 = .ok (.iload_n 0, 1) := by decide +kernel
theorem dX8_isOf_31 : decode cX8_isOf 31 = .ok (.bipush 6, 2) := by decide +kernel
theorem dX8_isOf_33 : decode cX8_isOf 33 = .ok (.if_icmp .eq 13, 3) := by decide +kernel
theorem dX8_isOf_36 : decode cX8_isOf 36 = .ok (.iload_n 1, 1) := by decide +kernel
theorem dX8_isOf_37 : decode cX8_isOf 37 = .ok (.iconst 3, 1) := by decide +kernel
theorem dX8_isOf_38 : decode cX8_isOf 38 = .ok (.if_icmp .ne 12, 3) := by decide +kernel
theorem dX8_isOf_41 : decode cX8_isOf 41 = .ok (.iload_n 0, 1) := by decide +kernel
theorem dX8_isOf_42 : decode cX8_isOf 42 = .ok (.iconst 5, 1) := by decide +kernel
theorem dX8_isOf_43 : decode cX8_isOf 43 = .ok (.if_icmp .ne 7, 3) := by decide +kernel
theorem dX8_isOf_46 : decode cX8_isOf 46 = .ok (.iconst 1, 1) := by decide +kernel
theorem dX8_isOf_47 : decode cX8_isOf 47 = .ok (.goto 4, 3) := by decide +kernel
theorem dX8_isOf_50 : decode cX8_isOf 50 = .ok (.iconst 0, 1) := by decide +kernel
theorem dX8_isOf_51 : decode cX8_isOf 51 = .ok (.ireturn, 1) := by decide +kernel
theorem dX8_as_0 : decode cX8_as 0 = .ok (.iload_n 1, 1) := by decide +kernel
theorem dX8_as_1 : decode cX8_as 1 = .ok (.i2l, 1) := by decide +kernel
theorem dX8_as_2 : decode cX8_as 2 = .ok (.lconst 0, 1) := by decide +kernel
theorem dX8_as_3 : decode cX8_as 3 = .ok (.ldc2_w 277, 3) := by decide +kernel
theorem dX8_as_6 : decode cX8_as 6 = .ok (.invokestatic 49, 3) := by decide +kernel
theorem dX8_as_9 : decode cX8_as 9 = .ok (.ifCond .eq 15, 3) := by decide +kernel
theorem dX8_as_12 : decode cX8_as 12 = .ok (.iload_n 2, 1) := by decide +kernel
theorem dX8_as_13 : decode cX8_as 13 = .ok (.i2l, 1) := by decide +kernel
theorem dX8_as_14 : decode cX8_as 14 = .ok (.lconst 0, 1) := by decide +kernel
theorem dX8_as_15 : decode cX8_as 15 = .ok (.ldc2_w 69, 3) := by decide +kernel
theorem dX8_as_18 : decode cX8_as 18 = .ok (.invokestatic 49, 3) := by decide +kernel
theorem dX8_as_21 : decode cX8_as 21 = .ok (.ifCond .ne 10, 3) := by decide +kernel
theorem dX8_as_24 : decode cX8_as 24 = .ok (.aload_n 0, 1) := by decide +kernel
theorem dX8_as_25 : decode cX8_as 25 = .ok (.ldc 46, 2) := by decide +kernel
theorem dX8_as_27 : decode cX8_as 27 = .ok (.invokevirtual 61, 3) := by decide +kernel
theorem dX8_as_30 : decode cX8_as 30 = .ok (.ireturn, 1) := by decide +kernel
theorem dX8_as_31 : decode cX8_as 31 = .ok (.aload_n 0, 1) := by decide +kernel
theorem dX8_as_32 : decode cX8_as 32 = .ok (.getfield 9, 3) := by decide +kernel
theorem dX8_as_35 : decode cX8_as 35 = .ok (.bipush 124, 2) := by decide +kernel
theorem dX8_as_37 : decode cX8_as 37 = .ok (.iload_n 1, 1) := by decide +kernel
theorem dX8_as_38 : decode cX8_as 38 = .ok (.iadd, 1) := by decide +kernel
theorem dX8_as_39 : decode cX8_as 39 = .ok (.iaload, 1) := by decide +kernel
theorem dX8_as_40 : decode cX8_as 40 = .ok (.istore_n 3, 1) := by decide +kernel
theorem dX8_as_41 : decode cX8_as 41 = .ok (.iload_n 3, 1) := by decide +kernel
theorem dX8_as_42 : decode cX8_as 42 = .ok (.ifCond .ge 11, 3) := by decide +kernel
theorem dX8_as_45 : decode cX8_as 45 = .ok (.aload_n 0, 1) := by decide +kernel
theorem dX8_as_46 : decode cX8_as 46 = .ok (.ldc_w 279, 3) := by decide +kernel
theorem dX8_as_49 : decode cX8_as 49 = .ok (.invokevirtual 61, 3) := by decide +kernel
theorem dX8_as_52 : decode cX8_as 52 = .ok (.ireturn, 1) := by decide +kernel
theorem dX8_as_53 : decode cX8_as 53 = .ok (.aload_n 0, 1) := by decide +kernel
theorem dX8_as_54 : decode cX8_as 54 = .ok (.getfield 9, 3) := by decide +kernel
theorem dX8_as_57 : decode cX8_as 57 = .ok (.bipush 32, 2) := by decide +kernel
theorem dX8_as_59 : decode cX8_as 59 = .ok (.iload_n 3, 1) := by decide +kernel
theorem dX8_as_60 : decode cX8_as 60 = .ok (.iadd, 1) := by decide +kernel
theorem dX8_as_61 : decode cX8_as 61 = .ok (.iaload, 1) := by decide +kernel
theorem dX8_as_62 : decode cX8_as 62 = .ok (.iload_n 2, 1) := by decide +kernel
theorem dX8_as_63 : decode cX8_as 63 = .ok (.invokestatic 280, 3) := by decide +kernel
theorem dX8_as_66 : decode cX8_as 66 = .ok (.ifCond .eq 7, 3) := by decide +kernel
theorem dX8_as_69 : decode cX8_as 69 = .ok (.iload_n 3, 1) := by decide +kernel
theorem dX8_as_70 : decode cX8_as 70 = .ok (.goto 10, 3) := by decide +kernel
theorem dX8_as_73 : decode cX8_as 73 = .ok (.aload_n 0, 1) := by decide +kernel
theorem dX8_as_74 : decode cX8_as 74 = .ok (.ldc_w 283, 3) := by decide +kernel
theorem dX8_as_77 : decode cX8_as 77 = .ok (.invokevirtual 61, 3) := by decide +kernel
theorem dX8_as_80 : decode cX8_as 80 = .ok (.ireturn, 1) := by decide +kernel
theorem dX8_isSheet_0 : decode cX8_isSheet 0 = .ok (.iload_n 0, 1) := by decide +kernel
theorem dX8_isSheet_1 : decode cX8_isSheet 1 = .ok (.i2l, 1) := by decide +kernel
theorem dX8_isSheet_2 : decode cX8_isSheet 2 = .ok (.lconst 0, 1) := by decide +kernel
theorem dX8_isSheet_3 : decode cX8_isSheet 3 = .ok (.ldc2_w 233, 3) := by decide +kernel
theorem dX8_isSheet_6 : decode cX8_isSheet 6 = .ok (.invokestatic 49, 3) := by decide +kernel
theorem dX8_isSheet_9 : decode cX8_isSheet 9 = .ok (.ireturn, 1) := by decide +kernel
theorem dX8_sheet_0 : decode cX8_sheet 0 = .ok (.iload_n 1, 1) := by decide +kernel
theorem dX8_sheet_1 : decode cX8_sheet 1 = .ok (.invokestatic 284, 3) := by decide +kernel
theorem dX8_sheet_4 : decode cX8_sheet 4 = .ok (.ifCond .eq 25, 3) := by decide +kernel
theorem dX8_sheet_7 : decode cX8_sheet 7 = .ok (.iload_n 2, 1) := by decide +kernel
theorem dX8_sheet_8 : decode cX8_sheet 8 = .ok (.ifCond .eq 28, 3) := by decide +kernel
theorem dX8_sheet_11 : decode cX8_sheet 11 = .ok (.iload_n 2, 1) := by decide +kernel
theorem dX8_sheet_12 : decode cX8_sheet 12 = .ok (.bipush 8, 2) := by decide +kernel
theorem dX8_sheet_14 : decode cX8_sheet 14 = .ok (.if_icmp .eq 22, 3) := by decide +kernel
theorem dX8_sheet_17 : decode cX8_sheet 17 = .ok (.iload_n 2, 1) := by decide +kernel
theorem dX8_sheet_18 : decode cX8_sheet 18 = .ok (.bipush 16, 2) := by decide +kernel
theorem dX8_sheet_20 : decode cX8_sheet 20 = .ok (.if_icmp .eq 16, 3) := by decide +kernel
theorem dX8_sheet_23 : decode cX8_sheet 23 = .ok (.iload_n 2, 1) := by decide +kernel
theorem dX8_sheet_24 : decode cX8_sheet 24 = .ok (.bipush 32, 2) := by decide +kernel
theorem dX8_sheet_26 : decode cX8_sheet 26 = .ok (.if_icmp .eq 10, 3) := by decide +kernel
theorem dX8_sheet_29 : decode cX8_sheet 29 = .ok (.aload_n 0, 1) := by decide +kernel
theorem dX8_sheet_30 : decode cX8_sheet 30 = .ok (.ldc 46, 2) := by decide +kernel
theorem dX8_sheet_32 : decode cX8_sheet 32 = .ok (.invokevirtual 61, 3) := by decide +kernel
theorem dX8_sheet_35 : decode cX8_sheet 35 = .ok (.ireturn, 1) := by decide +kernel
theorem dX8_sheet_36 : decode cX8_sheet 36 = .ok (.iload_n 3, 1) := by decide +kernel
theorem dX8_sheet_37 : decode cX8_sheet 37 = .ok (.ifCond .ge 11, 3) := by decide +kernel
theorem dX8_sheet_40 : decode cX8_sheet 40 = .ok (.aload_n 0, 1) := by decide +kernel
theorem dX8_sheet_41 : decode cX8_sheet 41 = .ok (.ldc_w 287, 3) := by decide +kernel
theorem dX8_sheet_44 : decode cX8_sheet 44 = .ok (.invokevirtual 61, 3) := by decide +kernel
theorem dX8_sheet_47 : decode cX8_sheet 47 = .ok (.ireturn, 1) := by decide +kernel
theorem dX8_sheet_48 : decode cX8_sheet 48 = .ok (.iload_n 3, 1) := by decide +kernel
theorem dX8_sheet_49 : decode cX8_sheet 49 = .ok (.bipush 40, 2) := by decide +kernel
theorem dX8_sheet_51 : decode cX8_sheet 51 = .ok (.if_icmp .le 10, 3) := by decide +kernel
theorem dX8_sheet_54 : decode cX8_sheet 54 = .ok (.aload_n 0, 1) := by decide +kernel
theorem dX8_sheet_55 : decode cX8_sheet 55 = .ok (.ldc 46, 2) := by decide +kernel
theorem dX8_sheet_57 : decode cX8_sheet 57 = .ok (.invokevirtual 61, 3) := by decide +kernel
theorem dX8_sheet_60 : decode cX8_sheet 60 = .ok (.ireturn, 1) := by decide +kernel
theorem dX8_sheet_61 : decode cX8_sheet 61 = .ok (.aload_n 0, 1) := by decide +kernel
theorem dX8_sheet_62 : decode cX8_sheet 62 = .ok (.getfield 34, 3) := by decide +kernel
theorem dX8_sheet_65 : decode cX8_sheet 65 = .ok (.iload_n 1, 1) := by decide +kernel
theorem dX8_sheet_66 : decode cX8_sheet 66 = .ok (.iload_n 2, 1) := by decide +kernel
theorem dX8_sheet_67 : decode cX8_sheet 67 = .ok (.iastore, 1) := by decide +kernel
theorem dX8_sheet_68 : decode cX8_sheet 68 = .ok (.aload_n 0, 1) := by decide +kernel
theorem dX8_sheet_69 : decode cX8_sheet 69 = .ok (.getfield 37, 3) := by decide +kernel
theorem dX8_sheet_72 : decode cX8_sheet 72 = .ok (.iload_n 1, 1) := by decide +kernel
theorem dX8_sheet_73 : decode cX8_sheet 73 = .ok (.iload_n 2, 1) := by decide +kernel
theorem dX8_sheet_74 : decode cX8_sheet 74 = .ok (.ifCond .ne 7, 3) := by decide +kernel
theorem dX8_sheet_77 : decode cX8_sheet 77 = .ok (.iconst 0, 1) := by decide +kernel
theorem dX8_sheet_78 : decode cX8_sheet 78 = .ok (.goto 4, 3) := by decide +kernel
theorem dX8_sheet_81 : decode cX8_sheet 81 = .ok (.iload_n 3, 1) := by decide +kernel
theorem dX8_sheet_82 : decode cX8_sheet 82 = .ok (.iastore, 1) := by decide +kernel
theorem dX8_sheet_83 : decode cX8_sheet 83 = .ok (.iconst 0, 1) := by decide +kernel
theorem dX8_sheet_84 : decode cX8_sheet 84 = .ok (.istore 4, 2) := by decide +kernel
theorem dX8_sheet_86 : decode cX8_sheet 86 = .ok (.iload 4, 2) := by decide +kernel
theorem dX8_sheet_88 : decode cX8_sheet 88 = .ok (.bipush 40, 2) := by decide +kernel
theorem dX8_sheet_90 : decode cX8_sheet 90 = .ok (.if_icmp .ge 22, 3) := by decide +kernel
theorem dX8_sheet_93 : decode cX8_sheet 93 = .ok (.aload_n 0, 1) := by decide +kernel
theorem dX8_sheet_94 : decode cX8_sheet 94 = .ok (.getfield 40, 3) := by decide +kernel
theorem dX8_sheet_97 : decode cX8_sheet 97 = .ok (.bipush 40, 2) := by decide +kernel
theorem dX8_sheet_99 : decode cX8_sheet 99 = .ok (.iload_n 1, 1) := by decide +kernel
theorem dX8_sheet_100 : decode cX8_sheet 100 = .ok (.imul, 1) := by decide +kernel
theorem dX8_sheet_101 : decode cX8_sheet 101 = .ok (.iload 4, 2) := by decide +kernel
theorem dX8_sheet_103 : decode cX8_sheet 103 = .ok (.iadd, 1) := by decide +kernel
theorem dX8_sheet_104 : decode cX8_sheet 104 = .ok (.iconst 0, 1) := by decide +kernel
theorem dX8_sheet_105 : decode cX8_sheet 105 = .ok (.iastore, 1) := by decide +kernel
theorem dX8_sheet_106 : decode cX8_sheet 106 = .ok (.iinc 4 1, 3) := by decide +kernel
theorem dX8_sheet_109 : decode cX8_sheet 109 = .ok (.goto (-23), 3) := by decide +kernel
theorem dX8_sheet_112 : decode cX8_sheet 112 = .ok (.aload_n 0, 1) := by decide +kernel
theorem dX8_sheet_113 : decode cX8_sheet 113 = .ok (.getfield 37, 3) := by decide +kernel
theorem dX8_sheet_116 : decode cX8_sheet 116 = .ok (.iload_n 1, 1) := by decide +kernel
theorem dX8_sheet_117 : decode cX8_sheet 117 = .ok (.iaload, 1) := by decide +kernel
theorem dX8_sheet_118 : decode cX8_sheet 118 = .ok (.ireturn, 1) := by decide +kernel
theorem dX8_write_0 : decode cX8_write 0 = .ok (.iload_n 1, 1) := by decide +kernel
theorem dX8_write_1 : decode cX8_write 1 = .ok (.invokestatic 284, 3) := by decide +kernel
theorem dX8_write_4 : decode cX8_write 4 = .ok (.ifCond .ne 10, 3) := by decide +kernel
theorem dX8_write_7 : decode cX8_write 7 = .ok (.aload_n 0, 1) := by decide +kernel
theorem dX8_write_8 : decode cX8_write 8 = .ok (.ldc 46, 2) := by decide +kernel
theorem dX8_write_10 : decode cX8_write 10 = .ok (.invokevirtual 61, 3) := by decide +kernel
theorem dX8_write_13 : decode cX8_write 13 = .ok (.ireturn, 1) := by decide +kernel
theorem dX8_write_14 : decode cX8_write 14 = .ok (.aload_n 0, 1) := by decide +kernel
theorem dX8_write_15 : decode cX8_write 15 = .ok (.getfield 34, 3) := by decide +kernel
theorem dX8_write_18 : decode cX8_write 18 = .ok (.iload_n 1, 1) := by decide +kernel
theorem dX8_write_19 : decode cX8_write 19 = .ok (.iaload, 1) := by decide +kernel
theorem dX8_write_20 : decode cX8_write 20 = .ok (.ifCond .ne 11, 3) := by decide +kernel
theorem dX8_write_23 : decode cX8_write 23 = .ok (.aload_n 0, 1) := by decide +kernel
theorem dX8_write_24 : decode cX8_write 24 = .ok (.ldc_w 279, 3) := by decide +kernel
theorem dX8_write_27 : decode cX8_write 27 = .ok (.invokevirtual 61, 3) := by decide +kernel
theorem dX8_write_30 : decode cX8_write 30 = .ok (.ireturn, 1) := by decide +kernel
theorem dX8_write_31 : decode cX8_write 31 = .ok (.iload_n 2, 1) := by decide +kernel
theorem dX8_write_32 : decode cX8_write 32 = .ok (.i2l, 1) := by decide +kernel
theorem dX8_write_33 : decode cX8_write 33 = .ok (.lconst 0, 1) := by decide +kernel
theorem dX8_write_34 : decode cX8_write 34 = .ok (.aload_n 0, 1) := by decide +kernel
theorem dX8_write_35 : decode cX8_write 35 = .ok (.getfield 37, 3) := by decide +kernel
theorem dX8_write_38 : decode cX8_write 38 = .ok (.iload_n 1, 1) := by decide +kernel
theorem dX8_write_39 : decode cX8_write 39 = .ok (.iaload, 1) := by decide +kernel
theorem dX8_write_40 : decode cX8_write 40 = .ok (.iconst 1, 1) := by decide +kernel
theorem dX8_write_41 : decode cX8_write 41 = .ok (.isub, 1) := by decide +kernel
theorem dX8_write_42 : decode cX8_write 42 = .ok (.i2l, 1) := by decide +kernel
theorem dX8_write_43 : decode cX8_write 43 = .ok (.invokestatic 49, 3) := by decide +kernel
theorem dX8_write_46 : decode cX8_write 46 = .ok (.ifCond .ne 10, 3) := by decide +kernel
theorem dX8_write_49 : decode cX8_write 49 = .ok (.aload_n 0, 1) := by decide +kernel
theorem dX8_write_50 : decode cX8_write 50 = .ok (.ldc 46, 2) := by decide +kernel
theorem dX8_write_52 : decode cX8_write 52 = .ok (.invokevirtual 61, 3) := by decide +kernel
theorem dX8_write_55 : decode cX8_write 55 = .ok (.ireturn, 1) := by decide +kernel
theorem dX8_write_56 : decode cX8_write 56 = .ok (.aload_n 0, 1) := by decide +kernel
theorem dX8_write_57 : decode cX8_write 57 = .ok (.getfield 40, 3) := by decide +kernel
theorem dX8_write_60 : decode cX8_write 60 = .ok (.bipush 40, 2) := by decide +kernel
theorem dX8_write_62 : decode cX8_write 62 = .ok (.iload_n 1, 1) := by decide +kernel
theorem dX8_write_63 : decode cX8_write 63 = .ok (.imul, 1) := by decide +kernel
theorem dX8_write_64 : decode cX8_write 64 = .ok (.iload_n 2, 1) := by decide +kernel
theorem dX8_write_65 : decode cX8_write 65 = .ok (.iadd, 1) := by decide +kernel
theorem dX8_write_66 : decode cX8_write 66 = .ok (.aload_n 0, 1) := by decide +kernel
theorem dX8_write_67 : decode cX8_write 67 = .ok (.getfield 34, 3) := by decide +kernel
theorem dX8_write_70 : decode cX8_write 70 = .ok (.iload_n 1, 1) := by decide +kernel
theorem dX8_write_71 : decode cX8_write 71 = .ok (.iaload, 1) := by decide +kernel
theorem dX8_write_72 : decode cX8_write 72 = .ok (.bipush 8, 2) := by decide +kernel
theorem dX8_write_74 : decode cX8_write 74 = .ok (.if_icmp .ne 8, 3) := by decide +kernel
theorem dX8_write_77 : decode cX8_write 77 = .ok (.iload_n 3, 1) := by decide +kernel
theorem dX8_write_78 : decode cX8_write 78 = .ok (.i2b, 1) := by decide +kernel
theorem dX8_write_79 : decode cX8_write 79 = .ok (.goto 20, 3) := by decide +kernel
theorem dX8_write_82 : decode cX8_write 82 = .ok (.aload_n 0, 1) := by decide +kernel
theorem dX8_write_83 : decode cX8_write 83 = .ok (.getfield 34, 3) := by decide +kernel
theorem dX8_write_86 : decode cX8_write 86 = .ok (.iload_n 1, 1) := by decide +kernel
theorem dX8_write_87 : decode cX8_write 87 = .ok (.iaload, 1) := by decide +kernel
theorem dX8_write_88 : decode cX8_write 88 = .ok (.bipush 16, 2) := by decide +kernel
theorem dX8_write_90 : decode cX8_write 90 = .ok (.if_icmp .ne 8, 3) := by decide +kernel
theorem dX8_write_93 : decode cX8_write 93 = .ok (.iload_n 3, 1) := by decide +kernel
theorem dX8_write_94 : decode cX8_write 94 = .ok (.i2s, 1) := by decide +kernel
theorem dX8_write_95 : decode cX8_write 95 = .ok (.goto 4, 3) := by decide +kernel
theorem dX8_write_98 : decode cX8_write 98 = .ok (.iload_n 3, 1) := by decide +kernel
theorem dX8_write_99 : decode cX8_write 99 = .ok (.iastore, 1) := by decide +kernel
theorem dX8_write_100 : decode cX8_write 100 = .ok (.iconst 1, 1) := by decide +kernel
theorem dX8_write_101 : decode cX8_write 101 = .ok (.ireturn, 1) := by decide +kernel
theorem dX8_copy_0 : decode cX8_copy 0 = .ok (.iload_n 1, 1) := by decide +kernel
theorem dX8_copy_1 : decode cX8_copy 1 = .ok (.invokestatic 284, 3) := by decide +kernel
theorem dX8_copy_4 : decode cX8_copy 4 = .ok (.ifCond .eq 10, 3) := by decide +kernel
theorem dX8_copy_7 : decode cX8_copy 7 = .ok (.iload_n 3, 1) := by decide +kernel
theorem dX8_copy_8 : decode cX8_copy 8 = .ok (.invokestatic 284, 3) := by decide +kernel
theorem dX8_copy_11 : decode cX8_copy 11 = .ok (.ifCond .ne 10, 3) := by decide +kernel
theorem dX8_copy_14 : decode cX8_copy 14 = .ok (.aload_n 0, 1) := by decide +kernel
theorem dX8_copy_15 : decode cX8_copy 15 = .ok (.ldc 46, 2) := by decide +kernel
theorem dX8_copy_17 : decode cX8_copy 17 = .ok (.invokevirtual 61, 3) := by decide +kernel
theorem dX8_copy_20 : decode cX8_copy 20 = .ok (.ireturn, 1) := by decide +kernel
theorem dX8_copy_21 : decode cX8_copy 21 = .ok (.aload_n 0, 1) := by decide +kernel
theorem dX8_copy_22 : decode cX8_copy 22 = .ok (.getfield 34, 3) := by decide +kernel
theorem dX8_copy_25 : decode cX8_copy 25 = .ok (.iload_n 1, 1) := by decide +kernel
theorem dX8_copy_26 : decode cX8_copy 26 = .ok (.iaload, 1) := by decide +kernel
theorem dX8_copy_27 : decode cX8_copy 27 = .ok (.ifCond .eq 12, 3) := by decide +kernel
theorem dX8_copy_30 : decode cX8_copy 30 = .ok (.aload_n 0, 1) := by decide +kernel
theorem dX8_copy_31 : decode cX8_copy 31 = .ok (.getfield 34, 3) := by decide +kernel
theorem dX8_copy_34 : decode cX8_copy 34 = .ok (.iload_n 3, 1) := by decide +kernel
theorem dX8_copy_35 : decode cX8_copy 35 = .ok (.iaload, 1) := by decide +kernel
theorem dX8_copy_36 : decode cX8_copy 36 = .ok (.ifCond .ne 11, 3) := by decide +kernel
theorem dX8_copy_39 : decode cX8_copy 39 = .ok (.aload_n 0, 1) := by decide +kernel
theorem dX8_copy_40 : decode cX8_copy 40 = .ok (.ldc_w 279, 3) := by decide +kernel
theorem dX8_copy_43 : decode cX8_copy 43 = .ok (.invokevirtual 61, 3) := by decide +kernel
theorem dX8_copy_46 : decode cX8_copy 46 = .ok (.ireturn, 1) := by decide +kernel
theorem dX8_copy_47 : decode cX8_copy 47 = .ok (.aload_n 0, 1) := by decide +kernel
theorem dX8_copy_48 : decode cX8_copy 48 = .ok (.getfield 34, 3) := by decide +kernel
theorem dX8_copy_51 : decode cX8_copy 51 = .ok (.iload_n 1, 1) := by decide +kernel
theorem dX8_copy_52 : decode cX8_copy 52 = .ok (.iaload, 1) := by decide +kernel
theorem dX8_copy_53 : decode cX8_copy 53 = .ok (.aload_n 0, 1) := by decide +kernel
theorem dX8_copy_54 : decode cX8_copy 54 = .ok (.getfield 34, 3) := by decide +kernel
theorem dX8_copy_57 : decode cX8_copy 57 = .ok (.iload_n 3, 1) := by decide +kernel
theorem dX8_copy_58 : decode cX8_copy 58 = .ok (.iaload, 1) := by decide +kernel
theorem dX8_copy_59 : decode cX8_copy 59 = .ok (.if_icmp .eq 11, 3) := by decide +kernel
theorem dX8_copy_62 : decode cX8_copy 62 = .ok (.aload_n 0, 1) := by decide +kernel
theorem dX8_copy_63 : decode cX8_copy 63 = .ok (.ldc_w 283, 3) := by decide +kernel
theorem dX8_copy_66 : decode cX8_copy 66 = .ok (.invokevirtual 61, 3) := by decide +kernel
theorem dX8_copy_69 : decode cX8_copy 69 = .ok (.ireturn, 1) := by decide +kernel
theorem dX8_copy_70 : decode cX8_copy 70 = .ok (.iload 5, 2) := by decide +kernel
theorem dX8_copy_72 : decode cX8_copy 72 = .ok (.ifCond .lt 39, 3) := by decide +kernel
theorem dX8_copy_75 : decode cX8_copy 75 = .ok (.iload_n 2, 1) := by decide +kernel
theorem dX8_copy_76 : decode cX8_copy 76 = .ok (.ifCond .lt 35, 3) := by decide +kernel
theorem dX8_copy_79 : decode cX8_copy 79 = .ok (.iload 4, 2) := by decide +kernel
theorem dX8_copy_81 : decode cX8_copy 81 = .ok (.ifCond .lt 30, 3) := by decide +kernel
theorem dX8_copy_84 : decode cX8_copy 84 = .ok (.iload 5, 2) := by decide +kernel
theorem dX8_copy_86 : decode cX8_copy 86 = .ok (.aload_n 0, 1) := by decide +kernel
theorem dX8_copy_87 : decode cX8_copy 87 = .ok (.getfield 37, 3) := by decide +kernel
theorem dX8_copy_90 : decode cX8_copy 90 = .ok (.iload_n 1, 1) := by decide +kernel
theorem dX8_copy_91 : decode cX8_copy 91 = .ok (.iaload, 1) := by decide +kernel
theorem dX8_copy_92 : decode cX8_copy 92 = .ok (.iload_n 2, 1) := by decide +kernel
theorem dX8_copy_93 : decode cX8_copy 93 = .ok (.isub, 1) := by decide +kernel
theorem dX8_copy_94 : decode cX8_copy 94 = .ok (.if_icmp .gt 17, 3) := by decide +kernel
theorem dX8_copy_97 : decode cX8_copy 97 = .ok (.iload 5, 2) := by decide +kernel
theorem dX8_copy_99 : decode cX8_copy 99 = .ok (.aload_n 0, 1) := by decide +kernel
theorem dX8_copy_100 : decode cX8_copy 100 = .ok (.getfield 37, 3) := by decide +kernel
theorem dX8_copy_103 : decode cX8_copy 103 = .ok (.iload_n 3, 1) := by decide +kernel
theorem dX8_copy_104 : decode cX8_copy 104 = .ok (.iaload, 1) := by decide +kernel
theorem dX8_copy_105 : decode cX8_copy 105 = .ok (.iload 4, 2) := by decide +kernel
theorem dX8_copy_107 : decode cX8_copy 107 = .ok (.isub, 1) := by decide +kernel
theorem dX8_copy_108 : decode cX8_copy 108 = .ok (.if_icmp .le 10, 3) := by decide +kernel
theorem dX8_copy_111 : decode cX8_copy 111 = .ok (.aload_n 0, 1) := by decide +kernel
theorem dX8_copy_112 : decode cX8_copy 112 = .ok (.ldc 46, 2) := by decide +kernel
theorem dX8_copy_114 : decode cX8_copy 114 = .ok (.invokevirtual 61, 3) := by decide +kernel
theorem dX8_copy_117 : decode cX8_copy 117 = .ok (.ireturn, 1) := by decide +kernel
theorem dX8_copy_118 : decode cX8_copy 118 = .ok (.iconst 0, 1) := by decide +kernel
theorem dX8_copy_119 : decode cX8_copy 119 = .ok (.istore 6, 2) := by decide +kernel
theorem dX8_copy_121 : decode cX8_copy 121 = .ok (.iload 6, 2) := by decide +kernel
theorem dX8_copy_123 : decode cX8_copy 123 = .ok (.iload 5, 2) := by decide +kernel
theorem dX8_copy_125 : decode cX8_copy 125 = .ok (.if_icmp .ge 30, 3) := by decide +kernel
theorem dX8_copy_128 : decode cX8_copy 128 = .ok (.aload_n 0, 1) := by decide +kernel
theorem dX8_copy_129 : decode cX8_copy 129 = .ok (.getfield 43, 3) := by decide +kernel
theorem dX8_copy_132 : decode cX8_copy 132 = .ok (.iload 6, 2) := by decide +kernel
theorem dX8_copy_134 : decode cX8_copy 134 = .ok (.aload_n 0, 1) := by decide +kernel
theorem dX8_copy_135 : decode cX8_copy 135 = .ok (.getfield 40, 3) := by decide +kernel
theorem dX8_copy_138 : decode cX8_copy 138 = .ok (.bipush 40, 2) := by decide +kernel
theorem dX8_copy_140 : decode cX8_copy 140 = .ok (.iload_n 1, 1) := by decide +kernel
theorem dX8_copy_141 : decode cX8_copy 141 = .ok (.imul, 1) := by decide +kernel
theorem dX8_copy_142 : decode cX8_copy 142 = .ok (.iload_n 2, 1) := by decide +kernel
theorem dX8_copy_143 : decode cX8_copy 143 = .ok (.iadd, 1) := by decide +kernel
theorem dX8_copy_144 : decode cX8_copy 144 = .ok (.iload 6, 2) := by decide +kernel
theorem dX8_copy_146 : decode cX8_copy 146 = .ok (.iadd, 1) := by decide +kernel
theorem dX8_copy_147 : decode cX8_copy 147 = .ok (.iaload, 1) := by decide +kernel
theorem dX8_copy_148 : decode cX8_copy 148 = .ok (.iastore, 1) := by decide +kernel
theorem dX8_copy_149 : decode cX8_copy 149 = .ok (.iinc 6 1, 3) := by decide +kernel
theorem dX8_copy_152 : decode cX8_copy 152 = .ok (.goto (-31), 3) := by decide +kernel
theorem dX8_copy_155 : decode cX8_copy 155 = .ok (.iconst 0, 1) := by decide +kernel
theorem dX8_copy_156 : decode cX8_copy 156 = .ok (.istore 6, 2) := by decide +kernel
theorem dX8_copy_158 : decode cX8_copy 158 = .ok (.iload 6, 2) := by decide +kernel
theorem dX8_copy_160 : decode cX8_copy 160 = .ok (.iload 5, 2) := by decide +kernel
theorem dX8_copy_162 : decode cX8_copy 162 = .ok (.if_icmp .ge 31, 3) := by decide +kernel
theorem dX8_copy_165 : decode cX8_copy 165 = .ok (.aload_n 0, 1) := by decide +kernel
theorem dX8_copy_166 : decode cX8_copy 166 = .ok (.getfield 40, 3) := by decide +kernel
theorem dX8_copy_169 : decode cX8_copy 169 = .ok (.bipush 40, 2) := by decide +kernel
theorem dX8_copy_171 : decode cX8_copy 171 = .ok (.iload_n 3, 1) := by decide +kernel
theorem dX8_copy_172 : decode cX8_copy 172 = .ok (.imul, 1) := by decide +kernel
theorem dX8_copy_173 : decode cX8_copy 173 = .ok (.iload 4, 2) := by decide +kernel
theorem dX8_copy_175 : decode cX8_copy 175 = .ok (.iadd, 1) := by decide +kernel
theorem dX8_copy_176 : decode cX8_copy 176 = .ok (.iload 6, 2) := by decide +kernel
theorem dX8_copy_178 : decode cX8_copy 178 = .ok (.iadd, 1) := by decide +kernel
theorem dX8_copy_179 : decode cX8_copy 179 = .ok (.aload_n 0, 1) := by decide +kernel
theorem dX8_copy_180 : decode cX8_copy 180 = .ok (.getfield 43, 3) := by decide +kernel
theorem dX8_copy_183 : decode cX8_copy 183 = .ok (.iload 6, 2) := by decide +kernel
theorem dX8_copy_185 : decode cX8_copy 185 = .ok (.iaload, 1) := by decide +kernel
theorem dX8_copy_186 : decode cX8_copy 186 = .ok (.iastore, 1) := by decide +kernel
theorem dX8_copy_187 : decode cX8_copy 187 = .ok (.iinc 6 1, 3) := by decide +kernel
theorem dX8_copy_190 : decode cX8_copy 190 = .ok (.goto (-32), 3) := by decide +kernel
theorem dX8_copy_193 : decode cX8_copy 193 = .ok (.iload 5, 2) := by decide +kernel
theorem dX8_copy_195 : decode cX8_copy 195 = .ok (.ireturn, 1) := by decide +kernel
theorem dX8_load_0 : decode cX8_load 0 = .ok (.iload_n 1, 1) := by decide +kernel
theorem dX8_load_1 : decode cX8_load 1 = .ok (.invokestatic 284, 3) := by decide +kernel
theorem dX8_load_4 : decode cX8_load 4 = .ok (.ifCond .ne 10, 3) := by decide +kernel
theorem dX8_load_7 : decode cX8_load 7 = .ok (.aload_n 0, 1) := by decide +kernel
theorem dX8_load_8 : decode cX8_load 8 = .ok (.ldc 46, 2) := by decide +kernel
theorem dX8_load_10 : decode cX8_load 10 = .ok (.invokevirtual 61, 3) := by decide +kernel
theorem dX8_load_13 : decode cX8_load 13 = .ok (.ireturn, 1) := by decide +kernel
theorem dX8_load_14 : decode cX8_load 14 = .ok (.aload_n 0, 1) := by decide +kernel
theorem dX8_load_15 : decode cX8_load 15 = .ok (.getfield 34, 3) := by decide +kernel
theorem dX8_load_18 : decode cX8_load 18 = .ok (.iload_n 1, 1) := by decide +kernel
theorem dX8_load_19 : decode cX8_load 19 = .ok (.iaload, 1) := by decide +kernel
theorem dX8_load_20 : decode cX8_load 20 = .ok (.ifCond .ne 11, 3) := by decide +kernel
theorem dX8_load_23 : decode cX8_load 23 = .ok (.aload_n 0, 1) := by decide +kernel
theorem dX8_load_24 : decode cX8_load 24 = .ok (.ldc_w 279, 3) := by decide +kernel
theorem dX8_load_27 : decode cX8_load 27 = .ok (.invokevirtual 61, 3) := by decide +kernel
theorem dX8_load_30 : decode cX8_load 30 = .ok (.ireturn, 1) := by decide +kernel
theorem dX8_load_31 : decode cX8_load 31 = .ok (.iconst 0, 1) := by decide +kernel
theorem dX8_load_32 : decode cX8_load 32 = .ok (.istore_n 2, 1) := by decide +kernel
theorem dX8_load_33 : decode cX8_load 33 = .ok (.iload_n 2, 1) := by decide +kernel
theorem dX8_load_34 : decode cX8_load 34 = .ok (.aload_n 0, 1) := by decide +kernel
theorem dX8_load_35 : decode cX8_load 35 = .ok (.getfield 37, 3) := by decide +kernel
theorem dX8_load_38 : decode cX8_load 38 = .ok (.iload_n 1, 1) := by decide +kernel
theorem dX8_load_39 : decode cX8_load 39 = .ok (.iaload, 1) := by decide +kernel
theorem dX8_load_40 : decode cX8_load 40 = .ok (.if_icmp .ge 63, 3) := by decide +kernel
theorem dX8_load_43 : decode cX8_load 43 = .ok (.iload_n 2, 1) := by decide +kernel
theorem dX8_load_44 : decode cX8_load 44 = .ok (.bipush 12, 2) := by decide +kernel
theorem dX8_load_46 : decode cX8_load 46 = .ok (.if_icmp .ge 57, 3) := by decide +kernel
theorem dX8_load_49 : decode cX8_load 49 = .ok (.aload_n 0, 1) := by decide +kernel
theorem dX8_load_50 : decode cX8_load 50 = .ok (.getfield 40, 3) := by decide +kernel
theorem dX8_load_53 : decode cX8_load 53 = .ok (.bipush 40, 2) := by decide +kernel
theorem dX8_load_55 : decode cX8_load 55 = .ok (.iload_n 1, 1) := by decide +kernel
theorem dX8_load_56 : decode cX8_load 56 = .ok (.imul, 1) := by decide +kernel
theorem dX8_load_57 : decode cX8_load 57 = .ok (.iload_n 2, 1) := by decide +kernel
theorem dX8_load_58 : decode cX8_load 58 = .ok (.iadd, 1) := by decide +kernel
theorem dX8_load_59 : decode cX8_load 59 = .ok (.iaload, 1) := by decide +kernel
theorem dX8_load_60 : decode cX8_load 60 = .ok (.i2l, 1) := by decide +kernel
theorem dX8_load_61 : decode cX8_load 61 = .ok (.lconst 0, 1) := by decide +kernel
theorem dX8_load_62 : decode cX8_load 62 = .ok (.aload_n 0, 1) := by decide +kernel
theorem dX8_load_63 : decode cX8_load 63 = .ok (.getfield 9, 3) := by decide +kernel
theorem dX8_load_66 : decode cX8_load 66 = .ok (.iload_n 2, 1) := by decide +kernel
theorem dX8_load_67 : decode cX8_load 67 = .ok (.invokestatic 77, 3) := by decide +kernel
theorem dX8_load_70 : decode cX8_load 70 = .ok (.i2l, 1) := by decide +kernel
theorem dX8_load_71 : decode cX8_load 71 = .ok (.invokestatic 49, 3) := by decide +kernel
theorem dX8_load_74 : decode cX8_load 74 = .ok (.ifCond .eq 29, 3) := by decide +kernel
theorem dX8_load_77 : decode cX8_load 77 = .ok (.aload_n 0, 1) := by decide +kernel
theorem dX8_load_78 : decode cX8_load 78 = .ok (.getfield 9, 3) := by decide +kernel
theorem dX8_load_81 : decode cX8_load 81 = .ok (.bipush 20, 2) := by decide +kernel
theorem dX8_load_83 : decode cX8_load 83 = .ok (.iload_n 2, 1) := by decide +kernel
theorem dX8_load_84 : decode cX8_load 84 = .ok (.iadd, 1) := by decide +kernel
theorem dX8_load_85 : decode cX8_load 85 = .ok (.aload_n 0, 1) := by decide +kernel
theorem dX8_load_86 : decode cX8_load 86 = .ok (.getfield 40, 3) := by decide +kernel
theorem dX8_load_89 : decode cX8_load 89 = .ok (.bipush 40, 2) := by decide +kernel
theorem dX8_load_91 : decode cX8_load 91 = .ok (.iload_n 1, 1) := by decide +kernel
theorem dX8_load_92 : decode cX8_load 92 = .ok (.imul, 1) := by decide +kernel
theorem dX8_load_93 : decode cX8_load 93 = .ok (.iload_n 2, 1) := by decide +kernel
theorem dX8_load_94 : decode cX8_load 94 = .ok (.iadd, 1) := by decide +kernel
theorem dX8_load_95 : decode cX8_load 95 = .ok (.iaload, 1) := by decide +kernel
theorem dX8_load_96 : decode cX8_load 96 = .ok (.iastore, 1) := by decide +kernel
theorem dX8_load_97 : decode cX8_load 97 = .ok (.iinc 2 1, 3) := by decide +kernel
theorem dX8_load_100 : decode cX8_load 100 = .ok (.goto (-67), 3) := by decide +kernel
theorem dX8_load_103 : decode cX8_load 103 = .ok (.iload_n 2, 1) := by decide +kernel
theorem dX8_load_104 : decode cX8_load 104 = .ok (.ireturn, 1) := by decide +kernel
theorem dX8_judge_0 : decode cX8_judge 0 = .ok (.iload_n 1, 1) := by decide +kernel
theorem dX8_judge_1 : decode cX8_judge 1 = .ok (.invokestatic 284, 3) := by decide +kernel
theorem dX8_judge_4 : decode cX8_judge 4 = .ok (.ifCond .ne 10, 3) := by decide +kernel
theorem dX8_judge_7 : decode cX8_judge 7 = .ok (.aload_n 0, 1) := by decide +kernel
theorem dX8_judge_8 : decode cX8_judge 8 = .ok (.ldc 46, 2) := by decide +kernel
theorem dX8_judge_10 : decode cX8_judge 10 = .ok (.invokevirtual 61, 3) := by decide +kernel
theorem dX8_judge_13 : decode cX8_judge 13 = .ok (.ireturn, 1) := by decide +kernel
theorem dX8_judge_14 : decode cX8_judge 14 = .ok (.aload_n 0, 1) := by decide +kernel
theorem dX8_judge_15 : decode cX8_judge 15 = .ok (.getfield 34, 3) := by decide +kernel
theorem dX8_judge_18 : decode cX8_judge 18 = .ok (.iload_n 1, 1) := by decide +kernel
theorem dX8_judge_19 : decode cX8_judge 19 = .ok (.iaload, 1) := by decide +kernel
theorem dX8_judge_20 : decode cX8_judge 20 = .ok (.ifCond .ne 11, 3) := by decide +kernel
theorem dX8_judge_23 : decode cX8_judge 23 = .ok (.aload_n 0, 1) := by decide +kernel
theorem dX8_judge_24 : decode cX8_judge 24 = .ok (.ldc_w 279, 3) := by decide +kernel
theorem dX8_judge_27 : decode cX8_judge 27 = .ok (.invokevirtual 61, 3) := by decide +kernel
theorem dX8_judge_30 : decode cX8_judge 30 = .ok (.ireturn, 1) := by decide +kernel
theorem dX8_judge_31 : decode cX8_judge 31 = .ok (.aload_n 0, 1) := by decide +kernel
theorem dX8_judge_32 : decode cX8_judge 32 = .ok (.getfield 9, 3) := by decide +kernel
theorem dX8_judge_35 : decode cX8_judge 35 = .ok (.aload_n 0, 1) := by decide +kernel
theorem dX8_judge_36 : decode cX8_judge 36 = .ok (.getfield 13, 3) := by decide +kernel
theorem dX8_judge_39 : decode cX8_judge 39 = .ok (.invokestatic 235, 3) := by decide +kernel
theorem dX8_judge_42 : decode cX8_judge 42 = .ok (.iconst 0, 1) := by decide +kernel
theorem dX8_judge_43 : decode cX8_judge 43 = .ok (.istore_n 2, 1) := by decide +kernel
theorem dX8_judge_44 : decode cX8_judge 44 = .ok (.iload_n 2, 1) := by decide +kernel
theorem dX8_judge_45 : decode cX8_judge 45 = .ok (.aload_n 0, 1) := by decide +kernel
theorem dX8_judge_46 : decode cX8_judge 46 = .ok (.getfield 37, 3) := by decide +kernel
theorem dX8_judge_49 : decode cX8_judge 49 = .ok (.iload_n 1, 1) := by decide +kernel
theorem dX8_judge_50 : decode cX8_judge 50 = .ok (.iaload, 1) := by decide +kernel
theorem dX8_judge_51 : decode cX8_judge 51 = .ok (.if_icmp .ge 41, 3) := by decide +kernel
theorem dX8_judge_54 : decode cX8_judge 54 = .ok (.aload_n 0, 1) := by decide +kernel
theorem dX8_judge_55 : decode cX8_judge 55 = .ok (.aload_n 0, 1) := by decide +kernel
theorem dX8_judge_56 : decode cX8_judge 56 = .ok (.getfield 13, 3) := by decide +kernel
theorem dX8_judge_59 : decode cX8_judge 59 = .ok (.invokevirtual 108, 3) := by decide +kernel
theorem dX8_judge_62 : decode cX8_judge 62 = .ok (.aload_n 0, 1) := by decide +kernel
theorem dX8_judge_63 : decode cX8_judge 63 = .ok (.getfield 13, 3) := by decide +kernel
theorem dX8_judge_66 : decode cX8_judge 66 = .ok (.iconst 4, 1) := by decide +kernel
theorem dX8_judge_67 : decode cX8_judge 67 = .ok (.iaload, 1) := by decide +kernel
theorem dX8_judge_68 : decode cX8_judge 68 = .ok (.aload_n 0, 1) := by decide +kernel
theorem dX8_judge_69 : decode cX8_judge 69 = .ok (.getfield 40, 3) := by decide +kernel
theorem dX8_judge_72 : decode cX8_judge 72 = .ok (.bipush 40, 2) := by decide +kernel
theorem dX8_judge_74 : decode cX8_judge 74 = .ok (.iload_n 1, 1) := by decide +kernel
theorem dX8_judge_75 : decode cX8_judge 75 = .ok (.imul, 1) := by decide +kernel
theorem dX8_judge_76 : decode cX8_judge 76 = .ok (.iload_n 2, 1) := by decide +kernel
theorem dX8_judge_77 : decode cX8_judge 77 = .ok (.iadd, 1) := by decide +kernel
theorem dX8_judge_78 : decode cX8_judge 78 = .ok (.iaload, 1) := by decide +kernel
theorem dX8_judge_79 : decode cX8_judge 79 = .ok (.if_icmp .eq 7, 3) := by decide +kernel
theorem dX8_judge_82 : decode cX8_judge 82 = .ok (.iconst 1, 1) := by decide +kernel
theorem dX8_judge_83 : decode cX8_judge 83 = .ok (.iload_n 2, 1) := by decide +kernel
theorem dX8_judge_84 : decode cX8_judge 84 = .ok (.iadd, 1) := by decide +kernel
theorem dX8_judge_85 : decode cX8_judge 85 = .ok (.ireturn, 1) := by decide +kernel
theorem dX8_judge_86 : decode cX8_judge 86 = .ok (.iinc 2 1, 3) := by decide +kernel
theorem dX8_judge_89 : decode cX8_judge 89 = .ok (.goto (-45), 3) := by decide +kernel
theorem dX8_judge_92 : decode cX8_judge 92 = .ok (.iconst 0, 1) := by decide +kernel
theorem dX8_judge_93 : decode cX8_judge 93 = .ok (.ireturn, 1) := by decide +kernel
theorem dX8_image_0 : decode cX8_image 0 = .ok (.aload_n 0, 1) := by decide +kernel
theorem dX8_image_1 : decode cX8_image 1 = .ok (.getfield 9, 3) := by decide +kernel
theorem dX8_image_4 : decode cX8_image 4 = .ok (.aload_n 0, 1) := by decide +kernel
theorem dX8_image_5 : decode cX8_image 5 = .ok (.getfield 19, 3) := by decide +kernel
theorem dX8_image_8 : decode cX8_image 8 = .ok (.invokestatic 235, 3) := by decide +kernel
theorem dX8_image_11 : decode cX8_image 11 = .ok (.aload_n 0, 1) := by decide +kernel
theorem dX8_image_12 : decode cX8_image 12 = .ok (.iconst 1, 1) := by decide +kernel
theorem dX8_image_13 : decode cX8_image 13 = .ok (.putfield 288, 3) := by decide +kernel
theorem dX8_image_16 : decode cX8_image 16 = .ok (.iconst 1, 1) := by decide +kernel
theorem dX8_image_17 : decode cX8_image 17 = .ok (.ireturn, 1) := by decide +kernel
theorem dX8_undo_0 : decode cX8_undo 0 = .ok (.aload_n 0, 1) := by decide +kernel
theorem dX8_undo_1 : decode cX8_undo 1 = .ok (.getfield 288, 3) := by decide +kernel
theorem dX8_undo_4 : decode cX8_undo 4 = .ok (.ifCond .ne 10, 3) := by decide +kernel
theorem dX8_undo_7 : decode cX8_undo 7 = .ok (.aload_n 0, 1) := by decide +kernel
theorem dX8_undo_8 : decode cX8_undo 8 = .ok (.ldc 125, 2) := by decide +kernel
theorem dX8_undo_10 : decode cX8_undo 10 = .ok (.invokevirtual 61, 3) := by decide +kernel
theorem dX8_undo_13 : decode cX8_undo 13 = .ok (.ireturn, 1) := by decide +kernel
theorem dX8_undo_14 : decode cX8_undo 14 = .ok (.aload_n 0, 1) := by decide +kernel
theorem dX8_undo_15 : decode cX8_undo 15 = .ok (.getfield 19, 3) := by decide +kernel
theorem dX8_undo_18 : decode cX8_undo 18 = .ok (.aload_n 0, 1) := by decide +kernel
theorem dX8_undo_19 : decode cX8_undo 19 = .ok (.getfield 9, 3) := by decide +kernel
theorem dX8_undo_22 : decode cX8_undo 22 = .ok (.invokestatic 235, 3) := by decide +kernel
theorem dX8_undo_25 : decode cX8_undo 25 = .ok (.aload_n 0, 1) := by decide +kernel
theorem dX8_undo_26 : decode cX8_undo 26 = .ok (.getfield 9, 3) := by decide +kernel
theorem dX8_undo_29 : decode cX8_undo 29 = .ok (.bipush 9, 2) := by decide +kernel
theorem dX8_undo_31 : decode cX8_undo 31 = .ok (.iaload, 1) := by decide +kernel
theorem dX8_undo_32 : decode cX8_undo 32 = .ok (.ireturn, 1) := by decide +kernel
theorem dX8_tear_0 : decode cX8_tear 0 = .ok (.aload_n 0, 1) := by decide +kernel
theorem dX8_tear_1 : decode cX8_tear 1 = .ok (.getfield 288, 3) := by decide +kernel
theorem dX8_tear_4 : decode cX8_tear 4 = .ok (.ifCond .eq 7, 3) := by decide +kernel
theorem dX8_tear_7 : decode cX8_tear 7 = .ok (.iconst 1, 1) := by decide +kernel
theorem dX8_tear_8 : decode cX8_tear 8 = .ok (.goto 4, 3) := by decide +kernel
theorem dX8_tear_11 : decode cX8_tear 11 = .ok (.iconst 0, 1) := by decide +kernel
theorem dX8_tear_12 : decode cX8_tear 12 = .ok (.istore_n 1, 1) := by decide +kernel
theorem dX8_tear_13 : decode cX8_tear 13 = .ok (.aload_n 0, 1) := by decide +kernel
theorem dX8_tear_14 : decode cX8_tear 14 = .ok (.iconst 0, 1) := by decide +kernel
theorem dX8_tear_15 : decode cX8_tear 15 = .ok (.putfield 288, 3) := by decide +kernel
theorem dX8_tear_18 : decode cX8_tear 18 = .ok (.iload_n 1, 1) := by decide +kernel
theorem dX8_tear_19 : decode cX8_tear 19 = .ok (.ireturn, 1) := by decide +kernel
theorem dX8_count_0 : decode cX8_count 0 = .ok (.iload_n 1, 1) := by decide +kernel
theorem dX8_count_1 : decode cX8_count 1 = .ok (.tableswitch 92 0 8 #[51, 51, 51, 51, 58, 63, 71, 79, 84], 51) := by decide +kernel
theorem dX8_count_52 : decode cX8_count 52 = .ok (.aload_n 0, 1) := by decide +kernel
theorem dX8_count_53 : decode cX8_count 53 = .ok (.getfield 9, 3) := by decide +kernel
theorem dX8_count_56 : decode cX8_count 56 = .ok (.iload_n 1, 1) := by decide +kernel
theorem dX8_count_57 : decode cX8_count 57 = .ok (.iaload, 1) := by decide +kernel
theorem dX8_count_58 : decode cX8_count 58 = .ok (.ireturn, 1) := by decide +kernel
theorem dX8_count_59 : decode cX8_count 59 = .ok (.aload_n 0, 1) := by decide +kernel
theorem dX8_count_60 : decode cX8_count 60 = .ok (.invokevirtual 119, 3) := by decide +kernel
theorem dX8_count_63 : decode cX8_count 63 = .ok (.ireturn, 1) := by decide +kernel
theorem dX8_count_64 : decode cX8_count 64 = .ok (.aload_n 0, 1) := by decide +kernel
theorem dX8_count_65 : decode cX8_count 65 = .ok (.getfield 9, 3) := by decide +kernel
theorem dX8_count_68 : decode cX8_count 68 = .ok (.bipush 10, 2) := by decide +kernel
theorem dX8_count_70 : decode cX8_count 70 = .ok (.iaload, 1) := by decide +kernel
theorem dX8_count_71 : decode cX8_count 71 = .ok (.ireturn, 1) := by decide +kernel
theorem dX8_count_72 : decode cX8_count 72 = .ok (.aload_n 0, 1) := by decide +kernel
theorem dX8_count_73 : decode cX8_count 73 = .ok (.getfield 9, 3) := by decide +kernel
theorem dX8_count_76 : decode cX8_count 76 = .ok (.bipush 13, 2) := by decide +kernel
theorem dX8_count_78 : decode cX8_count 78 = .ok (.iaload, 1) := by decide +kernel
theorem dX8_count_79 : decode cX8_count 79 = .ok (.ireturn, 1) := by decide +kernel
theorem dX8_count_80 : decode cX8_count 80 = .ok (.aload_n 0, 1) := by decide +kernel
theorem dX8_count_81 : decode cX8_count 81 = .ok (.getfield 129, 3) := by decide +kernel
theorem dX8_count_84 : decode cX8_count 84 = .ok (.ireturn, 1) := by decide +kernel
theorem dX8_count_85 : decode cX8_count 85 = .ok (.aload_n 0, 1) := by decide +kernel
theorem dX8_count_86 : decode cX8_count 86 = .ok (.getfield 9, 3) := by decide +kernel
theorem dX8_count_89 : decode cX8_count 89 = .ok (.bipush 12, 2) := by decide +kernel
theorem dX8_count_91 : decode cX8_count 91 = .ok (.iaload, 1) := by decide +kernel
theorem dX8_count_92 : decode cX8_count 92 = .ok (.ireturn, 1) := by decide +kernel
theorem dX8_count_93 : decode cX8_count 93 = .ok (.aload_n 0, 1) := by decide +kernel
theorem dX8_count_94 : decode cX8_count 94 = .ok (.ldc 46, 2) := by decide +kernel
theorem dX8_count_96 : decode cX8_count 96 = .ok (.invokevirtual 61, 3) := by decide +kernel
theorem dX8_count_99 : decode cX8_count 99 = .ok (.ireturn, 1) := by decide +kernel
theorem dX8_status_0 : decode cX8_status 0 = .ok (.iload_n 1, 1) := by decide +kernel
theorem dX8_status_1 : decode cX8_status 1 = .ok (.i2l, 1) := by decide +kernel
theorem dX8_status_2 : decode cX8_status 2 = .ok (.ldc2_w 159, 3) := by decide +kernel
theorem dX8_status_5 : decode cX8_status 5 = .ok (.ldc2_w 69, 3) := by decide +kernel
theorem dX8_status_8 : decode cX8_status 8 = .ok (.invokestatic 49, 3) := by decide +kernel
theorem dX8_status_11 : decode cX8_status 11 = .ok (.ifCond .ne 10, 3) := by decide +kernel
theorem dX8_status_14 : decode cX8_status 14 = .ok (.aload_n 0, 1) := by decide +kernel
theorem dX8_status_15 : decode cX8_status 15 = .ok (.ldc 46, 2) := by decide +kernel
theorem dX8_status_17 : decode cX8_status 17 = .ok (.invokevirtual 61, 3) := by decide +kernel
theorem dX8_status_20 : decode cX8_status 20 = .ok (.ireturn, 1) := by decide +kernel
theorem dX8_status_21 : decode cX8_status 21 = .ok (.iconst 0, 1) := by decide +kernel
theorem dX8_status_22 : decode cX8_status 22 = .ok (.istore_n 2, 1) := by decide +kernel
theorem dX8_status_23 : decode cX8_status 23 = .ok (.iconst 0, 1) := by decide +kernel
theorem dX8_status_24 : decode cX8_status 24 = .ok (.istore_n 3, 1) := by decide +kernel
theorem dX8_status_25 : decode cX8_status 25 = .ok (.iload_n 3, 1) := by decide +kernel
theorem dX8_status_26 : decode cX8_status 26 = .ok (.bipush 7, 2) := by decide +kernel
theorem dX8_status_28 : decode cX8_status 28 = .ok (.if_icmp .ge 32, 3) := by decide +kernel
theorem dX8_status_31 : decode cX8_status 31 = .ok (.iload_n 2, 1) := by decide +kernel
theorem dX8_status_32 : decode cX8_status 32 = .ok (.iload_n 1, 1) := by decide +kernel
theorem dX8_status_33 : decode cX8_status 33 = .ok (.iconst (-1), 1) := by decide +kernel
theorem dX8_status_34 : decode cX8_status 34 = .ok (.if_icmp .eq 8, 3) := by decide +kernel
theorem dX8_status_37 : decode cX8_status 37 = .ok (.iload_n 1, 1) := by decide +kernel
theorem dX8_status_38 : decode cX8_status 38 = .ok (.iload_n 3, 1) := by decide +kernel
theorem dX8_status_39 : decode cX8_status 39 = .ok (.if_icmp .ne 12, 3) := by decide +kernel
theorem dX8_status_42 : decode cX8_status 42 = .ok (.aload_n 0, 1) := by decide +kernel
theorem dX8_status_43 : decode cX8_status 43 = .ok (.getfield 22, 3) := by decide +kernel
theorem dX8_status_46 : decode cX8_status 46 = .ok (.iload_n 3, 1) := by decide +kernel
theorem dX8_status_47 : decode cX8_status 47 = .ok (.iaload, 1) := by decide +kernel
theorem dX8_status_48 : decode cX8_status 48 = .ok (.goto 4, 3) := by decide +kernel
theorem dX8_status_51 : decode cX8_status 51 = .ok (.iconst 0, 1) := by decide +kernel
theorem dX8_status_52 : decode cX8_status 52 = .ok (.iadd, 1) := by decide +kernel
theorem dX8_status_53 : decode cX8_status 53 = .ok (.istore_n 2, 1) := by decide +kernel
theorem dX8_status_54 : decode cX8_status 54 = .ok (.iinc 3 1, 3) := by decide +kernel
theorem dX8_status_57 : decode cX8_status 57 = .ok (.goto (-32), 3) := by decide +kernel
theorem dX8_status_60 : decode cX8_status 60 = .ok (.iload_n 2, 1) := by decide +kernel
theorem dX8_status_61 : decode cX8_status 61 = .ok (.ireturn, 1) := by decide +kernel
theorem dL_law_0 : decode cL_law 0 = .ok (.new 7, 3) := by decide +kernel
theorem dL_law_3 : decode cL_law 3 = .ok (.dup, 1) := by decide +kernel
theorem dL_law_4 : decode cL_law 4 = .ok (.invokespecial 9, 3) := by decide +kernel
theorem dL_law_7 : decode cL_law 7 = .ok (.astore_n 1, 1) := by decide +kernel
theorem dL_law_8 : decode cL_law 8 = .ok (.new 10, 3) := by decide +kernel
theorem dL_law_11 : decode cL_law 11 = .ok (.dup, 1) := by decide +kernel
theorem dL_law_12 : decode cL_law 12 = .ok (.invokespecial 12, 3) := by decide +kernel
theorem dL_law_15 : decode cL_law 15 = .ok (.astore_n 2, 1) := by decide +kernel
theorem dL_law_16 : decode cL_law 16 = .ok (.iconst 0, 1) := by decide +kernel
theorem dL_law_17 : decode cL_law 17 = .ok (.istore_n 3, 1) := by decide +kernel
theorem dL_law_18 : decode cL_law 18 = .ok (.iload_n 3, 1) := by decide +kernel
theorem dL_law_19 : decode cL_law 19 = .ok (.aload_n 0, 1) := by decide +kernel
theorem dL_law_20 : decode cL_law 20 = .ok (.arraylength, 1) := by decide +kernel
theorem dL_law_21 : decode cL_law 21 = .ok (.bipush 6, 2) := by decide +kernel
theorem dL_law_23 : decode cL_law 23 = .ok (.isub, 1) := by decide +kernel
theorem dL_law_24 : decode cL_law 24 = .ok (.if_icmp .gt 1391, 3) := by decide +kernel
theorem dL_law_27 : decode cL_law 27 = .ok (.aload_n 0, 1) := by decide +kernel
theorem dL_law_28 : decode cL_law 28 = .ok (.iload_n 3, 1) := by decide +kernel
theorem dL_law_29 : decode cL_law 29 = .ok (.iaload, 1) := by decide +kernel
theorem dL_law_30 : decode cL_law 30 = .ok (.bipush 63, 2) := by decide +kernel
theorem dL_law_32 : decode cL_law 32 = .ok (.iand, 1) := by decide +kernel
theorem dL_law_33 : decode cL_law 33 = .ok (.tableswitch 1376 0 42 #[187, 220, 253, 286, 319, 342, 365, 388, 411, 434, 447, 480, 503, 516, 529, 562, 575, 588, 621, 644, 677, 710, 743, 766, 799, 832, 855, 878, 911, 964, 1007, 1030, 1063, 1096, 1139, 1182, 1245, 1268, 1291, 1304, 1317, 1330, 1353], 187) := by decide +kernel
theorem dL_law_220 : decode cL_law 220 = .ok (.aload_n 1, 1) := by decide +kernel
theorem dL_law_221 : decode cL_law 221 = .ok (.aload_n 0, 1) := by decide +kernel
theorem dL_law_222 : decode cL_law 222 = .ok (.iload_n 3, 1) := by decide +kernel
theorem dL_law_223 : decode cL_law 223 = .ok (.iconst 1, 1) := by decide +kernel
theorem dL_law_224 : decode cL_law 224 = .ok (.iadd, 1) := by decide +kernel
theorem dL_law_225 : decode cL_law 225 = .ok (.iaload, 1) := by decide +kernel
theorem dL_law_226 : decode cL_law 226 = .ok (.aload_n 0, 1) := by decide +kernel
theorem dL_law_227 : decode cL_law 227 = .ok (.iload_n 3, 1) := by decide +kernel
theorem dL_law_228 : decode cL_law 228 = .ok (.iconst 2, 1) := by decide +kernel
theorem dL_law_229 : decode cL_law 229 = .ok (.iadd, 1) := by decide +kernel
theorem dL_law_230 : decode cL_law 230 = .ok (.iaload, 1) := by decide +kernel
theorem dL_law_231 : decode cL_law 231 = .ok (.invokevirtual 13, 3) := by decide +kernel
theorem dL_law_234 : decode cL_law 234 = .ok (.aload_n 2, 1) := by decide +kernel
theorem dL_law_235 : decode cL_law 235 = .ok (.aload_n 0, 1) := by decide +kernel
theorem dL_law_236 : decode cL_law 236 = .ok (.iload_n 3, 1) := by decide +kernel
theorem dL_law_237 : decode cL_law 237 = .ok (.iconst 1, 1) := by decide +kernel
theorem dL_law_238 : decode cL_law 238 = .ok (.iadd, 1) := by decide +kernel
theorem dL_law_239 : decode cL_law 239 = .ok (.iaload, 1) := by decide +kernel
theorem dL_law_240 : decode cL_law 240 = .ok (.aload_n 0, 1) := by decide +kernel
theorem dL_law_241 : decode cL_law 241 = .ok (.iload_n 3, 1) := by decide +kernel
theorem dL_law_242 : decode cL_law 242 = .ok (.iconst 2, 1) := by decide +kernel
theorem dL_law_243 : decode cL_law 243 = .ok (.iadd, 1) := by decide +kernel
theorem dL_law_244 : decode cL_law 244 = .ok (.iaload, 1) := by decide +kernel
theorem dL_law_245 : decode cL_law 245 = .ok (.invokevirtual 17, 3) := by decide +kernel
theorem dL_law_248 : decode cL_law 248 = .ok (.if_icmp .eq 1161, 3) := by decide +kernel
theorem dL_law_251 : decode cL_law 251 = .ok (.iconst 0, 1) := by decide +kernel
theorem dL_law_252 : decode cL_law 252 = .ok (.ireturn, 1) := by decide +kernel
theorem dL_law_253 : decode cL_law 253 = .ok (.aload_n 1, 1) := by decide +kernel
theorem dL_law_254 : decode cL_law 254 = .ok (.aload_n 0, 1) := by decide +kernel
theorem dL_law_255 : decode cL_law 255 = .ok (.iload_n 3, 1) := by decide +kernel
theorem dL_law_256 : decode cL_law 256 = .ok (.iconst 1, 1) := by decide +kernel
theorem dL_law_257 : decode cL_law 257 = .ok (.iadd, 1) := by decide +kernel
theorem dL_law_258 : decode cL_law 258 = .ok (.iaload, 1) := by decide +kernel
theorem dL_law_259 : decode cL_law 259 = .ok (.aload_n 0, 1) := by decide +kernel
theorem dL_law_260 : decode cL_law 260 = .ok (.iload_n 3, 1) := by decide +kernel
theorem dL_law_261 : decode cL_law 261 = .ok (.iconst 2, 1) := by decide +kernel
theorem dL_law_262 : decode cL_law 262 = .ok (.iadd, 1) := by decide +kernel
theorem dL_law_263 : decode cL_law 263 = .ok (.iaload, 1) := by decide +kernel
theorem dL_law_264 : decode cL_law 264 = .ok (.invokevirtual 18, 3) := by decide +kernel
theorem dL_law_267 : decode cL_law 267 = .ok (.aload_n 2, 1) := by decide +kernel
theorem dL_law_268 : decode cL_law 268 = .ok (.aload_n 0, 1) := by decide +kernel
theorem dL_law_269 : decode cL_law 269 = .ok (.iload_n 3, 1) := by decide +kernel
theorem dL_law_270 : decode cL_law 270 = .ok (.iconst 1, 1) := by decide +kernel
theorem dL_law_271 : decode cL_law 271 = .ok (.iadd, 1) := by decide +kernel
theorem dL_law_272 : decode cL_law 272 = .ok (.iaload, 1) := by decide +kernel
theorem dL_law_273 : decode cL_law 273 = .ok (.aload_n 0, 1) := by decide +kernel
theorem dL_law_274 : decode cL_law 274 = .ok (.iload_n 3, 1) := by decide +kernel
theorem dL_law_275 : decode cL_law 275 = .ok (.iconst 2, 1) := by decide +kernel
theorem dL_law_276 : decode cL_law 276 = .ok (.iadd, 1) := by decide +kernel
theorem dL_law_277 : decode cL_law 277 = .ok (.iaload, 1) := by decide +kernel
theorem dL_law_278 : decode cL_law 278 = .ok (.invokevirtual 21, 3) := by decide +kernel
theorem dL_law_281 : decode cL_law 281 = .ok (.if_icmp .eq 1128, 3) := by decide +kernel
theorem dL_law_284 : decode cL_law 284 = .ok (.iconst 0, 1) := by decide +kernel
theorem dL_law_285 : decode cL_law 285 = .ok (.ireturn, 1) := by decide +kernel
theorem dL_law_286 : decode cL_law 286 = .ok (.aload_n 1, 1) := by decide +kernel
theorem dL_law_287 : decode cL_law 287 = .ok (.aload_n 0, 1) := by decide +kernel
theorem dL_law_288 : decode cL_law 288 = .ok (.iload_n 3, 1) := by decide +kernel
theorem dL_law_289 : decode cL_law 289 = .ok (.iconst 1, 1) := by decide +kernel
theorem dL_law_290 : decode cL_law 290 = .ok (.iadd, 1) := by decide +kernel
theorem dL_law_291 : decode cL_law 291 = .ok (.iaload, 1) := by decide +kernel
theorem dL_law_292 : decode cL_law 292 = .ok (.aload_n 0, 1) := by decide +kernel
theorem dL_law_293 : decode cL_law 293 = .ok (.iload_n 3, 1) := by decide +kernel
theorem dL_law_294 : decode cL_law 294 = .ok (.iconst 2, 1) := by decide +kernel
theorem dL_law_295 : decode cL_law 295 = .ok (.iadd, 1) := by decide +kernel
theorem dL_law_296 : decode cL_law 296 = .ok (.iaload, 1) := by decide +kernel
theorem dL_law_297 : decode cL_law 297 = .ok (.invokevirtual 22, 3) := by decide +kernel
theorem dL_law_300 : decode cL_law 300 = .ok (.aload_n 2, 1) := by decide +kernel
theorem dL_law_301 : decode cL_law 301 = .ok (.aload_n 0, 1) := by decide +kernel
theorem dL_law_302 : decode cL_law 302 = .ok (.iload_n 3, 1) := by decide +kernel
theorem dL_law_303 : decode cL_law 303 = .ok (.iconst 1, 1) := by decide +kernel
theorem dL_law_304 : decode cL_law 304 = .ok (.iadd, 1) := by decide +kernel
theorem dL_law_305 : decode cL_law 305 = .ok (.iaload, 1) := by decide +kernel
theorem dL_law_306 : decode cL_law 306 = .ok (.aload_n 0, 1) := by decide +kernel
theorem dL_law_307 : decode cL_law 307 = .ok (.iload_n 3, 1) := by decide +kernel
theorem dL_law_308 : decode cL_law 308 = .ok (.iconst 2, 1) := by decide +kernel
theorem dL_law_309 : decode cL_law 309 = .ok (.iadd, 1) := by decide +kernel
theorem dL_law_310 : decode cL_law 310 = .ok (.iaload, 1) := by decide +kernel
theorem dL_law_311 : decode cL_law 311 = .ok (.invokevirtual 25, 3) := by decide +kernel
theorem dL_law_314 : decode cL_law 314 = .ok (.if_icmp .eq 1095, 3) := by decide +kernel
theorem dL_law_317 : decode cL_law 317 = .ok (.iconst 0, 1) := by decide +kernel
theorem dL_law_318 : decode cL_law 318 = .ok (.ireturn, 1) := by decide +kernel
theorem dL_law_319 : decode cL_law 319 = .ok (.aload_n 1, 1) := by decide +kernel
theorem dL_law_320 : decode cL_law 320 = .ok (.aload_n 0, 1) := by decide +kernel
theorem dL_law_321 : decode cL_law 321 = .ok (.iload_n 3, 1) := by decide +kernel
theorem dL_law_322 : decode cL_law 322 = .ok (.iconst 1, 1) := by decide +kernel
theorem dL_law_323 : decode cL_law 323 = .ok (.iadd, 1) := by decide +kernel
theorem dL_law_324 : decode cL_law 324 = .ok (.iaload, 1) := by decide +kernel
theorem dL_law_325 : decode cL_law 325 = .ok (.aload_n 0, 1) := by decide +kernel
theorem dL_law_326 : decode cL_law 326 = .ok (.iload_n 3, 1) := by decide +kernel
theorem dL_law_327 : decode cL_law 327 = .ok (.iconst 2, 1) := by decide +kernel
theorem dL_law_328 : decode cL_law 328 = .ok (.iadd, 1) := by decide +kernel
theorem dL_law_329 : decode cL_law 329 = .ok (.iaload, 1) := by decide +kernel
theorem dL_law_330 : decode cL_law 330 = .ok (.invokevirtual 26, 3) := by decide +kernel
theorem dL_law_333 : decode cL_law 333 = .ok (.aload_n 2, 1) := by decide +kernel
theorem dL_law_334 : decode cL_law 334 = .ok (.aload_n 0, 1) := by decide +kernel
theorem dL_law_335 : decode cL_law 335 = .ok (.iload_n 3, 1) := by decide +kernel
theorem dL_law_336 : decode cL_law 336 = .ok (.iconst 1, 1) := by decide +kernel
theorem dL_law_337 : decode cL_law 337 = .ok (.iadd, 1) := by decide +kernel
theorem dL_law_338 : decode cL_law 338 = .ok (.iaload, 1) := by decide +kernel
theorem dL_law_339 : decode cL_law 339 = .ok (.aload_n 0, 1) := by decide +kernel
theorem dL_law_340 : decode cL_law 340 = .ok (.iload_n 3, 1) := by decide +kernel
theorem dL_law_341 : decode cL_law 341 = .ok (.iconst 2, 1) := by decide +kernel
theorem dL_law_342 : decode cL_law 342 = .ok (.iadd, 1) := by decide +kernel
theorem dL_law_343 : decode cL_law 343 = .ok (.iaload, 1) := by decide +kernel
theorem dL_law_344 : decode cL_law 344 = .ok (.invokevirtual 29, 3) := by decide +kernel
theorem dL_law_347 : decode cL_law 347 = .ok (.if_icmp .eq 1062, 3) := by decide +kernel
theorem dL_law_350 : decode cL_law 350 = .ok (.iconst 0, 1) := by decide +kernel
theorem dL_law_351 : decode cL_law 351 = .ok (.ireturn, 1) := by decide +kernel
theorem dL_law_352 : decode cL_law 352 = .ok (.aload_n 1, 1) := by decide +kernel
theorem dL_law_353 : decode cL_law 353 = .ok (.aload_n 0, 1) := by decide +kernel
theorem dL_law_354 : decode cL_law 354 = .ok (.iload_n 3, 1) := by decide +kernel
theorem dL_law_355 : decode cL_law 355 = .ok (.iconst 1, 1) := by decide +kernel
theorem dL_law_356 : decode cL_law 356 = .ok (.iadd, 1) := by decide +kernel
theorem dL_law_357 : decode cL_law 357 = .ok (.iaload, 1) := by decide +kernel
theorem dL_law_358 : decode cL_law 358 = .ok (.invokevirtual 30, 3) := by decide +kernel
theorem dL_law_361 : decode cL_law 361 = .ok (.aload_n 2, 1) := by decide +kernel
theorem dL_law_362 : decode cL_law 362 = .ok (.aload_n 0, 1) := by decide +kernel
theorem dL_law_363 : decode cL_law 363 = .ok (.iload_n 3, 1) := by decide +kernel
theorem dL_law_364 : decode cL_law 364 = .ok (.iconst 1, 1) := by decide +kernel
theorem dL_law_365 : decode cL_law 365 = .ok (.iadd, 1) := by decide +kernel
theorem dL_law_366 : decode cL_law 366 = .ok (.iaload, 1) := by decide +kernel
theorem dL_law_367 : decode cL_law 367 = .ok (.invokevirtual 34, 3) := by decide +kernel
theorem dL_law_370 : decode cL_law 370 = .ok (.if_icmp .eq 1039, 3) := by decide +kernel
theorem dL_law_373 : decode cL_law 373 = .ok (.iconst 0, 1) := by decide +kernel
theorem dL_law_374 : decode cL_law 374 = .ok (.ireturn, 1) := by decide +kernel
theorem dL_law_375 : decode cL_law 375 = .ok (.aload_n 1, 1) := by decide +kernel
theorem dL_law_376 : decode cL_law 376 = .ok (.aload_n 0, 1) := by decide +kernel
theorem dL_law_377 : decode cL_law 377 = .ok (.iload_n 3, 1) := by decide +kernel
theorem dL_law_378 : decode cL_law 378 = .ok (.iconst 1, 1) := by decide +kernel
theorem dL_law_379 : decode cL_law 379 = .ok (.iadd, 1) := by decide +kernel
theorem dL_law_380 : decode cL_law 380 = .ok (.iaload, 1) := by decide +kernel
theorem dL_law_381 : decode cL_law 381 = .ok (.invokevirtual 35, 3) := by decide +kernel
theorem dL_law_384 : decode cL_law 384 = .ok (.aload_n 2, 1) := by decide +kernel
theorem dL_law_385 : decode cL_law 385 = .ok (.aload_n 0, 1) := by decide +kernel
theorem dL_law_386 : decode cL_law 386 = .ok (.iload_n 3, 1) := by decide +kernel
theorem dL_law_387 : decode cL_law 387 = .ok (.iconst 1, 1) := by decide +kernel
theorem dL_law_388 : decode cL_law 388 = .ok (.iadd, 1) := by decide +kernel
theorem dL_law_389 : decode cL_law 389 = .ok (.iaload, 1) := by decide +kernel
theorem dL_law_390 : decode cL_law 390 = .ok (.invokevirtual 38, 3) := by decide +kernel
theorem dL_law_393 : decode cL_law 393 = .ok (.if_icmp .eq 1016, 3) := by decide +kernel
theorem dL_law_396 : decode cL_law 396 = .ok (.iconst 0, 1) := by decide +kernel
theorem dL_law_397 : decode cL_law 397 = .ok (.ireturn, 1) := by decide +kernel
theorem dL_law_398 : decode cL_law 398 = .ok (.aload_n 1, 1) := by decide +kernel
theorem dL_law_399 : decode cL_law 399 = .ok (.aload_n 0, 1) := by decide +kernel
theorem dL_law_400 : decode cL_law 400 = .ok (.iload_n 3, 1) := by decide +kernel
theorem dL_law_401 : decode cL_law 401 = .ok (.iconst 1, 1) := by decide +kernel
theorem dL_law_402 : decode cL_law 402 = .ok (.iadd, 1) := by decide +kernel
theorem dL_law_403 : decode cL_law 403 = .ok (.iaload, 1) := by decide +kernel
theorem dL_law_404 : decode cL_law 404 = .ok (.invokevirtual 39, 3) := by decide +kernel
theorem dL_law_407 : decode cL_law 407 = .ok (.aload_n 2, 1) := by decide +kernel
theorem dL_law_408 : decode cL_law 408 = .ok (.aload_n 0, 1) := by decide +kernel
theorem dL_law_409 : decode cL_law 409 = .ok (.iload_n 3, 1) := by decide +kernel
theorem dL_law_410 : decode cL_law 410 = .ok (.iconst 1, 1) := by decide +kernel
theorem dL_law_411 : decode cL_law 411 = .ok (.iadd, 1) := by decide +kernel
theorem dL_law_412 : decode cL_law 412 = .ok (.iaload, 1) := by decide +kernel
theorem dL_law_413 : decode cL_law 413 = .ok (.invokevirtual 42, 3) := by decide +kernel
theorem dL_law_416 : decode cL_law 416 = .ok (.if_icmp .eq 993, 3) := by decide +kernel
theorem dL_law_419 : decode cL_law 419 = .ok (.iconst 0, 1) := by decide +kernel
theorem dL_law_420 : decode cL_law 420 = .ok (.ireturn, 1) := by decide +kernel
theorem dL_law_421 : decode cL_law 421 = .ok (.aload_n 1, 1) := by decide +kernel
theorem dL_law_422 : decode cL_law 422 = .ok (.aload_n 0, 1) := by decide +kernel
theorem dL_law_423 : decode cL_law 423 = .ok (.iload_n 3, 1) := by decide +kernel
theorem dL_law_424 : decode cL_law 424 = .ok (.iconst 1, 1) := by decide +kernel
theorem dL_law_425 : decode cL_law 425 = .ok (.iadd, 1) := by decide +kernel
theorem dL_law_426 : decode cL_law 426 = .ok (.iaload, 1) := by decide +kernel
theorem dL_law_427 : decode cL_law 427 = .ok (.invokevirtual 43, 3) := by decide +kernel
theorem dL_law_430 : decode cL_law 430 = .ok (.aload_n 2, 1) := by decide +kernel
theorem dL_law_431 : decode cL_law 431 = .ok (.aload_n 0, 1) := by decide +kernel
theorem dL_law_432 : decode cL_law 432 = .ok (.iload_n 3, 1) := by decide +kernel
theorem dL_law_433 : decode cL_law 433 = .ok (.iconst 1, 1) := by decide +kernel
theorem dL_law_434 : decode cL_law 434 = .ok (.iadd, 1) := by decide +kernel
theorem dL_law_435 : decode cL_law 435 = .ok (.iaload, 1) := by decide +kernel
theorem dL_law_436 : decode cL_law 436 = .ok (.invokevirtual 46, 3) := by decide +kernel
theorem dL_law_439 : decode cL_law 439 = .ok (.if_icmp .eq 970, 3) := by decide +kernel
theorem dL_law_442 : decode cL_law 442 = .ok (.iconst 0, 1) := by decide +kernel
theorem dL_law_443 : decode cL_law 443 = .ok (.ireturn, 1) := by decide +kernel
theorem dL_law_444 : decode cL_law 444 = .ok (.aload_n 1, 1) := by decide +kernel
theorem dL_law_445 : decode cL_law 445 = .ok (.aload_n 0, 1) := by decide +kernel
theorem dL_law_446 : decode cL_law 446 = .ok (.iload_n 3, 1) := by decide +kernel
theorem dL_law_447 : decode cL_law 447 = .ok (.iconst 1, 1) := by decide +kernel
theorem dL_law_448 : decode cL_law 448 = .ok (.iadd, 1) := by decide +kernel
theorem dL_law_449 : decode cL_law 449 = .ok (.iaload, 1) := by decide +kernel
theorem dL_law_450 : decode cL_law 450 = .ok (.invokevirtual 47, 3) := by decide +kernel
theorem dL_law_453 : decode cL_law 453 = .ok (.aload_n 2, 1) := by decide +kernel
theorem dL_law_454 : decode cL_law 454 = .ok (.aload_n 0, 1) := by decide +kernel
theorem dL_law_455 : decode cL_law 455 = .ok (.iload_n 3, 1) := by decide +kernel
theorem dL_law_456 : decode cL_law 456 = .ok (.iconst 1, 1) := by decide +kernel
theorem dL_law_457 : decode cL_law 457 = .ok (.iadd, 1) := by decide +kernel
theorem dL_law_458 : decode cL_law 458 = .ok (.iaload, 1) := by decide +kernel
theorem dL_law_459 : decode cL_law 459 = .ok (.invokevirtual 50, 3) := by decide +kernel
theorem dL_law_462 : decode cL_law 462 = .ok (.if_icmp .eq 947, 3) := by decide +kernel
theorem dL_law_465 : decode cL_law 465 = .ok (.iconst 0, 1) := by decide +kernel
theorem dL_law_466 : decode cL_law 466 = .ok (.ireturn, 1) := by decide +kernel
theorem dL_law_467 : decode cL_law 467 = .ok (.aload_n 1, 1) := by decide +kernel
theorem dL_law_468 : decode cL_law 468 = .ok (.invokevirtual 51, 3) := by decide +kernel
theorem dL_law_471 : decode cL_law 471 = .ok (.aload_n 2, 1) := by decide +kernel
theorem dL_law_472 : decode cL_law 472 = .ok (.invokevirtual 55, 3) := by decide +kernel
theorem dL_law_475 : decode cL_law 475 = .ok (.if_icmp .eq 934, 3) := by decide +kernel
theorem dL_law_478 : decode cL_law 478 = .ok (.iconst 0, 1) := by decide +kernel
theorem dL_law_479 : decode cL_law 479 = .ok (.ireturn, 1) := by decide +kernel
theorem dL_law_480 : decode cL_law 480 = .ok (.aload_n 1, 1) := by decide +kernel
theorem dL_law_481 : decode cL_law 481 = .ok (.aload_n 0, 1) := by decide +kernel
theorem dL_law_482 : decode cL_law 482 = .ok (.iload_n 3, 1) := by decide +kernel
theorem dL_law_483 : decode cL_law 483 = .ok (.iconst 1, 1) := by decide +kernel
theorem dL_law_484 : decode cL_law 484 = .ok (.iadd, 1) := by decide +kernel
theorem dL_law_485 : decode cL_law 485 = .ok (.iaload, 1) := by decide +kernel
theorem dL_law_486 : decode cL_law 486 = .ok (.aload_n 0, 1) := by decide +kernel
theorem dL_law_487 : decode cL_law 487 = .ok (.iload_n 3, 1) := by decide +kernel
theorem dL_law_488 : decode cL_law 488 = .ok (.iconst 2, 1) := by decide +kernel
theorem dL_law_489 : decode cL_law 489 = .ok (.iadd, 1) := by decide +kernel
theorem dL_law_490 : decode cL_law 490 = .ok (.iaload, 1) := by decide +kernel
theorem dL_law_491 : decode cL_law 491 = .ok (.invokevirtual 56, 3) := by decide +kernel
theorem dL_law_494 : decode cL_law 494 = .ok (.aload_n 2, 1) := by decide +kernel
theorem dL_law_495 : decode cL_law 495 = .ok (.aload_n 0, 1) := by decide +kernel
theorem dL_law_496 : decode cL_law 496 = .ok (.iload_n 3, 1) := by decide +kernel
theorem dL_law_497 : decode cL_law 497 = .ok (.iconst 1, 1) := by decide +kernel
theorem dL_law_498 : decode cL_law 498 = .ok (.iadd, 1) := by decide +kernel
theorem dL_law_499 : decode cL_law 499 = .ok (.iaload, 1) := by decide +kernel
theorem dL_law_500 : decode cL_law 500 = .ok (.aload_n 0, 1) := by decide +kernel
theorem dL_law_501 : decode cL_law 501 = .ok (.iload_n 3, 1) := by decide +kernel
theorem dL_law_502 : decode cL_law 502 = .ok (.iconst 2, 1) := by decide +kernel
theorem dL_law_503 : decode cL_law 503 = .ok (.iadd, 1) := by decide +kernel
theorem dL_law_504 : decode cL_law 504 = .ok (.iaload, 1) := by decide +kernel
theorem dL_law_505 : decode cL_law 505 = .ok (.invokevirtual 59, 3) := by decide +kernel
theorem dL_law_508 : decode cL_law 508 = .ok (.if_icmp .eq 901, 3) := by decide +kernel
theorem dL_law_511 : decode cL_law 511 = .ok (.iconst 0, 1) := by decide +kernel
theorem dL_law_512 : decode cL_law 512 = .ok (.ireturn, 1) := by decide +kernel
theorem dL_law_513 : decode cL_law 513 = .ok (.aload_n 1, 1) := by decide +kernel
theorem dL_law_514 : decode cL_law 514 = .ok (.aload_n 0, 1) := by decide +kernel
theorem dL_law_515 : decode cL_law 515 = .ok (.iload_n 3, 1) := by decide +kernel
theorem dL_law_516 : decode cL_law 516 = .ok (.iconst 1, 1) := by decide +kernel
theorem dL_law_517 : decode cL_law 517 = .ok (.iadd, 1) := by decide +kernel
theorem dL_law_518 : decode cL_law 518 = .ok (.iaload, 1) := by decide +kernel
theorem dL_law_519 : decode cL_law 519 = .ok (.invokevirtual 60, 3) := by decide +kernel
theorem dL_law_522 : decode cL_law 522 = .ok (.aload_n 2, 1) := by decide +kernel
theorem dL_law_523 : decode cL_law 523 = .ok (.aload_n 0, 1) := by decide +kernel
theorem dL_law_524 : decode cL_law 524 = .ok (.iload_n 3, 1) := by decide +kernel
theorem dL_law_525 : decode cL_law 525 = .ok (.iconst 1, 1) := by decide +kernel
theorem dL_law_526 : decode cL_law 526 = .ok (.iadd, 1) := by decide +kernel
theorem dL_law_527 : decode cL_law 527 = .ok (.iaload, 1) := by decide +kernel
theorem dL_law_528 : decode cL_law 528 = .ok (.invokevirtual 63, 3) := by decide +kernel
theorem dL_law_531 : decode cL_law 531 = .ok (.if_icmp .eq 878, 3) := by decide +kernel
theorem dL_law_534 : decode cL_law 534 = .ok (.iconst 0, 1) := by decide +kernel
theorem dL_law_535 : decode cL_law 535 = .ok (.ireturn, 1) := by decide +kernel
theorem dL_law_536 : decode cL_law 536 = .ok (.aload_n 1, 1) := by decide +kernel
theorem dL_law_537 : decode cL_law 537 = .ok (.invokevirtual 64, 3) := by decide +kernel
theorem dL_law_540 : decode cL_law 540 = .ok (.aload_n 2, 1) := by decide +kernel
theorem dL_law_541 : decode cL_law 541 = .ok (.invokevirtual 67, 3) := by decide +kernel
theorem dL_law_544 : decode cL_law 544 = .ok (.if_icmp .eq 865, 3) := by decide +kernel
theorem dL_law_547 : decode cL_law 547 = .ok (.iconst 0, 1) := by decide +kernel
theorem dL_law_548 : decode cL_law 548 = .ok (.ireturn, 1) := by decide +kernel
theorem dL_law_549 : decode cL_law 549 = .ok (.aload_n 1, 1) := by decide +kernel
theorem dL_law_550 : decode cL_law 550 = .ok (.invokevirtual 68, 3) := by decide +kernel
theorem dL_law_553 : decode cL_law 553 = .ok (.aload_n 2, 1) := by decide +kernel
theorem dL_law_554 : decode cL_law 554 = .ok (.invokevirtual 71, 3) := by decide +kernel
theorem dL_law_557 : decode cL_law 557 = .ok (.if_icmp .eq 852, 3) := by decide +kernel
theorem dL_law_560 : decode cL_law 560 = .ok (.iconst 0, 1) := by decide +kernel
theorem dL_law_561 : decode cL_law 561 = .ok (.ireturn, 1) := by decide +kernel
theorem dL_law_562 : decode cL_law 562 = .ok (.aload_n 1, 1) := by decide +kernel
theorem dL_law_563 : decode cL_law 563 = .ok (.aload_n 0, 1) := by decide +kernel
theorem dL_law_564 : decode cL_law 564 = .ok (.iload_n 3, 1) := by decide +kernel
theorem dL_law_565 : decode cL_law 565 = .ok (.iconst 1, 1) := by decide +kernel
theorem dL_law_566 : decode cL_law 566 = .ok (.iadd, 1) := by decide +kernel
theorem dL_law_567 : decode cL_law 567 = .ok (.iaload, 1) := by decide +kernel
theorem dL_law_568 : decode cL_law 568 = .ok (.aload_n 0, 1) := by decide +kernel
theorem dL_law_569 : decode cL_law 569 = .ok (.iload_n 3, 1) := by decide +kernel
theorem dL_law_570 : decode cL_law 570 = .ok (.iconst 2, 1) := by decide +kernel
theorem dL_law_571 : decode cL_law 571 = .ok (.iadd, 1) := by decide +kernel
theorem dL_law_572 : decode cL_law 572 = .ok (.iaload, 1) := by decide +kernel
theorem dL_law_573 : decode cL_law 573 = .ok (.invokevirtual 72, 3) := by decide +kernel
theorem dL_law_576 : decode cL_law 576 = .ok (.aload_n 2, 1) := by decide +kernel
theorem dL_law_577 : decode cL_law 577 = .ok (.aload_n 0, 1) := by decide +kernel
theorem dL_law_578 : decode cL_law 578 = .ok (.iload_n 3, 1) := by decide +kernel
theorem dL_law_579 : decode cL_law 579 = .ok (.iconst 1, 1) := by decide +kernel
theorem dL_law_580 : decode cL_law 580 = .ok (.iadd, 1) := by decide +kernel
theorem dL_law_581 : decode cL_law 581 = .ok (.iaload, 1) := by decide +kernel
theorem dL_law_582 : decode cL_law 582 = .ok (.aload_n 0, 1) := by decide +kernel
theorem dL_law_583 : decode cL_law 583 = .ok (.iload_n 3, 1) := by decide +kernel
theorem dL_law_584 : decode cL_law 584 = .ok (.iconst 2, 1) := by decide +kernel
theorem dL_law_585 : decode cL_law 585 = .ok (.iadd, 1) := by decide +kernel
theorem dL_law_586 : decode cL_law 586 = .ok (.iaload, 1) := by decide +kernel
theorem dL_law_587 : decode cL_law 587 = .ok (.invokevirtual 75, 3) := by decide +kernel
theorem dL_law_590 : decode cL_law 590 = .ok (.if_icmp .eq 819, 3) := by decide +kernel
theorem dL_law_593 : decode cL_law 593 = .ok (.iconst 0, 1) := by decide +kernel
theorem dL_law_594 : decode cL_law 594 = .ok (.ireturn, 1) := by decide +kernel
theorem dL_law_595 : decode cL_law 595 = .ok (.aload_n 1, 1) := by decide +kernel
theorem dL_law_596 : decode cL_law 596 = .ok (.invokevirtual 76, 3) := by decide +kernel
theorem dL_law_599 : decode cL_law 599 = .ok (.aload_n 2, 1) := by decide +kernel
theorem dL_law_600 : decode cL_law 600 = .ok (.invokevirtual 79, 3) := by decide +kernel
theorem dL_law_603 : decode cL_law 603 = .ok (.if_icmp .eq 806, 3) := by decide +kernel
theorem dL_law_606 : decode cL_law 606 = .ok (.iconst 0, 1) := by decide +kernel
theorem dL_law_607 : decode cL_law 607 = .ok (.ireturn, 1) := by decide +kernel
theorem dL_law_608 : decode cL_law 608 = .ok (.aload_n 1, 1) := by decide +kernel
theorem dL_law_609 : decode cL_law 609 = .ok (.invokevirtual 80, 3) := by decide +kernel
theorem dL_law_612 : decode cL_law 612 = .ok (.aload_n 2, 1) := by decide +kernel
theorem dL_law_613 : decode cL_law 613 = .ok (.invokevirtual 83, 3) := by decide +kernel
theorem dL_law_616 : decode cL_law 616 = .ok (.if_icmp .eq 793, 3) := by decide +kernel
theorem dL_law_619 : decode cL_law 619 = .ok (.iconst 0, 1) := by decide +kernel
theorem dL_law_620 : decode cL_law 620 = .ok (.ireturn, 1) := by decide +kernel
theorem dL_law_621 : decode cL_law 621 = .ok (.aload_n 1, 1) := by decide +kernel
theorem dL_law_622 : decode cL_law 622 = .ok (.aload_n 0, 1) := by decide +kernel
theorem dL_law_623 : decode cL_law 623 = .ok (.iload_n 3, 1) := by decide +kernel
theorem dL_law_624 : decode cL_law 624 = .ok (.iconst 1, 1) := by decide +kernel
theorem dL_law_625 : decode cL_law 625 = .ok (.iadd, 1) := by decide +kernel
theorem dL_law_626 : decode cL_law 626 = .ok (.iaload, 1) := by decide +kernel
theorem dL_law_627 : decode cL_law 627 = .ok (.aload_n 0, 1) := by decide +kernel
theorem dL_law_628 : decode cL_law 628 = .ok (.iload_n 3, 1) := by decide +kernel
theorem dL_law_629 : decode cL_law 629 = .ok (.iconst 2, 1) := by decide +kernel
theorem dL_law_630 : decode cL_law 630 = .ok (.iadd, 1) := by decide +kernel
theorem dL_law_631 : decode cL_law 631 = .ok (.iaload, 1) := by decide +kernel
theorem dL_law_632 : decode cL_law 632 = .ok (.invokevirtual 84, 3) := by decide +kernel
theorem dL_law_635 : decode cL_law 635 = .ok (.aload_n 2, 1) := by decide +kernel
theorem dL_law_636 : decode cL_law 636 = .ok (.aload_n 0, 1) := by decide +kernel
theorem dL_law_637 : decode cL_law 637 = .ok (.iload_n 3, 1) := by decide +kernel
theorem dL_law_638 : decode cL_law 638 = .ok (.iconst 1, 1) := by decide +kernel
theorem dL_law_639 : decode cL_law 639 = .ok (.iadd, 1) := by decide +kernel
theorem dL_law_640 : decode cL_law 640 = .ok (.iaload, 1) := by decide +kernel
theorem dL_law_641 : decode cL_law 641 = .ok (.aload_n 0, 1) := by decide +kernel
theorem dL_law_642 : decode cL_law 642 = .ok (.iload_n 3, 1) := by decide +kernel
theorem dL_law_643 : decode cL_law 643 = .ok (.iconst 2, 1) := by decide +kernel
theorem dL_law_644 : decode cL_law 644 = .ok (.iadd, 1) := by decide +kernel
theorem dL_law_645 : decode cL_law 645 = .ok (.iaload, 1) := by decide +kernel
theorem dL_law_646 : decode cL_law 646 = .ok (.invokevirtual 87, 3) := by decide +kernel
theorem dL_law_649 : decode cL_law 649 = .ok (.if_icmp .eq 760, 3) := by decide +kernel
theorem dL_law_652 : decode cL_law 652 = .ok (.iconst 0, 1) := by decide +kernel
theorem dL_law_653 : decode cL_law 653 = .ok (.ireturn, 1) := by decide +kernel
theorem dL_law_654 : decode cL_law 654 = .ok (.aload_n 1, 1) := by decide +kernel
theorem dL_law_655 : decode cL_law 655 = .ok (.aload_n 0, 1) := by decide +kernel
theorem dL_law_656 : decode cL_law 656 = .ok (.iload_n 3, 1) := by decide +kernel
theorem dL_law_657 : decode cL_law 657 = .ok (.iconst 1, 1) := by decide +kernel
theorem dL_law_658 : decode cL_law 658 = .ok (.iadd, 1) := by decide +kernel
theorem dL_law_659 : decode cL_law 659 = .ok (.iaload, 1) := by decide +kernel
theorem dL_law_660 : decode cL_law 660 = .ok (.invokevirtual 88, 3) := by decide +kernel
theorem dL_law_663 : decode cL_law 663 = .ok (.aload_n 2, 1) := by decide +kernel
theorem dL_law_664 : decode cL_law 664 = .ok (.aload_n 0, 1) := by decide +kernel
theorem dL_law_665 : decode cL_law 665 = .ok (.iload_n 3, 1) := by decide +kernel
theorem dL_law_666 : decode cL_law 666 = .ok (.iconst 1, 1) := by decide +kernel
theorem dL_law_667 : decode cL_law 667 = .ok (.iadd, 1) := by decide +kernel
theorem dL_law_668 : decode cL_law 668 = .ok (.iaload, 1) := by decide +kernel
theorem dL_law_669 : decode cL_law 669 = .ok (.invokevirtual 91, 3) := by decide +kernel
theorem dL_law_672 : decode cL_law 672 = .ok (.if_icmp .eq 737, 3) := by decide +kernel
theorem dL_law_675 : decode cL_law 675 = .ok (.iconst 0, 1) := by decide +kernel
theorem dL_law_676 : decode cL_law 676 = .ok (.ireturn, 1) := by decide +kernel
theorem dL_law_677 : decode cL_law 677 = .ok (.aload_n 1, 1) := by decide +kernel
theorem dL_law_678 : decode cL_law 678 = .ok (.aload_n 0, 1) := by decide +kernel
theorem dL_law_679 : decode cL_law 679 = .ok (.iload_n 3, 1) := by decide +kernel
theorem dL_law_680 : decode cL_law 680 = .ok (.iconst 1, 1) := by decide +kernel
theorem dL_law_681 : decode cL_law 681 = .ok (.iadd, 1) := by decide +kernel
theorem dL_law_682 : decode cL_law 682 = .ok (.iaload, 1) := by decide +kernel
theorem dL_law_683 : decode cL_law 683 = .ok (.aload_n 0, 1) := by decide +kernel
theorem dL_law_684 : decode cL_law 684 = .ok (.iload_n 3, 1) := by decide +kernel
theorem dL_law_685 : decode cL_law 685 = .ok (.iconst 2, 1) := by decide +kernel
theorem dL_law_686 : decode cL_law 686 = .ok (.iadd, 1) := by decide +kernel
theorem dL_law_687 : decode cL_law 687 = .ok (.iaload, 1) := by decide +kernel
theorem dL_law_688 : decode cL_law 688 = .ok (.invokevirtual 92, 3) := by decide +kernel
theorem dL_law_691 : decode cL_law 691 = .ok (.aload_n 2, 1) := by decide +kernel
theorem dL_law_692 : decode cL_law 692 = .ok (.aload_n 0, 1) := by decide +kernel
theorem dL_law_693 : decode cL_law 693 = .ok (.iload_n 3, 1) := by decide +kernel
theorem dL_law_694 : decode cL_law 694 = .ok (.iconst 1, 1) := by decide +kernel
theorem dL_law_695 : decode cL_law 695 = .ok (.iadd, 1) := by decide +kernel
theorem dL_law_696 : decode cL_law 696 = .ok (.iaload, 1) := by decide +kernel
theorem dL_law_697 : decode cL_law 697 = .ok (.aload_n 0, 1) := by decide +kernel
theorem dL_law_698 : decode cL_law 698 = .ok (.iload_n 3, 1) := by decide +kernel
theorem dL_law_699 : decode cL_law 699 = .ok (.iconst 2, 1) := by decide +kernel
theorem dL_law_700 : decode cL_law 700 = .ok (.iadd, 1) := by decide +kernel
theorem dL_law_701 : decode cL_law 701 = .ok (.iaload, 1) := by decide +kernel
theorem dL_law_702 : decode cL_law 702 = .ok (.invokevirtual 95, 3) := by decide +kernel
theorem dL_law_705 : decode cL_law 705 = .ok (.if_icmp .eq 704, 3) := by decide +kernel
theorem dL_law_708 : decode cL_law 708 = .ok (.iconst 0, 1) := by decide +kernel
theorem dL_law_709 : decode cL_law 709 = .ok (.ireturn, 1) := by decide +kernel
theorem dL_law_710 : decode cL_law 710 = .ok (.aload_n 1, 1) := by decide +kernel
theorem dL_law_711 : decode cL_law 711 = .ok (.aload_n 0, 1) := by decide +kernel
theorem dL_law_712 : decode cL_law 712 = .ok (.iload_n 3, 1) := by decide +kernel
theorem dL_law_713 : decode cL_law 713 = .ok (.iconst 1, 1) := by decide +kernel
theorem dL_law_714 : decode cL_law 714 = .ok (.iadd, 1) := by decide +kernel
theorem dL_law_715 : decode cL_law 715 = .ok (.iaload, 1) := by decide +kernel
theorem dL_law_716 : decode cL_law 716 = .ok (.aload_n 0, 1) := by decide +kernel
theorem dL_law_717 : decode cL_law 717 = .ok (.iload_n 3, 1) := by decide +kernel
theorem dL_law_718 : decode cL_law 718 = .ok (.iconst 2, 1) := by decide +kernel
theorem dL_law_719 : decode cL_law 719 = .ok (.iadd, 1) := by decide +kernel
theorem dL_law_720 : decode cL_law 720 = .ok (.iaload, 1) := by decide +kernel
theorem dL_law_721 : decode cL_law 721 = .ok (.invokevirtual 96, 3) := by decide +kernel
theorem dL_law_724 : decode cL_law 724 = .ok (.aload_n 2, 1) := by decide +kernel
theorem dL_law_725 : decode cL_law 725 = .ok (.aload_n 0, 1) := by decide +kernel
theorem dL_law_726 : decode cL_law 726 = .ok (.iload_n 3, 1) := by decide +kernel
theorem dL_law_727 : decode cL_law 727 = .ok (.iconst 1, 1) := by decide +kernel
theorem dL_law_728 : decode cL_law 728 = .ok (.iadd, 1) := by decide +kernel
theorem dL_law_729 : decode cL_law 729 = .ok (.iaload, 1) := by decide +kernel
theorem dL_law_730 : decode cL_law 730 = .ok (.aload_n 0, 1) := by decide +kernel
theorem dL_law_731 : decode cL_law 731 = .ok (.iload_n 3, 1) := by decide +kernel
theorem dL_law_732 : decode cL_law 732 = .ok (.iconst 2, 1) := by decide +kernel
theorem dL_law_733 : decode cL_law 733 = .ok (.iadd, 1) := by decide +kernel
theorem dL_law_734 : decode cL_law 734 = .ok (.iaload, 1) := by decide +kernel
theorem dL_law_735 : decode cL_law 735 = .ok (.invokevirtual 99, 3) := by decide +kernel
theorem dL_law_738 : decode cL_law 738 = .ok (.if_icmp .eq 671, 3) := by decide +kernel
theorem dL_law_741 : decode cL_law 741 = .ok (.iconst 0, 1) := by decide +kernel
theorem dL_law_742 : decode cL_law 742 = .ok (.ireturn, 1) := by decide +kernel
theorem dL_law_743 : decode cL_law 743 = .ok (.aload_n 1, 1) := by decide +kernel
theorem dL_law_744 : decode cL_law 744 = .ok (.aload_n 0, 1) := by decide +kernel
theorem dL_law_745 : decode cL_law 745 = .ok (.iload_n 3, 1) := by decide +kernel
theorem dL_law_746 : decode cL_law 746 = .ok (.iconst 1, 1) := by decide +kernel
theorem dL_law_747 : decode cL_law 747 = .ok (.iadd, 1) := by decide +kernel
theorem dL_law_748 : decode cL_law 748 = .ok (.iaload, 1) := by decide +kernel
theorem dL_law_749 : decode cL_law 749 = .ok (.aload_n 0, 1) := by decide +kernel
theorem dL_law_750 : decode cL_law 750 = .ok (.iload_n 3, 1) := by decide +kernel
theorem dL_law_751 : decode cL_law 751 = .ok (.iconst 2, 1) := by decide +kernel
theorem dL_law_752 : decode cL_law 752 = .ok (.iadd, 1) := by decide +kernel
theorem dL_law_753 : decode cL_law 753 = .ok (.iaload, 1) := by decide +kernel
theorem dL_law_754 : decode cL_law 754 = .ok (.invokevirtual 100, 3) := by decide +kernel
theorem dL_law_757 : decode cL_law 757 = .ok (.aload_n 2, 1) := by decide +kernel
theorem dL_law_758 : decode cL_law 758 = .ok (.aload_n 0, 1) := by decide +kernel
theorem dL_law_759 : decode cL_law 759 = .ok (.iload_n 3, 1) := by decide +kernel
theorem dL_law_760 : decode cL_law 760 = .ok (.iconst 1, 1) := by decide +kernel
theorem dL_law_761 : decode cL_law 761 = .ok (.iadd, 1) := by decide +kernel
theorem dL_law_762 : decode cL_law 762 = .ok (.iaload, 1) := by decide +kernel
theorem dL_law_763 : decode cL_law 763 = .ok (.aload_n 0, 1) := by decide +kernel
theorem dL_law_764 : decode cL_law 764 = .ok (.iload_n 3, 1) := by decide +kernel
theorem dL_law_765 : decode cL_law 765 = .ok (.iconst 2, 1) := by decide +kernel
theorem dL_law_766 : decode cL_law 766 = .ok (.iadd, 1) := by decide +kernel
theorem dL_law_767 : decode cL_law 767 = .ok (.iaload, 1) := by decide +kernel
theorem dL_law_768 : decode cL_law 768 = .ok (.invokevirtual 103, 3) := by decide +kernel
theorem dL_law_771 : decode cL_law 771 = .ok (.if_icmp .eq 638, 3) := by decide +kernel
theorem dL_law_774 : decode cL_law 774 = .ok (.iconst 0, 1) := by decide +kernel
theorem dL_law_775 : decode cL_law 775 = .ok (.ireturn, 1) := by decide +kernel
theorem dL_law_776 : decode cL_law 776 = .ok (.aload_n 1, 1) := by decide +kernel
theorem dL_law_777 : decode cL_law 777 = .ok (.aload_n 0, 1) := by decide +kernel
theorem dL_law_778 : decode cL_law 778 = .ok (.iload_n 3, 1) := by decide +kernel
theorem dL_law_779 : decode cL_law 779 = .ok (.iconst 1, 1) := by decide +kernel
theorem dL_law_780 : decode cL_law 780 = .ok (.iadd, 1) := by decide +kernel
theorem dL_law_781 : decode cL_law 781 = .ok (.iaload, 1) := by decide +kernel
theorem dL_law_782 : decode cL_law 782 = .ok (.invokevirtual 104, 3) := by decide +kernel
theorem dL_law_785 : decode cL_law 785 = .ok (.aload_n 2, 1) := by decide +kernel
theorem dL_law_786 : decode cL_law 786 = .ok (.aload_n 0, 1) := by decide +kernel
theorem dL_law_787 : decode cL_law 787 = .ok (.iload_n 3, 1) := by decide +kernel
theorem dL_law_788 : decode cL_law 788 = .ok (.iconst 1, 1) := by decide +kernel
theorem dL_law_789 : decode cL_law 789 = .ok (.iadd, 1) := by decide +kernel
theorem dL_law_790 : decode cL_law 790 = .ok (.iaload, 1) := by decide +kernel
theorem dL_law_791 : decode cL_law 791 = .ok (.invokevirtual 107, 3) := by decide +kernel
theorem dL_law_794 : decode cL_law 794 = .ok (.if_icmp .eq 615, 3) := by decide +kernel
theorem dL_law_797 : decode cL_law 797 = .ok (.iconst 0, 1) := by decide +kernel
theorem dL_law_798 : decode cL_law 798 = .ok (.ireturn, 1) := by decide +kernel
theorem dL_law_799 : decode cL_law 799 = .ok (.aload_n 1, 1) := by decide +kernel
theorem dL_law_800 : decode cL_law 800 = .ok (.aload_n 0, 1) := by decide +kernel
theorem dL_law_801 : decode cL_law 801 = .ok (.iload_n 3, 1) := by decide +kernel
theorem dL_law_802 : decode cL_law 802 = .ok (.iconst 1, 1) := by decide +kernel
theorem dL_law_803 : decode cL_law 803 = .ok (.iadd, 1) := by decide +kernel
theorem dL_law_804 : decode cL_law 804 = .ok (.iaload, 1) := by decide +kernel
theorem dL_law_805 : decode cL_law 805 = .ok (.aload_n 0, 1) := by decide +kernel
theorem dL_law_806 : decode cL_law 806 = .ok (.iload_n 3, 1) := by decide +kernel
theorem dL_law_807 : decode cL_law 807 = .ok (.iconst 2, 1) := by decide +kernel
theorem dL_law_808 : decode cL_law 808 = .ok (.iadd, 1) := by decide +kernel
theorem dL_law_809 : decode cL_law 809 = .ok (.iaload, 1) := by decide +kernel
theorem dL_law_810 : decode cL_law 810 = .ok (.invokevirtual 108, 3) := by decide +kernel
theorem dL_law_813 : decode cL_law 813 = .ok (.aload_n 2, 1) := by decide +kernel
theorem dL_law_814 : decode cL_law 814 = .ok (.aload_n 0, 1) := by decide +kernel
theorem dL_law_815 : decode cL_law 815 = .ok (.iload_n 3, 1) := by decide +kernel
theorem dL_law_816 : decode cL_law 816 = .ok (.iconst 1, 1) := by decide +kernel
theorem dL_law_817 : decode cL_law 817 = .ok (.iadd, 1) := by decide +kernel
theorem dL_law_818 : decode cL_law 818 = .ok (.iaload, 1) := by decide +kernel
theorem dL_law_819 : decode cL_law 819 = .ok (.aload_n 0, 1) := by decide +kernel
theorem dL_law_820 : decode cL_law 820 = .ok (.iload_n 3, 1) := by decide +kernel
theorem dL_law_821 : decode cL_law 821 = .ok (.iconst 2, 1) := by decide +kernel
theorem dL_law_822 : decode cL_law 822 = .ok (.iadd, 1) := by decide +kernel
theorem dL_law_823 : decode cL_law 823 = .ok (.iaload, 1) := by decide +kernel
theorem dL_law_824 : decode cL_law 824 = .ok (.invokevirtual 111, 3) := by decide +kernel
theorem dL_law_827 : decode cL_law 827 = .ok (.if_icmp .eq 582, 3) := by decide +kernel
theorem dL_law_830 : decode cL_law 830 = .ok (.iconst 0, 1) := by decide +kernel
theorem dL_law_831 : decode cL_law 831 = .ok (.ireturn, 1) := by decide +kernel
theorem dL_law_832 : decode cL_law 832 = .ok (.aload_n 1, 1) := by decide +kernel
theorem dL_law_833 : decode cL_law 833 = .ok (.aload_n 0, 1) := by decide +kernel
theorem dL_law_834 : decode cL_law 834 = .ok (.iload_n 3, 1) := by decide +kernel
theorem dL_law_835 : decode cL_law 835 = .ok (.iconst 1, 1) := by decide +kernel
theorem dL_law_836 : decode cL_law 836 = .ok (.iadd, 1) := by decide +kernel
theorem dL_law_837 : decode cL_law 837 = .ok (.iaload, 1) := by decide +kernel
theorem dL_law_838 : decode cL_law 838 = .ok (.aload_n 0, 1) := by decide +kernel
theorem dL_law_839 : decode cL_law 839 = .ok (.iload_n 3, 1) := by decide +kernel
theorem dL_law_840 : decode cL_law 840 = .ok (.iconst 2, 1) := by decide +kernel
theorem dL_law_841 : decode cL_law 841 = .ok (.iadd, 1) := by decide +kernel
theorem dL_law_842 : decode cL_law 842 = .ok (.iaload, 1) := by decide +kernel
theorem dL_law_843 : decode cL_law 843 = .ok (.invokevirtual 112, 3) := by decide +kernel
theorem dL_law_846 : decode cL_law 846 = .ok (.aload_n 2, 1) := by decide +kernel
theorem dL_law_847 : decode cL_law 847 = .ok (.aload_n 0, 1) := by decide +kernel
theorem dL_law_848 : decode cL_law 848 = .ok (.iload_n 3, 1) := by decide +kernel
theorem dL_law_849 : decode cL_law 849 = .ok (.iconst 1, 1) := by decide +kernel
theorem dL_law_850 : decode cL_law 850 = .ok (.iadd, 1) := by decide +kernel
theorem dL_law_851 : decode cL_law 851 = .ok (.iaload, 1) := by decide +kernel
theorem dL_law_852 : decode cL_law 852 = .ok (.aload_n 0, 1) := by decide +kernel
theorem dL_law_853 : decode cL_law 853 = .ok (.iload_n 3, 1) := by decide +kernel
theorem dL_law_854 : decode cL_law 854 = .ok (.iconst 2, 1) := by decide +kernel
theorem dL_law_855 : decode cL_law 855 = .ok (.iadd, 1) := by decide +kernel
theorem dL_law_856 : decode cL_law 856 = .ok (.iaload, 1) := by decide +kernel
theorem dL_law_857 : decode cL_law 857 = .ok (.invokevirtual 115, 3) := by decide +kernel
theorem dL_law_860 : decode cL_law 860 = .ok (.if_icmp .eq 549, 3) := by decide +kernel
theorem dL_law_863 : decode cL_law 863 = .ok (.iconst 0, 1) := by decide +kernel
theorem dL_law_864 : decode cL_law 864 = .ok (.ireturn, 1) := by decide +kernel
theorem dL_law_865 : decode cL_law 865 = .ok (.aload_n 1, 1) := by decide +kernel
theorem dL_law_866 : decode cL_law 866 = .ok (.aload_n 0, 1) := by decide +kernel
theorem dL_law_867 : decode cL_law 867 = .ok (.iload_n 3, 1) := by decide +kernel
theorem dL_law_868 : decode cL_law 868 = .ok (.iconst 1, 1) := by decide +kernel
theorem dL_law_869 : decode cL_law 869 = .ok (.iadd, 1) := by decide +kernel
theorem dL_law_870 : decode cL_law 870 = .ok (.iaload, 1) := by decide +kernel
theorem dL_law_871 : decode cL_law 871 = .ok (.invokevirtual 116, 3) := by decide +kernel
theorem dL_law_874 : decode cL_law 874 = .ok (.aload_n 2, 1) := by decide +kernel
theorem dL_law_875 : decode cL_law 875 = .ok (.aload_n 0, 1) := by decide +kernel
theorem dL_law_876 : decode cL_law 876 = .ok (.iload_n 3, 1) := by decide +kernel
theorem dL_law_877 : decode cL_law 877 = .ok (.iconst 1, 1) := by decide +kernel
theorem dL_law_878 : decode cL_law 878 = .ok (.iadd, 1) := by decide +kernel
theorem dL_law_879 : decode cL_law 879 = .ok (.iaload, 1) := by decide +kernel
theorem dL_law_880 : decode cL_law 880 = .ok (.invokevirtual 119, 3) := by decide +kernel
theorem dL_law_883 : decode cL_law 883 = .ok (.if_icmp .eq 526, 3) := by decide +kernel
theorem dL_law_886 : decode cL_law 886 = .ok (.iconst 0, 1) := by decide +kernel
theorem dL_law_887 : decode cL_law 887 = .ok (.ireturn, 1) := by decide +kernel
theorem dL_law_888 : decode cL_law 888 = .ok (.aload_n 1, 1) := by decide +kernel
theorem dL_law_889 : decode cL_law 889 = .ok (.aload_n 0, 1) := by decide +kernel
theorem dL_law_890 : decode cL_law 890 = .ok (.iload_n 3, 1) := by decide +kernel
theorem dL_law_891 : decode cL_law 891 = .ok (.iconst 1, 1) := by decide +kernel
theorem dL_law_892 : decode cL_law 892 = .ok (.iadd, 1) := by decide +kernel
theorem dL_law_893 : decode cL_law 893 = .ok (.iaload, 1) := by decide +kernel
theorem dL_law_894 : decode cL_law 894 = .ok (.invokevirtual 120, 3) := by decide +kernel
theorem dL_law_897 : decode cL_law 897 = .ok (.aload_n 2, 1) := by decide +kernel
theorem dL_law_898 : decode cL_law 898 = .ok (.aload_n 0, 1) := by decide +kernel
theorem dL_law_899 : decode cL_law 899 = .ok (.iload_n 3, 1) := by decide +kernel
theorem dL_law_900 : decode cL_law 900 = .ok (.iconst 1, 1) := by decide +kernel
theorem dL_law_901 : decode cL_law 901 = .ok (.iadd, 1) := by decide +kernel
theorem dL_law_902 : decode cL_law 902 = .ok (.iaload, 1) := by decide +kernel
theorem dL_law_903 : decode cL_law 903 = .ok (.invokevirtual 123, 3) := by decide +kernel
theorem dL_law_906 : decode cL_law 906 = .ok (.if_icmp .eq 503, 3) := by decide +kernel
theorem dL_law_909 : decode cL_law 909 = .ok (.iconst 0, 1) := by decide +kernel
theorem dL_law_910 : decode cL_law 910 = .ok (.ireturn, 1) := by decide +kernel
theorem dL_law_911 : decode cL_law 911 = .ok (.aload_n 1, 1) := by decide +kernel
theorem dL_law_912 : decode cL_law 912 = .ok (.aload_n 0, 1) := by decide +kernel
theorem dL_law_913 : decode cL_law 913 = .ok (.iload_n 3, 1) := by decide +kernel
theorem dL_law_914 : decode cL_law 914 = .ok (.iconst 1, 1) := by decide +kernel
theorem dL_law_915 : decode cL_law 915 = .ok (.iadd, 1) := by decide +kernel
theorem dL_law_916 : decode cL_law 916 = .ok (.iaload, 1) := by decide +kernel
theorem dL_law_917 : decode cL_law 917 = .ok (.aload_n 0, 1) := by decide +kernel
theorem dL_law_918 : decode cL_law 918 = .ok (.iload_n 3, 1) := by decide +kernel
theorem dL_law_919 : decode cL_law 919 = .ok (.iconst 2, 1) := by decide +kernel
theorem dL_law_920 : decode cL_law 920 = .ok (.iadd, 1) := by decide +kernel
theorem dL_law_921 : decode cL_law 921 = .ok (.iaload, 1) := by decide +kernel
theorem dL_law_922 : decode cL_law 922 = .ok (.invokevirtual 124, 3) := by decide +kernel
theorem dL_law_925 : decode cL_law 925 = .ok (.aload_n 2, 1) := by decide +kernel
theorem dL_law_926 : decode cL_law 926 = .ok (.aload_n 0, 1) := by decide +kernel
theorem dL_law_927 : decode cL_law 927 = .ok (.iload_n 3, 1) := by decide +kernel
theorem dL_law_928 : decode cL_law 928 = .ok (.iconst 1, 1) := by decide +kernel
theorem dL_law_929 : decode cL_law 929 = .ok (.iadd, 1) := by decide +kernel
theorem dL_law_930 : decode cL_law 930 = .ok (.iaload, 1) := by decide +kernel
theorem dL_law_931 : decode cL_law 931 = .ok (.aload_n 0, 1) := by decide +kernel
theorem dL_law_932 : decode cL_law 932 = .ok (.iload_n 3, 1) := by decide +kernel
theorem dL_law_933 : decode cL_law 933 = .ok (.iconst 2, 1) := by decide +kernel
theorem dL_law_934 : decode cL_law 934 = .ok (.iadd, 1) := by decide +kernel
theorem dL_law_935 : decode cL_law 935 = .ok (.iaload, 1) := by decide +kernel
theorem dL_law_936 : decode cL_law 936 = .ok (.invokevirtual 127, 3) := by decide +kernel
theorem dL_law_939 : decode cL_law 939 = .ok (.if_icmp .eq 470, 3) := by decide +kernel
theorem dL_law_942 : decode cL_law 942 = .ok (.iconst 0, 1) := by decide +kernel
theorem dL_law_943 : decode cL_law 943 = .ok (.ireturn, 1) := by decide +kernel
theorem dL_law_944 : decode cL_law 944 = .ok (.aload_n 1, 1) := by decide +kernel
theorem dL_law_945 : decode cL_law 945 = .ok (.aload_n 0, 1) := by decide +kernel
theorem dL_law_946 : decode cL_law 946 = .ok (.iload_n 3, 1) := by decide +kernel
theorem dL_law_947 : decode cL_law 947 = .ok (.iconst 1, 1) := by decide +kernel
theorem dL_law_948 : decode cL_law 948 = .ok (.iadd, 1) := by decide +kernel
theorem dL_law_949 : decode cL_law 949 = .ok (.iaload, 1) := by decide +kernel
theorem dL_law_950 : decode cL_law 950 = .ok (.aload_n 0, 1) := by decide +kernel
theorem dL_law_951 : decode cL_law 951 = .ok (.iload_n 3, 1) := by decide +kernel
theorem dL_law_952 : decode cL_law 952 = .ok (.iconst 2, 1) := by decide +kernel
theorem dL_law_953 : decode cL_law 953 = .ok (.iadd, 1) := by decide +kernel
theorem dL_law_954 : decode cL_law 954 = .ok (.iaload, 1) := by decide +kernel
theorem dL_law_955 : decode cL_law 955 = .ok (.aload_n 0, 1) := by decide +kernel
theorem dL_law_956 : decode cL_law 956 = .ok (.iload_n 3, 1) := by decide +kernel
theorem dL_law_957 : decode cL_law 957 = .ok (.iconst 3, 1) := by decide +kernel
theorem dL_law_958 : decode cL_law 958 = .ok (.iadd, 1) := by decide +kernel
theorem dL_law_959 : decode cL_law 959 = .ok (.iaload, 1) := by decide +kernel
theorem dL_law_960 : decode cL_law 960 = .ok (.aload_n 0, 1) := by decide +kernel
theorem dL_law_961 : decode cL_law 961 = .ok (.iload_n 3, 1) := by decide +kernel
theorem dL_law_962 : decode cL_law 962 = .ok (.iconst 4, 1) := by decide +kernel
theorem dL_law_963 : decode cL_law 963 = .ok (.iadd, 1) := by decide +kernel
theorem dL_law_964 : decode cL_law 964 = .ok (.iaload, 1) := by decide +kernel
theorem dL_law_965 : decode cL_law 965 = .ok (.invokevirtual 128, 3) := by decide +kernel
theorem dL_law_968 : decode cL_law 968 = .ok (.aload_n 2, 1) := by decide +kernel
theorem dL_law_969 : decode cL_law 969 = .ok (.aload_n 0, 1) := by decide +kernel
theorem dL_law_970 : decode cL_law 970 = .ok (.iload_n 3, 1) := by decide +kernel
theorem dL_law_971 : decode cL_law 971 = .ok (.iconst 1, 1) := by decide +kernel
theorem dL_law_972 : decode cL_law 972 = .ok (.iadd, 1) := by decide +kernel
theorem dL_law_973 : decode cL_law 973 = .ok (.iaload, 1) := by decide +kernel
theorem dL_law_974 : decode cL_law 974 = .ok (.aload_n 0, 1) := by decide +kernel
theorem dL_law_975 : decode cL_law 975 = .ok (.iload_n 3, 1) := by decide +kernel
theorem dL_law_976 : decode cL_law 976 = .ok (.iconst 2, 1) := by decide +kernel
theorem dL_law_977 : decode cL_law 977 = .ok (.iadd, 1) := by decide +kernel
theorem dL_law_978 : decode cL_law 978 = .ok (.iaload, 1) := by decide +kernel
theorem dL_law_979 : decode cL_law 979 = .ok (.aload_n 0, 1) := by decide +kernel
theorem dL_law_980 : decode cL_law 980 = .ok (.iload_n 3, 1) := by decide +kernel
theorem dL_law_981 : decode cL_law 981 = .ok (.iconst 3, 1) := by decide +kernel
theorem dL_law_982 : decode cL_law 982 = .ok (.iadd, 1) := by decide +kernel
theorem dL_law_983 : decode cL_law 983 = .ok (.iaload, 1) := by decide +kernel
theorem dL_law_984 : decode cL_law 984 = .ok (.aload_n 0, 1) := by decide +kernel
theorem dL_law_985 : decode cL_law 985 = .ok (.iload_n 3, 1) := by decide +kernel
theorem dL_law_986 : decode cL_law 986 = .ok (.iconst 4, 1) := by decide +kernel
theorem dL_law_987 : decode cL_law 987 = .ok (.iadd, 1) := by decide +kernel
theorem dL_law_988 : decode cL_law 988 = .ok (.iaload, 1) := by decide +kernel
theorem dL_law_989 : decode cL_law 989 = .ok (.invokevirtual 132, 3) := by decide +kernel
theorem dL_law_992 : decode cL_law 992 = .ok (.if_icmp .eq 417, 3) := by decide +kernel
theorem dL_law_995 : decode cL_law 995 = .ok (.iconst 0, 1) := by decide +kernel
theorem dL_law_996 : decode cL_law 996 = .ok (.ireturn, 1) := by decide +kernel
theorem dL_law_997 : decode cL_law 997 = .ok (.aload_n 1, 1) := by decide +kernel
theorem dL_law_998 : decode cL_law 998 = .ok (.aload_n 0, 1) := by decide +kernel
theorem dL_law_999 : decode cL_law 999 = .ok (.iload_n 3, 1) := by decide +kernel
theorem dL_law_1000 : decode cL_law 1000 = .ok (.iconst 1, 1) := by decide +kernel
theorem dL_law_1001 : decode cL_law 1001 = .ok (.iadd, 1) := by decide +kernel
theorem dL_law_1002 : decode cL_law 1002 = .ok (.iaload, 1) := by decide +kernel
theorem dL_law_1003 : decode cL_law 1003 = .ok (.aload_n 0, 1) := by decide +kernel
theorem dL_law_1004 : decode cL_law 1004 = .ok (.iload_n 3, 1) := by decide +kernel
theorem dL_law_1005 : decode cL_law 1005 = .ok (.iconst 2, 1) := by decide +kernel
theorem dL_law_1006 : decode cL_law 1006 = .ok (.iadd, 1) := by decide +kernel
theorem dL_law_1007 : decode cL_law 1007 = .ok (.iaload, 1) := by decide +kernel
theorem dL_law_1008 : decode cL_law 1008 = .ok (.aload_n 0, 1) := by decide +kernel
theorem dL_law_1009 : decode cL_law 1009 = .ok (.iload_n 3, 1) := by decide +kernel
theorem dL_law_1010 : decode cL_law 1010 = .ok (.iconst 3, 1) := by decide +kernel
theorem dL_law_1011 : decode cL_law 1011 = .ok (.iadd, 1) := by decide +kernel
theorem dL_law_1012 : decode cL_law 1012 = .ok (.iaload, 1) := by decide +kernel
theorem dL_law_1013 : decode cL_law 1013 = .ok (.invokevirtual 133, 3) := by decide +kernel
theorem dL_law_1016 : decode cL_law 1016 = .ok (.aload_n 2, 1) := by decide +kernel
theorem dL_law_1017 : decode cL_law 1017 = .ok (.aload_n 0, 1) := by decide +kernel
theorem dL_law_1018 : decode cL_law 1018 = .ok (.iload_n 3, 1) := by decide +kernel
theorem dL_law_1019 : decode cL_law 1019 = .ok (.iconst 1, 1) := by decide +kernel
theorem dL_law_1020 : decode cL_law 1020 = .ok (.iadd, 1) := by decide +kernel
theorem dL_law_1021 : decode cL_law 1021 = .ok (.iaload, 1) := by decide +kernel
theorem dL_law_1022 : decode cL_law 1022 = .ok (.aload_n 0, 1) := by decide +kernel
theorem dL_law_1023 : decode cL_law 1023 = .ok (.iload_n 3, 1) := by decide +kernel
theorem dL_law_1024 : decode cL_law 1024 = .ok (.iconst 2, 1) := by decide +kernel
theorem dL_law_1025 : decode cL_law 1025 = .ok (.iadd, 1) := by decide +kernel
theorem dL_law_1026 : decode cL_law 1026 = .ok (.iaload, 1) := by decide +kernel
theorem dL_law_1027 : decode cL_law 1027 = .ok (.aload_n 0, 1) := by decide +kernel
theorem dL_law_1028 : decode cL_law 1028 = .ok (.iload_n 3, 1) := by decide +kernel
theorem dL_law_1029 : decode cL_law 1029 = .ok (.iconst 3, 1) := by decide +kernel
theorem dL_law_1030 : decode cL_law 1030 = .ok (.iadd, 1) := by decide +kernel
theorem dL_law_1031 : decode cL_law 1031 = .ok (.iaload, 1) := by decide +kernel
theorem dL_law_1032 : decode cL_law 1032 = .ok (.invokevirtual 137, 3) := by decide +kernel
theorem dL_law_1035 : decode cL_law 1035 = .ok (.if_icmp .eq 374, 3) := by decide +kernel
theorem dL_law_1038 : decode cL_law 1038 = .ok (.iconst 0, 1) := by decide +kernel
theorem dL_law_1039 : decode cL_law 1039 = .ok (.ireturn, 1) := by decide +kernel
theorem dL_law_1040 : decode cL_law 1040 = .ok (.aload_n 1, 1) := by decide +kernel
theorem dL_law_1041 : decode cL_law 1041 = .ok (.aload_n 0, 1) := by decide +kernel
theorem dL_law_1042 : decode cL_law 1042 = .ok (.iload_n 3, 1) := by decide +kernel
theorem dL_law_1043 : decode cL_law 1043 = .ok (.iconst 1, 1) := by decide +kernel
theorem dL_law_1044 : decode cL_law 1044 = .ok (.iadd, 1) := by decide +kernel
theorem dL_law_1045 : decode cL_law 1045 = .ok (.iaload, 1) := by decide +kernel
theorem dL_law_1046 : decode cL_law 1046 = .ok (.invokevirtual 138, 3) := by decide +kernel
theorem dL_law_1049 : decode cL_law 1049 = .ok (.aload_n 2, 1) := by decide +kernel
theorem dL_law_1050 : decode cL_law 1050 = .ok (.aload_n 0, 1) := by decide +kernel
theorem dL_law_1051 : decode cL_law 1051 = .ok (.iload_n 3, 1) := by decide +kernel
theorem dL_law_1052 : decode cL_law 1052 = .ok (.iconst 1, 1) := by decide +kernel
theorem dL_law_1053 : decode cL_law 1053 = .ok (.iadd, 1) := by decide +kernel
theorem dL_law_1054 : decode cL_law 1054 = .ok (.iaload, 1) := by decide +kernel
theorem dL_law_1055 : decode cL_law 1055 = .ok (.invokevirtual 141, 3) := by decide +kernel
theorem dL_law_1058 : decode cL_law 1058 = .ok (.if_icmp .eq 351, 3) := by decide +kernel
theorem dL_law_1061 : decode cL_law 1061 = .ok (.iconst 0, 1) := by decide +kernel
theorem dL_law_1062 : decode cL_law 1062 = .ok (.ireturn, 1) := by decide +kernel
theorem dL_law_1063 : decode cL_law 1063 = .ok (.aload_n 1, 1) := by decide +kernel
theorem dL_law_1064 : decode cL_law 1064 = .ok (.aload_n 0, 1) := by decide +kernel
theorem dL_law_1065 : decode cL_law 1065 = .ok (.iload_n 3, 1) := by decide +kernel
theorem dL_law_1066 : decode cL_law 1066 = .ok (.iconst 1, 1) := by decide +kernel
theorem dL_law_1067 : decode cL_law 1067 = .ok (.iadd, 1) := by decide +kernel
theorem dL_law_1068 : decode cL_law 1068 = .ok (.iaload, 1) := by decide +kernel
theorem dL_law_1069 : decode cL_law 1069 = .ok (.aload_n 0, 1) := by decide +kernel
theorem dL_law_1070 : decode cL_law 1070 = .ok (.iload_n 3, 1) := by decide +kernel
theorem dL_law_1071 : decode cL_law 1071 = .ok (.iconst 2, 1) := by decide +kernel
theorem dL_law_1072 : decode cL_law 1072 = .ok (.iadd, 1) := by decide +kernel
theorem dL_law_1073 : decode cL_law 1073 = .ok (.iaload, 1) := by decide +kernel
theorem dL_law_1074 : decode cL_law 1074 = .ok (.invokevirtual 142, 3) := by decide +kernel
theorem dL_law_1077 : decode cL_law 1077 = .ok (.aload_n 2, 1) := by decide +kernel
theorem dL_law_1078 : decode cL_law 1078 = .ok (.aload_n 0, 1) := by decide +kernel
theorem dL_law_1079 : decode cL_law 1079 = .ok (.iload_n 3, 1) := by decide +kernel
theorem dL_law_1080 : decode cL_law 1080 = .ok (.iconst 1, 1) := by decide +kernel
theorem dL_law_1081 : decode cL_law 1081 = .ok (.iadd, 1) := by decide +kernel
theorem dL_law_1082 : decode cL_law 1082 = .ok (.iaload, 1) := by decide +kernel
theorem dL_law_1083 : decode cL_law 1083 = .ok (.aload_n 0, 1) := by decide +kernel
theorem dL_law_1084 : decode cL_law 1084 = .ok (.iload_n 3, 1) := by decide +kernel
theorem dL_law_1085 : decode cL_law 1085 = .ok (.iconst 2, 1) := by decide +kernel
theorem dL_law_1086 : decode cL_law 1086 = .ok (.iadd, 1) := by decide +kernel
theorem dL_law_1087 : decode cL_law 1087 = .ok (.iaload, 1) := by decide +kernel
theorem dL_law_1088 : decode cL_law 1088 = .ok (.invokevirtual 145, 3) := by decide +kernel
theorem dL_law_1091 : decode cL_law 1091 = .ok (.if_icmp .eq 318, 3) := by decide +kernel
theorem dL_law_1094 : decode cL_law 1094 = .ok (.iconst 0, 1) := by decide +kernel
theorem dL_law_1095 : decode cL_law 1095 = .ok (.ireturn, 1) := by decide +kernel
theorem dL_law_1096 : decode cL_law 1096 = .ok (.aload_n 1, 1) := by decide +kernel
theorem dL_law_1097 : decode cL_law 1097 = .ok (.aload_n 0, 1) := by decide +kernel
theorem dL_law_1098 : decode cL_law 1098 = .ok (.iload_n 3, 1) := by decide +kernel
theorem dL_law_1099 : decode cL_law 1099 = .ok (.iconst 1, 1) := by decide +kernel
theorem dL_law_1100 : decode cL_law 1100 = .ok (.iadd, 1) := by decide +kernel
theorem dL_law_1101 : decode cL_law 1101 = .ok (.iaload, 1) := by decide +kernel
theorem dL_law_1102 : decode cL_law 1102 = .ok (.aload_n 0, 1) := by decide +kernel
theorem dL_law_1103 : decode cL_law 1103 = .ok (.iload_n 3, 1) := by decide +kernel
theorem dL_law_1104 : decode cL_law 1104 = .ok (.iconst 2, 1) := by decide +kernel
theorem dL_law_1105 : decode cL_law 1105 = .ok (.iadd, 1) := by decide +kernel
theorem dL_law_1106 : decode cL_law 1106 = .ok (.iaload, 1) := by decide +kernel
theorem dL_law_1107 : decode cL_law 1107 = .ok (.invokevirtual 146, 3) := by decide +kernel
theorem dL_law_1110 : decode cL_law 1110 = .ok (.aload_n 2, 1) := by decide +kernel
theorem dL_law_1111 : decode cL_law 1111 = .ok (.aload_n 0, 1) := by decide +kernel
theorem dL_law_1112 : decode cL_law 1112 = .ok (.iload_n 3, 1) := by decide +kernel
theorem dL_law_1113 : decode cL_law 1113 = .ok (.iconst 1, 1) := by decide +kernel
theorem dL_law_1114 : decode cL_law 1114 = .ok (.iadd, 1) := by decide +kernel
theorem dL_law_1115 : decode cL_law 1115 = .ok (.iaload, 1) := by decide +kernel
theorem dL_law_1116 : decode cL_law 1116 = .ok (.aload_n 0, 1) := by decide +kernel
theorem dL_law_1117 : decode cL_law 1117 = .ok (.iload_n 3, 1) := by decide +kernel
theorem dL_law_1118 : decode cL_law 1118 = .ok (.iconst 2, 1) := by decide +kernel
theorem dL_law_1119 : decode cL_law 1119 = .ok (.iadd, 1) := by decide +kernel
theorem dL_law_1120 : decode cL_law 1120 = .ok (.iaload, 1) := by decide +kernel
theorem dL_law_1121 : decode cL_law 1121 = .ok (.invokevirtual 149, 3) := by decide +kernel
theorem dL_law_1124 : decode cL_law 1124 = .ok (.if_icmp .eq 285, 3) := by decide +kernel
theorem dL_law_1127 : decode cL_law 1127 = .ok (.iconst 0, 1) := by decide +kernel
theorem dL_law_1128 : decode cL_law 1128 = .ok (.ireturn, 1) := by decide +kernel
theorem dL_law_1129 : decode cL_law 1129 = .ok (.aload_n 1, 1) := by decide +kernel
theorem dL_law_1130 : decode cL_law 1130 = .ok (.aload_n 0, 1) := by decide +kernel
theorem dL_law_1131 : decode cL_law 1131 = .ok (.iload_n 3, 1) := by decide +kernel
theorem dL_law_1132 : decode cL_law 1132 = .ok (.iconst 1, 1) := by decide +kernel
theorem dL_law_1133 : decode cL_law 1133 = .ok (.iadd, 1) := by decide +kernel
theorem dL_law_1134 : decode cL_law 1134 = .ok (.iaload, 1) := by decide +kernel
theorem dL_law_1135 : decode cL_law 1135 = .ok (.aload_n 0, 1) := by decide +kernel
theorem dL_law_1136 : decode cL_law 1136 = .ok (.iload_n 3, 1) := by decide +kernel
theorem dL_law_1137 : decode cL_law 1137 = .ok (.iconst 2, 1) := by decide +kernel
theorem dL_law_1138 : decode cL_law 1138 = .ok (.iadd, 1) := by decide +kernel
theorem dL_law_1139 : decode cL_law 1139 = .ok (.iaload, 1) := by decide +kernel
theorem dL_law_1140 : decode cL_law 1140 = .ok (.aload_n 0, 1) := by decide +kernel
theorem dL_law_1141 : decode cL_law 1141 = .ok (.iload_n 3, 1) := by decide +kernel
theorem dL_law_1142 : decode cL_law 1142 = .ok (.iconst 3, 1) := by decide +kernel
theorem dL_law_1143 : decode cL_law 1143 = .ok (.iadd, 1) := by decide +kernel
theorem dL_law_1144 : decode cL_law 1144 = .ok (.iaload, 1) := by decide +kernel
theorem dL_law_1145 : decode cL_law 1145 = .ok (.invokevirtual 150, 3) := by decide +kernel
theorem dL_law_1148 : decode cL_law 1148 = .ok (.aload_n 2, 1) := by decide +kernel
theorem dL_law_1149 : decode cL_law 1149 = .ok (.aload_n 0, 1) := by decide +kernel
theorem dL_law_1150 : decode cL_law 1150 = .ok (.iload_n 3, 1) := by decide +kernel
theorem dL_law_1151 : decode cL_law 1151 = .ok (.iconst 1, 1) := by decide +kernel
theorem dL_law_1152 : decode cL_law 1152 = .ok (.iadd, 1) := by decide +kernel
theorem dL_law_1153 : decode cL_law 1153 = .ok (.iaload, 1) := by decide +kernel
theorem dL_law_1154 : decode cL_law 1154 = .ok (.aload_n 0, 1) := by decide +kernel
theorem dL_law_1155 : decode cL_law 1155 = .ok (.iload_n 3, 1) := by decide +kernel
theorem dL_law_1156 : decode cL_law 1156 = .ok (.iconst 2, 1) := by decide +kernel
theorem dL_law_1157 : decode cL_law 1157 = .ok (.iadd, 1) := by decide +kernel
theorem dL_law_1158 : decode cL_law 1158 = .ok (.iaload, 1) := by decide +kernel
theorem dL_law_1159 : decode cL_law 1159 = .ok (.aload_n 0, 1) := by decide +kernel
theorem dL_law_1160 : decode cL_law 1160 = .ok (.iload_n 3, 1) := by decide +kernel
theorem dL_law_1161 : decode cL_law 1161 = .ok (.iconst 3, 1) := by decide +kernel
theorem dL_law_1162 : decode cL_law 1162 = .ok (.iadd, 1) := by decide +kernel
theorem dL_law_1163 : decode cL_law 1163 = .ok (.iaload, 1) := by decide +kernel
theorem dL_law_1164 : decode cL_law 1164 = .ok (.invokevirtual 153, 3) := by decide +kernel
theorem dL_law_1167 : decode cL_law 1167 = .ok (.if_icmp .eq 242, 3) := by decide +kernel
theorem dL_law_1170 : decode cL_law 1170 = .ok (.iconst 0, 1) := by decide +kernel
theorem dL_law_1171 : decode cL_law 1171 = .ok (.ireturn, 1) := by decide +kernel
theorem dL_law_1172 : decode cL_law 1172 = .ok (.aload_n 1, 1) := by decide +kernel
theorem dL_law_1173 : decode cL_law 1173 = .ok (.aload_n 0, 1) := by decide +kernel
theorem dL_law_1174 : decode cL_law 1174 = .ok (.iload_n 3, 1) := by decide +kernel
theorem dL_law_1175 : decode cL_law 1175 = .ok (.iconst 1, 1) := by decide +kernel
theorem dL_law_1176 : decode cL_law 1176 = .ok (.iadd, 1) := by decide +kernel
theorem dL_law_1177 : decode cL_law 1177 = .ok (.iaload, 1) := by decide +kernel
theorem dL_law_1178 : decode cL_law 1178 = .ok (.aload_n 0, 1) := by decide +kernel
theorem dL_law_1179 : decode cL_law 1179 = .ok (.iload_n 3, 1) := by decide +kernel
theorem dL_law_1180 : decode cL_law 1180 = .ok (.iconst 2, 1) := by decide +kernel
theorem dL_law_1181 : decode cL_law 1181 = .ok (.iadd, 1) := by decide +kernel
theorem dL_law_1182 : decode cL_law 1182 = .ok (.iaload, 1) := by decide +kernel
theorem dL_law_1183 : decode cL_law 1183 = .ok (.aload_n 0, 1) := by decide +kernel
theorem dL_law_1184 : decode cL_law 1184 = .ok (.iload_n 3, 1) := by decide +kernel
theorem dL_law_1185 : decode cL_law 1185 = .ok (.iconst 3, 1) := by decide +kernel
theorem dL_law_1186 : decode cL_law 1186 = .ok (.iadd, 1) := by decide +kernel
theorem dL_law_1187 : decode cL_law 1187 = .ok (.iaload, 1) := by decide +kernel
theorem dL_law_1188 : decode cL_law 1188 = .ok (.invokevirtual 154, 3) := by decide +kernel
theorem dL_law_1191 : decode cL_law 1191 = .ok (.aload_n 2, 1) := by decide +kernel
theorem dL_law_1192 : decode cL_law 1192 = .ok (.aload_n 0, 1) := by decide +kernel
theorem dL_law_1193 : decode cL_law 1193 = .ok (.iload_n 3, 1) := by decide +kernel
theorem dL_law_1194 : decode cL_law 1194 = .ok (.iconst 1, 1) := by decide +kernel
theorem dL_law_1195 : decode cL_law 1195 = .ok (.iadd, 1) := by decide +kernel
theorem dL_law_1196 : decode cL_law 1196 = .ok (.iaload, 1) := by decide +kernel
theorem dL_law_1197 : decode cL_law 1197 = .ok (.aload_n 0, 1) := by decide +kernel
theorem dL_law_1198 : decode cL_law 1198 = .ok (.iload_n 3, 1) := by decide +kernel
theorem dL_law_1199 : decode cL_law 1199 = .ok (.iconst 2, 1) := by decide +kernel
theorem dL_law_1200 : decode cL_law 1200 = .ok (.iadd, 1) := by decide +kernel
theorem dL_law_1201 : decode cL_law 1201 = .ok (.iaload, 1) := by decide +kernel
theorem dL_law_1202 : decode cL_law 1202 = .ok (.aload_n 0, 1) := by decide +kernel
theorem dL_law_1203 : decode cL_law 1203 = .ok (.iload_n 3, 1) := by decide +kernel
theorem dL_law_1204 : decode cL_law 1204 = .ok (.iconst 3, 1) := by decide +kernel
theorem dL_law_1205 : decode cL_law 1205 = .ok (.iadd, 1) := by decide +kernel
theorem dL_law_1206 : decode cL_law 1206 = .ok (.iaload, 1) := by decide +kernel
theorem dL_law_1207 : decode cL_law 1207 = .ok (.invokevirtual 157, 3) := by decide +kernel
theorem dL_law_1210 : decode cL_law 1210 = .ok (.if_icmp .eq 199, 3) := by decide +kernel
theorem dL_law_1213 : decode cL_law 1213 = .ok (.iconst 0, 1) := by decide +kernel
theorem dL_law_1214 : decode cL_law 1214 = .ok (.ireturn, 1) := by decide +kernel
theorem dL_law_1215 : decode cL_law 1215 = .ok (.aload_n 1, 1) := by decide +kernel
theorem dL_law_1216 : decode cL_law 1216 = .ok (.aload_n 0, 1) := by decide +kernel
theorem dL_law_1217 : decode cL_law 1217 = .ok (.iload_n 3, 1) := by decide +kernel
theorem dL_law_1218 : decode cL_law 1218 = .ok (.iconst 1, 1) := by decide +kernel
theorem dL_law_1219 : decode cL_law 1219 = .ok (.iadd, 1) := by decide +kernel
theorem dL_law_1220 : decode cL_law 1220 = .ok (.iaload, 1) := by decide +kernel
