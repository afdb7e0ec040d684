theorem dX8_init_0 : decode cX8_init 0 = .ok (.aload_n 0, 1) := by decide +kernel
theorem dX8_init_1 : decode cX8_init 1 = .ok (.invokespecial 1, 3) := by decide +kernel
theorem dX8_init_4 : decode cX8_init 4 = .ok (.aload_n 0, 1) := by decide +kernel
theorem dX8_init_5 : decode cX8_init 5 = .ok (.new 7, 3) := by decide +kernel
theorem dX8_init_8 : decode cX8_init 8 = .ok (.dup, 1) := by decide +kernel
theorem dX8_init_9 : decode cX8_init 9 = .ok (.invokespecial 9, 3) := by decide +kernel
theorem dX8_init_12 : decode cX8_init 12 = .ok (.putfield 10, 3) := by decide +kernel
theorem dX8_init_15 : decode cX8_init 15 = .ok (.aload_n 0, 1) := by decide +kernel
theorem dX8_init_16 : decode cX8_init 16 = .ok (.new 16, 3) := by decide +kernel
theorem dX8_init_19 : decode cX8_init 19 = .ok (.dup, 1) := by decide +kernel
theorem dX8_init_20 : decode cX8_init 20 = .ok (.invokespecial 18, 3) := by decide +kernel
theorem dX8_init_23 : decode cX8_init 23 = .ok (.putfield 19, 3) := by decide +kernel
theorem dX8_init_26 : decode cX8_init 26 = .ok (.aload_n 0, 1) := by decide +kernel
theorem dX8_init_27 : decode cX8_init 27 = .ok (.new 23, 3) := by decide +kernel
theorem dX8_init_30 : decode cX8_init 30 = .ok (.dup, 1) := by decide +kernel
theorem dX8_init_31 : decode cX8_init 31 = .ok (.invokespecial 25, 3) := by decide +kernel
theorem dX8_init_34 : decode cX8_init 34 = .ok (.putfield 26, 3) := by decide +kernel
theorem dX8_init_37 : decode cX8_init 37 = .ok (.aload_n 0, 1) := by decide +kernel
theorem dX8_init_38 : decode cX8_init 38 = .ok (.new 30, 3) := by decide +kernel
theorem dX8_init_41 : decode cX8_init 41 = .ok (.dup, 1) := by decide +kernel
theorem dX8_init_42 : decode cX8_init 42 = .ok (.invokespecial 32, 3) := by decide +kernel
theorem dX8_init_45 : decode cX8_init 45 = .ok (.putfield 33, 3) := by decide +kernel
theorem dX8_init_48 : decode cX8_init 48 = .ok (.aload_n 0, 1) := by decide +kernel
theorem dX8_init_49 : decode cX8_init 49 = .ok (.new 37, 3) := by decide +kernel
theorem dX8_init_52 : decode cX8_init 52 = .ok (.dup, 1) := by decide +kernel
theorem dX8_init_53 : decode cX8_init 53 = .ok (.invokespecial 39, 3) := by decide +kernel
theorem dX8_init_56 : decode cX8_init 56 = .ok (.putfield 40, 3) := by decide +kernel
theorem dX8_init_59 : decode cX8_init 59 = .ok (.aload_n 0, 1) := by decide +kernel
theorem dX8_init_60 : decode cX8_init 60 = .ok (.new 44, 3) := by decide +kernel
theorem dX8_init_63 : decode cX8_init 63 = .ok (.dup, 1) := by decide +kernel
theorem dX8_init_64 : decode cX8_init 64 = .ok (.invokespecial 46, 3) := by decide +kernel
theorem dX8_init_67 : decode cX8_init 67 = .ok (.putfield 47, 3) := by decide +kernel
theorem dX8_init_70 : decode cX8_init 70 = .ok (.aload_n 0, 1) := by decide +kernel
theorem dX8_init_71 : decode cX8_init 71 = .ok (.iconst 5, 1) := by decide +kernel
theorem dX8_init_72 : decode cX8_init 72 = .ok (.newarray .int, 2) := by decide +kernel
theorem dX8_init_74 : decode cX8_init 74 = .ok (.dup, 1) := by decide +kernel
theorem dX8_init_75 : decode cX8_init 75 = .ok (.iconst 0, 1) := by decide +kernel
theorem dX8_init_76 : decode cX8_init 76 = .ok (.iconst 4, 1) := by decide +kernel
theorem dX8_init_77 : decode cX8_init 77 = .ok (.iastore, 1) := by decide +kernel
theorem dX8_init_78 : decode cX8_init 78 = .ok (.dup, 1) := by decide +kernel
theorem dX8_init_79 : decode cX8_init 79 = .ok (.iconst 1, 1) := by decide +kernel
theorem dX8_init_80 : decode cX8_init 80 = .ok (.iconst 4, 1) := by decide +kernel
theorem dX8_init_81 : decode cX8_init 81 = .ok (.iastore, 1) := by decide +kernel
theorem dX8_init_82 : decode cX8_init 82 = .ok (.dup, 1) := by decide +kernel
theorem dX8_init_83 : decode cX8_init 83 = .ok (.iconst 2, 1) := by decide +kernel
theorem dX8_init_84 : decode cX8_init 84 = .ok (.iconst 4, 1) := by decide +kernel
theorem dX8_init_85 : decode cX8_init 85 = .ok (.iastore, 1) := by decide +kernel
theorem dX8_init_86 : decode cX8_init 86 = .ok (.dup, 1) := by decide +kernel
theorem dX8_init_87 : decode cX8_init 87 = .ok (.iconst 3, 1) := by decide +kernel
theorem dX8_init_88 : decode cX8_init 88 = .ok (.iconst 4, 1) := by decide +kernel
theorem dX8_init_89 : decode cX8_init 89 = .ok (.iastore, 1) := by decide +kernel
theorem dX8_init_90 : decode cX8_init 90 = .ok (.dup, 1) := by decide +kernel
theorem dX8_init_91 : decode cX8_init 91 = .ok (.iconst 4, 1) := by decide +kernel
theorem dX8_init_92 : decode cX8_init 92 = .ok (.iconst 4, 1) := by decide +kernel
theorem dX8_init_93 : decode cX8_init 93 = .ok (.iastore, 1) := by decide +kernel
theorem dX8_init_94 : decode cX8_init 94 = .ok (.putfield 51, 3) := by decide +kernel
theorem dX8_init_97 : decode cX8_init 97 = .ok (.aload_n 0, 1) := by decide +kernel
theorem dX8_init_98 : decode cX8_init 98 = .ok (.new 55, 3) := by decide +kernel
theorem dX8_init_101 : decode cX8_init 101 = .ok (.dup, 1) := by decide +kernel
theorem dX8_init_102 : decode cX8_init 102 = .ok (.invokespecial 57, 3) := by decide +kernel
theorem dX8_init_105 : decode cX8_init 105 = .ok (.putfield 58, 3) := by decide +kernel
theorem dX8_init_108 : decode cX8_init 108 = .ok (.aload_n 0, 1) := by decide +kernel
theorem dX8_init_109 : decode cX8_init 109 = .ok (.iconst 4, 1) := by decide +kernel
theorem dX8_init_110 : decode cX8_init 110 = .ok (.newarray .int, 2) := by decide +kernel
theorem dX8_init_112 : decode cX8_init 112 = .ok (.putfield 62, 3) := by decide +kernel
theorem dX8_init_115 : decode cX8_init 115 = .ok (.aload_n 0, 1) := by decide +kernel
theorem dX8_init_116 : decode cX8_init 116 = .ok (.iconst 4, 1) := by decide +kernel
theorem dX8_init_117 : decode cX8_init 117 = .ok (.newarray .int, 2) := by decide +kernel
theorem dX8_init_119 : decode cX8_init 119 = .ok (.putfield 65, 3) := by decide +kernel
theorem dX8_init_122 : decode cX8_init 122 = .ok (.aload_n 0, 1) := by decide +kernel
theorem dX8_init_123 : decode cX8_init 123 = .ok (.iconst 4, 1) := by decide +kernel
theorem dX8_init_124 : decode cX8_init 124 = .ok (.anewarray 68, 3) := by decide +kernel
theorem dX8_init_127 : decode cX8_init 127 = .ok (.putfield 70, 3) := by decide +kernel
theorem dX8_init_130 : decode cX8_init 130 = .ok (.iconst 0, 1) := by decide +kernel
theorem dX8_init_131 : decode cX8_init 131 = .ok (.istore_n 1, 1) := by decide +kernel
theorem dX8_init_132 : decode cX8_init 132 = .ok (.iload_n 1, 1) := by decide +kernel
theorem dX8_init_133 : decode cX8_init 133 = .ok (.iconst 4, 1) := by decide +kernel
theorem dX8_init_134 : decode cX8_init 134 = .ok (.if_icmp .ge 22, 3) := by decide +kernel
theorem dX8_init_137 : decode cX8_init 137 = .ok (.aload_n 0, 1) := by decide +kernel
theorem dX8_init_138 : decode cX8_init 138 = .ok (.getfield 70, 3) := by decide +kernel
theorem dX8_init_141 : decode cX8_init 141 = .ok (.iload_n 1, 1) := by decide +kernel
theorem dX8_init_142 : decode cX8_init 142 = .ok (.new 68, 3) := by decide +kernel
theorem dX8_init_145 : decode cX8_init 145 = .ok (.dup, 1) := by decide +kernel
theorem dX8_init_146 : decode cX8_init 146 = .ok (.invokespecial 74, 3) := by decide +kernel
theorem dX8_init_149 : decode cX8_init 149 = .ok (.aastore, 1) := by decide +kernel
theorem dX8_init_150 : decode cX8_init 150 = .ok (.iinc 1 1, 3) := by decide +kernel
theorem dX8_init_153 : decode cX8_init 153 = .ok (.goto (-21), 3) := by decide +kernel
theorem dX8_init_156 : decode cX8_init 156 = .ok (.aload_n 0, 1) := by decide +kernel
theorem dX8_init_157 : decode cX8_init 157 = .ok (.iconst 0, 1) := by decide +kernel
theorem dX8_init_158 : decode cX8_init 158 = .ok (.putfield 75, 3) := by decide +kernel
theorem dX8_init_161 : decode cX8_init 161 = .ok (.return_, 1) := by decide +kernel
theorem dX8_ask_0 : decode cX8_ask 0 = .ok (.iload_n 2, 1) := by decide +kernel
theorem dX8_ask_1 : decode cX8_ask 1 = .ok (.iconst 0, 1) := by decide +kernel
theorem dX8_ask_2 : decode cX8_ask 2 = .ok (.bipush 31, 2) := by decide +kernel
theorem dX8_ask_4 : decode cX8_ask 4 = .ok (.invokestatic 79, 3) := by decide +kernel
theorem dX8_ask_7 : decode cX8_ask 7 = .ok (.ifCond .eq 17, 3) := by decide +kernel
theorem dX8_ask_10 : decode cX8_ask 10 = .ok (.iload_n 3, 1) := by decide +kernel
theorem dX8_ask_11 : decode cX8_ask 11 = .ok (.iconst 0, 1) := by decide +kernel
theorem dX8_ask_12 : decode cX8_ask 12 = .ok (.bipush 31, 2) := by decide +kernel
theorem dX8_ask_14 : decode cX8_ask 14 = .ok (.invokestatic 79, 3) := by decide +kernel
theorem dX8_ask_17 : decode cX8_ask 17 = .ok (.ifCond .eq 7, 3) := by decide +kernel
theorem dX8_ask_20 : decode cX8_ask 20 = .ok (.iconst 1, 1) := by decide +kernel
theorem dX8_ask_21 : decode cX8_ask 21 = .ok (.goto 4, 3) := by decide +kernel
theorem dX8_ask_24 : decode cX8_ask 24 = .ok (.iconst 0, 1) := by decide +kernel
theorem dX8_ask_25 : decode cX8_ask 25 = .ok (.istore 6, 2) := by decide +kernel
theorem dX8_ask_27 : decode cX8_ask 27 = .ok (.iload_n 1, 1) := by decide +kernel
theorem dX8_ask_28 : decode cX8_ask 28 = .ok (.invokestatic 83, 3) := by decide +kernel
theorem dX8_ask_31 : decode cX8_ask 31 = .ok (.ifCond .eq 28, 3) := by decide +kernel
theorem dX8_ask_34 : decode cX8_ask 34 = .ok (.iload 6, 2) := by decide +kernel
theorem dX8_ask_36 : decode cX8_ask 36 = .ok (.ifCond .eq 23, 3) := by decide +kernel
theorem dX8_ask_39 : decode cX8_ask 39 = .ok (.iload 4, 2) := by decide +kernel
theorem dX8_ask_41 : decode cX8_ask 41 = .ok (.iconst 0, 1) := by decide +kernel
theorem dX8_ask_42 : decode cX8_ask 42 = .ok (.bipush 9, 2) := by decide +kernel
theorem dX8_ask_44 : decode cX8_ask 44 = .ok (.invokestatic 79, 3) := by decide +kernel
theorem dX8_ask_47 : decode cX8_ask 47 = .ok (.ifCond .eq 12, 3) := by decide +kernel
theorem dX8_ask_50 : decode cX8_ask 50 = .ok (.aload_n 0, 1) := by decide +kernel
theorem dX8_ask_51 : decode cX8_ask 51 = .ok (.iload 5, 2) := by decide +kernel
theorem dX8_ask_53 : decode cX8_ask 53 = .ok (.invokevirtual 87, 3) := by decide +kernel
theorem dX8_ask_56 : decode cX8_ask 56 = .ok (.ifCond .ne 10, 3) := by decide +kernel
theorem dX8_ask_59 : decode cX8_ask 59 = .ok (.aload_n 0, 1) := by decide +kernel
theorem dX8_ask_60 : decode cX8_ask 60 = .ok (.ldc 90, 2) := by decide +kernel
theorem dX8_ask_62 : decode cX8_ask 62 = .ok (.invokevirtual 91, 3) := by decide +kernel
theorem dX8_ask_65 : decode cX8_ask 65 = .ok (.ireturn, 1) := by decide +kernel
theorem dX8_ask_66 : decode cX8_ask 66 = .ok (.aload_n 0, 1) := by decide +kernel
theorem dX8_ask_67 : decode cX8_ask 67 = .ok (.getfield 10, 3) := by decide +kernel
theorem dX8_ask_70 : decode cX8_ask 70 = .ok (.getfield 95, 3) := by decide +kernel
theorem dX8_ask_73 : decode cX8_ask 73 = .ok (.bipush 40, 2) := by decide +kernel
theorem dX8_ask_75 : decode cX8_ask 75 = .ok (.if_icmp .lt 10, 3) := by decide +kernel
theorem dX8_ask_78 : decode cX8_ask 78 = .ok (.aload_n 0, 1) := by decide +kernel
theorem dX8_ask_79 : decode cX8_ask 79 = .ok (.ldc 98, 2) := by decide +kernel
theorem dX8_ask_81 : decode cX8_ask 81 = .ok (.invokevirtual 91, 3) := by decide +kernel
theorem dX8_ask_84 : decode cX8_ask 84 = .ok (.ireturn, 1) := by decide +kernel
theorem dX8_ask_85 : decode cX8_ask 85 = .ok (.aload_n 0, 1) := by decide +kernel
theorem dX8_ask_86 : decode cX8_ask 86 = .ok (.iload_n 1, 1) := by decide +kernel
theorem dX8_ask_87 : decode cX8_ask 87 = .ok (.iload_n 2, 1) := by decide +kernel
theorem dX8_ask_88 : decode cX8_ask 88 = .ok (.iload_n 3, 1) := by decide +kernel
theorem dX8_ask_89 : decode cX8_ask 89 = .ok (.iload 4, 2) := by decide +kernel
theorem dX8_ask_91 : decode cX8_ask 91 = .ok (.iload 5, 2) := by decide +kernel
theorem dX8_ask_93 : decode cX8_ask 93 = .ok (.invokevirtual 99, 3) := by decide +kernel
theorem dX8_ask_96 : decode cX8_ask 96 = .ok (.ireturn, 1) := by decide +kernel
theorem dX8_marks_0 : decode cX8_marks 0 = .ok (.iload_n 1, 1) := by decide +kernel
theorem dX8_marks_1 : decode cX8_marks 1 = .ok (.invokestatic 83, 3) := by decide +kernel
theorem dX8_marks_4 : decode cX8_marks 4 = .ok (.ifCond .eq 23, 3) := by decide +kernel
theorem dX8_marks_7 : decode cX8_marks 7 = .ok (.iload_n 2, 1) := by decide +kernel
theorem dX8_marks_8 : decode cX8_marks 8 = .ok (.iconst 0, 1) := by decide +kernel
theorem dX8_marks_9 : decode cX8_marks 9 = .ok (.bipush 20, 2) := by decide +kernel
theorem dX8_marks_11 : decode cX8_marks 11 = .ok (.invokestatic 79, 3) := by decide +kernel
theorem dX8_marks_14 : decode cX8_marks 14 = .ok (.ifCond .eq 13, 3) := by decide +kernel
theorem dX8_marks_17 : decode cX8_marks 17 = .ok (.iload_n 3, 1) := by decide +kernel
theorem dX8_marks_18 : decode cX8_marks 18 = .ok (.iconst 0, 1) := by decide +kernel
theorem dX8_marks_19 : decode cX8_marks 19 = .ok (.bipush 99, 2) := by decide +kernel
theorem dX8_marks_21 : decode cX8_marks 21 = .ok (.invokestatic 79, 3) := by decide +kernel
theorem dX8_marks_24 : decode cX8_marks 24 = .ok (.ifCond .ne 10, 3) := by decide +kernel
theorem dX8_marks_27 : decode cX8_marks 27 = .ok (.aload_n 0, 1) := by decide +kernel
theorem dX8_marks_28 : decode cX8_marks 28 = .ok (.ldc 90, 2) := by decide +kernel
theorem dX8_marks_30 : decode cX8_marks 30 = .ok (.invokevirtual 91, 3) := by decide +kernel
theorem dX8_marks_33 : decode cX8_marks 33 = .ok (.ireturn, 1) := by decide +kernel
theorem dX8_marks_34 : decode cX8_marks 34 = .ok (.aload_n 0, 1) := by decide +kernel
theorem dX8_marks_35 : decode cX8_marks 35 = .ok (.getfield 10, 3) := by decide +kernel
theorem dX8_marks_38 : decode cX8_marks 38 = .ok (.getfield 103, 3) := by decide +kernel
theorem dX8_marks_41 : decode cX8_marks 41 = .ok (.iload_n 1, 1) := by decide +kernel
theorem dX8_marks_42 : decode cX8_marks 42 = .ok (.iload_n 2, 1) := by decide +kernel
theorem dX8_marks_43 : decode cX8_marks 43 = .ok (.iastore, 1) := by decide +kernel
theorem dX8_marks_44 : decode cX8_marks 44 = .ok (.aload_n 0, 1) := by decide +kernel
theorem dX8_marks_45 : decode cX8_marks 45 = .ok (.getfield 10, 3) := by decide +kernel
theorem dX8_marks_48 : decode cX8_marks 48 = .ok (.getfield 106, 3) := by decide +kernel
theorem dX8_marks_51 : decode cX8_marks 51 = .ok (.iload_n 1, 1) := by decide +kernel
theorem dX8_marks_52 : decode cX8_marks 52 = .ok (.iload_n 3, 1) := by decide +kernel
theorem dX8_marks_53 : decode cX8_marks 53 = .ok (.iastore, 1) := by decide +kernel
theorem dX8_marks_54 : decode cX8_marks 54 = .ok (.iconst 1, 1) := by decide +kernel
theorem dX8_marks_55 : decode cX8_marks 55 = .ok (.ireturn, 1) := by decide +kernel
theorem dX8_meet_0 : decode cX8_meet 0 = .ok (.aload_n 0, 1) := by decide +kernel
theorem dX8_meet_1 : decode cX8_meet 1 = .ok (.iload_n 1, 1) := by decide +kernel
theorem dX8_meet_2 : decode cX8_meet 2 = .ok (.invokevirtual 109, 3) := by decide +kernel
theorem dX8_meet_5 : decode cX8_meet 5 = .ok (.ifCond .eq 16, 3) := by decide +kernel
theorem dX8_meet_8 : decode cX8_meet 8 = .ok (.aload_n 0, 1) := by decide +kernel
theorem dX8_meet_9 : decode cX8_meet 9 = .ok (.iload_n 2, 1) := by decide +kernel
theorem dX8_meet_10 : decode cX8_meet 10 = .ok (.invokevirtual 109, 3) := by decide +kernel
theorem dX8_meet_13 : decode cX8_meet 13 = .ok (.ifCond .eq 8, 3) := by decide +kernel
theorem dX8_meet_16 : decode cX8_meet 16 = .ok (.iload_n 1, 1) := by decide +kernel
theorem dX8_meet_17 : decode cX8_meet 17 = .ok (.iload_n 2, 1) := by decide +kernel
theorem dX8_meet_18 : decode cX8_meet 18 = .ok (.if_icmp .ne 10, 3) := by decide +kernel
theorem dX8_meet_21 : decode cX8_meet 21 = .ok (.aload_n 0, 1) := by decide +kernel
theorem dX8_meet_22 : decode cX8_meet 22 = .ok (.ldc 90, 2) := by decide +kernel
theorem dX8_meet_24 : decode cX8_meet 24 = .ok (.invokevirtual 91, 3) := by decide +kernel
theorem dX8_meet_27 : decode cX8_meet 27 = .ok (.ireturn, 1) := by decide +kernel
theorem dX8_meet_28 : decode cX8_meet 28 = .ok (.aload_n 0, 1) := by decide +kernel
theorem dX8_meet_29 : decode cX8_meet 29 = .ok (.getfield 10, 3) := by decide +kernel
theorem dX8_meet_32 : decode cX8_meet 32 = .ok (.iload_n 1, 1) := by decide +kernel
theorem dX8_meet_33 : decode cX8_meet 33 = .ok (.iload_n 2, 1) := by decide +kernel
theorem dX8_meet_34 : decode cX8_meet 34 = .ok (.invokevirtual 112, 3) := by decide +kernel
theorem dX8_meet_37 : decode cX8_meet 37 = .ok (.ifCond .eq 7, 3) := by decide +kernel
theorem dX8_meet_40 : decode cX8_meet 40 = .ok (.iconst 1, 1) := by decide +kernel
theorem dX8_meet_41 : decode cX8_meet 41 = .ok (.goto 4, 3) := by decide +kernel
theorem dX8_meet_44 : decode cX8_meet 44 = .ok (.iconst 0, 1) := by decide +kernel
theorem dX8_meet_45 : decode cX8_meet 45 = .ok (.ireturn, 1) := by decide +kernel
theorem dX8_of_0 : decode cX8_of 0 = .ok (.aload_n 0, 1) := by decide +kernel
theorem dX8_of_1 : decode cX8_of 1 = .ok (.iload_n 1, 1) := by decide +kernel
theorem dX8_of_2 : decode cX8_of 2 = .ok (.invokevirtual 109, 3) := by decide +kernel
theorem dX8_of_5 : decode cX8_of 5 = .ok (.ifCond .eq 13, 3) := by decide +kernel
theorem dX8_of_8 : decode cX8_of 8 = .ok (.iload_n 2, 1) := by decide +kernel
theorem dX8_of_9 : decode cX8_of 9 = .ok (.iconst 0, 1) := by decide +kernel
theorem dX8_of_10 : decode cX8_of 10 = .ok (.bipush 6, 2) := by decide +kernel
theorem dX8_of_12 : decode cX8_of 12 = .ok (.invokestatic 79, 3) := by decide +kernel
theorem dX8_of_15 : decode cX8_of 15 = .ok (.ifCond .ne 10, 3) := by decide +kernel
theorem dX8_of_18 : decode cX8_of 18 = .ok (.aload_n 0, 1) := by decide +kernel
theorem dX8_of_19 : decode cX8_of 19 = .ok (.ldc 90, 2) := by decide +kernel
theorem dX8_of_21 : decode cX8_of 21 = .ok (.invokevirtual 91, 3) := by decide +kernel
theorem dX8_of_24 : decode cX8_of 24 = .ok (.ireturn, 1) := by decide +kernel
theorem dX8_of_25 : decode cX8_of 25 = .ok (.aload_n 0, 1) := by decide +kernel
theorem dX8_of_26 : decode cX8_of 26 = .ok (.getfield 10, 3) := by decide +kernel
theorem dX8_of_29 : decode cX8_of 29 = .ok (.iload_n 1, 1) := by decide +kernel
theorem dX8_of_30 : decode cX8_of 30 = .ok (.iload_n 2, 1) := by decide +kernel
theorem dX8_of_31 : decode cX8_of 31 = .ok (.invokevirtual 116, 3) := by decide +kernel
theorem dX8_of_34 : decode cX8_of 34 = .ok (.ireturn, 1) := by decide +kernel
theorem dX8_as_0 : decode cX8_as 0 = .ok (.aload_n 0, 1) := by decide +kernel
theorem dX8_as_1 : decode cX8_as 1 = .ok (.iload_n 1, 1) := by decide +kernel
theorem dX8_as_2 : decode cX8_as 2 = .ok (.invokevirtual 109, 3) := by decide +kernel
theorem dX8_as_5 : decode cX8_as 5 = .ok (.ifCond .eq 10, 3) := by decide +kernel
theorem dX8_as_8 : decode cX8_as 8 = .ok (.iload_n 2, 1) := by decide +kernel
theorem dX8_as_9 : decode cX8_as 9 = .ok (.invokestatic 83, 3) := by decide +kernel
theorem dX8_as_12 : decode cX8_as 12 = .ok (.ifCond .ne 10, 3) := by decide +kernel
theorem dX8_as_15 : decode cX8_as 15 = .ok (.aload_n 0, 1) := by decide +kernel
theorem dX8_as_16 : decode cX8_as 16 = .ok (.ldc 90, 2) := by decide +kernel
theorem dX8_as_18 : decode cX8_as 18 = .ok (.invokevirtual 91, 3) := by decide +kernel
theorem dX8_as_21 : decode cX8_as 21 = .ok (.ireturn, 1) := by decide +kernel
theorem dX8_as_22 : decode cX8_as 22 = .ok (.aload_n 0, 1) := by decide +kernel
theorem dX8_as_23 : decode cX8_as 23 = .ok (.getfield 10, 3) := by decide +kernel
theorem dX8_as_26 : decode cX8_as 26 = .ok (.getfield 120, 3) := by decide +kernel
theorem dX8_as_29 : decode cX8_as 29 = .ok (.iload_n 1, 1) := by decide +kernel
theorem dX8_as_30 : decode cX8_as 30 = .ok (.iaload, 1) := by decide +kernel
theorem dX8_as_31 : decode cX8_as 31 = .ok (.iload_n 2, 1) := by decide +kernel
theorem dX8_as_32 : decode cX8_as 32 = .ok (.invokestatic 123, 3) := by decide +kernel
theorem dX8_as_35 : decode cX8_as 35 = .ok (.ifCond .ne 10, 3) := by decide +kernel
theorem dX8_as_38 : decode cX8_as 38 = .ok (.aload_n 0, 1) := by decide +kernel
theorem dX8_as_39 : decode cX8_as 39 = .ok (.ldc 126, 2) := by decide +kernel
theorem dX8_as_41 : decode cX8_as 41 = .ok (.invokevirtual 91, 3) := by decide +kernel
theorem dX8_as_44 : decode cX8_as 44 = .ok (.ireturn, 1) := by decide +kernel
theorem dX8_as_45 : decode cX8_as 45 = .ok (.aload_n 0, 1) := by decide +kernel
theorem dX8_as_46 : decode cX8_as 46 = .ok (.getfield 10, 3) := by decide +kernel
theorem dX8_as_49 : decode cX8_as 49 = .ok (.getfield 127, 3) := by decide +kernel
theorem dX8_as_52 : decode cX8_as 52 = .ok (.iload_n 1, 1) := by decide +kernel
theorem dX8_as_53 : decode cX8_as 53 = .ok (.iaload, 1) := by decide +kernel
theorem dX8_as_54 : decode cX8_as 54 = .ok (.ireturn, 1) := by decide +kernel
theorem dX8_fewest_0 : decode cX8_fewest 0 = .ok (.iload_n 1, 1) := by decide +kernel
theorem dX8_fewest_1 : decode cX8_fewest 1 = .ok (.ifCond .lt 20, 3) := by decide +kernel
theorem dX8_fewest_4 : decode cX8_fewest 4 = .ok (.iload_n 2, 1) := by decide +kernel
theorem dX8_fewest_5 : decode cX8_fewest 5 = .ok (.ifCond .lt 16, 3) := by decide +kernel
theorem dX8_fewest_8 : decode cX8_fewest 8 = .ok (.iload_n 2, 1) := by decide +kernel
theorem dX8_fewest_9 : decode cX8_fewest 9 = .ok (.aload_n 0, 1) := by decide +kernel
theorem dX8_fewest_10 : decode cX8_fewest 10 = .ok (.getfield 10, 3) := by decide +kernel
theorem dX8_fewest_13 : decode cX8_fewest 13 = .ok (.getfield 95, 3) := by decide +kernel
theorem dX8_fewest_16 : decode cX8_fewest 16 = .ok (.iload_n 1, 1) := by decide +kernel
theorem dX8_fewest_17 : decode cX8_fewest 17 = .ok (.isub, 1) := by decide +kernel
theorem dX8_fewest_18 : decode cX8_fewest 18 = .ok (.if_icmp .le 10, 3) := by decide +kernel
theorem dX8_fewest_21 : decode cX8_fewest 21 = .ok (.aload_n 0, 1) := by decide +kernel
theorem dX8_fewest_22 : decode cX8_fewest 22 = .ok (.ldc 90, 2) := by decide +kernel
theorem dX8_fewest_24 : decode cX8_fewest 24 = .ok (.invokevirtual 91, 3) := by decide +kernel
theorem dX8_fewest_27 : decode cX8_fewest 27 = .ok (.ireturn, 1) := by decide +kernel
theorem dX8_fewest_28 : decode cX8_fewest 28 = .ok (.iload_n 2, 1) := by decide +kernel
theorem dX8_fewest_29 : decode cX8_fewest 29 = .ok (.bipush 12, 2) := by decide +kernel
theorem dX8_fewest_31 : decode cX8_fewest 31 = .ok (.if_icmp .le 10, 3) := by decide +kernel
theorem dX8_fewest_34 : decode cX8_fewest 34 = .ok (.aload_n 0, 1) := by decide +kernel
theorem dX8_fewest_35 : decode cX8_fewest 35 = .ok (.ldc 130, 2) := by decide +kernel
theorem dX8_fewest_37 : decode cX8_fewest 37 = .ok (.invokevirtual 91, 3) := by decide +kernel
theorem dX8_fewest_40 : decode cX8_fewest 40 = .ok (.ireturn, 1) := by decide +kernel
theorem dX8_fewest_41 : decode cX8_fewest 41 = .ok (.aload_n 0, 1) := by decide +kernel
theorem dX8_fewest_42 : decode cX8_fewest 42 = .ok (.getfield 26, 3) := by decide +kernel
theorem dX8_fewest_45 : decode cX8_fewest 45 = .ok (.aload_n 0, 1) := by decide +kernel
theorem dX8_fewest_46 : decode cX8_fewest 46 = .ok (.getfield 10, 3) := by decide +kernel
theorem dX8_fewest_49 : decode cX8_fewest 49 = .ok (.iload_n 1, 1) := by decide +kernel
theorem dX8_fewest_50 : decode cX8_fewest 50 = .ok (.iload_n 2, 1) := by decide +kernel
theorem dX8_fewest_51 : decode cX8_fewest 51 = .ok (.invokevirtual 131, 3) := by decide +kernel
theorem dX8_fewest_54 : decode cX8_fewest 54 = .ok (.ireturn, 1) := by decide +kernel
theorem dX8_thing_0 : decode cX8_thing 0 = .ok (.aload_n 0, 1) := by decide +kernel
theorem dX8_thing_1 : decode cX8_thing 1 = .ok (.iload_n 1, 1) := by decide +kernel
theorem dX8_thing_2 : decode cX8_thing 2 = .ok (.invokevirtual 135, 3) := by decide +kernel
theorem dX8_thing_5 : decode cX8_thing 5 = .ok (.ifCond .eq 13, 3) := by decide +kernel
theorem dX8_thing_8 : decode cX8_thing 8 = .ok (.iload_n 2, 1) := by decide +kernel
theorem dX8_thing_9 : decode cX8_thing 9 = .ok (.iconst 0, 1) := by decide +kernel
theorem dX8_thing_10 : decode cX8_thing 10 = .ok (.bipush 8, 2) := by decide +kernel
theorem dX8_thing_12 : decode cX8_thing 12 = .ok (.invokestatic 79, 3) := by decide +kernel
theorem dX8_thing_15 : decode cX8_thing 15 = .ok (.ifCond .ne 10, 3) := by decide +kernel
theorem dX8_thing_18 : decode cX8_thing 18 = .ok (.aload_n 0, 1) := by decide +kernel
theorem dX8_thing_19 : decode cX8_thing 19 = .ok (.ldc 90, 2) := by decide +kernel
theorem dX8_thing_21 : decode cX8_thing 21 = .ok (.invokevirtual 91, 3) := by decide +kernel
theorem dX8_thing_24 : decode cX8_thing 24 = .ok (.ireturn, 1) := by decide +kernel
theorem dX8_thing_25 : decode cX8_thing 25 = .ok (.iload_n 2, 1) := by decide +kernel
theorem dX8_thing_26 : decode cX8_thing 26 = .ok (.iconst 4, 1) := by decide +kernel
theorem dX8_thing_27 : decode cX8_thing 27 = .ok (.if_icmp .ge 12, 3) := by decide +kernel
theorem dX8_thing_30 : decode cX8_thing 30 = .ok (.aload_n 0, 1) := by decide +kernel
theorem dX8_thing_31 : decode cX8_thing 31 = .ok (.iload_n 1, 1) := by decide +kernel
theorem dX8_thing_32 : decode cX8_thing 32 = .ok (.iload_n 2, 1) := by decide +kernel
theorem dX8_thing_33 : decode cX8_thing 33 = .ok (.invokevirtual 138, 3) := by decide +kernel
theorem dX8_thing_36 : decode cX8_thing 36 = .ok (.goto 9, 3) := by decide +kernel
theorem dX8_thing_39 : decode cX8_thing 39 = .ok (.aload_n 0, 1) := by decide +kernel
theorem dX8_thing_40 : decode cX8_thing 40 = .ok (.iload_n 1, 1) := by decide +kernel
theorem dX8_thing_41 : decode cX8_thing 41 = .ok (.iload_n 2, 1) := by decide +kernel
theorem dX8_thing_42 : decode cX8_thing 42 = .ok (.invokevirtual 141, 3) := by decide +kernel
theorem dX8_thing_45 : decode cX8_thing 45 = .ok (.ireturn, 1) := by decide +kernel
theorem dX8_asked_0 : decode cX8_asked 0 = .ok (.aload_n 0, 1) := by decide +kernel
theorem dX8_asked_1 : decode cX8_asked 1 = .ok (.iload_n 1, 1) := by decide +kernel
theorem dX8_asked_2 : decode cX8_asked 2 = .ok (.invokevirtual 135, 3) := by decide +kernel
theorem dX8_asked_5 : decode cX8_asked 5 = .ok (.ifCond .eq 7, 3) := by decide +kernel
theorem dX8_asked_8 : decode cX8_asked 8 = .ok (.iload_n 2, 1) := by decide +kernel
theorem dX8_asked_9 : decode cX8_asked 9 = .ok (.ifCond .ge 10, 3) := by decide +kernel
theorem dX8_asked_12 : decode cX8_asked 12 = .ok (.aload_n 0, 1) := by decide +kernel
theorem dX8_asked_13 : decode cX8_asked 13 = .ok (.ldc 90, 2) := by decide +kernel
theorem dX8_asked_15 : decode cX8_asked 15 = .ok (.invokevirtual 91, 3) := by decide +kernel
theorem dX8_asked_18 : decode cX8_asked 18 = .ok (.ireturn, 1) := by decide +kernel
theorem dX8_asked_19 : decode cX8_asked 19 = .ok (.aload_n 0, 1) := by decide +kernel
theorem dX8_asked_20 : decode cX8_asked 20 = .ok (.getfield 10, 3) := by decide +kernel
theorem dX8_asked_23 : decode cX8_asked 23 = .ok (.iload_n 1, 1) := by decide +kernel
theorem dX8_asked_24 : decode cX8_asked 24 = .ok (.iload_n 2, 1) := by decide +kernel
theorem dX8_asked_25 : decode cX8_asked 25 = .ok (.invokevirtual 144, 3) := by decide +kernel
theorem dX8_asked_28 : decode cX8_asked 28 = .ok (.ireturn, 1) := by decide +kernel
theorem dX8_feed_0 : decode cX8_feed 0 = .ok (.iload_n 3, 1) := by decide +kernel
theorem dX8_feed_1 : decode cX8_feed 1 = .ok (.iconst 1, 1) := by decide +kernel
theorem dX8_feed_2 : decode cX8_feed 2 = .ok (.bipush 8, 2) := by decide +kernel
theorem dX8_feed_4 : decode cX8_feed 4 = .ok (.invokestatic 79, 3) := by decide +kernel
theorem dX8_feed_7 : decode cX8_feed 7 = .ok (.ifCond .ne 10, 3) := by decide +kernel
theorem dX8_feed_10 : decode cX8_feed 10 = .ok (.aload_n 0, 1) := by decide +kernel
theorem dX8_feed_11 : decode cX8_feed 11 = .ok (.ldc 90, 2) := by decide +kernel
theorem dX8_feed_13 : decode cX8_feed 13 = .ok (.invokevirtual 91, 3) := by decide +kernel
theorem dX8_feed_16 : decode cX8_feed 16 = .ok (.ireturn, 1) := by decide +kernel
theorem dX8_feed_17 : decode cX8_feed 17 = .ok (.aload_n 0, 1) := by decide +kernel
theorem dX8_feed_18 : decode cX8_feed 18 = .ok (.getfield 33, 3) := by decide +kernel
theorem dX8_feed_21 : decode cX8_feed 21 = .ok (.getfield 147, 3) := by decide +kernel
theorem dX8_feed_24 : decode cX8_feed 24 = .ok (.iload_n 3, 1) := by decide +kernel
theorem dX8_feed_25 : decode cX8_feed 25 = .ok (.iadd, 1) := by decide +kernel
theorem dX8_feed_26 : decode cX8_feed 26 = .ok (.bipush 80, 2) := by decide +kernel
theorem dX8_feed_28 : decode cX8_feed 28 = .ok (.if_icmp .le 10, 3) := by decide +kernel
theorem dX8_feed_31 : decode cX8_feed 31 = .ok (.aload_n 0, 1) := by decide +kernel
theorem dX8_feed_32 : decode cX8_feed 32 = .ok (.ldc 98, 2) := by decide +kernel
theorem dX8_feed_34 : decode cX8_feed 34 = .ok (.invokevirtual 91, 3) := by decide +kernel
theorem dX8_feed_37 : decode cX8_feed 37 = .ok (.ireturn, 1) := by decide +kernel
theorem dX8_feed_38 : decode cX8_feed 38 = .ok (.aload_n 0, 1) := by decide +kernel
theorem dX8_feed_39 : decode cX8_feed 39 = .ok (.getfield 33, 3) := by decide +kernel
theorem dX8_feed_42 : decode cX8_feed 42 = .ok (.lload_n 1, 1) := by decide +kernel
theorem dX8_feed_43 : decode cX8_feed 43 = .ok (.iload_n 3, 1) := by decide +kernel
theorem dX8_feed_44 : decode cX8_feed 44 = .ok (.invokevirtual 150, 3) := by decide +kernel
theorem dX8_feed_47 : decode cX8_feed 47 = .ok (.aload_n 0, 1) := by decide +kernel
theorem dX8_feed_48 : decode cX8_feed 48 = .ok (.getfield 33, 3) := by decide +kernel
theorem dX8_feed_51 : decode cX8_feed 51 = .ok (.getfield 147, 3) := by decide +kernel
theorem dX8_feed_54 : decode cX8_feed 54 = .ok (.ireturn, 1) := by decide +kernel
theorem dX8_text_0 : decode cX8_text 0 = .ok (.aload_n 0, 1) := by decide +kernel
theorem dX8_text_1 : decode cX8_text 1 = .ok (.getfield 40, 3) := by decide +kernel
theorem dX8_text_4 : decode cX8_text 4 = .ok (.aload_n 0, 1) := by decide +kernel
theorem dX8_text_5 : decode cX8_text 5 = .ok (.getfield 33, 3) := by decide +kernel
theorem dX8_text_8 : decode cX8_text 8 = .ok (.invokevirtual 154, 3) := by decide +kernel
theorem dX8_text_11 : decode cX8_text 11 = .ok (.istore_n 1, 1) := by decide +kernel
theorem dX8_text_12 : decode cX8_text 12 = .ok (.iload_n 1, 1) := by decide +kernel
theorem dX8_text_13 : decode cX8_text 13 = .ok (.iconst (-1), 1) := by decide +kernel
theorem dX8_text_14 : decode cX8_text 14 = .ok (.if_icmp .ne 14, 3) := by decide +kernel
theorem dX8_text_17 : decode cX8_text 17 = .ok (.aload_n 0, 1) := by decide +kernel
theorem dX8_text_18 : decode cX8_text 18 = .ok (.getfield 40, 3) := by decide +kernel
theorem dX8_text_21 : decode cX8_text 21 = .ok (.aload_n 0, 1) := by decide +kernel
theorem dX8_text_22 : decode cX8_text 22 = .ok (.getfield 33, 3) := by decide +kernel
theorem dX8_text_25 : decode cX8_text 25 = .ok (.invokevirtual 158, 3) := by decide +kernel
theorem dX8_text_28 : decode cX8_text 28 = .ok (.aload_n 0, 1) := by decide +kernel
theorem dX8_text_29 : decode cX8_text 29 = .ok (.getfield 33, 3) := by decide +kernel
theorem dX8_text_32 : decode cX8_text 32 = .ok (.iconst 0, 1) := by decide +kernel
theorem dX8_text_33 : decode cX8_text 33 = .ok (.putfield 147, 3) := by decide +kernel
theorem dX8_text_36 : decode cX8_text 36 = .ok (.iload_n 1, 1) := by decide +kernel
theorem dX8_text_37 : decode cX8_text 37 = .ok (.iconst (-1), 1) := by decide +kernel
theorem dX8_text_38 : decode cX8_text 38 = .ok (.if_icmp .ne 13, 3) := by decide +kernel
theorem dX8_text_41 : decode cX8_text 41 = .ok (.aload_n 0, 1) := by decide +kernel
theorem dX8_text_42 : decode cX8_text 42 = .ok (.getfield 40, 3) := by decide +kernel
theorem dX8_text_45 : decode cX8_text 45 = .ok (.getfield 162, 3) := by decide +kernel
theorem dX8_text_48 : decode cX8_text 48 = .ok (.goto 11, 3) := by decide +kernel
theorem dX8_text_51 : decode cX8_text 51 = .ok (.aload_n 0, 1) := by decide +kernel
theorem dX8_text_52 : decode cX8_text 52 = .ok (.ldc 165, 2) := by decide +kernel
theorem dX8_text_54 : decode cX8_text 54 = .ok (.iload_n 1, 1) := by decide +kernel
theorem dX8_text_55 : decode cX8_text 55 = .ok (.isub, 1) := by decide +kernel
theorem dX8_text_56 : decode cX8_text 56 = .ok (.invokevirtual 91, 3) := by decide +kernel
theorem dX8_text_59 : decode cX8_text 59 = .ok (.ireturn, 1) := by decide +kernel
theorem dX8_whose_0 : decode cX8_whose 0 = .ok (.aload_n 0, 1) := by decide +kernel
theorem dX8_whose_1 : decode cX8_whose 1 = .ok (.iload_n 1, 1) := by decide +kernel
theorem dX8_whose_2 : decode cX8_whose 2 = .ok (.invokevirtual 135, 3) := by decide +kernel
theorem dX8_whose_5 : decode cX8_whose 5 = .ok (.ifCond .ne 10, 3) := by decide +kernel
theorem dX8_whose_8 : decode cX8_whose 8 = .ok (.aload_n 0, 1) := by decide +kernel
theorem dX8_whose_9 : decode cX8_whose 9 = .ok (.ldc 90, 2) := by decide +kernel
theorem dX8_whose_11 : decode cX8_whose 11 = .ok (.invokevirtual 91, 3) := by decide +kernel
theorem dX8_whose_14 : decode cX8_whose 14 = .ok (.ireturn, 1) := by decide +kernel
theorem dX8_whose_15 : decode cX8_whose 15 = .ok (.aload_n 0, 1) := by decide +kernel
theorem dX8_whose_16 : decode cX8_whose 16 = .ok (.iload_n 1, 1) := by decide +kernel
theorem dX8_whose_17 : decode cX8_whose 17 = .ok (.invokevirtual 166, 3) := by decide +kernel
theorem dX8_whose_20 : decode cX8_whose 20 = .ok (.istore_n 2, 1) := by decide +kernel
theorem dX8_whose_21 : decode cX8_whose 21 = .ok (.iload_n 2, 1) := by decide +kernel
theorem dX8_whose_22 : decode cX8_whose 22 = .ok (.ifCond .ge 11, 3) := by decide +kernel
theorem dX8_whose_25 : decode cX8_whose 25 = .ok (.aload_n 0, 1) := by decide +kernel
theorem dX8_whose_26 : decode cX8_whose 26 = .ok (.iload_n 2, 1) := by decide +kernel
theorem dX8_whose_27 : decode cX8_whose 27 = .ok (.invokevirtual 91, 3) := by decide +kernel
theorem dX8_whose_30 : decode cX8_whose 30 = .ok (.goto 4, 3) := by decide +kernel
theorem dX8_whose_33 : decode cX8_whose 33 = .ok (.iload_n 2, 1) := by decide +kernel
theorem dX8_whose_34 : decode cX8_whose 34 = .ok (.ireturn, 1) := by decide +kernel
theorem dX8_promise_0 : decode cX8_promise 0 = .ok (.aload_n 0, 1) := by decide +kernel
theorem dX8_promise_1 : decode cX8_promise 1 = .ok (.iload_n 1, 1) := by decide +kernel
theorem dX8_promise_2 : decode cX8_promise 2 = .ok (.invokevirtual 135, 3) := by decide +kernel
theorem dX8_promise_5 : decode cX8_promise 5 = .ok (.ifCond .ne 10, 3) := by decide +kernel
theorem dX8_promise_8 : decode cX8_promise 8 = .ok (.aload_n 0, 1) := by decide +kernel
theorem dX8_promise_9 : decode cX8_promise 9 = .ok (.ldc 90, 2) := by decide +kernel
theorem dX8_promise_11 : decode cX8_promise 11 = .ok (.invokevirtual 91, 3) := by decide +kernel
theorem dX8_promise_14 : decode cX8_promise 14 = .ok (.ireturn, 1) := by decide +kernel
theorem dX8_promise_15 : decode cX8_promise 15 = .ok (.aload_n 0, 1) := by decide +kernel
theorem dX8_promise_16 : decode cX8_promise 16 = .ok (.getfield 40, 3) := by decide +kernel
theorem dX8_promise_19 : decode cX8_promise 19 = .ok (.aload_n 0, 1) := by decide +kernel
theorem dX8_promise_20 : decode cX8_promise 20 = .ok (.iload_n 1, 1) := by decide +kernel
theorem dX8_promise_21 : decode cX8_promise 21 = .ok (.invokevirtual 169, 3) := by decide +kernel
theorem dX8_promise_24 : decode cX8_promise 24 = .ok (.invokevirtual 172, 3) := by decide +kernel
theorem dX8_promise_27 : decode cX8_promise 27 = .ok (.istore_n 2, 1) := by decide +kernel
theorem dX8_promise_28 : decode cX8_promise 28 = .ok (.iload_n 2, 1) := by decide +kernel
theorem dX8_promise_29 : decode cX8_promise 29 = .ok (.iconst (-1), 1) := by decide +kernel
theorem dX8_promise_30 : decode cX8_promise 30 = .ok (.if_icmp .ne 12, 3) := by decide +kernel
theorem dX8_promise_33 : decode cX8_promise 33 = .ok (.aload_n 0, 1) := by decide +kernel
theorem dX8_promise_34 : decode cX8_promise 34 = .ok (.ldc 175, 2) := by decide +kernel
theorem dX8_promise_36 : decode cX8_promise 36 = .ok (.invokevirtual 91, 3) := by decide +kernel
theorem dX8_promise_39 : decode cX8_promise 39 = .ok (.goto 10, 3) := by decide +kernel
theorem dX8_promise_42 : decode cX8_promise 42 = .ok (.aload_n 0, 1) := by decide +kernel
theorem dX8_promise_43 : decode cX8_promise 43 = .ok (.iload_n 1, 1) := by decide +kernel
theorem dX8_promise_44 : decode cX8_promise 44 = .ok (.invokevirtual 176, 3) := by decide +kernel
theorem dX8_promise_47 : decode cX8_promise 47 = .ok (.iload_n 2, 1) := by decide +kernel
theorem dX8_promise_48 : decode cX8_promise 48 = .ok (.iadd, 1) := by decide +kernel
theorem dX8_promise_49 : decode cX8_promise 49 = .ok (.ireturn, 1) := by decide +kernel
theorem dX8_sent_0 : decode cX8_sent 0 = .ok (.aload_n 0, 1) := by decide +kernel
theorem dX8_sent_1 : decode cX8_sent 1 = .ok (.iload_n 1, 1) := by decide +kernel
theorem dX8_sent_2 : decode cX8_sent 2 = .ok (.invokevirtual 135, 3) := by decide +kernel
theorem dX8_sent_5 : decode cX8_sent 5 = .ok (.ifCond .ne 10, 3) := by decide +kernel
theorem dX8_sent_8 : decode cX8_sent 8 = .ok (.aload_n 0, 1) := by decide +kernel
theorem dX8_sent_9 : decode cX8_sent 9 = .ok (.ldc 90, 2) := by decide +kernel
theorem dX8_sent_11 : decode cX8_sent 11 = .ok (.invokevirtual 91, 3) := by decide +kernel
theorem dX8_sent_14 : decode cX8_sent 14 = .ok (.ireturn, 1) := by decide +kernel
theorem dX8_sent_15 : decode cX8_sent 15 = .ok (.aload_n 0, 1) := by decide +kernel
theorem dX8_sent_16 : decode cX8_sent 16 = .ok (.getfield 40, 3) := by decide +kernel
theorem dX8_sent_19 : decode cX8_sent 19 = .ok (.aload_n 0, 1) := by decide +kernel
theorem dX8_sent_20 : decode cX8_sent 20 = .ok (.iload_n 1, 1) := by decide +kernel
theorem dX8_sent_21 : decode cX8_sent 21 = .ok (.invokevirtual 169, 3) := by decide +kernel
theorem dX8_sent_24 : decode cX8_sent 24 = .ok (.invokevirtual 179, 3) := by decide +kernel
theorem dX8_sent_27 : decode cX8_sent 27 = .ok (.istore_n 2, 1) := by decide +kernel
theorem dX8_sent_28 : decode cX8_sent 28 = .ok (.iload_n 2, 1) := by decide +kernel
theorem dX8_sent_29 : decode cX8_sent 29 = .ok (.iconst (-1), 1) := by decide +kernel
theorem dX8_sent_30 : decode cX8_sent 30 = .ok (.if_icmp .ne 12, 3) := by decide +kernel
theorem dX8_sent_33 : decode cX8_sent 33 = .ok (.aload_n 0, 1) := by decide +kernel
theorem dX8_sent_34 : decode cX8_sent 34 = .ok (.ldc 175, 2) := by decide +kernel
theorem dX8_sent_36 : decode cX8_sent 36 = .ok (.invokevirtual 91, 3) := by decide +kernel
theorem dX8_sent_39 : decode cX8_sent 39 = .ok (.goto 16, 3) := by decide +kernel
theorem dX8_sent_42 : decode cX8_sent 42 = .ok (.aload_n 0, 1) := by decide +kernel
theorem dX8_sent_43 : decode cX8_sent 43 = .ok (.getfield 40, 3) := by decide +kernel
theorem dX8_sent_46 : decode cX8_sent 46 = .ok (.iload_n 2, 1) := by decide +kernel
theorem dX8_sent_47 : decode cX8_sent 47 = .ok (.aload_n 0, 1) := by decide +kernel
theorem dX8_sent_48 : decode cX8_sent 48 = .ok (.iload_n 1, 1) := by decide +kernel
theorem dX8_sent_49 : decode cX8_sent 49 = .ok (.invokevirtual 182, 3) := by decide +kernel
theorem dX8_sent_52 : decode cX8_sent 52 = .ok (.invokevirtual 185, 3) := by decide +kernel
theorem dX8_sent_55 : decode cX8_sent 55 = .ok (.ireturn, 1) := by decide +kernel
theorem dX8_effort_0 : decode cX8_effort 0 = .ok (.iload_n 1, 1) := by decide +kernel
theorem dX8_effort_1 : decode cX8_effort 1 = .ok (.invokestatic 83, 3) := by decide +kernel
theorem dX8_effort_4 : decode cX8_effort 4 = .ok (.ifCond .eq 13, 3) := by decide +kernel
theorem dX8_effort_7 : decode cX8_effort 7 = .ok (.iload_n 2, 1) := by decide +kernel
theorem dX8_effort_8 : decode cX8_effort 8 = .ok (.iconst 1, 1) := by decide +kernel
theorem dX8_effort_9 : decode cX8_effort 9 = .ok (.bipush 40, 2) := by decide +kernel
theorem dX8_effort_11 : decode cX8_effort 11 = .ok (.invokestatic 79, 3) := by decide +kernel
theorem dX8_effort_14 : decode cX8_effort 14 = .ok (.ifCond .ne 10, 3) := by decide +kernel
theorem dX8_effort_17 : decode cX8_effort 17 = .ok (.aload_n 0, 1) := by decide +kernel
theorem dX8_effort_18 : decode cX8_effort 18 = .ok (.ldc 90, 2) := by decide +kernel
theorem dX8_effort_20 : decode cX8_effort 20 = .ok (.invokevirtual 91, 3) := by decide +kernel
theorem dX8_effort_23 : decode cX8_effort 23 = .ok (.ireturn, 1) := by decide +kernel
theorem dX8_effort_24 : decode cX8_effort 24 = .ok (.aload_n 0, 1) := by decide +kernel
theorem dX8_effort_25 : decode cX8_effort 25 = .ok (.getfield 51, 3) := by decide +kernel
theorem dX8_effort_28 : decode cX8_effort 28 = .ok (.iload_n 1, 1) := by decide +kernel
theorem dX8_effort_29 : decode cX8_effort 29 = .ok (.iaload, 1) := by decide +kernel
theorem dX8_effort_30 : decode cX8_effort 30 = .ok (.istore_n 3, 1) := by decide +kernel
theorem dX8_effort_31 : decode cX8_effort 31 = .ok (.aload_n 0, 1) := by decide +kernel
theorem dX8_effort_32 : decode cX8_effort 32 = .ok (.getfield 51, 3) := by decide +kernel
theorem dX8_effort_35 : decode cX8_effort 35 = .ok (.iload_n 1, 1) := by decide +kernel
theorem dX8_effort_36 : decode cX8_effort 36 = .ok (.iload_n 2, 1) := by decide +kernel
theorem dX8_effort_37 : decode cX8_effort 37 = .ok (.iastore, 1) := by decide +kernel
theorem dX8_effort_38 : decode cX8_effort 38 = .ok (.iload_n 3, 1) := by decide +kernel
theorem dX8_effort_39 : decode cX8_effort 39 = .ok (.ireturn, 1) := by decide +kernel
theorem dX8_order_0 : decode cX8_order 0 = .ok (.iload_n 3, 1) := by decide +kernel
theorem dX8_order_1 : decode cX8_order 1 = .ok (.invokestatic 188, 3) := by decide +kernel
theorem dX8_order_4 : decode cX8_order 4 = .ok (.ifCond .eq 15, 3) := by decide +kernel
theorem dX8_order_7 : decode cX8_order 7 = .ok (.iload 4, 2) := by decide +kernel
theorem dX8_order_9 : decode cX8_order 9 = .ok (.invokestatic 191, 3) := by decide +kernel
theorem dX8_order_12 : decode cX8_order 12 = .ok (.ifCond .eq 7, 3) := by decide +kernel
theorem dX8_order_15 : decode cX8_order 15 = .ok (.iconst 1, 1) := by decide +kernel
theorem dX8_order_16 : decode cX8_order 16 = .ok (.goto 4, 3) := by decide +kernel
theorem dX8_order_19 : decode cX8_order 19 = .ok (.iconst 0, 1) := by decide +kernel
theorem dX8_order_20 : decode cX8_order 20 = .ok (.istore 6, 2) := by decide +kernel
theorem dX8_order_22 : decode cX8_order 22 = .ok (.iload_n 1, 1) := by decide +kernel
theorem dX8_order_23 : decode cX8_order 23 = .ok (.ifCond .lt 22, 3) := by decide +kernel
theorem dX8_order_26 : decode cX8_order 26 = .ok (.iload 6, 2) := by decide +kernel
theorem dX8_order_28 : decode cX8_order 28 = .ok (.ifCond .eq 17, 3) := by decide +kernel
theorem dX8_order_31 : decode cX8_order 31 = .ok (.iload 5, 2) := by decide +kernel
theorem dX8_order_33 : decode cX8_order 33 = .ok (.ifCond .lt 12, 3) := by decide +kernel
theorem dX8_order_36 : decode cX8_order 36 = .ok (.aload_n 0, 1) := by decide +kernel
theorem dX8_order_37 : decode cX8_order 37 = .ok (.iload_n 1, 1) := by decide +kernel
theorem dX8_order_38 : decode cX8_order 38 = .ok (.iload_n 2, 1) := by decide +kernel
theorem dX8_order_39 : decode cX8_order 39 = .ok (.invokevirtual 194, 3) := by decide +kernel
theorem dX8_order_42 : decode cX8_order 42 = .ok (.ifCond .ne 10, 3) := by decide +kernel
theorem dX8_order_45 : decode cX8_order 45 = .ok (.aload_n 0, 1) := by decide +kernel
theorem dX8_order_46 : decode cX8_order 46 = .ok (.ldc 90, 2) := by decide +kernel
theorem dX8_order_48 : decode cX8_order 48 = .ok (.invokevirtual 91, 3) := by decide +kernel
theorem dX8_order_51 : decode cX8_order 51 = .ok (.ireturn, 1) := by decide +kernel
theorem dX8_order_52 : decode cX8_order 52 = .ok (.iload_n 2, 1) := by decide +kernel
theorem dX8_order_53 : decode cX8_order 53 = .ok (.invokestatic 197, 3) := by decide +kernel
theorem dX8_order_56 : decode cX8_order 56 = .ok (.bipush 6, 2) := by decide +kernel
theorem dX8_order_58 : decode cX8_order 58 = .ok (.if_icmp .le 10, 3) := by decide +kernel
theorem dX8_order_61 : decode cX8_order 61 = .ok (.aload_n 0, 1) := by decide +kernel
theorem dX8_order_62 : decode cX8_order 62 = .ok (.ldc 130, 2) := by decide +kernel
theorem dX8_order_64 : decode cX8_order 64 = .ok (.invokevirtual 91, 3) := by decide +kernel
theorem dX8_order_67 : decode cX8_order 67 = .ok (.ireturn, 1) := by decide +kernel
theorem dX8_order_68 : decode cX8_order 68 = .ok (.aload_n 0, 1) := by decide +kernel
theorem dX8_order_69 : decode cX8_order 69 = .ok (.getfield 47, 3) := by decide +kernel
theorem dX8_order_72 : decode cX8_order 72 = .ok (.iload 4, 2) := by decide +kernel
theorem dX8_order_74 : decode cX8_order 74 = .ok (.invokevirtual 202, 3) := by decide +kernel
theorem dX8_order_77 : decode cX8_order 77 = .ok (.iconst 0, 1) := by decide +kernel
theorem dX8_order_78 : decode cX8_order 78 = .ok (.istore 7, 2) := by decide +kernel
theorem dX8_order_80 : decode cX8_order 80 = .ok (.iload 7, 2) := by decide +kernel
theorem dX8_order_82 : decode cX8_order 82 = .ok (.bipush 8, 2) := by decide +kernel
theorem dX8_order_84 : decode cX8_order 84 = .ok (.if_icmp .ge 26, 3) := by decide +kernel
theorem dX8_order_87 : decode cX8_order 87 = .ok (.iload_n 2, 1) := by decide +kernel
theorem dX8_order_88 : decode cX8_order 88 = .ok (.iload 7, 2) := by decide +kernel
theorem dX8_order_90 : decode cX8_order 90 = .ok (.invokestatic 206, 3) := by decide +kernel
theorem dX8_order_93 : decode cX8_order 93 = .ok (.ifCond .eq 11, 3) := by decide +kernel
theorem dX8_order_96 : decode cX8_order 96 = .ok (.aload_n 0, 1) := by decide +kernel
theorem dX8_order_97 : decode cX8_order 97 = .ok (.iload_n 1, 1) := by decide +kernel
theorem dX8_order_98 : decode cX8_order 98 = .ok (.iload 7, 2) := by decide +kernel
theorem dX8_order_100 : decode cX8_order 100 = .ok (.iadd, 1) := by decide +kernel
theorem dX8_order_101 : decode cX8_order 101 = .ok (.invokevirtual 209, 3) := by decide +kernel
theorem dX8_order_104 : decode cX8_order 104 = .ok (.iinc 7 1, 3) := by decide +kernel
theorem dX8_order_107 : decode cX8_order 107 = .ok (.goto (-27), 3) := by decide +kernel
theorem dX8_order_110 : decode cX8_order 110 = .ok (.aload_n 0, 1) := by decide +kernel
theorem dX8_order_111 : decode cX8_order 111 = .ok (.getfield 47, 3) := by decide +kernel
theorem dX8_order_114 : decode cX8_order 114 = .ok (.iload_n 3, 1) := by decide +kernel
theorem dX8_order_115 : decode cX8_order 115 = .ok (.bipush 32, 2) := by decide +kernel
theorem dX8_order_117 : decode cX8_order 117 = .ok (.idiv, 1) := by decide +kernel
theorem dX8_order_118 : decode cX8_order 118 = .ok (.iload_n 3, 1) := by decide +kernel
theorem dX8_order_119 : decode cX8_order 119 = .ok (.bipush 32, 2) := by decide +kernel
theorem dX8_order_121 : decode cX8_order 121 = .ok (.irem, 1) := by decide +kernel
theorem dX8_order_122 : decode cX8_order 122 = .ok (.invokevirtual 212, 3) := by decide +kernel
theorem dX8_order_125 : decode cX8_order 125 = .ok (.aload_n 0, 1) := by decide +kernel
theorem dX8_order_126 : decode cX8_order 126 = .ok (.getfield 47, 3) := by decide +kernel
theorem dX8_order_129 : decode cX8_order 129 = .ok (.iload 5, 2) := by decide +kernel
theorem dX8_order_131 : decode cX8_order 131 = .ok (.invokevirtual 216, 3) := by decide +kernel
theorem dX8_order_134 : decode cX8_order 134 = .ok (.ireturn, 1) := by decide +kernel
theorem dX8_close_0 : decode cX8_close 0 = .ok (.aload_n 0, 1) := by decide +kernel
theorem dX8_close_1 : decode cX8_close 1 = .ok (.iload_n 1, 1) := by decide +kernel
theorem dX8_close_2 : decode cX8_close 2 = .ok (.invokevirtual 135, 3) := by decide +kernel
theorem dX8_close_5 : decode cX8_close 5 = .ok (.ifCond .eq 10, 3) := by decide +kernel
theorem dX8_close_8 : decode cX8_close 8 = .ok (.iload_n 2, 1) := by decide +kernel
theorem dX8_close_9 : decode cX8_close 9 = .ok (.invokestatic 191, 3) := by decide +kernel
theorem dX8_close_12 : decode cX8_close 12 = .ok (.ifCond .ne 10, 3) := by decide +kernel
theorem dX8_close_15 : decode cX8_close 15 = .ok (.aload_n 0, 1) := by decide +kernel
theorem dX8_close_16 : decode cX8_close 16 = .ok (.ldc 90, 2) := by decide +kernel
theorem dX8_close_18 : decode cX8_close 18 = .ok (.invokevirtual 91, 3) := by decide +kernel
theorem dX8_close_21 : decode cX8_close 21 = .ok (.ireturn, 1) := by decide +kernel
theorem dX8_close_22 : decode cX8_close 22 = .ok (.aload_n 0, 1) := by decide +kernel
theorem dX8_close_23 : decode cX8_close 23 = .ok (.getfield 19, 3) := by decide +kernel
theorem dX8_close_26 : decode cX8_close 26 = .ok (.getfield 218, 3) := by decide +kernel
theorem dX8_close_29 : decode cX8_close 29 = .ok (.iload_n 1, 1) := by decide +kernel
theorem dX8_close_30 : decode cX8_close 30 = .ok (.baload, 1) := by decide +kernel
theorem dX8_close_31 : decode cX8_close 31 = .ok (.ifCond .eq 12, 3) := by decide +kernel
theorem dX8_close_34 : decode cX8_close 34 = .ok (.iload_n 2, 1) := by decide +kernel
theorem dX8_close_35 : decode cX8_close 35 = .ok (.aload_n 0, 1) := by decide +kernel
theorem dX8_close_36 : decode cX8_close 36 = .ok (.iload_n 1, 1) := by decide +kernel
theorem dX8_close_37 : decode cX8_close 37 = .ok (.invokevirtual 176, 3) := by decide +kernel
theorem dX8_close_40 : decode cX8_close 40 = .ok (.if_icmp .ge 10, 3) := by decide +kernel
theorem dX8_close_43 : decode cX8_close 43 = .ok (.aload_n 0, 1) := by decide +kernel
theorem dX8_close_44 : decode cX8_close 44 = .ok (.ldc 222, 2) := by decide +kernel
theorem dX8_close_46 : decode cX8_close 46 = .ok (.invokevirtual 91, 3) := by decide +kernel
theorem dX8_close_49 : decode cX8_close 49 = .ok (.ireturn, 1) := by decide +kernel
theorem dX8_close_50 : decode cX8_close 50 = .ok (.aload_n 0, 1) := by decide +kernel
theorem dX8_close_51 : decode cX8_close 51 = .ok (.iload_n 1, 1) := by decide +kernel
theorem dX8_close_52 : decode cX8_close 52 = .ok (.invokevirtual 166, 3) := by decide +kernel
theorem dX8_close_55 : decode cX8_close 55 = .ok (.istore_n 3, 1) := by decide +kernel
theorem dX8_close_56 : decode cX8_close 56 = .ok (.iload_n 3, 1) := by decide +kernel
theorem dX8_close_57 : decode cX8_close 57 = .ok (.ifCond .ge 9, 3) := by decide +kernel
theorem dX8_close_60 : decode cX8_close 60 = .ok (.aload_n 0, 1) := by decide +kernel
theorem dX8_close_61 : decode cX8_close 61 = .ok (.iload_n 3, 1) := by decide +kernel
theorem dX8_close_62 : decode cX8_close 62 = .ok (.invokevirtual 91, 3) := by decide +kernel
theorem dX8_close_65 : decode cX8_close 65 = .ok (.ireturn, 1) := by decide +kernel
theorem dX8_close_66 : decode cX8_close 66 = .ok (.aload_n 0, 1) := by decide +kernel
theorem dX8_close_67 : decode cX8_close 67 = .ok (.getfield 19, 3) := by decide +kernel
theorem dX8_close_70 : decode cX8_close 70 = .ok (.iload_n 1, 1) := by decide +kernel
theorem dX8_close_71 : decode cX8_close 71 = .ok (.iload_n 2, 1) := by decide +kernel
theorem dX8_close_72 : decode cX8_close 72 = .ok (.iload_n 3, 1) := by decide +kernel
theorem dX8_close_73 : decode cX8_close 73 = .ok (.invokevirtual 223, 3) := by decide +kernel
theorem dX8_close_76 : decode cX8_close 76 = .ok (.aload_n 0, 1) := by decide +kernel
theorem dX8_close_77 : decode cX8_close 77 = .ok (.getfield 58, 3) := by decide +kernel
theorem dX8_close_80 : decode cX8_close 80 = .ok (.getfield 227, 3) := by decide +kernel
theorem dX8_close_83 : decode cX8_close 83 = .ok (.iload_n 3, 1) := by decide +kernel
theorem dX8_close_84 : decode cX8_close 84 = .ok (.dup2, 1) := by decide +kernel
theorem dX8_close_85 : decode cX8_close 85 = .ok (.iaload, 1) := by decide +kernel
theorem dX8_close_86 : decode cX8_close 86 = .ok (.iconst 1, 1) := by decide +kernel
theorem dX8_close_87 : decode cX8_close 87 = .ok (.iadd, 1) := by decide +kernel
theorem dX8_close_88 : decode cX8_close 88 = .ok (.iastore, 1) := by decide +kernel
theorem dX8_close_89 : decode cX8_close 89 = .ok (.iload_n 3, 1) := by decide +kernel
theorem dX8_close_90 : decode cX8_close 90 = .ok (.ireturn, 1) := by decide +kernel
theorem dX8_look_0 : decode cX8_look 0 = .ok (.aload_n 0, 1) := by decide +kernel
theorem dX8_look_1 : decode cX8_look 1 = .ok (.iload_n 1, 1) := by decide +kernel
theorem dX8_look_2 : decode cX8_look 2 = .ok (.invokevirtual 135, 3) := by decide +kernel
theorem dX8_look_5 : decode cX8_look 5 = .ok (.ifCond .ne 10, 3) := by decide +kernel
theorem dX8_look_8 : decode cX8_look 8 = .ok (.aload_n 0, 1) := by decide +kernel
theorem dX8_look_9 : decode cX8_look 9 = .ok (.ldc 90, 2) := by decide +kernel
theorem dX8_look_11 : decode cX8_look 11 = .ok (.invokevirtual 91, 3) := by decide +kernel
theorem dX8_look_14 : decode cX8_look 14 = .ok (.ireturn, 1) := by decide +kernel
theorem dX8_look_15 : decode cX8_look 15 = .ok (.aload_n 0, 1) := by decide +kernel
theorem dX8_look_16 : decode cX8_look 16 = .ok (.getfield 19, 3) := by decide +kernel
theorem dX8_look_19 : decode cX8_look 19 = .ok (.getfield 218, 3) := by decide +kernel
theorem dX8_look_22 : decode cX8_look 22 = .ok (.iload_n 1, 1) := by decide +kernel
theorem dX8_look_23 : decode cX8_look 23 = .ok (.baload, 1) := by decide +kernel
theorem dX8_look_24 : decode cX8_look 24 = .ok (.ifCond .ne 15, 3) := by decide +kernel
theorem dX8_look_27 : decode cX8_look 27 = .ok (.aload_n 0, 1) := by decide +kernel
theorem dX8_look_28 : decode cX8_look 28 = .ok (.getfield 19, 3) := by decide +kernel
theorem dX8_look_31 : decode cX8_look 31 = .ok (.getfield 230, 3) := by decide +kernel
theorem dX8_look_34 : decode cX8_look 34 = .ok (.iload_n 1, 1) := by decide +kernel
theorem dX8_look_35 : decode cX8_look 35 = .ok (.baload, 1) := by decide +kernel
theorem dX8_look_36 : decode cX8_look 36 = .ok (.ifCond .eq 10, 3) := by decide +kernel
theorem dX8_look_39 : decode cX8_look 39 = .ok (.aload_n 0, 1) := by decide +kernel
theorem dX8_look_40 : decode cX8_look 40 = .ok (.ldc 222, 2) := by decide +kernel
theorem dX8_look_42 : decode cX8_look 42 = .ok (.invokevirtual 91, 3) := by decide +kernel
theorem dX8_look_45 : decode cX8_look 45 = .ok (.ireturn, 1) := by decide +kernel
theorem dX8_look_46 : decode cX8_look 46 = .ok (.aload_n 0, 1) := by decide +kernel
theorem dX8_look_47 : decode cX8_look 47 = .ok (.getfield 58, 3) := by decide +kernel
theorem dX8_look_50 : decode cX8_look 50 = .ok (.aload_n 0, 1) := by decide +kernel
theorem dX8_look_51 : decode cX8_look 51 = .ok (.getfield 19, 3) := by decide +kernel
theorem dX8_look_54 : decode cX8_look 54 = .ok (.getfield 233, 3) := by decide +kernel
theorem dX8_look_57 : decode cX8_look 57 = .ok (.iload_n 1, 1) := by decide +kernel
theorem dX8_look_58 : decode cX8_look 58 = .ok (.iaload, 1) := by decide +kernel
theorem dX8_look_59 : decode cX8_look 59 = .ok (.iload_n 2, 1) := by decide +kernel
theorem dX8_look_60 : decode cX8_look 60 = .ok (.invokevirtual 236, 3) := by decide +kernel
theorem dX8_look_63 : decode cX8_look 63 = .ok (.iload_n 2, 1) := by decide +kernel
theorem dX8_look_64 : decode cX8_look 64 = .ok (.ifCond .eq 16, 3) := by decide +kernel
theorem dX8_look_67 : decode cX8_look 67 = .ok (.aload_n 0, 1) := by decide +kernel
theorem dX8_look_68 : decode cX8_look 68 = .ok (.getfield 19, 3) := by decide +kernel
theorem dX8_look_71 : decode cX8_look 71 = .ok (.getfield 230, 3) := by decide +kernel
theorem dX8_look_74 : decode cX8_look 74 = .ok (.iload_n 1, 1) := by decide +kernel
theorem dX8_look_75 : decode cX8_look 75 = .ok (.iconst 1, 1) := by decide +kernel
theorem dX8_look_76 : decode cX8_look 76 = .ok (.bastore, 1) := by decide +kernel
theorem dX8_look_77 : decode cX8_look 77 = .ok (.goto 13, 3) := by decide +kernel
theorem dX8_look_80 : decode cX8_look 80 = .ok (.aload_n 0, 1) := by decide +kernel
theorem dX8_look_81 : decode cX8_look 81 = .ok (.getfield 19, 3) := by decide +kernel
theorem dX8_look_84 : decode cX8_look 84 = .ok (.getfield 218, 3) := by decide +kernel
theorem dX8_look_87 : decode cX8_look 87 = .ok (.iload_n 1, 1) := by decide +kernel
theorem dX8_look_88 : decode cX8_look 88 = .ok (.iconst 1, 1) := by decide +kernel
theorem dX8_look_89 : decode cX8_look 89 = .ok (.bastore, 1) := by decide +kernel
theorem dX8_look_90 : decode cX8_look 90 = .ok (.iconst 1, 1) := by decide +kernel
theorem dX8_look_91 : decode cX8_look 91 = .ok (.ireturn, 1) := by decide +kernel
theorem dX8_closings_0 : decode cX8_closings 0 = .ok (.iload_n 1, 1) := by decide +kernel
theorem dX8_closings_1 : decode cX8_closings 1 = .ok (.iconst 0, 1) := by decide +kernel
theorem dX8_closings_2 : decode cX8_closings 2 = .ok (.iconst 5, 1) := by decide +kernel
theorem dX8_closings_3 : decode cX8_closings 3 = .ok (.invokestatic 79, 3) := by decide +kernel
theorem dX8_closings_6 : decode cX8_closings 6 = .ok (.ifCond .eq 12, 3) := by decide +kernel
theorem dX8_closings_9 : decode cX8_closings 9 = .ok (.iload_n 2, 1) := by decide +kernel
theorem dX8_closings_10 : decode cX8_closings 10 = .ok (.iconst 0, 1) := by decide +kernel
theorem dX8_closings_11 : decode cX8_closings 11 = .ok (.iconst 3, 1) := by decide +kernel
theorem dX8_closings_12 : decode cX8_closings 12 = .ok (.invokestatic 79, 3) := by decide +kernel
theorem dX8_closings_15 : decode cX8_closings 15 = .ok (.ifCond .ne 10, 3) := by decide +kernel
theorem dX8_closings_18 : decode cX8_closings 18 = .ok (.aload_n 0, 1) := by decide +kernel
theorem dX8_closings_19 : decode cX8_closings 19 = .ok (.ldc 90, 2) := by decide +kernel
theorem dX8_closings_21 : decode cX8_closings 21 = .ok (.invokevirtual 91, 3) := by decide +kernel
theorem dX8_closings_24 : decode cX8_closings 24 = .ok (.ireturn, 1) := by decide +kernel
theorem dX8_closings_25 : decode cX8_closings 25 = .ok (.aload_n 0, 1) := by decide +kernel
theorem dX8_closings_26 : decode cX8_closings 26 = .ok (.getfield 58, 3) := by decide +kernel
theorem dX8_closings_29 : decode cX8_closings 29 = .ok (.iload_n 1, 1) := by decide +kernel
theorem dX8_closings_30 : decode cX8_closings 30 = .ok (.iload_n 2, 1) := by decide +kernel
theorem dX8_closings_31 : decode cX8_closings 31 = .ok (.invokevirtual 240, 3) := by decide +kernel
theorem dX8_closings_34 : decode cX8_closings 34 = .ok (.ireturn, 1) := by decide +kernel
theorem dX8_walk_0 : decode cX8_walk 0 = .ok (.iload_n 1, 1) := by decide +kernel
theorem dX8_walk_1 : decode cX8_walk 1 = .ok (.invokestatic 241, 3) := by decide +kernel
theorem dX8_walk_4 : decode cX8_walk 4 = .ok (.ifCond .eq 23, 3) := by decide +kernel
theorem dX8_walk_7 : decode cX8_walk 7 = .ok (.iload_n 2, 1) := by decide +kernel
theorem dX8_walk_8 : decode cX8_walk 8 = .ok (.iconst 0, 1) := by decide +kernel
theorem dX8_walk_9 : decode cX8_walk 9 = .ok (.sipush 1000, 3) := by decide +kernel
theorem dX8_walk_12 : decode cX8_walk 12 = .ok (.invokestatic 79, 3) := by decide +kernel
theorem dX8_walk_15 : decode cX8_walk 15 = .ok (.ifCond .eq 12, 3) := by decide +kernel
theorem dX8_walk_18 : decode cX8_walk 18 = .ok (.iload_n 3, 1) := by decide +kernel
theorem dX8_walk_19 : decode cX8_walk 19 = .ok (.iconst 0, 1) := by decide +kernel
theorem dX8_walk_20 : decode cX8_walk 20 = .ok (.iload_n 2, 1) := by decide +kernel
theorem dX8_walk_21 : decode cX8_walk 21 = .ok (.invokestatic 79, 3) := by decide +kernel
theorem dX8_walk_24 : decode cX8_walk 24 = .ok (.ifCond .ne 10, 3) := by decide +kernel
theorem dX8_walk_27 : decode cX8_walk 27 = .ok (.aload_n 0, 1) := by decide +kernel
theorem dX8_walk_28 : decode cX8_walk 28 = .ok (.ldc 90, 2) := by decide +kernel
theorem dX8_walk_30 : decode cX8_walk 30 = .ok (.invokevirtual 91, 3) := by decide +kernel
theorem dX8_walk_33 : decode cX8_walk 33 = .ok (.ireturn, 1) := by decide +kernel
theorem dX8_walk_34 : decode cX8_walk 34 = .ok (.aload_n 0, 1) := by decide +kernel
theorem dX8_walk_35 : decode cX8_walk 35 = .ok (.getfield 62, 3) := by decide +kernel
theorem dX8_walk_38 : decode cX8_walk 38 = .ok (.iload_n 1, 1) := by decide +kernel
theorem dX8_walk_39 : decode cX8_walk 39 = .ok (.iload_n 2, 1) := by decide +kernel
theorem dX8_walk_40 : decode cX8_walk 40 = .ok (.iastore, 1) := by decide +kernel
theorem dX8_walk_41 : decode cX8_walk 41 = .ok (.aload_n 0, 1) := by decide +kernel
theorem dX8_walk_42 : decode cX8_walk 42 = .ok (.getfield 65, 3) := by decide +kernel
theorem dX8_walk_45 : decode cX8_walk 45 = .ok (.iload_n 1, 1) := by decide +kernel
theorem dX8_walk_46 : decode cX8_walk 46 = .ok (.iload_n 3, 1) := by decide +kernel
theorem dX8_walk_47 : decode cX8_walk 47 = .ok (.iastore, 1) := by decide +kernel
theorem dX8_walk_48 : decode cX8_walk 48 = .ok (.iconst 1, 1) := by decide +kernel
theorem dX8_walk_49 : decode cX8_walk 49 = .ok (.ireturn, 1) := by decide +kernel
theorem dX8_quarter_0 : decode cX8_quarter 0 = .ok (.iload_n 1, 1) := by decide +kernel
theorem dX8_quarter_1 : decode cX8_quarter 1 = .ok (.invokestatic 241, 3) := by decide +kernel
theorem dX8_quarter_4 : decode cX8_quarter 4 = .ok (.ifCond .eq 12, 3) := by decide +kernel
theorem dX8_quarter_7 : decode cX8_quarter 7 = .ok (.iload_n 2, 1) := by decide +kernel
theorem dX8_quarter_8 : decode cX8_quarter 8 = .ok (.iconst 0, 1) := by decide +kernel
theorem dX8_quarter_9 : decode cX8_quarter 9 = .ok (.iconst 4, 1) := by decide +kernel
theorem dX8_quarter_10 : decode cX8_quarter 10 = .ok (.invokestatic 79, 3) := by decide +kernel
theorem dX8_quarter_13 : decode cX8_quarter 13 = .ok (.ifCond .ne 10, 3) := by decide +kernel
theorem dX8_quarter_16 : decode cX8_quarter 16 = .ok (.aload_n 0, 1) := by decide +kernel
theorem dX8_quarter_17 : decode cX8_quarter 17 = .ok (.ldc 90, 2) := by decide +kernel
theorem dX8_quarter_19 : decode cX8_quarter 19 = .ok (.invokevirtual 91, 3) := by decide +kernel
theorem dX8_quarter_22 : decode cX8_quarter 22 = .ok (.ireturn, 1) := by decide +kernel
theorem dX8_quarter_23 : decode cX8_quarter 23 = .ok (.iload_n 2, 1) := by decide +kernel
theorem dX8_quarter_24 : decode cX8_quarter 24 = .ok (.tableswitch 61 0 3 #[32, 39, 48, 55], 32) := by decide +kernel
theorem dX8_quarter_56 : decode cX8_quarter 56 = .ok (.aload_n 0, 1) := by decide +kernel
theorem dX8_quarter_57 : decode cX8_quarter 57 = .ok (.iload_n 1, 1) := by decide +kernel
theorem dX8_quarter_58 : decode cX8_quarter 58 = .ok (.iconst 0, 1) := by decide +kernel
theorem dX8_quarter_59 : decode cX8_quarter 59 = .ok (.invokevirtual 244, 3) := by decide +kernel
theorem dX8_quarter_62 : decode cX8_quarter 62 = .ok (.ireturn, 1) := by decide +kernel
theorem dX8_quarter_63 : decode cX8_quarter 63 = .ok (.aload_n 0, 1) := by decide +kernel
theorem dX8_quarter_64 : decode cX8_quarter 64 = .ok (.getfield 10, 3) := by decide +kernel
theorem dX8_quarter_67 : decode cX8_quarter 67 = .ok (.iload_n 1, 1) := by decide +kernel
theorem dX8_quarter_68 : decode cX8_quarter 68 = .ok (.invokevirtual 248, 3) := by decide +kernel
theorem dX8_quarter_71 : decode cX8_quarter 71 = .ok (.ireturn, 1) := by decide +kernel
theorem dX8_quarter_72 : decode cX8_quarter 72 = .ok (.aload_n 0, 1) := by decide +kernel
theorem dX8_quarter_73 : decode cX8_quarter 73 = .ok (.iload_n 1, 1) := by decide +kernel
theorem dX8_quarter_74 : decode cX8_quarter 74 = .ok (.iconst 1, 1) := by decide +kernel
theorem dX8_quarter_75 : decode cX8_quarter 75 = .ok (.invokevirtual 244, 3) := by decide +kernel
theorem dX8_quarter_78 : decode cX8_quarter 78 = .ok (.ireturn, 1) := by decide +kernel
theorem dX8_quarter_79 : decode cX8_quarter 79 = .ok (.aload_n 0, 1) := by decide +kernel
theorem dX8_quarter_80 : decode cX8_quarter 80 = .ok (.iload_n 1, 1) := by decide +kernel
theorem dX8_quarter_81 : decode cX8_quarter 81 = .ok (.invokevirtual 251, 3) := by decide +kernel
theorem dX8_quarter_84 : decode cX8_quarter 84 = .ok (.ireturn, 1) := by decide +kernel
theorem dX8_quarter_85 : decode cX8_quarter 85 = .ok (.aload_n 0, 1) := by decide +kernel
theorem dX8_quarter_86 : decode cX8_quarter 86 = .ok (.iload_n 1, 1) := by decide +kernel
theorem dX8_quarter_87 : decode cX8_quarter 87 = .ok (.invokevirtual 254, 3) := by decide +kernel
theorem dX8_quarter_90 : decode cX8_quarter 90 = .ok (.ireturn, 1) := by decide +kernel
theorem dX8_sheet_0 : decode cX8_sheet 0 = .ok (.iload_n 1, 1) := by decide +kernel
theorem dX8_sheet_1 : decode cX8_sheet 1 = .ok (.invokestatic 257, 3) := by decide +kernel
theorem dX8_sheet_4 : decode cX8_sheet 4 = .ok (.ifCond .eq 25, 3) := by decide +kernel
theorem dX8_sheet_7 : decode cX8_sheet 7 = .ok (.iload_n 2, 1) := by decide +kernel
theorem dX8_sheet_8 : decode cX8_sheet 8 = .ok (.ifCond .eq 28, 3) := by decide +kernel
theorem dX8_sheet_11 : decode cX8_sheet 11 = .ok (.iload_n 2, 1) := by decide +kernel
theorem dX8_sheet_12 : decode cX8_sheet 12 = .ok (.bipush 8, 2) := by decide +kernel
theorem dX8_sheet_14 : decode cX8_sheet 14 = .ok (.if_icmp .eq 22, 3) := by decide +kernel
theorem dX8_sheet_17 : decode cX8_sheet 17 = .ok (.iload_n 2, 1) := by decide +kernel
theorem dX8_sheet_18 : decode cX8_sheet 18 = .ok (.bipush 16, 2) := by decide +kernel
theorem dX8_sheet_20 : decode cX8_sheet 20 = .ok (.if_icmp .eq 16, 3) := by decide +kernel
theorem dX8_sheet_23 : decode cX8_sheet 23 = .ok (.iload_n 2, 1) := by decide +kernel
theorem dX8_sheet_24 : decode cX8_sheet 24 = .ok (.bipush 32, 2) := by decide +kernel
theorem dX8_sheet_26 : decode cX8_sheet 26 = .ok (.if_icmp .eq 10, 3) := by decide +kernel
theorem dX8_sheet_29 : decode cX8_sheet 29 = .ok (.aload_n 0, 1) := by decide +kernel
theorem dX8_sheet_30 : decode cX8_sheet 30 = .ok (.ldc 90, 2) := by decide +kernel
theorem dX8_sheet_32 : decode cX8_sheet 32 = .ok (.invokevirtual 91, 3) := by decide +kernel
theorem dX8_sheet_35 : decode cX8_sheet 35 = .ok (.ireturn, 1) := by decide +kernel
theorem dX8_sheet_36 : decode cX8_sheet 36 = .ok (.iload_n 3, 1) := by decide +kernel
theorem dX8_sheet_37 : decode cX8_sheet 37 = .ok (.ifCond .ge 11, 3) := by decide +kernel
theorem dX8_sheet_40 : decode cX8_sheet 40 = .ok (.aload_n 0, 1) := by decide +kernel
theorem dX8_sheet_41 : decode cX8_sheet 41 = .ok (.ldc_w 260, 3) := by decide +kernel
theorem dX8_sheet_44 : decode cX8_sheet 44 = .ok (.invokevirtual 91, 3) := by decide +kernel
theorem dX8_sheet_47 : decode cX8_sheet 47 = .ok (.ireturn, 1) := by decide +kernel
theorem dX8_sheet_48 : decode cX8_sheet 48 = .ok (.iload_n 3, 1) := by decide +kernel
theorem dX8_sheet_49 : decode cX8_sheet 49 = .ok (.bipush 12, 2) := by decide +kernel
theorem dX8_sheet_51 : decode cX8_sheet 51 = .ok (.if_icmp .le 10, 3) := by decide +kernel
theorem dX8_sheet_54 : decode cX8_sheet 54 = .ok (.aload_n 0, 1) := by decide +kernel
theorem dX8_sheet_55 : decode cX8_sheet 55 = .ok (.ldc 90, 2) := by decide +kernel
theorem dX8_sheet_57 : decode cX8_sheet 57 = .ok (.invokevirtual 91, 3) := by decide +kernel
theorem dX8_sheet_60 : decode cX8_sheet 60 = .ok (.ireturn, 1) := by decide +kernel
theorem dX8_sheet_61 : decode cX8_sheet 61 = .ok (.aload_n 0, 1) := by decide +kernel
theorem dX8_sheet_62 : decode cX8_sheet 62 = .ok (.getfield 70, 3) := by decide +kernel
theorem dX8_sheet_65 : decode cX8_sheet 65 = .ok (.iload_n 1, 1) := by decide +kernel
theorem dX8_sheet_66 : decode cX8_sheet 66 = .ok (.aaload, 1) := by decide +kernel
theorem dX8_sheet_67 : decode cX8_sheet 67 = .ok (.iload_n 2, 1) := by decide +kernel
theorem dX8_sheet_68 : decode cX8_sheet 68 = .ok (.iload_n 3, 1) := by decide +kernel
theorem dX8_sheet_69 : decode cX8_sheet 69 = .ok (.invokevirtual 261, 3) := by decide +kernel
theorem dX8_sheet_72 : decode cX8_sheet 72 = .ok (.aload_n 0, 1) := by decide +kernel
theorem dX8_sheet_73 : decode cX8_sheet 73 = .ok (.getfield 70, 3) := by decide +kernel
theorem dX8_sheet_76 : decode cX8_sheet 76 = .ok (.iload_n 1, 1) := by decide +kernel
theorem dX8_sheet_77 : decode cX8_sheet 77 = .ok (.aaload, 1) := by decide +kernel
theorem dX8_sheet_78 : decode cX8_sheet 78 = .ok (.getfield 263, 3) := by decide +kernel
theorem dX8_sheet_81 : decode cX8_sheet 81 = .ok (.ireturn, 1) := by decide +kernel
theorem dX8_write_0 : decode cX8_write 0 = .ok (.iload_n 1, 1) := by decide +kernel
theorem dX8_write_1 : decode cX8_write 1 = .ok (.invokestatic 257, 3) := by decide +kernel
theorem dX8_write_4 : decode cX8_write 4 = .ok (.ifCond .ne 10, 3) := by decide +kernel
theorem dX8_write_7 : decode cX8_write 7 = .ok (.aload_n 0, 1) := by decide +kernel
theorem dX8_write_8 : decode cX8_write 8 = .ok (.ldc 90, 2) := by decide +kernel
theorem dX8_write_10 : decode cX8_write 10 = .ok (.invokevirtual 91, 3) := by decide +kernel
theorem dX8_write_13 : decode cX8_write 13 = .ok (.ireturn, 1) := by decide +kernel
theorem dX8_write_14 : decode cX8_write 14 = .ok (.aload_n 0, 1) := by decide +kernel
theorem dX8_write_15 : decode cX8_write 15 = .ok (.getfield 70, 3) := by decide +kernel
theorem dX8_write_18 : decode cX8_write 18 = .ok (.iload_n 1, 1) := by decide +kernel
theorem dX8_write_19 : decode cX8_write 19 = .ok (.aaload, 1) := by decide +kernel
theorem dX8_write_20 : decode cX8_write 20 = .ok (.invokevirtual 266, 3) := by decide +kernel
theorem dX8_write_23 : decode cX8_write 23 = .ok (.ifCond .eq 11, 3) := by decide +kernel
theorem dX8_write_26 : decode cX8_write 26 = .ok (.aload_n 0, 1) := by decide +kernel
theorem dX8_write_27 : decode cX8_write 27 = .ok (.ldc_w 270, 3) := by decide +kernel
theorem dX8_write_30 : decode cX8_write 30 = .ok (.invokevirtual 91, 3) := by decide +kernel
theorem dX8_write_33 : decode cX8_write 33 = .ok (.ireturn, 1) := by decide +kernel
theorem dX8_write_34 : decode cX8_write 34 = .ok (.iload_n 2, 1) := by decide +kernel
theorem dX8_write_35 : decode cX8_write 35 = .ok (.iconst 0, 1) := by decide +kernel
theorem dX8_write_36 : decode cX8_write 36 = .ok (.aload_n 0, 1) := by decide +kernel
theorem dX8_write_37 : decode cX8_write 37 = .ok (.getfield 70, 3) := by decide +kernel
theorem dX8_write_40 : decode cX8_write 40 = .ok (.iload_n 1, 1) := by decide +kernel
theorem dX8_write_41 : decode cX8_write 41 = .ok (.aaload, 1) := by decide +kernel
theorem dX8_write_42 : decode cX8_write 42 = .ok (.getfield 263, 3) := by decide +kernel
theorem dX8_write_45 : decode cX8_write 45 = .ok (.iconst 1, 1) := by decide +kernel
theorem dX8_write_46 : decode cX8_write 46 = .ok (.isub, 1) := by decide +kernel
theorem dX8_write_47 : decode cX8_write 47 = .ok (.invokestatic 79, 3) := by decide +kernel
theorem dX8_write_50 : decode cX8_write 50 = .ok (.ifCond .ne 10, 3) := by decide +kernel
theorem dX8_write_53 : decode cX8_write 53 = .ok (.aload_n 0, 1) := by decide +kernel
theorem dX8_write_54 : decode cX8_write 54 = .ok (.ldc 90, 2) := by decide +kernel
theorem dX8_write_56 : decode cX8_write 56 = .ok (.invokevirtual 91, 3) := by decide +kernel
theorem dX8_write_59 : decode cX8_write 59 = .ok (.ireturn, 1) := by decide +kernel
theorem dX8_write_60 : decode cX8_write 60 = .ok (.aload_n 0, 1) := by decide +kernel
theorem dX8_write_61 : decode cX8_write 61 = .ok (.getfield 70, 3) := by decide +kernel
theorem dX8_write_64 : decode cX8_write 64 = .ok (.iload_n 1, 1) := by decide +kernel
theorem dX8_write_65 : decode cX8_write 65 = .ok (.aaload, 1) := by decide +kernel
theorem dX8_write_66 : decode cX8_write 66 = .ok (.iload_n 2, 1) := by decide +kernel
theorem dX8_write_67 : decode cX8_write 67 = .ok (.iload_n 3, 1) := by decide +kernel
theorem dX8_write_68 : decode cX8_write 68 = .ok (.invokevirtual 271, 3) := by decide +kernel
theorem dX8_write_71 : decode cX8_write 71 = .ok (.ireturn, 1) := by decide +kernel
theorem dX8_copy_0 : decode cX8_copy 0 = .ok (.iload_n 1, 1) := by decide +kernel
theorem dX8_copy_1 : decode cX8_copy 1 = .ok (.invokestatic 257, 3) := by decide +kernel
theorem dX8_copy_4 : decode cX8_copy 4 = .ok (.ifCond .eq 10, 3) := by decide +kernel
theorem dX8_copy_7 : decode cX8_copy 7 = .ok (.iload_n 3, 1) := by decide +kernel
theorem dX8_copy_8 : decode cX8_copy 8 = .ok (.invokestatic 257, 3) := by decide +kernel
theorem dX8_copy_11 : decode cX8_copy 11 = .ok (.ifCond .ne 10, 3) := by decide +kernel
theorem dX8_copy_14 : decode cX8_copy 14 = .ok (.aload_n 0, 1) := by decide +kernel
theorem dX8_copy_15 : decode cX8_copy 15 = .ok (.ldc 90, 2) := by decide +kernel
theorem dX8_copy_17 : decode cX8_copy 17 = .ok (.invokevirtual 91, 3) := by decide +kernel
theorem dX8_copy_20 : decode cX8_copy 20 = .ok (.ireturn, 1) := by decide +kernel
theorem dX8_copy_21 : decode cX8_copy 21 = .ok (.aload_n 0, 1) := by decide +kernel
theorem dX8_copy_22 : decode cX8_copy 22 = .ok (.getfield 70, 3) := by decide +kernel
theorem dX8_copy_25 : decode cX8_copy 25 = .ok (.iload_n 1, 1) := by decide +kernel
theorem dX8_copy_26 : decode cX8_copy 26 = .ok (.aaload, 1) := by decide +kernel
theorem dX8_copy_27 : decode cX8_copy 27 = .ok (.astore 6, 2) := by decide +kernel
theorem dX8_copy_29 : decode cX8_copy 29 = .ok (.aload_n 0, 1) := by decide +kernel
theorem dX8_copy_30 : decode cX8_copy 30 = .ok (.getfield 70, 3) := by decide +kernel
theorem dX8_copy_33 : decode cX8_copy 33 = .ok (.iload_n 3, 1) := by decide +kernel
theorem dX8_copy_34 : decode cX8_copy 34 = .ok (.aaload, 1) := by decide +kernel
theorem dX8_copy_35 : decode cX8_copy 35 = .ok (.astore 7, 2) := by decide +kernel
theorem dX8_copy_37 : decode cX8_copy 37 = .ok (.aload 6, 2) := by decide +kernel
theorem dX8_copy_39 : decode cX8_copy 39 = .ok (.invokevirtual 266, 3) := by decide +kernel
theorem dX8_copy_42 : decode cX8_copy 42 = .ok (.ifCond .ne 11, 3) := by decide +kernel
theorem dX8_copy_45 : decode cX8_copy 45 = .ok (.aload 7, 2) := by decide +kernel
theorem dX8_copy_47 : decode cX8_copy 47 = .ok (.invokevirtual 266, 3) := by decide +kernel
theorem dX8_copy_50 : decode cX8_copy 50 = .ok (.ifCond .eq 11, 3) := by decide +kernel
theorem dX8_copy_53 : decode cX8_copy 53 = .ok (.aload_n 0, 1) := by decide +kernel
theorem dX8_copy_54 : decode cX8_copy 54 = .ok (.ldc_w 270, 3) := by decide +kernel
theorem dX8_copy_57 : decode cX8_copy 57 = .ok (.invokevirtual 91, 3) := by decide +kernel
theorem dX8_copy_60 : decode cX8_copy 60 = .ok (.ireturn, 1) := by decide +kernel
theorem dX8_copy_61 : decode cX8_copy 61 = .ok (.aload 6, 2) := by decide +kernel
theorem dX8_copy_63 : decode cX8_copy 63 = .ok (.getfield 274, 3) := by decide +kernel
theorem dX8_copy_66 : decode cX8_copy 66 = .ok (.aload 7, 2) := by decide +kernel
theorem dX8_copy_68 : decode cX8_copy 68 = .ok (.getfield 274, 3) := by decide +kernel
theorem dX8_copy_71 : decode cX8_copy 71 = .ok (.if_icmp .eq 10, 3) := by decide +kernel
theorem dX8_copy_74 : decode cX8_copy 74 = .ok (.aload_n 0, 1) := by decide +kernel
theorem dX8_copy_75 : decode cX8_copy 75 = .ok (.ldc 126, 2) := by decide +kernel
theorem dX8_copy_77 : decode cX8_copy 77 = .ok (.invokevirtual 91, 3) := by decide +kernel
theorem dX8_copy_80 : decode cX8_copy 80 = .ok (.ireturn, 1) := by decide +kernel
theorem dX8_copy_81 : decode cX8_copy 81 = .ok (.aload 6, 2) := by decide +kernel
theorem dX8_copy_83 : decode cX8_copy 83 = .ok (.iload_n 2, 1) := by decide +kernel
theorem dX8_copy_84 : decode cX8_copy 84 = .ok (.iload 5, 2) := by decide +kernel
theorem dX8_copy_86 : decode cX8_copy 86 = .ok (.invokevirtual 277, 3) := by decide +kernel
theorem dX8_copy_89 : decode cX8_copy 89 = .ok (.ifCond .eq 15, 3) := by decide +kernel
theorem dX8_copy_92 : decode cX8_copy 92 = .ok (.aload 7, 2) := by decide +kernel
theorem dX8_copy_94 : decode cX8_copy 94 = .ok (.iload 4, 2) := by decide +kernel
theorem dX8_copy_96 : decode cX8_copy 96 = .ok (.iload 5, 2) := by decide +kernel
theorem dX8_copy_98 : decode cX8_copy 98 = .ok (.invokevirtual 277, 3) := by decide +kernel
theorem dX8_copy_101 : decode cX8_copy 101 = .ok (.ifCond .ne 10, 3) := by decide +kernel
theorem dX8_copy_104 : decode cX8_copy 104 = .ok (.aload_n 0, 1) := by decide +kernel
theorem dX8_copy_105 : decode cX8_copy 105 = .ok (.ldc 90, 2) := by decide +kernel
theorem dX8_copy_107 : decode cX8_copy 107 = .ok (.invokevirtual 91, 3) := by decide +kernel
theorem dX8_copy_110 : decode cX8_copy 110 = .ok (.ireturn, 1) := by decide +kernel
theorem dX8_copy_111 : decode cX8_copy 111 = .ok (.aload 6, 2) := by decide +kernel
theorem dX8_copy_113 : decode cX8_copy 113 = .ok (.getfield 280, 3) := by decide +kernel
theorem dX8_copy_116 : decode cX8_copy 116 = .ok (.iload_n 2, 1) := by decide +kernel
theorem dX8_copy_117 : decode cX8_copy 117 = .ok (.aload 7, 2) := by decide +kernel
theorem dX8_copy_119 : decode cX8_copy 119 = .ok (.getfield 280, 3) := by decide +kernel
theorem dX8_copy_122 : decode cX8_copy 122 = .ok (.iload 4, 2) := by decide +kernel
theorem dX8_copy_124 : decode cX8_copy 124 = .ok (.iload 5, 2) := by decide +kernel
theorem dX8_copy_126 : decode cX8_copy 126 = .ok (.invokestatic 283, 3) := by decide +kernel
theorem dX8_copy_129 : decode cX8_copy 129 = .ok (.iload 5, 2) := by decide +kernel
theorem dX8_copy_131 : decode cX8_copy 131 = .ok (.ireturn, 1) := by decide +kernel
theorem dX8_read_0 : decode cX8_read 0 = .ok (.iload_n 1, 1) := by decide +kernel
theorem dX8_read_1 : decode cX8_read 1 = .ok (.invokestatic 257, 3) := by decide +kernel
theorem dX8_read_4 : decode cX8_read 4 = .ok (.ifCond .eq 18, 3) := by decide +kernel
theorem dX8_read_7 : decode cX8_read 7 = .ok (.iload_n 2, 1) := by decide +kernel
theorem dX8_read_8 : decode cX8_read 8 = .ok (.invokestatic 83, 3) := by decide +kernel
theorem dX8_read_11 : decode cX8_read 11 = .ok (.ifCond .eq 11, 3) := by decide +kernel
theorem dX8_read_14 : decode cX8_read 14 = .ok (.aload_n 0, 1) := by decide +kernel
theorem dX8_read_15 : decode cX8_read 15 = .ok (.iload_n 3, 1) := by decide +kernel
theorem dX8_read_16 : decode cX8_read 16 = .ok (.invokevirtual 87, 3) := by decide +kernel
theorem dX8_read_19 : decode cX8_read 19 = .ok (.ifCond .ne 10, 3) := by decide +kernel
theorem dX8_read_22 : decode cX8_read 22 = .ok (.aload_n 0, 1) := by decide +kernel
theorem dX8_read_23 : decode cX8_read 23 = .ok (.ldc 90, 2) := by decide +kernel
theorem dX8_read_25 : decode cX8_read 25 = .ok (.invokevirtual 91, 3) := by decide +kernel
theorem dX8_read_28 : decode cX8_read 28 = .ok (.ireturn, 1) := by decide +kernel
theorem dX8_read_29 : decode cX8_read 29 = .ok (.aload_n 0, 1) := by decide +kernel
theorem dX8_read_30 : decode cX8_read 30 = .ok (.getfield 70, 3) := by decide +kernel
theorem dX8_read_33 : decode cX8_read 33 = .ok (.iload_n 1, 1) := by decide +kernel
theorem dX8_read_34 : decode cX8_read 34 = .ok (.aaload, 1) := by decide +kernel
theorem dX8_read_35 : decode cX8_read 35 = .ok (.astore 4, 2) := by decide +kernel
theorem dX8_read_37 : decode cX8_read 37 = .ok (.aload 4, 2) := by decide +kernel
theorem dX8_read_39 : decode cX8_read 39 = .ok (.invokevirtual 266, 3) := by decide +kernel
theorem dX8_read_42 : decode cX8_read 42 = .ok (.ifCond .eq 11, 3) := by decide +kernel
theorem dX8_read_45 : decode cX8_read 45 = .ok (.aload_n 0, 1) := by decide +kernel
theorem dX8_read_46 : decode cX8_read 46 = .ok (.ldc_w 270, 3) := by decide +kernel
theorem dX8_read_49 : decode cX8_read 49 = .ok (.invokevirtual 91, 3) := by decide +kernel
theorem dX8_read_52 : decode cX8_read 52 = .ok (.ireturn, 1) := by decide +kernel
theorem dX8_read_53 : decode cX8_read 53 = .ok (.aload 4, 2) := by decide +kernel
theorem dX8_read_55 : decode cX8_read 55 = .ok (.invokevirtual 289, 3) := by decide +kernel
theorem dX8_read_58 : decode cX8_read 58 = .ok (.ifCond .ne 10, 3) := by decide +kernel
theorem dX8_read_61 : decode cX8_read 61 = .ok (.aload_n 0, 1) := by decide +kernel
theorem dX8_read_62 : decode cX8_read 62 = .ok (.ldc 90, 2) := by decide +kernel
theorem dX8_read_64 : decode cX8_read 64 = .ok (.invokevirtual 91, 3) := by decide +kernel
theorem dX8_read_67 : decode cX8_read 67 = .ok (.ireturn, 1) := by decide +kernel
theorem dX8_read_68 : decode cX8_read 68 = .ok (.aload_n 0, 1) := by decide +kernel
theorem dX8_read_69 : decode cX8_read 69 = .ok (.getfield 10, 3) := by decide +kernel
theorem dX8_read_72 : decode cX8_read 72 = .ok (.getfield 95, 3) := by decide +kernel
theorem dX8_read_75 : decode cX8_read 75 = .ok (.aload 4, 2) := by decide +kernel
theorem dX8_read_77 : decode cX8_read 77 = .ok (.getfield 263, 3) := by decide +kernel
theorem dX8_read_80 : decode cX8_read 80 = .ok (.iadd, 1) := by decide +kernel
theorem dX8_read_81 : decode cX8_read 81 = .ok (.bipush 40, 2) := by decide +kernel
theorem dX8_read_83 : decode cX8_read 83 = .ok (.if_icmp .le 10, 3) := by decide +kernel
theorem dX8_read_86 : decode cX8_read 86 = .ok (.aload_n 0, 1) := by decide +kernel
theorem dX8_read_87 : decode cX8_read 87 = .ok (.ldc 98, 2) := by decide +kernel
theorem dX8_read_89 : decode cX8_read 89 = .ok (.invokevirtual 91, 3) := by decide +kernel
theorem dX8_read_92 : decode cX8_read 92 = .ok (.ireturn, 1) := by decide +kernel
theorem dX8_read_93 : decode cX8_read 93 = .ok (.iconst 0, 1) := by decide +kernel
theorem dX8_read_94 : decode cX8_read 94 = .ok (.istore 5, 2) := by decide +kernel
theorem dX8_read_96 : decode cX8_read 96 = .ok (.iload 5, 2) := by decide +kernel
theorem dX8_read_98 : decode cX8_read 98 = .ok (.aload 4, 2) := by decide +kernel
theorem dX8_read_100 : decode cX8_read 100 = .ok (.getfield 263, 3) := by decide +kernel
theorem dX8_read_103 : decode cX8_read 103 = .ok (.if_icmp .ge 39, 3) := by decide +kernel
theorem dX8_read_106 : decode cX8_read 106 = .ok (.aload_n 0, 1) := by decide +kernel
theorem dX8_read_107 : decode cX8_read 107 = .ok (.iload_n 2, 1) := by decide +kernel
theorem dX8_read_108 : decode cX8_read 108 = .ok (.aload 4, 2) := by decide +kernel
theorem dX8_read_110 : decode cX8_read 110 = .ok (.getfield 280, 3) := by decide +kernel
theorem dX8_read_113 : decode cX8_read 113 = .ok (.iload 5, 2) := by decide +kernel
theorem dX8_read_115 : decode cX8_read 115 = .ok (.iaload, 1) := by decide +kernel
theorem dX8_read_116 : decode cX8_read 116 = .ok (.bipush 32, 2) := by decide +kernel
theorem dX8_read_118 : decode cX8_read 118 = .ok (.idiv, 1) := by decide +kernel
theorem dX8_read_119 : decode cX8_read 119 = .ok (.aload 4, 2) := by decide +kernel
theorem dX8_read_121 : decode cX8_read 121 = .ok (.getfield 280, 3) := by decide +kernel
theorem dX8_read_124 : decode cX8_read 124 = .ok (.iload 5, 2) := by decide +kernel
theorem dX8_read_126 : decode cX8_read 126 = .ok (.iaload, 1) := by decide +kernel
theorem dX8_read_127 : decode cX8_read 127 = .ok (.bipush 32, 2) := by decide +kernel
theorem dX8_read_129 : decode cX8_read 129 = .ok (.irem, 1) := by decide +kernel
theorem dX8_read_130 : decode cX8_read 130 = .ok (.iconst 0, 1) := by decide +kernel
theorem dX8_read_131 : decode cX8_read 131 = .ok (.iload_n 3, 1) := by decide +kernel
theorem dX8_read_132 : decode cX8_read 132 = .ok (.invokevirtual 99, 3) := by decide +kernel
theorem dX8_read_135 : decode cX8_read 135 = .ok (.pop, 1) := by decide +kernel
theorem dX8_read_136 : decode cX8_read 136 = .ok (.iinc 5 1, 3) := by decide +kernel
theorem dX8_read_139 : decode cX8_read 139 = .ok (.goto (-43), 3) := by decide +kernel
theorem dX8_read_142 : decode cX8_read 142 = .ok (.aload_n 0, 1) := by decide +kernel
theorem dX8_read_143 : decode cX8_read 143 = .ok (.getfield 10, 3) := by decide +kernel
theorem dX8_read_146 : decode cX8_read 146 = .ok (.getfield 95, 3) := by decide +kernel
theorem dX8_read_149 : decode cX8_read 149 = .ok (.ireturn, 1) := by decide +kernel
theorem dX8_told_0 : decode cX8_told 0 = .ok (.iload_n 1, 1) := by decide +kernel
theorem dX8_told_1 : decode cX8_told 1 = .ok (.tableswitch 108 0 7 #[47, 55, 63, 71, 79, 87, 95, 103], 47) := by decide +kernel
theorem dX8_told_48 : decode cX8_told 48 = .ok (.aload_n 0, 1) := by decide +kernel
theorem dX8_told_49 : decode cX8_told 49 = .ok (.getfield 10, 3) := by decide +kernel
theorem dX8_told_52 : decode cX8_told 52 = .ok (.getfield 95, 3) := by decide +kernel
theorem dX8_told_55 : decode cX8_told 55 = .ok (.ireturn, 1) := by decide +kernel
theorem dX8_told_56 : decode cX8_told 56 = .ok (.aload_n 0, 1) := by decide +kernel
theorem dX8_told_57 : decode cX8_told 57 = .ok (.getfield 19, 3) := by decide +kernel
theorem dX8_told_60 : decode cX8_told 60 = .ok (.getfield 292, 3) := by decide +kernel
theorem dX8_told_63 : decode cX8_told 63 = .ok (.ireturn, 1) := by decide +kernel
theorem dX8_told_64 : decode cX8_told 64 = .ok (.aload_n 0, 1) := by decide +kernel
theorem dX8_told_65 : decode cX8_told 65 = .ok (.getfield 19, 3) := by decide +kernel
theorem dX8_told_68 : decode cX8_told 68 = .ok (.invokevirtual 293, 3) := by decide +kernel
theorem dX8_told_71 : decode cX8_told 71 = .ok (.ireturn, 1) := by decide +kernel
theorem dX8_told_72 : decode cX8_told 72 = .ok (.aload_n 0, 1) := by decide +kernel
theorem dX8_told_73 : decode cX8_told 73 = .ok (.getfield 40, 3) := by decide +kernel
theorem dX8_told_76 : decode cX8_told 76 = .ok (.getfield 162, 3) := by decide +kernel
theorem dX8_told_79 : decode cX8_told 79 = .ok (.ireturn, 1) := by decide +kernel
theorem dX8_told_80 : decode cX8_told 80 = .ok (.aload_n 0, 1) := by decide +kernel
theorem dX8_told_81 : decode cX8_told 81 = .ok (.getfield 33, 3) := by decide +kernel
theorem dX8_told_84 : decode cX8_told 84 = .ok (.getfield 147, 3) := by decide +kernel
theorem dX8_told_87 : decode cX8_told 87 = .ok (.ireturn, 1) := by decide +kernel
theorem dX8_told_88 : decode cX8_told 88 = .ok (.aload_n 0, 1) := by decide +kernel
theorem dX8_told_89 : decode cX8_told 89 = .ok (.getfield 58, 3) := by decide +kernel
theorem dX8_told_92 : decode cX8_told 92 = .ok (.invokevirtual 297, 3) := by decide +kernel
theorem dX8_told_95 : decode cX8_told 95 = .ok (.ireturn, 1) := by decide +kernel
theorem dX8_told_96 : decode cX8_told 96 = .ok (.aload_n 0, 1) := by decide +kernel
theorem dX8_told_97 : decode cX8_told 97 = .ok (.getfield 10, 3) := by decide +kernel
theorem dX8_told_100 : decode cX8_told 100 = .ok (.invokevirtual 300, 3) := by decide +kernel
theorem dX8_told_103 : decode cX8_told 103 = .ok (.ireturn, 1) := by decide +kernel
theorem dX8_told_104 : decode cX8_told 104 = .ok (.aload_n 0, 1) := by decide +kernel
theorem dX8_told_105 : decode cX8_told 105 = .ok (.getfield 75, 3) := by decide +kernel
theorem dX8_told_108 : decode cX8_told 108 = .ok (.ireturn, 1) := by decide +kernel
theorem dX8_told_109 : decode cX8_told 109 = .ok (.aload_n 0, 1) := by decide +kernel
theorem dX8_told_110 : decode cX8_told 110 = .ok (.ldc 90, 2) := by decide +kernel
theorem dX8_told_112 : decode cX8_told 112 = .ok (.invokevirtual 91, 3) := by decide +kernel
theorem dX8_told_115 : decode cX8_told 115 = .ok (.ireturn, 1) := by decide +kernel
theorem dX8_finding_0 : decode cX8_finding 0 = .ok (.aload_n 0, 1) := by decide +kernel
theorem dX8_finding_1 : decode cX8_finding 1 = .ok (.dup, 1) := by decide +kernel
theorem dX8_finding_2 : decode cX8_finding 2 = .ok (.getfield 75, 3) := by decide +kernel
theorem dX8_finding_5 : decode cX8_finding 5 = .ok (.iconst 1, 1) := by decide +kernel
theorem dX8_finding_6 : decode cX8_finding 6 = .ok (.iadd, 1) := by decide +kernel
theorem dX8_finding_7 : decode cX8_finding 7 = .ok (.putfield 75, 3) := by decide +kernel
theorem dX8_finding_10 : decode cX8_finding 10 = .ok (.iload_n 1, 1) := by decide +kernel
theorem dX8_finding_11 : decode cX8_finding 11 = .ok (.ireturn, 1) := by decide +kernel
theorem dX8_within_0 : decode cX8_within 0 = .ok (.iload_n 0, 1) := by decide +kernel
theorem dX8_within_1 : decode cX8_within 1 = .ok (.iload_n 1, 1) := by decide +kernel
theorem dX8_within_2 : decode cX8_within 2 = .ok (.if_icmp .lt 12, 3) := by decide +kernel
theorem dX8_within_5 : decode cX8_within 5 = .ok (.iload_n 0, 1) := by decide +kernel
theorem dX8_within_6 : decode cX8_within 6 = .ok (.iload_n 2, 1) := by decide +kernel
theorem dX8_within_7 : decode cX8_within 7 = .ok (.if_icmp .gt 7, 3) := by decide +kernel
theorem dX8_within_10 : decode cX8_within 10 = .ok (.iconst 1, 1) := by decide +kernel
theorem dX8_within_11 : decode cX8_within 11 = .ok (.goto 4, 3) := by decide +kernel
theorem dX8_within_14 : decode cX8_within 14 = .ok (.iconst 0, 1) := by decide +kernel
theorem dX8_within_15 : decode cX8_within 15 = .ok (.ireturn, 1) := by decide +kernel
theorem dX8_hasBit_0 : decode cX8_hasBit 0 = .ok (.iload_n 0, 1) := by decide +kernel
theorem dX8_hasBit_1 : decode cX8_hasBit 1 = .ok (.iload_n 1, 1) := by decide +kernel
theorem dX8_hasBit_2 : decode cX8_hasBit 2 = .ok (.ishr, 1) := by decide +kernel
theorem dX8_hasBit_3 : decode cX8_hasBit 3 = .ok (.iconst 1, 1) := by decide +kernel
theorem dX8_hasBit_4 : decode cX8_hasBit 4 = .ok (.iand, 1) := by decide +kernel
theorem dX8_hasBit_5 : decode cX8_hasBit 5 = .ok (.ifCond .eq 7, 3) := by decide +kernel
theorem dX8_hasBit_8 : decode cX8_hasBit 8 = .ok (.iconst 1, 1) := by decide +kernel
theorem dX8_hasBit_9 : decode cX8_hasBit 9 = .ok (.goto 4, 3) := by decide +kernel
theorem dX8_hasBit_12 : decode cX8_hasBit 12 = .ok (.iconst 0, 1) := by decide +kernel
theorem dX8_hasBit_13 : decode cX8_hasBit 13 = .ok (.ireturn, 1) := by decide +kernel
theorem dX8_isKind_0 : decode cX8_isKind 0 = .ok (.iload_n 0, 1) := by decide +kernel
theorem dX8_isKind_1 : decode cX8_isKind 1 = .ok (.iconst 0, 1) := by decide +kernel
theorem dX8_isKind_2 : decode cX8_isKind 2 = .ok (.iconst 4, 1) := by decide +kernel
theorem dX8_isKind_3 : decode cX8_isKind 3 = .ok (.invokestatic 79, 3) := by decide +kernel
theorem dX8_isKind_6 : decode cX8_isKind 6 = .ok (.ireturn, 1) := by decide +kernel
theorem dX8_isDay_0 : decode cX8_isDay 0 = .ok (.iload_n 0, 1) := by decide +kernel
theorem dX8_isDay_1 : decode cX8_isDay 1 = .ok (.iconst 0, 1) := by decide +kernel
theorem dX8_isDay_2 : decode cX8_isDay 2 = .ok (.sipush 999, 3) := by decide +kernel
theorem dX8_isDay_5 : decode cX8_isDay 5 = .ok (.invokestatic 79, 3) := by decide +kernel
theorem dX8_isDay_8 : decode cX8_isDay 8 = .ok (.ireturn, 1) := by decide +kernel
theorem dX8_isPlace_0 : decode cX8_isPlace 0 = .ok (.iload_n 0, 1) := by decide +kernel
theorem dX8_isPlace_1 : decode cX8_isPlace 1 = .ok (.iconst 0, 1) := by decide +kernel
theorem dX8_isPlace_2 : decode cX8_isPlace 2 = .ok (.sipush 1023, 3) := by decide +kernel
theorem dX8_isPlace_5 : decode cX8_isPlace 5 = .ok (.invokestatic 79, 3) := by decide +kernel
theorem dX8_isPlace_8 : decode cX8_isPlace 8 = .ok (.ireturn, 1) := by decide +kernel
theorem dX8_isQuarter_0 : decode cX8_isQuarter 0 = .ok (.iload_n 0, 1) := by decide +kernel
theorem dX8_isQuarter_1 : decode cX8_isQuarter 1 = .ok (.iconst 0, 1) := by decide +kernel
theorem dX8_isQuarter_2 : decode cX8_isQuarter 2 = .ok (.iconst 3, 1) := by decide +kernel
theorem dX8_isQuarter_3 : decode cX8_isQuarter 3 = .ok (.invokestatic 79, 3) := by decide +kernel
theorem dX8_isQuarter_6 : decode cX8_isQuarter 6 = .ok (.ireturn, 1) := by decide +kernel
theorem dX8_isSheet_0 : decode cX8_isSheet 0 = .ok (.iload_n 0, 1) := by decide +kernel
theorem dX8_isSheet_1 : decode cX8_isSheet 1 = .ok (.iconst 0, 1) := by decide +kernel
theorem dX8_isSheet_2 : decode cX8_isSheet 2 = .ok (.iconst 3, 1) := by decide +kernel
theorem dX8_isSheet_3 : decode cX8_isSheet 3 = .ok (.invokestatic 79, 3) := by decide +kernel
theorem dX8_isSheet_6 : decode cX8_isSheet 6 = .ok (.ireturn, 1) := by decide +kernel
theorem dX8_isAsk_0 : decode cX8_isAsk 0 = .ok (.iload_n 1, 1) := by decide +kernel
theorem dX8_isAsk_1 : decode cX8_isAsk 1 = .ok (.iconst 0, 1) := by decide +kernel
theorem dX8_isAsk_2 : decode cX8_isAsk 2 = .ok (.aload_n 0, 1) := by decide +kernel
theorem dX8_isAsk_3 : decode cX8_isAsk 3 = .ok (.getfield 10, 3) := by decide +kernel
theorem dX8_isAsk_6 : decode cX8_isAsk 6 = .ok (.getfield 95, 3) := by decide +kernel
theorem dX8_isAsk_9 : decode cX8_isAsk 9 = .ok (.iconst 1, 1) := by decide +kernel
theorem dX8_isAsk_10 : decode cX8_isAsk 10 = .ok (.isub, 1) := by decide +kernel
theorem dX8_isAsk_11 : decode cX8_isAsk 11 = .ok (.invokestatic 79, 3) := by decide +kernel
theorem dX8_isAsk_14 : decode cX8_isAsk 14 = .ok (.ireturn, 1) := by decide +kernel
theorem dX8_isThing_0 : decode cX8_isThing 0 = .ok (.iload_n 1, 1) := by decide +kernel
theorem dX8_isThing_1 : decode cX8_isThing 1 = .ok (.iconst 0, 1) := by decide +kernel
theorem dX8_isThing_2 : decode cX8_isThing 2 = .ok (.aload_n 0, 1) := by decide +kernel
theorem dX8_isThing_3 : decode cX8_isThing 3 = .ok (.getfield 19, 3) := by decide +kernel
theorem dX8_isThing_6 : decode cX8_isThing 6 = .ok (.getfield 292, 3) := by decide +kernel
theorem dX8_isThing_9 : decode cX8_isThing 9 = .ok (.iconst 1, 1) := by decide +kernel
theorem dX8_isThing_10 : decode cX8_isThing 10 = .ok (.isub, 1) := by decide +kernel
theorem dX8_isThing_11 : decode cX8_isThing 11 = .ok (.invokestatic 79, 3) := by decide +kernel
theorem dX8_isThing_14 : decode cX8_isThing 14 = .ok (.ireturn, 1) := by decide +kernel
theorem dX8_canComeOn_0 : decode cX8_canComeOn 0 = .ok (.iload_n 1, 1) := by decide +kernel
theorem dX8_canComeOn_1 : decode cX8_canComeOn 1 = .ok (.invokestatic 191, 3) := by decide +kernel
theorem dX8_canComeOn_4 : decode cX8_canComeOn 4 = .ok (.ifCond .eq 18, 3) := by decide +kernel
theorem dX8_canComeOn_7 : decode cX8_canComeOn 7 = .ok (.iload_n 1, 1) := by decide +kernel
theorem dX8_canComeOn_8 : decode cX8_canComeOn 8 = .ok (.aload_n 0, 1) := by decide +kernel
theorem dX8_canComeOn_9 : decode cX8_canComeOn 9 = .ok (.getfield 10, 3) := by decide +kernel
theorem dX8_canComeOn_12 : decode cX8_canComeOn 12 = .ok (.invokevirtual 300, 3) := by decide +kernel
theorem dX8_canComeOn_15 : decode cX8_canComeOn 15 = .ok (.if_icmp .lt 7, 3) := by decide +kernel
theorem dX8_canComeOn_18 : decode cX8_canComeOn 18 = .ok (.iconst 1, 1) := by decide +kernel
theorem dX8_canComeOn_19 : decode cX8_canComeOn 19 = .ok (.goto 4, 3) := by decide +kernel
theorem dX8_canComeOn_22 : decode cX8_canComeOn 22 = .ok (.iconst 0, 1) := by decide +kernel
theorem dX8_canComeOn_23 : decode cX8_canComeOn 23 = .ok (.ireturn, 1) := by decide +kernel
theorem dX8_areThings_0 : decode cX8_areThings 0 = .ok (.iload_n 2, 1) := by decide +kernel
theorem dX8_areThings_1 : decode cX8_areThings 1 = .ok (.iconst 1, 1) := by decide +kernel
theorem dX8_areThings_2 : decode cX8_areThings 2 = .ok (.sipush 255, 3) := by decide +kernel
theorem dX8_areThings_5 : decode cX8_areThings 5 = .ok (.invokestatic 79, 3) := by decide +kernel
theorem dX8_areThings_8 : decode cX8_areThings 8 = .ok (.ifCond .ne 5, 3) := by decide +kernel
theorem dX8_areThings_11 : decode cX8_areThings 11 = .ok (.iconst 0, 1) := by decide +kernel
theorem dX8_areThings_12 : decode cX8_areThings 12 = .ok (.ireturn, 1) := by decide +kernel
theorem dX8_areThings_13 : decode cX8_areThings 13 = .ok (.aload_n 0, 1) := by decide +kernel
theorem dX8_areThings_14 : decode cX8_areThings 14 = .ok (.getfield 19, 3) := by decide +kernel
theorem dX8_areThings_17 : decode cX8_areThings 17 = .ok (.getfield 292, 3) := by decide +kernel
theorem dX8_areThings_20 : decode cX8_areThings 20 = .ok (.iload_n 1, 1) := by decide +kernel
theorem dX8_areThings_21 : decode cX8_areThings 21 = .ok (.isub, 1) := by decide +kernel
theorem dX8_areThings_22 : decode cX8_areThings 22 = .ok (.istore_n 3, 1) := by decide +kernel
theorem dX8_areThings_23 : decode cX8_areThings 23 = .ok (.iload_n 3, 1) := by decide +kernel
theorem dX8_areThings_24 : decode cX8_areThings 24 = .ok (.bipush 8, 2) := by decide +kernel
theorem dX8_areThings_26 : decode cX8_areThings 26 = .ok (.if_icmp .ge 14, 3) := by decide +kernel
theorem dX8_areThings_29 : decode cX8_areThings 29 = .ok (.iload_n 3, 1) := by decide +kernel
theorem dX8_areThings_30 : decode cX8_areThings 30 = .ok (.ifCond .le 14, 3) := by decide +kernel
theorem dX8_areThings_33 : decode cX8_areThings 33 = .ok (.iload_n 2, 1) := by decide +kernel
theorem dX8_areThings_34 : decode cX8_areThings 34 = .ok (.iconst 1, 1) := by decide +kernel
theorem dX8_areThings_35 : decode cX8_areThings 35 = .ok (.iload_n 3, 1) := by decide +kernel
theorem dX8_areThings_36 : decode cX8_areThings 36 = .ok (.ishl, 1) := by decide +kernel
theorem dX8_areThings_37 : decode cX8_areThings 37 = .ok (.if_icmp .ge 7, 3) := by decide +kernel
theorem dX8_areThings_40 : decode cX8_areThings 40 = .ok (.iconst 1, 1) := by decide +kernel
theorem dX8_areThings_41 : decode cX8_areThings 41 = .ok (.goto 4, 3) := by decide +kernel
theorem dX8_areThings_44 : decode cX8_areThings 44 = .ok (.iconst 0, 1) := by decide +kernel
theorem dX8_areThings_45 : decode cX8_areThings 45 = .ok (.ireturn, 1) := by decide +kernel
theorem dX8_isOrIsUnder_0 : decode cX8_isOrIsUnder 0 = .ok (.iload_n 0, 1) := by decide +kernel
theorem dX8_isOrIsUnder_1 : decode cX8_isOrIsUnder 1 = .ok (.istore_n 2, 1) := by decide +kernel
theorem dX8_isOrIsUnder_2 : decode cX8_isOrIsUnder 2 = .ok (.iconst 0, 1) := by decide +kernel
theorem dX8_isOrIsUnder_3 : decode cX8_isOrIsUnder 3 = .ok (.istore_n 3, 1) := by decide +kernel
theorem dX8_isOrIsUnder_4 : decode cX8_isOrIsUnder 4 = .ok (.iload_n 3, 1) := by decide +kernel
theorem dX8_isOrIsUnder_5 : decode cX8_isOrIsUnder 5 = .ok (.iconst 5, 1) := by decide +kernel
theorem dX8_isOrIsUnder_6 : decode cX8_isOrIsUnder 6 = .ok (.if_icmp .ge 27, 3) := by decide +kernel
theorem dX8_isOrIsUnder_9 : decode cX8_isOrIsUnder 9 = .ok (.iload_n 2, 1) := by decide +kernel
theorem dX8_isOrIsUnder_10 : decode cX8_isOrIsUnder 10 = .ok (.iconst (-1), 1) := by decide +kernel
theorem dX8_isOrIsUnder_11 : decode cX8_isOrIsUnder 11 = .ok (.if_icmp .eq 22, 3) := by decide +kernel
theorem dX8_isOrIsUnder_14 : decode cX8_isOrIsUnder 14 = .ok (.iload_n 2, 1) := by decide +kernel
theorem dX8_isOrIsUnder_15 : decode cX8_isOrIsUnder 15 = .ok (.iload_n 1, 1) := by decide +kernel
theorem dX8_isOrIsUnder_16 : decode cX8_isOrIsUnder 16 = .ok (.if_icmp .ne 5, 3) := by decide +kernel
theorem dX8_isOrIsUnder_19 : decode cX8_isOrIsUnder 19 = .ok (.iconst 1, 1) := by decide +kernel
theorem dX8_isOrIsUnder_20 : decode cX8_isOrIsUnder 20 = .ok (.ireturn, 1) := by decide +kernel
theorem dX8_isOrIsUnder_21 : decode cX8_isOrIsUnder 21 = .ok (.getstatic 303, 3) := by decide +kernel
theorem dX8_isOrIsUnder_24 : decode cX8_isOrIsUnder 24 = .ok (.iload_n 2, 1) := by decide +kernel
theorem dX8_isOrIsUnder_25 : decode cX8_isOrIsUnder 25 = .ok (.iaload, 1) := by decide +kernel
theorem dX8_isOrIsUnder_26 : decode cX8_isOrIsUnder 26 = .ok (.istore_n 2, 1) := by decide +kernel
theorem dX8_isOrIsUnder_27 : decode cX8_isOrIsUnder 27 = .ok (.iinc 3 1, 3) := by decide +kernel
theorem dX8_isOrIsUnder_30 : decode cX8_isOrIsUnder 30 = .ok (.goto (-26), 3) := by decide +kernel
theorem dX8_isOrIsUnder_33 : decode cX8_isOrIsUnder 33 = .ok (.iconst 0, 1) := by decide +kernel
theorem dX8_isOrIsUnder_34 : decode cX8_isOrIsUnder 34 = .ok (.ireturn, 1) := by decide +kernel
theorem dX8_quarterAt_0 : decode cX8_quarterAt 0 = .ok (.iload_n 0, 1) := by decide +kernel
theorem dX8_quarterAt_1 : decode cX8_quarterAt 1 = .ok (.bipush 16, 2) := by decide +kernel
theorem dX8_quarterAt_3 : decode cX8_quarterAt 3 = .ok (.if_icmp .lt 7, 3) := by decide +kernel
theorem dX8_quarterAt_6 : decode cX8_quarterAt 6 = .ok (.iconst 1, 1) := by decide +kernel
theorem dX8_quarterAt_7 : decode cX8_quarterAt 7 = .ok (.goto 4, 3) := by decide +kernel
theorem dX8_quarterAt_10 : decode cX8_quarterAt 10 = .ok (.iconst 0, 1) := by decide +kernel
theorem dX8_quarterAt_11 : decode cX8_quarterAt 11 = .ok (.iload_n 1, 1) := by decide +kernel
theorem dX8_quarterAt_12 : decode cX8_quarterAt 12 = .ok (.bipush 16, 2) := by decide +kernel
theorem dX8_quarterAt_14 : decode cX8_quarterAt 14 = .ok (.if_icmp .lt 7, 3) := by decide +kernel
theorem dX8_quarterAt_17 : decode cX8_quarterAt 17 = .ok (.iconst 2, 1) := by decide +kernel
theorem dX8_quarterAt_18 : decode cX8_quarterAt 18 = .ok (.goto 4, 3) := by decide +kernel
theorem dX8_quarterAt_21 : decode cX8_quarterAt 21 = .ok (.iconst 0, 1) := by decide +kernel
theorem dX8_quarterAt_22 : decode cX8_quarterAt 22 = .ok (.iadd, 1) := by decide +kernel
theorem dX8_quarterAt_23 : decode cX8_quarterAt 23 = .ok (.ireturn, 1) := by decide +kernel
theorem dX8_far_0 : decode cX8_far 0 = .ok (.iload_n 0, 1) := by decide +kernel
theorem dX8_far_1 : decode cX8_far 1 = .ok (.iload_n 2, 1) := by decide +kernel
theorem dX8_far_2 : decode cX8_far 2 = .ok (.isub, 1) := by decide +kernel
theorem dX8_far_3 : decode cX8_far 3 = .ok (.invokestatic 306, 3) := by decide +kernel
theorem dX8_far_6 : decode cX8_far 6 = .ok (.iload_n 1, 1) := by decide +kernel
theorem dX8_far_7 : decode cX8_far 7 = .ok (.iload_n 3, 1) := by decide +kernel
theorem dX8_far_8 : decode cX8_far 8 = .ok (.isub, 1) := by decide +kernel
theorem dX8_far_9 : decode cX8_far 9 = .ok (.invokestatic 306, 3) := by decide +kernel
theorem dX8_far_12 : decode cX8_far 12 = .ok (.iadd, 1) := by decide +kernel
theorem dX8_far_13 : decode cX8_far 13 = .ok (.ireturn, 1) := by decide +kernel
theorem dX8_join_0 : decode cX8_join 0 = .ok (.aload_n 0, 1) := by decide +kernel
theorem dX8_join_1 : decode cX8_join 1 = .ok (.getfield 10, 3) := by decide +kernel
theorem dX8_join_4 : decode cX8_join 4 = .ok (.iload_n 1, 1) := by decide +kernel
theorem dX8_join_5 : decode cX8_join 5 = .ok (.iload_n 2, 1) := by decide +kernel
theorem dX8_join_6 : decode cX8_join 6 = .ok (.iload_n 3, 1) := by decide +kernel
theorem dX8_join_7 : decode cX8_join 7 = .ok (.iload 4, 2) := by decide +kernel
theorem dX8_join_9 : decode cX8_join 9 = .ok (.iload 5, 2) := by decide +kernel
theorem dX8_join_11 : decode cX8_join 11 = .ok (.invokevirtual 311, 3) := by decide +kernel
theorem dX8_join_14 : decode cX8_join 14 = .ok (.istore 6, 2) := by decide +kernel
theorem dX8_join_16 : decode cX8_join 16 = .ok (.aload_n 0, 1) := by decide +kernel
theorem dX8_join_17 : decode cX8_join 17 = .ok (.iload 6, 2) := by decide +kernel
theorem dX8_join_19 : decode cX8_join 19 = .ok (.invokevirtual 314, 3) := by decide +kernel
theorem dX8_join_22 : decode cX8_join 22 = .ok (.istore 7, 2) := by decide +kernel
theorem dX8_join_24 : decode cX8_join 24 = .ok (.iload 7, 2) := by decide +kernel
theorem dX8_join_26 : decode cX8_join 26 = .ok (.iconst (-1), 1) := by decide +kernel
theorem dX8_join_27 : decode cX8_join 27 = .ok (.if_icmp .ne 14, 3) := by decide +kernel
theorem dX8_join_30 : decode cX8_join 30 = .ok (.aload_n 0, 1) := by decide +kernel
theorem dX8_join_31 : decode cX8_join 31 = .ok (.getfield 19, 3) := by decide +kernel
theorem dX8_join_34 : decode cX8_join 34 = .ok (.iload 6, 2) := by decide +kernel
theorem dX8_join_36 : decode cX8_join 36 = .ok (.invokevirtual 317, 3) := by decide +kernel
theorem dX8_join_39 : decode cX8_join 39 = .ok (.istore 7, 2) := by decide +kernel
theorem dX8_join_41 : decode cX8_join 41 = .ok (.aload_n 0, 1) := by decide +kernel
theorem dX8_join_42 : decode cX8_join 42 = .ok (.getfield 10, 3) := by decide +kernel
theorem dX8_join_45 : decode cX8_join 45 = .ok (.getfield 127, 3) := by decide +kernel
theorem dX8_join_48 : decode cX8_join 48 = .ok (.iload 6, 2) := by decide +kernel
theorem dX8_join_50 : decode cX8_join 50 = .ok (.iload 7, 2) := by decide +kernel
theorem dX8_join_52 : decode cX8_join 52 = .ok (.iastore, 1) := by decide +kernel
theorem dX8_join_53 : decode cX8_join 53 = .ok (.iload 7, 2) := by decide +kernel
theorem dX8_join_55 : decode cX8_join 55 = .ok (.ireturn, 1) := by decide +kernel
theorem dX8_firstOpenThingFor_0 : decode cX8_firstOpenThingFor 0 = .ok (.iconst 0, 1) := by decide +kernel
theorem dX8_firstOpenThingFor_1 : decode cX8_firstOpenThingFor 1 = .ok (.istore_n 2, 1) := by decide +kernel
theorem dX8_firstOpenThingFor_2 : decode cX8_firstOpenThingFor 2 = .ok (.iload_n 2, 1) := by decide +kernel
theorem dX8_firstOpenThingFor_3 : decode cX8_firstOpenThingFor 3 = .ok (.aload_n 0, 1) := by decide +kernel
theorem dX8_firstOpenThingFor_4 : decode cX8_firstOpenThingFor 4 = .ok (.getfield 19, 3) := by decide +kernel
theorem dX8_firstOpenThingFor_7 : decode cX8_firstOpenThingFor 7 = .ok (.getfield 292, 3) := by decide +kernel
theorem dX8_firstOpenThingFor_10 : decode cX8_firstOpenThingFor 10 = .ok (.if_icmp .ge 35, 3) := by decide +kernel
theorem dX8_firstOpenThingFor_13 : decode cX8_firstOpenThingFor 13 = .ok (.aload_n 0, 1) := by decide +kernel
theorem dX8_firstOpenThingFor_14 : decode cX8_firstOpenThingFor 14 = .ok (.getfield 19, 3) := by decide +kernel
theorem dX8_firstOpenThingFor_17 : decode cX8_firstOpenThingFor 17 = .ok (.getfield 218, 3) := by decide +kernel
theorem dX8_firstOpenThingFor_20 : decode cX8_firstOpenThingFor 20 = .ok (.iload_n 2, 1) := by decide +kernel
theorem dX8_firstOpenThingFor_21 : decode cX8_firstOpenThingFor 21 = .ok (.baload, 1) := by decide +kernel
theorem dX8_firstOpenThingFor_22 : decode cX8_firstOpenThingFor 22 = .ok (.ifCond .eq 17, 3) := by decide +kernel
theorem dX8_firstOpenThingFor_25 : decode cX8_firstOpenThingFor 25 = .ok (.aload_n 0, 1) := by decide +kernel
theorem dX8_firstOpenThingFor_26 : decode cX8_firstOpenThingFor 26 = .ok (.getfield 10, 3) := by decide +kernel
theorem dX8_firstOpenThingFor_29 : decode cX8_firstOpenThingFor 29 = .ok (.iload_n 1, 1) := by decide +kernel
theorem dX8_firstOpenThingFor_30 : decode cX8_firstOpenThingFor 30 = .ok (.iload_n 2, 1) := by decide +kernel
theorem dX8_firstOpenThingFor_31 : decode cX8_firstOpenThingFor 31 = .ok (.invokevirtual 319, 3) := by decide +kernel
theorem dX8_firstOpenThingFor_34 : decode cX8_firstOpenThingFor 34 = .ok (.ifCond .eq 5, 3) := by decide +kernel
theorem dX8_firstOpenThingFor_37 : decode cX8_firstOpenThingFor 37 = .ok (.iload_n 2, 1) := by decide +kernel
theorem dX8_firstOpenThingFor_38 : decode cX8_firstOpenThingFor 38 = .ok (.ireturn, 1) := by decide +kernel
theorem dX8_firstOpenThingFor_39 : decode cX8_firstOpenThingFor 39 = .ok (.iinc 2 1, 3) := by decide +kernel
theorem dX8_firstOpenThingFor_42 : decode cX8_firstOpenThingFor 42 = .ok (.goto (-40), 3) := by decide +kernel
theorem dX8_firstOpenThingFor_45 : decode cX8_firstOpenThingFor 45 = .ok (.iconst (-1), 1) := by decide +kernel
theorem dX8_firstOpenThingFor_46 : decode cX8_firstOpenThingFor 46 = .ok (.ireturn, 1) := by decide +kernel
theorem dX8_kindOf_0 : decode cX8_kindOf 0 = .ok (.aload_n 0, 1) := by decide +kernel
theorem dX8_kindOf_1 : decode cX8_kindOf 1 = .ok (.getfield 10, 3) := by decide +kernel
theorem dX8_kindOf_4 : decode cX8_kindOf 4 = .ok (.getfield 120, 3) := by decide +kernel
theorem dX8_kindOf_7 : decode cX8_kindOf 7 = .ok (.aload_n 0, 1) := by decide +kernel
theorem dX8_kindOf_8 : decode cX8_kindOf 8 = .ok (.getfield 19, 3) := by decide +kernel
theorem dX8_kindOf_11 : decode cX8_kindOf 11 = .ok (.getfield 322, 3) := by decide +kernel
theorem dX8_kindOf_14 : decode cX8_kindOf 14 = .ok (.iload_n 1, 1) := by decide +kernel
theorem dX8_kindOf_15 : decode cX8_kindOf 15 = .ok (.iaload, 1) := by decide +kernel
theorem dX8_kindOf_16 : decode cX8_kindOf 16 = .ok (.iaload, 1) := by decide +kernel
theorem dX8_kindOf_17 : decode cX8_kindOf 17 = .ok (.ireturn, 1) := by decide +kernel
theorem dX8_dayOf_0 : decode cX8_dayOf 0 = .ok (.aload_n 0, 1) := by decide +kernel
theorem dX8_dayOf_1 : decode cX8_dayOf 1 = .ok (.getfield 10, 3) := by decide +kernel
theorem dX8_dayOf_4 : decode cX8_dayOf 4 = .ok (.getfield 325, 3) := by decide +kernel
theorem dX8_dayOf_7 : decode cX8_dayOf 7 = .ok (.aload_n 0, 1) := by decide +kernel
theorem dX8_dayOf_8 : decode cX8_dayOf 8 = .ok (.getfield 19, 3) := by decide +kernel
theorem dX8_dayOf_11 : decode cX8_dayOf 11 = .ok (.getfield 322, 3) := by decide +kernel
theorem dX8_dayOf_14 : decode cX8_dayOf 14 = .ok (.iload_n 1, 1) := by decide +kernel
theorem dX8_dayOf_15 : decode cX8_dayOf 15 = .ok (.iaload, 1) := by decide +kernel
theorem dX8_dayOf_16 : decode cX8_dayOf 16 = .ok (.iaload, 1) := by decide +kernel
theorem dX8_dayOf_17 : decode cX8_dayOf 17 = .ok (.ireturn, 1) := by decide +kernel
theorem dX8_quarterOfThing_0 : decode cX8_quarterOfThing 0 = .ok (.aload_n 0, 1) := by decide +kernel
theorem dX8_quarterOfThing_1 : decode cX8_quarterOfThing 1 = .ok (.getfield 10, 3) := by decide +kernel
theorem dX8_quarterOfThing_4 : decode cX8_quarterOfThing 4 = .ok (.aload_n 0, 1) := by decide +kernel
theorem dX8_quarterOfThing_5 : decode cX8_quarterOfThing 5 = .ok (.getfield 19, 3) := by decide +kernel
theorem dX8_quarterOfThing_8 : decode cX8_quarterOfThing 8 = .ok (.getfield 322, 3) := by decide +kernel
theorem dX8_quarterOfThing_11 : decode cX8_quarterOfThing 11 = .ok (.iload_n 1, 1) := by decide +kernel
theorem dX8_quarterOfThing_12 : decode cX8_quarterOfThing 12 = .ok (.iaload, 1) := by decide +kernel
theorem dX8_quarterOfThing_13 : decode cX8_quarterOfThing 13 = .ok (.invokevirtual 328, 3) := by decide +kernel
theorem dX8_quarterOfThing_16 : decode cX8_quarterOfThing 16 = .ok (.ireturn, 1) := by decide +kernel
theorem dX8_placeDetail_0 : decode cX8_placeDetail 0 = .ok (.aload_n 0, 1) := by decide +kernel
theorem dX8_placeDetail_1 : decode cX8_placeDetail 1 = .ok (.getfield 19, 3) := by decide +kernel
theorem dX8_placeDetail_4 : decode cX8_placeDetail 4 = .ok (.getfield 322, 3) := by decide +kernel
theorem dX8_placeDetail_7 : decode cX8_placeDetail 7 = .ok (.iload_n 1, 1) := by decide +kernel
theorem dX8_placeDetail_8 : decode cX8_placeDetail 8 = .ok (.iaload, 1) := by decide +kernel
theorem dX8_placeDetail_9 : decode cX8_placeDetail 9 = .ok (.istore_n 3, 1) := by decide +kernel
theorem dX8_placeDetail_10 : decode cX8_placeDetail 10 = .ok (.iload_n 2, 1) := by decide +kernel
theorem dX8_placeDetail_11 : decode cX8_placeDetail 11 = .ok (.tableswitch 55 0 2 #[25, 35, 45], 25) := by decide +kernel
theorem dX8_placeDetail_36 : decode cX8_placeDetail 36 = .ok (.aload_n 0, 1) := by decide +kernel
theorem dX8_placeDetail_37 : decode cX8_placeDetail 37 = .ok (.getfield 10, 3) := by decide +kernel
theorem dX8_placeDetail_40 : decode cX8_placeDetail 40 = .ok (.getfield 120, 3) := by decide +kernel
theorem dX8_placeDetail_43 : decode cX8_placeDetail 43 = .ok (.iload_n 3, 1) := by decide +kernel
theorem dX8_placeDetail_44 : decode cX8_placeDetail 44 = .ok (.iaload, 1) := by decide +kernel
theorem dX8_placeDetail_45 : decode cX8_placeDetail 45 = .ok (.ireturn, 1) := by decide +kernel
theorem dX8_placeDetail_46 : decode cX8_placeDetail 46 = .ok (.aload_n 0, 1) := by decide +kernel
theorem dX8_placeDetail_47 : decode cX8_placeDetail 47 = .ok (.getfield 10, 3) := by decide +kernel
theorem dX8_placeDetail_50 : decode cX8_placeDetail 50 = .ok (.getfield 331, 3) := by decide +kernel
theorem dX8_placeDetail_53 : decode cX8_placeDetail 53 = .ok (.iload_n 3, 1) := by decide +kernel
theorem dX8_placeDetail_54 : decode cX8_placeDetail 54 = .ok (.iaload, 1) := by decide +kernel
theorem dX8_placeDetail_55 : decode cX8_placeDetail 55 = .ok (.ireturn, 1) := by decide +kernel
theorem dX8_placeDetail_56 : decode cX8_placeDetail 56 = .ok (.aload_n 0, 1) := by decide +kernel
theorem dX8_placeDetail_57 : decode cX8_placeDetail 57 = .ok (.getfield 10, 3) := by decide +kernel
theorem dX8_placeDetail_60 : decode cX8_placeDetail 60 = .ok (.getfield 334, 3) := by decide +kernel
theorem dX8_placeDetail_63 : decode cX8_placeDetail 63 = .ok (.iload_n 3, 1) := by decide +kernel
theorem dX8_placeDetail_64 : decode cX8_placeDetail 64 = .ok (.iaload, 1) := by decide +kernel
theorem dX8_placeDetail_65 : decode cX8_placeDetail 65 = .ok (.ireturn, 1) := by decide +kernel
theorem dX8_placeDetail_66 : decode cX8_placeDetail 66 = .ok (.aload_n 0, 1) := by decide +kernel
theorem dX8_placeDetail_67 : decode cX8_placeDetail 67 = .ok (.getfield 10, 3) := by decide +kernel
theorem dX8_placeDetail_70 : decode cX8_placeDetail 70 = .ok (.getfield 325, 3) := by decide +kernel
theorem dX8_placeDetail_73 : decode cX8_placeDetail 73 = .ok (.iload_n 3, 1) := by decide +kernel
theorem dX8_placeDetail_74 : decode cX8_placeDetail 74 = .ok (.iaload, 1) := by decide +kernel
theorem dX8_placeDetail_75 : decode cX8_placeDetail 75 = .ok (.ireturn, 1) := by decide +kernel
theorem dX8_stateDetail_0 : decode cX8_stateDetail 0 = .ok (.iload_n 2, 1) := by decide +kernel
theorem dX8_stateDetail_1 : decode cX8_stateDetail 1 = .ok (.tableswitch 78 4 7 #[31, 40, 58, 68], 31) := by decide +kernel
theorem dX8_stateDetail_32 : decode cX8_stateDetail 32 = .ok (.aload_n 0, 1) := by decide +kernel
theorem dX8_stateDetail_33 : decode cX8_stateDetail 33 = .ok (.getfield 10, 3) := by decide +kernel
theorem dX8_stateDetail_36 : decode cX8_stateDetail 36 = .ok (.iload_n 1, 1) := by decide +kernel
theorem dX8_stateDetail_37 : decode cX8_stateDetail 37 = .ok (.invokevirtual 337, 3) := by decide +kernel
theorem dX8_stateDetail_40 : decode cX8_stateDetail 40 = .ok (.ireturn, 1) := by decide +kernel
theorem dX8_stateDetail_41 : decode cX8_stateDetail 41 = .ok (.aload_n 0, 1) := by decide +kernel
theorem dX8_stateDetail_42 : decode cX8_stateDetail 42 = .ok (.getfield 19, 3) := by decide +kernel
theorem dX8_stateDetail_45 : decode cX8_stateDetail 45 = .ok (.getfield 218, 3) := by decide +kernel
theorem dX8_stateDetail_48 : decode cX8_stateDetail 48 = .ok (.iload_n 1, 1) := by decide +kernel
theorem dX8_stateDetail_49 : decode cX8_stateDetail 49 = .ok (.baload, 1) := by decide +kernel
theorem dX8_stateDetail_50 : decode cX8_stateDetail 50 = .ok (.ifCond .eq 7, 3) := by decide +kernel
theorem dX8_stateDetail_53 : decode cX8_stateDetail 53 = .ok (.iconst 1, 1) := by decide +kernel
theorem dX8_stateDetail_54 : decode cX8_stateDetail 54 = .ok (.goto 4, 3) := by decide +kernel
theorem dX8_stateDetail_57 : decode cX8_stateDetail 57 = .ok (.iconst 0, 1) := by decide +kernel
theorem dX8_stateDetail_58 : decode cX8_stateDetail 58 = .ok (.ireturn, 1) := by decide +kernel
theorem dX8_stateDetail_59 : decode cX8_stateDetail 59 = .ok (.aload_n 0, 1) := by decide +kernel
theorem dX8_stateDetail_60 : decode cX8_stateDetail 60 = .ok (.getfield 19, 3) := by decide +kernel
theorem dX8_stateDetail_63 : decode cX8_stateDetail 63 = .ok (.getfield 340, 3) := by decide +kernel
theorem dX8_stateDetail_66 : decode cX8_stateDetail 66 = .ok (.iload_n 1, 1) := by decide +kernel
theorem dX8_stateDetail_67 : decode cX8_stateDetail 67 = .ok (.iaload, 1) := by decide +kernel
theorem dX8_stateDetail_68 : decode cX8_stateDetail 68 = .ok (.ireturn, 1) := by decide +kernel
theorem dX8_stateDetail_69 : decode cX8_stateDetail 69 = .ok (.aload_n 0, 1) := by decide +kernel
theorem dX8_stateDetail_70 : decode cX8_stateDetail 70 = .ok (.getfield 19, 3) := by decide +kernel
theorem dX8_stateDetail_73 : decode cX8_stateDetail 73 = .ok (.getfield 343, 3) := by decide +kernel
theorem dX8_stateDetail_76 : decode cX8_stateDetail 76 = .ok (.iload_n 1, 1) := by decide +kernel
theorem dX8_stateDetail_77 : decode cX8_stateDetail 77 = .ok (.iaload, 1) := by decide +kernel
theorem dX8_stateDetail_78 : decode cX8_stateDetail 78 = .ok (.ireturn, 1) := by decide +kernel
theorem dX8_stateDetail_79 : decode cX8_stateDetail 79 = .ok (.aload_n 0, 1) := by decide +kernel
theorem dX8_stateDetail_80 : decode cX8_stateDetail 80 = .ok (.getfield 19, 3) := by decide +kernel
theorem dX8_stateDetail_83 : decode cX8_stateDetail 83 = .ok (.getfield 218, 3) := by decide +kernel
theorem dX8_stateDetail_86 : decode cX8_stateDetail 86 = .ok (.iload_n 1, 1) := by decide +kernel
theorem dX8_stateDetail_87 : decode cX8_stateDetail 87 = .ok (.baload, 1) := by decide +kernel
theorem dX8_stateDetail_88 : decode cX8_stateDetail 88 = .ok (.ifCond .ne 19, 3) := by decide +kernel
theorem dX8_stateDetail_91 : decode cX8_stateDetail 91 = .ok (.aload_n 0, 1) := by decide +kernel
theorem dX8_stateDetail_92 : decode cX8_stateDetail 92 = .ok (.getfield 19, 3) := by decide +kernel
theorem dX8_stateDetail_95 : decode cX8_stateDetail 95 = .ok (.getfield 230, 3) := by decide +kernel
theorem dX8_stateDetail_98 : decode cX8_stateDetail 98 = .ok (.iload_n 1, 1) := by decide +kernel
theorem dX8_stateDetail_99 : decode cX8_stateDetail 99 = .ok (.baload, 1) := by decide +kernel
theorem dX8_stateDetail_100 : decode cX8_stateDetail 100 = .ok (.ifCond .eq 7, 3) := by decide +kernel
theorem dX8_stateDetail_103 : decode cX8_stateDetail 103 = .ok (.iconst 1, 1) := by decide +kernel
theorem dX8_stateDetail_104 : decode cX8_stateDetail 104 = .ok (.goto 4, 3) := by decide +kernel
theorem dX8_stateDetail_107 : decode cX8_stateDetail 107 = .ok (.iconst 0, 1) := by decide +kernel
theorem dX8_stateDetail_108 : decode cX8_stateDetail 108 = .ok (.ireturn, 1) := by decide +kernel
theorem dX8_ownerOf_0 : decode cX8_ownerOf 0 = .ok (.aload_n 0, 1) := by decide +kernel
theorem dX8_ownerOf_1 : decode cX8_ownerOf 1 = .ok (.getfield 40, 3) := by decide +kernel
theorem dX8_ownerOf_4 : decode cX8_ownerOf 4 = .ok (.aload_n 0, 1) := by decide +kernel
theorem dX8_ownerOf_5 : decode cX8_ownerOf 5 = .ok (.iload_n 1, 1) := by decide +kernel
theorem dX8_ownerOf_6 : decode cX8_ownerOf 6 = .ok (.invokevirtual 169, 3) := by decide +kernel
theorem dX8_ownerOf_9 : decode cX8_ownerOf 9 = .ok (.invokevirtual 179, 3) := by decide +kernel
theorem dX8_ownerOf_12 : decode cX8_ownerOf 12 = .ok (.istore_n 2, 1) := by decide +kernel
theorem dX8_ownerOf_13 : decode cX8_ownerOf 13 = .ok (.iload_n 2, 1) := by decide +kernel
theorem dX8_ownerOf_14 : decode cX8_ownerOf 14 = .ok (.iconst (-1), 1) := by decide +kernel
theorem dX8_ownerOf_15 : decode cX8_ownerOf 15 = .ok (.if_icmp .ne 8, 3) := by decide +kernel
theorem dX8_ownerOf_18 : decode cX8_ownerOf 18 = .ok (.ldc 175, 2) := by decide +kernel
theorem dX8_ownerOf_20 : decode cX8_ownerOf 20 = .ok (.goto 16, 3) := by decide +kernel
theorem dX8_ownerOf_23 : decode cX8_ownerOf 23 = .ok (.aload_n 0, 1) := by decide +kernel
theorem dX8_ownerOf_24 : decode cX8_ownerOf 24 = .ok (.getfield 40, 3) := by decide +kernel
theorem dX8_ownerOf_27 : decode cX8_ownerOf 27 = .ok (.iload_n 2, 1) := by decide +kernel
theorem dX8_ownerOf_28 : decode cX8_ownerOf 28 = .ok (.aload_n 0, 1) := by decide +kernel
theorem dX8_ownerOf_29 : decode cX8_ownerOf 29 = .ok (.iload_n 1, 1) := by decide +kernel
theorem dX8_ownerOf_30 : decode cX8_ownerOf 30 = .ok (.invokevirtual 182, 3) := by decide +kernel
theorem dX8_ownerOf_33 : decode cX8_ownerOf 33 = .ok (.invokevirtual 346, 3) := by decide +kernel
theorem dX8_ownerOf_36 : decode cX8_ownerOf 36 = .ok (.ireturn, 1) := by decide +kernel
theorem dX8_giveToCrew_0 : decode cX8_giveToCrew 0 = .ok (.aload_n 0, 1) := by decide +kernel
theorem dX8_giveToCrew_1 : decode cX8_giveToCrew 1 = .ok (.getfield 19, 3) := by decide +kernel
theorem dX8_giveToCrew_4 : decode cX8_giveToCrew 4 = .ok (.getfield 322, 3) := by decide +kernel
theorem dX8_giveToCrew_7 : decode cX8_giveToCrew 7 = .ok (.iload_n 1, 1) := by decide +kernel
theorem dX8_giveToCrew_8 : decode cX8_giveToCrew 8 = .ok (.iaload, 1) := by decide +kernel
theorem dX8_giveToCrew_9 : decode cX8_giveToCrew 9 = .ok (.istore_n 2, 1) := by decide +kernel
theorem dX8_giveToCrew_10 : decode cX8_giveToCrew 10 = .ok (.aload_n 0, 1) := by decide +kernel
theorem dX8_giveToCrew_11 : decode cX8_giveToCrew 11 = .ok (.getfield 40, 3) := by decide +kernel
theorem dX8_giveToCrew_14 : decode cX8_giveToCrew 14 = .ok (.aload_n 0, 1) := by decide +kernel
theorem dX8_giveToCrew_15 : decode cX8_giveToCrew 15 = .ok (.getfield 10, 3) := by decide +kernel
theorem dX8_giveToCrew_18 : decode cX8_giveToCrew 18 = .ok (.getfield 120, 3) := by decide +kernel
theorem dX8_giveToCrew_21 : decode cX8_giveToCrew 21 = .ok (.iload_n 2, 1) := by decide +kernel
theorem dX8_giveToCrew_22 : decode cX8_giveToCrew 22 = .ok (.iaload, 1) := by decide +kernel
theorem dX8_giveToCrew_23 : decode cX8_giveToCrew 23 = .ok (.invokevirtual 172, 3) := by decide +kernel
theorem dX8_giveToCrew_26 : decode cX8_giveToCrew 26 = .ok (.istore_n 3, 1) := by decide +kernel
theorem dX8_giveToCrew_27 : decode cX8_giveToCrew 27 = .ok (.iload_n 3, 1) := by decide +kernel
theorem dX8_giveToCrew_28 : decode cX8_giveToCrew 28 = .ok (.iconst (-1), 1) := by decide +kernel
theorem dX8_giveToCrew_29 : decode cX8_giveToCrew 29 = .ok (.if_icmp .ne 9, 3) := by decide +kernel
theorem dX8_giveToCrew_32 : decode cX8_giveToCrew 32 = .ok (.ldc_w 349, 3) := by decide +kernel
theorem dX8_giveToCrew_35 : decode cX8_giveToCrew 35 = .ok (.goto 14, 3) := by decide +kernel
theorem dX8_giveToCrew_38 : decode cX8_giveToCrew 38 = .ok (.aload_n 0, 1) := by decide +kernel
theorem dX8_giveToCrew_39 : decode cX8_giveToCrew 39 = .ok (.getfield 10, 3) := by decide +kernel
theorem dX8_giveToCrew_42 : decode cX8_giveToCrew 42 = .ok (.getfield 325, 3) := by decide +kernel
theorem dX8_giveToCrew_45 : decode cX8_giveToCrew 45 = .ok (.iload_n 2, 1) := by decide +kernel
theorem dX8_giveToCrew_46 : decode cX8_giveToCrew 46 = .ok (.iaload, 1) := by decide +kernel
theorem dX8_giveToCrew_47 : decode cX8_giveToCrew 47 = .ok (.iload_n 3, 1) := by decide +kernel
theorem dX8_giveToCrew_48 : decode cX8_giveToCrew 48 = .ok (.iadd, 1) := by decide +kernel
theorem dX8_giveToCrew_49 : decode cX8_giveToCrew 49 = .ok (.istore 4, 2) := by decide +kernel
theorem dX8_giveToCrew_51 : decode cX8_giveToCrew 51 = .ok (.aload_n 0, 1) := by decide +kernel
theorem dX8_giveToCrew_52 : decode cX8_giveToCrew 52 = .ok (.getfield 47, 3) := by decide +kernel
theorem dX8_giveToCrew_55 : decode cX8_giveToCrew 55 = .ok (.iload_n 1, 1) := by decide +kernel
theorem dX8_giveToCrew_56 : decode cX8_giveToCrew 56 = .ok (.aload_n 0, 1) := by decide +kernel
theorem dX8_giveToCrew_57 : decode cX8_giveToCrew 57 = .ok (.getfield 10, 3) := by decide +kernel
theorem dX8_giveToCrew_60 : decode cX8_giveToCrew 60 = .ok (.getfield 331, 3) := by decide +kernel
theorem dX8_giveToCrew_63 : decode cX8_giveToCrew 63 = .ok (.iload_n 2, 1) := by decide +kernel
theorem dX8_giveToCrew_64 : decode cX8_giveToCrew 64 = .ok (.iaload, 1) := by decide +kernel
theorem dX8_giveToCrew_65 : decode cX8_giveToCrew 65 = .ok (.aload_n 0, 1) := by decide +kernel
theorem dX8_giveToCrew_66 : decode cX8_giveToCrew 66 = .ok (.getfield 10, 3) := by decide +kernel
theorem dX8_giveToCrew_69 : decode cX8_giveToCrew 69 = .ok (.getfield 334, 3) := by decide +kernel
theorem dX8_giveToCrew_72 : decode cX8_giveToCrew 72 = .ok (.iload_n 2, 1) := by decide +kernel
theorem dX8_giveToCrew_73 : decode cX8_giveToCrew 73 = .ok (.iaload, 1) := by decide +kernel
theorem dX8_giveToCrew_74 : decode cX8_giveToCrew 74 = .ok (.aload_n 0, 1) := by decide +kernel
theorem dX8_giveToCrew_75 : decode cX8_giveToCrew 75 = .ok (.getfield 51, 3) := by decide +kernel
theorem dX8_giveToCrew_78 : decode cX8_giveToCrew 78 = .ok (.aload_n 0, 1) := by decide +kernel
theorem dX8_giveToCrew_79 : decode cX8_giveToCrew 79 = .ok (.getfield 10, 3) := by decide +kernel
theorem dX8_giveToCrew_82 : decode cX8_giveToCrew 82 = .ok (.getfield 120, 3) := by decide +kernel
theorem dX8_giveToCrew_85 : decode cX8_giveToCrew 85 = .ok (.iload_n 2, 1) := by decide +kernel
theorem dX8_giveToCrew_86 : decode cX8_giveToCrew 86 = .ok (.iaload, 1) := by decide +kernel
theorem dX8_giveToCrew_87 : decode cX8_giveToCrew 87 = .ok (.iaload, 1) := by decide +kernel
theorem dX8_giveToCrew_88 : decode cX8_giveToCrew 88 = .ok (.iload 4, 2) := by decide +kernel
theorem dX8_giveToCrew_90 : decode cX8_giveToCrew 90 = .ok (.invokevirtual 350, 3) := by decide +kernel
theorem dX8_giveToCrew_93 : decode cX8_giveToCrew 93 = .ok (.return_, 1) := by decide +kernel
theorem dX8_thingsIn_0 : decode cX8_thingsIn 0 = .ok (.iconst 0, 1) := by decide +kernel
theorem dX8_thingsIn_1 : decode cX8_thingsIn 1 = .ok (.istore_n 3, 1) := by decide +kernel
theorem dX8_thingsIn_2 : decode cX8_thingsIn 2 = .ok (.iconst 0, 1) := by decide +kernel
theorem dX8_thingsIn_3 : decode cX8_thingsIn 3 = .ok (.istore 4, 2) := by decide +kernel
theorem dX8_thingsIn_5 : decode cX8_thingsIn 5 = .ok (.iload 4, 2) := by decide +kernel
theorem dX8_thingsIn_7 : decode cX8_thingsIn 7 = .ok (.aload_n 0, 1) := by decide +kernel
theorem dX8_thingsIn_8 : decode cX8_thingsIn 8 = .ok (.getfield 19, 3) := by decide +kernel
theorem dX8_thingsIn_11 : decode cX8_thingsIn 11 = .ok (.getfield 292, 3) := by decide +kernel
theorem dX8_thingsIn_14 : decode cX8_thingsIn 14 = .ok (.if_icmp .ge 39, 3) := by decide +kernel
theorem dX8_thingsIn_17 : decode cX8_thingsIn 17 = .ok (.aload_n 0, 1) := by decide +kernel
theorem dX8_thingsIn_18 : decode cX8_thingsIn 18 = .ok (.iload 4, 2) := by decide +kernel
theorem dX8_thingsIn_20 : decode cX8_thingsIn 20 = .ok (.invokevirtual 182, 3) := by decide +kernel
theorem dX8_thingsIn_23 : decode cX8_thingsIn 23 = .ok (.iload_n 1, 1) := by decide +kernel
theorem dX8_thingsIn_24 : decode cX8_thingsIn 24 = .ok (.if_icmp .ne 23, 3) := by decide +kernel
theorem dX8_thingsIn_27 : decode cX8_thingsIn 27 = .ok (.iload_n 2, 1) := by decide +kernel
theorem dX8_thingsIn_28 : decode cX8_thingsIn 28 = .ok (.ifCond .eq 16, 3) := by decide +kernel
theorem dX8_thingsIn_31 : decode cX8_thingsIn 31 = .ok (.aload_n 0, 1) := by decide +kernel
theorem dX8_thingsIn_32 : decode cX8_thingsIn 32 = .ok (.getfield 19, 3) := by decide +kernel
theorem dX8_thingsIn_35 : decode cX8_thingsIn 35 = .ok (.getfield 218, 3) := by decide +kernel
theorem dX8_thingsIn_38 : decode cX8_thingsIn 38 = .ok (.iload 4, 2) := by decide +kernel
theorem dX8_thingsIn_40 : decode cX8_thingsIn 40 = .ok (.baload, 1) := by decide +kernel
theorem dX8_thingsIn_41 : decode cX8_thingsIn 41 = .ok (.ifCond .ne 6, 3) := by decide +kernel
theorem dX8_thingsIn_44 : decode cX8_thingsIn 44 = .ok (.iinc 3 1, 3) := by decide +kernel
theorem dX8_thingsIn_47 : decode cX8_thingsIn 47 = .ok (.iinc 4 1, 3) := by decide +kernel
theorem dX8_thingsIn_50 : decode cX8_thingsIn 50 = .ok (.goto (-45), 3) := by decide +kernel
theorem dX8_thingsIn_53 : decode cX8_thingsIn 53 = .ok (.iload_n 3, 1) := by decide +kernel
theorem dX8_thingsIn_54 : decode cX8_thingsIn 54 = .ok (.ireturn, 1) := by decide +kernel
theorem dX8_askedOfHundred_0 : decode cX8_askedOfHundred 0 = .ok (.aload_n 0, 1) := by decide +kernel
theorem dX8_askedOfHundred_1 : decode cX8_askedOfHundred 1 = .ok (.getfield 62, 3) := by decide +kernel
theorem dX8_askedOfHundred_4 : decode cX8_askedOfHundred 4 = .ok (.iload_n 1, 1) := by decide +kernel
theorem dX8_askedOfHundred_5 : decode cX8_askedOfHundred 5 = .ok (.iaload, 1) := by decide +kernel
theorem dX8_askedOfHundred_6 : decode cX8_askedOfHundred 6 = .ok (.istore_n 2, 1) := by decide +kernel
theorem dX8_askedOfHundred_7 : decode cX8_askedOfHundred 7 = .ok (.iload_n 2, 1) := by decide +kernel
theorem dX8_askedOfHundred_8 : decode cX8_askedOfHundred 8 = .ok (.ifCond .ne 8, 3) := by decide +kernel
theorem dX8_askedOfHundred_11 : decode cX8_askedOfHundred 11 = .ok (.bipush 100, 2) := by decide +kernel
theorem dX8_askedOfHundred_13 : decode cX8_askedOfHundred 13 = .ok (.goto 14, 3) := by decide +kernel
theorem dX8_askedOfHundred_16 : decode cX8_askedOfHundred 16 = .ok (.aload_n 0, 1) := by decide +kernel
theorem dX8_askedOfHundred_17 : decode cX8_askedOfHundred 17 = .ok (.getfield 65, 3) := by decide +kernel
theorem dX8_askedOfHundred_20 : decode cX8_askedOfHundred 20 = .ok (.iload_n 1, 1) := by decide +kernel
theorem dX8_askedOfHundred_21 : decode cX8_askedOfHundred 21 = .ok (.iaload, 1) := by decide +kernel
theorem dX8_askedOfHundred_22 : decode cX8_askedOfHundred 22 = .ok (.bipush 100, 2) := by decide +kernel
theorem dX8_askedOfHundred_24 : decode cX8_askedOfHundred 24 = .ok (.imul, 1) := by decide +kernel
theorem dX8_askedOfHundred_25 : decode cX8_askedOfHundred 25 = .ok (.iload_n 2, 1) := by decide +kernel
theorem dX8_askedOfHundred_26 : decode cX8_askedOfHundred 26 = .ok (.idiv, 1) := by decide +kernel
theorem dX8_askedOfHundred_27 : decode cX8_askedOfHundred 27 = .ok (.ireturn, 1) := by decide +kernel
theorem dX8_thingsReckoned_0 : decode cX8_thingsReckoned 0 = .ok (.aload_n 0, 1) := by decide +kernel
theorem dX8_thingsReckoned_1 : decode cX8_thingsReckoned 1 = .ok (.iload_n 1, 1) := by decide +kernel
theorem dX8_thingsReckoned_2 : decode cX8_thingsReckoned 2 = .ok (.invokevirtual 251, 3) := by decide +kernel
theorem dX8_thingsReckoned_5 : decode cX8_thingsReckoned 5 = .ok (.istore_n 2, 1) := by decide +kernel
theorem dX8_thingsReckoned_6 : decode cX8_thingsReckoned 6 = .ok (.iload_n 2, 1) := by decide +kernel
theorem dX8_thingsReckoned_7 : decode cX8_thingsReckoned 7 = .ok (.ifCond .ne 12, 3) := by decide +kernel
theorem dX8_thingsReckoned_10 : decode cX8_thingsReckoned 10 = .ok (.aload_n 0, 1) := by decide +kernel
theorem dX8_thingsReckoned_11 : decode cX8_thingsReckoned 11 = .ok (.ldc 175, 2) := by decide +kernel
theorem dX8_thingsReckoned_13 : decode cX8_thingsReckoned 13 = .ok (.invokevirtual 91, 3) := by decide +kernel
theorem dX8_thingsReckoned_16 : decode cX8_thingsReckoned 16 = .ok (.goto 14, 3) := by decide +kernel
theorem dX8_thingsReckoned_19 : decode cX8_thingsReckoned 19 = .ok (.aload_n 0, 1) := by decide +kernel
theorem dX8_thingsReckoned_20 : decode cX8_thingsReckoned 20 = .ok (.iload_n 1, 1) := by decide +kernel
theorem dX8_thingsReckoned_21 : decode cX8_thingsReckoned 21 = .ok (.iconst 0, 1) := by decide +kernel
theorem dX8_thingsReckoned_22 : decode cX8_thingsReckoned 22 = .ok (.invokevirtual 244, 3) := by decide +kernel
theorem dX8_thingsReckoned_25 : decode cX8_thingsReckoned 25 = .ok (.bipush 100, 2) := by decide +kernel
theorem dX8_thingsReckoned_27 : decode cX8_thingsReckoned 27 = .ok (.imul, 1) := by decide +kernel
theorem dX8_thingsReckoned_28 : decode cX8_thingsReckoned 28 = .ok (.iload_n 2, 1) := by decide +kernel
theorem dX8_thingsReckoned_29 : decode cX8_thingsReckoned 29 = .ok (.idiv, 1) := by decide +kernel
theorem dX8_thingsReckoned_30 : decode cX8_thingsReckoned 30 = .ok (.ireturn, 1) := by decide +kernel
