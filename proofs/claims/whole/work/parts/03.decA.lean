theorem dX0_init_0 : decode cX0_init 0 = .ok (.aload_n 0, 1) := by decide +kernel
theorem dX0_init_1 : decode cX0_init 1 = .ok (.invokespecial 3, 3) := by decide +kernel
theorem dX0_init_4 : decode cX0_init 4 = .ok (.aload_n 0, 1) := by decide +kernel
theorem dX0_init_5 : decode cX0_init 5 = .ok (.bipush 40, 2) := by decide +kernel
theorem dX0_init_7 : decode cX0_init 7 = .ok (.newarray .int, 2) := by decide +kernel
theorem dX0_init_9 : decode cX0_init 9 = .ok (.putfield 9, 3) := by decide +kernel
theorem dX0_init_12 : decode cX0_init 12 = .ok (.aload_n 0, 1) := by decide +kernel
theorem dX0_init_13 : decode cX0_init 13 = .ok (.bipush 40, 2) := by decide +kernel
theorem dX0_init_15 : decode cX0_init 15 = .ok (.newarray .int, 2) := by decide +kernel
theorem dX0_init_17 : decode cX0_init 17 = .ok (.putfield 15, 3) := by decide +kernel
theorem dX0_init_20 : decode cX0_init 20 = .ok (.aload_n 0, 1) := by decide +kernel
theorem dX0_init_21 : decode cX0_init 21 = .ok (.bipush 40, 2) := by decide +kernel
theorem dX0_init_23 : decode cX0_init 23 = .ok (.newarray .int, 2) := by decide +kernel
theorem dX0_init_25 : decode cX0_init 25 = .ok (.putfield 18, 3) := by decide +kernel
theorem dX0_init_28 : decode cX0_init 28 = .ok (.aload_n 0, 1) := by decide +kernel
theorem dX0_init_29 : decode cX0_init 29 = .ok (.bipush 40, 2) := by decide +kernel
theorem dX0_init_31 : decode cX0_init 31 = .ok (.newarray .int, 2) := by decide +kernel
theorem dX0_init_33 : decode cX0_init 33 = .ok (.putfield 21, 3) := by decide +kernel
theorem dX0_init_36 : decode cX0_init 36 = .ok (.aload_n 0, 1) := by decide +kernel
theorem dX0_init_37 : decode cX0_init 37 = .ok (.bipush 40, 2) := by decide +kernel
theorem dX0_init_39 : decode cX0_init 39 = .ok (.newarray .int, 2) := by decide +kernel
theorem dX0_init_41 : decode cX0_init 41 = .ok (.putfield 24, 3) := by decide +kernel
theorem dX0_init_44 : decode cX0_init 44 = .ok (.aload_n 0, 1) := by decide +kernel
theorem dX0_init_45 : decode cX0_init 45 = .ok (.bipush 40, 2) := by decide +kernel
theorem dX0_init_47 : decode cX0_init 47 = .ok (.newarray .int, 2) := by decide +kernel
theorem dX0_init_49 : decode cX0_init 49 = .ok (.putfield 27, 3) := by decide +kernel
theorem dX0_init_52 : decode cX0_init 52 = .ok (.aload_n 0, 1) := by decide +kernel
theorem dX0_init_53 : decode cX0_init 53 = .ok (.iconst 5, 1) := by decide +kernel
theorem dX0_init_54 : decode cX0_init 54 = .ok (.newarray .int, 2) := by decide +kernel
theorem dX0_init_56 : decode cX0_init 56 = .ok (.dup, 1) := by decide +kernel
theorem dX0_init_57 : decode cX0_init 57 = .ok (.iconst 0, 1) := by decide +kernel
theorem dX0_init_58 : decode cX0_init 58 = .ok (.iconst 2, 1) := by decide +kernel
theorem dX0_init_59 : decode cX0_init 59 = .ok (.iastore, 1) := by decide +kernel
theorem dX0_init_60 : decode cX0_init 60 = .ok (.dup, 1) := by decide +kernel
theorem dX0_init_61 : decode cX0_init 61 = .ok (.iconst 1, 1) := by decide +kernel
theorem dX0_init_62 : decode cX0_init 62 = .ok (.iconst 2, 1) := by decide +kernel
theorem dX0_init_63 : decode cX0_init 63 = .ok (.iastore, 1) := by decide +kernel
theorem dX0_init_64 : decode cX0_init 64 = .ok (.dup, 1) := by decide +kernel
theorem dX0_init_65 : decode cX0_init 65 = .ok (.iconst 2, 1) := by decide +kernel
theorem dX0_init_66 : decode cX0_init 66 = .ok (.iconst 2, 1) := by decide +kernel
theorem dX0_init_67 : decode cX0_init 67 = .ok (.iastore, 1) := by decide +kernel
theorem dX0_init_68 : decode cX0_init 68 = .ok (.dup, 1) := by decide +kernel
theorem dX0_init_69 : decode cX0_init 69 = .ok (.iconst 3, 1) := by decide +kernel
theorem dX0_init_70 : decode cX0_init 70 = .ok (.iconst 2, 1) := by decide +kernel
theorem dX0_init_71 : decode cX0_init 71 = .ok (.iastore, 1) := by decide +kernel
theorem dX0_init_72 : decode cX0_init 72 = .ok (.dup, 1) := by decide +kernel
theorem dX0_init_73 : decode cX0_init 73 = .ok (.iconst 4, 1) := by decide +kernel
theorem dX0_init_74 : decode cX0_init 74 = .ok (.iconst 2, 1) := by decide +kernel
theorem dX0_init_75 : decode cX0_init 75 = .ok (.iastore, 1) := by decide +kernel
theorem dX0_init_76 : decode cX0_init 76 = .ok (.putfield 30, 3) := by decide +kernel
theorem dX0_init_79 : decode cX0_init 79 = .ok (.aload_n 0, 1) := by decide +kernel
theorem dX0_init_80 : decode cX0_init 80 = .ok (.iconst 5, 1) := by decide +kernel
theorem dX0_init_81 : decode cX0_init 81 = .ok (.newarray .int, 2) := by decide +kernel
theorem dX0_init_83 : decode cX0_init 83 = .ok (.dup, 1) := by decide +kernel
theorem dX0_init_84 : decode cX0_init 84 = .ok (.iconst 0, 1) := by decide +kernel
theorem dX0_init_85 : decode cX0_init 85 = .ok (.bipush 30, 2) := by decide +kernel
theorem dX0_init_87 : decode cX0_init 87 = .ok (.iastore, 1) := by decide +kernel
theorem dX0_init_88 : decode cX0_init 88 = .ok (.dup, 1) := by decide +kernel
theorem dX0_init_89 : decode cX0_init 89 = .ok (.iconst 1, 1) := by decide +kernel
theorem dX0_init_90 : decode cX0_init 90 = .ok (.bipush 30, 2) := by decide +kernel
theorem dX0_init_92 : decode cX0_init 92 = .ok (.iastore, 1) := by decide +kernel
theorem dX0_init_93 : decode cX0_init 93 = .ok (.dup, 1) := by decide +kernel
theorem dX0_init_94 : decode cX0_init 94 = .ok (.iconst 2, 1) := by decide +kernel
theorem dX0_init_95 : decode cX0_init 95 = .ok (.bipush 30, 2) := by decide +kernel
theorem dX0_init_97 : decode cX0_init 97 = .ok (.iastore, 1) := by decide +kernel
theorem dX0_init_98 : decode cX0_init 98 = .ok (.dup, 1) := by decide +kernel
theorem dX0_init_99 : decode cX0_init 99 = .ok (.iconst 3, 1) := by decide +kernel
theorem dX0_init_100 : decode cX0_init 100 = .ok (.bipush 30, 2) := by decide +kernel
theorem dX0_init_102 : decode cX0_init 102 = .ok (.iastore, 1) := by decide +kernel
theorem dX0_init_103 : decode cX0_init 103 = .ok (.dup, 1) := by decide +kernel
theorem dX0_init_104 : decode cX0_init 104 = .ok (.iconst 4, 1) := by decide +kernel
theorem dX0_init_105 : decode cX0_init 105 = .ok (.bipush 30, 2) := by decide +kernel
theorem dX0_init_107 : decode cX0_init 107 = .ok (.iastore, 1) := by decide +kernel
theorem dX0_init_108 : decode cX0_init 108 = .ok (.putfield 33, 3) := by decide +kernel
theorem dX0_init_111 : decode cX0_init 111 = .ok (.aload_n 0, 1) := by decide +kernel
theorem dX0_init_112 : decode cX0_init 112 = .ok (.iconst 0, 1) := by decide +kernel
theorem dX0_init_113 : decode cX0_init 113 = .ok (.putfield 36, 3) := by decide +kernel
theorem dX0_init_116 : decode cX0_init 116 = .ok (.return_, 1) := by decide +kernel
theorem dX0_add_0 : decode cX0_add 0 = .ok (.aload_n 0, 1) := by decide +kernel
theorem dX0_add_1 : decode cX0_add 1 = .ok (.getfield 36, 3) := by decide +kernel
theorem dX0_add_4 : decode cX0_add 4 = .ok (.istore 6, 2) := by decide +kernel
theorem dX0_add_6 : decode cX0_add 6 = .ok (.aload_n 0, 1) := by decide +kernel
theorem dX0_add_7 : decode cX0_add 7 = .ok (.getfield 9, 3) := by decide +kernel
theorem dX0_add_10 : decode cX0_add 10 = .ok (.iload 6, 2) := by decide +kernel
theorem dX0_add_12 : decode cX0_add 12 = .ok (.iload_n 1, 1) := by decide +kernel
theorem dX0_add_13 : decode cX0_add 13 = .ok (.iastore, 1) := by decide +kernel
theorem dX0_add_14 : decode cX0_add 14 = .ok (.aload_n 0, 1) := by decide +kernel
theorem dX0_add_15 : decode cX0_add 15 = .ok (.getfield 15, 3) := by decide +kernel
theorem dX0_add_18 : decode cX0_add 18 = .ok (.iload 6, 2) := by decide +kernel
theorem dX0_add_20 : decode cX0_add 20 = .ok (.iload_n 2, 1) := by decide +kernel
theorem dX0_add_21 : decode cX0_add 21 = .ok (.iastore, 1) := by decide +kernel
theorem dX0_add_22 : decode cX0_add 22 = .ok (.aload_n 0, 1) := by decide +kernel
theorem dX0_add_23 : decode cX0_add 23 = .ok (.getfield 18, 3) := by decide +kernel
theorem dX0_add_26 : decode cX0_add 26 = .ok (.iload 6, 2) := by decide +kernel
theorem dX0_add_28 : decode cX0_add 28 = .ok (.iload_n 3, 1) := by decide +kernel
theorem dX0_add_29 : decode cX0_add 29 = .ok (.iastore, 1) := by decide +kernel
theorem dX0_add_30 : decode cX0_add 30 = .ok (.aload_n 0, 1) := by decide +kernel
theorem dX0_add_31 : decode cX0_add 31 = .ok (.getfield 21, 3) := by decide +kernel
theorem dX0_add_34 : decode cX0_add 34 = .ok (.iload 6, 2) := by decide +kernel
theorem dX0_add_36 : decode cX0_add 36 = .ok (.iload 4, 2) := by decide +kernel
theorem dX0_add_38 : decode cX0_add 38 = .ok (.iastore, 1) := by decide +kernel
theorem dX0_add_39 : decode cX0_add 39 = .ok (.aload_n 0, 1) := by decide +kernel
theorem dX0_add_40 : decode cX0_add 40 = .ok (.getfield 24, 3) := by decide +kernel
theorem dX0_add_43 : decode cX0_add 43 = .ok (.iload 6, 2) := by decide +kernel
theorem dX0_add_45 : decode cX0_add 45 = .ok (.iload 5, 2) := by decide +kernel
theorem dX0_add_47 : decode cX0_add 47 = .ok (.iastore, 1) := by decide +kernel
theorem dX0_add_48 : decode cX0_add 48 = .ok (.aload_n 0, 1) := by decide +kernel
theorem dX0_add_49 : decode cX0_add 49 = .ok (.getfield 27, 3) := by decide +kernel
theorem dX0_add_52 : decode cX0_add 52 = .ok (.iload 6, 2) := by decide +kernel
theorem dX0_add_54 : decode cX0_add 54 = .ok (.iconst (-1), 1) := by decide +kernel
theorem dX0_add_55 : decode cX0_add 55 = .ok (.iastore, 1) := by decide +kernel
theorem dX0_add_56 : decode cX0_add 56 = .ok (.aload_n 0, 1) := by decide +kernel
theorem dX0_add_57 : decode cX0_add 57 = .ok (.dup, 1) := by decide +kernel
theorem dX0_add_58 : decode cX0_add 58 = .ok (.getfield 36, 3) := by decide +kernel
theorem dX0_add_61 : decode cX0_add 61 = .ok (.iconst 1, 1) := by decide +kernel
theorem dX0_add_62 : decode cX0_add 62 = .ok (.iadd, 1) := by decide +kernel
theorem dX0_add_63 : decode cX0_add 63 = .ok (.putfield 36, 3) := by decide +kernel
theorem dX0_add_66 : decode cX0_add 66 = .ok (.iload 6, 2) := by decide +kernel
theorem dX0_add_68 : decode cX0_add 68 = .ok (.ireturn, 1) := by decide +kernel
theorem dX0_latestDay_0 : decode cX0_latestDay 0 = .ok (.aload_n 0, 1) := by decide +kernel
theorem dX0_latestDay_1 : decode cX0_latestDay 1 = .ok (.getfield 36, 3) := by decide +kernel
theorem dX0_latestDay_4 : decode cX0_latestDay 4 = .ok (.ifCond .ne 7, 3) := by decide +kernel
theorem dX0_latestDay_7 : decode cX0_latestDay 7 = .ok (.iconst 0, 1) := by decide +kernel
theorem dX0_latestDay_8 : decode cX0_latestDay 8 = .ok (.goto 14, 3) := by decide +kernel
theorem dX0_latestDay_11 : decode cX0_latestDay 11 = .ok (.aload_n 0, 1) := by decide +kernel
theorem dX0_latestDay_12 : decode cX0_latestDay 12 = .ok (.getfield 24, 3) := by decide +kernel
theorem dX0_latestDay_15 : decode cX0_latestDay 15 = .ok (.aload_n 0, 1) := by decide +kernel
theorem dX0_latestDay_16 : decode cX0_latestDay 16 = .ok (.getfield 36, 3) := by decide +kernel
theorem dX0_latestDay_19 : decode cX0_latestDay 19 = .ok (.iconst 1, 1) := by decide +kernel
theorem dX0_latestDay_20 : decode cX0_latestDay 20 = .ok (.isub, 1) := by decide +kernel
theorem dX0_latestDay_21 : decode cX0_latestDay 21 = .ok (.iaload, 1) := by decide +kernel
theorem dX0_latestDay_22 : decode cX0_latestDay 22 = .ok (.ireturn, 1) := by decide +kernel
theorem dX0_areMeeting_0 : decode cX0_areMeeting 0 = .ok (.aload_n 0, 1) := by decide +kernel
theorem dX0_areMeeting_1 : decode cX0_areMeeting 1 = .ok (.getfield 9, 3) := by decide +kernel
theorem dX0_areMeeting_4 : decode cX0_areMeeting 4 = .ok (.iload_n 1, 1) := by decide +kernel
theorem dX0_areMeeting_5 : decode cX0_areMeeting 5 = .ok (.iaload, 1) := by decide +kernel
theorem dX0_areMeeting_6 : decode cX0_areMeeting 6 = .ok (.aload_n 0, 1) := by decide +kernel
theorem dX0_areMeeting_7 : decode cX0_areMeeting 7 = .ok (.getfield 9, 3) := by decide +kernel
theorem dX0_areMeeting_10 : decode cX0_areMeeting 10 = .ok (.iload_n 2, 1) := by decide +kernel
theorem dX0_areMeeting_11 : decode cX0_areMeeting 11 = .ok (.iaload, 1) := by decide +kernel
theorem dX0_areMeeting_12 : decode cX0_areMeeting 12 = .ok (.if_icmp .eq 5, 3) := by decide +kernel
theorem dX0_areMeeting_15 : decode cX0_areMeeting 15 = .ok (.iconst 0, 1) := by decide +kernel
theorem dX0_areMeeting_16 : decode cX0_areMeeting 16 = .ok (.ireturn, 1) := by decide +kernel
theorem dX0_areMeeting_17 : decode cX0_areMeeting 17 = .ok (.aload_n 0, 1) := by decide +kernel
theorem dX0_areMeeting_18 : decode cX0_areMeeting 18 = .ok (.getfield 30, 3) := by decide +kernel
theorem dX0_areMeeting_21 : decode cX0_areMeeting 21 = .ok (.aload_n 0, 1) := by decide +kernel
theorem dX0_areMeeting_22 : decode cX0_areMeeting 22 = .ok (.getfield 9, 3) := by decide +kernel
theorem dX0_areMeeting_25 : decode cX0_areMeeting 25 = .ok (.iload_n 1, 1) := by decide +kernel
theorem dX0_areMeeting_26 : decode cX0_areMeeting 26 = .ok (.iaload, 1) := by decide +kernel
theorem dX0_areMeeting_27 : decode cX0_areMeeting 27 = .ok (.iaload, 1) := by decide +kernel
theorem dX0_areMeeting_28 : decode cX0_areMeeting 28 = .ok (.aload_n 0, 1) := by decide +kernel
theorem dX0_areMeeting_29 : decode cX0_areMeeting 29 = .ok (.getfield 21, 3) := by decide +kernel
theorem dX0_areMeeting_32 : decode cX0_areMeeting 32 = .ok (.iload_n 1, 1) := by decide +kernel
theorem dX0_areMeeting_33 : decode cX0_areMeeting 33 = .ok (.iaload, 1) := by decide +kernel
theorem dX0_areMeeting_34 : decode cX0_areMeeting 34 = .ok (.iadd, 1) := by decide +kernel
theorem dX0_areMeeting_35 : decode cX0_areMeeting 35 = .ok (.aload_n 0, 1) := by decide +kernel
theorem dX0_areMeeting_36 : decode cX0_areMeeting 36 = .ok (.getfield 21, 3) := by decide +kernel
theorem dX0_areMeeting_39 : decode cX0_areMeeting 39 = .ok (.iload_n 2, 1) := by decide +kernel
theorem dX0_areMeeting_40 : decode cX0_areMeeting 40 = .ok (.iaload, 1) := by decide +kernel
theorem dX0_areMeeting_41 : decode cX0_areMeeting 41 = .ok (.iadd, 1) := by decide +kernel
theorem dX0_areMeeting_42 : decode cX0_areMeeting 42 = .ok (.istore_n 3, 1) := by decide +kernel
theorem dX0_areMeeting_43 : decode cX0_areMeeting 43 = .ok (.aload_n 0, 1) := by decide +kernel
theorem dX0_areMeeting_44 : decode cX0_areMeeting 44 = .ok (.getfield 15, 3) := by decide +kernel
theorem dX0_areMeeting_47 : decode cX0_areMeeting 47 = .ok (.iload_n 1, 1) := by decide +kernel
theorem dX0_areMeeting_48 : decode cX0_areMeeting 48 = .ok (.iaload, 1) := by decide +kernel
theorem dX0_areMeeting_49 : decode cX0_areMeeting 49 = .ok (.aload_n 0, 1) := by decide +kernel
theorem dX0_areMeeting_50 : decode cX0_areMeeting 50 = .ok (.getfield 18, 3) := by decide +kernel
theorem dX0_areMeeting_53 : decode cX0_areMeeting 53 = .ok (.iload_n 1, 1) := by decide +kernel
theorem dX0_areMeeting_54 : decode cX0_areMeeting 54 = .ok (.iaload, 1) := by decide +kernel
theorem dX0_areMeeting_55 : decode cX0_areMeeting 55 = .ok (.aload_n 0, 1) := by decide +kernel
theorem dX0_areMeeting_56 : decode cX0_areMeeting 56 = .ok (.getfield 15, 3) := by decide +kernel
theorem dX0_areMeeting_59 : decode cX0_areMeeting 59 = .ok (.iload_n 2, 1) := by decide +kernel
theorem dX0_areMeeting_60 : decode cX0_areMeeting 60 = .ok (.iaload, 1) := by decide +kernel
theorem dX0_areMeeting_61 : decode cX0_areMeeting 61 = .ok (.aload_n 0, 1) := by decide +kernel
theorem dX0_areMeeting_62 : decode cX0_areMeeting 62 = .ok (.getfield 18, 3) := by decide +kernel
theorem dX0_areMeeting_65 : decode cX0_areMeeting 65 = .ok (.iload_n 2, 1) := by decide +kernel
theorem dX0_areMeeting_66 : decode cX0_areMeeting 66 = .ok (.iaload, 1) := by decide +kernel
theorem dX0_areMeeting_67 : decode cX0_areMeeting 67 = .ok (.invokestatic 40, 3) := by decide +kernel
theorem dX0_areMeeting_70 : decode cX0_areMeeting 70 = .ok (.iload_n 3, 1) := by decide +kernel
theorem dX0_areMeeting_71 : decode cX0_areMeeting 71 = .ok (.if_icmp .gt 37, 3) := by decide +kernel
theorem dX0_areMeeting_74 : decode cX0_areMeeting 74 = .ok (.aload_n 0, 1) := by decide +kernel
theorem dX0_areMeeting_75 : decode cX0_areMeeting 75 = .ok (.getfield 24, 3) := by decide +kernel
theorem dX0_areMeeting_78 : decode cX0_areMeeting 78 = .ok (.iload_n 1, 1) := by decide +kernel
theorem dX0_areMeeting_79 : decode cX0_areMeeting 79 = .ok (.iaload, 1) := by decide +kernel
theorem dX0_areMeeting_80 : decode cX0_areMeeting 80 = .ok (.aload_n 0, 1) := by decide +kernel
theorem dX0_areMeeting_81 : decode cX0_areMeeting 81 = .ok (.getfield 24, 3) := by decide +kernel
theorem dX0_areMeeting_84 : decode cX0_areMeeting 84 = .ok (.iload_n 2, 1) := by decide +kernel
theorem dX0_areMeeting_85 : decode cX0_areMeeting 85 = .ok (.iaload, 1) := by decide +kernel
theorem dX0_areMeeting_86 : decode cX0_areMeeting 86 = .ok (.isub, 1) := by decide +kernel
theorem dX0_areMeeting_87 : decode cX0_areMeeting 87 = .ok (.invokestatic 44, 3) := by decide +kernel
theorem dX0_areMeeting_90 : decode cX0_areMeeting 90 = .ok (.aload_n 0, 1) := by decide +kernel
theorem dX0_areMeeting_91 : decode cX0_areMeeting 91 = .ok (.getfield 33, 3) := by decide +kernel
theorem dX0_areMeeting_94 : decode cX0_areMeeting 94 = .ok (.aload_n 0, 1) := by decide +kernel
theorem dX0_areMeeting_95 : decode cX0_areMeeting 95 = .ok (.getfield 9, 3) := by decide +kernel
theorem dX0_areMeeting_98 : decode cX0_areMeeting 98 = .ok (.iload_n 1, 1) := by decide +kernel
theorem dX0_areMeeting_99 : decode cX0_areMeeting 99 = .ok (.iaload, 1) := by decide +kernel
theorem dX0_areMeeting_100 : decode cX0_areMeeting 100 = .ok (.iaload, 1) := by decide +kernel
theorem dX0_areMeeting_101 : decode cX0_areMeeting 101 = .ok (.if_icmp .gt 7, 3) := by decide +kernel
theorem dX0_areMeeting_104 : decode cX0_areMeeting 104 = .ok (.iconst 1, 1) := by decide +kernel
theorem dX0_areMeeting_105 : decode cX0_areMeeting 105 = .ok (.goto 4, 3) := by decide +kernel
theorem dX0_areMeeting_108 : decode cX0_areMeeting 108 = .ok (.iconst 0, 1) := by decide +kernel
theorem dX0_areMeeting_109 : decode cX0_areMeeting 109 = .ok (.ireturn, 1) := by decide +kernel
theorem dX0_meetsAllOfThing_0 : decode cX0_meetsAllOfThing 0 = .ok (.iconst 0, 1) := by decide +kernel
theorem dX0_meetsAllOfThing_1 : decode cX0_meetsAllOfThing 1 = .ok (.istore_n 3, 1) := by decide +kernel
theorem dX0_meetsAllOfThing_2 : decode cX0_meetsAllOfThing 2 = .ok (.iload_n 3, 1) := by decide +kernel
theorem dX0_meetsAllOfThing_3 : decode cX0_meetsAllOfThing 3 = .ok (.aload_n 0, 1) := by decide +kernel
theorem dX0_meetsAllOfThing_4 : decode cX0_meetsAllOfThing 4 = .ok (.getfield 36, 3) := by decide +kernel
theorem dX0_meetsAllOfThing_7 : decode cX0_meetsAllOfThing 7 = .ok (.if_icmp .ge 30, 3) := by decide +kernel
theorem dX0_meetsAllOfThing_10 : decode cX0_meetsAllOfThing 10 = .ok (.aload_n 0, 1) := by decide +kernel
theorem dX0_meetsAllOfThing_11 : decode cX0_meetsAllOfThing 11 = .ok (.getfield 27, 3) := by decide +kernel
theorem dX0_meetsAllOfThing_14 : decode cX0_meetsAllOfThing 14 = .ok (.iload_n 3, 1) := by decide +kernel
theorem dX0_meetsAllOfThing_15 : decode cX0_meetsAllOfThing 15 = .ok (.iaload, 1) := by decide +kernel
theorem dX0_meetsAllOfThing_16 : decode cX0_meetsAllOfThing 16 = .ok (.iload_n 2, 1) := by decide +kernel
theorem dX0_meetsAllOfThing_17 : decode cX0_meetsAllOfThing 17 = .ok (.if_icmp .ne 14, 3) := by decide +kernel
theorem dX0_meetsAllOfThing_20 : decode cX0_meetsAllOfThing 20 = .ok (.aload_n 0, 1) := by decide +kernel
theorem dX0_meetsAllOfThing_21 : decode cX0_meetsAllOfThing 21 = .ok (.iload_n 3, 1) := by decide +kernel
theorem dX0_meetsAllOfThing_22 : decode cX0_meetsAllOfThing 22 = .ok (.iload_n 1, 1) := by decide +kernel
theorem dX0_meetsAllOfThing_23 : decode cX0_meetsAllOfThing 23 = .ok (.invokevirtual 50, 3) := by decide +kernel
theorem dX0_meetsAllOfThing_26 : decode cX0_meetsAllOfThing 26 = .ok (.ifCond .ne 5, 3) := by decide +kernel
theorem dX0_meetsAllOfThing_29 : decode cX0_meetsAllOfThing 29 = .ok (.iconst 0, 1) := by decide +kernel
theorem dX0_meetsAllOfThing_30 : decode cX0_meetsAllOfThing 30 = .ok (.ireturn, 1) := by decide +kernel
theorem dX0_meetsAllOfThing_31 : decode cX0_meetsAllOfThing 31 = .ok (.iinc 3 1, 3) := by decide +kernel
theorem dX0_meetsAllOfThing_34 : decode cX0_meetsAllOfThing 34 = .ok (.goto (-32), 3) := by decide +kernel
theorem dX0_meetsAllOfThing_37 : decode cX0_meetsAllOfThing 37 = .ok (.iconst 1, 1) := by decide +kernel
theorem dX0_meetsAllOfThing_38 : decode cX0_meetsAllOfThing 38 = .ok (.ireturn, 1) := by decide +kernel
theorem dX0_countOfThing_0 : decode cX0_countOfThing 0 = .ok (.iconst 0, 1) := by decide +kernel
theorem dX0_countOfThing_1 : decode cX0_countOfThing 1 = .ok (.istore_n 2, 1) := by decide +kernel
theorem dX0_countOfThing_2 : decode cX0_countOfThing 2 = .ok (.iconst 0, 1) := by decide +kernel
theorem dX0_countOfThing_3 : decode cX0_countOfThing 3 = .ok (.istore_n 3, 1) := by decide +kernel
theorem dX0_countOfThing_4 : decode cX0_countOfThing 4 = .ok (.iload_n 3, 1) := by decide +kernel
theorem dX0_countOfThing_5 : decode cX0_countOfThing 5 = .ok (.aload_n 0, 1) := by decide +kernel
theorem dX0_countOfThing_6 : decode cX0_countOfThing 6 = .ok (.getfield 36, 3) := by decide +kernel
theorem dX0_countOfThing_9 : decode cX0_countOfThing 9 = .ok (.if_icmp .ge 22, 3) := by decide +kernel
theorem dX0_countOfThing_12 : decode cX0_countOfThing 12 = .ok (.aload_n 0, 1) := by decide +kernel
theorem dX0_countOfThing_13 : decode cX0_countOfThing 13 = .ok (.getfield 27, 3) := by decide +kernel
theorem dX0_countOfThing_16 : decode cX0_countOfThing 16 = .ok (.iload_n 3, 1) := by decide +kernel
theorem dX0_countOfThing_17 : decode cX0_countOfThing 17 = .ok (.iaload, 1) := by decide +kernel
theorem dX0_countOfThing_18 : decode cX0_countOfThing 18 = .ok (.iload_n 1, 1) := by decide +kernel
theorem dX0_countOfThing_19 : decode cX0_countOfThing 19 = .ok (.if_icmp .ne 6, 3) := by decide +kernel
theorem dX0_countOfThing_22 : decode cX0_countOfThing 22 = .ok (.iinc 2 1, 3) := by decide +kernel
theorem dX0_countOfThing_25 : decode cX0_countOfThing 25 = .ok (.iinc 3 1, 3) := by decide +kernel
theorem dX0_countOfThing_28 : decode cX0_countOfThing 28 = .ok (.goto (-24), 3) := by decide +kernel
theorem dX0_countOfThing_31 : decode cX0_countOfThing 31 = .ok (.iload_n 2, 1) := by decide +kernel
theorem dX0_countOfThing_32 : decode cX0_countOfThing 32 = .ok (.ireturn, 1) := by decide +kernel
theorem dX0_nthOfThing_0 : decode cX0_nthOfThing 0 = .ok (.iload_n 2, 1) := by decide +kernel
theorem dX0_nthOfThing_1 : decode cX0_nthOfThing 1 = .ok (.istore_n 3, 1) := by decide +kernel
theorem dX0_nthOfThing_2 : decode cX0_nthOfThing 2 = .ok (.iconst 0, 1) := by decide +kernel
theorem dX0_nthOfThing_3 : decode cX0_nthOfThing 3 = .ok (.istore 4, 2) := by decide +kernel
theorem dX0_nthOfThing_5 : decode cX0_nthOfThing 5 = .ok (.iload 4, 2) := by decide +kernel
theorem dX0_nthOfThing_7 : decode cX0_nthOfThing 7 = .ok (.aload_n 0, 1) := by decide +kernel
theorem dX0_nthOfThing_8 : decode cX0_nthOfThing 8 = .ok (.getfield 36, 3) := by decide +kernel
theorem dX0_nthOfThing_11 : decode cX0_nthOfThing 11 = .ok (.if_icmp .ge 30, 3) := by decide +kernel
theorem dX0_nthOfThing_14 : decode cX0_nthOfThing 14 = .ok (.aload_n 0, 1) := by decide +kernel
theorem dX0_nthOfThing_15 : decode cX0_nthOfThing 15 = .ok (.getfield 27, 3) := by decide +kernel
theorem dX0_nthOfThing_18 : decode cX0_nthOfThing 18 = .ok (.iload 4, 2) := by decide +kernel
theorem dX0_nthOfThing_20 : decode cX0_nthOfThing 20 = .ok (.iaload, 1) := by decide +kernel
theorem dX0_nthOfThing_21 : decode cX0_nthOfThing 21 = .ok (.iload_n 1, 1) := by decide +kernel
theorem dX0_nthOfThing_22 : decode cX0_nthOfThing 22 = .ok (.if_icmp .ne 13, 3) := by decide +kernel
theorem dX0_nthOfThing_25 : decode cX0_nthOfThing 25 = .ok (.iload_n 3, 1) := by decide +kernel
theorem dX0_nthOfThing_26 : decode cX0_nthOfThing 26 = .ok (.ifCond .ne 6, 3) := by decide +kernel
theorem dX0_nthOfThing_29 : decode cX0_nthOfThing 29 = .ok (.iload 4, 2) := by decide +kernel
theorem dX0_nthOfThing_31 : decode cX0_nthOfThing 31 = .ok (.ireturn, 1) := by decide +kernel
theorem dX0_nthOfThing_32 : decode cX0_nthOfThing 32 = .ok (.iinc 3 (-1), 3) := by decide +kernel
theorem dX0_nthOfThing_35 : decode cX0_nthOfThing 35 = .ok (.iinc 4 1, 3) := by decide +kernel
theorem dX0_nthOfThing_38 : decode cX0_nthOfThing 38 = .ok (.goto (-33), 3) := by decide +kernel
theorem dX0_nthOfThing_41 : decode cX0_nthOfThing 41 = .ok (.iconst (-1), 1) := by decide +kernel
theorem dX0_nthOfThing_42 : decode cX0_nthOfThing 42 = .ok (.ireturn, 1) := by decide +kernel
theorem dX0_quarterOfAsk_0 : decode cX0_quarterOfAsk 0 = .ok (.aload_n 0, 1) := by decide +kernel
theorem dX0_quarterOfAsk_1 : decode cX0_quarterOfAsk 1 = .ok (.getfield 15, 3) := by decide +kernel
theorem dX0_quarterOfAsk_4 : decode cX0_quarterOfAsk 4 = .ok (.iload_n 1, 1) := by decide +kernel
theorem dX0_quarterOfAsk_5 : decode cX0_quarterOfAsk 5 = .ok (.iaload, 1) := by decide +kernel
theorem dX0_quarterOfAsk_6 : decode cX0_quarterOfAsk 6 = .ok (.aload_n 0, 1) := by decide +kernel
theorem dX0_quarterOfAsk_7 : decode cX0_quarterOfAsk 7 = .ok (.getfield 18, 3) := by decide +kernel
theorem dX0_quarterOfAsk_10 : decode cX0_quarterOfAsk 10 = .ok (.iload_n 1, 1) := by decide +kernel
theorem dX0_quarterOfAsk_11 : decode cX0_quarterOfAsk 11 = .ok (.iaload, 1) := by decide +kernel
theorem dX0_quarterOfAsk_12 : decode cX0_quarterOfAsk 12 = .ok (.invokestatic 54, 3) := by decide +kernel
theorem dX0_quarterOfAsk_15 : decode cX0_quarterOfAsk 15 = .ok (.ireturn, 1) := by decide +kernel
theorem dX0_countIn_0 : decode cX0_countIn 0 = .ok (.iconst 0, 1) := by decide +kernel
theorem dX0_countIn_1 : decode cX0_countIn 1 = .ok (.istore_n 2, 1) := by decide +kernel
theorem dX0_countIn_2 : decode cX0_countIn 2 = .ok (.iconst 0, 1) := by decide +kernel
theorem dX0_countIn_3 : decode cX0_countIn 3 = .ok (.istore_n 3, 1) := by decide +kernel
theorem dX0_countIn_4 : decode cX0_countIn 4 = .ok (.iload_n 3, 1) := by decide +kernel
theorem dX0_countIn_5 : decode cX0_countIn 5 = .ok (.aload_n 0, 1) := by decide +kernel
theorem dX0_countIn_6 : decode cX0_countIn 6 = .ok (.getfield 36, 3) := by decide +kernel
theorem dX0_countIn_9 : decode cX0_countIn 9 = .ok (.if_icmp .ge 21, 3) := by decide +kernel
theorem dX0_countIn_12 : decode cX0_countIn 12 = .ok (.aload_n 0, 1) := by decide +kernel
theorem dX0_countIn_13 : decode cX0_countIn 13 = .ok (.iload_n 3, 1) := by decide +kernel
theorem dX0_countIn_14 : decode cX0_countIn 14 = .ok (.invokevirtual 58, 3) := by decide +kernel
theorem dX0_countIn_17 : decode cX0_countIn 17 = .ok (.iload_n 1, 1) := by decide +kernel
theorem dX0_countIn_18 : decode cX0_countIn 18 = .ok (.if_icmp .ne 6, 3) := by decide +kernel
theorem dX0_countIn_21 : decode cX0_countIn 21 = .ok (.iinc 2 1, 3) := by decide +kernel
theorem dX0_countIn_24 : decode cX0_countIn 24 = .ok (.iinc 3 1, 3) := by decide +kernel
theorem dX0_countIn_27 : decode cX0_countIn 27 = .ok (.goto (-23), 3) := by decide +kernel
theorem dX0_countIn_30 : decode cX0_countIn 30 = .ok (.iload_n 2, 1) := by decide +kernel
theorem dX0_countIn_31 : decode cX0_countIn 31 = .ok (.ireturn, 1) := by decide +kernel
theorem dX0_detail_0 : decode cX0_detail 0 = .ok (.iload_n 2, 1) := by decide +kernel
theorem dX0_detail_1 : decode cX0_detail 1 = .ok (.tableswitch 81 0 5 #[39, 46, 53, 60, 67, 74], 39) := by decide +kernel
theorem dX0_detail_40 : decode cX0_detail 40 = .ok (.aload_n 0, 1) := by decide +kernel
theorem dX0_detail_41 : decode cX0_detail 41 = .ok (.getfield 9, 3) := by decide +kernel
theorem dX0_detail_44 : decode cX0_detail 44 = .ok (.iload_n 1, 1) := by decide +kernel
theorem dX0_detail_45 : decode cX0_detail 45 = .ok (.iaload, 1) := by decide +kernel
theorem dX0_detail_46 : decode cX0_detail 46 = .ok (.ireturn, 1) := by decide +kernel
theorem dX0_detail_47 : decode cX0_detail 47 = .ok (.aload_n 0, 1) := by decide +kernel
theorem dX0_detail_48 : decode cX0_detail 48 = .ok (.getfield 15, 3) := by decide +kernel
theorem dX0_detail_51 : decode cX0_detail 51 = .ok (.iload_n 1, 1) := by decide +kernel
theorem dX0_detail_52 : decode cX0_detail 52 = .ok (.iaload, 1) := by decide +kernel
theorem dX0_detail_53 : decode cX0_detail 53 = .ok (.ireturn, 1) := by decide +kernel
theorem dX0_detail_54 : decode cX0_detail 54 = .ok (.aload_n 0, 1) := by decide +kernel
theorem dX0_detail_55 : decode cX0_detail 55 = .ok (.getfield 18, 3) := by decide +kernel
theorem dX0_detail_58 : decode cX0_detail 58 = .ok (.iload_n 1, 1) := by decide +kernel
theorem dX0_detail_59 : decode cX0_detail 59 = .ok (.iaload, 1) := by decide +kernel
theorem dX0_detail_60 : decode cX0_detail 60 = .ok (.ireturn, 1) := by decide +kernel
theorem dX0_detail_61 : decode cX0_detail 61 = .ok (.aload_n 0, 1) := by decide +kernel
theorem dX0_detail_62 : decode cX0_detail 62 = .ok (.getfield 21, 3) := by decide +kernel
theorem dX0_detail_65 : decode cX0_detail 65 = .ok (.iload_n 1, 1) := by decide +kernel
theorem dX0_detail_66 : decode cX0_detail 66 = .ok (.iaload, 1) := by decide +kernel
theorem dX0_detail_67 : decode cX0_detail 67 = .ok (.ireturn, 1) := by decide +kernel
theorem dX0_detail_68 : decode cX0_detail 68 = .ok (.aload_n 0, 1) := by decide +kernel
theorem dX0_detail_69 : decode cX0_detail 69 = .ok (.getfield 24, 3) := by decide +kernel
theorem dX0_detail_72 : decode cX0_detail 72 = .ok (.iload_n 1, 1) := by decide +kernel
theorem dX0_detail_73 : decode cX0_detail 73 = .ok (.iaload, 1) := by decide +kernel
theorem dX0_detail_74 : decode cX0_detail 74 = .ok (.ireturn, 1) := by decide +kernel
theorem dX0_detail_75 : decode cX0_detail 75 = .ok (.aload_n 0, 1) := by decide +kernel
theorem dX0_detail_76 : decode cX0_detail 76 = .ok (.getfield 27, 3) := by decide +kernel
theorem dX0_detail_79 : decode cX0_detail 79 = .ok (.iload_n 1, 1) := by decide +kernel
theorem dX0_detail_80 : decode cX0_detail 80 = .ok (.iaload, 1) := by decide +kernel
theorem dX0_detail_81 : decode cX0_detail 81 = .ok (.ireturn, 1) := by decide +kernel
theorem dX0_detail_82 : decode cX0_detail 82 = .ok (.aload_n 0, 1) := by decide +kernel
theorem dX0_detail_83 : decode cX0_detail 83 = .ok (.iload_n 1, 1) := by decide +kernel
theorem dX0_detail_84 : decode cX0_detail 84 = .ok (.invokevirtual 58, 3) := by decide +kernel
theorem dX0_detail_87 : decode cX0_detail 87 = .ok (.ireturn, 1) := by decide +kernel
theorem dX1_init_0 : decode cX1_init 0 = .ok (.aload_n 0, 1) := by decide +kernel
theorem dX1_init_1 : decode cX1_init 1 = .ok (.invokespecial 3, 3) := by decide +kernel
theorem dX1_init_4 : decode cX1_init 4 = .ok (.aload_n 0, 1) := by decide +kernel
theorem dX1_init_5 : decode cX1_init 5 = .ok (.bipush 6, 2) := by decide +kernel
theorem dX1_init_7 : decode cX1_init 7 = .ok (.newarray .int, 2) := by decide +kernel
theorem dX1_init_9 : decode cX1_init 9 = .ok (.putfield 9, 3) := by decide +kernel
theorem dX1_init_12 : decode cX1_init 12 = .ok (.aload_n 0, 1) := by decide +kernel
theorem dX1_init_13 : decode cX1_init 13 = .ok (.bipush 6, 2) := by decide +kernel
theorem dX1_init_15 : decode cX1_init 15 = .ok (.newarray .int, 2) := by decide +kernel
theorem dX1_init_17 : decode cX1_init 17 = .ok (.putfield 15, 3) := by decide +kernel
theorem dX1_init_20 : decode cX1_init 20 = .ok (.aload_n 0, 1) := by decide +kernel
theorem dX1_init_21 : decode cX1_init 21 = .ok (.bipush 6, 2) := by decide +kernel
theorem dX1_init_23 : decode cX1_init 23 = .ok (.newarray .int, 2) := by decide +kernel
theorem dX1_init_25 : decode cX1_init 25 = .ok (.putfield 18, 3) := by decide +kernel
theorem dX1_init_28 : decode cX1_init 28 = .ok (.aload_n 0, 1) := by decide +kernel
theorem dX1_init_29 : decode cX1_init 29 = .ok (.bipush 6, 2) := by decide +kernel
theorem dX1_init_31 : decode cX1_init 31 = .ok (.newarray .int, 2) := by decide +kernel
theorem dX1_init_33 : decode cX1_init 33 = .ok (.putfield 21, 3) := by decide +kernel
theorem dX1_init_36 : decode cX1_init 36 = .ok (.aload_n 0, 1) := by decide +kernel
theorem dX1_init_37 : decode cX1_init 37 = .ok (.bipush 6, 2) := by decide +kernel
theorem dX1_init_39 : decode cX1_init 39 = .ok (.newarray .int, 2) := by decide +kernel
theorem dX1_init_41 : decode cX1_init 41 = .ok (.putfield 24, 3) := by decide +kernel
theorem dX1_init_44 : decode cX1_init 44 = .ok (.aload_n 0, 1) := by decide +kernel
theorem dX1_init_45 : decode cX1_init 45 = .ok (.bipush 6, 2) := by decide +kernel
theorem dX1_init_47 : decode cX1_init 47 = .ok (.newarray .int, 2) := by decide +kernel
theorem dX1_init_49 : decode cX1_init 49 = .ok (.putfield 27, 3) := by decide +kernel
theorem dX1_init_52 : decode cX1_init 52 = .ok (.aload_n 0, 1) := by decide +kernel
theorem dX1_init_53 : decode cX1_init 53 = .ok (.bipush 6, 2) := by decide +kernel
theorem dX1_init_55 : decode cX1_init 55 = .ok (.newarray .int, 2) := by decide +kernel
theorem dX1_init_57 : decode cX1_init 57 = .ok (.putfield 30, 3) := by decide +kernel
theorem dX1_init_60 : decode cX1_init 60 = .ok (.return_, 1) := by decide +kernel
theorem dX1_begin_0 : decode cX1_begin 0 = .ok (.aload_n 0, 1) := by decide +kernel
theorem dX1_begin_1 : decode cX1_begin 1 = .ok (.iconst 0, 1) := by decide +kernel
theorem dX1_begin_2 : decode cX1_begin 2 = .ok (.putfield 33, 3) := by decide +kernel
theorem dX1_begin_5 : decode cX1_begin 5 = .ok (.aload_n 0, 1) := by decide +kernel
theorem dX1_begin_6 : decode cX1_begin 6 = .ok (.iload_n 1, 1) := by decide +kernel
theorem dX1_begin_7 : decode cX1_begin 7 = .ok (.putfield 37, 3) := by decide +kernel
theorem dX1_begin_10 : decode cX1_begin 10 = .ok (.return_, 1) := by decide +kernel
theorem dX1_take_0 : decode cX1_take 0 = .ok (.aload_n 0, 1) := by decide +kernel
theorem dX1_take_1 : decode cX1_take 1 = .ok (.getfield 33, 3) := by decide +kernel
theorem dX1_take_4 : decode cX1_take 4 = .ok (.bipush 6, 2) := by decide +kernel
theorem dX1_take_6 : decode cX1_take 6 = .ok (.if_icmp .ge 65, 3) := by decide +kernel
theorem dX1_take_9 : decode cX1_take 9 = .ok (.aload_n 0, 1) := by decide +kernel
theorem dX1_take_10 : decode cX1_take 10 = .ok (.getfield 9, 3) := by decide +kernel
theorem dX1_take_13 : decode cX1_take 13 = .ok (.aload_n 0, 1) := by decide +kernel
theorem dX1_take_14 : decode cX1_take 14 = .ok (.getfield 33, 3) := by decide +kernel
theorem dX1_take_17 : decode cX1_take 17 = .ok (.iload_n 1, 1) := by decide +kernel
theorem dX1_take_18 : decode cX1_take 18 = .ok (.iastore, 1) := by decide +kernel
theorem dX1_take_19 : decode cX1_take 19 = .ok (.aload_n 0, 1) := by decide +kernel
theorem dX1_take_20 : decode cX1_take 20 = .ok (.getfield 15, 3) := by decide +kernel
theorem dX1_take_23 : decode cX1_take 23 = .ok (.aload_n 0, 1) := by decide +kernel
theorem dX1_take_24 : decode cX1_take 24 = .ok (.getfield 33, 3) := by decide +kernel
theorem dX1_take_27 : decode cX1_take 27 = .ok (.iload_n 2, 1) := by decide +kernel
theorem dX1_take_28 : decode cX1_take 28 = .ok (.iastore, 1) := by decide +kernel
theorem dX1_take_29 : decode cX1_take 29 = .ok (.aload_n 0, 1) := by decide +kernel
theorem dX1_take_30 : decode cX1_take 30 = .ok (.getfield 18, 3) := by decide +kernel
theorem dX1_take_33 : decode cX1_take 33 = .ok (.aload_n 0, 1) := by decide +kernel
theorem dX1_take_34 : decode cX1_take 34 = .ok (.getfield 33, 3) := by decide +kernel
theorem dX1_take_37 : decode cX1_take 37 = .ok (.iload_n 3, 1) := by decide +kernel
theorem dX1_take_38 : decode cX1_take 38 = .ok (.iastore, 1) := by decide +kernel
theorem dX1_take_39 : decode cX1_take 39 = .ok (.aload_n 0, 1) := by decide +kernel
theorem dX1_take_40 : decode cX1_take 40 = .ok (.getfield 21, 3) := by decide +kernel
theorem dX1_take_43 : decode cX1_take 43 = .ok (.aload_n 0, 1) := by decide +kernel
theorem dX1_take_44 : decode cX1_take 44 = .ok (.getfield 33, 3) := by decide +kernel
theorem dX1_take_47 : decode cX1_take 47 = .ok (.iload 4, 2) := by decide +kernel
theorem dX1_take_49 : decode cX1_take 49 = .ok (.iastore, 1) := by decide +kernel
theorem dX1_take_50 : decode cX1_take 50 = .ok (.aload_n 0, 1) := by decide +kernel
theorem dX1_take_51 : decode cX1_take 51 = .ok (.getfield 24, 3) := by decide +kernel
theorem dX1_take_54 : decode cX1_take 54 = .ok (.aload_n 0, 1) := by decide +kernel
theorem dX1_take_55 : decode cX1_take 55 = .ok (.getfield 33, 3) := by decide +kernel
theorem dX1_take_58 : decode cX1_take 58 = .ok (.iload 5, 2) := by decide +kernel
theorem dX1_take_60 : decode cX1_take 60 = .ok (.iastore, 1) := by decide +kernel
theorem dX1_take_61 : decode cX1_take 61 = .ok (.aload_n 0, 1) := by decide +kernel
theorem dX1_take_62 : decode cX1_take 62 = .ok (.dup, 1) := by decide +kernel
theorem dX1_take_63 : decode cX1_take 63 = .ok (.getfield 33, 3) := by decide +kernel
theorem dX1_take_66 : decode cX1_take 66 = .ok (.iconst 1, 1) := by decide +kernel
theorem dX1_take_67 : decode cX1_take 67 = .ok (.iadd, 1) := by decide +kernel
theorem dX1_take_68 : decode cX1_take 68 = .ok (.putfield 33, 3) := by decide +kernel
theorem dX1_take_71 : decode cX1_take 71 = .ok (.return_, 1) := by decide +kernel
theorem dX1_findOrder_0 : decode cX1_findOrder 0 = .ok (.aload_n 0, 1) := by decide +kernel
theorem dX1_findOrder_1 : decode cX1_findOrder 1 = .ok (.aload_n 0, 1) := by decide +kernel
theorem dX1_findOrder_2 : decode cX1_findOrder 2 = .ok (.getfield 33, 3) := by decide +kernel
theorem dX1_findOrder_5 : decode cX1_findOrder 5 = .ok (.iconst 1, 1) := by decide +kernel
theorem dX1_findOrder_6 : decode cX1_findOrder 6 = .ok (.iadd, 1) := by decide +kernel
theorem dX1_findOrder_7 : decode cX1_findOrder 7 = .ok (.putfield 40, 3) := by decide +kernel
theorem dX1_findOrder_10 : decode cX1_findOrder 10 = .ok (.aload_n 0, 1) := by decide +kernel
theorem dX1_findOrder_11 : decode cX1_findOrder 11 = .ok (.iconst 0, 1) := by decide +kernel
theorem dX1_findOrder_12 : decode cX1_findOrder 12 = .ok (.putfield 43, 3) := by decide +kernel
theorem dX1_findOrder_15 : decode cX1_findOrder 15 = .ok (.aload_n 0, 1) := by decide +kernel
theorem dX1_findOrder_16 : decode cX1_findOrder 16 = .ok (.iconst 0, 1) := by decide +kernel
theorem dX1_findOrder_17 : decode cX1_findOrder 17 = .ok (.iconst 0, 1) := by decide +kernel
theorem dX1_findOrder_18 : decode cX1_findOrder 18 = .ok (.iload_n 1, 1) := by decide +kernel
theorem dX1_findOrder_19 : decode cX1_findOrder 19 = .ok (.iload_n 2, 1) := by decide +kernel
theorem dX1_findOrder_20 : decode cX1_findOrder 20 = .ok (.iconst 0, 1) := by decide +kernel
theorem dX1_findOrder_21 : decode cX1_findOrder 21 = .ok (.iconst 0, 1) := by decide +kernel
theorem dX1_findOrder_22 : decode cX1_findOrder 22 = .ok (.invokevirtual 46, 3) := by decide +kernel
theorem dX1_findOrder_25 : decode cX1_findOrder 25 = .ok (.return_, 1) := by decide +kernel
theorem dX1_goOn_0 : decode cX1_goOn 0 = .ok (.iload 6, 2) := by decide +kernel
theorem dX1_goOn_2 : decode cX1_goOn 2 = .ok (.aload_n 0, 1) := by decide +kernel
theorem dX1_goOn_3 : decode cX1_goOn 3 = .ok (.getfield 40, 3) := by decide +kernel
theorem dX1_goOn_6 : decode cX1_goOn 6 = .ok (.if_icmp .gt 21, 3) := by decide +kernel
theorem dX1_goOn_9 : decode cX1_goOn 9 = .ok (.iload 6, 2) := by decide +kernel
theorem dX1_goOn_11 : decode cX1_goOn 11 = .ok (.aload_n 0, 1) := by decide +kernel
theorem dX1_goOn_12 : decode cX1_goOn 12 = .ok (.getfield 40, 3) := by decide +kernel
theorem dX1_goOn_15 : decode cX1_goOn 15 = .ok (.if_icmp .ne 13, 3) := by decide +kernel
theorem dX1_goOn_18 : decode cX1_goOn 18 = .ok (.iload 5, 2) := by decide +kernel
theorem dX1_goOn_20 : decode cX1_goOn 20 = .ok (.aload_n 0, 1) := by decide +kernel
theorem dX1_goOn_21 : decode cX1_goOn 21 = .ok (.getfield 43, 3) := by decide +kernel
theorem dX1_goOn_24 : decode cX1_goOn 24 = .ok (.if_icmp .lt 4, 3) := by decide +kernel
theorem dX1_goOn_27 : decode cX1_goOn 27 = .ok (.return_, 1) := by decide +kernel
theorem dX1_goOn_28 : decode cX1_goOn 28 = .ok (.iload_n 1, 1) := by decide +kernel
theorem dX1_goOn_29 : decode cX1_goOn 29 = .ok (.aload_n 0, 1) := by decide +kernel
theorem dX1_goOn_30 : decode cX1_goOn 30 = .ok (.getfield 33, 3) := by decide +kernel
theorem dX1_goOn_33 : decode cX1_goOn 33 = .ok (.if_icmp .lt 12, 3) := by decide +kernel
theorem dX1_goOn_36 : decode cX1_goOn 36 = .ok (.aload_n 0, 1) := by decide +kernel
theorem dX1_goOn_37 : decode cX1_goOn 37 = .ok (.iload 5, 2) := by decide +kernel
theorem dX1_goOn_39 : decode cX1_goOn 39 = .ok (.iload 6, 2) := by decide +kernel
theorem dX1_goOn_41 : decode cX1_goOn 41 = .ok (.invokevirtual 50, 3) := by decide +kernel
theorem dX1_goOn_44 : decode cX1_goOn 44 = .ok (.return_, 1) := by decide +kernel
theorem dX1_goOn_45 : decode cX1_goOn 45 = .ok (.iconst 0, 1) := by decide +kernel
theorem dX1_goOn_46 : decode cX1_goOn 46 = .ok (.istore 7, 2) := by decide +kernel
theorem dX1_goOn_48 : decode cX1_goOn 48 = .ok (.iload 7, 2) := by decide +kernel
theorem dX1_goOn_50 : decode cX1_goOn 50 = .ok (.aload_n 0, 1) := by decide +kernel
theorem dX1_goOn_51 : decode cX1_goOn 51 = .ok (.getfield 33, 3) := by decide +kernel
theorem dX1_goOn_54 : decode cX1_goOn 54 = .ok (.if_icmp .ge 126, 3) := by decide +kernel
theorem dX1_goOn_57 : decode cX1_goOn 57 = .ok (.iload_n 2, 1) := by decide +kernel
theorem dX1_goOn_58 : decode cX1_goOn 58 = .ok (.iload 7, 2) := by decide +kernel
theorem dX1_goOn_60 : decode cX1_goOn 60 = .ok (.invokestatic 54, 3) := by decide +kernel
theorem dX1_goOn_63 : decode cX1_goOn 63 = .ok (.ifCond .ne 111, 3) := by decide +kernel
theorem dX1_goOn_66 : decode cX1_goOn 66 = .ok (.iload 5, 2) := by decide +kernel
theorem dX1_goOn_68 : decode cX1_goOn 68 = .ok (.iload_n 3, 1) := by decide +kernel
theorem dX1_goOn_69 : decode cX1_goOn 69 = .ok (.iload 4, 2) := by decide +kernel
theorem dX1_goOn_71 : decode cX1_goOn 71 = .ok (.aload_n 0, 1) := by decide +kernel
theorem dX1_goOn_72 : decode cX1_goOn 72 = .ok (.getfield 15, 3) := by decide +kernel
theorem dX1_goOn_75 : decode cX1_goOn 75 = .ok (.iload 7, 2) := by decide +kernel
theorem dX1_goOn_77 : decode cX1_goOn 77 = .ok (.iaload, 1) := by decide +kernel
theorem dX1_goOn_78 : decode cX1_goOn 78 = .ok (.aload_n 0, 1) := by decide +kernel
theorem dX1_goOn_79 : decode cX1_goOn 79 = .ok (.getfield 18, 3) := by decide +kernel
theorem dX1_goOn_82 : decode cX1_goOn 82 = .ok (.iload 7, 2) := by decide +kernel
theorem dX1_goOn_84 : decode cX1_goOn 84 = .ok (.iaload, 1) := by decide +kernel
theorem dX1_goOn_85 : decode cX1_goOn 85 = .ok (.invokestatic 58, 3) := by decide +kernel
theorem dX1_goOn_88 : decode cX1_goOn 88 = .ok (.bipush 8, 2) := by decide +kernel
theorem dX1_goOn_90 : decode cX1_goOn 90 = .ok (.idiv, 1) := by decide +kernel
theorem dX1_goOn_91 : decode cX1_goOn 91 = .ok (.iadd, 1) := by decide +kernel
theorem dX1_goOn_92 : decode cX1_goOn 92 = .ok (.aload_n 0, 1) := by decide +kernel
theorem dX1_goOn_93 : decode cX1_goOn 93 = .ok (.getfield 21, 3) := by decide +kernel
theorem dX1_goOn_96 : decode cX1_goOn 96 = .ok (.iload 7, 2) := by decide +kernel
theorem dX1_goOn_98 : decode cX1_goOn 98 = .ok (.iaload, 1) := by decide +kernel
theorem dX1_goOn_99 : decode cX1_goOn 99 = .ok (.iadd, 1) := by decide +kernel
theorem dX1_goOn_100 : decode cX1_goOn 100 = .ok (.istore 8, 2) := by decide +kernel
theorem dX1_goOn_102 : decode cX1_goOn 102 = .ok (.aload_n 0, 1) := by decide +kernel
theorem dX1_goOn_103 : decode cX1_goOn 103 = .ok (.getfield 37, 3) := by decide +kernel
theorem dX1_goOn_106 : decode cX1_goOn 106 = .ok (.iload 8, 2) := by decide +kernel
theorem dX1_goOn_108 : decode cX1_goOn 108 = .ok (.iconst 1, 1) := by decide +kernel
theorem dX1_goOn_109 : decode cX1_goOn 109 = .ok (.isub, 1) := by decide +kernel
theorem dX1_goOn_110 : decode cX1_goOn 110 = .ok (.bipush 8, 2) := by decide +kernel
theorem dX1_goOn_112 : decode cX1_goOn 112 = .ok (.idiv, 1) := by decide +kernel
theorem dX1_goOn_113 : decode cX1_goOn 113 = .ok (.iadd, 1) := by decide +kernel
theorem dX1_goOn_114 : decode cX1_goOn 114 = .ok (.istore 9, 2) := by decide +kernel
theorem dX1_goOn_116 : decode cX1_goOn 116 = .ok (.aload_n 0, 1) := by decide +kernel
theorem dX1_goOn_117 : decode cX1_goOn 117 = .ok (.getfield 27, 3) := by decide +kernel
theorem dX1_goOn_120 : decode cX1_goOn 120 = .ok (.iload_n 1, 1) := by decide +kernel
theorem dX1_goOn_121 : decode cX1_goOn 121 = .ok (.iload 7, 2) := by decide +kernel
theorem dX1_goOn_123 : decode cX1_goOn 123 = .ok (.iastore, 1) := by decide +kernel
theorem dX1_goOn_124 : decode cX1_goOn 124 = .ok (.aload_n 0, 1) := by decide +kernel
theorem dX1_goOn_125 : decode cX1_goOn 125 = .ok (.iload_n 1, 1) := by decide +kernel
theorem dX1_goOn_126 : decode cX1_goOn 126 = .ok (.iconst 1, 1) := by decide +kernel
theorem dX1_goOn_127 : decode cX1_goOn 127 = .ok (.iadd, 1) := by decide +kernel
theorem dX1_goOn_128 : decode cX1_goOn 128 = .ok (.iload_n 2, 1) := by decide +kernel
theorem dX1_goOn_129 : decode cX1_goOn 129 = .ok (.iconst 1, 1) := by decide +kernel
theorem dX1_goOn_130 : decode cX1_goOn 130 = .ok (.iload 7, 2) := by decide +kernel
theorem dX1_goOn_132 : decode cX1_goOn 132 = .ok (.ishl, 1) := by decide +kernel
theorem dX1_goOn_133 : decode cX1_goOn 133 = .ok (.ior, 1) := by decide +kernel
theorem dX1_goOn_134 : decode cX1_goOn 134 = .ok (.aload_n 0, 1) := by decide +kernel
theorem dX1_goOn_135 : decode cX1_goOn 135 = .ok (.getfield 15, 3) := by decide +kernel
theorem dX1_goOn_138 : decode cX1_goOn 138 = .ok (.iload 7, 2) := by decide +kernel
theorem dX1_goOn_140 : decode cX1_goOn 140 = .ok (.iaload, 1) := by decide +kernel
theorem dX1_goOn_141 : decode cX1_goOn 141 = .ok (.aload_n 0, 1) := by decide +kernel
theorem dX1_goOn_142 : decode cX1_goOn 142 = .ok (.getfield 18, 3) := by decide +kernel
theorem dX1_goOn_145 : decode cX1_goOn 145 = .ok (.iload 7, 2) := by decide +kernel
theorem dX1_goOn_147 : decode cX1_goOn 147 = .ok (.iaload, 1) := by decide +kernel
theorem dX1_goOn_148 : decode cX1_goOn 148 = .ok (.iload 8, 2) := by decide +kernel
theorem dX1_goOn_150 : decode cX1_goOn 150 = .ok (.iload 9, 2) := by decide +kernel
theorem dX1_goOn_152 : decode cX1_goOn 152 = .ok (.aload_n 0, 1) := by decide +kernel
theorem dX1_goOn_153 : decode cX1_goOn 153 = .ok (.getfield 24, 3) := by decide +kernel
theorem dX1_goOn_156 : decode cX1_goOn 156 = .ok (.iload 7, 2) := by decide +kernel
theorem dX1_goOn_158 : decode cX1_goOn 158 = .ok (.iaload, 1) := by decide +kernel
theorem dX1_goOn_159 : decode cX1_goOn 159 = .ok (.if_icmp .le 10, 3) := by decide +kernel
theorem dX1_goOn_162 : decode cX1_goOn 162 = .ok (.iload 6, 2) := by decide +kernel
theorem dX1_goOn_164 : decode cX1_goOn 164 = .ok (.iconst 1, 1) := by decide +kernel
theorem dX1_goOn_165 : decode cX1_goOn 165 = .ok (.iadd, 1) := by decide +kernel
theorem dX1_goOn_166 : decode cX1_goOn 166 = .ok (.goto 5, 3) := by decide +kernel
theorem dX1_goOn_169 : decode cX1_goOn 169 = .ok (.iload 6, 2) := by decide +kernel
theorem dX1_goOn_171 : decode cX1_goOn 171 = .ok (.invokevirtual 46, 3) := by decide +kernel
theorem dX1_goOn_174 : decode cX1_goOn 174 = .ok (.iinc 7 1, 3) := by decide +kernel
theorem dX1_goOn_177 : decode cX1_goOn 177 = .ok (.goto (-129), 3) := by decide +kernel
theorem dX1_goOn_180 : decode cX1_goOn 180 = .ok (.return_, 1) := by decide +kernel
theorem dX1_keepTried_0 : decode cX1_keepTried 0 = .ok (.aload_n 0, 1) := by decide +kernel
theorem dX1_keepTried_1 : decode cX1_keepTried 1 = .ok (.iload_n 2, 1) := by decide +kernel
theorem dX1_keepTried_2 : decode cX1_keepTried 2 = .ok (.putfield 40, 3) := by decide +kernel
theorem dX1_keepTried_5 : decode cX1_keepTried 5 = .ok (.aload_n 0, 1) := by decide +kernel
theorem dX1_keepTried_6 : decode cX1_keepTried 6 = .ok (.iload_n 1, 1) := by decide +kernel
theorem dX1_keepTried_7 : decode cX1_keepTried 7 = .ok (.putfield 43, 3) := by decide +kernel
theorem dX1_keepTried_10 : decode cX1_keepTried 10 = .ok (.iconst 0, 1) := by decide +kernel
theorem dX1_keepTried_11 : decode cX1_keepTried 11 = .ok (.istore_n 3, 1) := by decide +kernel
theorem dX1_keepTried_12 : decode cX1_keepTried 12 = .ok (.iload_n 3, 1) := by decide +kernel
theorem dX1_keepTried_13 : decode cX1_keepTried 13 = .ok (.aload_n 0, 1) := by decide +kernel
theorem dX1_keepTried_14 : decode cX1_keepTried 14 = .ok (.getfield 33, 3) := by decide +kernel
theorem dX1_keepTried_17 : decode cX1_keepTried 17 = .ok (.if_icmp .ge 21, 3) := by decide +kernel
theorem dX1_keepTried_20 : decode cX1_keepTried 20 = .ok (.aload_n 0, 1) := by decide +kernel
theorem dX1_keepTried_21 : decode cX1_keepTried 21 = .ok (.getfield 30, 3) := by decide +kernel
theorem dX1_keepTried_24 : decode cX1_keepTried 24 = .ok (.iload_n 3, 1) := by decide +kernel
theorem dX1_keepTried_25 : decode cX1_keepTried 25 = .ok (.aload_n 0, 1) := by decide +kernel
theorem dX1_keepTried_26 : decode cX1_keepTried 26 = .ok (.getfield 27, 3) := by decide +kernel
theorem dX1_keepTried_29 : decode cX1_keepTried 29 = .ok (.iload_n 3, 1) := by decide +kernel
theorem dX1_keepTried_30 : decode cX1_keepTried 30 = .ok (.iaload, 1) := by decide +kernel
theorem dX1_keepTried_31 : decode cX1_keepTried 31 = .ok (.iastore, 1) := by decide +kernel
theorem dX1_keepTried_32 : decode cX1_keepTried 32 = .ok (.iinc 3 1, 3) := by decide +kernel
theorem dX1_keepTried_35 : decode cX1_keepTried 35 = .ok (.goto (-23), 3) := by decide +kernel
theorem dX1_keepTried_38 : decode cX1_keepTried 38 = .ok (.return_, 1) := by decide +kernel
theorem dX1_detail_0 : decode cX1_detail 0 = .ok (.iload_n 1, 1) := by decide +kernel
theorem dX1_detail_1 : decode cX1_detail 1 = .ok (.lookupswitch 37 #[(0, 27), (1, 32)], 27) := by decide +kernel
theorem dX1_detail_28 : decode cX1_detail 28 = .ok (.aload_n 0, 1) := by decide +kernel
theorem dX1_detail_29 : decode cX1_detail 29 = .ok (.getfield 40, 3) := by decide +kernel
theorem dX1_detail_32 : decode cX1_detail 32 = .ok (.ireturn, 1) := by decide +kernel
theorem dX1_detail_33 : decode cX1_detail 33 = .ok (.aload_n 0, 1) := by decide +kernel
theorem dX1_detail_34 : decode cX1_detail 34 = .ok (.getfield 43, 3) := by decide +kernel
theorem dX1_detail_37 : decode cX1_detail 37 = .ok (.ireturn, 1) := by decide +kernel
theorem dX1_detail_38 : decode cX1_detail 38 = .ok (.iload_n 1, 1) := by decide +kernel
theorem dX1_detail_39 : decode cX1_detail 39 = .ok (.iconst 2, 1) := by decide +kernel
theorem dX1_detail_40 : decode cX1_detail 40 = .ok (.isub, 1) := by decide +kernel
theorem dX1_detail_41 : decode cX1_detail 41 = .ok (.iconst 0, 1) := by decide +kernel
theorem dX1_detail_42 : decode cX1_detail 42 = .ok (.aload_n 0, 1) := by decide +kernel
theorem dX1_detail_43 : decode cX1_detail 43 = .ok (.getfield 33, 3) := by decide +kernel
theorem dX1_detail_46 : decode cX1_detail 46 = .ok (.iconst 1, 1) := by decide +kernel
theorem dX1_detail_47 : decode cX1_detail 47 = .ok (.isub, 1) := by decide +kernel
theorem dX1_detail_48 : decode cX1_detail 48 = .ok (.invokestatic 62, 3) := by decide +kernel
theorem dX1_detail_51 : decode cX1_detail 51 = .ok (.ifCond .eq 19, 3) := by decide +kernel
theorem dX1_detail_54 : decode cX1_detail 54 = .ok (.aload_n 0, 1) := by decide +kernel
theorem dX1_detail_55 : decode cX1_detail 55 = .ok (.getfield 9, 3) := by decide +kernel
theorem dX1_detail_58 : decode cX1_detail 58 = .ok (.aload_n 0, 1) := by decide +kernel
theorem dX1_detail_59 : decode cX1_detail 59 = .ok (.getfield 30, 3) := by decide +kernel
theorem dX1_detail_62 : decode cX1_detail 62 = .ok (.iload_n 1, 1) := by decide +kernel
theorem dX1_detail_63 : decode cX1_detail 63 = .ok (.iconst 2, 1) := by decide +kernel
theorem dX1_detail_64 : decode cX1_detail 64 = .ok (.isub, 1) := by decide +kernel
theorem dX1_detail_65 : decode cX1_detail 65 = .ok (.iaload, 1) := by decide +kernel
theorem dX1_detail_66 : decode cX1_detail 66 = .ok (.iaload, 1) := by decide +kernel
theorem dX1_detail_67 : decode cX1_detail 67 = .ok (.goto 4, 3) := by decide +kernel
theorem dX1_detail_70 : decode cX1_detail 70 = .ok (.iconst (-1), 1) := by decide +kernel
theorem dX1_detail_71 : decode cX1_detail 71 = .ok (.ireturn, 1) := by decide +kernel
theorem dX2_init_0 : decode cX2_init 0 = .ok (.aload_n 0, 1) := by decide +kernel
theorem dX2_init_1 : decode cX2_init 1 = .ok (.invokespecial 3, 3) := by decide +kernel
theorem dX2_init_4 : decode cX2_init 4 = .ok (.aload_n 0, 1) := by decide +kernel
theorem dX2_init_5 : decode cX2_init 5 = .ok (.bipush 12, 2) := by decide +kernel
theorem dX2_init_7 : decode cX2_init 7 = .ok (.newarray .int, 2) := by decide +kernel
theorem dX2_init_9 : decode cX2_init 9 = .ok (.putfield 11, 3) := by decide +kernel
theorem dX2_init_12 : decode cX2_init 12 = .ok (.aload_n 0, 1) := by decide +kernel
theorem dX2_init_13 : decode cX2_init 13 = .ok (.bipush 12, 2) := by decide +kernel
theorem dX2_init_15 : decode cX2_init 15 = .ok (.newarray .int, 2) := by decide +kernel
theorem dX2_init_17 : decode cX2_init 17 = .ok (.putfield 15, 3) := by decide +kernel
theorem dX2_init_20 : decode cX2_init 20 = .ok (.aload_n 0, 1) := by decide +kernel
theorem dX2_init_21 : decode cX2_init 21 = .ok (.bipush 12, 2) := by decide +kernel
theorem dX2_init_23 : decode cX2_init 23 = .ok (.newarray .int, 2) := by decide +kernel
theorem dX2_init_25 : decode cX2_init 25 = .ok (.putfield 18, 3) := by decide +kernel
theorem dX2_init_28 : decode cX2_init 28 = .ok (.aload_n 0, 1) := by decide +kernel
theorem dX2_init_29 : decode cX2_init 29 = .ok (.bipush 12, 2) := by decide +kernel
theorem dX2_init_31 : decode cX2_init 31 = .ok (.newarray .int, 2) := by decide +kernel
theorem dX2_init_33 : decode cX2_init 33 = .ok (.putfield 21, 3) := by decide +kernel
theorem dX2_init_36 : decode cX2_init 36 = .ok (.aload_n 0, 1) := by decide +kernel
theorem dX2_init_37 : decode cX2_init 37 = .ok (.iconst 0, 1) := by decide +kernel
theorem dX2_init_38 : decode cX2_init 38 = .ok (.putfield 24, 3) := by decide +kernel
theorem dX2_init_41 : decode cX2_init 41 = .ok (.return_, 1) := by decide +kernel
theorem dX2_wrongPlace_0 : decode cX2_wrongPlace 0 = .ok (.iconst 0, 1) := by decide +kernel
theorem dX2_wrongPlace_1 : decode cX2_wrongPlace 1 = .ok (.istore_n 2, 1) := by decide +kernel
theorem dX2_wrongPlace_2 : decode cX2_wrongPlace 2 = .ok (.iload_n 2, 1) := by decide +kernel
theorem dX2_wrongPlace_3 : decode cX2_wrongPlace 3 = .ok (.aload_n 1, 1) := by decide +kernel
theorem dX2_wrongPlace_4 : decode cX2_wrongPlace 4 = .ok (.getfield 28, 3) := by decide +kernel
theorem dX2_wrongPlace_7 : decode cX2_wrongPlace 7 = .ok (.if_icmp .ge 28, 3) := by decide +kernel
theorem dX2_wrongPlace_10 : decode cX2_wrongPlace 10 = .ok (.iload_n 2, 1) := by decide +kernel
theorem dX2_wrongPlace_11 : decode cX2_wrongPlace 11 = .ok (.bipush 60, 2) := by decide +kernel
theorem dX2_wrongPlace_13 : decode cX2_wrongPlace 13 = .ok (.if_icmp .ge 14, 3) := by decide +kernel
theorem dX2_wrongPlace_16 : decode cX2_wrongPlace 16 = .ok (.aload_n 1, 1) := by decide +kernel
theorem dX2_wrongPlace_17 : decode cX2_wrongPlace 17 = .ok (.getfield 33, 3) := by decide +kernel
theorem dX2_wrongPlace_20 : decode cX2_wrongPlace 20 = .ok (.iload_n 2, 1) := by decide +kernel
theorem dX2_wrongPlace_21 : decode cX2_wrongPlace 21 = .ok (.invokestatic 36, 3) := by decide +kernel
theorem dX2_wrongPlace_24 : decode cX2_wrongPlace 24 = .ok (.ifCond .ne 5, 3) := by decide +kernel
theorem dX2_wrongPlace_27 : decode cX2_wrongPlace 27 = .ok (.iload_n 2, 1) := by decide +kernel
theorem dX2_wrongPlace_28 : decode cX2_wrongPlace 28 = .ok (.ireturn, 1) := by decide +kernel
theorem dX2_wrongPlace_29 : decode cX2_wrongPlace 29 = .ok (.iinc 2 1, 3) := by decide +kernel
theorem dX2_wrongPlace_32 : decode cX2_wrongPlace 32 = .ok (.goto (-30), 3) := by decide +kernel
theorem dX2_wrongPlace_35 : decode cX2_wrongPlace 35 = .ok (.aload_n 1, 1) := by decide +kernel
theorem dX2_wrongPlace_36 : decode cX2_wrongPlace 36 = .ok (.getfield 28, 3) := by decide +kernel
theorem dX2_wrongPlace_39 : decode cX2_wrongPlace 39 = .ok (.iconst 5, 1) := by decide +kernel
theorem dX2_wrongPlace_40 : decode cX2_wrongPlace 40 = .ok (.irem, 1) := by decide +kernel
theorem dX2_wrongPlace_41 : decode cX2_wrongPlace 41 = .ok (.ifCond .ne 7, 3) := by decide +kernel
theorem dX2_wrongPlace_44 : decode cX2_wrongPlace 44 = .ok (.iconst (-1), 1) := by decide +kernel
theorem dX2_wrongPlace_45 : decode cX2_wrongPlace 45 = .ok (.goto 7, 3) := by decide +kernel
theorem dX2_wrongPlace_48 : decode cX2_wrongPlace 48 = .ok (.aload_n 1, 1) := by decide +kernel
theorem dX2_wrongPlace_49 : decode cX2_wrongPlace 49 = .ok (.getfield 28, 3) := by decide +kernel
theorem dX2_wrongPlace_52 : decode cX2_wrongPlace 52 = .ok (.ireturn, 1) := by decide +kernel
theorem dX2_canStand_0 : decode cX2_canStand 0 = .ok (.iload_n 1, 1) := by decide +kernel
theorem dX2_canStand_1 : decode cX2_canStand 1 = .ok (.iconst 5, 1) := by decide +kernel
theorem dX2_canStand_2 : decode cX2_canStand 2 = .ok (.irem, 1) := by decide +kernel
theorem dX2_canStand_3 : decode cX2_canStand 3 = .ok (.istore_n 2, 1) := by decide +kernel
theorem dX2_canStand_4 : decode cX2_canStand 4 = .ok (.iload_n 1, 1) := by decide +kernel
theorem dX2_canStand_5 : decode cX2_canStand 5 = .ok (.iload_n 2, 1) := by decide +kernel
theorem dX2_canStand_6 : decode cX2_canStand 6 = .ok (.isub, 1) := by decide +kernel
theorem dX2_canStand_7 : decode cX2_canStand 7 = .ok (.istore_n 3, 1) := by decide +kernel
theorem dX2_canStand_8 : decode cX2_canStand 8 = .ok (.aload_n 0, 1) := by decide +kernel
theorem dX2_canStand_9 : decode cX2_canStand 9 = .ok (.iload_n 1, 1) := by decide +kernel
theorem dX2_canStand_10 : decode cX2_canStand 10 = .ok (.iaload, 1) := by decide +kernel
theorem dX2_canStand_11 : decode cX2_canStand 11 = .ok (.bipush 48, 2) := by decide +kernel
theorem dX2_canStand_13 : decode cX2_canStand 13 = .ok (.isub, 1) := by decide +kernel
theorem dX2_canStand_14 : decode cX2_canStand 14 = .ok (.istore 4, 2) := by decide +kernel
theorem dX2_canStand_16 : decode cX2_canStand 16 = .ok (.aload_n 0, 1) := by decide +kernel
theorem dX2_canStand_17 : decode cX2_canStand 17 = .ok (.iload_n 3, 1) := by decide +kernel
theorem dX2_canStand_18 : decode cX2_canStand 18 = .ok (.iaload, 1) := by decide +kernel
theorem dX2_canStand_19 : decode cX2_canStand 19 = .ok (.bipush 97, 2) := by decide +kernel
theorem dX2_canStand_21 : decode cX2_canStand 21 = .ok (.if_icmp .ne 7, 3) := by decide +kernel
theorem dX2_canStand_24 : decode cX2_canStand 24 = .ok (.iconst 1, 1) := by decide +kernel
theorem dX2_canStand_25 : decode cX2_canStand 25 = .ok (.goto 4, 3) := by decide +kernel
theorem dX2_canStand_28 : decode cX2_canStand 28 = .ok (.iconst 0, 1) := by decide +kernel
theorem dX2_canStand_29 : decode cX2_canStand 29 = .ok (.istore 5, 2) := by decide +kernel
theorem dX2_canStand_31 : decode cX2_canStand 31 = .ok (.iload_n 2, 1) := by decide +kernel
theorem dX2_canStand_32 : decode cX2_canStand 32 = .ok (.tableswitch 128 0 3 #[32, 51, 68, 85], 32) := by decide +kernel
theorem dX2_canStand_64 : decode cX2_canStand 64 = .ok (.iload 5, 2) := by decide +kernel
theorem dX2_canStand_66 : decode cX2_canStand 66 = .ok (.ifCond .ne 11, 3) := by decide +kernel
theorem dX2_canStand_69 : decode cX2_canStand 69 = .ok (.aload_n 0, 1) := by decide +kernel
theorem dX2_canStand_70 : decode cX2_canStand 70 = .ok (.iload_n 3, 1) := by decide +kernel
theorem dX2_canStand_71 : decode cX2_canStand 71 = .ok (.iaload, 1) := by decide +kernel
theorem dX2_canStand_72 : decode cX2_canStand 72 = .ok (.bipush 115, 2) := by decide +kernel
theorem dX2_canStand_74 : decode cX2_canStand 74 = .ok (.if_icmp .ne 7, 3) := by decide +kernel
theorem dX2_canStand_77 : decode cX2_canStand 77 = .ok (.iconst 1, 1) := by decide +kernel
theorem dX2_canStand_78 : decode cX2_canStand 78 = .ok (.goto 4, 3) := by decide +kernel
theorem dX2_canStand_81 : decode cX2_canStand 81 = .ok (.iconst 0, 1) := by decide +kernel
theorem dX2_canStand_82 : decode cX2_canStand 82 = .ok (.ireturn, 1) := by decide +kernel
theorem dX2_canStand_83 : decode cX2_canStand 83 = .ok (.iload 4, 2) := by decide +kernel
theorem dX2_canStand_85 : decode cX2_canStand 85 = .ok (.iconst 0, 1) := by decide +kernel
theorem dX2_canStand_86 : decode cX2_canStand 86 = .ok (.iload 5, 2) := by decide +kernel
theorem dX2_canStand_88 : decode cX2_canStand 88 = .ok (.ifCond .eq 7, 3) := by decide +kernel
theorem dX2_canStand_91 : decode cX2_canStand 91 = .ok (.iconst 4, 1) := by decide +kernel
theorem dX2_canStand_92 : decode cX2_canStand 92 = .ok (.goto 4, 3) := by decide +kernel
theorem dX2_canStand_95 : decode cX2_canStand 95 = .ok (.iconst 5, 1) := by decide +kernel
theorem dX2_canStand_96 : decode cX2_canStand 96 = .ok (.invokestatic 40, 3) := by decide +kernel
theorem dX2_canStand_99 : decode cX2_canStand 99 = .ok (.ireturn, 1) := by decide +kernel
theorem dX2_canStand_100 : decode cX2_canStand 100 = .ok (.iload 4, 2) := by decide +kernel
theorem dX2_canStand_102 : decode cX2_canStand 102 = .ok (.iconst 0, 1) := by decide +kernel
theorem dX2_canStand_103 : decode cX2_canStand 103 = .ok (.iload 5, 2) := by decide +kernel
theorem dX2_canStand_105 : decode cX2_canStand 105 = .ok (.ifCond .eq 7, 3) := by decide +kernel
theorem dX2_canStand_108 : decode cX2_canStand 108 = .ok (.iconst 5, 1) := by decide +kernel
theorem dX2_canStand_109 : decode cX2_canStand 109 = .ok (.goto 4, 3) := by decide +kernel
theorem dX2_canStand_112 : decode cX2_canStand 112 = .ok (.iconst 3, 1) := by decide +kernel
theorem dX2_canStand_113 : decode cX2_canStand 113 = .ok (.invokestatic 40, 3) := by decide +kernel
theorem dX2_canStand_116 : decode cX2_canStand 116 = .ok (.ireturn, 1) := by decide +kernel
theorem dX2_canStand_117 : decode cX2_canStand 117 = .ok (.iload 5, 2) := by decide +kernel
theorem dX2_canStand_119 : decode cX2_canStand 119 = .ok (.ifCond .eq 14, 3) := by decide +kernel
theorem dX2_canStand_122 : decode cX2_canStand 122 = .ok (.iload 4, 2) := by decide +kernel
theorem dX2_canStand_124 : decode cX2_canStand 124 = .ok (.iconst 1, 1) := by decide +kernel
theorem dX2_canStand_125 : decode cX2_canStand 125 = .ok (.bipush 9, 2) := by decide +kernel
theorem dX2_canStand_127 : decode cX2_canStand 127 = .ok (.invokestatic 40, 3) := by decide +kernel
theorem dX2_canStand_130 : decode cX2_canStand 130 = .ok (.goto 29, 3) := by decide +kernel
theorem dX2_canStand_133 : decode cX2_canStand 133 = .ok (.iload 4, 2) := by decide +kernel
theorem dX2_canStand_135 : decode cX2_canStand 135 = .ok (.iconst 0, 1) := by decide +kernel
theorem dX2_canStand_136 : decode cX2_canStand 136 = .ok (.iconst 5, 1) := by decide +kernel
theorem dX2_canStand_137 : decode cX2_canStand 137 = .ok (.invokestatic 40, 3) := by decide +kernel
theorem dX2_canStand_140 : decode cX2_canStand 140 = .ok (.ifCond .eq 18, 3) := by decide +kernel
theorem dX2_canStand_143 : decode cX2_canStand 143 = .ok (.aload_n 0, 1) := by decide +kernel
theorem dX2_canStand_144 : decode cX2_canStand 144 = .ok (.iload_n 1, 1) := by decide +kernel
theorem dX2_canStand_145 : decode cX2_canStand 145 = .ok (.iaload, 1) := by decide +kernel
theorem dX2_canStand_146 : decode cX2_canStand 146 = .ok (.aload_n 0, 1) := by decide +kernel
theorem dX2_canStand_147 : decode cX2_canStand 147 = .ok (.iload_n 3, 1) := by decide +kernel
theorem dX2_canStand_148 : decode cX2_canStand 148 = .ok (.iconst 1, 1) := by decide +kernel
theorem dX2_canStand_149 : decode cX2_canStand 149 = .ok (.iadd, 1) := by decide +kernel
theorem dX2_canStand_150 : decode cX2_canStand 150 = .ok (.iaload, 1) := by decide +kernel
theorem dX2_canStand_151 : decode cX2_canStand 151 = .ok (.if_icmp .eq 7, 3) := by decide +kernel
theorem dX2_canStand_154 : decode cX2_canStand 154 = .ok (.iconst 1, 1) := by decide +kernel
theorem dX2_canStand_155 : decode cX2_canStand 155 = .ok (.goto 4, 3) := by decide +kernel
theorem dX2_canStand_158 : decode cX2_canStand 158 = .ok (.iconst 0, 1) := by decide +kernel
theorem dX2_canStand_159 : decode cX2_canStand 159 = .ok (.ireturn, 1) := by decide +kernel
theorem dX2_canStand_160 : decode cX2_canStand 160 = .ok (.aload_n 0, 1) := by decide +kernel
theorem dX2_canStand_161 : decode cX2_canStand 161 = .ok (.iload_n 1, 1) := by decide +kernel
theorem dX2_canStand_162 : decode cX2_canStand 162 = .ok (.iaload, 1) := by decide +kernel
theorem dX2_canStand_163 : decode cX2_canStand 163 = .ok (.bipush 59, 2) := by decide +kernel
theorem dX2_canStand_165 : decode cX2_canStand 165 = .ok (.if_icmp .ne 7, 3) := by decide +kernel
theorem dX2_canStand_168 : decode cX2_canStand 168 = .ok (.iconst 1, 1) := by decide +kernel
theorem dX2_canStand_169 : decode cX2_canStand 169 = .ok (.goto 4, 3) := by decide +kernel
theorem dX2_canStand_172 : decode cX2_canStand 172 = .ok (.iconst 0, 1) := by decide +kernel
theorem dX2_canStand_173 : decode cX2_canStand 173 = .ok (.ireturn, 1) := by decide +kernel
theorem dX2_load_0 : decode cX2_load 0 = .ok (.aload_n 0, 1) := by decide +kernel
theorem dX2_load_1 : decode cX2_load 1 = .ok (.aload_n 1, 1) := by decide +kernel
theorem dX2_load_2 : decode cX2_load 2 = .ok (.getfield 28, 3) := by decide +kernel
theorem dX2_load_5 : decode cX2_load 5 = .ok (.iconst 5, 1) := by decide +kernel
theorem dX2_load_6 : decode cX2_load 6 = .ok (.idiv, 1) := by decide +kernel
theorem dX2_load_7 : decode cX2_load 7 = .ok (.putfield 24, 3) := by decide +kernel
theorem dX2_load_10 : decode cX2_load 10 = .ok (.iconst 0, 1) := by decide +kernel
theorem dX2_load_11 : decode cX2_load 11 = .ok (.istore_n 2, 1) := by decide +kernel
theorem dX2_load_12 : decode cX2_load 12 = .ok (.iload_n 2, 1) := by decide +kernel
theorem dX2_load_13 : decode cX2_load 13 = .ok (.aload_n 0, 1) := by decide +kernel
theorem dX2_load_14 : decode cX2_load 14 = .ok (.getfield 24, 3) := by decide +kernel
theorem dX2_load_17 : decode cX2_load 17 = .ok (.if_icmp .ge 76, 3) := by decide +kernel
theorem dX2_load_20 : decode cX2_load 20 = .ok (.iload_n 2, 1) := by decide +kernel
theorem dX2_load_21 : decode cX2_load 21 = .ok (.iconst 5, 1) := by decide +kernel
theorem dX2_load_22 : decode cX2_load 22 = .ok (.imul, 1) := by decide +kernel
theorem dX2_load_23 : decode cX2_load 23 = .ok (.istore_n 3, 1) := by decide +kernel
theorem dX2_load_24 : decode cX2_load 24 = .ok (.aload_n 0, 1) := by decide +kernel
theorem dX2_load_25 : decode cX2_load 25 = .ok (.getfield 11, 3) := by decide +kernel
theorem dX2_load_28 : decode cX2_load 28 = .ok (.iload_n 2, 1) := by decide +kernel
theorem dX2_load_29 : decode cX2_load 29 = .ok (.aload_n 1, 1) := by decide +kernel
theorem dX2_load_30 : decode cX2_load 30 = .ok (.getfield 33, 3) := by decide +kernel
theorem dX2_load_33 : decode cX2_load 33 = .ok (.iload_n 3, 1) := by decide +kernel
theorem dX2_load_34 : decode cX2_load 34 = .ok (.iaload, 1) := by decide +kernel
theorem dX2_load_35 : decode cX2_load 35 = .ok (.iastore, 1) := by decide +kernel
theorem dX2_load_36 : decode cX2_load 36 = .ok (.aload_n 0, 1) := by decide +kernel
theorem dX2_load_37 : decode cX2_load 37 = .ok (.getfield 15, 3) := by decide +kernel
theorem dX2_load_40 : decode cX2_load 40 = .ok (.iload_n 2, 1) := by decide +kernel
theorem dX2_load_41 : decode cX2_load 41 = .ok (.aload_n 1, 1) := by decide +kernel
theorem dX2_load_42 : decode cX2_load 42 = .ok (.getfield 33, 3) := by decide +kernel
theorem dX2_load_45 : decode cX2_load 45 = .ok (.iload_n 3, 1) := by decide +kernel
theorem dX2_load_46 : decode cX2_load 46 = .ok (.iconst 1, 1) := by decide +kernel
theorem dX2_load_47 : decode cX2_load 47 = .ok (.iadd, 1) := by decide +kernel
theorem dX2_load_48 : decode cX2_load 48 = .ok (.iaload, 1) := by decide +kernel
theorem dX2_load_49 : decode cX2_load 49 = .ok (.bipush 48, 2) := by decide +kernel
theorem dX2_load_51 : decode cX2_load 51 = .ok (.isub, 1) := by decide +kernel
theorem dX2_load_52 : decode cX2_load 52 = .ok (.iastore, 1) := by decide +kernel
theorem dX2_load_53 : decode cX2_load 53 = .ok (.aload_n 0, 1) := by decide +kernel
theorem dX2_load_54 : decode cX2_load 54 = .ok (.getfield 18, 3) := by decide +kernel
theorem dX2_load_57 : decode cX2_load 57 = .ok (.iload_n 2, 1) := by decide +kernel
theorem dX2_load_58 : decode cX2_load 58 = .ok (.aload_n 1, 1) := by decide +kernel
theorem dX2_load_59 : decode cX2_load 59 = .ok (.getfield 33, 3) := by decide +kernel
theorem dX2_load_62 : decode cX2_load 62 = .ok (.iload_n 3, 1) := by decide +kernel
theorem dX2_load_63 : decode cX2_load 63 = .ok (.iconst 2, 1) := by decide +kernel
theorem dX2_load_64 : decode cX2_load 64 = .ok (.iadd, 1) := by decide +kernel
theorem dX2_load_65 : decode cX2_load 65 = .ok (.iaload, 1) := by decide +kernel
theorem dX2_load_66 : decode cX2_load 66 = .ok (.bipush 48, 2) := by decide +kernel
theorem dX2_load_68 : decode cX2_load 68 = .ok (.isub, 1) := by decide +kernel
theorem dX2_load_69 : decode cX2_load 69 = .ok (.iastore, 1) := by decide +kernel
theorem dX2_load_70 : decode cX2_load 70 = .ok (.aload_n 0, 1) := by decide +kernel
theorem dX2_load_71 : decode cX2_load 71 = .ok (.getfield 21, 3) := by decide +kernel
theorem dX2_load_74 : decode cX2_load 74 = .ok (.iload_n 2, 1) := by decide +kernel
theorem dX2_load_75 : decode cX2_load 75 = .ok (.aload_n 1, 1) := by decide +kernel
theorem dX2_load_76 : decode cX2_load 76 = .ok (.getfield 33, 3) := by decide +kernel
theorem dX2_load_79 : decode cX2_load 79 = .ok (.iload_n 3, 1) := by decide +kernel
theorem dX2_load_80 : decode cX2_load 80 = .ok (.iconst 3, 1) := by decide +kernel
theorem dX2_load_81 : decode cX2_load 81 = .ok (.iadd, 1) := by decide +kernel
theorem dX2_load_82 : decode cX2_load 82 = .ok (.iaload, 1) := by decide +kernel
theorem dX2_load_83 : decode cX2_load 83 = .ok (.bipush 48, 2) := by decide +kernel
theorem dX2_load_85 : decode cX2_load 85 = .ok (.isub, 1) := by decide +kernel
theorem dX2_load_86 : decode cX2_load 86 = .ok (.iastore, 1) := by decide +kernel
theorem dX2_load_87 : decode cX2_load 87 = .ok (.iinc 2 1, 3) := by decide +kernel
theorem dX2_load_90 : decode cX2_load 90 = .ok (.goto (-78), 3) := by decide +kernel
theorem dX2_load_93 : decode cX2_load 93 = .ok (.return_, 1) := by decide +kernel
theorem dX2_firstDeskFor_0 : decode cX2_firstDeskFor 0 = .ok (.aload_n 0, 1) := by decide +kernel
theorem dX2_firstDeskFor_1 : decode cX2_firstDeskFor 1 = .ok (.iload_n 1, 1) := by decide +kernel
theorem dX2_firstDeskFor_2 : decode cX2_firstDeskFor 2 = .ok (.invokevirtual 44, 3) := by decide +kernel
theorem dX2_firstDeskFor_5 : decode cX2_firstDeskFor 5 = .ok (.istore_n 2, 1) := by decide +kernel
theorem dX2_firstDeskFor_6 : decode cX2_firstDeskFor 6 = .ok (.iload_n 2, 1) := by decide +kernel
theorem dX2_firstDeskFor_7 : decode cX2_firstDeskFor 7 = .ok (.iconst (-1), 1) := by decide +kernel
theorem dX2_firstDeskFor_8 : decode cX2_firstDeskFor 8 = .ok (.if_icmp .ne 7, 3) := by decide +kernel
theorem dX2_firstDeskFor_11 : decode cX2_firstDeskFor 11 = .ok (.iconst (-1), 1) := by decide +kernel
theorem dX2_firstDeskFor_12 : decode cX2_firstDeskFor 12 = .ok (.goto 9, 3) := by decide +kernel
theorem dX2_firstDeskFor_15 : decode cX2_firstDeskFor 15 = .ok (.aload_n 0, 1) := by decide +kernel
theorem dX2_firstDeskFor_16 : decode cX2_firstDeskFor 16 = .ok (.getfield 18, 3) := by decide +kernel
theorem dX2_firstDeskFor_19 : decode cX2_firstDeskFor 19 = .ok (.iload_n 2, 1) := by decide +kernel
theorem dX2_firstDeskFor_20 : decode cX2_firstDeskFor 20 = .ok (.iaload, 1) := by decide +kernel
theorem dX2_firstDeskFor_21 : decode cX2_firstDeskFor 21 = .ok (.ireturn, 1) := by decide +kernel
theorem dX2_daysFor_0 : decode cX2_daysFor 0 = .ok (.aload_n 0, 1) := by decide +kernel
theorem dX2_daysFor_1 : decode cX2_daysFor 1 = .ok (.iload_n 1, 1) := by decide +kernel
theorem dX2_daysFor_2 : decode cX2_daysFor 2 = .ok (.invokevirtual 44, 3) := by decide +kernel
theorem dX2_daysFor_5 : decode cX2_daysFor 5 = .ok (.istore_n 2, 1) := by decide +kernel
theorem dX2_daysFor_6 : decode cX2_daysFor 6 = .ok (.iload_n 2, 1) := by decide +kernel
theorem dX2_daysFor_7 : decode cX2_daysFor 7 = .ok (.iconst (-1), 1) := by decide +kernel
theorem dX2_daysFor_8 : decode cX2_daysFor 8 = .ok (.if_icmp .ne 7, 3) := by decide +kernel
theorem dX2_daysFor_11 : decode cX2_daysFor 11 = .ok (.iconst (-1), 1) := by decide +kernel
theorem dX2_daysFor_12 : decode cX2_daysFor 12 = .ok (.goto 9, 3) := by decide +kernel
theorem dX2_daysFor_15 : decode cX2_daysFor 15 = .ok (.aload_n 0, 1) := by decide +kernel
theorem dX2_daysFor_16 : decode cX2_daysFor 16 = .ok (.getfield 21, 3) := by decide +kernel
theorem dX2_daysFor_19 : decode cX2_daysFor 19 = .ok (.iload_n 2, 1) := by decide +kernel
theorem dX2_daysFor_20 : decode cX2_daysFor 20 = .ok (.iaload, 1) := by decide +kernel
theorem dX2_daysFor_21 : decode cX2_daysFor 21 = .ok (.ireturn, 1) := by decide +kernel
theorem dX2_rowFor_0 : decode cX2_rowFor 0 = .ok (.iload_n 1, 1) := by decide +kernel
theorem dX2_rowFor_1 : decode cX2_rowFor 1 = .ok (.istore_n 2, 1) := by decide +kernel
theorem dX2_rowFor_2 : decode cX2_rowFor 2 = .ok (.iconst 0, 1) := by decide +kernel
theorem dX2_rowFor_3 : decode cX2_rowFor 3 = .ok (.istore_n 3, 1) := by decide +kernel
theorem dX2_rowFor_4 : decode cX2_rowFor 4 = .ok (.iload_n 3, 1) := by decide +kernel
theorem dX2_rowFor_5 : decode cX2_rowFor 5 = .ok (.iconst 5, 1) := by decide +kernel
theorem dX2_rowFor_6 : decode cX2_rowFor 6 = .ok (.if_icmp .ge 36, 3) := by decide +kernel
theorem dX2_rowFor_9 : decode cX2_rowFor 9 = .ok (.iload_n 2, 1) := by decide +kernel
theorem dX2_rowFor_10 : decode cX2_rowFor 10 = .ok (.iconst (-1), 1) := by decide +kernel
theorem dX2_rowFor_11 : decode cX2_rowFor 11 = .ok (.if_icmp .eq 31, 3) := by decide +kernel
theorem dX2_rowFor_14 : decode cX2_rowFor 14 = .ok (.aload_n 0, 1) := by decide +kernel
theorem dX2_rowFor_15 : decode cX2_rowFor 15 = .ok (.iload_n 2, 1) := by decide +kernel
theorem dX2_rowFor_16 : decode cX2_rowFor 16 = .ok (.invokevirtual 48, 3) := by decide +kernel
theorem dX2_rowFor_19 : decode cX2_rowFor 19 = .ok (.istore 4, 2) := by decide +kernel
theorem dX2_rowFor_21 : decode cX2_rowFor 21 = .ok (.iload 4, 2) := by decide +kernel
theorem dX2_rowFor_23 : decode cX2_rowFor 23 = .ok (.iconst (-1), 1) := by decide +kernel
theorem dX2_rowFor_24 : decode cX2_rowFor 24 = .ok (.if_icmp .eq 6, 3) := by decide +kernel
theorem dX2_rowFor_27 : decode cX2_rowFor 27 = .ok (.iload 4, 2) := by decide +kernel
theorem dX2_rowFor_29 : decode cX2_rowFor 29 = .ok (.ireturn, 1) := by decide +kernel
theorem dX2_rowFor_30 : decode cX2_rowFor 30 = .ok (.getstatic 51, 3) := by decide +kernel
theorem dX2_rowFor_33 : decode cX2_rowFor 33 = .ok (.iload_n 2, 1) := by decide +kernel
theorem dX2_rowFor_34 : decode cX2_rowFor 34 = .ok (.iaload, 1) := by decide +kernel
theorem dX2_rowFor_35 : decode cX2_rowFor 35 = .ok (.istore_n 2, 1) := by decide +kernel
theorem dX2_rowFor_36 : decode cX2_rowFor 36 = .ok (.iinc 3 1, 3) := by decide +kernel
theorem dX2_rowFor_39 : decode cX2_rowFor 39 = .ok (.goto (-35), 3) := by decide +kernel
theorem dX2_rowFor_42 : decode cX2_rowFor 42 = .ok (.iconst (-1), 1) := by decide +kernel
theorem dX2_rowFor_43 : decode cX2_rowFor 43 = .ok (.ireturn, 1) := by decide +kernel
theorem dX2_rowForJust_0 : decode cX2_rowForJust 0 = .ok (.iconst 0, 1) := by decide +kernel
theorem dX2_rowForJust_1 : decode cX2_rowForJust 1 = .ok (.istore_n 2, 1) := by decide +kernel
theorem dX2_rowForJust_2 : decode cX2_rowForJust 2 = .ok (.iload_n 2, 1) := by decide +kernel
theorem dX2_rowForJust_3 : decode cX2_rowForJust 3 = .ok (.aload_n 0, 1) := by decide +kernel
theorem dX2_rowForJust_4 : decode cX2_rowForJust 4 = .ok (.getfield 24, 3) := by decide +kernel
theorem dX2_rowForJust_7 : decode cX2_rowForJust 7 = .ok (.if_icmp .ge 32, 3) := by decide +kernel
theorem dX2_rowForJust_10 : decode cX2_rowForJust 10 = .ok (.aload_n 0, 1) := by decide +kernel
theorem dX2_rowForJust_11 : decode cX2_rowForJust 11 = .ok (.getfield 11, 3) := by decide +kernel
theorem dX2_rowForJust_14 : decode cX2_rowForJust 14 = .ok (.iload_n 2, 1) := by decide +kernel
theorem dX2_rowForJust_15 : decode cX2_rowForJust 15 = .ok (.iaload, 1) := by decide +kernel
theorem dX2_rowForJust_16 : decode cX2_rowForJust 16 = .ok (.bipush 97, 2) := by decide +kernel
theorem dX2_rowForJust_18 : decode cX2_rowForJust 18 = .ok (.if_icmp .ne 15, 3) := by decide +kernel
theorem dX2_rowForJust_21 : decode cX2_rowForJust 21 = .ok (.aload_n 0, 1) := by decide +kernel
theorem dX2_rowForJust_22 : decode cX2_rowForJust 22 = .ok (.getfield 15, 3) := by decide +kernel
theorem dX2_rowForJust_25 : decode cX2_rowForJust 25 = .ok (.iload_n 2, 1) := by decide +kernel
theorem dX2_rowForJust_26 : decode cX2_rowForJust 26 = .ok (.iaload, 1) := by decide +kernel
theorem dX2_rowForJust_27 : decode cX2_rowForJust 27 = .ok (.iload_n 1, 1) := by decide +kernel
theorem dX2_rowForJust_28 : decode cX2_rowForJust 28 = .ok (.if_icmp .ne 5, 3) := by decide +kernel
theorem dX2_rowForJust_31 : decode cX2_rowForJust 31 = .ok (.iload_n 2, 1) := by decide +kernel
theorem dX2_rowForJust_32 : decode cX2_rowForJust 32 = .ok (.ireturn, 1) := by decide +kernel
theorem dX2_rowForJust_33 : decode cX2_rowForJust 33 = .ok (.iinc 2 1, 3) := by decide +kernel
theorem dX2_rowForJust_36 : decode cX2_rowForJust 36 = .ok (.goto (-34), 3) := by decide +kernel
theorem dX2_rowForJust_39 : decode cX2_rowForJust 39 = .ok (.iconst (-1), 1) := by decide +kernel
theorem dX2_rowForJust_40 : decode cX2_rowForJust 40 = .ok (.ireturn, 1) := by decide +kernel
theorem dX2_nextDesk_0 : decode cX2_nextDesk 0 = .ok (.iconst 0, 1) := by decide +kernel
theorem dX2_nextDesk_1 : decode cX2_nextDesk 1 = .ok (.istore_n 3, 1) := by decide +kernel
theorem dX2_nextDesk_2 : decode cX2_nextDesk 2 = .ok (.iload_n 3, 1) := by decide +kernel
theorem dX2_nextDesk_3 : decode cX2_nextDesk 3 = .ok (.aload_n 0, 1) := by decide +kernel
theorem dX2_nextDesk_4 : decode cX2_nextDesk 4 = .ok (.getfield 24, 3) := by decide +kernel
theorem dX2_nextDesk_7 : decode cX2_nextDesk 7 = .ok (.if_icmp .ge 59, 3) := by decide +kernel
theorem dX2_nextDesk_10 : decode cX2_nextDesk 10 = .ok (.aload_n 0, 1) := by decide +kernel
theorem dX2_nextDesk_11 : decode cX2_nextDesk 11 = .ok (.getfield 11, 3) := by decide +kernel
theorem dX2_nextDesk_14 : decode cX2_nextDesk 14 = .ok (.iload_n 3, 1) := by decide +kernel
theorem dX2_nextDesk_15 : decode cX2_nextDesk 15 = .ok (.iaload, 1) := by decide +kernel
theorem dX2_nextDesk_16 : decode cX2_nextDesk 16 = .ok (.bipush 115, 2) := by decide +kernel
theorem dX2_nextDesk_18 : decode cX2_nextDesk 18 = .ok (.if_icmp .ne 17, 3) := by decide +kernel
theorem dX2_nextDesk_21 : decode cX2_nextDesk 21 = .ok (.aload_n 0, 1) := by decide +kernel
theorem dX2_nextDesk_22 : decode cX2_nextDesk 22 = .ok (.getfield 15, 3) := by decide +kernel
theorem dX2_nextDesk_25 : decode cX2_nextDesk 25 = .ok (.iload_n 3, 1) := by decide +kernel
theorem dX2_nextDesk_26 : decode cX2_nextDesk 26 = .ok (.iaload, 1) := by decide +kernel
theorem dX2_nextDesk_27 : decode cX2_nextDesk 27 = .ok (.iload_n 1, 1) := by decide +kernel
theorem dX2_nextDesk_28 : decode cX2_nextDesk 28 = .ok (.if_icmp .ne 7, 3) := by decide +kernel
theorem dX2_nextDesk_31 : decode cX2_nextDesk 31 = .ok (.iconst 1, 1) := by decide +kernel
theorem dX2_nextDesk_32 : decode cX2_nextDesk 32 = .ok (.goto 4, 3) := by decide +kernel
theorem dX2_nextDesk_35 : decode cX2_nextDesk 35 = .ok (.iconst 0, 1) := by decide +kernel
theorem dX2_nextDesk_36 : decode cX2_nextDesk 36 = .ok (.istore 4, 2) := by decide +kernel
theorem dX2_nextDesk_38 : decode cX2_nextDesk 38 = .ok (.iload 4, 2) := by decide +kernel
theorem dX2_nextDesk_40 : decode cX2_nextDesk 40 = .ok (.ifCond .eq 20, 3) := by decide +kernel
theorem dX2_nextDesk_43 : decode cX2_nextDesk 43 = .ok (.aload_n 0, 1) := by decide +kernel
theorem dX2_nextDesk_44 : decode cX2_nextDesk 44 = .ok (.getfield 18, 3) := by decide +kernel
theorem dX2_nextDesk_47 : decode cX2_nextDesk 47 = .ok (.iload_n 3, 1) := by decide +kernel
theorem dX2_nextDesk_48 : decode cX2_nextDesk 48 = .ok (.iaload, 1) := by decide +kernel
theorem dX2_nextDesk_49 : decode cX2_nextDesk 49 = .ok (.iload_n 2, 1) := by decide +kernel
theorem dX2_nextDesk_50 : decode cX2_nextDesk 50 = .ok (.if_icmp .ne 10, 3) := by decide +kernel
theorem dX2_nextDesk_53 : decode cX2_nextDesk 53 = .ok (.aload_n 0, 1) := by decide +kernel
theorem dX2_nextDesk_54 : decode cX2_nextDesk 54 = .ok (.getfield 21, 3) := by decide +kernel
theorem dX2_nextDesk_57 : decode cX2_nextDesk 57 = .ok (.iload_n 3, 1) := by decide +kernel
theorem dX2_nextDesk_58 : decode cX2_nextDesk 58 = .ok (.iaload, 1) := by decide +kernel
theorem dX2_nextDesk_59 : decode cX2_nextDesk 59 = .ok (.ireturn, 1) := by decide +kernel
theorem dX2_nextDesk_60 : decode cX2_nextDesk 60 = .ok (.iinc 3 1, 3) := by decide +kernel
theorem dX2_nextDesk_63 : decode cX2_nextDesk 63 = .ok (.goto (-61), 3) := by decide +kernel
theorem dX2_nextDesk_66 : decode cX2_nextDesk 66 = .ok (.iconst (-1), 1) := by decide +kernel
theorem dX2_nextDesk_67 : decode cX2_nextDesk 67 = .ok (.ireturn, 1) := by decide +kernel
theorem dX2_rowsGoneBy_0 : decode cX2_rowsGoneBy 0 = .ok (.iload_n 1, 1) := by decide +kernel
theorem dX2_rowsGoneBy_1 : decode cX2_rowsGoneBy 1 = .ok (.istore_n 3, 1) := by decide +kernel
theorem dX2_rowsGoneBy_2 : decode cX2_rowsGoneBy 2 = .ok (.iconst 1, 1) := by decide +kernel
theorem dX2_rowsGoneBy_3 : decode cX2_rowsGoneBy 3 = .ok (.iload_n 1, 1) := by decide +kernel
theorem dX2_rowsGoneBy_4 : decode cX2_rowsGoneBy 4 = .ok (.ishl, 1) := by decide +kernel
theorem dX2_rowsGoneBy_5 : decode cX2_rowsGoneBy 5 = .ok (.istore 4, 2) := by decide +kernel
theorem dX2_rowsGoneBy_7 : decode cX2_rowsGoneBy 7 = .ok (.iconst 0, 1) := by decide +kernel
theorem dX2_rowsGoneBy_8 : decode cX2_rowsGoneBy 8 = .ok (.istore 5, 2) := by decide +kernel
theorem dX2_rowsGoneBy_10 : decode cX2_rowsGoneBy 10 = .ok (.iload 5, 2) := by decide +kernel
theorem dX2_rowsGoneBy_12 : decode cX2_rowsGoneBy 12 = .ok (.bipush 6, 2) := by decide +kernel
theorem dX2_rowsGoneBy_14 : decode cX2_rowsGoneBy 14 = .ok (.if_icmp .ge 46, 3) := by decide +kernel
theorem dX2_rowsGoneBy_17 : decode cX2_rowsGoneBy 17 = .ok (.aload_n 0, 1) := by decide +kernel
theorem dX2_rowsGoneBy_18 : decode cX2_rowsGoneBy 18 = .ok (.iload_n 3, 1) := by decide +kernel
theorem dX2_rowsGoneBy_19 : decode cX2_rowsGoneBy 19 = .ok (.iload_n 2, 1) := by decide +kernel
theorem dX2_rowsGoneBy_20 : decode cX2_rowsGoneBy 20 = .ok (.invokevirtual 54, 3) := by decide +kernel
theorem dX2_rowsGoneBy_23 : decode cX2_rowsGoneBy 23 = .ok (.istore_n 3, 1) := by decide +kernel
theorem dX2_rowsGoneBy_24 : decode cX2_rowsGoneBy 24 = .ok (.iload_n 3, 1) := by decide +kernel
theorem dX2_rowsGoneBy_25 : decode cX2_rowsGoneBy 25 = .ok (.iconst (-1), 1) := by decide +kernel
theorem dX2_rowsGoneBy_26 : decode cX2_rowsGoneBy 26 = .ok (.if_icmp .ne 6, 3) := by decide +kernel
theorem dX2_rowsGoneBy_29 : decode cX2_rowsGoneBy 29 = .ok (.iload 5, 2) := by decide +kernel
theorem dX2_rowsGoneBy_31 : decode cX2_rowsGoneBy 31 = .ok (.ireturn, 1) := by decide +kernel
theorem dX2_rowsGoneBy_32 : decode cX2_rowsGoneBy 32 = .ok (.iload 4, 2) := by decide +kernel
theorem dX2_rowsGoneBy_34 : decode cX2_rowsGoneBy 34 = .ok (.iload_n 3, 1) := by decide +kernel
theorem dX2_rowsGoneBy_35 : decode cX2_rowsGoneBy 35 = .ok (.invokestatic 58, 3) := by decide +kernel
theorem dX2_rowsGoneBy_38 : decode cX2_rowsGoneBy 38 = .ok (.ifCond .eq 8, 3) := by decide +kernel
theorem dX2_rowsGoneBy_41 : decode cX2_rowsGoneBy 41 = .ok (.iload 5, 2) := by decide +kernel
theorem dX2_rowsGoneBy_43 : decode cX2_rowsGoneBy 43 = .ok (.iconst 1, 1) := by decide +kernel
theorem dX2_rowsGoneBy_44 : decode cX2_rowsGoneBy 44 = .ok (.iadd, 1) := by decide +kernel
theorem dX2_rowsGoneBy_45 : decode cX2_rowsGoneBy 45 = .ok (.ireturn, 1) := by decide +kernel
theorem dX2_rowsGoneBy_46 : decode cX2_rowsGoneBy 46 = .ok (.iload 4, 2) := by decide +kernel
theorem dX2_rowsGoneBy_48 : decode cX2_rowsGoneBy 48 = .ok (.iconst 1, 1) := by decide +kernel
theorem dX2_rowsGoneBy_49 : decode cX2_rowsGoneBy 49 = .ok (.iload_n 3, 1) := by decide +kernel
theorem dX2_rowsGoneBy_50 : decode cX2_rowsGoneBy 50 = .ok (.ishl, 1) := by decide +kernel
theorem dX2_rowsGoneBy_51 : decode cX2_rowsGoneBy 51 = .ok (.ior, 1) := by decide +kernel
theorem dX2_rowsGoneBy_52 : decode cX2_rowsGoneBy 52 = .ok (.istore 4, 2) := by decide +kernel
theorem dX2_rowsGoneBy_54 : decode cX2_rowsGoneBy 54 = .ok (.iinc 5 1, 3) := by decide +kernel
theorem dX2_rowsGoneBy_57 : decode cX2_rowsGoneBy 57 = .ok (.goto (-47), 3) := by decide +kernel
theorem dX2_rowsGoneBy_60 : decode cX2_rowsGoneBy 60 = .ok (.bipush 6, 2) := by decide +kernel
theorem dX2_rowsGoneBy_62 : decode cX2_rowsGoneBy 62 = .ok (.ireturn, 1) := by decide +kernel
theorem dX2_lastDeskFrom_0 : decode cX2_lastDeskFrom 0 = .ok (.iload_n 1, 1) := by decide +kernel
theorem dX2_lastDeskFrom_1 : decode cX2_lastDeskFrom 1 = .ok (.istore_n 3, 1) := by decide +kernel
theorem dX2_lastDeskFrom_2 : decode cX2_lastDeskFrom 2 = .ok (.aload_n 0, 1) := by decide +kernel
theorem dX2_lastDeskFrom_3 : decode cX2_lastDeskFrom 3 = .ok (.iload_n 1, 1) := by decide +kernel
theorem dX2_lastDeskFrom_4 : decode cX2_lastDeskFrom 4 = .ok (.iload_n 2, 1) := by decide +kernel
theorem dX2_lastDeskFrom_5 : decode cX2_lastDeskFrom 5 = .ok (.invokevirtual 62, 3) := by decide +kernel
theorem dX2_lastDeskFrom_8 : decode cX2_lastDeskFrom 8 = .ok (.istore 4, 2) := by decide +kernel
theorem dX2_lastDeskFrom_10 : decode cX2_lastDeskFrom 10 = .ok (.iconst 0, 1) := by decide +kernel
theorem dX2_lastDeskFrom_11 : decode cX2_lastDeskFrom 11 = .ok (.istore 5, 2) := by decide +kernel
theorem dX2_lastDeskFrom_13 : decode cX2_lastDeskFrom 13 = .ok (.iload 5, 2) := by decide +kernel
theorem dX2_lastDeskFrom_15 : decode cX2_lastDeskFrom 15 = .ok (.iload 4, 2) := by decide +kernel
theorem dX2_lastDeskFrom_17 : decode cX2_lastDeskFrom 17 = .ok (.if_icmp .ge 16, 3) := by decide +kernel
theorem dX2_lastDeskFrom_20 : decode cX2_lastDeskFrom 20 = .ok (.aload_n 0, 1) := by decide +kernel
theorem dX2_lastDeskFrom_21 : decode cX2_lastDeskFrom 21 = .ok (.iload_n 3, 1) := by decide +kernel
theorem dX2_lastDeskFrom_22 : decode cX2_lastDeskFrom 22 = .ok (.iload_n 2, 1) := by decide +kernel
theorem dX2_lastDeskFrom_23 : decode cX2_lastDeskFrom 23 = .ok (.invokevirtual 54, 3) := by decide +kernel
theorem dX2_lastDeskFrom_26 : decode cX2_lastDeskFrom 26 = .ok (.istore_n 3, 1) := by decide +kernel
theorem dX2_lastDeskFrom_27 : decode cX2_lastDeskFrom 27 = .ok (.iinc 5 1, 3) := by decide +kernel
theorem dX2_lastDeskFrom_30 : decode cX2_lastDeskFrom 30 = .ok (.goto (-17), 3) := by decide +kernel
theorem dX2_lastDeskFrom_33 : decode cX2_lastDeskFrom 33 = .ok (.aload_n 0, 1) := by decide +kernel
theorem dX2_lastDeskFrom_34 : decode cX2_lastDeskFrom 34 = .ok (.iload_n 3, 1) := by decide +kernel
theorem dX2_lastDeskFrom_35 : decode cX2_lastDeskFrom 35 = .ok (.iload_n 2, 1) := by decide +kernel
theorem dX2_lastDeskFrom_36 : decode cX2_lastDeskFrom 36 = .ok (.invokevirtual 54, 3) := by decide +kernel
theorem dX2_lastDeskFrom_39 : decode cX2_lastDeskFrom 39 = .ok (.iconst (-1), 1) := by decide +kernel
theorem dX2_lastDeskFrom_40 : decode cX2_lastDeskFrom 40 = .ok (.if_icmp .ne 7, 3) := by decide +kernel
theorem dX2_lastDeskFrom_43 : decode cX2_lastDeskFrom 43 = .ok (.iload_n 3, 1) := by decide +kernel
theorem dX2_lastDeskFrom_44 : decode cX2_lastDeskFrom 44 = .ok (.goto 5, 3) := by decide +kernel
theorem dX2_lastDeskFrom_47 : decode cX2_lastDeskFrom 47 = .ok (.ldc 65, 2) := by decide +kernel
theorem dX2_lastDeskFrom_49 : decode cX2_lastDeskFrom 49 = .ok (.ireturn, 1) := by decide +kernel
theorem dX3_init_0 : decode cX3_init 0 = .ok (.aload_n 0, 1) := by decide +kernel
theorem dX3_init_1 : decode cX3_init 1 = .ok (.invokespecial 3, 3) := by decide +kernel
theorem dX3_init_4 : decode cX3_init 4 = .ok (.aload_n 0, 1) := by decide +kernel
theorem dX3_init_5 : decode cX3_init 5 = .ok (.bipush 12, 2) := by decide +kernel
theorem dX3_init_7 : decode cX3_init 7 = .ok (.newarray .int, 2) := by decide +kernel
theorem dX3_init_9 : decode cX3_init 9 = .ok (.putfield 9, 3) := by decide +kernel
theorem dX3_init_12 : decode cX3_init 12 = .ok (.aload_n 0, 1) := by decide +kernel
theorem dX3_init_13 : decode cX3_init 13 = .ok (.bipush 12, 2) := by decide +kernel
theorem dX3_init_15 : decode cX3_init 15 = .ok (.newarray .int, 2) := by decide +kernel
theorem dX3_init_17 : decode cX3_init 17 = .ok (.putfield 15, 3) := by decide +kernel
theorem dX3_init_20 : decode cX3_init 20 = .ok (.return_, 1) := by decide +kernel
theorem dX3_fewestSets_0 : decode cX3_fewestSets 0 = .ok (.iconst 0, 1) := by decide +kernel
theorem dX3_fewestSets_1 : decode cX3_fewestSets 1 = .ok (.istore 4, 2) := by decide +kernel
theorem dX3_fewestSets_3 : decode cX3_fewestSets 3 = .ok (.iload 4, 2) := by decide +kernel
theorem dX3_fewestSets_5 : decode cX3_fewestSets 5 = .ok (.iload_n 3, 1) := by decide +kernel
theorem dX3_fewestSets_6 : decode cX3_fewestSets 6 = .ok (.if_icmp .ge 62, 3) := by decide +kernel
theorem dX3_fewestSets_9 : decode cX3_fewestSets 9 = .ok (.aload_n 0, 1) := by decide +kernel
theorem dX3_fewestSets_10 : decode cX3_fewestSets 10 = .ok (.getfield 9, 3) := by decide +kernel
theorem dX3_fewestSets_13 : decode cX3_fewestSets 13 = .ok (.iload 4, 2) := by decide +kernel
theorem dX3_fewestSets_15 : decode cX3_fewestSets 15 = .ok (.iconst 0, 1) := by decide +kernel
theorem dX3_fewestSets_16 : decode cX3_fewestSets 16 = .ok (.iastore, 1) := by decide +kernel
theorem dX3_fewestSets_17 : decode cX3_fewestSets 17 = .ok (.iconst 0, 1) := by decide +kernel
theorem dX3_fewestSets_18 : decode cX3_fewestSets 18 = .ok (.istore 5, 2) := by decide +kernel
theorem dX3_fewestSets_20 : decode cX3_fewestSets 20 = .ok (.iload 5, 2) := by decide +kernel
theorem dX3_fewestSets_22 : decode cX3_fewestSets 22 = .ok (.iload 4, 2) := by decide +kernel
theorem dX3_fewestSets_24 : decode cX3_fewestSets 24 = .ok (.if_icmp .ge 38, 3) := by decide +kernel
theorem dX3_fewestSets_27 : decode cX3_fewestSets 27 = .ok (.aload_n 1, 1) := by decide +kernel
theorem dX3_fewestSets_28 : decode cX3_fewestSets 28 = .ok (.iload_n 2, 1) := by decide +kernel
theorem dX3_fewestSets_29 : decode cX3_fewestSets 29 = .ok (.iload 4, 2) := by decide +kernel
theorem dX3_fewestSets_31 : decode cX3_fewestSets 31 = .ok (.iadd, 1) := by decide +kernel
theorem dX3_fewestSets_32 : decode cX3_fewestSets 32 = .ok (.iload_n 2, 1) := by decide +kernel
theorem dX3_fewestSets_33 : decode cX3_fewestSets 33 = .ok (.iload 5, 2) := by decide +kernel
theorem dX3_fewestSets_35 : decode cX3_fewestSets 35 = .ok (.iadd, 1) := by decide +kernel
theorem dX3_fewestSets_36 : decode cX3_fewestSets 36 = .ok (.invokevirtual 18, 3) := by decide +kernel
theorem dX3_fewestSets_39 : decode cX3_fewestSets 39 = .ok (.ifCond .eq 17, 3) := by decide +kernel
theorem dX3_fewestSets_42 : decode cX3_fewestSets 42 = .ok (.aload_n 0, 1) := by decide +kernel
theorem dX3_fewestSets_43 : decode cX3_fewestSets 43 = .ok (.getfield 9, 3) := by decide +kernel
theorem dX3_fewestSets_46 : decode cX3_fewestSets 46 = .ok (.iload 4, 2) := by decide +kernel
theorem dX3_fewestSets_48 : decode cX3_fewestSets 48 = .ok (.dup2, 1) := by decide +kernel
theorem dX3_fewestSets_49 : decode cX3_fewestSets 49 = .ok (.iaload, 1) := by decide +kernel
theorem dX3_fewestSets_50 : decode cX3_fewestSets 50 = .ok (.iconst 1, 1) := by decide +kernel
theorem dX3_fewestSets_51 : decode cX3_fewestSets 51 = .ok (.iload 5, 2) := by decide +kernel
theorem dX3_fewestSets_53 : decode cX3_fewestSets 53 = .ok (.ishl, 1) := by decide +kernel
theorem dX3_fewestSets_54 : decode cX3_fewestSets 54 = .ok (.ior, 1) := by decide +kernel
theorem dX3_fewestSets_55 : decode cX3_fewestSets 55 = .ok (.iastore, 1) := by decide +kernel
theorem dX3_fewestSets_56 : decode cX3_fewestSets 56 = .ok (.iinc 5 1, 3) := by decide +kernel
theorem dX3_fewestSets_59 : decode cX3_fewestSets 59 = .ok (.goto (-39), 3) := by decide +kernel
theorem dX3_fewestSets_62 : decode cX3_fewestSets 62 = .ok (.iinc 4 1, 3) := by decide +kernel
theorem dX3_fewestSets_65 : decode cX3_fewestSets 65 = .ok (.goto (-62), 3) := by decide +kernel
theorem dX3_fewestSets_68 : decode cX3_fewestSets 68 = .ok (.aload_n 0, 1) := by decide +kernel
theorem dX3_fewestSets_69 : decode cX3_fewestSets 69 = .ok (.iload_n 3, 1) := by decide +kernel
theorem dX3_fewestSets_70 : decode cX3_fewestSets 70 = .ok (.putfield 24, 3) := by decide +kernel
theorem dX3_fewestSets_73 : decode cX3_fewestSets 73 = .ok (.aload_n 0, 1) := by decide +kernel
theorem dX3_fewestSets_74 : decode cX3_fewestSets 74 = .ok (.iload_n 3, 1) := by decide +kernel
theorem dX3_fewestSets_75 : decode cX3_fewestSets 75 = .ok (.putfield 28, 3) := by decide +kernel
theorem dX3_fewestSets_78 : decode cX3_fewestSets 78 = .ok (.aload_n 0, 1) := by decide +kernel
theorem dX3_fewestSets_79 : decode cX3_fewestSets 79 = .ok (.iconst 0, 1) := by decide +kernel
theorem dX3_fewestSets_80 : decode cX3_fewestSets 80 = .ok (.iconst 0, 1) := by decide +kernel
theorem dX3_fewestSets_81 : decode cX3_fewestSets 81 = .ok (.invokevirtual 31, 3) := by decide +kernel
theorem dX3_fewestSets_84 : decode cX3_fewestSets 84 = .ok (.aload_n 0, 1) := by decide +kernel
theorem dX3_fewestSets_85 : decode cX3_fewestSets 85 = .ok (.getfield 28, 3) := by decide +kernel
theorem dX3_fewestSets_88 : decode cX3_fewestSets 88 = .ok (.ireturn, 1) := by decide +kernel
theorem dX3_putFrom_0 : decode cX3_putFrom 0 = .ok (.iload_n 2, 1) := by decide +kernel
theorem dX3_putFrom_1 : decode cX3_putFrom 1 = .ok (.aload_n 0, 1) := by decide +kernel
theorem dX3_putFrom_2 : decode cX3_putFrom 2 = .ok (.getfield 28, 3) := by decide +kernel
theorem dX3_putFrom_5 : decode cX3_putFrom 5 = .ok (.if_icmp .lt 4, 3) := by decide +kernel
theorem dX3_putFrom_8 : decode cX3_putFrom 8 = .ok (.return_, 1) := by decide +kernel
theorem dX3_putFrom_9 : decode cX3_putFrom 9 = .ok (.iload_n 1, 1) := by decide +kernel
theorem dX3_putFrom_10 : decode cX3_putFrom 10 = .ok (.aload_n 0, 1) := by decide +kernel
theorem dX3_putFrom_11 : decode cX3_putFrom 11 = .ok (.getfield 24, 3) := by decide +kernel
theorem dX3_putFrom_14 : decode cX3_putFrom 14 = .ok (.if_icmp .lt 9, 3) := by decide +kernel
theorem dX3_putFrom_17 : decode cX3_putFrom 17 = .ok (.aload_n 0, 1) := by decide +kernel
theorem dX3_putFrom_18 : decode cX3_putFrom 18 = .ok (.iload_n 2, 1) := by decide +kernel
theorem dX3_putFrom_19 : decode cX3_putFrom 19 = .ok (.putfield 28, 3) := by decide +kernel
theorem dX3_putFrom_22 : decode cX3_putFrom 22 = .ok (.return_, 1) := by decide +kernel
theorem dX3_putFrom_23 : decode cX3_putFrom 23 = .ok (.iconst 0, 1) := by decide +kernel
theorem dX3_putFrom_24 : decode cX3_putFrom 24 = .ok (.istore_n 3, 1) := by decide +kernel
theorem dX3_putFrom_25 : decode cX3_putFrom 25 = .ok (.iload_n 3, 1) := by decide +kernel
theorem dX3_putFrom_26 : decode cX3_putFrom 26 = .ok (.iload_n 2, 1) := by decide +kernel
theorem dX3_putFrom_27 : decode cX3_putFrom 27 = .ok (.if_icmp .ge 61, 3) := by decide +kernel
theorem dX3_putFrom_30 : decode cX3_putFrom 30 = .ok (.aload_n 0, 1) := by decide +kernel
theorem dX3_putFrom_31 : decode cX3_putFrom 31 = .ok (.getfield 15, 3) := by decide +kernel
theorem dX3_putFrom_34 : decode cX3_putFrom 34 = .ok (.iload_n 3, 1) := by decide +kernel
theorem dX3_putFrom_35 : decode cX3_putFrom 35 = .ok (.iaload, 1) := by decide +kernel
theorem dX3_putFrom_36 : decode cX3_putFrom 36 = .ok (.aload_n 0, 1) := by decide +kernel
theorem dX3_putFrom_37 : decode cX3_putFrom 37 = .ok (.getfield 9, 3) := by decide +kernel
theorem dX3_putFrom_40 : decode cX3_putFrom 40 = .ok (.iload_n 1, 1) := by decide +kernel
theorem dX3_putFrom_41 : decode cX3_putFrom 41 = .ok (.iaload, 1) := by decide +kernel
theorem dX3_putFrom_42 : decode cX3_putFrom 42 = .ok (.iconst (-1), 1) := by decide +kernel
theorem dX3_putFrom_43 : decode cX3_putFrom 43 = .ok (.ixor, 1) := by decide +kernel
theorem dX3_putFrom_44 : decode cX3_putFrom 44 = .ok (.iand, 1) := by decide +kernel
theorem dX3_putFrom_45 : decode cX3_putFrom 45 = .ok (.ifCond .ne 37, 3) := by decide +kernel
theorem dX3_putFrom_48 : decode cX3_putFrom 48 = .ok (.aload_n 0, 1) := by decide +kernel
theorem dX3_putFrom_49 : decode cX3_putFrom 49 = .ok (.getfield 15, 3) := by decide +kernel
theorem dX3_putFrom_52 : decode cX3_putFrom 52 = .ok (.iload_n 3, 1) := by decide +kernel
theorem dX3_putFrom_53 : decode cX3_putFrom 53 = .ok (.dup2, 1) := by decide +kernel
theorem dX3_putFrom_54 : decode cX3_putFrom 54 = .ok (.iaload, 1) := by decide +kernel
theorem dX3_putFrom_55 : decode cX3_putFrom 55 = .ok (.iconst 1, 1) := by decide +kernel
theorem dX3_putFrom_56 : decode cX3_putFrom 56 = .ok (.iload_n 1, 1) := by decide +kernel
theorem dX3_putFrom_57 : decode cX3_putFrom 57 = .ok (.ishl, 1) := by decide +kernel
theorem dX3_putFrom_58 : decode cX3_putFrom 58 = .ok (.ior, 1) := by decide +kernel
theorem dX3_putFrom_59 : decode cX3_putFrom 59 = .ok (.iastore, 1) := by decide +kernel
theorem dX3_putFrom_60 : decode cX3_putFrom 60 = .ok (.aload_n 0, 1) := by decide +kernel
theorem dX3_putFrom_61 : decode cX3_putFrom 61 = .ok (.iload_n 1, 1) := by decide +kernel
theorem dX3_putFrom_62 : decode cX3_putFrom 62 = .ok (.iconst 1, 1) := by decide +kernel
theorem dX3_putFrom_63 : decode cX3_putFrom 63 = .ok (.iadd, 1) := by decide +kernel
theorem dX3_putFrom_64 : decode cX3_putFrom 64 = .ok (.iload_n 2, 1) := by decide +kernel
theorem dX3_putFrom_65 : decode cX3_putFrom 65 = .ok (.invokevirtual 31, 3) := by decide +kernel
theorem dX3_putFrom_68 : decode cX3_putFrom 68 = .ok (.aload_n 0, 1) := by decide +kernel
theorem dX3_putFrom_69 : decode cX3_putFrom 69 = .ok (.getfield 15, 3) := by decide +kernel
theorem dX3_putFrom_72 : decode cX3_putFrom 72 = .ok (.iload_n 3, 1) := by decide +kernel
theorem dX3_putFrom_73 : decode cX3_putFrom 73 = .ok (.dup2, 1) := by decide +kernel
theorem dX3_putFrom_74 : decode cX3_putFrom 74 = .ok (.iaload, 1) := by decide +kernel
theorem dX3_putFrom_75 : decode cX3_putFrom 75 = .ok (.iconst 1, 1) := by decide +kernel
theorem dX3_putFrom_76 : decode cX3_putFrom 76 = .ok (.iload_n 1, 1) := by decide +kernel
theorem dX3_putFrom_77 : decode cX3_putFrom 77 = .ok (.ishl, 1) := by decide +kernel
theorem dX3_putFrom_78 : decode cX3_putFrom 78 = .ok (.iconst (-1), 1) := by decide +kernel
theorem dX3_putFrom_79 : decode cX3_putFrom 79 = .ok (.ixor, 1) := by decide +kernel
theorem dX3_putFrom_80 : decode cX3_putFrom 80 = .ok (.iand, 1) := by decide +kernel
theorem dX3_putFrom_81 : decode cX3_putFrom 81 = .ok (.iastore, 1) := by decide +kernel
theorem dX3_putFrom_82 : decode cX3_putFrom 82 = .ok (.iinc 3 1, 3) := by decide +kernel
theorem dX3_putFrom_85 : decode cX3_putFrom 85 = .ok (.goto (-60), 3) := by decide +kernel
theorem dX3_putFrom_88 : decode cX3_putFrom 88 = .ok (.aload_n 0, 1) := by decide +kernel
theorem dX3_putFrom_89 : decode cX3_putFrom 89 = .ok (.getfield 15, 3) := by decide +kernel
theorem dX3_putFrom_92 : decode cX3_putFrom 92 = .ok (.iload_n 2, 1) := by decide +kernel
theorem dX3_putFrom_93 : decode cX3_putFrom 93 = .ok (.iconst 1, 1) := by decide +kernel
theorem dX3_putFrom_94 : decode cX3_putFrom 94 = .ok (.iload_n 1, 1) := by decide +kernel
theorem dX3_putFrom_95 : decode cX3_putFrom 95 = .ok (.ishl, 1) := by decide +kernel
theorem dX3_putFrom_96 : decode cX3_putFrom 96 = .ok (.iastore, 1) := by decide +kernel
theorem dX3_putFrom_97 : decode cX3_putFrom 97 = .ok (.aload_n 0, 1) := by decide +kernel
theorem dX3_putFrom_98 : decode cX3_putFrom 98 = .ok (.iload_n 1, 1) := by decide +kernel
theorem dX3_putFrom_99 : decode cX3_putFrom 99 = .ok (.iconst 1, 1) := by decide +kernel
theorem dX3_putFrom_100 : decode cX3_putFrom 100 = .ok (.iadd, 1) := by decide +kernel
theorem dX3_putFrom_101 : decode cX3_putFrom 101 = .ok (.iload_n 2, 1) := by decide +kernel
theorem dX3_putFrom_102 : decode cX3_putFrom 102 = .ok (.iconst 1, 1) := by decide +kernel
theorem dX3_putFrom_103 : decode cX3_putFrom 103 = .ok (.iadd, 1) := by decide +kernel
theorem dX3_putFrom_104 : decode cX3_putFrom 104 = .ok (.invokevirtual 31, 3) := by decide +kernel
theorem dX3_putFrom_107 : decode cX3_putFrom 107 = .ok (.return_, 1) := by decide +kernel
theorem dX4_init_0 : decode cX4_init 0 = .ok (.aload_n 0, 1) := by decide +kernel
theorem dX4_init_1 : decode cX4_init 1 = .ok (.invokespecial 3, 3) := by decide +kernel
theorem dX4_init_4 : decode cX4_init 4 = .ok (.aload_n 0, 1) := by decide +kernel
theorem dX4_init_5 : decode cX4_init 5 = .ok (.bipush 12, 2) := by decide +kernel
theorem dX4_init_7 : decode cX4_init 7 = .ok (.newarray .int, 2) := by decide +kernel
theorem dX4_init_9 : decode cX4_init 9 = .ok (.putfield 9, 3) := by decide +kernel
theorem dX4_init_12 : decode cX4_init 12 = .ok (.aload_n 0, 1) := by decide +kernel
theorem dX4_init_13 : decode cX4_init 13 = .ok (.iconst 0, 1) := by decide +kernel
theorem dX4_init_14 : decode cX4_init 14 = .ok (.putfield 15, 3) := by decide +kernel
theorem dX4_init_17 : decode cX4_init 17 = .ok (.aload_n 0, 1) := by decide +kernel
theorem dX4_init_18 : decode cX4_init 18 = .ok (.iconst 0, 1) := by decide +kernel
theorem dX4_init_19 : decode cX4_init 19 = .ok (.putfield 19, 3) := by decide +kernel
theorem dX4_init_22 : decode cX4_init 22 = .ok (.return_, 1) := by decide +kernel
theorem dX4_isMissing_0 : decode cX4_isMissing 0 = .ok (.aload_n 0, 1) := by decide +kernel
theorem dX4_isMissing_1 : decode cX4_isMissing 1 = .ok (.getfield 15, 3) := by decide +kernel
theorem dX4_isMissing_4 : decode cX4_isMissing 4 = .ok (.ifCond .ne 7, 3) := by decide +kernel
theorem dX4_isMissing_7 : decode cX4_isMissing 7 = .ok (.iconst 1, 1) := by decide +kernel
theorem dX4_isMissing_8 : decode cX4_isMissing 8 = .ok (.goto 4, 3) := by decide +kernel
theorem dX4_isMissing_11 : decode cX4_isMissing 11 = .ok (.iconst 0, 1) := by decide +kernel
theorem dX4_isMissing_12 : decode cX4_isMissing 12 = .ok (.ireturn, 1) := by decide +kernel
theorem dX4_begin_0 : decode cX4_begin 0 = .ok (.aload_n 0, 1) := by decide +kernel
theorem dX4_begin_1 : decode cX4_begin 1 = .ok (.iload_n 1, 1) := by decide +kernel
theorem dX4_begin_2 : decode cX4_begin 2 = .ok (.putfield 15, 3) := by decide +kernel
theorem dX4_begin_5 : decode cX4_begin 5 = .ok (.aload_n 0, 1) := by decide +kernel
theorem dX4_begin_6 : decode cX4_begin 6 = .ok (.iload_n 1, 1) := by decide +kernel
theorem dX4_begin_7 : decode cX4_begin 7 = .ok (.ifCond .ne 7, 3) := by decide +kernel
theorem dX4_begin_10 : decode cX4_begin 10 = .ok (.iconst 0, 1) := by decide +kernel
theorem dX4_begin_11 : decode cX4_begin 11 = .ok (.goto 4, 3) := by decide +kernel
theorem dX4_begin_14 : decode cX4_begin 14 = .ok (.iload_n 2, 1) := by decide +kernel
theorem dX4_begin_15 : decode cX4_begin 15 = .ok (.putfield 19, 3) := by decide +kernel
theorem dX4_begin_18 : decode cX4_begin 18 = .ok (.iconst 0, 1) := by decide +kernel
theorem dX4_begin_19 : decode cX4_begin 19 = .ok (.istore_n 3, 1) := by decide +kernel
theorem dX4_begin_20 : decode cX4_begin 20 = .ok (.iload_n 3, 1) := by decide +kernel
theorem dX4_begin_21 : decode cX4_begin 21 = .ok (.bipush 12, 2) := by decide +kernel
theorem dX4_begin_23 : decode cX4_begin 23 = .ok (.if_icmp .ge 16, 3) := by decide +kernel
theorem dX4_begin_26 : decode cX4_begin 26 = .ok (.aload_n 0, 1) := by decide +kernel
theorem dX4_begin_27 : decode cX4_begin 27 = .ok (.getfield 9, 3) := by decide +kernel
theorem dX4_begin_30 : decode cX4_begin 30 = .ok (.iload_n 3, 1) := by decide +kernel
theorem dX4_begin_31 : decode cX4_begin 31 = .ok (.iconst 0, 1) := by decide +kernel
theorem dX4_begin_32 : decode cX4_begin 32 = .ok (.iastore, 1) := by decide +kernel
theorem dX4_begin_33 : decode cX4_begin 33 = .ok (.iinc 3 1, 3) := by decide +kernel
theorem dX4_begin_36 : decode cX4_begin 36 = .ok (.goto (-16), 3) := by decide +kernel
theorem dX4_begin_39 : decode cX4_begin 39 = .ok (.return_, 1) := by decide +kernel
theorem dX4_replace_0 : decode cX4_replace 0 = .ok (.aload_n 0, 1) := by decide +kernel
theorem dX4_replace_1 : decode cX4_replace 1 = .ok (.getfield 9, 3) := by decide +kernel
theorem dX4_replace_4 : decode cX4_replace 4 = .ok (.iload_n 1, 1) := by decide +kernel
theorem dX4_replace_5 : decode cX4_replace 5 = .ok (.iaload, 1) := by decide +kernel
theorem dX4_replace_6 : decode cX4_replace 6 = .ok (.istore_n 3, 1) := by decide +kernel
theorem dX4_replace_7 : decode cX4_replace 7 = .ok (.aload_n 0, 1) := by decide +kernel
theorem dX4_replace_8 : decode cX4_replace 8 = .ok (.getfield 9, 3) := by decide +kernel
theorem dX4_replace_11 : decode cX4_replace 11 = .ok (.iload_n 1, 1) := by decide +kernel
theorem dX4_replace_12 : decode cX4_replace 12 = .ok (.aload_n 0, 1) := by decide +kernel
theorem dX4_replace_13 : decode cX4_replace 13 = .ok (.iload_n 2, 1) := by decide +kernel
theorem dX4_replace_14 : decode cX4_replace 14 = .ok (.invokevirtual 22, 3) := by decide +kernel
theorem dX4_replace_17 : decode cX4_replace 17 = .ok (.iastore, 1) := by decide +kernel
theorem dX4_replace_18 : decode cX4_replace 18 = .ok (.iload_n 3, 1) := by decide +kernel
theorem dX4_replace_19 : decode cX4_replace 19 = .ok (.ireturn, 1) := by decide +kernel
theorem dX4_lowestBits_0 : decode cX4_lowestBits 0 = .ok (.aload_n 0, 1) := by decide +kernel
theorem dX4_lowestBits_1 : decode cX4_lowestBits 1 = .ok (.getfield 15, 3) := by decide +kernel
theorem dX4_lowestBits_4 : decode cX4_lowestBits 4 = .ok (.bipush 8, 2) := by decide +kernel
theorem dX4_lowestBits_6 : decode cX4_lowestBits 6 = .ok (.if_icmp .ne 6, 3) := by decide +kernel
theorem dX4_lowestBits_9 : decode cX4_lowestBits 9 = .ok (.iload_n 1, 1) := by decide +kernel
theorem dX4_lowestBits_10 : decode cX4_lowestBits 10 = .ok (.i2b, 1) := by decide +kernel
theorem dX4_lowestBits_11 : decode cX4_lowestBits 11 = .ok (.ireturn, 1) := by decide +kernel
theorem dX4_lowestBits_12 : decode cX4_lowestBits 12 = .ok (.aload_n 0, 1) := by decide +kernel
theorem dX4_lowestBits_13 : decode cX4_lowestBits 13 = .ok (.getfield 15, 3) := by decide +kernel
theorem dX4_lowestBits_16 : decode cX4_lowestBits 16 = .ok (.bipush 16, 2) := by decide +kernel
theorem dX4_lowestBits_18 : decode cX4_lowestBits 18 = .ok (.if_icmp .ne 8, 3) := by decide +kernel
theorem dX4_lowestBits_21 : decode cX4_lowestBits 21 = .ok (.iload_n 1, 1) := by decide +kernel
theorem dX4_lowestBits_22 : decode cX4_lowestBits 22 = .ok (.i2s, 1) := by decide +kernel
theorem dX4_lowestBits_23 : decode cX4_lowestBits 23 = .ok (.goto 4, 3) := by decide +kernel
theorem dX4_lowestBits_26 : decode cX4_lowestBits 26 = .ok (.iload_n 1, 1) := by decide +kernel
theorem dX4_lowestBits_27 : decode cX4_lowestBits 27 = .ok (.ireturn, 1) := by decide +kernel
theorem dX4_hasRange_0 : decode cX4_hasRange 0 = .ok (.iload_n 1, 1) := by decide +kernel
theorem dX4_hasRange_1 : decode cX4_hasRange 1 = .ok (.ifCond .lt 21, 3) := by decide +kernel
theorem dX4_hasRange_4 : decode cX4_hasRange 4 = .ok (.iload_n 2, 1) := by decide +kernel
theorem dX4_hasRange_5 : decode cX4_hasRange 5 = .ok (.ifCond .lt 17, 3) := by decide +kernel
theorem dX4_hasRange_8 : decode cX4_hasRange 8 = .ok (.iload_n 2, 1) := by decide +kernel
theorem dX4_hasRange_9 : decode cX4_hasRange 9 = .ok (.aload_n 0, 1) := by decide +kernel
theorem dX4_hasRange_10 : decode cX4_hasRange 10 = .ok (.getfield 19, 3) := by decide +kernel
theorem dX4_hasRange_13 : decode cX4_hasRange 13 = .ok (.iload_n 1, 1) := by decide +kernel
theorem dX4_hasRange_14 : decode cX4_hasRange 14 = .ok (.isub, 1) := by decide +kernel
theorem dX4_hasRange_15 : decode cX4_hasRange 15 = .ok (.if_icmp .gt 7, 3) := by decide +kernel
theorem dX4_hasRange_18 : decode cX4_hasRange 18 = .ok (.iconst 1, 1) := by decide +kernel
theorem dX4_hasRange_19 : decode cX4_hasRange 19 = .ok (.goto 4, 3) := by decide +kernel
theorem dX4_hasRange_22 : decode cX4_hasRange 22 = .ok (.iconst 0, 1) := by decide +kernel
theorem dX4_hasRange_23 : decode cX4_hasRange 23 = .ok (.ireturn, 1) := by decide +kernel
theorem dX4_holdsPlacesAlone_0 : decode cX4_holdsPlacesAlone 0 = .ok (.iconst 0, 1) := by decide +kernel
theorem dX4_holdsPlacesAlone_1 : decode cX4_holdsPlacesAlone 1 = .ok (.istore_n 1, 1) := by decide +kernel
theorem dX4_holdsPlacesAlone_2 : decode cX4_holdsPlacesAlone 2 = .ok (.iload_n 1, 1) := by decide +kernel
theorem dX4_holdsPlacesAlone_3 : decode cX4_holdsPlacesAlone 3 = .ok (.aload_n 0, 1) := by decide +kernel
theorem dX4_holdsPlacesAlone_4 : decode cX4_holdsPlacesAlone 4 = .ok (.getfield 19, 3) := by decide +kernel
theorem dX4_holdsPlacesAlone_7 : decode cX4_holdsPlacesAlone 7 = .ok (.if_icmp .ge 23, 3) := by decide +kernel
theorem dX4_holdsPlacesAlone_10 : decode cX4_holdsPlacesAlone 10 = .ok (.aload_n 0, 1) := by decide +kernel
theorem dX4_holdsPlacesAlone_11 : decode cX4_holdsPlacesAlone 11 = .ok (.getfield 9, 3) := by decide +kernel
theorem dX4_holdsPlacesAlone_14 : decode cX4_holdsPlacesAlone 14 = .ok (.iload_n 1, 1) := by decide +kernel
theorem dX4_holdsPlacesAlone_15 : decode cX4_holdsPlacesAlone 15 = .ok (.iaload, 1) := by decide +kernel
theorem dX4_holdsPlacesAlone_16 : decode cX4_holdsPlacesAlone 16 = .ok (.invokestatic 26, 3) := by decide +kernel
theorem dX4_holdsPlacesAlone_19 : decode cX4_holdsPlacesAlone 19 = .ok (.ifCond .ne 5, 3) := by decide +kernel
theorem dX4_holdsPlacesAlone_22 : decode cX4_holdsPlacesAlone 22 = .ok (.iconst 0, 1) := by decide +kernel
theorem dX4_holdsPlacesAlone_23 : decode cX4_holdsPlacesAlone 23 = .ok (.ireturn, 1) := by decide +kernel
theorem dX4_holdsPlacesAlone_24 : decode cX4_holdsPlacesAlone 24 = .ok (.iinc 1 1, 3) := by decide +kernel
theorem dX4_holdsPlacesAlone_27 : decode cX4_holdsPlacesAlone 27 = .ok (.goto (-25), 3) := by decide +kernel
theorem dX4_holdsPlacesAlone_30 : decode cX4_holdsPlacesAlone 30 = .ok (.iconst 1, 1) := by decide +kernel
theorem dX4_holdsPlacesAlone_31 : decode cX4_holdsPlacesAlone 31 = .ok (.ireturn, 1) := by decide +kernel
theorem dX5_init_0 : decode cX5_init 0 = .ok (.aload_n 0, 1) := by decide +kernel
theorem dX5_init_1 : decode cX5_init 1 = .ok (.invokespecial 3, 3) := by decide +kernel
theorem dX5_init_4 : decode cX5_init 4 = .ok (.aload_n 0, 1) := by decide +kernel
theorem dX5_init_5 : decode cX5_init 5 = .ok (.bipush 6, 2) := by decide +kernel
theorem dX5_init_7 : decode cX5_init 7 = .ok (.newarray .int, 2) := by decide +kernel
theorem dX5_init_9 : decode cX5_init 9 = .ok (.putfield 9, 3) := by decide +kernel
theorem dX5_init_12 : decode cX5_init 12 = .ok (.aload_n 0, 1) := by decide +kernel
theorem dX5_init_13 : decode cX5_init 13 = .ok (.bipush 6, 2) := by decide +kernel
theorem dX5_init_15 : decode cX5_init 15 = .ok (.newarray .int, 2) := by decide +kernel
theorem dX5_init_17 : decode cX5_init 17 = .ok (.putfield 15, 3) := by decide +kernel
theorem dX5_init_20 : decode cX5_init 20 = .ok (.aload_n 0, 1) := by decide +kernel
theorem dX5_init_21 : decode cX5_init 21 = .ok (.bipush 6, 2) := by decide +kernel
theorem dX5_init_23 : decode cX5_init 23 = .ok (.newarray .int, 2) := by decide +kernel
theorem dX5_init_25 : decode cX5_init 25 = .ok (.putfield 18, 3) := by decide +kernel
theorem dX5_init_28 : decode cX5_init 28 = .ok (.return_, 1) := by decide +kernel
theorem dX5_countLook_0 : decode cX5_countLook 0 = .ok (.aload_n 0, 1) := by decide +kernel
theorem dX5_countLook_1 : decode cX5_countLook 1 = .ok (.getfield 15, 3) := by decide +kernel
theorem dX5_countLook_4 : decode cX5_countLook 4 = .ok (.iload_n 1, 1) := by decide +kernel
theorem dX5_countLook_5 : decode cX5_countLook 5 = .ok (.dup2, 1) := by decide +kernel
theorem dX5_countLook_6 : decode cX5_countLook 6 = .ok (.iaload, 1) := by decide +kernel
theorem dX5_countLook_7 : decode cX5_countLook 7 = .ok (.iconst 1, 1) := by decide +kernel
theorem dX5_countLook_8 : decode cX5_countLook 8 = .ok (.iadd, 1) := by decide +kernel
theorem dX5_countLook_9 : decode cX5_countLook 9 = .ok (.iastore, 1) := by decide +kernel
theorem dX5_countLook_10 : decode cX5_countLook 10 = .ok (.iload_n 2, 1) := by decide +kernel
theorem dX5_countLook_11 : decode cX5_countLook 11 = .ok (.ifCond .ne 13, 3) := by decide +kernel
theorem dX5_countLook_14 : decode cX5_countLook 14 = .ok (.aload_n 0, 1) := by decide +kernel
theorem dX5_countLook_15 : decode cX5_countLook 15 = .ok (.getfield 18, 3) := by decide +kernel
theorem dX5_countLook_18 : decode cX5_countLook 18 = .ok (.iload_n 1, 1) := by decide +kernel
theorem dX5_countLook_19 : decode cX5_countLook 19 = .ok (.dup2, 1) := by decide +kernel
theorem dX5_countLook_20 : decode cX5_countLook 20 = .ok (.iaload, 1) := by decide +kernel
theorem dX5_countLook_21 : decode cX5_countLook 21 = .ok (.iconst 1, 1) := by decide +kernel
theorem dX5_countLook_22 : decode cX5_countLook 22 = .ok (.iadd, 1) := by decide +kernel
theorem dX5_countLook_23 : decode cX5_countLook 23 = .ok (.iastore, 1) := by decide +kernel
theorem dX5_countLook_24 : decode cX5_countLook 24 = .ok (.return_, 1) := by decide +kernel
theorem dX5_allClosed_0 : decode cX5_allClosed 0 = .ok (.iconst 0, 1) := by decide +kernel
theorem dX5_allClosed_1 : decode cX5_allClosed 1 = .ok (.istore_n 1, 1) := by decide +kernel
theorem dX5_allClosed_2 : decode cX5_allClosed 2 = .ok (.iconst 0, 1) := by decide +kernel
theorem dX5_allClosed_3 : decode cX5_allClosed 3 = .ok (.istore_n 2, 1) := by decide +kernel
theorem dX5_allClosed_4 : decode cX5_allClosed 4 = .ok (.iload_n 2, 1) := by decide +kernel
theorem dX5_allClosed_5 : decode cX5_allClosed 5 = .ok (.bipush 6, 2) := by decide +kernel
theorem dX5_allClosed_7 : decode cX5_allClosed 7 = .ok (.if_icmp .ge 18, 3) := by decide +kernel
theorem dX5_allClosed_10 : decode cX5_allClosed 10 = .ok (.iload_n 1, 1) := by decide +kernel
theorem dX5_allClosed_11 : decode cX5_allClosed 11 = .ok (.aload_n 0, 1) := by decide +kernel
theorem dX5_allClosed_12 : decode cX5_allClosed 12 = .ok (.getfield 9, 3) := by decide +kernel
theorem dX5_allClosed_15 : decode cX5_allClosed 15 = .ok (.iload_n 2, 1) := by decide +kernel
theorem dX5_allClosed_16 : decode cX5_allClosed 16 = .ok (.iaload, 1) := by decide +kernel
theorem dX5_allClosed_17 : decode cX5_allClosed 17 = .ok (.iadd, 1) := by decide +kernel
theorem dX5_allClosed_18 : decode cX5_allClosed 18 = .ok (.istore_n 1, 1) := by decide +kernel
theorem dX5_allClosed_19 : decode cX5_allClosed 19 = .ok (.iinc 2 1, 3) := by decide +kernel
theorem dX5_allClosed_22 : decode cX5_allClosed 22 = .ok (.goto (-18), 3) := by decide +kernel
theorem dX5_allClosed_25 : decode cX5_allClosed 25 = .ok (.iload_n 1, 1) := by decide +kernel
theorem dX5_allClosed_26 : decode cX5_allClosed 26 = .ok (.ireturn, 1) := by decide +kernel
theorem dX5_detail_0 : decode cX5_detail 0 = .ok (.iload_n 2, 1) := by decide +kernel
theorem dX5_detail_1 : decode cX5_detail 1 = .ok (.tableswitch 48 0 2 #[27, 34, 41], 27) := by decide +kernel
theorem dX5_detail_28 : decode cX5_detail 28 = .ok (.aload_n 0, 1) := by decide +kernel
theorem dX5_detail_29 : decode cX5_detail 29 = .ok (.getfield 9, 3) := by decide +kernel
theorem dX5_detail_32 : decode cX5_detail 32 = .ok (.iload_n 1, 1) := by decide +kernel
theorem dX5_detail_33 : decode cX5_detail 33 = .ok (.iaload, 1) := by decide +kernel
theorem dX5_detail_34 : decode cX5_detail 34 = .ok (.ireturn, 1) := by decide +kernel
theorem dX5_detail_35 : decode cX5_detail 35 = .ok (.aload_n 0, 1) := by decide +kernel
theorem dX5_detail_36 : decode cX5_detail 36 = .ok (.getfield 15, 3) := by decide +kernel
theorem dX5_detail_39 : decode cX5_detail 39 = .ok (.iload_n 1, 1) := by decide +kernel
theorem dX5_detail_40 : decode cX5_detail 40 = .ok (.iaload, 1) := by decide +kernel
theorem dX5_detail_41 : decode cX5_detail 41 = .ok (.ireturn, 1) := by decide +kernel
theorem dX5_detail_42 : decode cX5_detail 42 = .ok (.aload_n 0, 1) := by decide +kernel
theorem dX5_detail_43 : decode cX5_detail 43 = .ok (.getfield 18, 3) := by decide +kernel
theorem dX5_detail_46 : decode cX5_detail 46 = .ok (.iload_n 1, 1) := by decide +kernel
theorem dX5_detail_47 : decode cX5_detail 47 = .ok (.iaload, 1) := by decide +kernel
theorem dX5_detail_48 : decode cX5_detail 48 = .ok (.ireturn, 1) := by decide +kernel
theorem dX5_detail_49 : decode cX5_detail 49 = .ok (.aload_n 0, 1) := by decide +kernel
theorem dX5_detail_50 : decode cX5_detail 50 = .ok (.getfield 18, 3) := by decide +kernel
theorem dX5_detail_53 : decode cX5_detail 53 = .ok (.iload_n 1, 1) := by decide +kernel
theorem dX5_detail_54 : decode cX5_detail 54 = .ok (.iaload, 1) := by decide +kernel
theorem dX5_detail_55 : decode cX5_detail 55 = .ok (.aload_n 0, 1) := by decide +kernel
theorem dX5_detail_56 : decode cX5_detail 56 = .ok (.getfield 9, 3) := by decide +kernel
theorem dX5_detail_59 : decode cX5_detail 59 = .ok (.iload_n 1, 1) := by decide +kernel
theorem dX5_detail_60 : decode cX5_detail 60 = .ok (.iaload, 1) := by decide +kernel
theorem dX5_detail_61 : decode cX5_detail 61 = .ok (.iadd, 1) := by decide +kernel
theorem dX5_detail_62 : decode cX5_detail 62 = .ok (.aload_n 0, 1) := by decide +kernel
theorem dX5_detail_63 : decode cX5_detail 63 = .ok (.getfield 15, 3) := by decide +kernel
theorem dX5_detail_66 : decode cX5_detail 66 = .ok (.iload_n 1, 1) := by decide +kernel
theorem dX5_detail_67 : decode cX5_detail 67 = .ok (.iaload, 1) := by decide +kernel
theorem dX5_detail_68 : decode cX5_detail 68 = .ok (.isub, 1) := by decide +kernel
theorem dX5_detail_69 : decode cX5_detail 69 = .ok (.ireturn, 1) := by decide +kernel
theorem dX6_init_0 : decode cX6_init 0 = .ok (.aload_n 0, 1) := by decide +kernel
theorem dX6_init_1 : decode cX6_init 1 = .ok (.invokespecial 1, 3) := by decide +kernel
theorem dX6_init_4 : decode cX6_init 4 = .ok (.aload_n 0, 1) := by decide +kernel
theorem dX6_init_5 : decode cX6_init 5 = .ok (.bipush 80, 2) := by decide +kernel
theorem dX6_init_7 : decode cX6_init 7 = .ok (.newarray .int, 2) := by decide +kernel
theorem dX6_init_9 : decode cX6_init 9 = .ok (.putfield 9, 3) := by decide +kernel
theorem dX6_init_12 : decode cX6_init 12 = .ok (.aload_n 0, 1) := by decide +kernel
theorem dX6_init_13 : decode cX6_init 13 = .ok (.iconst 0, 1) := by decide +kernel
theorem dX6_init_14 : decode cX6_init 14 = .ok (.putfield 13, 3) := by decide +kernel
theorem dX6_init_17 : decode cX6_init 17 = .ok (.return_, 1) := by decide +kernel
theorem dX6_append_0 : decode cX6_append 0 = .ok (.iconst 0, 1) := by decide +kernel
theorem dX6_append_1 : decode cX6_append 1 = .ok (.istore 4, 2) := by decide +kernel
theorem dX6_append_3 : decode cX6_append 3 = .ok (.iload 4, 2) := by decide +kernel
theorem dX6_append_5 : decode cX6_append 5 = .ok (.iload_n 3, 1) := by decide +kernel
theorem dX6_append_6 : decode cX6_append 6 = .ok (.if_icmp .ge 40, 3) := by decide +kernel
theorem dX6_append_9 : decode cX6_append 9 = .ok (.aload_n 0, 1) := by decide +kernel
theorem dX6_append_10 : decode cX6_append 10 = .ok (.getfield 9, 3) := by decide +kernel
theorem dX6_append_13 : decode cX6_append 13 = .ok (.aload_n 0, 1) := by decide +kernel
theorem dX6_append_14 : decode cX6_append 14 = .ok (.getfield 13, 3) := by decide +kernel
theorem dX6_append_17 : decode cX6_append 17 = .ok (.lload_n 1, 1) := by decide +kernel
theorem dX6_append_18 : decode cX6_append 18 = .ok (.bipush 8, 2) := by decide +kernel
theorem dX6_append_20 : decode cX6_append 20 = .ok (.iload 4, 2) := by decide +kernel
theorem dX6_append_22 : decode cX6_append 22 = .ok (.imul, 1) := by decide +kernel
theorem dX6_append_23 : decode cX6_append 23 = .ok (.lushr, 1) := by decide +kernel
theorem dX6_append_24 : decode cX6_append 24 = .ok (.l2i, 1) := by decide +kernel
theorem dX6_append_25 : decode cX6_append 25 = .ok (.sipush 255, 3) := by decide +kernel
theorem dX6_append_28 : decode cX6_append 28 = .ok (.iand, 1) := by decide +kernel
theorem dX6_append_29 : decode cX6_append 29 = .ok (.iastore, 1) := by decide +kernel
theorem dX6_append_30 : decode cX6_append 30 = .ok (.aload_n 0, 1) := by decide +kernel
theorem dX6_append_31 : decode cX6_append 31 = .ok (.dup, 1) := by decide +kernel
theorem dX6_append_32 : decode cX6_append 32 = .ok (.getfield 13, 3) := by decide +kernel
theorem dX6_append_35 : decode cX6_append 35 = .ok (.iconst 1, 1) := by decide +kernel
theorem dX6_append_36 : decode cX6_append 36 = .ok (.iadd, 1) := by decide +kernel
theorem dX6_append_37 : decode cX6_append 37 = .ok (.putfield 13, 3) := by decide +kernel
theorem dX6_append_40 : decode cX6_append 40 = .ok (.iinc 4 1, 3) := by decide +kernel
theorem dX6_append_43 : decode cX6_append 43 = .ok (.goto (-40), 3) := by decide +kernel
theorem dX6_append_46 : decode cX6_append 46 = .ok (.return_, 1) := by decide +kernel
theorem dX7_init_0 : decode cX7_init 0 = .ok (.aload_n 0, 1) := by decide +kernel
theorem dX7_init_1 : decode cX7_init 1 = .ok (.invokespecial 3, 3) := by decide +kernel
theorem dX7_init_4 : decode cX7_init 4 = .ok (.aload_n 0, 1) := by decide +kernel
theorem dX7_init_5 : decode cX7_init 5 = .ok (.bipush 40, 2) := by decide +kernel
theorem dX7_init_7 : decode cX7_init 7 = .ok (.newarray .int, 2) := by decide +kernel
theorem dX7_init_9 : decode cX7_init 9 = .ok (.putfield 9, 3) := by decide +kernel
theorem dX7_init_12 : decode cX7_init 12 = .ok (.aload_n 0, 1) := by decide +kernel
theorem dX7_init_13 : decode cX7_init 13 = .ok (.bipush 40, 2) := by decide +kernel
theorem dX7_init_15 : decode cX7_init 15 = .ok (.newarray .boolean, 2) := by decide +kernel
theorem dX7_init_17 : decode cX7_init 17 = .ok (.putfield 15, 3) := by decide +kernel
theorem dX7_init_20 : decode cX7_init 20 = .ok (.aload_n 0, 1) := by decide +kernel
theorem dX7_init_21 : decode cX7_init 21 = .ok (.bipush 40, 2) := by decide +kernel
theorem dX7_init_23 : decode cX7_init 23 = .ok (.newarray .int, 2) := by decide +kernel
theorem dX7_init_25 : decode cX7_init 25 = .ok (.putfield 19, 3) := by decide +kernel
theorem dX7_init_28 : decode cX7_init 28 = .ok (.aload_n 0, 1) := by decide +kernel
theorem dX7_init_29 : decode cX7_init 29 = .ok (.bipush 40, 2) := by decide +kernel
theorem dX7_init_31 : decode cX7_init 31 = .ok (.newarray .int, 2) := by decide +kernel
theorem dX7_init_33 : decode cX7_init 33 = .ok (.putfield 22, 3) := by decide +kernel
theorem dX7_init_36 : decode cX7_init 36 = .ok (.aload_n 0, 1) := by decide +kernel
theorem dX7_init_37 : decode cX7_init 37 = .ok (.bipush 40, 2) := by decide +kernel
theorem dX7_init_39 : decode cX7_init 39 = .ok (.newarray .int, 2) := by decide +kernel
theorem dX7_init_41 : decode cX7_init 41 = .ok (.putfield 25, 3) := by decide +kernel
theorem dX7_init_44 : decode cX7_init 44 = .ok (.aload_n 0, 1) := by decide +kernel
theorem dX7_init_45 : decode cX7_init 45 = .ok (.bipush 40, 2) := by decide +kernel
theorem dX7_init_47 : decode cX7_init 47 = .ok (.newarray .boolean, 2) := by decide +kernel
theorem dX7_init_49 : decode cX7_init 49 = .ok (.putfield 28, 3) := by decide +kernel
theorem dX7_init_52 : decode cX7_init 52 = .ok (.aload_n 0, 1) := by decide +kernel
theorem dX7_init_53 : decode cX7_init 53 = .ok (.iconst 0, 1) := by decide +kernel
theorem dX7_init_54 : decode cX7_init 54 = .ok (.putfield 31, 3) := by decide +kernel
theorem dX7_init_57 : decode cX7_init 57 = .ok (.return_, 1) := by decide +kernel
theorem dX7_begin_0 : decode cX7_begin 0 = .ok (.aload_n 0, 1) := by decide +kernel
theorem dX7_begin_1 : decode cX7_begin 1 = .ok (.getfield 31, 3) := by decide +kernel
theorem dX7_begin_4 : decode cX7_begin 4 = .ok (.istore_n 2, 1) := by decide +kernel
theorem dX7_begin_5 : decode cX7_begin 5 = .ok (.aload_n 0, 1) := by decide +kernel
theorem dX7_begin_6 : decode cX7_begin 6 = .ok (.getfield 9, 3) := by decide +kernel
theorem dX7_begin_9 : decode cX7_begin 9 = .ok (.iload_n 2, 1) := by decide +kernel
theorem dX7_begin_10 : decode cX7_begin 10 = .ok (.iload_n 1, 1) := by decide +kernel
theorem dX7_begin_11 : decode cX7_begin 11 = .ok (.iastore, 1) := by decide +kernel
theorem dX7_begin_12 : decode cX7_begin 12 = .ok (.aload_n 0, 1) := by decide +kernel
theorem dX7_begin_13 : decode cX7_begin 13 = .ok (.getfield 15, 3) := by decide +kernel
theorem dX7_begin_16 : decode cX7_begin 16 = .ok (.iload_n 2, 1) := by decide +kernel
theorem dX7_begin_17 : decode cX7_begin 17 = .ok (.iconst 1, 1) := by decide +kernel
theorem dX7_begin_18 : decode cX7_begin 18 = .ok (.bastore, 1) := by decide +kernel
theorem dX7_begin_19 : decode cX7_begin 19 = .ok (.aload_n 0, 1) := by decide +kernel
theorem dX7_begin_20 : decode cX7_begin 20 = .ok (.getfield 22, 3) := by decide +kernel
theorem dX7_begin_23 : decode cX7_begin 23 = .ok (.iload_n 2, 1) := by decide +kernel
theorem dX7_begin_24 : decode cX7_begin 24 = .ok (.iconst (-1), 1) := by decide +kernel
theorem dX7_begin_25 : decode cX7_begin 25 = .ok (.iastore, 1) := by decide +kernel
theorem dX7_begin_26 : decode cX7_begin 26 = .ok (.aload_n 0, 1) := by decide +kernel
theorem dX7_begin_27 : decode cX7_begin 27 = .ok (.dup, 1) := by decide +kernel
theorem dX7_begin_28 : decode cX7_begin 28 = .ok (.getfield 31, 3) := by decide +kernel
theorem dX7_begin_31 : decode cX7_begin 31 = .ok (.iconst 1, 1) := by decide +kernel
theorem dX7_begin_32 : decode cX7_begin 32 = .ok (.iadd, 1) := by decide +kernel
theorem dX7_begin_33 : decode cX7_begin 33 = .ok (.putfield 31, 3) := by decide +kernel
theorem dX7_begin_36 : decode cX7_begin 36 = .ok (.iload_n 2, 1) := by decide +kernel
theorem dX7_begin_37 : decode cX7_begin 37 = .ok (.ireturn, 1) := by decide +kernel
theorem dX7_shut_0 : decode cX7_shut 0 = .ok (.aload_n 0, 1) := by decide +kernel
theorem dX7_shut_1 : decode cX7_shut 1 = .ok (.getfield 15, 3) := by decide +kernel
theorem dX7_shut_4 : decode cX7_shut 4 = .ok (.iload_n 1, 1) := by decide +kernel
theorem dX7_shut_5 : decode cX7_shut 5 = .ok (.iconst 0, 1) := by decide +kernel
theorem dX7_shut_6 : decode cX7_shut 6 = .ok (.bastore, 1) := by decide +kernel
theorem dX7_shut_7 : decode cX7_shut 7 = .ok (.aload_n 0, 1) := by decide +kernel
theorem dX7_shut_8 : decode cX7_shut 8 = .ok (.getfield 19, 3) := by decide +kernel
theorem dX7_shut_11 : decode cX7_shut 11 = .ok (.iload_n 1, 1) := by decide +kernel
theorem dX7_shut_12 : decode cX7_shut 12 = .ok (.dup2, 1) := by decide +kernel
theorem dX7_shut_13 : decode cX7_shut 13 = .ok (.iaload, 1) := by decide +kernel
theorem dX7_shut_14 : decode cX7_shut 14 = .ok (.iconst 1, 1) := by decide +kernel
theorem dX7_shut_15 : decode cX7_shut 15 = .ok (.iadd, 1) := by decide +kernel
theorem dX7_shut_16 : decode cX7_shut 16 = .ok (.iastore, 1) := by decide +kernel
theorem dX7_shut_17 : decode cX7_shut 17 = .ok (.aload_n 0, 1) := by decide +kernel
theorem dX7_shut_18 : decode cX7_shut 18 = .ok (.getfield 22, 3) := by decide +kernel
theorem dX7_shut_21 : decode cX7_shut 21 = .ok (.iload_n 1, 1) := by decide +kernel
theorem dX7_shut_22 : decode cX7_shut 22 = .ok (.iload_n 2, 1) := by decide +kernel
theorem dX7_shut_23 : decode cX7_shut 23 = .ok (.iastore, 1) := by decide +kernel
theorem dX7_shut_24 : decode cX7_shut 24 = .ok (.aload_n 0, 1) := by decide +kernel
theorem dX7_shut_25 : decode cX7_shut 25 = .ok (.getfield 25, 3) := by decide +kernel
theorem dX7_shut_28 : decode cX7_shut 28 = .ok (.iload_n 1, 1) := by decide +kernel
theorem dX7_shut_29 : decode cX7_shut 29 = .ok (.iload_n 3, 1) := by decide +kernel
theorem dX7_shut_30 : decode cX7_shut 30 = .ok (.iastore, 1) := by decide +kernel
theorem dX7_shut_31 : decode cX7_shut 31 = .ok (.aload_n 0, 1) := by decide +kernel
theorem dX7_shut_32 : decode cX7_shut 32 = .ok (.getfield 28, 3) := by decide +kernel
theorem dX7_shut_35 : decode cX7_shut 35 = .ok (.iload_n 1, 1) := by decide +kernel
theorem dX7_shut_36 : decode cX7_shut 36 = .ok (.iconst 0, 1) := by decide +kernel
theorem dX7_shut_37 : decode cX7_shut 37 = .ok (.bastore, 1) := by decide +kernel
theorem dX7_shut_38 : decode cX7_shut 38 = .ok (.return_, 1) := by decide +kernel
theorem dX7_countOpen_0 : decode cX7_countOpen 0 = .ok (.iconst 0, 1) := by decide +kernel
theorem dX7_countOpen_1 : decode cX7_countOpen 1 = .ok (.istore_n 1, 1) := by decide +kernel
theorem dX7_countOpen_2 : decode cX7_countOpen 2 = .ok (.iconst 0, 1) := by decide +kernel
theorem dX7_countOpen_3 : decode cX7_countOpen 3 = .ok (.istore_n 2, 1) := by decide +kernel
theorem dX7_countOpen_4 : decode cX7_countOpen 4 = .ok (.iload_n 2, 1) := by decide +kernel
theorem dX7_countOpen_5 : decode cX7_countOpen 5 = .ok (.aload_n 0, 1) := by decide +kernel
theorem dX7_countOpen_6 : decode cX7_countOpen 6 = .ok (.getfield 31, 3) := by decide +kernel
theorem dX7_countOpen_9 : decode cX7_countOpen 9 = .ok (.if_icmp .ge 21, 3) := by decide +kernel
theorem dX7_countOpen_12 : decode cX7_countOpen 12 = .ok (.aload_n 0, 1) := by decide +kernel
theorem dX7_countOpen_13 : decode cX7_countOpen 13 = .ok (.getfield 15, 3) := by decide +kernel
theorem dX7_countOpen_16 : decode cX7_countOpen 16 = .ok (.iload_n 2, 1) := by decide +kernel
theorem dX7_countOpen_17 : decode cX7_countOpen 17 = .ok (.baload, 1) := by decide +kernel
theorem dX7_countOpen_18 : decode cX7_countOpen 18 = .ok (.ifCond .eq 6, 3) := by decide +kernel
theorem dX7_countOpen_21 : decode cX7_countOpen 21 = .ok (.iinc 1 1, 3) := by decide +kernel
theorem dX7_countOpen_24 : decode cX7_countOpen 24 = .ok (.iinc 2 1, 3) := by decide +kernel
theorem dX7_countOpen_27 : decode cX7_countOpen 27 = .ok (.goto (-23), 3) := by decide +kernel
theorem dX7_countOpen_30 : decode cX7_countOpen 30 = .ok (.iload_n 1, 1) := by decide +kernel
theorem dX7_countOpen_31 : decode cX7_countOpen 31 = .ok (.ireturn, 1) := by decide +kernel
theorem dJ6_bitCount_0f7a4_0 : decode cJ6_bitCount_0f7a4 0 = .ok (.iload_n 0, 1) := by decide +kernel
theorem dJ6_bitCount_0f7a4_1 : decode cJ6_bitCount_0f7a4 1 = .ok (.iload_n 0, 1) := by decide +kernel
theorem dJ6_bitCount_0f7a4_2 : decode cJ6_bitCount_0f7a4 2 = .ok (.iconst 1, 1) := by decide +kernel
theorem dJ6_bitCount_0f7a4_3 : decode cJ6_bitCount_0f7a4 3 = .ok (.iushr, 1) := by decide +kernel
theorem dJ6_bitCount_0f7a4_4 : decode cJ6_bitCount_0f7a4 4 = .ok (.ldc_w 265, 3) := by decide +kernel
theorem dJ6_bitCount_0f7a4_7 : decode cJ6_bitCount_0f7a4 7 = .ok (.iand, 1) := by decide +kernel
theorem dJ6_bitCount_0f7a4_8 : decode cJ6_bitCount_0f7a4 8 = .ok (.isub, 1) := by decide +kernel
theorem dJ6_bitCount_0f7a4_9 : decode cJ6_bitCount_0f7a4 9 = .ok (.istore_n 0, 1) := by decide +kernel
theorem dJ6_bitCount_0f7a4_10 : decode cJ6_bitCount_0f7a4 10 = .ok (.iload_n 0, 1) := by decide +kernel
theorem dJ6_bitCount_0f7a4_11 : decode cJ6_bitCount_0f7a4 11 = .ok (.ldc_w 266, 3) := by decide +kernel
theorem dJ6_bitCount_0f7a4_14 : decode cJ6_bitCount_0f7a4 14 = .ok (.iand, 1) := by decide +kernel
theorem dJ6_bitCount_0f7a4_15 : decode cJ6_bitCount_0f7a4 15 = .ok (.iload_n 0, 1) := by decide +kernel
theorem dJ6_bitCount_0f7a4_16 : decode cJ6_bitCount_0f7a4 16 = .ok (.iconst 2, 1) := by decide +kernel
theorem dJ6_bitCount_0f7a4_17 : decode cJ6_bitCount_0f7a4 17 = .ok (.iushr, 1) := by decide +kernel
theorem dJ6_bitCount_0f7a4_18 : decode cJ6_bitCount_0f7a4 18 = .ok (.ldc_w 266, 3) := by decide +kernel
theorem dJ6_bitCount_0f7a4_21 : decode cJ6_bitCount_0f7a4 21 = .ok (.iand, 1) := by decide +kernel
theorem dJ6_bitCount_0f7a4_22 : decode cJ6_bitCount_0f7a4 22 = .ok (.iadd, 1) := by decide +kernel
theorem dJ6_bitCount_0f7a4_23 : decode cJ6_bitCount_0f7a4 23 = .ok (.istore_n 0, 1) := by decide +kernel
theorem dJ6_bitCount_0f7a4_24 : decode cJ6_bitCount_0f7a4 24 = .ok (.iload_n 0, 1) := by decide +kernel
theorem dJ6_bitCount_0f7a4_25 : decode cJ6_bitCount_0f7a4 25 = .ok (.iload_n 0, 1) := by decide +kernel
theorem dJ6_bitCount_0f7a4_26 : decode cJ6_bitCount_0f7a4 26 = .ok (.iconst 4, 1) := by decide +kernel
theorem dJ6_bitCount_0f7a4_27 : decode cJ6_bitCount_0f7a4 27 = .ok (.iushr, 1) := by decide +kernel
theorem dJ6_bitCount_0f7a4_28 : decode cJ6_bitCount_0f7a4 28 = .ok (.iadd, 1) := by decide +kernel
theorem dJ6_bitCount_0f7a4_29 : decode cJ6_bitCount_0f7a4 29 = .ok (.ldc_w 267, 3) := by decide +kernel
theorem dJ6_bitCount_0f7a4_32 : decode cJ6_bitCount_0f7a4 32 = .ok (.iand, 1) := by decide +kernel
theorem dJ6_bitCount_0f7a4_33 : decode cJ6_bitCount_0f7a4 33 = .ok (.istore_n 0, 1) := by decide +kernel
theorem dJ6_bitCount_0f7a4_34 : decode cJ6_bitCount_0f7a4 34 = .ok (.iload_n 0, 1) := by decide +kernel
theorem dJ6_bitCount_0f7a4_35 : decode cJ6_bitCount_0f7a4 35 = .ok (.iload_n 0, 1) := by decide +kernel
theorem dJ6_bitCount_0f7a4_36 : decode cJ6_bitCount_0f7a4 36 = .ok (.bipush 8, 2) := by decide +kernel
theorem dJ6_bitCount_0f7a4_38 : decode cJ6_bitCount_0f7a4 38 = .ok (.iushr, 1) := by decide +kernel
theorem dJ6_bitCount_0f7a4_39 : decode cJ6_bitCount_0f7a4 39 = .ok (.iadd, 1) := by decide +kernel
theorem dJ6_bitCount_0f7a4_40 : decode cJ6_bitCount_0f7a4 40 = .ok (.istore_n 0, 1) := by decide +kernel
theorem dJ6_bitCount_0f7a4_41 : decode cJ6_bitCount_0f7a4 41 = .ok (.iload_n 0, 1) := by decide +kernel
theorem dJ6_bitCount_0f7a4_42 : decode cJ6_bitCount_0f7a4 42 = .ok (.iload_n 0, 1) := by decide +kernel
theorem dJ6_bitCount_0f7a4_43 : decode cJ6_bitCount_0f7a4 43 = .ok (.bipush 16, 2) := by decide +kernel
theorem dJ6_bitCount_0f7a4_45 : decode cJ6_bitCount_0f7a4 45 = .ok (.iushr, 1) := by decide +kernel
theorem dJ6_bitCount_0f7a4_46 : decode cJ6_bitCount_0f7a4 46 = .ok (.iadd, 1) := by decide +kernel
theorem dJ6_bitCount_0f7a4_47 : decode cJ6_bitCount_0f7a4 47 = .ok (.istore_n 0, 1) := by decide +kernel
theorem dJ6_bitCount_0f7a4_48 : decode cJ6_bitCount_0f7a4 48 = .ok (.iload_n 0, 1) := by decide +kernel
theorem dJ6_bitCount_0f7a4_49 : decode cJ6_bitCount_0f7a4 49 = .ok (.bipush 63, 2) := by decide +kernel
theorem dJ6_bitCount_0f7a4_51 : decode cJ6_bitCount_0f7a4 51 = .ok (.iand, 1) := by decide +kernel
theorem dJ6_bitCount_0f7a4_52 : decode cJ6_bitCount_0f7a4 52 = .ok (.ireturn, 1) := by decide +kernel
theorem dJ9_abs_0f7a4_0 : decode cJ9_abs_0f7a4 0 = .ok (.iload_n 0, 1) := by decide +kernel
theorem dJ9_abs_0f7a4_1 : decode cJ9_abs_0f7a4 1 = .ok (.ifCond .ge 8, 3) := by decide +kernel
theorem dJ9_abs_0f7a4_4 : decode cJ9_abs_0f7a4 4 = .ok (.iload_n 0, 1) := by decide +kernel
theorem dJ9_abs_0f7a4_5 : decode cJ9_abs_0f7a4 5 = .ok (.ineg, 1) := by decide +kernel
theorem dJ9_abs_0f7a4_6 : decode cJ9_abs_0f7a4 6 = .ok (.goto 4, 3) := by decide +kernel
theorem dJ9_abs_0f7a4_9 : decode cJ9_abs_0f7a4 9 = .ok (.iload_n 0, 1) := by decide +kernel
theorem dJ9_abs_0f7a4_10 : decode cJ9_abs_0f7a4 10 = .ok (.ireturn, 1) := by decide +kernel
