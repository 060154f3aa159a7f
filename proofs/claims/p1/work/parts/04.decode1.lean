theorem dX10_change_15 : decode cX10_change 15 = .ok (.aload_n 0, 1) := by decide +kernel
theorem dX10_change_16 : decode cX10_change 16 = .ok (.getfield 34, 3) := by decide +kernel
theorem dX10_change_19 : decode cX10_change 19 = .ok (.isub, 1) := by decide +kernel
theorem dX10_change_20 : decode cX10_change 20 = .ok (.goto 7, 3) := by decide +kernel
theorem dX10_change_23 : decode cX10_change 23 = .ok (.aload_n 0, 1) := by decide +kernel
theorem dX10_change_24 : decode cX10_change 24 = .ok (.getfield 41, 3) := by decide +kernel
theorem dX10_change_27 : decode cX10_change 27 = .ok (.putfield 41, 3) := by decide +kernel
theorem dX10_change_30 : decode cX10_change 30 = .ok (.aload_n 0, 1) := by decide +kernel
theorem dX10_change_31 : decode cX10_change 31 = .ok (.aload_n 0, 1) := by decide +kernel
theorem dX10_change_32 : decode cX10_change 32 = .ok (.getfield 34, 3) := by decide +kernel
theorem dX10_change_35 : decode cX10_change 35 = .ok (.iload_n 3, 1) := by decide +kernel
theorem dX10_change_36 : decode cX10_change 36 = .ok (.iadd, 1) := by decide +kernel
theorem dX10_change_37 : decode cX10_change 37 = .ok (.aload_n 0, 1) := by decide +kernel
theorem dX10_change_38 : decode cX10_change 38 = .ok (.getfield 44, 3) := by decide +kernel
theorem dX10_change_41 : decode cX10_change 41 = .ok (.if_icmp .le 12, 3) := by decide +kernel
theorem dX10_change_44 : decode cX10_change 44 = .ok (.aload_n 0, 1) := by decide +kernel
theorem dX10_change_45 : decode cX10_change 45 = .ok (.getfield 34, 3) := by decide +kernel
theorem dX10_change_48 : decode cX10_change 48 = .ok (.iload_n 3, 1) := by decide +kernel
theorem dX10_change_49 : decode cX10_change 49 = .ok (.iadd, 1) := by decide +kernel
theorem dX10_change_50 : decode cX10_change 50 = .ok (.goto 7, 3) := by decide +kernel
theorem dX10_change_53 : decode cX10_change 53 = .ok (.aload_n 0, 1) := by decide +kernel
theorem dX10_change_54 : decode cX10_change 54 = .ok (.getfield 44, 3) := by decide +kernel
theorem dX10_change_57 : decode cX10_change 57 = .ok (.putfield 44, 3) := by decide +kernel
theorem dX10_change_60 : decode cX10_change 60 = .ok (.aload_n 0, 1) := by decide +kernel
theorem dX10_change_61 : decode cX10_change 61 = .ok (.dup, 1) := by decide +kernel
theorem dX10_change_62 : decode cX10_change 62 = .ok (.getfield 34, 3) := by decide +kernel
theorem dX10_change_65 : decode cX10_change 65 = .ok (.iload_n 2, 1) := by decide +kernel
theorem dX10_change_66 : decode cX10_change 66 = .ok (.iload_n 1, 1) := by decide +kernel
theorem dX10_change_67 : decode cX10_change 67 = .ok (.isub, 1) := by decide +kernel
theorem dX10_change_68 : decode cX10_change 68 = .ok (.iadd, 1) := by decide +kernel
theorem dX10_change_69 : decode cX10_change 69 = .ok (.putfield 34, 3) := by decide +kernel
theorem dX10_change_72 : decode cX10_change 72 = .ok (.aload_n 0, 1) := by decide +kernel
theorem dX10_change_73 : decode cX10_change 73 = .ok (.getfield 41, 3) := by decide +kernel
theorem dX10_change_76 : decode cX10_change 76 = .ok (.bipush 6, 2) := by decide +kernel
theorem dX10_change_78 : decode cX10_change 78 = .ok (.if_icmp .gt 12, 3) := by decide +kernel
theorem dX10_change_81 : decode cX10_change 81 = .ok (.aload_n 0, 1) := by decide +kernel
theorem dX10_change_82 : decode cX10_change 82 = .ok (.getfield 44, 3) := by decide +kernel
theorem dX10_change_85 : decode cX10_change 85 = .ok (.bipush 12, 2) := by decide +kernel
theorem dX10_change_87 : decode cX10_change 87 = .ok (.if_icmp .le 8, 3) := by decide +kernel
theorem dX10_change_90 : decode cX10_change 90 = .ok (.bipush 7, 2) := by decide +kernel
theorem dX10_change_92 : decode cX10_change 92 = .ok (.goto 4, 3) := by decide +kernel
theorem dX10_change_95 : decode cX10_change 95 = .ok (.iconst 0, 1) := by decide +kernel
theorem dX10_change_96 : decode cX10_change 96 = .ok (.ireturn, 1) := by decide +kernel
theorem dX10_enter_0 : decode cX10_enter 0 = .ok (.aload_n 0, 1) := by decide +kernel
theorem dX10_enter_1 : decode cX10_enter 1 = .ok (.getfield 53, 3) := by decide +kernel
theorem dX10_enter_4 : decode cX10_enter 4 = .ok (.iconst 4, 1) := by decide +kernel
theorem dX10_enter_5 : decode cX10_enter 5 = .ok (.if_icmp .lt 5, 3) := by decide +kernel
theorem dX10_enter_8 : decode cX10_enter 8 = .ok (.iconst 2, 1) := by decide +kernel
theorem dX10_enter_9 : decode cX10_enter 9 = .ok (.ireturn, 1) := by decide +kernel
theorem dX10_enter_10 : decode cX10_enter 10 = .ok (.aload_n 0, 1) := by decide +kernel
theorem dX10_enter_11 : decode cX10_enter 11 = .ok (.getfield 9, 3) := by decide +kernel
theorem dX10_enter_14 : decode cX10_enter 14 = .ok (.aload_n 0, 1) := by decide +kernel
theorem dX10_enter_15 : decode cX10_enter 15 = .ok (.getfield 53, 3) := by decide +kernel
theorem dX10_enter_18 : decode cX10_enter 18 = .ok (.aload_n 0, 1) := by decide +kernel
theorem dX10_enter_19 : decode cX10_enter 19 = .ok (.getfield 34, 3) := by decide +kernel
theorem dX10_enter_22 : decode cX10_enter 22 = .ok (.iastore, 1) := by decide +kernel
theorem dX10_enter_23 : decode cX10_enter 23 = .ok (.aload_n 0, 1) := by decide +kernel
theorem dX10_enter_24 : decode cX10_enter 24 = .ok (.getfield 15, 3) := by decide +kernel
theorem dX10_enter_27 : decode cX10_enter 27 = .ok (.aload_n 0, 1) := by decide +kernel
theorem dX10_enter_28 : decode cX10_enter 28 = .ok (.getfield 53, 3) := by decide +kernel
theorem dX10_enter_31 : decode cX10_enter 31 = .ok (.aload_n 0, 1) := by decide +kernel
theorem dX10_enter_32 : decode cX10_enter 32 = .ok (.getfield 38, 3) := by decide +kernel
theorem dX10_enter_35 : decode cX10_enter 35 = .ok (.iastore, 1) := by decide +kernel
theorem dX10_enter_36 : decode cX10_enter 36 = .ok (.aload_n 0, 1) := by decide +kernel
theorem dX10_enter_37 : decode cX10_enter 37 = .ok (.getfield 18, 3) := by decide +kernel
theorem dX10_enter_40 : decode cX10_enter 40 = .ok (.aload_n 0, 1) := by decide +kernel
theorem dX10_enter_41 : decode cX10_enter 41 = .ok (.getfield 53, 3) := by decide +kernel
theorem dX10_enter_44 : decode cX10_enter 44 = .ok (.aload_n 0, 1) := by decide +kernel
theorem dX10_enter_45 : decode cX10_enter 45 = .ok (.getfield 34, 3) := by decide +kernel
theorem dX10_enter_48 : decode cX10_enter 48 = .ok (.iastore, 1) := by decide +kernel
theorem dX10_enter_49 : decode cX10_enter 49 = .ok (.aload_n 0, 1) := by decide +kernel
theorem dX10_enter_50 : decode cX10_enter 50 = .ok (.getfield 21, 3) := by decide +kernel
theorem dX10_enter_53 : decode cX10_enter 53 = .ok (.aload_n 0, 1) := by decide +kernel
theorem dX10_enter_54 : decode cX10_enter 54 = .ok (.getfield 53, 3) := by decide +kernel
theorem dX10_enter_57 : decode cX10_enter 57 = .ok (.aload_n 0, 1) := by decide +kernel
theorem dX10_enter_58 : decode cX10_enter 58 = .ok (.getfield 38, 3) := by decide +kernel
theorem dX10_enter_61 : decode cX10_enter 61 = .ok (.iastore, 1) := by decide +kernel
theorem dX10_enter_62 : decode cX10_enter 62 = .ok (.aload_n 0, 1) := by decide +kernel
theorem dX10_enter_63 : decode cX10_enter 63 = .ok (.getfield 24, 3) := by decide +kernel
theorem dX10_enter_66 : decode cX10_enter 66 = .ok (.aload_n 0, 1) := by decide +kernel
theorem dX10_enter_67 : decode cX10_enter 67 = .ok (.getfield 53, 3) := by decide +kernel
theorem dX10_enter_70 : decode cX10_enter 70 = .ok (.iload_n 1, 1) := by decide +kernel
theorem dX10_enter_71 : decode cX10_enter 71 = .ok (.iastore, 1) := by decide +kernel
theorem dX10_enter_72 : decode cX10_enter 72 = .ok (.aload_n 0, 1) := by decide +kernel
theorem dX10_enter_73 : decode cX10_enter 73 = .ok (.getfield 27, 3) := by decide +kernel
theorem dX10_enter_76 : decode cX10_enter 76 = .ok (.aload_n 0, 1) := by decide +kernel
theorem dX10_enter_77 : decode cX10_enter 77 = .ok (.getfield 53, 3) := by decide +kernel
theorem dX10_enter_80 : decode cX10_enter 80 = .ok (.aload_n 0, 1) := by decide +kernel
theorem dX10_enter_81 : decode cX10_enter 81 = .ok (.getfield 50, 3) := by decide +kernel
theorem dX10_enter_84 : decode cX10_enter 84 = .ok (.iconst 1, 1) := by decide +kernel
theorem dX10_enter_85 : decode cX10_enter 85 = .ok (.iadd, 1) := by decide +kernel
theorem dX10_enter_86 : decode cX10_enter 86 = .ok (.iastore, 1) := by decide +kernel
theorem dX10_enter_87 : decode cX10_enter 87 = .ok (.aload_n 0, 1) := by decide +kernel
theorem dX10_enter_88 : decode cX10_enter 88 = .ok (.iconst 0, 1) := by decide +kernel
theorem dX10_enter_89 : decode cX10_enter 89 = .ok (.putfield 50, 3) := by decide +kernel
theorem dX10_enter_92 : decode cX10_enter 92 = .ok (.aload_n 0, 1) := by decide +kernel
theorem dX10_enter_93 : decode cX10_enter 93 = .ok (.dup, 1) := by decide +kernel
theorem dX10_enter_94 : decode cX10_enter 94 = .ok (.getfield 53, 3) := by decide +kernel
theorem dX10_enter_97 : decode cX10_enter 97 = .ok (.iconst 1, 1) := by decide +kernel
theorem dX10_enter_98 : decode cX10_enter 98 = .ok (.iadd, 1) := by decide +kernel
theorem dX10_enter_99 : decode cX10_enter 99 = .ok (.putfield 53, 3) := by decide +kernel
theorem dX10_enter_102 : decode cX10_enter 102 = .ok (.iconst 0, 1) := by decide +kernel
theorem dX10_enter_103 : decode cX10_enter 103 = .ok (.ireturn, 1) := by decide +kernel
theorem dX10_passElse_0 : decode cX10_passElse 0 = .ok (.aload_n 0, 1) := by decide +kernel
theorem dX10_passElse_1 : decode cX10_passElse 1 = .ok (.getfield 53, 3) := by decide +kernel
theorem dX10_passElse_4 : decode cX10_passElse 4 = .ok (.ifCond .ne 5, 3) := by decide +kernel
theorem dX10_passElse_7 : decode cX10_passElse 7 = .ok (.iconst 2, 1) := by decide +kernel
theorem dX10_passElse_8 : decode cX10_passElse 8 = .ok (.ireturn, 1) := by decide +kernel
theorem dX10_passElse_9 : decode cX10_passElse 9 = .ok (.aload_n 0, 1) := by decide +kernel
theorem dX10_passElse_10 : decode cX10_passElse 10 = .ok (.getfield 53, 3) := by decide +kernel
theorem dX10_passElse_13 : decode cX10_passElse 13 = .ok (.iconst 1, 1) := by decide +kernel
theorem dX10_passElse_14 : decode cX10_passElse 14 = .ok (.isub, 1) := by decide +kernel
theorem dX10_passElse_15 : decode cX10_passElse 15 = .ok (.istore_n 1, 1) := by decide +kernel
theorem dX10_passElse_16 : decode cX10_passElse 16 = .ok (.aload_n 0, 1) := by decide +kernel
theorem dX10_passElse_17 : decode cX10_passElse 17 = .ok (.getfield 18, 3) := by decide +kernel
theorem dX10_passElse_20 : decode cX10_passElse 20 = .ok (.iload_n 1, 1) := by decide +kernel
theorem dX10_passElse_21 : decode cX10_passElse 21 = .ok (.aload_n 0, 1) := by decide +kernel
theorem dX10_passElse_22 : decode cX10_passElse 22 = .ok (.getfield 34, 3) := by decide +kernel
theorem dX10_passElse_25 : decode cX10_passElse 25 = .ok (.iastore, 1) := by decide +kernel
theorem dX10_passElse_26 : decode cX10_passElse 26 = .ok (.aload_n 0, 1) := by decide +kernel
theorem dX10_passElse_27 : decode cX10_passElse 27 = .ok (.getfield 21, 3) := by decide +kernel
theorem dX10_passElse_30 : decode cX10_passElse 30 = .ok (.iload_n 1, 1) := by decide +kernel
theorem dX10_passElse_31 : decode cX10_passElse 31 = .ok (.aload_n 0, 1) := by decide +kernel
theorem dX10_passElse_32 : decode cX10_passElse 32 = .ok (.getfield 38, 3) := by decide +kernel
theorem dX10_passElse_35 : decode cX10_passElse 35 = .ok (.iastore, 1) := by decide +kernel
theorem dX10_passElse_36 : decode cX10_passElse 36 = .ok (.aload_n 0, 1) := by decide +kernel
theorem dX10_passElse_37 : decode cX10_passElse 37 = .ok (.getfield 24, 3) := by decide +kernel
theorem dX10_passElse_40 : decode cX10_passElse 40 = .ok (.iload_n 1, 1) := by decide +kernel
theorem dX10_passElse_41 : decode cX10_passElse 41 = .ok (.aload_n 0, 1) := by decide +kernel
theorem dX10_passElse_42 : decode cX10_passElse 42 = .ok (.getfield 50, 3) := by decide +kernel
theorem dX10_passElse_45 : decode cX10_passElse 45 = .ok (.iastore, 1) := by decide +kernel
theorem dX10_passElse_46 : decode cX10_passElse 46 = .ok (.aload_n 0, 1) := by decide +kernel
theorem dX10_passElse_47 : decode cX10_passElse 47 = .ok (.aload_n 0, 1) := by decide +kernel
theorem dX10_passElse_48 : decode cX10_passElse 48 = .ok (.getfield 9, 3) := by decide +kernel
theorem dX10_passElse_51 : decode cX10_passElse 51 = .ok (.iload_n 1, 1) := by decide +kernel
theorem dX10_passElse_52 : decode cX10_passElse 52 = .ok (.iaload, 1) := by decide +kernel
theorem dX10_passElse_53 : decode cX10_passElse 53 = .ok (.putfield 34, 3) := by decide +kernel
theorem dX10_passElse_56 : decode cX10_passElse 56 = .ok (.aload_n 0, 1) := by decide +kernel
theorem dX10_passElse_57 : decode cX10_passElse 57 = .ok (.aload_n 0, 1) := by decide +kernel
theorem dX10_passElse_58 : decode cX10_passElse 58 = .ok (.getfield 15, 3) := by decide +kernel
theorem dX10_passElse_61 : decode cX10_passElse 61 = .ok (.iload_n 1, 1) := by decide +kernel
theorem dX10_passElse_62 : decode cX10_passElse 62 = .ok (.iaload, 1) := by decide +kernel
theorem dX10_passElse_63 : decode cX10_passElse 63 = .ok (.putfield 38, 3) := by decide +kernel
theorem dX10_passElse_66 : decode cX10_passElse 66 = .ok (.aload_n 0, 1) := by decide +kernel
theorem dX10_passElse_67 : decode cX10_passElse 67 = .ok (.iconst 0, 1) := by decide +kernel
theorem dX10_passElse_68 : decode cX10_passElse 68 = .ok (.putfield 50, 3) := by decide +kernel
theorem dX10_passElse_71 : decode cX10_passElse 71 = .ok (.iconst 0, 1) := by decide +kernel
theorem dX10_passElse_72 : decode cX10_passElse 72 = .ok (.ireturn, 1) := by decide +kernel
theorem dX10_passThen_0 : decode cX10_passThen 0 = .ok (.aload_n 0, 1) := by decide +kernel
theorem dX10_passThen_1 : decode cX10_passThen 1 = .ok (.getfield 53, 3) := by decide +kernel
theorem dX10_passThen_4 : decode cX10_passThen 4 = .ok (.ifCond .ne 5, 3) := by decide +kernel
theorem dX10_passThen_7 : decode cX10_passThen 7 = .ok (.iconst 2, 1) := by decide +kernel
theorem dX10_passThen_8 : decode cX10_passThen 8 = .ok (.ireturn, 1) := by decide +kernel
theorem dX10_passThen_9 : decode cX10_passThen 9 = .ok (.aload_n 0, 1) := by decide +kernel
theorem dX10_passThen_10 : decode cX10_passThen 10 = .ok (.dup, 1) := by decide +kernel
theorem dX10_passThen_11 : decode cX10_passThen 11 = .ok (.getfield 53, 3) := by decide +kernel
theorem dX10_passThen_14 : decode cX10_passThen 14 = .ok (.iconst 1, 1) := by decide +kernel
theorem dX10_passThen_15 : decode cX10_passThen 15 = .ok (.isub, 1) := by decide +kernel
theorem dX10_passThen_16 : decode cX10_passThen 16 = .ok (.putfield 53, 3) := by decide +kernel
theorem dX10_passThen_19 : decode cX10_passThen 19 = .ok (.aload_n 0, 1) := by decide +kernel
theorem dX10_passThen_20 : decode cX10_passThen 20 = .ok (.aload_n 0, 1) := by decide +kernel
theorem dX10_passThen_21 : decode cX10_passThen 21 = .ok (.getfield 27, 3) := by decide +kernel
theorem dX10_passThen_24 : decode cX10_passThen 24 = .ok (.aload_n 0, 1) := by decide +kernel
theorem dX10_passThen_25 : decode cX10_passThen 25 = .ok (.getfield 53, 3) := by decide +kernel
theorem dX10_passThen_28 : decode cX10_passThen 28 = .ok (.iaload, 1) := by decide +kernel
theorem dX10_passThen_29 : decode cX10_passThen 29 = .ok (.aload_n 0, 1) := by decide +kernel
theorem dX10_passThen_30 : decode cX10_passThen 30 = .ok (.getfield 50, 3) := by decide +kernel
theorem dX10_passThen_33 : decode cX10_passThen 33 = .ok (.aload_n 0, 1) := by decide +kernel
theorem dX10_passThen_34 : decode cX10_passThen 34 = .ok (.getfield 24, 3) := by decide +kernel
theorem dX10_passThen_37 : decode cX10_passThen 37 = .ok (.aload_n 0, 1) := by decide +kernel
theorem dX10_passThen_38 : decode cX10_passThen 38 = .ok (.getfield 53, 3) := by decide +kernel
theorem dX10_passThen_41 : decode cX10_passThen 41 = .ok (.iaload, 1) := by decide +kernel
theorem dX10_passThen_42 : decode cX10_passThen 42 = .ok (.invokestatic 80, 3) := by decide +kernel
theorem dX10_passThen_45 : decode cX10_passThen 45 = .ok (.iadd, 1) := by decide +kernel
theorem dX10_passThen_46 : decode cX10_passThen 46 = .ok (.putfield 50, 3) := by decide +kernel
theorem dX10_passThen_49 : decode cX10_passThen 49 = .ok (.aload_n 0, 1) := by decide +kernel
theorem dX10_passThen_50 : decode cX10_passThen 50 = .ok (.getfield 34, 3) := by decide +kernel
theorem dX10_passThen_53 : decode cX10_passThen 53 = .ok (.aload_n 0, 1) := by decide +kernel
theorem dX10_passThen_54 : decode cX10_passThen 54 = .ok (.getfield 18, 3) := by decide +kernel
theorem dX10_passThen_57 : decode cX10_passThen 57 = .ok (.aload_n 0, 1) := by decide +kernel
theorem dX10_passThen_58 : decode cX10_passThen 58 = .ok (.getfield 53, 3) := by decide +kernel
theorem dX10_passThen_61 : decode cX10_passThen 61 = .ok (.iaload, 1) := by decide +kernel
theorem dX10_passThen_62 : decode cX10_passThen 62 = .ok (.if_icmp .ne 23, 3) := by decide +kernel
theorem dX10_passThen_65 : decode cX10_passThen 65 = .ok (.aload_n 0, 1) := by decide +kernel
theorem dX10_passThen_66 : decode cX10_passThen 66 = .ok (.getfield 38, 3) := by decide +kernel
theorem dX10_passThen_69 : decode cX10_passThen 69 = .ok (.aload_n 0, 1) := by decide +kernel
theorem dX10_passThen_70 : decode cX10_passThen 70 = .ok (.getfield 21, 3) := by decide +kernel
theorem dX10_passThen_73 : decode cX10_passThen 73 = .ok (.aload_n 0, 1) := by decide +kernel
theorem dX10_passThen_74 : decode cX10_passThen 74 = .ok (.getfield 53, 3) := by decide +kernel
theorem dX10_passThen_77 : decode cX10_passThen 77 = .ok (.iaload, 1) := by decide +kernel
theorem dX10_passThen_78 : decode cX10_passThen 78 = .ok (.if_icmp .ne 7, 3) := by decide +kernel
theorem dX10_passThen_81 : decode cX10_passThen 81 = .ok (.iconst 0, 1) := by decide +kernel
theorem dX10_passThen_82 : decode cX10_passThen 82 = .ok (.goto 5, 3) := by decide +kernel
theorem dX10_passThen_85 : decode cX10_passThen 85 = .ok (.bipush 6, 2) := by decide +kernel
theorem dX10_passThen_87 : decode cX10_passThen 87 = .ok (.ireturn, 1) := by decide +kernel
theorem dX10_passNext_0 : decode cX10_passNext 0 = .ok (.aload_n 0, 1) := by decide +kernel
theorem dX10_passNext_1 : decode cX10_passNext 1 = .ok (.getfield 53, 3) := by decide +kernel
theorem dX10_passNext_4 : decode cX10_passNext 4 = .ok (.ifCond .ne 5, 3) := by decide +kernel
theorem dX10_passNext_7 : decode cX10_passNext 7 = .ok (.iconst 2, 1) := by decide +kernel
theorem dX10_passNext_8 : decode cX10_passNext 8 = .ok (.ireturn, 1) := by decide +kernel
theorem dX10_passNext_9 : decode cX10_passNext 9 = .ok (.aload_n 0, 1) := by decide +kernel
theorem dX10_passNext_10 : decode cX10_passNext 10 = .ok (.dup, 1) := by decide +kernel
theorem dX10_passNext_11 : decode cX10_passNext 11 = .ok (.getfield 53, 3) := by decide +kernel
theorem dX10_passNext_14 : decode cX10_passNext 14 = .ok (.iconst 1, 1) := by decide +kernel
theorem dX10_passNext_15 : decode cX10_passNext 15 = .ok (.isub, 1) := by decide +kernel
theorem dX10_passNext_16 : decode cX10_passNext 16 = .ok (.putfield 53, 3) := by decide +kernel
theorem dX10_passNext_19 : decode cX10_passNext 19 = .ok (.aload_n 0, 1) := by decide +kernel
theorem dX10_passNext_20 : decode cX10_passNext 20 = .ok (.aload_n 0, 1) := by decide +kernel
theorem dX10_passNext_21 : decode cX10_passNext 21 = .ok (.getfield 27, 3) := by decide +kernel
theorem dX10_passNext_24 : decode cX10_passNext 24 = .ok (.aload_n 0, 1) := by decide +kernel
theorem dX10_passNext_25 : decode cX10_passNext 25 = .ok (.getfield 53, 3) := by decide +kernel
theorem dX10_passNext_28 : decode cX10_passNext 28 = .ok (.iaload, 1) := by decide +kernel
theorem dX10_passNext_29 : decode cX10_passNext 29 = .ok (.aload_n 0, 1) := by decide +kernel
theorem dX10_passNext_30 : decode cX10_passNext 30 = .ok (.getfield 24, 3) := by decide +kernel
theorem dX10_passNext_33 : decode cX10_passNext 33 = .ok (.aload_n 0, 1) := by decide +kernel
theorem dX10_passNext_34 : decode cX10_passNext 34 = .ok (.getfield 53, 3) := by decide +kernel
theorem dX10_passNext_37 : decode cX10_passNext 37 = .ok (.iaload, 1) := by decide +kernel
theorem dX10_passNext_38 : decode cX10_passNext 38 = .ok (.aload_n 0, 1) := by decide +kernel
theorem dX10_passNext_39 : decode cX10_passNext 39 = .ok (.getfield 50, 3) := by decide +kernel
theorem dX10_passNext_42 : decode cX10_passNext 42 = .ok (.imul, 1) := by decide +kernel
theorem dX10_passNext_43 : decode cX10_passNext 43 = .ok (.iadd, 1) := by decide +kernel
theorem dX10_passNext_44 : decode cX10_passNext 44 = .ok (.putfield 50, 3) := by decide +kernel
theorem dX10_passNext_47 : decode cX10_passNext 47 = .ok (.aload_n 0, 1) := by decide +kernel
theorem dX10_passNext_48 : decode cX10_passNext 48 = .ok (.getfield 34, 3) := by decide +kernel
theorem dX10_passNext_51 : decode cX10_passNext 51 = .ok (.aload_n 0, 1) := by decide +kernel
theorem dX10_passNext_52 : decode cX10_passNext 52 = .ok (.getfield 9, 3) := by decide +kernel
theorem dX10_passNext_55 : decode cX10_passNext 55 = .ok (.aload_n 0, 1) := by decide +kernel
theorem dX10_passNext_56 : decode cX10_passNext 56 = .ok (.getfield 53, 3) := by decide +kernel
theorem dX10_passNext_59 : decode cX10_passNext 59 = .ok (.iaload, 1) := by decide +kernel
theorem dX10_passNext_60 : decode cX10_passNext 60 = .ok (.if_icmp .ne 23, 3) := by decide +kernel
theorem dX10_passNext_63 : decode cX10_passNext 63 = .ok (.aload_n 0, 1) := by decide +kernel
theorem dX10_passNext_64 : decode cX10_passNext 64 = .ok (.getfield 38, 3) := by decide +kernel
theorem dX10_passNext_67 : decode cX10_passNext 67 = .ok (.aload_n 0, 1) := by decide +kernel
theorem dX10_passNext_68 : decode cX10_passNext 68 = .ok (.getfield 15, 3) := by decide +kernel
theorem dX10_passNext_71 : decode cX10_passNext 71 = .ok (.aload_n 0, 1) := by decide +kernel
theorem dX10_passNext_72 : decode cX10_passNext 72 = .ok (.getfield 53, 3) := by decide +kernel
theorem dX10_passNext_75 : decode cX10_passNext 75 = .ok (.iaload, 1) := by decide +kernel
theorem dX10_passNext_76 : decode cX10_passNext 76 = .ok (.if_icmp .ne 7, 3) := by decide +kernel
theorem dX10_passNext_79 : decode cX10_passNext 79 = .ok (.iconst 0, 1) := by decide +kernel
theorem dX10_passNext_80 : decode cX10_passNext 80 = .ok (.goto 5, 3) := by decide +kernel
theorem dX10_passNext_83 : decode cX10_passNext 83 = .ok (.bipush 6, 2) := by decide +kernel
theorem dX10_passNext_85 : decode cX10_passNext 85 = .ok (.ireturn, 1) := by decide +kernel
theorem dX11_init_0 : decode cX11_init 0 = .ok (.aload_n 0, 1) := by decide +kernel
theorem dX11_init_1 : decode cX11_init 1 = .ok (.invokespecial 1, 3) := by decide +kernel
theorem dX11_init_4 : decode cX11_init 4 = .ok (.aload_n 0, 1) := by decide +kernel
theorem dX11_init_5 : decode cX11_init 5 = .ok (.new 7, 3) := by decide +kernel
theorem dX11_init_8 : decode cX11_init 8 = .ok (.dup, 1) := by decide +kernel
theorem dX11_init_9 : decode cX11_init 9 = .ok (.invokespecial 9, 3) := by decide +kernel
theorem dX11_init_12 : decode cX11_init 12 = .ok (.putfield 10, 3) := by decide +kernel
theorem dX11_init_15 : decode cX11_init 15 = .ok (.aload_n 0, 1) := by decide +kernel
theorem dX11_init_16 : decode cX11_init 16 = .ok (.new 7, 3) := by decide +kernel
theorem dX11_init_19 : decode cX11_init 19 = .ok (.dup, 1) := by decide +kernel
theorem dX11_init_20 : decode cX11_init 20 = .ok (.invokespecial 9, 3) := by decide +kernel
theorem dX11_init_23 : decode cX11_init 23 = .ok (.putfield 16, 3) := by decide +kernel
theorem dX11_init_26 : decode cX11_init 26 = .ok (.aload_n 0, 1) := by decide +kernel
theorem dX11_init_27 : decode cX11_init 27 = .ok (.new 19, 3) := by decide +kernel
theorem dX11_init_30 : decode cX11_init 30 = .ok (.dup, 1) := by decide +kernel
theorem dX11_init_31 : decode cX11_init 31 = .ok (.invokespecial 21, 3) := by decide +kernel
theorem dX11_init_34 : decode cX11_init 34 = .ok (.putfield 22, 3) := by decide +kernel
theorem dX11_init_37 : decode cX11_init 37 = .ok (.aload_n 0, 1) := by decide +kernel
theorem dX11_init_38 : decode cX11_init 38 = .ok (.new 26, 3) := by decide +kernel
theorem dX11_init_41 : decode cX11_init 41 = .ok (.dup, 1) := by decide +kernel
theorem dX11_init_42 : decode cX11_init 42 = .ok (.invokespecial 28, 3) := by decide +kernel
theorem dX11_init_45 : decode cX11_init 45 = .ok (.putfield 29, 3) := by decide +kernel
theorem dX11_init_48 : decode cX11_init 48 = .ok (.aload_n 0, 1) := by decide +kernel
theorem dX11_init_49 : decode cX11_init 49 = .ok (.new 33, 3) := by decide +kernel
theorem dX11_init_52 : decode cX11_init 52 = .ok (.dup, 1) := by decide +kernel
theorem dX11_init_53 : decode cX11_init 53 = .ok (.invokespecial 35, 3) := by decide +kernel
theorem dX11_init_56 : decode cX11_init 56 = .ok (.putfield 36, 3) := by decide +kernel
theorem dX11_init_59 : decode cX11_init 59 = .ok (.aload_n 0, 1) := by decide +kernel
theorem dX11_init_60 : decode cX11_init 60 = .ok (.iconst 3, 1) := by decide +kernel
theorem dX11_init_61 : decode cX11_init 61 = .ok (.anewarray 40, 3) := by decide +kernel
theorem dX11_init_64 : decode cX11_init 64 = .ok (.putfield 42, 3) := by decide +kernel
theorem dX11_init_67 : decode cX11_init 67 = .ok (.aload_n 0, 1) := by decide +kernel
theorem dX11_init_68 : decode cX11_init 68 = .ok (.new 40, 3) := by decide +kernel
theorem dX11_init_71 : decode cX11_init 71 = .ok (.dup, 1) := by decide +kernel
theorem dX11_init_72 : decode cX11_init 72 = .ok (.invokespecial 46, 3) := by decide +kernel
theorem dX11_init_75 : decode cX11_init 75 = .ok (.putfield 47, 3) := by decide +kernel
theorem dX11_init_78 : decode cX11_init 78 = .ok (.aload_n 0, 1) := by decide +kernel
theorem dX11_init_79 : decode cX11_init 79 = .ok (.new 51, 3) := by decide +kernel
theorem dX11_init_82 : decode cX11_init 82 = .ok (.dup, 1) := by decide +kernel
theorem dX11_init_83 : decode cX11_init 83 = .ok (.invokespecial 53, 3) := by decide +kernel
theorem dX11_init_86 : decode cX11_init 86 = .ok (.putfield 54, 3) := by decide +kernel
theorem dX11_init_89 : decode cX11_init 89 = .ok (.aload_n 0, 1) := by decide +kernel
theorem dX11_init_90 : decode cX11_init 90 = .ok (.new 58, 3) := by decide +kernel
theorem dX11_init_93 : decode cX11_init 93 = .ok (.dup, 1) := by decide +kernel
theorem dX11_init_94 : decode cX11_init 94 = .ok (.invokespecial 60, 3) := by decide +kernel
theorem dX11_init_97 : decode cX11_init 97 = .ok (.putfield 61, 3) := by decide +kernel
theorem dX11_init_100 : decode cX11_init 100 = .ok (.aload_n 0, 1) := by decide +kernel
theorem dX11_init_101 : decode cX11_init 101 = .ok (.new 65, 3) := by decide +kernel
theorem dX11_init_104 : decode cX11_init 104 = .ok (.dup, 1) := by decide +kernel
theorem dX11_init_105 : decode cX11_init 105 = .ok (.invokespecial 67, 3) := by decide +kernel
theorem dX11_init_108 : decode cX11_init 108 = .ok (.putfield 68, 3) := by decide +kernel
theorem dX11_init_111 : decode cX11_init 111 = .ok (.aload_n 0, 1) := by decide +kernel
theorem dX11_init_112 : decode cX11_init 112 = .ok (.iconst (-1), 1) := by decide +kernel
theorem dX11_init_113 : decode cX11_init 113 = .ok (.putfield 72, 3) := by decide +kernel
theorem dX11_init_116 : decode cX11_init 116 = .ok (.iconst 0, 1) := by decide +kernel
theorem dX11_init_117 : decode cX11_init 117 = .ok (.istore_n 1, 1) := by decide +kernel
theorem dX11_init_118 : decode cX11_init 118 = .ok (.iload_n 1, 1) := by decide +kernel
theorem dX11_init_119 : decode cX11_init 119 = .ok (.iconst 3, 1) := by decide +kernel
theorem dX11_init_120 : decode cX11_init 120 = .ok (.if_icmp .ge 22, 3) := by decide +kernel
theorem dX11_init_123 : decode cX11_init 123 = .ok (.aload_n 0, 1) := by decide +kernel
theorem dX11_init_124 : decode cX11_init 124 = .ok (.getfield 42, 3) := by decide +kernel
theorem dX11_init_127 : decode cX11_init 127 = .ok (.iload_n 1, 1) := by decide +kernel
theorem dX11_init_128 : decode cX11_init 128 = .ok (.new 40, 3) := by decide +kernel
theorem dX11_init_131 : decode cX11_init 131 = .ok (.dup, 1) := by decide +kernel
theorem dX11_init_132 : decode cX11_init 132 = .ok (.invokespecial 46, 3) := by decide +kernel
theorem dX11_init_135 : decode cX11_init 135 = .ok (.aastore, 1) := by decide +kernel
theorem dX11_init_136 : decode cX11_init 136 = .ok (.iinc 1 1, 3) := by decide +kernel
theorem dX11_init_139 : decode cX11_init 139 = .ok (.goto (-21), 3) := by decide +kernel
theorem dX11_init_142 : decode cX11_init 142 = .ok (.return_, 1) := by decide +kernel
theorem dX11_feed_0 : decode cX11_feed 0 = .ok (.aload_n 0, 1) := by decide +kernel
theorem dX11_feed_1 : decode cX11_feed 1 = .ok (.getfield 76, 3) := by decide +kernel
theorem dX11_feed_4 : decode cX11_feed 4 = .ok (.bipush 20, 2) := by decide +kernel
theorem dX11_feed_6 : decode cX11_feed 6 = .ok (.iadd, 1) := by decide +kernel
theorem dX11_feed_7 : decode cX11_feed 7 = .ok (.sipush 1600, 3) := by decide +kernel
theorem dX11_feed_10 : decode cX11_feed 10 = .ok (.if_icmp .le 5, 3) := by decide +kernel
theorem dX11_feed_13 : decode cX11_feed 13 = .ok (.iconst (-1), 1) := by decide +kernel
theorem dX11_feed_14 : decode cX11_feed 14 = .ok (.ireturn, 1) := by decide +kernel
theorem dX11_feed_15 : decode cX11_feed 15 = .ok (.aload_n 0, 1) := by decide +kernel
theorem dX11_feed_16 : decode cX11_feed 16 = .ok (.iload_n 1, 1) := by decide +kernel
theorem dX11_feed_17 : decode cX11_feed 17 = .ok (.invokevirtual 79, 3) := by decide +kernel
theorem dX11_feed_20 : decode cX11_feed 20 = .ok (.aload_n 0, 1) := by decide +kernel
theorem dX11_feed_21 : decode cX11_feed 21 = .ok (.iload_n 2, 1) := by decide +kernel
theorem dX11_feed_22 : decode cX11_feed 22 = .ok (.invokevirtual 79, 3) := by decide +kernel
theorem dX11_feed_25 : decode cX11_feed 25 = .ok (.aload_n 0, 1) := by decide +kernel
theorem dX11_feed_26 : decode cX11_feed 26 = .ok (.iload_n 3, 1) := by decide +kernel
theorem dX11_feed_27 : decode cX11_feed 27 = .ok (.invokevirtual 79, 3) := by decide +kernel
theorem dX11_feed_30 : decode cX11_feed 30 = .ok (.aload_n 0, 1) := by decide +kernel
theorem dX11_feed_31 : decode cX11_feed 31 = .ok (.iload 4, 2) := by decide +kernel
theorem dX11_feed_33 : decode cX11_feed 33 = .ok (.invokevirtual 79, 3) := by decide +kernel
theorem dX11_feed_36 : decode cX11_feed 36 = .ok (.aload_n 0, 1) := by decide +kernel
theorem dX11_feed_37 : decode cX11_feed 37 = .ok (.iload 5, 2) := by decide +kernel
theorem dX11_feed_39 : decode cX11_feed 39 = .ok (.invokevirtual 79, 3) := by decide +kernel
theorem dX11_feed_42 : decode cX11_feed 42 = .ok (.aload_n 0, 1) := by decide +kernel
theorem dX11_feed_43 : decode cX11_feed 43 = .ok (.getfield 76, 3) := by decide +kernel
theorem dX11_feed_46 : decode cX11_feed 46 = .ok (.ireturn, 1) := by decide +kernel
theorem dX11_end_0 : decode cX11_end 0 = .ok (.iload_n 1, 1) := by decide +kernel
theorem dX11_end_1 : decode cX11_end 1 = .ok (.ifCond .lt 11, 3) := by decide +kernel
theorem dX11_end_4 : decode cX11_end 4 = .ok (.iload_n 1, 1) := by decide +kernel
theorem dX11_end_5 : decode cX11_end 5 = .ok (.aload_n 0, 1) := by decide +kernel
theorem dX11_end_6 : decode cX11_end 6 = .ok (.getfield 76, 3) := by decide +kernel
theorem dX11_end_9 : decode cX11_end 9 = .ok (.if_icmp .le 5, 3) := by decide +kernel
theorem dX11_end_12 : decode cX11_end 12 = .ok (.iconst (-1), 1) := by decide +kernel
theorem dX11_end_13 : decode cX11_end 13 = .ok (.ireturn, 1) := by decide +kernel
theorem dX11_end_14 : decode cX11_end 14 = .ok (.aload_n 0, 1) := by decide +kernel
theorem dX11_end_15 : decode cX11_end 15 = .ok (.iload_n 1, 1) := by decide +kernel
theorem dX11_end_16 : decode cX11_end 16 = .ok (.putfield 76, 3) := by decide +kernel
theorem dX11_end_19 : decode cX11_end 19 = .ok (.iload_n 1, 1) := by decide +kernel
theorem dX11_end_20 : decode cX11_end 20 = .ok (.ireturn, 1) := by decide +kernel
theorem dX11_code_0 : decode cX11_code 0 = .ok (.aload_n 0, 1) := by decide +kernel
theorem dX11_code_1 : decode cX11_code 1 = .ok (.getfield 29, 3) := by decide +kernel
theorem dX11_code_4 : decode cX11_code 4 = .ok (.aload_n 0, 1) := by decide +kernel
theorem dX11_code_5 : decode cX11_code 5 = .ok (.getfield 16, 3) := by decide +kernel
theorem dX11_code_8 : decode cX11_code 8 = .ok (.aload_n 0, 1) := by decide +kernel
theorem dX11_code_9 : decode cX11_code 9 = .ok (.getfield 76, 3) := by decide +kernel
theorem dX11_code_12 : decode cX11_code 12 = .ok (.invokevirtual 83, 3) := by decide +kernel
theorem dX11_code_15 : decode cX11_code 15 = .ok (.istore_n 1, 1) := by decide +kernel
theorem dX11_code_16 : decode cX11_code 16 = .ok (.aload_n 0, 1) := by decide +kernel
theorem dX11_code_17 : decode cX11_code 17 = .ok (.aload_n 0, 1) := by decide +kernel
theorem dX11_code_18 : decode cX11_code 18 = .ok (.getfield 29, 3) := by decide +kernel
theorem dX11_code_21 : decode cX11_code 21 = .ok (.getfield 87, 3) := by decide +kernel
theorem dX11_code_24 : decode cX11_code 24 = .ok (.getfield 91, 3) := by decide +kernel
theorem dX11_code_27 : decode cX11_code 27 = .ok (.putfield 96, 3) := by decide +kernel
theorem dX11_code_30 : decode cX11_code 30 = .ok (.aload_n 0, 1) := by decide +kernel
theorem dX11_code_31 : decode cX11_code 31 = .ok (.aload_n 0, 1) := by decide +kernel
theorem dX11_code_32 : decode cX11_code 32 = .ok (.getfield 29, 3) := by decide +kernel
theorem dX11_code_35 : decode cX11_code 35 = .ok (.getfield 87, 3) := by decide +kernel
theorem dX11_code_38 : decode cX11_code 38 = .ok (.getfield 99, 3) := by decide +kernel
theorem dX11_code_41 : decode cX11_code 41 = .ok (.putfield 72, 3) := by decide +kernel
theorem dX11_code_44 : decode cX11_code 44 = .ok (.iload_n 1, 1) := by decide +kernel
theorem dX11_code_45 : decode cX11_code 45 = .ok (.ifCond .ne 5, 3) := by decide +kernel
theorem dX11_code_48 : decode cX11_code 48 = .ok (.iconst (-1), 1) := by decide +kernel
theorem dX11_code_49 : decode cX11_code 49 = .ok (.ireturn, 1) := by decide +kernel
theorem dX11_code_50 : decode cX11_code 50 = .ok (.aload_n 0, 1) := by decide +kernel
theorem dX11_code_51 : decode cX11_code 51 = .ok (.getfield 10, 3) := by decide +kernel
theorem dX11_code_54 : decode cX11_code 54 = .ok (.astore_n 2, 1) := by decide +kernel
theorem dX11_code_55 : decode cX11_code 55 = .ok (.aload_n 0, 1) := by decide +kernel
theorem dX11_code_56 : decode cX11_code 56 = .ok (.aload_n 0, 1) := by decide +kernel
theorem dX11_code_57 : decode cX11_code 57 = .ok (.getfield 16, 3) := by decide +kernel
theorem dX11_code_60 : decode cX11_code 60 = .ok (.putfield 10, 3) := by decide +kernel
theorem dX11_code_63 : decode cX11_code 63 = .ok (.aload_n 0, 1) := by decide +kernel
theorem dX11_code_64 : decode cX11_code 64 = .ok (.aload_n 2, 1) := by decide +kernel
theorem dX11_code_65 : decode cX11_code 65 = .ok (.putfield 16, 3) := by decide +kernel
theorem dX11_code_68 : decode cX11_code 68 = .ok (.aload_n 0, 1) := by decide +kernel
theorem dX11_code_69 : decode cX11_code 69 = .ok (.iconst 0, 1) := by decide +kernel
theorem dX11_code_70 : decode cX11_code 70 = .ok (.putfield 76, 3) := by decide +kernel
theorem dX11_code_73 : decode cX11_code 73 = .ok (.aload_n 0, 1) := by decide +kernel
theorem dX11_code_74 : decode cX11_code 74 = .ok (.getfield 36, 3) := by decide +kernel
theorem dX11_code_77 : decode cX11_code 77 = .ok (.invokevirtual 102, 3) := by decide +kernel
theorem dX11_code_80 : decode cX11_code 80 = .ok (.aload_n 0, 1) := by decide +kernel
theorem dX11_code_81 : decode cX11_code 81 = .ok (.getfield 10, 3) := by decide +kernel
theorem dX11_code_84 : decode cX11_code 84 = .ok (.getfield 106, 3) := by decide +kernel
theorem dX11_code_87 : decode cX11_code 87 = .ok (.invokevirtual 109, 3) := by decide +kernel
theorem dX11_code_90 : decode cX11_code 90 = .ok (.aload_n 0, 1) := by decide +kernel
theorem dX11_code_91 : decode cX11_code 91 = .ok (.iconst 0, 1) := by decide +kernel
theorem dX11_code_92 : decode cX11_code 92 = .ok (.putfield 112, 3) := by decide +kernel
theorem dX11_code_95 : decode cX11_code 95 = .ok (.aload_n 0, 1) := by decide +kernel
theorem dX11_code_96 : decode cX11_code 96 = .ok (.getfield 68, 3) := by decide +kernel
theorem dX11_code_99 : decode cX11_code 99 = .ok (.invokevirtual 115, 3) := by decide +kernel
theorem dX11_code_102 : decode cX11_code 102 = .ok (.aload_n 0, 1) := by decide +kernel
theorem dX11_code_103 : decode cX11_code 103 = .ok (.getfield 61, 3) := by decide +kernel
theorem dX11_code_106 : decode cX11_code 106 = .ok (.iconst 0, 1) := by decide +kernel
theorem dX11_code_107 : decode cX11_code 107 = .ok (.putfield 118, 3) := by decide +kernel
theorem dX11_code_110 : decode cX11_code 110 = .ok (.aload_n 0, 1) := by decide +kernel
theorem dX11_code_111 : decode cX11_code 111 = .ok (.getfield 10, 3) := by decide +kernel
theorem dX11_code_114 : decode cX11_code 114 = .ok (.getfield 121, 3) := by decide +kernel
theorem dX11_code_117 : decode cX11_code 117 = .ok (.ireturn, 1) := by decide +kernel
theorem dX11_fault_0 : decode cX11_fault 0 = .ok (.iload_n 1, 1) := by decide +kernel
theorem dX11_fault_1 : decode cX11_fault 1 = .ok (.lookupswitch 37 #[(0, 27), (1, 32)], 27) := by decide +kernel
theorem dX11_fault_28 : decode cX11_fault 28 = .ok (.aload_n 0, 1) := by decide +kernel
theorem dX11_fault_29 : decode cX11_fault 29 = .ok (.getfield 96, 3) := by decide +kernel
theorem dX11_fault_32 : decode cX11_fault 32 = .ok (.ireturn, 1) := by decide +kernel
theorem dX11_fault_33 : decode cX11_fault 33 = .ok (.aload_n 0, 1) := by decide +kernel
theorem dX11_fault_34 : decode cX11_fault 34 = .ok (.getfield 72, 3) := by decide +kernel
theorem dX11_fault_37 : decode cX11_fault 37 = .ok (.ireturn, 1) := by decide +kernel
theorem dX11_fault_38 : decode cX11_fault 38 = .ok (.iconst (-1), 1) := by decide +kernel
theorem dX11_fault_39 : decode cX11_fault 39 = .ok (.ireturn, 1) := by decide +kernel
theorem dX11_word_0 : decode cX11_word 0 = .ok (.aload_n 0, 1) := by decide +kernel
theorem dX11_word_1 : decode cX11_word 1 = .ok (.getfield 10, 3) := by decide +kernel
theorem dX11_word_4 : decode cX11_word 4 = .ok (.iload_n 1, 1) := by decide +kernel
theorem dX11_word_5 : decode cX11_word 5 = .ok (.invokevirtual 124, 3) := by decide +kernel
theorem dX11_word_8 : decode cX11_word 8 = .ok (.ifCond .ne 5, 3) := by decide +kernel
theorem dX11_word_11 : decode cX11_word 11 = .ok (.iconst (-1), 1) := by decide +kernel
theorem dX11_word_12 : decode cX11_word 12 = .ok (.ireturn, 1) := by decide +kernel
theorem dX11_word_13 : decode cX11_word 13 = .ok (.iload_n 2, 1) := by decide +kernel
theorem dX11_word_14 : decode cX11_word 14 = .ok (.tableswitch 129 0 6 #[42, 64, 74, 84, 94, 104, 114], 42) := by decide +kernel
theorem dX11_word_56 : decode cX11_word 56 = .ok (.aload_n 0, 1) := by decide +kernel
theorem dX11_word_57 : decode cX11_word 57 = .ok (.getfield 10, 3) := by decide +kernel
theorem dX11_word_60 : decode cX11_word 60 = .ok (.getfield 128, 3) := by decide +kernel
theorem dX11_word_63 : decode cX11_word 63 = .ok (.iload_n 1, 1) := by decide +kernel
theorem dX11_word_64 : decode cX11_word 64 = .ok (.iconst 1, 1) := by decide +kernel
theorem dX11_word_65 : decode cX11_word 65 = .ok (.iadd, 1) := by decide +kernel
theorem dX11_word_66 : decode cX11_word 66 = .ok (.iaload, 1) := by decide +kernel
theorem dX11_word_67 : decode cX11_word 67 = .ok (.aload_n 0, 1) := by decide +kernel
theorem dX11_word_68 : decode cX11_word 68 = .ok (.getfield 10, 3) := by decide +kernel
theorem dX11_word_71 : decode cX11_word 71 = .ok (.getfield 128, 3) := by decide +kernel
theorem dX11_word_74 : decode cX11_word 74 = .ok (.iload_n 1, 1) := by decide +kernel
theorem dX11_word_75 : decode cX11_word 75 = .ok (.iaload, 1) := by decide +kernel
theorem dX11_word_76 : decode cX11_word 76 = .ok (.isub, 1) := by decide +kernel
theorem dX11_word_77 : decode cX11_word 77 = .ok (.ireturn, 1) := by decide +kernel
theorem dX11_word_78 : decode cX11_word 78 = .ok (.aload_n 0, 1) := by decide +kernel
theorem dX11_word_79 : decode cX11_word 79 = .ok (.getfield 10, 3) := by decide +kernel
theorem dX11_word_82 : decode cX11_word 82 = .ok (.getfield 132, 3) := by decide +kernel
theorem dX11_word_85 : decode cX11_word 85 = .ok (.iload_n 1, 1) := by decide +kernel
theorem dX11_word_86 : decode cX11_word 86 = .ok (.iaload, 1) := by decide +kernel
theorem dX11_word_87 : decode cX11_word 87 = .ok (.ireturn, 1) := by decide +kernel
theorem dX11_word_88 : decode cX11_word 88 = .ok (.aload_n 0, 1) := by decide +kernel
theorem dX11_word_89 : decode cX11_word 89 = .ok (.getfield 10, 3) := by decide +kernel
theorem dX11_word_92 : decode cX11_word 92 = .ok (.getfield 135, 3) := by decide +kernel
theorem dX11_word_95 : decode cX11_word 95 = .ok (.iload_n 1, 1) := by decide +kernel
theorem dX11_word_96 : decode cX11_word 96 = .ok (.iaload, 1) := by decide +kernel
theorem dX11_word_97 : decode cX11_word 97 = .ok (.ireturn, 1) := by decide +kernel
theorem dX11_word_98 : decode cX11_word 98 = .ok (.aload_n 0, 1) := by decide +kernel
theorem dX11_word_99 : decode cX11_word 99 = .ok (.getfield 10, 3) := by decide +kernel
theorem dX11_word_102 : decode cX11_word 102 = .ok (.getfield 138, 3) := by decide +kernel
theorem dX11_word_105 : decode cX11_word 105 = .ok (.iload_n 1, 1) := by decide +kernel
theorem dX11_word_106 : decode cX11_word 106 = .ok (.iaload, 1) := by decide +kernel
theorem dX11_word_107 : decode cX11_word 107 = .ok (.ireturn, 1) := by decide +kernel
theorem dX11_word_108 : decode cX11_word 108 = .ok (.aload_n 0, 1) := by decide +kernel
theorem dX11_word_109 : decode cX11_word 109 = .ok (.getfield 10, 3) := by decide +kernel
theorem dX11_word_112 : decode cX11_word 112 = .ok (.getfield 141, 3) := by decide +kernel
theorem dX11_word_115 : decode cX11_word 115 = .ok (.iload_n 1, 1) := by decide +kernel
theorem dX11_word_116 : decode cX11_word 116 = .ok (.iaload, 1) := by decide +kernel
theorem dX11_word_117 : decode cX11_word 117 = .ok (.ireturn, 1) := by decide +kernel
theorem dX11_word_118 : decode cX11_word 118 = .ok (.aload_n 0, 1) := by decide +kernel
theorem dX11_word_119 : decode cX11_word 119 = .ok (.getfield 10, 3) := by decide +kernel
theorem dX11_word_122 : decode cX11_word 122 = .ok (.getfield 144, 3) := by decide +kernel
theorem dX11_word_125 : decode cX11_word 125 = .ok (.iload_n 1, 1) := by decide +kernel
theorem dX11_word_126 : decode cX11_word 126 = .ok (.iaload, 1) := by decide +kernel
theorem dX11_word_127 : decode cX11_word 127 = .ok (.ireturn, 1) := by decide +kernel
theorem dX11_word_128 : decode cX11_word 128 = .ok (.aload_n 0, 1) := by decide +kernel
theorem dX11_word_129 : decode cX11_word 129 = .ok (.getfield 36, 3) := by decide +kernel
theorem dX11_word_132 : decode cX11_word 132 = .ok (.invokevirtual 147, 3) := by decide +kernel
theorem dX11_word_135 : decode cX11_word 135 = .ok (.getfield 150, 3) := by decide +kernel
theorem dX11_word_138 : decode cX11_word 138 = .ok (.iload_n 1, 1) := by decide +kernel
theorem dX11_word_139 : decode cX11_word 139 = .ok (.ishr, 1) := by decide +kernel
theorem dX11_word_140 : decode cX11_word 140 = .ok (.iconst 1, 1) := by decide +kernel
theorem dX11_word_141 : decode cX11_word 141 = .ok (.iand, 1) := by decide +kernel
theorem dX11_word_142 : decode cX11_word 142 = .ok (.ireturn, 1) := by decide +kernel
theorem dX11_word_143 : decode cX11_word 143 = .ok (.iconst (-1), 1) := by decide +kernel
theorem dX11_word_144 : decode cX11_word 144 = .ok (.ireturn, 1) := by decide +kernel
theorem dX11_item_0 : decode cX11_item 0 = .ok (.aload_n 0, 1) := by decide +kernel
theorem dX11_item_1 : decode cX11_item 1 = .ok (.getfield 10, 3) := by decide +kernel
theorem dX11_item_4 : decode cX11_item 4 = .ok (.iload_n 1, 1) := by decide +kernel
theorem dX11_item_5 : decode cX11_item 5 = .ok (.iload_n 2, 1) := by decide +kernel
theorem dX11_item_6 : decode cX11_item 6 = .ok (.invokevirtual 153, 3) := by decide +kernel
theorem dX11_item_9 : decode cX11_item 9 = .ok (.ifCond .ne 5, 3) := by decide +kernel
theorem dX11_item_12 : decode cX11_item 12 = .ok (.iconst (-1), 1) := by decide +kernel
theorem dX11_item_13 : decode cX11_item 13 = .ok (.ireturn, 1) := by decide +kernel
theorem dX11_item_14 : decode cX11_item 14 = .ok (.aload_n 0, 1) := by decide +kernel
theorem dX11_item_15 : decode cX11_item 15 = .ok (.getfield 10, 3) := by decide +kernel
theorem dX11_item_18 : decode cX11_item 18 = .ok (.getfield 128, 3) := by decide +kernel
theorem dX11_item_21 : decode cX11_item 21 = .ok (.iload_n 1, 1) := by decide +kernel
theorem dX11_item_22 : decode cX11_item 22 = .ok (.iaload, 1) := by decide +kernel
theorem dX11_item_23 : decode cX11_item 23 = .ok (.iload_n 2, 1) := by decide +kernel
theorem dX11_item_24 : decode cX11_item 24 = .ok (.iadd, 1) := by decide +kernel
theorem dX11_item_25 : decode cX11_item 25 = .ok (.istore 4, 2) := by decide +kernel
theorem dX11_item_27 : decode cX11_item 27 = .ok (.iload_n 3, 1) := by decide +kernel
theorem dX11_item_28 : decode cX11_item 28 = .ok (.lookupswitch 50 #[(0, 28), (1, 39)], 28) := by decide +kernel
theorem dX11_item_56 : decode cX11_item 56 = .ok (.aload_n 0, 1) := by decide +kernel
theorem dX11_item_57 : decode cX11_item 57 = .ok (.getfield 10, 3) := by decide +kernel
theorem dX11_item_60 : decode cX11_item 60 = .ok (.getfield 157, 3) := by decide +kernel
theorem dX11_item_63 : decode cX11_item 63 = .ok (.iload 4, 2) := by decide +kernel
theorem dX11_item_65 : decode cX11_item 65 = .ok (.iaload, 1) := by decide +kernel
theorem dX11_item_66 : decode cX11_item 66 = .ok (.ireturn, 1) := by decide +kernel
theorem dX11_item_67 : decode cX11_item 67 = .ok (.aload_n 0, 1) := by decide +kernel
theorem dX11_item_68 : decode cX11_item 68 = .ok (.getfield 10, 3) := by decide +kernel
theorem dX11_item_71 : decode cX11_item 71 = .ok (.getfield 160, 3) := by decide +kernel
theorem dX11_item_74 : decode cX11_item 74 = .ok (.iload 4, 2) := by decide +kernel
theorem dX11_item_76 : decode cX11_item 76 = .ok (.iaload, 1) := by decide +kernel
theorem dX11_item_77 : decode cX11_item 77 = .ok (.ireturn, 1) := by decide +kernel
theorem dX11_item_78 : decode cX11_item 78 = .ok (.iconst (-1), 1) := by decide +kernel
theorem dX11_item_79 : decode cX11_item 79 = .ok (.ireturn, 1) := by decide +kernel
theorem dX11_lay_0 : decode cX11_lay 0 = .ok (.iload_n 1, 1) := by decide +kernel
theorem dX11_lay_1 : decode cX11_lay 1 = .ok (.ifCond .lt 25, 3) := by decide +kernel
theorem dX11_lay_4 : decode cX11_lay 4 = .ok (.iload_n 1, 1) := by decide +kernel
theorem dX11_lay_5 : decode cX11_lay 5 = .ok (.sipush 9999, 3) := by decide +kernel
theorem dX11_lay_8 : decode cX11_lay 8 = .ok (.if_icmp .gt 18, 3) := by decide +kernel
theorem dX11_lay_11 : decode cX11_lay 11 = .ok (.aload_n 0, 1) := by decide +kernel
theorem dX11_lay_12 : decode cX11_lay 12 = .ok (.getfield 36, 3) := by decide +kernel
theorem dX11_lay_15 : decode cX11_lay 15 = .ok (.invokevirtual 147, 3) := by decide +kernel
theorem dX11_lay_18 : decode cX11_lay 18 = .ok (.getfield 163, 3) := by decide +kernel
theorem dX11_lay_21 : decode cX11_lay 21 = .ok (.bipush 24, 2) := by decide +kernel
theorem dX11_lay_23 : decode cX11_lay 23 = .ok (.if_icmp .lt 5, 3) := by decide +kernel
theorem dX11_lay_26 : decode cX11_lay 26 = .ok (.iconst (-1), 1) := by decide +kernel
theorem dX11_lay_27 : decode cX11_lay 27 = .ok (.ireturn, 1) := by decide +kernel
theorem dX11_lay_28 : decode cX11_lay 28 = .ok (.aload_n 0, 1) := by decide +kernel
theorem dX11_lay_29 : decode cX11_lay 29 = .ok (.getfield 36, 3) := by decide +kernel
theorem dX11_lay_32 : decode cX11_lay 32 = .ok (.invokevirtual 166, 3) := by decide +kernel
theorem dX11_lay_35 : decode cX11_lay 35 = .ok (.astore_n 2, 1) := by decide +kernel
theorem dX11_lay_36 : decode cX11_lay 36 = .ok (.aload_n 2, 1) := by decide +kernel
theorem dX11_lay_37 : decode cX11_lay 37 = .ok (.iload_n 1, 1) := by decide +kernel
theorem dX11_lay_38 : decode cX11_lay 38 = .ok (.invokevirtual 168, 3) := by decide +kernel
theorem dX11_lay_41 : decode cX11_lay 41 = .ok (.aload_n 2, 1) := by decide +kernel
theorem dX11_lay_42 : decode cX11_lay 42 = .ok (.getfield 163, 3) := by decide +kernel
theorem dX11_lay_45 : decode cX11_lay 45 = .ok (.ireturn, 1) := by decide +kernel
theorem dX11_run_0 : decode cX11_run 0 = .ok (.iload_n 1, 1) := by decide +kernel
theorem dX11_run_1 : decode cX11_run 1 = .ok (.ifCond .lt 23, 3) := by decide +kernel
theorem dX11_run_4 : decode cX11_run 4 = .ok (.iload_n 1, 1) := by decide +kernel
theorem dX11_run_5 : decode cX11_run 5 = .ok (.bipush 15, 2) := by decide +kernel
theorem dX11_run_7 : decode cX11_run 7 = .ok (.if_icmp .ge 17, 3) := by decide +kernel
theorem dX11_run_10 : decode cX11_run 10 = .ok (.aload_n 0, 1) := by decide +kernel
theorem dX11_run_11 : decode cX11_run 11 = .ok (.getfield 36, 3) := by decide +kernel
theorem dX11_run_14 : decode cX11_run 14 = .ok (.invokevirtual 147, 3) := by decide +kernel
theorem dX11_run_17 : decode cX11_run 17 = .ok (.iload_n 1, 1) := by decide +kernel
theorem dX11_run_18 : decode cX11_run 18 = .ok (.invokevirtual 171, 3) := by decide +kernel
theorem dX11_run_21 : decode cX11_run 21 = .ok (.ifCond .ne 5, 3) := by decide +kernel
theorem dX11_run_24 : decode cX11_run 24 = .ok (.iconst (-1), 1) := by decide +kernel
theorem dX11_run_25 : decode cX11_run 25 = .ok (.ireturn, 1) := by decide +kernel
theorem dX11_run_26 : decode cX11_run 26 = .ok (.aload_n 0, 1) := by decide +kernel
theorem dX11_run_27 : decode cX11_run 27 = .ok (.getfield 36, 3) := by decide +kernel
theorem dX11_run_30 : decode cX11_run 30 = .ok (.invokevirtual 166, 3) := by decide +kernel
theorem dX11_run_33 : decode cX11_run 33 = .ok (.astore_n 2, 1) := by decide +kernel
theorem dX11_run_34 : decode cX11_run 34 = .ok (.aload_n 2, 1) := by decide +kernel
theorem dX11_run_35 : decode cX11_run 35 = .ok (.iload_n 1, 1) := by decide +kernel
theorem dX11_run_36 : decode cX11_run 36 = .ok (.invokevirtual 174, 3) := by decide +kernel
theorem dX11_run_39 : decode cX11_run 39 = .ok (.aload_n 2, 1) := by decide +kernel
theorem dX11_run_40 : decode cX11_run 40 = .ok (.getfield 163, 3) := by decide +kernel
theorem dX11_run_43 : decode cX11_run 43 = .ok (.ireturn, 1) := by decide +kernel
theorem dX11_call_0 : decode cX11_call 0 = .ok (.aload_n 0, 1) := by decide +kernel
theorem dX11_call_1 : decode cX11_call 1 = .ok (.getfield 10, 3) := by decide +kernel
theorem dX11_call_4 : decode cX11_call 4 = .ok (.iload_n 1, 1) := by decide +kernel
theorem dX11_call_5 : decode cX11_call 5 = .ok (.invokevirtual 124, 3) := by decide +kernel
theorem dX11_call_8 : decode cX11_call 8 = .ok (.ifCond .ne 5, 3) := by decide +kernel
theorem dX11_call_11 : decode cX11_call 11 = .ok (.iconst (-1), 1) := by decide +kernel
theorem dX11_call_12 : decode cX11_call 12 = .ok (.ireturn, 1) := by decide +kernel
theorem dX11_call_13 : decode cX11_call 13 = .ok (.aload_n 0, 1) := by decide +kernel
theorem dX11_call_14 : decode cX11_call 14 = .ok (.getfield 36, 3) := by decide +kernel
theorem dX11_call_17 : decode cX11_call 17 = .ok (.invokevirtual 147, 3) := by decide +kernel
theorem dX11_call_20 : decode cX11_call 20 = .ok (.getfield 163, 3) := by decide +kernel
theorem dX11_call_23 : decode cX11_call 23 = .ok (.istore_n 2, 1) := by decide +kernel
theorem dX11_call_24 : decode cX11_call 24 = .ok (.iload_n 2, 1) := by decide +kernel
theorem dX11_call_25 : decode cX11_call 25 = .ok (.aload_n 0, 1) := by decide +kernel
theorem dX11_call_26 : decode cX11_call 26 = .ok (.getfield 10, 3) := by decide +kernel
theorem dX11_call_29 : decode cX11_call 29 = .ok (.getfield 132, 3) := by decide +kernel
theorem dX11_call_32 : decode cX11_call 32 = .ok (.iload_n 1, 1) := by decide +kernel
theorem dX11_call_33 : decode cX11_call 33 = .ok (.iaload, 1) := by decide +kernel
theorem dX11_call_34 : decode cX11_call 34 = .ok (.if_icmp .lt 19, 3) := by decide +kernel
theorem dX11_call_37 : decode cX11_call 37 = .ok (.iload_n 2, 1) := by decide +kernel
theorem dX11_call_38 : decode cX11_call 38 = .ok (.aload_n 0, 1) := by decide +kernel
theorem dX11_call_39 : decode cX11_call 39 = .ok (.getfield 10, 3) := by decide +kernel
theorem dX11_call_42 : decode cX11_call 42 = .ok (.getfield 138, 3) := by decide +kernel
theorem dX11_call_45 : decode cX11_call 45 = .ok (.iload_n 1, 1) := by decide +kernel
theorem dX11_call_46 : decode cX11_call 46 = .ok (.iaload, 1) := by decide +kernel
theorem dX11_call_47 : decode cX11_call 47 = .ok (.iadd, 1) := by decide +kernel
theorem dX11_call_48 : decode cX11_call 48 = .ok (.bipush 24, 2) := by decide +kernel
theorem dX11_call_50 : decode cX11_call 50 = .ok (.if_icmp .le 5, 3) := by decide +kernel
theorem dX11_call_53 : decode cX11_call 53 = .ok (.iconst (-1), 1) := by decide +kernel
theorem dX11_call_54 : decode cX11_call 54 = .ok (.ireturn, 1) := by decide +kernel
theorem dX11_call_55 : decode cX11_call 55 = .ok (.aload_n 0, 1) := by decide +kernel
theorem dX11_call_56 : decode cX11_call 56 = .ok (.getfield 36, 3) := by decide +kernel
theorem dX11_call_59 : decode cX11_call 59 = .ok (.invokevirtual 166, 3) := by decide +kernel
theorem dX11_call_62 : decode cX11_call 62 = .ok (.astore_n 3, 1) := by decide +kernel
theorem dX11_call_63 : decode cX11_call 63 = .ok (.aload_n 0, 1) := by decide +kernel
theorem dX11_call_64 : decode cX11_call 64 = .ok (.getfield 22, 3) := by decide +kernel
theorem dX11_call_67 : decode cX11_call 67 = .ok (.aload_n 0, 1) := by decide +kernel
theorem dX11_call_68 : decode cX11_call 68 = .ok (.getfield 10, 3) := by decide +kernel
theorem dX11_call_71 : decode cX11_call 71 = .ok (.aload_n 3, 1) := by decide +kernel
theorem dX11_call_72 : decode cX11_call 72 = .ok (.iload_n 1, 1) := by decide +kernel
theorem dX11_call_73 : decode cX11_call 73 = .ok (.invokevirtual 177, 3) := by decide +kernel
theorem dX11_call_76 : decode cX11_call 76 = .ok (.aload_n 3, 1) := by decide +kernel
theorem dX11_call_77 : decode cX11_call 77 = .ok (.getfield 163, 3) := by decide +kernel
theorem dX11_call_80 : decode cX11_call 80 = .ok (.ireturn, 1) := by decide +kernel
theorem dX11_clear_0 : decode cX11_clear 0 = .ok (.aload_n 0, 1) := by decide +kernel
theorem dX11_clear_1 : decode cX11_clear 1 = .ok (.getfield 36, 3) := by decide +kernel
theorem dX11_clear_4 : decode cX11_clear 4 = .ok (.invokevirtual 147, 3) := by decide +kernel
theorem dX11_clear_7 : decode cX11_clear 7 = .ok (.getfield 163, 3) := by decide +kernel
theorem dX11_clear_10 : decode cX11_clear 10 = .ok (.aload_n 0, 1) := by decide +kernel
theorem dX11_clear_11 : decode cX11_clear 11 = .ok (.getfield 36, 3) := by decide +kernel
theorem dX11_clear_14 : decode cX11_clear 14 = .ok (.invokevirtual 147, 3) := by decide +kernel
theorem dX11_clear_17 : decode cX11_clear 17 = .ok (.getfield 181, 3) := by decide +kernel
theorem dX11_clear_20 : decode cX11_clear 20 = .ok (.iadd, 1) := by decide +kernel
theorem dX11_clear_21 : decode cX11_clear 21 = .ok (.istore_n 1, 1) := by decide +kernel
theorem dX11_clear_22 : decode cX11_clear 22 = .ok (.iload_n 1, 1) := by decide +kernel
theorem dX11_clear_23 : decode cX11_clear 23 = .ok (.ifCond .ne 5, 3) := by decide +kernel
theorem dX11_clear_26 : decode cX11_clear 26 = .ok (.iconst (-1), 1) := by decide +kernel
theorem dX11_clear_27 : decode cX11_clear 27 = .ok (.ireturn, 1) := by decide +kernel
theorem dX11_clear_28 : decode cX11_clear 28 = .ok (.aload_n 0, 1) := by decide +kernel
theorem dX11_clear_29 : decode cX11_clear 29 = .ok (.getfield 36, 3) := by decide +kernel
theorem dX11_clear_32 : decode cX11_clear 32 = .ok (.invokevirtual 166, 3) := by decide +kernel
theorem dX11_clear_35 : decode cX11_clear 35 = .ok (.invokevirtual 184, 3) := by decide +kernel
theorem dX11_clear_38 : decode cX11_clear 38 = .ok (.iload_n 1, 1) := by decide +kernel
theorem dX11_clear_39 : decode cX11_clear 39 = .ok (.ireturn, 1) := by decide +kernel
theorem dX11_inline_0 : decode cX11_inline 0 = .ok (.aload_n 0, 1) := by decide +kernel
theorem dX11_inline_1 : decode cX11_inline 1 = .ok (.getfield 10, 3) := by decide +kernel
theorem dX11_inline_4 : decode cX11_inline 4 = .ok (.iload_n 1, 1) := by decide +kernel
theorem dX11_inline_5 : decode cX11_inline 5 = .ok (.invokevirtual 124, 3) := by decide +kernel
theorem dX11_inline_8 : decode cX11_inline 8 = .ok (.ifCond .ne 5, 3) := by decide +kernel
theorem dX11_inline_11 : decode cX11_inline 11 = .ok (.iconst (-1), 1) := by decide +kernel
theorem dX11_inline_12 : decode cX11_inline 12 = .ok (.ireturn, 1) := by decide +kernel
theorem dX11_inline_13 : decode cX11_inline 13 = .ok (.aload_n 0, 1) := by decide +kernel
theorem dX11_inline_14 : decode cX11_inline 14 = .ok (.getfield 36, 3) := by decide +kernel
theorem dX11_inline_17 : decode cX11_inline 17 = .ok (.invokevirtual 166, 3) := by decide +kernel
theorem dX11_inline_20 : decode cX11_inline 20 = .ok (.astore_n 2, 1) := by decide +kernel
theorem dX11_inline_21 : decode cX11_inline 21 = .ok (.aload_n 2, 1) := by decide +kernel
theorem dX11_inline_22 : decode cX11_inline 22 = .ok (.dup, 1) := by decide +kernel
theorem dX11_inline_23 : decode cX11_inline 23 = .ok (.getfield 150, 3) := by decide +kernel
theorem dX11_inline_26 : decode cX11_inline 26 = .ok (.iconst 1, 1) := by decide +kernel
theorem dX11_inline_27 : decode cX11_inline 27 = .ok (.iload_n 1, 1) := by decide +kernel
theorem dX11_inline_28 : decode cX11_inline 28 = .ok (.ishl, 1) := by decide +kernel
theorem dX11_inline_29 : decode cX11_inline 29 = .ok (.ixor, 1) := by decide +kernel
theorem dX11_inline_30 : decode cX11_inline 30 = .ok (.putfield 150, 3) := by decide +kernel
theorem dX11_inline_33 : decode cX11_inline 33 = .ok (.aload_n 2, 1) := by decide +kernel
theorem dX11_inline_34 : decode cX11_inline 34 = .ok (.getfield 150, 3) := by decide +kernel
theorem dX11_inline_37 : decode cX11_inline 37 = .ok (.ireturn, 1) := by decide +kernel
theorem dX11_flip_0 : decode cX11_flip 0 = .ok (.aload_n 0, 1) := by decide +kernel
theorem dX11_flip_1 : decode cX11_flip 1 = .ok (.getfield 36, 3) := by decide +kernel
theorem dX11_flip_4 : decode cX11_flip 4 = .ok (.invokevirtual 166, 3) := by decide +kernel
theorem dX11_flip_7 : decode cX11_flip 7 = .ok (.aload_n 0, 1) := by decide +kernel
theorem dX11_flip_8 : decode cX11_flip 8 = .ok (.getfield 10, 3) := by decide +kernel
theorem dX11_flip_11 : decode cX11_flip 11 = .ok (.getfield 187, 3) := by decide +kernel
theorem dX11_flip_14 : decode cX11_flip 14 = .ok (.invokevirtual 190, 3) := by decide +kernel
theorem dX11_flip_17 : decode cX11_flip 17 = .ok (.ireturn, 1) := by decide +kernel
theorem dX11_undo_0 : decode cX11_undo 0 = .ok (.aload_n 0, 1) := by decide +kernel
theorem dX11_undo_1 : decode cX11_undo 1 = .ok (.getfield 36, 3) := by decide +kernel
theorem dX11_undo_4 : decode cX11_undo 4 = .ok (.invokevirtual 194, 3) := by decide +kernel
theorem dX11_undo_7 : decode cX11_undo 7 = .ok (.ireturn, 1) := by decide +kernel
theorem dX11_redo_0 : decode cX11_redo 0 = .ok (.aload_n 0, 1) := by decide +kernel
theorem dX11_redo_1 : decode cX11_redo 1 = .ok (.getfield 36, 3) := by decide +kernel
theorem dX11_redo_4 : decode cX11_redo 4 = .ok (.invokevirtual 198, 3) := by decide +kernel
theorem dX11_redo_7 : decode cX11_redo 7 = .ok (.ireturn, 1) := by decide +kernel
theorem dX11_cell_0 : decode cX11_cell 0 = .ok (.aload_n 0, 1) := by decide +kernel
theorem dX11_cell_1 : decode cX11_cell 1 = .ok (.getfield 36, 3) := by decide +kernel
theorem dX11_cell_4 : decode cX11_cell 4 = .ok (.invokevirtual 147, 3) := by decide +kernel
theorem dX11_cell_7 : decode cX11_cell 7 = .ok (.iload_n 1, 1) := by decide +kernel
theorem dX11_cell_8 : decode cX11_cell 8 = .ok (.invokevirtual 201, 3) := by decide +kernel
theorem dX11_cell_11 : decode cX11_cell 11 = .ok (.ireturn, 1) := by decide +kernel
theorem dX11_put_0 : decode cX11_put 0 = .ok (.aload_n 0, 1) := by decide +kernel
theorem dX11_put_1 : decode cX11_put 1 = .ok (.getfield 36, 3) := by decide +kernel
theorem dX11_put_4 : decode cX11_put 4 = .ok (.invokevirtual 147, 3) := by decide +kernel
theorem dX11_put_7 : decode cX11_put 7 = .ok (.iload_n 1, 1) := by decide +kernel
theorem dX11_put_8 : decode cX11_put 8 = .ok (.invokevirtual 204, 3) := by decide +kernel
theorem dX11_put_11 : decode cX11_put 11 = .ok (.ireturn, 1) := by decide +kernel
theorem dX11_comes_0 : decode cX11_comes 0 = .ok (.aload_n 0, 1) := by decide +kernel
theorem dX11_comes_1 : decode cX11_comes 1 = .ok (.getfield 10, 3) := by decide +kernel
theorem dX11_comes_4 : decode cX11_comes 4 = .ok (.iload_n 1, 1) := by decide +kernel
theorem dX11_comes_5 : decode cX11_comes 5 = .ok (.invokevirtual 124, 3) := by decide +kernel
theorem dX11_comes_8 : decode cX11_comes 8 = .ok (.ifCond .eq 16, 3) := by decide +kernel
theorem dX11_comes_11 : decode cX11_comes 11 = .ok (.aload_n 0, 1) := by decide +kernel
theorem dX11_comes_12 : decode cX11_comes 12 = .ok (.getfield 10, 3) := by decide +kernel
theorem dX11_comes_15 : decode cX11_comes 15 = .ok (.getfield 132, 3) := by decide +kernel
theorem dX11_comes_18 : decode cX11_comes 18 = .ok (.iload_n 1, 1) := by decide +kernel
theorem dX11_comes_19 : decode cX11_comes 19 = .ok (.iaload, 1) := by decide +kernel
theorem dX11_comes_20 : decode cX11_comes 20 = .ok (.iconst 3, 1) := by decide +kernel
theorem dX11_comes_21 : decode cX11_comes 21 = .ok (.if_icmp .le 5, 3) := by decide +kernel
theorem dX11_comes_24 : decode cX11_comes 24 = .ok (.iconst 0, 1) := by decide +kernel
theorem dX11_comes_25 : decode cX11_comes 25 = .ok (.ireturn, 1) := by decide +kernel
theorem dX11_comes_26 : decode cX11_comes 26 = .ok (.aload_n 0, 1) := by decide +kernel
theorem dX11_comes_27 : decode cX11_comes 27 = .ok (.getfield 47, 3) := by decide +kernel
theorem dX11_comes_30 : decode cX11_comes 30 = .ok (.iload_n 2, 1) := by decide +kernel
theorem dX11_comes_31 : decode cX11_comes 31 = .ok (.iload_n 3, 1) := by decide +kernel
theorem dX11_comes_32 : decode cX11_comes 32 = .ok (.iload 4, 2) := by decide +kernel
theorem dX11_comes_34 : decode cX11_comes 34 = .ok (.invokevirtual 207, 3) := by decide +kernel
theorem dX11_comes_37 : decode cX11_comes 37 = .ok (.aload_n 0, 1) := by decide +kernel
theorem dX11_comes_38 : decode cX11_comes 38 = .ok (.getfield 22, 3) := by decide +kernel
theorem dX11_comes_41 : decode cX11_comes 41 = .ok (.aload_n 0, 1) := by decide +kernel
theorem dX11_comes_42 : decode cX11_comes 42 = .ok (.getfield 10, 3) := by decide +kernel
theorem dX11_comes_45 : decode cX11_comes 45 = .ok (.aload_n 0, 1) := by decide +kernel
theorem dX11_comes_46 : decode cX11_comes 46 = .ok (.getfield 47, 3) := by decide +kernel
theorem dX11_comes_49 : decode cX11_comes 49 = .ok (.iload_n 1, 1) := by decide +kernel
theorem dX11_comes_50 : decode cX11_comes 50 = .ok (.invokevirtual 177, 3) := by decide +kernel
theorem dX11_comes_53 : decode cX11_comes 53 = .ok (.aload_n 0, 1) := by decide +kernel
theorem dX11_comes_54 : decode cX11_comes 54 = .ok (.getfield 47, 3) := by decide +kernel
theorem dX11_comes_57 : decode cX11_comes 57 = .ok (.iload 5, 2) := by decide +kernel
theorem dX11_comes_59 : decode cX11_comes 59 = .ok (.invokevirtual 201, 3) := by decide +kernel
theorem dX11_comes_62 : decode cX11_comes 62 = .ok (.ireturn, 1) := by decide +kernel
theorem dX11_alike_0 : decode cX11_alike 0 = .ok (.aload_n 0, 1) := by decide +kernel
theorem dX11_alike_1 : decode cX11_alike 1 = .ok (.getfield 10, 3) := by decide +kernel
theorem dX11_alike_4 : decode cX11_alike 4 = .ok (.iload_n 1, 1) := by decide +kernel
theorem dX11_alike_5 : decode cX11_alike 5 = .ok (.invokevirtual 124, 3) := by decide +kernel
theorem dX11_alike_8 : decode cX11_alike 8 = .ok (.ifCond .eq 14, 3) := by decide +kernel
theorem dX11_alike_11 : decode cX11_alike 11 = .ok (.aload_n 0, 1) := by decide +kernel
theorem dX11_alike_12 : decode cX11_alike 12 = .ok (.getfield 10, 3) := by decide +kernel
theorem dX11_alike_15 : decode cX11_alike 15 = .ok (.iload_n 2, 1) := by decide +kernel
theorem dX11_alike_16 : decode cX11_alike 16 = .ok (.invokevirtual 124, 3) := by decide +kernel
theorem dX11_alike_19 : decode cX11_alike 19 = .ok (.ifCond .ne 5, 3) := by decide +kernel
theorem dX11_alike_22 : decode cX11_alike 22 = .ok (.iconst (-1), 1) := by decide +kernel
theorem dX11_alike_23 : decode cX11_alike 23 = .ok (.ireturn, 1) := by decide +kernel
theorem dX11_alike_24 : decode cX11_alike 24 = .ok (.aload_n 0, 1) := by decide +kernel
theorem dX11_alike_25 : decode cX11_alike 25 = .ok (.getfield 22, 3) := by decide +kernel
theorem dX11_alike_28 : decode cX11_alike 28 = .ok (.aload_n 0, 1) := by decide +kernel
theorem dX11_alike_29 : decode cX11_alike 29 = .ok (.getfield 10, 3) := by decide +kernel
theorem dX11_alike_32 : decode cX11_alike 32 = .ok (.iload_n 1, 1) := by decide +kernel
theorem dX11_alike_33 : decode cX11_alike 33 = .ok (.iload_n 2, 1) := by decide +kernel
theorem dX11_alike_34 : decode cX11_alike 34 = .ok (.invokevirtual 211, 3) := by decide +kernel
theorem dX11_alike_37 : decode cX11_alike 37 = .ok (.iconst (-1), 1) := by decide +kernel
theorem dX11_alike_38 : decode cX11_alike 38 = .ok (.if_icmp .ne 7, 3) := by decide +kernel
theorem dX11_alike_41 : decode cX11_alike 41 = .ok (.iconst 1, 1) := by decide +kernel
theorem dX11_alike_42 : decode cX11_alike 42 = .ok (.goto 4, 3) := by decide +kernel
theorem dX11_alike_45 : decode cX11_alike 45 = .ok (.iconst 0, 1) := by decide +kernel
theorem dX11_alike_46 : decode cX11_alike 46 = .ok (.ireturn, 1) := by decide +kernel
theorem dX11_differs_0 : decode cX11_differs 0 = .ok (.aload_n 0, 1) := by decide +kernel
theorem dX11_differs_1 : decode cX11_differs 1 = .ok (.getfield 10, 3) := by decide +kernel
theorem dX11_differs_4 : decode cX11_differs 4 = .ok (.iload_n 1, 1) := by decide +kernel
theorem dX11_differs_5 : decode cX11_differs 5 = .ok (.invokevirtual 124, 3) := by decide +kernel
theorem dX11_differs_8 : decode cX11_differs 8 = .ok (.ifCond .eq 14, 3) := by decide +kernel
theorem dX11_differs_11 : decode cX11_differs 11 = .ok (.aload_n 0, 1) := by decide +kernel
theorem dX11_differs_12 : decode cX11_differs 12 = .ok (.getfield 10, 3) := by decide +kernel
theorem dX11_differs_15 : decode cX11_differs 15 = .ok (.iload_n 2, 1) := by decide +kernel
theorem dX11_differs_16 : decode cX11_differs 16 = .ok (.invokevirtual 124, 3) := by decide +kernel
theorem dX11_differs_19 : decode cX11_differs 19 = .ok (.ifCond .ne 5, 3) := by decide +kernel
theorem dX11_differs_22 : decode cX11_differs 22 = .ok (.iconst (-1), 1) := by decide +kernel
theorem dX11_differs_23 : decode cX11_differs 23 = .ok (.ireturn, 1) := by decide +kernel
theorem dX11_differs_24 : decode cX11_differs 24 = .ok (.iconst (-1), 1) := by decide +kernel
theorem dX11_differs_25 : decode cX11_differs 25 = .ok (.aload_n 0, 1) := by decide +kernel
theorem dX11_differs_26 : decode cX11_differs 26 = .ok (.getfield 22, 3) := by decide +kernel
theorem dX11_differs_29 : decode cX11_differs 29 = .ok (.aload_n 0, 1) := by decide +kernel
theorem dX11_differs_30 : decode cX11_differs 30 = .ok (.getfield 10, 3) := by decide +kernel
theorem dX11_differs_33 : decode cX11_differs 33 = .ok (.iload_n 1, 1) := by decide +kernel
theorem dX11_differs_34 : decode cX11_differs 34 = .ok (.iload_n 2, 1) := by decide +kernel
theorem dX11_differs_35 : decode cX11_differs 35 = .ok (.invokevirtual 211, 3) := by decide +kernel
theorem dX11_differs_38 : decode cX11_differs 38 = .ok (.invokestatic 215, 3) := by decide +kernel
theorem dX11_differs_41 : decode cX11_differs 41 = .ok (.ireturn, 1) := by decide +kernel
theorem dX11_shortest_0 : decode cX11_shortest 0 = .ok (.aload_n 0, 1) := by decide +kernel
theorem dX11_shortest_1 : decode cX11_shortest 1 = .ok (.getfield 61, 3) := by decide +kernel
theorem dX11_shortest_4 : decode cX11_shortest 4 = .ok (.iload_n 1, 1) := by decide +kernel
theorem dX11_shortest_5 : decode cX11_shortest 5 = .ok (.aload_n 0, 1) := by decide +kernel
theorem dX11_shortest_6 : decode cX11_shortest 6 = .ok (.getfield 61, 3) := by decide +kernel
theorem dX11_shortest_9 : decode cX11_shortest 9 = .ok (.iload_n 1, 1) := by decide +kernel
theorem dX11_shortest_10 : decode cX11_shortest 10 = .ok (.iload_n 2, 1) := by decide +kernel
theorem dX11_shortest_11 : decode cX11_shortest 11 = .ok (.invokevirtual 221, 3) := by decide +kernel
theorem dX11_shortest_14 : decode cX11_shortest 14 = .ok (.invokevirtual 224, 3) := by decide +kernel
theorem dX11_shortest_17 : decode cX11_shortest 17 = .ok (.ireturn, 1) := by decide +kernel
theorem dX11_cheapest_0 : decode cX11_cheapest 0 = .ok (.aload_n 0, 1) := by decide +kernel
theorem dX11_cheapest_1 : decode cX11_cheapest 1 = .ok (.getfield 61, 3) := by decide +kernel
theorem dX11_cheapest_4 : decode cX11_cheapest 4 = .ok (.iload_n 1, 1) := by decide +kernel
theorem dX11_cheapest_5 : decode cX11_cheapest 5 = .ok (.aload_n 0, 1) := by decide +kernel
theorem dX11_cheapest_6 : decode cX11_cheapest 6 = .ok (.getfield 61, 3) := by decide +kernel
theorem dX11_cheapest_9 : decode cX11_cheapest 9 = .ok (.iload_n 1, 1) := by decide +kernel
theorem dX11_cheapest_10 : decode cX11_cheapest 10 = .ok (.iload_n 2, 1) := by decide +kernel
theorem dX11_cheapest_11 : decode cX11_cheapest 11 = .ok (.invokevirtual 221, 3) := by decide +kernel
theorem dX11_cheapest_14 : decode cX11_cheapest 14 = .ok (.aload_n 0, 1) := by decide +kernel
theorem dX11_cheapest_15 : decode cX11_cheapest 15 = .ok (.getfield 10, 3) := by decide +kernel
theorem dX11_cheapest_18 : decode cX11_cheapest 18 = .ok (.getfield 227, 3) := by decide +kernel
theorem dX11_cheapest_21 : decode cX11_cheapest 21 = .ok (.invokevirtual 230, 3) := by decide +kernel
theorem dX11_cheapest_24 : decode cX11_cheapest 24 = .ok (.ireturn, 1) := by decide +kernel
theorem dX11_shuffled_0 : decode cX11_shuffled 0 = .ok (.aload_n 0, 1) := by decide +kernel
theorem dX11_shuffled_1 : decode cX11_shuffled 1 = .ok (.getfield 61, 3) := by decide +kernel
theorem dX11_shuffled_4 : decode cX11_shuffled 4 = .ok (.iload_n 1, 1) := by decide +kernel
theorem dX11_shuffled_5 : decode cX11_shuffled 5 = .ok (.iload_n 2, 1) := by decide +kernel
theorem dX11_shuffled_6 : decode cX11_shuffled 6 = .ok (.invokevirtual 234, 3) := by decide +kernel
theorem dX11_shuffled_9 : decode cX11_shuffled 9 = .ok (.ireturn, 1) := by decide +kernel
theorem dX11_tidy_0 : decode cX11_tidy 0 = .ok (.aload_n 0, 1) := by decide +kernel
theorem dX11_tidy_1 : decode cX11_tidy 1 = .ok (.getfield 10, 3) := by decide +kernel
theorem dX11_tidy_4 : decode cX11_tidy 4 = .ok (.iload_n 1, 1) := by decide +kernel
theorem dX11_tidy_5 : decode cX11_tidy 5 = .ok (.invokevirtual 124, 3) := by decide +kernel
theorem dX11_tidy_8 : decode cX11_tidy 8 = .ok (.ifCond .eq 18, 3) := by decide +kernel
theorem dX11_tidy_11 : decode cX11_tidy 11 = .ok (.aload_n 0, 1) := by decide +kernel
theorem dX11_tidy_12 : decode cX11_tidy 12 = .ok (.getfield 61, 3) := by decide +kernel
theorem dX11_tidy_15 : decode cX11_tidy 15 = .ok (.aload_n 0, 1) := by decide +kernel
theorem dX11_tidy_16 : decode cX11_tidy 16 = .ok (.getfield 10, 3) := by decide +kernel
theorem dX11_tidy_19 : decode cX11_tidy 19 = .ok (.iload_n 1, 1) := by decide +kernel
theorem dX11_tidy_20 : decode cX11_tidy 20 = .ok (.invokevirtual 237, 3) := by decide +kernel
theorem dX11_tidy_23 : decode cX11_tidy 23 = .ok (.goto 4, 3) := by decide +kernel
theorem dX11_tidy_26 : decode cX11_tidy 26 = .ok (.iconst (-1), 1) := by decide +kernel
theorem dX11_tidy_27 : decode cX11_tidy 27 = .ok (.ireturn, 1) := by decide +kernel
theorem dX11_takes_0 : decode cX11_takes 0 = .ok (.iload_n 1, 1) := by decide +kernel
theorem dX11_takes_1 : decode cX11_takes 1 = .ok (.invokestatic 241, 3) := by decide +kernel
theorem dX11_takes_4 : decode cX11_takes 4 = .ok (.ifCond .eq 13, 3) := by decide +kernel
theorem dX11_takes_7 : decode cX11_takes 7 = .ok (.iload_n 2, 1) := by decide +kernel
theorem dX11_takes_8 : decode cX11_takes 8 = .ok (.ifCond .lt 9, 3) := by decide +kernel
theorem dX11_takes_11 : decode cX11_takes 11 = .ok (.iload_n 2, 1) := by decide +kernel
theorem dX11_takes_12 : decode cX11_takes 12 = .ok (.bipush 19, 2) := by decide +kernel
theorem dX11_takes_14 : decode cX11_takes 14 = .ok (.if_icmp .lt 5, 3) := by decide +kernel
theorem dX11_takes_17 : decode cX11_takes 17 = .ok (.iconst (-1), 1) := by decide +kernel
theorem dX11_takes_18 : decode cX11_takes 18 = .ok (.ireturn, 1) := by decide +kernel
theorem dX11_takes_19 : decode cX11_takes 19 = .ok (.aload_n 0, 1) := by decide +kernel
theorem dX11_takes_20 : decode cX11_takes 20 = .ok (.getfield 10, 3) := by decide +kernel
theorem dX11_takes_23 : decode cX11_takes 23 = .ok (.getfield 227, 3) := by decide +kernel
theorem dX11_takes_26 : decode cX11_takes 26 = .ok (.iload_n 1, 1) := by decide +kernel
theorem dX11_takes_27 : decode cX11_takes 27 = .ok (.bipush 19, 2) := by decide +kernel
theorem dX11_takes_29 : decode cX11_takes 29 = .ok (.imul, 1) := by decide +kernel
theorem dX11_takes_30 : decode cX11_takes 30 = .ok (.iload_n 2, 1) := by decide +kernel
theorem dX11_takes_31 : decode cX11_takes 31 = .ok (.iadd, 1) := by decide +kernel
theorem dX11_takes_32 : decode cX11_takes 32 = .ok (.iaload, 1) := by decide +kernel
theorem dX11_takes_33 : decode cX11_takes 33 = .ok (.ireturn, 1) := by decide +kernel
theorem dX11_time_0 : decode cX11_time 0 = .ok (.aload_n 0, 1) := by decide +kernel
theorem dX11_time_1 : decode cX11_time 1 = .ok (.getfield 10, 3) := by decide +kernel
theorem dX11_time_4 : decode cX11_time 4 = .ok (.iload_n 1, 1) := by decide +kernel
theorem dX11_time_5 : decode cX11_time 5 = .ok (.invokevirtual 124, 3) := by decide +kernel
theorem dX11_time_8 : decode cX11_time 8 = .ok (.ifCond .eq 10, 3) := by decide +kernel
theorem dX11_time_11 : decode cX11_time 11 = .ok (.iload_n 2, 1) := by decide +kernel
theorem dX11_time_12 : decode cX11_time 12 = .ok (.invokestatic 241, 3) := by decide +kernel
theorem dX11_time_15 : decode cX11_time 15 = .ok (.ifCond .ne 5, 3) := by decide +kernel
theorem dX11_time_18 : decode cX11_time 18 = .ok (.iconst (-1), 1) := by decide +kernel
theorem dX11_time_19 : decode cX11_time 19 = .ok (.ireturn, 1) := by decide +kernel
theorem dX11_time_20 : decode cX11_time 20 = .ok (.aload_n 0, 1) := by decide +kernel
theorem dX11_time_21 : decode cX11_time 21 = .ok (.getfield 54, 3) := by decide +kernel
theorem dX11_time_24 : decode cX11_time 24 = .ok (.aload_n 0, 1) := by decide +kernel
theorem dX11_time_25 : decode cX11_time 25 = .ok (.getfield 10, 3) := by decide +kernel
theorem dX11_time_28 : decode cX11_time 28 = .ok (.iload_n 2, 1) := by decide +kernel
theorem dX11_time_29 : decode cX11_time 29 = .ok (.invokevirtual 244, 3) := by decide +kernel
theorem dX11_time_32 : decode cX11_time 32 = .ok (.aload_n 0, 1) := by decide +kernel
theorem dX11_time_33 : decode cX11_time 33 = .ok (.getfield 54, 3) := by decide +kernel
theorem dX11_time_36 : decode cX11_time 36 = .ok (.aload_n 0, 1) := by decide +kernel
theorem dX11_time_37 : decode cX11_time 37 = .ok (.getfield 10, 3) := by decide +kernel
theorem dX11_time_40 : decode cX11_time 40 = .ok (.aload_n 0, 1) := by decide +kernel
theorem dX11_time_41 : decode cX11_time 41 = .ok (.getfield 36, 3) := by decide +kernel
theorem dX11_time_44 : decode cX11_time 44 = .ok (.invokevirtual 147, 3) := by decide +kernel
theorem dX11_time_47 : decode cX11_time 47 = .ok (.getfield 150, 3) := by decide +kernel
theorem dX11_time_50 : decode cX11_time 50 = .ok (.iload_n 1, 1) := by decide +kernel
theorem dX11_time_51 : decode cX11_time 51 = .ok (.invokevirtual 248, 3) := by decide +kernel
theorem dX11_time_54 : decode cX11_time 54 = .ok (.ireturn, 1) := by decide +kernel
theorem dX11_room_0 : decode cX11_room 0 = .ok (.aload_n 0, 1) := by decide +kernel
theorem dX11_room_1 : decode cX11_room 1 = .ok (.getfield 10, 3) := by decide +kernel
theorem dX11_room_4 : decode cX11_room 4 = .ok (.iload_n 1, 1) := by decide +kernel
theorem dX11_room_5 : decode cX11_room 5 = .ok (.invokevirtual 124, 3) := by decide +kernel
theorem dX11_room_8 : decode cX11_room 8 = .ok (.ifCond .eq 10, 3) := by decide +kernel
theorem dX11_room_11 : decode cX11_room 11 = .ok (.iload_n 2, 1) := by decide +kernel
theorem dX11_room_12 : decode cX11_room 12 = .ok (.invokestatic 241, 3) := by decide +kernel
theorem dX11_room_15 : decode cX11_room 15 = .ok (.ifCond .ne 5, 3) := by decide +kernel
theorem dX11_room_18 : decode cX11_room 18 = .ok (.iconst (-1), 1) := by decide +kernel
theorem dX11_room_19 : decode cX11_room 19 = .ok (.ireturn, 1) := by decide +kernel
theorem dX11_room_20 : decode cX11_room 20 = .ok (.aload_n 0, 1) := by decide +kernel
theorem dX11_room_21 : decode cX11_room 21 = .ok (.getfield 54, 3) := by decide +kernel
theorem dX11_room_24 : decode cX11_room 24 = .ok (.aload_n 0, 1) := by decide +kernel
theorem dX11_room_25 : decode cX11_room 25 = .ok (.getfield 10, 3) := by decide +kernel
theorem dX11_room_28 : decode cX11_room 28 = .ok (.aload_n 0, 1) := by decide +kernel
theorem dX11_room_29 : decode cX11_room 29 = .ok (.getfield 36, 3) := by decide +kernel
theorem dX11_room_32 : decode cX11_room 32 = .ok (.invokevirtual 147, 3) := by decide +kernel
theorem dX11_room_35 : decode cX11_room 35 = .ok (.getfield 150, 3) := by decide +kernel
theorem dX11_room_38 : decode cX11_room 38 = .ok (.iload_n 1, 1) := by decide +kernel
theorem dX11_room_39 : decode cX11_room 39 = .ok (.iload_n 2, 1) := by decide +kernel
theorem dX11_room_40 : decode cX11_room 40 = .ok (.invokevirtual 251, 3) := by decide +kernel
theorem dX11_room_43 : decode cX11_room 43 = .ok (.ireturn, 1) := by decide +kernel
theorem dX11_best_0 : decode cX11_best 0 = .ok (.aload_n 0, 1) := by decide +kernel
theorem dX11_best_1 : decode cX11_best 1 = .ok (.getfield 10, 3) := by decide +kernel
theorem dX11_best_4 : decode cX11_best 4 = .ok (.iload_n 1, 1) := by decide +kernel
theorem dX11_best_5 : decode cX11_best 5 = .ok (.invokevirtual 124, 3) := by decide +kernel
theorem dX11_best_8 : decode cX11_best 8 = .ok (.ifCond .eq 28, 3) := by decide +kernel
theorem dX11_best_11 : decode cX11_best 11 = .ok (.aload_n 0, 1) := by decide +kernel
theorem dX11_best_12 : decode cX11_best 12 = .ok (.getfield 54, 3) := by decide +kernel
theorem dX11_best_15 : decode cX11_best 15 = .ok (.aload_n 0, 1) := by decide +kernel
theorem dX11_best_16 : decode cX11_best 16 = .ok (.getfield 10, 3) := by decide +kernel
theorem dX11_best_19 : decode cX11_best 19 = .ok (.aload_n 0, 1) := by decide +kernel
theorem dX11_best_20 : decode cX11_best 20 = .ok (.getfield 36, 3) := by decide +kernel
theorem dX11_best_23 : decode cX11_best 23 = .ok (.invokevirtual 147, 3) := by decide +kernel
theorem dX11_best_26 : decode cX11_best 26 = .ok (.getfield 150, 3) := by decide +kernel
theorem dX11_best_29 : decode cX11_best 29 = .ok (.iload_n 1, 1) := by decide +kernel
theorem dX11_best_30 : decode cX11_best 30 = .ok (.invokevirtual 255, 3) := by decide +kernel
theorem dX11_best_33 : decode cX11_best 33 = .ok (.goto 4, 3) := by decide +kernel
theorem dX11_best_36 : decode cX11_best 36 = .ok (.iconst (-1), 1) := by decide +kernel
theorem dX11_best_37 : decode cX11_best 37 = .ok (.ireturn, 1) := by decide +kernel
theorem dX11_total_0 : decode cX11_total 0 = .ok (.iload_n 1, 1) := by decide +kernel
theorem dX11_total_1 : decode cX11_total 1 = .ok (.invokestatic 241, 3) := by decide +kernel
theorem dX11_total_4 : decode cX11_total 4 = .ok (.ifCond .ne 5, 3) := by decide +kernel
theorem dX11_total_7 : decode cX11_total 7 = .ok (.iconst (-1), 1) := by decide +kernel
theorem dX11_total_8 : decode cX11_total 8 = .ok (.ireturn, 1) := by decide +kernel
theorem dX11_total_9 : decode cX11_total 9 = .ok (.iconst 0, 1) := by decide +kernel
theorem dX11_total_10 : decode cX11_total 10 = .ok (.istore_n 2, 1) := by decide +kernel
theorem dX11_total_11 : decode cX11_total 11 = .ok (.aload_n 0, 1) := by decide +kernel
theorem dX11_total_12 : decode cX11_total 12 = .ok (.getfield 36, 3) := by decide +kernel
theorem dX11_total_15 : decode cX11_total 15 = .ok (.invokevirtual 147, 3) := by decide +kernel
theorem dX11_total_18 : decode cX11_total 18 = .ok (.getfield 150, 3) := by decide +kernel
theorem dX11_total_21 : decode cX11_total 21 = .ok (.istore_n 3, 1) := by decide +kernel
theorem dX11_total_22 : decode cX11_total 22 = .ok (.iconst 0, 1) := by decide +kernel
theorem dX11_total_23 : decode cX11_total 23 = .ok (.istore 4, 2) := by decide +kernel
theorem dX11_total_25 : decode cX11_total 25 = .ok (.iload 4, 2) := by decide +kernel
theorem dX11_total_27 : decode cX11_total 27 = .ok (.aload_n 0, 1) := by decide +kernel
theorem dX11_total_28 : decode cX11_total 28 = .ok (.getfield 10, 3) := by decide +kernel
theorem dX11_total_31 : decode cX11_total 31 = .ok (.getfield 121, 3) := by decide +kernel
theorem dX11_total_34 : decode cX11_total 34 = .ok (.if_icmp .ge 36, 3) := by decide +kernel
theorem dX11_total_37 : decode cX11_total 37 = .ok (.iload_n 3, 1) := by decide +kernel
theorem dX11_total_38 : decode cX11_total 38 = .ok (.iload 4, 2) := by decide +kernel
theorem dX11_total_40 : decode cX11_total 40 = .ok (.ishr, 1) := by decide +kernel
theorem dX11_total_41 : decode cX11_total 41 = .ok (.iconst 1, 1) := by decide +kernel
theorem dX11_total_42 : decode cX11_total 42 = .ok (.iand, 1) := by decide +kernel
theorem dX11_total_43 : decode cX11_total 43 = .ok (.ifCond .ne 21, 3) := by decide +kernel
theorem dX11_total_46 : decode cX11_total 46 = .ok (.iload_n 2, 1) := by decide +kernel
theorem dX11_total_47 : decode cX11_total 47 = .ok (.aload_n 0, 1) := by decide +kernel
theorem dX11_total_48 : decode cX11_total 48 = .ok (.getfield 54, 3) := by decide +kernel
theorem dX11_total_51 : decode cX11_total 51 = .ok (.aload_n 0, 1) := by decide +kernel
theorem dX11_total_52 : decode cX11_total 52 = .ok (.getfield 10, 3) := by decide +kernel
theorem dX11_total_55 : decode cX11_total 55 = .ok (.iload_n 3, 1) := by decide +kernel
theorem dX11_total_56 : decode cX11_total 56 = .ok (.iload 4, 2) := by decide +kernel
theorem dX11_total_58 : decode cX11_total 58 = .ok (.iload_n 1, 1) := by decide +kernel
theorem dX11_total_59 : decode cX11_total 59 = .ok (.invokevirtual 251, 3) := by decide +kernel
theorem dX11_total_62 : decode cX11_total 62 = .ok (.iadd, 1) := by decide +kernel
theorem dX11_total_63 : decode cX11_total 63 = .ok (.istore_n 2, 1) := by decide +kernel
theorem dX11_total_64 : decode cX11_total 64 = .ok (.iinc 4 1, 3) := by decide +kernel
theorem dX11_total_67 : decode cX11_total 67 = .ok (.goto (-42), 3) := by decide +kernel
theorem dX11_total_70 : decode cX11_total 70 = .ok (.iload_n 2, 1) := by decide +kernel
theorem dX11_total_71 : decode cX11_total 71 = .ok (.ireturn, 1) := by decide +kernel
theorem dX11_calls_0 : decode cX11_calls 0 = .ok (.aload_n 0, 1) := by decide +kernel
theorem dX11_calls_1 : decode cX11_calls 1 = .ok (.getfield 10, 3) := by decide +kernel
theorem dX11_calls_4 : decode cX11_calls 4 = .ok (.iload_n 1, 1) := by decide +kernel
theorem dX11_calls_5 : decode cX11_calls 5 = .ok (.invokevirtual 124, 3) := by decide +kernel
theorem dX11_calls_8 : decode cX11_calls 8 = .ok (.ifCond .eq 14, 3) := by decide +kernel
theorem dX11_calls_11 : decode cX11_calls 11 = .ok (.aload_n 0, 1) := by decide +kernel
theorem dX11_calls_12 : decode cX11_calls 12 = .ok (.getfield 10, 3) := by decide +kernel
theorem dX11_calls_15 : decode cX11_calls 15 = .ok (.iload_n 1, 1) := by decide +kernel
theorem dX11_calls_16 : decode cX11_calls 16 = .ok (.invokevirtual 258, 3) := by decide +kernel
theorem dX11_calls_19 : decode cX11_calls 19 = .ok (.goto 4, 3) := by decide +kernel
theorem dX11_calls_22 : decode cX11_calls 22 = .ok (.iconst (-1), 1) := by decide +kernel
theorem dX11_calls_23 : decode cX11_calls 23 = .ok (.ireturn, 1) := by decide +kernel
theorem dX11_callers_0 : decode cX11_callers 0 = .ok (.aload_n 0, 1) := by decide +kernel
theorem dX11_callers_1 : decode cX11_callers 1 = .ok (.getfield 10, 3) := by decide +kernel
theorem dX11_callers_4 : decode cX11_callers 4 = .ok (.iload_n 1, 1) := by decide +kernel
theorem dX11_callers_5 : decode cX11_callers 5 = .ok (.invokevirtual 124, 3) := by decide +kernel
theorem dX11_callers_8 : decode cX11_callers 8 = .ok (.ifCond .eq 14, 3) := by decide +kernel
theorem dX11_callers_11 : decode cX11_callers 11 = .ok (.aload_n 0, 1) := by decide +kernel
theorem dX11_callers_12 : decode cX11_callers 12 = .ok (.getfield 10, 3) := by decide +kernel
theorem dX11_callers_15 : decode cX11_callers 15 = .ok (.iload_n 1, 1) := by decide +kernel
theorem dX11_callers_16 : decode cX11_callers 16 = .ok (.invokevirtual 261, 3) := by decide +kernel
theorem dX11_callers_19 : decode cX11_callers 19 = .ok (.goto 4, 3) := by decide +kernel
theorem dX11_callers_22 : decode cX11_callers 22 = .ok (.iconst (-1), 1) := by decide +kernel
theorem dX11_callers_23 : decode cX11_callers 23 = .ok (.ireturn, 1) := by decide +kernel
theorem dX11_nested_0 : decode cX11_nested 0 = .ok (.aload_n 0, 1) := by decide +kernel
theorem dX11_nested_1 : decode cX11_nested 1 = .ok (.getfield 10, 3) := by decide +kernel
theorem dX11_nested_4 : decode cX11_nested 4 = .ok (.iload_n 1, 1) := by decide +kernel
theorem dX11_nested_5 : decode cX11_nested 5 = .ok (.invokevirtual 124, 3) := by decide +kernel
theorem dX11_nested_8 : decode cX11_nested 8 = .ok (.ifCond .eq 18, 3) := by decide +kernel
theorem dX11_nested_11 : decode cX11_nested 11 = .ok (.aload_n 0, 1) := by decide +kernel
theorem dX11_nested_12 : decode cX11_nested 12 = .ok (.getfield 54, 3) := by decide +kernel
theorem dX11_nested_15 : decode cX11_nested 15 = .ok (.aload_n 0, 1) := by decide +kernel
theorem dX11_nested_16 : decode cX11_nested 16 = .ok (.getfield 10, 3) := by decide +kernel
theorem dX11_nested_19 : decode cX11_nested 19 = .ok (.iload_n 1, 1) := by decide +kernel
theorem dX11_nested_20 : decode cX11_nested 20 = .ok (.invokevirtual 264, 3) := by decide +kernel
theorem dX11_nested_23 : decode cX11_nested 23 = .ok (.goto 4, 3) := by decide +kernel
theorem dX11_nested_26 : decode cX11_nested 26 = .ok (.iconst (-1), 1) := by decide +kernel
theorem dX11_nested_27 : decode cX11_nested 27 = .ok (.ireturn, 1) := by decide +kernel
theorem dX11_pick_0 : decode cX11_pick 0 = .ok (.iload_n 1, 1) := by decide +kernel
theorem dX11_pick_1 : decode cX11_pick 1 = .ok (.invokestatic 241, 3) := by decide +kernel
theorem dX11_pick_4 : decode cX11_pick 4 = .ok (.ifCond .eq 13, 3) := by decide +kernel
theorem dX11_pick_7 : decode cX11_pick 7 = .ok (.aload_n 0, 1) := by decide +kernel
theorem dX11_pick_8 : decode cX11_pick 8 = .ok (.getfield 10, 3) := by decide +kernel
theorem dX11_pick_11 : decode cX11_pick 11 = .ok (.getfield 121, 3) := by decide +kernel
theorem dX11_pick_14 : decode cX11_pick 14 = .ok (.ifCond .ne 5, 3) := by decide +kernel
theorem dX11_pick_17 : decode cX11_pick 17 = .ok (.iconst (-1), 1) := by decide +kernel
theorem dX11_pick_18 : decode cX11_pick 18 = .ok (.ireturn, 1) := by decide +kernel
theorem dX11_pick_19 : decode cX11_pick 19 = .ok (.aload_n 0, 1) := by decide +kernel
theorem dX11_pick_20 : decode cX11_pick 20 = .ok (.getfield 54, 3) := by decide +kernel
theorem dX11_pick_23 : decode cX11_pick 23 = .ok (.aload_n 0, 1) := by decide +kernel
theorem dX11_pick_24 : decode cX11_pick 24 = .ok (.getfield 10, 3) := by decide +kernel
theorem dX11_pick_27 : decode cX11_pick 27 = .ok (.iload_n 1, 1) := by decide +kernel
theorem dX11_pick_28 : decode cX11_pick 28 = .ok (.invokevirtual 244, 3) := by decide +kernel
theorem dX11_pick_31 : decode cX11_pick 31 = .ok (.aload_n 0, 1) := by decide +kernel
theorem dX11_pick_32 : decode cX11_pick 32 = .ok (.getfield 54, 3) := by decide +kernel
theorem dX11_pick_35 : decode cX11_pick 35 = .ok (.aload_n 0, 1) := by decide +kernel
theorem dX11_pick_36 : decode cX11_pick 36 = .ok (.getfield 10, 3) := by decide +kernel
theorem dX11_pick_39 : decode cX11_pick 39 = .ok (.aload_n 0, 1) := by decide +kernel
theorem dX11_pick_40 : decode cX11_pick 40 = .ok (.getfield 36, 3) := by decide +kernel
theorem dX11_pick_43 : decode cX11_pick 43 = .ok (.invokevirtual 147, 3) := by decide +kernel
theorem dX11_pick_46 : decode cX11_pick 46 = .ok (.getfield 150, 3) := by decide +kernel
theorem dX11_pick_49 : decode cX11_pick 49 = .ok (.invokevirtual 267, 3) := by decide +kernel
theorem dX11_pick_52 : decode cX11_pick 52 = .ok (.ireturn, 1) := by decide +kernel
theorem dX11_commonest_0 : decode cX11_commonest 0 = .ok (.iconst (-1), 1) := by decide +kernel
theorem dX11_commonest_1 : decode cX11_commonest 1 = .ok (.istore_n 1, 1) := by decide +kernel
theorem dX11_commonest_2 : decode cX11_commonest 2 = .ok (.iconst 0, 1) := by decide +kernel
theorem dX11_commonest_3 : decode cX11_commonest 3 = .ok (.istore_n 2, 1) := by decide +kernel
theorem dX11_commonest_4 : decode cX11_commonest 4 = .ok (.iconst 0, 1) := by decide +kernel
theorem dX11_commonest_5 : decode cX11_commonest 5 = .ok (.istore_n 3, 1) := by decide +kernel
theorem dX11_commonest_6 : decode cX11_commonest 6 = .ok (.iload_n 3, 1) := by decide +kernel
theorem dX11_commonest_7 : decode cX11_commonest 7 = .ok (.bipush 15, 2) := by decide +kernel
theorem dX11_commonest_9 : decode cX11_commonest 9 = .ok (.if_icmp .ge 30, 3) := by decide +kernel
theorem dX11_commonest_12 : decode cX11_commonest 12 = .ok (.aload_n 0, 1) := by decide +kernel
theorem dX11_commonest_13 : decode cX11_commonest 13 = .ok (.getfield 10, 3) := by decide +kernel
theorem dX11_commonest_16 : decode cX11_commonest 16 = .ok (.iload_n 3, 1) := by decide +kernel
theorem dX11_commonest_17 : decode cX11_commonest 17 = .ok (.invokevirtual 270, 3) := by decide +kernel
theorem dX11_commonest_20 : decode cX11_commonest 20 = .ok (.istore 4, 2) := by decide +kernel
theorem dX11_commonest_22 : decode cX11_commonest 22 = .ok (.iload 4, 2) := by decide +kernel
theorem dX11_commonest_24 : decode cX11_commonest 24 = .ok (.iload_n 2, 1) := by decide +kernel
theorem dX11_commonest_25 : decode cX11_commonest 25 = .ok (.if_icmp .le 8, 3) := by decide +kernel
theorem dX11_commonest_28 : decode cX11_commonest 28 = .ok (.iload 4, 2) := by decide +kernel
theorem dX11_commonest_30 : decode cX11_commonest 30 = .ok (.istore_n 2, 1) := by decide +kernel
theorem dX11_commonest_31 : decode cX11_commonest 31 = .ok (.iload_n 3, 1) := by decide +kernel
theorem dX11_commonest_32 : decode cX11_commonest 32 = .ok (.istore_n 1, 1) := by decide +kernel
theorem dX11_commonest_33 : decode cX11_commonest 33 = .ok (.iinc 3 1, 3) := by decide +kernel
theorem dX11_commonest_36 : decode cX11_commonest 36 = .ok (.goto (-30), 3) := by decide +kernel
theorem dX11_commonest_39 : decode cX11_commonest 39 = .ok (.iload_n 1, 1) := by decide +kernel
theorem dX11_commonest_40 : decode cX11_commonest 40 = .ok (.ireturn, 1) := by decide +kernel
theorem dX11_height_0 : decode cX11_height 0 = .ok (.aload_n 0, 1) := by decide +kernel
theorem dX11_height_1 : decode cX11_height 1 = .ok (.getfield 10, 3) := by decide +kernel
theorem dX11_height_4 : decode cX11_height 4 = .ok (.iload_n 1, 1) := by decide +kernel
theorem dX11_height_5 : decode cX11_height 5 = .ok (.iload_n 2, 1) := by decide +kernel
theorem dX11_height_6 : decode cX11_height 6 = .ok (.invokevirtual 153, 3) := by decide +kernel
theorem dX11_height_9 : decode cX11_height 9 = .ok (.ifCond .eq 25, 3) := by decide +kernel
theorem dX11_height_12 : decode cX11_height 12 = .ok (.aload_n 0, 1) := by decide +kernel
theorem dX11_height_13 : decode cX11_height 13 = .ok (.getfield 10, 3) := by decide +kernel
theorem dX11_height_16 : decode cX11_height 16 = .ok (.getfield 273, 3) := by decide +kernel
theorem dX11_height_19 : decode cX11_height 19 = .ok (.aload_n 0, 1) := by decide +kernel
theorem dX11_height_20 : decode cX11_height 20 = .ok (.getfield 10, 3) := by decide +kernel
theorem dX11_height_23 : decode cX11_height 23 = .ok (.getfield 128, 3) := by decide +kernel
theorem dX11_height_26 : decode cX11_height 26 = .ok (.iload_n 1, 1) := by decide +kernel
theorem dX11_height_27 : decode cX11_height 27 = .ok (.iaload, 1) := by decide +kernel
theorem dX11_height_28 : decode cX11_height 28 = .ok (.iload_n 2, 1) := by decide +kernel
theorem dX11_height_29 : decode cX11_height 29 = .ok (.iadd, 1) := by decide +kernel
theorem dX11_height_30 : decode cX11_height 30 = .ok (.iaload, 1) := by decide +kernel
theorem dX11_height_31 : decode cX11_height 31 = .ok (.goto 5, 3) := by decide +kernel
theorem dX11_height_34 : decode cX11_height 34 = .ok (.bipush (-100), 2) := by decide +kernel
theorem dX11_height_36 : decode cX11_height 36 = .ok (.ireturn, 1) := by decide +kernel
theorem dX11_pure_0 : decode cX11_pure 0 = .ok (.iconst 0, 1) := by decide +kernel
theorem dX11_pure_1 : decode cX11_pure 1 = .ok (.istore_n 1, 1) := by decide +kernel
theorem dX11_pure_2 : decode cX11_pure 2 = .ok (.iconst 0, 1) := by decide +kernel
theorem dX11_pure_3 : decode cX11_pure 3 = .ok (.istore_n 2, 1) := by decide +kernel
theorem dX11_pure_4 : decode cX11_pure 4 = .ok (.iload_n 2, 1) := by decide +kernel
theorem dX11_pure_5 : decode cX11_pure 5 = .ok (.aload_n 0, 1) := by decide +kernel
theorem dX11_pure_6 : decode cX11_pure 6 = .ok (.getfield 10, 3) := by decide +kernel
theorem dX11_pure_9 : decode cX11_pure 9 = .ok (.getfield 121, 3) := by decide +kernel
theorem dX11_pure_12 : decode cX11_pure 12 = .ok (.if_icmp .ge 26, 3) := by decide +kernel
theorem dX11_pure_15 : decode cX11_pure 15 = .ok (.aload_n 0, 1) := by decide +kernel
theorem dX11_pure_16 : decode cX11_pure 16 = .ok (.getfield 10, 3) := by decide +kernel
theorem dX11_pure_19 : decode cX11_pure 19 = .ok (.iload_n 2, 1) := by decide +kernel
theorem dX11_pure_20 : decode cX11_pure 20 = .ok (.invokevirtual 276, 3) := by decide +kernel
theorem dX11_pure_23 : decode cX11_pure 23 = .ok (.ifCond .eq 9, 3) := by decide +kernel
theorem dX11_pure_26 : decode cX11_pure 26 = .ok (.iload_n 1, 1) := by decide +kernel
theorem dX11_pure_27 : decode cX11_pure 27 = .ok (.iconst 1, 1) := by decide +kernel
theorem dX11_pure_28 : decode cX11_pure 28 = .ok (.iload_n 2, 1) := by decide +kernel
theorem dX11_pure_29 : decode cX11_pure 29 = .ok (.ishl, 1) := by decide +kernel
theorem dX11_pure_30 : decode cX11_pure 30 = .ok (.ior, 1) := by decide +kernel
theorem dX11_pure_31 : decode cX11_pure 31 = .ok (.istore_n 1, 1) := by decide +kernel
theorem dX11_pure_32 : decode cX11_pure 32 = .ok (.iinc 2 1, 3) := by decide +kernel
theorem dX11_pure_35 : decode cX11_pure 35 = .ok (.goto (-31), 3) := by decide +kernel
theorem dX11_pure_38 : decode cX11_pure 38 = .ok (.iload_n 1, 1) := by decide +kernel
theorem dX11_pure_39 : decode cX11_pure 39 = .ok (.ireturn, 1) := by decide +kernel
theorem dX11_law_0 : decode cX11_law 0 = .ok (.aload_n 0, 1) := by decide +kernel
theorem dX11_law_1 : decode cX11_law 1 = .ok (.getfield 10, 3) := by decide +kernel
theorem dX11_law_4 : decode cX11_law 4 = .ok (.getfield 121, 3) := by decide +kernel
theorem dX11_law_7 : decode cX11_law 7 = .ok (.ifCond .eq 13, 3) := by decide +kernel
theorem dX11_law_10 : decode cX11_law 10 = .ok (.iload_n 1, 1) := by decide +kernel
theorem dX11_law_11 : decode cX11_law 11 = .ok (.ifCond .lt 9, 3) := by decide +kernel
theorem dX11_law_14 : decode cX11_law 14 = .ok (.iload_n 1, 1) := by decide +kernel
theorem dX11_law_15 : decode cX11_law 15 = .ok (.bipush 99, 2) := by decide +kernel
theorem dX11_law_17 : decode cX11_law 17 = .ok (.if_icmp .le 5, 3) := by decide +kernel
theorem dX11_law_20 : decode cX11_law 20 = .ok (.iconst (-1), 1) := by decide +kernel
theorem dX11_law_21 : decode cX11_law 21 = .ok (.ireturn, 1) := by decide +kernel
theorem dX11_law_22 : decode cX11_law 22 = .ok (.aload_n 0, 1) := by decide +kernel
theorem dX11_law_23 : decode cX11_law 23 = .ok (.getfield 54, 3) := by decide +kernel
theorem dX11_law_26 : decode cX11_law 26 = .ok (.iload_n 1, 1) := by decide +kernel
theorem dX11_law_27 : decode cX11_law 27 = .ok (.invokevirtual 279, 3) := by decide +kernel
theorem dX11_law_30 : decode cX11_law 30 = .ok (.aload_n 0, 1) := by decide +kernel
theorem dX11_law_31 : decode cX11_law 31 = .ok (.getfield 54, 3) := by decide +kernel
theorem dX11_law_34 : decode cX11_law 34 = .ok (.aload_n 0, 1) := by decide +kernel
theorem dX11_law_35 : decode cX11_law 35 = .ok (.getfield 10, 3) := by decide +kernel
theorem dX11_law_38 : decode cX11_law 38 = .ok (.aload_n 0, 1) := by decide +kernel
theorem dX11_law_39 : decode cX11_law 39 = .ok (.getfield 36, 3) := by decide +kernel
theorem dX11_law_42 : decode cX11_law 42 = .ok (.invokevirtual 147, 3) := by decide +kernel
theorem dX11_law_45 : decode cX11_law 45 = .ok (.getfield 150, 3) := by decide +kernel
theorem dX11_law_48 : decode cX11_law 48 = .ok (.aload_n 0, 1) := by decide +kernel
theorem dX11_law_49 : decode cX11_law 49 = .ok (.getfield 10, 3) := by decide +kernel
theorem dX11_law_52 : decode cX11_law 52 = .ok (.getfield 121, 3) := by decide +kernel
theorem dX11_law_55 : decode cX11_law 55 = .ok (.iconst 1, 1) := by decide +kernel
theorem dX11_law_56 : decode cX11_law 56 = .ok (.isub, 1) := by decide +kernel
theorem dX11_law_57 : decode cX11_law 57 = .ok (.invokevirtual 248, 3) := by decide +kernel
theorem dX11_law_60 : decode cX11_law 60 = .ok (.ireturn, 1) := by decide +kernel
theorem dX11_odds_0 : decode cX11_odds 0 = .ok (.iload_n 1, 1) := by decide +kernel
theorem dX11_odds_1 : decode cX11_odds 1 = .ok (.ifCond .lt 17, 3) := by decide +kernel
theorem dX11_odds_4 : decode cX11_odds 4 = .ok (.iload_n 1, 1) := by decide +kernel
theorem dX11_odds_5 : decode cX11_odds 5 = .ok (.iconst 4, 1) := by decide +kernel
theorem dX11_odds_6 : decode cX11_odds 6 = .ok (.if_icmp .gt 12, 3) := by decide +kernel
theorem dX11_odds_9 : decode cX11_odds 9 = .ok (.iload_n 2, 1) := by decide +kernel
theorem dX11_odds_10 : decode cX11_odds 10 = .ok (.ifCond .lt 8, 3) := by decide +kernel
theorem dX11_odds_13 : decode cX11_odds 13 = .ok (.iload_n 2, 1) := by decide +kernel
theorem dX11_odds_14 : decode cX11_odds 14 = .ok (.iconst 1, 1) := by decide +kernel
theorem dX11_odds_15 : decode cX11_odds 15 = .ok (.if_icmp .le 5, 3) := by decide +kernel
theorem dX11_odds_18 : decode cX11_odds 18 = .ok (.iconst (-1), 1) := by decide +kernel
theorem dX11_odds_19 : decode cX11_odds 19 = .ok (.ireturn, 1) := by decide +kernel
theorem dX11_odds_20 : decode cX11_odds 20 = .ok (.iload_n 2, 1) := by decide +kernel
theorem dX11_odds_21 : decode cX11_odds 21 = .ok (.ifCond .ne 16, 3) := by decide +kernel
theorem dX11_odds_24 : decode cX11_odds 24 = .ok (.bipush 100, 2) := by decide +kernel
theorem dX11_odds_26 : decode cX11_odds 26 = .ok (.aload_n 0, 1) := by decide +kernel
theorem dX11_odds_27 : decode cX11_odds 27 = .ok (.getfield 10, 3) := by decide +kernel
theorem dX11_odds_30 : decode cX11_odds 30 = .ok (.getfield 187, 3) := by decide +kernel
theorem dX11_odds_33 : decode cX11_odds 33 = .ok (.isub, 1) := by decide +kernel
theorem dX11_odds_34 : decode cX11_odds 34 = .ok (.goto 5, 3) := by decide +kernel
theorem dX11_odds_37 : decode cX11_odds 37 = .ok (.bipush 100, 2) := by decide +kernel
theorem dX11_odds_39 : decode cX11_odds 39 = .ok (.istore_n 3, 1) := by decide +kernel
theorem dX11_odds_40 : decode cX11_odds 40 = .ok (.iload_n 3, 1) := by decide +kernel
theorem dX11_odds_41 : decode cX11_odds 41 = .ok (.bipush 100, 2) := by decide +kernel
theorem dX11_odds_43 : decode cX11_odds 43 = .ok (.bipush 100, 2) := by decide +kernel
theorem dX11_odds_45 : decode cX11_odds 45 = .ok (.aload_n 0, 1) := by decide +kernel
theorem dX11_odds_46 : decode cX11_odds 46 = .ok (.getfield 10, 3) := by decide +kernel
theorem dX11_odds_49 : decode cX11_odds 49 = .ok (.getfield 187, 3) := by decide +kernel
theorem dX11_odds_52 : decode cX11_odds 52 = .ok (.isub, 1) := by decide +kernel
theorem dX11_odds_53 : decode cX11_odds 53 = .ok (.invokestatic 282, 3) := by decide +kernel
theorem dX11_odds_56 : decode cX11_odds 56 = .ok (.idiv, 1) := by decide +kernel
theorem dX11_odds_57 : decode cX11_odds 57 = .ok (.istore 4, 2) := by decide +kernel
theorem dX11_odds_59 : decode cX11_odds 59 = .ok (.iconst 1, 1) := by decide +kernel
theorem dX11_odds_60 : decode cX11_odds 60 = .ok (.istore 5, 2) := by decide +kernel
theorem dX11_odds_62 : decode cX11_odds 62 = .ok (.iconst 0, 1) := by decide +kernel
theorem dX11_odds_63 : decode cX11_odds 63 = .ok (.istore 6, 2) := by decide +kernel
theorem dX11_odds_65 : decode cX11_odds 65 = .ok (.iload 6, 2) := by decide +kernel
theorem dX11_odds_67 : decode cX11_odds 67 = .ok (.iload_n 1, 1) := by decide +kernel
theorem dX11_odds_68 : decode cX11_odds 68 = .ok (.if_icmp .ge 16, 3) := by decide +kernel
theorem dX11_odds_71 : decode cX11_odds 71 = .ok (.iload 5, 2) := by decide +kernel
theorem dX11_odds_73 : decode cX11_odds 73 = .ok (.iload 4, 2) := by decide +kernel
theorem dX11_odds_75 : decode cX11_odds 75 = .ok (.imul, 1) := by decide +kernel
theorem dX11_odds_76 : decode cX11_odds 76 = .ok (.istore 5, 2) := by decide +kernel
theorem dX11_odds_78 : decode cX11_odds 78 = .ok (.iinc 6 1, 3) := by decide +kernel
theorem dX11_odds_81 : decode cX11_odds 81 = .ok (.goto (-16), 3) := by decide +kernel
theorem dX11_odds_84 : decode cX11_odds 84 = .ok (.iload 5, 2) := by decide +kernel
theorem dX11_odds_86 : decode cX11_odds 86 = .ok (.ireturn, 1) := by decide +kernel
theorem dX11_lies_0 : decode cX11_lies 0 = .ok (.iload_n 1, 1) := by decide +kernel
theorem dX11_lies_1 : decode cX11_lies 1 = .ok (.ifCond .lt 26, 3) := by decide +kernel
theorem dX11_lies_4 : decode cX11_lies 4 = .ok (.iload_n 1, 1) := by decide +kernel
theorem dX11_lies_5 : decode cX11_lies 5 = .ok (.aload_n 0, 1) := by decide +kernel
theorem dX11_lies_6 : decode cX11_lies 6 = .ok (.getfield 61, 3) := by decide +kernel
theorem dX11_lies_9 : decode cX11_lies 9 = .ok (.getfield 118, 3) := by decide +kernel
theorem dX11_lies_12 : decode cX11_lies 12 = .ok (.if_icmp .ge 15, 3) := by decide +kernel
theorem dX11_lies_15 : decode cX11_lies 15 = .ok (.aload_n 0, 1) := by decide +kernel
theorem dX11_lies_16 : decode cX11_lies 16 = .ok (.getfield 61, 3) := by decide +kernel
theorem dX11_lies_19 : decode cX11_lies 19 = .ok (.getfield 285, 3) := by decide +kernel
theorem dX11_lies_22 : decode cX11_lies 22 = .ok (.iload_n 1, 1) := by decide +kernel
theorem dX11_lies_23 : decode cX11_lies 23 = .ok (.iaload, 1) := by decide +kernel
theorem dX11_lies_24 : decode cX11_lies 24 = .ok (.goto 5, 3) := by decide +kernel
theorem dX11_lies_27 : decode cX11_lies 27 = .ok (.bipush (-2), 2) := by decide +kernel
theorem dX11_lies_29 : decode cX11_lies 29 = .ok (.ireturn, 1) := by decide +kernel
theorem dX11_seen_0 : decode cX11_seen 0 = .ok (.aload_n 0, 1) := by decide +kernel
theorem dX11_seen_1 : decode cX11_seen 1 = .ok (.getfield 10, 3) := by decide +kernel
theorem dX11_seen_4 : decode cX11_seen 4 = .ok (.getfield 121, 3) := by decide +kernel
theorem dX11_seen_7 : decode cX11_seen 7 = .ok (.ifCond .eq 24, 3) := by decide +kernel
theorem dX11_seen_10 : decode cX11_seen 10 = .ok (.iload_n 1, 1) := by decide +kernel
theorem dX11_seen_11 : decode cX11_seen 11 = .ok (.invokestatic 288, 3) := by decide +kernel
theorem dX11_seen_14 : decode cX11_seen 14 = .ok (.ifCond .eq 17, 3) := by decide +kernel
theorem dX11_seen_17 : decode cX11_seen 17 = .ok (.iload_n 2, 1) := by decide +kernel
theorem dX11_seen_18 : decode cX11_seen 18 = .ok (.invokestatic 288, 3) := by decide +kernel
theorem dX11_seen_21 : decode cX11_seen 21 = .ok (.ifCond .eq 10, 3) := by decide +kernel
theorem dX11_seen_24 : decode cX11_seen 24 = .ok (.iload_n 3, 1) := by decide +kernel
theorem dX11_seen_25 : decode cX11_seen 25 = .ok (.invokestatic 288, 3) := by decide +kernel
theorem dX11_seen_28 : decode cX11_seen 28 = .ok (.ifCond .ne 5, 3) := by decide +kernel
theorem dX11_seen_31 : decode cX11_seen 31 = .ok (.iconst (-1), 1) := by decide +kernel
theorem dX11_seen_32 : decode cX11_seen 32 = .ok (.ireturn, 1) := by decide +kernel
theorem dX11_seen_33 : decode cX11_seen 33 = .ok (.aload_n 0, 1) := by decide +kernel
theorem dX11_seen_34 : decode cX11_seen 34 = .ok (.getfield 68, 3) := by decide +kernel
theorem dX11_seen_37 : decode cX11_seen 37 = .ok (.iload_n 1, 1) := by decide +kernel
theorem dX11_seen_38 : decode cX11_seen 38 = .ok (.bipush 100, 2) := by decide +kernel
theorem dX11_seen_40 : decode cX11_seen 40 = .ok (.imul, 1) := by decide +kernel
theorem dX11_seen_41 : decode cX11_seen 41 = .ok (.iload_n 2, 1) := by decide +kernel
theorem dX11_seen_42 : decode cX11_seen 42 = .ok (.bipush 10, 2) := by decide +kernel
theorem dX11_seen_44 : decode cX11_seen 44 = .ok (.imul, 1) := by decide +kernel
theorem dX11_seen_45 : decode cX11_seen 45 = .ok (.iadd, 1) := by decide +kernel
theorem dX11_seen_46 : decode cX11_seen 46 = .ok (.iload_n 3, 1) := by decide +kernel
theorem dX11_seen_47 : decode cX11_seen 47 = .ok (.iadd, 1) := by decide +kernel
theorem dX11_seen_48 : decode cX11_seen 48 = .ok (.iload 4, 2) := by decide +kernel
theorem dX11_seen_50 : decode cX11_seen 50 = .ok (.iload 5, 2) := by decide +kernel
theorem dX11_seen_52 : decode cX11_seen 52 = .ok (.aload_n 0, 1) := by decide +kernel
theorem dX11_seen_53 : decode cX11_seen 53 = .ok (.getfield 291, 3) := by decide +kernel
theorem dX11_seen_56 : decode cX11_seen 56 = .ok (.invokevirtual 294, 3) := by decide +kernel
theorem dX11_seen_59 : decode cX11_seen 59 = .ok (.ireturn, 1) := by decide +kernel
theorem dX11_untell_0 : decode cX11_untell 0 = .ok (.aload_n 0, 1) := by decide +kernel
theorem dX11_untell_1 : decode cX11_untell 1 = .ok (.getfield 68, 3) := by decide +kernel
theorem dX11_untell_4 : decode cX11_untell 4 = .ok (.iload_n 1, 1) := by decide +kernel
theorem dX11_untell_5 : decode cX11_untell 5 = .ok (.aload_n 0, 1) := by decide +kernel
theorem dX11_untell_6 : decode cX11_untell 6 = .ok (.getfield 291, 3) := by decide +kernel
theorem dX11_untell_9 : decode cX11_untell 9 = .ok (.invokevirtual 298, 3) := by decide +kernel
theorem dX11_untell_12 : decode cX11_untell 12 = .ok (.ireturn, 1) := by decide +kernel
theorem dX11_later_0 : decode cX11_later 0 = .ok (.iload_n 1, 1) := by decide +kernel
theorem dX11_later_1 : decode cX11_later 1 = .ok (.ifCond .lt 22, 3) := by decide +kernel
theorem dX11_later_4 : decode cX11_later 4 = .ok (.iload_n 1, 1) := by decide +kernel
theorem dX11_later_5 : decode cX11_later 5 = .ok (.sipush 1000, 3) := by decide +kernel
theorem dX11_later_8 : decode cX11_later 8 = .ok (.if_icmp .gt 15, 3) := by decide +kernel
theorem dX11_later_11 : decode cX11_later 11 = .ok (.aload_n 0, 1) := by decide +kernel
theorem dX11_later_12 : decode cX11_later 12 = .ok (.getfield 291, 3) := by decide +kernel
theorem dX11_later_15 : decode cX11_later 15 = .ok (.iload_n 1, 1) := by decide +kernel
theorem dX11_later_16 : decode cX11_later 16 = .ok (.iadd, 1) := by decide +kernel
theorem dX11_later_17 : decode cX11_later 17 = .ok (.ldc_w 301, 3) := by decide +kernel
theorem dX11_later_20 : decode cX11_later 20 = .ok (.if_icmp .le 5, 3) := by decide +kernel
theorem dX11_later_23 : decode cX11_later 23 = .ok (.iconst (-1), 1) := by decide +kernel
theorem dX11_later_24 : decode cX11_later 24 = .ok (.ireturn, 1) := by decide +kernel
theorem dX11_later_25 : decode cX11_later 25 = .ok (.aload_n 0, 1) := by decide +kernel
theorem dX11_later_26 : decode cX11_later 26 = .ok (.dup, 1) := by decide +kernel
theorem dX11_later_27 : decode cX11_later 27 = .ok (.getfield 291, 3) := by decide +kernel
theorem dX11_later_30 : decode cX11_later 30 = .ok (.iload_n 1, 1) := by decide +kernel
theorem dX11_later_31 : decode cX11_later 31 = .ok (.iadd, 1) := by decide +kernel
theorem dX11_later_32 : decode cX11_later 32 = .ok (.putfield 291, 3) := by decide +kernel
theorem dX11_later_35 : decode cX11_later 35 = .ok (.aload_n 0, 1) := by decide +kernel
theorem dX11_later_36 : decode cX11_later 36 = .ok (.getfield 291, 3) := by decide +kernel
theorem dX11_later_39 : decode cX11_later 39 = .ok (.ireturn, 1) := by decide +kernel
theorem dX11_fits_0 : decode cX11_fits 0 = .ok (.aload_n 0, 1) := by decide +kernel
theorem dX11_fits_1 : decode cX11_fits 1 = .ok (.getfield 68, 3) := by decide +kernel
theorem dX11_fits_4 : decode cX11_fits 4 = .ok (.aload_n 0, 1) := by decide +kernel
theorem dX11_fits_5 : decode cX11_fits 5 = .ok (.getfield 10, 3) := by decide +kernel
theorem dX11_fits_8 : decode cX11_fits 8 = .ok (.iload_n 1, 1) := by decide +kernel
theorem dX11_fits_9 : decode cX11_fits 9 = .ok (.invokevirtual 302, 3) := by decide +kernel
theorem dX11_fits_12 : decode cX11_fits 12 = .ok (.ireturn, 1) := by decide +kernel
theorem dX11_fit_0 : decode cX11_fit 0 = .ok (.aload_n 0, 1) := by decide +kernel
theorem dX11_fit_1 : decode cX11_fit 1 = .ok (.getfield 68, 3) := by decide +kernel
theorem dX11_fit_4 : decode cX11_fit 4 = .ok (.aload_n 0, 1) := by decide +kernel
theorem dX11_fit_5 : decode cX11_fit 5 = .ok (.getfield 10, 3) := by decide +kernel
theorem dX11_fit_8 : decode cX11_fit 8 = .ok (.iload_n 2, 1) := by decide +kernel
theorem dX11_fit_9 : decode cX11_fit 9 = .ok (.invokevirtual 302, 3) := by decide +kernel
theorem dX11_fit_12 : decode cX11_fit 12 = .ok (.istore_n 3, 1) := by decide +kernel
theorem dX11_fit_13 : decode cX11_fit 13 = .ok (.iload_n 1, 1) := by decide +kernel
theorem dX11_fit_14 : decode cX11_fit 14 = .ok (.ifCond .lt 20, 3) := by decide +kernel
theorem dX11_fit_17 : decode cX11_fit 17 = .ok (.iload_n 1, 1) := by decide +kernel
theorem dX11_fit_18 : decode cX11_fit 18 = .ok (.iload_n 3, 1) := by decide +kernel
theorem dX11_fit_19 : decode cX11_fit 19 = .ok (.if_icmp .ge 15, 3) := by decide +kernel
theorem dX11_fit_22 : decode cX11_fit 22 = .ok (.aload_n 0, 1) := by decide +kernel
theorem dX11_fit_23 : decode cX11_fit 23 = .ok (.getfield 68, 3) := by decide +kernel
theorem dX11_fit_26 : decode cX11_fit 26 = .ok (.getfield 305, 3) := by decide +kernel
theorem dX11_fit_29 : decode cX11_fit 29 = .ok (.iload_n 1, 1) := by decide +kernel
theorem dX11_fit_30 : decode cX11_fit 30 = .ok (.iaload, 1) := by decide +kernel
theorem dX11_fit_31 : decode cX11_fit 31 = .ok (.goto 4, 3) := by decide +kernel
theorem dX11_fit_34 : decode cX11_fit 34 = .ok (.iconst (-1), 1) := by decide +kernel
theorem dX11_fit_35 : decode cX11_fit 35 = .ok (.ireturn, 1) := by decide +kernel
theorem dX11_ask_0 : decode cX11_ask 0 = .ok (.iload_n 1, 1) := by decide +kernel
theorem dX11_ask_1 : decode cX11_ask 1 = .ok (.invokestatic 288, 3) := by decide +kernel
theorem dX11_ask_4 : decode cX11_ask 4 = .ok (.ifCond .eq 19, 3) := by decide +kernel
theorem dX11_ask_7 : decode cX11_ask 7 = .ok (.iload_n 2, 1) := by decide +kernel
theorem dX11_ask_8 : decode cX11_ask 8 = .ok (.invokestatic 288, 3) := by decide +kernel
theorem dX11_ask_11 : decode cX11_ask 11 = .ok (.ifCond .eq 12, 3) := by decide +kernel
theorem dX11_ask_14 : decode cX11_ask 14 = .ok (.iload_n 3, 1) := by decide +kernel
theorem dX11_ask_15 : decode cX11_ask 15 = .ok (.ifCond .lt 8, 3) := by decide +kernel
theorem dX11_ask_18 : decode cX11_ask 18 = .ok (.iload_n 3, 1) := by decide +kernel
theorem dX11_ask_19 : decode cX11_ask 19 = .ok (.iconst 1, 1) := by decide +kernel
theorem dX11_ask_20 : decode cX11_ask 20 = .ok (.if_icmp .le 5, 3) := by decide +kernel
theorem dX11_ask_23 : decode cX11_ask 23 = .ok (.iconst (-1), 1) := by decide +kernel
theorem dX11_ask_24 : decode cX11_ask 24 = .ok (.ireturn, 1) := by decide +kernel
theorem dX11_ask_25 : decode cX11_ask 25 = .ok (.aload_n 0, 1) := by decide +kernel
theorem dX11_ask_26 : decode cX11_ask 26 = .ok (.getfield 68, 3) := by decide +kernel
theorem dX11_ask_29 : decode cX11_ask 29 = .ok (.aload_n 0, 1) := by decide +kernel
theorem dX11_ask_30 : decode cX11_ask 30 = .ok (.getfield 10, 3) := by decide +kernel
theorem dX11_ask_33 : decode cX11_ask 33 = .ok (.iload 4, 2) := by decide +kernel
theorem dX11_ask_35 : decode cX11_ask 35 = .ok (.invokevirtual 302, 3) := by decide +kernel
theorem dX11_ask_38 : decode cX11_ask 38 = .ok (.ifCond .ne 5, 3) := by decide +kernel
theorem dX11_ask_41 : decode cX11_ask 41 = .ok (.iconst (-1), 1) := by decide +kernel
theorem dX11_ask_42 : decode cX11_ask 42 = .ok (.ireturn, 1) := by decide +kernel
theorem dX11_ask_43 : decode cX11_ask 43 = .ok (.aload_n 0, 1) := by decide +kernel
theorem dX11_ask_44 : decode cX11_ask 44 = .ok (.getfield 68, 3) := by decide +kernel
theorem dX11_ask_47 : decode cX11_ask 47 = .ok (.aload_n 0, 1) := by decide +kernel
theorem dX11_ask_48 : decode cX11_ask 48 = .ok (.getfield 10, 3) := by decide +kernel
theorem dX11_ask_51 : decode cX11_ask 51 = .ok (.iload_n 1, 1) := by decide +kernel
theorem dX11_ask_52 : decode cX11_ask 52 = .ok (.bipush 10, 2) := by decide +kernel
theorem dX11_ask_54 : decode cX11_ask 54 = .ok (.imul, 1) := by decide +kernel
theorem dX11_ask_55 : decode cX11_ask 55 = .ok (.iload_n 2, 1) := by decide +kernel
theorem dX11_ask_56 : decode cX11_ask 56 = .ok (.iadd, 1) := by decide +kernel
theorem dX11_ask_57 : decode cX11_ask 57 = .ok (.invokevirtual 308, 3) := by decide +kernel
theorem dX11_ask_60 : decode cX11_ask 60 = .ok (.istore 5, 2) := by decide +kernel
theorem dX11_ask_62 : decode cX11_ask 62 = .ok (.iload_n 3, 1) := by decide +kernel
theorem dX11_ask_63 : decode cX11_ask 63 = .ok (.ifCond .ne 8, 3) := by decide +kernel
theorem dX11_ask_66 : decode cX11_ask 66 = .ok (.iload 5, 2) := by decide +kernel
theorem dX11_ask_68 : decode cX11_ask 68 = .ok (.goto 26, 3) := by decide +kernel
theorem dX11_ask_71 : decode cX11_ask 71 = .ok (.aload_n 0, 1) := by decide +kernel
theorem dX11_ask_72 : decode cX11_ask 72 = .ok (.getfield 68, 3) := by decide +kernel
theorem dX11_ask_75 : decode cX11_ask 75 = .ok (.aload_n 0, 1) := by decide +kernel
theorem dX11_ask_76 : decode cX11_ask 76 = .ok (.getfield 10, 3) := by decide +kernel
theorem dX11_ask_79 : decode cX11_ask 79 = .ok (.iload_n 1, 1) := by decide +kernel
theorem dX11_ask_80 : decode cX11_ask 80 = .ok (.bipush 100, 2) := by decide +kernel
theorem dX11_ask_82 : decode cX11_ask 82 = .ok (.imul, 1) := by decide +kernel
theorem dX11_ask_83 : decode cX11_ask 83 = .ok (.iload_n 2, 1) := by decide +kernel
theorem dX11_ask_84 : decode cX11_ask 84 = .ok (.bipush 10, 2) := by decide +kernel
theorem dX11_ask_86 : decode cX11_ask 86 = .ok (.imul, 1) := by decide +kernel
theorem dX11_ask_87 : decode cX11_ask 87 = .ok (.iadd, 1) := by decide +kernel
theorem dX11_ask_88 : decode cX11_ask 88 = .ok (.iload 5, 2) := by decide +kernel
theorem dX11_ask_90 : decode cX11_ask 90 = .ok (.iadd, 1) := by decide +kernel
theorem dX11_ask_91 : decode cX11_ask 91 = .ok (.invokevirtual 311, 3) := by decide +kernel
theorem dX11_ask_94 : decode cX11_ask 94 = .ok (.ireturn, 1) := by decide +kernel
theorem dX11_image_0 : decode cX11_image 0 = .ok (.iload_n 1, 1) := by decide +kernel
theorem dX11_image_1 : decode cX11_image 1 = .ok (.ifCond .lt 8, 3) := by decide +kernel
theorem dX11_image_4 : decode cX11_image 4 = .ok (.iload_n 1, 1) := by decide +kernel
theorem dX11_image_5 : decode cX11_image 5 = .ok (.iconst 3, 1) := by decide +kernel
theorem dX11_image_6 : decode cX11_image 6 = .ok (.if_icmp .lt 5, 3) := by decide +kernel
theorem dX11_image_9 : decode cX11_image 9 = .ok (.iconst (-1), 1) := by decide +kernel
theorem dX11_image_10 : decode cX11_image 10 = .ok (.ireturn, 1) := by decide +kernel
theorem dX11_image_11 : decode cX11_image 11 = .ok (.aload_n 0, 1) := by decide +kernel
theorem dX11_image_12 : decode cX11_image 12 = .ok (.dup, 1) := by decide +kernel
theorem dX11_image_13 : decode cX11_image 13 = .ok (.getfield 112, 3) := by decide +kernel
theorem dX11_image_16 : decode cX11_image 16 = .ok (.iconst 1, 1) := by decide +kernel
theorem dX11_image_17 : decode cX11_image 17 = .ok (.iload_n 1, 1) := by decide +kernel
theorem dX11_image_18 : decode cX11_image 18 = .ok (.ishl, 1) := by decide +kernel
theorem dX11_image_19 : decode cX11_image 19 = .ok (.ior, 1) := by decide +kernel
theorem dX11_image_20 : decode cX11_image 20 = .ok (.putfield 112, 3) := by decide +kernel
theorem dX11_image_23 : decode cX11_image 23 = .ok (.aload_n 0, 1) := by decide +kernel
theorem dX11_image_24 : decode cX11_image 24 = .ok (.getfield 42, 3) := by decide +kernel
theorem dX11_image_27 : decode cX11_image 27 = .ok (.iload_n 1, 1) := by decide +kernel
theorem dX11_image_28 : decode cX11_image 28 = .ok (.aaload, 1) := by decide +kernel
theorem dX11_image_29 : decode cX11_image 29 = .ok (.aload_n 0, 1) := by decide +kernel
theorem dX11_image_30 : decode cX11_image 30 = .ok (.getfield 36, 3) := by decide +kernel
theorem dX11_image_33 : decode cX11_image 33 = .ok (.invokevirtual 147, 3) := by decide +kernel
theorem dX11_image_36 : decode cX11_image 36 = .ok (.invokevirtual 314, 3) := by decide +kernel
theorem dX11_image_39 : decode cX11_image 39 = .ok (.aload_n 0, 1) := by decide +kernel
theorem dX11_image_40 : decode cX11_image 40 = .ok (.getfield 42, 3) := by decide +kernel
theorem dX11_image_43 : decode cX11_image 43 = .ok (.iload_n 1, 1) := by decide +kernel
theorem dX11_image_44 : decode cX11_image 44 = .ok (.aaload, 1) := by decide +kernel
theorem dX11_image_45 : decode cX11_image 45 = .ok (.getfield 163, 3) := by decide +kernel
theorem dX11_image_48 : decode cX11_image 48 = .ok (.ireturn, 1) := by decide +kernel
theorem dX11_back_0 : decode cX11_back 0 = .ok (.iload_n 1, 1) := by decide +kernel
theorem dX11_back_1 : decode cX11_back 1 = .ok (.ifCond .lt 19, 3) := by decide +kernel
theorem dX11_back_4 : decode cX11_back 4 = .ok (.iload_n 1, 1) := by decide +kernel
theorem dX11_back_5 : decode cX11_back 5 = .ok (.iconst 3, 1) := by decide +kernel
theorem dX11_back_6 : decode cX11_back 6 = .ok (.if_icmp .ge 14, 3) := by decide +kernel
theorem dX11_back_9 : decode cX11_back 9 = .ok (.aload_n 0, 1) := by decide +kernel
theorem dX11_back_10 : decode cX11_back 10 = .ok (.getfield 112, 3) := by decide +kernel
theorem dX11_back_13 : decode cX11_back 13 = .ok (.iload_n 1, 1) := by decide +kernel
theorem dX11_back_14 : decode cX11_back 14 = .ok (.ishr, 1) := by decide +kernel
theorem dX11_back_15 : decode cX11_back 15 = .ok (.iconst 1, 1) := by decide +kernel
theorem dX11_back_16 : decode cX11_back 16 = .ok (.iand, 1) := by decide +kernel
theorem dX11_back_17 : decode cX11_back 17 = .ok (.ifCond .ne 5, 3) := by decide +kernel
theorem dX11_back_20 : decode cX11_back 20 = .ok (.iconst (-1), 1) := by decide +kernel
theorem dX11_back_21 : decode cX11_back 21 = .ok (.ireturn, 1) := by decide +kernel
theorem dX11_back_22 : decode cX11_back 22 = .ok (.aload_n 0, 1) := by decide +kernel
theorem dX11_back_23 : decode cX11_back 23 = .ok (.getfield 36, 3) := by decide +kernel
theorem dX11_back_26 : decode cX11_back 26 = .ok (.invokevirtual 102, 3) := by decide +kernel
theorem dX11_back_29 : decode cX11_back 29 = .ok (.aload_n 0, 1) := by decide +kernel
theorem dX11_back_30 : decode cX11_back 30 = .ok (.getfield 42, 3) := by decide +kernel
theorem dX11_back_33 : decode cX11_back 33 = .ok (.iload_n 1, 1) := by decide +kernel
theorem dX11_back_34 : decode cX11_back 34 = .ok (.aaload, 1) := by decide +kernel
theorem dX11_back_35 : decode cX11_back 35 = .ok (.invokevirtual 314, 3) := by decide +kernel
theorem dX11_back_38 : decode cX11_back 38 = .ok (.aload_n 0, 1) := by decide +kernel
theorem dX11_back_39 : decode cX11_back 39 = .ok (.getfield 42, 3) := by decide +kernel
theorem dX11_back_42 : decode cX11_back 42 = .ok (.iload_n 1, 1) := by decide +kernel
theorem dX11_back_43 : decode cX11_back 43 = .ok (.aaload, 1) := by decide +kernel
theorem dX11_back_44 : decode cX11_back 44 = .ok (.getfield 163, 3) := by decide +kernel
theorem dX11_back_47 : decode cX11_back 47 = .ok (.ireturn, 1) := by decide +kernel
theorem dX11_about_0 : decode cX11_about 0 = .ok (.iload_n 1, 1) := by decide +kernel
theorem dX11_about_1 : decode cX11_about 1 = .ok (.tableswitch 197 0 13 #[71, 79, 87, 98, 109, 120, 131, 139, 155, 163, 168, 173, 181, 189], 71) := by decide +kernel
theorem dX11_about_72 : decode cX11_about 72 = .ok (.aload_n 0, 1) := by decide +kernel
theorem dX11_about_73 : decode cX11_about 73 = .ok (.getfield 10, 3) := by decide +kernel
theorem dX11_about_76 : decode cX11_about 76 = .ok (.getfield 121, 3) := by decide +kernel
theorem dX11_about_79 : decode cX11_about 79 = .ok (.ireturn, 1) := by decide +kernel
theorem dX11_about_80 : decode cX11_about 80 = .ok (.aload_n 0, 1) := by decide +kernel
theorem dX11_about_81 : decode cX11_about 81 = .ok (.getfield 10, 3) := by decide +kernel
theorem dX11_about_84 : decode cX11_about 84 = .ok (.getfield 318, 3) := by decide +kernel
theorem dX11_about_87 : decode cX11_about 87 = .ok (.ireturn, 1) := by decide +kernel
theorem dX11_about_88 : decode cX11_about 88 = .ok (.aload_n 0, 1) := by decide +kernel
theorem dX11_about_89 : decode cX11_about 89 = .ok (.getfield 36, 3) := by decide +kernel
theorem dX11_about_92 : decode cX11_about 92 = .ok (.invokevirtual 147, 3) := by decide +kernel
theorem dX11_about_95 : decode cX11_about 95 = .ok (.getfield 163, 3) := by decide +kernel
theorem dX11_about_98 : decode cX11_about 98 = .ok (.ireturn, 1) := by decide +kernel
theorem dX11_about_99 : decode cX11_about 99 = .ok (.aload_n 0, 1) := by decide +kernel
theorem dX11_about_100 : decode cX11_about 100 = .ok (.getfield 36, 3) := by decide +kernel
theorem dX11_about_103 : decode cX11_about 103 = .ok (.invokevirtual 147, 3) := by decide +kernel
theorem dX11_about_106 : decode cX11_about 106 = .ok (.getfield 181, 3) := by decide +kernel
theorem dX11_about_109 : decode cX11_about 109 = .ok (.ireturn, 1) := by decide +kernel
theorem dX11_about_110 : decode cX11_about 110 = .ok (.aload_n 0, 1) := by decide +kernel
theorem dX11_about_111 : decode cX11_about 111 = .ok (.getfield 36, 3) := by decide +kernel
theorem dX11_about_114 : decode cX11_about 114 = .ok (.invokevirtual 147, 3) := by decide +kernel
theorem dX11_about_117 : decode cX11_about 117 = .ok (.getfield 150, 3) := by decide +kernel
theorem dX11_about_120 : decode cX11_about 120 = .ok (.ireturn, 1) := by decide +kernel
theorem dX11_about_121 : decode cX11_about 121 = .ok (.aload_n 0, 1) := by decide +kernel
theorem dX11_about_122 : decode cX11_about 122 = .ok (.getfield 36, 3) := by decide +kernel
theorem dX11_about_125 : decode cX11_about 125 = .ok (.invokevirtual 147, 3) := by decide +kernel
theorem dX11_about_128 : decode cX11_about 128 = .ok (.getfield 321, 3) := by decide +kernel
theorem dX11_about_131 : decode cX11_about 131 = .ok (.ireturn, 1) := by decide +kernel
theorem dX11_about_132 : decode cX11_about 132 = .ok (.aload_n 0, 1) := by decide +kernel
theorem dX11_about_133 : decode cX11_about 133 = .ok (.getfield 36, 3) := by decide +kernel
theorem dX11_about_136 : decode cX11_about 136 = .ok (.getfield 324, 3) := by decide +kernel
theorem dX11_about_139 : decode cX11_about 139 = .ok (.ireturn, 1) := by decide +kernel
theorem dX11_about_140 : decode cX11_about 140 = .ok (.aload_n 0, 1) := by decide +kernel
theorem dX11_about_141 : decode cX11_about 141 = .ok (.getfield 36, 3) := by decide +kernel
theorem dX11_about_144 : decode cX11_about 144 = .ok (.getfield 327, 3) := by decide +kernel
theorem dX11_about_147 : decode cX11_about 147 = .ok (.aload_n 0, 1) := by decide +kernel
theorem dX11_about_148 : decode cX11_about 148 = .ok (.getfield 36, 3) := by decide +kernel
theorem dX11_about_151 : decode cX11_about 151 = .ok (.getfield 324, 3) := by decide +kernel
theorem dX11_about_154 : decode cX11_about 154 = .ok (.isub, 1) := by decide +kernel
theorem dX11_about_155 : decode cX11_about 155 = .ok (.ireturn, 1) := by decide +kernel
theorem dX11_about_156 : decode cX11_about 156 = .ok (.aload_n 0, 1) := by decide +kernel
theorem dX11_about_157 : decode cX11_about 157 = .ok (.getfield 68, 3) := by decide +kernel
theorem dX11_about_160 : decode cX11_about 160 = .ok (.getfield 330, 3) := by decide +kernel
theorem dX11_about_163 : decode cX11_about 163 = .ok (.ireturn, 1) := by decide +kernel
theorem dX11_about_164 : decode cX11_about 164 = .ok (.aload_n 0, 1) := by decide +kernel
theorem dX11_about_165 : decode cX11_about 165 = .ok (.getfield 291, 3) := by decide +kernel
theorem dX11_about_168 : decode cX11_about 168 = .ok (.ireturn, 1) := by decide +kernel
theorem dX11_about_169 : decode cX11_about 169 = .ok (.aload_n 0, 1) := by decide +kernel
theorem dX11_about_170 : decode cX11_about 170 = .ok (.getfield 76, 3) := by decide +kernel
theorem dX11_about_173 : decode cX11_about 173 = .ok (.ireturn, 1) := by decide +kernel
theorem dX11_about_174 : decode cX11_about 174 = .ok (.aload_n 0, 1) := by decide +kernel
theorem dX11_about_175 : decode cX11_about 175 = .ok (.getfield 10, 3) := by decide +kernel
theorem dX11_about_178 : decode cX11_about 178 = .ok (.getfield 333, 3) := by decide +kernel
theorem dX11_about_181 : decode cX11_about 181 = .ok (.ireturn, 1) := by decide +kernel
theorem dX11_about_182 : decode cX11_about 182 = .ok (.aload_n 0, 1) := by decide +kernel
theorem dX11_about_183 : decode cX11_about 183 = .ok (.getfield 61, 3) := by decide +kernel
theorem dX11_about_186 : decode cX11_about 186 = .ok (.getfield 118, 3) := by decide +kernel
theorem dX11_about_189 : decode cX11_about 189 = .ok (.ireturn, 1) := by decide +kernel
theorem dX11_about_190 : decode cX11_about 190 = .ok (.aload_n 0, 1) := by decide +kernel
theorem dX11_about_191 : decode cX11_about 191 = .ok (.getfield 10, 3) := by decide +kernel
theorem dX11_about_194 : decode cX11_about 194 = .ok (.getfield 187, 3) := by decide +kernel
theorem dX11_about_197 : decode cX11_about 197 = .ok (.ireturn, 1) := by decide +kernel
theorem dX11_about_198 : decode cX11_about 198 = .ok (.iconst (-1), 1) := by decide +kernel
theorem dX11_about_199 : decode cX11_about 199 = .ok (.ireturn, 1) := by decide +kernel
theorem dX11_append_0 : decode cX11_append 0 = .ok (.bipush 24, 2) := by decide +kernel
theorem dX11_append_2 : decode cX11_append 2 = .ok (.istore_n 2, 1) := by decide +kernel
theorem dX11_append_3 : decode cX11_append 3 = .ok (.iload_n 2, 1) := by decide +kernel
theorem dX11_append_4 : decode cX11_append 4 = .ok (.ifCond .lt 48, 3) := by decide +kernel
theorem dX11_append_7 : decode cX11_append 7 = .ok (.aload_n 0, 1) := by decide +kernel
theorem dX11_append_8 : decode cX11_append 8 = .ok (.getfield 76, 3) := by decide +kernel
theorem dX11_append_11 : decode cX11_append 11 = .ok (.sipush 1600, 3) := by decide +kernel
theorem dX11_append_14 : decode cX11_append 14 = .ok (.if_icmp .ge 38, 3) := by decide +kernel
theorem dX11_append_17 : decode cX11_append 17 = .ok (.aload_n 0, 1) := by decide +kernel
theorem dX11_append_18 : decode cX11_append 18 = .ok (.getfield 29, 3) := by decide +kernel
theorem dX11_append_21 : decode cX11_append 21 = .ok (.getfield 87, 3) := by decide +kernel
theorem dX11_append_24 : decode cX11_append 24 = .ok (.getfield 336, 3) := by decide +kernel
theorem dX11_append_27 : decode cX11_append 27 = .ok (.aload_n 0, 1) := by decide +kernel
theorem dX11_append_28 : decode cX11_append 28 = .ok (.getfield 76, 3) := by decide +kernel
theorem dX11_append_31 : decode cX11_append 31 = .ok (.iload_n 1, 1) := by decide +kernel
theorem dX11_append_32 : decode cX11_append 32 = .ok (.iload_n 2, 1) := by decide +kernel
theorem dX11_append_33 : decode cX11_append 33 = .ok (.ishr, 1) := by decide +kernel
theorem dX11_append_34 : decode cX11_append 34 = .ok (.i2b, 1) := by decide +kernel
theorem dX11_append_35 : decode cX11_append 35 = .ok (.bastore, 1) := by decide +kernel
theorem dX11_append_36 : decode cX11_append 36 = .ok (.aload_n 0, 1) := by decide +kernel
theorem dX11_append_37 : decode cX11_append 37 = .ok (.dup, 1) := by decide +kernel
theorem dX11_append_38 : decode cX11_append 38 = .ok (.getfield 76, 3) := by decide +kernel
theorem dX11_append_41 : decode cX11_append 41 = .ok (.iconst 1, 1) := by decide +kernel
theorem dX11_append_42 : decode cX11_append 42 = .ok (.iadd, 1) := by decide +kernel
theorem dX11_append_43 : decode cX11_append 43 = .ok (.putfield 76, 3) := by decide +kernel
theorem dX11_append_46 : decode cX11_append 46 = .ok (.iinc 2 (-8), 3) := by decide +kernel
theorem dX11_append_49 : decode cX11_append 49 = .ok (.goto (-46), 3) := by decide +kernel
theorem dX11_append_52 : decode cX11_append 52 = .ok (.return_, 1) := by decide +kernel
theorem dX11_isForm_0 : decode cX11_isForm 0 = .ok (.iload_n 0, 1) := by decide +kernel
theorem dX11_isForm_1 : decode cX11_isForm 1 = .ok (.ifCond .lt 12, 3) := by decide +kernel
theorem dX11_isForm_4 : decode cX11_isForm 4 = .ok (.iload_n 0, 1) := by decide +kernel
theorem dX11_isForm_5 : decode cX11_isForm 5 = .ok (.iconst 3, 1) := by decide +kernel
theorem dX11_isForm_6 : decode cX11_isForm 6 = .ok (.if_icmp .ge 7, 3) := by decide +kernel
theorem dX11_isForm_9 : decode cX11_isForm 9 = .ok (.iconst 1, 1) := by decide +kernel
theorem dX11_isForm_10 : decode cX11_isForm 10 = .ok (.goto 4, 3) := by decide +kernel
theorem dX11_isForm_13 : decode cX11_isForm 13 = .ok (.iconst 0, 1) := by decide +kernel
theorem dX11_isForm_14 : decode cX11_isForm 14 = .ok (.ireturn, 1) := by decide +kernel
theorem dX11_isDigit_0 : decode cX11_isDigit 0 = .ok (.iload_n 0, 1) := by decide +kernel
theorem dX11_isDigit_1 : decode cX11_isDigit 1 = .ok (.ifCond .lt 13, 3) := by decide +kernel
theorem dX11_isDigit_4 : decode cX11_isDigit 4 = .ok (.iload_n 0, 1) := by decide +kernel
theorem dX11_isDigit_5 : decode cX11_isDigit 5 = .ok (.bipush 9, 2) := by decide +kernel
theorem dX11_isDigit_7 : decode cX11_isDigit 7 = .ok (.if_icmp .gt 7, 3) := by decide +kernel
theorem dX11_isDigit_10 : decode cX11_isDigit 10 = .ok (.iconst 1, 1) := by decide +kernel
theorem dX11_isDigit_11 : decode cX11_isDigit 11 = .ok (.goto 4, 3) := by decide +kernel
theorem dX11_isDigit_14 : decode cX11_isDigit 14 = .ok (.iconst 0, 1) := by decide +kernel
theorem dX11_isDigit_15 : decode cX11_isDigit 15 = .ok (.ireturn, 1) := by decide +kernel
theorem dX11_commonDivisor_0 : decode cX11_commonDivisor 0 = .ok (.iload_n 0, 1) := by decide +kernel
theorem dX11_commonDivisor_1 : decode cX11_commonDivisor 1 = .ok (.istore_n 2, 1) := by decide +kernel
theorem dX11_commonDivisor_2 : decode cX11_commonDivisor 2 = .ok (.iload_n 1, 1) := by decide +kernel
theorem dX11_commonDivisor_3 : decode cX11_commonDivisor 3 = .ok (.istore_n 3, 1) := by decide +kernel
theorem dX11_commonDivisor_4 : decode cX11_commonDivisor 4 = .ok (.iconst 0, 1) := by decide +kernel
theorem dX11_commonDivisor_5 : decode cX11_commonDivisor 5 = .ok (.istore 4, 2) := by decide +kernel
theorem dX11_commonDivisor_7 : decode cX11_commonDivisor 7 = .ok (.iload 4, 2) := by decide +kernel
theorem dX11_commonDivisor_9 : decode cX11_commonDivisor 9 = .ok (.bipush 100, 2) := by decide +kernel
theorem dX11_commonDivisor_11 : decode cX11_commonDivisor 11 = .ok (.if_icmp .ge 23, 3) := by decide +kernel
theorem dX11_commonDivisor_14 : decode cX11_commonDivisor 14 = .ok (.iload_n 3, 1) := by decide +kernel
theorem dX11_commonDivisor_15 : decode cX11_commonDivisor 15 = .ok (.ifCond .eq 19, 3) := by decide +kernel
theorem dX11_commonDivisor_18 : decode cX11_commonDivisor 18 = .ok (.iload_n 2, 1) := by decide +kernel
theorem dX11_commonDivisor_19 : decode cX11_commonDivisor 19 = .ok (.iload_n 3, 1) := by decide +kernel
theorem dX11_commonDivisor_20 : decode cX11_commonDivisor 20 = .ok (.irem, 1) := by decide +kernel
theorem dX11_commonDivisor_21 : decode cX11_commonDivisor 21 = .ok (.istore 5, 2) := by decide +kernel
theorem dX11_commonDivisor_23 : decode cX11_commonDivisor 23 = .ok (.iload_n 3, 1) := by decide +kernel
theorem dX11_commonDivisor_24 : decode cX11_commonDivisor 24 = .ok (.istore_n 2, 1) := by decide +kernel
theorem dX11_commonDivisor_25 : decode cX11_commonDivisor 25 = .ok (.iload 5, 2) := by decide +kernel
theorem dX11_commonDivisor_27 : decode cX11_commonDivisor 27 = .ok (.istore_n 3, 1) := by decide +kernel
theorem dX11_commonDivisor_28 : decode cX11_commonDivisor 28 = .ok (.iinc 4 1, 3) := by decide +kernel
theorem dX11_commonDivisor_31 : decode cX11_commonDivisor 31 = .ok (.goto (-24), 3) := by decide +kernel
theorem dX11_commonDivisor_34 : decode cX11_commonDivisor 34 = .ok (.iconst 1, 1) := by decide +kernel
theorem dX11_commonDivisor_35 : decode cX11_commonDivisor 35 = .ok (.iload_n 2, 1) := by decide +kernel
theorem dX11_commonDivisor_36 : decode cX11_commonDivisor 36 = .ok (.invokestatic 215, 3) := by decide +kernel
theorem dX11_commonDivisor_39 : decode cX11_commonDivisor 39 = .ok (.ireturn, 1) := by decide +kernel
theorem dX12_init_0 : decode cX12_init 0 = .ok (.aload_n 0, 1) := by decide +kernel
theorem dX12_init_1 : decode cX12_init 1 = .ok (.invokespecial 1, 3) := by decide +kernel
theorem dX12_init_4 : decode cX12_init 4 = .ok (.aload_n 0, 1) := by decide +kernel
theorem dX12_init_5 : decode cX12_init 5 = .ok (.sipush 1620, 3) := by decide +kernel
theorem dX12_init_8 : decode cX12_init 8 = .ok (.newarray .byte, 2) := by decide +kernel
theorem dX12_init_10 : decode cX12_init 10 = .ok (.putfield 7, 3) := by decide +kernel
theorem dX12_init_13 : decode cX12_init 13 = .ok (.aload_n 0, 1) := by decide +kernel
theorem dX12_init_14 : decode cX12_init 14 = .ok (.sipush 1600, 3) := by decide +kernel
theorem dX12_init_17 : decode cX12_init 17 = .ok (.newarray .byte, 2) := by decide +kernel
theorem dX12_init_19 : decode cX12_init 19 = .ok (.putfield 13, 3) := by decide +kernel
theorem dX12_init_22 : decode cX12_init 22 = .ok (.aload_n 0, 1) := by decide +kernel
theorem dX12_init_23 : decode cX12_init 23 = .ok (.iconst (-1), 1) := by decide +kernel
theorem dX12_init_24 : decode cX12_init 24 = .ok (.putfield 16, 3) := by decide +kernel
theorem dX12_init_27 : decode cX12_init 27 = .ok (.aload_n 0, 1) := by decide +kernel
theorem dX12_init_28 : decode cX12_init 28 = .ok (.iconst 2, 1) := by decide +kernel
theorem dX12_init_29 : decode cX12_init 29 = .ok (.newarray .int, 2) := by decide +kernel
theorem dX12_init_31 : decode cX12_init 31 = .ok (.putfield 20, 3) := by decide +kernel
theorem dX12_init_34 : decode cX12_init 34 = .ok (.aload_n 0, 1) := by decide +kernel
theorem dX12_init_35 : decode cX12_init 35 = .ok (.iconst 2, 1) := by decide +kernel
theorem dX12_init_36 : decode cX12_init 36 = .ok (.newarray .int, 2) := by decide +kernel
theorem dX12_init_38 : decode cX12_init 38 = .ok (.putfield 24, 3) := by decide +kernel
theorem dX12_init_41 : decode cX12_init 41 = .ok (.aload_n 0, 1) := by decide +kernel
theorem dX12_init_42 : decode cX12_init 42 = .ok (.iconst 2, 1) := by decide +kernel
theorem dX12_init_43 : decode cX12_init 43 = .ok (.newarray .int, 2) := by decide +kernel
theorem dX12_init_45 : decode cX12_init 45 = .ok (.putfield 27, 3) := by decide +kernel
theorem dX12_init_48 : decode cX12_init 48 = .ok (.aload_n 0, 1) := by decide +kernel
theorem dX12_init_49 : decode cX12_init 49 = .ok (.iconst 2, 1) := by decide +kernel
theorem dX12_init_50 : decode cX12_init 50 = .ok (.newarray .int, 2) := by decide +kernel
theorem dX12_init_52 : decode cX12_init 52 = .ok (.putfield 30, 3) := by decide +kernel
theorem dX12_init_55 : decode cX12_init 55 = .ok (.aload_n 0, 1) := by decide +kernel
theorem dX12_init_56 : decode cX12_init 56 = .ok (.iconst 2, 1) := by decide +kernel
theorem dX12_init_57 : decode cX12_init 57 = .ok (.newarray .int, 2) := by decide +kernel
theorem dX12_init_59 : decode cX12_init 59 = .ok (.putfield 33, 3) := by decide +kernel
theorem dX12_init_62 : decode cX12_init 62 = .ok (.aload_n 0, 1) := by decide +kernel
theorem dX12_init_63 : decode cX12_init 63 = .ok (.iconst 2, 1) := by decide +kernel
theorem dX12_init_64 : decode cX12_init 64 = .ok (.newarray .int, 2) := by decide +kernel
theorem dX12_init_66 : decode cX12_init 66 = .ok (.putfield 36, 3) := by decide +kernel
theorem dX12_init_69 : decode cX12_init 69 = .ok (.aload_n 0, 1) := by decide +kernel
theorem dX12_init_70 : decode cX12_init 70 = .ok (.bipush 12, 2) := by decide +kernel
theorem dX12_init_72 : decode cX12_init 72 = .ok (.newarray .int, 2) := by decide +kernel
theorem dX12_init_74 : decode cX12_init 74 = .ok (.putfield 39, 3) := by decide +kernel
theorem dX12_init_77 : decode cX12_init 77 = .ok (.aload_n 0, 1) := by decide +kernel
theorem dX12_init_78 : decode cX12_init 78 = .ok (.bipush 12, 2) := by decide +kernel
theorem dX12_init_80 : decode cX12_init 80 = .ok (.newarray .int, 2) := by decide +kernel
theorem dX12_init_82 : decode cX12_init 82 = .ok (.putfield 42, 3) := by decide +kernel
theorem dX12_init_85 : decode cX12_init 85 = .ok (.aload_n 0, 1) := by decide +kernel
theorem dX12_init_86 : decode cX12_init 86 = .ok (.bipush 12, 2) := by decide +kernel
theorem dX12_init_88 : decode cX12_init 88 = .ok (.newarray .int, 2) := by decide +kernel
theorem dX12_init_90 : decode cX12_init 90 = .ok (.putfield 45, 3) := by decide +kernel
theorem dX12_init_93 : decode cX12_init 93 = .ok (.aload_n 0, 1) := by decide +kernel
theorem dX12_init_94 : decode cX12_init 94 = .ok (.bipush 12, 2) := by decide +kernel
theorem dX12_init_96 : decode cX12_init 96 = .ok (.newarray .int, 2) := by decide +kernel
theorem dX12_init_98 : decode cX12_init 98 = .ok (.putfield 48, 3) := by decide +kernel
theorem dX12_init_101 : decode cX12_init 101 = .ok (.aload_n 0, 1) := by decide +kernel
theorem dX12_init_102 : decode cX12_init 102 = .ok (.bipush 12, 2) := by decide +kernel
theorem dX12_init_104 : decode cX12_init 104 = .ok (.newarray .int, 2) := by decide +kernel
theorem dX12_init_106 : decode cX12_init 106 = .ok (.putfield 51, 3) := by decide +kernel
theorem dX12_init_109 : decode cX12_init 109 = .ok (.aload_n 0, 1) := by decide +kernel
theorem dX12_init_110 : decode cX12_init 110 = .ok (.bipush 12, 2) := by decide +kernel
theorem dX12_init_112 : decode cX12_init 112 = .ok (.newarray .int, 2) := by decide +kernel
theorem dX12_init_114 : decode cX12_init 114 = .ok (.putfield 54, 3) := by decide +kernel
theorem dX12_init_117 : decode cX12_init 117 = .ok (.aload_n 0, 1) := by decide +kernel
theorem dX12_init_118 : decode cX12_init 118 = .ok (.bipush 12, 2) := by decide +kernel
theorem dX12_init_120 : decode cX12_init 120 = .ok (.newarray .int, 2) := by decide +kernel
theorem dX12_init_122 : decode cX12_init 122 = .ok (.putfield 57, 3) := by decide +kernel
theorem dX12_init_125 : decode cX12_init 125 = .ok (.aload_n 0, 1) := by decide +kernel
theorem dX12_init_126 : decode cX12_init 126 = .ok (.bipush 120, 2) := by decide +kernel
theorem dX12_init_128 : decode cX12_init 128 = .ok (.newarray .int, 2) := by decide +kernel
theorem dX12_init_130 : decode cX12_init 130 = .ok (.putfield 60, 3) := by decide +kernel
theorem dX12_init_133 : decode cX12_init 133 = .ok (.aload_n 0, 1) := by decide +kernel
theorem dX12_init_134 : decode cX12_init 134 = .ok (.bipush 120, 2) := by decide +kernel
theorem dX12_init_136 : decode cX12_init 136 = .ok (.newarray .int, 2) := by decide +kernel
theorem dX12_init_138 : decode cX12_init 138 = .ok (.putfield 63, 3) := by decide +kernel
theorem dX12_init_141 : decode cX12_init 141 = .ok (.aload_n 0, 1) := by decide +kernel
theorem dX12_init_142 : decode cX12_init 142 = .ok (.bipush 120, 2) := by decide +kernel
theorem dX12_init_144 : decode cX12_init 144 = .ok (.newarray .int, 2) := by decide +kernel
theorem dX12_init_146 : decode cX12_init 146 = .ok (.putfield 66, 3) := by decide +kernel
theorem dX12_init_149 : decode cX12_init 149 = .ok (.aload_n 0, 1) := by decide +kernel
theorem dX12_init_150 : decode cX12_init 150 = .ok (.bipush 120, 2) := by decide +kernel
theorem dX12_init_152 : decode cX12_init 152 = .ok (.newarray .int, 2) := by decide +kernel
theorem dX12_init_154 : decode cX12_init 154 = .ok (.putfield 69, 3) := by decide +kernel
theorem dX12_init_157 : decode cX12_init 157 = .ok (.aload_n 0, 1) := by decide +kernel
theorem dX12_init_158 : decode cX12_init 158 = .ok (.iconst 2, 1) := by decide +kernel
theorem dX12_init_159 : decode cX12_init 159 = .ok (.newarray .int, 2) := by decide +kernel
theorem dX12_init_161 : decode cX12_init 161 = .ok (.putfield 72, 3) := by decide +kernel
theorem dX12_init_164 : decode cX12_init 164 = .ok (.aload_n 0, 1) := by decide +kernel
theorem dX12_init_165 : decode cX12_init 165 = .ok (.iconst 2, 1) := by decide +kernel
theorem dX12_init_166 : decode cX12_init 166 = .ok (.newarray .int, 2) := by decide +kernel
theorem dX12_init_168 : decode cX12_init 168 = .ok (.putfield 75, 3) := by decide +kernel
theorem dX12_init_171 : decode cX12_init 171 = .ok (.aload_n 0, 1) := by decide +kernel
theorem dX12_init_172 : decode cX12_init 172 = .ok (.bipush 12, 2) := by decide +kernel
theorem dX12_init_174 : decode cX12_init 174 = .ok (.newarray .long, 2) := by decide +kernel
theorem dX12_init_176 : decode cX12_init 176 = .ok (.putfield 78, 3) := by decide +kernel
theorem dX12_init_179 : decode cX12_init 179 = .ok (.aload_n 0, 1) := by decide +kernel
theorem dX12_init_180 : decode cX12_init 180 = .ok (.sipush 1120, 3) := by decide +kernel
theorem dX12_init_183 : decode cX12_init 183 = .ok (.newarray .int, 2) := by decide +kernel
theorem dX12_init_185 : decode cX12_init 185 = .ok (.putfield 82, 3) := by decide +kernel
theorem dX12_init_188 : decode cX12_init 188 = .ok (.aload_n 0, 1) := by decide +kernel
theorem dX12_init_189 : decode cX12_init 189 = .ok (.sipush 1120, 3) := by decide +kernel
theorem dX12_init_192 : decode cX12_init 192 = .ok (.newarray .int, 2) := by decide +kernel
theorem dX12_init_194 : decode cX12_init 194 = .ok (.putfield 85, 3) := by decide +kernel
theorem dX12_init_197 : decode cX12_init 197 = .ok (.aload_n 0, 1) := by decide +kernel
theorem dX12_init_198 : decode cX12_init 198 = .ok (.bipush 90, 2) := by decide +kernel
theorem dX12_init_200 : decode cX12_init 200 = .ok (.newarray .int, 2) := by decide +kernel
theorem dX12_init_202 : decode cX12_init 202 = .ok (.putfield 88, 3) := by decide +kernel
theorem dX12_init_205 : decode cX12_init 205 = .ok (.aload_n 0, 1) := by decide +kernel
theorem dX12_init_206 : decode cX12_init 206 = .ok (.bipush 90, 2) := by decide +kernel
theorem dX12_init_208 : decode cX12_init 208 = .ok (.newarray .int, 2) := by decide +kernel
theorem dX12_init_210 : decode cX12_init 210 = .ok (.putfield 91, 3) := by decide +kernel
theorem dX12_init_213 : decode cX12_init 213 = .ok (.aload_n 0, 1) := by decide +kernel
theorem dX12_init_214 : decode cX12_init 214 = .ok (.bipush 60, 2) := by decide +kernel
theorem dX12_init_216 : decode cX12_init 216 = .ok (.newarray .int, 2) := by decide +kernel
theorem dX12_init_218 : decode cX12_init 218 = .ok (.putfield 94, 3) := by decide +kernel
theorem dX12_init_221 : decode cX12_init 221 = .ok (.aload_n 0, 1) := by decide +kernel
theorem dX12_init_222 : decode cX12_init 222 = .ok (.bipush 6, 2) := by decide +kernel
theorem dX12_init_224 : decode cX12_init 224 = .ok (.newarray .int, 2) := by decide +kernel
theorem dX12_init_226 : decode cX12_init 226 = .ok (.putfield 97, 3) := by decide +kernel
theorem dX12_init_229 : decode cX12_init 229 = .ok (.aload_n 0, 1) := by decide +kernel
theorem dX12_init_230 : decode cX12_init 230 = .ok (.bipush 6, 2) := by decide +kernel
theorem dX12_init_232 : decode cX12_init 232 = .ok (.newarray .int, 2) := by decide +kernel
theorem dX12_init_234 : decode cX12_init 234 = .ok (.putfield 100, 3) := by decide +kernel
theorem dX12_init_237 : decode cX12_init 237 = .ok (.aload_n 0, 1) := by decide +kernel
theorem dX12_init_238 : decode cX12_init 238 = .ok (.bipush 6, 2) := by decide +kernel
theorem dX12_init_240 : decode cX12_init 240 = .ok (.newarray .int, 2) := by decide +kernel
theorem dX12_init_242 : decode cX12_init 242 = .ok (.putfield 103, 3) := by decide +kernel
theorem dX12_init_245 : decode cX12_init 245 = .ok (.aload_n 0, 1) := by decide +kernel
theorem dX12_init_246 : decode cX12_init 246 = .ok (.bipush 6, 2) := by decide +kernel
theorem dX12_init_248 : decode cX12_init 248 = .ok (.newarray .int, 2) := by decide +kernel
theorem dX12_init_250 : decode cX12_init 250 = .ok (.putfield 106, 3) := by decide +kernel
theorem dX12_init_253 : decode cX12_init 253 = .ok (.aload_n 0, 1) := by decide +kernel
theorem dX12_init_254 : decode cX12_init 254 = .ok (.bipush 6, 2) := by decide +kernel
theorem dX12_init_256 : decode cX12_init 256 = .ok (.newarray .int, 2) := by decide +kernel
theorem dX12_init_258 : decode cX12_init 258 = .ok (.putfield 109, 3) := by decide +kernel
theorem dX12_init_261 : decode cX12_init 261 = .ok (.aload_n 0, 1) := by decide +kernel
theorem dX12_init_262 : decode cX12_init 262 = .ok (.bipush 6, 2) := by decide +kernel
theorem dX12_init_264 : decode cX12_init 264 = .ok (.newarray .int, 2) := by decide +kernel
theorem dX12_init_266 : decode cX12_init 266 = .ok (.putfield 112, 3) := by decide +kernel
theorem dX12_init_269 : decode cX12_init 269 = .ok (.aload_n 0, 1) := by decide +kernel
theorem dX12_init_270 : decode cX12_init 270 = .ok (.bipush 6, 2) := by decide +kernel
theorem dX12_init_272 : decode cX12_init 272 = .ok (.newarray .int, 2) := by decide +kernel
theorem dX12_init_274 : decode cX12_init 274 = .ok (.putfield 115, 3) := by decide +kernel
theorem dX12_init_277 : decode cX12_init 277 = .ok (.aload_n 0, 1) := by decide +kernel
theorem dX12_init_278 : decode cX12_init 278 = .ok (.bipush 6, 2) := by decide +kernel
theorem dX12_init_280 : decode cX12_init 280 = .ok (.newarray .int, 2) := by decide +kernel
theorem dX12_init_282 : decode cX12_init 282 = .ok (.putfield 118, 3) := by decide +kernel
theorem dX12_init_285 : decode cX12_init 285 = .ok (.aload_n 0, 1) := by decide +kernel
theorem dX12_init_286 : decode cX12_init 286 = .ok (.bipush 6, 2) := by decide +kernel
theorem dX12_init_288 : decode cX12_init 288 = .ok (.newarray .int, 2) := by decide +kernel
theorem dX12_init_290 : decode cX12_init 290 = .ok (.putfield 121, 3) := by decide +kernel
theorem dX12_init_293 : decode cX12_init 293 = .ok (.aload_n 0, 1) := by decide +kernel
theorem dX12_init_294 : decode cX12_init 294 = .ok (.bipush 34, 2) := by decide +kernel
theorem dX12_init_296 : decode cX12_init 296 = .ok (.newarray .int, 2) := by decide +kernel
theorem dX12_init_298 : decode cX12_init 298 = .ok (.putfield 124, 3) := by decide +kernel
theorem dX12_init_301 : decode cX12_init 301 = .ok (.aload_n 0, 1) := by decide +kernel
theorem dX12_init_302 : decode cX12_init 302 = .ok (.bipush 96, 2) := by decide +kernel
theorem dX12_init_304 : decode cX12_init 304 = .ok (.newarray .int, 2) := by decide +kernel
theorem dX12_init_306 : decode cX12_init 306 = .ok (.putfield 127, 3) := by decide +kernel
theorem dX12_init_309 : decode cX12_init 309 = .ok (.aload_n 0, 1) := by decide +kernel
theorem dX12_init_310 : decode cX12_init 310 = .ok (.bipush 96, 2) := by decide +kernel
theorem dX12_init_312 : decode cX12_init 312 = .ok (.newarray .int, 2) := by decide +kernel
theorem dX12_init_314 : decode cX12_init 314 = .ok (.putfield 130, 3) := by decide +kernel
theorem dX12_init_317 : decode cX12_init 317 = .ok (.aload_n 0, 1) := by decide +kernel
theorem dX12_init_318 : decode cX12_init 318 = .ok (.bipush 8, 2) := by decide +kernel
theorem dX12_init_320 : decode cX12_init 320 = .ok (.newarray .int, 2) := by decide +kernel
theorem dX12_init_322 : decode cX12_init 322 = .ok (.putfield 133, 3) := by decide +kernel
theorem dX12_init_325 : decode cX12_init 325 = .ok (.aload_n 0, 1) := by decide +kernel
theorem dX12_init_326 : decode cX12_init 326 = .ok (.bipush 8, 2) := by decide +kernel
theorem dX12_init_328 : decode cX12_init 328 = .ok (.newarray .int, 2) := by decide +kernel
theorem dX12_init_330 : decode cX12_init 330 = .ok (.putfield 136, 3) := by decide +kernel
theorem dX12_init_333 : decode cX12_init 333 = .ok (.aload_n 0, 1) := by decide +kernel
theorem dX12_init_334 : decode cX12_init 334 = .ok (.bipush 48, 2) := by decide +kernel
theorem dX12_init_336 : decode cX12_init 336 = .ok (.newarray .int, 2) := by decide +kernel
theorem dX12_init_338 : decode cX12_init 338 = .ok (.putfield 139, 3) := by decide +kernel
theorem dX12_init_341 : decode cX12_init 341 = .ok (.aload_n 0, 1) := by decide +kernel
theorem dX12_init_342 : decode cX12_init 342 = .ok (.iconst (-1), 1) := by decide +kernel
theorem dX12_init_343 : decode cX12_init 343 = .ok (.putfield 142, 3) := by decide +kernel
theorem dX12_init_346 : decode cX12_init 346 = .ok (.aload_n 0, 1) := by decide +kernel
theorem dX12_init_347 : decode cX12_init 347 = .ok (.sipush 1394, 3) := by decide +kernel
theorem dX12_init_350 : decode cX12_init 350 = .ok (.newarray .int, 2) := by decide +kernel
theorem dX12_init_352 : decode cX12_init 352 = .ok (.putfield 145, 3) := by decide +kernel
theorem dX12_init_355 : decode cX12_init 355 = .ok (.aload_n 0, 1) := by decide +kernel
theorem dX12_init_356 : decode cX12_init 356 = .ok (.bipush 6, 2) := by decide +kernel
theorem dX12_init_358 : decode cX12_init 358 = .ok (.newarray .int, 2) := by decide +kernel
theorem dX12_init_360 : decode cX12_init 360 = .ok (.putfield 148, 3) := by decide +kernel
theorem dX12_init_363 : decode cX12_init 363 = .ok (.aload_n 0, 1) := by decide +kernel
theorem dX12_init_364 : decode cX12_init 364 = .ok (.bipush 24, 2) := by decide +kernel
theorem dX12_init_366 : decode cX12_init 366 = .ok (.newarray .int, 2) := by decide +kernel
theorem dX12_init_368 : decode cX12_init 368 = .ok (.putfield 151, 3) := by decide +kernel
theorem dX12_init_371 : decode cX12_init 371 = .ok (.aload_n 0, 1) := by decide +kernel
theorem dX12_init_372 : decode cX12_init 372 = .ok (.sipush 364, 3) := by decide +kernel
theorem dX12_init_375 : decode cX12_init 375 = .ok (.newarray .int, 2) := by decide +kernel
theorem dX12_init_377 : decode cX12_init 377 = .ok (.putfield 154, 3) := by decide +kernel
theorem dX12_init_380 : decode cX12_init 380 = .ok (.aload_n 0, 1) := by decide +kernel
theorem dX12_init_381 : decode cX12_init 381 = .ok (.sipush 364, 3) := by decide +kernel
theorem dX12_init_384 : decode cX12_init 384 = .ok (.newarray .int, 2) := by decide +kernel
theorem dX12_init_386 : decode cX12_init 386 = .ok (.putfield 157, 3) := by decide +kernel
theorem dX12_init_389 : decode cX12_init 389 = .ok (.aload_n 0, 1) := by decide +kernel
theorem dX12_init_390 : decode cX12_init 390 = .ok (.sipush 2548, 3) := by decide +kernel
theorem dX12_init_393 : decode cX12_init 393 = .ok (.newarray .int, 2) := by decide +kernel
theorem dX12_init_395 : decode cX12_init 395 = .ok (.putfield 160, 3) := by decide +kernel
theorem dX12_init_398 : decode cX12_init 398 = .ok (.aload_n 0, 1) := by decide +kernel
theorem dX12_init_399 : decode cX12_init 399 = .ok (.bipush 7, 2) := by decide +kernel
theorem dX12_init_401 : decode cX12_init 401 = .ok (.newarray .int, 2) := by decide +kernel
theorem dX12_init_403 : decode cX12_init 403 = .ok (.putfield 163, 3) := by decide +kernel
theorem dX12_init_406 : decode cX12_init 406 = .ok (.aload_n 0, 1) := by decide +kernel
theorem dX12_init_407 : decode cX12_init 407 = .ok (.bipush 64, 2) := by decide +kernel
theorem dX12_init_409 : decode cX12_init 409 = .ok (.newarray .int, 2) := by decide +kernel
theorem dX12_init_411 : decode cX12_init 411 = .ok (.putfield 166, 3) := by decide +kernel
theorem dX12_init_414 : decode cX12_init 414 = .ok (.aload_n 0, 1) := by decide +kernel
theorem dX12_init_415 : decode cX12_init 415 = .ok (.iconst (-1), 1) := by decide +kernel
theorem dX12_init_416 : decode cX12_init 416 = .ok (.putfield 169, 3) := by decide +kernel
theorem dX12_init_419 : decode cX12_init 419 = .ok (.aload_n 0, 1) := by decide +kernel
theorem dX12_init_420 : decode cX12_init 420 = .ok (.bipush 6, 2) := by decide +kernel
theorem dX12_init_422 : decode cX12_init 422 = .ok (.newarray .int, 2) := by decide +kernel
theorem dX12_init_424 : decode cX12_init 424 = .ok (.putfield 172, 3) := by decide +kernel
theorem dX12_init_427 : decode cX12_init 427 = .ok (.aload_n 0, 1) := by decide +kernel
theorem dX12_init_428 : decode cX12_init 428 = .ok (.bipush 6, 2) := by decide +kernel
theorem dX12_init_430 : decode cX12_init 430 = .ok (.newarray .int, 2) := by decide +kernel
theorem dX12_init_432 : decode cX12_init 432 = .ok (.putfield 175, 3) := by decide +kernel
theorem dX12_init_435 : decode cX12_init 435 = .ok (.aload_n 0, 1) := by decide +kernel
theorem dX12_init_436 : decode cX12_init 436 = .ok (.bipush 6, 2) := by decide +kernel
theorem dX12_init_438 : decode cX12_init 438 = .ok (.newarray .int, 2) := by decide +kernel
theorem dX12_init_440 : decode cX12_init 440 = .ok (.putfield 178, 3) := by decide +kernel
theorem dX12_init_443 : decode cX12_init 443 = .ok (.aload_n 0, 1) := by decide +kernel
theorem dX12_init_444 : decode cX12_init 444 = .ok (.bipush 6, 2) := by decide +kernel
theorem dX12_init_446 : decode cX12_init 446 = .ok (.newarray .int, 2) := by decide +kernel
theorem dX12_init_448 : decode cX12_init 448 = .ok (.putfield 181, 3) := by decide +kernel
theorem dX12_init_451 : decode cX12_init 451 = .ok (.aload_n 0, 1) := by decide +kernel
theorem dX12_init_452 : decode cX12_init 452 = .ok (.bipush 30, 2) := by decide +kernel
theorem dX12_init_454 : decode cX12_init 454 = .ok (.newarray .int, 2) := by decide +kernel
theorem dX12_init_456 : decode cX12_init 456 = .ok (.putfield 184, 3) := by decide +kernel
theorem dX12_init_459 : decode cX12_init 459 = .ok (.aload_n 0, 1) := by decide +kernel
theorem dX12_init_460 : decode cX12_init 460 = .ok (.bipush 30, 2) := by decide +kernel
theorem dX12_init_462 : decode cX12_init 462 = .ok (.newarray .int, 2) := by decide +kernel
theorem dX12_init_464 : decode cX12_init 464 = .ok (.putfield 187, 3) := by decide +kernel
theorem dX12_init_467 : decode cX12_init 467 = .ok (.aload_n 0, 1) := by decide +kernel
theorem dX12_init_468 : decode cX12_init 468 = .ok (.bipush 30, 2) := by decide +kernel
theorem dX12_init_470 : decode cX12_init 470 = .ok (.newarray .int, 2) := by decide +kernel
theorem dX12_init_472 : decode cX12_init 472 = .ok (.putfield 190, 3) := by decide +kernel
theorem dX12_init_475 : decode cX12_init 475 = .ok (.aload_n 0, 1) := by decide +kernel
theorem dX12_init_476 : decode cX12_init 476 = .ok (.bipush 30, 2) := by decide +kernel
theorem dX12_init_478 : decode cX12_init 478 = .ok (.newarray .int, 2) := by decide +kernel
theorem dX12_init_480 : decode cX12_init 480 = .ok (.putfield 193, 3) := by decide +kernel
theorem dX12_init_483 : decode cX12_init 483 = .ok (.aload_n 0, 1) := by decide +kernel
theorem dX12_init_484 : decode cX12_init 484 = .ok (.bipush 30, 2) := by decide +kernel
theorem dX12_init_486 : decode cX12_init 486 = .ok (.newarray .int, 2) := by decide +kernel
theorem dX12_init_488 : decode cX12_init 488 = .ok (.putfield 196, 3) := by decide +kernel
theorem dX12_init_491 : decode cX12_init 491 = .ok (.aload_n 0, 1) := by decide +kernel
theorem dX12_init_492 : decode cX12_init 492 = .ok (.bipush 30, 2) := by decide +kernel
theorem dX12_init_494 : decode cX12_init 494 = .ok (.newarray .int, 2) := by decide +kernel
theorem dX12_init_496 : decode cX12_init 496 = .ok (.putfield 199, 3) := by decide +kernel
theorem dX12_init_499 : decode cX12_init 499 = .ok (.aload_n 0, 1) := by decide +kernel
theorem dX12_init_500 : decode cX12_init 500 = .ok (.bipush 30, 2) := by decide +kernel
theorem dX12_init_502 : decode cX12_init 502 = .ok (.newarray .int, 2) := by decide +kernel
theorem dX12_init_504 : decode cX12_init 504 = .ok (.putfield 202, 3) := by decide +kernel
theorem dX12_init_507 : decode cX12_init 507 = .ok (.aload_n 0, 1) := by decide +kernel
theorem dX12_init_508 : decode cX12_init 508 = .ok (.bipush 15, 2) := by decide +kernel
theorem dX12_init_510 : decode cX12_init 510 = .ok (.newarray .int, 2) := by decide +kernel
theorem dX12_init_512 : decode cX12_init 512 = .ok (.putfield 205, 3) := by decide +kernel
theorem dX12_init_515 : decode cX12_init 515 = .ok (.aload_n 0, 1) := by decide +kernel
theorem dX12_init_516 : decode cX12_init 516 = .ok (.bipush 15, 2) := by decide +kernel
theorem dX12_init_518 : decode cX12_init 518 = .ok (.newarray .boolean, 2) := by decide +kernel
theorem dX12_init_520 : decode cX12_init 520 = .ok (.putfield 208, 3) := by decide +kernel
theorem dX12_init_523 : decode cX12_init 523 = .ok (.aload_n 0, 1) := by decide +kernel
theorem dX12_init_524 : decode cX12_init 524 = .ok (.bipush 102, 2) := by decide +kernel
theorem dX12_init_526 : decode cX12_init 526 = .ok (.newarray .int, 2) := by decide +kernel
theorem dX12_init_528 : decode cX12_init 528 = .ok (.putfield 212, 3) := by decide +kernel
theorem dX12_init_531 : decode cX12_init 531 = .ok (.aload_n 0, 1) := by decide +kernel
theorem dX12_init_532 : decode cX12_init 532 = .ok (.iconst 3, 1) := by decide +kernel
theorem dX12_init_533 : decode cX12_init 533 = .ok (.newarray .boolean, 2) := by decide +kernel
theorem dX12_init_535 : decode cX12_init 535 = .ok (.putfield 215, 3) := by decide +kernel
theorem dX12_init_538 : decode cX12_init 538 = .ok (.aload_n 0, 1) := by decide +kernel
theorem dX12_init_539 : decode cX12_init 539 = .ok (.invokevirtual 218, 3) := by decide +kernel
theorem dX12_init_542 : decode cX12_init 542 = .ok (.aload_n 0, 1) := by decide +kernel
theorem dX12_init_543 : decode cX12_init 543 = .ok (.invokevirtual 221, 3) := by decide +kernel
theorem dX12_init_546 : decode cX12_init 546 = .ok (.return_, 1) := by decide +kernel
theorem dX12_sign_0 : decode cX12_sign 0 = .ok (.iload_n 1, 1) := by decide +kernel
theorem dX12_sign_1 : decode cX12_sign 1 = .ok (.aload_n 0, 1) := by decide +kernel
theorem dX12_sign_2 : decode cX12_sign 2 = .ok (.getfield 224, 3) := by decide +kernel
theorem dX12_sign_5 : decode cX12_sign 5 = .ok (.if_icmp .ge 16, 3) := by decide +kernel
theorem dX12_sign_8 : decode cX12_sign 8 = .ok (.aload_n 0, 1) := by decide +kernel
theorem dX12_sign_9 : decode cX12_sign 9 = .ok (.getfield 13, 3) := by decide +kernel
theorem dX12_sign_12 : decode cX12_sign 12 = .ok (.iload_n 1, 1) := by decide +kernel
theorem dX12_sign_13 : decode cX12_sign 13 = .ok (.baload, 1) := by decide +kernel
theorem dX12_sign_14 : decode cX12_sign 14 = .ok (.sipush 255, 3) := by decide +kernel
theorem dX12_sign_17 : decode cX12_sign 17 = .ok (.iand, 1) := by decide +kernel
theorem dX12_sign_18 : decode cX12_sign 18 = .ok (.goto 4, 3) := by decide +kernel
theorem dX12_sign_21 : decode cX12_sign 21 = .ok (.iconst 0, 1) := by decide +kernel
theorem dX12_sign_22 : decode cX12_sign 22 = .ok (.ireturn, 1) := by decide +kernel
theorem dX12_isLetter_0 : decode cX12_isLetter 0 = .ok (.iload_n 0, 1) := by decide +kernel
theorem dX12_isLetter_1 : decode cX12_isLetter 1 = .ok (.bipush 97, 2) := by decide +kernel
theorem dX12_isLetter_3 : decode cX12_isLetter 3 = .ok (.if_icmp .lt 13, 3) := by decide +kernel
theorem dX12_isLetter_6 : decode cX12_isLetter 6 = .ok (.iload_n 0, 1) := by decide +kernel
theorem dX12_isLetter_7 : decode cX12_isLetter 7 = .ok (.bipush 122, 2) := by decide +kernel
theorem dX12_isLetter_9 : decode cX12_isLetter 9 = .ok (.if_icmp .gt 7, 3) := by decide +kernel
theorem dX12_isLetter_12 : decode cX12_isLetter 12 = .ok (.iconst 1, 1) := by decide +kernel
theorem dX12_isLetter_13 : decode cX12_isLetter 13 = .ok (.goto 4, 3) := by decide +kernel
theorem dX12_isLetter_16 : decode cX12_isLetter 16 = .ok (.iconst 0, 1) := by decide +kernel
theorem dX12_isLetter_17 : decode cX12_isLetter 17 = .ok (.ireturn, 1) := by decide +kernel
theorem dX12_isDigit_0 : decode cX12_isDigit 0 = .ok (.iload_n 0, 1) := by decide +kernel
theorem dX12_isDigit_1 : decode cX12_isDigit 1 = .ok (.bipush 48, 2) := by decide +kernel
theorem dX12_isDigit_3 : decode cX12_isDigit 3 = .ok (.if_icmp .lt 13, 3) := by decide +kernel
theorem dX12_isDigit_6 : decode cX12_isDigit 6 = .ok (.iload_n 0, 1) := by decide +kernel
theorem dX12_isDigit_7 : decode cX12_isDigit 7 = .ok (.bipush 57, 2) := by decide +kernel
theorem dX12_isDigit_9 : decode cX12_isDigit 9 = .ok (.if_icmp .gt 7, 3) := by decide +kernel
theorem dX12_isDigit_12 : decode cX12_isDigit 12 = .ok (.iconst 1, 1) := by decide +kernel
theorem dX12_isDigit_13 : decode cX12_isDigit 13 = .ok (.goto 4, 3) := by decide +kernel
theorem dX12_isDigit_16 : decode cX12_isDigit 16 = .ok (.iconst 0, 1) := by decide +kernel
theorem dX12_isDigit_17 : decode cX12_isDigit 17 = .ok (.ireturn, 1) := by decide +kernel
theorem dX12_fails_0 : decode cX12_fails 0 = .ok (.aload_n 0, 1) := by decide +kernel
theorem dX12_fails_1 : decode cX12_fails 1 = .ok (.getfield 227, 3) := by decide +kernel
theorem dX12_fails_4 : decode cX12_fails 4 = .ok (.ifCond .le 4, 3) := by decide +kernel
theorem dX12_fails_7 : decode cX12_fails 7 = .ok (.return_, 1) := by decide +kernel
theorem dX12_fails_8 : decode cX12_fails 8 = .ok (.aload_n 0, 1) := by decide +kernel
theorem dX12_fails_9 : decode cX12_fails 9 = .ok (.iload_n 1, 1) := by decide +kernel
theorem dX12_fails_10 : decode cX12_fails 10 = .ok (.putfield 227, 3) := by decide +kernel
theorem dX12_fails_13 : decode cX12_fails 13 = .ok (.aload_n 0, 1) := by decide +kernel
theorem dX12_fails_14 : decode cX12_fails 14 = .ok (.iload_n 2, 1) := by decide +kernel
theorem dX12_fails_15 : decode cX12_fails 15 = .ok (.putfield 16, 3) := by decide +kernel
theorem dX12_fails_18 : decode cX12_fails 18 = .ok (.return_, 1) := by decide +kernel
theorem dX12_isGood_0 : decode cX12_isGood 0 = .ok (.aload_n 0, 1) := by decide +kernel
theorem dX12_isGood_1 : decode cX12_isGood 1 = .ok (.getfield 227, 3) := by decide +kernel
theorem dX12_isGood_4 : decode cX12_isGood 4 = .ok (.ifCond .ne 7, 3) := by decide +kernel
theorem dX12_isGood_7 : decode cX12_isGood 7 = .ok (.iconst 1, 1) := by decide +kernel
theorem dX12_isGood_8 : decode cX12_isGood 8 = .ok (.goto 4, 3) := by decide +kernel
theorem dX12_isGood_11 : decode cX12_isGood 11 = .ok (.iconst 0, 1) := by decide +kernel
theorem dX12_isGood_12 : decode cX12_isGood 12 = .ok (.ireturn, 1) := by decide +kernel
theorem dX12_isKept_0 : decode cX12_isKept 0 = .ok (.lload_n 0, 1) := by decide +kernel
theorem dX12_isKept_1 : decode cX12_isKept 1 = .ok (.ldc2_w 230, 3) := by decide +kernel
theorem dX12_isKept_4 : decode cX12_isKept 4 = .ok (.lcmp, 1) := by decide +kernel
theorem dX12_isKept_5 : decode cX12_isKept 5 = .ok (.ifCond .eq 107, 3) := by decide +kernel
theorem dX12_isKept_8 : decode cX12_isKept 8 = .ok (.lload_n 0, 1) := by decide +kernel
theorem dX12_isKept_9 : decode cX12_isKept 9 = .ok (.ldc2_w 232, 3) := by decide +kernel
theorem dX12_isKept_12 : decode cX12_isKept 12 = .ok (.lcmp, 1) := by decide +kernel
theorem dX12_isKept_13 : decode cX12_isKept 13 = .ok (.ifCond .eq 99, 3) := by decide +kernel
theorem dX12_isKept_16 : decode cX12_isKept 16 = .ok (.lload_n 0, 1) := by decide +kernel
theorem dX12_isKept_17 : decode cX12_isKept 17 = .ok (.ldc2_w 234, 3) := by decide +kernel
theorem dX12_isKept_20 : decode cX12_isKept 20 = .ok (.lcmp, 1) := by decide +kernel
theorem dX12_isKept_21 : decode cX12_isKept 21 = .ok (.ifCond .eq 91, 3) := by decide +kernel
theorem dX12_isKept_24 : decode cX12_isKept 24 = .ok (.lload_n 0, 1) := by decide +kernel
theorem dX12_isKept_25 : decode cX12_isKept 25 = .ok (.ldc2_w 236, 3) := by decide +kernel
theorem dX12_isKept_28 : decode cX12_isKept 28 = .ok (.lcmp, 1) := by decide +kernel
theorem dX12_isKept_29 : decode cX12_isKept 29 = .ok (.ifCond .eq 83, 3) := by decide +kernel
theorem dX12_isKept_32 : decode cX12_isKept 32 = .ok (.lload_n 0, 1) := by decide +kernel
theorem dX12_isKept_33 : decode cX12_isKept 33 = .ok (.ldc2_w 238, 3) := by decide +kernel
theorem dX12_isKept_36 : decode cX12_isKept 36 = .ok (.lcmp, 1) := by decide +kernel
theorem dX12_isKept_37 : decode cX12_isKept 37 = .ok (.ifCond .eq 75, 3) := by decide +kernel
theorem dX12_isKept_40 : decode cX12_isKept 40 = .ok (.lload_n 0, 1) := by decide +kernel
theorem dX12_isKept_41 : decode cX12_isKept 41 = .ok (.ldc2_w 240, 3) := by decide +kernel
theorem dX12_isKept_44 : decode cX12_isKept 44 = .ok (.lcmp, 1) := by decide +kernel
theorem dX12_isKept_45 : decode cX12_isKept 45 = .ok (.ifCond .eq 67, 3) := by decide +kernel
theorem dX12_isKept_48 : decode cX12_isKept 48 = .ok (.lload_n 0, 1) := by decide +kernel
theorem dX12_isKept_49 : decode cX12_isKept 49 = .ok (.ldc2_w 242, 3) := by decide +kernel
theorem dX12_isKept_52 : decode cX12_isKept 52 = .ok (.lcmp, 1) := by decide +kernel
theorem dX12_isKept_53 : decode cX12_isKept 53 = .ok (.ifCond .eq 59, 3) := by decide +kernel
theorem dX12_isKept_56 : decode cX12_isKept 56 = .ok (.lload_n 0, 1) := by decide +kernel
theorem dX12_isKept_57 : decode cX12_isKept 57 = .ok (.ldc2_w 244, 3) := by decide +kernel
theorem dX12_isKept_60 : decode cX12_isKept 60 = .ok (.lcmp, 1) := by decide +kernel
theorem dX12_isKept_61 : decode cX12_isKept 61 = .ok (.ifCond .eq 51, 3) := by decide +kernel
theorem dX12_isKept_64 : decode cX12_isKept 64 = .ok (.lload_n 0, 1) := by decide +kernel
theorem dX12_isKept_65 : decode cX12_isKept 65 = .ok (.ldc2_w 246, 3) := by decide +kernel
theorem dX12_isKept_68 : decode cX12_isKept 68 = .ok (.lcmp, 1) := by decide +kernel
theorem dX12_isKept_69 : decode cX12_isKept 69 = .ok (.ifCond .eq 43, 3) := by decide +kernel
theorem dX12_isKept_72 : decode cX12_isKept 72 = .ok (.lload_n 0, 1) := by decide +kernel
theorem dX12_isKept_73 : decode cX12_isKept 73 = .ok (.ldc2_w 248, 3) := by decide +kernel
theorem dX12_isKept_76 : decode cX12_isKept 76 = .ok (.lcmp, 1) := by decide +kernel
theorem dX12_isKept_77 : decode cX12_isKept 77 = .ok (.ifCond .eq 35, 3) := by decide +kernel
theorem dX12_isKept_80 : decode cX12_isKept 80 = .ok (.lload_n 0, 1) := by decide +kernel
theorem dX12_isKept_81 : decode cX12_isKept 81 = .ok (.ldc2_w 250, 3) := by decide +kernel
theorem dX12_isKept_84 : decode cX12_isKept 84 = .ok (.lcmp, 1) := by decide +kernel
theorem dX12_isKept_85 : decode cX12_isKept 85 = .ok (.ifCond .eq 27, 3) := by decide +kernel
theorem dX12_isKept_88 : decode cX12_isKept 88 = .ok (.lload_n 0, 1) := by decide +kernel
theorem dX12_isKept_89 : decode cX12_isKept 89 = .ok (.ldc2_w 252, 3) := by decide +kernel
theorem dX12_isKept_92 : decode cX12_isKept 92 = .ok (.lcmp, 1) := by decide +kernel
theorem dX12_isKept_93 : decode cX12_isKept 93 = .ok (.ifCond .eq 19, 3) := by decide +kernel
theorem dX12_isKept_96 : decode cX12_isKept 96 = .ok (.lload_n 0, 1) := by decide +kernel
theorem dX12_isKept_97 : decode cX12_isKept 97 = .ok (.ldc2_w 254, 3) := by decide +kernel
theorem dX12_isKept_100 : decode cX12_isKept 100 = .ok (.lcmp, 1) := by decide +kernel
theorem dX12_isKept_101 : decode cX12_isKept 101 = .ok (.ifCond .eq 11, 3) := by decide +kernel
theorem dX12_isKept_104 : decode cX12_isKept 104 = .ok (.lload_n 0, 1) := by decide +kernel
theorem dX12_isKept_105 : decode cX12_isKept 105 = .ok (.ldc2_w 256, 3) := by decide +kernel
theorem dX12_isKept_108 : decode cX12_isKept 108 = .ok (.lcmp, 1) := by decide +kernel
theorem dX12_isKept_109 : decode cX12_isKept 109 = .ok (.ifCond .ne 7, 3) := by decide +kernel
theorem dX12_isKept_112 : decode cX12_isKept 112 = .ok (.iconst 1, 1) := by decide +kernel
theorem dX12_isKept_113 : decode cX12_isKept 113 = .ok (.goto 4, 3) := by decide +kernel
theorem dX12_isKept_116 : decode cX12_isKept 116 = .ok (.iconst 0, 1) := by decide +kernel
theorem dX12_isKept_117 : decode cX12_isKept 117 = .ok (.istore_n 2, 1) := by decide +kernel
theorem dX12_isKept_118 : decode cX12_isKept 118 = .ok (.iload_n 2, 1) := by decide +kernel
theorem dX12_isKept_119 : decode cX12_isKept 119 = .ok (.ifCond .ne 10, 3) := by decide +kernel
theorem dX12_isKept_122 : decode cX12_isKept 122 = .ok (.lload_n 0, 1) := by decide +kernel
theorem dX12_isKept_123 : decode cX12_isKept 123 = .ok (.invokestatic 258, 3) := by decide +kernel
theorem dX12_isKept_126 : decode cX12_isKept 126 = .ok (.ifCond .lt 7, 3) := by decide +kernel
theorem dX12_isKept_129 : decode cX12_isKept 129 = .ok (.iconst 1, 1) := by decide +kernel
theorem dX12_isKept_130 : decode cX12_isKept 130 = .ok (.goto 4, 3) := by decide +kernel
theorem dX12_isKept_133 : decode cX12_isKept 133 = .ok (.iconst 0, 1) := by decide +kernel
theorem dX12_isKept_134 : decode cX12_isKept 134 = .ok (.ireturn, 1) := by decide +kernel
theorem dX12_thingOf_0 : decode cX12_thingOf 0 = .ok (.lload_n 0, 1) := by decide +kernel
theorem dX12_thingOf_1 : decode cX12_thingOf 1 = .ok (.ldc2_w 262, 3) := by decide +kernel
theorem dX12_thingOf_4 : decode cX12_thingOf 4 = .ok (.lcmp, 1) := by decide +kernel
theorem dX12_thingOf_5 : decode cX12_thingOf 5 = .ok (.ifCond .ne 5, 3) := by decide +kernel
theorem dX12_thingOf_8 : decode cX12_thingOf 8 = .ok (.iconst 0, 1) := by decide +kernel
theorem dX12_thingOf_9 : decode cX12_thingOf 9 = .ok (.ireturn, 1) := by decide +kernel
theorem dX12_thingOf_10 : decode cX12_thingOf 10 = .ok (.lload_n 0, 1) := by decide +kernel
theorem dX12_thingOf_11 : decode cX12_thingOf 11 = .ok (.ldc2_w 264, 3) := by decide +kernel
theorem dX12_thingOf_14 : decode cX12_thingOf 14 = .ok (.lcmp, 1) := by decide +kernel
theorem dX12_thingOf_15 : decode cX12_thingOf 15 = .ok (.ifCond .ne 5, 3) := by decide +kernel
theorem dX12_thingOf_18 : decode cX12_thingOf 18 = .ok (.iconst 1, 1) := by decide +kernel
theorem dX12_thingOf_19 : decode cX12_thingOf 19 = .ok (.ireturn, 1) := by decide +kernel
theorem dX12_thingOf_20 : decode cX12_thingOf 20 = .ok (.lload_n 0, 1) := by decide +kernel
theorem dX12_thingOf_21 : decode cX12_thingOf 21 = .ok (.ldc2_w 266, 3) := by decide +kernel
theorem dX12_thingOf_24 : decode cX12_thingOf 24 = .ok (.lcmp, 1) := by decide +kernel
theorem dX12_thingOf_25 : decode cX12_thingOf 25 = .ok (.ifCond .ne 5, 3) := by decide +kernel
theorem dX12_thingOf_28 : decode cX12_thingOf 28 = .ok (.iconst 2, 1) := by decide +kernel
theorem dX12_thingOf_29 : decode cX12_thingOf 29 = .ok (.ireturn, 1) := by decide +kernel
theorem dX12_thingOf_30 : decode cX12_thingOf 30 = .ok (.lload_n 0, 1) := by decide +kernel
theorem dX12_thingOf_31 : decode cX12_thingOf 31 = .ok (.ldc2_w 268, 3) := by decide +kernel
theorem dX12_thingOf_34 : decode cX12_thingOf 34 = .ok (.lcmp, 1) := by decide +kernel
theorem dX12_thingOf_35 : decode cX12_thingOf 35 = .ok (.ifCond .ne 5, 3) := by decide +kernel
theorem dX12_thingOf_38 : decode cX12_thingOf 38 = .ok (.iconst 3, 1) := by decide +kernel
theorem dX12_thingOf_39 : decode cX12_thingOf 39 = .ok (.ireturn, 1) := by decide +kernel
theorem dX12_thingOf_40 : decode cX12_thingOf 40 = .ok (.lload_n 0, 1) := by decide +kernel
theorem dX12_thingOf_41 : decode cX12_thingOf 41 = .ok (.ldc2_w 270, 3) := by decide +kernel
theorem dX12_thingOf_44 : decode cX12_thingOf 44 = .ok (.lcmp, 1) := by decide +kernel
theorem dX12_thingOf_45 : decode cX12_thingOf 45 = .ok (.ifCond .ne 5, 3) := by decide +kernel
theorem dX12_thingOf_48 : decode cX12_thingOf 48 = .ok (.iconst 4, 1) := by decide +kernel
theorem dX12_thingOf_49 : decode cX12_thingOf 49 = .ok (.ireturn, 1) := by decide +kernel
theorem dX12_thingOf_50 : decode cX12_thingOf 50 = .ok (.lload_n 0, 1) := by decide +kernel
theorem dX12_thingOf_51 : decode cX12_thingOf 51 = .ok (.ldc2_w 272, 3) := by decide +kernel
theorem dX12_thingOf_54 : decode cX12_thingOf 54 = .ok (.lcmp, 1) := by decide +kernel
theorem dX12_thingOf_55 : decode cX12_thingOf 55 = .ok (.ifCond .ne 5, 3) := by decide +kernel
theorem dX12_thingOf_58 : decode cX12_thingOf 58 = .ok (.iconst 5, 1) := by decide +kernel
theorem dX12_thingOf_59 : decode cX12_thingOf 59 = .ok (.ireturn, 1) := by decide +kernel
theorem dX12_thingOf_60 : decode cX12_thingOf 60 = .ok (.lload_n 0, 1) := by decide +kernel
theorem dX12_thingOf_61 : decode cX12_thingOf 61 = .ok (.ldc2_w 274, 3) := by decide +kernel
theorem dX12_thingOf_64 : decode cX12_thingOf 64 = .ok (.lcmp, 1) := by decide +kernel
theorem dX12_thingOf_65 : decode cX12_thingOf 65 = .ok (.ifCond .ne 6, 3) := by decide +kernel
theorem dX12_thingOf_68 : decode cX12_thingOf 68 = .ok (.bipush 6, 2) := by decide +kernel
theorem dX12_thingOf_70 : decode cX12_thingOf 70 = .ok (.ireturn, 1) := by decide +kernel
theorem dX12_thingOf_71 : decode cX12_thingOf 71 = .ok (.lload_n 0, 1) := by decide +kernel
theorem dX12_thingOf_72 : decode cX12_thingOf 72 = .ok (.ldc2_w 276, 3) := by decide +kernel
theorem dX12_thingOf_75 : decode cX12_thingOf 75 = .ok (.lcmp, 1) := by decide +kernel
theorem dX12_thingOf_76 : decode cX12_thingOf 76 = .ok (.ifCond .ne 6, 3) := by decide +kernel
theorem dX12_thingOf_79 : decode cX12_thingOf 79 = .ok (.bipush 7, 2) := by decide +kernel
theorem dX12_thingOf_81 : decode cX12_thingOf 81 = .ok (.ireturn, 1) := by decide +kernel
theorem dX12_thingOf_82 : decode cX12_thingOf 82 = .ok (.lload_n 0, 1) := by decide +kernel
theorem dX12_thingOf_83 : decode cX12_thingOf 83 = .ok (.ldc2_w 278, 3) := by decide +kernel
theorem dX12_thingOf_86 : decode cX12_thingOf 86 = .ok (.lcmp, 1) := by decide +kernel
theorem dX12_thingOf_87 : decode cX12_thingOf 87 = .ok (.ifCond .ne 6, 3) := by decide +kernel
theorem dX12_thingOf_90 : decode cX12_thingOf 90 = .ok (.bipush 8, 2) := by decide +kernel
theorem dX12_thingOf_92 : decode cX12_thingOf 92 = .ok (.ireturn, 1) := by decide +kernel
theorem dX12_thingOf_93 : decode cX12_thingOf 93 = .ok (.lload_n 0, 1) := by decide +kernel
theorem dX12_thingOf_94 : decode cX12_thingOf 94 = .ok (.ldc2_w 280, 3) := by decide +kernel
theorem dX12_thingOf_97 : decode cX12_thingOf 97 = .ok (.lcmp, 1) := by decide +kernel
theorem dX12_thingOf_98 : decode cX12_thingOf 98 = .ok (.ifCond .ne 6, 3) := by decide +kernel
theorem dX12_thingOf_101 : decode cX12_thingOf 101 = .ok (.bipush 9, 2) := by decide +kernel
theorem dX12_thingOf_103 : decode cX12_thingOf 103 = .ok (.ireturn, 1) := by decide +kernel
theorem dX12_thingOf_104 : decode cX12_thingOf 104 = .ok (.lload_n 0, 1) := by decide +kernel
theorem dX12_thingOf_105 : decode cX12_thingOf 105 = .ok (.ldc2_w 282, 3) := by decide +kernel
theorem dX12_thingOf_108 : decode cX12_thingOf 108 = .ok (.lcmp, 1) := by decide +kernel
theorem dX12_thingOf_109 : decode cX12_thingOf 109 = .ok (.ifCond .ne 6, 3) := by decide +kernel
theorem dX12_thingOf_112 : decode cX12_thingOf 112 = .ok (.bipush 10, 2) := by decide +kernel
theorem dX12_thingOf_114 : decode cX12_thingOf 114 = .ok (.ireturn, 1) := by decide +kernel
theorem dX12_thingOf_115 : decode cX12_thingOf 115 = .ok (.lload_n 0, 1) := by decide +kernel
theorem dX12_thingOf_116 : decode cX12_thingOf 116 = .ok (.ldc2_w 284, 3) := by decide +kernel
theorem dX12_thingOf_119 : decode cX12_thingOf 119 = .ok (.lcmp, 1) := by decide +kernel
theorem dX12_thingOf_120 : decode cX12_thingOf 120 = .ok (.ifCond .ne 6, 3) := by decide +kernel
theorem dX12_thingOf_123 : decode cX12_thingOf 123 = .ok (.bipush 11, 2) := by decide +kernel
theorem dX12_thingOf_125 : decode cX12_thingOf 125 = .ok (.ireturn, 1) := by decide +kernel
theorem dX12_thingOf_126 : decode cX12_thingOf 126 = .ok (.lload_n 0, 1) := by decide +kernel
theorem dX12_thingOf_127 : decode cX12_thingOf 127 = .ok (.ldc2_w 286, 3) := by decide +kernel
theorem dX12_thingOf_130 : decode cX12_thingOf 130 = .ok (.lcmp, 1) := by decide +kernel
theorem dX12_thingOf_131 : decode cX12_thingOf 131 = .ok (.ifCond .ne 6, 3) := by decide +kernel
theorem dX12_thingOf_134 : decode cX12_thingOf 134 = .ok (.bipush 12, 2) := by decide +kernel
theorem dX12_thingOf_136 : decode cX12_thingOf 136 = .ok (.ireturn, 1) := by decide +kernel
theorem dX12_thingOf_137 : decode cX12_thingOf 137 = .ok (.lload_n 0, 1) := by decide +kernel
theorem dX12_thingOf_138 : decode cX12_thingOf 138 = .ok (.ldc2_w 288, 3) := by decide +kernel
theorem dX12_thingOf_141 : decode cX12_thingOf 141 = .ok (.lcmp, 1) := by decide +kernel
theorem dX12_thingOf_142 : decode cX12_thingOf 142 = .ok (.ifCond .ne 6, 3) := by decide +kernel
theorem dX12_thingOf_145 : decode cX12_thingOf 145 = .ok (.bipush 13, 2) := by decide +kernel
theorem dX12_thingOf_147 : decode cX12_thingOf 147 = .ok (.ireturn, 1) := by decide +kernel
theorem dX12_thingOf_148 : decode cX12_thingOf 148 = .ok (.lload_n 0, 1) := by decide +kernel
theorem dX12_thingOf_149 : decode cX12_thingOf 149 = .ok (.ldc2_w 290, 3) := by decide +kernel
theorem dX12_thingOf_152 : decode cX12_thingOf 152 = .ok (.lcmp, 1) := by decide +kernel
theorem dX12_thingOf_153 : decode cX12_thingOf 153 = .ok (.ifCond .ne 6, 3) := by decide +kernel
theorem dX12_thingOf_156 : decode cX12_thingOf 156 = .ok (.bipush 14, 2) := by decide +kernel
theorem dX12_thingOf_158 : decode cX12_thingOf 158 = .ok (.ireturn, 1) := by decide +kernel
theorem dX12_thingOf_159 : decode cX12_thingOf 159 = .ok (.iconst (-1), 1) := by decide +kernel
theorem dX12_thingOf_160 : decode cX12_thingOf 160 = .ok (.ireturn, 1) := by decide +kernel
theorem dX12_isSign_0 : decode cX12_isSign 0 = .ok (.iload_n 0, 1) := by decide +kernel
theorem dX12_isSign_1 : decode cX12_isSign 1 = .ok (.bipush 59, 2) := by decide +kernel
theorem dX12_isSign_3 : decode cX12_isSign 3 = .ok (.if_icmp .eq 63, 3) := by decide +kernel
theorem dX12_isSign_6 : decode cX12_isSign 6 = .ok (.iload_n 0, 1) := by decide +kernel
theorem dX12_isSign_7 : decode cX12_isSign 7 = .ok (.bipush 40, 2) := by decide +kernel
theorem dX12_isSign_9 : decode cX12_isSign 9 = .ok (.if_icmp .eq 57, 3) := by decide +kernel
theorem dX12_isSign_12 : decode cX12_isSign 12 = .ok (.iload_n 0, 1) := by decide +kernel
theorem dX12_isSign_13 : decode cX12_isSign 13 = .ok (.bipush 41, 2) := by decide +kernel
theorem dX12_isSign_15 : decode cX12_isSign 15 = .ok (.if_icmp .eq 51, 3) := by decide +kernel
theorem dX12_isSign_18 : decode cX12_isSign 18 = .ok (.iload_n 0, 1) := by decide +kernel
theorem dX12_isSign_19 : decode cX12_isSign 19 = .ok (.bipush 60, 2) := by decide +kernel
theorem dX12_isSign_21 : decode cX12_isSign 21 = .ok (.if_icmp .eq 45, 3) := by decide +kernel
theorem dX12_isSign_24 : decode cX12_isSign 24 = .ok (.iload_n 0, 1) := by decide +kernel
theorem dX12_isSign_25 : decode cX12_isSign 25 = .ok (.bipush 62, 2) := by decide +kernel
theorem dX12_isSign_27 : decode cX12_isSign 27 = .ok (.if_icmp .eq 39, 3) := by decide +kernel
theorem dX12_isSign_30 : decode cX12_isSign 30 = .ok (.iload_n 0, 1) := by decide +kernel
theorem dX12_isSign_31 : decode cX12_isSign 31 = .ok (.bipush 61, 2) := by decide +kernel
theorem dX12_isSign_33 : decode cX12_isSign 33 = .ok (.if_icmp .eq 33, 3) := by decide +kernel
theorem dX12_isSign_36 : decode cX12_isSign 36 = .ok (.iload_n 0, 1) := by decide +kernel
theorem dX12_isSign_37 : decode cX12_isSign 37 = .ok (.bipush 43, 2) := by decide +kernel
theorem dX12_isSign_39 : decode cX12_isSign 39 = .ok (.if_icmp .eq 27, 3) := by decide +kernel
theorem dX12_isSign_42 : decode cX12_isSign 42 = .ok (.iload_n 0, 1) := by decide +kernel
theorem dX12_isSign_43 : decode cX12_isSign 43 = .ok (.bipush 45, 2) := by decide +kernel
theorem dX12_isSign_45 : decode cX12_isSign 45 = .ok (.if_icmp .eq 21, 3) := by decide +kernel
theorem dX12_isSign_48 : decode cX12_isSign 48 = .ok (.iload_n 0, 1) := by decide +kernel
theorem dX12_isSign_49 : decode cX12_isSign 49 = .ok (.bipush 42, 2) := by decide +kernel
theorem dX12_isSign_51 : decode cX12_isSign 51 = .ok (.if_icmp .eq 15, 3) := by decide +kernel
theorem dX12_isSign_54 : decode cX12_isSign 54 = .ok (.iload_n 0, 1) := by decide +kernel
theorem dX12_isSign_55 : decode cX12_isSign 55 = .ok (.bipush 47, 2) := by decide +kernel
theorem dX12_isSign_57 : decode cX12_isSign 57 = .ok (.if_icmp .eq 9, 3) := by decide +kernel
theorem dX12_isSign_60 : decode cX12_isSign 60 = .ok (.iload_n 0, 1) := by decide +kernel
theorem dX12_isSign_61 : decode cX12_isSign 61 = .ok (.bipush 37, 2) := by decide +kernel
theorem dX12_isSign_63 : decode cX12_isSign 63 = .ok (.if_icmp .ne 7, 3) := by decide +kernel
theorem dX12_isSign_66 : decode cX12_isSign 66 = .ok (.iconst 1, 1) := by decide +kernel
theorem dX12_isSign_67 : decode cX12_isSign 67 = .ok (.goto 4, 3) := by decide +kernel
theorem dX12_isSign_70 : decode cX12_isSign 70 = .ok (.iconst 0, 1) := by decide +kernel
theorem dX12_isSign_71 : decode cX12_isSign 71 = .ok (.ireturn, 1) := by decide +kernel
theorem dX12_goOn_0 : decode cX12_goOn 0 = .ok (.aload_n 0, 1) := by decide +kernel
theorem dX12_goOn_1 : decode cX12_goOn 1 = .ok (.aload_n 0, 1) := by decide +kernel
theorem dX12_goOn_2 : decode cX12_goOn 2 = .ok (.getfield 292, 3) := by decide +kernel
theorem dX12_goOn_5 : decode cX12_goOn 5 = .ok (.putfield 295, 3) := by decide +kernel
theorem dX12_goOn_8 : decode cX12_goOn 8 = .ok (.aload_n 0, 1) := by decide +kernel
theorem dX12_goOn_9 : decode cX12_goOn 9 = .ok (.getfield 295, 3) := by decide +kernel
theorem dX12_goOn_12 : decode cX12_goOn 12 = .ok (.aload_n 0, 1) := by decide +kernel
theorem dX12_goOn_13 : decode cX12_goOn 13 = .ok (.getfield 224, 3) := by decide +kernel
theorem dX12_goOn_16 : decode cX12_goOn 16 = .ok (.if_icmp .ge 42, 3) := by decide +kernel
theorem dX12_goOn_19 : decode cX12_goOn 19 = .ok (.aload_n 0, 1) := by decide +kernel
theorem dX12_goOn_20 : decode cX12_goOn 20 = .ok (.aload_n 0, 1) := by decide +kernel
theorem dX12_goOn_21 : decode cX12_goOn 21 = .ok (.getfield 295, 3) := by decide +kernel
theorem dX12_goOn_24 : decode cX12_goOn 24 = .ok (.invokevirtual 298, 3) := by decide +kernel
theorem dX12_goOn_27 : decode cX12_goOn 27 = .ok (.bipush 32, 2) := by decide +kernel
theorem dX12_goOn_29 : decode cX12_goOn 29 = .ok (.if_icmp .eq 16, 3) := by decide +kernel
theorem dX12_goOn_32 : decode cX12_goOn 32 = .ok (.aload_n 0, 1) := by decide +kernel
theorem dX12_goOn_33 : decode cX12_goOn 33 = .ok (.aload_n 0, 1) := by decide +kernel
theorem dX12_goOn_34 : decode cX12_goOn 34 = .ok (.getfield 295, 3) := by decide +kernel
theorem dX12_goOn_37 : decode cX12_goOn 37 = .ok (.invokevirtual 298, 3) := by decide +kernel
theorem dX12_goOn_40 : decode cX12_goOn 40 = .ok (.bipush 10, 2) := by decide +kernel
theorem dX12_goOn_42 : decode cX12_goOn 42 = .ok (.if_icmp .ne 16, 3) := by decide +kernel
theorem dX12_goOn_45 : decode cX12_goOn 45 = .ok (.aload_n 0, 1) := by decide +kernel
theorem dX12_goOn_46 : decode cX12_goOn 46 = .ok (.dup, 1) := by decide +kernel
theorem dX12_goOn_47 : decode cX12_goOn 47 = .ok (.getfield 295, 3) := by decide +kernel
theorem dX12_goOn_50 : decode cX12_goOn 50 = .ok (.iconst 1, 1) := by decide +kernel
theorem dX12_goOn_51 : decode cX12_goOn 51 = .ok (.iadd, 1) := by decide +kernel
theorem dX12_goOn_52 : decode cX12_goOn 52 = .ok (.putfield 295, 3) := by decide +kernel
theorem dX12_goOn_55 : decode cX12_goOn 55 = .ok (.goto (-47), 3) := by decide +kernel
theorem dX12_goOn_58 : decode cX12_goOn 58 = .ok (.aload_n 0, 1) := by decide +kernel
theorem dX12_goOn_59 : decode cX12_goOn 59 = .ok (.aload_n 0, 1) := by decide +kernel
theorem dX12_goOn_60 : decode cX12_goOn 60 = .ok (.getfield 295, 3) := by decide +kernel
theorem dX12_goOn_63 : decode cX12_goOn 63 = .ok (.invokevirtual 298, 3) := by decide +kernel
theorem dX12_goOn_66 : decode cX12_goOn 66 = .ok (.istore_n 1, 1) := by decide +kernel
theorem dX12_goOn_67 : decode cX12_goOn 67 = .ok (.aload_n 0, 1) := by decide +kernel
theorem dX12_goOn_68 : decode cX12_goOn 68 = .ok (.aload_n 0, 1) := by decide +kernel
theorem dX12_goOn_69 : decode cX12_goOn 69 = .ok (.getfield 295, 3) := by decide +kernel
theorem dX12_goOn_72 : decode cX12_goOn 72 = .ok (.iconst 1, 1) := by decide +kernel
theorem dX12_goOn_73 : decode cX12_goOn 73 = .ok (.iadd, 1) := by decide +kernel
theorem dX12_goOn_74 : decode cX12_goOn 74 = .ok (.putfield 292, 3) := by decide +kernel
theorem dX12_goOn_77 : decode cX12_goOn 77 = .ok (.aload_n 0, 1) := by decide +kernel
theorem dX12_goOn_78 : decode cX12_goOn 78 = .ok (.getfield 295, 3) := by decide +kernel
theorem dX12_goOn_81 : decode cX12_goOn 81 = .ok (.aload_n 0, 1) := by decide +kernel
theorem dX12_goOn_82 : decode cX12_goOn 82 = .ok (.getfield 224, 3) := by decide +kernel
theorem dX12_goOn_85 : decode cX12_goOn 85 = .ok (.if_icmp .lt 27, 3) := by decide +kernel
theorem dX12_goOn_88 : decode cX12_goOn 88 = .ok (.aload_n 0, 1) := by decide +kernel
theorem dX12_goOn_89 : decode cX12_goOn 89 = .ok (.iconst 0, 1) := by decide +kernel
theorem dX12_goOn_90 : decode cX12_goOn 90 = .ok (.putfield 302, 3) := by decide +kernel
theorem dX12_goOn_93 : decode cX12_goOn 93 = .ok (.aload_n 0, 1) := by decide +kernel
theorem dX12_goOn_94 : decode cX12_goOn 94 = .ok (.aload_n 0, 1) := by decide +kernel
theorem dX12_goOn_95 : decode cX12_goOn 95 = .ok (.getfield 224, 3) := by decide +kernel
theorem dX12_goOn_98 : decode cX12_goOn 98 = .ok (.putfield 295, 3) := by decide +kernel
theorem dX12_goOn_101 : decode cX12_goOn 101 = .ok (.aload_n 0, 1) := by decide +kernel
theorem dX12_goOn_102 : decode cX12_goOn 102 = .ok (.aload_n 0, 1) := by decide +kernel
theorem dX12_goOn_103 : decode cX12_goOn 103 = .ok (.getfield 224, 3) := by decide +kernel
theorem dX12_goOn_106 : decode cX12_goOn 106 = .ok (.putfield 292, 3) := by decide +kernel
theorem dX12_goOn_109 : decode cX12_goOn 109 = .ok (.goto 268, 3) := by decide +kernel
theorem dX12_goOn_112 : decode cX12_goOn 112 = .ok (.iload_n 1, 1) := by decide +kernel
theorem dX12_goOn_113 : decode cX12_goOn 113 = .ok (.invokestatic 305, 3) := by decide +kernel
theorem dX12_goOn_116 : decode cX12_goOn 116 = .ok (.ifCond .eq 123, 3) := by decide +kernel
theorem dX12_goOn_119 : decode cX12_goOn 119 = .ok (.aload_n 0, 1) := by decide +kernel
theorem dX12_goOn_120 : decode cX12_goOn 120 = .ok (.aload_n 0, 1) := by decide +kernel
theorem dX12_goOn_121 : decode cX12_goOn 121 = .ok (.getfield 292, 3) := by decide +kernel
theorem dX12_goOn_124 : decode cX12_goOn 124 = .ok (.invokevirtual 298, 3) := by decide +kernel
theorem dX12_goOn_127 : decode cX12_goOn 127 = .ok (.invokestatic 305, 3) := by decide +kernel
theorem dX12_goOn_130 : decode cX12_goOn 130 = .ok (.ifCond .eq 16, 3) := by decide +kernel
theorem dX12_goOn_133 : decode cX12_goOn 133 = .ok (.aload_n 0, 1) := by decide +kernel
theorem dX12_goOn_134 : decode cX12_goOn 134 = .ok (.dup, 1) := by decide +kernel
theorem dX12_goOn_135 : decode cX12_goOn 135 = .ok (.getfield 292, 3) := by decide +kernel
theorem dX12_goOn_138 : decode cX12_goOn 138 = .ok (.iconst 1, 1) := by decide +kernel
theorem dX12_goOn_139 : decode cX12_goOn 139 = .ok (.iadd, 1) := by decide +kernel
theorem dX12_goOn_140 : decode cX12_goOn 140 = .ok (.putfield 292, 3) := by decide +kernel
theorem dX12_goOn_143 : decode cX12_goOn 143 = .ok (.goto (-24), 3) := by decide +kernel
theorem dX12_goOn_146 : decode cX12_goOn 146 = .ok (.aload_n 0, 1) := by decide +kernel
theorem dX12_goOn_147 : decode cX12_goOn 147 = .ok (.lconst 0, 1) := by decide +kernel
theorem dX12_goOn_148 : decode cX12_goOn 148 = .ok (.putfield 309, 3) := by decide +kernel
theorem dX12_goOn_151 : decode cX12_goOn 151 = .ok (.aload_n 0, 1) := by decide +kernel
theorem dX12_goOn_152 : decode cX12_goOn 152 = .ok (.getfield 295, 3) := by decide +kernel
theorem dX12_goOn_155 : decode cX12_goOn 155 = .ok (.istore_n 2, 1) := by decide +kernel
theorem dX12_goOn_156 : decode cX12_goOn 156 = .ok (.iload_n 2, 1) := by decide +kernel
theorem dX12_goOn_157 : decode cX12_goOn 157 = .ok (.aload_n 0, 1) := by decide +kernel
theorem dX12_goOn_158 : decode cX12_goOn 158 = .ok (.getfield 292, 3) := by decide +kernel
theorem dX12_goOn_161 : decode cX12_goOn 161 = .ok (.if_icmp .ge 38, 3) := by decide +kernel
theorem dX12_goOn_164 : decode cX12_goOn 164 = .ok (.iload_n 2, 1) := by decide +kernel
theorem dX12_goOn_165 : decode cX12_goOn 165 = .ok (.aload_n 0, 1) := by decide +kernel
theorem dX12_goOn_166 : decode cX12_goOn 166 = .ok (.getfield 295, 3) := by decide +kernel
theorem dX12_goOn_169 : decode cX12_goOn 169 = .ok (.bipush 8, 2) := by decide +kernel
theorem dX12_goOn_171 : decode cX12_goOn 171 = .ok (.iadd, 1) := by decide +kernel
theorem dX12_goOn_172 : decode cX12_goOn 172 = .ok (.if_icmp .ge 27, 3) := by decide +kernel
theorem dX12_goOn_175 : decode cX12_goOn 175 = .ok (.aload_n 0, 1) := by decide +kernel
theorem dX12_goOn_176 : decode cX12_goOn 176 = .ok (.aload_n 0, 1) := by decide +kernel
theorem dX12_goOn_177 : decode cX12_goOn 177 = .ok (.getfield 309, 3) := by decide +kernel
theorem dX12_goOn_180 : decode cX12_goOn 180 = .ok (.bipush 8, 2) := by decide +kernel
theorem dX12_goOn_182 : decode cX12_goOn 182 = .ok (.lshl, 1) := by decide +kernel
theorem dX12_goOn_183 : decode cX12_goOn 183 = .ok (.aload_n 0, 1) := by decide +kernel
theorem dX12_goOn_184 : decode cX12_goOn 184 = .ok (.iload_n 2, 1) := by decide +kernel
theorem dX12_goOn_185 : decode cX12_goOn 185 = .ok (.invokevirtual 298, 3) := by decide +kernel
theorem dX12_goOn_188 : decode cX12_goOn 188 = .ok (.i2l, 1) := by decide +kernel
theorem dX12_goOn_189 : decode cX12_goOn 189 = .ok (.lor, 1) := by decide +kernel
theorem dX12_goOn_190 : decode cX12_goOn 190 = .ok (.putfield 309, 3) := by decide +kernel
theorem dX12_goOn_193 : decode cX12_goOn 193 = .ok (.iinc 2 1, 3) := by decide +kernel
theorem dX12_goOn_196 : decode cX12_goOn 196 = .ok (.goto (-40), 3) := by decide +kernel
theorem dX12_goOn_199 : decode cX12_goOn 199 = .ok (.aload_n 0, 1) := by decide +kernel
theorem dX12_goOn_200 : decode cX12_goOn 200 = .ok (.aload_n 0, 1) := by decide +kernel
theorem dX12_goOn_201 : decode cX12_goOn 201 = .ok (.getfield 292, 3) := by decide +kernel
theorem dX12_goOn_204 : decode cX12_goOn 204 = .ok (.aload_n 0, 1) := by decide +kernel
theorem dX12_goOn_205 : decode cX12_goOn 205 = .ok (.getfield 295, 3) := by decide +kernel
theorem dX12_goOn_208 : decode cX12_goOn 208 = .ok (.isub, 1) := by decide +kernel
theorem dX12_goOn_209 : decode cX12_goOn 209 = .ok (.bipush 8, 2) := by decide +kernel
theorem dX12_goOn_211 : decode cX12_goOn 211 = .ok (.if_icmp .le 7, 3) := by decide +kernel
theorem dX12_goOn_214 : decode cX12_goOn 214 = .ok (.iconst 1, 1) := by decide +kernel
theorem dX12_goOn_215 : decode cX12_goOn 215 = .ok (.goto 18, 3) := by decide +kernel
theorem dX12_goOn_218 : decode cX12_goOn 218 = .ok (.aload_n 0, 1) := by decide +kernel
theorem dX12_goOn_219 : decode cX12_goOn 219 = .ok (.getfield 309, 3) := by decide +kernel
theorem dX12_goOn_222 : decode cX12_goOn 222 = .ok (.invokestatic 313, 3) := by decide +kernel
theorem dX12_goOn_225 : decode cX12_goOn 225 = .ok (.ifCond .eq 7, 3) := by decide +kernel
theorem dX12_goOn_228 : decode cX12_goOn 228 = .ok (.iconst 3, 1) := by decide +kernel
theorem dX12_goOn_229 : decode cX12_goOn 229 = .ok (.goto 4, 3) := by decide +kernel
theorem dX12_goOn_232 : decode cX12_goOn 232 = .ok (.iconst 2, 1) := by decide +kernel
theorem dX12_goOn_233 : decode cX12_goOn 233 = .ok (.putfield 302, 3) := by decide +kernel
theorem dX12_goOn_236 : decode cX12_goOn 236 = .ok (.goto 141, 3) := by decide +kernel
theorem dX12_goOn_239 : decode cX12_goOn 239 = .ok (.iload_n 1, 1) := by decide +kernel
theorem dX12_goOn_240 : decode cX12_goOn 240 = .ok (.invokestatic 317, 3) := by decide +kernel
theorem dX12_goOn_243 : decode cX12_goOn 243 = .ok (.ifCond .eq 118, 3) := by decide +kernel
theorem dX12_goOn_246 : decode cX12_goOn 246 = .ok (.aload_n 0, 1) := by decide +kernel
theorem dX12_goOn_247 : decode cX12_goOn 247 = .ok (.iconst 0, 1) := by decide +kernel
theorem dX12_goOn_248 : decode cX12_goOn 248 = .ok (.putfield 320, 3) := by decide +kernel
theorem dX12_goOn_251 : decode cX12_goOn 251 = .ok (.aload_n 0, 1) := by decide +kernel
theorem dX12_goOn_252 : decode cX12_goOn 252 = .ok (.aload_n 0, 1) := by decide +kernel
theorem dX12_goOn_253 : decode cX12_goOn 253 = .ok (.getfield 295, 3) := by decide +kernel
theorem dX12_goOn_256 : decode cX12_goOn 256 = .ok (.putfield 292, 3) := by decide +kernel
theorem dX12_goOn_259 : decode cX12_goOn 259 = .ok (.aload_n 0, 1) := by decide +kernel
theorem dX12_goOn_260 : decode cX12_goOn 260 = .ok (.aload_n 0, 1) := by decide +kernel
theorem dX12_goOn_261 : decode cX12_goOn 261 = .ok (.getfield 292, 3) := by decide +kernel
theorem dX12_goOn_264 : decode cX12_goOn 264 = .ok (.invokevirtual 298, 3) := by decide +kernel
theorem dX12_goOn_267 : decode cX12_goOn 267 = .ok (.invokestatic 317, 3) := by decide +kernel
theorem dX12_goOn_270 : decode cX12_goOn 270 = .ok (.ifCond .eq 52, 3) := by decide +kernel
theorem dX12_goOn_273 : decode cX12_goOn 273 = .ok (.aload_n 0, 1) := by decide +kernel
theorem dX12_goOn_274 : decode cX12_goOn 274 = .ok (.getfield 292, 3) := by decide +kernel
theorem dX12_goOn_277 : decode cX12_goOn 277 = .ok (.aload_n 0, 1) := by decide +kernel
theorem dX12_goOn_278 : decode cX12_goOn 278 = .ok (.getfield 295, 3) := by decide +kernel
theorem dX12_goOn_281 : decode cX12_goOn 281 = .ok (.isub, 1) := by decide +kernel
theorem dX12_goOn_282 : decode cX12_goOn 282 = .ok (.iconst 4, 1) := by decide +kernel
theorem dX12_goOn_283 : decode cX12_goOn 283 = .ok (.if_icmp .ge 26, 3) := by decide +kernel
theorem dX12_goOn_286 : decode cX12_goOn 286 = .ok (.aload_n 0, 1) := by decide +kernel
theorem dX12_goOn_287 : decode cX12_goOn 287 = .ok (.bipush 10, 2) := by decide +kernel
theorem dX12_goOn_289 : decode cX12_goOn 289 = .ok (.aload_n 0, 1) := by decide +kernel
theorem dX12_goOn_290 : decode cX12_goOn 290 = .ok (.getfield 320, 3) := by decide +kernel
theorem dX12_goOn_293 : decode cX12_goOn 293 = .ok (.imul, 1) := by decide +kernel
theorem dX12_goOn_294 : decode cX12_goOn 294 = .ok (.aload_n 0, 1) := by decide +kernel
theorem dX12_goOn_295 : decode cX12_goOn 295 = .ok (.aload_n 0, 1) := by decide +kernel
theorem dX12_goOn_296 : decode cX12_goOn 296 = .ok (.getfield 292, 3) := by decide +kernel
theorem dX12_goOn_299 : decode cX12_goOn 299 = .ok (.invokevirtual 298, 3) := by decide +kernel
theorem dX12_goOn_302 : decode cX12_goOn 302 = .ok (.iadd, 1) := by decide +kernel
theorem dX12_goOn_303 : decode cX12_goOn 303 = .ok (.bipush 48, 2) := by decide +kernel
theorem dX12_goOn_305 : decode cX12_goOn 305 = .ok (.isub, 1) := by decide +kernel
theorem dX12_goOn_306 : decode cX12_goOn 306 = .ok (.putfield 320, 3) := by decide +kernel
theorem dX12_goOn_309 : decode cX12_goOn 309 = .ok (.aload_n 0, 1) := by decide +kernel
theorem dX12_goOn_310 : decode cX12_goOn 310 = .ok (.dup, 1) := by decide +kernel
theorem dX12_goOn_311 : decode cX12_goOn 311 = .ok (.getfield 292, 3) := by decide +kernel
theorem dX12_goOn_314 : decode cX12_goOn 314 = .ok (.iconst 1, 1) := by decide +kernel
theorem dX12_goOn_315 : decode cX12_goOn 315 = .ok (.iadd, 1) := by decide +kernel
theorem dX12_goOn_316 : decode cX12_goOn 316 = .ok (.putfield 292, 3) := by decide +kernel
theorem dX12_goOn_319 : decode cX12_goOn 319 = .ok (.goto (-60), 3) := by decide +kernel
theorem dX12_goOn_322 : decode cX12_goOn 322 = .ok (.aload_n 0, 1) := by decide +kernel
theorem dX12_goOn_323 : decode cX12_goOn 323 = .ok (.aload_n 0, 1) := by decide +kernel
theorem dX12_goOn_324 : decode cX12_goOn 324 = .ok (.getfield 292, 3) := by decide +kernel
theorem dX12_goOn_327 : decode cX12_goOn 327 = .ok (.aload_n 0, 1) := by decide +kernel
theorem dX12_goOn_328 : decode cX12_goOn 328 = .ok (.getfield 295, 3) := by decide +kernel
theorem dX12_goOn_331 : decode cX12_goOn 331 = .ok (.isub, 1) := by decide +kernel
theorem dX12_goOn_332 : decode cX12_goOn 332 = .ok (.iconst 4, 1) := by decide +kernel
theorem dX12_goOn_333 : decode cX12_goOn 333 = .ok (.if_icmp .gt 17, 3) := by decide +kernel
theorem dX12_goOn_336 : decode cX12_goOn 336 = .ok (.aload_n 0, 1) := by decide +kernel
theorem dX12_goOn_337 : decode cX12_goOn 337 = .ok (.aload_n 0, 1) := by decide +kernel
theorem dX12_goOn_338 : decode cX12_goOn 338 = .ok (.getfield 292, 3) := by decide +kernel
theorem dX12_goOn_341 : decode cX12_goOn 341 = .ok (.invokevirtual 298, 3) := by decide +kernel
theorem dX12_goOn_344 : decode cX12_goOn 344 = .ok (.invokestatic 305, 3) := by decide +kernel
theorem dX12_goOn_347 : decode cX12_goOn 347 = .ok (.ifCond .eq 7, 3) := by decide +kernel
theorem dX12_goOn_350 : decode cX12_goOn 350 = .ok (.iconst 1, 1) := by decide +kernel
theorem dX12_goOn_351 : decode cX12_goOn 351 = .ok (.goto 4, 3) := by decide +kernel
theorem dX12_goOn_354 : decode cX12_goOn 354 = .ok (.iconst 4, 1) := by decide +kernel
theorem dX12_goOn_355 : decode cX12_goOn 355 = .ok (.putfield 302, 3) := by decide +kernel
theorem dX12_goOn_358 : decode cX12_goOn 358 = .ok (.goto 19, 3) := by decide +kernel
theorem dX12_goOn_361 : decode cX12_goOn 361 = .ok (.aload_n 0, 1) := by decide +kernel
theorem dX12_goOn_362 : decode cX12_goOn 362 = .ok (.iload_n 1, 1) := by decide +kernel
theorem dX12_goOn_363 : decode cX12_goOn 363 = .ok (.invokestatic 323, 3) := by decide +kernel
theorem dX12_goOn_366 : decode cX12_goOn 366 = .ok (.ifCond .eq 7, 3) := by decide +kernel
theorem dX12_goOn_369 : decode cX12_goOn 369 = .ok (.iconst 5, 1) := by decide +kernel
theorem dX12_goOn_370 : decode cX12_goOn 370 = .ok (.goto 4, 3) := by decide +kernel
theorem dX12_goOn_373 : decode cX12_goOn 373 = .ok (.iconst 1, 1) := by decide +kernel
theorem dX12_goOn_374 : decode cX12_goOn 374 = .ok (.putfield 302, 3) := by decide +kernel
theorem dX12_goOn_377 : decode cX12_goOn 377 = .ok (.return_, 1) := by decide +kernel
theorem dX12_isSignHere_0 : decode cX12_isSignHere 0 = .ok (.aload_n 0, 1) := by decide +kernel
theorem dX12_isSignHere_1 : decode cX12_isSignHere 1 = .ok (.getfield 302, 3) := by decide +kernel
theorem dX12_isSignHere_4 : decode cX12_isSignHere 4 = .ok (.iconst 5, 1) := by decide +kernel
theorem dX12_isSignHere_5 : decode cX12_isSignHere 5 = .ok (.if_icmp .ne 19, 3) := by decide +kernel
theorem dX12_isSignHere_8 : decode cX12_isSignHere 8 = .ok (.aload_n 0, 1) := by decide +kernel
theorem dX12_isSignHere_9 : decode cX12_isSignHere 9 = .ok (.aload_n 0, 1) := by decide +kernel
theorem dX12_isSignHere_10 : decode cX12_isSignHere 10 = .ok (.getfield 295, 3) := by decide +kernel
theorem dX12_isSignHere_13 : decode cX12_isSignHere 13 = .ok (.invokevirtual 298, 3) := by decide +kernel
theorem dX12_isSignHere_16 : decode cX12_isSignHere 16 = .ok (.iload_n 1, 1) := by decide +kernel
theorem dX12_isSignHere_17 : decode cX12_isSignHere 17 = .ok (.if_icmp .ne 7, 3) := by decide +kernel
theorem dX12_isSignHere_20 : decode cX12_isSignHere 20 = .ok (.iconst 1, 1) := by decide +kernel
theorem dX12_isSignHere_21 : decode cX12_isSignHere 21 = .ok (.goto 4, 3) := by decide +kernel
theorem dX12_isSignHere_24 : decode cX12_isSignHere 24 = .ok (.iconst 0, 1) := by decide +kernel
theorem dX12_isSignHere_25 : decode cX12_isSignHere 25 = .ok (.ireturn, 1) := by decide +kernel
theorem dX12_isWord_0 : decode cX12_isWord 0 = .ok (.aload_n 0, 1) := by decide +kernel
theorem dX12_isWord_1 : decode cX12_isWord 1 = .ok (.getfield 302, 3) := by decide +kernel
theorem dX12_isWord_4 : decode cX12_isWord 4 = .ok (.iconst 3, 1) := by decide +kernel
theorem dX12_isWord_5 : decode cX12_isWord 5 = .ok (.if_icmp .ne 16, 3) := by decide +kernel
theorem dX12_isWord_8 : decode cX12_isWord 8 = .ok (.aload_n 0, 1) := by decide +kernel
theorem dX12_isWord_9 : decode cX12_isWord 9 = .ok (.getfield 309, 3) := by decide +kernel
theorem dX12_isWord_12 : decode cX12_isWord 12 = .ok (.lload_n 1, 1) := by decide +kernel
theorem dX12_isWord_13 : decode cX12_isWord 13 = .ok (.lcmp, 1) := by decide +kernel
theorem dX12_isWord_14 : decode cX12_isWord 14 = .ok (.ifCond .ne 7, 3) := by decide +kernel
theorem dX12_isWord_17 : decode cX12_isWord 17 = .ok (.iconst 1, 1) := by decide +kernel
theorem dX12_isWord_18 : decode cX12_isWord 18 = .ok (.goto 4, 3) := by decide +kernel
theorem dX12_isWord_21 : decode cX12_isWord 21 = .ok (.iconst 0, 1) := by decide +kernel
theorem dX12_isWord_22 : decode cX12_isWord 22 = .ok (.ireturn, 1) := by decide +kernel
theorem dX12_misplaced_0 : decode cX12_misplaced 0 = .ok (.aload_n 0, 1) := by decide +kernel
theorem dX12_misplaced_1 : decode cX12_misplaced 1 = .ok (.aload_n 0, 1) := by decide +kernel
theorem dX12_misplaced_2 : decode cX12_misplaced 2 = .ok (.getfield 302, 3) := by decide +kernel
theorem dX12_misplaced_5 : decode cX12_misplaced 5 = .ok (.iconst 1, 1) := by decide +kernel
theorem dX12_misplaced_6 : decode cX12_misplaced 6 = .ok (.if_icmp .ne 7, 3) := by decide +kernel
theorem dX12_misplaced_9 : decode cX12_misplaced 9 = .ok (.iconst 1, 1) := by decide +kernel
theorem dX12_misplaced_10 : decode cX12_misplaced 10 = .ok (.goto 4, 3) := by decide +kernel
theorem dX12_misplaced_13 : decode cX12_misplaced 13 = .ok (.iconst 2, 1) := by decide +kernel
theorem dX12_misplaced_14 : decode cX12_misplaced 14 = .ok (.aload_n 0, 1) := by decide +kernel
theorem dX12_misplaced_15 : decode cX12_misplaced 15 = .ok (.getfield 295, 3) := by decide +kernel
theorem dX12_misplaced_18 : decode cX12_misplaced 18 = .ok (.invokevirtual 326, 3) := by decide +kernel
theorem dX12_misplaced_21 : decode cX12_misplaced 21 = .ok (.return_, 1) := by decide +kernel
theorem dX12_must_0 : decode cX12_must 0 = .ok (.aload_n 0, 1) := by decide +kernel
theorem dX12_must_1 : decode cX12_must 1 = .ok (.invokevirtual 330, 3) := by decide +kernel
theorem dX12_must_4 : decode cX12_must 4 = .ok (.ifCond .ne 4, 3) := by decide +kernel
theorem dX12_must_7 : decode cX12_must 7 = .ok (.return_, 1) := by decide +kernel
theorem dX12_must_8 : decode cX12_must 8 = .ok (.iload_n 1, 1) := by decide +kernel
theorem dX12_must_9 : decode cX12_must 9 = .ok (.ifCond .eq 10, 3) := by decide +kernel
theorem dX12_must_12 : decode cX12_must 12 = .ok (.aload_n 0, 1) := by decide +kernel
theorem dX12_must_13 : decode cX12_must 13 = .ok (.invokevirtual 334, 3) := by decide +kernel
theorem dX12_must_16 : decode cX12_must 16 = .ok (.goto 7, 3) := by decide +kernel
theorem dX12_must_19 : decode cX12_must 19 = .ok (.aload_n 0, 1) := by decide +kernel
theorem dX12_must_20 : decode cX12_must 20 = .ok (.invokevirtual 337, 3) := by decide +kernel
theorem dX12_must_23 : decode cX12_must 23 = .ok (.return_, 1) := by decide +kernel
theorem dX12_numeral_0 : decode cX12_numeral 0 = .ok (.aload_n 0, 1) := by decide +kernel
theorem dX12_numeral_1 : decode cX12_numeral 1 = .ok (.invokevirtual 330, 3) := by decide +kernel
theorem dX12_numeral_4 : decode cX12_numeral 4 = .ok (.ifCond .ne 5, 3) := by decide +kernel
theorem dX12_numeral_7 : decode cX12_numeral 7 = .ok (.iload_n 1, 1) := by decide +kernel
theorem dX12_numeral_8 : decode cX12_numeral 8 = .ok (.ireturn, 1) := by decide +kernel
theorem dX12_numeral_9 : decode cX12_numeral 9 = .ok (.aload_n 0, 1) := by decide +kernel
theorem dX12_numeral_10 : decode cX12_numeral 10 = .ok (.getfield 302, 3) := by decide +kernel
theorem dX12_numeral_13 : decode cX12_numeral 13 = .ok (.iconst 4, 1) := by decide +kernel
theorem dX12_numeral_14 : decode cX12_numeral 14 = .ok (.if_icmp .eq 7, 3) := by decide +kernel
theorem dX12_numeral_17 : decode cX12_numeral 17 = .ok (.aload_n 0, 1) := by decide +kernel
theorem dX12_numeral_18 : decode cX12_numeral 18 = .ok (.invokevirtual 337, 3) := by decide +kernel
theorem dX12_numeral_21 : decode cX12_numeral 21 = .ok (.aload_n 0, 1) := by decide +kernel
theorem dX12_numeral_22 : decode cX12_numeral 22 = .ok (.invokevirtual 330, 3) := by decide +kernel
theorem dX12_numeral_25 : decode cX12_numeral 25 = .ok (.ifCond .eq 28, 3) := by decide +kernel
theorem dX12_numeral_28 : decode cX12_numeral 28 = .ok (.aload_n 0, 1) := by decide +kernel
theorem dX12_numeral_29 : decode cX12_numeral 29 = .ok (.getfield 320, 3) := by decide +kernel
theorem dX12_numeral_32 : decode cX12_numeral 32 = .ok (.iload_n 1, 1) := by decide +kernel
theorem dX12_numeral_33 : decode cX12_numeral 33 = .ok (.if_icmp .lt 11, 3) := by decide +kernel
theorem dX12_numeral_36 : decode cX12_numeral 36 = .ok (.aload_n 0, 1) := by decide +kernel
theorem dX12_numeral_37 : decode cX12_numeral 37 = .ok (.getfield 320, 3) := by decide +kernel
theorem dX12_numeral_40 : decode cX12_numeral 40 = .ok (.iload_n 2, 1) := by decide +kernel
theorem dX12_numeral_41 : decode cX12_numeral 41 = .ok (.if_icmp .le 12, 3) := by decide +kernel
theorem dX12_numeral_44 : decode cX12_numeral 44 = .ok (.aload_n 0, 1) := by decide +kernel
theorem dX12_numeral_45 : decode cX12_numeral 45 = .ok (.iconst 4, 1) := by decide +kernel
theorem dX12_numeral_46 : decode cX12_numeral 46 = .ok (.aload_n 0, 1) := by decide +kernel
theorem dX12_numeral_47 : decode cX12_numeral 47 = .ok (.getfield 295, 3) := by decide +kernel
theorem dX12_numeral_50 : decode cX12_numeral 50 = .ok (.invokevirtual 326, 3) := by decide +kernel
theorem dX12_numeral_53 : decode cX12_numeral 53 = .ok (.aload_n 0, 1) := by decide +kernel
theorem dX12_numeral_54 : decode cX12_numeral 54 = .ok (.getfield 320, 3) := by decide +kernel
theorem dX12_numeral_57 : decode cX12_numeral 57 = .ok (.istore_n 3, 1) := by decide +kernel
theorem dX12_numeral_58 : decode cX12_numeral 58 = .ok (.aload_n 0, 1) := by decide +kernel
theorem dX12_numeral_59 : decode cX12_numeral 59 = .ok (.invokevirtual 330, 3) := by decide +kernel
theorem dX12_numeral_62 : decode cX12_numeral 62 = .ok (.ifCond .eq 7, 3) := by decide +kernel
theorem dX12_numeral_65 : decode cX12_numeral 65 = .ok (.aload_n 0, 1) := by decide +kernel
theorem dX12_numeral_66 : decode cX12_numeral 66 = .ok (.invokevirtual 334, 3) := by decide +kernel
theorem dX12_numeral_69 : decode cX12_numeral 69 = .ok (.aload_n 0, 1) := by decide +kernel
theorem dX12_numeral_70 : decode cX12_numeral 70 = .ok (.invokevirtual 330, 3) := by decide +kernel
theorem dX12_numeral_73 : decode cX12_numeral 73 = .ok (.ifCond .eq 7, 3) := by decide +kernel
theorem dX12_numeral_76 : decode cX12_numeral 76 = .ok (.iload_n 3, 1) := by decide +kernel
theorem dX12_numeral_77 : decode cX12_numeral 77 = .ok (.goto 4, 3) := by decide +kernel
theorem dX12_numeral_80 : decode cX12_numeral 80 = .ok (.iload_n 1, 1) := by decide +kernel
theorem dX12_numeral_81 : decode cX12_numeral 81 = .ok (.ireturn, 1) := by decide +kernel
theorem dX12_clearBank_0 : decode cX12_clearBank 0 = .ok (.aload_n 0, 1) := by decide +kernel
theorem dX12_clearBank_1 : decode cX12_clearBank 1 = .ok (.getfield 20, 3) := by decide +kernel
theorem dX12_clearBank_4 : decode cX12_clearBank 4 = .ok (.aload_n 0, 1) := by decide +kernel
theorem dX12_clearBank_5 : decode cX12_clearBank 5 = .ok (.getfield 340, 3) := by decide +kernel
theorem dX12_clearBank_8 : decode cX12_clearBank 8 = .ok (.iconst 0, 1) := by decide +kernel
theorem dX12_clearBank_9 : decode cX12_clearBank 9 = .ok (.iastore, 1) := by decide +kernel
theorem dX12_clearBank_10 : decode cX12_clearBank 10 = .ok (.aload_n 0, 1) := by decide +kernel
theorem dX12_clearBank_11 : decode cX12_clearBank 11 = .ok (.getfield 24, 3) := by decide +kernel
theorem dX12_clearBank_14 : decode cX12_clearBank 14 = .ok (.aload_n 0, 1) := by decide +kernel
theorem dX12_clearBank_15 : decode cX12_clearBank 15 = .ok (.getfield 340, 3) := by decide +kernel
theorem dX12_clearBank_18 : decode cX12_clearBank 18 = .ok (.iconst 0, 1) := by decide +kernel
theorem dX12_clearBank_19 : decode cX12_clearBank 19 = .ok (.iastore, 1) := by decide +kernel
theorem dX12_clearBank_20 : decode cX12_clearBank 20 = .ok (.aload_n 0, 1) := by decide +kernel
theorem dX12_clearBank_21 : decode cX12_clearBank 21 = .ok (.getfield 27, 3) := by decide +kernel
theorem dX12_clearBank_24 : decode cX12_clearBank 24 = .ok (.aload_n 0, 1) := by decide +kernel
theorem dX12_clearBank_25 : decode cX12_clearBank 25 = .ok (.getfield 340, 3) := by decide +kernel
theorem dX12_clearBank_28 : decode cX12_clearBank 28 = .ok (.iconst 0, 1) := by decide +kernel
theorem dX12_clearBank_29 : decode cX12_clearBank 29 = .ok (.iastore, 1) := by decide +kernel
theorem dX12_clearBank_30 : decode cX12_clearBank 30 = .ok (.aload_n 0, 1) := by decide +kernel
theorem dX12_clearBank_31 : decode cX12_clearBank 31 = .ok (.getfield 30, 3) := by decide +kernel
theorem dX12_clearBank_34 : decode cX12_clearBank 34 = .ok (.aload_n 0, 1) := by decide +kernel
theorem dX12_clearBank_35 : decode cX12_clearBank 35 = .ok (.getfield 340, 3) := by decide +kernel
theorem dX12_clearBank_38 : decode cX12_clearBank 38 = .ok (.iconst 0, 1) := by decide +kernel
theorem dX12_clearBank_39 : decode cX12_clearBank 39 = .ok (.iastore, 1) := by decide +kernel
theorem dX12_clearBank_40 : decode cX12_clearBank 40 = .ok (.aload_n 0, 1) := by decide +kernel
theorem dX12_clearBank_41 : decode cX12_clearBank 41 = .ok (.getfield 33, 3) := by decide +kernel
theorem dX12_clearBank_44 : decode cX12_clearBank 44 = .ok (.aload_n 0, 1) := by decide +kernel
theorem dX12_clearBank_45 : decode cX12_clearBank 45 = .ok (.getfield 340, 3) := by decide +kernel
theorem dX12_clearBank_48 : decode cX12_clearBank 48 = .ok (.iconst 0, 1) := by decide +kernel
theorem dX12_clearBank_49 : decode cX12_clearBank 49 = .ok (.iastore, 1) := by decide +kernel
theorem dX12_clearBank_50 : decode cX12_clearBank 50 = .ok (.aload_n 0, 1) := by decide +kernel
theorem dX12_clearBank_51 : decode cX12_clearBank 51 = .ok (.getfield 36, 3) := by decide +kernel
theorem dX12_clearBank_54 : decode cX12_clearBank 54 = .ok (.aload_n 0, 1) := by decide +kernel
theorem dX12_clearBank_55 : decode cX12_clearBank 55 = .ok (.getfield 340, 3) := by decide +kernel
theorem dX12_clearBank_58 : decode cX12_clearBank 58 = .ok (.iconst 0, 1) := by decide +kernel
theorem dX12_clearBank_59 : decode cX12_clearBank 59 = .ok (.iastore, 1) := by decide +kernel
theorem dX12_clearBank_60 : decode cX12_clearBank 60 = .ok (.aload_n 0, 1) := by decide +kernel
theorem dX12_clearBank_61 : decode cX12_clearBank 61 = .ok (.sipush 560, 3) := by decide +kernel
theorem dX12_clearBank_64 : decode cX12_clearBank 64 = .ok (.aload_n 0, 1) := by decide +kernel
theorem dX12_clearBank_65 : decode cX12_clearBank 65 = .ok (.getfield 340, 3) := by decide +kernel
theorem dX12_clearBank_68 : decode cX12_clearBank 68 = .ok (.imul, 1) := by decide +kernel
theorem dX12_clearBank_69 : decode cX12_clearBank 69 = .ok (.putfield 343, 3) := by decide +kernel
theorem dX12_clearBank_72 : decode cX12_clearBank 72 = .ok (.return_, 1) := by decide +kernel
theorem dX12_code_0 : decode cX12_code 0 = .ok (.aload_n 0, 1) := by decide +kernel
theorem dX12_code_1 : decode cX12_code 1 = .ok (.iconst 0, 1) := by decide +kernel
theorem dX12_code_2 : decode cX12_code 2 = .ok (.putfield 227, 3) := by decide +kernel
theorem dX12_code_5 : decode cX12_code 5 = .ok (.aload_n 0, 1) := by decide +kernel
theorem dX12_code_6 : decode cX12_code 6 = .ok (.iconst (-1), 1) := by decide +kernel
theorem dX12_code_7 : decode cX12_code 7 = .ok (.putfield 16, 3) := by decide +kernel
theorem dX12_code_10 : decode cX12_code 10 = .ok (.aload_n 0, 1) := by decide +kernel
theorem dX12_code_11 : decode cX12_code 11 = .ok (.aload_n 0, 1) := by decide +kernel
theorem dX12_code_12 : decode cX12_code 12 = .ok (.getfield 346, 3) := by decide +kernel
theorem dX12_code_15 : decode cX12_code 15 = .ok (.putfield 224, 3) := by decide +kernel
theorem dX12_code_18 : decode cX12_code 18 = .ok (.iconst 0, 1) := by decide +kernel
theorem dX12_code_19 : decode cX12_code 19 = .ok (.istore_n 1, 1) := by decide +kernel
theorem dX12_code_20 : decode cX12_code 20 = .ok (.iload_n 1, 1) := by decide +kernel
theorem dX12_code_21 : decode cX12_code 21 = .ok (.aload_n 0, 1) := by decide +kernel
theorem dX12_code_22 : decode cX12_code 22 = .ok (.getfield 224, 3) := by decide +kernel
theorem dX12_code_25 : decode cX12_code 25 = .ok (.if_icmp .ge 21, 3) := by decide +kernel
theorem dX12_code_28 : decode cX12_code 28 = .ok (.aload_n 0, 1) := by decide +kernel
theorem dX12_code_29 : decode cX12_code 29 = .ok (.getfield 13, 3) := by decide +kernel
theorem dX12_code_32 : decode cX12_code 32 = .ok (.iload_n 1, 1) := by decide +kernel
theorem dX12_code_33 : decode cX12_code 33 = .ok (.aload_n 0, 1) := by decide +kernel
theorem dX12_code_34 : decode cX12_code 34 = .ok (.getfield 7, 3) := by decide +kernel
theorem dX12_code_37 : decode cX12_code 37 = .ok (.iload_n 1, 1) := by decide +kernel
theorem dX12_code_38 : decode cX12_code 38 = .ok (.baload, 1) := by decide +kernel
theorem dX12_code_39 : decode cX12_code 39 = .ok (.bastore, 1) := by decide +kernel
theorem dX12_code_40 : decode cX12_code 40 = .ok (.iinc 1 1, 3) := by decide +kernel
theorem dX12_code_43 : decode cX12_code 43 = .ok (.goto (-23), 3) := by decide +kernel
theorem dX12_code_46 : decode cX12_code 46 = .ok (.aload_n 0, 1) := by decide +kernel
theorem dX12_code_47 : decode cX12_code 47 = .ok (.iconst 0, 1) := by decide +kernel
theorem dX12_code_48 : decode cX12_code 48 = .ok (.putfield 346, 3) := by decide +kernel
theorem dX12_code_51 : decode cX12_code 51 = .ok (.aload_n 0, 1) := by decide +kernel
theorem dX12_code_52 : decode cX12_code 52 = .ok (.iconst 0, 1) := by decide +kernel
theorem dX12_code_53 : decode cX12_code 53 = .ok (.putfield 292, 3) := by decide +kernel
theorem dX12_code_56 : decode cX12_code 56 = .ok (.aload_n 0, 1) := by decide +kernel
theorem dX12_code_57 : decode cX12_code 57 = .ok (.iconst 1, 1) := by decide +kernel
theorem dX12_code_58 : decode cX12_code 58 = .ok (.aload_n 0, 1) := by decide +kernel
theorem dX12_code_59 : decode cX12_code 59 = .ok (.getfield 349, 3) := by decide +kernel
theorem dX12_code_62 : decode cX12_code 62 = .ok (.isub, 1) := by decide +kernel
theorem dX12_code_63 : decode cX12_code 63 = .ok (.putfield 340, 3) := by decide +kernel
theorem dX12_code_66 : decode cX12_code 66 = .ok (.aload_n 0, 1) := by decide +kernel
theorem dX12_code_67 : decode cX12_code 67 = .ok (.invokevirtual 218, 3) := by decide +kernel
theorem dX12_code_70 : decode cX12_code 70 = .ok (.aload_n 0, 1) := by decide +kernel
theorem dX12_code_71 : decode cX12_code 71 = .ok (.invokevirtual 334, 3) := by decide +kernel
theorem dX12_code_74 : decode cX12_code 74 = .ok (.aload_n 0, 1) := by decide +kernel
theorem dX12_code_75 : decode cX12_code 75 = .ok (.invokevirtual 330, 3) := by decide +kernel
theorem dX12_code_78 : decode cX12_code 78 = .ok (.ifCond .eq 17, 3) := by decide +kernel
theorem dX12_code_81 : decode cX12_code 81 = .ok (.aload_n 0, 1) := by decide +kernel
theorem dX12_code_82 : decode cX12_code 82 = .ok (.getfield 302, 3) := by decide +kernel
theorem dX12_code_85 : decode cX12_code 85 = .ok (.ifCond .eq 10, 3) := by decide +kernel
theorem dX12_code_88 : decode cX12_code 88 = .ok (.aload_n 0, 1) := by decide +kernel
theorem dX12_code_89 : decode cX12_code 89 = .ok (.invokevirtual 352, 3) := by decide +kernel
theorem dX12_code_92 : decode cX12_code 92 = .ok (.goto (-18), 3) := by decide +kernel
theorem dX12_code_95 : decode cX12_code 95 = .ok (.aload_n 0, 1) := by decide +kernel
theorem dX12_code_96 : decode cX12_code 96 = .ok (.invokevirtual 330, 3) := by decide +kernel
theorem dX12_code_99 : decode cX12_code 99 = .ok (.ifCond .ne 5, 3) := by decide +kernel
theorem dX12_code_102 : decode cX12_code 102 = .ok (.iconst (-1), 1) := by decide +kernel
theorem dX12_code_103 : decode cX12_code 103 = .ok (.ireturn, 1) := by decide +kernel
theorem dX12_code_104 : decode cX12_code 104 = .ok (.aload_n 0, 1) := by decide +kernel
theorem dX12_code_105 : decode cX12_code 105 = .ok (.aload_n 0, 1) := by decide +kernel
theorem dX12_code_106 : decode cX12_code 106 = .ok (.getfield 340, 3) := by decide +kernel
theorem dX12_code_109 : decode cX12_code 109 = .ok (.putfield 349, 3) := by decide +kernel
theorem dX12_code_112 : decode cX12_code 112 = .ok (.aload_n 0, 1) := by decide +kernel
theorem dX12_code_113 : decode cX12_code 113 = .ok (.invokevirtual 221, 3) := by decide +kernel
theorem dX12_code_116 : decode cX12_code 116 = .ok (.aload_n 0, 1) := by decide +kernel
theorem dX12_code_117 : decode cX12_code 117 = .ok (.getfield 20, 3) := by decide +kernel
theorem dX12_code_120 : decode cX12_code 120 = .ok (.aload_n 0, 1) := by decide +kernel
theorem dX12_code_121 : decode cX12_code 121 = .ok (.getfield 349, 3) := by decide +kernel
theorem dX12_code_124 : decode cX12_code 124 = .ok (.iaload, 1) := by decide +kernel
theorem dX12_code_125 : decode cX12_code 125 = .ok (.ireturn, 1) := by decide +kernel
theorem dX12_isFull_0 : decode cX12_isFull 0 = .ok (.aload_n 0, 1) := by decide +kernel
theorem dX12_isFull_1 : decode cX12_isFull 1 = .ok (.ldc2_w 230, 3) := by decide +kernel
theorem dX12_isFull_4 : decode cX12_isFull 4 = .ok (.invokevirtual 355, 3) := by decide +kernel
theorem dX12_isFull_7 : decode cX12_isFull 7 = .ok (.ifCond .eq 23, 3) := by decide +kernel
theorem dX12_isFull_10 : decode cX12_isFull 10 = .ok (.aload_n 0, 1) := by decide +kernel
theorem dX12_isFull_11 : decode cX12_isFull 11 = .ok (.getfield 20, 3) := by decide +kernel
theorem dX12_isFull_14 : decode cX12_isFull 14 = .ok (.aload_n 0, 1) := by decide +kernel
theorem dX12_isFull_15 : decode cX12_isFull 15 = .ok (.getfield 340, 3) := by decide +kernel
theorem dX12_isFull_18 : decode cX12_isFull 18 = .ok (.iaload, 1) := by decide +kernel
theorem dX12_isFull_19 : decode cX12_isFull 19 = .ok (.bipush 6, 2) := by decide +kernel
theorem dX12_isFull_21 : decode cX12_isFull 21 = .ok (.if_icmp .ne 7, 3) := by decide +kernel
theorem dX12_isFull_24 : decode cX12_isFull 24 = .ok (.iconst 1, 1) := by decide +kernel
theorem dX12_isFull_25 : decode cX12_isFull 25 = .ok (.goto 4, 3) := by decide +kernel
theorem dX12_isFull_28 : decode cX12_isFull 28 = .ok (.iconst 0, 1) := by decide +kernel
theorem dX12_isFull_29 : decode cX12_isFull 29 = .ok (.ireturn, 1) := by decide +kernel
theorem dX12_isFull_30 : decode cX12_isFull 30 = .ok (.aload_n 0, 1) := by decide +kernel
theorem dX12_isFull_31 : decode cX12_isFull 31 = .ok (.ldc2_w 242, 3) := by decide +kernel
theorem dX12_isFull_34 : decode cX12_isFull 34 = .ok (.invokevirtual 355, 3) := by decide +kernel
theorem dX12_isFull_37 : decode cX12_isFull 37 = .ok (.ifCond .eq 17, 3) := by decide +kernel
theorem dX12_isFull_40 : decode cX12_isFull 40 = .ok (.aload_n 0, 1) := by decide +kernel
theorem dX12_isFull_41 : decode cX12_isFull 41 = .ok (.getfield 36, 3) := by decide +kernel
theorem dX12_isFull_44 : decode cX12_isFull 44 = .ok (.aload_n 0, 1) := by decide +kernel
theorem dX12_isFull_45 : decode cX12_isFull 45 = .ok (.getfield 340, 3) := by decide +kernel
theorem dX12_isFull_48 : decode cX12_isFull 48 = .ok (.iaload, 1) := by decide +kernel
theorem dX12_isFull_49 : decode cX12_isFull 49 = .ok (.iconst 0, 1) := by decide +kernel
theorem dX12_isFull_50 : decode cX12_isFull 50 = .ok (.invokestatic 358, 3) := by decide +kernel
theorem dX12_isFull_53 : decode cX12_isFull 53 = .ok (.ireturn, 1) := by decide +kernel
theorem dX12_isFull_54 : decode cX12_isFull 54 = .ok (.aload_n 0, 1) := by decide +kernel
theorem dX12_isFull_55 : decode cX12_isFull 55 = .ok (.ldc2_w 244, 3) := by decide +kernel
theorem dX12_isFull_58 : decode cX12_isFull 58 = .ok (.invokevirtual 355, 3) := by decide +kernel
theorem dX12_isFull_61 : decode cX12_isFull 61 = .ok (.ifCond .eq 17, 3) := by decide +kernel
theorem dX12_isFull_64 : decode cX12_isFull 64 = .ok (.aload_n 0, 1) := by decide +kernel
theorem dX12_isFull_65 : decode cX12_isFull 65 = .ok (.getfield 36, 3) := by decide +kernel
theorem dX12_isFull_68 : decode cX12_isFull 68 = .ok (.aload_n 0, 1) := by decide +kernel
theorem dX12_isFull_69 : decode cX12_isFull 69 = .ok (.getfield 340, 3) := by decide +kernel
theorem dX12_isFull_72 : decode cX12_isFull 72 = .ok (.iaload, 1) := by decide +kernel
theorem dX12_isFull_73 : decode cX12_isFull 73 = .ok (.iconst 1, 1) := by decide +kernel
theorem dX12_isFull_74 : decode cX12_isFull 74 = .ok (.invokestatic 358, 3) := by decide +kernel
theorem dX12_isFull_77 : decode cX12_isFull 77 = .ok (.ireturn, 1) := by decide +kernel
theorem dX12_isFull_78 : decode cX12_isFull 78 = .ok (.aload_n 0, 1) := by decide +kernel
theorem dX12_isFull_79 : decode cX12_isFull 79 = .ok (.ldc2_w 246, 3) := by decide +kernel
theorem dX12_isFull_82 : decode cX12_isFull 82 = .ok (.invokevirtual 355, 3) := by decide +kernel
theorem dX12_isFull_85 : decode cX12_isFull 85 = .ok (.ifCond .eq 19, 3) := by decide +kernel
theorem dX12_isFull_88 : decode cX12_isFull 88 = .ok (.aload_n 0, 1) := by decide +kernel
theorem dX12_isFull_89 : decode cX12_isFull 89 = .ok (.getfield 36, 3) := by decide +kernel
theorem dX12_isFull_92 : decode cX12_isFull 92 = .ok (.aload_n 0, 1) := by decide +kernel
theorem dX12_isFull_93 : decode cX12_isFull 93 = .ok (.getfield 340, 3) := by decide +kernel
theorem dX12_isFull_96 : decode cX12_isFull 96 = .ok (.iaload, 1) := by decide +kernel
theorem dX12_isFull_97 : decode cX12_isFull 97 = .ok (.iconst 2, 1) := by decide +kernel
theorem dX12_isFull_98 : decode cX12_isFull 98 = .ok (.invokestatic 358, 3) := by decide +kernel
theorem dX12_isFull_101 : decode cX12_isFull 101 = .ok (.ifCond .eq 7, 3) := by decide +kernel
theorem dX12_isFull_104 : decode cX12_isFull 104 = .ok (.iconst 1, 1) := by decide +kernel
theorem dX12_isFull_105 : decode cX12_isFull 105 = .ok (.goto 4, 3) := by decide +kernel
theorem dX12_isFull_108 : decode cX12_isFull 108 = .ok (.iconst 0, 1) := by decide +kernel
theorem dX12_isFull_109 : decode cX12_isFull 109 = .ok (.ireturn, 1) := by decide +kernel
theorem dX12_once_0 : decode cX12_once 0 = .ok (.aload_n 0, 1) := by decide +kernel
theorem dX12_once_1 : decode cX12_once 1 = .ok (.getfield 36, 3) := by decide +kernel
theorem dX12_once_4 : decode cX12_once 4 = .ok (.aload_n 0, 1) := by decide +kernel
theorem dX12_once_5 : decode cX12_once 5 = .ok (.getfield 340, 3) := by decide +kernel
theorem dX12_once_8 : decode cX12_once 8 = .ok (.dup2, 1) := by decide +kernel
theorem dX12_once_9 : decode cX12_once 9 = .ok (.iaload, 1) := by decide +kernel
theorem dX12_once_10 : decode cX12_once 10 = .ok (.iconst 1, 1) := by decide +kernel
theorem dX12_once_11 : decode cX12_once 11 = .ok (.iload_n 1, 1) := by decide +kernel
theorem dX12_once_12 : decode cX12_once 12 = .ok (.ishl, 1) := by decide +kernel
theorem dX12_once_13 : decode cX12_once 13 = .ok (.ior, 1) := by decide +kernel
theorem dX12_once_14 : decode cX12_once 14 = .ok (.iastore, 1) := by decide +kernel
theorem dX12_once_15 : decode cX12_once 15 = .ok (.aload_n 0, 1) := by decide +kernel
theorem dX12_once_16 : decode cX12_once 16 = .ok (.iload_n 2, 1) := by decide +kernel
theorem dX12_once_17 : decode cX12_once 17 = .ok (.iload_n 3, 1) := by decide +kernel
theorem dX12_once_18 : decode cX12_once 18 = .ok (.invokevirtual 362, 3) := by decide +kernel
theorem dX12_once_21 : decode cX12_once 21 = .ok (.ireturn, 1) := by decide +kernel
theorem dX12_readLine_0 : decode cX12_readLine 0 = .ok (.aload_n 0, 1) := by decide +kernel
theorem dX12_readLine_1 : decode cX12_readLine 1 = .ok (.getfield 309, 3) := by decide +kernel
theorem dX12_readLine_4 : decode cX12_readLine 4 = .ok (.lstore_n 1, 1) := by decide +kernel
theorem dX12_readLine_5 : decode cX12_readLine 5 = .ok (.aload_n 0, 1) := by decide +kernel
theorem dX12_readLine_6 : decode cX12_readLine 6 = .ok (.getfield 302, 3) := by decide +kernel
theorem dX12_readLine_9 : decode cX12_readLine 9 = .ok (.iconst 3, 1) := by decide +kernel
theorem dX12_readLine_10 : decode cX12_readLine 10 = .ok (.if_icmp .ne 10, 3) := by decide +kernel
theorem dX12_readLine_13 : decode cX12_readLine 13 = .ok (.aload_n 0, 1) := by decide +kernel
theorem dX12_readLine_14 : decode cX12_readLine 14 = .ok (.invokevirtual 366, 3) := by decide +kernel
theorem dX12_readLine_17 : decode cX12_readLine 17 = .ok (.ifCond .eq 7, 3) := by decide +kernel
theorem dX12_readLine_20 : decode cX12_readLine 20 = .ok (.aload_n 0, 1) := by decide +kernel
theorem dX12_readLine_21 : decode cX12_readLine 21 = .ok (.invokevirtual 337, 3) := by decide +kernel
theorem dX12_readLine_24 : decode cX12_readLine 24 = .ok (.aload_n 0, 1) := by decide +kernel
theorem dX12_readLine_25 : decode cX12_readLine 25 = .ok (.invokevirtual 330, 3) := by decide +kernel
theorem dX12_readLine_28 : decode cX12_readLine 28 = .ok (.ifCond .ne 4, 3) := by decide +kernel
theorem dX12_readLine_31 : decode cX12_readLine 31 = .ok (.return_, 1) := by decide +kernel
theorem dX12_readLine_32 : decode cX12_readLine 32 = .ok (.aload_n 0, 1) := by decide +kernel
theorem dX12_readLine_33 : decode cX12_readLine 33 = .ok (.invokevirtual 334, 3) := by decide +kernel
theorem dX12_readLine_36 : decode cX12_readLine 36 = .ok (.lload_n 1, 1) := by decide +kernel
theorem dX12_readLine_37 : decode cX12_readLine 37 = .ok (.ldc2_w 230, 3) := by decide +kernel
theorem dX12_readLine_40 : decode cX12_readLine 40 = .ok (.lcmp, 1) := by decide +kernel
theorem dX12_readLine_41 : decode cX12_readLine 41 = .ok (.ifCond .ne 8, 3) := by decide +kernel
theorem dX12_readLine_44 : decode cX12_readLine 44 = .ok (.aload_n 0, 1) := by decide +kernel
theorem dX12_readLine_45 : decode cX12_readLine 45 = .ok (.invokevirtual 369, 3) := by decide +kernel
theorem dX12_readLine_48 : decode cX12_readLine 48 = .ok (.return_, 1) := by decide +kernel
theorem dX12_readLine_49 : decode cX12_readLine 49 = .ok (.lload_n 1, 1) := by decide +kernel
theorem dX12_readLine_50 : decode cX12_readLine 50 = .ok (.ldc2_w 242, 3) := by decide +kernel
theorem dX12_readLine_53 : decode cX12_readLine 53 = .ok (.lcmp, 1) := by decide +kernel
theorem dX12_readLine_54 : decode cX12_readLine 54 = .ok (.ifCond .ne 7, 3) := by decide +kernel
theorem dX12_readLine_57 : decode cX12_readLine 57 = .ok (.aload_n 0, 1) := by decide +kernel
theorem dX12_readLine_58 : decode cX12_readLine 58 = .ok (.invokevirtual 372, 3) := by decide +kernel
theorem dX12_readLine_61 : decode cX12_readLine 61 = .ok (.lload_n 1, 1) := by decide +kernel
theorem dX12_readLine_62 : decode cX12_readLine 62 = .ok (.ldc2_w 244, 3) := by decide +kernel
theorem dX12_readLine_65 : decode cX12_readLine 65 = .ok (.lcmp, 1) := by decide +kernel
theorem dX12_readLine_66 : decode cX12_readLine 66 = .ok (.ifCond .ne 20, 3) := by decide +kernel
theorem dX12_readLine_69 : decode cX12_readLine 69 = .ok (.aload_n 0, 1) := by decide +kernel
theorem dX12_readLine_70 : decode cX12_readLine 70 = .ok (.getfield 30, 3) := by decide +kernel
theorem dX12_readLine_73 : decode cX12_readLine 73 = .ok (.aload_n 0, 1) := by decide +kernel
theorem dX12_readLine_74 : decode cX12_readLine 74 = .ok (.getfield 340, 3) := by decide +kernel
theorem dX12_readLine_77 : decode cX12_readLine 77 = .ok (.aload_n 0, 1) := by decide +kernel
theorem dX12_readLine_78 : decode cX12_readLine 78 = .ok (.iconst 1, 1) := by decide +kernel
theorem dX12_readLine_79 : decode cX12_readLine 79 = .ok (.iconst 0, 1) := by decide +kernel
theorem dX12_readLine_80 : decode cX12_readLine 80 = .ok (.bipush 100, 2) := by decide +kernel
theorem dX12_readLine_82 : decode cX12_readLine 82 = .ok (.invokevirtual 375, 3) := by decide +kernel
theorem dX12_readLine_85 : decode cX12_readLine 85 = .ok (.iastore, 1) := by decide +kernel
theorem dX12_readLine_86 : decode cX12_readLine 86 = .ok (.lload_n 1, 1) := by decide +kernel
theorem dX12_readLine_87 : decode cX12_readLine 87 = .ok (.ldc2_w 246, 3) := by decide +kernel
theorem dX12_readLine_90 : decode cX12_readLine 90 = .ok (.lcmp, 1) := by decide +kernel
theorem dX12_readLine_91 : decode cX12_readLine 91 = .ok (.ifCond .ne 21, 3) := by decide +kernel
theorem dX12_readLine_94 : decode cX12_readLine 94 = .ok (.aload_n 0, 1) := by decide +kernel
theorem dX12_readLine_95 : decode cX12_readLine 95 = .ok (.getfield 33, 3) := by decide +kernel
theorem dX12_readLine_98 : decode cX12_readLine 98 = .ok (.aload_n 0, 1) := by decide +kernel
theorem dX12_readLine_99 : decode cX12_readLine 99 = .ok (.getfield 340, 3) := by decide +kernel
theorem dX12_readLine_102 : decode cX12_readLine 102 = .ok (.aload_n 0, 1) := by decide +kernel
theorem dX12_readLine_103 : decode cX12_readLine 103 = .ok (.iconst 2, 1) := by decide +kernel
theorem dX12_readLine_104 : decode cX12_readLine 104 = .ok (.iconst 0, 1) := by decide +kernel
theorem dX12_readLine_105 : decode cX12_readLine 105 = .ok (.sipush 999, 3) := by decide +kernel
theorem dX12_readLine_108 : decode cX12_readLine 108 = .ok (.invokevirtual 375, 3) := by decide +kernel
theorem dX12_readLine_111 : decode cX12_readLine 111 = .ok (.iastore, 1) := by decide +kernel
theorem dX12_readLine_112 : decode cX12_readLine 112 = .ok (.aload_n 0, 1) := by decide +kernel
theorem dX12_readLine_113 : decode cX12_readLine 113 = .ok (.aload_n 0, 1) := by decide +kernel
theorem dX12_readLine_114 : decode cX12_readLine 114 = .ok (.bipush 59, 2) := by decide +kernel
theorem dX12_readLine_116 : decode cX12_readLine 116 = .ok (.invokevirtual 379, 3) := by decide +kernel
theorem dX12_readLine_119 : decode cX12_readLine 119 = .ok (.invokevirtual 382, 3) := by decide +kernel
theorem dX12_readLine_122 : decode cX12_readLine 122 = .ok (.return_, 1) := by decide +kernel
theorem dX12_here_0 : decode cX12_here 0 = .ok (.iconst 0, 1) := by decide +kernel
theorem dX12_here_1 : decode cX12_here 1 = .ok (.istore_n 1, 1) := by decide +kernel
theorem dX12_here_2 : decode cX12_here 2 = .ok (.iload_n 1, 1) := by decide +kernel
theorem dX12_here_3 : decode cX12_here 3 = .ok (.aload_n 0, 1) := by decide +kernel
theorem dX12_here_4 : decode cX12_here 4 = .ok (.getfield 20, 3) := by decide +kernel
theorem dX12_here_7 : decode cX12_here 7 = .ok (.aload_n 0, 1) := by decide +kernel
theorem dX12_here_8 : decode cX12_here 8 = .ok (.getfield 340, 3) := by decide +kernel
theorem dX12_here_11 : decode cX12_here 11 = .ok (.iaload, 1) := by decide +kernel
theorem dX12_here_12 : decode cX12_here 12 = .ok (.if_icmp .ge 41, 3) := by decide +kernel
theorem dX12_here_15 : decode cX12_here 15 = .ok (.aload_n 0, 1) := by decide +kernel
theorem dX12_here_16 : decode cX12_here 16 = .ok (.getfield 302, 3) := by decide +kernel
theorem dX12_here_19 : decode cX12_here 19 = .ok (.iconst 2, 1) := by decide +kernel
theorem dX12_here_20 : decode cX12_here 20 = .ok (.if_icmp .ne 27, 3) := by decide +kernel
theorem dX12_here_23 : decode cX12_here 23 = .ok (.aload_n 0, 1) := by decide +kernel
theorem dX12_here_24 : decode cX12_here 24 = .ok (.getfield 78, 3) := by decide +kernel
theorem dX12_here_27 : decode cX12_here 27 = .ok (.bipush 6, 2) := by decide +kernel
theorem dX12_here_29 : decode cX12_here 29 = .ok (.aload_n 0, 1) := by decide +kernel
theorem dX12_here_30 : decode cX12_here 30 = .ok (.getfield 340, 3) := by decide +kernel
theorem dX12_here_33 : decode cX12_here 33 = .ok (.imul, 1) := by decide +kernel
theorem dX12_here_34 : decode cX12_here 34 = .ok (.iload_n 1, 1) := by decide +kernel
theorem dX12_here_35 : decode cX12_here 35 = .ok (.iadd, 1) := by decide +kernel
theorem dX12_here_36 : decode cX12_here 36 = .ok (.laload, 1) := by decide +kernel
theorem dX12_here_37 : decode cX12_here 37 = .ok (.aload_n 0, 1) := by decide +kernel
theorem dX12_here_38 : decode cX12_here 38 = .ok (.getfield 309, 3) := by decide +kernel
theorem dX12_here_41 : decode cX12_here 41 = .ok (.lcmp, 1) := by decide +kernel
theorem dX12_here_42 : decode cX12_here 42 = .ok (.ifCond .ne 5, 3) := by decide +kernel
theorem dX12_here_45 : decode cX12_here 45 = .ok (.iload_n 1, 1) := by decide +kernel
theorem dX12_here_46 : decode cX12_here 46 = .ok (.ireturn, 1) := by decide +kernel
theorem dX12_here_47 : decode cX12_here 47 = .ok (.iinc 1 1, 3) := by decide +kernel
theorem dX12_here_50 : decode cX12_here 50 = .ok (.goto (-48), 3) := by decide +kernel
theorem dX12_here_53 : decode cX12_here 53 = .ok (.iconst (-1), 1) := by decide +kernel
theorem dX12_here_54 : decode cX12_here 54 = .ok (.ireturn, 1) := by decide +kernel
theorem dX12_readWord_0 : decode cX12_readWord 0 = .ok (.bipush 6, 2) := by decide +kernel
theorem dX12_readWord_2 : decode cX12_readWord 2 = .ok (.aload_n 0, 1) := by decide +kernel
theorem dX12_readWord_3 : decode cX12_readWord 3 = .ok (.getfield 340, 3) := by decide +kernel
theorem dX12_readWord_6 : decode cX12_readWord 6 = .ok (.imul, 1) := by decide +kernel
theorem dX12_readWord_7 : decode cX12_readWord 7 = .ok (.aload_n 0, 1) := by decide +kernel
theorem dX12_readWord_8 : decode cX12_readWord 8 = .ok (.getfield 20, 3) := by decide +kernel
theorem dX12_readWord_11 : decode cX12_readWord 11 = .ok (.aload_n 0, 1) := by decide +kernel
theorem dX12_readWord_12 : decode cX12_readWord 12 = .ok (.getfield 340, 3) := by decide +kernel
theorem dX12_readWord_15 : decode cX12_readWord 15 = .ok (.iaload, 1) := by decide +kernel
theorem dX12_readWord_16 : decode cX12_readWord 16 = .ok (.iadd, 1) := by decide +kernel
theorem dX12_readWord_17 : decode cX12_readWord 17 = .ok (.istore_n 1, 1) := by decide +kernel
theorem dX12_readWord_18 : decode cX12_readWord 18 = .ok (.aload_n 0, 1) := by decide +kernel
theorem dX12_readWord_19 : decode cX12_readWord 19 = .ok (.invokevirtual 386, 3) := by decide +kernel
theorem dX12_readWord_22 : decode cX12_readWord 22 = .ok (.ifCond .lt 12, 3) := by decide +kernel
theorem dX12_readWord_25 : decode cX12_readWord 25 = .ok (.aload_n 0, 1) := by decide +kernel
theorem dX12_readWord_26 : decode cX12_readWord 26 = .ok (.iconst 3, 1) := by decide +kernel
theorem dX12_readWord_27 : decode cX12_readWord 27 = .ok (.aload_n 0, 1) := by decide +kernel
theorem dX12_readWord_28 : decode cX12_readWord 28 = .ok (.getfield 295, 3) := by decide +kernel
theorem dX12_readWord_31 : decode cX12_readWord 31 = .ok (.invokevirtual 326, 3) := by decide +kernel
theorem dX12_readWord_34 : decode cX12_readWord 34 = .ok (.aload_n 0, 1) := by decide +kernel
theorem dX12_readWord_35 : decode cX12_readWord 35 = .ok (.getfield 309, 3) := by decide +kernel
theorem dX12_readWord_38 : decode cX12_readWord 38 = .ok (.lstore_n 2, 1) := by decide +kernel
theorem dX12_readWord_39 : decode cX12_readWord 39 = .ok (.aload_n 0, 1) := by decide +kernel
theorem dX12_readWord_40 : decode cX12_readWord 40 = .ok (.aload_n 0, 1) := by decide +kernel
theorem dX12_readWord_41 : decode cX12_readWord 41 = .ok (.getfield 302, 3) := by decide +kernel
theorem dX12_readWord_44 : decode cX12_readWord 44 = .ok (.iconst 2, 1) := by decide +kernel
theorem dX12_readWord_45 : decode cX12_readWord 45 = .ok (.if_icmp .ne 7, 3) := by decide +kernel
theorem dX12_readWord_48 : decode cX12_readWord 48 = .ok (.iconst 1, 1) := by decide +kernel
theorem dX12_readWord_49 : decode cX12_readWord 49 = .ok (.goto 4, 3) := by decide +kernel
theorem dX12_readWord_52 : decode cX12_readWord 52 = .ok (.iconst 0, 1) := by decide +kernel
theorem dX12_readWord_53 : decode cX12_readWord 53 = .ok (.invokevirtual 382, 3) := by decide +kernel
theorem dX12_readWord_56 : decode cX12_readWord 56 = .ok (.aload_n 0, 1) := by decide +kernel
theorem dX12_readWord_57 : decode cX12_readWord 57 = .ok (.aload_n 0, 1) := by decide +kernel
theorem dX12_readWord_58 : decode cX12_readWord 58 = .ok (.bipush 61, 2) := by decide +kernel
theorem dX12_readWord_60 : decode cX12_readWord 60 = .ok (.invokevirtual 379, 3) := by decide +kernel
theorem dX12_readWord_63 : decode cX12_readWord 63 = .ok (.invokevirtual 382, 3) := by decide +kernel
theorem dX12_readWord_66 : decode cX12_readWord 66 = .ok (.aload_n 0, 1) := by decide +kernel
theorem dX12_readWord_67 : decode cX12_readWord 67 = .ok (.getfield 39, 3) := by decide +kernel
theorem dX12_readWord_70 : decode cX12_readWord 70 = .ok (.iload_n 1, 1) := by decide +kernel
theorem dX12_readWord_71 : decode cX12_readWord 71 = .ok (.aload_n 0, 1) := by decide +kernel
theorem dX12_readWord_72 : decode cX12_readWord 72 = .ok (.getfield 24, 3) := by decide +kernel
theorem dX12_readWord_75 : decode cX12_readWord 75 = .ok (.aload_n 0, 1) := by decide +kernel
theorem dX12_readWord_76 : decode cX12_readWord 76 = .ok (.getfield 340, 3) := by decide +kernel
theorem dX12_readWord_79 : decode cX12_readWord 79 = .ok (.iaload, 1) := by decide +kernel
theorem dX12_readWord_80 : decode cX12_readWord 80 = .ok (.iastore, 1) := by decide +kernel
theorem dX12_readWord_81 : decode cX12_readWord 81 = .ok (.aload_n 0, 1) := by decide +kernel
theorem dX12_readWord_82 : decode cX12_readWord 82 = .ok (.getfield 42, 3) := by decide +kernel
theorem dX12_readWord_85 : decode cX12_readWord 85 = .ok (.iload_n 1, 1) := by decide +kernel
theorem dX12_readWord_86 : decode cX12_readWord 86 = .ok (.iconst 0, 1) := by decide +kernel
theorem dX12_readWord_87 : decode cX12_readWord 87 = .ok (.iastore, 1) := by decide +kernel
theorem dX12_readWord_88 : decode cX12_readWord 88 = .ok (.aload_n 0, 1) := by decide +kernel
theorem dX12_readWord_89 : decode cX12_readWord 89 = .ok (.aload_n 0, 1) := by decide +kernel
theorem dX12_readWord_90 : decode cX12_readWord 90 = .ok (.getfield 340, 3) := by decide +kernel
theorem dX12_readWord_93 : decode cX12_readWord 93 = .ok (.invokevirtual 390, 3) := by decide +kernel
theorem dX12_readWord_96 : decode cX12_readWord 96 = .ok (.aload_n 0, 1) := by decide +kernel
theorem dX12_readWord_97 : decode cX12_readWord 97 = .ok (.invokevirtual 330, 3) := by decide +kernel
theorem dX12_readWord_100 : decode cX12_readWord 100 = .ok (.ifCond .eq 20, 3) := by decide +kernel
theorem dX12_readWord_103 : decode cX12_readWord 103 = .ok (.aload_n 0, 1) := by decide +kernel
theorem dX12_readWord_104 : decode cX12_readWord 104 = .ok (.bipush 59, 2) := by decide +kernel
theorem dX12_readWord_106 : decode cX12_readWord 106 = .ok (.invokevirtual 379, 3) := by decide +kernel
theorem dX12_readWord_109 : decode cX12_readWord 109 = .ok (.ifCond .ne 11, 3) := by decide +kernel
theorem dX12_readWord_112 : decode cX12_readWord 112 = .ok (.aload_n 0, 1) := by decide +kernel
theorem dX12_readWord_113 : decode cX12_readWord 113 = .ok (.iload_n 1, 1) := by decide +kernel
theorem dX12_readWord_114 : decode cX12_readWord 114 = .ok (.invokevirtual 394, 3) := by decide +kernel
theorem dX12_readWord_117 : decode cX12_readWord 117 = .ok (.goto (-21), 3) := by decide +kernel
theorem dX12_readWord_120 : decode cX12_readWord 120 = .ok (.aload_n 0, 1) := by decide +kernel
theorem dX12_readWord_121 : decode cX12_readWord 121 = .ok (.invokevirtual 330, 3) := by decide +kernel
theorem dX12_readWord_124 : decode cX12_readWord 124 = .ok (.ifCond .eq 14, 3) := by decide +kernel
theorem dX12_readWord_127 : decode cX12_readWord 127 = .ok (.aload_n 0, 1) := by decide +kernel
theorem dX12_readWord_128 : decode cX12_readWord 128 = .ok (.getfield 397, 3) := by decide +kernel
theorem dX12_readWord_131 : decode cX12_readWord 131 = .ok (.ifCond .le 7, 3) := by decide +kernel
theorem dX12_readWord_134 : decode cX12_readWord 134 = .ok (.aload_n 0, 1) := by decide +kernel
theorem dX12_readWord_135 : decode cX12_readWord 135 = .ok (.invokevirtual 337, 3) := by decide +kernel
theorem dX12_readWord_138 : decode cX12_readWord 138 = .ok (.aload_n 0, 1) := by decide +kernel
theorem dX12_readWord_139 : decode cX12_readWord 139 = .ok (.invokevirtual 330, 3) := by decide +kernel
theorem dX12_readWord_142 : decode cX12_readWord 142 = .ok (.ifCond .eq 32, 3) := by decide +kernel
theorem dX12_readWord_145 : decode cX12_readWord 145 = .ok (.aload_n 0, 1) := by decide +kernel
theorem dX12_readWord_146 : decode cX12_readWord 146 = .ok (.getfield 400, 3) := by decide +kernel
theorem dX12_readWord_149 : decode cX12_readWord 149 = .ok (.ifCond .gt 15, 3) := by decide +kernel
theorem dX12_readWord_152 : decode cX12_readWord 152 = .ok (.aload_n 0, 1) := by decide +kernel
theorem dX12_readWord_153 : decode cX12_readWord 153 = .ok (.getfield 118, 3) := by decide +kernel
theorem dX12_readWord_156 : decode cX12_readWord 156 = .ok (.iconst 0, 1) := by decide +kernel
theorem dX12_readWord_157 : decode cX12_readWord 157 = .ok (.iaload, 1) := by decide +kernel
theorem dX12_readWord_158 : decode cX12_readWord 158 = .ok (.sipush 2000, 3) := by decide +kernel
theorem dX12_readWord_161 : decode cX12_readWord 161 = .ok (.if_icmp .le 13, 3) := by decide +kernel
theorem dX12_readWord_164 : decode cX12_readWord 164 = .ok (.aload_n 0, 1) := by decide +kernel
theorem dX12_readWord_165 : decode cX12_readWord 165 = .ok (.bipush 7, 2) := by decide +kernel
theorem dX12_readWord_167 : decode cX12_readWord 167 = .ok (.aload_n 0, 1) := by decide +kernel
theorem dX12_readWord_168 : decode cX12_readWord 168 = .ok (.getfield 295, 3) := by decide +kernel
theorem dX12_readWord_171 : decode cX12_readWord 171 = .ok (.invokevirtual 326, 3) := by decide +kernel
theorem dX12_readWord_174 : decode cX12_readWord 174 = .ok (.aload_n 0, 1) := by decide +kernel
theorem dX12_readWord_175 : decode cX12_readWord 175 = .ok (.aload_n 0, 1) := by decide +kernel
theorem dX12_readWord_176 : decode cX12_readWord 176 = .ok (.bipush 59, 2) := by decide +kernel
theorem dX12_readWord_178 : decode cX12_readWord 178 = .ok (.invokevirtual 379, 3) := by decide +kernel
theorem dX12_readWord_181 : decode cX12_readWord 181 = .ok (.invokevirtual 382, 3) := by decide +kernel
theorem dX12_readWord_184 : decode cX12_readWord 184 = .ok (.aload_n 0, 1) := by decide +kernel
theorem dX12_readWord_185 : decode cX12_readWord 185 = .ok (.getfield 78, 3) := by decide +kernel
theorem dX12_readWord_188 : decode cX12_readWord 188 = .ok (.iload_n 1, 1) := by decide +kernel
theorem dX12_readWord_189 : decode cX12_readWord 189 = .ok (.lload_n 2, 1) := by decide +kernel
theorem dX12_readWord_190 : decode cX12_readWord 190 = .ok (.lastore, 1) := by decide +kernel
theorem dX12_readWord_191 : decode cX12_readWord 191 = .ok (.aload_n 0, 1) := by decide +kernel
theorem dX12_readWord_192 : decode cX12_readWord 192 = .ok (.getfield 45, 3) := by decide +kernel
theorem dX12_readWord_195 : decode cX12_readWord 195 = .ok (.iload_n 1, 1) := by decide +kernel
theorem dX12_readWord_196 : decode cX12_readWord 196 = .ok (.aload_n 0, 1) := by decide +kernel
theorem dX12_readWord_197 : decode cX12_readWord 197 = .ok (.getfield 403, 3) := by decide +kernel
theorem dX12_readWord_200 : decode cX12_readWord 200 = .ok (.iastore, 1) := by decide +kernel
theorem dX12_readWord_201 : decode cX12_readWord 201 = .ok (.aload_n 0, 1) := by decide +kernel
theorem dX12_readWord_202 : decode cX12_readWord 202 = .ok (.getfield 48, 3) := by decide +kernel
theorem dX12_readWord_205 : decode cX12_readWord 205 = .ok (.iload_n 1, 1) := by decide +kernel
theorem dX12_readWord_206 : decode cX12_readWord 206 = .ok (.aload_n 0, 1) := by decide +kernel
theorem dX12_readWord_207 : decode cX12_readWord 207 = .ok (.getfield 406, 3) := by decide +kernel
theorem dX12_readWord_210 : decode cX12_readWord 210 = .ok (.iastore, 1) := by decide +kernel
theorem dX12_readWord_211 : decode cX12_readWord 211 = .ok (.aload_n 0, 1) := by decide +kernel
theorem dX12_readWord_212 : decode cX12_readWord 212 = .ok (.getfield 51, 3) := by decide +kernel
theorem dX12_readWord_215 : decode cX12_readWord 215 = .ok (.iload_n 1, 1) := by decide +kernel
theorem dX12_readWord_216 : decode cX12_readWord 216 = .ok (.aload_n 0, 1) := by decide +kernel
theorem dX12_readWord_217 : decode cX12_readWord 217 = .ok (.getfield 409, 3) := by decide +kernel
theorem dX12_readWord_220 : decode cX12_readWord 220 = .ok (.iastore, 1) := by decide +kernel
theorem dX12_readWord_221 : decode cX12_readWord 221 = .ok (.aload_n 0, 1) := by decide +kernel
theorem dX12_readWord_222 : decode cX12_readWord 222 = .ok (.getfield 54, 3) := by decide +kernel
theorem dX12_readWord_225 : decode cX12_readWord 225 = .ok (.iload_n 1, 1) := by decide +kernel
theorem dX12_readWord_226 : decode cX12_readWord 226 = .ok (.aload_n 0, 1) := by decide +kernel
theorem dX12_readWord_227 : decode cX12_readWord 227 = .ok (.getfield 412, 3) := by decide +kernel
theorem dX12_readWord_230 : decode cX12_readWord 230 = .ok (.iastore, 1) := by decide +kernel
theorem dX12_readWord_231 : decode cX12_readWord 231 = .ok (.aload_n 0, 1) := by decide +kernel
theorem dX12_readWord_232 : decode cX12_readWord 232 = .ok (.getfield 57, 3) := by decide +kernel
theorem dX12_readWord_235 : decode cX12_readWord 235 = .ok (.iload_n 1, 1) := by decide +kernel
theorem dX12_readWord_236 : decode cX12_readWord 236 = .ok (.aload_n 0, 1) := by decide +kernel
theorem dX12_readWord_237 : decode cX12_readWord 237 = .ok (.getfield 118, 3) := by decide +kernel
theorem dX12_readWord_240 : decode cX12_readWord 240 = .ok (.iconst 0, 1) := by decide +kernel
theorem dX12_readWord_241 : decode cX12_readWord 241 = .ok (.iaload, 1) := by decide +kernel
theorem dX12_readWord_242 : decode cX12_readWord 242 = .ok (.iastore, 1) := by decide +kernel
theorem dX12_readWord_243 : decode cX12_readWord 243 = .ok (.aload_n 0, 1) := by decide +kernel
theorem dX12_readWord_244 : decode cX12_readWord 244 = .ok (.getfield 20, 3) := by decide +kernel
theorem dX12_readWord_247 : decode cX12_readWord 247 = .ok (.aload_n 0, 1) := by decide +kernel
theorem dX12_readWord_248 : decode cX12_readWord 248 = .ok (.getfield 340, 3) := by decide +kernel
theorem dX12_readWord_251 : decode cX12_readWord 251 = .ok (.dup2, 1) := by decide +kernel
theorem dX12_readWord_252 : decode cX12_readWord 252 = .ok (.iaload, 1) := by decide +kernel
theorem dX12_readWord_253 : decode cX12_readWord 253 = .ok (.iconst 1, 1) := by decide +kernel
theorem dX12_readWord_254 : decode cX12_readWord 254 = .ok (.iadd, 1) := by decide +kernel
theorem dX12_readWord_255 : decode cX12_readWord 255 = .ok (.iastore, 1) := by decide +kernel
theorem dX12_readWord_256 : decode cX12_readWord 256 = .ok (.return_, 1) := by decide +kernel
theorem dX12_sortHere_0 : decode cX12_sortHere 0 = .ok (.aload_n 0, 1) := by decide +kernel
theorem dX12_sortHere_1 : decode cX12_sortHere 1 = .ok (.getfield 302, 3) := by decide +kernel
theorem dX12_sortHere_4 : decode cX12_sortHere 4 = .ok (.iconst 4, 1) := by decide +kernel
theorem dX12_sortHere_5 : decode cX12_sortHere 5 = .ok (.if_icmp .ne 5, 3) := by decide +kernel
theorem dX12_sortHere_8 : decode cX12_sortHere 8 = .ok (.iconst 1, 1) := by decide +kernel
theorem dX12_sortHere_9 : decode cX12_sortHere 9 = .ok (.ireturn, 1) := by decide +kernel
theorem dX12_sortHere_10 : decode cX12_sortHere 10 = .ok (.aload_n 0, 1) := by decide +kernel
theorem dX12_sortHere_11 : decode cX12_sortHere 11 = .ok (.getfield 302, 3) := by decide +kernel
theorem dX12_sortHere_14 : decode cX12_sortHere 14 = .ok (.iconst 2, 1) := by decide +kernel
theorem dX12_sortHere_15 : decode cX12_sortHere 15 = .ok (.if_icmp .ne 5, 3) := by decide +kernel
theorem dX12_sortHere_18 : decode cX12_sortHere 18 = .ok (.iconst 2, 1) := by decide +kernel
theorem dX12_sortHere_19 : decode cX12_sortHere 19 = .ok (.ireturn, 1) := by decide +kernel
theorem dX12_sortHere_20 : decode cX12_sortHere 20 = .ok (.aload_n 0, 1) := by decide +kernel
theorem dX12_sortHere_21 : decode cX12_sortHere 21 = .ok (.getfield 302, 3) := by decide +kernel
theorem dX12_sortHere_24 : decode cX12_sortHere 24 = .ok (.iconst 3, 1) := by decide +kernel
theorem dX12_sortHere_25 : decode cX12_sortHere 25 = .ok (.if_icmp .eq 5, 3) := by decide +kernel
theorem dX12_sortHere_28 : decode cX12_sortHere 28 = .ok (.iconst (-1), 1) := by decide +kernel
theorem dX12_sortHere_29 : decode cX12_sortHere 29 = .ok (.ireturn, 1) := by decide +kernel
theorem dX12_sortHere_30 : decode cX12_sortHere 30 = .ok (.aload_n 0, 1) := by decide +kernel
theorem dX12_sortHere_31 : decode cX12_sortHere 31 = .ok (.getfield 309, 3) := by decide +kernel
theorem dX12_sortHere_34 : decode cX12_sortHere 34 = .ok (.invokestatic 258, 3) := by decide +kernel
theorem dX12_sortHere_37 : decode cX12_sortHere 37 = .ok (.ifCond .lt 5, 3) := by decide +kernel
theorem dX12_sortHere_40 : decode cX12_sortHere 40 = .ok (.iconst 0, 1) := by decide +kernel
theorem dX12_sortHere_41 : decode cX12_sortHere 41 = .ok (.ireturn, 1) := by decide +kernel
theorem dX12_sortHere_42 : decode cX12_sortHere 42 = .ok (.aload_n 0, 1) := by decide +kernel
theorem dX12_sortHere_43 : decode cX12_sortHere 43 = .ok (.ldc2_w 232, 3) := by decide +kernel
theorem dX12_sortHere_46 : decode cX12_sortHere 46 = .ok (.invokevirtual 355, 3) := by decide +kernel
theorem dX12_sortHere_49 : decode cX12_sortHere 49 = .ok (.ifCond .ne 13, 3) := by decide +kernel
theorem dX12_sortHere_52 : decode cX12_sortHere 52 = .ok (.aload_n 0, 1) := by decide +kernel
theorem dX12_sortHere_53 : decode cX12_sortHere 53 = .ok (.ldc2_w 238, 3) := by decide +kernel
theorem dX12_sortHere_56 : decode cX12_sortHere 56 = .ok (.invokevirtual 355, 3) := by decide +kernel
theorem dX12_sortHere_59 : decode cX12_sortHere 59 = .ok (.ifCond .eq 32, 3) := by decide +kernel
theorem dX12_sortHere_62 : decode cX12_sortHere 62 = .ok (.aload_n 0, 1) := by decide +kernel
theorem dX12_sortHere_63 : decode cX12_sortHere 63 = .ok (.getfield 397, 3) := by decide +kernel
theorem dX12_sortHere_66 : decode cX12_sortHere 66 = .ok (.iconst 4, 1) := by decide +kernel
theorem dX12_sortHere_67 : decode cX12_sortHere 67 = .ok (.if_icmp .ne 7, 3) := by decide +kernel
theorem dX12_sortHere_70 : decode cX12_sortHere 70 = .ok (.iconst (-1), 1) := by decide +kernel
theorem dX12_sortHere_71 : decode cX12_sortHere 71 = .ok (.goto 19, 3) := by decide +kernel
theorem dX12_sortHere_74 : decode cX12_sortHere 74 = .ok (.aload_n 0, 1) := by decide +kernel
theorem dX12_sortHere_75 : decode cX12_sortHere 75 = .ok (.ldc2_w 232, 3) := by decide +kernel
theorem dX12_sortHere_78 : decode cX12_sortHere 78 = .ok (.invokevirtual 355, 3) := by decide +kernel
theorem dX12_sortHere_81 : decode cX12_sortHere 81 = .ok (.ifCond .eq 7, 3) := by decide +kernel
theorem dX12_sortHere_84 : decode cX12_sortHere 84 = .ok (.iconst 3, 1) := by decide +kernel
theorem dX12_sortHere_85 : decode cX12_sortHere 85 = .ok (.goto 5, 3) := by decide +kernel
theorem dX12_sortHere_88 : decode cX12_sortHere 88 = .ok (.bipush 6, 2) := by decide +kernel
theorem dX12_sortHere_90 : decode cX12_sortHere 90 = .ok (.ireturn, 1) := by decide +kernel
theorem dX12_sortHere_91 : decode cX12_sortHere 91 = .ok (.aload_n 0, 1) := by decide +kernel
theorem dX12_sortHere_92 : decode cX12_sortHere 92 = .ok (.getfield 397, 3) := by decide +kernel
theorem dX12_sortHere_95 : decode cX12_sortHere 95 = .ok (.ifCond .ne 7, 3) := by decide +kernel
theorem dX12_sortHere_98 : decode cX12_sortHere 98 = .ok (.iconst (-1), 1) := by decide +kernel
theorem dX12_sortHere_99 : decode cX12_sortHere 99 = .ok (.goto 12, 3) := by decide +kernel
theorem dX12_sortHere_102 : decode cX12_sortHere 102 = .ok (.aload_n 0, 1) := by decide +kernel
theorem dX12_sortHere_103 : decode cX12_sortHere 103 = .ok (.getfield 97, 3) := by decide +kernel
theorem dX12_sortHere_106 : decode cX12_sortHere 106 = .ok (.aload_n 0, 1) := by decide +kernel
theorem dX12_sortHere_107 : decode cX12_sortHere 107 = .ok (.getfield 397, 3) := by decide +kernel
theorem dX12_sortHere_110 : decode cX12_sortHere 110 = .ok (.iaload, 1) := by decide +kernel
theorem dX12_sortHere_111 : decode cX12_sortHere 111 = .ok (.istore_n 1, 1) := by decide +kernel
theorem dX12_sortHere_112 : decode cX12_sortHere 112 = .ok (.aload_n 0, 1) := by decide +kernel
theorem dX12_sortHere_113 : decode cX12_sortHere 113 = .ok (.ldc2_w 234, 3) := by decide +kernel
theorem dX12_sortHere_116 : decode cX12_sortHere 116 = .ok (.invokevirtual 355, 3) := by decide +kernel
theorem dX12_sortHere_119 : decode cX12_sortHere 119 = .ok (.ifCond .eq 14, 3) := by decide +kernel
theorem dX12_sortHere_122 : decode cX12_sortHere 122 = .ok (.iload_n 1, 1) := by decide +kernel
theorem dX12_sortHere_123 : decode cX12_sortHere 123 = .ok (.iconst 3, 1) := by decide +kernel
theorem dX12_sortHere_124 : decode cX12_sortHere 124 = .ok (.if_icmp .ne 7, 3) := by decide +kernel
theorem dX12_sortHere_127 : decode cX12_sortHere 127 = .ok (.iconst 4, 1) := by decide +kernel
theorem dX12_sortHere_128 : decode cX12_sortHere 128 = .ok (.goto 4, 3) := by decide +kernel
theorem dX12_sortHere_131 : decode cX12_sortHere 131 = .ok (.iconst (-1), 1) := by decide +kernel
theorem dX12_sortHere_132 : decode cX12_sortHere 132 = .ok (.ireturn, 1) := by decide +kernel
theorem dX12_sortHere_133 : decode cX12_sortHere 133 = .ok (.aload_n 0, 1) := by decide +kernel
theorem dX12_sortHere_134 : decode cX12_sortHere 134 = .ok (.ldc2_w 236, 3) := by decide +kernel
theorem dX12_sortHere_137 : decode cX12_sortHere 137 = .ok (.invokevirtual 355, 3) := by decide +kernel
theorem dX12_sortHere_140 : decode cX12_sortHere 140 = .ok (.ifCond .eq 19, 3) := by decide +kernel
theorem dX12_sortHere_143 : decode cX12_sortHere 143 = .ok (.iload_n 1, 1) := by decide +kernel
theorem dX12_sortHere_144 : decode cX12_sortHere 144 = .ok (.iconst 3, 1) := by decide +kernel
theorem dX12_sortHere_145 : decode cX12_sortHere 145 = .ok (.if_icmp .eq 8, 3) := by decide +kernel
theorem dX12_sortHere_148 : decode cX12_sortHere 148 = .ok (.iload_n 1, 1) := by decide +kernel
theorem dX12_sortHere_149 : decode cX12_sortHere 149 = .ok (.iconst 4, 1) := by decide +kernel
theorem dX12_sortHere_150 : decode cX12_sortHere 150 = .ok (.if_icmp .ne 7, 3) := by decide +kernel
theorem dX12_sortHere_153 : decode cX12_sortHere 153 = .ok (.iconst 5, 1) := by decide +kernel
theorem dX12_sortHere_154 : decode cX12_sortHere 154 = .ok (.goto 4, 3) := by decide +kernel
theorem dX12_sortHere_157 : decode cX12_sortHere 157 = .ok (.iconst (-1), 1) := by decide +kernel
theorem dX12_sortHere_158 : decode cX12_sortHere 158 = .ok (.ireturn, 1) := by decide +kernel
theorem dX12_sortHere_159 : decode cX12_sortHere 159 = .ok (.aload_n 0, 1) := by decide +kernel
theorem dX12_sortHere_160 : decode cX12_sortHere 160 = .ok (.ldc2_w 240, 3) := by decide +kernel
theorem dX12_sortHere_163 : decode cX12_sortHere 163 = .ok (.invokevirtual 355, 3) := by decide +kernel
theorem dX12_sortHere_166 : decode cX12_sortHere 166 = .ok (.ifCond .eq 14, 3) := by decide +kernel
theorem dX12_sortHere_169 : decode cX12_sortHere 169 = .ok (.iload_n 1, 1) := by decide +kernel
theorem dX12_sortHere_170 : decode cX12_sortHere 170 = .ok (.bipush 6, 2) := by decide +kernel
theorem dX12_sortHere_172 : decode cX12_sortHere 172 = .ok (.if_icmp .ne 8, 3) := by decide +kernel
theorem dX12_sortHere_175 : decode cX12_sortHere 175 = .ok (.bipush 7, 2) := by decide +kernel
theorem dX12_sortHere_177 : decode cX12_sortHere 177 = .ok (.goto 4, 3) := by decide +kernel
theorem dX12_sortHere_180 : decode cX12_sortHere 180 = .ok (.iconst (-1), 1) := by decide +kernel
theorem dX12_sortHere_181 : decode cX12_sortHere 181 = .ok (.ireturn, 1) := by decide +kernel
theorem dX12_readItem_0 : decode cX12_readItem 0 = .ok (.aload_n 0, 1) := by decide +kernel
theorem dX12_readItem_1 : decode cX12_readItem 1 = .ok (.invokevirtual 415, 3) := by decide +kernel
theorem dX12_readItem_4 : decode cX12_readItem 4 = .ok (.istore_n 2, 1) := by decide +kernel
theorem dX12_readItem_5 : decode cX12_readItem 5 = .ok (.aload_n 0, 1) := by decide +kernel
theorem dX12_readItem_6 : decode cX12_readItem 6 = .ok (.getfield 295, 3) := by decide +kernel
theorem dX12_readItem_9 : decode cX12_readItem 9 = .ok (.istore_n 3, 1) := by decide +kernel
theorem dX12_readItem_10 : decode cX12_readItem 10 = .ok (.iload_n 2, 1) := by decide +kernel
theorem dX12_readItem_11 : decode cX12_readItem 11 = .ok (.ifCond .lt 28, 3) := by decide +kernel
theorem dX12_readItem_14 : decode cX12_readItem 14 = .ok (.aload_n 0, 1) := by decide +kernel
theorem dX12_readItem_15 : decode cX12_readItem 15 = .ok (.getfield 42, 3) := by decide +kernel
theorem dX12_readItem_18 : decode cX12_readItem 18 = .ok (.iload_n 1, 1) := by decide +kernel
theorem dX12_readItem_19 : decode cX12_readItem 19 = .ok (.iaload, 1) := by decide +kernel
theorem dX12_readItem_20 : decode cX12_readItem 20 = .ok (.bipush 20, 2) := by decide +kernel
theorem dX12_readItem_22 : decode cX12_readItem 22 = .ok (.if_icmp .eq 17, 3) := by decide +kernel
theorem dX12_readItem_25 : decode cX12_readItem 25 = .ok (.aload_n 0, 1) := by decide +kernel
theorem dX12_readItem_26 : decode cX12_readItem 26 = .ok (.getfield 24, 3) := by decide +kernel
theorem dX12_readItem_29 : decode cX12_readItem 29 = .ok (.aload_n 0, 1) := by decide +kernel
theorem dX12_readItem_30 : decode cX12_readItem 30 = .ok (.getfield 340, 3) := by decide +kernel
theorem dX12_readItem_33 : decode cX12_readItem 33 = .ok (.iaload, 1) := by decide +kernel
theorem dX12_readItem_34 : decode cX12_readItem 34 = .ok (.bipush 60, 2) := by decide +kernel
theorem dX12_readItem_36 : decode cX12_readItem 36 = .ok (.if_icmp .ne 7, 3) := by decide +kernel
theorem dX12_readItem_39 : decode cX12_readItem 39 = .ok (.aload_n 0, 1) := by decide +kernel
theorem dX12_readItem_40 : decode cX12_readItem 40 = .ok (.invokevirtual 337, 3) := by decide +kernel
theorem dX12_readItem_43 : decode cX12_readItem 43 = .ok (.aload_n 0, 1) := by decide +kernel
theorem dX12_readItem_44 : decode cX12_readItem 44 = .ok (.invokevirtual 330, 3) := by decide +kernel
theorem dX12_readItem_47 : decode cX12_readItem 47 = .ok (.ifCond .eq 24, 3) := by decide +kernel
theorem dX12_readItem_50 : decode cX12_readItem 50 = .ok (.iload_n 2, 1) := by decide +kernel
theorem dX12_readItem_51 : decode cX12_readItem 51 = .ok (.iconst 2, 1) := by decide +kernel
theorem dX12_readItem_52 : decode cX12_readItem 52 = .ok (.if_icmp .ne 19, 3) := by decide +kernel
theorem dX12_readItem_55 : decode cX12_readItem 55 = .ok (.aload_n 0, 1) := by decide +kernel
theorem dX12_readItem_56 : decode cX12_readItem 56 = .ok (.invokevirtual 386, 3) := by decide +kernel
theorem dX12_readItem_59 : decode cX12_readItem 59 = .ok (.ifCond .ge 12, 3) := by decide +kernel
theorem dX12_readItem_62 : decode cX12_readItem 62 = .ok (.aload_n 0, 1) := by decide +kernel
theorem dX12_readItem_63 : decode cX12_readItem 63 = .ok (.iconst 5, 1) := by decide +kernel
theorem dX12_readItem_64 : decode cX12_readItem 64 = .ok (.aload_n 0, 1) := by decide +kernel
theorem dX12_readItem_65 : decode cX12_readItem 65 = .ok (.getfield 295, 3) := by decide +kernel
theorem dX12_readItem_68 : decode cX12_readItem 68 = .ok (.invokevirtual 326, 3) := by decide +kernel
theorem dX12_readItem_71 : decode cX12_readItem 71 = .ok (.aload_n 0, 1) := by decide +kernel
theorem dX12_readItem_72 : decode cX12_readItem 72 = .ok (.invokevirtual 330, 3) := by decide +kernel
theorem dX12_readItem_75 : decode cX12_readItem 75 = .ok (.ifCond .ne 4, 3) := by decide +kernel
theorem dX12_readItem_78 : decode cX12_readItem 78 = .ok (.return_, 1) := by decide +kernel
theorem dX12_readItem_79 : decode cX12_readItem 79 = .ok (.iload_n 2, 1) := by decide +kernel
theorem dX12_readItem_80 : decode cX12_readItem 80 = .ok (.ifCond .ne 13, 3) := by decide +kernel
theorem dX12_readItem_83 : decode cX12_readItem 83 = .ok (.aload_n 0, 1) := by decide +kernel
theorem dX12_readItem_84 : decode cX12_readItem 84 = .ok (.getfield 309, 3) := by decide +kernel
theorem dX12_readItem_87 : decode cX12_readItem 87 = .ok (.invokestatic 258, 3) := by decide +kernel
theorem dX12_readItem_90 : decode cX12_readItem 90 = .ok (.goto 28, 3) := by decide +kernel
theorem dX12_readItem_93 : decode cX12_readItem 93 = .ok (.iload_n 2, 1) := by decide +kernel
theorem dX12_readItem_94 : decode cX12_readItem 94 = .ok (.iconst 1, 1) := by decide +kernel
theorem dX12_readItem_95 : decode cX12_readItem 95 = .ok (.if_icmp .ne 10, 3) := by decide +kernel
theorem dX12_readItem_98 : decode cX12_readItem 98 = .ok (.aload_n 0, 1) := by decide +kernel
theorem dX12_readItem_99 : decode cX12_readItem 99 = .ok (.getfield 320, 3) := by decide +kernel
theorem dX12_readItem_102 : decode cX12_readItem 102 = .ok (.goto 16, 3) := by decide +kernel
theorem dX12_readItem_105 : decode cX12_readItem 105 = .ok (.iload_n 2, 1) := by decide +kernel
theorem dX12_readItem_106 : decode cX12_readItem 106 = .ok (.iconst 2, 1) := by decide +kernel
theorem dX12_readItem_107 : decode cX12_readItem 107 = .ok (.if_icmp .ne 10, 3) := by decide +kernel
theorem dX12_readItem_110 : decode cX12_readItem 110 = .ok (.aload_n 0, 1) := by decide +kernel
theorem dX12_readItem_111 : decode cX12_readItem 111 = .ok (.invokevirtual 386, 3) := by decide +kernel
theorem dX12_readItem_114 : decode cX12_readItem 114 = .ok (.goto 4, 3) := by decide +kernel
theorem dX12_readItem_117 : decode cX12_readItem 117 = .ok (.iconst 0, 1) := by decide +kernel
theorem dX12_readItem_118 : decode cX12_readItem 118 = .ok (.istore 4, 2) := by decide +kernel
theorem dX12_readItem_120 : decode cX12_readItem 120 = .ok (.aload_n 0, 1) := by decide +kernel
theorem dX12_readItem_121 : decode cX12_readItem 121 = .ok (.invokevirtual 334, 3) := by decide +kernel
theorem dX12_readItem_124 : decode cX12_readItem 124 = .ok (.iload_n 2, 1) := by decide +kernel
theorem dX12_readItem_125 : decode cX12_readItem 125 = .ok (.bipush 6, 2) := by decide +kernel
theorem dX12_readItem_127 : decode cX12_readItem 127 = .ok (.if_icmp .ne 12, 3) := by decide +kernel
theorem dX12_readItem_130 : decode cX12_readItem 130 = .ok (.aload_n 0, 1) := by decide +kernel
theorem dX12_readItem_131 : decode cX12_readItem 131 = .ok (.iconst 1, 1) := by decide +kernel
theorem dX12_readItem_132 : decode cX12_readItem 132 = .ok (.bipush 9, 2) := by decide +kernel
theorem dX12_readItem_134 : decode cX12_readItem 134 = .ok (.invokevirtual 362, 3) := by decide +kernel
theorem dX12_readItem_137 : decode cX12_readItem 137 = .ok (.istore 4, 2) := by decide +kernel
theorem dX12_readItem_139 : decode cX12_readItem 139 = .ok (.aload_n 0, 1) := by decide +kernel
theorem dX12_readItem_140 : decode cX12_readItem 140 = .ok (.invokevirtual 330, 3) := by decide +kernel
theorem dX12_readItem_143 : decode cX12_readItem 143 = .ok (.ifCond .ne 4, 3) := by decide +kernel
theorem dX12_readItem_146 : decode cX12_readItem 146 = .ok (.return_, 1) := by decide +kernel
theorem dX12_readItem_147 : decode cX12_readItem 147 = .ok (.bipush 60, 2) := by decide +kernel
theorem dX12_readItem_149 : decode cX12_readItem 149 = .ok (.aload_n 0, 1) := by decide +kernel
theorem dX12_readItem_150 : decode cX12_readItem 150 = .ok (.getfield 340, 3) := by decide +kernel
theorem dX12_readItem_153 : decode cX12_readItem 153 = .ok (.imul, 1) := by decide +kernel
theorem dX12_readItem_154 : decode cX12_readItem 154 = .ok (.aload_n 0, 1) := by decide +kernel
theorem dX12_readItem_155 : decode cX12_readItem 155 = .ok (.getfield 24, 3) := by decide +kernel
theorem dX12_readItem_158 : decode cX12_readItem 158 = .ok (.aload_n 0, 1) := by decide +kernel
theorem dX12_readItem_159 : decode cX12_readItem 159 = .ok (.getfield 340, 3) := by decide +kernel
theorem dX12_readItem_162 : decode cX12_readItem 162 = .ok (.iaload, 1) := by decide +kernel
theorem dX12_readItem_163 : decode cX12_readItem 163 = .ok (.iadd, 1) := by decide +kernel
theorem dX12_readItem_164 : decode cX12_readItem 164 = .ok (.istore 5, 2) := by decide +kernel
theorem dX12_readItem_166 : decode cX12_readItem 166 = .ok (.aload_n 0, 1) := by decide +kernel
theorem dX12_readItem_167 : decode cX12_readItem 167 = .ok (.getfield 60, 3) := by decide +kernel
theorem dX12_readItem_170 : decode cX12_readItem 170 = .ok (.iload 5, 2) := by decide +kernel
theorem dX12_readItem_172 : decode cX12_readItem 172 = .ok (.iload_n 2, 1) := by decide +kernel
theorem dX12_readItem_173 : decode cX12_readItem 173 = .ok (.iastore, 1) := by decide +kernel
theorem dX12_readItem_174 : decode cX12_readItem 174 = .ok (.aload_n 0, 1) := by decide +kernel
theorem dX12_readItem_175 : decode cX12_readItem 175 = .ok (.getfield 63, 3) := by decide +kernel
theorem dX12_readItem_178 : decode cX12_readItem 178 = .ok (.iload 5, 2) := by decide +kernel
theorem dX12_readItem_180 : decode cX12_readItem 180 = .ok (.iload 4, 2) := by decide +kernel
theorem dX12_readItem_182 : decode cX12_readItem 182 = .ok (.iastore, 1) := by decide +kernel
theorem dX12_readItem_183 : decode cX12_readItem 183 = .ok (.aload_n 0, 1) := by decide +kernel
theorem dX12_readItem_184 : decode cX12_readItem 184 = .ok (.getfield 24, 3) := by decide +kernel
theorem dX12_readItem_187 : decode cX12_readItem 187 = .ok (.aload_n 0, 1) := by decide +kernel
theorem dX12_readItem_188 : decode cX12_readItem 188 = .ok (.getfield 340, 3) := by decide +kernel
theorem dX12_readItem_191 : decode cX12_readItem 191 = .ok (.dup2, 1) := by decide +kernel
theorem dX12_readItem_192 : decode cX12_readItem 192 = .ok (.iaload, 1) := by decide +kernel
theorem dX12_readItem_193 : decode cX12_readItem 193 = .ok (.iconst 1, 1) := by decide +kernel
theorem dX12_readItem_194 : decode cX12_readItem 194 = .ok (.iadd, 1) := by decide +kernel
theorem dX12_readItem_195 : decode cX12_readItem 195 = .ok (.iastore, 1) := by decide +kernel
theorem dX12_readItem_196 : decode cX12_readItem 196 = .ok (.aload_n 0, 1) := by decide +kernel
theorem dX12_readItem_197 : decode cX12_readItem 197 = .ok (.getfield 42, 3) := by decide +kernel
theorem dX12_readItem_200 : decode cX12_readItem 200 = .ok (.iload_n 1, 1) := by decide +kernel
theorem dX12_readItem_201 : decode cX12_readItem 201 = .ok (.dup2, 1) := by decide +kernel
theorem dX12_readItem_202 : decode cX12_readItem 202 = .ok (.iaload, 1) := by decide +kernel
theorem dX12_readItem_203 : decode cX12_readItem 203 = .ok (.iconst 1, 1) := by decide +kernel
theorem dX12_readItem_204 : decode cX12_readItem 204 = .ok (.iadd, 1) := by decide +kernel
theorem dX12_readItem_205 : decode cX12_readItem 205 = .ok (.iastore, 1) := by decide +kernel
theorem dX12_readItem_206 : decode cX12_readItem 206 = .ok (.aload_n 0, 1) := by decide +kernel
theorem dX12_readItem_207 : decode cX12_readItem 207 = .ok (.iload_n 2, 1) := by decide +kernel
theorem dX12_readItem_208 : decode cX12_readItem 208 = .ok (.iload 4, 2) := by decide +kernel
theorem dX12_readItem_210 : decode cX12_readItem 210 = .ok (.iload 5, 2) := by decide +kernel
theorem dX12_readItem_212 : decode cX12_readItem 212 = .ok (.invokevirtual 418, 3) := by decide +kernel
theorem dX12_readItem_215 : decode cX12_readItem 215 = .ok (.istore 6, 2) := by decide +kernel
theorem dX12_readItem_217 : decode cX12_readItem 217 = .ok (.aload_n 0, 1) := by decide +kernel
theorem dX12_readItem_218 : decode cX12_readItem 218 = .ok (.getfield 66, 3) := by decide +kernel
theorem dX12_readItem_221 : decode cX12_readItem 221 = .ok (.iload 5, 2) := by decide +kernel
theorem dX12_readItem_223 : decode cX12_readItem 223 = .ok (.aload_n 0, 1) := by decide +kernel
theorem dX12_readItem_224 : decode cX12_readItem 224 = .ok (.getfield 406, 3) := by decide +kernel
theorem dX12_readItem_227 : decode cX12_readItem 227 = .ok (.iastore, 1) := by decide +kernel
theorem dX12_readItem_228 : decode cX12_readItem 228 = .ok (.iload 6, 2) := by decide +kernel
theorem dX12_readItem_230 : decode cX12_readItem 230 = .ok (.ifCond .le 10, 3) := by decide +kernel
theorem dX12_readItem_233 : decode cX12_readItem 233 = .ok (.aload_n 0, 1) := by decide +kernel
theorem dX12_readItem_234 : decode cX12_readItem 234 = .ok (.iload 6, 2) := by decide +kernel
theorem dX12_readItem_236 : decode cX12_readItem 236 = .ok (.iload_n 3, 1) := by decide +kernel
theorem dX12_readItem_237 : decode cX12_readItem 237 = .ok (.invokevirtual 326, 3) := by decide +kernel
theorem dX12_readItem_240 : decode cX12_readItem 240 = .ok (.return_, 1) := by decide +kernel
theorem dX12_beginLook_0 : decode cX12_beginLook 0 = .ok (.aload_n 0, 1) := by decide +kernel
theorem dX12_beginLook_1 : decode cX12_beginLook 1 = .ok (.iload_n 1, 1) := by decide +kernel
theorem dX12_beginLook_2 : decode cX12_beginLook 2 = .ok (.putfield 421, 3) := by decide +kernel
theorem dX12_beginLook_5 : decode cX12_beginLook 5 = .ok (.aload_n 0, 1) := by decide +kernel
theorem dX12_beginLook_6 : decode cX12_beginLook 6 = .ok (.iconst 0, 1) := by decide +kernel
theorem dX12_beginLook_7 : decode cX12_beginLook 7 = .ok (.putfield 406, 3) := by decide +kernel
theorem dX12_beginLook_10 : decode cX12_beginLook 10 = .ok (.aload_n 0, 1) := by decide +kernel
theorem dX12_beginLook_11 : decode cX12_beginLook 11 = .ok (.iconst 0, 1) := by decide +kernel
theorem dX12_beginLook_12 : decode cX12_beginLook 12 = .ok (.putfield 400, 3) := by decide +kernel
theorem dX12_beginLook_15 : decode cX12_beginLook 15 = .ok (.aload_n 0, 1) := by decide +kernel
theorem dX12_beginLook_16 : decode cX12_beginLook 16 = .ok (.iconst 0, 1) := by decide +kernel
theorem dX12_beginLook_17 : decode cX12_beginLook 17 = .ok (.putfield 397, 3) := by decide +kernel
theorem dX12_beginLook_20 : decode cX12_beginLook 20 = .ok (.aload_n 0, 1) := by decide +kernel
theorem dX12_beginLook_21 : decode cX12_beginLook 21 = .ok (.iconst 0, 1) := by decide +kernel
theorem dX12_beginLook_22 : decode cX12_beginLook 22 = .ok (.putfield 403, 3) := by decide +kernel
theorem dX12_beginLook_25 : decode cX12_beginLook 25 = .ok (.aload_n 0, 1) := by decide +kernel
theorem dX12_beginLook_26 : decode cX12_beginLook 26 = .ok (.iconst 0, 1) := by decide +kernel
theorem dX12_beginLook_27 : decode cX12_beginLook 27 = .ok (.putfield 409, 3) := by decide +kernel
theorem dX12_beginLook_30 : decode cX12_beginLook 30 = .ok (.aload_n 0, 1) := by decide +kernel
theorem dX12_beginLook_31 : decode cX12_beginLook 31 = .ok (.iconst 0, 1) := by decide +kernel
theorem dX12_beginLook_32 : decode cX12_beginLook 32 = .ok (.putfield 412, 3) := by decide +kernel
theorem dX12_beginLook_35 : decode cX12_beginLook 35 = .ok (.aload_n 0, 1) := by decide +kernel
theorem dX12_beginLook_36 : decode cX12_beginLook 36 = .ok (.getfield 118, 3) := by decide +kernel
theorem dX12_beginLook_39 : decode cX12_beginLook 39 = .ok (.iconst 0, 1) := by decide +kernel
theorem dX12_beginLook_40 : decode cX12_beginLook 40 = .ok (.iconst 0, 1) := by decide +kernel
theorem dX12_beginLook_41 : decode cX12_beginLook 41 = .ok (.iastore, 1) := by decide +kernel
theorem dX12_beginLook_42 : decode cX12_beginLook 42 = .ok (.return_, 1) := by decide +kernel
theorem dX12_taken_0 : decode cX12_taken 0 = .ok (.iload_n 0, 1) := by decide +kernel
theorem dX12_taken_1 : decode cX12_taken 1 = .ok (.tableswitch 73 0 12 #[67, 67, 73, 73, 69, 73, 73, 67, 71, 73, 73, 73, 67], 67) := by decide +kernel
theorem dX12_taken_68 : decode cX12_taken 68 = .ok (.iconst 1, 1) := by decide +kernel
theorem dX12_taken_69 : decode cX12_taken 69 = .ok (.ireturn, 1) := by decide +kernel
theorem dX12_taken_70 : decode cX12_taken 70 = .ok (.iconst 3, 1) := by decide +kernel
theorem dX12_taken_71 : decode cX12_taken 71 = .ok (.ireturn, 1) := by decide +kernel
theorem dX12_taken_72 : decode cX12_taken 72 = .ok (.iconst 0, 1) := by decide +kernel
theorem dX12_taken_73 : decode cX12_taken 73 = .ok (.ireturn, 1) := by decide +kernel
theorem dX12_taken_74 : decode cX12_taken 74 = .ok (.iconst 2, 1) := by decide +kernel
theorem dX12_taken_75 : decode cX12_taken 75 = .ok (.ireturn, 1) := by decide +kernel
theorem dX12_laidBy_0 : decode cX12_laidBy 0 = .ok (.iload_n 0, 1) := by decide +kernel
theorem dX12_laidBy_1 : decode cX12_laidBy 1 = .ok (.tableswitch 53 0 7 #[49, 47, 49, 51, 51, 53, 51, 47], 47) := by decide +kernel
theorem dX12_laidBy_48 : decode cX12_laidBy 48 = .ok (.iconst 0, 1) := by decide +kernel
theorem dX12_laidBy_49 : decode cX12_laidBy 49 = .ok (.ireturn, 1) := by decide +kernel
theorem dX12_laidBy_50 : decode cX12_laidBy 50 = .ok (.iconst 2, 1) := by decide +kernel
theorem dX12_laidBy_51 : decode cX12_laidBy 51 = .ok (.ireturn, 1) := by decide +kernel
theorem dX12_laidBy_52 : decode cX12_laidBy 52 = .ok (.iconst 3, 1) := by decide +kernel
theorem dX12_laidBy_53 : decode cX12_laidBy 53 = .ok (.ireturn, 1) := by decide +kernel
theorem dX12_laidBy_54 : decode cX12_laidBy 54 = .ok (.iconst 1, 1) := by decide +kernel
theorem dX12_laidBy_55 : decode cX12_laidBy 55 = .ok (.ireturn, 1) := by decide +kernel
theorem dX12_take_0 : decode cX12_take 0 = .ok (.aload_n 0, 1) := by decide +kernel
theorem dX12_take_1 : decode cX12_take 1 = .ok (.dup, 1) := by decide +kernel
theorem dX12_take_2 : decode cX12_take 2 = .ok (.getfield 406, 3) := by decide +kernel
theorem dX12_take_5 : decode cX12_take 5 = .ok (.iload_n 1, 1) := by decide +kernel
theorem dX12_take_6 : decode cX12_take 6 = .ok (.isub, 1) := by decide +kernel
theorem dX12_take_7 : decode cX12_take 7 = .ok (.putfield 406, 3) := by decide +kernel
theorem dX12_take_10 : decode cX12_take 10 = .ok (.aload_n 0, 1) := by decide +kernel
theorem dX12_take_11 : decode cX12_take 11 = .ok (.getfield 406, 3) := by decide +kernel
theorem dX12_take_14 : decode cX12_take 14 = .ok (.ineg, 1) := by decide +kernel
theorem dX12_take_15 : decode cX12_take 15 = .ok (.aload_n 0, 1) := by decide +kernel
theorem dX12_take_16 : decode cX12_take 16 = .ok (.getfield 403, 3) := by decide +kernel
theorem dX12_take_19 : decode cX12_take 19 = .ok (.if_icmp .le 12, 3) := by decide +kernel
theorem dX12_take_22 : decode cX12_take 22 = .ok (.aload_n 0, 1) := by decide +kernel
theorem dX12_take_23 : decode cX12_take 23 = .ok (.aload_n 0, 1) := by decide +kernel
theorem dX12_take_24 : decode cX12_take 24 = .ok (.getfield 406, 3) := by decide +kernel
theorem dX12_take_27 : decode cX12_take 27 = .ok (.ineg, 1) := by decide +kernel
theorem dX12_take_28 : decode cX12_take 28 = .ok (.putfield 403, 3) := by decide +kernel
theorem dX12_take_31 : decode cX12_take 31 = .ok (.return_, 1) := by decide +kernel
theorem dX12_rise_0 : decode cX12_rise 0 = .ok (.aload_n 0, 1) := by decide +kernel
theorem dX12_rise_1 : decode cX12_rise 1 = .ok (.dup, 1) := by decide +kernel
theorem dX12_rise_2 : decode cX12_rise 2 = .ok (.getfield 406, 3) := by decide +kernel
theorem dX12_rise_5 : decode cX12_rise 5 = .ok (.iload_n 1, 1) := by decide +kernel
theorem dX12_rise_6 : decode cX12_rise 6 = .ok (.iadd, 1) := by decide +kernel
theorem dX12_rise_7 : decode cX12_rise 7 = .ok (.putfield 406, 3) := by decide +kernel
theorem dX12_rise_10 : decode cX12_rise 10 = .ok (.aload_n 0, 1) := by decide +kernel
theorem dX12_rise_11 : decode cX12_rise 11 = .ok (.getfield 406, 3) := by decide +kernel
theorem dX12_rise_14 : decode cX12_rise 14 = .ok (.aload_n 0, 1) := by decide +kernel
theorem dX12_rise_15 : decode cX12_rise 15 = .ok (.getfield 409, 3) := by decide +kernel
theorem dX12_rise_18 : decode cX12_rise 18 = .ok (.if_icmp .le 11, 3) := by decide +kernel
theorem dX12_rise_21 : decode cX12_rise 21 = .ok (.aload_n 0, 1) := by decide +kernel
theorem dX12_rise_22 : decode cX12_rise 22 = .ok (.aload_n 0, 1) := by decide +kernel
theorem dX12_rise_23 : decode cX12_rise 23 = .ok (.getfield 406, 3) := by decide +kernel
theorem dX12_rise_26 : decode cX12_rise 26 = .ok (.putfield 409, 3) := by decide +kernel
theorem dX12_rise_29 : decode cX12_rise 29 = .ok (.return_, 1) := by decide +kernel
theorem dX12_look_0 : decode cX12_look 0 = .ok (.aload_n 0, 1) := by decide +kernel
theorem dX12_look_1 : decode cX12_look 1 = .ok (.getfield 424, 3) := by decide +kernel
theorem dX12_look_4 : decode cX12_look 4 = .ok (.ifCond .ne 10, 3) := by decide +kernel
theorem dX12_look_7 : decode cX12_look 7 = .ok (.aload_n 0, 1) := by decide +kernel
theorem dX12_look_8 : decode cX12_look 8 = .ok (.getfield 69, 3) := by decide +kernel
theorem dX12_look_11 : decode cX12_look 11 = .ok (.iload_n 3, 1) := by decide +kernel
theorem dX12_look_12 : decode cX12_look 12 = .ok (.iconst (-1), 1) := by decide +kernel
theorem dX12_look_13 : decode cX12_look 13 = .ok (.iastore, 1) := by decide +kernel
theorem dX12_look_14 : decode cX12_look 14 = .ok (.iload_n 1, 1) := by decide +kernel
theorem dX12_look_15 : decode cX12_look 15 = .ok (.iconst 2, 1) := by decide +kernel
theorem dX12_look_16 : decode cX12_look 16 = .ok (.if_icmp .gt 10, 3) := by decide +kernel
theorem dX12_look_19 : decode cX12_look 19 = .ok (.aload_n 0, 1) := by decide +kernel
theorem dX12_look_20 : decode cX12_look 20 = .ok (.iload_n 1, 1) := by decide +kernel
theorem dX12_look_21 : decode cX12_look 21 = .ok (.iload_n 2, 1) := by decide +kernel
theorem dX12_look_22 : decode cX12_look 22 = .ok (.invokevirtual 428, 3) := by decide +kernel
theorem dX12_look_25 : decode cX12_look 25 = .ok (.ireturn, 1) := by decide +kernel
theorem dX12_look_26 : decode cX12_look 26 = .ok (.iload_n 1, 1) := by decide +kernel
theorem dX12_look_27 : decode cX12_look 27 = .ok (.iconst 3, 1) := by decide +kernel
theorem dX12_look_28 : decode cX12_look 28 = .ok (.if_icmp .ne 30, 3) := by decide +kernel
theorem dX12_look_31 : decode cX12_look 31 = .ok (.aload_n 0, 1) := by decide +kernel
theorem dX12_look_32 : decode cX12_look 32 = .ok (.iconst 1, 1) := by decide +kernel
theorem dX12_look_33 : decode cX12_look 33 = .ok (.invokevirtual 431, 3) := by decide +kernel
theorem dX12_look_36 : decode cX12_look 36 = .ok (.aload_n 0, 1) := by decide +kernel
theorem dX12_look_37 : decode cX12_look 37 = .ok (.getfield 118, 3) := by decide +kernel
theorem dX12_look_40 : decode cX12_look 40 = .ok (.aload_n 0, 1) := by decide +kernel
theorem dX12_look_41 : decode cX12_look 41 = .ok (.getfield 397, 3) := by decide +kernel
theorem dX12_look_44 : decode cX12_look 44 = .ok (.dup2, 1) := by decide +kernel
theorem dX12_look_45 : decode cX12_look 45 = .ok (.iaload, 1) := by decide +kernel
theorem dX12_look_46 : decode cX12_look 46 = .ok (.iconst 1, 1) := by decide +kernel
theorem dX12_look_47 : decode cX12_look 47 = .ok (.iadd, 1) := by decide +kernel
theorem dX12_look_48 : decode cX12_look 48 = .ok (.iastore, 1) := by decide +kernel
theorem dX12_look_49 : decode cX12_look 49 = .ok (.aload_n 0, 1) := by decide +kernel
theorem dX12_look_50 : decode cX12_look 50 = .ok (.iconst 3, 1) := by decide +kernel
theorem dX12_look_51 : decode cX12_look 51 = .ok (.iload_n 3, 1) := by decide +kernel
theorem dX12_look_52 : decode cX12_look 52 = .ok (.invokevirtual 434, 3) := by decide +kernel
theorem dX12_look_55 : decode cX12_look 55 = .ok (.goto 159, 3) := by decide +kernel
theorem dX12_look_58 : decode cX12_look 58 = .ok (.iload_n 1, 1) := by decide +kernel
theorem dX12_look_59 : decode cX12_look 59 = .ok (.bipush 6, 2) := by decide +kernel
theorem dX12_look_61 : decode cX12_look 61 = .ok (.if_icmp .ne 23, 3) := by decide +kernel
theorem dX12_look_64 : decode cX12_look 64 = .ok (.aload_n 0, 1) := by decide +kernel
theorem dX12_look_65 : decode cX12_look 65 = .ok (.bipush 6, 2) := by decide +kernel
theorem dX12_look_67 : decode cX12_look 67 = .ok (.iload_n 3, 1) := by decide +kernel
theorem dX12_look_68 : decode cX12_look 68 = .ok (.invokevirtual 434, 3) := by decide +kernel
theorem dX12_look_71 : decode cX12_look 71 = .ok (.aload_n 0, 1) := by decide +kernel
theorem dX12_look_72 : decode cX12_look 72 = .ok (.getfield 121, 3) := by decide +kernel
theorem dX12_look_75 : decode cX12_look 75 = .ok (.aload_n 0, 1) := by decide +kernel
theorem dX12_look_76 : decode cX12_look 76 = .ok (.getfield 397, 3) := by decide +kernel
theorem dX12_look_79 : decode cX12_look 79 = .ok (.iload_n 2, 1) := by decide +kernel
theorem dX12_look_80 : decode cX12_look 80 = .ok (.iastore, 1) := by decide +kernel
theorem dX12_look_81 : decode cX12_look 81 = .ok (.goto 133, 3) := by decide +kernel
theorem dX12_look_84 : decode cX12_look 84 = .ok (.iload_n 1, 1) := by decide +kernel
theorem dX12_look_85 : decode cX12_look 85 = .ok (.iconst 4, 1) := by decide +kernel
theorem dX12_look_86 : decode cX12_look 86 = .ok (.if_icmp .ne 121, 3) := by decide +kernel
theorem dX12_look_89 : decode cX12_look 89 = .ok (.aload_n 0, 1) := by decide +kernel
theorem dX12_look_90 : decode cX12_look 90 = .ok (.getfield 109, 3) := by decide +kernel
theorem dX12_look_93 : decode cX12_look 93 = .ok (.aload_n 0, 1) := by decide +kernel
theorem dX12_look_94 : decode cX12_look 94 = .ok (.getfield 397, 3) := by decide +kernel
theorem dX12_look_97 : decode cX12_look 97 = .ok (.aload_n 0, 1) := by decide +kernel
theorem dX12_look_98 : decode cX12_look 98 = .ok (.getfield 406, 3) := by decide +kernel
theorem dX12_look_101 : decode cX12_look 101 = .ok (.iastore, 1) := by decide +kernel
theorem dX12_look_102 : decode cX12_look 102 = .ok (.aload_n 0, 1) := by decide +kernel
theorem dX12_look_103 : decode cX12_look 103 = .ok (.getfield 112, 3) := by decide +kernel
theorem dX12_look_106 : decode cX12_look 106 = .ok (.aload_n 0, 1) := by decide +kernel
theorem dX12_look_107 : decode cX12_look 107 = .ok (.getfield 397, 3) := by decide +kernel
theorem dX12_look_110 : decode cX12_look 110 = .ok (.aload_n 0, 1) := by decide +kernel
theorem dX12_look_111 : decode cX12_look 111 = .ok (.getfield 400, 3) := by decide +kernel
theorem dX12_look_114 : decode cX12_look 114 = .ok (.iastore, 1) := by decide +kernel
theorem dX12_look_115 : decode cX12_look 115 = .ok (.aload_n 0, 1) := by decide +kernel
theorem dX12_look_116 : decode cX12_look 116 = .ok (.getfield 115, 3) := by decide +kernel
theorem dX12_look_119 : decode cX12_look 119 = .ok (.aload_n 0, 1) := by decide +kernel
theorem dX12_look_120 : decode cX12_look 120 = .ok (.getfield 397, 3) := by decide +kernel
theorem dX12_look_123 : decode cX12_look 123 = .ok (.aload_n 0, 1) := by decide +kernel
theorem dX12_look_124 : decode cX12_look 124 = .ok (.getfield 118, 3) := by decide +kernel
theorem dX12_look_127 : decode cX12_look 127 = .ok (.aload_n 0, 1) := by decide +kernel
theorem dX12_look_128 : decode cX12_look 128 = .ok (.getfield 397, 3) := by decide +kernel
theorem dX12_look_131 : decode cX12_look 131 = .ok (.iaload, 1) := by decide +kernel
theorem dX12_look_132 : decode cX12_look 132 = .ok (.iastore, 1) := by decide +kernel
theorem dX12_look_133 : decode cX12_look 133 = .ok (.aload_n 0, 1) := by decide +kernel
theorem dX12_look_134 : decode cX12_look 134 = .ok (.getfield 69, 3) := by decide +kernel
theorem dX12_look_137 : decode cX12_look 137 = .ok (.aload_n 0, 1) := by decide +kernel
theorem dX12_look_138 : decode cX12_look 138 = .ok (.getfield 100, 3) := by decide +kernel
theorem dX12_look_141 : decode cX12_look 141 = .ok (.aload_n 0, 1) := by decide +kernel
theorem dX12_look_142 : decode cX12_look 142 = .ok (.getfield 397, 3) := by decide +kernel
theorem dX12_look_145 : decode cX12_look 145 = .ok (.iaload, 1) := by decide +kernel
theorem dX12_look_146 : decode cX12_look 146 = .ok (.iload_n 3, 1) := by decide +kernel
theorem dX12_look_147 : decode cX12_look 147 = .ok (.iastore, 1) := by decide +kernel
theorem dX12_look_148 : decode cX12_look 148 = .ok (.aload_n 0, 1) := by decide +kernel
theorem dX12_look_149 : decode cX12_look 149 = .ok (.getfield 100, 3) := by decide +kernel
theorem dX12_look_152 : decode cX12_look 152 = .ok (.aload_n 0, 1) := by decide +kernel
theorem dX12_look_153 : decode cX12_look 153 = .ok (.getfield 397, 3) := by decide +kernel
theorem dX12_look_156 : decode cX12_look 156 = .ok (.iload_n 3, 1) := by decide +kernel
theorem dX12_look_157 : decode cX12_look 157 = .ok (.iastore, 1) := by decide +kernel
theorem dX12_look_158 : decode cX12_look 158 = .ok (.aload_n 0, 1) := by decide +kernel
theorem dX12_look_159 : decode cX12_look 159 = .ok (.getfield 97, 3) := by decide +kernel
theorem dX12_look_162 : decode cX12_look 162 = .ok (.aload_n 0, 1) := by decide +kernel
theorem dX12_look_163 : decode cX12_look 163 = .ok (.getfield 397, 3) := by decide +kernel
theorem dX12_look_166 : decode cX12_look 166 = .ok (.iconst 4, 1) := by decide +kernel
theorem dX12_look_167 : decode cX12_look 167 = .ok (.iastore, 1) := by decide +kernel
theorem dX12_look_168 : decode cX12_look 168 = .ok (.aload_n 0, 1) := by decide +kernel
theorem dX12_look_169 : decode cX12_look 169 = .ok (.aload_n 0, 1) := by decide +kernel
theorem dX12_look_170 : decode cX12_look 170 = .ok (.getfield 103, 3) := by decide +kernel
theorem dX12_look_173 : decode cX12_look 173 = .ok (.aload_n 0, 1) := by decide +kernel
theorem dX12_look_174 : decode cX12_look 174 = .ok (.getfield 397, 3) := by decide +kernel
theorem dX12_look_177 : decode cX12_look 177 = .ok (.iaload, 1) := by decide +kernel
theorem dX12_look_178 : decode cX12_look 178 = .ok (.putfield 406, 3) := by decide +kernel
theorem dX12_look_181 : decode cX12_look 181 = .ok (.aload_n 0, 1) := by decide +kernel
theorem dX12_look_182 : decode cX12_look 182 = .ok (.aload_n 0, 1) := by decide +kernel
theorem dX12_look_183 : decode cX12_look 183 = .ok (.getfield 106, 3) := by decide +kernel
theorem dX12_look_186 : decode cX12_look 186 = .ok (.aload_n 0, 1) := by decide +kernel
theorem dX12_look_187 : decode cX12_look 187 = .ok (.getfield 397, 3) := by decide +kernel
theorem dX12_look_190 : decode cX12_look 190 = .ok (.iaload, 1) := by decide +kernel
theorem dX12_look_191 : decode cX12_look 191 = .ok (.putfield 400, 3) := by decide +kernel
theorem dX12_look_194 : decode cX12_look 194 = .ok (.aload_n 0, 1) := by decide +kernel
theorem dX12_look_195 : decode cX12_look 195 = .ok (.getfield 118, 3) := by decide +kernel
theorem dX12_look_198 : decode cX12_look 198 = .ok (.aload_n 0, 1) := by decide +kernel
theorem dX12_look_199 : decode cX12_look 199 = .ok (.getfield 397, 3) := by decide +kernel
theorem dX12_look_202 : decode cX12_look 202 = .ok (.iconst 0, 1) := by decide +kernel
theorem dX12_look_203 : decode cX12_look 203 = .ok (.iastore, 1) := by decide +kernel
theorem dX12_look_204 : decode cX12_look 204 = .ok (.goto 10, 3) := by decide +kernel
theorem dX12_look_207 : decode cX12_look 207 = .ok (.aload_n 0, 1) := by decide +kernel
theorem dX12_look_208 : decode cX12_look 208 = .ok (.iload_n 1, 1) := by decide +kernel
theorem dX12_look_209 : decode cX12_look 209 = .ok (.iload_n 3, 1) := by decide +kernel
theorem dX12_look_210 : decode cX12_look 210 = .ok (.invokevirtual 437, 3) := by decide +kernel
theorem dX12_look_213 : decode cX12_look 213 = .ok (.ireturn, 1) := by decide +kernel
theorem dX12_look_214 : decode cX12_look 214 = .ok (.aload_n 0, 1) := by decide +kernel
theorem dX12_look_215 : decode cX12_look 215 = .ok (.invokevirtual 440, 3) := by decide +kernel
theorem dX12_look_218 : decode cX12_look 218 = .ok (.ireturn, 1) := by decide +kernel
theorem dX12_openNew_0 : decode cX12_openNew 0 = .ok (.aload_n 0, 1) := by decide +kernel
theorem dX12_openNew_1 : decode cX12_openNew 1 = .ok (.dup, 1) := by decide +kernel
theorem dX12_openNew_2 : decode cX12_openNew 2 = .ok (.getfield 397, 3) := by decide +kernel
theorem dX12_openNew_5 : decode cX12_openNew 5 = .ok (.iconst 1, 1) := by decide +kernel
theorem dX12_openNew_6 : decode cX12_openNew 6 = .ok (.iadd, 1) := by decide +kernel
theorem dX12_openNew_7 : decode cX12_openNew 7 = .ok (.putfield 397, 3) := by decide +kernel
theorem dX12_openNew_10 : decode cX12_openNew 10 = .ok (.aload_n 0, 1) := by decide +kernel
theorem dX12_openNew_11 : decode cX12_openNew 11 = .ok (.getfield 97, 3) := by decide +kernel
theorem dX12_openNew_14 : decode cX12_openNew 14 = .ok (.aload_n 0, 1) := by decide +kernel
theorem dX12_openNew_15 : decode cX12_openNew 15 = .ok (.getfield 397, 3) := by decide +kernel
theorem dX12_openNew_18 : decode cX12_openNew 18 = .ok (.iload_n 1, 1) := by decide +kernel
theorem dX12_openNew_19 : decode cX12_openNew 19 = .ok (.iastore, 1) := by decide +kernel
theorem dX12_openNew_20 : decode cX12_openNew 20 = .ok (.aload_n 0, 1) := by decide +kernel
theorem dX12_openNew_21 : decode cX12_openNew 21 = .ok (.getfield 100, 3) := by decide +kernel
theorem dX12_openNew_24 : decode cX12_openNew 24 = .ok (.aload_n 0, 1) := by decide +kernel
theorem dX12_openNew_25 : decode cX12_openNew 25 = .ok (.getfield 397, 3) := by decide +kernel
theorem dX12_openNew_28 : decode cX12_openNew 28 = .ok (.iload_n 2, 1) := by decide +kernel
theorem dX12_openNew_29 : decode cX12_openNew 29 = .ok (.iastore, 1) := by decide +kernel
theorem dX12_openNew_30 : decode cX12_openNew 30 = .ok (.aload_n 0, 1) := by decide +kernel
theorem dX12_openNew_31 : decode cX12_openNew 31 = .ok (.getfield 103, 3) := by decide +kernel
theorem dX12_openNew_34 : decode cX12_openNew 34 = .ok (.aload_n 0, 1) := by decide +kernel
theorem dX12_openNew_35 : decode cX12_openNew 35 = .ok (.getfield 397, 3) := by decide +kernel
theorem dX12_openNew_38 : decode cX12_openNew 38 = .ok (.aload_n 0, 1) := by decide +kernel
theorem dX12_openNew_39 : decode cX12_openNew 39 = .ok (.getfield 406, 3) := by decide +kernel
theorem dX12_openNew_42 : decode cX12_openNew 42 = .ok (.iastore, 1) := by decide +kernel
theorem dX12_openNew_43 : decode cX12_openNew 43 = .ok (.aload_n 0, 1) := by decide +kernel
theorem dX12_openNew_44 : decode cX12_openNew 44 = .ok (.getfield 106, 3) := by decide +kernel
theorem dX12_openNew_47 : decode cX12_openNew 47 = .ok (.aload_n 0, 1) := by decide +kernel
theorem dX12_openNew_48 : decode cX12_openNew 48 = .ok (.getfield 397, 3) := by decide +kernel
theorem dX12_openNew_51 : decode cX12_openNew 51 = .ok (.aload_n 0, 1) := by decide +kernel
theorem dX12_openNew_52 : decode cX12_openNew 52 = .ok (.getfield 400, 3) := by decide +kernel
theorem dX12_openNew_55 : decode cX12_openNew 55 = .ok (.iastore, 1) := by decide +kernel
theorem dX12_openNew_56 : decode cX12_openNew 56 = .ok (.aload_n 0, 1) := by decide +kernel
theorem dX12_openNew_57 : decode cX12_openNew 57 = .ok (.getfield 118, 3) := by decide +kernel
theorem dX12_openNew_60 : decode cX12_openNew 60 = .ok (.aload_n 0, 1) := by decide +kernel
theorem dX12_openNew_61 : decode cX12_openNew 61 = .ok (.getfield 397, 3) := by decide +kernel
theorem dX12_openNew_64 : decode cX12_openNew 64 = .ok (.iconst 0, 1) := by decide +kernel
theorem dX12_openNew_65 : decode cX12_openNew 65 = .ok (.iastore, 1) := by decide +kernel
theorem dX12_openNew_66 : decode cX12_openNew 66 = .ok (.return_, 1) := by decide +kernel
theorem dX12_close_0 : decode cX12_close 0 = .ok (.aload_n 0, 1) := by decide +kernel
theorem dX12_close_1 : decode cX12_close 1 = .ok (.getfield 97, 3) := by decide +kernel
theorem dX12_close_4 : decode cX12_close 4 = .ok (.aload_n 0, 1) := by decide +kernel
theorem dX12_close_5 : decode cX12_close 5 = .ok (.getfield 397, 3) := by decide +kernel
theorem dX12_close_8 : decode cX12_close 8 = .ok (.iaload, 1) := by decide +kernel
theorem dX12_close_9 : decode cX12_close 9 = .ok (.iconst 4, 1) := by decide +kernel
theorem dX12_close_10 : decode cX12_close 10 = .ok (.if_icmp .ne 7, 3) := by decide +kernel
theorem dX12_close_13 : decode cX12_close 13 = .ok (.iconst 1, 1) := by decide +kernel
theorem dX12_close_14 : decode cX12_close 14 = .ok (.goto 4, 3) := by decide +kernel
theorem dX12_close_17 : decode cX12_close 17 = .ok (.iconst 0, 1) := by decide +kernel
theorem dX12_close_18 : decode cX12_close 18 = .ok (.istore_n 3, 1) := by decide +kernel
theorem dX12_close_19 : decode cX12_close 19 = .ok (.iload_n 3, 1) := by decide +kernel
theorem dX12_close_20 : decode cX12_close 20 = .ok (.ifCond .eq 15, 3) := by decide +kernel
theorem dX12_close_23 : decode cX12_close 23 = .ok (.aload_n 0, 1) := by decide +kernel
theorem dX12_close_24 : decode cX12_close 24 = .ok (.getfield 109, 3) := by decide +kernel
theorem dX12_close_27 : decode cX12_close 27 = .ok (.aload_n 0, 1) := by decide +kernel
theorem dX12_close_28 : decode cX12_close 28 = .ok (.getfield 397, 3) := by decide +kernel
theorem dX12_close_31 : decode cX12_close 31 = .ok (.iaload, 1) := by decide +kernel
theorem dX12_close_32 : decode cX12_close 32 = .ok (.goto 12, 3) := by decide +kernel
theorem dX12_close_35 : decode cX12_close 35 = .ok (.aload_n 0, 1) := by decide +kernel
theorem dX12_close_36 : decode cX12_close 36 = .ok (.getfield 103, 3) := by decide +kernel
theorem dX12_close_39 : decode cX12_close 39 = .ok (.aload_n 0, 1) := by decide +kernel
theorem dX12_close_40 : decode cX12_close 40 = .ok (.getfield 397, 3) := by decide +kernel
theorem dX12_close_43 : decode cX12_close 43 = .ok (.iaload, 1) := by decide +kernel
theorem dX12_close_44 : decode cX12_close 44 = .ok (.istore 4, 2) := by decide +kernel
theorem dX12_close_46 : decode cX12_close 46 = .ok (.iload_n 3, 1) := by decide +kernel
theorem dX12_close_47 : decode cX12_close 47 = .ok (.ifCond .eq 15, 3) := by decide +kernel
theorem dX12_close_50 : decode cX12_close 50 = .ok (.aload_n 0, 1) := by decide +kernel
theorem dX12_close_51 : decode cX12_close 51 = .ok (.getfield 112, 3) := by decide +kernel
theorem dX12_close_54 : decode cX12_close 54 = .ok (.aload_n 0, 1) := by decide +kernel
theorem dX12_close_55 : decode cX12_close 55 = .ok (.getfield 397, 3) := by decide +kernel
theorem dX12_close_58 : decode cX12_close 58 = .ok (.iaload, 1) := by decide +kernel
theorem dX12_close_59 : decode cX12_close 59 = .ok (.goto 12, 3) := by decide +kernel
theorem dX12_close_62 : decode cX12_close 62 = .ok (.aload_n 0, 1) := by decide +kernel
theorem dX12_close_63 : decode cX12_close 63 = .ok (.getfield 106, 3) := by decide +kernel
theorem dX12_close_66 : decode cX12_close 66 = .ok (.aload_n 0, 1) := by decide +kernel
theorem dX12_close_67 : decode cX12_close 67 = .ok (.getfield 397, 3) := by decide +kernel
theorem dX12_close_70 : decode cX12_close 70 = .ok (.iaload, 1) := by decide +kernel
theorem dX12_close_71 : decode cX12_close 71 = .ok (.istore 5, 2) := by decide +kernel
theorem dX12_close_73 : decode cX12_close 73 = .ok (.iload_n 3, 1) := by decide +kernel
theorem dX12_close_74 : decode cX12_close 74 = .ok (.ifCond .eq 15, 3) := by decide +kernel
theorem dX12_close_77 : decode cX12_close 77 = .ok (.aload_n 0, 1) := by decide +kernel
theorem dX12_close_78 : decode cX12_close 78 = .ok (.getfield 115, 3) := by decide +kernel
theorem dX12_close_81 : decode cX12_close 81 = .ok (.aload_n 0, 1) := by decide +kernel
theorem dX12_close_82 : decode cX12_close 82 = .ok (.getfield 397, 3) := by decide +kernel
theorem dX12_close_85 : decode cX12_close 85 = .ok (.iaload, 1) := by decide +kernel
theorem dX12_close_86 : decode cX12_close 86 = .ok (.goto 4, 3) := by decide +kernel
theorem dX12_close_89 : decode cX12_close 89 = .ok (.iconst 0, 1) := by decide +kernel
theorem dX12_close_90 : decode cX12_close 90 = .ok (.istore 6, 2) := by decide +kernel
theorem dX12_close_92 : decode cX12_close 92 = .ok (.aload_n 0, 1) := by decide +kernel
theorem dX12_close_93 : decode cX12_close 93 = .ok (.getfield 118, 3) := by decide +kernel
theorem dX12_close_96 : decode cX12_close 96 = .ok (.aload_n 0, 1) := by decide +kernel
theorem dX12_close_97 : decode cX12_close 97 = .ok (.getfield 397, 3) := by decide +kernel
theorem dX12_close_100 : decode cX12_close 100 = .ok (.iaload, 1) := by decide +kernel
theorem dX12_close_101 : decode cX12_close 101 = .ok (.istore 7, 2) := by decide +kernel
theorem dX12_close_103 : decode cX12_close 103 = .ok (.aload_n 0, 1) := by decide +kernel
theorem dX12_close_104 : decode cX12_close 104 = .ok (.getfield 69, 3) := by decide +kernel
theorem dX12_close_107 : decode cX12_close 107 = .ok (.aload_n 0, 1) := by decide +kernel
theorem dX12_close_108 : decode cX12_close 108 = .ok (.getfield 100, 3) := by decide +kernel
theorem dX12_close_111 : decode cX12_close 111 = .ok (.aload_n 0, 1) := by decide +kernel
theorem dX12_close_112 : decode cX12_close 112 = .ok (.getfield 397, 3) := by decide +kernel
theorem dX12_close_115 : decode cX12_close 115 = .ok (.iaload, 1) := by decide +kernel
theorem dX12_close_116 : decode cX12_close 116 = .ok (.iload_n 2, 1) := by decide +kernel
theorem dX12_close_117 : decode cX12_close 117 = .ok (.iastore, 1) := by decide +kernel
theorem dX12_close_118 : decode cX12_close 118 = .ok (.aload_n 0, 1) := by decide +kernel
theorem dX12_close_119 : decode cX12_close 119 = .ok (.getfield 69, 3) := by decide +kernel
theorem dX12_close_122 : decode cX12_close 122 = .ok (.iload_n 2, 1) := by decide +kernel
theorem dX12_close_123 : decode cX12_close 123 = .ok (.aload_n 0, 1) := by decide +kernel
theorem dX12_close_124 : decode cX12_close 124 = .ok (.getfield 100, 3) := by decide +kernel
theorem dX12_close_127 : decode cX12_close 127 = .ok (.aload_n 0, 1) := by decide +kernel
theorem dX12_close_128 : decode cX12_close 128 = .ok (.getfield 397, 3) := by decide +kernel
theorem dX12_close_131 : decode cX12_close 131 = .ok (.iaload, 1) := by decide +kernel
theorem dX12_close_132 : decode cX12_close 132 = .ok (.iastore, 1) := by decide +kernel
theorem dX12_close_133 : decode cX12_close 133 = .ok (.aload_n 0, 1) := by decide +kernel
theorem dX12_close_134 : decode cX12_close 134 = .ok (.getfield 406, 3) := by decide +kernel
theorem dX12_close_137 : decode cX12_close 137 = .ok (.iload 4, 2) := by decide +kernel
theorem dX12_close_139 : decode cX12_close 139 = .ok (.if_icmp .ne 16, 3) := by decide +kernel
theorem dX12_close_142 : decode cX12_close 142 = .ok (.aload_n 0, 1) := by decide +kernel
theorem dX12_close_143 : decode cX12_close 143 = .ok (.getfield 400, 3) := by decide +kernel
theorem dX12_close_146 : decode cX12_close 146 = .ok (.iload 5, 2) := by decide +kernel
theorem dX12_close_148 : decode cX12_close 148 = .ok (.if_icmp .ne 7, 3) := by decide +kernel
theorem dX12_close_151 : decode cX12_close 151 = .ok (.iconst 1, 1) := by decide +kernel
theorem dX12_close_152 : decode cX12_close 152 = .ok (.goto 4, 3) := by decide +kernel
theorem dX12_close_155 : decode cX12_close 155 = .ok (.iconst 0, 1) := by decide +kernel
theorem dX12_close_156 : decode cX12_close 156 = .ok (.istore 8, 2) := by decide +kernel
theorem dX12_close_158 : decode cX12_close 158 = .ok (.iload_n 1, 1) := by decide +kernel
theorem dX12_close_159 : decode cX12_close 159 = .ok (.bipush 7, 2) := by decide +kernel
theorem dX12_close_161 : decode cX12_close 161 = .ok (.if_icmp .ne 20, 3) := by decide +kernel
theorem dX12_close_164 : decode cX12_close 164 = .ok (.iconst 1, 1) := by decide +kernel
theorem dX12_close_165 : decode cX12_close 165 = .ok (.aload_n 0, 1) := by decide +kernel
theorem dX12_close_166 : decode cX12_close 166 = .ok (.getfield 121, 3) := by decide +kernel
theorem dX12_close_169 : decode cX12_close 169 = .ok (.aload_n 0, 1) := by decide +kernel
theorem dX12_close_170 : decode cX12_close 170 = .ok (.getfield 397, 3) := by decide +kernel
theorem dX12_close_173 : decode cX12_close 173 = .ok (.iaload, 1) := by decide +kernel
theorem dX12_close_174 : decode cX12_close 174 = .ok (.iload 7, 2) := by decide +kernel
theorem dX12_close_176 : decode cX12_close 176 = .ok (.imul, 1) := by decide +kernel
theorem dX12_close_177 : decode cX12_close 177 = .ok (.iadd, 1) := by decide +kernel
theorem dX12_close_178 : decode cX12_close 178 = .ok (.goto 17, 3) := by decide +kernel
theorem dX12_close_181 : decode cX12_close 181 = .ok (.iload 7, 2) := by decide +kernel
theorem dX12_close_183 : decode cX12_close 183 = .ok (.iload 6, 2) := by decide +kernel
theorem dX12_close_185 : decode cX12_close 185 = .ok (.if_icmp .le 8, 3) := by decide +kernel
theorem dX12_close_188 : decode cX12_close 188 = .ok (.iload 7, 2) := by decide +kernel
theorem dX12_close_190 : decode cX12_close 190 = .ok (.goto 5, 3) := by decide +kernel
theorem dX12_close_193 : decode cX12_close 193 = .ok (.iload 6, 2) := by decide +kernel
theorem dX12_close_195 : decode cX12_close 195 = .ok (.istore 9, 2) := by decide +kernel
theorem dX12_close_197 : decode cX12_close 197 = .ok (.aload_n 0, 1) := by decide +kernel
theorem dX12_close_198 : decode cX12_close 198 = .ok (.dup, 1) := by decide +kernel
theorem dX12_close_199 : decode cX12_close 199 = .ok (.getfield 397, 3) := by decide +kernel
theorem dX12_close_202 : decode cX12_close 202 = .ok (.iconst 1, 1) := by decide +kernel
theorem dX12_close_203 : decode cX12_close 203 = .ok (.isub, 1) := by decide +kernel
theorem dX12_close_204 : decode cX12_close 204 = .ok (.putfield 397, 3) := by decide +kernel
theorem dX12_close_207 : decode cX12_close 207 = .ok (.aload_n 0, 1) := by decide +kernel
theorem dX12_close_208 : decode cX12_close 208 = .ok (.getfield 118, 3) := by decide +kernel
theorem dX12_close_211 : decode cX12_close 211 = .ok (.aload_n 0, 1) := by decide +kernel
theorem dX12_close_212 : decode cX12_close 212 = .ok (.getfield 397, 3) := by decide +kernel
theorem dX12_close_215 : decode cX12_close 215 = .ok (.dup2, 1) := by decide +kernel
theorem dX12_close_216 : decode cX12_close 216 = .ok (.iaload, 1) := by decide +kernel
theorem dX12_close_217 : decode cX12_close 217 = .ok (.iload 9, 2) := by decide +kernel
theorem dX12_close_219 : decode cX12_close 219 = .ok (.iadd, 1) := by decide +kernel
theorem dX12_close_220 : decode cX12_close 220 = .ok (.iastore, 1) := by decide +kernel
theorem dX12_close_221 : decode cX12_close 221 = .ok (.iload 8, 2) := by decide +kernel
theorem dX12_close_223 : decode cX12_close 223 = .ok (.ifCond .eq 10, 3) := by decide +kernel
theorem dX12_close_226 : decode cX12_close 226 = .ok (.aload_n 0, 1) := by decide +kernel
theorem dX12_close_227 : decode cX12_close 227 = .ok (.invokevirtual 440, 3) := by decide +kernel
theorem dX12_close_230 : decode cX12_close 230 = .ok (.goto 5, 3) := by decide +kernel
theorem dX12_close_233 : decode cX12_close 233 = .ok (.bipush 6, 2) := by decide +kernel
theorem dX12_close_235 : decode cX12_close 235 = .ok (.ireturn, 1) := by decide +kernel
theorem dX12_lookPlain_0 : decode cX12_lookPlain 0 = .ok (.iload_n 1, 1) := by decide +kernel
theorem dX12_lookPlain_1 : decode cX12_lookPlain 1 = .ok (.ifCond .ne 19, 3) := by decide +kernel
theorem dX12_lookPlain_4 : decode cX12_lookPlain 4 = .ok (.iload_n 2, 1) := by decide +kernel
theorem dX12_lookPlain_5 : decode cX12_lookPlain 5 = .ok (.bipush 8, 2) := by decide +kernel
theorem dX12_lookPlain_7 : decode cX12_lookPlain 7 = .ok (.if_icmp .ne 13, 3) := by decide +kernel
theorem dX12_lookPlain_10 : decode cX12_lookPlain 10 = .ok (.aload_n 0, 1) := by decide +kernel
theorem dX12_lookPlain_11 : decode cX12_lookPlain 11 = .ok (.getfield 400, 3) := by decide +kernel
theorem dX12_lookPlain_14 : decode cX12_lookPlain 14 = .ok (.ifCond .ne 6, 3) := by decide +kernel
theorem dX12_lookPlain_17 : decode cX12_lookPlain 17 = .ok (.bipush 7, 2) := by decide +kernel
theorem dX12_lookPlain_19 : decode cX12_lookPlain 19 = .ok (.ireturn, 1) := by decide +kernel
theorem dX12_lookPlain_20 : decode cX12_lookPlain 20 = .ok (.aload_n 0, 1) := by decide +kernel
theorem dX12_lookPlain_21 : decode cX12_lookPlain 21 = .ok (.getfield 118, 3) := by decide +kernel
theorem dX12_lookPlain_24 : decode cX12_lookPlain 24 = .ok (.aload_n 0, 1) := by decide +kernel
theorem dX12_lookPlain_25 : decode cX12_lookPlain 25 = .ok (.getfield 397, 3) := by decide +kernel
theorem dX12_lookPlain_28 : decode cX12_lookPlain 28 = .ok (.dup2, 1) := by decide +kernel
theorem dX12_lookPlain_29 : decode cX12_lookPlain 29 = .ok (.iaload, 1) := by decide +kernel
theorem dX12_lookPlain_30 : decode cX12_lookPlain 30 = .ok (.iconst 1, 1) := by decide +kernel
theorem dX12_lookPlain_31 : decode cX12_lookPlain 31 = .ok (.iadd, 1) := by decide +kernel
theorem dX12_lookPlain_32 : decode cX12_lookPlain 32 = .ok (.iastore, 1) := by decide +kernel
theorem dX12_lookPlain_33 : decode cX12_lookPlain 33 = .ok (.iload_n 1, 1) := by decide +kernel
theorem dX12_lookPlain_34 : decode cX12_lookPlain 34 = .ok (.ifCond .ne 71, 3) := by decide +kernel
theorem dX12_lookPlain_37 : decode cX12_lookPlain 37 = .ok (.aload_n 0, 1) := by decide +kernel
theorem dX12_lookPlain_38 : decode cX12_lookPlain 38 = .ok (.iload_n 2, 1) := by decide +kernel
theorem dX12_lookPlain_39 : decode cX12_lookPlain 39 = .ok (.invokestatic 443, 3) := by decide +kernel
theorem dX12_lookPlain_42 : decode cX12_lookPlain 42 = .ok (.invokevirtual 431, 3) := by decide +kernel
theorem dX12_lookPlain_45 : decode cX12_lookPlain 45 = .ok (.aload_n 0, 1) := by decide +kernel
theorem dX12_lookPlain_46 : decode cX12_lookPlain 46 = .ok (.iload_n 2, 1) := by decide +kernel
theorem dX12_lookPlain_47 : decode cX12_lookPlain 47 = .ok (.invokestatic 446, 3) := by decide +kernel
theorem dX12_lookPlain_50 : decode cX12_lookPlain 50 = .ok (.invokevirtual 449, 3) := by decide +kernel
theorem dX12_lookPlain_53 : decode cX12_lookPlain 53 = .ok (.aload_n 0, 1) := by decide +kernel
theorem dX12_lookPlain_54 : decode cX12_lookPlain 54 = .ok (.dup, 1) := by decide +kernel
theorem dX12_lookPlain_55 : decode cX12_lookPlain 55 = .ok (.getfield 400, 3) := by decide +kernel
theorem dX12_lookPlain_58 : decode cX12_lookPlain 58 = .ok (.iload_n 2, 1) := by decide +kernel
theorem dX12_lookPlain_59 : decode cX12_lookPlain 59 = .ok (.bipush 7, 2) := by decide +kernel
theorem dX12_lookPlain_61 : decode cX12_lookPlain 61 = .ok (.if_icmp .ne 7, 3) := by decide +kernel
theorem dX12_lookPlain_64 : decode cX12_lookPlain 64 = .ok (.iconst 1, 1) := by decide +kernel
theorem dX12_lookPlain_65 : decode cX12_lookPlain 65 = .ok (.goto 14, 3) := by decide +kernel
theorem dX12_lookPlain_68 : decode cX12_lookPlain 68 = .ok (.iload_n 2, 1) := by decide +kernel
theorem dX12_lookPlain_69 : decode cX12_lookPlain 69 = .ok (.bipush 8, 2) := by decide +kernel
theorem dX12_lookPlain_71 : decode cX12_lookPlain 71 = .ok (.if_icmp .ne 7, 3) := by decide +kernel
theorem dX12_lookPlain_74 : decode cX12_lookPlain 74 = .ok (.iconst (-1), 1) := by decide +kernel
theorem dX12_lookPlain_75 : decode cX12_lookPlain 75 = .ok (.goto 4, 3) := by decide +kernel
theorem dX12_lookPlain_78 : decode cX12_lookPlain 78 = .ok (.iconst 0, 1) := by decide +kernel
theorem dX12_lookPlain_79 : decode cX12_lookPlain 79 = .ok (.iadd, 1) := by decide +kernel
theorem dX12_lookPlain_80 : decode cX12_lookPlain 80 = .ok (.putfield 400, 3) := by decide +kernel
theorem dX12_lookPlain_83 : decode cX12_lookPlain 83 = .ok (.aload_n 0, 1) := by decide +kernel
theorem dX12_lookPlain_84 : decode cX12_lookPlain 84 = .ok (.getfield 400, 3) := by decide +kernel
theorem dX12_lookPlain_87 : decode cX12_lookPlain 87 = .ok (.aload_n 0, 1) := by decide +kernel
theorem dX12_lookPlain_88 : decode cX12_lookPlain 88 = .ok (.getfield 412, 3) := by decide +kernel
theorem dX12_lookPlain_91 : decode cX12_lookPlain 91 = .ok (.if_icmp .le 115, 3) := by decide +kernel
theorem dX12_lookPlain_94 : decode cX12_lookPlain 94 = .ok (.aload_n 0, 1) := by decide +kernel
theorem dX12_lookPlain_95 : decode cX12_lookPlain 95 = .ok (.aload_n 0, 1) := by decide +kernel
theorem dX12_lookPlain_96 : decode cX12_lookPlain 96 = .ok (.getfield 400, 3) := by decide +kernel
theorem dX12_lookPlain_99 : decode cX12_lookPlain 99 = .ok (.putfield 412, 3) := by decide +kernel
theorem dX12_lookPlain_102 : decode cX12_lookPlain 102 = .ok (.goto 104, 3) := by decide +kernel
theorem dX12_lookPlain_105 : decode cX12_lookPlain 105 = .ok (.iload_n 1, 1) := by decide +kernel
theorem dX12_lookPlain_106 : decode cX12_lookPlain 106 = .ok (.iconst 1, 1) := by decide +kernel
theorem dX12_lookPlain_107 : decode cX12_lookPlain 107 = .ok (.if_icmp .ne 11, 3) := by decide +kernel
theorem dX12_lookPlain_110 : decode cX12_lookPlain 110 = .ok (.aload_n 0, 1) := by decide +kernel
theorem dX12_lookPlain_111 : decode cX12_lookPlain 111 = .ok (.iconst 1, 1) := by decide +kernel
theorem dX12_lookPlain_112 : decode cX12_lookPlain 112 = .ok (.invokevirtual 449, 3) := by decide +kernel
theorem dX12_lookPlain_115 : decode cX12_lookPlain 115 = .ok (.goto 91, 3) := by decide +kernel
theorem dX12_lookPlain_118 : decode cX12_lookPlain 118 = .ok (.bipush 6, 2) := by decide +kernel
theorem dX12_lookPlain_120 : decode cX12_lookPlain 120 = .ok (.aload_n 0, 1) := by decide +kernel
theorem dX12_lookPlain_121 : decode cX12_lookPlain 121 = .ok (.getfield 421, 3) := by decide +kernel
theorem dX12_lookPlain_124 : decode cX12_lookPlain 124 = .ok (.imul, 1) := by decide +kernel
theorem dX12_lookPlain_125 : decode cX12_lookPlain 125 = .ok (.iload_n 2, 1) := by decide +kernel
theorem dX12_lookPlain_126 : decode cX12_lookPlain 126 = .ok (.iadd, 1) := by decide +kernel
theorem dX12_lookPlain_127 : decode cX12_lookPlain 127 = .ok (.istore_n 3, 1) := by decide +kernel
theorem dX12_lookPlain_128 : decode cX12_lookPlain 128 = .ok (.aload_n 0, 1) := by decide +kernel
theorem dX12_lookPlain_129 : decode cX12_lookPlain 129 = .ok (.getfield 406, 3) := by decide +kernel
theorem dX12_lookPlain_132 : decode cX12_lookPlain 132 = .ok (.aload_n 0, 1) := by decide +kernel
theorem dX12_lookPlain_133 : decode cX12_lookPlain 133 = .ok (.getfield 51, 3) := by decide +kernel
theorem dX12_lookPlain_136 : decode cX12_lookPlain 136 = .ok (.iload_n 3, 1) := by decide +kernel
theorem dX12_lookPlain_137 : decode cX12_lookPlain 137 = .ok (.iaload, 1) := by decide +kernel
theorem dX12_lookPlain_138 : decode cX12_lookPlain 138 = .ok (.iadd, 1) := by decide +kernel
theorem dX12_lookPlain_139 : decode cX12_lookPlain 139 = .ok (.aload_n 0, 1) := by decide +kernel
theorem dX12_lookPlain_140 : decode cX12_lookPlain 140 = .ok (.getfield 409, 3) := by decide +kernel
theorem dX12_lookPlain_143 : decode cX12_lookPlain 143 = .ok (.if_icmp .le 18, 3) := by decide +kernel
theorem dX12_lookPlain_146 : decode cX12_lookPlain 146 = .ok (.aload_n 0, 1) := by decide +kernel
theorem dX12_lookPlain_147 : decode cX12_lookPlain 147 = .ok (.aload_n 0, 1) := by decide +kernel
theorem dX12_lookPlain_148 : decode cX12_lookPlain 148 = .ok (.getfield 406, 3) := by decide +kernel
theorem dX12_lookPlain_151 : decode cX12_lookPlain 151 = .ok (.aload_n 0, 1) := by decide +kernel
theorem dX12_lookPlain_152 : decode cX12_lookPlain 152 = .ok (.getfield 51, 3) := by decide +kernel
theorem dX12_lookPlain_155 : decode cX12_lookPlain 155 = .ok (.iload_n 3, 1) := by decide +kernel
theorem dX12_lookPlain_156 : decode cX12_lookPlain 156 = .ok (.iaload, 1) := by decide +kernel
theorem dX12_lookPlain_157 : decode cX12_lookPlain 157 = .ok (.iadd, 1) := by decide +kernel
theorem dX12_lookPlain_158 : decode cX12_lookPlain 158 = .ok (.putfield 409, 3) := by decide +kernel
theorem dX12_lookPlain_161 : decode cX12_lookPlain 161 = .ok (.aload_n 0, 1) := by decide +kernel
theorem dX12_lookPlain_162 : decode cX12_lookPlain 162 = .ok (.getfield 118, 3) := by decide +kernel
theorem dX12_lookPlain_165 : decode cX12_lookPlain 165 = .ok (.aload_n 0, 1) := by decide +kernel
theorem dX12_lookPlain_166 : decode cX12_lookPlain 166 = .ok (.getfield 397, 3) := by decide +kernel
theorem dX12_lookPlain_169 : decode cX12_lookPlain 169 = .ok (.dup2, 1) := by decide +kernel
theorem dX12_lookPlain_170 : decode cX12_lookPlain 170 = .ok (.iaload, 1) := by decide +kernel
theorem dX12_lookPlain_171 : decode cX12_lookPlain 171 = .ok (.aload_n 0, 1) := by decide +kernel
theorem dX12_lookPlain_172 : decode cX12_lookPlain 172 = .ok (.getfield 57, 3) := by decide +kernel
theorem dX12_lookPlain_175 : decode cX12_lookPlain 175 = .ok (.iload_n 3, 1) := by decide +kernel
theorem dX12_lookPlain_176 : decode cX12_lookPlain 176 = .ok (.iaload, 1) := by decide +kernel
theorem dX12_lookPlain_177 : decode cX12_lookPlain 177 = .ok (.iadd, 1) := by decide +kernel
theorem dX12_lookPlain_178 : decode cX12_lookPlain 178 = .ok (.iastore, 1) := by decide +kernel
theorem dX12_lookPlain_179 : decode cX12_lookPlain 179 = .ok (.aload_n 0, 1) := by decide +kernel
theorem dX12_lookPlain_180 : decode cX12_lookPlain 180 = .ok (.aload_n 0, 1) := by decide +kernel
theorem dX12_lookPlain_181 : decode cX12_lookPlain 181 = .ok (.getfield 45, 3) := by decide +kernel
theorem dX12_lookPlain_184 : decode cX12_lookPlain 184 = .ok (.iload_n 3, 1) := by decide +kernel
theorem dX12_lookPlain_185 : decode cX12_lookPlain 185 = .ok (.iaload, 1) := by decide +kernel
theorem dX12_lookPlain_186 : decode cX12_lookPlain 186 = .ok (.invokevirtual 431, 3) := by decide +kernel
theorem dX12_lookPlain_189 : decode cX12_lookPlain 189 = .ok (.aload_n 0, 1) := by decide +kernel
theorem dX12_lookPlain_190 : decode cX12_lookPlain 190 = .ok (.aload_n 0, 1) := by decide +kernel
theorem dX12_lookPlain_191 : decode cX12_lookPlain 191 = .ok (.getfield 45, 3) := by decide +kernel
theorem dX12_lookPlain_194 : decode cX12_lookPlain 194 = .ok (.iload_n 3, 1) := by decide +kernel
theorem dX12_lookPlain_195 : decode cX12_lookPlain 195 = .ok (.iaload, 1) := by decide +kernel
theorem dX12_lookPlain_196 : decode cX12_lookPlain 196 = .ok (.aload_n 0, 1) := by decide +kernel
theorem dX12_lookPlain_197 : decode cX12_lookPlain 197 = .ok (.getfield 48, 3) := by decide +kernel
theorem dX12_lookPlain_200 : decode cX12_lookPlain 200 = .ok (.iload_n 3, 1) := by decide +kernel
theorem dX12_lookPlain_201 : decode cX12_lookPlain 201 = .ok (.iaload, 1) := by decide +kernel
theorem dX12_lookPlain_202 : decode cX12_lookPlain 202 = .ok (.iadd, 1) := by decide +kernel
theorem dX12_lookPlain_203 : decode cX12_lookPlain 203 = .ok (.invokevirtual 449, 3) := by decide +kernel
theorem dX12_lookPlain_206 : decode cX12_lookPlain 206 = .ok (.aload_n 0, 1) := by decide +kernel
theorem dX12_lookPlain_207 : decode cX12_lookPlain 207 = .ok (.invokevirtual 440, 3) := by decide +kernel
theorem dX12_lookPlain_210 : decode cX12_lookPlain 210 = .ok (.ireturn, 1) := by decide +kernel
theorem dX12_tooFar_0 : decode cX12_tooFar 0 = .ok (.aload_n 0, 1) := by decide +kernel
theorem dX12_tooFar_1 : decode cX12_tooFar 1 = .ok (.getfield 403, 3) := by decide +kernel
theorem dX12_tooFar_4 : decode cX12_tooFar 4 = .ok (.bipush 6, 2) := by decide +kernel
theorem dX12_tooFar_6 : decode cX12_tooFar 6 = .ok (.if_icmp .gt 21, 3) := by decide +kernel
theorem dX12_tooFar_9 : decode cX12_tooFar 9 = .ok (.aload_n 0, 1) := by decide +kernel
theorem dX12_tooFar_10 : decode cX12_tooFar 10 = .ok (.getfield 409, 3) := by decide +kernel
theorem dX12_tooFar_13 : decode cX12_tooFar 13 = .ok (.bipush 12, 2) := by decide +kernel
theorem dX12_tooFar_15 : decode cX12_tooFar 15 = .ok (.if_icmp .gt 12, 3) := by decide +kernel
theorem dX12_tooFar_18 : decode cX12_tooFar 18 = .ok (.aload_n 0, 1) := by decide +kernel
theorem dX12_tooFar_19 : decode cX12_tooFar 19 = .ok (.getfield 400, 3) := by decide +kernel
theorem dX12_tooFar_22 : decode cX12_tooFar 22 = .ok (.bipush 6, 2) := by decide +kernel
theorem dX12_tooFar_24 : decode cX12_tooFar 24 = .ok (.if_icmp .le 8, 3) := by decide +kernel
theorem dX12_tooFar_27 : decode cX12_tooFar 27 = .ok (.bipush 7, 2) := by decide +kernel
theorem dX12_tooFar_29 : decode cX12_tooFar 29 = .ok (.goto 4, 3) := by decide +kernel
theorem dX12_tooFar_32 : decode cX12_tooFar 32 = .ok (.iconst 0, 1) := by decide +kernel
theorem dX12_tooFar_33 : decode cX12_tooFar 33 = .ok (.ireturn, 1) := by decide +kernel
theorem dX12_readRule_0 : decode cX12_readRule 0 = .ok (.aload_n 0, 1) := by decide +kernel
theorem dX12_readRule_1 : decode cX12_readRule 1 = .ok (.getfield 36, 3) := by decide +kernel
theorem dX12_readRule_4 : decode cX12_readRule 4 = .ok (.aload_n 0, 1) := by decide +kernel
theorem dX12_readRule_5 : decode cX12_readRule 5 = .ok (.getfield 340, 3) := by decide +kernel
theorem dX12_readRule_8 : decode cX12_readRule 8 = .ok (.dup2, 1) := by decide +kernel
theorem dX12_readRule_9 : decode cX12_readRule 9 = .ok (.iaload, 1) := by decide +kernel
theorem dX12_readRule_10 : decode cX12_readRule 10 = .ok (.iconst 1, 1) := by decide +kernel
theorem dX12_readRule_11 : decode cX12_readRule 11 = .ok (.ior, 1) := by decide +kernel
theorem dX12_readRule_12 : decode cX12_readRule 12 = .ok (.iastore, 1) := by decide +kernel
theorem dX12_readRule_13 : decode cX12_readRule 13 = .ok (.aload_n 0, 1) := by decide +kernel
theorem dX12_readRule_14 : decode cX12_readRule 14 = .ok (.iconst 0, 1) := by decide +kernel
theorem dX12_readRule_15 : decode cX12_readRule 15 = .ok (.putfield 452, 3) := by decide +kernel
theorem dX12_readRule_18 : decode cX12_readRule 18 = .ok (.aload_n 0, 1) := by decide +kernel
theorem dX12_readRule_19 : decode cX12_readRule 19 = .ok (.getfield 72, 3) := by decide +kernel
theorem dX12_readRule_22 : decode cX12_readRule 22 = .ok (.aload_n 0, 1) := by decide +kernel
theorem dX12_readRule_23 : decode cX12_readRule 23 = .ok (.getfield 340, 3) := by decide +kernel
theorem dX12_readRule_26 : decode cX12_readRule 26 = .ok (.aload_n 0, 1) := by decide +kernel
theorem dX12_readRule_27 : decode cX12_readRule 27 = .ok (.getfield 343, 3) := by decide +kernel
theorem dX12_readRule_30 : decode cX12_readRule 30 = .ok (.iastore, 1) := by decide +kernel
theorem dX12_readRule_31 : decode cX12_readRule 31 = .ok (.aload_n 0, 1) := by decide +kernel
theorem dX12_readRule_32 : decode cX12_readRule 32 = .ok (.invokevirtual 455, 3) := by decide +kernel
theorem dX12_readRule_35 : decode cX12_readRule 35 = .ok (.aload_n 0, 1) := by decide +kernel
theorem dX12_readRule_36 : decode cX12_readRule 36 = .ok (.getfield 75, 3) := by decide +kernel
theorem dX12_readRule_39 : decode cX12_readRule 39 = .ok (.aload_n 0, 1) := by decide +kernel
theorem dX12_readRule_40 : decode cX12_readRule 40 = .ok (.getfield 340, 3) := by decide +kernel
theorem dX12_readRule_43 : decode cX12_readRule 43 = .ok (.aload_n 0, 1) := by decide +kernel
theorem dX12_readRule_44 : decode cX12_readRule 44 = .ok (.getfield 343, 3) := by decide +kernel
theorem dX12_readRule_47 : decode cX12_readRule 47 = .ok (.iastore, 1) := by decide +kernel
theorem dX12_readRule_48 : decode cX12_readRule 48 = .ok (.return_, 1) := by decide +kernel
theorem dX12_emit_0 : decode cX12_emit 0 = .ok (.aload_n 0, 1) := by decide +kernel
theorem dX12_emit_1 : decode cX12_emit 1 = .ok (.getfield 82, 3) := by decide +kernel
theorem dX12_emit_4 : decode cX12_emit 4 = .ok (.aload_n 0, 1) := by decide +kernel
theorem dX12_emit_5 : decode cX12_emit 5 = .ok (.getfield 343, 3) := by decide +kernel
theorem dX12_emit_8 : decode cX12_emit 8 = .ok (.iload_n 1, 1) := by decide +kernel
theorem dX12_emit_9 : decode cX12_emit 9 = .ok (.iastore, 1) := by decide +kernel
theorem dX12_emit_10 : decode cX12_emit 10 = .ok (.aload_n 0, 1) := by decide +kernel
theorem dX12_emit_11 : decode cX12_emit 11 = .ok (.getfield 85, 3) := by decide +kernel
theorem dX12_emit_14 : decode cX12_emit 14 = .ok (.aload_n 0, 1) := by decide +kernel
theorem dX12_emit_15 : decode cX12_emit 15 = .ok (.getfield 343, 3) := by decide +kernel
theorem dX12_emit_18 : decode cX12_emit 18 = .ok (.iload_n 2, 1) := by decide +kernel
theorem dX12_emit_19 : decode cX12_emit 19 = .ok (.iastore, 1) := by decide +kernel
theorem dX12_emit_20 : decode cX12_emit 20 = .ok (.aload_n 0, 1) := by decide +kernel
theorem dX12_emit_21 : decode cX12_emit 21 = .ok (.dup, 1) := by decide +kernel
theorem dX12_emit_22 : decode cX12_emit 22 = .ok (.getfield 343, 3) := by decide +kernel
theorem dX12_emit_25 : decode cX12_emit 25 = .ok (.iconst 1, 1) := by decide +kernel
theorem dX12_emit_26 : decode cX12_emit 26 = .ok (.iadd, 1) := by decide +kernel
theorem dX12_emit_27 : decode cX12_emit 27 = .ok (.putfield 343, 3) := by decide +kernel
theorem dX12_emit_30 : decode cX12_emit 30 = .ok (.return_, 1) := by decide +kernel
theorem dX12_pushE_0 : decode cX12_pushE 0 = .ok (.aload_n 0, 1) := by decide +kernel
theorem dX12_pushE_1 : decode cX12_pushE 1 = .ok (.getfield 88, 3) := by decide +kernel
theorem dX12_pushE_4 : decode cX12_pushE 4 = .ok (.aload_n 0, 1) := by decide +kernel
theorem dX12_pushE_5 : decode cX12_pushE 5 = .ok (.getfield 458, 3) := by decide +kernel
theorem dX12_pushE_8 : decode cX12_pushE 8 = .ok (.iload_n 1, 1) := by decide +kernel
theorem dX12_pushE_9 : decode cX12_pushE 9 = .ok (.iastore, 1) := by decide +kernel
theorem dX12_pushE_10 : decode cX12_pushE 10 = .ok (.aload_n 0, 1) := by decide +kernel
theorem dX12_pushE_11 : decode cX12_pushE 11 = .ok (.getfield 91, 3) := by decide +kernel
theorem dX12_pushE_14 : decode cX12_pushE 14 = .ok (.aload_n 0, 1) := by decide +kernel
theorem dX12_pushE_15 : decode cX12_pushE 15 = .ok (.getfield 458, 3) := by decide +kernel
theorem dX12_pushE_18 : decode cX12_pushE 18 = .ok (.iload_n 2, 1) := by decide +kernel
theorem dX12_pushE_19 : decode cX12_pushE 19 = .ok (.iastore, 1) := by decide +kernel
theorem dX12_pushE_20 : decode cX12_pushE 20 = .ok (.aload_n 0, 1) := by decide +kernel
theorem dX12_pushE_21 : decode cX12_pushE 21 = .ok (.dup, 1) := by decide +kernel
theorem dX12_pushE_22 : decode cX12_pushE 22 = .ok (.getfield 458, 3) := by decide +kernel
theorem dX12_pushE_25 : decode cX12_pushE 25 = .ok (.iconst 1, 1) := by decide +kernel
theorem dX12_pushE_26 : decode cX12_pushE 26 = .ok (.iadd, 1) := by decide +kernel
theorem dX12_pushE_27 : decode cX12_pushE 27 = .ok (.putfield 458, 3) := by decide +kernel
theorem dX12_pushE_30 : decode cX12_pushE 30 = .ok (.return_, 1) := by decide +kernel
theorem dX12_e_0 : decode cX12_e 0 = .ok (.aload_n 0, 1) := by decide +kernel
theorem dX12_e_1 : decode cX12_e 1 = .ok (.iconst 0, 1) := by decide +kernel
theorem dX12_e_2 : decode cX12_e 2 = .ok (.putfield 458, 3) := by decide +kernel
theorem dX12_e_5 : decode cX12_e 5 = .ok (.aload_n 0, 1) := by decide +kernel
theorem dX12_e_6 : decode cX12_e 6 = .ok (.iconst 0, 1) := by decide +kernel
theorem dX12_e_7 : decode cX12_e 7 = .ok (.putfield 461, 3) := by decide +kernel
theorem dX12_e_10 : decode cX12_e 10 = .ok (.aload_n 0, 1) := by decide +kernel
theorem dX12_e_11 : decode cX12_e 11 = .ok (.bipush 8, 2) := by decide +kernel
theorem dX12_e_13 : decode cX12_e 13 = .ok (.iconst 0, 1) := by decide +kernel
theorem dX12_e_14 : decode cX12_e 14 = .ok (.invokevirtual 464, 3) := by decide +kernel
theorem dX12_e_17 : decode cX12_e 17 = .ok (.iconst 1, 1) := by decide +kernel
theorem dX12_e_18 : decode cX12_e 18 = .ok (.istore_n 1, 1) := by decide +kernel
theorem dX12_e_19 : decode cX12_e 19 = .ok (.aload_n 0, 1) := by decide +kernel
theorem dX12_e_20 : decode cX12_e 20 = .ok (.invokevirtual 330, 3) := by decide +kernel
theorem dX12_e_23 : decode cX12_e 23 = .ok (.ifCond .eq 29, 3) := by decide +kernel
theorem dX12_e_26 : decode cX12_e 26 = .ok (.aload_n 0, 1) := by decide +kernel
theorem dX12_e_27 : decode cX12_e 27 = .ok (.getfield 458, 3) := by decide +kernel
theorem dX12_e_30 : decode cX12_e 30 = .ok (.ifCond .le 22, 3) := by decide +kernel
theorem dX12_e_33 : decode cX12_e 33 = .ok (.iload_n 1, 1) := by decide +kernel
theorem dX12_e_34 : decode cX12_e 34 = .ok (.ifCond .eq 10, 3) := by decide +kernel
theorem dX12_e_37 : decode cX12_e 37 = .ok (.aload_n 0, 1) := by decide +kernel
theorem dX12_e_38 : decode cX12_e 38 = .ok (.invokevirtual 467, 3) := by decide +kernel
theorem dX12_e_41 : decode cX12_e 41 = .ok (.goto 7, 3) := by decide +kernel
theorem dX12_e_44 : decode cX12_e 44 = .ok (.aload_n 0, 1) := by decide +kernel
theorem dX12_e_45 : decode cX12_e 45 = .ok (.invokevirtual 470, 3) := by decide +kernel
theorem dX12_e_48 : decode cX12_e 48 = .ok (.istore_n 1, 1) := by decide +kernel
theorem dX12_e_49 : decode cX12_e 49 = .ok (.goto (-30), 3) := by decide +kernel
theorem dX12_e_52 : decode cX12_e 52 = .ok (.return_, 1) := by decide +kernel
theorem dX12_wordHere_0 : decode cX12_wordHere 0 = .ok (.aload_n 0, 1) := by decide +kernel
theorem dX12_wordHere_1 : decode cX12_wordHere 1 = .ok (.ldc2_w 248, 3) := by decide +kernel
theorem dX12_wordHere_4 : decode cX12_wordHere 4 = .ok (.invokevirtual 355, 3) := by decide +kernel
theorem dX12_wordHere_7 : decode cX12_wordHere 7 = .ok (.ifCond .eq 6, 3) := by decide +kernel
theorem dX12_wordHere_10 : decode cX12_wordHere 10 = .ok (.bipush 102, 2) := by decide +kernel
theorem dX12_wordHere_12 : decode cX12_wordHere 12 = .ok (.ireturn, 1) := by decide +kernel
theorem dX12_wordHere_13 : decode cX12_wordHere 13 = .ok (.aload_n 0, 1) := by decide +kernel
theorem dX12_wordHere_14 : decode cX12_wordHere 14 = .ok (.ldc2_w 250, 3) := by decide +kernel
theorem dX12_wordHere_17 : decode cX12_wordHere 17 = .ok (.invokevirtual 355, 3) := by decide +kernel
theorem dX12_wordHere_20 : decode cX12_wordHere 20 = .ok (.ifCond .eq 8, 3) := by decide +kernel
theorem dX12_wordHere_23 : decode cX12_wordHere 23 = .ok (.bipush 107, 2) := by decide +kernel
theorem dX12_wordHere_25 : decode cX12_wordHere 25 = .ok (.goto 4, 3) := by decide +kernel
theorem dX12_wordHere_28 : decode cX12_wordHere 28 = .ok (.iconst 0, 1) := by decide +kernel
theorem dX12_wordHere_29 : decode cX12_wordHere 29 = .ok (.ireturn, 1) := by decide +kernel
theorem dX12_unit_0 : decode cX12_unit 0 = .ok (.aload_n 0, 1) := by decide +kernel
theorem dX12_unit_1 : decode cX12_unit 1 = .ok (.getfield 88, 3) := by decide +kernel
theorem dX12_unit_4 : decode cX12_unit 4 = .ok (.aload_n 0, 1) := by decide +kernel
theorem dX12_unit_5 : decode cX12_unit 5 = .ok (.getfield 458, 3) := by decide +kernel
theorem dX12_unit_8 : decode cX12_unit 8 = .ok (.iconst 1, 1) := by decide +kernel
theorem dX12_unit_9 : decode cX12_unit 9 = .ok (.isub, 1) := by decide +kernel
theorem dX12_unit_10 : decode cX12_unit 10 = .ok (.iaload, 1) := by decide +kernel
theorem dX12_unit_11 : decode cX12_unit 11 = .ok (.iconst 3, 1) := by decide +kernel
theorem dX12_unit_12 : decode cX12_unit 12 = .ok (.if_icmp .le 19, 3) := by decide +kernel
theorem dX12_unit_15 : decode cX12_unit 15 = .ok (.aload_n 0, 1) := by decide +kernel
theorem dX12_unit_16 : decode cX12_unit 16 = .ok (.getfield 88, 3) := by decide +kernel
theorem dX12_unit_19 : decode cX12_unit 19 = .ok (.aload_n 0, 1) := by decide +kernel
theorem dX12_unit_20 : decode cX12_unit 20 = .ok (.getfield 458, 3) := by decide +kernel
theorem dX12_unit_23 : decode cX12_unit 23 = .ok (.iconst 1, 1) := by decide +kernel
theorem dX12_unit_24 : decode cX12_unit 24 = .ok (.isub, 1) := by decide +kernel
theorem dX12_unit_25 : decode cX12_unit 25 = .ok (.iaload, 1) := by decide +kernel
theorem dX12_unit_26 : decode cX12_unit 26 = .ok (.bipush 7, 2) := by decide +kernel
theorem dX12_unit_28 : decode cX12_unit 28 = .ok (.if_icmp .lt 7, 3) := by decide +kernel
theorem dX12_unit_31 : decode cX12_unit 31 = .ok (.iconst 1, 1) := by decide +kernel
theorem dX12_unit_32 : decode cX12_unit 32 = .ok (.goto 4, 3) := by decide +kernel
theorem dX12_unit_35 : decode cX12_unit 35 = .ok (.iconst 0, 1) := by decide +kernel
theorem dX12_unit_36 : decode cX12_unit 36 = .ok (.istore_n 1, 1) := by decide +kernel
theorem dX12_unit_37 : decode cX12_unit 37 = .ok (.iload_n 1, 1) := by decide +kernel
theorem dX12_unit_38 : decode cX12_unit 38 = .ok (.ifCond .eq 17, 3) := by decide +kernel
theorem dX12_unit_41 : decode cX12_unit 41 = .ok (.aload_n 0, 1) := by decide +kernel
theorem dX12_unit_42 : decode cX12_unit 42 = .ok (.ldc2_w 256, 3) := by decide +kernel
theorem dX12_unit_45 : decode cX12_unit 45 = .ok (.invokevirtual 355, 3) := by decide +kernel
theorem dX12_unit_48 : decode cX12_unit 48 = .ok (.ifCond .eq 7, 3) := by decide +kernel
theorem dX12_unit_51 : decode cX12_unit 51 = .ok (.iconst 1, 1) := by decide +kernel
theorem dX12_unit_52 : decode cX12_unit 52 = .ok (.goto 4, 3) := by decide +kernel
theorem dX12_unit_55 : decode cX12_unit 55 = .ok (.iconst 0, 1) := by decide +kernel
theorem dX12_unit_56 : decode cX12_unit 56 = .ok (.istore_n 2, 1) := by decide +kernel
theorem dX12_unit_57 : decode cX12_unit 57 = .ok (.aload_n 0, 1) := by decide +kernel
theorem dX12_unit_58 : decode cX12_unit 58 = .ok (.bipush 40, 2) := by decide +kernel
theorem dX12_unit_60 : decode cX12_unit 60 = .ok (.invokevirtual 379, 3) := by decide +kernel
theorem dX12_unit_63 : decode cX12_unit 63 = .ok (.istore_n 3, 1) := by decide +kernel
theorem dX12_unit_64 : decode cX12_unit 64 = .ok (.aload_n 0, 1) := by decide +kernel
theorem dX12_unit_65 : decode cX12_unit 65 = .ok (.invokevirtual 473, 3) := by decide +kernel
theorem dX12_unit_68 : decode cX12_unit 68 = .ok (.istore 4, 2) := by decide +kernel
theorem dX12_unit_70 : decode cX12_unit 70 = .ok (.aload_n 0, 1) := by decide +kernel
theorem dX12_unit_71 : decode cX12_unit 71 = .ok (.getfield 27, 3) := by decide +kernel
theorem dX12_unit_74 : decode cX12_unit 74 = .ok (.aload_n 0, 1) := by decide +kernel
theorem dX12_unit_75 : decode cX12_unit 75 = .ok (.getfield 340, 3) := by decide +kernel
theorem dX12_unit_78 : decode cX12_unit 78 = .ok (.iaload, 1) := by decide +kernel
theorem dX12_unit_79 : decode cX12_unit 79 = .ok (.bipush 60, 2) := by decide +kernel
theorem dX12_unit_81 : decode cX12_unit 81 = .ok (.if_icmp .eq 12, 3) := by decide +kernel
theorem dX12_unit_84 : decode cX12_unit 84 = .ok (.aload_n 0, 1) := by decide +kernel
theorem dX12_unit_85 : decode cX12_unit 85 = .ok (.getfield 452, 3) := by decide +kernel
theorem dX12_unit_88 : decode cX12_unit 88 = .ok (.bipush 30, 2) := by decide +kernel
theorem dX12_unit_90 : decode cX12_unit 90 = .ok (.if_icmp .ne 7, 3) := by decide +kernel
theorem dX12_unit_93 : decode cX12_unit 93 = .ok (.iconst 1, 1) := by decide +kernel
theorem dX12_unit_94 : decode cX12_unit 94 = .ok (.goto 4, 3) := by decide +kernel
theorem dX12_unit_97 : decode cX12_unit 97 = .ok (.iconst 0, 1) := by decide +kernel
theorem dX12_unit_98 : decode cX12_unit 98 = .ok (.istore 5, 2) := by decide +kernel
theorem dX12_unit_100 : decode cX12_unit 100 = .ok (.iload_n 2, 1) := by decide +kernel
theorem dX12_unit_101 : decode cX12_unit 101 = .ok (.ifCond .ne 25, 3) := by decide +kernel
theorem dX12_unit_104 : decode cX12_unit 104 = .ok (.iload 4, 2) := by decide +kernel
theorem dX12_unit_106 : decode cX12_unit 106 = .ok (.ifCond .ne 15, 3) := by decide +kernel
theorem dX12_unit_109 : decode cX12_unit 109 = .ok (.aload_n 0, 1) := by decide +kernel
theorem dX12_unit_110 : decode cX12_unit 110 = .ok (.getfield 302, 3) := by decide +kernel
theorem dX12_unit_113 : decode cX12_unit 113 = .ok (.iconst 4, 1) := by decide +kernel
theorem dX12_unit_114 : decode cX12_unit 114 = .ok (.if_icmp .eq 7, 3) := by decide +kernel
theorem dX12_unit_117 : decode cX12_unit 117 = .ok (.iload_n 3, 1) := by decide +kernel
theorem dX12_unit_118 : decode cX12_unit 118 = .ok (.ifCond .eq 25, 3) := by decide +kernel
theorem dX12_unit_121 : decode cX12_unit 121 = .ok (.iload 5, 2) := by decide +kernel
theorem dX12_unit_123 : decode cX12_unit 123 = .ok (.ifCond .ne 20, 3) := by decide +kernel
theorem dX12_unit_126 : decode cX12_unit 126 = .ok (.iload_n 2, 1) := by decide +kernel
theorem dX12_unit_127 : decode cX12_unit 127 = .ok (.ifCond .ne 7, 3) := by decide +kernel
theorem dX12_unit_130 : decode cX12_unit 130 = .ok (.iload_n 3, 1) := by decide +kernel
theorem dX12_unit_131 : decode cX12_unit 131 = .ok (.ifCond .eq 16, 3) := by decide +kernel
theorem dX12_unit_134 : decode cX12_unit 134 = .ok (.aload_n 0, 1) := by decide +kernel
theorem dX12_unit_135 : decode cX12_unit 135 = .ok (.getfield 461, 3) := by decide +kernel
theorem dX12_unit_138 : decode cX12_unit 138 = .ok (.bipush 7, 2) := by decide +kernel
theorem dX12_unit_140 : decode cX12_unit 140 = .ok (.if_icmp .ne 7, 3) := by decide +kernel
theorem dX12_unit_143 : decode cX12_unit 143 = .ok (.aload_n 0, 1) := by decide +kernel
theorem dX12_unit_144 : decode cX12_unit 144 = .ok (.invokevirtual 337, 3) := by decide +kernel
theorem dX12_unit_147 : decode cX12_unit 147 = .ok (.aload_n 0, 1) := by decide +kernel
theorem dX12_unit_148 : decode cX12_unit 148 = .ok (.invokevirtual 330, 3) := by decide +kernel
theorem dX12_unit_151 : decode cX12_unit 151 = .ok (.ifCond .ne 5, 3) := by decide +kernel
theorem dX12_unit_154 : decode cX12_unit 154 = .ok (.iconst 1, 1) := by decide +kernel
theorem dX12_unit_155 : decode cX12_unit 155 = .ok (.ireturn, 1) := by decide +kernel
theorem dX12_unit_156 : decode cX12_unit 156 = .ok (.aload_n 0, 1) := by decide +kernel
theorem dX12_unit_157 : decode cX12_unit 157 = .ok (.getfield 27, 3) := by decide +kernel
theorem dX12_unit_160 : decode cX12_unit 160 = .ok (.aload_n 0, 1) := by decide +kernel
theorem dX12_unit_161 : decode cX12_unit 161 = .ok (.getfield 340, 3) := by decide +kernel
theorem dX12_unit_164 : decode cX12_unit 164 = .ok (.dup2, 1) := by decide +kernel
theorem dX12_unit_165 : decode cX12_unit 165 = .ok (.iaload, 1) := by decide +kernel
theorem dX12_unit_166 : decode cX12_unit 166 = .ok (.iload_n 2, 1) := by decide +kernel
theorem dX12_unit_167 : decode cX12_unit 167 = .ok (.ifCond .eq 7, 3) := by decide +kernel
theorem dX12_unit_170 : decode cX12_unit 170 = .ok (.iconst 0, 1) := by decide +kernel
theorem dX12_unit_171 : decode cX12_unit 171 = .ok (.goto 4, 3) := by decide +kernel
theorem dX12_unit_174 : decode cX12_unit 174 = .ok (.iconst 1, 1) := by decide +kernel
theorem dX12_unit_175 : decode cX12_unit 175 = .ok (.iadd, 1) := by decide +kernel
theorem dX12_unit_176 : decode cX12_unit 176 = .ok (.iastore, 1) := by decide +kernel
theorem dX12_unit_177 : decode cX12_unit 177 = .ok (.aload_n 0, 1) := by decide +kernel
theorem dX12_unit_178 : decode cX12_unit 178 = .ok (.dup, 1) := by decide +kernel
theorem dX12_unit_179 : decode cX12_unit 179 = .ok (.getfield 452, 3) := by decide +kernel
theorem dX12_unit_182 : decode cX12_unit 182 = .ok (.iload_n 2, 1) := by decide +kernel
theorem dX12_unit_183 : decode cX12_unit 183 = .ok (.ifCond .eq 7, 3) := by decide +kernel
theorem dX12_unit_186 : decode cX12_unit 186 = .ok (.iconst 0, 1) := by decide +kernel
theorem dX12_unit_187 : decode cX12_unit 187 = .ok (.goto 4, 3) := by decide +kernel
theorem dX12_unit_190 : decode cX12_unit 190 = .ok (.iconst 1, 1) := by decide +kernel
theorem dX12_unit_191 : decode cX12_unit 191 = .ok (.iadd, 1) := by decide +kernel
theorem dX12_unit_192 : decode cX12_unit 192 = .ok (.putfield 452, 3) := by decide +kernel
theorem dX12_unit_195 : decode cX12_unit 195 = .ok (.iload 4, 2) := by decide +kernel
theorem dX12_unit_197 : decode cX12_unit 197 = .ok (.ifCond .ne 10, 3) := by decide +kernel
theorem dX12_unit_200 : decode cX12_unit 200 = .ok (.aload_n 0, 1) := by decide +kernel
theorem dX12_unit_201 : decode cX12_unit 201 = .ok (.getfield 320, 3) := by decide +kernel
theorem dX12_unit_204 : decode cX12_unit 204 = .ok (.goto 4, 3) := by decide +kernel
theorem dX12_unit_207 : decode cX12_unit 207 = .ok (.iconst 0, 1) := by decide +kernel
theorem dX12_unit_208 : decode cX12_unit 208 = .ok (.istore 6, 2) := by decide +kernel
theorem dX12_unit_210 : decode cX12_unit 210 = .ok (.aload_n 0, 1) := by decide +kernel
theorem dX12_unit_211 : decode cX12_unit 211 = .ok (.invokevirtual 334, 3) := by decide +kernel
theorem dX12_unit_214 : decode cX12_unit 214 = .ok (.iload_n 2, 1) := by decide +kernel
theorem dX12_unit_215 : decode cX12_unit 215 = .ok (.ifCond .ne 7, 3) := by decide +kernel
theorem dX12_unit_218 : decode cX12_unit 218 = .ok (.iload_n 3, 1) := by decide +kernel
theorem dX12_unit_219 : decode cX12_unit 219 = .ok (.ifCond .eq 31, 3) := by decide +kernel
theorem dX12_unit_222 : decode cX12_unit 222 = .ok (.aload_n 0, 1) := by decide +kernel
theorem dX12_unit_223 : decode cX12_unit 223 = .ok (.iload_n 2, 1) := by decide +kernel
theorem dX12_unit_224 : decode cX12_unit 224 = .ok (.ifCond .eq 7, 3) := by decide +kernel
theorem dX12_unit_227 : decode cX12_unit 227 = .ok (.iconst 3, 1) := by decide +kernel
theorem dX12_unit_228 : decode cX12_unit 228 = .ok (.goto 5, 3) := by decide +kernel
theorem dX12_unit_231 : decode cX12_unit 231 = .ok (.bipush 7, 2) := by decide +kernel
theorem dX12_unit_233 : decode cX12_unit 233 = .ok (.bipush 126, 2) := by decide +kernel
theorem dX12_unit_235 : decode cX12_unit 235 = .ok (.invokevirtual 464, 3) := by decide +kernel
theorem dX12_unit_238 : decode cX12_unit 238 = .ok (.aload_n 0, 1) := by decide +kernel
theorem dX12_unit_239 : decode cX12_unit 239 = .ok (.dup, 1) := by decide +kernel
theorem dX12_unit_240 : decode cX12_unit 240 = .ok (.getfield 461, 3) := by decide +kernel
theorem dX12_unit_243 : decode cX12_unit 243 = .ok (.iconst 1, 1) := by decide +kernel
theorem dX12_unit_244 : decode cX12_unit 244 = .ok (.iadd, 1) := by decide +kernel
theorem dX12_unit_245 : decode cX12_unit 245 = .ok (.putfield 461, 3) := by decide +kernel
theorem dX12_unit_248 : decode cX12_unit 248 = .ok (.iconst 1, 1) := by decide +kernel
theorem dX12_unit_249 : decode cX12_unit 249 = .ok (.ireturn, 1) := by decide +kernel
theorem dX12_unit_250 : decode cX12_unit 250 = .ok (.aload_n 0, 1) := by decide +kernel
theorem dX12_unit_251 : decode cX12_unit 251 = .ok (.iload 4, 2) := by decide +kernel
theorem dX12_unit_253 : decode cX12_unit 253 = .ok (.ifCond .ne 8, 3) := by decide +kernel
theorem dX12_unit_256 : decode cX12_unit 256 = .ok (.bipush 110, 2) := by decide +kernel
theorem dX12_unit_258 : decode cX12_unit 258 = .ok (.goto 5, 3) := by decide +kernel
theorem dX12_unit_261 : decode cX12_unit 261 = .ok (.iload 4, 2) := by decide +kernel
theorem dX12_unit_263 : decode cX12_unit 263 = .ok (.iload 6, 2) := by decide +kernel
theorem dX12_unit_265 : decode cX12_unit 265 = .ok (.invokevirtual 476, 3) := by decide +kernel
theorem dX12_unit_268 : decode cX12_unit 268 = .ok (.iconst 0, 1) := by decide +kernel
theorem dX12_unit_269 : decode cX12_unit 269 = .ok (.ireturn, 1) := by decide +kernel
theorem dX12_rankHere_0 : decode cX12_rankHere 0 = .ok (.aload_n 0, 1) := by decide +kernel
theorem dX12_rankHere_1 : decode cX12_rankHere 1 = .ok (.ldc2_w 254, 3) := by decide +kernel
theorem dX12_rankHere_4 : decode cX12_rankHere 4 = .ok (.invokevirtual 355, 3) := by decide +kernel
theorem dX12_rankHere_7 : decode cX12_rankHere 7 = .ok (.ifCond .eq 5, 3) := by decide +kernel
theorem dX12_rankHere_10 : decode cX12_rankHere 10 = .ok (.iconst 2, 1) := by decide +kernel
theorem dX12_rankHere_11 : decode cX12_rankHere 11 = .ok (.ireturn, 1) := by decide +kernel
theorem dX12_rankHere_12 : decode cX12_rankHere 12 = .ok (.aload_n 0, 1) := by decide +kernel
theorem dX12_rankHere_13 : decode cX12_rankHere 13 = .ok (.ldc2_w 252, 3) := by decide +kernel
theorem dX12_rankHere_16 : decode cX12_rankHere 16 = .ok (.invokevirtual 355, 3) := by decide +kernel
theorem dX12_rankHere_19 : decode cX12_rankHere 19 = .ok (.ifCond .eq 5, 3) := by decide +kernel
theorem dX12_rankHere_22 : decode cX12_rankHere 22 = .ok (.iconst 1, 1) := by decide +kernel
theorem dX12_rankHere_23 : decode cX12_rankHere 23 = .ok (.ireturn, 1) := by decide +kernel
theorem dX12_rankHere_24 : decode cX12_rankHere 24 = .ok (.aload_n 0, 1) := by decide +kernel
theorem dX12_rankHere_25 : decode cX12_rankHere 25 = .ok (.bipush 60, 2) := by decide +kernel
theorem dX12_rankHere_27 : decode cX12_rankHere 27 = .ok (.invokevirtual 379, 3) := by decide +kernel
theorem dX12_rankHere_30 : decode cX12_rankHere 30 = .ok (.ifCond .ne 21, 3) := by decide +kernel
theorem dX12_rankHere_33 : decode cX12_rankHere 33 = .ok (.aload_n 0, 1) := by decide +kernel
theorem dX12_rankHere_34 : decode cX12_rankHere 34 = .ok (.bipush 62, 2) := by decide +kernel
theorem dX12_rankHere_36 : decode cX12_rankHere 36 = .ok (.invokevirtual 379, 3) := by decide +kernel
theorem dX12_rankHere_39 : decode cX12_rankHere 39 = .ok (.ifCond .ne 12, 3) := by decide +kernel
theorem dX12_rankHere_42 : decode cX12_rankHere 42 = .ok (.aload_n 0, 1) := by decide +kernel
theorem dX12_rankHere_43 : decode cX12_rankHere 43 = .ok (.bipush 61, 2) := by decide +kernel
theorem dX12_rankHere_45 : decode cX12_rankHere 45 = .ok (.invokevirtual 379, 3) := by decide +kernel
theorem dX12_rankHere_48 : decode cX12_rankHere 48 = .ok (.ifCond .eq 5, 3) := by decide +kernel
theorem dX12_rankHere_51 : decode cX12_rankHere 51 = .ok (.iconst 4, 1) := by decide +kernel
theorem dX12_rankHere_52 : decode cX12_rankHere 52 = .ok (.ireturn, 1) := by decide +kernel
theorem dX12_rankHere_53 : decode cX12_rankHere 53 = .ok (.aload_n 0, 1) := by decide +kernel
theorem dX12_rankHere_54 : decode cX12_rankHere 54 = .ok (.bipush 43, 2) := by decide +kernel
theorem dX12_rankHere_56 : decode cX12_rankHere 56 = .ok (.invokevirtual 379, 3) := by decide +kernel
theorem dX12_rankHere_59 : decode cX12_rankHere 59 = .ok (.ifCond .ne 12, 3) := by decide +kernel
theorem dX12_rankHere_62 : decode cX12_rankHere 62 = .ok (.aload_n 0, 1) := by decide +kernel
theorem dX12_rankHere_63 : decode cX12_rankHere 63 = .ok (.bipush 45, 2) := by decide +kernel
theorem dX12_rankHere_65 : decode cX12_rankHere 65 = .ok (.invokevirtual 379, 3) := by decide +kernel
theorem dX12_rankHere_68 : decode cX12_rankHere 68 = .ok (.ifCond .eq 5, 3) := by decide +kernel
theorem dX12_rankHere_71 : decode cX12_rankHere 71 = .ok (.iconst 5, 1) := by decide +kernel
theorem dX12_rankHere_72 : decode cX12_rankHere 72 = .ok (.ireturn, 1) := by decide +kernel
theorem dX12_rankHere_73 : decode cX12_rankHere 73 = .ok (.aload_n 0, 1) := by decide +kernel
theorem dX12_rankHere_74 : decode cX12_rankHere 74 = .ok (.bipush 42, 2) := by decide +kernel
theorem dX12_rankHere_76 : decode cX12_rankHere 76 = .ok (.invokevirtual 379, 3) := by decide +kernel
theorem dX12_rankHere_79 : decode cX12_rankHere 79 = .ok (.ifCond .ne 21, 3) := by decide +kernel
theorem dX12_rankHere_82 : decode cX12_rankHere 82 = .ok (.aload_n 0, 1) := by decide +kernel
theorem dX12_rankHere_83 : decode cX12_rankHere 83 = .ok (.bipush 47, 2) := by decide +kernel
theorem dX12_rankHere_85 : decode cX12_rankHere 85 = .ok (.invokevirtual 379, 3) := by decide +kernel
theorem dX12_rankHere_88 : decode cX12_rankHere 88 = .ok (.ifCond .ne 12, 3) := by decide +kernel
theorem dX12_rankHere_91 : decode cX12_rankHere 91 = .ok (.aload_n 0, 1) := by decide +kernel
theorem dX12_rankHere_92 : decode cX12_rankHere 92 = .ok (.bipush 37, 2) := by decide +kernel
theorem dX12_rankHere_94 : decode cX12_rankHere 94 = .ok (.invokevirtual 379, 3) := by decide +kernel
theorem dX12_rankHere_97 : decode cX12_rankHere 97 = .ok (.ifCond .eq 8, 3) := by decide +kernel
theorem dX12_rankHere_100 : decode cX12_rankHere 100 = .ok (.bipush 6, 2) := by decide +kernel
theorem dX12_rankHere_102 : decode cX12_rankHere 102 = .ok (.goto 4, 3) := by decide +kernel
theorem dX12_rankHere_105 : decode cX12_rankHere 105 = .ok (.iconst 0, 1) := by decide +kernel
theorem dX12_rankHere_106 : decode cX12_rankHere 106 = .ok (.ireturn, 1) := by decide +kernel
theorem dX12_isCompared_0 : decode cX12_isCompared 0 = .ok (.aload_n 0, 1) := by decide +kernel
theorem dX12_isCompared_1 : decode cX12_isCompared 1 = .ok (.getfield 458, 3) := by decide +kernel
theorem dX12_isCompared_4 : decode cX12_isCompared 4 = .ok (.iconst 1, 1) := by decide +kernel
theorem dX12_isCompared_5 : decode cX12_isCompared 5 = .ok (.isub, 1) := by decide +kernel
theorem dX12_isCompared_6 : decode cX12_isCompared 6 = .ok (.istore_n 1, 1) := by decide +kernel
theorem dX12_isCompared_7 : decode cX12_isCompared 7 = .ok (.aload_n 0, 1) := by decide +kernel
theorem dX12_isCompared_8 : decode cX12_isCompared 8 = .ok (.getfield 88, 3) := by decide +kernel
theorem dX12_isCompared_11 : decode cX12_isCompared 11 = .ok (.iload_n 1, 1) := by decide +kernel
theorem dX12_isCompared_12 : decode cX12_isCompared 12 = .ok (.iaload, 1) := by decide +kernel
theorem dX12_isCompared_13 : decode cX12_isCompared 13 = .ok (.iconst 5, 1) := by decide +kernel
theorem dX12_isCompared_14 : decode cX12_isCompared 14 = .ok (.if_icmp .eq 14, 3) := by decide +kernel
theorem dX12_isCompared_17 : decode cX12_isCompared 17 = .ok (.aload_n 0, 1) := by decide +kernel
theorem dX12_isCompared_18 : decode cX12_isCompared 18 = .ok (.getfield 88, 3) := by decide +kernel
theorem dX12_isCompared_21 : decode cX12_isCompared 21 = .ok (.iload_n 1, 1) := by decide +kernel
theorem dX12_isCompared_22 : decode cX12_isCompared 22 = .ok (.iaload, 1) := by decide +kernel
theorem dX12_isCompared_23 : decode cX12_isCompared 23 = .ok (.bipush 6, 2) := by decide +kernel
theorem dX12_isCompared_25 : decode cX12_isCompared 25 = .ok (.if_icmp .ne 9, 3) := by decide +kernel
theorem dX12_isCompared_28 : decode cX12_isCompared 28 = .ok (.iinc 1 (-1), 3) := by decide +kernel
theorem dX12_isCompared_31 : decode cX12_isCompared 31 = .ok (.goto (-24), 3) := by decide +kernel
theorem dX12_isCompared_34 : decode cX12_isCompared 34 = .ok (.aload_n 0, 1) := by decide +kernel
theorem dX12_isCompared_35 : decode cX12_isCompared 35 = .ok (.getfield 88, 3) := by decide +kernel
theorem dX12_isCompared_38 : decode cX12_isCompared 38 = .ok (.iload_n 1, 1) := by decide +kernel
theorem dX12_isCompared_39 : decode cX12_isCompared 39 = .ok (.iaload, 1) := by decide +kernel
theorem dX12_isCompared_40 : decode cX12_isCompared 40 = .ok (.iconst 4, 1) := by decide +kernel
theorem dX12_isCompared_41 : decode cX12_isCompared 41 = .ok (.if_icmp .ne 7, 3) := by decide +kernel
theorem dX12_isCompared_44 : decode cX12_isCompared 44 = .ok (.iconst 1, 1) := by decide +kernel
theorem dX12_isCompared_45 : decode cX12_isCompared 45 = .ok (.goto 4, 3) := by decide +kernel
theorem dX12_isCompared_48 : decode cX12_isCompared 48 = .ok (.iconst 0, 1) := by decide +kernel
theorem dX12_isCompared_49 : decode cX12_isCompared 49 = .ok (.ireturn, 1) := by decide +kernel
theorem dX12_behindUnit_0 : decode cX12_behindUnit 0 = .ok (.aload_n 0, 1) := by decide +kernel
theorem dX12_behindUnit_1 : decode cX12_behindUnit 1 = .ok (.invokevirtual 479, 3) := by decide +kernel
theorem dX12_behindUnit_4 : decode cX12_behindUnit 4 = .ok (.istore_n 1, 1) := by decide +kernel
theorem dX12_behindUnit_5 : decode cX12_behindUnit 5 = .ok (.iload_n 1, 1) := by decide +kernel
theorem dX12_behindUnit_6 : decode cX12_behindUnit 6 = .ok (.iconst 4, 1) := by decide +kernel
theorem dX12_behindUnit_7 : decode cX12_behindUnit 7 = .ok (.if_icmp .ne 16, 3) := by decide +kernel
theorem dX12_behindUnit_10 : decode cX12_behindUnit 10 = .ok (.aload_n 0, 1) := by decide +kernel
theorem dX12_behindUnit_11 : decode cX12_behindUnit 11 = .ok (.invokevirtual 482, 3) := by decide +kernel
theorem dX12_behindUnit_14 : decode cX12_behindUnit 14 = .ok (.ifCond .eq 9, 3) := by decide +kernel
theorem dX12_behindUnit_17 : decode cX12_behindUnit 17 = .ok (.aload_n 0, 1) := by decide +kernel
theorem dX12_behindUnit_18 : decode cX12_behindUnit 18 = .ok (.invokevirtual 337, 3) := by decide +kernel
theorem dX12_behindUnit_21 : decode cX12_behindUnit 21 = .ok (.iconst 1, 1) := by decide +kernel
theorem dX12_behindUnit_22 : decode cX12_behindUnit 22 = .ok (.ireturn, 1) := by decide +kernel
theorem dX12_behindUnit_23 : decode cX12_behindUnit 23 = .ok (.aload_n 0, 1) := by decide +kernel
theorem dX12_behindUnit_24 : decode cX12_behindUnit 24 = .ok (.getfield 88, 3) := by decide +kernel
theorem dX12_behindUnit_27 : decode cX12_behindUnit 27 = .ok (.aload_n 0, 1) := by decide +kernel
theorem dX12_behindUnit_28 : decode cX12_behindUnit 28 = .ok (.getfield 458, 3) := by decide +kernel
theorem dX12_behindUnit_31 : decode cX12_behindUnit 31 = .ok (.iconst 1, 1) := by decide +kernel
theorem dX12_behindUnit_32 : decode cX12_behindUnit 32 = .ok (.isub, 1) := by decide +kernel
theorem dX12_behindUnit_33 : decode cX12_behindUnit 33 = .ok (.iaload, 1) := by decide +kernel
theorem dX12_behindUnit_34 : decode cX12_behindUnit 34 = .ok (.bipush 6, 2) := by decide +kernel
theorem dX12_behindUnit_36 : decode cX12_behindUnit 36 = .ok (.if_icmp .gt 68, 3) := by decide +kernel
theorem dX12_behindUnit_39 : decode cX12_behindUnit 39 = .ok (.aload_n 0, 1) := by decide +kernel
theorem dX12_behindUnit_40 : decode cX12_behindUnit 40 = .ok (.getfield 88, 3) := by decide +kernel
theorem dX12_behindUnit_43 : decode cX12_behindUnit 43 = .ok (.aload_n 0, 1) := by decide +kernel
theorem dX12_behindUnit_44 : decode cX12_behindUnit 44 = .ok (.getfield 458, 3) := by decide +kernel
theorem dX12_behindUnit_47 : decode cX12_behindUnit 47 = .ok (.iconst 1, 1) := by decide +kernel
theorem dX12_behindUnit_48 : decode cX12_behindUnit 48 = .ok (.isub, 1) := by decide +kernel
theorem dX12_behindUnit_49 : decode cX12_behindUnit 49 = .ok (.iaload, 1) := by decide +kernel
theorem dX12_behindUnit_50 : decode cX12_behindUnit 50 = .ok (.iload_n 1, 1) := by decide +kernel
theorem dX12_behindUnit_51 : decode cX12_behindUnit 51 = .ok (.if_icmp .lt 53, 3) := by decide +kernel
theorem dX12_behindUnit_54 : decode cX12_behindUnit 54 = .ok (.aload_n 0, 1) := by decide +kernel
theorem dX12_behindUnit_55 : decode cX12_behindUnit 55 = .ok (.dup, 1) := by decide +kernel
theorem dX12_behindUnit_56 : decode cX12_behindUnit 56 = .ok (.getfield 458, 3) := by decide +kernel
theorem dX12_behindUnit_59 : decode cX12_behindUnit 59 = .ok (.iconst 1, 1) := by decide +kernel
theorem dX12_behindUnit_60 : decode cX12_behindUnit 60 = .ok (.isub, 1) := by decide +kernel
theorem dX12_behindUnit_61 : decode cX12_behindUnit 61 = .ok (.putfield 458, 3) := by decide +kernel
theorem dX12_behindUnit_64 : decode cX12_behindUnit 64 = .ok (.aload_n 0, 1) := by decide +kernel
theorem dX12_behindUnit_65 : decode cX12_behindUnit 65 = .ok (.getfield 88, 3) := by decide +kernel
theorem dX12_behindUnit_68 : decode cX12_behindUnit 68 = .ok (.aload_n 0, 1) := by decide +kernel
theorem dX12_behindUnit_69 : decode cX12_behindUnit 69 = .ok (.getfield 458, 3) := by decide +kernel
theorem dX12_behindUnit_72 : decode cX12_behindUnit 72 = .ok (.iaload, 1) := by decide +kernel
theorem dX12_behindUnit_73 : decode cX12_behindUnit 73 = .ok (.iconst 3, 1) := by decide +kernel
theorem dX12_behindUnit_74 : decode cX12_behindUnit 74 = .ok (.if_icmp .ne 13, 3) := by decide +kernel
theorem dX12_behindUnit_77 : decode cX12_behindUnit 77 = .ok (.aload_n 0, 1) := by decide +kernel
theorem dX12_behindUnit_78 : decode cX12_behindUnit 78 = .ok (.dup, 1) := by decide +kernel
theorem dX12_behindUnit_79 : decode cX12_behindUnit 79 = .ok (.getfield 461, 3) := by decide +kernel
theorem dX12_behindUnit_82 : decode cX12_behindUnit 82 = .ok (.iconst 1, 1) := by decide +kernel
theorem dX12_behindUnit_83 : decode cX12_behindUnit 83 = .ok (.isub, 1) := by decide +kernel
theorem dX12_behindUnit_84 : decode cX12_behindUnit 84 = .ok (.putfield 461, 3) := by decide +kernel
theorem dX12_behindUnit_87 : decode cX12_behindUnit 87 = .ok (.aload_n 0, 1) := by decide +kernel
theorem dX12_behindUnit_88 : decode cX12_behindUnit 88 = .ok (.aload_n 0, 1) := by decide +kernel
theorem dX12_behindUnit_89 : decode cX12_behindUnit 89 = .ok (.getfield 91, 3) := by decide +kernel
theorem dX12_behindUnit_92 : decode cX12_behindUnit 92 = .ok (.aload_n 0, 1) := by decide +kernel
theorem dX12_behindUnit_93 : decode cX12_behindUnit 93 = .ok (.getfield 458, 3) := by decide +kernel
theorem dX12_behindUnit_96 : decode cX12_behindUnit 96 = .ok (.iaload, 1) := by decide +kernel
theorem dX12_behindUnit_97 : decode cX12_behindUnit 97 = .ok (.iconst 0, 1) := by decide +kernel
theorem dX12_behindUnit_98 : decode cX12_behindUnit 98 = .ok (.invokevirtual 476, 3) := by decide +kernel
theorem dX12_behindUnit_101 : decode cX12_behindUnit 101 = .ok (.goto (-78), 3) := by decide +kernel
theorem dX12_behindUnit_104 : decode cX12_behindUnit 104 = .ok (.iload_n 1, 1) := by decide +kernel
theorem dX12_behindUnit_105 : decode cX12_behindUnit 105 = .ok (.ifCond .le 42, 3) := by decide +kernel
theorem dX12_behindUnit_108 : decode cX12_behindUnit 108 = .ok (.aload_n 0, 1) := by decide +kernel
theorem dX12_behindUnit_109 : decode cX12_behindUnit 109 = .ok (.iload_n 1, 1) := by decide +kernel
theorem dX12_behindUnit_110 : decode cX12_behindUnit 110 = .ok (.iload_n 1, 1) := by decide +kernel
theorem dX12_behindUnit_111 : decode cX12_behindUnit 111 = .ok (.iconst 2, 1) := by decide +kernel
theorem dX12_behindUnit_112 : decode cX12_behindUnit 112 = .ok (.if_icmp .ne 8, 3) := by decide +kernel
theorem dX12_behindUnit_115 : decode cX12_behindUnit 115 = .ok (.bipush 38, 2) := by decide +kernel
theorem dX12_behindUnit_117 : decode cX12_behindUnit 117 = .ok (.goto 21, 3) := by decide +kernel
theorem dX12_behindUnit_120 : decode cX12_behindUnit 120 = .ok (.iload_n 1, 1) := by decide +kernel
theorem dX12_behindUnit_121 : decode cX12_behindUnit 121 = .ok (.iconst 1, 1) := by decide +kernel
theorem dX12_behindUnit_122 : decode cX12_behindUnit 122 = .ok (.if_icmp .ne 8, 3) := by decide +kernel
theorem dX12_behindUnit_125 : decode cX12_behindUnit 125 = .ok (.bipush 124, 2) := by decide +kernel
theorem dX12_behindUnit_127 : decode cX12_behindUnit 127 = .ok (.goto 11, 3) := by decide +kernel
theorem dX12_behindUnit_130 : decode cX12_behindUnit 130 = .ok (.aload_n 0, 1) := by decide +kernel
theorem dX12_behindUnit_131 : decode cX12_behindUnit 131 = .ok (.aload_n 0, 1) := by decide +kernel
theorem dX12_behindUnit_132 : decode cX12_behindUnit 132 = .ok (.getfield 295, 3) := by decide +kernel
theorem dX12_behindUnit_135 : decode cX12_behindUnit 135 = .ok (.invokevirtual 298, 3) := by decide +kernel
theorem dX12_behindUnit_138 : decode cX12_behindUnit 138 = .ok (.invokevirtual 464, 3) := by decide +kernel
theorem dX12_behindUnit_141 : decode cX12_behindUnit 141 = .ok (.aload_n 0, 1) := by decide +kernel
theorem dX12_behindUnit_142 : decode cX12_behindUnit 142 = .ok (.invokevirtual 334, 3) := by decide +kernel
theorem dX12_behindUnit_145 : decode cX12_behindUnit 145 = .ok (.iconst 1, 1) := by decide +kernel
theorem dX12_behindUnit_146 : decode cX12_behindUnit 146 = .ok (.ireturn, 1) := by decide +kernel
theorem dX12_behindUnit_147 : decode cX12_behindUnit 147 = .ok (.aload_n 0, 1) := by decide +kernel
theorem dX12_behindUnit_148 : decode cX12_behindUnit 148 = .ok (.dup, 1) := by decide +kernel
theorem dX12_behindUnit_149 : decode cX12_behindUnit 149 = .ok (.getfield 458, 3) := by decide +kernel
theorem dX12_behindUnit_152 : decode cX12_behindUnit 152 = .ok (.iconst 1, 1) := by decide +kernel
theorem dX12_behindUnit_153 : decode cX12_behindUnit 153 = .ok (.isub, 1) := by decide +kernel
theorem dX12_behindUnit_154 : decode cX12_behindUnit 154 = .ok (.putfield 458, 3) := by decide +kernel
theorem dX12_behindUnit_157 : decode cX12_behindUnit 157 = .ok (.aload_n 0, 1) := by decide +kernel
theorem dX12_behindUnit_158 : decode cX12_behindUnit 158 = .ok (.getfield 88, 3) := by decide +kernel
theorem dX12_behindUnit_161 : decode cX12_behindUnit 161 = .ok (.aload_n 0, 1) := by decide +kernel
theorem dX12_behindUnit_162 : decode cX12_behindUnit 162 = .ok (.getfield 458, 3) := by decide +kernel
theorem dX12_behindUnit_165 : decode cX12_behindUnit 165 = .ok (.iaload, 1) := by decide +kernel
theorem dX12_behindUnit_166 : decode cX12_behindUnit 166 = .ok (.bipush 7, 2) := by decide +kernel
theorem dX12_behindUnit_168 : decode cX12_behindUnit 168 = .ok (.if_icmp .ne 23, 3) := by decide +kernel
theorem dX12_behindUnit_171 : decode cX12_behindUnit 171 = .ok (.aload_n 0, 1) := by decide +kernel
theorem dX12_behindUnit_172 : decode cX12_behindUnit 172 = .ok (.dup, 1) := by decide +kernel
theorem dX12_behindUnit_173 : decode cX12_behindUnit 173 = .ok (.getfield 461, 3) := by decide +kernel
theorem dX12_behindUnit_176 : decode cX12_behindUnit 176 = .ok (.iconst 1, 1) := by decide +kernel
theorem dX12_behindUnit_177 : decode cX12_behindUnit 177 = .ok (.isub, 1) := by decide +kernel
theorem dX12_behindUnit_178 : decode cX12_behindUnit 178 = .ok (.putfield 461, 3) := by decide +kernel
theorem dX12_behindUnit_181 : decode cX12_behindUnit 181 = .ok (.aload_n 0, 1) := by decide +kernel
theorem dX12_behindUnit_182 : decode cX12_behindUnit 182 = .ok (.aload_n 0, 1) := by decide +kernel
theorem dX12_behindUnit_183 : decode cX12_behindUnit 183 = .ok (.bipush 41, 2) := by decide +kernel
theorem dX12_behindUnit_185 : decode cX12_behindUnit 185 = .ok (.invokevirtual 379, 3) := by decide +kernel
theorem dX12_behindUnit_188 : decode cX12_behindUnit 188 = .ok (.invokevirtual 382, 3) := by decide +kernel
theorem dX12_behindUnit_191 : decode cX12_behindUnit 191 = .ok (.iconst 0, 1) := by decide +kernel
theorem dX12_behindUnit_192 : decode cX12_behindUnit 192 = .ok (.ireturn, 1) := by decide +kernel
theorem dX12_two_0 : decode cX12_two 0 = .ok (.iload_n 0, 1) := by decide +kernel
theorem dX12_two_1 : decode cX12_two 1 = .ok (.tableswitch 202 37 62 #[143, 188, 202, 202, 202, 127, 119, 202, 123, 202, 131, 202, 202, 202, 202, 202, 202, 202, 202, 202, 202, 202, 202, 155, 177, 166], 119) := by decide +kernel
theorem dX12_two_120 : decode cX12_two 120 = .ok (.iload_n 1, 1) := by decide +kernel
theorem dX12_two_121 : decode cX12_two 121 = .ok (.iload_n 2, 1) := by decide +kernel
theorem dX12_two_122 : decode cX12_two 122 = .ok (.iadd, 1) := by decide +kernel
theorem dX12_two_123 : decode cX12_two 123 = .ok (.ireturn, 1) := by decide +kernel
theorem dX12_two_124 : decode cX12_two 124 = .ok (.iload_n 1, 1) := by decide +kernel
theorem dX12_two_125 : decode cX12_two 125 = .ok (.iload_n 2, 1) := by decide +kernel
theorem dX12_two_126 : decode cX12_two 126 = .ok (.isub, 1) := by decide +kernel
theorem dX12_two_127 : decode cX12_two 127 = .ok (.ireturn, 1) := by decide +kernel
theorem dX12_two_128 : decode cX12_two 128 = .ok (.iload_n 1, 1) := by decide +kernel
theorem dX12_two_129 : decode cX12_two 129 = .ok (.iload_n 2, 1) := by decide +kernel
theorem dX12_two_130 : decode cX12_two 130 = .ok (.imul, 1) := by decide +kernel
theorem dX12_two_131 : decode cX12_two 131 = .ok (.ireturn, 1) := by decide +kernel
theorem dX12_two_132 : decode cX12_two 132 = .ok (.iload_n 2, 1) := by decide +kernel
theorem dX12_two_133 : decode cX12_two 133 = .ok (.ifCond .ne 7, 3) := by decide +kernel
theorem dX12_two_136 : decode cX12_two 136 = .ok (.iconst 0, 1) := by decide +kernel
theorem dX12_two_137 : decode cX12_two 137 = .ok (.goto 6, 3) := by decide +kernel
theorem dX12_two_140 : decode cX12_two 140 = .ok (.iload_n 1, 1) := by decide +kernel
theorem dX12_two_141 : decode cX12_two 141 = .ok (.iload_n 2, 1) := by decide +kernel
theorem dX12_two_142 : decode cX12_two 142 = .ok (.idiv, 1) := by decide +kernel
theorem dX12_two_143 : decode cX12_two 143 = .ok (.ireturn, 1) := by decide +kernel
theorem dX12_two_144 : decode cX12_two 144 = .ok (.iload_n 2, 1) := by decide +kernel
theorem dX12_two_145 : decode cX12_two 145 = .ok (.ifCond .ne 7, 3) := by decide +kernel
theorem dX12_two_148 : decode cX12_two 148 = .ok (.iconst 0, 1) := by decide +kernel
theorem dX12_two_149 : decode cX12_two 149 = .ok (.goto 6, 3) := by decide +kernel
theorem dX12_two_152 : decode cX12_two 152 = .ok (.iload_n 1, 1) := by decide +kernel
theorem dX12_two_153 : decode cX12_two 153 = .ok (.iload_n 2, 1) := by decide +kernel
theorem dX12_two_154 : decode cX12_two 154 = .ok (.irem, 1) := by decide +kernel
theorem dX12_two_155 : decode cX12_two 155 = .ok (.ireturn, 1) := by decide +kernel
theorem dX12_two_156 : decode cX12_two 156 = .ok (.iload_n 1, 1) := by decide +kernel
theorem dX12_two_157 : decode cX12_two 157 = .ok (.iload_n 2, 1) := by decide +kernel
theorem dX12_two_158 : decode cX12_two 158 = .ok (.if_icmp .ge 7, 3) := by decide +kernel
theorem dX12_two_161 : decode cX12_two 161 = .ok (.iconst 1, 1) := by decide +kernel
theorem dX12_two_162 : decode cX12_two 162 = .ok (.goto 4, 3) := by decide +kernel
theorem dX12_two_165 : decode cX12_two 165 = .ok (.iconst 0, 1) := by decide +kernel
theorem dX12_two_166 : decode cX12_two 166 = .ok (.ireturn, 1) := by decide +kernel
theorem dX12_two_167 : decode cX12_two 167 = .ok (.iload_n 1, 1) := by decide +kernel
theorem dX12_two_168 : decode cX12_two 168 = .ok (.iload_n 2, 1) := by decide +kernel
theorem dX12_two_169 : decode cX12_two 169 = .ok (.if_icmp .le 7, 3) := by decide +kernel
theorem dX12_two_172 : decode cX12_two 172 = .ok (.iconst 1, 1) := by decide +kernel
theorem dX12_two_173 : decode cX12_two 173 = .ok (.goto 4, 3) := by decide +kernel
theorem dX12_two_176 : decode cX12_two 176 = .ok (.iconst 0, 1) := by decide +kernel
theorem dX12_two_177 : decode cX12_two 177 = .ok (.ireturn, 1) := by decide +kernel
theorem dX12_two_178 : decode cX12_two 178 = .ok (.iload_n 1, 1) := by decide +kernel
theorem dX12_two_179 : decode cX12_two 179 = .ok (.iload_n 2, 1) := by decide +kernel
theorem dX12_two_180 : decode cX12_two 180 = .ok (.if_icmp .ne 7, 3) := by decide +kernel
theorem dX12_two_183 : decode cX12_two 183 = .ok (.iconst 1, 1) := by decide +kernel
theorem dX12_two_184 : decode cX12_two 184 = .ok (.goto 4, 3) := by decide +kernel
theorem dX12_two_187 : decode cX12_two 187 = .ok (.iconst 0, 1) := by decide +kernel
theorem dX12_two_188 : decode cX12_two 188 = .ok (.ireturn, 1) := by decide +kernel
theorem dX12_two_189 : decode cX12_two 189 = .ok (.iload_n 1, 1) := by decide +kernel
theorem dX12_two_190 : decode cX12_two 190 = .ok (.ifCond .eq 11, 3) := by decide +kernel
theorem dX12_two_193 : decode cX12_two 193 = .ok (.iload_n 2, 1) := by decide +kernel
theorem dX12_two_194 : decode cX12_two 194 = .ok (.ifCond .eq 7, 3) := by decide +kernel
theorem dX12_two_197 : decode cX12_two 197 = .ok (.iconst 1, 1) := by decide +kernel
theorem dX12_two_198 : decode cX12_two 198 = .ok (.goto 4, 3) := by decide +kernel
theorem dX12_two_201 : decode cX12_two 201 = .ok (.iconst 0, 1) := by decide +kernel
theorem dX12_two_202 : decode cX12_two 202 = .ok (.ireturn, 1) := by decide +kernel
theorem dX12_two_203 : decode cX12_two 203 = .ok (.iload_n 1, 1) := by decide +kernel
theorem dX12_two_204 : decode cX12_two 204 = .ok (.ifCond .ne 7, 3) := by decide +kernel
theorem dX12_two_207 : decode cX12_two 207 = .ok (.iload_n 2, 1) := by decide +kernel
theorem dX12_two_208 : decode cX12_two 208 = .ok (.ifCond .eq 7, 3) := by decide +kernel
theorem dX12_two_211 : decode cX12_two 211 = .ok (.iconst 1, 1) := by decide +kernel
theorem dX12_two_212 : decode cX12_two 212 = .ok (.goto 4, 3) := by decide +kernel
theorem dX12_two_215 : decode cX12_two 215 = .ok (.iconst 0, 1) := by decide +kernel
theorem dX12_two_216 : decode cX12_two 216 = .ok (.ireturn, 1) := by decide +kernel
theorem dX12_asked_0 : decode cX12_asked 0 = .ok (.iload_n 1, 1) := by decide +kernel
theorem dX12_asked_1 : decode cX12_asked 1 = .ok (.bipush 102, 2) := by decide +kernel
theorem dX12_asked_3 : decode cX12_asked 3 = .ok (.if_icmp .ne 10, 3) := by decide +kernel
theorem dX12_asked_6 : decode cX12_asked 6 = .ok (.aload_n 0, 1) := by decide +kernel
theorem dX12_asked_7 : decode cX12_asked 7 = .ok (.getfield 485, 3) := by decide +kernel
theorem dX12_asked_10 : decode cX12_asked 10 = .ok (.goto 17, 3) := by decide +kernel
theorem dX12_asked_13 : decode cX12_asked 13 = .ok (.iload_n 1, 1) := by decide +kernel
theorem dX12_asked_14 : decode cX12_asked 14 = .ok (.bipush 107, 2) := by decide +kernel
theorem dX12_asked_16 : decode cX12_asked 16 = .ok (.if_icmp .ne 10, 3) := by decide +kernel
theorem dX12_asked_19 : decode cX12_asked 19 = .ok (.aload_n 0, 1) := by decide +kernel
theorem dX12_asked_20 : decode cX12_asked 20 = .ok (.getfield 488, 3) := by decide +kernel
theorem dX12_asked_23 : decode cX12_asked 23 = .ok (.goto 4, 3) := by decide +kernel
theorem dX12_asked_26 : decode cX12_asked 26 = .ok (.iload_n 2, 1) := by decide +kernel
theorem dX12_asked_27 : decode cX12_asked 27 = .ok (.ireturn, 1) := by decide +kernel
theorem dX12_comesTo_0 : decode cX12_comesTo 0 = .ok (.iconst 0, 1) := by decide +kernel
theorem dX12_comesTo_1 : decode cX12_comesTo 1 = .ok (.istore_n 1, 1) := by decide +kernel
theorem dX12_comesTo_2 : decode cX12_comesTo 2 = .ok (.aload_n 0, 1) := by decide +kernel
theorem dX12_comesTo_3 : decode cX12_comesTo 3 = .ok (.getfield 72, 3) := by decide +kernel
theorem dX12_comesTo_6 : decode cX12_comesTo 6 = .ok (.aload_n 0, 1) := by decide +kernel
theorem dX12_comesTo_7 : decode cX12_comesTo 7 = .ok (.getfield 349, 3) := by decide +kernel
theorem dX12_comesTo_10 : decode cX12_comesTo 10 = .ok (.iaload, 1) := by decide +kernel
theorem dX12_comesTo_11 : decode cX12_comesTo 11 = .ok (.istore_n 2, 1) := by decide +kernel
theorem dX12_comesTo_12 : decode cX12_comesTo 12 = .ok (.iload_n 2, 1) := by decide +kernel
theorem dX12_comesTo_13 : decode cX12_comesTo 13 = .ok (.aload_n 0, 1) := by decide +kernel
theorem dX12_comesTo_14 : decode cX12_comesTo 14 = .ok (.getfield 75, 3) := by decide +kernel
theorem dX12_comesTo_17 : decode cX12_comesTo 17 = .ok (.aload_n 0, 1) := by decide +kernel
theorem dX12_comesTo_18 : decode cX12_comesTo 18 = .ok (.getfield 349, 3) := by decide +kernel
theorem dX12_comesTo_21 : decode cX12_comesTo 21 = .ok (.iaload, 1) := by decide +kernel
theorem dX12_comesTo_22 : decode cX12_comesTo 22 = .ok (.if_icmp .ge 108, 3) := by decide +kernel
theorem dX12_comesTo_25 : decode cX12_comesTo 25 = .ok (.aload_n 0, 1) := by decide +kernel
theorem dX12_comesTo_26 : decode cX12_comesTo 26 = .ok (.getfield 82, 3) := by decide +kernel
theorem dX12_comesTo_29 : decode cX12_comesTo 29 = .ok (.iload_n 2, 1) := by decide +kernel
theorem dX12_comesTo_30 : decode cX12_comesTo 30 = .ok (.iaload, 1) := by decide +kernel
theorem dX12_comesTo_31 : decode cX12_comesTo 31 = .ok (.istore_n 3, 1) := by decide +kernel
theorem dX12_comesTo_32 : decode cX12_comesTo 32 = .ok (.iload_n 3, 1) := by decide +kernel
theorem dX12_comesTo_33 : decode cX12_comesTo 33 = .ok (.bipush 126, 2) := by decide +kernel
theorem dX12_comesTo_35 : decode cX12_comesTo 35 = .ok (.if_icmp .ne 30, 3) := by decide +kernel
theorem dX12_comesTo_38 : decode cX12_comesTo 38 = .ok (.aload_n 0, 1) := by decide +kernel
theorem dX12_comesTo_39 : decode cX12_comesTo 39 = .ok (.getfield 94, 3) := by decide +kernel
theorem dX12_comesTo_42 : decode cX12_comesTo 42 = .ok (.iload_n 1, 1) := by decide +kernel
theorem dX12_comesTo_43 : decode cX12_comesTo 43 = .ok (.iconst 1, 1) := by decide +kernel
theorem dX12_comesTo_44 : decode cX12_comesTo 44 = .ok (.isub, 1) := by decide +kernel
theorem dX12_comesTo_45 : decode cX12_comesTo 45 = .ok (.aload_n 0, 1) := by decide +kernel
theorem dX12_comesTo_46 : decode cX12_comesTo 46 = .ok (.getfield 94, 3) := by decide +kernel
theorem dX12_comesTo_49 : decode cX12_comesTo 49 = .ok (.iload_n 1, 1) := by decide +kernel
theorem dX12_comesTo_50 : decode cX12_comesTo 50 = .ok (.iconst 1, 1) := by decide +kernel
theorem dX12_comesTo_51 : decode cX12_comesTo 51 = .ok (.isub, 1) := by decide +kernel
theorem dX12_comesTo_52 : decode cX12_comesTo 52 = .ok (.iaload, 1) := by decide +kernel
theorem dX12_comesTo_53 : decode cX12_comesTo 53 = .ok (.ifCond .ne 7, 3) := by decide +kernel
theorem dX12_comesTo_56 : decode cX12_comesTo 56 = .ok (.iconst 1, 1) := by decide +kernel
theorem dX12_comesTo_57 : decode cX12_comesTo 57 = .ok (.goto 4, 3) := by decide +kernel
theorem dX12_comesTo_60 : decode cX12_comesTo 60 = .ok (.iconst 0, 1) := by decide +kernel
theorem dX12_comesTo_61 : decode cX12_comesTo 61 = .ok (.iastore, 1) := by decide +kernel
theorem dX12_comesTo_62 : decode cX12_comesTo 62 = .ok (.goto 62, 3) := by decide +kernel
theorem dX12_comesTo_65 : decode cX12_comesTo 65 = .ok (.iload_n 3, 1) := by decide +kernel
theorem dX12_comesTo_66 : decode cX12_comesTo 66 = .ok (.invokestatic 305, 3) := by decide +kernel
theorem dX12_comesTo_69 : decode cX12_comesTo 69 = .ok (.ifCond .eq 26, 3) := by decide +kernel
theorem dX12_comesTo_72 : decode cX12_comesTo 72 = .ok (.aload_n 0, 1) := by decide +kernel
theorem dX12_comesTo_73 : decode cX12_comesTo 73 = .ok (.getfield 94, 3) := by decide +kernel
theorem dX12_comesTo_76 : decode cX12_comesTo 76 = .ok (.iload_n 1, 1) := by decide +kernel
theorem dX12_comesTo_77 : decode cX12_comesTo 77 = .ok (.aload_n 0, 1) := by decide +kernel
theorem dX12_comesTo_78 : decode cX12_comesTo 78 = .ok (.iload_n 3, 1) := by decide +kernel
theorem dX12_comesTo_79 : decode cX12_comesTo 79 = .ok (.aload_n 0, 1) := by decide +kernel
theorem dX12_comesTo_80 : decode cX12_comesTo 80 = .ok (.getfield 85, 3) := by decide +kernel
theorem dX12_comesTo_83 : decode cX12_comesTo 83 = .ok (.iload_n 2, 1) := by decide +kernel
theorem dX12_comesTo_84 : decode cX12_comesTo 84 = .ok (.iaload, 1) := by decide +kernel
theorem dX12_comesTo_85 : decode cX12_comesTo 85 = .ok (.invokevirtual 491, 3) := by decide +kernel
theorem dX12_comesTo_88 : decode cX12_comesTo 88 = .ok (.iastore, 1) := by decide +kernel
theorem dX12_comesTo_89 : decode cX12_comesTo 89 = .ok (.iinc 1 1, 3) := by decide +kernel
theorem dX12_comesTo_92 : decode cX12_comesTo 92 = .ok (.goto 32, 3) := by decide +kernel
theorem dX12_comesTo_95 : decode cX12_comesTo 95 = .ok (.iinc 1 (-1), 3) := by decide +kernel
theorem dX12_comesTo_98 : decode cX12_comesTo 98 = .ok (.aload_n 0, 1) := by decide +kernel
theorem dX12_comesTo_99 : decode cX12_comesTo 99 = .ok (.getfield 94, 3) := by decide +kernel
theorem dX12_comesTo_102 : decode cX12_comesTo 102 = .ok (.iload_n 1, 1) := by decide +kernel
theorem dX12_comesTo_103 : decode cX12_comesTo 103 = .ok (.iconst 1, 1) := by decide +kernel
theorem dX12_comesTo_104 : decode cX12_comesTo 104 = .ok (.isub, 1) := by decide +kernel
theorem dX12_comesTo_105 : decode cX12_comesTo 105 = .ok (.iload_n 3, 1) := by decide +kernel
theorem dX12_comesTo_106 : decode cX12_comesTo 106 = .ok (.aload_n 0, 1) := by decide +kernel
theorem dX12_comesTo_107 : decode cX12_comesTo 107 = .ok (.getfield 94, 3) := by decide +kernel
theorem dX12_comesTo_110 : decode cX12_comesTo 110 = .ok (.iload_n 1, 1) := by decide +kernel
theorem dX12_comesTo_111 : decode cX12_comesTo 111 = .ok (.iconst 1, 1) := by decide +kernel
theorem dX12_comesTo_112 : decode cX12_comesTo 112 = .ok (.isub, 1) := by decide +kernel
theorem dX12_comesTo_113 : decode cX12_comesTo 113 = .ok (.iaload, 1) := by decide +kernel
theorem dX12_comesTo_114 : decode cX12_comesTo 114 = .ok (.aload_n 0, 1) := by decide +kernel
theorem dX12_comesTo_115 : decode cX12_comesTo 115 = .ok (.getfield 94, 3) := by decide +kernel
theorem dX12_comesTo_118 : decode cX12_comesTo 118 = .ok (.iload_n 1, 1) := by decide +kernel
theorem dX12_comesTo_119 : decode cX12_comesTo 119 = .ok (.iaload, 1) := by decide +kernel
theorem dX12_comesTo_120 : decode cX12_comesTo 120 = .ok (.invokestatic 494, 3) := by decide +kernel
theorem dX12_comesTo_123 : decode cX12_comesTo 123 = .ok (.iastore, 1) := by decide +kernel
theorem dX12_comesTo_124 : decode cX12_comesTo 124 = .ok (.iinc 2 1, 3) := by decide +kernel
theorem dX12_comesTo_127 : decode cX12_comesTo 127 = .ok (.goto (-115), 3) := by decide +kernel
theorem dX12_comesTo_130 : decode cX12_comesTo 130 = .ok (.aload_n 0, 1) := by decide +kernel
theorem dX12_comesTo_131 : decode cX12_comesTo 131 = .ok (.getfield 94, 3) := by decide +kernel
theorem dX12_comesTo_134 : decode cX12_comesTo 134 = .ok (.iconst 0, 1) := by decide +kernel
theorem dX12_comesTo_135 : decode cX12_comesTo 135 = .ok (.iaload, 1) := by decide +kernel
theorem dX12_comesTo_136 : decode cX12_comesTo 136 = .ok (.ireturn, 1) := by decide +kernel
theorem dX12_fault_0 : decode cX12_fault 0 = .ok (.iload_n 1, 1) := by decide +kernel
theorem dX12_fault_1 : decode cX12_fault 1 = .ok (.ifCond .ne 10, 3) := by decide +kernel
theorem dX12_fault_4 : decode cX12_fault 4 = .ok (.aload_n 0, 1) := by decide +kernel
theorem dX12_fault_5 : decode cX12_fault 5 = .ok (.getfield 227, 3) := by decide +kernel
theorem dX12_fault_8 : decode cX12_fault 8 = .ok (.goto 16, 3) := by decide +kernel
theorem dX12_fault_11 : decode cX12_fault 11 = .ok (.iload_n 1, 1) := by decide +kernel
theorem dX12_fault_12 : decode cX12_fault 12 = .ok (.iconst 1, 1) := by decide +kernel
theorem dX12_fault_13 : decode cX12_fault 13 = .ok (.if_icmp .ne 10, 3) := by decide +kernel
theorem dX12_fault_16 : decode cX12_fault 16 = .ok (.aload_n 0, 1) := by decide +kernel
theorem dX12_fault_17 : decode cX12_fault 17 = .ok (.getfield 16, 3) := by decide +kernel
theorem dX12_fault_20 : decode cX12_fault 20 = .ok (.goto 4, 3) := by decide +kernel
theorem dX12_fault_23 : decode cX12_fault 23 = .ok (.iconst (-1), 1) := by decide +kernel
theorem dX12_fault_24 : decode cX12_fault 24 = .ok (.ireturn, 1) := by decide +kernel
theorem dX12_isIn_0 : decode cX12_isIn 0 = .ok (.iload_n 0, 1) := by decide +kernel
theorem dX12_isIn_1 : decode cX12_isIn 1 = .ok (.iload_n 1, 1) := by decide +kernel
theorem dX12_isIn_2 : decode cX12_isIn 2 = .ok (.if_icmp .lt 12, 3) := by decide +kernel
theorem dX12_isIn_5 : decode cX12_isIn 5 = .ok (.iload_n 0, 1) := by decide +kernel
theorem dX12_isIn_6 : decode cX12_isIn 6 = .ok (.iload_n 2, 1) := by decide +kernel
theorem dX12_isIn_7 : decode cX12_isIn 7 = .ok (.if_icmp .gt 7, 3) := by decide +kernel
theorem dX12_isIn_10 : decode cX12_isIn 10 = .ok (.iconst 1, 1) := by decide +kernel
theorem dX12_isIn_11 : decode cX12_isIn 11 = .ok (.goto 4, 3) := by decide +kernel
theorem dX12_isIn_14 : decode cX12_isIn 14 = .ok (.iconst 0, 1) := by decide +kernel
theorem dX12_isIn_15 : decode cX12_isIn 15 = .ok (.ireturn, 1) := by decide +kernel
theorem dX12_held_0 : decode cX12_held 0 = .ok (.iload_n 0, 1) := by decide +kernel
theorem dX12_held_1 : decode cX12_held 1 = .ok (.iload_n 1, 1) := by decide +kernel
theorem dX12_held_2 : decode cX12_held 2 = .ok (.if_icmp .ge 7, 3) := by decide +kernel
theorem dX12_held_5 : decode cX12_held 5 = .ok (.iload_n 1, 1) := by decide +kernel
theorem dX12_held_6 : decode cX12_held 6 = .ok (.goto 13, 3) := by decide +kernel
theorem dX12_held_9 : decode cX12_held 9 = .ok (.iload_n 0, 1) := by decide +kernel
theorem dX12_held_10 : decode cX12_held 10 = .ok (.iload_n 2, 1) := by decide +kernel
theorem dX12_held_11 : decode cX12_held 11 = .ok (.if_icmp .le 7, 3) := by decide +kernel
theorem dX12_held_14 : decode cX12_held 14 = .ok (.iload_n 2, 1) := by decide +kernel
theorem dX12_held_15 : decode cX12_held 15 = .ok (.goto 4, 3) := by decide +kernel
theorem dX12_held_18 : decode cX12_held 18 = .ok (.iload_n 0, 1) := by decide +kernel
theorem dX12_held_19 : decode cX12_held 19 = .ok (.ireturn, 1) := by decide +kernel
theorem dX12_more_0 : decode cX12_more 0 = .ok (.iload_n 0, 1) := by decide +kernel
theorem dX12_more_1 : decode cX12_more 1 = .ok (.iload_n 1, 1) := by decide +kernel
theorem dX12_more_2 : decode cX12_more 2 = .ok (.if_icmp .le 7, 3) := by decide +kernel
theorem dX12_more_5 : decode cX12_more 5 = .ok (.iload_n 0, 1) := by decide +kernel
theorem dX12_more_6 : decode cX12_more 6 = .ok (.goto 4, 3) := by decide +kernel
theorem dX12_more_9 : decode cX12_more 9 = .ok (.iload_n 1, 1) := by decide +kernel
theorem dX12_more_10 : decode cX12_more 10 = .ok (.ireturn, 1) := by decide +kernel
theorem dX12_bit_0 : decode cX12_bit 0 = .ok (.iload_n 0, 1) := by decide +kernel
theorem dX12_bit_1 : decode cX12_bit 1 = .ok (.iload_n 1, 1) := by decide +kernel
theorem dX12_bit_2 : decode cX12_bit 2 = .ok (.ishr, 1) := by decide +kernel
theorem dX12_bit_3 : decode cX12_bit 3 = .ok (.iconst 1, 1) := by decide +kernel
theorem dX12_bit_4 : decode cX12_bit 4 = .ok (.iand, 1) := by decide +kernel
theorem dX12_bit_5 : decode cX12_bit 5 = .ok (.iconst 1, 1) := by decide +kernel
theorem dX12_bit_6 : decode cX12_bit 6 = .ok (.if_icmp .ne 7, 3) := by decide +kernel
theorem dX12_bit_9 : decode cX12_bit 9 = .ok (.iconst 1, 1) := by decide +kernel
theorem dX12_bit_10 : decode cX12_bit 10 = .ok (.goto 4, 3) := by decide +kernel
theorem dX12_bit_13 : decode cX12_bit 13 = .ok (.iconst 0, 1) := by decide +kernel
theorem dX12_bit_14 : decode cX12_bit 14 = .ok (.ireturn, 1) := by decide +kernel
theorem dX12_divisor_0 : decode cX12_divisor 0 = .ok (.iload_n 0, 1) := by decide +kernel
theorem dX12_divisor_1 : decode cX12_divisor 1 = .ok (.istore_n 2, 1) := by decide +kernel
theorem dX12_divisor_2 : decode cX12_divisor 2 = .ok (.iload_n 1, 1) := by decide +kernel
theorem dX12_divisor_3 : decode cX12_divisor 3 = .ok (.istore_n 3, 1) := by decide +kernel
theorem dX12_divisor_4 : decode cX12_divisor 4 = .ok (.iload_n 3, 1) := by decide +kernel
theorem dX12_divisor_5 : decode cX12_divisor 5 = .ok (.ifCond .le 16, 3) := by decide +kernel
theorem dX12_divisor_8 : decode cX12_divisor 8 = .ok (.iload_n 2, 1) := by decide +kernel
theorem dX12_divisor_9 : decode cX12_divisor 9 = .ok (.iload_n 3, 1) := by decide +kernel
theorem dX12_divisor_10 : decode cX12_divisor 10 = .ok (.irem, 1) := by decide +kernel
theorem dX12_divisor_11 : decode cX12_divisor 11 = .ok (.istore 4, 2) := by decide +kernel
theorem dX12_divisor_13 : decode cX12_divisor 13 = .ok (.iload_n 3, 1) := by decide +kernel
theorem dX12_divisor_14 : decode cX12_divisor 14 = .ok (.istore_n 2, 1) := by decide +kernel
theorem dX12_divisor_15 : decode cX12_divisor 15 = .ok (.iload 4, 2) := by decide +kernel
theorem dX12_divisor_17 : decode cX12_divisor 17 = .ok (.istore_n 3, 1) := by decide +kernel
theorem dX12_divisor_18 : decode cX12_divisor 18 = .ok (.goto (-14), 3) := by decide +kernel
theorem dX12_divisor_21 : decode cX12_divisor 21 = .ok (.iload_n 2, 1) := by decide +kernel
theorem dX12_divisor_22 : decode cX12_divisor 22 = .ok (.ireturn, 1) := by decide +kernel
theorem dX12_power_0 : decode cX12_power 0 = .ok (.iconst 1, 1) := by decide +kernel
theorem dX12_power_1 : decode cX12_power 1 = .ok (.istore_n 2, 1) := by decide +kernel
theorem dX12_power_2 : decode cX12_power 2 = .ok (.iconst 0, 1) := by decide +kernel
theorem dX12_power_3 : decode cX12_power 3 = .ok (.istore_n 3, 1) := by decide +kernel
theorem dX12_power_4 : decode cX12_power 4 = .ok (.iload_n 3, 1) := by decide +kernel
theorem dX12_power_5 : decode cX12_power 5 = .ok (.iload_n 1, 1) := by decide +kernel
theorem dX12_power_6 : decode cX12_power 6 = .ok (.if_icmp .ge 13, 3) := by decide +kernel
theorem dX12_power_9 : decode cX12_power 9 = .ok (.iload_n 2, 1) := by decide +kernel
theorem dX12_power_10 : decode cX12_power 10 = .ok (.iload_n 0, 1) := by decide +kernel
theorem dX12_power_11 : decode cX12_power 11 = .ok (.imul, 1) := by decide +kernel
theorem dX12_power_12 : decode cX12_power 12 = .ok (.istore_n 2, 1) := by decide +kernel
theorem dX12_power_13 : decode cX12_power 13 = .ok (.iinc 3 1, 3) := by decide +kernel
theorem dX12_power_16 : decode cX12_power 16 = .ok (.goto (-12), 3) := by decide +kernel
theorem dX12_power_19 : decode cX12_power 19 = .ok (.iload_n 2, 1) := by decide +kernel
theorem dX12_power_20 : decode cX12_power 20 = .ok (.ireturn, 1) := by decide +kernel
theorem dX12_lots_0 : decode cX12_lots 0 = .ok (.aload_n 0, 1) := by decide +kernel
theorem dX12_lots_1 : decode cX12_lots 1 = .ok (.getfield 20, 3) := by decide +kernel
theorem dX12_lots_4 : decode cX12_lots 4 = .ok (.aload_n 0, 1) := by decide +kernel
theorem dX12_lots_5 : decode cX12_lots 5 = .ok (.getfield 349, 3) := by decide +kernel
theorem dX12_lots_8 : decode cX12_lots 8 = .ok (.iaload, 1) := by decide +kernel
theorem dX12_lots_9 : decode cX12_lots 9 = .ok (.ireturn, 1) := by decide +kernel
theorem dX12_isOne_0 : decode cX12_isOne 0 = .ok (.iload_n 1, 1) := by decide +kernel
theorem dX12_isOne_1 : decode cX12_isOne 1 = .ok (.iconst 0, 1) := by decide +kernel
theorem dX12_isOne_2 : decode cX12_isOne 2 = .ok (.aload_n 0, 1) := by decide +kernel
theorem dX12_isOne_3 : decode cX12_isOne 3 = .ok (.invokevirtual 497, 3) := by decide +kernel
theorem dX12_isOne_6 : decode cX12_isOne 6 = .ok (.iconst 1, 1) := by decide +kernel
theorem dX12_isOne_7 : decode cX12_isOne 7 = .ok (.isub, 1) := by decide +kernel
theorem dX12_isOne_8 : decode cX12_isOne 8 = .ok (.invokestatic 500, 3) := by decide +kernel
theorem dX12_isOne_11 : decode cX12_isOne 11 = .ok (.ireturn, 1) := by decide +kernel
theorem dX12_manyIn_0 : decode cX12_manyIn 0 = .ok (.aload_n 0, 1) := by decide +kernel
theorem dX12_manyIn_1 : decode cX12_manyIn 1 = .ok (.getfield 42, 3) := by decide +kernel
theorem dX12_manyIn_4 : decode cX12_manyIn 4 = .ok (.bipush 6, 2) := by decide +kernel
theorem dX12_manyIn_6 : decode cX12_manyIn 6 = .ok (.aload_n 0, 1) := by decide +kernel
theorem dX12_manyIn_7 : decode cX12_manyIn 7 = .ok (.getfield 349, 3) := by decide +kernel
theorem dX12_manyIn_10 : decode cX12_manyIn 10 = .ok (.imul, 1) := by decide +kernel
theorem dX12_manyIn_11 : decode cX12_manyIn 11 = .ok (.iload_n 1, 1) := by decide +kernel
theorem dX12_manyIn_12 : decode cX12_manyIn 12 = .ok (.iadd, 1) := by decide +kernel
theorem dX12_manyIn_13 : decode cX12_manyIn 13 = .ok (.iaload, 1) := by decide +kernel
theorem dX12_manyIn_14 : decode cX12_manyIn 14 = .ok (.ireturn, 1) := by decide +kernel
theorem dX12_itemOf_0 : decode cX12_itemOf 0 = .ok (.bipush 60, 2) := by decide +kernel
theorem dX12_itemOf_2 : decode cX12_itemOf 2 = .ok (.aload_n 0, 1) := by decide +kernel
theorem dX12_itemOf_3 : decode cX12_itemOf 3 = .ok (.getfield 349, 3) := by decide +kernel
theorem dX12_itemOf_6 : decode cX12_itemOf 6 = .ok (.imul, 1) := by decide +kernel
theorem dX12_itemOf_7 : decode cX12_itemOf 7 = .ok (.aload_n 0, 1) := by decide +kernel
theorem dX12_itemOf_8 : decode cX12_itemOf 8 = .ok (.getfield 39, 3) := by decide +kernel
theorem dX12_itemOf_11 : decode cX12_itemOf 11 = .ok (.bipush 6, 2) := by decide +kernel
theorem dX12_itemOf_13 : decode cX12_itemOf 13 = .ok (.aload_n 0, 1) := by decide +kernel
theorem dX12_itemOf_14 : decode cX12_itemOf 14 = .ok (.getfield 349, 3) := by decide +kernel
theorem dX12_itemOf_17 : decode cX12_itemOf 17 = .ok (.imul, 1) := by decide +kernel
theorem dX12_itemOf_18 : decode cX12_itemOf 18 = .ok (.iload_n 1, 1) := by decide +kernel
theorem dX12_itemOf_19 : decode cX12_itemOf 19 = .ok (.iadd, 1) := by decide +kernel
theorem dX12_itemOf_20 : decode cX12_itemOf 20 = .ok (.iaload, 1) := by decide +kernel
theorem dX12_itemOf_21 : decode cX12_itemOf 21 = .ok (.iadd, 1) := by decide +kernel
theorem dX12_itemOf_22 : decode cX12_itemOf 22 = .ok (.iload_n 2, 1) := by decide +kernel
theorem dX12_itemOf_23 : decode cX12_itemOf 23 = .ok (.iadd, 1) := by decide +kernel
theorem dX12_itemOf_24 : decode cX12_itemOf 24 = .ok (.ireturn, 1) := by decide +kernel
theorem dX12_needsOf_0 : decode cX12_needsOf 0 = .ok (.aload_n 0, 1) := by decide +kernel
theorem dX12_needsOf_1 : decode cX12_needsOf 1 = .ok (.getfield 45, 3) := by decide +kernel
theorem dX12_needsOf_4 : decode cX12_needsOf 4 = .ok (.bipush 6, 2) := by decide +kernel
theorem dX12_needsOf_6 : decode cX12_needsOf 6 = .ok (.aload_n 0, 1) := by decide +kernel
theorem dX12_needsOf_7 : decode cX12_needsOf 7 = .ok (.getfield 349, 3) := by decide +kernel
theorem dX12_needsOf_10 : decode cX12_needsOf 10 = .ok (.imul, 1) := by decide +kernel
theorem dX12_needsOf_11 : decode cX12_needsOf 11 = .ok (.iload_n 1, 1) := by decide +kernel
theorem dX12_needsOf_12 : decode cX12_needsOf 12 = .ok (.iadd, 1) := by decide +kernel
theorem dX12_needsOf_13 : decode cX12_needsOf 13 = .ok (.iaload, 1) := by decide +kernel
theorem dX12_needsOf_14 : decode cX12_needsOf 14 = .ok (.ireturn, 1) := by decide +kernel
theorem dX12_leavesOf_0 : decode cX12_leavesOf 0 = .ok (.aload_n 0, 1) := by decide +kernel
theorem dX12_leavesOf_1 : decode cX12_leavesOf 1 = .ok (.iload_n 1, 1) := by decide +kernel
theorem dX12_leavesOf_2 : decode cX12_leavesOf 2 = .ok (.invokevirtual 504, 3) := by decide +kernel
theorem dX12_leavesOf_5 : decode cX12_leavesOf 5 = .ok (.aload_n 0, 1) := by decide +kernel
theorem dX12_leavesOf_6 : decode cX12_leavesOf 6 = .ok (.getfield 48, 3) := by decide +kernel
theorem dX12_leavesOf_9 : decode cX12_leavesOf 9 = .ok (.bipush 6, 2) := by decide +kernel
theorem dX12_leavesOf_11 : decode cX12_leavesOf 11 = .ok (.aload_n 0, 1) := by decide +kernel
theorem dX12_leavesOf_12 : decode cX12_leavesOf 12 = .ok (.getfield 349, 3) := by decide +kernel
theorem dX12_leavesOf_15 : decode cX12_leavesOf 15 = .ok (.imul, 1) := by decide +kernel
theorem dX12_leavesOf_16 : decode cX12_leavesOf 16 = .ok (.iload_n 1, 1) := by decide +kernel
theorem dX12_leavesOf_17 : decode cX12_leavesOf 17 = .ok (.iadd, 1) := by decide +kernel
theorem dX12_leavesOf_18 : decode cX12_leavesOf 18 = .ok (.iaload, 1) := by decide +kernel
theorem dX12_leavesOf_19 : decode cX12_leavesOf 19 = .ok (.iadd, 1) := by decide +kernel
theorem dX12_leavesOf_20 : decode cX12_leavesOf 20 = .ok (.ireturn, 1) := by decide +kernel
theorem dX12_isInlined_0 : decode cX12_isInlined 0 = .ok (.aload_n 0, 1) := by decide +kernel
theorem dX12_isInlined_1 : decode cX12_isInlined 1 = .ok (.getfield 124, 3) := by decide +kernel
theorem dX12_isInlined_4 : decode cX12_isInlined 4 = .ok (.bipush 32, 2) := by decide +kernel
theorem dX12_isInlined_6 : decode cX12_isInlined 6 = .ok (.iaload, 1) := by decide +kernel
theorem dX12_isInlined_7 : decode cX12_isInlined 7 = .ok (.iload_n 1, 1) := by decide +kernel
theorem dX12_isInlined_8 : decode cX12_isInlined 8 = .ok (.invokestatic 358, 3) := by decide +kernel
theorem dX12_isInlined_11 : decode cX12_isInlined 11 = .ok (.ireturn, 1) := by decide +kernel
theorem dX12_startAnew_0 : decode cX12_startAnew 0 = .ok (.iconst 0, 1) := by decide +kernel
theorem dX12_startAnew_1 : decode cX12_startAnew 1 = .ok (.istore_n 1, 1) := by decide +kernel
theorem dX12_startAnew_2 : decode cX12_startAnew 2 = .ok (.iload_n 1, 1) := by decide +kernel
theorem dX12_startAnew_3 : decode cX12_startAnew 3 = .ok (.bipush 34, 2) := by decide +kernel
theorem dX12_startAnew_5 : decode cX12_startAnew 5 = .ok (.if_icmp .ge 16, 3) := by decide +kernel
theorem dX12_startAnew_8 : decode cX12_startAnew 8 = .ok (.aload_n 0, 1) := by decide +kernel
theorem dX12_startAnew_9 : decode cX12_startAnew 9 = .ok (.getfield 124, 3) := by decide +kernel
theorem dX12_startAnew_12 : decode cX12_startAnew 12 = .ok (.iload_n 1, 1) := by decide +kernel
theorem dX12_startAnew_13 : decode cX12_startAnew 13 = .ok (.iconst 0, 1) := by decide +kernel
theorem dX12_startAnew_14 : decode cX12_startAnew 14 = .ok (.iastore, 1) := by decide +kernel
theorem dX12_startAnew_15 : decode cX12_startAnew 15 = .ok (.iinc 1 1, 3) := by decide +kernel
theorem dX12_startAnew_18 : decode cX12_startAnew 18 = .ok (.goto (-16), 3) := by decide +kernel
theorem dX12_startAnew_21 : decode cX12_startAnew 21 = .ok (.aload_n 0, 1) := by decide +kernel
theorem dX12_startAnew_22 : decode cX12_startAnew 22 = .ok (.getfield 124, 3) := by decide +kernel
theorem dX12_startAnew_25 : decode cX12_startAnew 25 = .ok (.bipush 33, 2) := by decide +kernel
theorem dX12_startAnew_27 : decode cX12_startAnew 27 = .ok (.aload_n 0, 1) := by decide +kernel
theorem dX12_startAnew_28 : decode cX12_startAnew 28 = .ok (.getfield 33, 3) := by decide +kernel
theorem dX12_startAnew_31 : decode cX12_startAnew 31 = .ok (.aload_n 0, 1) := by decide +kernel
theorem dX12_startAnew_32 : decode cX12_startAnew 32 = .ok (.getfield 349, 3) := by decide +kernel
theorem dX12_startAnew_35 : decode cX12_startAnew 35 = .ok (.iaload, 1) := by decide +kernel
theorem dX12_startAnew_36 : decode cX12_startAnew 36 = .ok (.iastore, 1) := by decide +kernel
theorem dX12_startAnew_37 : decode cX12_startAnew 37 = .ok (.aload_n 0, 1) := by decide +kernel
theorem dX12_startAnew_38 : decode cX12_startAnew 38 = .ok (.iconst 0, 1) := by decide +kernel
theorem dX12_startAnew_39 : decode cX12_startAnew 39 = .ok (.putfield 507, 3) := by decide +kernel
theorem dX12_startAnew_42 : decode cX12_startAnew 42 = .ok (.aload_n 0, 1) := by decide +kernel
theorem dX12_startAnew_43 : decode cX12_startAnew 43 = .ok (.iconst 0, 1) := by decide +kernel
theorem dX12_startAnew_44 : decode cX12_startAnew 44 = .ok (.putfield 510, 3) := by decide +kernel
theorem dX12_startAnew_47 : decode cX12_startAnew 47 = .ok (.aload_n 0, 1) := by decide +kernel
theorem dX12_startAnew_48 : decode cX12_startAnew 48 = .ok (.iconst 0, 1) := by decide +kernel
theorem dX12_startAnew_49 : decode cX12_startAnew 49 = .ok (.putfield 513, 3) := by decide +kernel
theorem dX12_startAnew_52 : decode cX12_startAnew 52 = .ok (.aload_n 0, 1) := by decide +kernel
theorem dX12_startAnew_53 : decode cX12_startAnew 53 = .ok (.iconst 0, 1) := by decide +kernel
theorem dX12_startAnew_54 : decode cX12_startAnew 54 = .ok (.putfield 516, 3) := by decide +kernel
theorem dX12_startAnew_57 : decode cX12_startAnew 57 = .ok (.iconst 0, 1) := by decide +kernel
theorem dX12_startAnew_58 : decode cX12_startAnew 58 = .ok (.istore_n 1, 1) := by decide +kernel
theorem dX12_startAnew_59 : decode cX12_startAnew 59 = .ok (.iload_n 1, 1) := by decide +kernel
theorem dX12_startAnew_60 : decode cX12_startAnew 60 = .ok (.iconst 3, 1) := by decide +kernel
theorem dX12_startAnew_61 : decode cX12_startAnew 61 = .ok (.if_icmp .ge 16, 3) := by decide +kernel
theorem dX12_startAnew_64 : decode cX12_startAnew 64 = .ok (.aload_n 0, 1) := by decide +kernel
theorem dX12_startAnew_65 : decode cX12_startAnew 65 = .ok (.getfield 215, 3) := by decide +kernel
theorem dX12_startAnew_68 : decode cX12_startAnew 68 = .ok (.iload_n 1, 1) := by decide +kernel
theorem dX12_startAnew_69 : decode cX12_startAnew 69 = .ok (.iconst 0, 1) := by decide +kernel
theorem dX12_startAnew_70 : decode cX12_startAnew 70 = .ok (.bastore, 1) := by decide +kernel
theorem dX12_startAnew_71 : decode cX12_startAnew 71 = .ok (.iinc 1 1, 3) := by decide +kernel
theorem dX12_startAnew_74 : decode cX12_startAnew 74 = .ok (.goto (-15), 3) := by decide +kernel
theorem dX12_startAnew_77 : decode cX12_startAnew 77 = .ok (.return_, 1) := by decide +kernel
theorem dX12_sortOf_0 : decode cX12_sortOf 0 = .ok (.aload_n 0, 1) := by decide +kernel
theorem dX12_sortOf_1 : decode cX12_sortOf 1 = .ok (.getfield 142, 3) := by decide +kernel
theorem dX12_sortOf_4 : decode cX12_sortOf 4 = .ok (.ifCond .lt 21, 3) := by decide +kernel
theorem dX12_sortOf_7 : decode cX12_sortOf 7 = .ok (.iload_n 2, 1) := by decide +kernel
theorem dX12_sortOf_8 : decode cX12_sortOf 8 = .ok (.ifCond .ne 17, 3) := by decide +kernel
theorem dX12_sortOf_11 : decode cX12_sortOf 11 = .ok (.iload_n 1, 1) := by decide +kernel
theorem dX12_sortOf_12 : decode cX12_sortOf 12 = .ok (.aload_n 0, 1) := by decide +kernel
theorem dX12_sortOf_13 : decode cX12_sortOf 13 = .ok (.invokevirtual 497, 3) := by decide +kernel
theorem dX12_sortOf_16 : decode cX12_sortOf 16 = .ok (.iconst 1, 1) := by decide +kernel
theorem dX12_sortOf_17 : decode cX12_sortOf 17 = .ok (.isub, 1) := by decide +kernel
theorem dX12_sortOf_18 : decode cX12_sortOf 18 = .ok (.if_icmp .ne 7, 3) := by decide +kernel
theorem dX12_sortOf_21 : decode cX12_sortOf 21 = .ok (.iconst 0, 1) := by decide +kernel
theorem dX12_sortOf_22 : decode cX12_sortOf 22 = .ok (.goto 14, 3) := by decide +kernel
theorem dX12_sortOf_25 : decode cX12_sortOf 25 = .ok (.aload_n 0, 1) := by decide +kernel
theorem dX12_sortOf_26 : decode cX12_sortOf 26 = .ok (.getfield 60, 3) := by decide +kernel
theorem dX12_sortOf_29 : decode cX12_sortOf 29 = .ok (.aload_n 0, 1) := by decide +kernel
theorem dX12_sortOf_30 : decode cX12_sortOf 30 = .ok (.iload_n 1, 1) := by decide +kernel
theorem dX12_sortOf_31 : decode cX12_sortOf 31 = .ok (.iload_n 2, 1) := by decide +kernel
theorem dX12_sortOf_32 : decode cX12_sortOf 32 = .ok (.invokevirtual 519, 3) := by decide +kernel
theorem dX12_sortOf_35 : decode cX12_sortOf 35 = .ok (.iaload, 1) := by decide +kernel
theorem dX12_sortOf_36 : decode cX12_sortOf 36 = .ok (.ireturn, 1) := by decide +kernel
theorem dX12_whatOf_0 : decode cX12_whatOf 0 = .ok (.aload_n 0, 1) := by decide +kernel
theorem dX12_whatOf_1 : decode cX12_whatOf 1 = .ok (.getfield 142, 3) := by decide +kernel
theorem dX12_whatOf_4 : decode cX12_whatOf 4 = .ok (.ifCond .lt 24, 3) := by decide +kernel
theorem dX12_whatOf_7 : decode cX12_whatOf 7 = .ok (.iload_n 2, 1) := by decide +kernel
theorem dX12_whatOf_8 : decode cX12_whatOf 8 = .ok (.ifCond .ne 20, 3) := by decide +kernel
theorem dX12_whatOf_11 : decode cX12_whatOf 11 = .ok (.iload_n 1, 1) := by decide +kernel
theorem dX12_whatOf_12 : decode cX12_whatOf 12 = .ok (.aload_n 0, 1) := by decide +kernel
theorem dX12_whatOf_13 : decode cX12_whatOf 13 = .ok (.invokevirtual 497, 3) := by decide +kernel
theorem dX12_whatOf_16 : decode cX12_whatOf 16 = .ok (.iconst 1, 1) := by decide +kernel
theorem dX12_whatOf_17 : decode cX12_whatOf 17 = .ok (.isub, 1) := by decide +kernel
theorem dX12_whatOf_18 : decode cX12_whatOf 18 = .ok (.if_icmp .ne 10, 3) := by decide +kernel
theorem dX12_whatOf_21 : decode cX12_whatOf 21 = .ok (.aload_n 0, 1) := by decide +kernel
theorem dX12_whatOf_22 : decode cX12_whatOf 22 = .ok (.getfield 142, 3) := by decide +kernel
theorem dX12_whatOf_25 : decode cX12_whatOf 25 = .ok (.goto 14, 3) := by decide +kernel
theorem dX12_whatOf_28 : decode cX12_whatOf 28 = .ok (.aload_n 0, 1) := by decide +kernel
theorem dX12_whatOf_29 : decode cX12_whatOf 29 = .ok (.getfield 63, 3) := by decide +kernel
theorem dX12_whatOf_32 : decode cX12_whatOf 32 = .ok (.aload_n 0, 1) := by decide +kernel
theorem dX12_whatOf_33 : decode cX12_whatOf 33 = .ok (.iload_n 1, 1) := by decide +kernel
theorem dX12_whatOf_34 : decode cX12_whatOf 34 = .ok (.iload_n 2, 1) := by decide +kernel
theorem dX12_whatOf_35 : decode cX12_whatOf 35 = .ok (.invokevirtual 519, 3) := by decide +kernel
theorem dX12_whatOf_38 : decode cX12_whatOf 38 = .ok (.iaload, 1) := by decide +kernel
theorem dX12_whatOf_39 : decode cX12_whatOf 39 = .ok (.ireturn, 1) := by decide +kernel
theorem dX12_pop_0 : decode cX12_pop 0 = .ok (.aload_n 0, 1) := by decide +kernel
theorem dX12_pop_1 : decode cX12_pop 1 = .ok (.dup, 1) := by decide +kernel
theorem dX12_pop_2 : decode cX12_pop 2 = .ok (.getfield 522, 3) := by decide +kernel
theorem dX12_pop_5 : decode cX12_pop 5 = .ok (.iconst 1, 1) := by decide +kernel
theorem dX12_pop_6 : decode cX12_pop 6 = .ok (.isub, 1) := by decide +kernel
theorem dX12_pop_7 : decode cX12_pop 7 = .ok (.putfield 522, 3) := by decide +kernel
theorem dX12_pop_10 : decode cX12_pop 10 = .ok (.aload_n 0, 1) := by decide +kernel
theorem dX12_pop_11 : decode cX12_pop 11 = .ok (.getfield 127, 3) := by decide +kernel
theorem dX12_pop_14 : decode cX12_pop 14 = .ok (.aload_n 0, 1) := by decide +kernel
theorem dX12_pop_15 : decode cX12_pop 15 = .ok (.getfield 522, 3) := by decide +kernel
theorem dX12_pop_18 : decode cX12_pop 18 = .ok (.iaload, 1) := by decide +kernel
theorem dX12_pop_19 : decode cX12_pop 19 = .ok (.ireturn, 1) := by decide +kernel
theorem dX12_push_0 : decode cX12_push 0 = .ok (.aload_n 0, 1) := by decide +kernel
theorem dX12_push_1 : decode cX12_push 1 = .ok (.getfield 127, 3) := by decide +kernel
theorem dX12_push_4 : decode cX12_push 4 = .ok (.aload_n 0, 1) := by decide +kernel
theorem dX12_push_5 : decode cX12_push 5 = .ok (.getfield 522, 3) := by decide +kernel
theorem dX12_push_8 : decode cX12_push 8 = .ok (.iload_n 1, 1) := by decide +kernel
theorem dX12_push_9 : decode cX12_push 9 = .ok (.iastore, 1) := by decide +kernel
theorem dX12_push_10 : decode cX12_push 10 = .ok (.aload_n 0, 1) := by decide +kernel
theorem dX12_push_11 : decode cX12_push 11 = .ok (.dup, 1) := by decide +kernel
theorem dX12_push_12 : decode cX12_push 12 = .ok (.getfield 522, 3) := by decide +kernel
theorem dX12_push_15 : decode cX12_push 15 = .ok (.iconst 1, 1) := by decide +kernel
theorem dX12_push_16 : decode cX12_push 16 = .ok (.iadd, 1) := by decide +kernel
theorem dX12_push_17 : decode cX12_push 17 = .ok (.putfield 522, 3) := by decide +kernel
theorem dX12_push_20 : decode cX12_push 20 = .ok (.return_, 1) := by decide +kernel
theorem dX12_doThing_0 : decode cX12_doThing 0 = .ok (.iload_n 1, 1) := by decide +kernel
theorem dX12_doThing_1 : decode cX12_doThing 1 = .ok (.bipush 7, 2) := by decide +kernel
theorem dX12_doThing_3 : decode cX12_doThing 3 = .ok (.if_icmp .ge 9, 3) := by decide +kernel
theorem dX12_doThing_6 : decode cX12_doThing 6 = .ok (.aload_n 0, 1) := by decide +kernel
theorem dX12_doThing_7 : decode cX12_doThing 7 = .ok (.iload_n 1, 1) := by decide +kernel
theorem dX12_doThing_8 : decode cX12_doThing 8 = .ok (.invokevirtual 525, 3) := by decide +kernel
theorem dX12_doThing_11 : decode cX12_doThing 11 = .ok (.return_, 1) := by decide +kernel
theorem dX12_doThing_12 : decode cX12_doThing 12 = .ok (.iload_n 1, 1) := by decide +kernel
theorem dX12_doThing_13 : decode cX12_doThing 13 = .ok (.bipush 7, 2) := by decide +kernel
theorem dX12_doThing_15 : decode cX12_doThing 15 = .ok (.if_icmp .ne 29, 3) := by decide +kernel
theorem dX12_doThing_18 : decode cX12_doThing 18 = .ok (.aload_n 0, 1) := by decide +kernel
theorem dX12_doThing_19 : decode cX12_doThing 19 = .ok (.getfield 130, 3) := by decide +kernel
theorem dX12_doThing_22 : decode cX12_doThing 22 = .ok (.aload_n 0, 1) := by decide +kernel
theorem dX12_doThing_23 : decode cX12_doThing 23 = .ok (.getfield 528, 3) := by decide +kernel
theorem dX12_doThing_26 : decode cX12_doThing 26 = .ok (.aload_n 0, 1) := by decide +kernel
theorem dX12_doThing_27 : decode cX12_doThing 27 = .ok (.invokevirtual 531, 3) := by decide +kernel
theorem dX12_doThing_30 : decode cX12_doThing 30 = .ok (.iastore, 1) := by decide +kernel
theorem dX12_doThing_31 : decode cX12_doThing 31 = .ok (.aload_n 0, 1) := by decide +kernel
theorem dX12_doThing_32 : decode cX12_doThing 32 = .ok (.dup, 1) := by decide +kernel
theorem dX12_doThing_33 : decode cX12_doThing 33 = .ok (.getfield 528, 3) := by decide +kernel
theorem dX12_doThing_36 : decode cX12_doThing 36 = .ok (.iconst 1, 1) := by decide +kernel
theorem dX12_doThing_37 : decode cX12_doThing 37 = .ok (.iadd, 1) := by decide +kernel
theorem dX12_doThing_38 : decode cX12_doThing 38 = .ok (.putfield 528, 3) := by decide +kernel
theorem dX12_doThing_41 : decode cX12_doThing 41 = .ok (.goto 64, 3) := by decide +kernel
theorem dX12_doThing_44 : decode cX12_doThing 44 = .ok (.iload_n 1, 1) := by decide +kernel
theorem dX12_doThing_45 : decode cX12_doThing 45 = .ok (.bipush 8, 2) := by decide +kernel
theorem dX12_doThing_47 : decode cX12_doThing 47 = .ok (.if_icmp .ne 29, 3) := by decide +kernel
theorem dX12_doThing_50 : decode cX12_doThing 50 = .ok (.aload_n 0, 1) := by decide +kernel
theorem dX12_doThing_51 : decode cX12_doThing 51 = .ok (.dup, 1) := by decide +kernel
theorem dX12_doThing_52 : decode cX12_doThing 52 = .ok (.getfield 528, 3) := by decide +kernel
theorem dX12_doThing_55 : decode cX12_doThing 55 = .ok (.iconst 1, 1) := by decide +kernel
theorem dX12_doThing_56 : decode cX12_doThing 56 = .ok (.isub, 1) := by decide +kernel
theorem dX12_doThing_57 : decode cX12_doThing 57 = .ok (.putfield 528, 3) := by decide +kernel
theorem dX12_doThing_60 : decode cX12_doThing 60 = .ok (.aload_n 0, 1) := by decide +kernel
theorem dX12_doThing_61 : decode cX12_doThing 61 = .ok (.aload_n 0, 1) := by decide +kernel
theorem dX12_doThing_62 : decode cX12_doThing 62 = .ok (.getfield 130, 3) := by decide +kernel
theorem dX12_doThing_65 : decode cX12_doThing 65 = .ok (.aload_n 0, 1) := by decide +kernel
theorem dX12_doThing_66 : decode cX12_doThing 66 = .ok (.getfield 528, 3) := by decide +kernel
theorem dX12_doThing_69 : decode cX12_doThing 69 = .ok (.iaload, 1) := by decide +kernel
theorem dX12_doThing_70 : decode cX12_doThing 70 = .ok (.invokevirtual 534, 3) := by decide +kernel
theorem dX12_doThing_73 : decode cX12_doThing 73 = .ok (.goto 32, 3) := by decide +kernel
theorem dX12_doThing_76 : decode cX12_doThing 76 = .ok (.aload_n 0, 1) := by decide +kernel
theorem dX12_doThing_77 : decode cX12_doThing 77 = .ok (.invokevirtual 531, 3) := by decide +kernel
theorem dX12_doThing_80 : decode cX12_doThing 80 = .ok (.istore_n 2, 1) := by decide +kernel
theorem dX12_doThing_81 : decode cX12_doThing 81 = .ok (.aload_n 0, 1) := by decide +kernel
theorem dX12_doThing_82 : decode cX12_doThing 82 = .ok (.iload_n 1, 1) := by decide +kernel
theorem dX12_doThing_83 : decode cX12_doThing 83 = .ok (.bipush 12, 2) := by decide +kernel
theorem dX12_doThing_85 : decode cX12_doThing 85 = .ok (.if_icmp .ne 8, 3) := by decide +kernel
theorem dX12_doThing_88 : decode cX12_doThing 88 = .ok (.iload_n 2, 1) := by decide +kernel
theorem dX12_doThing_89 : decode cX12_doThing 89 = .ok (.ineg, 1) := by decide +kernel
theorem dX12_doThing_90 : decode cX12_doThing 90 = .ok (.goto 12, 3) := by decide +kernel
theorem dX12_doThing_93 : decode cX12_doThing 93 = .ok (.iload_n 1, 1) := by decide +kernel
theorem dX12_doThing_94 : decode cX12_doThing 94 = .ok (.aload_n 0, 1) := by decide +kernel
theorem dX12_doThing_95 : decode cX12_doThing 95 = .ok (.invokevirtual 531, 3) := by decide +kernel
theorem dX12_doThing_98 : decode cX12_doThing 98 = .ok (.iload_n 2, 1) := by decide +kernel
theorem dX12_doThing_99 : decode cX12_doThing 99 = .ok (.invokestatic 537, 3) := by decide +kernel
theorem dX12_doThing_102 : decode cX12_doThing 102 = .ok (.invokevirtual 534, 3) := by decide +kernel
theorem dX12_doThing_105 : decode cX12_doThing 105 = .ok (.return_, 1) := by decide +kernel
theorem dX12_reckoned_0 : decode cX12_reckoned 0 = .ok (.iload_n 0, 1) := by decide +kernel
theorem dX12_reckoned_1 : decode cX12_reckoned 1 = .ok (.tableswitch 58 9 13 #[35, 39, 43, 58, 47], 35) := by decide +kernel
theorem dX12_reckoned_36 : decode cX12_reckoned 36 = .ok (.iload_n 1, 1) := by decide +kernel
theorem dX12_reckoned_37 : decode cX12_reckoned 37 = .ok (.iload_n 2, 1) := by decide +kernel
theorem dX12_reckoned_38 : decode cX12_reckoned 38 = .ok (.iadd, 1) := by decide +kernel
theorem dX12_reckoned_39 : decode cX12_reckoned 39 = .ok (.ireturn, 1) := by decide +kernel
theorem dX12_reckoned_40 : decode cX12_reckoned 40 = .ok (.iload_n 1, 1) := by decide +kernel
theorem dX12_reckoned_41 : decode cX12_reckoned 41 = .ok (.iload_n 2, 1) := by decide +kernel
theorem dX12_reckoned_42 : decode cX12_reckoned 42 = .ok (.isub, 1) := by decide +kernel
theorem dX12_reckoned_43 : decode cX12_reckoned 43 = .ok (.ireturn, 1) := by decide +kernel
theorem dX12_reckoned_44 : decode cX12_reckoned 44 = .ok (.iload_n 1, 1) := by decide +kernel
theorem dX12_reckoned_45 : decode cX12_reckoned 45 = .ok (.iload_n 2, 1) := by decide +kernel
theorem dX12_reckoned_46 : decode cX12_reckoned 46 = .ok (.imul, 1) := by decide +kernel
theorem dX12_reckoned_47 : decode cX12_reckoned 47 = .ok (.ireturn, 1) := by decide +kernel
theorem dX12_reckoned_48 : decode cX12_reckoned 48 = .ok (.iload_n 1, 1) := by decide +kernel
theorem dX12_reckoned_49 : decode cX12_reckoned 49 = .ok (.iload_n 2, 1) := by decide +kernel
theorem dX12_reckoned_50 : decode cX12_reckoned 50 = .ok (.if_icmp .ge 7, 3) := by decide +kernel
theorem dX12_reckoned_53 : decode cX12_reckoned 53 = .ok (.iconst 1, 1) := by decide +kernel
theorem dX12_reckoned_54 : decode cX12_reckoned 54 = .ok (.goto 4, 3) := by decide +kernel
theorem dX12_reckoned_57 : decode cX12_reckoned 57 = .ok (.iconst 0, 1) := by decide +kernel
theorem dX12_reckoned_58 : decode cX12_reckoned 58 = .ok (.ireturn, 1) := by decide +kernel
theorem dX12_reckoned_59 : decode cX12_reckoned 59 = .ok (.iload_n 1, 1) := by decide +kernel
theorem dX12_reckoned_60 : decode cX12_reckoned 60 = .ok (.iload_n 2, 1) := by decide +kernel
theorem dX12_reckoned_61 : decode cX12_reckoned 61 = .ok (.if_icmp .ne 7, 3) := by decide +kernel
theorem dX12_reckoned_64 : decode cX12_reckoned 64 = .ok (.iconst 1, 1) := by decide +kernel
theorem dX12_reckoned_65 : decode cX12_reckoned 65 = .ok (.goto 4, 3) := by decide +kernel
theorem dX12_reckoned_68 : decode cX12_reckoned 68 = .ok (.iconst 0, 1) := by decide +kernel
theorem dX12_reckoned_69 : decode cX12_reckoned 69 = .ok (.ireturn, 1) := by decide +kernel
theorem dX12_shuffle_0 : decode cX12_shuffle 0 = .ok (.aload_n 0, 1) := by decide +kernel
theorem dX12_shuffle_1 : decode cX12_shuffle 1 = .ok (.invokevirtual 531, 3) := by decide +kernel
theorem dX12_shuffle_4 : decode cX12_shuffle 4 = .ok (.istore_n 2, 1) := by decide +kernel
theorem dX12_shuffle_5 : decode cX12_shuffle 5 = .ok (.iload_n 1, 1) := by decide +kernel
theorem dX12_shuffle_6 : decode cX12_shuffle 6 = .ok (.ifCond .ne 8, 3) := by decide +kernel
theorem dX12_shuffle_9 : decode cX12_shuffle 9 = .ok (.aload_n 0, 1) := by decide +kernel
theorem dX12_shuffle_10 : decode cX12_shuffle 10 = .ok (.iload_n 2, 1) := by decide +kernel
theorem dX12_shuffle_11 : decode cX12_shuffle 11 = .ok (.invokevirtual 534, 3) := by decide +kernel
theorem dX12_shuffle_14 : decode cX12_shuffle 14 = .ok (.iload_n 1, 1) := by decide +kernel
theorem dX12_shuffle_15 : decode cX12_shuffle 15 = .ok (.iconst 2, 1) := by decide +kernel
theorem dX12_shuffle_16 : decode cX12_shuffle 16 = .ok (.if_icmp .ge 13, 3) := by decide +kernel
theorem dX12_shuffle_19 : decode cX12_shuffle 19 = .ok (.iload_n 1, 1) := by decide +kernel
theorem dX12_shuffle_20 : decode cX12_shuffle 20 = .ok (.ifCond .ne 8, 3) := by decide +kernel
theorem dX12_shuffle_23 : decode cX12_shuffle 23 = .ok (.aload_n 0, 1) := by decide +kernel
theorem dX12_shuffle_24 : decode cX12_shuffle 24 = .ok (.iload_n 2, 1) := by decide +kernel
theorem dX12_shuffle_25 : decode cX12_shuffle 25 = .ok (.invokevirtual 534, 3) := by decide +kernel
theorem dX12_shuffle_28 : decode cX12_shuffle 28 = .ok (.return_, 1) := by decide +kernel
theorem dX12_shuffle_29 : decode cX12_shuffle 29 = .ok (.aload_n 0, 1) := by decide +kernel
theorem dX12_shuffle_30 : decode cX12_shuffle 30 = .ok (.invokevirtual 531, 3) := by decide +kernel
theorem dX12_shuffle_33 : decode cX12_shuffle 33 = .ok (.istore_n 3, 1) := by decide +kernel
theorem dX12_shuffle_34 : decode cX12_shuffle 34 = .ok (.iload_n 1, 1) := by decide +kernel
theorem dX12_shuffle_35 : decode cX12_shuffle 35 = .ok (.iconst 4, 1) := by decide +kernel
theorem dX12_shuffle_36 : decode cX12_shuffle 36 = .ok (.if_icmp .ne 26, 3) := by decide +kernel
theorem dX12_shuffle_39 : decode cX12_shuffle 39 = .ok (.aload_n 0, 1) := by decide +kernel
theorem dX12_shuffle_40 : decode cX12_shuffle 40 = .ok (.invokevirtual 531, 3) := by decide +kernel
theorem dX12_shuffle_43 : decode cX12_shuffle 43 = .ok (.istore 4, 2) := by decide +kernel
theorem dX12_shuffle_45 : decode cX12_shuffle 45 = .ok (.aload_n 0, 1) := by decide +kernel
theorem dX12_shuffle_46 : decode cX12_shuffle 46 = .ok (.iload_n 3, 1) := by decide +kernel
theorem dX12_shuffle_47 : decode cX12_shuffle 47 = .ok (.invokevirtual 534, 3) := by decide +kernel
theorem dX12_shuffle_50 : decode cX12_shuffle 50 = .ok (.aload_n 0, 1) := by decide +kernel
theorem dX12_shuffle_51 : decode cX12_shuffle 51 = .ok (.iload_n 2, 1) := by decide +kernel
theorem dX12_shuffle_52 : decode cX12_shuffle 52 = .ok (.invokevirtual 534, 3) := by decide +kernel
theorem dX12_shuffle_55 : decode cX12_shuffle 55 = .ok (.aload_n 0, 1) := by decide +kernel
theorem dX12_shuffle_56 : decode cX12_shuffle 56 = .ok (.iload 4, 2) := by decide +kernel
theorem dX12_shuffle_58 : decode cX12_shuffle 58 = .ok (.invokevirtual 534, 3) := by decide +kernel
theorem dX12_shuffle_61 : decode cX12_shuffle 61 = .ok (.return_, 1) := by decide +kernel
theorem dX12_shuffle_62 : decode cX12_shuffle 62 = .ok (.iload_n 1, 1) := by decide +kernel
theorem dX12_shuffle_63 : decode cX12_shuffle 63 = .ok (.iconst 3, 1) := by decide +kernel
theorem dX12_shuffle_64 : decode cX12_shuffle 64 = .ok (.if_icmp .ne 8, 3) := by decide +kernel
theorem dX12_shuffle_67 : decode cX12_shuffle 67 = .ok (.aload_n 0, 1) := by decide +kernel
theorem dX12_shuffle_68 : decode cX12_shuffle 68 = .ok (.iload_n 3, 1) := by decide +kernel
theorem dX12_shuffle_69 : decode cX12_shuffle 69 = .ok (.invokevirtual 534, 3) := by decide +kernel
theorem dX12_shuffle_72 : decode cX12_shuffle 72 = .ok (.iload_n 1, 1) := by decide +kernel
theorem dX12_shuffle_73 : decode cX12_shuffle 73 = .ok (.iconst 2, 1) := by decide +kernel
theorem dX12_shuffle_74 : decode cX12_shuffle 74 = .ok (.if_icmp .eq 9, 3) := by decide +kernel
theorem dX12_shuffle_77 : decode cX12_shuffle 77 = .ok (.iload_n 1, 1) := by decide +kernel
theorem dX12_shuffle_78 : decode cX12_shuffle 78 = .ok (.bipush 6, 2) := by decide +kernel
theorem dX12_shuffle_80 : decode cX12_shuffle 80 = .ok (.if_icmp .ne 8, 3) := by decide +kernel
theorem dX12_shuffle_83 : decode cX12_shuffle 83 = .ok (.aload_n 0, 1) := by decide +kernel
theorem dX12_shuffle_84 : decode cX12_shuffle 84 = .ok (.iload_n 2, 1) := by decide +kernel
theorem dX12_shuffle_85 : decode cX12_shuffle 85 = .ok (.invokevirtual 534, 3) := by decide +kernel
theorem dX12_shuffle_88 : decode cX12_shuffle 88 = .ok (.iload_n 1, 1) := by decide +kernel
theorem dX12_shuffle_89 : decode cX12_shuffle 89 = .ok (.iconst 5, 1) := by decide +kernel
theorem dX12_shuffle_90 : decode cX12_shuffle 90 = .ok (.if_icmp .eq 13, 3) := by decide +kernel
theorem dX12_shuffle_93 : decode cX12_shuffle 93 = .ok (.iload_n 1, 1) := by decide +kernel
theorem dX12_shuffle_94 : decode cX12_shuffle 94 = .ok (.iconst 3, 1) := by decide +kernel
theorem dX12_shuffle_95 : decode cX12_shuffle 95 = .ok (.if_icmp .eq 8, 3) := by decide +kernel
theorem dX12_shuffle_98 : decode cX12_shuffle 98 = .ok (.aload_n 0, 1) := by decide +kernel
theorem dX12_shuffle_99 : decode cX12_shuffle 99 = .ok (.iload_n 3, 1) := by decide +kernel
theorem dX12_shuffle_100 : decode cX12_shuffle 100 = .ok (.invokevirtual 534, 3) := by decide +kernel
theorem dX12_shuffle_103 : decode cX12_shuffle 103 = .ok (.iload_n 1, 1) := by decide +kernel
theorem dX12_shuffle_104 : decode cX12_shuffle 104 = .ok (.iconst 3, 1) := by decide +kernel
theorem dX12_shuffle_105 : decode cX12_shuffle 105 = .ok (.if_icmp .eq 14, 3) := by decide +kernel
theorem dX12_shuffle_108 : decode cX12_shuffle 108 = .ok (.iload_n 1, 1) := by decide +kernel
theorem dX12_shuffle_109 : decode cX12_shuffle 109 = .ok (.iconst 5, 1) := by decide +kernel
theorem dX12_shuffle_110 : decode cX12_shuffle 110 = .ok (.if_icmp .eq 9, 3) := by decide +kernel
theorem dX12_shuffle_113 : decode cX12_shuffle 113 = .ok (.iload_n 1, 1) := by decide +kernel
theorem dX12_shuffle_114 : decode cX12_shuffle 114 = .ok (.bipush 6, 2) := by decide +kernel
theorem dX12_shuffle_116 : decode cX12_shuffle 116 = .ok (.if_icmp .ne 8, 3) := by decide +kernel
theorem dX12_shuffle_119 : decode cX12_shuffle 119 = .ok (.aload_n 0, 1) := by decide +kernel
theorem dX12_shuffle_120 : decode cX12_shuffle 120 = .ok (.iload_n 2, 1) := by decide +kernel
theorem dX12_shuffle_121 : decode cX12_shuffle 121 = .ok (.invokevirtual 534, 3) := by decide +kernel
theorem dX12_shuffle_124 : decode cX12_shuffle 124 = .ok (.iload_n 1, 1) := by decide +kernel
theorem dX12_shuffle_125 : decode cX12_shuffle 125 = .ok (.iconst 3, 1) := by decide +kernel
theorem dX12_shuffle_126 : decode cX12_shuffle 126 = .ok (.if_icmp .ne 8, 3) := by decide +kernel
theorem dX12_shuffle_129 : decode cX12_shuffle 129 = .ok (.aload_n 0, 1) := by decide +kernel
theorem dX12_shuffle_130 : decode cX12_shuffle 130 = .ok (.iload_n 3, 1) := by decide +kernel
theorem dX12_shuffle_131 : decode cX12_shuffle 131 = .ok (.invokevirtual 534, 3) := by decide +kernel
theorem dX12_shuffle_134 : decode cX12_shuffle 134 = .ok (.return_, 1) := by decide +kernel
theorem dX12_runWord_0 : decode cX12_runWord 0 = .ok (.iload_n 1, 1) := by decide +kernel
theorem dX12_runWord_1 : decode cX12_runWord 1 = .ok (.istore_n 2, 1) := by decide +kernel
theorem dX12_runWord_2 : decode cX12_runWord 2 = .ok (.iconst 0, 1) := by decide +kernel
theorem dX12_runWord_3 : decode cX12_runWord 3 = .ok (.istore_n 3, 1) := by decide +kernel
theorem dX12_runWord_4 : decode cX12_runWord 4 = .ok (.aload_n 0, 1) := by decide +kernel
theorem dX12_runWord_5 : decode cX12_runWord 5 = .ok (.iconst 0, 1) := by decide +kernel
theorem dX12_runWord_6 : decode cX12_runWord 6 = .ok (.putfield 540, 3) := by decide +kernel
theorem dX12_runWord_9 : decode cX12_runWord 9 = .ok (.aload_n 0, 1) := by decide +kernel
theorem dX12_runWord_10 : decode cX12_runWord 10 = .ok (.iconst 0, 1) := by decide +kernel
theorem dX12_runWord_11 : decode cX12_runWord 11 = .ok (.putfield 543, 3) := by decide +kernel
theorem dX12_runWord_14 : decode cX12_runWord 14 = .ok (.aload_n 0, 1) := by decide +kernel
theorem dX12_runWord_15 : decode cX12_runWord 15 = .ok (.getfield 540, 3) := by decide +kernel
theorem dX12_runWord_18 : decode cX12_runWord 18 = .ok (.ifCond .lt 137, 3) := by decide +kernel
theorem dX12_runWord_21 : decode cX12_runWord 21 = .ok (.iload_n 3, 1) := by decide +kernel
theorem dX12_runWord_22 : decode cX12_runWord 22 = .ok (.aload_n 0, 1) := by decide +kernel
theorem dX12_runWord_23 : decode cX12_runWord 23 = .ok (.iload_n 2, 1) := by decide +kernel
theorem dX12_runWord_24 : decode cX12_runWord 24 = .ok (.invokevirtual 546, 3) := by decide +kernel
theorem dX12_runWord_27 : decode cX12_runWord 27 = .ok (.if_icmp .ne 58, 3) := by decide +kernel
theorem dX12_runWord_30 : decode cX12_runWord 30 = .ok (.aload_n 0, 1) := by decide +kernel
theorem dX12_runWord_31 : decode cX12_runWord 31 = .ok (.dup, 1) := by decide +kernel
theorem dX12_runWord_32 : decode cX12_runWord 32 = .ok (.getfield 540, 3) := by decide +kernel
theorem dX12_runWord_35 : decode cX12_runWord 35 = .ok (.iconst 1, 1) := by decide +kernel
theorem dX12_runWord_36 : decode cX12_runWord 36 = .ok (.isub, 1) := by decide +kernel
theorem dX12_runWord_37 : decode cX12_runWord 37 = .ok (.putfield 540, 3) := by decide +kernel
theorem dX12_runWord_40 : decode cX12_runWord 40 = .ok (.aload_n 0, 1) := by decide +kernel
theorem dX12_runWord_41 : decode cX12_runWord 41 = .ok (.getfield 540, 3) := by decide +kernel
theorem dX12_runWord_44 : decode cX12_runWord 44 = .ok (.ifCond .ge 7, 3) := by decide +kernel
theorem dX12_runWord_47 : decode cX12_runWord 47 = .ok (.iload_n 2, 1) := by decide +kernel
theorem dX12_runWord_48 : decode cX12_runWord 48 = .ok (.goto 12, 3) := by decide +kernel
theorem dX12_runWord_51 : decode cX12_runWord 51 = .ok (.aload_n 0, 1) := by decide +kernel
theorem dX12_runWord_52 : decode cX12_runWord 52 = .ok (.getfield 133, 3) := by decide +kernel
theorem dX12_runWord_55 : decode cX12_runWord 55 = .ok (.aload_n 0, 1) := by decide +kernel
theorem dX12_runWord_56 : decode cX12_runWord 56 = .ok (.getfield 540, 3) := by decide +kernel
theorem dX12_runWord_59 : decode cX12_runWord 59 = .ok (.iaload, 1) := by decide +kernel
theorem dX12_runWord_60 : decode cX12_runWord 60 = .ok (.istore_n 2, 1) := by decide +kernel
theorem dX12_runWord_61 : decode cX12_runWord 61 = .ok (.aload_n 0, 1) := by decide +kernel
theorem dX12_runWord_62 : decode cX12_runWord 62 = .ok (.getfield 540, 3) := by decide +kernel
theorem dX12_runWord_65 : decode cX12_runWord 65 = .ok (.ifCond .ge 7, 3) := by decide +kernel
theorem dX12_runWord_68 : decode cX12_runWord 68 = .ok (.iload_n 3, 1) := by decide +kernel
theorem dX12_runWord_69 : decode cX12_runWord 69 = .ok (.goto 12, 3) := by decide +kernel
theorem dX12_runWord_72 : decode cX12_runWord 72 = .ok (.aload_n 0, 1) := by decide +kernel
theorem dX12_runWord_73 : decode cX12_runWord 73 = .ok (.getfield 136, 3) := by decide +kernel
theorem dX12_runWord_76 : decode cX12_runWord 76 = .ok (.aload_n 0, 1) := by decide +kernel
theorem dX12_runWord_77 : decode cX12_runWord 77 = .ok (.getfield 540, 3) := by decide +kernel
theorem dX12_runWord_80 : decode cX12_runWord 80 = .ok (.iaload, 1) := by decide +kernel
theorem dX12_runWord_81 : decode cX12_runWord 81 = .ok (.istore_n 3, 1) := by decide +kernel
theorem dX12_runWord_82 : decode cX12_runWord 82 = .ok (.goto (-68), 3) := by decide +kernel
theorem dX12_runWord_85 : decode cX12_runWord 85 = .ok (.aload_n 0, 1) := by decide +kernel
theorem dX12_runWord_86 : decode cX12_runWord 86 = .ok (.iload_n 2, 1) := by decide +kernel
theorem dX12_runWord_87 : decode cX12_runWord 87 = .ok (.iload_n 3, 1) := by decide +kernel
theorem dX12_runWord_88 : decode cX12_runWord 88 = .ok (.invokevirtual 549, 3) := by decide +kernel
theorem dX12_runWord_91 : decode cX12_runWord 91 = .ok (.istore 4, 2) := by decide +kernel
theorem dX12_runWord_93 : decode cX12_runWord 93 = .ok (.iload 4, 2) := by decide +kernel
theorem dX12_runWord_95 : decode cX12_runWord 95 = .ok (.iconst 2, 1) := by decide +kernel
theorem dX12_runWord_96 : decode cX12_runWord 96 = .ok (.if_icmp .ne 47, 3) := by decide +kernel
theorem dX12_runWord_99 : decode cX12_runWord 99 = .ok (.aload_n 0, 1) := by decide +kernel
theorem dX12_runWord_100 : decode cX12_runWord 100 = .ok (.getfield 133, 3) := by decide +kernel
theorem dX12_runWord_103 : decode cX12_runWord 103 = .ok (.aload_n 0, 1) := by decide +kernel
theorem dX12_runWord_104 : decode cX12_runWord 104 = .ok (.getfield 540, 3) := by decide +kernel
theorem dX12_runWord_107 : decode cX12_runWord 107 = .ok (.iload_n 2, 1) := by decide +kernel
theorem dX12_runWord_108 : decode cX12_runWord 108 = .ok (.iastore, 1) := by decide +kernel
theorem dX12_runWord_109 : decode cX12_runWord 109 = .ok (.aload_n 0, 1) := by decide +kernel
theorem dX12_runWord_110 : decode cX12_runWord 110 = .ok (.getfield 136, 3) := by decide +kernel
theorem dX12_runWord_113 : decode cX12_runWord 113 = .ok (.aload_n 0, 1) := by decide +kernel
theorem dX12_runWord_114 : decode cX12_runWord 114 = .ok (.getfield 540, 3) := by decide +kernel
theorem dX12_runWord_117 : decode cX12_runWord 117 = .ok (.iload_n 3, 1) := by decide +kernel
theorem dX12_runWord_118 : decode cX12_runWord 118 = .ok (.iconst 1, 1) := by decide +kernel
theorem dX12_runWord_119 : decode cX12_runWord 119 = .ok (.iadd, 1) := by decide +kernel
theorem dX12_runWord_120 : decode cX12_runWord 120 = .ok (.iastore, 1) := by decide +kernel
theorem dX12_runWord_121 : decode cX12_runWord 121 = .ok (.aload_n 0, 1) := by decide +kernel
theorem dX12_runWord_122 : decode cX12_runWord 122 = .ok (.dup, 1) := by decide +kernel
theorem dX12_runWord_123 : decode cX12_runWord 123 = .ok (.getfield 540, 3) := by decide +kernel
theorem dX12_runWord_126 : decode cX12_runWord 126 = .ok (.iconst 1, 1) := by decide +kernel
theorem dX12_runWord_127 : decode cX12_runWord 127 = .ok (.iadd, 1) := by decide +kernel
theorem dX12_runWord_128 : decode cX12_runWord 128 = .ok (.putfield 540, 3) := by decide +kernel
theorem dX12_runWord_131 : decode cX12_runWord 131 = .ok (.aload_n 0, 1) := by decide +kernel
theorem dX12_runWord_132 : decode cX12_runWord 132 = .ok (.iload_n 2, 1) := by decide +kernel
theorem dX12_runWord_133 : decode cX12_runWord 133 = .ok (.iload_n 3, 1) := by decide +kernel
theorem dX12_runWord_134 : decode cX12_runWord 134 = .ok (.invokevirtual 552, 3) := by decide +kernel
theorem dX12_runWord_137 : decode cX12_runWord 137 = .ok (.istore_n 2, 1) := by decide +kernel
theorem dX12_runWord_138 : decode cX12_runWord 138 = .ok (.iconst 0, 1) := by decide +kernel
theorem dX12_runWord_139 : decode cX12_runWord 139 = .ok (.istore_n 3, 1) := by decide +kernel
theorem dX12_runWord_140 : decode cX12_runWord 140 = .ok (.goto (-126), 3) := by decide +kernel
theorem dX12_runWord_143 : decode cX12_runWord 143 = .ok (.aload_n 0, 1) := by decide +kernel
theorem dX12_runWord_144 : decode cX12_runWord 144 = .ok (.iload_n 2, 1) := by decide +kernel
theorem dX12_runWord_145 : decode cX12_runWord 145 = .ok (.iload_n 3, 1) := by decide +kernel
theorem dX12_runWord_146 : decode cX12_runWord 146 = .ok (.iload 4, 2) := by decide +kernel
theorem dX12_runWord_148 : decode cX12_runWord 148 = .ok (.invokevirtual 555, 3) := by decide +kernel
theorem dX12_runWord_151 : decode cX12_runWord 151 = .ok (.istore_n 3, 1) := by decide +kernel
theorem dX12_runWord_152 : decode cX12_runWord 152 = .ok (.goto (-138), 3) := by decide +kernel
theorem dX12_runWord_155 : decode cX12_runWord 155 = .ok (.return_, 1) := by decide +kernel
theorem dX12_doItem_0 : decode cX12_doItem 0 = .ok (.iload_n 3, 1) := by decide +kernel
theorem dX12_doItem_1 : decode cX12_doItem 1 = .ok (.iconst 2, 1) := by decide +kernel
theorem dX12_doItem_2 : decode cX12_doItem 2 = .ok (.if_icmp .le 24, 3) := by decide +kernel
theorem dX12_doItem_5 : decode cX12_doItem 5 = .ok (.aload_n 0, 1) := by decide +kernel
theorem dX12_doItem_6 : decode cX12_doItem 6 = .ok (.getfield 69, 3) := by decide +kernel
theorem dX12_doItem_9 : decode cX12_doItem 9 = .ok (.aload_n 0, 1) := by decide +kernel
theorem dX12_doItem_10 : decode cX12_doItem 10 = .ok (.iload_n 1, 1) := by decide +kernel
theorem dX12_doItem_11 : decode cX12_doItem 11 = .ok (.iload_n 2, 1) := by decide +kernel
theorem dX12_doItem_12 : decode cX12_doItem 12 = .ok (.invokevirtual 519, 3) := by decide +kernel
theorem dX12_doItem_15 : decode cX12_doItem 15 = .ok (.iaload, 1) := by decide +kernel
theorem dX12_doItem_16 : decode cX12_doItem 16 = .ok (.aload_n 0, 1) := by decide +kernel
theorem dX12_doItem_17 : decode cX12_doItem 17 = .ok (.iload_n 1, 1) := by decide +kernel
theorem dX12_doItem_18 : decode cX12_doItem 18 = .ok (.iconst 0, 1) := by decide +kernel
theorem dX12_doItem_19 : decode cX12_doItem 19 = .ok (.invokevirtual 519, 3) := by decide +kernel
theorem dX12_doItem_22 : decode cX12_doItem 22 = .ok (.isub, 1) := by decide +kernel
theorem dX12_doItem_23 : decode cX12_doItem 23 = .ok (.goto 4, 3) := by decide +kernel
theorem dX12_doItem_26 : decode cX12_doItem 26 = .ok (.iconst 0, 1) := by decide +kernel
theorem dX12_doItem_27 : decode cX12_doItem 27 = .ok (.istore 4, 2) := by decide +kernel
theorem dX12_doItem_29 : decode cX12_doItem 29 = .ok (.iload_n 3, 1) := by decide +kernel
theorem dX12_doItem_30 : decode cX12_doItem 30 = .ok (.ifCond .ne 13, 3) := by decide +kernel
theorem dX12_doItem_33 : decode cX12_doItem 33 = .ok (.aload_n 0, 1) := by decide +kernel
theorem dX12_doItem_34 : decode cX12_doItem 34 = .ok (.aload_n 0, 1) := by decide +kernel
theorem dX12_doItem_35 : decode cX12_doItem 35 = .ok (.iload_n 1, 1) := by decide +kernel
theorem dX12_doItem_36 : decode cX12_doItem 36 = .ok (.iload_n 2, 1) := by decide +kernel
theorem dX12_doItem_37 : decode cX12_doItem 37 = .ok (.invokevirtual 552, 3) := by decide +kernel
theorem dX12_doItem_40 : decode cX12_doItem 40 = .ok (.invokevirtual 558, 3) := by decide +kernel
theorem dX12_doItem_43 : decode cX12_doItem 43 = .ok (.iload_n 3, 1) := by decide +kernel
theorem dX12_doItem_44 : decode cX12_doItem 44 = .ok (.iconst 1, 1) := by decide +kernel
theorem dX12_doItem_45 : decode cX12_doItem 45 = .ok (.if_icmp .ne 13, 3) := by decide +kernel
theorem dX12_doItem_48 : decode cX12_doItem 48 = .ok (.aload_n 0, 1) := by decide +kernel
theorem dX12_doItem_49 : decode cX12_doItem 49 = .ok (.aload_n 0, 1) := by decide +kernel
theorem dX12_doItem_50 : decode cX12_doItem 50 = .ok (.iload_n 1, 1) := by decide +kernel
theorem dX12_doItem_51 : decode cX12_doItem 51 = .ok (.iload_n 2, 1) := by decide +kernel
theorem dX12_doItem_52 : decode cX12_doItem 52 = .ok (.invokevirtual 552, 3) := by decide +kernel
theorem dX12_doItem_55 : decode cX12_doItem 55 = .ok (.invokevirtual 534, 3) := by decide +kernel
theorem dX12_doItem_58 : decode cX12_doItem 58 = .ok (.iload_n 3, 1) := by decide +kernel
theorem dX12_doItem_59 : decode cX12_doItem 59 = .ok (.iconst 3, 1) := by decide +kernel
theorem dX12_doItem_60 : decode cX12_doItem 60 = .ok (.if_icmp .ne 21, 3) := by decide +kernel
theorem dX12_doItem_63 : decode cX12_doItem 63 = .ok (.aload_n 0, 1) := by decide +kernel
theorem dX12_doItem_64 : decode cX12_doItem 64 = .ok (.invokevirtual 531, 3) := by decide +kernel
theorem dX12_doItem_67 : decode cX12_doItem 67 = .ok (.ifCond .ne 10, 3) := by decide +kernel
theorem dX12_doItem_70 : decode cX12_doItem 70 = .ok (.iload 4, 2) := by decide +kernel
theorem dX12_doItem_72 : decode cX12_doItem 72 = .ok (.iconst 1, 1) := by decide +kernel
theorem dX12_doItem_73 : decode cX12_doItem 73 = .ok (.iadd, 1) := by decide +kernel
theorem dX12_doItem_74 : decode cX12_doItem 74 = .ok (.goto 6, 3) := by decide +kernel
theorem dX12_doItem_77 : decode cX12_doItem 77 = .ok (.iload_n 2, 1) := by decide +kernel
theorem dX12_doItem_78 : decode cX12_doItem 78 = .ok (.iconst 1, 1) := by decide +kernel
theorem dX12_doItem_79 : decode cX12_doItem 79 = .ok (.iadd, 1) := by decide +kernel
theorem dX12_doItem_80 : decode cX12_doItem 80 = .ok (.ireturn, 1) := by decide +kernel
theorem dX12_doItem_81 : decode cX12_doItem 81 = .ok (.iload_n 3, 1) := by decide +kernel
theorem dX12_doItem_82 : decode cX12_doItem 82 = .ok (.iconst 4, 1) := by decide +kernel
theorem dX12_doItem_83 : decode cX12_doItem 83 = .ok (.if_icmp .ne 8, 3) := by decide +kernel
theorem dX12_doItem_86 : decode cX12_doItem 86 = .ok (.iload 4, 2) := by decide +kernel
theorem dX12_doItem_88 : decode cX12_doItem 88 = .ok (.iconst 1, 1) := by decide +kernel
theorem dX12_doItem_89 : decode cX12_doItem 89 = .ok (.iadd, 1) := by decide +kernel
theorem dX12_doItem_90 : decode cX12_doItem 90 = .ok (.ireturn, 1) := by decide +kernel
theorem dX12_doItem_91 : decode cX12_doItem 91 = .ok (.iload_n 3, 1) := by decide +kernel
theorem dX12_doItem_92 : decode cX12_doItem 92 = .ok (.bipush 6, 2) := by decide +kernel
theorem dX12_doItem_94 : decode cX12_doItem 94 = .ok (.if_icmp .ne 28, 3) := by decide +kernel
theorem dX12_doItem_97 : decode cX12_doItem 97 = .ok (.aload_n 0, 1) := by decide +kernel
theorem dX12_doItem_98 : decode cX12_doItem 98 = .ok (.getfield 139, 3) := by decide +kernel
theorem dX12_doItem_101 : decode cX12_doItem 101 = .ok (.aload_n 0, 1) := by decide +kernel
theorem dX12_doItem_102 : decode cX12_doItem 102 = .ok (.getfield 543, 3) := by decide +kernel
theorem dX12_doItem_105 : decode cX12_doItem 105 = .ok (.aload_n 0, 1) := by decide +kernel
theorem dX12_doItem_106 : decode cX12_doItem 106 = .ok (.iload_n 1, 1) := by decide +kernel
theorem dX12_doItem_107 : decode cX12_doItem 107 = .ok (.iload_n 2, 1) := by decide +kernel
theorem dX12_doItem_108 : decode cX12_doItem 108 = .ok (.invokevirtual 552, 3) := by decide +kernel
theorem dX12_doItem_111 : decode cX12_doItem 111 = .ok (.iastore, 1) := by decide +kernel
theorem dX12_doItem_112 : decode cX12_doItem 112 = .ok (.aload_n 0, 1) := by decide +kernel
theorem dX12_doItem_113 : decode cX12_doItem 113 = .ok (.dup, 1) := by decide +kernel
theorem dX12_doItem_114 : decode cX12_doItem 114 = .ok (.getfield 543, 3) := by decide +kernel
theorem dX12_doItem_117 : decode cX12_doItem 117 = .ok (.iconst 1, 1) := by decide +kernel
theorem dX12_doItem_118 : decode cX12_doItem 118 = .ok (.iadd, 1) := by decide +kernel
theorem dX12_doItem_119 : decode cX12_doItem 119 = .ok (.putfield 543, 3) := by decide +kernel
theorem dX12_doItem_122 : decode cX12_doItem 122 = .ok (.iload_n 3, 1) := by decide +kernel
theorem dX12_doItem_123 : decode cX12_doItem 123 = .ok (.bipush 7, 2) := by decide +kernel
theorem dX12_doItem_125 : decode cX12_doItem 125 = .ok (.if_icmp .ne 47, 3) := by decide +kernel
theorem dX12_doItem_128 : decode cX12_doItem 128 = .ok (.aload_n 0, 1) := by decide +kernel
theorem dX12_doItem_129 : decode cX12_doItem 129 = .ok (.getfield 139, 3) := by decide +kernel
theorem dX12_doItem_132 : decode cX12_doItem 132 = .ok (.aload_n 0, 1) := by decide +kernel
theorem dX12_doItem_133 : decode cX12_doItem 133 = .ok (.getfield 543, 3) := by decide +kernel
theorem dX12_doItem_136 : decode cX12_doItem 136 = .ok (.iconst 1, 1) := by decide +kernel
theorem dX12_doItem_137 : decode cX12_doItem 137 = .ok (.isub, 1) := by decide +kernel
theorem dX12_doItem_138 : decode cX12_doItem 138 = .ok (.dup2, 1) := by decide +kernel
theorem dX12_doItem_139 : decode cX12_doItem 139 = .ok (.iaload, 1) := by decide +kernel
theorem dX12_doItem_140 : decode cX12_doItem 140 = .ok (.iconst 1, 1) := by decide +kernel
theorem dX12_doItem_141 : decode cX12_doItem 141 = .ok (.isub, 1) := by decide +kernel
theorem dX12_doItem_142 : decode cX12_doItem 142 = .ok (.iastore, 1) := by decide +kernel
theorem dX12_doItem_143 : decode cX12_doItem 143 = .ok (.aload_n 0, 1) := by decide +kernel
theorem dX12_doItem_144 : decode cX12_doItem 144 = .ok (.getfield 139, 3) := by decide +kernel
theorem dX12_doItem_147 : decode cX12_doItem 147 = .ok (.aload_n 0, 1) := by decide +kernel
theorem dX12_doItem_148 : decode cX12_doItem 148 = .ok (.getfield 543, 3) := by decide +kernel
theorem dX12_doItem_151 : decode cX12_doItem 151 = .ok (.iconst 1, 1) := by decide +kernel
theorem dX12_doItem_152 : decode cX12_doItem 152 = .ok (.isub, 1) := by decide +kernel
theorem dX12_doItem_153 : decode cX12_doItem 153 = .ok (.iaload, 1) := by decide +kernel
theorem dX12_doItem_154 : decode cX12_doItem 154 = .ok (.ifCond .le 8, 3) := by decide +kernel
theorem dX12_doItem_157 : decode cX12_doItem 157 = .ok (.iload 4, 2) := by decide +kernel
theorem dX12_doItem_159 : decode cX12_doItem 159 = .ok (.iconst 1, 1) := by decide +kernel
theorem dX12_doItem_160 : decode cX12_doItem 160 = .ok (.iadd, 1) := by decide +kernel
theorem dX12_doItem_161 : decode cX12_doItem 161 = .ok (.ireturn, 1) := by decide +kernel
theorem dX12_doItem_162 : decode cX12_doItem 162 = .ok (.aload_n 0, 1) := by decide +kernel
theorem dX12_doItem_163 : decode cX12_doItem 163 = .ok (.dup, 1) := by decide +kernel
theorem dX12_doItem_164 : decode cX12_doItem 164 = .ok (.getfield 543, 3) := by decide +kernel
theorem dX12_doItem_167 : decode cX12_doItem 167 = .ok (.iconst 1, 1) := by decide +kernel
theorem dX12_doItem_168 : decode cX12_doItem 168 = .ok (.isub, 1) := by decide +kernel
theorem dX12_doItem_169 : decode cX12_doItem 169 = .ok (.putfield 543, 3) := by decide +kernel
theorem dX12_doItem_172 : decode cX12_doItem 172 = .ok (.iload_n 2, 1) := by decide +kernel
theorem dX12_doItem_173 : decode cX12_doItem 173 = .ok (.iconst 1, 1) := by decide +kernel
theorem dX12_doItem_174 : decode cX12_doItem 174 = .ok (.iadd, 1) := by decide +kernel
theorem dX12_doItem_175 : decode cX12_doItem 175 = .ok (.ireturn, 1) := by decide +kernel
theorem dX12_fromEarnest_0 : decode cX12_fromEarnest 0 = .ok (.aload_n 0, 1) := by decide +kernel
theorem dX12_fromEarnest_1 : decode cX12_fromEarnest 1 = .ok (.aload_n 0, 1) := by decide +kernel
theorem dX12_fromEarnest_2 : decode cX12_fromEarnest 2 = .ok (.getfield 124, 3) := by decide +kernel
theorem dX12_fromEarnest_5 : decode cX12_fromEarnest 5 = .ok (.bipush 30, 2) := by decide +kernel
theorem dX12_fromEarnest_7 : decode cX12_fromEarnest 7 = .ok (.iaload, 1) := by decide +kernel
theorem dX12_fromEarnest_8 : decode cX12_fromEarnest 8 = .ok (.putfield 522, 3) := by decide +kernel
theorem dX12_fromEarnest_11 : decode cX12_fromEarnest 11 = .ok (.aload_n 0, 1) := by decide +kernel
theorem dX12_fromEarnest_12 : decode cX12_fromEarnest 12 = .ok (.aload_n 0, 1) := by decide +kernel
theorem dX12_fromEarnest_13 : decode cX12_fromEarnest 13 = .ok (.getfield 124, 3) := by decide +kernel
theorem dX12_fromEarnest_16 : decode cX12_fromEarnest 16 = .ok (.bipush 31, 2) := by decide +kernel
theorem dX12_fromEarnest_18 : decode cX12_fromEarnest 18 = .ok (.iaload, 1) := by decide +kernel
theorem dX12_fromEarnest_19 : decode cX12_fromEarnest 19 = .ok (.putfield 528, 3) := by decide +kernel
