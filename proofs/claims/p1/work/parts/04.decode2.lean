theorem dX12_fromEarnest_22 : decode cX12_fromEarnest 22 = .ok (.iconst 0, 1) := by decide +kernel
theorem dX12_fromEarnest_23 : decode cX12_fromEarnest 23 = .ok (.istore_n 1, 1) := by decide +kernel
theorem dX12_fromEarnest_24 : decode cX12_fromEarnest 24 = .ok (.iload_n 1, 1) := by decide +kernel
theorem dX12_fromEarnest_25 : decode cX12_fromEarnest 25 = .ok (.aload_n 0, 1) := by decide +kernel
theorem dX12_fromEarnest_26 : decode cX12_fromEarnest 26 = .ok (.getfield 522, 3) := by decide +kernel
theorem dX12_fromEarnest_29 : decode cX12_fromEarnest 29 = .ok (.if_icmp .ge 23, 3) := by decide +kernel
theorem dX12_fromEarnest_32 : decode cX12_fromEarnest 32 = .ok (.aload_n 0, 1) := by decide +kernel
theorem dX12_fromEarnest_33 : decode cX12_fromEarnest 33 = .ok (.getfield 127, 3) := by decide +kernel
theorem dX12_fromEarnest_36 : decode cX12_fromEarnest 36 = .ok (.iload_n 1, 1) := by decide +kernel
theorem dX12_fromEarnest_37 : decode cX12_fromEarnest 37 = .ok (.aload_n 0, 1) := by decide +kernel
theorem dX12_fromEarnest_38 : decode cX12_fromEarnest 38 = .ok (.getfield 124, 3) := by decide +kernel
theorem dX12_fromEarnest_41 : decode cX12_fromEarnest 41 = .ok (.iconst 0, 1) := by decide +kernel
theorem dX12_fromEarnest_42 : decode cX12_fromEarnest 42 = .ok (.iload_n 1, 1) := by decide +kernel
theorem dX12_fromEarnest_43 : decode cX12_fromEarnest 43 = .ok (.iadd, 1) := by decide +kernel
theorem dX12_fromEarnest_44 : decode cX12_fromEarnest 44 = .ok (.iaload, 1) := by decide +kernel
theorem dX12_fromEarnest_45 : decode cX12_fromEarnest 45 = .ok (.iastore, 1) := by decide +kernel
theorem dX12_fromEarnest_46 : decode cX12_fromEarnest 46 = .ok (.iinc 1 1, 3) := by decide +kernel
theorem dX12_fromEarnest_49 : decode cX12_fromEarnest 49 = .ok (.goto (-25), 3) := by decide +kernel
theorem dX12_fromEarnest_52 : decode cX12_fromEarnest 52 = .ok (.iconst 0, 1) := by decide +kernel
theorem dX12_fromEarnest_53 : decode cX12_fromEarnest 53 = .ok (.istore_n 1, 1) := by decide +kernel
theorem dX12_fromEarnest_54 : decode cX12_fromEarnest 54 = .ok (.iload_n 1, 1) := by decide +kernel
theorem dX12_fromEarnest_55 : decode cX12_fromEarnest 55 = .ok (.aload_n 0, 1) := by decide +kernel
theorem dX12_fromEarnest_56 : decode cX12_fromEarnest 56 = .ok (.getfield 528, 3) := by decide +kernel
theorem dX12_fromEarnest_59 : decode cX12_fromEarnest 59 = .ok (.if_icmp .ge 24, 3) := by decide +kernel
theorem dX12_fromEarnest_62 : decode cX12_fromEarnest 62 = .ok (.aload_n 0, 1) := by decide +kernel
theorem dX12_fromEarnest_63 : decode cX12_fromEarnest 63 = .ok (.getfield 130, 3) := by decide +kernel
theorem dX12_fromEarnest_66 : decode cX12_fromEarnest 66 = .ok (.iload_n 1, 1) := by decide +kernel
theorem dX12_fromEarnest_67 : decode cX12_fromEarnest 67 = .ok (.aload_n 0, 1) := by decide +kernel
theorem dX12_fromEarnest_68 : decode cX12_fromEarnest 68 = .ok (.getfield 124, 3) := by decide +kernel
theorem dX12_fromEarnest_71 : decode cX12_fromEarnest 71 = .ok (.bipush 24, 2) := by decide +kernel
theorem dX12_fromEarnest_73 : decode cX12_fromEarnest 73 = .ok (.iload_n 1, 1) := by decide +kernel
theorem dX12_fromEarnest_74 : decode cX12_fromEarnest 74 = .ok (.iadd, 1) := by decide +kernel
theorem dX12_fromEarnest_75 : decode cX12_fromEarnest 75 = .ok (.iaload, 1) := by decide +kernel
theorem dX12_fromEarnest_76 : decode cX12_fromEarnest 76 = .ok (.iastore, 1) := by decide +kernel
theorem dX12_fromEarnest_77 : decode cX12_fromEarnest 77 = .ok (.iinc 1 1, 3) := by decide +kernel
theorem dX12_fromEarnest_80 : decode cX12_fromEarnest 80 = .ok (.goto (-26), 3) := by decide +kernel
theorem dX12_fromEarnest_83 : decode cX12_fromEarnest 83 = .ok (.return_, 1) := by decide +kernel
theorem dX12_toEarnest_0 : decode cX12_toEarnest 0 = .ok (.aload_n 0, 1) := by decide +kernel
theorem dX12_toEarnest_1 : decode cX12_toEarnest 1 = .ok (.getfield 124, 3) := by decide +kernel
theorem dX12_toEarnest_4 : decode cX12_toEarnest 4 = .ok (.bipush 30, 2) := by decide +kernel
theorem dX12_toEarnest_6 : decode cX12_toEarnest 6 = .ok (.aload_n 0, 1) := by decide +kernel
theorem dX12_toEarnest_7 : decode cX12_toEarnest 7 = .ok (.getfield 522, 3) := by decide +kernel
theorem dX12_toEarnest_10 : decode cX12_toEarnest 10 = .ok (.iastore, 1) := by decide +kernel
theorem dX12_toEarnest_11 : decode cX12_toEarnest 11 = .ok (.aload_n 0, 1) := by decide +kernel
theorem dX12_toEarnest_12 : decode cX12_toEarnest 12 = .ok (.getfield 124, 3) := by decide +kernel
theorem dX12_toEarnest_15 : decode cX12_toEarnest 15 = .ok (.bipush 31, 2) := by decide +kernel
theorem dX12_toEarnest_17 : decode cX12_toEarnest 17 = .ok (.aload_n 0, 1) := by decide +kernel
theorem dX12_toEarnest_18 : decode cX12_toEarnest 18 = .ok (.getfield 528, 3) := by decide +kernel
theorem dX12_toEarnest_21 : decode cX12_toEarnest 21 = .ok (.iastore, 1) := by decide +kernel
theorem dX12_toEarnest_22 : decode cX12_toEarnest 22 = .ok (.iconst 0, 1) := by decide +kernel
theorem dX12_toEarnest_23 : decode cX12_toEarnest 23 = .ok (.istore_n 1, 1) := by decide +kernel
theorem dX12_toEarnest_24 : decode cX12_toEarnest 24 = .ok (.iload_n 1, 1) := by decide +kernel
theorem dX12_toEarnest_25 : decode cX12_toEarnest 25 = .ok (.bipush 24, 2) := by decide +kernel
theorem dX12_toEarnest_27 : decode cX12_toEarnest 27 = .ok (.if_icmp .ge 35, 3) := by decide +kernel
theorem dX12_toEarnest_30 : decode cX12_toEarnest 30 = .ok (.aload_n 0, 1) := by decide +kernel
theorem dX12_toEarnest_31 : decode cX12_toEarnest 31 = .ok (.getfield 124, 3) := by decide +kernel
theorem dX12_toEarnest_34 : decode cX12_toEarnest 34 = .ok (.iconst 0, 1) := by decide +kernel
theorem dX12_toEarnest_35 : decode cX12_toEarnest 35 = .ok (.iload_n 1, 1) := by decide +kernel
theorem dX12_toEarnest_36 : decode cX12_toEarnest 36 = .ok (.iadd, 1) := by decide +kernel
theorem dX12_toEarnest_37 : decode cX12_toEarnest 37 = .ok (.iload_n 1, 1) := by decide +kernel
theorem dX12_toEarnest_38 : decode cX12_toEarnest 38 = .ok (.aload_n 0, 1) := by decide +kernel
theorem dX12_toEarnest_39 : decode cX12_toEarnest 39 = .ok (.getfield 522, 3) := by decide +kernel
theorem dX12_toEarnest_42 : decode cX12_toEarnest 42 = .ok (.if_icmp .ge 12, 3) := by decide +kernel
theorem dX12_toEarnest_45 : decode cX12_toEarnest 45 = .ok (.aload_n 0, 1) := by decide +kernel
theorem dX12_toEarnest_46 : decode cX12_toEarnest 46 = .ok (.getfield 127, 3) := by decide +kernel
theorem dX12_toEarnest_49 : decode cX12_toEarnest 49 = .ok (.iload_n 1, 1) := by decide +kernel
theorem dX12_toEarnest_50 : decode cX12_toEarnest 50 = .ok (.iaload, 1) := by decide +kernel
theorem dX12_toEarnest_51 : decode cX12_toEarnest 51 = .ok (.goto 4, 3) := by decide +kernel
theorem dX12_toEarnest_54 : decode cX12_toEarnest 54 = .ok (.iconst 0, 1) := by decide +kernel
theorem dX12_toEarnest_55 : decode cX12_toEarnest 55 = .ok (.iastore, 1) := by decide +kernel
theorem dX12_toEarnest_56 : decode cX12_toEarnest 56 = .ok (.iinc 1 1, 3) := by decide +kernel
theorem dX12_toEarnest_59 : decode cX12_toEarnest 59 = .ok (.goto (-35), 3) := by decide +kernel
theorem dX12_toEarnest_62 : decode cX12_toEarnest 62 = .ok (.iconst 0, 1) := by decide +kernel
theorem dX12_toEarnest_63 : decode cX12_toEarnest 63 = .ok (.istore_n 1, 1) := by decide +kernel
theorem dX12_toEarnest_64 : decode cX12_toEarnest 64 = .ok (.iload_n 1, 1) := by decide +kernel
theorem dX12_toEarnest_65 : decode cX12_toEarnest 65 = .ok (.bipush 6, 2) := by decide +kernel
theorem dX12_toEarnest_67 : decode cX12_toEarnest 67 = .ok (.if_icmp .ge 36, 3) := by decide +kernel
theorem dX12_toEarnest_70 : decode cX12_toEarnest 70 = .ok (.aload_n 0, 1) := by decide +kernel
theorem dX12_toEarnest_71 : decode cX12_toEarnest 71 = .ok (.getfield 124, 3) := by decide +kernel
theorem dX12_toEarnest_74 : decode cX12_toEarnest 74 = .ok (.bipush 24, 2) := by decide +kernel
theorem dX12_toEarnest_76 : decode cX12_toEarnest 76 = .ok (.iload_n 1, 1) := by decide +kernel
theorem dX12_toEarnest_77 : decode cX12_toEarnest 77 = .ok (.iadd, 1) := by decide +kernel
theorem dX12_toEarnest_78 : decode cX12_toEarnest 78 = .ok (.iload_n 1, 1) := by decide +kernel
theorem dX12_toEarnest_79 : decode cX12_toEarnest 79 = .ok (.aload_n 0, 1) := by decide +kernel
theorem dX12_toEarnest_80 : decode cX12_toEarnest 80 = .ok (.getfield 528, 3) := by decide +kernel
theorem dX12_toEarnest_83 : decode cX12_toEarnest 83 = .ok (.if_icmp .ge 12, 3) := by decide +kernel
theorem dX12_toEarnest_86 : decode cX12_toEarnest 86 = .ok (.aload_n 0, 1) := by decide +kernel
theorem dX12_toEarnest_87 : decode cX12_toEarnest 87 = .ok (.getfield 130, 3) := by decide +kernel
theorem dX12_toEarnest_90 : decode cX12_toEarnest 90 = .ok (.iload_n 1, 1) := by decide +kernel
theorem dX12_toEarnest_91 : decode cX12_toEarnest 91 = .ok (.iaload, 1) := by decide +kernel
theorem dX12_toEarnest_92 : decode cX12_toEarnest 92 = .ok (.goto 4, 3) := by decide +kernel
theorem dX12_toEarnest_95 : decode cX12_toEarnest 95 = .ok (.iconst 0, 1) := by decide +kernel
theorem dX12_toEarnest_96 : decode cX12_toEarnest 96 = .ok (.iastore, 1) := by decide +kernel
theorem dX12_toEarnest_97 : decode cX12_toEarnest 97 = .ok (.iinc 1 1, 3) := by decide +kernel
theorem dX12_toEarnest_100 : decode cX12_toEarnest 100 = .ok (.goto (-36), 3) := by decide +kernel
theorem dX12_toEarnest_103 : decode cX12_toEarnest 103 = .ok (.aload_n 0, 1) := by decide +kernel
theorem dX12_toEarnest_104 : decode cX12_toEarnest 104 = .ok (.getfield 522, 3) := by decide +kernel
theorem dX12_toEarnest_107 : decode cX12_toEarnest 107 = .ok (.ireturn, 1) := by decide +kernel
theorem dX12_keepAct_0 : decode cX12_keepAct 0 = .ok (.aload_n 0, 1) := by decide +kernel
theorem dX12_keepAct_1 : decode cX12_keepAct 1 = .ok (.getfield 507, 3) := by decide +kernel
theorem dX12_keepAct_4 : decode cX12_keepAct 4 = .ok (.bipush 40, 2) := by decide +kernel
theorem dX12_keepAct_6 : decode cX12_keepAct 6 = .ok (.if_icmp .ne 43, 3) := by decide +kernel
theorem dX12_keepAct_9 : decode cX12_keepAct 9 = .ok (.iconst 0, 1) := by decide +kernel
theorem dX12_keepAct_10 : decode cX12_keepAct 10 = .ok (.istore_n 1, 1) := by decide +kernel
theorem dX12_keepAct_11 : decode cX12_keepAct 11 = .ok (.iload_n 1, 1) := by decide +kernel
theorem dX12_keepAct_12 : decode cX12_keepAct 12 = .ok (.sipush 1360, 3) := by decide +kernel
theorem dX12_keepAct_15 : decode cX12_keepAct 15 = .ok (.if_icmp .ge 24, 3) := by decide +kernel
theorem dX12_keepAct_18 : decode cX12_keepAct 18 = .ok (.aload_n 0, 1) := by decide +kernel
theorem dX12_keepAct_19 : decode cX12_keepAct 19 = .ok (.getfield 145, 3) := by decide +kernel
theorem dX12_keepAct_22 : decode cX12_keepAct 22 = .ok (.iload_n 1, 1) := by decide +kernel
theorem dX12_keepAct_23 : decode cX12_keepAct 23 = .ok (.aload_n 0, 1) := by decide +kernel
theorem dX12_keepAct_24 : decode cX12_keepAct 24 = .ok (.getfield 145, 3) := by decide +kernel
theorem dX12_keepAct_27 : decode cX12_keepAct 27 = .ok (.iload_n 1, 1) := by decide +kernel
theorem dX12_keepAct_28 : decode cX12_keepAct 28 = .ok (.bipush 34, 2) := by decide +kernel
theorem dX12_keepAct_30 : decode cX12_keepAct 30 = .ok (.iadd, 1) := by decide +kernel
theorem dX12_keepAct_31 : decode cX12_keepAct 31 = .ok (.iaload, 1) := by decide +kernel
theorem dX12_keepAct_32 : decode cX12_keepAct 32 = .ok (.iastore, 1) := by decide +kernel
theorem dX12_keepAct_33 : decode cX12_keepAct 33 = .ok (.iinc 1 1, 3) := by decide +kernel
theorem dX12_keepAct_36 : decode cX12_keepAct 36 = .ok (.goto (-25), 3) := by decide +kernel
theorem dX12_keepAct_39 : decode cX12_keepAct 39 = .ok (.aload_n 0, 1) := by decide +kernel
theorem dX12_keepAct_40 : decode cX12_keepAct 40 = .ok (.dup, 1) := by decide +kernel
theorem dX12_keepAct_41 : decode cX12_keepAct 41 = .ok (.getfield 507, 3) := by decide +kernel
theorem dX12_keepAct_44 : decode cX12_keepAct 44 = .ok (.iconst 1, 1) := by decide +kernel
theorem dX12_keepAct_45 : decode cX12_keepAct 45 = .ok (.isub, 1) := by decide +kernel
theorem dX12_keepAct_46 : decode cX12_keepAct 46 = .ok (.putfield 507, 3) := by decide +kernel
theorem dX12_keepAct_49 : decode cX12_keepAct 49 = .ok (.iconst 0, 1) := by decide +kernel
theorem dX12_keepAct_50 : decode cX12_keepAct 50 = .ok (.istore_n 1, 1) := by decide +kernel
theorem dX12_keepAct_51 : decode cX12_keepAct 51 = .ok (.iload_n 1, 1) := by decide +kernel
theorem dX12_keepAct_52 : decode cX12_keepAct 52 = .ok (.bipush 34, 2) := by decide +kernel
theorem dX12_keepAct_54 : decode cX12_keepAct 54 = .ok (.if_icmp .ge 29, 3) := by decide +kernel
theorem dX12_keepAct_57 : decode cX12_keepAct 57 = .ok (.aload_n 0, 1) := by decide +kernel
theorem dX12_keepAct_58 : decode cX12_keepAct 58 = .ok (.getfield 145, 3) := by decide +kernel
theorem dX12_keepAct_61 : decode cX12_keepAct 61 = .ok (.bipush 34, 2) := by decide +kernel
theorem dX12_keepAct_63 : decode cX12_keepAct 63 = .ok (.aload_n 0, 1) := by decide +kernel
theorem dX12_keepAct_64 : decode cX12_keepAct 64 = .ok (.getfield 507, 3) := by decide +kernel
theorem dX12_keepAct_67 : decode cX12_keepAct 67 = .ok (.imul, 1) := by decide +kernel
theorem dX12_keepAct_68 : decode cX12_keepAct 68 = .ok (.iload_n 1, 1) := by decide +kernel
theorem dX12_keepAct_69 : decode cX12_keepAct 69 = .ok (.iadd, 1) := by decide +kernel
theorem dX12_keepAct_70 : decode cX12_keepAct 70 = .ok (.aload_n 0, 1) := by decide +kernel
theorem dX12_keepAct_71 : decode cX12_keepAct 71 = .ok (.getfield 124, 3) := by decide +kernel
theorem dX12_keepAct_74 : decode cX12_keepAct 74 = .ok (.iload_n 1, 1) := by decide +kernel
theorem dX12_keepAct_75 : decode cX12_keepAct 75 = .ok (.iaload, 1) := by decide +kernel
theorem dX12_keepAct_76 : decode cX12_keepAct 76 = .ok (.iastore, 1) := by decide +kernel
theorem dX12_keepAct_77 : decode cX12_keepAct 77 = .ok (.iinc 1 1, 3) := by decide +kernel
theorem dX12_keepAct_80 : decode cX12_keepAct 80 = .ok (.goto (-29), 3) := by decide +kernel
theorem dX12_keepAct_83 : decode cX12_keepAct 83 = .ok (.aload_n 0, 1) := by decide +kernel
theorem dX12_keepAct_84 : decode cX12_keepAct 84 = .ok (.dup, 1) := by decide +kernel
theorem dX12_keepAct_85 : decode cX12_keepAct 85 = .ok (.getfield 507, 3) := by decide +kernel
theorem dX12_keepAct_88 : decode cX12_keepAct 88 = .ok (.iconst 1, 1) := by decide +kernel
theorem dX12_keepAct_89 : decode cX12_keepAct 89 = .ok (.iadd, 1) := by decide +kernel
theorem dX12_keepAct_90 : decode cX12_keepAct 90 = .ok (.putfield 507, 3) := by decide +kernel
theorem dX12_keepAct_93 : decode cX12_keepAct 93 = .ok (.aload_n 0, 1) := by decide +kernel
theorem dX12_keepAct_94 : decode cX12_keepAct 94 = .ok (.iconst 0, 1) := by decide +kernel
theorem dX12_keepAct_95 : decode cX12_keepAct 95 = .ok (.putfield 510, 3) := by decide +kernel
theorem dX12_keepAct_98 : decode cX12_keepAct 98 = .ok (.return_, 1) := by decide +kernel
theorem dX12_swapAll_0 : decode cX12_swapAll 0 = .ok (.iconst 0, 1) := by decide +kernel
theorem dX12_swapAll_1 : decode cX12_swapAll 1 = .ok (.istore_n 1, 1) := by decide +kernel
theorem dX12_swapAll_2 : decode cX12_swapAll 2 = .ok (.iload_n 1, 1) := by decide +kernel
theorem dX12_swapAll_3 : decode cX12_swapAll 3 = .ok (.bipush 34, 2) := by decide +kernel
theorem dX12_swapAll_5 : decode cX12_swapAll 5 = .ok (.if_icmp .ge 51, 3) := by decide +kernel
theorem dX12_swapAll_8 : decode cX12_swapAll 8 = .ok (.aload_n 0, 1) := by decide +kernel
theorem dX12_swapAll_9 : decode cX12_swapAll 9 = .ok (.getfield 145, 3) := by decide +kernel
theorem dX12_swapAll_12 : decode cX12_swapAll 12 = .ok (.bipush 34, 2) := by decide +kernel
theorem dX12_swapAll_14 : decode cX12_swapAll 14 = .ok (.aload_n 0, 1) := by decide +kernel
theorem dX12_swapAll_15 : decode cX12_swapAll 15 = .ok (.getfield 507, 3) := by decide +kernel
theorem dX12_swapAll_18 : decode cX12_swapAll 18 = .ok (.imul, 1) := by decide +kernel
theorem dX12_swapAll_19 : decode cX12_swapAll 19 = .ok (.iload_n 1, 1) := by decide +kernel
theorem dX12_swapAll_20 : decode cX12_swapAll 20 = .ok (.iadd, 1) := by decide +kernel
theorem dX12_swapAll_21 : decode cX12_swapAll 21 = .ok (.iaload, 1) := by decide +kernel
theorem dX12_swapAll_22 : decode cX12_swapAll 22 = .ok (.istore_n 2, 1) := by decide +kernel
theorem dX12_swapAll_23 : decode cX12_swapAll 23 = .ok (.aload_n 0, 1) := by decide +kernel
theorem dX12_swapAll_24 : decode cX12_swapAll 24 = .ok (.getfield 145, 3) := by decide +kernel
theorem dX12_swapAll_27 : decode cX12_swapAll 27 = .ok (.bipush 34, 2) := by decide +kernel
theorem dX12_swapAll_29 : decode cX12_swapAll 29 = .ok (.aload_n 0, 1) := by decide +kernel
theorem dX12_swapAll_30 : decode cX12_swapAll 30 = .ok (.getfield 507, 3) := by decide +kernel
theorem dX12_swapAll_33 : decode cX12_swapAll 33 = .ok (.imul, 1) := by decide +kernel
theorem dX12_swapAll_34 : decode cX12_swapAll 34 = .ok (.iload_n 1, 1) := by decide +kernel
theorem dX12_swapAll_35 : decode cX12_swapAll 35 = .ok (.iadd, 1) := by decide +kernel
theorem dX12_swapAll_36 : decode cX12_swapAll 36 = .ok (.aload_n 0, 1) := by decide +kernel
theorem dX12_swapAll_37 : decode cX12_swapAll 37 = .ok (.getfield 124, 3) := by decide +kernel
theorem dX12_swapAll_40 : decode cX12_swapAll 40 = .ok (.iload_n 1, 1) := by decide +kernel
theorem dX12_swapAll_41 : decode cX12_swapAll 41 = .ok (.iaload, 1) := by decide +kernel
theorem dX12_swapAll_42 : decode cX12_swapAll 42 = .ok (.iastore, 1) := by decide +kernel
theorem dX12_swapAll_43 : decode cX12_swapAll 43 = .ok (.aload_n 0, 1) := by decide +kernel
theorem dX12_swapAll_44 : decode cX12_swapAll 44 = .ok (.getfield 124, 3) := by decide +kernel
theorem dX12_swapAll_47 : decode cX12_swapAll 47 = .ok (.iload_n 1, 1) := by decide +kernel
theorem dX12_swapAll_48 : decode cX12_swapAll 48 = .ok (.iload_n 2, 1) := by decide +kernel
theorem dX12_swapAll_49 : decode cX12_swapAll 49 = .ok (.iastore, 1) := by decide +kernel
theorem dX12_swapAll_50 : decode cX12_swapAll 50 = .ok (.iinc 1 1, 3) := by decide +kernel
theorem dX12_swapAll_53 : decode cX12_swapAll 53 = .ok (.goto (-51), 3) := by decide +kernel
theorem dX12_swapAll_56 : decode cX12_swapAll 56 = .ok (.return_, 1) := by decide +kernel
theorem dX12_lay_0 : decode cX12_lay 0 = .ok (.iload_n 1, 1) := by decide +kernel
theorem dX12_lay_1 : decode cX12_lay 1 = .ok (.iconst 0, 1) := by decide +kernel
theorem dX12_lay_2 : decode cX12_lay 2 = .ok (.sipush 9999, 3) := by decide +kernel
theorem dX12_lay_5 : decode cX12_lay 5 = .ok (.invokestatic 500, 3) := by decide +kernel
theorem dX12_lay_8 : decode cX12_lay 8 = .ok (.ifCond .eq 15, 3) := by decide +kernel
theorem dX12_lay_11 : decode cX12_lay 11 = .ok (.aload_n 0, 1) := by decide +kernel
theorem dX12_lay_12 : decode cX12_lay 12 = .ok (.getfield 124, 3) := by decide +kernel
theorem dX12_lay_15 : decode cX12_lay 15 = .ok (.bipush 30, 2) := by decide +kernel
theorem dX12_lay_17 : decode cX12_lay 17 = .ok (.iaload, 1) := by decide +kernel
theorem dX12_lay_18 : decode cX12_lay 18 = .ok (.bipush 24, 2) := by decide +kernel
theorem dX12_lay_20 : decode cX12_lay 20 = .ok (.if_icmp .ne 5, 3) := by decide +kernel
theorem dX12_lay_23 : decode cX12_lay 23 = .ok (.iconst (-1), 1) := by decide +kernel
theorem dX12_lay_24 : decode cX12_lay 24 = .ok (.ireturn, 1) := by decide +kernel
theorem dX12_lay_25 : decode cX12_lay 25 = .ok (.aload_n 0, 1) := by decide +kernel
theorem dX12_lay_26 : decode cX12_lay 26 = .ok (.invokevirtual 561, 3) := by decide +kernel
theorem dX12_lay_29 : decode cX12_lay 29 = .ok (.aload_n 0, 1) := by decide +kernel
theorem dX12_lay_30 : decode cX12_lay 30 = .ok (.invokevirtual 564, 3) := by decide +kernel
theorem dX12_lay_33 : decode cX12_lay 33 = .ok (.aload_n 0, 1) := by decide +kernel
theorem dX12_lay_34 : decode cX12_lay 34 = .ok (.iload_n 1, 1) := by decide +kernel
theorem dX12_lay_35 : decode cX12_lay 35 = .ok (.invokevirtual 534, 3) := by decide +kernel
theorem dX12_lay_38 : decode cX12_lay 38 = .ok (.aload_n 0, 1) := by decide +kernel
theorem dX12_lay_39 : decode cX12_lay 39 = .ok (.invokevirtual 567, 3) := by decide +kernel
theorem dX12_lay_42 : decode cX12_lay 42 = .ok (.ireturn, 1) := by decide +kernel
theorem dX12_run_0 : decode cX12_run 0 = .ok (.iload_n 1, 1) := by decide +kernel
theorem dX12_run_1 : decode cX12_run 1 = .ok (.iconst 0, 1) := by decide +kernel
theorem dX12_run_2 : decode cX12_run 2 = .ok (.bipush 14, 2) := by decide +kernel
theorem dX12_run_4 : decode cX12_run 4 = .ok (.invokestatic 500, 3) := by decide +kernel
theorem dX12_run_7 : decode cX12_run 7 = .ok (.ifCond .eq 39, 3) := by decide +kernel
theorem dX12_run_10 : decode cX12_run 10 = .ok (.aload_n 0, 1) := by decide +kernel
theorem dX12_run_11 : decode cX12_run 11 = .ok (.getfield 124, 3) := by decide +kernel
theorem dX12_run_14 : decode cX12_run 14 = .ok (.bipush 30, 2) := by decide +kernel
theorem dX12_run_16 : decode cX12_run 16 = .ok (.iaload, 1) := by decide +kernel
theorem dX12_run_17 : decode cX12_run 17 = .ok (.iload_n 1, 1) := by decide +kernel
theorem dX12_run_18 : decode cX12_run 18 = .ok (.invokestatic 443, 3) := by decide +kernel
theorem dX12_run_21 : decode cX12_run 21 = .ok (.if_icmp .lt 25, 3) := by decide +kernel
theorem dX12_run_24 : decode cX12_run 24 = .ok (.aload_n 0, 1) := by decide +kernel
theorem dX12_run_25 : decode cX12_run 25 = .ok (.getfield 124, 3) := by decide +kernel
theorem dX12_run_28 : decode cX12_run 28 = .ok (.bipush 30, 2) := by decide +kernel
theorem dX12_run_30 : decode cX12_run 30 = .ok (.iaload, 1) := by decide +kernel
theorem dX12_run_31 : decode cX12_run 31 = .ok (.iload_n 1, 1) := by decide +kernel
theorem dX12_run_32 : decode cX12_run 32 = .ok (.invokestatic 443, 3) := by decide +kernel
theorem dX12_run_35 : decode cX12_run 35 = .ok (.isub, 1) := by decide +kernel
theorem dX12_run_36 : decode cX12_run 36 = .ok (.iload_n 1, 1) := by decide +kernel
theorem dX12_run_37 : decode cX12_run 37 = .ok (.invokestatic 446, 3) := by decide +kernel
theorem dX12_run_40 : decode cX12_run 40 = .ok (.iadd, 1) := by decide +kernel
theorem dX12_run_41 : decode cX12_run 41 = .ok (.bipush 24, 2) := by decide +kernel
theorem dX12_run_43 : decode cX12_run 43 = .ok (.if_icmp .le 5, 3) := by decide +kernel
theorem dX12_run_46 : decode cX12_run 46 = .ok (.iconst (-1), 1) := by decide +kernel
theorem dX12_run_47 : decode cX12_run 47 = .ok (.ireturn, 1) := by decide +kernel
theorem dX12_run_48 : decode cX12_run 48 = .ok (.iload_n 1, 1) := by decide +kernel
theorem dX12_run_49 : decode cX12_run 49 = .ok (.bipush 7, 2) := by decide +kernel
theorem dX12_run_51 : decode cX12_run 51 = .ok (.if_icmp .ne 15, 3) := by decide +kernel
theorem dX12_run_54 : decode cX12_run 54 = .ok (.aload_n 0, 1) := by decide +kernel
theorem dX12_run_55 : decode cX12_run 55 = .ok (.getfield 124, 3) := by decide +kernel
theorem dX12_run_58 : decode cX12_run 58 = .ok (.bipush 31, 2) := by decide +kernel
theorem dX12_run_60 : decode cX12_run 60 = .ok (.iaload, 1) := by decide +kernel
theorem dX12_run_61 : decode cX12_run 61 = .ok (.bipush 6, 2) := by decide +kernel
theorem dX12_run_63 : decode cX12_run 63 = .ok (.if_icmp .eq 19, 3) := by decide +kernel
theorem dX12_run_66 : decode cX12_run 66 = .ok (.iload_n 1, 1) := by decide +kernel
theorem dX12_run_67 : decode cX12_run 67 = .ok (.bipush 8, 2) := by decide +kernel
theorem dX12_run_69 : decode cX12_run 69 = .ok (.if_icmp .ne 15, 3) := by decide +kernel
theorem dX12_run_72 : decode cX12_run 72 = .ok (.aload_n 0, 1) := by decide +kernel
theorem dX12_run_73 : decode cX12_run 73 = .ok (.getfield 124, 3) := by decide +kernel
theorem dX12_run_76 : decode cX12_run 76 = .ok (.bipush 31, 2) := by decide +kernel
theorem dX12_run_78 : decode cX12_run 78 = .ok (.iaload, 1) := by decide +kernel
theorem dX12_run_79 : decode cX12_run 79 = .ok (.ifCond .ne 5, 3) := by decide +kernel
theorem dX12_run_82 : decode cX12_run 82 = .ok (.iconst (-1), 1) := by decide +kernel
theorem dX12_run_83 : decode cX12_run 83 = .ok (.ireturn, 1) := by decide +kernel
theorem dX12_run_84 : decode cX12_run 84 = .ok (.aload_n 0, 1) := by decide +kernel
theorem dX12_run_85 : decode cX12_run 85 = .ok (.invokevirtual 561, 3) := by decide +kernel
theorem dX12_run_88 : decode cX12_run 88 = .ok (.aload_n 0, 1) := by decide +kernel
theorem dX12_run_89 : decode cX12_run 89 = .ok (.invokevirtual 564, 3) := by decide +kernel
theorem dX12_run_92 : decode cX12_run 92 = .ok (.aload_n 0, 1) := by decide +kernel
theorem dX12_run_93 : decode cX12_run 93 = .ok (.iload_n 1, 1) := by decide +kernel
theorem dX12_run_94 : decode cX12_run 94 = .ok (.invokevirtual 558, 3) := by decide +kernel
theorem dX12_run_97 : decode cX12_run 97 = .ok (.aload_n 0, 1) := by decide +kernel
theorem dX12_run_98 : decode cX12_run 98 = .ok (.invokevirtual 567, 3) := by decide +kernel
theorem dX12_run_101 : decode cX12_run 101 = .ok (.ireturn, 1) := by decide +kernel
theorem dX12_call_0 : decode cX12_call 0 = .ok (.aload_n 0, 1) := by decide +kernel
theorem dX12_call_1 : decode cX12_call 1 = .ok (.iload_n 1, 1) := by decide +kernel
theorem dX12_call_2 : decode cX12_call 2 = .ok (.invokevirtual 570, 3) := by decide +kernel
theorem dX12_call_5 : decode cX12_call 5 = .ok (.ifCond .eq 45, 3) := by decide +kernel
theorem dX12_call_8 : decode cX12_call 8 = .ok (.aload_n 0, 1) := by decide +kernel
theorem dX12_call_9 : decode cX12_call 9 = .ok (.getfield 124, 3) := by decide +kernel
theorem dX12_call_12 : decode cX12_call 12 = .ok (.bipush 30, 2) := by decide +kernel
theorem dX12_call_14 : decode cX12_call 14 = .ok (.iaload, 1) := by decide +kernel
theorem dX12_call_15 : decode cX12_call 15 = .ok (.aload_n 0, 1) := by decide +kernel
theorem dX12_call_16 : decode cX12_call 16 = .ok (.iload_n 1, 1) := by decide +kernel
theorem dX12_call_17 : decode cX12_call 17 = .ok (.invokevirtual 504, 3) := by decide +kernel
theorem dX12_call_20 : decode cX12_call 20 = .ok (.if_icmp .lt 30, 3) := by decide +kernel
theorem dX12_call_23 : decode cX12_call 23 = .ok (.aload_n 0, 1) := by decide +kernel
theorem dX12_call_24 : decode cX12_call 24 = .ok (.getfield 124, 3) := by decide +kernel
theorem dX12_call_27 : decode cX12_call 27 = .ok (.bipush 30, 2) := by decide +kernel
theorem dX12_call_29 : decode cX12_call 29 = .ok (.iaload, 1) := by decide +kernel
theorem dX12_call_30 : decode cX12_call 30 = .ok (.aload_n 0, 1) := by decide +kernel
theorem dX12_call_31 : decode cX12_call 31 = .ok (.getfield 51, 3) := by decide +kernel
theorem dX12_call_34 : decode cX12_call 34 = .ok (.bipush 6, 2) := by decide +kernel
theorem dX12_call_36 : decode cX12_call 36 = .ok (.aload_n 0, 1) := by decide +kernel
theorem dX12_call_37 : decode cX12_call 37 = .ok (.getfield 349, 3) := by decide +kernel
theorem dX12_call_40 : decode cX12_call 40 = .ok (.imul, 1) := by decide +kernel
theorem dX12_call_41 : decode cX12_call 41 = .ok (.iload_n 1, 1) := by decide +kernel
theorem dX12_call_42 : decode cX12_call 42 = .ok (.iadd, 1) := by decide +kernel
theorem dX12_call_43 : decode cX12_call 43 = .ok (.iaload, 1) := by decide +kernel
theorem dX12_call_44 : decode cX12_call 44 = .ok (.iadd, 1) := by decide +kernel
theorem dX12_call_45 : decode cX12_call 45 = .ok (.bipush 24, 2) := by decide +kernel
theorem dX12_call_47 : decode cX12_call 47 = .ok (.if_icmp .le 5, 3) := by decide +kernel
theorem dX12_call_50 : decode cX12_call 50 = .ok (.iconst (-1), 1) := by decide +kernel
theorem dX12_call_51 : decode cX12_call 51 = .ok (.ireturn, 1) := by decide +kernel
theorem dX12_call_52 : decode cX12_call 52 = .ok (.aload_n 0, 1) := by decide +kernel
theorem dX12_call_53 : decode cX12_call 53 = .ok (.invokevirtual 561, 3) := by decide +kernel
theorem dX12_call_56 : decode cX12_call 56 = .ok (.aload_n 0, 1) := by decide +kernel
theorem dX12_call_57 : decode cX12_call 57 = .ok (.invokevirtual 564, 3) := by decide +kernel
theorem dX12_call_60 : decode cX12_call 60 = .ok (.aload_n 0, 1) := by decide +kernel
theorem dX12_call_61 : decode cX12_call 61 = .ok (.iload_n 1, 1) := by decide +kernel
theorem dX12_call_62 : decode cX12_call 62 = .ok (.invokevirtual 573, 3) := by decide +kernel
theorem dX12_call_65 : decode cX12_call 65 = .ok (.aload_n 0, 1) := by decide +kernel
theorem dX12_call_66 : decode cX12_call 66 = .ok (.invokevirtual 567, 3) := by decide +kernel
theorem dX12_call_69 : decode cX12_call 69 = .ok (.ireturn, 1) := by decide +kernel
theorem dX12_clear_0 : decode cX12_clear 0 = .ok (.aload_n 0, 1) := by decide +kernel
theorem dX12_clear_1 : decode cX12_clear 1 = .ok (.getfield 124, 3) := by decide +kernel
theorem dX12_clear_4 : decode cX12_clear 4 = .ok (.bipush 30, 2) := by decide +kernel
theorem dX12_clear_6 : decode cX12_clear 6 = .ok (.iaload, 1) := by decide +kernel
theorem dX12_clear_7 : decode cX12_clear 7 = .ok (.aload_n 0, 1) := by decide +kernel
theorem dX12_clear_8 : decode cX12_clear 8 = .ok (.getfield 124, 3) := by decide +kernel
theorem dX12_clear_11 : decode cX12_clear 11 = .ok (.bipush 31, 2) := by decide +kernel
theorem dX12_clear_13 : decode cX12_clear 13 = .ok (.iaload, 1) := by decide +kernel
theorem dX12_clear_14 : decode cX12_clear 14 = .ok (.iadd, 1) := by decide +kernel
theorem dX12_clear_15 : decode cX12_clear 15 = .ok (.istore_n 1, 1) := by decide +kernel
theorem dX12_clear_16 : decode cX12_clear 16 = .ok (.iload_n 1, 1) := by decide +kernel
theorem dX12_clear_17 : decode cX12_clear 17 = .ok (.ifCond .ne 5, 3) := by decide +kernel
theorem dX12_clear_20 : decode cX12_clear 20 = .ok (.iconst (-1), 1) := by decide +kernel
theorem dX12_clear_21 : decode cX12_clear 21 = .ok (.ireturn, 1) := by decide +kernel
theorem dX12_clear_22 : decode cX12_clear 22 = .ok (.aload_n 0, 1) := by decide +kernel
theorem dX12_clear_23 : decode cX12_clear 23 = .ok (.invokevirtual 561, 3) := by decide +kernel
theorem dX12_clear_26 : decode cX12_clear 26 = .ok (.aload_n 0, 1) := by decide +kernel
theorem dX12_clear_27 : decode cX12_clear 27 = .ok (.iconst 0, 1) := by decide +kernel
theorem dX12_clear_28 : decode cX12_clear 28 = .ok (.putfield 522, 3) := by decide +kernel
theorem dX12_clear_31 : decode cX12_clear 31 = .ok (.aload_n 0, 1) := by decide +kernel
theorem dX12_clear_32 : decode cX12_clear 32 = .ok (.iconst 0, 1) := by decide +kernel
theorem dX12_clear_33 : decode cX12_clear 33 = .ok (.putfield 528, 3) := by decide +kernel
theorem dX12_clear_36 : decode cX12_clear 36 = .ok (.aload_n 0, 1) := by decide +kernel
theorem dX12_clear_37 : decode cX12_clear 37 = .ok (.invokevirtual 567, 3) := by decide +kernel
theorem dX12_clear_40 : decode cX12_clear 40 = .ok (.istore_n 2, 1) := by decide +kernel
theorem dX12_clear_41 : decode cX12_clear 41 = .ok (.iload_n 1, 1) := by decide +kernel
theorem dX12_clear_42 : decode cX12_clear 42 = .ok (.ireturn, 1) := by decide +kernel
theorem dX12_inline_0 : decode cX12_inline 0 = .ok (.aload_n 0, 1) := by decide +kernel
theorem dX12_inline_1 : decode cX12_inline 1 = .ok (.iload_n 1, 1) := by decide +kernel
theorem dX12_inline_2 : decode cX12_inline 2 = .ok (.invokevirtual 570, 3) := by decide +kernel
theorem dX12_inline_5 : decode cX12_inline 5 = .ok (.ifCond .ne 5, 3) := by decide +kernel
theorem dX12_inline_8 : decode cX12_inline 8 = .ok (.iconst (-1), 1) := by decide +kernel
theorem dX12_inline_9 : decode cX12_inline 9 = .ok (.ireturn, 1) := by decide +kernel
theorem dX12_inline_10 : decode cX12_inline 10 = .ok (.aload_n 0, 1) := by decide +kernel
theorem dX12_inline_11 : decode cX12_inline 11 = .ok (.invokevirtual 561, 3) := by decide +kernel
theorem dX12_inline_14 : decode cX12_inline 14 = .ok (.aload_n 0, 1) := by decide +kernel
theorem dX12_inline_15 : decode cX12_inline 15 = .ok (.getfield 124, 3) := by decide +kernel
theorem dX12_inline_18 : decode cX12_inline 18 = .ok (.bipush 32, 2) := by decide +kernel
theorem dX12_inline_20 : decode cX12_inline 20 = .ok (.dup2, 1) := by decide +kernel
theorem dX12_inline_21 : decode cX12_inline 21 = .ok (.iaload, 1) := by decide +kernel
theorem dX12_inline_22 : decode cX12_inline 22 = .ok (.iconst 1, 1) := by decide +kernel
theorem dX12_inline_23 : decode cX12_inline 23 = .ok (.iload_n 1, 1) := by decide +kernel
theorem dX12_inline_24 : decode cX12_inline 24 = .ok (.ishl, 1) := by decide +kernel
theorem dX12_inline_25 : decode cX12_inline 25 = .ok (.ixor, 1) := by decide +kernel
theorem dX12_inline_26 : decode cX12_inline 26 = .ok (.iastore, 1) := by decide +kernel
theorem dX12_inline_27 : decode cX12_inline 27 = .ok (.aload_n 0, 1) := by decide +kernel
theorem dX12_inline_28 : decode cX12_inline 28 = .ok (.getfield 124, 3) := by decide +kernel
theorem dX12_inline_31 : decode cX12_inline 31 = .ok (.bipush 32, 2) := by decide +kernel
theorem dX12_inline_33 : decode cX12_inline 33 = .ok (.iaload, 1) := by decide +kernel
theorem dX12_inline_34 : decode cX12_inline 34 = .ok (.ireturn, 1) := by decide +kernel
theorem dX12_flip_0 : decode cX12_flip 0 = .ok (.aload_n 0, 1) := by decide +kernel
theorem dX12_flip_1 : decode cX12_flip 1 = .ok (.invokevirtual 561, 3) := by decide +kernel
theorem dX12_flip_4 : decode cX12_flip 4 = .ok (.aload_n 0, 1) := by decide +kernel
theorem dX12_flip_5 : decode cX12_flip 5 = .ok (.getfield 124, 3) := by decide +kernel
theorem dX12_flip_8 : decode cX12_flip 8 = .ok (.bipush 33, 2) := by decide +kernel
theorem dX12_flip_10 : decode cX12_flip 10 = .ok (.sipush 137, 3) := by decide +kernel
theorem dX12_flip_13 : decode cX12_flip 13 = .ok (.aload_n 0, 1) := by decide +kernel
theorem dX12_flip_14 : decode cX12_flip 14 = .ok (.getfield 124, 3) := by decide +kernel
theorem dX12_flip_17 : decode cX12_flip 17 = .ok (.bipush 33, 2) := by decide +kernel
theorem dX12_flip_19 : decode cX12_flip 19 = .ok (.iaload, 1) := by decide +kernel
theorem dX12_flip_20 : decode cX12_flip 20 = .ok (.imul, 1) := by decide +kernel
theorem dX12_flip_21 : decode cX12_flip 21 = .ok (.bipush 71, 2) := by decide +kernel
theorem dX12_flip_23 : decode cX12_flip 23 = .ok (.iadd, 1) := by decide +kernel
theorem dX12_flip_24 : decode cX12_flip 24 = .ok (.sipush 1000, 3) := by decide +kernel
theorem dX12_flip_27 : decode cX12_flip 27 = .ok (.irem, 1) := by decide +kernel
theorem dX12_flip_28 : decode cX12_flip 28 = .ok (.iastore, 1) := by decide +kernel
theorem dX12_flip_29 : decode cX12_flip 29 = .ok (.aload_n 0, 1) := by decide +kernel
theorem dX12_flip_30 : decode cX12_flip 30 = .ok (.getfield 124, 3) := by decide +kernel
theorem dX12_flip_33 : decode cX12_flip 33 = .ok (.bipush 33, 2) := by decide +kernel
theorem dX12_flip_35 : decode cX12_flip 35 = .ok (.iaload, 1) := by decide +kernel
theorem dX12_flip_36 : decode cX12_flip 36 = .ok (.bipush 100, 2) := by decide +kernel
theorem dX12_flip_38 : decode cX12_flip 38 = .ok (.irem, 1) := by decide +kernel
theorem dX12_flip_39 : decode cX12_flip 39 = .ok (.aload_n 0, 1) := by decide +kernel
theorem dX12_flip_40 : decode cX12_flip 40 = .ok (.getfield 30, 3) := by decide +kernel
theorem dX12_flip_43 : decode cX12_flip 43 = .ok (.aload_n 0, 1) := by decide +kernel
theorem dX12_flip_44 : decode cX12_flip 44 = .ok (.getfield 349, 3) := by decide +kernel
theorem dX12_flip_47 : decode cX12_flip 47 = .ok (.iaload, 1) := by decide +kernel
theorem dX12_flip_48 : decode cX12_flip 48 = .ok (.if_icmp .ge 13, 3) := by decide +kernel
theorem dX12_flip_51 : decode cX12_flip 51 = .ok (.aload_n 0, 1) := by decide +kernel
theorem dX12_flip_52 : decode cX12_flip 52 = .ok (.getfield 124, 3) := by decide +kernel
theorem dX12_flip_55 : decode cX12_flip 55 = .ok (.bipush 30, 2) := by decide +kernel
theorem dX12_flip_57 : decode cX12_flip 57 = .ok (.iaload, 1) := by decide +kernel
theorem dX12_flip_58 : decode cX12_flip 58 = .ok (.ifCond .ne 5, 3) := by decide +kernel
theorem dX12_flip_61 : decode cX12_flip 61 = .ok (.iconst (-1), 1) := by decide +kernel
theorem dX12_flip_62 : decode cX12_flip 62 = .ok (.ireturn, 1) := by decide +kernel
theorem dX12_flip_63 : decode cX12_flip 63 = .ok (.aload_n 0, 1) := by decide +kernel
theorem dX12_flip_64 : decode cX12_flip 64 = .ok (.getfield 124, 3) := by decide +kernel
theorem dX12_flip_67 : decode cX12_flip 67 = .ok (.iconst 0, 1) := by decide +kernel
theorem dX12_flip_68 : decode cX12_flip 68 = .ok (.aload_n 0, 1) := by decide +kernel
theorem dX12_flip_69 : decode cX12_flip 69 = .ok (.getfield 124, 3) := by decide +kernel
theorem dX12_flip_72 : decode cX12_flip 72 = .ok (.bipush 30, 2) := by decide +kernel
theorem dX12_flip_74 : decode cX12_flip 74 = .ok (.iaload, 1) := by decide +kernel
theorem dX12_flip_75 : decode cX12_flip 75 = .ok (.iadd, 1) := by decide +kernel
theorem dX12_flip_76 : decode cX12_flip 76 = .ok (.iconst 1, 1) := by decide +kernel
theorem dX12_flip_77 : decode cX12_flip 77 = .ok (.isub, 1) := by decide +kernel
theorem dX12_flip_78 : decode cX12_flip 78 = .ok (.dup2, 1) := by decide +kernel
theorem dX12_flip_79 : decode cX12_flip 79 = .ok (.iaload, 1) := by decide +kernel
theorem dX12_flip_80 : decode cX12_flip 80 = .ok (.iconst 1, 1) := by decide +kernel
theorem dX12_flip_81 : decode cX12_flip 81 = .ok (.aload_n 0, 1) := by decide +kernel
theorem dX12_flip_82 : decode cX12_flip 82 = .ok (.getfield 124, 3) := by decide +kernel
theorem dX12_flip_85 : decode cX12_flip 85 = .ok (.bipush 33, 2) := by decide +kernel
theorem dX12_flip_87 : decode cX12_flip 87 = .ok (.iaload, 1) := by decide +kernel
theorem dX12_flip_88 : decode cX12_flip 88 = .ok (.bipush 100, 2) := by decide +kernel
theorem dX12_flip_90 : decode cX12_flip 90 = .ok (.idiv, 1) := by decide +kernel
theorem dX12_flip_91 : decode cX12_flip 91 = .ok (.ishl, 1) := by decide +kernel
theorem dX12_flip_92 : decode cX12_flip 92 = .ok (.ixor, 1) := by decide +kernel
theorem dX12_flip_93 : decode cX12_flip 93 = .ok (.iastore, 1) := by decide +kernel
theorem dX12_flip_94 : decode cX12_flip 94 = .ok (.aload_n 0, 1) := by decide +kernel
theorem dX12_flip_95 : decode cX12_flip 95 = .ok (.getfield 124, 3) := by decide +kernel
theorem dX12_flip_98 : decode cX12_flip 98 = .ok (.bipush 33, 2) := by decide +kernel
theorem dX12_flip_100 : decode cX12_flip 100 = .ok (.iaload, 1) := by decide +kernel
theorem dX12_flip_101 : decode cX12_flip 101 = .ok (.bipush 100, 2) := by decide +kernel
theorem dX12_flip_103 : decode cX12_flip 103 = .ok (.idiv, 1) := by decide +kernel
theorem dX12_flip_104 : decode cX12_flip 104 = .ok (.ireturn, 1) := by decide +kernel
theorem dX12_undo_0 : decode cX12_undo 0 = .ok (.aload_n 0, 1) := by decide +kernel
theorem dX12_undo_1 : decode cX12_undo 1 = .ok (.getfield 507, 3) := by decide +kernel
theorem dX12_undo_4 : decode cX12_undo 4 = .ok (.ifCond .ne 5, 3) := by decide +kernel
theorem dX12_undo_7 : decode cX12_undo 7 = .ok (.iconst 0, 1) := by decide +kernel
theorem dX12_undo_8 : decode cX12_undo 8 = .ok (.ireturn, 1) := by decide +kernel
theorem dX12_undo_9 : decode cX12_undo 9 = .ok (.aload_n 0, 1) := by decide +kernel
theorem dX12_undo_10 : decode cX12_undo 10 = .ok (.dup, 1) := by decide +kernel
theorem dX12_undo_11 : decode cX12_undo 11 = .ok (.getfield 507, 3) := by decide +kernel
theorem dX12_undo_14 : decode cX12_undo 14 = .ok (.iconst 1, 1) := by decide +kernel
theorem dX12_undo_15 : decode cX12_undo 15 = .ok (.isub, 1) := by decide +kernel
theorem dX12_undo_16 : decode cX12_undo 16 = .ok (.putfield 507, 3) := by decide +kernel
theorem dX12_undo_19 : decode cX12_undo 19 = .ok (.aload_n 0, 1) := by decide +kernel
theorem dX12_undo_20 : decode cX12_undo 20 = .ok (.dup, 1) := by decide +kernel
theorem dX12_undo_21 : decode cX12_undo 21 = .ok (.getfield 510, 3) := by decide +kernel
theorem dX12_undo_24 : decode cX12_undo 24 = .ok (.iconst 1, 1) := by decide +kernel
theorem dX12_undo_25 : decode cX12_undo 25 = .ok (.iadd, 1) := by decide +kernel
theorem dX12_undo_26 : decode cX12_undo 26 = .ok (.putfield 510, 3) := by decide +kernel
theorem dX12_undo_29 : decode cX12_undo 29 = .ok (.aload_n 0, 1) := by decide +kernel
theorem dX12_undo_30 : decode cX12_undo 30 = .ok (.invokevirtual 576, 3) := by decide +kernel
theorem dX12_undo_33 : decode cX12_undo 33 = .ok (.iconst 1, 1) := by decide +kernel
theorem dX12_undo_34 : decode cX12_undo 34 = .ok (.ireturn, 1) := by decide +kernel
theorem dX12_redo_0 : decode cX12_redo 0 = .ok (.aload_n 0, 1) := by decide +kernel
theorem dX12_redo_1 : decode cX12_redo 1 = .ok (.getfield 510, 3) := by decide +kernel
theorem dX12_redo_4 : decode cX12_redo 4 = .ok (.ifCond .ne 5, 3) := by decide +kernel
theorem dX12_redo_7 : decode cX12_redo 7 = .ok (.iconst 0, 1) := by decide +kernel
theorem dX12_redo_8 : decode cX12_redo 8 = .ok (.ireturn, 1) := by decide +kernel
theorem dX12_redo_9 : decode cX12_redo 9 = .ok (.aload_n 0, 1) := by decide +kernel
theorem dX12_redo_10 : decode cX12_redo 10 = .ok (.invokevirtual 576, 3) := by decide +kernel
theorem dX12_redo_13 : decode cX12_redo 13 = .ok (.aload_n 0, 1) := by decide +kernel
theorem dX12_redo_14 : decode cX12_redo 14 = .ok (.dup, 1) := by decide +kernel
theorem dX12_redo_15 : decode cX12_redo 15 = .ok (.getfield 507, 3) := by decide +kernel
theorem dX12_redo_18 : decode cX12_redo 18 = .ok (.iconst 1, 1) := by decide +kernel
theorem dX12_redo_19 : decode cX12_redo 19 = .ok (.iadd, 1) := by decide +kernel
theorem dX12_redo_20 : decode cX12_redo 20 = .ok (.putfield 507, 3) := by decide +kernel
theorem dX12_redo_23 : decode cX12_redo 23 = .ok (.aload_n 0, 1) := by decide +kernel
theorem dX12_redo_24 : decode cX12_redo 24 = .ok (.dup, 1) := by decide +kernel
theorem dX12_redo_25 : decode cX12_redo 25 = .ok (.getfield 510, 3) := by decide +kernel
theorem dX12_redo_28 : decode cX12_redo 28 = .ok (.iconst 1, 1) := by decide +kernel
theorem dX12_redo_29 : decode cX12_redo 29 = .ok (.isub, 1) := by decide +kernel
theorem dX12_redo_30 : decode cX12_redo 30 = .ok (.putfield 510, 3) := by decide +kernel
theorem dX12_redo_33 : decode cX12_redo 33 = .ok (.iconst 1, 1) := by decide +kernel
theorem dX12_redo_34 : decode cX12_redo 34 = .ok (.ireturn, 1) := by decide +kernel
theorem dX12_word_0 : decode cX12_word 0 = .ok (.aload_n 0, 1) := by decide +kernel
theorem dX12_word_1 : decode cX12_word 1 = .ok (.iload_n 1, 1) := by decide +kernel
theorem dX12_word_2 : decode cX12_word 2 = .ok (.invokevirtual 570, 3) := by decide +kernel
theorem dX12_word_5 : decode cX12_word 5 = .ok (.ifCond .ne 5, 3) := by decide +kernel
theorem dX12_word_8 : decode cX12_word 8 = .ok (.iconst (-1), 1) := by decide +kernel
theorem dX12_word_9 : decode cX12_word 9 = .ok (.ireturn, 1) := by decide +kernel
theorem dX12_word_10 : decode cX12_word 10 = .ok (.bipush 6, 2) := by decide +kernel
theorem dX12_word_12 : decode cX12_word 12 = .ok (.aload_n 0, 1) := by decide +kernel
theorem dX12_word_13 : decode cX12_word 13 = .ok (.getfield 349, 3) := by decide +kernel
theorem dX12_word_16 : decode cX12_word 16 = .ok (.imul, 1) := by decide +kernel
theorem dX12_word_17 : decode cX12_word 17 = .ok (.iload_n 1, 1) := by decide +kernel
theorem dX12_word_18 : decode cX12_word 18 = .ok (.iadd, 1) := by decide +kernel
theorem dX12_word_19 : decode cX12_word 19 = .ok (.istore_n 3, 1) := by decide +kernel
theorem dX12_word_20 : decode cX12_word 20 = .ok (.iload_n 2, 1) := by decide +kernel
theorem dX12_word_21 : decode cX12_word 21 = .ok (.tableswitch 98 0 6 #[43, 50, 57, 63, 70, 77, 84], 43) := by decide +kernel
theorem dX12_word_64 : decode cX12_word 64 = .ok (.aload_n 0, 1) := by decide +kernel
theorem dX12_word_65 : decode cX12_word 65 = .ok (.getfield 42, 3) := by decide +kernel
theorem dX12_word_68 : decode cX12_word 68 = .ok (.iload_n 3, 1) := by decide +kernel
theorem dX12_word_69 : decode cX12_word 69 = .ok (.iaload, 1) := by decide +kernel
theorem dX12_word_70 : decode cX12_word 70 = .ok (.ireturn, 1) := by decide +kernel
theorem dX12_word_71 : decode cX12_word 71 = .ok (.aload_n 0, 1) := by decide +kernel
theorem dX12_word_72 : decode cX12_word 72 = .ok (.getfield 45, 3) := by decide +kernel
theorem dX12_word_75 : decode cX12_word 75 = .ok (.iload_n 3, 1) := by decide +kernel
theorem dX12_word_76 : decode cX12_word 76 = .ok (.iaload, 1) := by decide +kernel
theorem dX12_word_77 : decode cX12_word 77 = .ok (.ireturn, 1) := by decide +kernel
theorem dX12_word_78 : decode cX12_word 78 = .ok (.aload_n 0, 1) := by decide +kernel
theorem dX12_word_79 : decode cX12_word 79 = .ok (.iload_n 1, 1) := by decide +kernel
theorem dX12_word_80 : decode cX12_word 80 = .ok (.invokevirtual 579, 3) := by decide +kernel
theorem dX12_word_83 : decode cX12_word 83 = .ok (.ireturn, 1) := by decide +kernel
theorem dX12_word_84 : decode cX12_word 84 = .ok (.aload_n 0, 1) := by decide +kernel
theorem dX12_word_85 : decode cX12_word 85 = .ok (.getfield 51, 3) := by decide +kernel
theorem dX12_word_88 : decode cX12_word 88 = .ok (.iload_n 3, 1) := by decide +kernel
theorem dX12_word_89 : decode cX12_word 89 = .ok (.iaload, 1) := by decide +kernel
theorem dX12_word_90 : decode cX12_word 90 = .ok (.ireturn, 1) := by decide +kernel
theorem dX12_word_91 : decode cX12_word 91 = .ok (.aload_n 0, 1) := by decide +kernel
theorem dX12_word_92 : decode cX12_word 92 = .ok (.getfield 54, 3) := by decide +kernel
theorem dX12_word_95 : decode cX12_word 95 = .ok (.iload_n 3, 1) := by decide +kernel
theorem dX12_word_96 : decode cX12_word 96 = .ok (.iaload, 1) := by decide +kernel
theorem dX12_word_97 : decode cX12_word 97 = .ok (.ireturn, 1) := by decide +kernel
theorem dX12_word_98 : decode cX12_word 98 = .ok (.aload_n 0, 1) := by decide +kernel
theorem dX12_word_99 : decode cX12_word 99 = .ok (.getfield 57, 3) := by decide +kernel
theorem dX12_word_102 : decode cX12_word 102 = .ok (.iload_n 3, 1) := by decide +kernel
theorem dX12_word_103 : decode cX12_word 103 = .ok (.iaload, 1) := by decide +kernel
theorem dX12_word_104 : decode cX12_word 104 = .ok (.ireturn, 1) := by decide +kernel
theorem dX12_word_105 : decode cX12_word 105 = .ok (.aload_n 0, 1) := by decide +kernel
theorem dX12_word_106 : decode cX12_word 106 = .ok (.iload_n 1, 1) := by decide +kernel
theorem dX12_word_107 : decode cX12_word 107 = .ok (.invokevirtual 582, 3) := by decide +kernel
theorem dX12_word_110 : decode cX12_word 110 = .ok (.ifCond .eq 7, 3) := by decide +kernel
theorem dX12_word_113 : decode cX12_word 113 = .ok (.iconst 1, 1) := by decide +kernel
theorem dX12_word_114 : decode cX12_word 114 = .ok (.goto 4, 3) := by decide +kernel
theorem dX12_word_117 : decode cX12_word 117 = .ok (.iconst 0, 1) := by decide +kernel
theorem dX12_word_118 : decode cX12_word 118 = .ok (.ireturn, 1) := by decide +kernel
theorem dX12_word_119 : decode cX12_word 119 = .ok (.iconst (-1), 1) := by decide +kernel
theorem dX12_word_120 : decode cX12_word 120 = .ok (.ireturn, 1) := by decide +kernel
theorem dX12_item_0 : decode cX12_item 0 = .ok (.aload_n 0, 1) := by decide +kernel
theorem dX12_item_1 : decode cX12_item 1 = .ok (.iload_n 1, 1) := by decide +kernel
theorem dX12_item_2 : decode cX12_item 2 = .ok (.invokevirtual 570, 3) := by decide +kernel
theorem dX12_item_5 : decode cX12_item 5 = .ok (.ifCond .eq 18, 3) := by decide +kernel
theorem dX12_item_8 : decode cX12_item 8 = .ok (.iload_n 2, 1) := by decide +kernel
theorem dX12_item_9 : decode cX12_item 9 = .ok (.iconst 0, 1) := by decide +kernel
theorem dX12_item_10 : decode cX12_item 10 = .ok (.aload_n 0, 1) := by decide +kernel
theorem dX12_item_11 : decode cX12_item 11 = .ok (.iload_n 1, 1) := by decide +kernel
theorem dX12_item_12 : decode cX12_item 12 = .ok (.invokevirtual 546, 3) := by decide +kernel
theorem dX12_item_15 : decode cX12_item 15 = .ok (.iconst 1, 1) := by decide +kernel
theorem dX12_item_16 : decode cX12_item 16 = .ok (.isub, 1) := by decide +kernel
theorem dX12_item_17 : decode cX12_item 17 = .ok (.invokestatic 500, 3) := by decide +kernel
theorem dX12_item_20 : decode cX12_item 20 = .ok (.ifCond .ne 5, 3) := by decide +kernel
theorem dX12_item_23 : decode cX12_item 23 = .ok (.iconst (-1), 1) := by decide +kernel
theorem dX12_item_24 : decode cX12_item 24 = .ok (.ireturn, 1) := by decide +kernel
theorem dX12_item_25 : decode cX12_item 25 = .ok (.iload_n 3, 1) := by decide +kernel
theorem dX12_item_26 : decode cX12_item 26 = .ok (.ifCond .ne 17, 3) := by decide +kernel
theorem dX12_item_29 : decode cX12_item 29 = .ok (.aload_n 0, 1) := by decide +kernel
theorem dX12_item_30 : decode cX12_item 30 = .ok (.getfield 60, 3) := by decide +kernel
theorem dX12_item_33 : decode cX12_item 33 = .ok (.aload_n 0, 1) := by decide +kernel
theorem dX12_item_34 : decode cX12_item 34 = .ok (.iload_n 1, 1) := by decide +kernel
theorem dX12_item_35 : decode cX12_item 35 = .ok (.iload_n 2, 1) := by decide +kernel
theorem dX12_item_36 : decode cX12_item 36 = .ok (.invokevirtual 519, 3) := by decide +kernel
theorem dX12_item_39 : decode cX12_item 39 = .ok (.iaload, 1) := by decide +kernel
theorem dX12_item_40 : decode cX12_item 40 = .ok (.goto 23, 3) := by decide +kernel
theorem dX12_item_43 : decode cX12_item 43 = .ok (.iload_n 3, 1) := by decide +kernel
theorem dX12_item_44 : decode cX12_item 44 = .ok (.iconst 1, 1) := by decide +kernel
theorem dX12_item_45 : decode cX12_item 45 = .ok (.if_icmp .ne 17, 3) := by decide +kernel
theorem dX12_item_48 : decode cX12_item 48 = .ok (.aload_n 0, 1) := by decide +kernel
theorem dX12_item_49 : decode cX12_item 49 = .ok (.getfield 63, 3) := by decide +kernel
theorem dX12_item_52 : decode cX12_item 52 = .ok (.aload_n 0, 1) := by decide +kernel
theorem dX12_item_53 : decode cX12_item 53 = .ok (.iload_n 1, 1) := by decide +kernel
theorem dX12_item_54 : decode cX12_item 54 = .ok (.iload_n 2, 1) := by decide +kernel
theorem dX12_item_55 : decode cX12_item 55 = .ok (.invokevirtual 519, 3) := by decide +kernel
theorem dX12_item_58 : decode cX12_item 58 = .ok (.iaload, 1) := by decide +kernel
theorem dX12_item_59 : decode cX12_item 59 = .ok (.goto 4, 3) := by decide +kernel
theorem dX12_item_62 : decode cX12_item 62 = .ok (.iconst (-1), 1) := by decide +kernel
theorem dX12_item_63 : decode cX12_item 63 = .ok (.ireturn, 1) := by decide +kernel
theorem dX12_height_0 : decode cX12_height 0 = .ok (.aload_n 0, 1) := by decide +kernel
theorem dX12_height_1 : decode cX12_height 1 = .ok (.iload_n 1, 1) := by decide +kernel
theorem dX12_height_2 : decode cX12_height 2 = .ok (.invokevirtual 570, 3) := by decide +kernel
theorem dX12_height_5 : decode cX12_height 5 = .ok (.ifCond .eq 32, 3) := by decide +kernel
theorem dX12_height_8 : decode cX12_height 8 = .ok (.iload_n 2, 1) := by decide +kernel
theorem dX12_height_9 : decode cX12_height 9 = .ok (.iconst 0, 1) := by decide +kernel
theorem dX12_height_10 : decode cX12_height 10 = .ok (.aload_n 0, 1) := by decide +kernel
theorem dX12_height_11 : decode cX12_height 11 = .ok (.iload_n 1, 1) := by decide +kernel
theorem dX12_height_12 : decode cX12_height 12 = .ok (.invokevirtual 546, 3) := by decide +kernel
theorem dX12_height_15 : decode cX12_height 15 = .ok (.iconst 1, 1) := by decide +kernel
theorem dX12_height_16 : decode cX12_height 16 = .ok (.isub, 1) := by decide +kernel
theorem dX12_height_17 : decode cX12_height 17 = .ok (.invokestatic 500, 3) := by decide +kernel
theorem dX12_height_20 : decode cX12_height 20 = .ok (.ifCond .eq 17, 3) := by decide +kernel
theorem dX12_height_23 : decode cX12_height 23 = .ok (.aload_n 0, 1) := by decide +kernel
theorem dX12_height_24 : decode cX12_height 24 = .ok (.getfield 66, 3) := by decide +kernel
theorem dX12_height_27 : decode cX12_height 27 = .ok (.aload_n 0, 1) := by decide +kernel
theorem dX12_height_28 : decode cX12_height 28 = .ok (.iload_n 1, 1) := by decide +kernel
theorem dX12_height_29 : decode cX12_height 29 = .ok (.iload_n 2, 1) := by decide +kernel
theorem dX12_height_30 : decode cX12_height 30 = .ok (.invokevirtual 519, 3) := by decide +kernel
theorem dX12_height_33 : decode cX12_height 33 = .ok (.iaload, 1) := by decide +kernel
theorem dX12_height_34 : decode cX12_height 34 = .ok (.goto 5, 3) := by decide +kernel
theorem dX12_height_37 : decode cX12_height 37 = .ok (.bipush (-100), 2) := by decide +kernel
theorem dX12_height_39 : decode cX12_height 39 = .ok (.ireturn, 1) := by decide +kernel
theorem dX12_cell_0 : decode cX12_cell 0 = .ok (.iload_n 1, 1) := by decide +kernel
theorem dX12_cell_1 : decode cX12_cell 1 = .ok (.iconst 0, 1) := by decide +kernel
theorem dX12_cell_2 : decode cX12_cell 2 = .ok (.aload_n 0, 1) := by decide +kernel
theorem dX12_cell_3 : decode cX12_cell 3 = .ok (.getfield 124, 3) := by decide +kernel
theorem dX12_cell_6 : decode cX12_cell 6 = .ok (.bipush 30, 2) := by decide +kernel
theorem dX12_cell_8 : decode cX12_cell 8 = .ok (.iaload, 1) := by decide +kernel
theorem dX12_cell_9 : decode cX12_cell 9 = .ok (.iconst 1, 1) := by decide +kernel
theorem dX12_cell_10 : decode cX12_cell 10 = .ok (.isub, 1) := by decide +kernel
theorem dX12_cell_11 : decode cX12_cell 11 = .ok (.invokestatic 500, 3) := by decide +kernel
theorem dX12_cell_14 : decode cX12_cell 14 = .ok (.ifCond .eq 24, 3) := by decide +kernel
theorem dX12_cell_17 : decode cX12_cell 17 = .ok (.aload_n 0, 1) := by decide +kernel
theorem dX12_cell_18 : decode cX12_cell 18 = .ok (.getfield 124, 3) := by decide +kernel
theorem dX12_cell_21 : decode cX12_cell 21 = .ok (.iconst 0, 1) := by decide +kernel
theorem dX12_cell_22 : decode cX12_cell 22 = .ok (.aload_n 0, 1) := by decide +kernel
theorem dX12_cell_23 : decode cX12_cell 23 = .ok (.getfield 124, 3) := by decide +kernel
theorem dX12_cell_26 : decode cX12_cell 26 = .ok (.bipush 30, 2) := by decide +kernel
theorem dX12_cell_28 : decode cX12_cell 28 = .ok (.iaload, 1) := by decide +kernel
theorem dX12_cell_29 : decode cX12_cell 29 = .ok (.iadd, 1) := by decide +kernel
theorem dX12_cell_30 : decode cX12_cell 30 = .ok (.iconst 1, 1) := by decide +kernel
theorem dX12_cell_31 : decode cX12_cell 31 = .ok (.isub, 1) := by decide +kernel
theorem dX12_cell_32 : decode cX12_cell 32 = .ok (.iload_n 1, 1) := by decide +kernel
theorem dX12_cell_33 : decode cX12_cell 33 = .ok (.isub, 1) := by decide +kernel
theorem dX12_cell_34 : decode cX12_cell 34 = .ok (.iaload, 1) := by decide +kernel
theorem dX12_cell_35 : decode cX12_cell 35 = .ok (.goto 4, 3) := by decide +kernel
theorem dX12_cell_38 : decode cX12_cell 38 = .ok (.iconst 0, 1) := by decide +kernel
theorem dX12_cell_39 : decode cX12_cell 39 = .ok (.ireturn, 1) := by decide +kernel
theorem dX12_put_0 : decode cX12_put 0 = .ok (.iload_n 1, 1) := by decide +kernel
theorem dX12_put_1 : decode cX12_put 1 = .ok (.iconst 0, 1) := by decide +kernel
theorem dX12_put_2 : decode cX12_put 2 = .ok (.aload_n 0, 1) := by decide +kernel
theorem dX12_put_3 : decode cX12_put 3 = .ok (.getfield 124, 3) := by decide +kernel
theorem dX12_put_6 : decode cX12_put 6 = .ok (.bipush 31, 2) := by decide +kernel
theorem dX12_put_8 : decode cX12_put 8 = .ok (.iaload, 1) := by decide +kernel
theorem dX12_put_9 : decode cX12_put 9 = .ok (.iconst 1, 1) := by decide +kernel
theorem dX12_put_10 : decode cX12_put 10 = .ok (.isub, 1) := by decide +kernel
theorem dX12_put_11 : decode cX12_put 11 = .ok (.invokestatic 500, 3) := by decide +kernel
theorem dX12_put_14 : decode cX12_put 14 = .ok (.ifCond .eq 25, 3) := by decide +kernel
theorem dX12_put_17 : decode cX12_put 17 = .ok (.aload_n 0, 1) := by decide +kernel
theorem dX12_put_18 : decode cX12_put 18 = .ok (.getfield 124, 3) := by decide +kernel
theorem dX12_put_21 : decode cX12_put 21 = .ok (.bipush 24, 2) := by decide +kernel
theorem dX12_put_23 : decode cX12_put 23 = .ok (.aload_n 0, 1) := by decide +kernel
theorem dX12_put_24 : decode cX12_put 24 = .ok (.getfield 124, 3) := by decide +kernel
theorem dX12_put_27 : decode cX12_put 27 = .ok (.bipush 31, 2) := by decide +kernel
theorem dX12_put_29 : decode cX12_put 29 = .ok (.iaload, 1) := by decide +kernel
theorem dX12_put_30 : decode cX12_put 30 = .ok (.iadd, 1) := by decide +kernel
theorem dX12_put_31 : decode cX12_put 31 = .ok (.iconst 1, 1) := by decide +kernel
theorem dX12_put_32 : decode cX12_put 32 = .ok (.isub, 1) := by decide +kernel
theorem dX12_put_33 : decode cX12_put 33 = .ok (.iload_n 1, 1) := by decide +kernel
theorem dX12_put_34 : decode cX12_put 34 = .ok (.isub, 1) := by decide +kernel
theorem dX12_put_35 : decode cX12_put 35 = .ok (.iaload, 1) := by decide +kernel
theorem dX12_put_36 : decode cX12_put 36 = .ok (.goto 4, 3) := by decide +kernel
theorem dX12_put_39 : decode cX12_put 39 = .ok (.iconst 0, 1) := by decide +kernel
theorem dX12_put_40 : decode cX12_put 40 = .ok (.ireturn, 1) := by decide +kernel
theorem dX12_calls_0 : decode cX12_calls 0 = .ok (.aload_n 0, 1) := by decide +kernel
theorem dX12_calls_1 : decode cX12_calls 1 = .ok (.iload_n 1, 1) := by decide +kernel
theorem dX12_calls_2 : decode cX12_calls 2 = .ok (.invokevirtual 570, 3) := by decide +kernel
theorem dX12_calls_5 : decode cX12_calls 5 = .ok (.ifCond .ne 5, 3) := by decide +kernel
theorem dX12_calls_8 : decode cX12_calls 8 = .ok (.iconst (-1), 1) := by decide +kernel
theorem dX12_calls_9 : decode cX12_calls 9 = .ok (.ireturn, 1) := by decide +kernel
theorem dX12_calls_10 : decode cX12_calls 10 = .ok (.iconst 0, 1) := by decide +kernel
theorem dX12_calls_11 : decode cX12_calls 11 = .ok (.istore_n 2, 1) := by decide +kernel
theorem dX12_calls_12 : decode cX12_calls 12 = .ok (.iconst 0, 1) := by decide +kernel
theorem dX12_calls_13 : decode cX12_calls 13 = .ok (.istore_n 3, 1) := by decide +kernel
theorem dX12_calls_14 : decode cX12_calls 14 = .ok (.iload_n 3, 1) := by decide +kernel
theorem dX12_calls_15 : decode cX12_calls 15 = .ok (.aload_n 0, 1) := by decide +kernel
theorem dX12_calls_16 : decode cX12_calls 16 = .ok (.iload_n 1, 1) := by decide +kernel
theorem dX12_calls_17 : decode cX12_calls 17 = .ok (.invokevirtual 546, 3) := by decide +kernel
theorem dX12_calls_20 : decode cX12_calls 20 = .ok (.if_icmp .ge 40, 3) := by decide +kernel
theorem dX12_calls_23 : decode cX12_calls 23 = .ok (.aload_n 0, 1) := by decide +kernel
theorem dX12_calls_24 : decode cX12_calls 24 = .ok (.getfield 60, 3) := by decide +kernel
theorem dX12_calls_27 : decode cX12_calls 27 = .ok (.aload_n 0, 1) := by decide +kernel
theorem dX12_calls_28 : decode cX12_calls 28 = .ok (.iload_n 1, 1) := by decide +kernel
theorem dX12_calls_29 : decode cX12_calls 29 = .ok (.iload_n 3, 1) := by decide +kernel
theorem dX12_calls_30 : decode cX12_calls 30 = .ok (.invokevirtual 519, 3) := by decide +kernel
theorem dX12_calls_33 : decode cX12_calls 33 = .ok (.iaload, 1) := by decide +kernel
theorem dX12_calls_34 : decode cX12_calls 34 = .ok (.iconst 2, 1) := by decide +kernel
theorem dX12_calls_35 : decode cX12_calls 35 = .ok (.if_icmp .ne 19, 3) := by decide +kernel
theorem dX12_calls_38 : decode cX12_calls 38 = .ok (.iload_n 2, 1) := by decide +kernel
theorem dX12_calls_39 : decode cX12_calls 39 = .ok (.iconst 1, 1) := by decide +kernel
theorem dX12_calls_40 : decode cX12_calls 40 = .ok (.aload_n 0, 1) := by decide +kernel
theorem dX12_calls_41 : decode cX12_calls 41 = .ok (.getfield 63, 3) := by decide +kernel
theorem dX12_calls_44 : decode cX12_calls 44 = .ok (.aload_n 0, 1) := by decide +kernel
theorem dX12_calls_45 : decode cX12_calls 45 = .ok (.iload_n 1, 1) := by decide +kernel
theorem dX12_calls_46 : decode cX12_calls 46 = .ok (.iload_n 3, 1) := by decide +kernel
theorem dX12_calls_47 : decode cX12_calls 47 = .ok (.invokevirtual 519, 3) := by decide +kernel
theorem dX12_calls_50 : decode cX12_calls 50 = .ok (.iaload, 1) := by decide +kernel
theorem dX12_calls_51 : decode cX12_calls 51 = .ok (.ishl, 1) := by decide +kernel
theorem dX12_calls_52 : decode cX12_calls 52 = .ok (.ior, 1) := by decide +kernel
theorem dX12_calls_53 : decode cX12_calls 53 = .ok (.istore_n 2, 1) := by decide +kernel
theorem dX12_calls_54 : decode cX12_calls 54 = .ok (.iinc 3 1, 3) := by decide +kernel
theorem dX12_calls_57 : decode cX12_calls 57 = .ok (.goto (-43), 3) := by decide +kernel
theorem dX12_calls_60 : decode cX12_calls 60 = .ok (.iload_n 2, 1) := by decide +kernel
theorem dX12_calls_61 : decode cX12_calls 61 = .ok (.ireturn, 1) := by decide +kernel
theorem dX12_callers_0 : decode cX12_callers 0 = .ok (.aload_n 0, 1) := by decide +kernel
theorem dX12_callers_1 : decode cX12_callers 1 = .ok (.iload_n 1, 1) := by decide +kernel
theorem dX12_callers_2 : decode cX12_callers 2 = .ok (.invokevirtual 570, 3) := by decide +kernel
theorem dX12_callers_5 : decode cX12_callers 5 = .ok (.ifCond .ne 5, 3) := by decide +kernel
theorem dX12_callers_8 : decode cX12_callers 8 = .ok (.iconst (-1), 1) := by decide +kernel
theorem dX12_callers_9 : decode cX12_callers 9 = .ok (.ireturn, 1) := by decide +kernel
theorem dX12_callers_10 : decode cX12_callers 10 = .ok (.iconst 1, 1) := by decide +kernel
theorem dX12_callers_11 : decode cX12_callers 11 = .ok (.iload_n 1, 1) := by decide +kernel
theorem dX12_callers_12 : decode cX12_callers 12 = .ok (.ishl, 1) := by decide +kernel
theorem dX12_callers_13 : decode cX12_callers 13 = .ok (.istore_n 2, 1) := by decide +kernel
theorem dX12_callers_14 : decode cX12_callers 14 = .ok (.iload_n 1, 1) := by decide +kernel
theorem dX12_callers_15 : decode cX12_callers 15 = .ok (.iconst 1, 1) := by decide +kernel
theorem dX12_callers_16 : decode cX12_callers 16 = .ok (.iadd, 1) := by decide +kernel
theorem dX12_callers_17 : decode cX12_callers 17 = .ok (.istore_n 3, 1) := by decide +kernel
theorem dX12_callers_18 : decode cX12_callers 18 = .ok (.iload_n 3, 1) := by decide +kernel
theorem dX12_callers_19 : decode cX12_callers 19 = .ok (.aload_n 0, 1) := by decide +kernel
theorem dX12_callers_20 : decode cX12_callers 20 = .ok (.invokevirtual 497, 3) := by decide +kernel
theorem dX12_callers_23 : decode cX12_callers 23 = .ok (.if_icmp .ge 25, 3) := by decide +kernel
theorem dX12_callers_26 : decode cX12_callers 26 = .ok (.aload_n 0, 1) := by decide +kernel
theorem dX12_callers_27 : decode cX12_callers 27 = .ok (.iload_n 3, 1) := by decide +kernel
theorem dX12_callers_28 : decode cX12_callers 28 = .ok (.invokevirtual 585, 3) := by decide +kernel
theorem dX12_callers_31 : decode cX12_callers 31 = .ok (.iload_n 2, 1) := by decide +kernel
theorem dX12_callers_32 : decode cX12_callers 32 = .ok (.iand, 1) := by decide +kernel
theorem dX12_callers_33 : decode cX12_callers 33 = .ok (.ifCond .eq 9, 3) := by decide +kernel
theorem dX12_callers_36 : decode cX12_callers 36 = .ok (.iload_n 2, 1) := by decide +kernel
theorem dX12_callers_37 : decode cX12_callers 37 = .ok (.iconst 1, 1) := by decide +kernel
theorem dX12_callers_38 : decode cX12_callers 38 = .ok (.iload_n 3, 1) := by decide +kernel
theorem dX12_callers_39 : decode cX12_callers 39 = .ok (.ishl, 1) := by decide +kernel
theorem dX12_callers_40 : decode cX12_callers 40 = .ok (.ior, 1) := by decide +kernel
theorem dX12_callers_41 : decode cX12_callers 41 = .ok (.istore_n 2, 1) := by decide +kernel
theorem dX12_callers_42 : decode cX12_callers 42 = .ok (.iinc 3 1, 3) := by decide +kernel
theorem dX12_callers_45 : decode cX12_callers 45 = .ok (.goto (-27), 3) := by decide +kernel
theorem dX12_callers_48 : decode cX12_callers 48 = .ok (.iload_n 2, 1) := by decide +kernel
theorem dX12_callers_49 : decode cX12_callers 49 = .ok (.iconst 1, 1) := by decide +kernel
theorem dX12_callers_50 : decode cX12_callers 50 = .ok (.iload_n 1, 1) := by decide +kernel
theorem dX12_callers_51 : decode cX12_callers 51 = .ok (.ishl, 1) := by decide +kernel
theorem dX12_callers_52 : decode cX12_callers 52 = .ok (.iconst (-1), 1) := by decide +kernel
theorem dX12_callers_53 : decode cX12_callers 53 = .ok (.ixor, 1) := by decide +kernel
theorem dX12_callers_54 : decode cX12_callers 54 = .ok (.iand, 1) := by decide +kernel
theorem dX12_callers_55 : decode cX12_callers 55 = .ok (.ireturn, 1) := by decide +kernel
theorem dX12_nested_0 : decode cX12_nested 0 = .ok (.aload_n 0, 1) := by decide +kernel
theorem dX12_nested_1 : decode cX12_nested 1 = .ok (.iload_n 1, 1) := by decide +kernel
theorem dX12_nested_2 : decode cX12_nested 2 = .ok (.invokevirtual 570, 3) := by decide +kernel
theorem dX12_nested_5 : decode cX12_nested 5 = .ok (.ifCond .ne 5, 3) := by decide +kernel
theorem dX12_nested_8 : decode cX12_nested 8 = .ok (.iconst (-1), 1) := by decide +kernel
theorem dX12_nested_9 : decode cX12_nested 9 = .ok (.ireturn, 1) := by decide +kernel
theorem dX12_nested_10 : decode cX12_nested 10 = .ok (.iconst 0, 1) := by decide +kernel
theorem dX12_nested_11 : decode cX12_nested 11 = .ok (.istore_n 2, 1) := by decide +kernel
theorem dX12_nested_12 : decode cX12_nested 12 = .ok (.iload_n 2, 1) := by decide +kernel
theorem dX12_nested_13 : decode cX12_nested 13 = .ok (.iload_n 1, 1) := by decide +kernel
theorem dX12_nested_14 : decode cX12_nested 14 = .ok (.if_icmp .gt 64, 3) := by decide +kernel
theorem dX12_nested_17 : decode cX12_nested 17 = .ok (.aload_n 0, 1) := by decide +kernel
theorem dX12_nested_18 : decode cX12_nested 18 = .ok (.getfield 148, 3) := by decide +kernel
theorem dX12_nested_21 : decode cX12_nested 21 = .ok (.iload_n 2, 1) := by decide +kernel
theorem dX12_nested_22 : decode cX12_nested 22 = .ok (.iconst 1, 1) := by decide +kernel
theorem dX12_nested_23 : decode cX12_nested 23 = .ok (.iastore, 1) := by decide +kernel
theorem dX12_nested_24 : decode cX12_nested 24 = .ok (.iconst 0, 1) := by decide +kernel
theorem dX12_nested_25 : decode cX12_nested 25 = .ok (.istore_n 3, 1) := by decide +kernel
theorem dX12_nested_26 : decode cX12_nested 26 = .ok (.iload_n 3, 1) := by decide +kernel
theorem dX12_nested_27 : decode cX12_nested 27 = .ok (.iload_n 2, 1) := by decide +kernel
theorem dX12_nested_28 : decode cX12_nested 28 = .ok (.if_icmp .ge 44, 3) := by decide +kernel
theorem dX12_nested_31 : decode cX12_nested 31 = .ok (.aload_n 0, 1) := by decide +kernel
theorem dX12_nested_32 : decode cX12_nested 32 = .ok (.iload_n 2, 1) := by decide +kernel
theorem dX12_nested_33 : decode cX12_nested 33 = .ok (.invokevirtual 585, 3) := by decide +kernel
theorem dX12_nested_36 : decode cX12_nested 36 = .ok (.iload_n 3, 1) := by decide +kernel
theorem dX12_nested_37 : decode cX12_nested 37 = .ok (.invokestatic 358, 3) := by decide +kernel
theorem dX12_nested_40 : decode cX12_nested 40 = .ok (.ifCond .eq 26, 3) := by decide +kernel
theorem dX12_nested_43 : decode cX12_nested 43 = .ok (.aload_n 0, 1) := by decide +kernel
theorem dX12_nested_44 : decode cX12_nested 44 = .ok (.getfield 148, 3) := by decide +kernel
theorem dX12_nested_47 : decode cX12_nested 47 = .ok (.iload_n 2, 1) := by decide +kernel
theorem dX12_nested_48 : decode cX12_nested 48 = .ok (.aload_n 0, 1) := by decide +kernel
theorem dX12_nested_49 : decode cX12_nested 49 = .ok (.getfield 148, 3) := by decide +kernel
theorem dX12_nested_52 : decode cX12_nested 52 = .ok (.iload_n 2, 1) := by decide +kernel
theorem dX12_nested_53 : decode cX12_nested 53 = .ok (.iaload, 1) := by decide +kernel
theorem dX12_nested_54 : decode cX12_nested 54 = .ok (.aload_n 0, 1) := by decide +kernel
theorem dX12_nested_55 : decode cX12_nested 55 = .ok (.getfield 148, 3) := by decide +kernel
theorem dX12_nested_58 : decode cX12_nested 58 = .ok (.iload_n 3, 1) := by decide +kernel
theorem dX12_nested_59 : decode cX12_nested 59 = .ok (.iaload, 1) := by decide +kernel
theorem dX12_nested_60 : decode cX12_nested 60 = .ok (.iconst 1, 1) := by decide +kernel
theorem dX12_nested_61 : decode cX12_nested 61 = .ok (.iadd, 1) := by decide +kernel
theorem dX12_nested_62 : decode cX12_nested 62 = .ok (.invokestatic 588, 3) := by decide +kernel
theorem dX12_nested_65 : decode cX12_nested 65 = .ok (.iastore, 1) := by decide +kernel
theorem dX12_nested_66 : decode cX12_nested 66 = .ok (.iinc 3 1, 3) := by decide +kernel
theorem dX12_nested_69 : decode cX12_nested 69 = .ok (.goto (-43), 3) := by decide +kernel
theorem dX12_nested_72 : decode cX12_nested 72 = .ok (.iinc 2 1, 3) := by decide +kernel
theorem dX12_nested_75 : decode cX12_nested 75 = .ok (.goto (-63), 3) := by decide +kernel
theorem dX12_nested_78 : decode cX12_nested 78 = .ok (.aload_n 0, 1) := by decide +kernel
theorem dX12_nested_79 : decode cX12_nested 79 = .ok (.getfield 148, 3) := by decide +kernel
theorem dX12_nested_82 : decode cX12_nested 82 = .ok (.iload_n 1, 1) := by decide +kernel
theorem dX12_nested_83 : decode cX12_nested 83 = .ok (.iaload, 1) := by decide +kernel
theorem dX12_nested_84 : decode cX12_nested 84 = .ok (.ireturn, 1) := by decide +kernel
theorem dX12_commonest_0 : decode cX12_commonest 0 = .ok (.iconst (-1), 1) := by decide +kernel
theorem dX12_commonest_1 : decode cX12_commonest 1 = .ok (.istore_n 1, 1) := by decide +kernel
theorem dX12_commonest_2 : decode cX12_commonest 2 = .ok (.iconst 0, 1) := by decide +kernel
theorem dX12_commonest_3 : decode cX12_commonest 3 = .ok (.istore_n 2, 1) := by decide +kernel
theorem dX12_commonest_4 : decode cX12_commonest 4 = .ok (.iconst 0, 1) := by decide +kernel
theorem dX12_commonest_5 : decode cX12_commonest 5 = .ok (.istore_n 3, 1) := by decide +kernel
theorem dX12_commonest_6 : decode cX12_commonest 6 = .ok (.iload_n 3, 1) := by decide +kernel
theorem dX12_commonest_7 : decode cX12_commonest 7 = .ok (.bipush 15, 2) := by decide +kernel
theorem dX12_commonest_9 : decode cX12_commonest 9 = .ok (.if_icmp .ge 94, 3) := by decide +kernel
theorem dX12_commonest_12 : decode cX12_commonest 12 = .ok (.iconst 0, 1) := by decide +kernel
theorem dX12_commonest_13 : decode cX12_commonest 13 = .ok (.istore 4, 2) := by decide +kernel
theorem dX12_commonest_15 : decode cX12_commonest 15 = .ok (.bipush 60, 2) := by decide +kernel
theorem dX12_commonest_17 : decode cX12_commonest 17 = .ok (.aload_n 0, 1) := by decide +kernel
theorem dX12_commonest_18 : decode cX12_commonest 18 = .ok (.getfield 349, 3) := by decide +kernel
theorem dX12_commonest_21 : decode cX12_commonest 21 = .ok (.imul, 1) := by decide +kernel
theorem dX12_commonest_22 : decode cX12_commonest 22 = .ok (.istore 5, 2) := by decide +kernel
theorem dX12_commonest_24 : decode cX12_commonest 24 = .ok (.iload 5, 2) := by decide +kernel
theorem dX12_commonest_26 : decode cX12_commonest 26 = .ok (.bipush 60, 2) := by decide +kernel
theorem dX12_commonest_28 : decode cX12_commonest 28 = .ok (.aload_n 0, 1) := by decide +kernel
theorem dX12_commonest_29 : decode cX12_commonest 29 = .ok (.getfield 349, 3) := by decide +kernel
theorem dX12_commonest_32 : decode cX12_commonest 32 = .ok (.imul, 1) := by decide +kernel
theorem dX12_commonest_33 : decode cX12_commonest 33 = .ok (.aload_n 0, 1) := by decide +kernel
theorem dX12_commonest_34 : decode cX12_commonest 34 = .ok (.getfield 24, 3) := by decide +kernel
theorem dX12_commonest_37 : decode cX12_commonest 37 = .ok (.aload_n 0, 1) := by decide +kernel
theorem dX12_commonest_38 : decode cX12_commonest 38 = .ok (.getfield 349, 3) := by decide +kernel
theorem dX12_commonest_41 : decode cX12_commonest 41 = .ok (.iaload, 1) := by decide +kernel
theorem dX12_commonest_42 : decode cX12_commonest 42 = .ok (.iadd, 1) := by decide +kernel
theorem dX12_commonest_43 : decode cX12_commonest 43 = .ok (.if_icmp .ge 40, 3) := by decide +kernel
theorem dX12_commonest_46 : decode cX12_commonest 46 = .ok (.iload 4, 2) := by decide +kernel
theorem dX12_commonest_48 : decode cX12_commonest 48 = .ok (.aload_n 0, 1) := by decide +kernel
theorem dX12_commonest_49 : decode cX12_commonest 49 = .ok (.getfield 60, 3) := by decide +kernel
theorem dX12_commonest_52 : decode cX12_commonest 52 = .ok (.iload 5, 2) := by decide +kernel
theorem dX12_commonest_54 : decode cX12_commonest 54 = .ok (.iaload, 1) := by decide +kernel
theorem dX12_commonest_55 : decode cX12_commonest 55 = .ok (.ifCond .ne 18, 3) := by decide +kernel
theorem dX12_commonest_58 : decode cX12_commonest 58 = .ok (.aload_n 0, 1) := by decide +kernel
theorem dX12_commonest_59 : decode cX12_commonest 59 = .ok (.getfield 63, 3) := by decide +kernel
theorem dX12_commonest_62 : decode cX12_commonest 62 = .ok (.iload 5, 2) := by decide +kernel
theorem dX12_commonest_64 : decode cX12_commonest 64 = .ok (.iaload, 1) := by decide +kernel
theorem dX12_commonest_65 : decode cX12_commonest 65 = .ok (.iload_n 3, 1) := by decide +kernel
theorem dX12_commonest_66 : decode cX12_commonest 66 = .ok (.if_icmp .ne 7, 3) := by decide +kernel
theorem dX12_commonest_69 : decode cX12_commonest 69 = .ok (.iconst 1, 1) := by decide +kernel
theorem dX12_commonest_70 : decode cX12_commonest 70 = .ok (.goto 4, 3) := by decide +kernel
theorem dX12_commonest_73 : decode cX12_commonest 73 = .ok (.iconst 0, 1) := by decide +kernel
theorem dX12_commonest_74 : decode cX12_commonest 74 = .ok (.iadd, 1) := by decide +kernel
theorem dX12_commonest_75 : decode cX12_commonest 75 = .ok (.istore 4, 2) := by decide +kernel
theorem dX12_commonest_77 : decode cX12_commonest 77 = .ok (.iinc 5 1, 3) := by decide +kernel
theorem dX12_commonest_80 : decode cX12_commonest 80 = .ok (.goto (-56), 3) := by decide +kernel
theorem dX12_commonest_83 : decode cX12_commonest 83 = .ok (.iload 4, 2) := by decide +kernel
theorem dX12_commonest_85 : decode cX12_commonest 85 = .ok (.iload_n 2, 1) := by decide +kernel
theorem dX12_commonest_86 : decode cX12_commonest 86 = .ok (.if_icmp .gt 6, 3) := by decide +kernel
theorem dX12_commonest_89 : decode cX12_commonest 89 = .ok (.goto 8, 3) := by decide +kernel
theorem dX12_commonest_92 : decode cX12_commonest 92 = .ok (.iload_n 3, 1) := by decide +kernel
theorem dX12_commonest_93 : decode cX12_commonest 93 = .ok (.istore_n 1, 1) := by decide +kernel
theorem dX12_commonest_94 : decode cX12_commonest 94 = .ok (.iload 4, 2) := by decide +kernel
theorem dX12_commonest_96 : decode cX12_commonest 96 = .ok (.istore_n 2, 1) := by decide +kernel
theorem dX12_commonest_97 : decode cX12_commonest 97 = .ok (.iinc 3 1, 3) := by decide +kernel
theorem dX12_commonest_100 : decode cX12_commonest 100 = .ok (.goto (-94), 3) := by decide +kernel
theorem dX12_commonest_103 : decode cX12_commonest 103 = .ok (.iload_n 1, 1) := by decide +kernel
theorem dX12_commonest_104 : decode cX12_commonest 104 = .ok (.ireturn, 1) := by decide +kernel
theorem dX12_isShuffle_0 : decode cX12_isShuffle 0 = .ok (.iload_n 2, 1) := by decide +kernel
theorem dX12_isShuffle_1 : decode cX12_isShuffle 1 = .ok (.aload_n 0, 1) := by decide +kernel
theorem dX12_isShuffle_2 : decode cX12_isShuffle 2 = .ok (.iload_n 1, 1) := by decide +kernel
theorem dX12_isShuffle_3 : decode cX12_isShuffle 3 = .ok (.invokevirtual 546, 3) := by decide +kernel
theorem dX12_isShuffle_6 : decode cX12_isShuffle 6 = .ok (.if_icmp .ge 37, 3) := by decide +kernel
theorem dX12_isShuffle_9 : decode cX12_isShuffle 9 = .ok (.aload_n 0, 1) := by decide +kernel
theorem dX12_isShuffle_10 : decode cX12_isShuffle 10 = .ok (.getfield 60, 3) := by decide +kernel
theorem dX12_isShuffle_13 : decode cX12_isShuffle 13 = .ok (.aload_n 0, 1) := by decide +kernel
theorem dX12_isShuffle_14 : decode cX12_isShuffle 14 = .ok (.iload_n 1, 1) := by decide +kernel
theorem dX12_isShuffle_15 : decode cX12_isShuffle 15 = .ok (.iload_n 2, 1) := by decide +kernel
theorem dX12_isShuffle_16 : decode cX12_isShuffle 16 = .ok (.invokevirtual 519, 3) := by decide +kernel
theorem dX12_isShuffle_19 : decode cX12_isShuffle 19 = .ok (.iaload, 1) := by decide +kernel
theorem dX12_isShuffle_20 : decode cX12_isShuffle 20 = .ok (.ifCond .ne 23, 3) := by decide +kernel
theorem dX12_isShuffle_23 : decode cX12_isShuffle 23 = .ok (.aload_n 0, 1) := by decide +kernel
theorem dX12_isShuffle_24 : decode cX12_isShuffle 24 = .ok (.getfield 63, 3) := by decide +kernel
theorem dX12_isShuffle_27 : decode cX12_isShuffle 27 = .ok (.aload_n 0, 1) := by decide +kernel
theorem dX12_isShuffle_28 : decode cX12_isShuffle 28 = .ok (.iload_n 1, 1) := by decide +kernel
theorem dX12_isShuffle_29 : decode cX12_isShuffle 29 = .ok (.iload_n 2, 1) := by decide +kernel
theorem dX12_isShuffle_30 : decode cX12_isShuffle 30 = .ok (.invokevirtual 519, 3) := by decide +kernel
theorem dX12_isShuffle_33 : decode cX12_isShuffle 33 = .ok (.iaload, 1) := by decide +kernel
theorem dX12_isShuffle_34 : decode cX12_isShuffle 34 = .ok (.bipush 7, 2) := by decide +kernel
theorem dX12_isShuffle_36 : decode cX12_isShuffle 36 = .ok (.if_icmp .ge 7, 3) := by decide +kernel
theorem dX12_isShuffle_39 : decode cX12_isShuffle 39 = .ok (.iconst 1, 1) := by decide +kernel
theorem dX12_isShuffle_40 : decode cX12_isShuffle 40 = .ok (.goto 4, 3) := by decide +kernel
theorem dX12_isShuffle_43 : decode cX12_isShuffle 43 = .ok (.iconst 0, 1) := by decide +kernel
theorem dX12_isShuffle_44 : decode cX12_isShuffle 44 = .ok (.ireturn, 1) := by decide +kernel
theorem dX12_pure_0 : decode cX12_pure 0 = .ok (.iconst 0, 1) := by decide +kernel
theorem dX12_pure_1 : decode cX12_pure 1 = .ok (.istore_n 1, 1) := by decide +kernel
theorem dX12_pure_2 : decode cX12_pure 2 = .ok (.iconst 0, 1) := by decide +kernel
theorem dX12_pure_3 : decode cX12_pure 3 = .ok (.istore_n 2, 1) := by decide +kernel
theorem dX12_pure_4 : decode cX12_pure 4 = .ok (.iload_n 2, 1) := by decide +kernel
theorem dX12_pure_5 : decode cX12_pure 5 = .ok (.aload_n 0, 1) := by decide +kernel
theorem dX12_pure_6 : decode cX12_pure 6 = .ok (.invokevirtual 497, 3) := by decide +kernel
theorem dX12_pure_9 : decode cX12_pure 9 = .ok (.if_icmp .ge 41, 3) := by decide +kernel
theorem dX12_pure_12 : decode cX12_pure 12 = .ok (.iconst 0, 1) := by decide +kernel
theorem dX12_pure_13 : decode cX12_pure 13 = .ok (.istore_n 3, 1) := by decide +kernel
theorem dX12_pure_14 : decode cX12_pure 14 = .ok (.aload_n 0, 1) := by decide +kernel
theorem dX12_pure_15 : decode cX12_pure 15 = .ok (.iload_n 2, 1) := by decide +kernel
theorem dX12_pure_16 : decode cX12_pure 16 = .ok (.iload_n 3, 1) := by decide +kernel
theorem dX12_pure_17 : decode cX12_pure 17 = .ok (.invokevirtual 591, 3) := by decide +kernel
theorem dX12_pure_20 : decode cX12_pure 20 = .ok (.ifCond .eq 9, 3) := by decide +kernel
theorem dX12_pure_23 : decode cX12_pure 23 = .ok (.iinc 3 1, 3) := by decide +kernel
theorem dX12_pure_26 : decode cX12_pure 26 = .ok (.goto (-12), 3) := by decide +kernel
theorem dX12_pure_29 : decode cX12_pure 29 = .ok (.iload_n 3, 1) := by decide +kernel
theorem dX12_pure_30 : decode cX12_pure 30 = .ok (.aload_n 0, 1) := by decide +kernel
theorem dX12_pure_31 : decode cX12_pure 31 = .ok (.iload_n 2, 1) := by decide +kernel
theorem dX12_pure_32 : decode cX12_pure 32 = .ok (.invokevirtual 546, 3) := by decide +kernel
theorem dX12_pure_35 : decode cX12_pure 35 = .ok (.if_icmp .ne 9, 3) := by decide +kernel
theorem dX12_pure_38 : decode cX12_pure 38 = .ok (.iload_n 1, 1) := by decide +kernel
theorem dX12_pure_39 : decode cX12_pure 39 = .ok (.iconst 1, 1) := by decide +kernel
theorem dX12_pure_40 : decode cX12_pure 40 = .ok (.iload_n 2, 1) := by decide +kernel
theorem dX12_pure_41 : decode cX12_pure 41 = .ok (.ishl, 1) := by decide +kernel
theorem dX12_pure_42 : decode cX12_pure 42 = .ok (.ior, 1) := by decide +kernel
theorem dX12_pure_43 : decode cX12_pure 43 = .ok (.istore_n 1, 1) := by decide +kernel
theorem dX12_pure_44 : decode cX12_pure 44 = .ok (.iinc 2 1, 3) := by decide +kernel
theorem dX12_pure_47 : decode cX12_pure 47 = .ok (.goto (-43), 3) := by decide +kernel
theorem dX12_pure_50 : decode cX12_pure 50 = .ok (.iload_n 1, 1) := by decide +kernel
theorem dX12_pure_51 : decode cX12_pure 51 = .ok (.ireturn, 1) := by decide +kernel
theorem dX12_threeCells_0 : decode cX12_threeCells 0 = .ok (.aload_n 0, 1) := by decide +kernel
theorem dX12_threeCells_1 : decode cX12_threeCells 1 = .ok (.iconst 0, 1) := by decide +kernel
theorem dX12_threeCells_2 : decode cX12_threeCells 2 = .ok (.putfield 522, 3) := by decide +kernel
theorem dX12_threeCells_5 : decode cX12_threeCells 5 = .ok (.aload_n 0, 1) := by decide +kernel
theorem dX12_threeCells_6 : decode cX12_threeCells 6 = .ok (.iconst 0, 1) := by decide +kernel
theorem dX12_threeCells_7 : decode cX12_threeCells 7 = .ok (.putfield 528, 3) := by decide +kernel
theorem dX12_threeCells_10 : decode cX12_threeCells 10 = .ok (.aload_n 0, 1) := by decide +kernel
theorem dX12_threeCells_11 : decode cX12_threeCells 11 = .ok (.iload_n 1, 1) := by decide +kernel
theorem dX12_threeCells_12 : decode cX12_threeCells 12 = .ok (.invokevirtual 534, 3) := by decide +kernel
theorem dX12_threeCells_15 : decode cX12_threeCells 15 = .ok (.aload_n 0, 1) := by decide +kernel
theorem dX12_threeCells_16 : decode cX12_threeCells 16 = .ok (.iload_n 2, 1) := by decide +kernel
theorem dX12_threeCells_17 : decode cX12_threeCells 17 = .ok (.invokevirtual 534, 3) := by decide +kernel
theorem dX12_threeCells_20 : decode cX12_threeCells 20 = .ok (.aload_n 0, 1) := by decide +kernel
theorem dX12_threeCells_21 : decode cX12_threeCells 21 = .ok (.iload_n 3, 1) := by decide +kernel
theorem dX12_threeCells_22 : decode cX12_threeCells 22 = .ok (.invokevirtual 534, 3) := by decide +kernel
theorem dX12_threeCells_25 : decode cX12_threeCells 25 = .ok (.return_, 1) := by decide +kernel
theorem dX12_comes_0 : decode cX12_comes 0 = .ok (.aload_n 0, 1) := by decide +kernel
theorem dX12_comes_1 : decode cX12_comes 1 = .ok (.iload_n 1, 1) := by decide +kernel
theorem dX12_comes_2 : decode cX12_comes 2 = .ok (.invokevirtual 570, 3) := by decide +kernel
theorem dX12_comes_5 : decode cX12_comes 5 = .ok (.ifCond .eq 17, 3) := by decide +kernel
theorem dX12_comes_8 : decode cX12_comes 8 = .ok (.aload_n 0, 1) := by decide +kernel
theorem dX12_comes_9 : decode cX12_comes 9 = .ok (.iload_n 1, 1) := by decide +kernel
theorem dX12_comes_10 : decode cX12_comes 10 = .ok (.invokevirtual 504, 3) := by decide +kernel
theorem dX12_comes_13 : decode cX12_comes 13 = .ok (.iconst 3, 1) := by decide +kernel
theorem dX12_comes_14 : decode cX12_comes 14 = .ok (.if_icmp .gt 8, 3) := by decide +kernel
theorem dX12_comes_17 : decode cX12_comes 17 = .ok (.iload 5, 2) := by decide +kernel
theorem dX12_comes_19 : decode cX12_comes 19 = .ok (.ifCond .ge 5, 3) := by decide +kernel
theorem dX12_comes_22 : decode cX12_comes 22 = .ok (.iconst 0, 1) := by decide +kernel
theorem dX12_comes_23 : decode cX12_comes 23 = .ok (.ireturn, 1) := by decide +kernel
theorem dX12_comes_24 : decode cX12_comes 24 = .ok (.aload_n 0, 1) := by decide +kernel
theorem dX12_comes_25 : decode cX12_comes 25 = .ok (.iload_n 2, 1) := by decide +kernel
theorem dX12_comes_26 : decode cX12_comes 26 = .ok (.iload_n 3, 1) := by decide +kernel
theorem dX12_comes_27 : decode cX12_comes 27 = .ok (.iload 4, 2) := by decide +kernel
theorem dX12_comes_29 : decode cX12_comes 29 = .ok (.invokevirtual 594, 3) := by decide +kernel
theorem dX12_comes_32 : decode cX12_comes 32 = .ok (.aload_n 0, 1) := by decide +kernel
theorem dX12_comes_33 : decode cX12_comes 33 = .ok (.iload_n 1, 1) := by decide +kernel
theorem dX12_comes_34 : decode cX12_comes 34 = .ok (.invokevirtual 573, 3) := by decide +kernel
theorem dX12_comes_37 : decode cX12_comes 37 = .ok (.iload 5, 2) := by decide +kernel
theorem dX12_comes_39 : decode cX12_comes 39 = .ok (.aload_n 0, 1) := by decide +kernel
theorem dX12_comes_40 : decode cX12_comes 40 = .ok (.getfield 522, 3) := by decide +kernel
theorem dX12_comes_43 : decode cX12_comes 43 = .ok (.if_icmp .ge 20, 3) := by decide +kernel
theorem dX12_comes_46 : decode cX12_comes 46 = .ok (.aload_n 0, 1) := by decide +kernel
theorem dX12_comes_47 : decode cX12_comes 47 = .ok (.getfield 127, 3) := by decide +kernel
theorem dX12_comes_50 : decode cX12_comes 50 = .ok (.aload_n 0, 1) := by decide +kernel
theorem dX12_comes_51 : decode cX12_comes 51 = .ok (.getfield 522, 3) := by decide +kernel
theorem dX12_comes_54 : decode cX12_comes 54 = .ok (.iconst 1, 1) := by decide +kernel
theorem dX12_comes_55 : decode cX12_comes 55 = .ok (.isub, 1) := by decide +kernel
theorem dX12_comes_56 : decode cX12_comes 56 = .ok (.iload 5, 2) := by decide +kernel
theorem dX12_comes_58 : decode cX12_comes 58 = .ok (.isub, 1) := by decide +kernel
theorem dX12_comes_59 : decode cX12_comes 59 = .ok (.iaload, 1) := by decide +kernel
theorem dX12_comes_60 : decode cX12_comes 60 = .ok (.goto 4, 3) := by decide +kernel
theorem dX12_comes_63 : decode cX12_comes 63 = .ok (.iconst 0, 1) := by decide +kernel
theorem dX12_comes_64 : decode cX12_comes 64 = .ok (.ireturn, 1) := by decide +kernel
theorem dX12_runFor_0 : decode cX12_runFor 0 = .ok (.aload_n 0, 1) := by decide +kernel
theorem dX12_runFor_1 : decode cX12_runFor 1 = .ok (.iconst 0, 1) := by decide +kernel
theorem dX12_runFor_2 : decode cX12_runFor 2 = .ok (.putfield 522, 3) := by decide +kernel
theorem dX12_runFor_5 : decode cX12_runFor 5 = .ok (.aload_n 0, 1) := by decide +kernel
theorem dX12_runFor_6 : decode cX12_runFor 6 = .ok (.iconst 0, 1) := by decide +kernel
theorem dX12_runFor_7 : decode cX12_runFor 7 = .ok (.putfield 528, 3) := by decide +kernel
theorem dX12_runFor_10 : decode cX12_runFor 10 = .ok (.iload_n 3, 1) := by decide +kernel
theorem dX12_runFor_11 : decode cX12_runFor 11 = .ok (.iconst 1, 1) := by decide +kernel
theorem dX12_runFor_12 : decode cX12_runFor 12 = .ok (.isub, 1) := by decide +kernel
theorem dX12_runFor_13 : decode cX12_runFor 13 = .ok (.istore 4, 2) := by decide +kernel
theorem dX12_runFor_15 : decode cX12_runFor 15 = .ok (.iload 4, 2) := by decide +kernel
theorem dX12_runFor_17 : decode cX12_runFor 17 = .ok (.ifCond .lt 23, 3) := by decide +kernel
theorem dX12_runFor_20 : decode cX12_runFor 20 = .ok (.aload_n 0, 1) := by decide +kernel
theorem dX12_runFor_21 : decode cX12_runFor 21 = .ok (.iload_n 2, 1) := by decide +kernel
theorem dX12_runFor_22 : decode cX12_runFor 22 = .ok (.iconst 4, 1) := by decide +kernel
theorem dX12_runFor_23 : decode cX12_runFor 23 = .ok (.iload 4, 2) := by decide +kernel
theorem dX12_runFor_25 : decode cX12_runFor 25 = .ok (.invokestatic 598, 3) := by decide +kernel
theorem dX12_runFor_28 : decode cX12_runFor 28 = .ok (.idiv, 1) := by decide +kernel
theorem dX12_runFor_29 : decode cX12_runFor 29 = .ok (.iconst 4, 1) := by decide +kernel
theorem dX12_runFor_30 : decode cX12_runFor 30 = .ok (.irem, 1) := by decide +kernel
theorem dX12_runFor_31 : decode cX12_runFor 31 = .ok (.invokevirtual 534, 3) := by decide +kernel
theorem dX12_runFor_34 : decode cX12_runFor 34 = .ok (.iinc 4 (-1), 3) := by decide +kernel
theorem dX12_runFor_37 : decode cX12_runFor 37 = .ok (.goto (-22), 3) := by decide +kernel
theorem dX12_runFor_40 : decode cX12_runFor 40 = .ok (.aload_n 0, 1) := by decide +kernel
theorem dX12_runFor_41 : decode cX12_runFor 41 = .ok (.iload_n 1, 1) := by decide +kernel
theorem dX12_runFor_42 : decode cX12_runFor 42 = .ok (.invokevirtual 573, 3) := by decide +kernel
theorem dX12_runFor_45 : decode cX12_runFor 45 = .ok (.return_, 1) := by decide +kernel
theorem dX12_areLike_0 : decode cX12_areLike 0 = .ok (.aload_n 0, 1) := by decide +kernel
theorem dX12_areLike_1 : decode cX12_areLike 1 = .ok (.iload_n 1, 1) := by decide +kernel
theorem dX12_areLike_2 : decode cX12_areLike 2 = .ok (.invokevirtual 504, 3) := by decide +kernel
theorem dX12_areLike_5 : decode cX12_areLike 5 = .ok (.aload_n 0, 1) := by decide +kernel
theorem dX12_areLike_6 : decode cX12_areLike 6 = .ok (.iload_n 2, 1) := by decide +kernel
theorem dX12_areLike_7 : decode cX12_areLike 7 = .ok (.invokevirtual 504, 3) := by decide +kernel
theorem dX12_areLike_10 : decode cX12_areLike 10 = .ok (.if_icmp .ne 29, 3) := by decide +kernel
theorem dX12_areLike_13 : decode cX12_areLike 13 = .ok (.aload_n 0, 1) := by decide +kernel
theorem dX12_areLike_14 : decode cX12_areLike 14 = .ok (.iload_n 1, 1) := by decide +kernel
theorem dX12_areLike_15 : decode cX12_areLike 15 = .ok (.invokevirtual 504, 3) := by decide +kernel
theorem dX12_areLike_18 : decode cX12_areLike 18 = .ok (.iconst 3, 1) := by decide +kernel
theorem dX12_areLike_19 : decode cX12_areLike 19 = .ok (.if_icmp .gt 20, 3) := by decide +kernel
theorem dX12_areLike_22 : decode cX12_areLike 22 = .ok (.aload_n 0, 1) := by decide +kernel
theorem dX12_areLike_23 : decode cX12_areLike 23 = .ok (.iload_n 1, 1) := by decide +kernel
theorem dX12_areLike_24 : decode cX12_areLike 24 = .ok (.invokevirtual 579, 3) := by decide +kernel
theorem dX12_areLike_27 : decode cX12_areLike 27 = .ok (.aload_n 0, 1) := by decide +kernel
theorem dX12_areLike_28 : decode cX12_areLike 28 = .ok (.iload_n 2, 1) := by decide +kernel
theorem dX12_areLike_29 : decode cX12_areLike 29 = .ok (.invokevirtual 579, 3) := by decide +kernel
theorem dX12_areLike_32 : decode cX12_areLike 32 = .ok (.if_icmp .ne 7, 3) := by decide +kernel
theorem dX12_areLike_35 : decode cX12_areLike 35 = .ok (.iconst 1, 1) := by decide +kernel
theorem dX12_areLike_36 : decode cX12_areLike 36 = .ok (.goto 4, 3) := by decide +kernel
theorem dX12_areLike_39 : decode cX12_areLike 39 = .ok (.iconst 0, 1) := by decide +kernel
theorem dX12_areLike_40 : decode cX12_areLike 40 = .ok (.ireturn, 1) := by decide +kernel
theorem dX12_firstUnlike_0 : decode cX12_firstUnlike 0 = .ok (.aload_n 0, 1) := by decide +kernel
theorem dX12_firstUnlike_1 : decode cX12_firstUnlike 1 = .ok (.iload_n 1, 1) := by decide +kernel
theorem dX12_firstUnlike_2 : decode cX12_firstUnlike 2 = .ok (.invokevirtual 504, 3) := by decide +kernel
theorem dX12_firstUnlike_5 : decode cX12_firstUnlike 5 = .ok (.istore_n 3, 1) := by decide +kernel
theorem dX12_firstUnlike_6 : decode cX12_firstUnlike 6 = .ok (.iconst 0, 1) := by decide +kernel
theorem dX12_firstUnlike_7 : decode cX12_firstUnlike 7 = .ok (.istore 4, 2) := by decide +kernel
theorem dX12_firstUnlike_9 : decode cX12_firstUnlike 9 = .ok (.iload 4, 2) := by decide +kernel
theorem dX12_firstUnlike_11 : decode cX12_firstUnlike 11 = .ok (.iconst 4, 1) := by decide +kernel
theorem dX12_firstUnlike_12 : decode cX12_firstUnlike 12 = .ok (.iload_n 3, 1) := by decide +kernel
theorem dX12_firstUnlike_13 : decode cX12_firstUnlike 13 = .ok (.invokestatic 598, 3) := by decide +kernel
theorem dX12_firstUnlike_16 : decode cX12_firstUnlike 16 = .ok (.if_icmp .ge 97, 3) := by decide +kernel
theorem dX12_firstUnlike_19 : decode cX12_firstUnlike 19 = .ok (.aload_n 0, 1) := by decide +kernel
theorem dX12_firstUnlike_20 : decode cX12_firstUnlike 20 = .ok (.iload_n 1, 1) := by decide +kernel
theorem dX12_firstUnlike_21 : decode cX12_firstUnlike 21 = .ok (.iload 4, 2) := by decide +kernel
theorem dX12_firstUnlike_23 : decode cX12_firstUnlike 23 = .ok (.iload_n 3, 1) := by decide +kernel
theorem dX12_firstUnlike_24 : decode cX12_firstUnlike 24 = .ok (.invokevirtual 601, 3) := by decide +kernel
theorem dX12_firstUnlike_27 : decode cX12_firstUnlike 27 = .ok (.iconst 0, 1) := by decide +kernel
theorem dX12_firstUnlike_28 : decode cX12_firstUnlike 28 = .ok (.istore 5, 2) := by decide +kernel
theorem dX12_firstUnlike_30 : decode cX12_firstUnlike 30 = .ok (.iload 5, 2) := by decide +kernel
theorem dX12_firstUnlike_32 : decode cX12_firstUnlike 32 = .ok (.aload_n 0, 1) := by decide +kernel
theorem dX12_firstUnlike_33 : decode cX12_firstUnlike 33 = .ok (.iload_n 1, 1) := by decide +kernel
theorem dX12_firstUnlike_34 : decode cX12_firstUnlike 34 = .ok (.invokevirtual 579, 3) := by decide +kernel
theorem dX12_firstUnlike_37 : decode cX12_firstUnlike 37 = .ok (.if_icmp .ge 23, 3) := by decide +kernel
theorem dX12_firstUnlike_40 : decode cX12_firstUnlike 40 = .ok (.aload_n 0, 1) := by decide +kernel
theorem dX12_firstUnlike_41 : decode cX12_firstUnlike 41 = .ok (.getfield 151, 3) := by decide +kernel
theorem dX12_firstUnlike_44 : decode cX12_firstUnlike 44 = .ok (.iload 5, 2) := by decide +kernel
theorem dX12_firstUnlike_46 : decode cX12_firstUnlike 46 = .ok (.aload_n 0, 1) := by decide +kernel
theorem dX12_firstUnlike_47 : decode cX12_firstUnlike 47 = .ok (.getfield 127, 3) := by decide +kernel
theorem dX12_firstUnlike_50 : decode cX12_firstUnlike 50 = .ok (.iload 5, 2) := by decide +kernel
theorem dX12_firstUnlike_52 : decode cX12_firstUnlike 52 = .ok (.iaload, 1) := by decide +kernel
theorem dX12_firstUnlike_53 : decode cX12_firstUnlike 53 = .ok (.iastore, 1) := by decide +kernel
theorem dX12_firstUnlike_54 : decode cX12_firstUnlike 54 = .ok (.iinc 5 1, 3) := by decide +kernel
theorem dX12_firstUnlike_57 : decode cX12_firstUnlike 57 = .ok (.goto (-27), 3) := by decide +kernel
theorem dX12_firstUnlike_60 : decode cX12_firstUnlike 60 = .ok (.aload_n 0, 1) := by decide +kernel
theorem dX12_firstUnlike_61 : decode cX12_firstUnlike 61 = .ok (.iload_n 2, 1) := by decide +kernel
theorem dX12_firstUnlike_62 : decode cX12_firstUnlike 62 = .ok (.iload 4, 2) := by decide +kernel
theorem dX12_firstUnlike_64 : decode cX12_firstUnlike 64 = .ok (.iload_n 3, 1) := by decide +kernel
theorem dX12_firstUnlike_65 : decode cX12_firstUnlike 65 = .ok (.invokevirtual 601, 3) := by decide +kernel
theorem dX12_firstUnlike_68 : decode cX12_firstUnlike 68 = .ok (.iconst 0, 1) := by decide +kernel
theorem dX12_firstUnlike_69 : decode cX12_firstUnlike 69 = .ok (.istore 5, 2) := by decide +kernel
theorem dX12_firstUnlike_71 : decode cX12_firstUnlike 71 = .ok (.iload 5, 2) := by decide +kernel
theorem dX12_firstUnlike_73 : decode cX12_firstUnlike 73 = .ok (.aload_n 0, 1) := by decide +kernel
theorem dX12_firstUnlike_74 : decode cX12_firstUnlike 74 = .ok (.iload_n 1, 1) := by decide +kernel
theorem dX12_firstUnlike_75 : decode cX12_firstUnlike 75 = .ok (.invokevirtual 579, 3) := by decide +kernel
theorem dX12_firstUnlike_78 : decode cX12_firstUnlike 78 = .ok (.if_icmp .ge 29, 3) := by decide +kernel
theorem dX12_firstUnlike_81 : decode cX12_firstUnlike 81 = .ok (.aload_n 0, 1) := by decide +kernel
theorem dX12_firstUnlike_82 : decode cX12_firstUnlike 82 = .ok (.getfield 151, 3) := by decide +kernel
theorem dX12_firstUnlike_85 : decode cX12_firstUnlike 85 = .ok (.iload 5, 2) := by decide +kernel
theorem dX12_firstUnlike_87 : decode cX12_firstUnlike 87 = .ok (.iaload, 1) := by decide +kernel
theorem dX12_firstUnlike_88 : decode cX12_firstUnlike 88 = .ok (.aload_n 0, 1) := by decide +kernel
theorem dX12_firstUnlike_89 : decode cX12_firstUnlike 89 = .ok (.getfield 127, 3) := by decide +kernel
theorem dX12_firstUnlike_92 : decode cX12_firstUnlike 92 = .ok (.iload 5, 2) := by decide +kernel
theorem dX12_firstUnlike_94 : decode cX12_firstUnlike 94 = .ok (.iaload, 1) := by decide +kernel
theorem dX12_firstUnlike_95 : decode cX12_firstUnlike 95 = .ok (.if_icmp .eq 6, 3) := by decide +kernel
theorem dX12_firstUnlike_98 : decode cX12_firstUnlike 98 = .ok (.iload 4, 2) := by decide +kernel
theorem dX12_firstUnlike_100 : decode cX12_firstUnlike 100 = .ok (.ireturn, 1) := by decide +kernel
theorem dX12_firstUnlike_101 : decode cX12_firstUnlike 101 = .ok (.iinc 5 1, 3) := by decide +kernel
theorem dX12_firstUnlike_104 : decode cX12_firstUnlike 104 = .ok (.goto (-33), 3) := by decide +kernel
theorem dX12_firstUnlike_107 : decode cX12_firstUnlike 107 = .ok (.iinc 4 1, 3) := by decide +kernel
theorem dX12_firstUnlike_110 : decode cX12_firstUnlike 110 = .ok (.goto (-101), 3) := by decide +kernel
theorem dX12_firstUnlike_113 : decode cX12_firstUnlike 113 = .ok (.iconst (-1), 1) := by decide +kernel
theorem dX12_firstUnlike_114 : decode cX12_firstUnlike 114 = .ok (.ireturn, 1) := by decide +kernel
theorem dX12_alike_0 : decode cX12_alike 0 = .ok (.aload_n 0, 1) := by decide +kernel
theorem dX12_alike_1 : decode cX12_alike 1 = .ok (.iload_n 1, 1) := by decide +kernel
theorem dX12_alike_2 : decode cX12_alike 2 = .ok (.invokevirtual 570, 3) := by decide +kernel
theorem dX12_alike_5 : decode cX12_alike 5 = .ok (.ifCond .eq 11, 3) := by decide +kernel
theorem dX12_alike_8 : decode cX12_alike 8 = .ok (.aload_n 0, 1) := by decide +kernel
theorem dX12_alike_9 : decode cX12_alike 9 = .ok (.iload_n 2, 1) := by decide +kernel
theorem dX12_alike_10 : decode cX12_alike 10 = .ok (.invokevirtual 570, 3) := by decide +kernel
theorem dX12_alike_13 : decode cX12_alike 13 = .ok (.ifCond .ne 7, 3) := by decide +kernel
theorem dX12_alike_16 : decode cX12_alike 16 = .ok (.iconst (-1), 1) := by decide +kernel
theorem dX12_alike_17 : decode cX12_alike 17 = .ok (.goto 26, 3) := by decide +kernel
theorem dX12_alike_20 : decode cX12_alike 20 = .ok (.aload_n 0, 1) := by decide +kernel
theorem dX12_alike_21 : decode cX12_alike 21 = .ok (.iload_n 1, 1) := by decide +kernel
theorem dX12_alike_22 : decode cX12_alike 22 = .ok (.iload_n 2, 1) := by decide +kernel
theorem dX12_alike_23 : decode cX12_alike 23 = .ok (.invokevirtual 604, 3) := by decide +kernel
theorem dX12_alike_26 : decode cX12_alike 26 = .ok (.ifCond .eq 16, 3) := by decide +kernel
theorem dX12_alike_29 : decode cX12_alike 29 = .ok (.aload_n 0, 1) := by decide +kernel
theorem dX12_alike_30 : decode cX12_alike 30 = .ok (.iload_n 1, 1) := by decide +kernel
theorem dX12_alike_31 : decode cX12_alike 31 = .ok (.iload_n 2, 1) := by decide +kernel
theorem dX12_alike_32 : decode cX12_alike 32 = .ok (.invokevirtual 607, 3) := by decide +kernel
theorem dX12_alike_35 : decode cX12_alike 35 = .ok (.ifCond .ge 7, 3) := by decide +kernel
theorem dX12_alike_38 : decode cX12_alike 38 = .ok (.iconst 1, 1) := by decide +kernel
theorem dX12_alike_39 : decode cX12_alike 39 = .ok (.goto 4, 3) := by decide +kernel
theorem dX12_alike_42 : decode cX12_alike 42 = .ok (.iconst 0, 1) := by decide +kernel
theorem dX12_alike_43 : decode cX12_alike 43 = .ok (.ireturn, 1) := by decide +kernel
theorem dX12_differs_0 : decode cX12_differs 0 = .ok (.aload_n 0, 1) := by decide +kernel
theorem dX12_differs_1 : decode cX12_differs 1 = .ok (.iload_n 1, 1) := by decide +kernel
theorem dX12_differs_2 : decode cX12_differs 2 = .ok (.invokevirtual 570, 3) := by decide +kernel
theorem dX12_differs_5 : decode cX12_differs 5 = .ok (.ifCond .eq 20, 3) := by decide +kernel
theorem dX12_differs_8 : decode cX12_differs 8 = .ok (.aload_n 0, 1) := by decide +kernel
theorem dX12_differs_9 : decode cX12_differs 9 = .ok (.iload_n 2, 1) := by decide +kernel
theorem dX12_differs_10 : decode cX12_differs 10 = .ok (.invokevirtual 570, 3) := by decide +kernel
theorem dX12_differs_13 : decode cX12_differs 13 = .ok (.ifCond .eq 12, 3) := by decide +kernel
theorem dX12_differs_16 : decode cX12_differs 16 = .ok (.aload_n 0, 1) := by decide +kernel
theorem dX12_differs_17 : decode cX12_differs 17 = .ok (.iload_n 1, 1) := by decide +kernel
theorem dX12_differs_18 : decode cX12_differs 18 = .ok (.iload_n 2, 1) := by decide +kernel
theorem dX12_differs_19 : decode cX12_differs 19 = .ok (.invokevirtual 604, 3) := by decide +kernel
theorem dX12_differs_22 : decode cX12_differs 22 = .ok (.ifCond .ne 5, 3) := by decide +kernel
theorem dX12_differs_25 : decode cX12_differs 25 = .ok (.iconst (-1), 1) := by decide +kernel
theorem dX12_differs_26 : decode cX12_differs 26 = .ok (.ireturn, 1) := by decide +kernel
theorem dX12_differs_27 : decode cX12_differs 27 = .ok (.aload_n 0, 1) := by decide +kernel
theorem dX12_differs_28 : decode cX12_differs 28 = .ok (.iload_n 1, 1) := by decide +kernel
theorem dX12_differs_29 : decode cX12_differs 29 = .ok (.iload_n 2, 1) := by decide +kernel
theorem dX12_differs_30 : decode cX12_differs 30 = .ok (.invokevirtual 607, 3) := by decide +kernel
theorem dX12_differs_33 : decode cX12_differs 33 = .ok (.istore_n 3, 1) := by decide +kernel
theorem dX12_differs_34 : decode cX12_differs 34 = .ok (.iload_n 3, 1) := by decide +kernel
theorem dX12_differs_35 : decode cX12_differs 35 = .ok (.ifCond .ge 7, 3) := by decide +kernel
theorem dX12_differs_38 : decode cX12_differs 38 = .ok (.iconst (-1), 1) := by decide +kernel
theorem dX12_differs_39 : decode cX12_differs 39 = .ok (.goto 23, 3) := by decide +kernel
theorem dX12_differs_42 : decode cX12_differs 42 = .ok (.iload_n 3, 1) := by decide +kernel
theorem dX12_differs_43 : decode cX12_differs 43 = .ok (.bipush 16, 2) := by decide +kernel
theorem dX12_differs_45 : decode cX12_differs 45 = .ok (.idiv, 1) := by decide +kernel
theorem dX12_differs_46 : decode cX12_differs 46 = .ok (.bipush 100, 2) := by decide +kernel
theorem dX12_differs_48 : decode cX12_differs 48 = .ok (.imul, 1) := by decide +kernel
theorem dX12_differs_49 : decode cX12_differs 49 = .ok (.iload_n 3, 1) := by decide +kernel
theorem dX12_differs_50 : decode cX12_differs 50 = .ok (.iconst 4, 1) := by decide +kernel
theorem dX12_differs_51 : decode cX12_differs 51 = .ok (.idiv, 1) := by decide +kernel
theorem dX12_differs_52 : decode cX12_differs 52 = .ok (.iconst 4, 1) := by decide +kernel
theorem dX12_differs_53 : decode cX12_differs 53 = .ok (.irem, 1) := by decide +kernel
theorem dX12_differs_54 : decode cX12_differs 54 = .ok (.bipush 10, 2) := by decide +kernel
theorem dX12_differs_56 : decode cX12_differs 56 = .ok (.imul, 1) := by decide +kernel
theorem dX12_differs_57 : decode cX12_differs 57 = .ok (.iadd, 1) := by decide +kernel
theorem dX12_differs_58 : decode cX12_differs 58 = .ok (.iload_n 3, 1) := by decide +kernel
theorem dX12_differs_59 : decode cX12_differs 59 = .ok (.iconst 4, 1) := by decide +kernel
theorem dX12_differs_60 : decode cX12_differs 60 = .ok (.irem, 1) := by decide +kernel
theorem dX12_differs_61 : decode cX12_differs 61 = .ok (.iadd, 1) := by decide +kernel
theorem dX12_differs_62 : decode cX12_differs 62 = .ok (.ireturn, 1) := by decide +kernel
theorem dX12_digitsOf_0 : decode cX12_digitsOf 0 = .ok (.iconst 0, 1) := by decide +kernel
theorem dX12_digitsOf_1 : decode cX12_digitsOf 1 = .ok (.istore_n 1, 1) := by decide +kernel
theorem dX12_digitsOf_2 : decode cX12_digitsOf 2 = .ok (.iload_n 0, 1) := by decide +kernel
theorem dX12_digitsOf_3 : decode cX12_digitsOf 3 = .ok (.istore_n 2, 1) := by decide +kernel
theorem dX12_digitsOf_4 : decode cX12_digitsOf 4 = .ok (.iload_n 2, 1) := by decide +kernel
theorem dX12_digitsOf_5 : decode cX12_digitsOf 5 = .ok (.ifCond .le 14, 3) := by decide +kernel
theorem dX12_digitsOf_8 : decode cX12_digitsOf 8 = .ok (.iinc 1 1, 3) := by decide +kernel
theorem dX12_digitsOf_11 : decode cX12_digitsOf 11 = .ok (.iload_n 2, 1) := by decide +kernel
theorem dX12_digitsOf_12 : decode cX12_digitsOf 12 = .ok (.bipush 10, 2) := by decide +kernel
theorem dX12_digitsOf_14 : decode cX12_digitsOf 14 = .ok (.idiv, 1) := by decide +kernel
theorem dX12_digitsOf_15 : decode cX12_digitsOf 15 = .ok (.istore_n 2, 1) := by decide +kernel
theorem dX12_digitsOf_16 : decode cX12_digitsOf 16 = .ok (.goto (-12), 3) := by decide +kernel
theorem dX12_digitsOf_19 : decode cX12_digitsOf 19 = .ok (.iload_n 1, 1) := by decide +kernel
theorem dX12_digitsOf_20 : decode cX12_digitsOf 20 = .ok (.ireturn, 1) := by decide +kernel
theorem dX12_shuffledBy_0 : decode cX12_shuffledBy 0 = .ok (.iload_n 1, 1) := by decide +kernel
theorem dX12_shuffledBy_1 : decode cX12_shuffledBy 1 = .ok (.invokestatic 610, 3) := by decide +kernel
theorem dX12_shuffledBy_4 : decode cX12_shuffledBy 4 = .ok (.istore_n 3, 1) := by decide +kernel
theorem dX12_shuffledBy_5 : decode cX12_shuffledBy 5 = .ok (.iload_n 3, 1) := by decide +kernel
theorem dX12_shuffledBy_6 : decode cX12_shuffledBy 6 = .ok (.iload_n 2, 1) := by decide +kernel
theorem dX12_shuffledBy_7 : decode cX12_shuffledBy 7 = .ok (.invokestatic 443, 3) := by decide +kernel
theorem dX12_shuffledBy_10 : decode cX12_shuffledBy 10 = .ok (.if_icmp .lt 18, 3) := by decide +kernel
theorem dX12_shuffledBy_13 : decode cX12_shuffledBy 13 = .ok (.iload_n 3, 1) := by decide +kernel
theorem dX12_shuffledBy_14 : decode cX12_shuffledBy 14 = .ok (.iload_n 2, 1) := by decide +kernel
theorem dX12_shuffledBy_15 : decode cX12_shuffledBy 15 = .ok (.invokestatic 443, 3) := by decide +kernel
theorem dX12_shuffledBy_18 : decode cX12_shuffledBy 18 = .ok (.isub, 1) := by decide +kernel
theorem dX12_shuffledBy_19 : decode cX12_shuffledBy 19 = .ok (.iload_n 2, 1) := by decide +kernel
theorem dX12_shuffledBy_20 : decode cX12_shuffledBy 20 = .ok (.invokestatic 446, 3) := by decide +kernel
theorem dX12_shuffledBy_23 : decode cX12_shuffledBy 23 = .ok (.iadd, 1) := by decide +kernel
theorem dX12_shuffledBy_24 : decode cX12_shuffledBy 24 = .ok (.iconst 5, 1) := by decide +kernel
theorem dX12_shuffledBy_25 : decode cX12_shuffledBy 25 = .ok (.if_icmp .le 5, 3) := by decide +kernel
theorem dX12_shuffledBy_28 : decode cX12_shuffledBy 28 = .ok (.iconst (-1), 1) := by decide +kernel
theorem dX12_shuffledBy_29 : decode cX12_shuffledBy 29 = .ok (.ireturn, 1) := by decide +kernel
theorem dX12_shuffledBy_30 : decode cX12_shuffledBy 30 = .ok (.aload_n 0, 1) := by decide +kernel
theorem dX12_shuffledBy_31 : decode cX12_shuffledBy 31 = .ok (.iconst 0, 1) := by decide +kernel
theorem dX12_shuffledBy_32 : decode cX12_shuffledBy 32 = .ok (.putfield 522, 3) := by decide +kernel
theorem dX12_shuffledBy_35 : decode cX12_shuffledBy 35 = .ok (.iload_n 3, 1) := by decide +kernel
theorem dX12_shuffledBy_36 : decode cX12_shuffledBy 36 = .ok (.iconst 1, 1) := by decide +kernel
theorem dX12_shuffledBy_37 : decode cX12_shuffledBy 37 = .ok (.isub, 1) := by decide +kernel
theorem dX12_shuffledBy_38 : decode cX12_shuffledBy 38 = .ok (.istore 4, 2) := by decide +kernel
theorem dX12_shuffledBy_40 : decode cX12_shuffledBy 40 = .ok (.iload 4, 2) := by decide +kernel
theorem dX12_shuffledBy_42 : decode cX12_shuffledBy 42 = .ok (.ifCond .lt 25, 3) := by decide +kernel
theorem dX12_shuffledBy_45 : decode cX12_shuffledBy 45 = .ok (.aload_n 0, 1) := by decide +kernel
theorem dX12_shuffledBy_46 : decode cX12_shuffledBy 46 = .ok (.iload_n 1, 1) := by decide +kernel
theorem dX12_shuffledBy_47 : decode cX12_shuffledBy 47 = .ok (.bipush 10, 2) := by decide +kernel
theorem dX12_shuffledBy_49 : decode cX12_shuffledBy 49 = .ok (.iload 4, 2) := by decide +kernel
theorem dX12_shuffledBy_51 : decode cX12_shuffledBy 51 = .ok (.invokestatic 598, 3) := by decide +kernel
theorem dX12_shuffledBy_54 : decode cX12_shuffledBy 54 = .ok (.idiv, 1) := by decide +kernel
theorem dX12_shuffledBy_55 : decode cX12_shuffledBy 55 = .ok (.bipush 10, 2) := by decide +kernel
theorem dX12_shuffledBy_57 : decode cX12_shuffledBy 57 = .ok (.irem, 1) := by decide +kernel
theorem dX12_shuffledBy_58 : decode cX12_shuffledBy 58 = .ok (.invokevirtual 534, 3) := by decide +kernel
theorem dX12_shuffledBy_61 : decode cX12_shuffledBy 61 = .ok (.iinc 4 (-1), 3) := by decide +kernel
theorem dX12_shuffledBy_64 : decode cX12_shuffledBy 64 = .ok (.goto (-24), 3) := by decide +kernel
theorem dX12_shuffledBy_67 : decode cX12_shuffledBy 67 = .ok (.aload_n 0, 1) := by decide +kernel
theorem dX12_shuffledBy_68 : decode cX12_shuffledBy 68 = .ok (.iload_n 2, 1) := by decide +kernel
theorem dX12_shuffledBy_69 : decode cX12_shuffledBy 69 = .ok (.invokevirtual 525, 3) := by decide +kernel
theorem dX12_shuffledBy_72 : decode cX12_shuffledBy 72 = .ok (.iconst 0, 1) := by decide +kernel
theorem dX12_shuffledBy_73 : decode cX12_shuffledBy 73 = .ok (.istore 4, 2) := by decide +kernel
theorem dX12_shuffledBy_75 : decode cX12_shuffledBy 75 = .ok (.iconst 0, 1) := by decide +kernel
theorem dX12_shuffledBy_76 : decode cX12_shuffledBy 76 = .ok (.istore 5, 2) := by decide +kernel
theorem dX12_shuffledBy_78 : decode cX12_shuffledBy 78 = .ok (.iload 5, 2) := by decide +kernel
theorem dX12_shuffledBy_80 : decode cX12_shuffledBy 80 = .ok (.aload_n 0, 1) := by decide +kernel
theorem dX12_shuffledBy_81 : decode cX12_shuffledBy 81 = .ok (.getfield 522, 3) := by decide +kernel
theorem dX12_shuffledBy_84 : decode cX12_shuffledBy 84 = .ok (.if_icmp .ge 24, 3) := by decide +kernel
theorem dX12_shuffledBy_87 : decode cX12_shuffledBy 87 = .ok (.bipush 10, 2) := by decide +kernel
theorem dX12_shuffledBy_89 : decode cX12_shuffledBy 89 = .ok (.iload 4, 2) := by decide +kernel
theorem dX12_shuffledBy_91 : decode cX12_shuffledBy 91 = .ok (.imul, 1) := by decide +kernel
theorem dX12_shuffledBy_92 : decode cX12_shuffledBy 92 = .ok (.aload_n 0, 1) := by decide +kernel
theorem dX12_shuffledBy_93 : decode cX12_shuffledBy 93 = .ok (.getfield 127, 3) := by decide +kernel
theorem dX12_shuffledBy_96 : decode cX12_shuffledBy 96 = .ok (.iload 5, 2) := by decide +kernel
theorem dX12_shuffledBy_98 : decode cX12_shuffledBy 98 = .ok (.iaload, 1) := by decide +kernel
theorem dX12_shuffledBy_99 : decode cX12_shuffledBy 99 = .ok (.iadd, 1) := by decide +kernel
theorem dX12_shuffledBy_100 : decode cX12_shuffledBy 100 = .ok (.istore 4, 2) := by decide +kernel
theorem dX12_shuffledBy_102 : decode cX12_shuffledBy 102 = .ok (.iinc 5 1, 3) := by decide +kernel
theorem dX12_shuffledBy_105 : decode cX12_shuffledBy 105 = .ok (.goto (-27), 3) := by decide +kernel
theorem dX12_shuffledBy_108 : decode cX12_shuffledBy 108 = .ok (.iload 4, 2) := by decide +kernel
theorem dX12_shuffledBy_110 : decode cX12_shuffledBy 110 = .ok (.ireturn, 1) := by decide +kernel
theorem dX12_indexOf_0 : decode cX12_indexOf 0 = .ok (.iconst 0, 1) := by decide +kernel
theorem dX12_indexOf_1 : decode cX12_indexOf 1 = .ok (.istore_n 2, 1) := by decide +kernel
theorem dX12_indexOf_2 : decode cX12_indexOf 2 = .ok (.iload_n 2, 1) := by decide +kernel
theorem dX12_indexOf_3 : decode cX12_indexOf 3 = .ok (.aload_n 0, 1) := by decide +kernel
theorem dX12_indexOf_4 : decode cX12_indexOf 4 = .ok (.getfield 613, 3) := by decide +kernel
theorem dX12_indexOf_7 : decode cX12_indexOf 7 = .ok (.if_icmp .ge 21, 3) := by decide +kernel
theorem dX12_indexOf_10 : decode cX12_indexOf 10 = .ok (.aload_n 0, 1) := by decide +kernel
theorem dX12_indexOf_11 : decode cX12_indexOf 11 = .ok (.getfield 154, 3) := by decide +kernel
theorem dX12_indexOf_14 : decode cX12_indexOf 14 = .ok (.iload_n 2, 1) := by decide +kernel
theorem dX12_indexOf_15 : decode cX12_indexOf 15 = .ok (.iaload, 1) := by decide +kernel
theorem dX12_indexOf_16 : decode cX12_indexOf 16 = .ok (.iload_n 1, 1) := by decide +kernel
theorem dX12_indexOf_17 : decode cX12_indexOf 17 = .ok (.if_icmp .ne 5, 3) := by decide +kernel
theorem dX12_indexOf_20 : decode cX12_indexOf 20 = .ok (.iload_n 2, 1) := by decide +kernel
theorem dX12_indexOf_21 : decode cX12_indexOf 21 = .ok (.ireturn, 1) := by decide +kernel
theorem dX12_indexOf_22 : decode cX12_indexOf 22 = .ok (.iinc 2 1, 3) := by decide +kernel
theorem dX12_indexOf_25 : decode cX12_indexOf 25 = .ok (.goto (-23), 3) := by decide +kernel
theorem dX12_indexOf_28 : decode cX12_indexOf 28 = .ok (.iconst (-1), 1) := by decide +kernel
theorem dX12_indexOf_29 : decode cX12_indexOf 29 = .ok (.ireturn, 1) := by decide +kernel
theorem dX12_spreadFrom_0 : decode cX12_spreadFrom 0 = .ok (.aload_n 0, 1) := by decide +kernel
theorem dX12_spreadFrom_1 : decode cX12_spreadFrom 1 = .ok (.getfield 154, 3) := by decide +kernel
theorem dX12_spreadFrom_4 : decode cX12_spreadFrom 4 = .ok (.iconst 0, 1) := by decide +kernel
theorem dX12_spreadFrom_5 : decode cX12_spreadFrom 5 = .ok (.iload_n 1, 1) := by decide +kernel
theorem dX12_spreadFrom_6 : decode cX12_spreadFrom 6 = .ok (.iastore, 1) := by decide +kernel
theorem dX12_spreadFrom_7 : decode cX12_spreadFrom 7 = .ok (.aload_n 0, 1) := by decide +kernel
theorem dX12_spreadFrom_8 : decode cX12_spreadFrom 8 = .ok (.iconst 1, 1) := by decide +kernel
theorem dX12_spreadFrom_9 : decode cX12_spreadFrom 9 = .ok (.putfield 613, 3) := by decide +kernel
theorem dX12_spreadFrom_12 : decode cX12_spreadFrom 12 = .ok (.iconst 0, 1) := by decide +kernel
theorem dX12_spreadFrom_13 : decode cX12_spreadFrom 13 = .ok (.istore_n 2, 1) := by decide +kernel
theorem dX12_spreadFrom_14 : decode cX12_spreadFrom 14 = .ok (.iload_n 2, 1) := by decide +kernel
theorem dX12_spreadFrom_15 : decode cX12_spreadFrom 15 = .ok (.aload_n 0, 1) := by decide +kernel
theorem dX12_spreadFrom_16 : decode cX12_spreadFrom 16 = .ok (.getfield 613, 3) := by decide +kernel
theorem dX12_spreadFrom_19 : decode cX12_spreadFrom 19 = .ok (.if_icmp .ge 101, 3) := by decide +kernel
theorem dX12_spreadFrom_22 : decode cX12_spreadFrom 22 = .ok (.iconst 0, 1) := by decide +kernel
theorem dX12_spreadFrom_23 : decode cX12_spreadFrom 23 = .ok (.istore_n 3, 1) := by decide +kernel
theorem dX12_spreadFrom_24 : decode cX12_spreadFrom 24 = .ok (.iload_n 3, 1) := by decide +kernel
theorem dX12_spreadFrom_25 : decode cX12_spreadFrom 25 = .ok (.bipush 7, 2) := by decide +kernel
theorem dX12_spreadFrom_27 : decode cX12_spreadFrom 27 = .ok (.if_icmp .ge 87, 3) := by decide +kernel
theorem dX12_spreadFrom_30 : decode cX12_spreadFrom 30 = .ok (.aload_n 0, 1) := by decide +kernel
theorem dX12_spreadFrom_31 : decode cX12_spreadFrom 31 = .ok (.aload_n 0, 1) := by decide +kernel
theorem dX12_spreadFrom_32 : decode cX12_spreadFrom 32 = .ok (.getfield 154, 3) := by decide +kernel
theorem dX12_spreadFrom_35 : decode cX12_spreadFrom 35 = .ok (.iload_n 2, 1) := by decide +kernel
theorem dX12_spreadFrom_36 : decode cX12_spreadFrom 36 = .ok (.iaload, 1) := by decide +kernel
theorem dX12_spreadFrom_37 : decode cX12_spreadFrom 37 = .ok (.iload_n 3, 1) := by decide +kernel
theorem dX12_spreadFrom_38 : decode cX12_spreadFrom 38 = .ok (.invokevirtual 616, 3) := by decide +kernel
theorem dX12_spreadFrom_41 : decode cX12_spreadFrom 41 = .ok (.istore 4, 2) := by decide +kernel
theorem dX12_spreadFrom_43 : decode cX12_spreadFrom 43 = .ok (.iload 4, 2) := by decide +kernel
theorem dX12_spreadFrom_45 : decode cX12_spreadFrom 45 = .ok (.ifCond .ge 7, 3) := by decide +kernel
theorem dX12_spreadFrom_48 : decode cX12_spreadFrom 48 = .ok (.iconst (-1), 1) := by decide +kernel
theorem dX12_spreadFrom_49 : decode cX12_spreadFrom 49 = .ok (.goto 9, 3) := by decide +kernel
theorem dX12_spreadFrom_52 : decode cX12_spreadFrom 52 = .ok (.aload_n 0, 1) := by decide +kernel
theorem dX12_spreadFrom_53 : decode cX12_spreadFrom 53 = .ok (.iload 4, 2) := by decide +kernel
theorem dX12_spreadFrom_55 : decode cX12_spreadFrom 55 = .ok (.invokevirtual 619, 3) := by decide +kernel
theorem dX12_spreadFrom_58 : decode cX12_spreadFrom 58 = .ok (.istore 5, 2) := by decide +kernel
theorem dX12_spreadFrom_60 : decode cX12_spreadFrom 60 = .ok (.iload 4, 2) := by decide +kernel
theorem dX12_spreadFrom_62 : decode cX12_spreadFrom 62 = .ok (.ifCond .lt 33, 3) := by decide +kernel
theorem dX12_spreadFrom_65 : decode cX12_spreadFrom 65 = .ok (.iload 5, 2) := by decide +kernel
theorem dX12_spreadFrom_67 : decode cX12_spreadFrom 67 = .ok (.ifCond .ge 28, 3) := by decide +kernel
theorem dX12_spreadFrom_70 : decode cX12_spreadFrom 70 = .ok (.aload_n 0, 1) := by decide +kernel
theorem dX12_spreadFrom_71 : decode cX12_spreadFrom 71 = .ok (.getfield 613, 3) := by decide +kernel
theorem dX12_spreadFrom_74 : decode cX12_spreadFrom 74 = .ok (.istore 5, 2) := by decide +kernel
theorem dX12_spreadFrom_76 : decode cX12_spreadFrom 76 = .ok (.aload_n 0, 1) := by decide +kernel
theorem dX12_spreadFrom_77 : decode cX12_spreadFrom 77 = .ok (.getfield 154, 3) := by decide +kernel
theorem dX12_spreadFrom_80 : decode cX12_spreadFrom 80 = .ok (.iload 5, 2) := by decide +kernel
theorem dX12_spreadFrom_82 : decode cX12_spreadFrom 82 = .ok (.iload 4, 2) := by decide +kernel
theorem dX12_spreadFrom_84 : decode cX12_spreadFrom 84 = .ok (.iastore, 1) := by decide +kernel
theorem dX12_spreadFrom_85 : decode cX12_spreadFrom 85 = .ok (.aload_n 0, 1) := by decide +kernel
theorem dX12_spreadFrom_86 : decode cX12_spreadFrom 86 = .ok (.dup, 1) := by decide +kernel
theorem dX12_spreadFrom_87 : decode cX12_spreadFrom 87 = .ok (.getfield 613, 3) := by decide +kernel
theorem dX12_spreadFrom_90 : decode cX12_spreadFrom 90 = .ok (.iconst 1, 1) := by decide +kernel
theorem dX12_spreadFrom_91 : decode cX12_spreadFrom 91 = .ok (.iadd, 1) := by decide +kernel
theorem dX12_spreadFrom_92 : decode cX12_spreadFrom 92 = .ok (.putfield 613, 3) := by decide +kernel
theorem dX12_spreadFrom_95 : decode cX12_spreadFrom 95 = .ok (.aload_n 0, 1) := by decide +kernel
theorem dX12_spreadFrom_96 : decode cX12_spreadFrom 96 = .ok (.getfield 160, 3) := by decide +kernel
theorem dX12_spreadFrom_99 : decode cX12_spreadFrom 99 = .ok (.bipush 7, 2) := by decide +kernel
theorem dX12_spreadFrom_101 : decode cX12_spreadFrom 101 = .ok (.iload_n 2, 1) := by decide +kernel
theorem dX12_spreadFrom_102 : decode cX12_spreadFrom 102 = .ok (.imul, 1) := by decide +kernel
theorem dX12_spreadFrom_103 : decode cX12_spreadFrom 103 = .ok (.iload_n 3, 1) := by decide +kernel
theorem dX12_spreadFrom_104 : decode cX12_spreadFrom 104 = .ok (.iadd, 1) := by decide +kernel
theorem dX12_spreadFrom_105 : decode cX12_spreadFrom 105 = .ok (.iload 5, 2) := by decide +kernel
theorem dX12_spreadFrom_107 : decode cX12_spreadFrom 107 = .ok (.iastore, 1) := by decide +kernel
theorem dX12_spreadFrom_108 : decode cX12_spreadFrom 108 = .ok (.iinc 3 1, 3) := by decide +kernel
theorem dX12_spreadFrom_111 : decode cX12_spreadFrom 111 = .ok (.goto (-87), 3) := by decide +kernel
theorem dX12_spreadFrom_114 : decode cX12_spreadFrom 114 = .ok (.iinc 2 1, 3) := by decide +kernel
theorem dX12_spreadFrom_117 : decode cX12_spreadFrom 117 = .ok (.goto (-103), 3) := by decide +kernel
theorem dX12_spreadFrom_120 : decode cX12_spreadFrom 120 = .ok (.return_, 1) := by decide +kernel
theorem dX12_spreadTo_0 : decode cX12_spreadTo 0 = .ok (.aload_n 0, 1) := by decide +kernel
theorem dX12_spreadTo_1 : decode cX12_spreadTo 1 = .ok (.iload_n 1, 1) := by decide +kernel
theorem dX12_spreadTo_2 : decode cX12_spreadTo 2 = .ok (.invokevirtual 619, 3) := by decide +kernel
theorem dX12_spreadTo_5 : decode cX12_spreadTo 5 = .ok (.istore_n 2, 1) := by decide +kernel
theorem dX12_spreadTo_6 : decode cX12_spreadTo 6 = .ok (.iconst 0, 1) := by decide +kernel
theorem dX12_spreadTo_7 : decode cX12_spreadTo 7 = .ok (.istore_n 3, 1) := by decide +kernel
theorem dX12_spreadTo_8 : decode cX12_spreadTo 8 = .ok (.iload_n 3, 1) := by decide +kernel
theorem dX12_spreadTo_9 : decode cX12_spreadTo 9 = .ok (.aload_n 0, 1) := by decide +kernel
theorem dX12_spreadTo_10 : decode cX12_spreadTo 10 = .ok (.getfield 613, 3) := by decide +kernel
theorem dX12_spreadTo_13 : decode cX12_spreadTo 13 = .ok (.if_icmp .ge 27, 3) := by decide +kernel
theorem dX12_spreadTo_16 : decode cX12_spreadTo 16 = .ok (.aload_n 0, 1) := by decide +kernel
theorem dX12_spreadTo_17 : decode cX12_spreadTo 17 = .ok (.getfield 157, 3) := by decide +kernel
theorem dX12_spreadTo_20 : decode cX12_spreadTo 20 = .ok (.iload_n 3, 1) := by decide +kernel
theorem dX12_spreadTo_21 : decode cX12_spreadTo 21 = .ok (.iload_n 3, 1) := by decide +kernel
theorem dX12_spreadTo_22 : decode cX12_spreadTo 22 = .ok (.iload_n 2, 1) := by decide +kernel
theorem dX12_spreadTo_23 : decode cX12_spreadTo 23 = .ok (.if_icmp .ne 7, 3) := by decide +kernel
theorem dX12_spreadTo_26 : decode cX12_spreadTo 26 = .ok (.iconst 0, 1) := by decide +kernel
theorem dX12_spreadTo_27 : decode cX12_spreadTo 27 = .ok (.goto 6, 3) := by decide +kernel
theorem dX12_spreadTo_30 : decode cX12_spreadTo 30 = .ok (.ldc_w 622, 3) := by decide +kernel
theorem dX12_spreadTo_33 : decode cX12_spreadTo 33 = .ok (.iastore, 1) := by decide +kernel
theorem dX12_spreadTo_34 : decode cX12_spreadTo 34 = .ok (.iinc 3 1, 3) := by decide +kernel
theorem dX12_spreadTo_37 : decode cX12_spreadTo 37 = .ok (.goto (-29), 3) := by decide +kernel
theorem dX12_spreadTo_40 : decode cX12_spreadTo 40 = .ok (.iload_n 2, 1) := by decide +kernel
theorem dX12_spreadTo_41 : decode cX12_spreadTo 41 = .ok (.ifCond .lt 7, 3) := by decide +kernel
theorem dX12_spreadTo_44 : decode cX12_spreadTo 44 = .ok (.iconst 1, 1) := by decide +kernel
theorem dX12_spreadTo_45 : decode cX12_spreadTo 45 = .ok (.goto 4, 3) := by decide +kernel
theorem dX12_spreadTo_48 : decode cX12_spreadTo 48 = .ok (.iconst 0, 1) := by decide +kernel
theorem dX12_spreadTo_49 : decode cX12_spreadTo 49 = .ok (.istore_n 3, 1) := by decide +kernel
theorem dX12_spreadTo_50 : decode cX12_spreadTo 50 = .ok (.iload_n 3, 1) := by decide +kernel
theorem dX12_spreadTo_51 : decode cX12_spreadTo 51 = .ok (.ifCond .eq 36, 3) := by decide +kernel
theorem dX12_spreadTo_54 : decode cX12_spreadTo 54 = .ok (.iconst 0, 1) := by decide +kernel
theorem dX12_spreadTo_55 : decode cX12_spreadTo 55 = .ok (.istore_n 3, 1) := by decide +kernel
theorem dX12_spreadTo_56 : decode cX12_spreadTo 56 = .ok (.aload_n 0, 1) := by decide +kernel
theorem dX12_spreadTo_57 : decode cX12_spreadTo 57 = .ok (.getfield 613, 3) := by decide +kernel
theorem dX12_spreadTo_60 : decode cX12_spreadTo 60 = .ok (.iconst 1, 1) := by decide +kernel
theorem dX12_spreadTo_61 : decode cX12_spreadTo 61 = .ok (.isub, 1) := by decide +kernel
theorem dX12_spreadTo_62 : decode cX12_spreadTo 62 = .ok (.istore 4, 2) := by decide +kernel
theorem dX12_spreadTo_64 : decode cX12_spreadTo 64 = .ok (.iload 4, 2) := by decide +kernel
theorem dX12_spreadTo_66 : decode cX12_spreadTo 66 = .ok (.ifCond .lt 18, 3) := by decide +kernel
theorem dX12_spreadTo_69 : decode cX12_spreadTo 69 = .ok (.iload_n 3, 1) := by decide +kernel
theorem dX12_spreadTo_70 : decode cX12_spreadTo 70 = .ok (.aload_n 0, 1) := by decide +kernel
theorem dX12_spreadTo_71 : decode cX12_spreadTo 71 = .ok (.iload 4, 2) := by decide +kernel
theorem dX12_spreadTo_73 : decode cX12_spreadTo 73 = .ok (.invokevirtual 623, 3) := by decide +kernel
theorem dX12_spreadTo_76 : decode cX12_spreadTo 76 = .ok (.ior, 1) := by decide +kernel
theorem dX12_spreadTo_77 : decode cX12_spreadTo 77 = .ok (.istore_n 3, 1) := by decide +kernel
theorem dX12_spreadTo_78 : decode cX12_spreadTo 78 = .ok (.iinc 4 (-1), 3) := by decide +kernel
theorem dX12_spreadTo_81 : decode cX12_spreadTo 81 = .ok (.goto (-17), 3) := by decide +kernel
theorem dX12_spreadTo_84 : decode cX12_spreadTo 84 = .ok (.goto (-34), 3) := by decide +kernel
theorem dX12_spreadTo_87 : decode cX12_spreadTo 87 = .ok (.iload_n 2, 1) := by decide +kernel
theorem dX12_spreadTo_88 : decode cX12_spreadTo 88 = .ok (.ifCond .lt 19, 3) := by decide +kernel
theorem dX12_spreadTo_91 : decode cX12_spreadTo 91 = .ok (.aload_n 0, 1) := by decide +kernel
theorem dX12_spreadTo_92 : decode cX12_spreadTo 92 = .ok (.getfield 157, 3) := by decide +kernel
theorem dX12_spreadTo_95 : decode cX12_spreadTo 95 = .ok (.iconst 0, 1) := by decide +kernel
theorem dX12_spreadTo_96 : decode cX12_spreadTo 96 = .ok (.iaload, 1) := by decide +kernel
theorem dX12_spreadTo_97 : decode cX12_spreadTo 97 = .ok (.ldc_w 622, 3) := by decide +kernel
theorem dX12_spreadTo_100 : decode cX12_spreadTo 100 = .ok (.if_icmp .ge 7, 3) := by decide +kernel
theorem dX12_spreadTo_103 : decode cX12_spreadTo 103 = .ok (.iconst 1, 1) := by decide +kernel
theorem dX12_spreadTo_104 : decode cX12_spreadTo 104 = .ok (.goto 4, 3) := by decide +kernel
theorem dX12_spreadTo_107 : decode cX12_spreadTo 107 = .ok (.iconst 0, 1) := by decide +kernel
theorem dX12_spreadTo_108 : decode cX12_spreadTo 108 = .ok (.ireturn, 1) := by decide +kernel
theorem dX12_isLessBy_0 : decode cX12_isLessBy 0 = .ok (.iconst 0, 1) := by decide +kernel
theorem dX12_isLessBy_1 : decode cX12_isLessBy 1 = .ok (.istore_n 2, 1) := by decide +kernel
theorem dX12_isLessBy_2 : decode cX12_isLessBy 2 = .ok (.iconst 0, 1) := by decide +kernel
theorem dX12_isLessBy_3 : decode cX12_isLessBy 3 = .ok (.istore_n 3, 1) := by decide +kernel
theorem dX12_isLessBy_4 : decode cX12_isLessBy 4 = .ok (.iload_n 3, 1) := by decide +kernel
theorem dX12_isLessBy_5 : decode cX12_isLessBy 5 = .ok (.bipush 7, 2) := by decide +kernel
theorem dX12_isLessBy_7 : decode cX12_isLessBy 7 = .ok (.if_icmp .ge 75, 3) := by decide +kernel
theorem dX12_isLessBy_10 : decode cX12_isLessBy 10 = .ok (.aload_n 0, 1) := by decide +kernel
theorem dX12_isLessBy_11 : decode cX12_isLessBy 11 = .ok (.getfield 160, 3) := by decide +kernel
theorem dX12_isLessBy_14 : decode cX12_isLessBy 14 = .ok (.bipush 7, 2) := by decide +kernel
theorem dX12_isLessBy_16 : decode cX12_isLessBy 16 = .ok (.iload_n 1, 1) := by decide +kernel
theorem dX12_isLessBy_17 : decode cX12_isLessBy 17 = .ok (.imul, 1) := by decide +kernel
theorem dX12_isLessBy_18 : decode cX12_isLessBy 18 = .ok (.iload_n 3, 1) := by decide +kernel
theorem dX12_isLessBy_19 : decode cX12_isLessBy 19 = .ok (.iadd, 1) := by decide +kernel
theorem dX12_isLessBy_20 : decode cX12_isLessBy 20 = .ok (.iaload, 1) := by decide +kernel
theorem dX12_isLessBy_21 : decode cX12_isLessBy 21 = .ok (.istore 4, 2) := by decide +kernel
theorem dX12_isLessBy_23 : decode cX12_isLessBy 23 = .ok (.iload 4, 2) := by decide +kernel
theorem dX12_isLessBy_25 : decode cX12_isLessBy 25 = .ok (.ifCond .lt 51, 3) := by decide +kernel
theorem dX12_isLessBy_28 : decode cX12_isLessBy 28 = .ok (.aload_n 0, 1) := by decide +kernel
theorem dX12_isLessBy_29 : decode cX12_isLessBy 29 = .ok (.getfield 157, 3) := by decide +kernel
theorem dX12_isLessBy_32 : decode cX12_isLessBy 32 = .ok (.iload 4, 2) := by decide +kernel
theorem dX12_isLessBy_34 : decode cX12_isLessBy 34 = .ok (.iaload, 1) := by decide +kernel
theorem dX12_isLessBy_35 : decode cX12_isLessBy 35 = .ok (.aload_n 0, 1) := by decide +kernel
theorem dX12_isLessBy_36 : decode cX12_isLessBy 36 = .ok (.getfield 163, 3) := by decide +kernel
theorem dX12_isLessBy_39 : decode cX12_isLessBy 39 = .ok (.iload_n 3, 1) := by decide +kernel
theorem dX12_isLessBy_40 : decode cX12_isLessBy 40 = .ok (.iaload, 1) := by decide +kernel
theorem dX12_isLessBy_41 : decode cX12_isLessBy 41 = .ok (.iadd, 1) := by decide +kernel
theorem dX12_isLessBy_42 : decode cX12_isLessBy 42 = .ok (.aload_n 0, 1) := by decide +kernel
theorem dX12_isLessBy_43 : decode cX12_isLessBy 43 = .ok (.getfield 157, 3) := by decide +kernel
theorem dX12_isLessBy_46 : decode cX12_isLessBy 46 = .ok (.iload_n 1, 1) := by decide +kernel
theorem dX12_isLessBy_47 : decode cX12_isLessBy 47 = .ok (.iaload, 1) := by decide +kernel
theorem dX12_isLessBy_48 : decode cX12_isLessBy 48 = .ok (.if_icmp .lt 6, 3) := by decide +kernel
theorem dX12_isLessBy_51 : decode cX12_isLessBy 51 = .ok (.goto 25, 3) := by decide +kernel
theorem dX12_isLessBy_54 : decode cX12_isLessBy 54 = .ok (.aload_n 0, 1) := by decide +kernel
theorem dX12_isLessBy_55 : decode cX12_isLessBy 55 = .ok (.getfield 157, 3) := by decide +kernel
theorem dX12_isLessBy_58 : decode cX12_isLessBy 58 = .ok (.iload_n 1, 1) := by decide +kernel
theorem dX12_isLessBy_59 : decode cX12_isLessBy 59 = .ok (.aload_n 0, 1) := by decide +kernel
theorem dX12_isLessBy_60 : decode cX12_isLessBy 60 = .ok (.getfield 157, 3) := by decide +kernel
theorem dX12_isLessBy_63 : decode cX12_isLessBy 63 = .ok (.iload 4, 2) := by decide +kernel
theorem dX12_isLessBy_65 : decode cX12_isLessBy 65 = .ok (.iaload, 1) := by decide +kernel
theorem dX12_isLessBy_66 : decode cX12_isLessBy 66 = .ok (.aload_n 0, 1) := by decide +kernel
theorem dX12_isLessBy_67 : decode cX12_isLessBy 67 = .ok (.getfield 163, 3) := by decide +kernel
theorem dX12_isLessBy_70 : decode cX12_isLessBy 70 = .ok (.iload_n 3, 1) := by decide +kernel
theorem dX12_isLessBy_71 : decode cX12_isLessBy 71 = .ok (.iaload, 1) := by decide +kernel
theorem dX12_isLessBy_72 : decode cX12_isLessBy 72 = .ok (.iadd, 1) := by decide +kernel
theorem dX12_isLessBy_73 : decode cX12_isLessBy 73 = .ok (.iastore, 1) := by decide +kernel
theorem dX12_isLessBy_74 : decode cX12_isLessBy 74 = .ok (.iconst 1, 1) := by decide +kernel
theorem dX12_isLessBy_75 : decode cX12_isLessBy 75 = .ok (.istore_n 2, 1) := by decide +kernel
theorem dX12_isLessBy_76 : decode cX12_isLessBy 76 = .ok (.iinc 3 1, 3) := by decide +kernel
theorem dX12_isLessBy_79 : decode cX12_isLessBy 79 = .ok (.goto (-75), 3) := by decide +kernel
theorem dX12_isLessBy_82 : decode cX12_isLessBy 82 = .ok (.iload_n 2, 1) := by decide +kernel
theorem dX12_isLessBy_83 : decode cX12_isLessBy 83 = .ok (.ireturn, 1) := by decide +kernel
theorem dX12_lies_0 : decode cX12_lies 0 = .ok (.iload_n 1, 1) := by decide +kernel
theorem dX12_lies_1 : decode cX12_lies 1 = .ok (.iconst 0, 1) := by decide +kernel
theorem dX12_lies_2 : decode cX12_lies 2 = .ok (.aload_n 0, 1) := by decide +kernel
theorem dX12_lies_3 : decode cX12_lies 3 = .ok (.getfield 516, 3) := by decide +kernel
theorem dX12_lies_6 : decode cX12_lies 6 = .ok (.iconst 1, 1) := by decide +kernel
theorem dX12_lies_7 : decode cX12_lies 7 = .ok (.isub, 1) := by decide +kernel
theorem dX12_lies_8 : decode cX12_lies 8 = .ok (.invokestatic 500, 3) := by decide +kernel
theorem dX12_lies_11 : decode cX12_lies 11 = .ok (.ifCond .eq 12, 3) := by decide +kernel
theorem dX12_lies_14 : decode cX12_lies 14 = .ok (.aload_n 0, 1) := by decide +kernel
theorem dX12_lies_15 : decode cX12_lies 15 = .ok (.getfield 166, 3) := by decide +kernel
theorem dX12_lies_18 : decode cX12_lies 18 = .ok (.iload_n 1, 1) := by decide +kernel
theorem dX12_lies_19 : decode cX12_lies 19 = .ok (.iaload, 1) := by decide +kernel
theorem dX12_lies_20 : decode cX12_lies 20 = .ok (.goto 5, 3) := by decide +kernel
theorem dX12_lies_23 : decode cX12_lies 23 = .ok (.bipush (-2), 2) := by decide +kernel
theorem dX12_lies_25 : decode cX12_lies 25 = .ok (.ireturn, 1) := by decide +kernel
theorem dX12_layRow_0 : decode cX12_layRow 0 = .ok (.iconst 0, 1) := by decide +kernel
theorem dX12_layRow_1 : decode cX12_layRow 1 = .ok (.istore_n 1, 1) := by decide +kernel
theorem dX12_layRow_2 : decode cX12_layRow 2 = .ok (.aload_n 0, 1) := by decide +kernel
theorem dX12_layRow_3 : decode cX12_layRow 3 = .ok (.getfield 157, 3) := by decide +kernel
theorem dX12_layRow_6 : decode cX12_layRow 6 = .ok (.iload_n 1, 1) := by decide +kernel
theorem dX12_layRow_7 : decode cX12_layRow 7 = .ok (.iaload, 1) := by decide +kernel
theorem dX12_layRow_8 : decode cX12_layRow 8 = .ok (.ifCond .le 92, 3) := by decide +kernel
theorem dX12_layRow_11 : decode cX12_layRow 11 = .ok (.iconst 0, 1) := by decide +kernel
theorem dX12_layRow_12 : decode cX12_layRow 12 = .ok (.istore_n 2, 1) := by decide +kernel
theorem dX12_layRow_13 : decode cX12_layRow 13 = .ok (.aload_n 0, 1) := by decide +kernel
theorem dX12_layRow_14 : decode cX12_layRow 14 = .ok (.getfield 160, 3) := by decide +kernel
theorem dX12_layRow_17 : decode cX12_layRow 17 = .ok (.bipush 7, 2) := by decide +kernel
theorem dX12_layRow_19 : decode cX12_layRow 19 = .ok (.iload_n 1, 1) := by decide +kernel
theorem dX12_layRow_20 : decode cX12_layRow 20 = .ok (.imul, 1) := by decide +kernel
theorem dX12_layRow_21 : decode cX12_layRow 21 = .ok (.iload_n 2, 1) := by decide +kernel
theorem dX12_layRow_22 : decode cX12_layRow 22 = .ok (.iadd, 1) := by decide +kernel
theorem dX12_layRow_23 : decode cX12_layRow 23 = .ok (.iaload, 1) := by decide +kernel
theorem dX12_layRow_24 : decode cX12_layRow 24 = .ok (.ifCond .lt 35, 3) := by decide +kernel
theorem dX12_layRow_27 : decode cX12_layRow 27 = .ok (.aload_n 0, 1) := by decide +kernel
theorem dX12_layRow_28 : decode cX12_layRow 28 = .ok (.getfield 157, 3) := by decide +kernel
theorem dX12_layRow_31 : decode cX12_layRow 31 = .ok (.aload_n 0, 1) := by decide +kernel
theorem dX12_layRow_32 : decode cX12_layRow 32 = .ok (.getfield 160, 3) := by decide +kernel
theorem dX12_layRow_35 : decode cX12_layRow 35 = .ok (.bipush 7, 2) := by decide +kernel
theorem dX12_layRow_37 : decode cX12_layRow 37 = .ok (.iload_n 1, 1) := by decide +kernel
theorem dX12_layRow_38 : decode cX12_layRow 38 = .ok (.imul, 1) := by decide +kernel
theorem dX12_layRow_39 : decode cX12_layRow 39 = .ok (.iload_n 2, 1) := by decide +kernel
theorem dX12_layRow_40 : decode cX12_layRow 40 = .ok (.iadd, 1) := by decide +kernel
theorem dX12_layRow_41 : decode cX12_layRow 41 = .ok (.iaload, 1) := by decide +kernel
theorem dX12_layRow_42 : decode cX12_layRow 42 = .ok (.iaload, 1) := by decide +kernel
theorem dX12_layRow_43 : decode cX12_layRow 43 = .ok (.aload_n 0, 1) := by decide +kernel
theorem dX12_layRow_44 : decode cX12_layRow 44 = .ok (.getfield 163, 3) := by decide +kernel
theorem dX12_layRow_47 : decode cX12_layRow 47 = .ok (.iload_n 2, 1) := by decide +kernel
theorem dX12_layRow_48 : decode cX12_layRow 48 = .ok (.iaload, 1) := by decide +kernel
theorem dX12_layRow_49 : decode cX12_layRow 49 = .ok (.iadd, 1) := by decide +kernel
theorem dX12_layRow_50 : decode cX12_layRow 50 = .ok (.aload_n 0, 1) := by decide +kernel
theorem dX12_layRow_51 : decode cX12_layRow 51 = .ok (.getfield 157, 3) := by decide +kernel
theorem dX12_layRow_54 : decode cX12_layRow 54 = .ok (.iload_n 1, 1) := by decide +kernel
theorem dX12_layRow_55 : decode cX12_layRow 55 = .ok (.iaload, 1) := by decide +kernel
theorem dX12_layRow_56 : decode cX12_layRow 56 = .ok (.if_icmp .eq 9, 3) := by decide +kernel
theorem dX12_layRow_59 : decode cX12_layRow 59 = .ok (.iinc 2 1, 3) := by decide +kernel
theorem dX12_layRow_62 : decode cX12_layRow 62 = .ok (.goto (-49), 3) := by decide +kernel
theorem dX12_layRow_65 : decode cX12_layRow 65 = .ok (.aload_n 0, 1) := by decide +kernel
theorem dX12_layRow_66 : decode cX12_layRow 66 = .ok (.getfield 166, 3) := by decide +kernel
theorem dX12_layRow_69 : decode cX12_layRow 69 = .ok (.aload_n 0, 1) := by decide +kernel
theorem dX12_layRow_70 : decode cX12_layRow 70 = .ok (.getfield 516, 3) := by decide +kernel
theorem dX12_layRow_73 : decode cX12_layRow 73 = .ok (.iload_n 2, 1) := by decide +kernel
theorem dX12_layRow_74 : decode cX12_layRow 74 = .ok (.iastore, 1) := by decide +kernel
theorem dX12_layRow_75 : decode cX12_layRow 75 = .ok (.aload_n 0, 1) := by decide +kernel
theorem dX12_layRow_76 : decode cX12_layRow 76 = .ok (.dup, 1) := by decide +kernel
theorem dX12_layRow_77 : decode cX12_layRow 77 = .ok (.getfield 516, 3) := by decide +kernel
theorem dX12_layRow_80 : decode cX12_layRow 80 = .ok (.iconst 1, 1) := by decide +kernel
theorem dX12_layRow_81 : decode cX12_layRow 81 = .ok (.iadd, 1) := by decide +kernel
theorem dX12_layRow_82 : decode cX12_layRow 82 = .ok (.putfield 516, 3) := by decide +kernel
theorem dX12_layRow_85 : decode cX12_layRow 85 = .ok (.aload_n 0, 1) := by decide +kernel
theorem dX12_layRow_86 : decode cX12_layRow 86 = .ok (.getfield 160, 3) := by decide +kernel
theorem dX12_layRow_89 : decode cX12_layRow 89 = .ok (.bipush 7, 2) := by decide +kernel
theorem dX12_layRow_91 : decode cX12_layRow 91 = .ok (.iload_n 1, 1) := by decide +kernel
theorem dX12_layRow_92 : decode cX12_layRow 92 = .ok (.imul, 1) := by decide +kernel
theorem dX12_layRow_93 : decode cX12_layRow 93 = .ok (.iload_n 2, 1) := by decide +kernel
theorem dX12_layRow_94 : decode cX12_layRow 94 = .ok (.iadd, 1) := by decide +kernel
theorem dX12_layRow_95 : decode cX12_layRow 95 = .ok (.iaload, 1) := by decide +kernel
theorem dX12_layRow_96 : decode cX12_layRow 96 = .ok (.istore_n 1, 1) := by decide +kernel
theorem dX12_layRow_97 : decode cX12_layRow 97 = .ok (.goto (-95), 3) := by decide +kernel
theorem dX12_layRow_100 : decode cX12_layRow 100 = .ok (.return_, 1) := by decide +kernel
theorem dX12_startOf_0 : decode cX12_startOf 0 = .ok (.iload_n 0, 1) := by decide +kernel
theorem dX12_startOf_1 : decode cX12_startOf 1 = .ok (.ifCond .ne 7, 3) := by decide +kernel
theorem dX12_startOf_4 : decode cX12_startOf 4 = .ok (.iconst 0, 1) := by decide +kernel
theorem dX12_startOf_5 : decode cX12_startOf 5 = .ok (.goto 24, 3) := by decide +kernel
theorem dX12_startOf_8 : decode cX12_startOf 8 = .ok (.iload_n 0, 1) := by decide +kernel
theorem dX12_startOf_9 : decode cX12_startOf 9 = .ok (.iconst 1, 1) := by decide +kernel
theorem dX12_startOf_10 : decode cX12_startOf 10 = .ok (.if_icmp .ne 7, 3) := by decide +kernel
theorem dX12_startOf_13 : decode cX12_startOf 13 = .ok (.iconst 1, 1) := by decide +kernel
theorem dX12_startOf_14 : decode cX12_startOf 14 = .ok (.goto 15, 3) := by decide +kernel
theorem dX12_startOf_17 : decode cX12_startOf 17 = .ok (.iload_n 0, 1) := by decide +kernel
theorem dX12_startOf_18 : decode cX12_startOf 18 = .ok (.iconst 2, 1) := by decide +kernel
theorem dX12_startOf_19 : decode cX12_startOf 19 = .ok (.if_icmp .ne 8, 3) := by decide +kernel
theorem dX12_startOf_22 : decode cX12_startOf 22 = .ok (.bipush 12, 2) := by decide +kernel
theorem dX12_startOf_24 : decode cX12_startOf 24 = .ok (.goto 5, 3) := by decide +kernel
theorem dX12_startOf_27 : decode cX12_startOf 27 = .ok (.bipush 123, 2) := by decide +kernel
theorem dX12_startOf_29 : decode cX12_startOf 29 = .ok (.ireturn, 1) := by decide +kernel
theorem dX12_isTask_0 : decode cX12_isTask 0 = .ok (.iload_n 0, 1) := by decide +kernel
theorem dX12_isTask_1 : decode cX12_isTask 1 = .ok (.iconst 0, 1) := by decide +kernel
theorem dX12_isTask_2 : decode cX12_isTask 2 = .ok (.iconst 3, 1) := by decide +kernel
theorem dX12_isTask_3 : decode cX12_isTask 3 = .ok (.invokestatic 500, 3) := by decide +kernel
theorem dX12_isTask_6 : decode cX12_isTask 6 = .ok (.ifCond .eq 14, 3) := by decide +kernel
theorem dX12_isTask_9 : decode cX12_isTask 9 = .ok (.iload_n 1, 1) := by decide +kernel
theorem dX12_isTask_10 : decode cX12_isTask 10 = .ok (.iconst 0, 1) := by decide +kernel
theorem dX12_isTask_11 : decode cX12_isTask 11 = .ok (.sipush 9999, 3) := by decide +kernel
theorem dX12_isTask_14 : decode cX12_isTask 14 = .ok (.invokestatic 500, 3) := by decide +kernel
theorem dX12_isTask_17 : decode cX12_isTask 17 = .ok (.ifCond .ne 5, 3) := by decide +kernel
theorem dX12_isTask_20 : decode cX12_isTask 20 = .ok (.iconst 0, 1) := by decide +kernel
theorem dX12_isTask_21 : decode cX12_isTask 21 = .ok (.ireturn, 1) := by decide +kernel
theorem dX12_isTask_22 : decode cX12_isTask 22 = .ok (.iload_n 1, 1) := by decide +kernel
theorem dX12_isTask_23 : decode cX12_isTask 23 = .ok (.istore_n 2, 1) := by decide +kernel
theorem dX12_isTask_24 : decode cX12_isTask 24 = .ok (.iload_n 2, 1) := by decide +kernel
theorem dX12_isTask_25 : decode cX12_isTask 25 = .ok (.ifCond .le 25, 3) := by decide +kernel
theorem dX12_isTask_28 : decode cX12_isTask 28 = .ok (.iload_n 2, 1) := by decide +kernel
theorem dX12_isTask_29 : decode cX12_isTask 29 = .ok (.bipush 10, 2) := by decide +kernel
theorem dX12_isTask_31 : decode cX12_isTask 31 = .ok (.irem, 1) := by decide +kernel
theorem dX12_isTask_32 : decode cX12_isTask 32 = .ok (.iconst 1, 1) := by decide +kernel
theorem dX12_isTask_33 : decode cX12_isTask 33 = .ok (.iload_n 0, 1) := by decide +kernel
theorem dX12_isTask_34 : decode cX12_isTask 34 = .ok (.invokestatic 500, 3) := by decide +kernel
theorem dX12_isTask_37 : decode cX12_isTask 37 = .ok (.ifCond .ne 5, 3) := by decide +kernel
theorem dX12_isTask_40 : decode cX12_isTask 40 = .ok (.iconst 0, 1) := by decide +kernel
theorem dX12_isTask_41 : decode cX12_isTask 41 = .ok (.ireturn, 1) := by decide +kernel
theorem dX12_isTask_42 : decode cX12_isTask 42 = .ok (.iload_n 2, 1) := by decide +kernel
theorem dX12_isTask_43 : decode cX12_isTask 43 = .ok (.bipush 10, 2) := by decide +kernel
theorem dX12_isTask_45 : decode cX12_isTask 45 = .ok (.idiv, 1) := by decide +kernel
theorem dX12_isTask_46 : decode cX12_isTask 46 = .ok (.istore_n 2, 1) := by decide +kernel
theorem dX12_isTask_47 : decode cX12_isTask 47 = .ok (.goto (-23), 3) := by decide +kernel
theorem dX12_isTask_50 : decode cX12_isTask 50 = .ok (.iconst 1, 1) := by decide +kernel
theorem dX12_isTask_51 : decode cX12_isTask 51 = .ok (.ireturn, 1) := by decide +kernel
theorem dX12_canTask_0 : decode cX12_canTask 0 = .ok (.aload_n 0, 1) := by decide +kernel
theorem dX12_canTask_1 : decode cX12_canTask 1 = .ok (.iconst 0, 1) := by decide +kernel
theorem dX12_canTask_2 : decode cX12_canTask 2 = .ok (.putfield 516, 3) := by decide +kernel
theorem dX12_canTask_5 : decode cX12_canTask 5 = .ok (.iload_n 1, 1) := by decide +kernel
theorem dX12_canTask_6 : decode cX12_canTask 6 = .ok (.iload_n 2, 1) := by decide +kernel
theorem dX12_canTask_7 : decode cX12_canTask 7 = .ok (.invokestatic 626, 3) := by decide +kernel
theorem dX12_canTask_10 : decode cX12_canTask 10 = .ok (.ifCond .ne 5, 3) := by decide +kernel
theorem dX12_canTask_13 : decode cX12_canTask 13 = .ok (.iconst 0, 1) := by decide +kernel
theorem dX12_canTask_14 : decode cX12_canTask 14 = .ok (.ireturn, 1) := by decide +kernel
theorem dX12_canTask_15 : decode cX12_canTask 15 = .ok (.aload_n 0, 1) := by decide +kernel
theorem dX12_canTask_16 : decode cX12_canTask 16 = .ok (.iload_n 1, 1) := by decide +kernel
theorem dX12_canTask_17 : decode cX12_canTask 17 = .ok (.invokestatic 629, 3) := by decide +kernel
theorem dX12_canTask_20 : decode cX12_canTask 20 = .ok (.invokevirtual 632, 3) := by decide +kernel
theorem dX12_canTask_23 : decode cX12_canTask 23 = .ok (.aload_n 0, 1) := by decide +kernel
theorem dX12_canTask_24 : decode cX12_canTask 24 = .ok (.iload_n 2, 1) := by decide +kernel
theorem dX12_canTask_25 : decode cX12_canTask 25 = .ok (.invokevirtual 635, 3) := by decide +kernel
theorem dX12_canTask_28 : decode cX12_canTask 28 = .ok (.ireturn, 1) := by decide +kernel
theorem dX12_shortest_0 : decode cX12_shortest 0 = .ok (.iconst 0, 1) := by decide +kernel
theorem dX12_shortest_1 : decode cX12_shortest 1 = .ok (.istore_n 3, 1) := by decide +kernel
theorem dX12_shortest_2 : decode cX12_shortest 2 = .ok (.iload_n 3, 1) := by decide +kernel
theorem dX12_shortest_3 : decode cX12_shortest 3 = .ok (.bipush 7, 2) := by decide +kernel
theorem dX12_shortest_5 : decode cX12_shortest 5 = .ok (.if_icmp .ge 16, 3) := by decide +kernel
theorem dX12_shortest_8 : decode cX12_shortest 8 = .ok (.aload_n 0, 1) := by decide +kernel
theorem dX12_shortest_9 : decode cX12_shortest 9 = .ok (.getfield 163, 3) := by decide +kernel
theorem dX12_shortest_12 : decode cX12_shortest 12 = .ok (.iload_n 3, 1) := by decide +kernel
theorem dX12_shortest_13 : decode cX12_shortest 13 = .ok (.iconst 1, 1) := by decide +kernel
theorem dX12_shortest_14 : decode cX12_shortest 14 = .ok (.iastore, 1) := by decide +kernel
theorem dX12_shortest_15 : decode cX12_shortest 15 = .ok (.iinc 3 1, 3) := by decide +kernel
theorem dX12_shortest_18 : decode cX12_shortest 18 = .ok (.goto (-16), 3) := by decide +kernel
theorem dX12_shortest_21 : decode cX12_shortest 21 = .ok (.aload_n 0, 1) := by decide +kernel
theorem dX12_shortest_22 : decode cX12_shortest 22 = .ok (.iload_n 1, 1) := by decide +kernel
theorem dX12_shortest_23 : decode cX12_shortest 23 = .ok (.iload_n 2, 1) := by decide +kernel
theorem dX12_shortest_24 : decode cX12_shortest 24 = .ok (.invokevirtual 638, 3) := by decide +kernel
theorem dX12_shortest_27 : decode cX12_shortest 27 = .ok (.ifCond .ne 5, 3) := by decide +kernel
theorem dX12_shortest_30 : decode cX12_shortest 30 = .ok (.iconst (-1), 1) := by decide +kernel
theorem dX12_shortest_31 : decode cX12_shortest 31 = .ok (.ireturn, 1) := by decide +kernel
theorem dX12_shortest_32 : decode cX12_shortest 32 = .ok (.aload_n 0, 1) := by decide +kernel
theorem dX12_shortest_33 : decode cX12_shortest 33 = .ok (.invokevirtual 641, 3) := by decide +kernel
theorem dX12_shortest_36 : decode cX12_shortest 36 = .ok (.aload_n 0, 1) := by decide +kernel
theorem dX12_shortest_37 : decode cX12_shortest 37 = .ok (.getfield 516, 3) := by decide +kernel
theorem dX12_shortest_40 : decode cX12_shortest 40 = .ok (.ireturn, 1) := by decide +kernel
theorem dX12_cheapest_0 : decode cX12_cheapest 0 = .ok (.iconst 0, 1) := by decide +kernel
theorem dX12_cheapest_1 : decode cX12_cheapest 1 = .ok (.istore_n 3, 1) := by decide +kernel
theorem dX12_cheapest_2 : decode cX12_cheapest 2 = .ok (.iload_n 3, 1) := by decide +kernel
theorem dX12_cheapest_3 : decode cX12_cheapest 3 = .ok (.bipush 7, 2) := by decide +kernel
theorem dX12_cheapest_5 : decode cX12_cheapest 5 = .ok (.if_icmp .ge 27, 3) := by decide +kernel
theorem dX12_cheapest_8 : decode cX12_cheapest 8 = .ok (.aload_n 0, 1) := by decide +kernel
theorem dX12_cheapest_9 : decode cX12_cheapest 9 = .ok (.getfield 163, 3) := by decide +kernel
theorem dX12_cheapest_12 : decode cX12_cheapest 12 = .ok (.iload_n 3, 1) := by decide +kernel
theorem dX12_cheapest_13 : decode cX12_cheapest 13 = .ok (.sipush 1000, 3) := by decide +kernel
theorem dX12_cheapest_16 : decode cX12_cheapest 16 = .ok (.aload_n 0, 1) := by decide +kernel
theorem dX12_cheapest_17 : decode cX12_cheapest 17 = .ok (.iconst 0, 1) := by decide +kernel
theorem dX12_cheapest_18 : decode cX12_cheapest 18 = .ok (.iload_n 3, 1) := by decide +kernel
theorem dX12_cheapest_19 : decode cX12_cheapest 19 = .ok (.invokevirtual 644, 3) := by decide +kernel
theorem dX12_cheapest_22 : decode cX12_cheapest 22 = .ok (.imul, 1) := by decide +kernel
theorem dX12_cheapest_23 : decode cX12_cheapest 23 = .ok (.iconst 1, 1) := by decide +kernel
theorem dX12_cheapest_24 : decode cX12_cheapest 24 = .ok (.iadd, 1) := by decide +kernel
theorem dX12_cheapest_25 : decode cX12_cheapest 25 = .ok (.iastore, 1) := by decide +kernel
theorem dX12_cheapest_26 : decode cX12_cheapest 26 = .ok (.iinc 3 1, 3) := by decide +kernel
theorem dX12_cheapest_29 : decode cX12_cheapest 29 = .ok (.goto (-27), 3) := by decide +kernel
theorem dX12_cheapest_32 : decode cX12_cheapest 32 = .ok (.aload_n 0, 1) := by decide +kernel
theorem dX12_cheapest_33 : decode cX12_cheapest 33 = .ok (.iload_n 1, 1) := by decide +kernel
theorem dX12_cheapest_34 : decode cX12_cheapest 34 = .ok (.iload_n 2, 1) := by decide +kernel
theorem dX12_cheapest_35 : decode cX12_cheapest 35 = .ok (.invokevirtual 638, 3) := by decide +kernel
theorem dX12_cheapest_38 : decode cX12_cheapest 38 = .ok (.ifCond .ne 5, 3) := by decide +kernel
theorem dX12_cheapest_41 : decode cX12_cheapest 41 = .ok (.iconst (-1), 1) := by decide +kernel
theorem dX12_cheapest_42 : decode cX12_cheapest 42 = .ok (.ireturn, 1) := by decide +kernel
theorem dX12_cheapest_43 : decode cX12_cheapest 43 = .ok (.aload_n 0, 1) := by decide +kernel
theorem dX12_cheapest_44 : decode cX12_cheapest 44 = .ok (.invokevirtual 641, 3) := by decide +kernel
theorem dX12_cheapest_47 : decode cX12_cheapest 47 = .ok (.aload_n 0, 1) := by decide +kernel
theorem dX12_cheapest_48 : decode cX12_cheapest 48 = .ok (.getfield 157, 3) := by decide +kernel
theorem dX12_cheapest_51 : decode cX12_cheapest 51 = .ok (.iconst 0, 1) := by decide +kernel
theorem dX12_cheapest_52 : decode cX12_cheapest 52 = .ok (.iaload, 1) := by decide +kernel
theorem dX12_cheapest_53 : decode cX12_cheapest 53 = .ok (.sipush 1000, 3) := by decide +kernel
theorem dX12_cheapest_56 : decode cX12_cheapest 56 = .ok (.idiv, 1) := by decide +kernel
theorem dX12_cheapest_57 : decode cX12_cheapest 57 = .ok (.ireturn, 1) := by decide +kernel
theorem dX12_shuffled_0 : decode cX12_shuffled 0 = .ok (.iload_n 1, 1) := by decide +kernel
theorem dX12_shuffled_1 : decode cX12_shuffled 1 = .ok (.iconst 0, 1) := by decide +kernel
theorem dX12_shuffled_2 : decode cX12_shuffled 2 = .ok (.iconst 3, 1) := by decide +kernel
theorem dX12_shuffled_3 : decode cX12_shuffled 3 = .ok (.invokestatic 500, 3) := by decide +kernel
theorem dX12_shuffled_6 : decode cX12_shuffled 6 = .ok (.ifCond .eq 14, 3) := by decide +kernel
theorem dX12_shuffled_9 : decode cX12_shuffled 9 = .ok (.iload_n 2, 1) := by decide +kernel
theorem dX12_shuffled_10 : decode cX12_shuffled 10 = .ok (.iconst 0, 1) := by decide +kernel
theorem dX12_shuffled_11 : decode cX12_shuffled 11 = .ok (.ldc_w 647, 3) := by decide +kernel
theorem dX12_shuffled_14 : decode cX12_shuffled 14 = .ok (.invokestatic 500, 3) := by decide +kernel
theorem dX12_shuffled_17 : decode cX12_shuffled 17 = .ok (.ifCond .ne 5, 3) := by decide +kernel
theorem dX12_shuffled_20 : decode cX12_shuffled 20 = .ok (.iconst (-1), 1) := by decide +kernel
theorem dX12_shuffled_21 : decode cX12_shuffled 21 = .ok (.ireturn, 1) := by decide +kernel
theorem dX12_shuffled_22 : decode cX12_shuffled 22 = .ok (.iload_n 1, 1) := by decide +kernel
theorem dX12_shuffled_23 : decode cX12_shuffled 23 = .ok (.invokestatic 629, 3) := by decide +kernel
theorem dX12_shuffled_26 : decode cX12_shuffled 26 = .ok (.istore_n 3, 1) := by decide +kernel
theorem dX12_shuffled_27 : decode cX12_shuffled 27 = .ok (.iload_n 2, 1) := by decide +kernel
theorem dX12_shuffled_28 : decode cX12_shuffled 28 = .ok (.invokestatic 610, 3) := by decide +kernel
theorem dX12_shuffled_31 : decode cX12_shuffled 31 = .ok (.iconst 1, 1) := by decide +kernel
theorem dX12_shuffled_32 : decode cX12_shuffled 32 = .ok (.isub, 1) := by decide +kernel
theorem dX12_shuffled_33 : decode cX12_shuffled 33 = .ok (.istore 4, 2) := by decide +kernel
theorem dX12_shuffled_35 : decode cX12_shuffled 35 = .ok (.iload 4, 2) := by decide +kernel
theorem dX12_shuffled_37 : decode cX12_shuffled 37 = .ok (.ifCond .lt 52, 3) := by decide +kernel
theorem dX12_shuffled_40 : decode cX12_shuffled 40 = .ok (.iload_n 3, 1) := by decide +kernel
theorem dX12_shuffled_41 : decode cX12_shuffled 41 = .ok (.ifCond .lt 48, 3) := by decide +kernel
theorem dX12_shuffled_44 : decode cX12_shuffled 44 = .ok (.iload_n 2, 1) := by decide +kernel
theorem dX12_shuffled_45 : decode cX12_shuffled 45 = .ok (.bipush 10, 2) := by decide +kernel
theorem dX12_shuffled_47 : decode cX12_shuffled 47 = .ok (.iload 4, 2) := by decide +kernel
theorem dX12_shuffled_49 : decode cX12_shuffled 49 = .ok (.invokestatic 598, 3) := by decide +kernel
theorem dX12_shuffled_52 : decode cX12_shuffled 52 = .ok (.idiv, 1) := by decide +kernel
theorem dX12_shuffled_53 : decode cX12_shuffled 53 = .ok (.bipush 10, 2) := by decide +kernel
theorem dX12_shuffled_55 : decode cX12_shuffled 55 = .ok (.irem, 1) := by decide +kernel
theorem dX12_shuffled_56 : decode cX12_shuffled 56 = .ok (.iconst 1, 1) := by decide +kernel
theorem dX12_shuffled_57 : decode cX12_shuffled 57 = .ok (.isub, 1) := by decide +kernel
theorem dX12_shuffled_58 : decode cX12_shuffled 58 = .ok (.istore 5, 2) := by decide +kernel
theorem dX12_shuffled_60 : decode cX12_shuffled 60 = .ok (.iload 5, 2) := by decide +kernel
theorem dX12_shuffled_62 : decode cX12_shuffled 62 = .ok (.iconst 0, 1) := by decide +kernel
theorem dX12_shuffled_63 : decode cX12_shuffled 63 = .ok (.bipush 6, 2) := by decide +kernel
theorem dX12_shuffled_65 : decode cX12_shuffled 65 = .ok (.invokestatic 500, 3) := by decide +kernel
theorem dX12_shuffled_68 : decode cX12_shuffled 68 = .ok (.ifCond .eq 13, 3) := by decide +kernel
theorem dX12_shuffled_71 : decode cX12_shuffled 71 = .ok (.aload_n 0, 1) := by decide +kernel
theorem dX12_shuffled_72 : decode cX12_shuffled 72 = .ok (.iload_n 3, 1) := by decide +kernel
theorem dX12_shuffled_73 : decode cX12_shuffled 73 = .ok (.iload 5, 2) := by decide +kernel
theorem dX12_shuffled_75 : decode cX12_shuffled 75 = .ok (.invokevirtual 616, 3) := by decide +kernel
theorem dX12_shuffled_78 : decode cX12_shuffled 78 = .ok (.goto 4, 3) := by decide +kernel
theorem dX12_shuffled_81 : decode cX12_shuffled 81 = .ok (.iconst (-1), 1) := by decide +kernel
theorem dX12_shuffled_82 : decode cX12_shuffled 82 = .ok (.istore_n 3, 1) := by decide +kernel
theorem dX12_shuffled_83 : decode cX12_shuffled 83 = .ok (.iinc 4 (-1), 3) := by decide +kernel
theorem dX12_shuffled_86 : decode cX12_shuffled 86 = .ok (.goto (-51), 3) := by decide +kernel
theorem dX12_shuffled_89 : decode cX12_shuffled 89 = .ok (.iload_n 3, 1) := by decide +kernel
theorem dX12_shuffled_90 : decode cX12_shuffled 90 = .ok (.ifCond .lt 11, 3) := by decide +kernel
theorem dX12_shuffled_93 : decode cX12_shuffled 93 = .ok (.iload_n 3, 1) := by decide +kernel
theorem dX12_shuffled_94 : decode cX12_shuffled 94 = .ok (.invokestatic 610, 3) := by decide +kernel
theorem dX12_shuffled_97 : decode cX12_shuffled 97 = .ok (.iconst 4, 1) := by decide +kernel
theorem dX12_shuffled_98 : decode cX12_shuffled 98 = .ok (.if_icmp .le 7, 3) := by decide +kernel
theorem dX12_shuffled_101 : decode cX12_shuffled 101 = .ok (.iconst (-1), 1) := by decide +kernel
theorem dX12_shuffled_102 : decode cX12_shuffled 102 = .ok (.goto 4, 3) := by decide +kernel
theorem dX12_shuffled_105 : decode cX12_shuffled 105 = .ok (.iload_n 3, 1) := by decide +kernel
theorem dX12_shuffled_106 : decode cX12_shuffled 106 = .ok (.ireturn, 1) := by decide +kernel
theorem dX12_runBy_0 : decode cX12_runBy 0 = .ok (.aload_n 0, 1) := by decide +kernel
theorem dX12_runBy_1 : decode cX12_runBy 1 = .ok (.iconst 0, 1) := by decide +kernel
theorem dX12_runBy_2 : decode cX12_runBy 2 = .ok (.putfield 648, 3) := by decide +kernel
theorem dX12_runBy_5 : decode cX12_runBy 5 = .ok (.iconst 0, 1) := by decide +kernel
theorem dX12_runBy_6 : decode cX12_runBy 6 = .ok (.istore 4, 2) := by decide +kernel
theorem dX12_runBy_8 : decode cX12_runBy 8 = .ok (.iload_n 2, 1) := by decide +kernel
theorem dX12_runBy_9 : decode cX12_runBy 9 = .ok (.istore 5, 2) := by decide +kernel
theorem dX12_runBy_11 : decode cX12_runBy 11 = .ok (.iload 5, 2) := by decide +kernel
theorem dX12_runBy_13 : decode cX12_runBy 13 = .ok (.iload_n 2, 1) := by decide +kernel
theorem dX12_runBy_14 : decode cX12_runBy 14 = .ok (.iload_n 3, 1) := by decide +kernel
theorem dX12_runBy_15 : decode cX12_runBy 15 = .ok (.iadd, 1) := by decide +kernel
theorem dX12_runBy_16 : decode cX12_runBy 16 = .ok (.if_icmp .ge 58, 3) := by decide +kernel
theorem dX12_runBy_19 : decode cX12_runBy 19 = .ok (.aload_n 0, 1) := by decide +kernel
theorem dX12_runBy_20 : decode cX12_runBy 20 = .ok (.getfield 63, 3) := by decide +kernel
theorem dX12_runBy_23 : decode cX12_runBy 23 = .ok (.aload_n 0, 1) := by decide +kernel
theorem dX12_runBy_24 : decode cX12_runBy 24 = .ok (.iload_n 1, 1) := by decide +kernel
theorem dX12_runBy_25 : decode cX12_runBy 25 = .ok (.iload 5, 2) := by decide +kernel
theorem dX12_runBy_27 : decode cX12_runBy 27 = .ok (.invokevirtual 519, 3) := by decide +kernel
theorem dX12_runBy_30 : decode cX12_runBy 30 = .ok (.iaload, 1) := by decide +kernel
theorem dX12_runBy_31 : decode cX12_runBy 31 = .ok (.istore 6, 2) := by decide +kernel
theorem dX12_runBy_33 : decode cX12_runBy 33 = .ok (.aload_n 0, 1) := by decide +kernel
theorem dX12_runBy_34 : decode cX12_runBy 34 = .ok (.aload_n 0, 1) := by decide +kernel
theorem dX12_runBy_35 : decode cX12_runBy 35 = .ok (.getfield 648, 3) := by decide +kernel
theorem dX12_runBy_38 : decode cX12_runBy 38 = .ok (.iload 6, 2) := by decide +kernel
theorem dX12_runBy_40 : decode cX12_runBy 40 = .ok (.invokestatic 443, 3) := by decide +kernel
theorem dX12_runBy_43 : decode cX12_runBy 43 = .ok (.iload 4, 2) := by decide +kernel
theorem dX12_runBy_45 : decode cX12_runBy 45 = .ok (.isub, 1) := by decide +kernel
theorem dX12_runBy_46 : decode cX12_runBy 46 = .ok (.invokestatic 588, 3) := by decide +kernel
theorem dX12_runBy_49 : decode cX12_runBy 49 = .ok (.putfield 648, 3) := by decide +kernel
theorem dX12_runBy_52 : decode cX12_runBy 52 = .ok (.iload 4, 2) := by decide +kernel
theorem dX12_runBy_54 : decode cX12_runBy 54 = .ok (.iload 6, 2) := by decide +kernel
theorem dX12_runBy_56 : decode cX12_runBy 56 = .ok (.invokestatic 446, 3) := by decide +kernel
theorem dX12_runBy_59 : decode cX12_runBy 59 = .ok (.iload 6, 2) := by decide +kernel
theorem dX12_runBy_61 : decode cX12_runBy 61 = .ok (.invokestatic 443, 3) := by decide +kernel
theorem dX12_runBy_64 : decode cX12_runBy 64 = .ok (.isub, 1) := by decide +kernel
theorem dX12_runBy_65 : decode cX12_runBy 65 = .ok (.iadd, 1) := by decide +kernel
theorem dX12_runBy_66 : decode cX12_runBy 66 = .ok (.istore 4, 2) := by decide +kernel
theorem dX12_runBy_68 : decode cX12_runBy 68 = .ok (.iinc 5 1, 3) := by decide +kernel
theorem dX12_runBy_71 : decode cX12_runBy 71 = .ok (.goto (-60), 3) := by decide +kernel
theorem dX12_runBy_74 : decode cX12_runBy 74 = .ok (.aload_n 0, 1) := by decide +kernel
theorem dX12_runBy_75 : decode cX12_runBy 75 = .ok (.getfield 648, 3) := by decide +kernel
theorem dX12_runBy_78 : decode cX12_runBy 78 = .ok (.iconst 3, 1) := by decide +kernel
theorem dX12_runBy_79 : decode cX12_runBy 79 = .ok (.if_icmp .le 5, 3) := by decide +kernel
theorem dX12_runBy_82 : decode cX12_runBy 82 = .ok (.iconst (-1), 1) := by decide +kernel
theorem dX12_runBy_83 : decode cX12_runBy 83 = .ok (.ireturn, 1) := by decide +kernel
theorem dX12_runBy_84 : decode cX12_runBy 84 = .ok (.aload_n 0, 1) := by decide +kernel
theorem dX12_runBy_85 : decode cX12_runBy 85 = .ok (.getfield 648, 3) := by decide +kernel
theorem dX12_runBy_88 : decode cX12_runBy 88 = .ok (.invokestatic 629, 3) := by decide +kernel
theorem dX12_runBy_91 : decode cX12_runBy 91 = .ok (.istore 5, 2) := by decide +kernel
theorem dX12_runBy_93 : decode cX12_runBy 93 = .ok (.iload_n 2, 1) := by decide +kernel
theorem dX12_runBy_94 : decode cX12_runBy 94 = .ok (.istore 6, 2) := by decide +kernel
theorem dX12_runBy_96 : decode cX12_runBy 96 = .ok (.iload 6, 2) := by decide +kernel
theorem dX12_runBy_98 : decode cX12_runBy 98 = .ok (.iload_n 2, 1) := by decide +kernel
theorem dX12_runBy_99 : decode cX12_runBy 99 = .ok (.iload_n 3, 1) := by decide +kernel
theorem dX12_runBy_100 : decode cX12_runBy 100 = .ok (.iadd, 1) := by decide +kernel
theorem dX12_runBy_101 : decode cX12_runBy 101 = .ok (.if_icmp .ge 34, 3) := by decide +kernel
theorem dX12_runBy_104 : decode cX12_runBy 104 = .ok (.iload 5, 2) := by decide +kernel
theorem dX12_runBy_106 : decode cX12_runBy 106 = .ok (.ifCond .lt 29, 3) := by decide +kernel
theorem dX12_runBy_109 : decode cX12_runBy 109 = .ok (.aload_n 0, 1) := by decide +kernel
theorem dX12_runBy_110 : decode cX12_runBy 110 = .ok (.iload 5, 2) := by decide +kernel
theorem dX12_runBy_112 : decode cX12_runBy 112 = .ok (.aload_n 0, 1) := by decide +kernel
theorem dX12_runBy_113 : decode cX12_runBy 113 = .ok (.getfield 63, 3) := by decide +kernel
theorem dX12_runBy_116 : decode cX12_runBy 116 = .ok (.aload_n 0, 1) := by decide +kernel
theorem dX12_runBy_117 : decode cX12_runBy 117 = .ok (.iload_n 1, 1) := by decide +kernel
theorem dX12_runBy_118 : decode cX12_runBy 118 = .ok (.iload 6, 2) := by decide +kernel
theorem dX12_runBy_120 : decode cX12_runBy 120 = .ok (.invokevirtual 519, 3) := by decide +kernel
theorem dX12_runBy_123 : decode cX12_runBy 123 = .ok (.iaload, 1) := by decide +kernel
theorem dX12_runBy_124 : decode cX12_runBy 124 = .ok (.invokevirtual 616, 3) := by decide +kernel
theorem dX12_runBy_127 : decode cX12_runBy 127 = .ok (.istore 5, 2) := by decide +kernel
theorem dX12_runBy_129 : decode cX12_runBy 129 = .ok (.iinc 6 1, 3) := by decide +kernel
theorem dX12_runBy_132 : decode cX12_runBy 132 = .ok (.goto (-36), 3) := by decide +kernel
theorem dX12_runBy_135 : decode cX12_runBy 135 = .ok (.iload 5, 2) := by decide +kernel
theorem dX12_runBy_137 : decode cX12_runBy 137 = .ok (.ifCond .lt 12, 3) := by decide +kernel
theorem dX12_runBy_140 : decode cX12_runBy 140 = .ok (.iload 5, 2) := by decide +kernel
theorem dX12_runBy_142 : decode cX12_runBy 142 = .ok (.invokestatic 610, 3) := by decide +kernel
theorem dX12_runBy_145 : decode cX12_runBy 145 = .ok (.iconst 4, 1) := by decide +kernel
theorem dX12_runBy_146 : decode cX12_runBy 146 = .ok (.if_icmp .le 7, 3) := by decide +kernel
theorem dX12_runBy_149 : decode cX12_runBy 149 = .ok (.iconst (-1), 1) := by decide +kernel
theorem dX12_runBy_150 : decode cX12_runBy 150 = .ok (.goto 5, 3) := by decide +kernel
theorem dX12_runBy_153 : decode cX12_runBy 153 = .ok (.iload 5, 2) := by decide +kernel
theorem dX12_runBy_155 : decode cX12_runBy 155 = .ok (.ireturn, 1) := by decide +kernel
theorem dX12_tidy_0 : decode cX12_tidy 0 = .ok (.aload_n 0, 1) := by decide +kernel
theorem dX12_tidy_1 : decode cX12_tidy 1 = .ok (.iload_n 1, 1) := by decide +kernel
theorem dX12_tidy_2 : decode cX12_tidy 2 = .ok (.invokevirtual 570, 3) := by decide +kernel
theorem dX12_tidy_5 : decode cX12_tidy 5 = .ok (.ifCond .ne 5, 3) := by decide +kernel
theorem dX12_tidy_8 : decode cX12_tidy 8 = .ok (.iconst (-1), 1) := by decide +kernel
theorem dX12_tidy_9 : decode cX12_tidy 9 = .ok (.ireturn, 1) := by decide +kernel
theorem dX12_tidy_10 : decode cX12_tidy 10 = .ok (.iconst 0, 1) := by decide +kernel
theorem dX12_tidy_11 : decode cX12_tidy 11 = .ok (.istore_n 2, 1) := by decide +kernel
theorem dX12_tidy_12 : decode cX12_tidy 12 = .ok (.iload_n 2, 1) := by decide +kernel
theorem dX12_tidy_13 : decode cX12_tidy 13 = .ok (.bipush 7, 2) := by decide +kernel
theorem dX12_tidy_15 : decode cX12_tidy 15 = .ok (.if_icmp .ge 16, 3) := by decide +kernel
theorem dX12_tidy_18 : decode cX12_tidy 18 = .ok (.aload_n 0, 1) := by decide +kernel
theorem dX12_tidy_19 : decode cX12_tidy 19 = .ok (.getfield 163, 3) := by decide +kernel
theorem dX12_tidy_22 : decode cX12_tidy 22 = .ok (.iload_n 2, 1) := by decide +kernel
theorem dX12_tidy_23 : decode cX12_tidy 23 = .ok (.iconst 1, 1) := by decide +kernel
theorem dX12_tidy_24 : decode cX12_tidy 24 = .ok (.iastore, 1) := by decide +kernel
theorem dX12_tidy_25 : decode cX12_tidy 25 = .ok (.iinc 2 1, 3) := by decide +kernel
theorem dX12_tidy_28 : decode cX12_tidy 28 = .ok (.goto (-16), 3) := by decide +kernel
theorem dX12_tidy_31 : decode cX12_tidy 31 = .ok (.aload_n 0, 1) := by decide +kernel
theorem dX12_tidy_32 : decode cX12_tidy 32 = .ok (.getfield 516, 3) := by decide +kernel
theorem dX12_tidy_35 : decode cX12_tidy 35 = .ok (.istore_n 2, 1) := by decide +kernel
theorem dX12_tidy_36 : decode cX12_tidy 36 = .ok (.iconst 0, 1) := by decide +kernel
theorem dX12_tidy_37 : decode cX12_tidy 37 = .ok (.istore_n 3, 1) := by decide +kernel
theorem dX12_tidy_38 : decode cX12_tidy 38 = .ok (.iconst 0, 1) := by decide +kernel
theorem dX12_tidy_39 : decode cX12_tidy 39 = .ok (.istore 4, 2) := by decide +kernel
theorem dX12_tidy_41 : decode cX12_tidy 41 = .ok (.iload 4, 2) := by decide +kernel
theorem dX12_tidy_43 : decode cX12_tidy 43 = .ok (.aload_n 0, 1) := by decide +kernel
theorem dX12_tidy_44 : decode cX12_tidy 44 = .ok (.iload_n 1, 1) := by decide +kernel
theorem dX12_tidy_45 : decode cX12_tidy 45 = .ok (.invokevirtual 546, 3) := by decide +kernel
theorem dX12_tidy_48 : decode cX12_tidy 48 = .ok (.if_icmp .ge 121, 3) := by decide +kernel
theorem dX12_tidy_51 : decode cX12_tidy 51 = .ok (.iconst 0, 1) := by decide +kernel
theorem dX12_tidy_52 : decode cX12_tidy 52 = .ok (.istore 5, 2) := by decide +kernel
theorem dX12_tidy_54 : decode cX12_tidy 54 = .ok (.iload 5, 2) := by decide +kernel
theorem dX12_tidy_56 : decode cX12_tidy 56 = .ok (.bipush 6, 2) := by decide +kernel
theorem dX12_tidy_58 : decode cX12_tidy 58 = .ok (.if_icmp .ge 22, 3) := by decide +kernel
theorem dX12_tidy_61 : decode cX12_tidy 61 = .ok (.aload_n 0, 1) := by decide +kernel
theorem dX12_tidy_62 : decode cX12_tidy 62 = .ok (.iload_n 1, 1) := by decide +kernel
theorem dX12_tidy_63 : decode cX12_tidy 63 = .ok (.iload 4, 2) := by decide +kernel
theorem dX12_tidy_65 : decode cX12_tidy 65 = .ok (.iload 5, 2) := by decide +kernel
theorem dX12_tidy_67 : decode cX12_tidy 67 = .ok (.iadd, 1) := by decide +kernel
theorem dX12_tidy_68 : decode cX12_tidy 68 = .ok (.invokevirtual 591, 3) := by decide +kernel
theorem dX12_tidy_71 : decode cX12_tidy 71 = .ok (.ifCond .eq 9, 3) := by decide +kernel
theorem dX12_tidy_74 : decode cX12_tidy 74 = .ok (.iinc 5 1, 3) := by decide +kernel
theorem dX12_tidy_77 : decode cX12_tidy 77 = .ok (.goto (-23), 3) := by decide +kernel
theorem dX12_tidy_80 : decode cX12_tidy 80 = .ok (.iload 5, 2) := by decide +kernel
theorem dX12_tidy_82 : decode cX12_tidy 82 = .ok (.ifCond .le 21, 3) := by decide +kernel
theorem dX12_tidy_85 : decode cX12_tidy 85 = .ok (.aload_n 0, 1) := by decide +kernel
theorem dX12_tidy_86 : decode cX12_tidy 86 = .ok (.iload_n 1, 1) := by decide +kernel
theorem dX12_tidy_87 : decode cX12_tidy 87 = .ok (.iload 4, 2) := by decide +kernel
theorem dX12_tidy_89 : decode cX12_tidy 89 = .ok (.iload 5, 2) := by decide +kernel
theorem dX12_tidy_91 : decode cX12_tidy 91 = .ok (.invokevirtual 651, 3) := by decide +kernel
theorem dX12_tidy_94 : decode cX12_tidy 94 = .ok (.ifCond .ge 9, 3) := by decide +kernel
theorem dX12_tidy_97 : decode cX12_tidy 97 = .ok (.iinc 5 (-1), 3) := by decide +kernel
theorem dX12_tidy_100 : decode cX12_tidy 100 = .ok (.goto (-20), 3) := by decide +kernel
theorem dX12_tidy_103 : decode cX12_tidy 103 = .ok (.iload 5, 2) := by decide +kernel
theorem dX12_tidy_105 : decode cX12_tidy 105 = .ok (.ifCond .le 45, 3) := by decide +kernel
theorem dX12_tidy_108 : decode cX12_tidy 108 = .ok (.aload_n 0, 1) := by decide +kernel
theorem dX12_tidy_109 : decode cX12_tidy 109 = .ok (.iload_n 1, 1) := by decide +kernel
theorem dX12_tidy_110 : decode cX12_tidy 110 = .ok (.iload 4, 2) := by decide +kernel
theorem dX12_tidy_112 : decode cX12_tidy 112 = .ok (.iload 5, 2) := by decide +kernel
theorem dX12_tidy_114 : decode cX12_tidy 114 = .ok (.invokevirtual 651, 3) := by decide +kernel
theorem dX12_tidy_117 : decode cX12_tidy 117 = .ok (.istore 6, 2) := by decide +kernel
theorem dX12_tidy_119 : decode cX12_tidy 119 = .ok (.aload_n 0, 1) := by decide +kernel
theorem dX12_tidy_120 : decode cX12_tidy 120 = .ok (.aload_n 0, 1) := by decide +kernel
theorem dX12_tidy_121 : decode cX12_tidy 121 = .ok (.getfield 648, 3) := by decide +kernel
theorem dX12_tidy_124 : decode cX12_tidy 124 = .ok (.invokestatic 629, 3) := by decide +kernel
theorem dX12_tidy_127 : decode cX12_tidy 127 = .ok (.invokevirtual 632, 3) := by decide +kernel
theorem dX12_tidy_130 : decode cX12_tidy 130 = .ok (.aload_n 0, 1) := by decide +kernel
theorem dX12_tidy_131 : decode cX12_tidy 131 = .ok (.iload 6, 2) := by decide +kernel
theorem dX12_tidy_133 : decode cX12_tidy 133 = .ok (.invokevirtual 635, 3) := by decide +kernel
theorem dX12_tidy_136 : decode cX12_tidy 136 = .ok (.istore 7, 2) := by decide +kernel
theorem dX12_tidy_138 : decode cX12_tidy 138 = .ok (.iload_n 3, 1) := by decide +kernel
theorem dX12_tidy_139 : decode cX12_tidy 139 = .ok (.iload 5, 2) := by decide +kernel
theorem dX12_tidy_141 : decode cX12_tidy 141 = .ok (.aload_n 0, 1) := by decide +kernel
theorem dX12_tidy_142 : decode cX12_tidy 142 = .ok (.getfield 157, 3) := by decide +kernel
theorem dX12_tidy_145 : decode cX12_tidy 145 = .ok (.iconst 0, 1) := by decide +kernel
theorem dX12_tidy_146 : decode cX12_tidy 146 = .ok (.iaload, 1) := by decide +kernel
theorem dX12_tidy_147 : decode cX12_tidy 147 = .ok (.isub, 1) := by decide +kernel
theorem dX12_tidy_148 : decode cX12_tidy 148 = .ok (.iadd, 1) := by decide +kernel
theorem dX12_tidy_149 : decode cX12_tidy 149 = .ok (.istore_n 3, 1) := by decide +kernel
theorem dX12_tidy_150 : decode cX12_tidy 150 = .ok (.iload 4, 2) := by decide +kernel
theorem dX12_tidy_152 : decode cX12_tidy 152 = .ok (.iload 5, 2) := by decide +kernel
theorem dX12_tidy_154 : decode cX12_tidy 154 = .ok (.ifCond .le 8, 3) := by decide +kernel
theorem dX12_tidy_157 : decode cX12_tidy 157 = .ok (.iload 5, 2) := by decide +kernel
theorem dX12_tidy_159 : decode cX12_tidy 159 = .ok (.goto 4, 3) := by decide +kernel
theorem dX12_tidy_162 : decode cX12_tidy 162 = .ok (.iconst 1, 1) := by decide +kernel
theorem dX12_tidy_163 : decode cX12_tidy 163 = .ok (.iadd, 1) := by decide +kernel
theorem dX12_tidy_164 : decode cX12_tidy 164 = .ok (.istore 4, 2) := by decide +kernel
theorem dX12_tidy_166 : decode cX12_tidy 166 = .ok (.goto (-125), 3) := by decide +kernel
theorem dX12_tidy_169 : decode cX12_tidy 169 = .ok (.aload_n 0, 1) := by decide +kernel
theorem dX12_tidy_170 : decode cX12_tidy 170 = .ok (.iload_n 2, 1) := by decide +kernel
theorem dX12_tidy_171 : decode cX12_tidy 171 = .ok (.putfield 516, 3) := by decide +kernel
theorem dX12_tidy_174 : decode cX12_tidy 174 = .ok (.iload_n 3, 1) := by decide +kernel
theorem dX12_tidy_175 : decode cX12_tidy 175 = .ok (.ireturn, 1) := by decide +kernel
theorem dX12_takesOf_0 : decode cX12_takesOf 0 = .ok (.aload_n 0, 1) := by decide +kernel
theorem dX12_takesOf_1 : decode cX12_takesOf 1 = .ok (.getfield 169, 3) := by decide +kernel
theorem dX12_takesOf_4 : decode cX12_takesOf 4 = .ok (.ifCond .lt 8, 3) := by decide +kernel
theorem dX12_takesOf_7 : decode cX12_takesOf 7 = .ok (.aload_n 0, 1) := by decide +kernel
theorem dX12_takesOf_8 : decode cX12_takesOf 8 = .ok (.getfield 169, 3) := by decide +kernel
theorem dX12_takesOf_11 : decode cX12_takesOf 11 = .ok (.ireturn, 1) := by decide +kernel
theorem dX12_takesOf_12 : decode cX12_takesOf 12 = .ok (.aload_n 0, 1) := by decide +kernel
theorem dX12_takesOf_13 : decode cX12_takesOf 13 = .ok (.iload_n 1, 1) := by decide +kernel
theorem dX12_takesOf_14 : decode cX12_takesOf 14 = .ok (.putfield 485, 3) := by decide +kernel
theorem dX12_takesOf_17 : decode cX12_takesOf 17 = .ok (.aload_n 0, 1) := by decide +kernel
theorem dX12_takesOf_18 : decode cX12_takesOf 18 = .ok (.iload_n 2, 1) := by decide +kernel
theorem dX12_takesOf_19 : decode cX12_takesOf 19 = .ok (.putfield 488, 3) := by decide +kernel
theorem dX12_takesOf_22 : decode cX12_takesOf 22 = .ok (.aload_n 0, 1) := by decide +kernel
theorem dX12_takesOf_23 : decode cX12_takesOf 23 = .ok (.getfield 36, 3) := by decide +kernel
theorem dX12_takesOf_26 : decode cX12_takesOf 26 = .ok (.aload_n 0, 1) := by decide +kernel
theorem dX12_takesOf_27 : decode cX12_takesOf 27 = .ok (.getfield 349, 3) := by decide +kernel
theorem dX12_takesOf_30 : decode cX12_takesOf 30 = .ok (.iaload, 1) := by decide +kernel
theorem dX12_takesOf_31 : decode cX12_takesOf 31 = .ok (.iconst 0, 1) := by decide +kernel
theorem dX12_takesOf_32 : decode cX12_takesOf 32 = .ok (.invokestatic 358, 3) := by decide +kernel
theorem dX12_takesOf_35 : decode cX12_takesOf 35 = .ok (.ifCond .eq 16, 3) := by decide +kernel
theorem dX12_takesOf_38 : decode cX12_takesOf 38 = .ok (.aload_n 0, 1) := by decide +kernel
theorem dX12_takesOf_39 : decode cX12_takesOf 39 = .ok (.invokevirtual 654, 3) := by decide +kernel
theorem dX12_takesOf_42 : decode cX12_takesOf 42 = .ok (.iconst 0, 1) := by decide +kernel
theorem dX12_takesOf_43 : decode cX12_takesOf 43 = .ok (.bipush 99, 2) := by decide +kernel
theorem dX12_takesOf_45 : decode cX12_takesOf 45 = .ok (.invokestatic 657, 3) := by decide +kernel
theorem dX12_takesOf_48 : decode cX12_takesOf 48 = .ok (.goto 6, 3) := by decide +kernel
theorem dX12_takesOf_51 : decode cX12_takesOf 51 = .ok (.iconst 1, 1) := by decide +kernel
theorem dX12_takesOf_52 : decode cX12_takesOf 52 = .ok (.iload_n 1, 1) := by decide +kernel
theorem dX12_takesOf_53 : decode cX12_takesOf 53 = .ok (.iadd, 1) := by decide +kernel
theorem dX12_takesOf_54 : decode cX12_takesOf 54 = .ok (.ireturn, 1) := by decide +kernel
theorem dX12_takes_0 : decode cX12_takes 0 = .ok (.iload_n 1, 1) := by decide +kernel
theorem dX12_takes_1 : decode cX12_takes 1 = .ok (.iconst 0, 1) := by decide +kernel
theorem dX12_takes_2 : decode cX12_takes 2 = .ok (.iconst 2, 1) := by decide +kernel
theorem dX12_takes_3 : decode cX12_takes 3 = .ok (.invokestatic 500, 3) := by decide +kernel
theorem dX12_takes_6 : decode cX12_takes 6 = .ok (.ifCond .eq 22, 3) := by decide +kernel
theorem dX12_takes_9 : decode cX12_takes 9 = .ok (.iload_n 2, 1) := by decide +kernel
theorem dX12_takes_10 : decode cX12_takes 10 = .ok (.iconst 0, 1) := by decide +kernel
theorem dX12_takes_11 : decode cX12_takes 11 = .ok (.bipush 18, 2) := by decide +kernel
theorem dX12_takes_13 : decode cX12_takes 13 = .ok (.invokestatic 500, 3) := by decide +kernel
theorem dX12_takes_16 : decode cX12_takes 16 = .ok (.ifCond .eq 12, 3) := by decide +kernel
theorem dX12_takes_19 : decode cX12_takes 19 = .ok (.aload_n 0, 1) := by decide +kernel
theorem dX12_takes_20 : decode cX12_takes 20 = .ok (.iload_n 1, 1) := by decide +kernel
theorem dX12_takes_21 : decode cX12_takes 21 = .ok (.iload_n 2, 1) := by decide +kernel
theorem dX12_takes_22 : decode cX12_takes 22 = .ok (.invokevirtual 644, 3) := by decide +kernel
theorem dX12_takes_25 : decode cX12_takes 25 = .ok (.goto 4, 3) := by decide +kernel
theorem dX12_takes_28 : decode cX12_takes 28 = .ok (.iconst (-1), 1) := by decide +kernel
theorem dX12_takes_29 : decode cX12_takes 29 = .ok (.ireturn, 1) := by decide +kernel
theorem dX12_timeBy_0 : decode cX12_timeBy 0 = .ok (.iconst 0, 1) := by decide +kernel
theorem dX12_timeBy_1 : decode cX12_timeBy 1 = .ok (.istore_n 3, 1) := by decide +kernel
theorem dX12_timeBy_2 : decode cX12_timeBy 2 = .ok (.iload_n 3, 1) := by decide +kernel
theorem dX12_timeBy_3 : decode cX12_timeBy 3 = .ok (.iload_n 1, 1) := by decide +kernel
theorem dX12_timeBy_4 : decode cX12_timeBy 4 = .ok (.if_icmp .gt 62, 3) := by decide +kernel
theorem dX12_timeBy_7 : decode cX12_timeBy 7 = .ok (.iconst 0, 1) := by decide +kernel
theorem dX12_timeBy_8 : decode cX12_timeBy 8 = .ok (.istore 4, 2) := by decide +kernel
theorem dX12_timeBy_10 : decode cX12_timeBy 10 = .ok (.aload_n 0, 1) := by decide +kernel
theorem dX12_timeBy_11 : decode cX12_timeBy 11 = .ok (.getfield 175, 3) := by decide +kernel
theorem dX12_timeBy_14 : decode cX12_timeBy 14 = .ok (.iconst 0, 1) := by decide +kernel
theorem dX12_timeBy_15 : decode cX12_timeBy 15 = .ok (.iconst 0, 1) := by decide +kernel
theorem dX12_timeBy_16 : decode cX12_timeBy 16 = .ok (.iastore, 1) := by decide +kernel
theorem dX12_timeBy_17 : decode cX12_timeBy 17 = .ok (.iconst 0, 1) := by decide +kernel
theorem dX12_timeBy_18 : decode cX12_timeBy 18 = .ok (.istore 5, 2) := by decide +kernel
theorem dX12_timeBy_20 : decode cX12_timeBy 20 = .ok (.iload 5, 2) := by decide +kernel
theorem dX12_timeBy_22 : decode cX12_timeBy 22 = .ok (.aload_n 0, 1) := by decide +kernel
theorem dX12_timeBy_23 : decode cX12_timeBy 23 = .ok (.iload_n 3, 1) := by decide +kernel
theorem dX12_timeBy_24 : decode cX12_timeBy 24 = .ok (.invokevirtual 546, 3) := by decide +kernel
theorem dX12_timeBy_27 : decode cX12_timeBy 27 = .ok (.if_icmp .ge 21, 3) := by decide +kernel
theorem dX12_timeBy_30 : decode cX12_timeBy 30 = .ok (.aload_n 0, 1) := by decide +kernel
theorem dX12_timeBy_31 : decode cX12_timeBy 31 = .ok (.iload_n 3, 1) := by decide +kernel
theorem dX12_timeBy_32 : decode cX12_timeBy 32 = .ok (.iload 5, 2) := by decide +kernel
theorem dX12_timeBy_34 : decode cX12_timeBy 34 = .ok (.iload_n 2, 1) := by decide +kernel
theorem dX12_timeBy_35 : decode cX12_timeBy 35 = .ok (.iload 4, 2) := by decide +kernel
theorem dX12_timeBy_37 : decode cX12_timeBy 37 = .ok (.invokevirtual 660, 3) := by decide +kernel
theorem dX12_timeBy_40 : decode cX12_timeBy 40 = .ok (.istore 4, 2) := by decide +kernel
theorem dX12_timeBy_42 : decode cX12_timeBy 42 = .ok (.iinc 5 1, 3) := by decide +kernel
theorem dX12_timeBy_45 : decode cX12_timeBy 45 = .ok (.goto (-25), 3) := by decide +kernel
theorem dX12_timeBy_48 : decode cX12_timeBy 48 = .ok (.aload_n 0, 1) := by decide +kernel
theorem dX12_timeBy_49 : decode cX12_timeBy 49 = .ok (.getfield 172, 3) := by decide +kernel
theorem dX12_timeBy_52 : decode cX12_timeBy 52 = .ok (.iload_n 3, 1) := by decide +kernel
theorem dX12_timeBy_53 : decode cX12_timeBy 53 = .ok (.aload_n 0, 1) := by decide +kernel
theorem dX12_timeBy_54 : decode cX12_timeBy 54 = .ok (.getfield 175, 3) := by decide +kernel
theorem dX12_timeBy_57 : decode cX12_timeBy 57 = .ok (.iconst 0, 1) := by decide +kernel
theorem dX12_timeBy_58 : decode cX12_timeBy 58 = .ok (.iaload, 1) := by decide +kernel
theorem dX12_timeBy_59 : decode cX12_timeBy 59 = .ok (.iastore, 1) := by decide +kernel
theorem dX12_timeBy_60 : decode cX12_timeBy 60 = .ok (.iinc 3 1, 3) := by decide +kernel
theorem dX12_timeBy_63 : decode cX12_timeBy 63 = .ok (.goto (-61), 3) := by decide +kernel
theorem dX12_timeBy_66 : decode cX12_timeBy 66 = .ok (.aload_n 0, 1) := by decide +kernel
theorem dX12_timeBy_67 : decode cX12_timeBy 67 = .ok (.getfield 172, 3) := by decide +kernel
theorem dX12_timeBy_70 : decode cX12_timeBy 70 = .ok (.iload_n 1, 1) := by decide +kernel
theorem dX12_timeBy_71 : decode cX12_timeBy 71 = .ok (.iaload, 1) := by decide +kernel
theorem dX12_timeBy_72 : decode cX12_timeBy 72 = .ok (.ireturn, 1) := by decide +kernel
theorem dX12_addTime_0 : decode cX12_addTime 0 = .ok (.aload_n 0, 1) := by decide +kernel
theorem dX12_addTime_1 : decode cX12_addTime 1 = .ok (.iload_n 1, 1) := by decide +kernel
theorem dX12_addTime_2 : decode cX12_addTime 2 = .ok (.iload_n 2, 1) := by decide +kernel
theorem dX12_addTime_3 : decode cX12_addTime 3 = .ok (.invokevirtual 519, 3) := by decide +kernel
theorem dX12_addTime_6 : decode cX12_addTime 6 = .ok (.istore 5, 2) := by decide +kernel
theorem dX12_addTime_8 : decode cX12_addTime 8 = .ok (.aload_n 0, 1) := by decide +kernel
theorem dX12_addTime_9 : decode cX12_addTime 9 = .ok (.getfield 60, 3) := by decide +kernel
theorem dX12_addTime_12 : decode cX12_addTime 12 = .ok (.iload 5, 2) := by decide +kernel
theorem dX12_addTime_14 : decode cX12_addTime 14 = .ok (.iaload, 1) := by decide +kernel
theorem dX12_addTime_15 : decode cX12_addTime 15 = .ok (.istore 6, 2) := by decide +kernel
theorem dX12_addTime_17 : decode cX12_addTime 17 = .ok (.iload 6, 2) := by decide +kernel
theorem dX12_addTime_19 : decode cX12_addTime 19 = .ok (.ifCond .eq 9, 3) := by decide +kernel
theorem dX12_addTime_22 : decode cX12_addTime 22 = .ok (.iload 6, 2) := by decide +kernel
theorem dX12_addTime_24 : decode cX12_addTime 24 = .ok (.iconst 1, 1) := by decide +kernel
theorem dX12_addTime_25 : decode cX12_addTime 25 = .ok (.if_icmp .ne 35, 3) := by decide +kernel
theorem dX12_addTime_28 : decode cX12_addTime 28 = .ok (.aload_n 0, 1) := by decide +kernel
theorem dX12_addTime_29 : decode cX12_addTime 29 = .ok (.getfield 175, 3) := by decide +kernel
theorem dX12_addTime_32 : decode cX12_addTime 32 = .ok (.iload 4, 2) := by decide +kernel
theorem dX12_addTime_34 : decode cX12_addTime 34 = .ok (.dup2, 1) := by decide +kernel
theorem dX12_addTime_35 : decode cX12_addTime 35 = .ok (.iaload, 1) := by decide +kernel
theorem dX12_addTime_36 : decode cX12_addTime 36 = .ok (.aload_n 0, 1) := by decide +kernel
theorem dX12_addTime_37 : decode cX12_addTime 37 = .ok (.iload_n 3, 1) := by decide +kernel
theorem dX12_addTime_38 : decode cX12_addTime 38 = .ok (.iload 6, 2) := by decide +kernel
theorem dX12_addTime_40 : decode cX12_addTime 40 = .ok (.ifCond .ne 13, 3) := by decide +kernel
theorem dX12_addTime_43 : decode cX12_addTime 43 = .ok (.aload_n 0, 1) := by decide +kernel
theorem dX12_addTime_44 : decode cX12_addTime 44 = .ok (.getfield 63, 3) := by decide +kernel
theorem dX12_addTime_47 : decode cX12_addTime 47 = .ok (.iload 5, 2) := by decide +kernel
theorem dX12_addTime_49 : decode cX12_addTime 49 = .ok (.iaload, 1) := by decide +kernel
theorem dX12_addTime_50 : decode cX12_addTime 50 = .ok (.goto 5, 3) := by decide +kernel
theorem dX12_addTime_53 : decode cX12_addTime 53 = .ok (.bipush 15, 2) := by decide +kernel
theorem dX12_addTime_55 : decode cX12_addTime 55 = .ok (.invokevirtual 644, 3) := by decide +kernel
theorem dX12_addTime_58 : decode cX12_addTime 58 = .ok (.iadd, 1) := by decide +kernel
theorem dX12_addTime_59 : decode cX12_addTime 59 = .ok (.iastore, 1) := by decide +kernel
theorem dX12_addTime_60 : decode cX12_addTime 60 = .ok (.iload 6, 2) := by decide +kernel
theorem dX12_addTime_62 : decode cX12_addTime 62 = .ok (.iconst 2, 1) := by decide +kernel
theorem dX12_addTime_63 : decode cX12_addTime 63 = .ok (.if_icmp .ne 51, 3) := by decide +kernel
theorem dX12_addTime_66 : decode cX12_addTime 66 = .ok (.aload_n 0, 1) := by decide +kernel
theorem dX12_addTime_67 : decode cX12_addTime 67 = .ok (.getfield 175, 3) := by decide +kernel
theorem dX12_addTime_70 : decode cX12_addTime 70 = .ok (.iload 4, 2) := by decide +kernel
theorem dX12_addTime_72 : decode cX12_addTime 72 = .ok (.dup2, 1) := by decide +kernel
theorem dX12_addTime_73 : decode cX12_addTime 73 = .ok (.iaload, 1) := by decide +kernel
theorem dX12_addTime_74 : decode cX12_addTime 74 = .ok (.aload_n 0, 1) := by decide +kernel
theorem dX12_addTime_75 : decode cX12_addTime 75 = .ok (.getfield 172, 3) := by decide +kernel
theorem dX12_addTime_78 : decode cX12_addTime 78 = .ok (.aload_n 0, 1) := by decide +kernel
theorem dX12_addTime_79 : decode cX12_addTime 79 = .ok (.getfield 63, 3) := by decide +kernel
theorem dX12_addTime_82 : decode cX12_addTime 82 = .ok (.iload 5, 2) := by decide +kernel
theorem dX12_addTime_84 : decode cX12_addTime 84 = .ok (.iaload, 1) := by decide +kernel
theorem dX12_addTime_85 : decode cX12_addTime 85 = .ok (.iaload, 1) := by decide +kernel
theorem dX12_addTime_86 : decode cX12_addTime 86 = .ok (.aload_n 0, 1) := by decide +kernel
theorem dX12_addTime_87 : decode cX12_addTime 87 = .ok (.aload_n 0, 1) := by decide +kernel
theorem dX12_addTime_88 : decode cX12_addTime 88 = .ok (.getfield 63, 3) := by decide +kernel
theorem dX12_addTime_91 : decode cX12_addTime 91 = .ok (.iload 5, 2) := by decide +kernel
theorem dX12_addTime_93 : decode cX12_addTime 93 = .ok (.iaload, 1) := by decide +kernel
theorem dX12_addTime_94 : decode cX12_addTime 94 = .ok (.invokevirtual 582, 3) := by decide +kernel
theorem dX12_addTime_97 : decode cX12_addTime 97 = .ok (.ifCond .eq 7, 3) := by decide +kernel
theorem dX12_addTime_100 : decode cX12_addTime 100 = .ok (.iconst 0, 1) := by decide +kernel
theorem dX12_addTime_101 : decode cX12_addTime 101 = .ok (.goto 10, 3) := by decide +kernel
theorem dX12_addTime_104 : decode cX12_addTime 104 = .ok (.aload_n 0, 1) := by decide +kernel
theorem dX12_addTime_105 : decode cX12_addTime 105 = .ok (.iload_n 3, 1) := by decide +kernel
theorem dX12_addTime_106 : decode cX12_addTime 106 = .ok (.bipush 16, 2) := by decide +kernel
theorem dX12_addTime_108 : decode cX12_addTime 108 = .ok (.invokevirtual 644, 3) := by decide +kernel
theorem dX12_addTime_111 : decode cX12_addTime 111 = .ok (.iadd, 1) := by decide +kernel
theorem dX12_addTime_112 : decode cX12_addTime 112 = .ok (.iadd, 1) := by decide +kernel
theorem dX12_addTime_113 : decode cX12_addTime 113 = .ok (.iastore, 1) := by decide +kernel
theorem dX12_addTime_114 : decode cX12_addTime 114 = .ok (.iload 6, 2) := by decide +kernel
theorem dX12_addTime_116 : decode cX12_addTime 116 = .ok (.iconst 3, 1) := by decide +kernel
theorem dX12_addTime_117 : decode cX12_addTime 117 = .ok (.if_icmp .eq 10, 3) := by decide +kernel
theorem dX12_addTime_120 : decode cX12_addTime 120 = .ok (.iload 6, 2) := by decide +kernel
theorem dX12_addTime_122 : decode cX12_addTime 122 = .ok (.bipush 6, 2) := by decide +kernel
theorem dX12_addTime_124 : decode cX12_addTime 124 = .ok (.if_icmp .ne 28, 3) := by decide +kernel
theorem dX12_addTime_127 : decode cX12_addTime 127 = .ok (.aload_n 0, 1) := by decide +kernel
theorem dX12_addTime_128 : decode cX12_addTime 128 = .ok (.getfield 175, 3) := by decide +kernel
theorem dX12_addTime_131 : decode cX12_addTime 131 = .ok (.iload 4, 2) := by decide +kernel
theorem dX12_addTime_133 : decode cX12_addTime 133 = .ok (.iconst 1, 1) := by decide +kernel
theorem dX12_addTime_134 : decode cX12_addTime 134 = .ok (.iadd, 1) := by decide +kernel
theorem dX12_addTime_135 : decode cX12_addTime 135 = .ok (.iconst 0, 1) := by decide +kernel
theorem dX12_addTime_136 : decode cX12_addTime 136 = .ok (.iastore, 1) := by decide +kernel
theorem dX12_addTime_137 : decode cX12_addTime 137 = .ok (.aload_n 0, 1) := by decide +kernel
theorem dX12_addTime_138 : decode cX12_addTime 138 = .ok (.getfield 178, 3) := by decide +kernel
theorem dX12_addTime_141 : decode cX12_addTime 141 = .ok (.iload 4, 2) := by decide +kernel
theorem dX12_addTime_143 : decode cX12_addTime 143 = .ok (.iconst 1, 1) := by decide +kernel
theorem dX12_addTime_144 : decode cX12_addTime 144 = .ok (.iadd, 1) := by decide +kernel
theorem dX12_addTime_145 : decode cX12_addTime 145 = .ok (.iconst 0, 1) := by decide +kernel
theorem dX12_addTime_146 : decode cX12_addTime 146 = .ok (.iastore, 1) := by decide +kernel
theorem dX12_addTime_147 : decode cX12_addTime 147 = .ok (.iload 4, 2) := by decide +kernel
theorem dX12_addTime_149 : decode cX12_addTime 149 = .ok (.iconst 1, 1) := by decide +kernel
theorem dX12_addTime_150 : decode cX12_addTime 150 = .ok (.iadd, 1) := by decide +kernel
theorem dX12_addTime_151 : decode cX12_addTime 151 = .ok (.ireturn, 1) := by decide +kernel
theorem dX12_addTime_152 : decode cX12_addTime 152 = .ok (.iload 6, 2) := by decide +kernel
theorem dX12_addTime_154 : decode cX12_addTime 154 = .ok (.iconst 4, 1) := by decide +kernel
theorem dX12_addTime_155 : decode cX12_addTime 155 = .ok (.if_icmp .ne 25, 3) := by decide +kernel
theorem dX12_addTime_158 : decode cX12_addTime 158 = .ok (.aload_n 0, 1) := by decide +kernel
theorem dX12_addTime_159 : decode cX12_addTime 159 = .ok (.getfield 178, 3) := by decide +kernel
theorem dX12_addTime_162 : decode cX12_addTime 162 = .ok (.iload 4, 2) := by decide +kernel
theorem dX12_addTime_164 : decode cX12_addTime 164 = .ok (.aload_n 0, 1) := by decide +kernel
theorem dX12_addTime_165 : decode cX12_addTime 165 = .ok (.getfield 175, 3) := by decide +kernel
theorem dX12_addTime_168 : decode cX12_addTime 168 = .ok (.iload 4, 2) := by decide +kernel
theorem dX12_addTime_170 : decode cX12_addTime 170 = .ok (.iaload, 1) := by decide +kernel
theorem dX12_addTime_171 : decode cX12_addTime 171 = .ok (.iastore, 1) := by decide +kernel
theorem dX12_addTime_172 : decode cX12_addTime 172 = .ok (.aload_n 0, 1) := by decide +kernel
theorem dX12_addTime_173 : decode cX12_addTime 173 = .ok (.getfield 175, 3) := by decide +kernel
theorem dX12_addTime_176 : decode cX12_addTime 176 = .ok (.iload 4, 2) := by decide +kernel
theorem dX12_addTime_178 : decode cX12_addTime 178 = .ok (.iconst 0, 1) := by decide +kernel
theorem dX12_addTime_179 : decode cX12_addTime 179 = .ok (.iastore, 1) := by decide +kernel
theorem dX12_addTime_180 : decode cX12_addTime 180 = .ok (.iload 6, 2) := by decide +kernel
theorem dX12_addTime_182 : decode cX12_addTime 182 = .ok (.iconst 5, 1) := by decide +kernel
theorem dX12_addTime_183 : decode cX12_addTime 183 = .ok (.if_icmp .ne 40, 3) := by decide +kernel
theorem dX12_addTime_186 : decode cX12_addTime 186 = .ok (.aload_n 0, 1) := by decide +kernel
theorem dX12_addTime_187 : decode cX12_addTime 187 = .ok (.getfield 175, 3) := by decide +kernel
theorem dX12_addTime_190 : decode cX12_addTime 190 = .ok (.iload 4, 2) := by decide +kernel
theorem dX12_addTime_192 : decode cX12_addTime 192 = .ok (.iconst 1, 1) := by decide +kernel
theorem dX12_addTime_193 : decode cX12_addTime 193 = .ok (.isub, 1) := by decide +kernel
theorem dX12_addTime_194 : decode cX12_addTime 194 = .ok (.dup2, 1) := by decide +kernel
theorem dX12_addTime_195 : decode cX12_addTime 195 = .ok (.iaload, 1) := by decide +kernel
theorem dX12_addTime_196 : decode cX12_addTime 196 = .ok (.aload_n 0, 1) := by decide +kernel
theorem dX12_addTime_197 : decode cX12_addTime 197 = .ok (.iload_n 3, 1) := by decide +kernel
theorem dX12_addTime_198 : decode cX12_addTime 198 = .ok (.bipush 17, 2) := by decide +kernel
theorem dX12_addTime_200 : decode cX12_addTime 200 = .ok (.invokevirtual 644, 3) := by decide +kernel
theorem dX12_addTime_203 : decode cX12_addTime 203 = .ok (.aload_n 0, 1) := by decide +kernel
theorem dX12_addTime_204 : decode cX12_addTime 204 = .ok (.getfield 175, 3) := by decide +kernel
theorem dX12_addTime_207 : decode cX12_addTime 207 = .ok (.iload 4, 2) := by decide +kernel
theorem dX12_addTime_209 : decode cX12_addTime 209 = .ok (.iaload, 1) := by decide +kernel
theorem dX12_addTime_210 : decode cX12_addTime 210 = .ok (.aload_n 0, 1) := by decide +kernel
theorem dX12_addTime_211 : decode cX12_addTime 211 = .ok (.getfield 178, 3) := by decide +kernel
theorem dX12_addTime_214 : decode cX12_addTime 214 = .ok (.iload 4, 2) := by decide +kernel
theorem dX12_addTime_216 : decode cX12_addTime 216 = .ok (.iaload, 1) := by decide +kernel
theorem dX12_addTime_217 : decode cX12_addTime 217 = .ok (.invokestatic 588, 3) := by decide +kernel
theorem dX12_addTime_220 : decode cX12_addTime 220 = .ok (.iadd, 1) := by decide +kernel
theorem dX12_addTime_221 : decode cX12_addTime 221 = .ok (.iadd, 1) := by decide +kernel
theorem dX12_addTime_222 : decode cX12_addTime 222 = .ok (.iastore, 1) := by decide +kernel
theorem dX12_addTime_223 : decode cX12_addTime 223 = .ok (.iload 6, 2) := by decide +kernel
theorem dX12_addTime_225 : decode cX12_addTime 225 = .ok (.bipush 7, 2) := by decide +kernel
theorem dX12_addTime_227 : decode cX12_addTime 227 = .ok (.if_icmp .ne 43, 3) := by decide +kernel
theorem dX12_addTime_230 : decode cX12_addTime 230 = .ok (.aload_n 0, 1) := by decide +kernel
theorem dX12_addTime_231 : decode cX12_addTime 231 = .ok (.getfield 175, 3) := by decide +kernel
theorem dX12_addTime_234 : decode cX12_addTime 234 = .ok (.iload 4, 2) := by decide +kernel
theorem dX12_addTime_236 : decode cX12_addTime 236 = .ok (.iconst 1, 1) := by decide +kernel
theorem dX12_addTime_237 : decode cX12_addTime 237 = .ok (.isub, 1) := by decide +kernel
theorem dX12_addTime_238 : decode cX12_addTime 238 = .ok (.dup2, 1) := by decide +kernel
theorem dX12_addTime_239 : decode cX12_addTime 239 = .ok (.iaload, 1) := by decide +kernel
theorem dX12_addTime_240 : decode cX12_addTime 240 = .ok (.aload_n 0, 1) := by decide +kernel
theorem dX12_addTime_241 : decode cX12_addTime 241 = .ok (.getfield 63, 3) := by decide +kernel
theorem dX12_addTime_244 : decode cX12_addTime 244 = .ok (.aload_n 0, 1) := by decide +kernel
theorem dX12_addTime_245 : decode cX12_addTime 245 = .ok (.getfield 69, 3) := by decide +kernel
theorem dX12_addTime_248 : decode cX12_addTime 248 = .ok (.iload 5, 2) := by decide +kernel
theorem dX12_addTime_250 : decode cX12_addTime 250 = .ok (.iaload, 1) := by decide +kernel
theorem dX12_addTime_251 : decode cX12_addTime 251 = .ok (.iaload, 1) := by decide +kernel
theorem dX12_addTime_252 : decode cX12_addTime 252 = .ok (.aload_n 0, 1) := by decide +kernel
theorem dX12_addTime_253 : decode cX12_addTime 253 = .ok (.iload_n 3, 1) := by decide +kernel
theorem dX12_addTime_254 : decode cX12_addTime 254 = .ok (.bipush 18, 2) := by decide +kernel
theorem dX12_addTime_256 : decode cX12_addTime 256 = .ok (.invokevirtual 644, 3) := by decide +kernel
theorem dX12_addTime_259 : decode cX12_addTime 259 = .ok (.aload_n 0, 1) := by decide +kernel
theorem dX12_addTime_260 : decode cX12_addTime 260 = .ok (.getfield 175, 3) := by decide +kernel
theorem dX12_addTime_263 : decode cX12_addTime 263 = .ok (.iload 4, 2) := by decide +kernel
theorem dX12_addTime_265 : decode cX12_addTime 265 = .ok (.iaload, 1) := by decide +kernel
theorem dX12_addTime_266 : decode cX12_addTime 266 = .ok (.iadd, 1) := by decide +kernel
theorem dX12_addTime_267 : decode cX12_addTime 267 = .ok (.imul, 1) := by decide +kernel
theorem dX12_addTime_268 : decode cX12_addTime 268 = .ok (.iadd, 1) := by decide +kernel
theorem dX12_addTime_269 : decode cX12_addTime 269 = .ok (.iastore, 1) := by decide +kernel
theorem dX12_addTime_270 : decode cX12_addTime 270 = .ok (.iload 6, 2) := by decide +kernel
theorem dX12_addTime_272 : decode cX12_addTime 272 = .ok (.iconst 5, 1) := by decide +kernel
theorem dX12_addTime_273 : decode cX12_addTime 273 = .ok (.if_icmp .eq 10, 3) := by decide +kernel
theorem dX12_addTime_276 : decode cX12_addTime 276 = .ok (.iload 6, 2) := by decide +kernel
theorem dX12_addTime_278 : decode cX12_addTime 278 = .ok (.bipush 7, 2) := by decide +kernel
theorem dX12_addTime_280 : decode cX12_addTime 280 = .ok (.if_icmp .ne 10, 3) := by decide +kernel
theorem dX12_addTime_283 : decode cX12_addTime 283 = .ok (.iload 4, 2) := by decide +kernel
theorem dX12_addTime_285 : decode cX12_addTime 285 = .ok (.iconst 1, 1) := by decide +kernel
theorem dX12_addTime_286 : decode cX12_addTime 286 = .ok (.isub, 1) := by decide +kernel
theorem dX12_addTime_287 : decode cX12_addTime 287 = .ok (.goto 5, 3) := by decide +kernel
theorem dX12_addTime_290 : decode cX12_addTime 290 = .ok (.iload 4, 2) := by decide +kernel
theorem dX12_addTime_292 : decode cX12_addTime 292 = .ok (.ireturn, 1) := by decide +kernel
theorem dX12_roomBy_0 : decode cX12_roomBy 0 = .ok (.iconst 0, 1) := by decide +kernel
theorem dX12_roomBy_1 : decode cX12_roomBy 1 = .ok (.istore_n 3, 1) := by decide +kernel
theorem dX12_roomBy_2 : decode cX12_roomBy 2 = .ok (.iload_n 3, 1) := by decide +kernel
theorem dX12_roomBy_3 : decode cX12_roomBy 3 = .ok (.iload_n 1, 1) := by decide +kernel
theorem dX12_roomBy_4 : decode cX12_roomBy 4 = .ok (.if_icmp .gt 58, 3) := by decide +kernel
theorem dX12_roomBy_7 : decode cX12_roomBy 7 = .ok (.aload_n 0, 1) := by decide +kernel
theorem dX12_roomBy_8 : decode cX12_roomBy 8 = .ok (.getfield 181, 3) := by decide +kernel
theorem dX12_roomBy_11 : decode cX12_roomBy 11 = .ok (.iload_n 3, 1) := by decide +kernel
theorem dX12_roomBy_12 : decode cX12_roomBy 12 = .ok (.iconst 1, 1) := by decide +kernel
theorem dX12_roomBy_13 : decode cX12_roomBy 13 = .ok (.iload_n 2, 1) := by decide +kernel
theorem dX12_roomBy_14 : decode cX12_roomBy 14 = .ok (.iadd, 1) := by decide +kernel
theorem dX12_roomBy_15 : decode cX12_roomBy 15 = .ok (.iastore, 1) := by decide +kernel
theorem dX12_roomBy_16 : decode cX12_roomBy 16 = .ok (.iconst 0, 1) := by decide +kernel
theorem dX12_roomBy_17 : decode cX12_roomBy 17 = .ok (.istore 4, 2) := by decide +kernel
theorem dX12_roomBy_19 : decode cX12_roomBy 19 = .ok (.iload 4, 2) := by decide +kernel
theorem dX12_roomBy_21 : decode cX12_roomBy 21 = .ok (.aload_n 0, 1) := by decide +kernel
theorem dX12_roomBy_22 : decode cX12_roomBy 22 = .ok (.iload_n 3, 1) := by decide +kernel
theorem dX12_roomBy_23 : decode cX12_roomBy 23 = .ok (.invokevirtual 546, 3) := by decide +kernel
theorem dX12_roomBy_26 : decode cX12_roomBy 26 = .ok (.if_icmp .ge 30, 3) := by decide +kernel
theorem dX12_roomBy_29 : decode cX12_roomBy 29 = .ok (.aload_n 0, 1) := by decide +kernel
theorem dX12_roomBy_30 : decode cX12_roomBy 30 = .ok (.getfield 181, 3) := by decide +kernel
theorem dX12_roomBy_33 : decode cX12_roomBy 33 = .ok (.iload_n 3, 1) := by decide +kernel
theorem dX12_roomBy_34 : decode cX12_roomBy 34 = .ok (.dup2, 1) := by decide +kernel
theorem dX12_roomBy_35 : decode cX12_roomBy 35 = .ok (.iaload, 1) := by decide +kernel
theorem dX12_roomBy_36 : decode cX12_roomBy 36 = .ok (.aload_n 0, 1) := by decide +kernel
theorem dX12_roomBy_37 : decode cX12_roomBy 37 = .ok (.aload_n 0, 1) := by decide +kernel
theorem dX12_roomBy_38 : decode cX12_roomBy 38 = .ok (.iload_n 3, 1) := by decide +kernel
theorem dX12_roomBy_39 : decode cX12_roomBy 39 = .ok (.iload 4, 2) := by decide +kernel
theorem dX12_roomBy_41 : decode cX12_roomBy 41 = .ok (.invokevirtual 519, 3) := by decide +kernel
theorem dX12_roomBy_44 : decode cX12_roomBy 44 = .ok (.iload_n 2, 1) := by decide +kernel
theorem dX12_roomBy_45 : decode cX12_roomBy 45 = .ok (.invokevirtual 664, 3) := by decide +kernel
theorem dX12_roomBy_48 : decode cX12_roomBy 48 = .ok (.iadd, 1) := by decide +kernel
theorem dX12_roomBy_49 : decode cX12_roomBy 49 = .ok (.iastore, 1) := by decide +kernel
theorem dX12_roomBy_50 : decode cX12_roomBy 50 = .ok (.iinc 4 1, 3) := by decide +kernel
theorem dX12_roomBy_53 : decode cX12_roomBy 53 = .ok (.goto (-34), 3) := by decide +kernel
theorem dX12_roomBy_56 : decode cX12_roomBy 56 = .ok (.iinc 3 1, 3) := by decide +kernel
theorem dX12_roomBy_59 : decode cX12_roomBy 59 = .ok (.goto (-57), 3) := by decide +kernel
theorem dX12_roomBy_62 : decode cX12_roomBy 62 = .ok (.aload_n 0, 1) := by decide +kernel
theorem dX12_roomBy_63 : decode cX12_roomBy 63 = .ok (.getfield 181, 3) := by decide +kernel
theorem dX12_roomBy_66 : decode cX12_roomBy 66 = .ok (.iload_n 1, 1) := by decide +kernel
theorem dX12_roomBy_67 : decode cX12_roomBy 67 = .ok (.iaload, 1) := by decide +kernel
theorem dX12_roomBy_68 : decode cX12_roomBy 68 = .ok (.ireturn, 1) := by decide +kernel
theorem dX12_roomOfItem_0 : decode cX12_roomOfItem 0 = .ok (.aload_n 0, 1) := by decide +kernel
theorem dX12_roomOfItem_1 : decode cX12_roomOfItem 1 = .ok (.getfield 60, 3) := by decide +kernel
theorem dX12_roomOfItem_4 : decode cX12_roomOfItem 4 = .ok (.iload_n 1, 1) := by decide +kernel
theorem dX12_roomOfItem_5 : decode cX12_roomOfItem 5 = .ok (.iaload, 1) := by decide +kernel
theorem dX12_roomOfItem_6 : decode cX12_roomOfItem 6 = .ok (.tableswitch 86 0 5 #[38, 40, 51, 86, 86, 84], 38) := by decide +kernel
theorem dX12_roomOfItem_44 : decode cX12_roomOfItem 44 = .ok (.iconst 1, 1) := by decide +kernel
theorem dX12_roomOfItem_45 : decode cX12_roomOfItem 45 = .ok (.ireturn, 1) := by decide +kernel
theorem dX12_roomOfItem_46 : decode cX12_roomOfItem 46 = .ok (.iload_n 2, 1) := by decide +kernel
theorem dX12_roomOfItem_47 : decode cX12_roomOfItem 47 = .ok (.iconst 2, 1) := by decide +kernel
theorem dX12_roomOfItem_48 : decode cX12_roomOfItem 48 = .ok (.if_icmp .ne 7, 3) := by decide +kernel
theorem dX12_roomOfItem_51 : decode cX12_roomOfItem 51 = .ok (.iconst 3, 1) := by decide +kernel
theorem dX12_roomOfItem_52 : decode cX12_roomOfItem 52 = .ok (.goto 4, 3) := by decide +kernel
theorem dX12_roomOfItem_55 : decode cX12_roomOfItem 55 = .ok (.iconst 2, 1) := by decide +kernel
theorem dX12_roomOfItem_56 : decode cX12_roomOfItem 56 = .ok (.ireturn, 1) := by decide +kernel
theorem dX12_roomOfItem_57 : decode cX12_roomOfItem 57 = .ok (.aload_n 0, 1) := by decide +kernel
theorem dX12_roomOfItem_58 : decode cX12_roomOfItem 58 = .ok (.aload_n 0, 1) := by decide +kernel
theorem dX12_roomOfItem_59 : decode cX12_roomOfItem 59 = .ok (.getfield 63, 3) := by decide +kernel
theorem dX12_roomOfItem_62 : decode cX12_roomOfItem 62 = .ok (.iload_n 1, 1) := by decide +kernel
theorem dX12_roomOfItem_63 : decode cX12_roomOfItem 63 = .ok (.iaload, 1) := by decide +kernel
theorem dX12_roomOfItem_64 : decode cX12_roomOfItem 64 = .ok (.invokevirtual 582, 3) := by decide +kernel
theorem dX12_roomOfItem_67 : decode cX12_roomOfItem 67 = .ok (.ifCond .eq 21, 3) := by decide +kernel
theorem dX12_roomOfItem_70 : decode cX12_roomOfItem 70 = .ok (.aload_n 0, 1) := by decide +kernel
theorem dX12_roomOfItem_71 : decode cX12_roomOfItem 71 = .ok (.getfield 181, 3) := by decide +kernel
theorem dX12_roomOfItem_74 : decode cX12_roomOfItem 74 = .ok (.aload_n 0, 1) := by decide +kernel
theorem dX12_roomOfItem_75 : decode cX12_roomOfItem 75 = .ok (.getfield 63, 3) := by decide +kernel
theorem dX12_roomOfItem_78 : decode cX12_roomOfItem 78 = .ok (.iload_n 1, 1) := by decide +kernel
theorem dX12_roomOfItem_79 : decode cX12_roomOfItem 79 = .ok (.iaload, 1) := by decide +kernel
theorem dX12_roomOfItem_80 : decode cX12_roomOfItem 80 = .ok (.iaload, 1) := by decide +kernel
theorem dX12_roomOfItem_81 : decode cX12_roomOfItem 81 = .ok (.iconst 1, 1) := by decide +kernel
theorem dX12_roomOfItem_82 : decode cX12_roomOfItem 82 = .ok (.isub, 1) := by decide +kernel
theorem dX12_roomOfItem_83 : decode cX12_roomOfItem 83 = .ok (.iload_n 2, 1) := by decide +kernel
theorem dX12_roomOfItem_84 : decode cX12_roomOfItem 84 = .ok (.isub, 1) := by decide +kernel
theorem dX12_roomOfItem_85 : decode cX12_roomOfItem 85 = .ok (.goto 4, 3) := by decide +kernel
theorem dX12_roomOfItem_88 : decode cX12_roomOfItem 88 = .ok (.iconst 1, 1) := by decide +kernel
theorem dX12_roomOfItem_89 : decode cX12_roomOfItem 89 = .ok (.ireturn, 1) := by decide +kernel
theorem dX12_roomOfItem_90 : decode cX12_roomOfItem 90 = .ok (.iconst 0, 1) := by decide +kernel
theorem dX12_roomOfItem_91 : decode cX12_roomOfItem 91 = .ok (.ireturn, 1) := by decide +kernel
theorem dX12_roomOfItem_92 : decode cX12_roomOfItem 92 = .ok (.iconst 2, 1) := by decide +kernel
theorem dX12_roomOfItem_93 : decode cX12_roomOfItem 93 = .ok (.ireturn, 1) := by decide +kernel
theorem dX12_isForm_0 : decode cX12_isForm 0 = .ok (.iload_n 1, 1) := by decide +kernel
theorem dX12_isForm_1 : decode cX12_isForm 1 = .ok (.iconst 0, 1) := by decide +kernel
theorem dX12_isForm_2 : decode cX12_isForm 2 = .ok (.iconst 2, 1) := by decide +kernel
theorem dX12_isForm_3 : decode cX12_isForm 3 = .ok (.invokestatic 500, 3) := by decide +kernel
theorem dX12_isForm_6 : decode cX12_isForm 6 = .ok (.ireturn, 1) := by decide +kernel
theorem dX12_time_0 : decode cX12_time 0 = .ok (.aload_n 0, 1) := by decide +kernel
theorem dX12_time_1 : decode cX12_time 1 = .ok (.iload_n 1, 1) := by decide +kernel
theorem dX12_time_2 : decode cX12_time 2 = .ok (.invokevirtual 570, 3) := by decide +kernel
theorem dX12_time_5 : decode cX12_time 5 = .ok (.ifCond .eq 20, 3) := by decide +kernel
theorem dX12_time_8 : decode cX12_time 8 = .ok (.aload_n 0, 1) := by decide +kernel
theorem dX12_time_9 : decode cX12_time 9 = .ok (.iload_n 2, 1) := by decide +kernel
theorem dX12_time_10 : decode cX12_time 10 = .ok (.invokevirtual 667, 3) := by decide +kernel
theorem dX12_time_13 : decode cX12_time 13 = .ok (.ifCond .eq 12, 3) := by decide +kernel
theorem dX12_time_16 : decode cX12_time 16 = .ok (.aload_n 0, 1) := by decide +kernel
theorem dX12_time_17 : decode cX12_time 17 = .ok (.iload_n 1, 1) := by decide +kernel
theorem dX12_time_18 : decode cX12_time 18 = .ok (.iload_n 2, 1) := by decide +kernel
theorem dX12_time_19 : decode cX12_time 19 = .ok (.invokevirtual 670, 3) := by decide +kernel
theorem dX12_time_22 : decode cX12_time 22 = .ok (.goto 4, 3) := by decide +kernel
theorem dX12_time_25 : decode cX12_time 25 = .ok (.iconst (-1), 1) := by decide +kernel
theorem dX12_time_26 : decode cX12_time 26 = .ok (.ireturn, 1) := by decide +kernel
theorem dX12_room_0 : decode cX12_room 0 = .ok (.aload_n 0, 1) := by decide +kernel
theorem dX12_room_1 : decode cX12_room 1 = .ok (.iload_n 1, 1) := by decide +kernel
theorem dX12_room_2 : decode cX12_room 2 = .ok (.invokevirtual 570, 3) := by decide +kernel
theorem dX12_room_5 : decode cX12_room 5 = .ok (.ifCond .eq 20, 3) := by decide +kernel
theorem dX12_room_8 : decode cX12_room 8 = .ok (.aload_n 0, 1) := by decide +kernel
theorem dX12_room_9 : decode cX12_room 9 = .ok (.iload_n 2, 1) := by decide +kernel
theorem dX12_room_10 : decode cX12_room 10 = .ok (.invokevirtual 667, 3) := by decide +kernel
theorem dX12_room_13 : decode cX12_room 13 = .ok (.ifCond .eq 12, 3) := by decide +kernel
theorem dX12_room_16 : decode cX12_room 16 = .ok (.aload_n 0, 1) := by decide +kernel
theorem dX12_room_17 : decode cX12_room 17 = .ok (.iload_n 1, 1) := by decide +kernel
theorem dX12_room_18 : decode cX12_room 18 = .ok (.iload_n 2, 1) := by decide +kernel
theorem dX12_room_19 : decode cX12_room 19 = .ok (.invokevirtual 673, 3) := by decide +kernel
theorem dX12_room_22 : decode cX12_room 22 = .ok (.goto 4, 3) := by decide +kernel
theorem dX12_room_25 : decode cX12_room 25 = .ok (.iconst (-1), 1) := by decide +kernel
theorem dX12_room_26 : decode cX12_room 26 = .ok (.ireturn, 1) := by decide +kernel
theorem dX12_best_0 : decode cX12_best 0 = .ok (.aload_n 0, 1) := by decide +kernel
theorem dX12_best_1 : decode cX12_best 1 = .ok (.iload_n 1, 1) := by decide +kernel
theorem dX12_best_2 : decode cX12_best 2 = .ok (.invokevirtual 570, 3) := by decide +kernel
theorem dX12_best_5 : decode cX12_best 5 = .ok (.ifCond .ne 5, 3) := by decide +kernel
theorem dX12_best_8 : decode cX12_best 8 = .ok (.iconst (-1), 1) := by decide +kernel
theorem dX12_best_9 : decode cX12_best 9 = .ok (.ireturn, 1) := by decide +kernel
theorem dX12_best_10 : decode cX12_best 10 = .ok (.iconst 0, 1) := by decide +kernel
theorem dX12_best_11 : decode cX12_best 11 = .ok (.istore_n 2, 1) := by decide +kernel
theorem dX12_best_12 : decode cX12_best 12 = .ok (.iconst 1, 1) := by decide +kernel
theorem dX12_best_13 : decode cX12_best 13 = .ok (.istore_n 3, 1) := by decide +kernel
theorem dX12_best_14 : decode cX12_best 14 = .ok (.iload_n 3, 1) := by decide +kernel
theorem dX12_best_15 : decode cX12_best 15 = .ok (.iconst 3, 1) := by decide +kernel
theorem dX12_best_16 : decode cX12_best 16 = .ok (.if_icmp .ge 51, 3) := by decide +kernel
theorem dX12_best_19 : decode cX12_best 19 = .ok (.aload_n 0, 1) := by decide +kernel
theorem dX12_best_20 : decode cX12_best 20 = .ok (.iload_n 1, 1) := by decide +kernel
theorem dX12_best_21 : decode cX12_best 21 = .ok (.iload_n 2, 1) := by decide +kernel
theorem dX12_best_22 : decode cX12_best 22 = .ok (.invokevirtual 670, 3) := by decide +kernel
theorem dX12_best_25 : decode cX12_best 25 = .ok (.aload_n 0, 1) := by decide +kernel
theorem dX12_best_26 : decode cX12_best 26 = .ok (.iload_n 1, 1) := by decide +kernel
theorem dX12_best_27 : decode cX12_best 27 = .ok (.iload_n 3, 1) := by decide +kernel
theorem dX12_best_28 : decode cX12_best 28 = .ok (.invokevirtual 670, 3) := by decide +kernel
theorem dX12_best_31 : decode cX12_best 31 = .ok (.isub, 1) := by decide +kernel
theorem dX12_best_32 : decode cX12_best 32 = .ok (.istore 4, 2) := by decide +kernel
theorem dX12_best_34 : decode cX12_best 34 = .ok (.iload 4, 2) := by decide +kernel
theorem dX12_best_36 : decode cX12_best 36 = .ok (.ifCond .gt 23, 3) := by decide +kernel
theorem dX12_best_39 : decode cX12_best 39 = .ok (.iload 4, 2) := by decide +kernel
theorem dX12_best_41 : decode cX12_best 41 = .ok (.ifCond .ne 20, 3) := by decide +kernel
theorem dX12_best_44 : decode cX12_best 44 = .ok (.aload_n 0, 1) := by decide +kernel
theorem dX12_best_45 : decode cX12_best 45 = .ok (.iload_n 1, 1) := by decide +kernel
theorem dX12_best_46 : decode cX12_best 46 = .ok (.iload_n 3, 1) := by decide +kernel
theorem dX12_best_47 : decode cX12_best 47 = .ok (.invokevirtual 673, 3) := by decide +kernel
theorem dX12_best_50 : decode cX12_best 50 = .ok (.aload_n 0, 1) := by decide +kernel
theorem dX12_best_51 : decode cX12_best 51 = .ok (.iload_n 1, 1) := by decide +kernel
theorem dX12_best_52 : decode cX12_best 52 = .ok (.iload_n 2, 1) := by decide +kernel
theorem dX12_best_53 : decode cX12_best 53 = .ok (.invokevirtual 673, 3) := by decide +kernel
theorem dX12_best_56 : decode cX12_best 56 = .ok (.if_icmp .ge 5, 3) := by decide +kernel
theorem dX12_best_59 : decode cX12_best 59 = .ok (.iload_n 3, 1) := by decide +kernel
theorem dX12_best_60 : decode cX12_best 60 = .ok (.istore_n 2, 1) := by decide +kernel
theorem dX12_best_61 : decode cX12_best 61 = .ok (.iinc 3 1, 3) := by decide +kernel
theorem dX12_best_64 : decode cX12_best 64 = .ok (.goto (-50), 3) := by decide +kernel
theorem dX12_best_67 : decode cX12_best 67 = .ok (.iload_n 2, 1) := by decide +kernel
theorem dX12_best_68 : decode cX12_best 68 = .ok (.ireturn, 1) := by decide +kernel
theorem dX12_total_0 : decode cX12_total 0 = .ok (.aload_n 0, 1) := by decide +kernel
theorem dX12_total_1 : decode cX12_total 1 = .ok (.iload_n 1, 1) := by decide +kernel
theorem dX12_total_2 : decode cX12_total 2 = .ok (.invokevirtual 667, 3) := by decide +kernel
theorem dX12_total_5 : decode cX12_total 5 = .ok (.ifCond .ne 5, 3) := by decide +kernel
theorem dX12_total_8 : decode cX12_total 8 = .ok (.iconst (-1), 1) := by decide +kernel
theorem dX12_total_9 : decode cX12_total 9 = .ok (.ireturn, 1) := by decide +kernel
theorem dX12_total_10 : decode cX12_total 10 = .ok (.iconst 0, 1) := by decide +kernel
theorem dX12_total_11 : decode cX12_total 11 = .ok (.istore_n 2, 1) := by decide +kernel
theorem dX12_total_12 : decode cX12_total 12 = .ok (.iconst 0, 1) := by decide +kernel
theorem dX12_total_13 : decode cX12_total 13 = .ok (.istore_n 3, 1) := by decide +kernel
theorem dX12_total_14 : decode cX12_total 14 = .ok (.iload_n 3, 1) := by decide +kernel
theorem dX12_total_15 : decode cX12_total 15 = .ok (.aload_n 0, 1) := by decide +kernel
theorem dX12_total_16 : decode cX12_total 16 = .ok (.invokevirtual 497, 3) := by decide +kernel
theorem dX12_total_19 : decode cX12_total 19 = .ok (.if_icmp .ge 30, 3) := by decide +kernel
theorem dX12_total_22 : decode cX12_total 22 = .ok (.iload_n 2, 1) := by decide +kernel
theorem dX12_total_23 : decode cX12_total 23 = .ok (.aload_n 0, 1) := by decide +kernel
theorem dX12_total_24 : decode cX12_total 24 = .ok (.iload_n 3, 1) := by decide +kernel
theorem dX12_total_25 : decode cX12_total 25 = .ok (.invokevirtual 582, 3) := by decide +kernel
theorem dX12_total_28 : decode cX12_total 28 = .ok (.ifCond .eq 7, 3) := by decide +kernel
theorem dX12_total_31 : decode cX12_total 31 = .ok (.iconst 0, 1) := by decide +kernel
theorem dX12_total_32 : decode cX12_total 32 = .ok (.goto 9, 3) := by decide +kernel
theorem dX12_total_35 : decode cX12_total 35 = .ok (.aload_n 0, 1) := by decide +kernel
theorem dX12_total_36 : decode cX12_total 36 = .ok (.iload_n 3, 1) := by decide +kernel
theorem dX12_total_37 : decode cX12_total 37 = .ok (.iload_n 1, 1) := by decide +kernel
theorem dX12_total_38 : decode cX12_total 38 = .ok (.invokevirtual 673, 3) := by decide +kernel
theorem dX12_total_41 : decode cX12_total 41 = .ok (.iadd, 1) := by decide +kernel
theorem dX12_total_42 : decode cX12_total 42 = .ok (.istore_n 2, 1) := by decide +kernel
theorem dX12_total_43 : decode cX12_total 43 = .ok (.iinc 3 1, 3) := by decide +kernel
theorem dX12_total_46 : decode cX12_total 46 = .ok (.goto (-32), 3) := by decide +kernel
theorem dX12_total_49 : decode cX12_total 49 = .ok (.iload_n 2, 1) := by decide +kernel
theorem dX12_total_50 : decode cX12_total 50 = .ok (.ireturn, 1) := by decide +kernel
theorem dX12_pick_0 : decode cX12_pick 0 = .ok (.aload_n 0, 1) := by decide +kernel
theorem dX12_pick_1 : decode cX12_pick 1 = .ok (.iload_n 1, 1) := by decide +kernel
theorem dX12_pick_2 : decode cX12_pick 2 = .ok (.invokevirtual 667, 3) := by decide +kernel
theorem dX12_pick_5 : decode cX12_pick 5 = .ok (.ifCond .eq 10, 3) := by decide +kernel
theorem dX12_pick_8 : decode cX12_pick 8 = .ok (.aload_n 0, 1) := by decide +kernel
theorem dX12_pick_9 : decode cX12_pick 9 = .ok (.invokevirtual 497, 3) := by decide +kernel
theorem dX12_pick_12 : decode cX12_pick 12 = .ok (.ifCond .ne 5, 3) := by decide +kernel
theorem dX12_pick_15 : decode cX12_pick 15 = .ok (.iconst (-1), 1) := by decide +kernel
theorem dX12_pick_16 : decode cX12_pick 16 = .ok (.ireturn, 1) := by decide +kernel
theorem dX12_pick_17 : decode cX12_pick 17 = .ok (.iconst (-1), 1) := by decide +kernel
theorem dX12_pick_18 : decode cX12_pick 18 = .ok (.istore_n 2, 1) := by decide +kernel
theorem dX12_pick_19 : decode cX12_pick 19 = .ok (.aload_n 0, 1) := by decide +kernel
theorem dX12_pick_20 : decode cX12_pick 20 = .ok (.aload_n 0, 1) := by decide +kernel
theorem dX12_pick_21 : decode cX12_pick 21 = .ok (.invokevirtual 497, 3) := by decide +kernel
theorem dX12_pick_24 : decode cX12_pick 24 = .ok (.iconst 1, 1) := by decide +kernel
theorem dX12_pick_25 : decode cX12_pick 25 = .ok (.isub, 1) := by decide +kernel
theorem dX12_pick_26 : decode cX12_pick 26 = .ok (.iload_n 1, 1) := by decide +kernel
theorem dX12_pick_27 : decode cX12_pick 27 = .ok (.invokevirtual 670, 3) := by decide +kernel
theorem dX12_pick_30 : decode cX12_pick 30 = .ok (.istore_n 3, 1) := by decide +kernel
theorem dX12_pick_31 : decode cX12_pick 31 = .ok (.iconst 0, 1) := by decide +kernel
theorem dX12_pick_32 : decode cX12_pick 32 = .ok (.istore 4, 2) := by decide +kernel
theorem dX12_pick_34 : decode cX12_pick 34 = .ok (.iload 4, 2) := by decide +kernel
theorem dX12_pick_36 : decode cX12_pick 36 = .ok (.aload_n 0, 1) := by decide +kernel
theorem dX12_pick_37 : decode cX12_pick 37 = .ok (.invokevirtual 497, 3) := by decide +kernel
theorem dX12_pick_40 : decode cX12_pick 40 = .ok (.if_icmp .ge 77, 3) := by decide +kernel
theorem dX12_pick_43 : decode cX12_pick 43 = .ok (.aload_n 0, 1) := by decide +kernel
theorem dX12_pick_44 : decode cX12_pick 44 = .ok (.iload 4, 2) := by decide +kernel
theorem dX12_pick_46 : decode cX12_pick 46 = .ok (.invokevirtual 582, 3) := by decide +kernel
theorem dX12_pick_49 : decode cX12_pick 49 = .ok (.ifCond .eq 6, 3) := by decide +kernel
theorem dX12_pick_52 : decode cX12_pick 52 = .ok (.goto 59, 3) := by decide +kernel
theorem dX12_pick_55 : decode cX12_pick 55 = .ok (.aload_n 0, 1) := by decide +kernel
theorem dX12_pick_56 : decode cX12_pick 56 = .ok (.getfield 124, 3) := by decide +kernel
theorem dX12_pick_59 : decode cX12_pick 59 = .ok (.bipush 32, 2) := by decide +kernel
theorem dX12_pick_61 : decode cX12_pick 61 = .ok (.dup2, 1) := by decide +kernel
theorem dX12_pick_62 : decode cX12_pick 62 = .ok (.iaload, 1) := by decide +kernel
theorem dX12_pick_63 : decode cX12_pick 63 = .ok (.iconst 1, 1) := by decide +kernel
theorem dX12_pick_64 : decode cX12_pick 64 = .ok (.iload 4, 2) := by decide +kernel
theorem dX12_pick_66 : decode cX12_pick 66 = .ok (.ishl, 1) := by decide +kernel
theorem dX12_pick_67 : decode cX12_pick 67 = .ok (.ixor, 1) := by decide +kernel
theorem dX12_pick_68 : decode cX12_pick 68 = .ok (.iastore, 1) := by decide +kernel
theorem dX12_pick_69 : decode cX12_pick 69 = .ok (.aload_n 0, 1) := by decide +kernel
theorem dX12_pick_70 : decode cX12_pick 70 = .ok (.aload_n 0, 1) := by decide +kernel
theorem dX12_pick_71 : decode cX12_pick 71 = .ok (.invokevirtual 497, 3) := by decide +kernel
theorem dX12_pick_74 : decode cX12_pick 74 = .ok (.iconst 1, 1) := by decide +kernel
theorem dX12_pick_75 : decode cX12_pick 75 = .ok (.isub, 1) := by decide +kernel
theorem dX12_pick_76 : decode cX12_pick 76 = .ok (.iload_n 1, 1) := by decide +kernel
theorem dX12_pick_77 : decode cX12_pick 77 = .ok (.invokevirtual 670, 3) := by decide +kernel
theorem dX12_pick_80 : decode cX12_pick 80 = .ok (.istore 5, 2) := by decide +kernel
theorem dX12_pick_82 : decode cX12_pick 82 = .ok (.aload_n 0, 1) := by decide +kernel
theorem dX12_pick_83 : decode cX12_pick 83 = .ok (.getfield 124, 3) := by decide +kernel
theorem dX12_pick_86 : decode cX12_pick 86 = .ok (.bipush 32, 2) := by decide +kernel
theorem dX12_pick_88 : decode cX12_pick 88 = .ok (.dup2, 1) := by decide +kernel
theorem dX12_pick_89 : decode cX12_pick 89 = .ok (.iaload, 1) := by decide +kernel
theorem dX12_pick_90 : decode cX12_pick 90 = .ok (.iconst 1, 1) := by decide +kernel
theorem dX12_pick_91 : decode cX12_pick 91 = .ok (.iload 4, 2) := by decide +kernel
theorem dX12_pick_93 : decode cX12_pick 93 = .ok (.ishl, 1) := by decide +kernel
theorem dX12_pick_94 : decode cX12_pick 94 = .ok (.ixor, 1) := by decide +kernel
theorem dX12_pick_95 : decode cX12_pick 95 = .ok (.iastore, 1) := by decide +kernel
theorem dX12_pick_96 : decode cX12_pick 96 = .ok (.iload 5, 2) := by decide +kernel
theorem dX12_pick_98 : decode cX12_pick 98 = .ok (.iload_n 3, 1) := by decide +kernel
theorem dX12_pick_99 : decode cX12_pick 99 = .ok (.if_icmp .lt 6, 3) := by decide +kernel
theorem dX12_pick_102 : decode cX12_pick 102 = .ok (.goto 9, 3) := by decide +kernel
theorem dX12_pick_105 : decode cX12_pick 105 = .ok (.iload 4, 2) := by decide +kernel
theorem dX12_pick_107 : decode cX12_pick 107 = .ok (.istore_n 2, 1) := by decide +kernel
theorem dX12_pick_108 : decode cX12_pick 108 = .ok (.iload 5, 2) := by decide +kernel
theorem dX12_pick_110 : decode cX12_pick 110 = .ok (.istore_n 3, 1) := by decide +kernel
theorem dX12_pick_111 : decode cX12_pick 111 = .ok (.iinc 4 1, 3) := by decide +kernel
theorem dX12_pick_114 : decode cX12_pick 114 = .ok (.goto (-80), 3) := by decide +kernel
theorem dX12_pick_117 : decode cX12_pick 117 = .ok (.iload_n 2, 1) := by decide +kernel
theorem dX12_pick_118 : decode cX12_pick 118 = .ok (.ireturn, 1) := by decide +kernel
theorem dX12_law_0 : decode cX12_law 0 = .ok (.iload_n 1, 1) := by decide +kernel
theorem dX12_law_1 : decode cX12_law 1 = .ok (.iconst 0, 1) := by decide +kernel
theorem dX12_law_2 : decode cX12_law 2 = .ok (.bipush 99, 2) := by decide +kernel
theorem dX12_law_4 : decode cX12_law 4 = .ok (.invokestatic 500, 3) := by decide +kernel
theorem dX12_law_7 : decode cX12_law 7 = .ok (.ifCond .eq 10, 3) := by decide +kernel
theorem dX12_law_10 : decode cX12_law 10 = .ok (.aload_n 0, 1) := by decide +kernel
theorem dX12_law_11 : decode cX12_law 11 = .ok (.invokevirtual 497, 3) := by decide +kernel
theorem dX12_law_14 : decode cX12_law 14 = .ok (.ifCond .ne 5, 3) := by decide +kernel
theorem dX12_law_17 : decode cX12_law 17 = .ok (.iconst (-1), 1) := by decide +kernel
theorem dX12_law_18 : decode cX12_law 18 = .ok (.ireturn, 1) := by decide +kernel
theorem dX12_law_19 : decode cX12_law 19 = .ok (.aload_n 0, 1) := by decide +kernel
theorem dX12_law_20 : decode cX12_law 20 = .ok (.iload_n 1, 1) := by decide +kernel
theorem dX12_law_21 : decode cX12_law 21 = .ok (.putfield 169, 3) := by decide +kernel
theorem dX12_law_24 : decode cX12_law 24 = .ok (.aload_n 0, 1) := by decide +kernel
theorem dX12_law_25 : decode cX12_law 25 = .ok (.aload_n 0, 1) := by decide +kernel
theorem dX12_law_26 : decode cX12_law 26 = .ok (.invokevirtual 497, 3) := by decide +kernel
theorem dX12_law_29 : decode cX12_law 29 = .ok (.iconst 1, 1) := by decide +kernel
theorem dX12_law_30 : decode cX12_law 30 = .ok (.isub, 1) := by decide +kernel
theorem dX12_law_31 : decode cX12_law 31 = .ok (.iconst 0, 1) := by decide +kernel
theorem dX12_law_32 : decode cX12_law 32 = .ok (.invokevirtual 670, 3) := by decide +kernel
theorem dX12_law_35 : decode cX12_law 35 = .ok (.istore_n 2, 1) := by decide +kernel
theorem dX12_law_36 : decode cX12_law 36 = .ok (.aload_n 0, 1) := by decide +kernel
theorem dX12_law_37 : decode cX12_law 37 = .ok (.iconst (-1), 1) := by decide +kernel
theorem dX12_law_38 : decode cX12_law 38 = .ok (.putfield 169, 3) := by decide +kernel
theorem dX12_law_41 : decode cX12_law 41 = .ok (.iload_n 2, 1) := by decide +kernel
theorem dX12_law_42 : decode cX12_law 42 = .ok (.ireturn, 1) := by decide +kernel
theorem dX12_odds_0 : decode cX12_odds 0 = .ok (.iload_n 1, 1) := by decide +kernel
theorem dX12_odds_1 : decode cX12_odds 1 = .ok (.iconst 0, 1) := by decide +kernel
theorem dX12_odds_2 : decode cX12_odds 2 = .ok (.iconst 4, 1) := by decide +kernel
theorem dX12_odds_3 : decode cX12_odds 3 = .ok (.invokestatic 500, 3) := by decide +kernel
theorem dX12_odds_6 : decode cX12_odds 6 = .ok (.ifCond .eq 12, 3) := by decide +kernel
theorem dX12_odds_9 : decode cX12_odds 9 = .ok (.iload_n 2, 1) := by decide +kernel
theorem dX12_odds_10 : decode cX12_odds 10 = .ok (.iconst 0, 1) := by decide +kernel
theorem dX12_odds_11 : decode cX12_odds 11 = .ok (.iconst 1, 1) := by decide +kernel
theorem dX12_odds_12 : decode cX12_odds 12 = .ok (.invokestatic 500, 3) := by decide +kernel
theorem dX12_odds_15 : decode cX12_odds 15 = .ok (.ifCond .ne 5, 3) := by decide +kernel
theorem dX12_odds_18 : decode cX12_odds 18 = .ok (.iconst (-1), 1) := by decide +kernel
theorem dX12_odds_19 : decode cX12_odds 19 = .ok (.ireturn, 1) := by decide +kernel
theorem dX12_odds_20 : decode cX12_odds 20 = .ok (.bipush 100, 2) := by decide +kernel
theorem dX12_odds_22 : decode cX12_odds 22 = .ok (.aload_n 0, 1) := by decide +kernel
theorem dX12_odds_23 : decode cX12_odds 23 = .ok (.getfield 30, 3) := by decide +kernel
theorem dX12_odds_26 : decode cX12_odds 26 = .ok (.aload_n 0, 1) := by decide +kernel
theorem dX12_odds_27 : decode cX12_odds 27 = .ok (.getfield 349, 3) := by decide +kernel
theorem dX12_odds_30 : decode cX12_odds 30 = .ok (.iaload, 1) := by decide +kernel
theorem dX12_odds_31 : decode cX12_odds 31 = .ok (.isub, 1) := by decide +kernel
theorem dX12_odds_32 : decode cX12_odds 32 = .ok (.iload_n 1, 1) := by decide +kernel
theorem dX12_odds_33 : decode cX12_odds 33 = .ok (.invokestatic 598, 3) := by decide +kernel
theorem dX12_odds_36 : decode cX12_odds 36 = .ok (.istore_n 3, 1) := by decide +kernel
theorem dX12_odds_37 : decode cX12_odds 37 = .ok (.bipush 100, 2) := by decide +kernel
theorem dX12_odds_39 : decode cX12_odds 39 = .ok (.iload_n 1, 1) := by decide +kernel
theorem dX12_odds_40 : decode cX12_odds 40 = .ok (.invokestatic 598, 3) := by decide +kernel
theorem dX12_odds_43 : decode cX12_odds 43 = .ok (.istore 4, 2) := by decide +kernel
theorem dX12_odds_45 : decode cX12_odds 45 = .ok (.iload_n 2, 1) := by decide +kernel
theorem dX12_odds_46 : decode cX12_odds 46 = .ok (.ifCond .ne 7, 3) := by decide +kernel
theorem dX12_odds_49 : decode cX12_odds 49 = .ok (.iload_n 3, 1) := by decide +kernel
theorem dX12_odds_50 : decode cX12_odds 50 = .ok (.goto 5, 3) := by decide +kernel
theorem dX12_odds_53 : decode cX12_odds 53 = .ok (.iload 4, 2) := by decide +kernel
theorem dX12_odds_55 : decode cX12_odds 55 = .ok (.iload 4, 2) := by decide +kernel
theorem dX12_odds_57 : decode cX12_odds 57 = .ok (.iload_n 3, 1) := by decide +kernel
theorem dX12_odds_58 : decode cX12_odds 58 = .ok (.invokestatic 676, 3) := by decide +kernel
theorem dX12_odds_61 : decode cX12_odds 61 = .ok (.idiv, 1) := by decide +kernel
theorem dX12_odds_62 : decode cX12_odds 62 = .ok (.ireturn, 1) := by decide +kernel
theorem dX12_seen_0 : decode cX12_seen 0 = .ok (.iload_n 1, 1) := by decide +kernel
theorem dX12_seen_1 : decode cX12_seen 1 = .ok (.iconst 0, 1) := by decide +kernel
theorem dX12_seen_2 : decode cX12_seen 2 = .ok (.bipush 9, 2) := by decide +kernel
theorem dX12_seen_4 : decode cX12_seen 4 = .ok (.invokestatic 500, 3) := by decide +kernel
theorem dX12_seen_7 : decode cX12_seen 7 = .ok (.ifCond .eq 39, 3) := by decide +kernel
theorem dX12_seen_10 : decode cX12_seen 10 = .ok (.iload_n 2, 1) := by decide +kernel
theorem dX12_seen_11 : decode cX12_seen 11 = .ok (.iconst 0, 1) := by decide +kernel
theorem dX12_seen_12 : decode cX12_seen 12 = .ok (.bipush 9, 2) := by decide +kernel
theorem dX12_seen_14 : decode cX12_seen 14 = .ok (.invokestatic 500, 3) := by decide +kernel
theorem dX12_seen_17 : decode cX12_seen 17 = .ok (.ifCond .eq 29, 3) := by decide +kernel
theorem dX12_seen_20 : decode cX12_seen 20 = .ok (.iload_n 3, 1) := by decide +kernel
theorem dX12_seen_21 : decode cX12_seen 21 = .ok (.iconst 0, 1) := by decide +kernel
theorem dX12_seen_22 : decode cX12_seen 22 = .ok (.bipush 9, 2) := by decide +kernel
theorem dX12_seen_24 : decode cX12_seen 24 = .ok (.invokestatic 500, 3) := by decide +kernel
theorem dX12_seen_27 : decode cX12_seen 27 = .ok (.ifCond .eq 19, 3) := by decide +kernel
theorem dX12_seen_30 : decode cX12_seen 30 = .ok (.aload_n 0, 1) := by decide +kernel
theorem dX12_seen_31 : decode cX12_seen 31 = .ok (.getfield 513, 3) := by decide +kernel
theorem dX12_seen_34 : decode cX12_seen 34 = .ok (.bipush 30, 2) := by decide +kernel
theorem dX12_seen_36 : decode cX12_seen 36 = .ok (.if_icmp .eq 10, 3) := by decide +kernel
theorem dX12_seen_39 : decode cX12_seen 39 = .ok (.aload_n 0, 1) := by decide +kernel
theorem dX12_seen_40 : decode cX12_seen 40 = .ok (.invokevirtual 497, 3) := by decide +kernel
theorem dX12_seen_43 : decode cX12_seen 43 = .ok (.ifCond .ne 5, 3) := by decide +kernel
theorem dX12_seen_46 : decode cX12_seen 46 = .ok (.iconst (-1), 1) := by decide +kernel
theorem dX12_seen_47 : decode cX12_seen 47 = .ok (.ireturn, 1) := by decide +kernel
theorem dX12_seen_48 : decode cX12_seen 48 = .ok (.aload_n 0, 1) := by decide +kernel
theorem dX12_seen_49 : decode cX12_seen 49 = .ok (.getfield 184, 3) := by decide +kernel
theorem dX12_seen_52 : decode cX12_seen 52 = .ok (.aload_n 0, 1) := by decide +kernel
theorem dX12_seen_53 : decode cX12_seen 53 = .ok (.getfield 513, 3) := by decide +kernel
theorem dX12_seen_56 : decode cX12_seen 56 = .ok (.iload_n 1, 1) := by decide +kernel
theorem dX12_seen_57 : decode cX12_seen 57 = .ok (.iastore, 1) := by decide +kernel
theorem dX12_seen_58 : decode cX12_seen 58 = .ok (.aload_n 0, 1) := by decide +kernel
theorem dX12_seen_59 : decode cX12_seen 59 = .ok (.getfield 187, 3) := by decide +kernel
theorem dX12_seen_62 : decode cX12_seen 62 = .ok (.aload_n 0, 1) := by decide +kernel
theorem dX12_seen_63 : decode cX12_seen 63 = .ok (.getfield 513, 3) := by decide +kernel
theorem dX12_seen_66 : decode cX12_seen 66 = .ok (.iload_n 2, 1) := by decide +kernel
theorem dX12_seen_67 : decode cX12_seen 67 = .ok (.iastore, 1) := by decide +kernel
theorem dX12_seen_68 : decode cX12_seen 68 = .ok (.aload_n 0, 1) := by decide +kernel
theorem dX12_seen_69 : decode cX12_seen 69 = .ok (.getfield 190, 3) := by decide +kernel
theorem dX12_seen_72 : decode cX12_seen 72 = .ok (.aload_n 0, 1) := by decide +kernel
theorem dX12_seen_73 : decode cX12_seen 73 = .ok (.getfield 513, 3) := by decide +kernel
theorem dX12_seen_76 : decode cX12_seen 76 = .ok (.iload_n 3, 1) := by decide +kernel
theorem dX12_seen_77 : decode cX12_seen 77 = .ok (.iastore, 1) := by decide +kernel
theorem dX12_seen_78 : decode cX12_seen 78 = .ok (.aload_n 0, 1) := by decide +kernel
theorem dX12_seen_79 : decode cX12_seen 79 = .ok (.getfield 193, 3) := by decide +kernel
theorem dX12_seen_82 : decode cX12_seen 82 = .ok (.aload_n 0, 1) := by decide +kernel
theorem dX12_seen_83 : decode cX12_seen 83 = .ok (.getfield 513, 3) := by decide +kernel
theorem dX12_seen_86 : decode cX12_seen 86 = .ok (.iload 4, 2) := by decide +kernel
theorem dX12_seen_88 : decode cX12_seen 88 = .ok (.iastore, 1) := by decide +kernel
theorem dX12_seen_89 : decode cX12_seen 89 = .ok (.aload_n 0, 1) := by decide +kernel
theorem dX12_seen_90 : decode cX12_seen 90 = .ok (.getfield 196, 3) := by decide +kernel
theorem dX12_seen_93 : decode cX12_seen 93 = .ok (.aload_n 0, 1) := by decide +kernel
theorem dX12_seen_94 : decode cX12_seen 94 = .ok (.getfield 513, 3) := by decide +kernel
theorem dX12_seen_97 : decode cX12_seen 97 = .ok (.iload 5, 2) := by decide +kernel
theorem dX12_seen_99 : decode cX12_seen 99 = .ok (.ifCond .eq 7, 3) := by decide +kernel
theorem dX12_seen_102 : decode cX12_seen 102 = .ok (.iconst 1, 1) := by decide +kernel
theorem dX12_seen_103 : decode cX12_seen 103 = .ok (.goto 4, 3) := by decide +kernel
theorem dX12_seen_106 : decode cX12_seen 106 = .ok (.iconst 0, 1) := by decide +kernel
theorem dX12_seen_107 : decode cX12_seen 107 = .ok (.iastore, 1) := by decide +kernel
theorem dX12_seen_108 : decode cX12_seen 108 = .ok (.aload_n 0, 1) := by decide +kernel
theorem dX12_seen_109 : decode cX12_seen 109 = .ok (.getfield 199, 3) := by decide +kernel
theorem dX12_seen_112 : decode cX12_seen 112 = .ok (.aload_n 0, 1) := by decide +kernel
theorem dX12_seen_113 : decode cX12_seen 113 = .ok (.getfield 513, 3) := by decide +kernel
theorem dX12_seen_116 : decode cX12_seen 116 = .ok (.aload_n 0, 1) := by decide +kernel
theorem dX12_seen_117 : decode cX12_seen 117 = .ok (.getfield 679, 3) := by decide +kernel
theorem dX12_seen_120 : decode cX12_seen 120 = .ok (.iastore, 1) := by decide +kernel
theorem dX12_seen_121 : decode cX12_seen 121 = .ok (.aload_n 0, 1) := by decide +kernel
theorem dX12_seen_122 : decode cX12_seen 122 = .ok (.getfield 202, 3) := by decide +kernel
theorem dX12_seen_125 : decode cX12_seen 125 = .ok (.aload_n 0, 1) := by decide +kernel
theorem dX12_seen_126 : decode cX12_seen 126 = .ok (.getfield 513, 3) := by decide +kernel
theorem dX12_seen_129 : decode cX12_seen 129 = .ok (.iconst (-1), 1) := by decide +kernel
theorem dX12_seen_130 : decode cX12_seen 130 = .ok (.iastore, 1) := by decide +kernel
theorem dX12_seen_131 : decode cX12_seen 131 = .ok (.aload_n 0, 1) := by decide +kernel
theorem dX12_seen_132 : decode cX12_seen 132 = .ok (.dup, 1) := by decide +kernel
theorem dX12_seen_133 : decode cX12_seen 133 = .ok (.getfield 513, 3) := by decide +kernel
theorem dX12_seen_136 : decode cX12_seen 136 = .ok (.iconst 1, 1) := by decide +kernel
theorem dX12_seen_137 : decode cX12_seen 137 = .ok (.iadd, 1) := by decide +kernel
theorem dX12_seen_138 : decode cX12_seen 138 = .ok (.putfield 513, 3) := by decide +kernel
theorem dX12_seen_141 : decode cX12_seen 141 = .ok (.aload_n 0, 1) := by decide +kernel
theorem dX12_seen_142 : decode cX12_seen 142 = .ok (.getfield 513, 3) := by decide +kernel
theorem dX12_seen_145 : decode cX12_seen 145 = .ok (.iconst 1, 1) := by decide +kernel
theorem dX12_seen_146 : decode cX12_seen 146 = .ok (.isub, 1) := by decide +kernel
theorem dX12_seen_147 : decode cX12_seen 147 = .ok (.ireturn, 1) := by decide +kernel
theorem dX12_untell_0 : decode cX12_untell 0 = .ok (.iload_n 1, 1) := by decide +kernel
theorem dX12_untell_1 : decode cX12_untell 1 = .ok (.iconst 0, 1) := by decide +kernel
theorem dX12_untell_2 : decode cX12_untell 2 = .ok (.aload_n 0, 1) := by decide +kernel
theorem dX12_untell_3 : decode cX12_untell 3 = .ok (.getfield 513, 3) := by decide +kernel
theorem dX12_untell_6 : decode cX12_untell 6 = .ok (.iconst 1, 1) := by decide +kernel
theorem dX12_untell_7 : decode cX12_untell 7 = .ok (.isub, 1) := by decide +kernel
theorem dX12_untell_8 : decode cX12_untell 8 = .ok (.invokestatic 500, 3) := by decide +kernel
theorem dX12_untell_11 : decode cX12_untell 11 = .ok (.ifCond .eq 12, 3) := by decide +kernel
theorem dX12_untell_14 : decode cX12_untell 14 = .ok (.aload_n 0, 1) := by decide +kernel
theorem dX12_untell_15 : decode cX12_untell 15 = .ok (.getfield 202, 3) := by decide +kernel
theorem dX12_untell_18 : decode cX12_untell 18 = .ok (.iload_n 1, 1) := by decide +kernel
theorem dX12_untell_19 : decode cX12_untell 19 = .ok (.iaload, 1) := by decide +kernel
theorem dX12_untell_20 : decode cX12_untell 20 = .ok (.ifCond .lt 5, 3) := by decide +kernel
theorem dX12_untell_23 : decode cX12_untell 23 = .ok (.iconst 0, 1) := by decide +kernel
theorem dX12_untell_24 : decode cX12_untell 24 = .ok (.ireturn, 1) := by decide +kernel
theorem dX12_untell_25 : decode cX12_untell 25 = .ok (.aload_n 0, 1) := by decide +kernel
theorem dX12_untell_26 : decode cX12_untell 26 = .ok (.getfield 202, 3) := by decide +kernel
theorem dX12_untell_29 : decode cX12_untell 29 = .ok (.iload_n 1, 1) := by decide +kernel
theorem dX12_untell_30 : decode cX12_untell 30 = .ok (.aload_n 0, 1) := by decide +kernel
theorem dX12_untell_31 : decode cX12_untell 31 = .ok (.getfield 679, 3) := by decide +kernel
theorem dX12_untell_34 : decode cX12_untell 34 = .ok (.iastore, 1) := by decide +kernel
theorem dX12_untell_35 : decode cX12_untell 35 = .ok (.iconst 1, 1) := by decide +kernel
theorem dX12_untell_36 : decode cX12_untell 36 = .ok (.ireturn, 1) := by decide +kernel
theorem dX12_later_0 : decode cX12_later 0 = .ok (.iload_n 1, 1) := by decide +kernel
theorem dX12_later_1 : decode cX12_later 1 = .ok (.iconst 0, 1) := by decide +kernel
theorem dX12_later_2 : decode cX12_later 2 = .ok (.sipush 1000, 3) := by decide +kernel
theorem dX12_later_5 : decode cX12_later 5 = .ok (.invokestatic 500, 3) := by decide +kernel
theorem dX12_later_8 : decode cX12_later 8 = .ok (.ifCond .eq 15, 3) := by decide +kernel
theorem dX12_later_11 : decode cX12_later 11 = .ok (.aload_n 0, 1) := by decide +kernel
theorem dX12_later_12 : decode cX12_later 12 = .ok (.getfield 679, 3) := by decide +kernel
theorem dX12_later_15 : decode cX12_later 15 = .ok (.iload_n 1, 1) := by decide +kernel
theorem dX12_later_16 : decode cX12_later 16 = .ok (.iadd, 1) := by decide +kernel
theorem dX12_later_17 : decode cX12_later 17 = .ok (.ldc_w 682, 3) := by decide +kernel
theorem dX12_later_20 : decode cX12_later 20 = .ok (.if_icmp .le 5, 3) := by decide +kernel
theorem dX12_later_23 : decode cX12_later 23 = .ok (.iconst (-1), 1) := by decide +kernel
theorem dX12_later_24 : decode cX12_later 24 = .ok (.ireturn, 1) := by decide +kernel
theorem dX12_later_25 : decode cX12_later 25 = .ok (.aload_n 0, 1) := by decide +kernel
theorem dX12_later_26 : decode cX12_later 26 = .ok (.dup, 1) := by decide +kernel
theorem dX12_later_27 : decode cX12_later 27 = .ok (.getfield 679, 3) := by decide +kernel
theorem dX12_later_30 : decode cX12_later 30 = .ok (.iload_n 1, 1) := by decide +kernel
theorem dX12_later_31 : decode cX12_later 31 = .ok (.iadd, 1) := by decide +kernel
theorem dX12_later_32 : decode cX12_later 32 = .ok (.putfield 679, 3) := by decide +kernel
theorem dX12_later_35 : decode cX12_later 35 = .ok (.aload_n 0, 1) := by decide +kernel
theorem dX12_later_36 : decode cX12_later 36 = .ok (.getfield 679, 3) := by decide +kernel
theorem dX12_later_39 : decode cX12_later 39 = .ok (.ireturn, 1) := by decide +kernel
theorem dX12_couldBe_0 : decode cX12_couldBe 0 = .ok (.aload_n 0, 1) := by decide +kernel
theorem dX12_couldBe_1 : decode cX12_couldBe 1 = .ok (.invokevirtual 497, 3) := by decide +kernel
theorem dX12_couldBe_4 : decode cX12_couldBe 4 = .ok (.iconst 1, 1) := by decide +kernel
theorem dX12_couldBe_5 : decode cX12_couldBe 5 = .ok (.isub, 1) := by decide +kernel
theorem dX12_couldBe_6 : decode cX12_couldBe 6 = .ok (.istore_n 2, 1) := by decide +kernel
theorem dX12_couldBe_7 : decode cX12_couldBe 7 = .ok (.iload_n 2, 1) := by decide +kernel
theorem dX12_couldBe_8 : decode cX12_couldBe 8 = .ok (.ifCond .lt 26, 3) := by decide +kernel
theorem dX12_couldBe_11 : decode cX12_couldBe 11 = .ok (.aload_n 0, 1) := by decide +kernel
theorem dX12_couldBe_12 : decode cX12_couldBe 12 = .ok (.iload_n 2, 1) := by decide +kernel
theorem dX12_couldBe_13 : decode cX12_couldBe 13 = .ok (.invokevirtual 546, 3) := by decide +kernel
theorem dX12_couldBe_16 : decode cX12_couldBe 16 = .ok (.ifCond .eq 18, 3) := by decide +kernel
theorem dX12_couldBe_19 : decode cX12_couldBe 19 = .ok (.aload_n 0, 1) := by decide +kernel
theorem dX12_couldBe_20 : decode cX12_couldBe 20 = .ok (.getfield 60, 3) := by decide +kernel
theorem dX12_couldBe_23 : decode cX12_couldBe 23 = .ok (.aload_n 0, 1) := by decide +kernel
theorem dX12_couldBe_24 : decode cX12_couldBe 24 = .ok (.iload_n 2, 1) := by decide +kernel
theorem dX12_couldBe_25 : decode cX12_couldBe 25 = .ok (.iconst 0, 1) := by decide +kernel
theorem dX12_couldBe_26 : decode cX12_couldBe 26 = .ok (.invokevirtual 519, 3) := by decide +kernel
theorem dX12_couldBe_29 : decode cX12_couldBe 29 = .ok (.iaload, 1) := by decide +kernel
theorem dX12_couldBe_30 : decode cX12_couldBe 30 = .ok (.iconst 2, 1) := by decide +kernel
theorem dX12_couldBe_31 : decode cX12_couldBe 31 = .ok (.if_icmp .le 5, 3) := by decide +kernel
theorem dX12_couldBe_34 : decode cX12_couldBe 34 = .ok (.iconst 0, 1) := by decide +kernel
theorem dX12_couldBe_35 : decode cX12_couldBe 35 = .ok (.ireturn, 1) := by decide +kernel
theorem dX12_couldBe_36 : decode cX12_couldBe 36 = .ok (.aload_n 0, 1) := by decide +kernel
theorem dX12_couldBe_37 : decode cX12_couldBe 37 = .ok (.aload_n 0, 1) := by decide +kernel
theorem dX12_couldBe_38 : decode cX12_couldBe 38 = .ok (.getfield 349, 3) := by decide +kernel
theorem dX12_couldBe_41 : decode cX12_couldBe 41 = .ok (.invokevirtual 390, 3) := by decide +kernel
theorem dX12_couldBe_44 : decode cX12_couldBe 44 = .ok (.aload_n 0, 1) := by decide +kernel
theorem dX12_couldBe_45 : decode cX12_couldBe 45 = .ok (.iconst 1, 1) := by decide +kernel
theorem dX12_couldBe_46 : decode cX12_couldBe 46 = .ok (.putfield 424, 3) := by decide +kernel
theorem dX12_couldBe_49 : decode cX12_couldBe 49 = .ok (.aload_n 0, 1) := by decide +kernel
theorem dX12_couldBe_50 : decode cX12_couldBe 50 = .ok (.iload_n 1, 1) := by decide +kernel
theorem dX12_couldBe_51 : decode cX12_couldBe 51 = .ok (.putfield 142, 3) := by decide +kernel
theorem dX12_couldBe_54 : decode cX12_couldBe 54 = .ok (.iconst 0, 1) := by decide +kernel
theorem dX12_couldBe_55 : decode cX12_couldBe 55 = .ok (.istore_n 3, 1) := by decide +kernel
theorem dX12_couldBe_56 : decode cX12_couldBe 56 = .ok (.iconst 0, 1) := by decide +kernel
theorem dX12_couldBe_57 : decode cX12_couldBe 57 = .ok (.istore 4, 2) := by decide +kernel
theorem dX12_couldBe_59 : decode cX12_couldBe 59 = .ok (.iload 4, 2) := by decide +kernel
theorem dX12_couldBe_61 : decode cX12_couldBe 61 = .ok (.aload_n 0, 1) := by decide +kernel
theorem dX12_couldBe_62 : decode cX12_couldBe 62 = .ok (.iload_n 2, 1) := by decide +kernel
theorem dX12_couldBe_63 : decode cX12_couldBe 63 = .ok (.invokevirtual 546, 3) := by decide +kernel
theorem dX12_couldBe_66 : decode cX12_couldBe 66 = .ok (.if_icmp .ge 39, 3) := by decide +kernel
theorem dX12_couldBe_69 : decode cX12_couldBe 69 = .ok (.iload_n 3, 1) := by decide +kernel
theorem dX12_couldBe_70 : decode cX12_couldBe 70 = .ok (.ifCond .ne 35, 3) := by decide +kernel
theorem dX12_couldBe_73 : decode cX12_couldBe 73 = .ok (.aload_n 0, 1) := by decide +kernel
theorem dX12_couldBe_74 : decode cX12_couldBe 74 = .ok (.aload_n 0, 1) := by decide +kernel
theorem dX12_couldBe_75 : decode cX12_couldBe 75 = .ok (.iload_n 2, 1) := by decide +kernel
theorem dX12_couldBe_76 : decode cX12_couldBe 76 = .ok (.iload 4, 2) := by decide +kernel
theorem dX12_couldBe_78 : decode cX12_couldBe 78 = .ok (.invokevirtual 549, 3) := by decide +kernel
theorem dX12_couldBe_81 : decode cX12_couldBe 81 = .ok (.aload_n 0, 1) := by decide +kernel
theorem dX12_couldBe_82 : decode cX12_couldBe 82 = .ok (.iload_n 2, 1) := by decide +kernel
theorem dX12_couldBe_83 : decode cX12_couldBe 83 = .ok (.iload 4, 2) := by decide +kernel
theorem dX12_couldBe_85 : decode cX12_couldBe 85 = .ok (.invokevirtual 552, 3) := by decide +kernel
theorem dX12_couldBe_88 : decode cX12_couldBe 88 = .ok (.aload_n 0, 1) := by decide +kernel
theorem dX12_couldBe_89 : decode cX12_couldBe 89 = .ok (.iload_n 2, 1) := by decide +kernel
theorem dX12_couldBe_90 : decode cX12_couldBe 90 = .ok (.iload 4, 2) := by decide +kernel
theorem dX12_couldBe_92 : decode cX12_couldBe 92 = .ok (.invokevirtual 519, 3) := by decide +kernel
theorem dX12_couldBe_95 : decode cX12_couldBe 95 = .ok (.invokevirtual 418, 3) := by decide +kernel
theorem dX12_couldBe_98 : decode cX12_couldBe 98 = .ok (.istore_n 3, 1) := by decide +kernel
theorem dX12_couldBe_99 : decode cX12_couldBe 99 = .ok (.iinc 4 1, 3) := by decide +kernel
theorem dX12_couldBe_102 : decode cX12_couldBe 102 = .ok (.goto (-43), 3) := by decide +kernel
theorem dX12_couldBe_105 : decode cX12_couldBe 105 = .ok (.aload_n 0, 1) := by decide +kernel
theorem dX12_couldBe_106 : decode cX12_couldBe 106 = .ok (.iconst (-1), 1) := by decide +kernel
theorem dX12_couldBe_107 : decode cX12_couldBe 107 = .ok (.putfield 142, 3) := by decide +kernel
theorem dX12_couldBe_110 : decode cX12_couldBe 110 = .ok (.aload_n 0, 1) := by decide +kernel
theorem dX12_couldBe_111 : decode cX12_couldBe 111 = .ok (.iconst 0, 1) := by decide +kernel
theorem dX12_couldBe_112 : decode cX12_couldBe 112 = .ok (.putfield 424, 3) := by decide +kernel
theorem dX12_couldBe_115 : decode cX12_couldBe 115 = .ok (.iload_n 3, 1) := by decide +kernel
theorem dX12_couldBe_116 : decode cX12_couldBe 116 = .ok (.ifCond .ne 43, 3) := by decide +kernel
theorem dX12_couldBe_119 : decode cX12_couldBe 119 = .ok (.aload_n 0, 1) := by decide +kernel
theorem dX12_couldBe_120 : decode cX12_couldBe 120 = .ok (.getfield 400, 3) := by decide +kernel
theorem dX12_couldBe_123 : decode cX12_couldBe 123 = .ok (.ifCond .ne 36, 3) := by decide +kernel
theorem dX12_couldBe_126 : decode cX12_couldBe 126 = .ok (.aload_n 0, 1) := by decide +kernel
theorem dX12_couldBe_127 : decode cX12_couldBe 127 = .ok (.getfield 118, 3) := by decide +kernel
theorem dX12_couldBe_130 : decode cX12_couldBe 130 = .ok (.iconst 0, 1) := by decide +kernel
theorem dX12_couldBe_131 : decode cX12_couldBe 131 = .ok (.iaload, 1) := by decide +kernel
theorem dX12_couldBe_132 : decode cX12_couldBe 132 = .ok (.sipush 2000, 3) := by decide +kernel
theorem dX12_couldBe_135 : decode cX12_couldBe 135 = .ok (.if_icmp .gt 24, 3) := by decide +kernel
theorem dX12_couldBe_138 : decode cX12_couldBe 138 = .ok (.aload_n 0, 1) := by decide +kernel
theorem dX12_couldBe_139 : decode cX12_couldBe 139 = .ok (.getfield 403, 3) := by decide +kernel
theorem dX12_couldBe_142 : decode cX12_couldBe 142 = .ok (.iconst 3, 1) := by decide +kernel
theorem dX12_couldBe_143 : decode cX12_couldBe 143 = .ok (.if_icmp .gt 16, 3) := by decide +kernel
theorem dX12_couldBe_146 : decode cX12_couldBe 146 = .ok (.iconst 3, 1) := by decide +kernel
theorem dX12_couldBe_147 : decode cX12_couldBe 147 = .ok (.aload_n 0, 1) := by decide +kernel
theorem dX12_couldBe_148 : decode cX12_couldBe 148 = .ok (.getfield 406, 3) := by decide +kernel
theorem dX12_couldBe_151 : decode cX12_couldBe 151 = .ok (.iadd, 1) := by decide +kernel
theorem dX12_couldBe_152 : decode cX12_couldBe 152 = .ok (.ifCond .le 7, 3) := by decide +kernel
theorem dX12_couldBe_155 : decode cX12_couldBe 155 = .ok (.iconst 1, 1) := by decide +kernel
theorem dX12_couldBe_156 : decode cX12_couldBe 156 = .ok (.goto 4, 3) := by decide +kernel
theorem dX12_couldBe_159 : decode cX12_couldBe 159 = .ok (.iconst 0, 1) := by decide +kernel
theorem dX12_couldBe_160 : decode cX12_couldBe 160 = .ok (.ireturn, 1) := by decide +kernel
theorem dX12_topFor_0 : decode cX12_topFor 0 = .ok (.aload_n 0, 1) := by decide +kernel
theorem dX12_topFor_1 : decode cX12_topFor 1 = .ok (.iload_n 2, 1) := by decide +kernel
theorem dX12_topFor_2 : decode cX12_topFor 2 = .ok (.iload_n 3, 1) := by decide +kernel
theorem dX12_topFor_3 : decode cX12_topFor 3 = .ok (.iload 4, 2) := by decide +kernel
theorem dX12_topFor_5 : decode cX12_topFor 5 = .ok (.invokevirtual 594, 3) := by decide +kernel
theorem dX12_topFor_8 : decode cX12_topFor 8 = .ok (.aload_n 0, 1) := by decide +kernel
theorem dX12_topFor_9 : decode cX12_topFor 9 = .ok (.iload_n 1, 1) := by decide +kernel
theorem dX12_topFor_10 : decode cX12_topFor 10 = .ok (.putfield 142, 3) := by decide +kernel
theorem dX12_topFor_13 : decode cX12_topFor 13 = .ok (.aload_n 0, 1) := by decide +kernel
theorem dX12_topFor_14 : decode cX12_topFor 14 = .ok (.aload_n 0, 1) := by decide +kernel
theorem dX12_topFor_15 : decode cX12_topFor 15 = .ok (.invokevirtual 497, 3) := by decide +kernel
theorem dX12_topFor_18 : decode cX12_topFor 18 = .ok (.iconst 1, 1) := by decide +kernel
theorem dX12_topFor_19 : decode cX12_topFor 19 = .ok (.isub, 1) := by decide +kernel
theorem dX12_topFor_20 : decode cX12_topFor 20 = .ok (.invokevirtual 573, 3) := by decide +kernel
theorem dX12_topFor_23 : decode cX12_topFor 23 = .ok (.aload_n 0, 1) := by decide +kernel
theorem dX12_topFor_24 : decode cX12_topFor 24 = .ok (.iconst (-1), 1) := by decide +kernel
theorem dX12_topFor_25 : decode cX12_topFor 25 = .ok (.putfield 142, 3) := by decide +kernel
theorem dX12_topFor_28 : decode cX12_topFor 28 = .ok (.aload_n 0, 1) := by decide +kernel
theorem dX12_topFor_29 : decode cX12_topFor 29 = .ok (.getfield 127, 3) := by decide +kernel
theorem dX12_topFor_32 : decode cX12_topFor 32 = .ok (.aload_n 0, 1) := by decide +kernel
theorem dX12_topFor_33 : decode cX12_topFor 33 = .ok (.getfield 522, 3) := by decide +kernel
theorem dX12_topFor_36 : decode cX12_topFor 36 = .ok (.iconst 1, 1) := by decide +kernel
theorem dX12_topFor_37 : decode cX12_topFor 37 = .ok (.isub, 1) := by decide +kernel
theorem dX12_topFor_38 : decode cX12_topFor 38 = .ok (.iaload, 1) := by decide +kernel
theorem dX12_topFor_39 : decode cX12_topFor 39 = .ok (.ireturn, 1) := by decide +kernel
theorem dX12_doesFit_0 : decode cX12_doesFit 0 = .ok (.iconst 0, 1) := by decide +kernel
theorem dX12_doesFit_1 : decode cX12_doesFit 1 = .ok (.istore_n 3, 1) := by decide +kernel
theorem dX12_doesFit_2 : decode cX12_doesFit 2 = .ok (.iload_n 3, 1) := by decide +kernel
theorem dX12_doesFit_3 : decode cX12_doesFit 3 = .ok (.aload_n 0, 1) := by decide +kernel
theorem dX12_doesFit_4 : decode cX12_doesFit 4 = .ok (.getfield 513, 3) := by decide +kernel
theorem dX12_doesFit_7 : decode cX12_doesFit 7 = .ok (.if_icmp .ge 98, 3) := by decide +kernel
theorem dX12_doesFit_10 : decode cX12_doesFit 10 = .ok (.aload_n 0, 1) := by decide +kernel
theorem dX12_doesFit_11 : decode cX12_doesFit 11 = .ok (.getfield 199, 3) := by decide +kernel
theorem dX12_doesFit_14 : decode cX12_doesFit 14 = .ok (.iload_n 3, 1) := by decide +kernel
theorem dX12_doesFit_15 : decode cX12_doesFit 15 = .ok (.iaload, 1) := by decide +kernel
theorem dX12_doesFit_16 : decode cX12_doesFit 16 = .ok (.iload_n 2, 1) := by decide +kernel
theorem dX12_doesFit_17 : decode cX12_doesFit 17 = .ok (.if_icmp .gt 82, 3) := by decide +kernel
theorem dX12_doesFit_20 : decode cX12_doesFit 20 = .ok (.aload_n 0, 1) := by decide +kernel
theorem dX12_doesFit_21 : decode cX12_doesFit 21 = .ok (.getfield 202, 3) := by decide +kernel
theorem dX12_doesFit_24 : decode cX12_doesFit 24 = .ok (.iload_n 3, 1) := by decide +kernel
theorem dX12_doesFit_25 : decode cX12_doesFit 25 = .ok (.iaload, 1) := by decide +kernel
theorem dX12_doesFit_26 : decode cX12_doesFit 26 = .ok (.ifCond .lt 16, 3) := by decide +kernel
theorem dX12_doesFit_29 : decode cX12_doesFit 29 = .ok (.aload_n 0, 1) := by decide +kernel
theorem dX12_doesFit_30 : decode cX12_doesFit 30 = .ok (.getfield 202, 3) := by decide +kernel
theorem dX12_doesFit_33 : decode cX12_doesFit 33 = .ok (.iload_n 3, 1) := by decide +kernel
theorem dX12_doesFit_34 : decode cX12_doesFit 34 = .ok (.iaload, 1) := by decide +kernel
theorem dX12_doesFit_35 : decode cX12_doesFit 35 = .ok (.iload_n 2, 1) := by decide +kernel
theorem dX12_doesFit_36 : decode cX12_doesFit 36 = .ok (.if_icmp .gt 6, 3) := by decide +kernel
theorem dX12_doesFit_39 : decode cX12_doesFit 39 = .ok (.goto 60, 3) := by decide +kernel
theorem dX12_doesFit_42 : decode cX12_doesFit 42 = .ok (.aload_n 0, 1) := by decide +kernel
theorem dX12_doesFit_43 : decode cX12_doesFit 43 = .ok (.iload_n 1, 1) := by decide +kernel
theorem dX12_doesFit_44 : decode cX12_doesFit 44 = .ok (.aload_n 0, 1) := by decide +kernel
theorem dX12_doesFit_45 : decode cX12_doesFit 45 = .ok (.getfield 184, 3) := by decide +kernel
theorem dX12_doesFit_48 : decode cX12_doesFit 48 = .ok (.iload_n 3, 1) := by decide +kernel
theorem dX12_doesFit_49 : decode cX12_doesFit 49 = .ok (.iaload, 1) := by decide +kernel
theorem dX12_doesFit_50 : decode cX12_doesFit 50 = .ok (.aload_n 0, 1) := by decide +kernel
theorem dX12_doesFit_51 : decode cX12_doesFit 51 = .ok (.getfield 187, 3) := by decide +kernel
theorem dX12_doesFit_54 : decode cX12_doesFit 54 = .ok (.iload_n 3, 1) := by decide +kernel
theorem dX12_doesFit_55 : decode cX12_doesFit 55 = .ok (.iaload, 1) := by decide +kernel
theorem dX12_doesFit_56 : decode cX12_doesFit 56 = .ok (.aload_n 0, 1) := by decide +kernel
theorem dX12_doesFit_57 : decode cX12_doesFit 57 = .ok (.getfield 190, 3) := by decide +kernel
theorem dX12_doesFit_60 : decode cX12_doesFit 60 = .ok (.iload_n 3, 1) := by decide +kernel
theorem dX12_doesFit_61 : decode cX12_doesFit 61 = .ok (.iaload, 1) := by decide +kernel
theorem dX12_doesFit_62 : decode cX12_doesFit 62 = .ok (.invokevirtual 683, 3) := by decide +kernel
theorem dX12_doesFit_65 : decode cX12_doesFit 65 = .ok (.aload_n 0, 1) := by decide +kernel
theorem dX12_doesFit_66 : decode cX12_doesFit 66 = .ok (.getfield 193, 3) := by decide +kernel
theorem dX12_doesFit_69 : decode cX12_doesFit 69 = .ok (.iload_n 3, 1) := by decide +kernel
theorem dX12_doesFit_70 : decode cX12_doesFit 70 = .ok (.iaload, 1) := by decide +kernel
theorem dX12_doesFit_71 : decode cX12_doesFit 71 = .ok (.if_icmp .ne 7, 3) := by decide +kernel
theorem dX12_doesFit_74 : decode cX12_doesFit 74 = .ok (.iconst 1, 1) := by decide +kernel
theorem dX12_doesFit_75 : decode cX12_doesFit 75 = .ok (.goto 4, 3) := by decide +kernel
theorem dX12_doesFit_78 : decode cX12_doesFit 78 = .ok (.iconst 0, 1) := by decide +kernel
theorem dX12_doesFit_79 : decode cX12_doesFit 79 = .ok (.aload_n 0, 1) := by decide +kernel
theorem dX12_doesFit_80 : decode cX12_doesFit 80 = .ok (.getfield 196, 3) := by decide +kernel
theorem dX12_doesFit_83 : decode cX12_doesFit 83 = .ok (.iload_n 3, 1) := by decide +kernel
theorem dX12_doesFit_84 : decode cX12_doesFit 84 = .ok (.iaload, 1) := by decide +kernel
theorem dX12_doesFit_85 : decode cX12_doesFit 85 = .ok (.iconst 1, 1) := by decide +kernel
theorem dX12_doesFit_86 : decode cX12_doesFit 86 = .ok (.if_icmp .ne 7, 3) := by decide +kernel
theorem dX12_doesFit_89 : decode cX12_doesFit 89 = .ok (.iconst 1, 1) := by decide +kernel
theorem dX12_doesFit_90 : decode cX12_doesFit 90 = .ok (.goto 4, 3) := by decide +kernel
theorem dX12_doesFit_93 : decode cX12_doesFit 93 = .ok (.iconst 0, 1) := by decide +kernel
theorem dX12_doesFit_94 : decode cX12_doesFit 94 = .ok (.if_icmp .eq 5, 3) := by decide +kernel
theorem dX12_doesFit_97 : decode cX12_doesFit 97 = .ok (.iconst 0, 1) := by decide +kernel
theorem dX12_doesFit_98 : decode cX12_doesFit 98 = .ok (.ireturn, 1) := by decide +kernel
theorem dX12_doesFit_99 : decode cX12_doesFit 99 = .ok (.iinc 3 1, 3) := by decide +kernel
theorem dX12_doesFit_102 : decode cX12_doesFit 102 = .ok (.goto (-100), 3) := by decide +kernel
theorem dX12_doesFit_105 : decode cX12_doesFit 105 = .ok (.iconst 1, 1) := by decide +kernel
theorem dX12_doesFit_106 : decode cX12_doesFit 106 = .ok (.ireturn, 1) := by decide +kernel
theorem dX12_layFits_0 : decode cX12_layFits 0 = .ok (.iconst 0, 1) := by decide +kernel
theorem dX12_layFits_1 : decode cX12_layFits 1 = .ok (.istore_n 2, 1) := by decide +kernel
theorem dX12_layFits_2 : decode cX12_layFits 2 = .ok (.iconst 0, 1) := by decide +kernel
theorem dX12_layFits_3 : decode cX12_layFits 3 = .ok (.istore_n 3, 1) := by decide +kernel
theorem dX12_layFits_4 : decode cX12_layFits 4 = .ok (.iload_n 3, 1) := by decide +kernel
theorem dX12_layFits_5 : decode cX12_layFits 5 = .ok (.bipush 15, 2) := by decide +kernel
theorem dX12_layFits_7 : decode cX12_layFits 7 = .ok (.if_icmp .ge 54, 3) := by decide +kernel
theorem dX12_layFits_10 : decode cX12_layFits 10 = .ok (.aload_n 0, 1) := by decide +kernel
theorem dX12_layFits_11 : decode cX12_layFits 11 = .ok (.getfield 208, 3) := by decide +kernel
theorem dX12_layFits_14 : decode cX12_layFits 14 = .ok (.iload_n 3, 1) := by decide +kernel
theorem dX12_layFits_15 : decode cX12_layFits 15 = .ok (.aload_n 0, 1) := by decide +kernel
theorem dX12_layFits_16 : decode cX12_layFits 16 = .ok (.iload_n 3, 1) := by decide +kernel
theorem dX12_layFits_17 : decode cX12_layFits 17 = .ok (.invokevirtual 686, 3) := by decide +kernel
theorem dX12_layFits_20 : decode cX12_layFits 20 = .ok (.ifCond .eq 16, 3) := by decide +kernel
theorem dX12_layFits_23 : decode cX12_layFits 23 = .ok (.aload_n 0, 1) := by decide +kernel
theorem dX12_layFits_24 : decode cX12_layFits 24 = .ok (.iload_n 3, 1) := by decide +kernel
theorem dX12_layFits_25 : decode cX12_layFits 25 = .ok (.iload_n 1, 1) := by decide +kernel
theorem dX12_layFits_26 : decode cX12_layFits 26 = .ok (.invokevirtual 689, 3) := by decide +kernel
theorem dX12_layFits_29 : decode cX12_layFits 29 = .ok (.ifCond .eq 7, 3) := by decide +kernel
theorem dX12_layFits_32 : decode cX12_layFits 32 = .ok (.iconst 1, 1) := by decide +kernel
theorem dX12_layFits_33 : decode cX12_layFits 33 = .ok (.goto 4, 3) := by decide +kernel
theorem dX12_layFits_36 : decode cX12_layFits 36 = .ok (.iconst 0, 1) := by decide +kernel
theorem dX12_layFits_37 : decode cX12_layFits 37 = .ok (.bastore, 1) := by decide +kernel
theorem dX12_layFits_38 : decode cX12_layFits 38 = .ok (.iload_n 2, 1) := by decide +kernel
theorem dX12_layFits_39 : decode cX12_layFits 39 = .ok (.aload_n 0, 1) := by decide +kernel
theorem dX12_layFits_40 : decode cX12_layFits 40 = .ok (.getfield 208, 3) := by decide +kernel
theorem dX12_layFits_43 : decode cX12_layFits 43 = .ok (.iload_n 3, 1) := by decide +kernel
theorem dX12_layFits_44 : decode cX12_layFits 44 = .ok (.baload, 1) := by decide +kernel
theorem dX12_layFits_45 : decode cX12_layFits 45 = .ok (.ifCond .eq 7, 3) := by decide +kernel
theorem dX12_layFits_48 : decode cX12_layFits 48 = .ok (.iconst 1, 1) := by decide +kernel
theorem dX12_layFits_49 : decode cX12_layFits 49 = .ok (.goto 4, 3) := by decide +kernel
theorem dX12_layFits_52 : decode cX12_layFits 52 = .ok (.iconst 0, 1) := by decide +kernel
theorem dX12_layFits_53 : decode cX12_layFits 53 = .ok (.iadd, 1) := by decide +kernel
theorem dX12_layFits_54 : decode cX12_layFits 54 = .ok (.istore_n 2, 1) := by decide +kernel
theorem dX12_layFits_55 : decode cX12_layFits 55 = .ok (.iinc 3 1, 3) := by decide +kernel
theorem dX12_layFits_58 : decode cX12_layFits 58 = .ok (.goto (-54), 3) := by decide +kernel
theorem dX12_layFits_61 : decode cX12_layFits 61 = .ok (.iload_n 2, 1) := by decide +kernel
theorem dX12_layFits_62 : decode cX12_layFits 62 = .ok (.ireturn, 1) := by decide +kernel
theorem dX12_fits_0 : decode cX12_fits 0 = .ok (.aload_n 0, 1) := by decide +kernel
theorem dX12_fits_1 : decode cX12_fits 1 = .ok (.iload_n 1, 1) := by decide +kernel
theorem dX12_fits_2 : decode cX12_fits 2 = .ok (.invokevirtual 692, 3) := by decide +kernel
theorem dX12_fits_5 : decode cX12_fits 5 = .ok (.ireturn, 1) := by decide +kernel
theorem dX12_fit_0 : decode cX12_fit 0 = .ok (.aload_n 0, 1) := by decide +kernel
theorem dX12_fit_1 : decode cX12_fit 1 = .ok (.iload_n 2, 1) := by decide +kernel
theorem dX12_fit_2 : decode cX12_fit 2 = .ok (.invokevirtual 692, 3) := by decide +kernel
theorem dX12_fit_5 : decode cX12_fit 5 = .ok (.istore_n 3, 1) := by decide +kernel
theorem dX12_fit_6 : decode cX12_fit 6 = .ok (.iload_n 1, 1) := by decide +kernel
theorem dX12_fit_7 : decode cX12_fit 7 = .ok (.istore 4, 2) := by decide +kernel
theorem dX12_fit_9 : decode cX12_fit 9 = .ok (.iconst 0, 1) := by decide +kernel
theorem dX12_fit_10 : decode cX12_fit 10 = .ok (.istore 5, 2) := by decide +kernel
theorem dX12_fit_12 : decode cX12_fit 12 = .ok (.iload 5, 2) := by decide +kernel
theorem dX12_fit_14 : decode cX12_fit 14 = .ok (.bipush 15, 2) := by decide +kernel
theorem dX12_fit_16 : decode cX12_fit 16 = .ok (.if_icmp .ge 42, 3) := by decide +kernel
theorem dX12_fit_19 : decode cX12_fit 19 = .ok (.iload_n 1, 1) := by decide +kernel
theorem dX12_fit_20 : decode cX12_fit 20 = .ok (.ifCond .lt 38, 3) := by decide +kernel
theorem dX12_fit_23 : decode cX12_fit 23 = .ok (.iload_n 1, 1) := by decide +kernel
theorem dX12_fit_24 : decode cX12_fit 24 = .ok (.iload_n 3, 1) := by decide +kernel
theorem dX12_fit_25 : decode cX12_fit 25 = .ok (.if_icmp .ge 33, 3) := by decide +kernel
theorem dX12_fit_28 : decode cX12_fit 28 = .ok (.aload_n 0, 1) := by decide +kernel
theorem dX12_fit_29 : decode cX12_fit 29 = .ok (.getfield 208, 3) := by decide +kernel
theorem dX12_fit_32 : decode cX12_fit 32 = .ok (.iload 5, 2) := by decide +kernel
theorem dX12_fit_34 : decode cX12_fit 34 = .ok (.baload, 1) := by decide +kernel
theorem dX12_fit_35 : decode cX12_fit 35 = .ok (.ifCond .ne 6, 3) := by decide +kernel
theorem dX12_fit_38 : decode cX12_fit 38 = .ok (.goto 14, 3) := by decide +kernel
theorem dX12_fit_41 : decode cX12_fit 41 = .ok (.iload 4, 2) := by decide +kernel
theorem dX12_fit_43 : decode cX12_fit 43 = .ok (.ifCond .ne 6, 3) := by decide +kernel
theorem dX12_fit_46 : decode cX12_fit 46 = .ok (.iload 5, 2) := by decide +kernel
theorem dX12_fit_48 : decode cX12_fit 48 = .ok (.ireturn, 1) := by decide +kernel
theorem dX12_fit_49 : decode cX12_fit 49 = .ok (.iinc 4 (-1), 3) := by decide +kernel
theorem dX12_fit_52 : decode cX12_fit 52 = .ok (.iinc 5 1, 3) := by decide +kernel
theorem dX12_fit_55 : decode cX12_fit 55 = .ok (.goto (-43), 3) := by decide +kernel
theorem dX12_fit_58 : decode cX12_fit 58 = .ok (.iconst (-1), 1) := by decide +kernel
theorem dX12_fit_59 : decode cX12_fit 59 = .ok (.ireturn, 1) := by decide +kernel
theorem dX12_mostBy_0 : decode cX12_mostBy 0 = .ok (.iconst 0, 1) := by decide +kernel
theorem dX12_mostBy_1 : decode cX12_mostBy 1 = .ok (.istore 4, 2) := by decide +kernel
theorem dX12_mostBy_3 : decode cX12_mostBy 3 = .ok (.iconst 0, 1) := by decide +kernel
theorem dX12_mostBy_4 : decode cX12_mostBy 4 = .ok (.istore 5, 2) := by decide +kernel
theorem dX12_mostBy_6 : decode cX12_mostBy 6 = .ok (.iload 5, 2) := by decide +kernel
theorem dX12_mostBy_8 : decode cX12_mostBy 8 = .ok (.bipush 15, 2) := by decide +kernel
theorem dX12_mostBy_10 : decode cX12_mostBy 10 = .ok (.if_icmp .ge 103, 3) := by decide +kernel
theorem dX12_mostBy_13 : decode cX12_mostBy 13 = .ok (.aload_n 0, 1) := by decide +kernel
theorem dX12_mostBy_14 : decode cX12_mostBy 14 = .ok (.getfield 208, 3) := by decide +kernel
theorem dX12_mostBy_17 : decode cX12_mostBy 17 = .ok (.iload 5, 2) := by decide +kernel
theorem dX12_mostBy_19 : decode cX12_mostBy 19 = .ok (.baload, 1) := by decide +kernel
theorem dX12_mostBy_20 : decode cX12_mostBy 20 = .ok (.ifCond .ne 6, 3) := by decide +kernel
theorem dX12_mostBy_23 : decode cX12_mostBy 23 = .ok (.goto 84, 3) := by decide +kernel
theorem dX12_mostBy_26 : decode cX12_mostBy 26 = .ok (.aload_n 0, 1) := by decide +kernel
theorem dX12_mostBy_27 : decode cX12_mostBy 27 = .ok (.getfield 205, 3) := by decide +kernel
theorem dX12_mostBy_30 : decode cX12_mostBy 30 = .ok (.iload 5, 2) := by decide +kernel
theorem dX12_mostBy_32 : decode cX12_mostBy 32 = .ok (.aload_n 0, 1) := by decide +kernel
theorem dX12_mostBy_33 : decode cX12_mostBy 33 = .ok (.iload 5, 2) := by decide +kernel
theorem dX12_mostBy_35 : decode cX12_mostBy 35 = .ok (.iload_n 1, 1) := by decide +kernel
theorem dX12_mostBy_36 : decode cX12_mostBy 36 = .ok (.iload_n 2, 1) := by decide +kernel
theorem dX12_mostBy_37 : decode cX12_mostBy 37 = .ok (.iload_n 3, 1) := by decide +kernel
theorem dX12_mostBy_38 : decode cX12_mostBy 38 = .ok (.invokevirtual 683, 3) := by decide +kernel
theorem dX12_mostBy_41 : decode cX12_mostBy 41 = .ok (.iastore, 1) := by decide +kernel
theorem dX12_mostBy_42 : decode cX12_mostBy 42 = .ok (.iconst 0, 1) := by decide +kernel
theorem dX12_mostBy_43 : decode cX12_mostBy 43 = .ok (.istore 6, 2) := by decide +kernel
theorem dX12_mostBy_45 : decode cX12_mostBy 45 = .ok (.iconst 0, 1) := by decide +kernel
theorem dX12_mostBy_46 : decode cX12_mostBy 46 = .ok (.istore 7, 2) := by decide +kernel
theorem dX12_mostBy_48 : decode cX12_mostBy 48 = .ok (.iload 7, 2) := by decide +kernel
theorem dX12_mostBy_50 : decode cX12_mostBy 50 = .ok (.iload 5, 2) := by decide +kernel
theorem dX12_mostBy_52 : decode cX12_mostBy 52 = .ok (.if_icmp .gt 46, 3) := by decide +kernel
theorem dX12_mostBy_55 : decode cX12_mostBy 55 = .ok (.iload 6, 2) := by decide +kernel
theorem dX12_mostBy_57 : decode cX12_mostBy 57 = .ok (.aload_n 0, 1) := by decide +kernel
theorem dX12_mostBy_58 : decode cX12_mostBy 58 = .ok (.getfield 208, 3) := by decide +kernel
theorem dX12_mostBy_61 : decode cX12_mostBy 61 = .ok (.iload 7, 2) := by decide +kernel
theorem dX12_mostBy_63 : decode cX12_mostBy 63 = .ok (.baload, 1) := by decide +kernel
theorem dX12_mostBy_64 : decode cX12_mostBy 64 = .ok (.ifCond .eq 24, 3) := by decide +kernel
theorem dX12_mostBy_67 : decode cX12_mostBy 67 = .ok (.aload_n 0, 1) := by decide +kernel
theorem dX12_mostBy_68 : decode cX12_mostBy 68 = .ok (.getfield 205, 3) := by decide +kernel
theorem dX12_mostBy_71 : decode cX12_mostBy 71 = .ok (.iload 7, 2) := by decide +kernel
theorem dX12_mostBy_73 : decode cX12_mostBy 73 = .ok (.iaload, 1) := by decide +kernel
theorem dX12_mostBy_74 : decode cX12_mostBy 74 = .ok (.aload_n 0, 1) := by decide +kernel
theorem dX12_mostBy_75 : decode cX12_mostBy 75 = .ok (.getfield 205, 3) := by decide +kernel
theorem dX12_mostBy_78 : decode cX12_mostBy 78 = .ok (.iload 5, 2) := by decide +kernel
theorem dX12_mostBy_80 : decode cX12_mostBy 80 = .ok (.iaload, 1) := by decide +kernel
theorem dX12_mostBy_81 : decode cX12_mostBy 81 = .ok (.if_icmp .ne 7, 3) := by decide +kernel
theorem dX12_mostBy_84 : decode cX12_mostBy 84 = .ok (.iconst 1, 1) := by decide +kernel
theorem dX12_mostBy_85 : decode cX12_mostBy 85 = .ok (.goto 4, 3) := by decide +kernel
theorem dX12_mostBy_88 : decode cX12_mostBy 88 = .ok (.iconst 0, 1) := by decide +kernel
theorem dX12_mostBy_89 : decode cX12_mostBy 89 = .ok (.iadd, 1) := by decide +kernel
theorem dX12_mostBy_90 : decode cX12_mostBy 90 = .ok (.istore 6, 2) := by decide +kernel
theorem dX12_mostBy_92 : decode cX12_mostBy 92 = .ok (.iinc 7 1, 3) := by decide +kernel
theorem dX12_mostBy_95 : decode cX12_mostBy 95 = .ok (.goto (-47), 3) := by decide +kernel
theorem dX12_mostBy_98 : decode cX12_mostBy 98 = .ok (.iload 4, 2) := by decide +kernel
theorem dX12_mostBy_100 : decode cX12_mostBy 100 = .ok (.iload 6, 2) := by decide +kernel
theorem dX12_mostBy_102 : decode cX12_mostBy 102 = .ok (.invokestatic 588, 3) := by decide +kernel
theorem dX12_mostBy_105 : decode cX12_mostBy 105 = .ok (.istore 4, 2) := by decide +kernel
theorem dX12_mostBy_107 : decode cX12_mostBy 107 = .ok (.iinc 5 1, 3) := by decide +kernel
theorem dX12_mostBy_110 : decode cX12_mostBy 110 = .ok (.goto (-104), 3) := by decide +kernel
theorem dX12_mostBy_113 : decode cX12_mostBy 113 = .ok (.iload 4, 2) := by decide +kernel
theorem dX12_mostBy_115 : decode cX12_mostBy 115 = .ok (.ireturn, 1) := by decide +kernel
theorem dX12_ask_0 : decode cX12_ask 0 = .ok (.iload_n 1, 1) := by decide +kernel
theorem dX12_ask_1 : decode cX12_ask 1 = .ok (.iconst 0, 1) := by decide +kernel
theorem dX12_ask_2 : decode cX12_ask 2 = .ok (.bipush 9, 2) := by decide +kernel
theorem dX12_ask_4 : decode cX12_ask 4 = .ok (.invokestatic 500, 3) := by decide +kernel
theorem dX12_ask_7 : decode cX12_ask 7 = .ok (.ifCond .eq 31, 3) := by decide +kernel
theorem dX12_ask_10 : decode cX12_ask 10 = .ok (.iload_n 2, 1) := by decide +kernel
theorem dX12_ask_11 : decode cX12_ask 11 = .ok (.iconst 0, 1) := by decide +kernel
theorem dX12_ask_12 : decode cX12_ask 12 = .ok (.bipush 9, 2) := by decide +kernel
theorem dX12_ask_14 : decode cX12_ask 14 = .ok (.invokestatic 500, 3) := by decide +kernel
theorem dX12_ask_17 : decode cX12_ask 17 = .ok (.ifCond .eq 21, 3) := by decide +kernel
theorem dX12_ask_20 : decode cX12_ask 20 = .ok (.iload_n 3, 1) := by decide +kernel
theorem dX12_ask_21 : decode cX12_ask 21 = .ok (.iconst 0, 1) := by decide +kernel
theorem dX12_ask_22 : decode cX12_ask 22 = .ok (.iconst 1, 1) := by decide +kernel
theorem dX12_ask_23 : decode cX12_ask 23 = .ok (.invokestatic 500, 3) := by decide +kernel
theorem dX12_ask_26 : decode cX12_ask 26 = .ok (.ifCond .eq 12, 3) := by decide +kernel
theorem dX12_ask_29 : decode cX12_ask 29 = .ok (.aload_n 0, 1) := by decide +kernel
theorem dX12_ask_30 : decode cX12_ask 30 = .ok (.iload 4, 2) := by decide +kernel
theorem dX12_ask_32 : decode cX12_ask 32 = .ok (.invokevirtual 692, 3) := by decide +kernel
theorem dX12_ask_35 : decode cX12_ask 35 = .ok (.ifCond .ne 5, 3) := by decide +kernel
theorem dX12_ask_38 : decode cX12_ask 38 = .ok (.iconst (-1), 1) := by decide +kernel
theorem dX12_ask_39 : decode cX12_ask 39 = .ok (.ireturn, 1) := by decide +kernel
theorem dX12_ask_40 : decode cX12_ask 40 = .ok (.iconst (-1), 1) := by decide +kernel
theorem dX12_ask_41 : decode cX12_ask 41 = .ok (.istore 5, 2) := by decide +kernel
theorem dX12_ask_43 : decode cX12_ask 43 = .ok (.ldc_w 622, 3) := by decide +kernel
theorem dX12_ask_46 : decode cX12_ask 46 = .ok (.istore 6, 2) := by decide +kernel
theorem dX12_ask_48 : decode cX12_ask 48 = .ok (.iconst 0, 1) := by decide +kernel
theorem dX12_ask_49 : decode cX12_ask 49 = .ok (.istore 7, 2) := by decide +kernel
theorem dX12_ask_51 : decode cX12_ask 51 = .ok (.iload 7, 2) := by decide +kernel
theorem dX12_ask_53 : decode cX12_ask 53 = .ok (.bipush 10, 2) := by decide +kernel
theorem dX12_ask_55 : decode cX12_ask 55 = .ok (.if_icmp .ge 37, 3) := by decide +kernel
theorem dX12_ask_58 : decode cX12_ask 58 = .ok (.aload_n 0, 1) := by decide +kernel
theorem dX12_ask_59 : decode cX12_ask 59 = .ok (.iload_n 1, 1) := by decide +kernel
theorem dX12_ask_60 : decode cX12_ask 60 = .ok (.iload_n 2, 1) := by decide +kernel
theorem dX12_ask_61 : decode cX12_ask 61 = .ok (.iload 7, 2) := by decide +kernel
theorem dX12_ask_63 : decode cX12_ask 63 = .ok (.invokevirtual 695, 3) := by decide +kernel
theorem dX12_ask_66 : decode cX12_ask 66 = .ok (.istore 8, 2) := by decide +kernel
theorem dX12_ask_68 : decode cX12_ask 68 = .ok (.iload 8, 2) := by decide +kernel
theorem dX12_ask_70 : decode cX12_ask 70 = .ok (.iload 6, 2) := by decide +kernel
theorem dX12_ask_72 : decode cX12_ask 72 = .ok (.if_icmp .lt 6, 3) := by decide +kernel
theorem dX12_ask_75 : decode cX12_ask 75 = .ok (.goto 11, 3) := by decide +kernel
theorem dX12_ask_78 : decode cX12_ask 78 = .ok (.iload 7, 2) := by decide +kernel
theorem dX12_ask_80 : decode cX12_ask 80 = .ok (.istore 5, 2) := by decide +kernel
theorem dX12_ask_82 : decode cX12_ask 82 = .ok (.iload 8, 2) := by decide +kernel
theorem dX12_ask_84 : decode cX12_ask 84 = .ok (.istore 6, 2) := by decide +kernel
theorem dX12_ask_86 : decode cX12_ask 86 = .ok (.iinc 7 1, 3) := by decide +kernel
theorem dX12_ask_89 : decode cX12_ask 89 = .ok (.goto (-38), 3) := by decide +kernel
theorem dX12_ask_92 : decode cX12_ask 92 = .ok (.iload_n 3, 1) := by decide +kernel
theorem dX12_ask_93 : decode cX12_ask 93 = .ok (.ifCond .ne 8, 3) := by decide +kernel
theorem dX12_ask_96 : decode cX12_ask 96 = .ok (.iload 5, 2) := by decide +kernel
theorem dX12_ask_98 : decode cX12_ask 98 = .ok (.goto 5, 3) := by decide +kernel
theorem dX12_ask_101 : decode cX12_ask 101 = .ok (.iload 6, 2) := by decide +kernel
theorem dX12_ask_103 : decode cX12_ask 103 = .ok (.ireturn, 1) := by decide +kernel
theorem dX12_image_0 : decode cX12_image 0 = .ok (.iload_n 1, 1) := by decide +kernel
theorem dX12_image_1 : decode cX12_image 1 = .ok (.iconst 0, 1) := by decide +kernel
theorem dX12_image_2 : decode cX12_image 2 = .ok (.iconst 2, 1) := by decide +kernel
theorem dX12_image_3 : decode cX12_image 3 = .ok (.invokestatic 500, 3) := by decide +kernel
theorem dX12_image_6 : decode cX12_image 6 = .ok (.ifCond .ne 5, 3) := by decide +kernel
theorem dX12_image_9 : decode cX12_image 9 = .ok (.iconst (-1), 1) := by decide +kernel
theorem dX12_image_10 : decode cX12_image 10 = .ok (.ireturn, 1) := by decide +kernel
theorem dX12_image_11 : decode cX12_image 11 = .ok (.iconst 0, 1) := by decide +kernel
theorem dX12_image_12 : decode cX12_image 12 = .ok (.istore_n 2, 1) := by decide +kernel
theorem dX12_image_13 : decode cX12_image 13 = .ok (.iload_n 2, 1) := by decide +kernel
theorem dX12_image_14 : decode cX12_image 14 = .ok (.bipush 34, 2) := by decide +kernel
theorem dX12_image_16 : decode cX12_image 16 = .ok (.if_icmp .ge 26, 3) := by decide +kernel
theorem dX12_image_19 : decode cX12_image 19 = .ok (.aload_n 0, 1) := by decide +kernel
theorem dX12_image_20 : decode cX12_image 20 = .ok (.getfield 212, 3) := by decide +kernel
theorem dX12_image_23 : decode cX12_image 23 = .ok (.bipush 34, 2) := by decide +kernel
theorem dX12_image_25 : decode cX12_image 25 = .ok (.iload_n 1, 1) := by decide +kernel
theorem dX12_image_26 : decode cX12_image 26 = .ok (.imul, 1) := by decide +kernel
theorem dX12_image_27 : decode cX12_image 27 = .ok (.iload_n 2, 1) := by decide +kernel
theorem dX12_image_28 : decode cX12_image 28 = .ok (.iadd, 1) := by decide +kernel
theorem dX12_image_29 : decode cX12_image 29 = .ok (.aload_n 0, 1) := by decide +kernel
theorem dX12_image_30 : decode cX12_image 30 = .ok (.getfield 124, 3) := by decide +kernel
theorem dX12_image_33 : decode cX12_image 33 = .ok (.iload_n 2, 1) := by decide +kernel
theorem dX12_image_34 : decode cX12_image 34 = .ok (.iaload, 1) := by decide +kernel
theorem dX12_image_35 : decode cX12_image 35 = .ok (.iastore, 1) := by decide +kernel
theorem dX12_image_36 : decode cX12_image 36 = .ok (.iinc 2 1, 3) := by decide +kernel
theorem dX12_image_39 : decode cX12_image 39 = .ok (.goto (-26), 3) := by decide +kernel
theorem dX12_image_42 : decode cX12_image 42 = .ok (.aload_n 0, 1) := by decide +kernel
theorem dX12_image_43 : decode cX12_image 43 = .ok (.getfield 215, 3) := by decide +kernel
theorem dX12_image_46 : decode cX12_image 46 = .ok (.iload_n 1, 1) := by decide +kernel
theorem dX12_image_47 : decode cX12_image 47 = .ok (.iconst 1, 1) := by decide +kernel
theorem dX12_image_48 : decode cX12_image 48 = .ok (.bastore, 1) := by decide +kernel
theorem dX12_image_49 : decode cX12_image 49 = .ok (.aload_n 0, 1) := by decide +kernel
theorem dX12_image_50 : decode cX12_image 50 = .ok (.getfield 124, 3) := by decide +kernel
theorem dX12_image_53 : decode cX12_image 53 = .ok (.bipush 30, 2) := by decide +kernel
theorem dX12_image_55 : decode cX12_image 55 = .ok (.iaload, 1) := by decide +kernel
theorem dX12_image_56 : decode cX12_image 56 = .ok (.ireturn, 1) := by decide +kernel
theorem dX12_back_0 : decode cX12_back 0 = .ok (.iload_n 1, 1) := by decide +kernel
theorem dX12_back_1 : decode cX12_back 1 = .ok (.iconst 0, 1) := by decide +kernel
theorem dX12_back_2 : decode cX12_back 2 = .ok (.iconst 2, 1) := by decide +kernel
theorem dX12_back_3 : decode cX12_back 3 = .ok (.invokestatic 500, 3) := by decide +kernel
theorem dX12_back_6 : decode cX12_back 6 = .ok (.ifCond .eq 12, 3) := by decide +kernel
theorem dX12_back_9 : decode cX12_back 9 = .ok (.aload_n 0, 1) := by decide +kernel
theorem dX12_back_10 : decode cX12_back 10 = .ok (.getfield 215, 3) := by decide +kernel
theorem dX12_back_13 : decode cX12_back 13 = .ok (.iload_n 1, 1) := by decide +kernel
theorem dX12_back_14 : decode cX12_back 14 = .ok (.baload, 1) := by decide +kernel
theorem dX12_back_15 : decode cX12_back 15 = .ok (.ifCond .ne 5, 3) := by decide +kernel
theorem dX12_back_18 : decode cX12_back 18 = .ok (.iconst (-1), 1) := by decide +kernel
theorem dX12_back_19 : decode cX12_back 19 = .ok (.ireturn, 1) := by decide +kernel
theorem dX12_back_20 : decode cX12_back 20 = .ok (.iconst 0, 1) := by decide +kernel
theorem dX12_back_21 : decode cX12_back 21 = .ok (.istore_n 2, 1) := by decide +kernel
theorem dX12_back_22 : decode cX12_back 22 = .ok (.iload_n 2, 1) := by decide +kernel
theorem dX12_back_23 : decode cX12_back 23 = .ok (.bipush 34, 2) := by decide +kernel
theorem dX12_back_25 : decode cX12_back 25 = .ok (.if_icmp .ge 26, 3) := by decide +kernel
theorem dX12_back_28 : decode cX12_back 28 = .ok (.aload_n 0, 1) := by decide +kernel
theorem dX12_back_29 : decode cX12_back 29 = .ok (.getfield 124, 3) := by decide +kernel
theorem dX12_back_32 : decode cX12_back 32 = .ok (.iload_n 2, 1) := by decide +kernel
theorem dX12_back_33 : decode cX12_back 33 = .ok (.aload_n 0, 1) := by decide +kernel
theorem dX12_back_34 : decode cX12_back 34 = .ok (.getfield 212, 3) := by decide +kernel
theorem dX12_back_37 : decode cX12_back 37 = .ok (.bipush 34, 2) := by decide +kernel
theorem dX12_back_39 : decode cX12_back 39 = .ok (.iload_n 1, 1) := by decide +kernel
theorem dX12_back_40 : decode cX12_back 40 = .ok (.imul, 1) := by decide +kernel
theorem dX12_back_41 : decode cX12_back 41 = .ok (.iload_n 2, 1) := by decide +kernel
theorem dX12_back_42 : decode cX12_back 42 = .ok (.iadd, 1) := by decide +kernel
theorem dX12_back_43 : decode cX12_back 43 = .ok (.iaload, 1) := by decide +kernel
theorem dX12_back_44 : decode cX12_back 44 = .ok (.iastore, 1) := by decide +kernel
theorem dX12_back_45 : decode cX12_back 45 = .ok (.iinc 2 1, 3) := by decide +kernel
theorem dX12_back_48 : decode cX12_back 48 = .ok (.goto (-26), 3) := by decide +kernel
theorem dX12_back_51 : decode cX12_back 51 = .ok (.aload_n 0, 1) := by decide +kernel
theorem dX12_back_52 : decode cX12_back 52 = .ok (.iconst 0, 1) := by decide +kernel
theorem dX12_back_53 : decode cX12_back 53 = .ok (.putfield 507, 3) := by decide +kernel
theorem dX12_back_56 : decode cX12_back 56 = .ok (.aload_n 0, 1) := by decide +kernel
theorem dX12_back_57 : decode cX12_back 57 = .ok (.iconst 0, 1) := by decide +kernel
theorem dX12_back_58 : decode cX12_back 58 = .ok (.putfield 510, 3) := by decide +kernel
theorem dX12_back_61 : decode cX12_back 61 = .ok (.aload_n 0, 1) := by decide +kernel
theorem dX12_back_62 : decode cX12_back 62 = .ok (.getfield 124, 3) := by decide +kernel
theorem dX12_back_65 : decode cX12_back 65 = .ok (.bipush 30, 2) := by decide +kernel
theorem dX12_back_67 : decode cX12_back 67 = .ok (.iaload, 1) := by decide +kernel
theorem dX12_back_68 : decode cX12_back 68 = .ok (.ireturn, 1) := by decide +kernel
theorem dX12_about_0 : decode cX12_about 0 = .ok (.iload_n 1, 1) := by decide +kernel
theorem dX12_about_1 : decode cX12_about 1 = .ok (.tableswitch 168 0 13 #[71, 76, 86, 94, 102, 110, 118, 123, 128, 133, 138, 143, 153, 158], 71) := by decide +kernel
theorem dX12_about_72 : decode cX12_about 72 = .ok (.aload_n 0, 1) := by decide +kernel
theorem dX12_about_73 : decode cX12_about 73 = .ok (.invokevirtual 497, 3) := by decide +kernel
theorem dX12_about_76 : decode cX12_about 76 = .ok (.ireturn, 1) := by decide +kernel
theorem dX12_about_77 : decode cX12_about 77 = .ok (.aload_n 0, 1) := by decide +kernel
theorem dX12_about_78 : decode cX12_about 78 = .ok (.getfield 24, 3) := by decide +kernel
theorem dX12_about_81 : decode cX12_about 81 = .ok (.aload_n 0, 1) := by decide +kernel
theorem dX12_about_82 : decode cX12_about 82 = .ok (.getfield 349, 3) := by decide +kernel
theorem dX12_about_85 : decode cX12_about 85 = .ok (.iaload, 1) := by decide +kernel
theorem dX12_about_86 : decode cX12_about 86 = .ok (.ireturn, 1) := by decide +kernel
theorem dX12_about_87 : decode cX12_about 87 = .ok (.aload_n 0, 1) := by decide +kernel
theorem dX12_about_88 : decode cX12_about 88 = .ok (.getfield 124, 3) := by decide +kernel
theorem dX12_about_91 : decode cX12_about 91 = .ok (.bipush 30, 2) := by decide +kernel
theorem dX12_about_93 : decode cX12_about 93 = .ok (.iaload, 1) := by decide +kernel
theorem dX12_about_94 : decode cX12_about 94 = .ok (.ireturn, 1) := by decide +kernel
theorem dX12_about_95 : decode cX12_about 95 = .ok (.aload_n 0, 1) := by decide +kernel
theorem dX12_about_96 : decode cX12_about 96 = .ok (.getfield 124, 3) := by decide +kernel
theorem dX12_about_99 : decode cX12_about 99 = .ok (.bipush 31, 2) := by decide +kernel
theorem dX12_about_101 : decode cX12_about 101 = .ok (.iaload, 1) := by decide +kernel
theorem dX12_about_102 : decode cX12_about 102 = .ok (.ireturn, 1) := by decide +kernel
theorem dX12_about_103 : decode cX12_about 103 = .ok (.aload_n 0, 1) := by decide +kernel
theorem dX12_about_104 : decode cX12_about 104 = .ok (.getfield 124, 3) := by decide +kernel
theorem dX12_about_107 : decode cX12_about 107 = .ok (.bipush 32, 2) := by decide +kernel
theorem dX12_about_109 : decode cX12_about 109 = .ok (.iaload, 1) := by decide +kernel
theorem dX12_about_110 : decode cX12_about 110 = .ok (.ireturn, 1) := by decide +kernel
theorem dX12_about_111 : decode cX12_about 111 = .ok (.aload_n 0, 1) := by decide +kernel
theorem dX12_about_112 : decode cX12_about 112 = .ok (.getfield 124, 3) := by decide +kernel
theorem dX12_about_115 : decode cX12_about 115 = .ok (.bipush 33, 2) := by decide +kernel
theorem dX12_about_117 : decode cX12_about 117 = .ok (.iaload, 1) := by decide +kernel
theorem dX12_about_118 : decode cX12_about 118 = .ok (.ireturn, 1) := by decide +kernel
theorem dX12_about_119 : decode cX12_about 119 = .ok (.aload_n 0, 1) := by decide +kernel
theorem dX12_about_120 : decode cX12_about 120 = .ok (.getfield 507, 3) := by decide +kernel
theorem dX12_about_123 : decode cX12_about 123 = .ok (.ireturn, 1) := by decide +kernel
theorem dX12_about_124 : decode cX12_about 124 = .ok (.aload_n 0, 1) := by decide +kernel
theorem dX12_about_125 : decode cX12_about 125 = .ok (.getfield 510, 3) := by decide +kernel
theorem dX12_about_128 : decode cX12_about 128 = .ok (.ireturn, 1) := by decide +kernel
theorem dX12_about_129 : decode cX12_about 129 = .ok (.aload_n 0, 1) := by decide +kernel
theorem dX12_about_130 : decode cX12_about 130 = .ok (.getfield 513, 3) := by decide +kernel
theorem dX12_about_133 : decode cX12_about 133 = .ok (.ireturn, 1) := by decide +kernel
theorem dX12_about_134 : decode cX12_about 134 = .ok (.aload_n 0, 1) := by decide +kernel
theorem dX12_about_135 : decode cX12_about 135 = .ok (.getfield 679, 3) := by decide +kernel
theorem dX12_about_138 : decode cX12_about 138 = .ok (.ireturn, 1) := by decide +kernel
theorem dX12_about_139 : decode cX12_about 139 = .ok (.aload_n 0, 1) := by decide +kernel
theorem dX12_about_140 : decode cX12_about 140 = .ok (.getfield 346, 3) := by decide +kernel
theorem dX12_about_143 : decode cX12_about 143 = .ok (.ireturn, 1) := by decide +kernel
theorem dX12_about_144 : decode cX12_about 144 = .ok (.aload_n 0, 1) := by decide +kernel
theorem dX12_about_145 : decode cX12_about 145 = .ok (.getfield 27, 3) := by decide +kernel
theorem dX12_about_148 : decode cX12_about 148 = .ok (.aload_n 0, 1) := by decide +kernel
theorem dX12_about_149 : decode cX12_about 149 = .ok (.getfield 349, 3) := by decide +kernel
theorem dX12_about_152 : decode cX12_about 152 = .ok (.iaload, 1) := by decide +kernel
theorem dX12_about_153 : decode cX12_about 153 = .ok (.ireturn, 1) := by decide +kernel
theorem dX12_about_154 : decode cX12_about 154 = .ok (.aload_n 0, 1) := by decide +kernel
theorem dX12_about_155 : decode cX12_about 155 = .ok (.getfield 516, 3) := by decide +kernel
theorem dX12_about_158 : decode cX12_about 158 = .ok (.ireturn, 1) := by decide +kernel
theorem dX12_about_159 : decode cX12_about 159 = .ok (.aload_n 0, 1) := by decide +kernel
theorem dX12_about_160 : decode cX12_about 160 = .ok (.getfield 30, 3) := by decide +kernel
theorem dX12_about_163 : decode cX12_about 163 = .ok (.aload_n 0, 1) := by decide +kernel
theorem dX12_about_164 : decode cX12_about 164 = .ok (.getfield 349, 3) := by decide +kernel
theorem dX12_about_167 : decode cX12_about 167 = .ok (.iaload, 1) := by decide +kernel
theorem dX12_about_168 : decode cX12_about 168 = .ok (.ireturn, 1) := by decide +kernel
theorem dX12_about_169 : decode cX12_about 169 = .ok (.iconst (-1), 1) := by decide +kernel
theorem dX12_about_170 : decode cX12_about 170 = .ok (.ireturn, 1) := by decide +kernel
theorem dX12_feed_0 : decode cX12_feed 0 = .ok (.aload_n 0, 1) := by decide +kernel
theorem dX12_feed_1 : decode cX12_feed 1 = .ok (.getfield 346, 3) := by decide +kernel
theorem dX12_feed_4 : decode cX12_feed 4 = .ok (.bipush 20, 2) := by decide +kernel
theorem dX12_feed_6 : decode cX12_feed 6 = .ok (.iadd, 1) := by decide +kernel
theorem dX12_feed_7 : decode cX12_feed 7 = .ok (.sipush 1600, 3) := by decide +kernel
theorem dX12_feed_10 : decode cX12_feed 10 = .ok (.if_icmp .le 5, 3) := by decide +kernel
theorem dX12_feed_13 : decode cX12_feed 13 = .ok (.iconst (-1), 1) := by decide +kernel
theorem dX12_feed_14 : decode cX12_feed 14 = .ok (.ireturn, 1) := by decide +kernel
theorem dX12_feed_15 : decode cX12_feed 15 = .ok (.iconst 0, 1) := by decide +kernel
theorem dX12_feed_16 : decode cX12_feed 16 = .ok (.istore 6, 2) := by decide +kernel
theorem dX12_feed_18 : decode cX12_feed 18 = .ok (.iload 6, 2) := by decide +kernel
theorem dX12_feed_20 : decode cX12_feed 20 = .ok (.bipush 20, 2) := by decide +kernel
theorem dX12_feed_22 : decode cX12_feed 22 = .ok (.if_icmp .ge 83, 3) := by decide +kernel
theorem dX12_feed_25 : decode cX12_feed 25 = .ok (.iload 6, 2) := by decide +kernel
theorem dX12_feed_27 : decode cX12_feed 27 = .ok (.iconst 4, 1) := by decide +kernel
theorem dX12_feed_28 : decode cX12_feed 28 = .ok (.if_icmp .ge 7, 3) := by decide +kernel
theorem dX12_feed_31 : decode cX12_feed 31 = .ok (.iload_n 1, 1) := by decide +kernel
theorem dX12_feed_32 : decode cX12_feed 32 = .ok (.goto 39, 3) := by decide +kernel
theorem dX12_feed_35 : decode cX12_feed 35 = .ok (.iload 6, 2) := by decide +kernel
theorem dX12_feed_37 : decode cX12_feed 37 = .ok (.bipush 8, 2) := by decide +kernel
theorem dX12_feed_39 : decode cX12_feed 39 = .ok (.if_icmp .ge 7, 3) := by decide +kernel
theorem dX12_feed_42 : decode cX12_feed 42 = .ok (.iload_n 2, 1) := by decide +kernel
theorem dX12_feed_43 : decode cX12_feed 43 = .ok (.goto 28, 3) := by decide +kernel
theorem dX12_feed_46 : decode cX12_feed 46 = .ok (.iload 6, 2) := by decide +kernel
theorem dX12_feed_48 : decode cX12_feed 48 = .ok (.bipush 12, 2) := by decide +kernel
theorem dX12_feed_50 : decode cX12_feed 50 = .ok (.if_icmp .ge 7, 3) := by decide +kernel
theorem dX12_feed_53 : decode cX12_feed 53 = .ok (.iload_n 3, 1) := by decide +kernel
theorem dX12_feed_54 : decode cX12_feed 54 = .ok (.goto 17, 3) := by decide +kernel
theorem dX12_feed_57 : decode cX12_feed 57 = .ok (.iload 6, 2) := by decide +kernel
theorem dX12_feed_59 : decode cX12_feed 59 = .ok (.bipush 16, 2) := by decide +kernel
theorem dX12_feed_61 : decode cX12_feed 61 = .ok (.if_icmp .ge 8, 3) := by decide +kernel
theorem dX12_feed_64 : decode cX12_feed 64 = .ok (.iload 4, 2) := by decide +kernel
theorem dX12_feed_66 : decode cX12_feed 66 = .ok (.goto 5, 3) := by decide +kernel
theorem dX12_feed_69 : decode cX12_feed 69 = .ok (.iload 5, 2) := by decide +kernel
theorem dX12_feed_71 : decode cX12_feed 71 = .ok (.istore 7, 2) := by decide +kernel
theorem dX12_feed_73 : decode cX12_feed 73 = .ok (.aload_n 0, 1) := by decide +kernel
theorem dX12_feed_74 : decode cX12_feed 74 = .ok (.getfield 7, 3) := by decide +kernel
theorem dX12_feed_77 : decode cX12_feed 77 = .ok (.aload_n 0, 1) := by decide +kernel
theorem dX12_feed_78 : decode cX12_feed 78 = .ok (.getfield 346, 3) := by decide +kernel
theorem dX12_feed_81 : decode cX12_feed 81 = .ok (.iload 6, 2) := by decide +kernel
theorem dX12_feed_83 : decode cX12_feed 83 = .ok (.iadd, 1) := by decide +kernel
theorem dX12_feed_84 : decode cX12_feed 84 = .ok (.iload 7, 2) := by decide +kernel
theorem dX12_feed_86 : decode cX12_feed 86 = .ok (.bipush 24, 2) := by decide +kernel
theorem dX12_feed_88 : decode cX12_feed 88 = .ok (.bipush 8, 2) := by decide +kernel
theorem dX12_feed_90 : decode cX12_feed 90 = .ok (.iload 6, 2) := by decide +kernel
theorem dX12_feed_92 : decode cX12_feed 92 = .ok (.iconst 3, 1) := by decide +kernel
theorem dX12_feed_93 : decode cX12_feed 93 = .ok (.iand, 1) := by decide +kernel
theorem dX12_feed_94 : decode cX12_feed 94 = .ok (.imul, 1) := by decide +kernel
theorem dX12_feed_95 : decode cX12_feed 95 = .ok (.isub, 1) := by decide +kernel
theorem dX12_feed_96 : decode cX12_feed 96 = .ok (.ishr, 1) := by decide +kernel
theorem dX12_feed_97 : decode cX12_feed 97 = .ok (.i2b, 1) := by decide +kernel
theorem dX12_feed_98 : decode cX12_feed 98 = .ok (.bastore, 1) := by decide +kernel
theorem dX12_feed_99 : decode cX12_feed 99 = .ok (.iinc 6 1, 3) := by decide +kernel
theorem dX12_feed_102 : decode cX12_feed 102 = .ok (.goto (-84), 3) := by decide +kernel
theorem dX12_feed_105 : decode cX12_feed 105 = .ok (.aload_n 0, 1) := by decide +kernel
theorem dX12_feed_106 : decode cX12_feed 106 = .ok (.dup, 1) := by decide +kernel
theorem dX12_feed_107 : decode cX12_feed 107 = .ok (.getfield 346, 3) := by decide +kernel
theorem dX12_feed_110 : decode cX12_feed 110 = .ok (.bipush 20, 2) := by decide +kernel
theorem dX12_feed_112 : decode cX12_feed 112 = .ok (.iadd, 1) := by decide +kernel
theorem dX12_feed_113 : decode cX12_feed 113 = .ok (.putfield 346, 3) := by decide +kernel
theorem dX12_feed_116 : decode cX12_feed 116 = .ok (.aload_n 0, 1) := by decide +kernel
theorem dX12_feed_117 : decode cX12_feed 117 = .ok (.getfield 346, 3) := by decide +kernel
theorem dX12_feed_120 : decode cX12_feed 120 = .ok (.ireturn, 1) := by decide +kernel
theorem dX12_end_0 : decode cX12_end 0 = .ok (.iload_n 1, 1) := by decide +kernel
theorem dX12_end_1 : decode cX12_end 1 = .ok (.ifCond .lt 11, 3) := by decide +kernel
theorem dX12_end_4 : decode cX12_end 4 = .ok (.iload_n 1, 1) := by decide +kernel
theorem dX12_end_5 : decode cX12_end 5 = .ok (.aload_n 0, 1) := by decide +kernel
theorem dX12_end_6 : decode cX12_end 6 = .ok (.getfield 346, 3) := by decide +kernel
theorem dX12_end_9 : decode cX12_end 9 = .ok (.if_icmp .le 5, 3) := by decide +kernel
theorem dX12_end_12 : decode cX12_end 12 = .ok (.iconst (-1), 1) := by decide +kernel
theorem dX12_end_13 : decode cX12_end 13 = .ok (.ireturn, 1) := by decide +kernel
theorem dX12_end_14 : decode cX12_end 14 = .ok (.aload_n 0, 1) := by decide +kernel
theorem dX12_end_15 : decode cX12_end 15 = .ok (.iload_n 1, 1) := by decide +kernel
theorem dX12_end_16 : decode cX12_end 16 = .ok (.putfield 346, 3) := by decide +kernel
theorem dX12_end_19 : decode cX12_end 19 = .ok (.iload_n 1, 1) := by decide +kernel
theorem dX12_end_20 : decode cX12_end 20 = .ok (.ireturn, 1) := by decide +kernel
theorem dJ11_isValidCodePoint_9a6ad_0 : decode cJ11_isValidCodePoint_9a6ad 0 = .ok (.iload_n 0, 1) := by decide +kernel
theorem dJ11_isValidCodePoint_9a6ad_1 : decode cJ11_isValidCodePoint_9a6ad 1 = .ok (.bipush 16, 2) := by decide +kernel
theorem dJ11_isValidCodePoint_9a6ad_3 : decode cJ11_isValidCodePoint_9a6ad 3 = .ok (.iushr, 1) := by decide +kernel
theorem dJ11_isValidCodePoint_9a6ad_4 : decode cJ11_isValidCodePoint_9a6ad 4 = .ok (.istore_n 1, 1) := by decide +kernel
theorem dJ11_isValidCodePoint_9a6ad_5 : decode cJ11_isValidCodePoint_9a6ad 5 = .ok (.iload_n 1, 1) := by decide +kernel
theorem dJ11_isValidCodePoint_9a6ad_6 : decode cJ11_isValidCodePoint_9a6ad 6 = .ok (.bipush 17, 2) := by decide +kernel
theorem dJ11_isValidCodePoint_9a6ad_8 : decode cJ11_isValidCodePoint_9a6ad 8 = .ok (.if_icmp .ge 7, 3) := by decide +kernel
theorem dJ11_isValidCodePoint_9a6ad_11 : decode cJ11_isValidCodePoint_9a6ad 11 = .ok (.iconst 1, 1) := by decide +kernel
theorem dJ11_isValidCodePoint_9a6ad_12 : decode cJ11_isValidCodePoint_9a6ad 12 = .ok (.goto 4, 3) := by decide +kernel
theorem dJ11_isValidCodePoint_9a6ad_15 : decode cJ11_isValidCodePoint_9a6ad 15 = .ok (.iconst 0, 1) := by decide +kernel
theorem dJ11_isValidCodePoint_9a6ad_16 : decode cJ11_isValidCodePoint_9a6ad 16 = .ok (.ireturn, 1) := by decide +kernel
theorem dJ11_highSurrogate_5068e_0 : decode cJ11_highSurrogate_5068e 0 = .ok (.iload_n 0, 1) := by decide +kernel
theorem dJ11_highSurrogate_5068e_1 : decode cJ11_highSurrogate_5068e 1 = .ok (.bipush 10, 2) := by decide +kernel
theorem dJ11_highSurrogate_5068e_3 : decode cJ11_highSurrogate_5068e 3 = .ok (.iushr, 1) := by decide +kernel
theorem dJ11_highSurrogate_5068e_4 : decode cJ11_highSurrogate_5068e 4 = .ok (.ldc 110, 2) := by decide +kernel
theorem dJ11_highSurrogate_5068e_6 : decode cJ11_highSurrogate_5068e 6 = .ok (.iadd, 1) := by decide +kernel
theorem dJ11_highSurrogate_5068e_7 : decode cJ11_highSurrogate_5068e 7 = .ok (.i2c, 1) := by decide +kernel
theorem dJ11_highSurrogate_5068e_8 : decode cJ11_highSurrogate_5068e 8 = .ok (.ireturn, 1) := by decide +kernel
theorem dJ11_lowSurrogate_5068e_0 : decode cJ11_lowSurrogate_5068e 0 = .ok (.iload_n 0, 1) := by decide +kernel
theorem dJ11_lowSurrogate_5068e_1 : decode cJ11_lowSurrogate_5068e 1 = .ok (.sipush 1023, 3) := by decide +kernel
theorem dJ11_lowSurrogate_5068e_4 : decode cJ11_lowSurrogate_5068e 4 = .ok (.iand, 1) := by decide +kernel
theorem dJ11_lowSurrogate_5068e_5 : decode cJ11_lowSurrogate_5068e 5 = .ok (.ldc 76, 2) := by decide +kernel
theorem dJ11_lowSurrogate_5068e_7 : decode cJ11_lowSurrogate_5068e 7 = .ok (.iadd, 1) := by decide +kernel
theorem dJ11_lowSurrogate_5068e_8 : decode cJ11_lowSurrogate_5068e 8 = .ok (.i2c, 1) := by decide +kernel
theorem dJ11_lowSurrogate_5068e_9 : decode cJ11_lowSurrogate_5068e 9 = .ok (.ireturn, 1) := by decide +kernel
theorem dJ9_max_7cf53_0 : decode cJ9_max_7cf53 0 = .ok (.iload_n 0, 1) := by decide +kernel
theorem dJ9_max_7cf53_1 : decode cJ9_max_7cf53 1 = .ok (.iload_n 1, 1) := by decide +kernel
theorem dJ9_max_7cf53_2 : decode cJ9_max_7cf53 2 = .ok (.if_icmp .lt 7, 3) := by decide +kernel
theorem dJ9_max_7cf53_5 : decode cJ9_max_7cf53 5 = .ok (.iload_n 0, 1) := by decide +kernel
theorem dJ9_max_7cf53_6 : decode cJ9_max_7cf53 6 = .ok (.goto 4, 3) := by decide +kernel
theorem dJ9_max_7cf53_9 : decode cJ9_max_7cf53 9 = .ok (.iload_n 1, 1) := by decide +kernel
theorem dJ9_max_7cf53_10 : decode cJ9_max_7cf53 10 = .ok (.ireturn, 1) := by decide +kernel
theorem dJ9_min_7cf53_0 : decode cJ9_min_7cf53 0 = .ok (.iload_n 0, 1) := by decide +kernel
theorem dJ9_min_7cf53_1 : decode cJ9_min_7cf53 1 = .ok (.iload_n 1, 1) := by decide +kernel
theorem dJ9_min_7cf53_2 : decode cJ9_min_7cf53 2 = .ok (.if_icmp .gt 7, 3) := by decide +kernel
theorem dJ9_min_7cf53_5 : decode cJ9_min_7cf53 5 = .ok (.iload_n 0, 1) := by decide +kernel
theorem dJ9_min_7cf53_6 : decode cJ9_min_7cf53 6 = .ok (.goto 4, 3) := by decide +kernel
theorem dJ9_min_7cf53_9 : decode cJ9_min_7cf53 9 = .ok (.iload_n 1, 1) := by decide +kernel
theorem dJ9_min_7cf53_10 : decode cJ9_min_7cf53 10 = .ok (.ireturn, 1) := by decide +kernel
theorem dJ0_length_8abf5_0 : decode cJ0_length_8abf5 0 = .ok (.aload_n 0, 1) := by decide +kernel
theorem dJ0_length_8abf5_1 : decode cJ0_length_8abf5 1 = .ok (.getfield 9, 3) := by decide +kernel
theorem dJ0_length_8abf5_4 : decode cJ0_length_8abf5 4 = .ok (.arraylength, 1) := by decide +kernel
theorem dJ0_length_8abf5_5 : decode cJ0_length_8abf5 5 = .ok (.aload_n 0, 1) := by decide +kernel
theorem dJ0_length_8abf5_6 : decode cJ0_length_8abf5 6 = .ok (.invokevirtual 335, 3) := by decide +kernel
theorem dJ0_length_8abf5_9 : decode cJ0_length_8abf5 9 = .ok (.ishr, 1) := by decide +kernel
theorem dJ0_length_8abf5_10 : decode cJ0_length_8abf5 10 = .ok (.ireturn, 1) := by decide +kernel
theorem dJ0_charAt_5068e_0 : decode cJ0_charAt_5068e 0 = .ok (.aload_n 0, 1) := by decide +kernel
theorem dJ0_charAt_5068e_1 : decode cJ0_charAt_5068e 1 = .ok (.invokevirtual 492, 3) := by decide +kernel
theorem dJ0_charAt_5068e_4 : decode cJ0_charAt_5068e 4 = .ok (.ifCond .eq 12, 3) := by decide +kernel
theorem dJ0_charAt_5068e_7 : decode cJ0_charAt_5068e 7 = .ok (.aload_n 0, 1) := by decide +kernel
theorem dJ0_charAt_5068e_8 : decode cJ0_charAt_5068e 8 = .ok (.getfield 9, 3) := by decide +kernel
theorem dJ0_charAt_5068e_11 : decode cJ0_charAt_5068e 11 = .ok (.iload_n 1, 1) := by decide +kernel
theorem dJ0_charAt_5068e_12 : decode cJ0_charAt_5068e 12 = .ok (.invokestatic 495, 3) := by decide +kernel
theorem dJ0_charAt_5068e_15 : decode cJ0_charAt_5068e 15 = .ok (.ireturn, 1) := by decide +kernel
theorem dJ0_charAt_5068e_16 : decode cJ0_charAt_5068e 16 = .ok (.aload_n 0, 1) := by decide +kernel
theorem dJ0_charAt_5068e_17 : decode cJ0_charAt_5068e 17 = .ok (.getfield 9, 3) := by decide +kernel
theorem dJ0_charAt_5068e_20 : decode cJ0_charAt_5068e 20 = .ok (.iload_n 1, 1) := by decide +kernel
theorem dJ0_charAt_5068e_21 : decode cJ0_charAt_5068e 21 = .ok (.invokestatic 498, 3) := by decide +kernel
theorem dJ0_charAt_5068e_24 : decode cJ0_charAt_5068e 24 = .ok (.ireturn, 1) := by decide +kernel
theorem dJ0_indexOf_0f7a4_0 : decode cJ0_indexOf_0f7a4 0 = .ok (.aload_n 0, 1) := by decide +kernel
theorem dJ0_indexOf_0f7a4_1 : decode cJ0_indexOf_0f7a4 1 = .ok (.iload_n 1, 1) := by decide +kernel
theorem dJ0_indexOf_0f7a4_2 : decode cJ0_indexOf_0f7a4 2 = .ok (.iconst 0, 1) := by decide +kernel
theorem dJ0_indexOf_0f7a4_3 : decode cJ0_indexOf_0f7a4 3 = .ok (.invokevirtual 633, 3) := by decide +kernel
theorem dJ0_indexOf_0f7a4_6 : decode cJ0_indexOf_0f7a4 6 = .ok (.ireturn, 1) := by decide +kernel
theorem dJ0_indexOf_7cf53_0 : decode cJ0_indexOf_7cf53 0 = .ok (.aload_n 0, 1) := by decide +kernel
theorem dJ0_indexOf_7cf53_1 : decode cJ0_indexOf_7cf53 1 = .ok (.invokevirtual 492, 3) := by decide +kernel
theorem dJ0_indexOf_7cf53_4 : decode cJ0_indexOf_7cf53 4 = .ok (.ifCond .eq 19, 3) := by decide +kernel
theorem dJ0_indexOf_7cf53_7 : decode cJ0_indexOf_7cf53 7 = .ok (.aload_n 0, 1) := by decide +kernel
theorem dJ0_indexOf_7cf53_8 : decode cJ0_indexOf_7cf53 8 = .ok (.getfield 9, 3) := by decide +kernel
theorem dJ0_indexOf_7cf53_11 : decode cJ0_indexOf_7cf53 11 = .ok (.iload_n 1, 1) := by decide +kernel
theorem dJ0_indexOf_7cf53_12 : decode cJ0_indexOf_7cf53 12 = .ok (.iload_n 2, 1) := by decide +kernel
theorem dJ0_indexOf_7cf53_13 : decode cJ0_indexOf_7cf53 13 = .ok (.aload_n 0, 1) := by decide +kernel
theorem dJ0_indexOf_7cf53_14 : decode cJ0_indexOf_7cf53 14 = .ok (.invokevirtual 505, 3) := by decide +kernel
theorem dJ0_indexOf_7cf53_17 : decode cJ0_indexOf_7cf53 17 = .ok (.invokestatic 637, 3) := by decide +kernel
theorem dJ0_indexOf_7cf53_20 : decode cJ0_indexOf_7cf53 20 = .ok (.goto 16, 3) := by decide +kernel
theorem dJ0_indexOf_7cf53_23 : decode cJ0_indexOf_7cf53 23 = .ok (.aload_n 0, 1) := by decide +kernel
theorem dJ0_indexOf_7cf53_24 : decode cJ0_indexOf_7cf53 24 = .ok (.getfield 9, 3) := by decide +kernel
theorem dJ0_indexOf_7cf53_27 : decode cJ0_indexOf_7cf53 27 = .ok (.iload_n 1, 1) := by decide +kernel
theorem dJ0_indexOf_7cf53_28 : decode cJ0_indexOf_7cf53 28 = .ok (.iload_n 2, 1) := by decide +kernel
theorem dJ0_indexOf_7cf53_29 : decode cJ0_indexOf_7cf53 29 = .ok (.aload_n 0, 1) := by decide +kernel
theorem dJ0_indexOf_7cf53_30 : decode cJ0_indexOf_7cf53 30 = .ok (.invokevirtual 505, 3) := by decide +kernel
theorem dJ0_indexOf_7cf53_33 : decode cJ0_indexOf_7cf53 33 = .ok (.invokestatic 640, 3) := by decide +kernel
theorem dJ0_indexOf_7cf53_36 : decode cJ0_indexOf_7cf53 36 = .ok (.ireturn, 1) := by decide +kernel
theorem dJ0_coder_7d493_0 : decode cJ0_coder_7d493 0 = .ok (.getstatic 38, 3) := by decide +kernel
theorem dJ0_coder_7d493_3 : decode cJ0_coder_7d493 3 = .ok (.ifCond .eq 10, 3) := by decide +kernel
theorem dJ0_coder_7d493_6 : decode cJ0_coder_7d493 6 = .ok (.aload_n 0, 1) := by decide +kernel
theorem dJ0_coder_7d493_7 : decode cJ0_coder_7d493 7 = .ok (.getfield 15, 3) := by decide +kernel
theorem dJ0_coder_7d493_10 : decode cJ0_coder_7d493 10 = .ok (.goto 4, 3) := by decide +kernel
theorem dJ0_coder_7d493_13 : decode cJ0_coder_7d493 13 = .ok (.iconst 1, 1) := by decide +kernel
theorem dJ0_coder_7d493_14 : decode cJ0_coder_7d493 14 = .ok (.ireturn, 1) := by decide +kernel
theorem dJ0_isLatin1_aae02_0 : decode cJ0_isLatin1_aae02 0 = .ok (.getstatic 38, 3) := by decide +kernel
theorem dJ0_isLatin1_aae02_3 : decode cJ0_isLatin1_aae02 3 = .ok (.ifCond .eq 14, 3) := by decide +kernel
theorem dJ0_isLatin1_aae02_6 : decode cJ0_isLatin1_aae02 6 = .ok (.aload_n 0, 1) := by decide +kernel
theorem dJ0_isLatin1_aae02_7 : decode cJ0_isLatin1_aae02 7 = .ok (.getfield 15, 3) := by decide +kernel
theorem dJ0_isLatin1_aae02_10 : decode cJ0_isLatin1_aae02 10 = .ok (.ifCond .ne 7, 3) := by decide +kernel
theorem dJ0_isLatin1_aae02_13 : decode cJ0_isLatin1_aae02 13 = .ok (.iconst 1, 1) := by decide +kernel
theorem dJ0_isLatin1_aae02_14 : decode cJ0_isLatin1_aae02 14 = .ok (.goto 4, 3) := by decide +kernel
theorem dJ0_isLatin1_aae02_17 : decode cJ0_isLatin1_aae02 17 = .ok (.iconst 0, 1) := by decide +kernel
theorem dJ0_isLatin1_aae02_18 : decode cJ0_isLatin1_aae02 18 = .ok (.ireturn, 1) := by decide +kernel
theorem dJ0_checkIndex_df160_0 : decode cJ0_checkIndex_df160 0 = .ok (.iload_n 0, 1) := by decide +kernel
theorem dJ0_checkIndex_df160_1 : decode cJ0_checkIndex_df160 1 = .ok (.iload_n 1, 1) := by decide +kernel
theorem dJ0_checkIndex_df160_2 : decode cJ0_checkIndex_df160 2 = .ok (.getstatic 1053, 3) := by decide +kernel
theorem dJ0_checkIndex_df160_5 : decode cJ0_checkIndex_df160 5 = .ok (.invokestatic 1059, 3) := by decide +kernel
theorem dJ0_checkIndex_df160_8 : decode cJ0_checkIndex_df160 8 = .ok (.pop, 1) := by decide +kernel
theorem dJ0_checkIndex_df160_9 : decode cJ0_checkIndex_df160 9 = .ok (.return_, 1) := by decide +kernel
theorem dJ0_checkBoundsBeginEnd_23922_0 : decode cJ0_checkBoundsBeginEnd_23922 0 = .ok (.iload_n 0, 1) := by decide +kernel
theorem dJ0_checkBoundsBeginEnd_23922_1 : decode cJ0_checkBoundsBeginEnd_23922 1 = .ok (.iload_n 1, 1) := by decide +kernel
theorem dJ0_checkBoundsBeginEnd_23922_2 : decode cJ0_checkBoundsBeginEnd_23922 2 = .ok (.iload_n 2, 1) := by decide +kernel
theorem dJ0_checkBoundsBeginEnd_23922_3 : decode cJ0_checkBoundsBeginEnd_23922 3 = .ok (.getstatic 1053, 3) := by decide +kernel
theorem dJ0_checkBoundsBeginEnd_23922_6 : decode cJ0_checkBoundsBeginEnd_23922 6 = .ok (.invokestatic 1062, 3) := by decide +kernel
theorem dJ0_checkBoundsBeginEnd_23922_9 : decode cJ0_checkBoundsBeginEnd_23922 9 = .ok (.pop, 1) := by decide +kernel
theorem dJ0_checkBoundsBeginEnd_23922_10 : decode cJ0_checkBoundsBeginEnd_23922 10 = .ok (.return_, 1) := by decide +kernel
theorem dJ1_charAt_3b067_0 : decode cJ1_charAt_3b067 0 = .ok (.iload_n 1, 1) := by decide +kernel
theorem dJ1_charAt_3b067_1 : decode cJ1_charAt_3b067 1 = .ok (.aload_n 0, 1) := by decide +kernel
theorem dJ1_charAt_3b067_2 : decode cJ1_charAt_3b067 2 = .ok (.arraylength, 1) := by decide +kernel
theorem dJ1_charAt_3b067_3 : decode cJ1_charAt_3b067 3 = .ok (.invokestatic 9, 3) := by decide +kernel
theorem dJ1_charAt_3b067_6 : decode cJ1_charAt_3b067 6 = .ok (.aload_n 0, 1) := by decide +kernel
theorem dJ1_charAt_3b067_7 : decode cJ1_charAt_3b067 7 = .ok (.iload_n 1, 1) := by decide +kernel
theorem dJ1_charAt_3b067_8 : decode cJ1_charAt_3b067 8 = .ok (.baload, 1) := by decide +kernel
theorem dJ1_charAt_3b067_9 : decode cJ1_charAt_3b067 9 = .ok (.sipush 255, 3) := by decide +kernel
theorem dJ1_charAt_3b067_12 : decode cJ1_charAt_3b067 12 = .ok (.iand, 1) := by decide +kernel
theorem dJ1_charAt_3b067_13 : decode cJ1_charAt_3b067 13 = .ok (.i2c, 1) := by decide +kernel
theorem dJ1_charAt_3b067_14 : decode cJ1_charAt_3b067 14 = .ok (.ireturn, 1) := by decide +kernel
theorem dJ1_canEncode_9a6ad_0 : decode cJ1_canEncode_9a6ad 0 = .ok (.iload_n 0, 1) := by decide +kernel
theorem dJ1_canEncode_9a6ad_1 : decode cJ1_canEncode_9a6ad 1 = .ok (.ifCond .lt 14, 3) := by decide +kernel
theorem dJ1_canEncode_9a6ad_4 : decode cJ1_canEncode_9a6ad 4 = .ok (.iload_n 0, 1) := by decide +kernel
theorem dJ1_canEncode_9a6ad_5 : decode cJ1_canEncode_9a6ad 5 = .ok (.sipush 255, 3) := by decide +kernel
theorem dJ1_canEncode_9a6ad_8 : decode cJ1_canEncode_9a6ad 8 = .ok (.if_icmp .gt 7, 3) := by decide +kernel
theorem dJ1_canEncode_9a6ad_11 : decode cJ1_canEncode_9a6ad 11 = .ok (.iconst 1, 1) := by decide +kernel
theorem dJ1_canEncode_9a6ad_12 : decode cJ1_canEncode_9a6ad 12 = .ok (.goto 4, 3) := by decide +kernel
theorem dJ1_canEncode_9a6ad_15 : decode cJ1_canEncode_9a6ad 15 = .ok (.iconst 0, 1) := by decide +kernel
theorem dJ1_canEncode_9a6ad_16 : decode cJ1_canEncode_9a6ad 16 = .ok (.ireturn, 1) := by decide +kernel
theorem dJ1_indexOf_4cfef_0 : decode cJ1_indexOf_4cfef 0 = .ok (.iload_n 1, 1) := by decide +kernel
theorem dJ1_indexOf_4cfef_1 : decode cJ1_indexOf_4cfef 1 = .ok (.invokestatic 88, 3) := by decide +kernel
theorem dJ1_indexOf_4cfef_4 : decode cJ1_indexOf_4cfef 4 = .ok (.ifCond .ne 5, 3) := by decide +kernel
theorem dJ1_indexOf_4cfef_7 : decode cJ1_indexOf_4cfef 7 = .ok (.iconst (-1), 1) := by decide +kernel
theorem dJ1_indexOf_4cfef_8 : decode cJ1_indexOf_4cfef 8 = .ok (.ireturn, 1) := by decide +kernel
theorem dJ1_indexOf_4cfef_9 : decode cJ1_indexOf_4cfef 9 = .ok (.iload_n 2, 1) := by decide +kernel
theorem dJ1_indexOf_4cfef_10 : decode cJ1_indexOf_4cfef 10 = .ok (.iconst 0, 1) := by decide +kernel
theorem dJ1_indexOf_4cfef_11 : decode cJ1_indexOf_4cfef 11 = .ok (.invokestatic 92, 3) := by decide +kernel
theorem dJ1_indexOf_4cfef_14 : decode cJ1_indexOf_4cfef 14 = .ok (.istore_n 2, 1) := by decide +kernel
theorem dJ1_indexOf_4cfef_15 : decode cJ1_indexOf_4cfef 15 = .ok (.iload_n 3, 1) := by decide +kernel
theorem dJ1_indexOf_4cfef_16 : decode cJ1_indexOf_4cfef 16 = .ok (.aload_n 0, 1) := by decide +kernel
theorem dJ1_indexOf_4cfef_17 : decode cJ1_indexOf_4cfef 17 = .ok (.arraylength, 1) := by decide +kernel
theorem dJ1_indexOf_4cfef_18 : decode cJ1_indexOf_4cfef 18 = .ok (.invokestatic 38, 3) := by decide +kernel
theorem dJ1_indexOf_4cfef_21 : decode cJ1_indexOf_4cfef 21 = .ok (.istore_n 3, 1) := by decide +kernel
theorem dJ1_indexOf_4cfef_22 : decode cJ1_indexOf_4cfef 22 = .ok (.iload_n 2, 1) := by decide +kernel
theorem dJ1_indexOf_4cfef_23 : decode cJ1_indexOf_4cfef 23 = .ok (.iload_n 3, 1) := by decide +kernel
theorem dJ1_indexOf_4cfef_24 : decode cJ1_indexOf_4cfef 24 = .ok (.if_icmp .lt 5, 3) := by decide +kernel
theorem dJ1_indexOf_4cfef_27 : decode cJ1_indexOf_4cfef 27 = .ok (.iconst (-1), 1) := by decide +kernel
theorem dJ1_indexOf_4cfef_28 : decode cJ1_indexOf_4cfef 28 = .ok (.ireturn, 1) := by decide +kernel
theorem dJ1_indexOf_4cfef_29 : decode cJ1_indexOf_4cfef 29 = .ok (.aload_n 0, 1) := by decide +kernel
theorem dJ1_indexOf_4cfef_30 : decode cJ1_indexOf_4cfef 30 = .ok (.iload_n 1, 1) := by decide +kernel
theorem dJ1_indexOf_4cfef_31 : decode cJ1_indexOf_4cfef 31 = .ok (.iload_n 2, 1) := by decide +kernel
theorem dJ1_indexOf_4cfef_32 : decode cJ1_indexOf_4cfef 32 = .ok (.iload_n 3, 1) := by decide +kernel
theorem dJ1_indexOf_4cfef_33 : decode cJ1_indexOf_4cfef 33 = .ok (.invokestatic 95, 3) := by decide +kernel
theorem dJ1_indexOf_4cfef_36 : decode cJ1_indexOf_4cfef 36 = .ok (.ireturn, 1) := by decide +kernel
theorem dJ1_indexOfChar_4cfef_0 : decode cJ1_indexOfChar_4cfef 0 = .ok (.iload_n 1, 1) := by decide +kernel
theorem dJ1_indexOfChar_4cfef_1 : decode cJ1_indexOfChar_4cfef 1 = .ok (.i2b, 1) := by decide +kernel
theorem dJ1_indexOfChar_4cfef_2 : decode cJ1_indexOfChar_4cfef 2 = .ok (.istore 4, 2) := by decide +kernel
theorem dJ1_indexOfChar_4cfef_4 : decode cJ1_indexOfChar_4cfef 4 = .ok (.iload_n 2, 1) := by decide +kernel
theorem dJ1_indexOfChar_4cfef_5 : decode cJ1_indexOfChar_4cfef 5 = .ok (.istore 5, 2) := by decide +kernel
theorem dJ1_indexOfChar_4cfef_7 : decode cJ1_indexOfChar_4cfef 7 = .ok (.iload 5, 2) := by decide +kernel
theorem dJ1_indexOfChar_4cfef_9 : decode cJ1_indexOfChar_4cfef 9 = .ok (.iload_n 3, 1) := by decide +kernel
theorem dJ1_indexOfChar_4cfef_10 : decode cJ1_indexOfChar_4cfef 10 = .ok (.if_icmp .ge 21, 3) := by decide +kernel
theorem dJ1_indexOfChar_4cfef_13 : decode cJ1_indexOfChar_4cfef 13 = .ok (.aload_n 0, 1) := by decide +kernel
theorem dJ1_indexOfChar_4cfef_14 : decode cJ1_indexOfChar_4cfef 14 = .ok (.iload 5, 2) := by decide +kernel
theorem dJ1_indexOfChar_4cfef_16 : decode cJ1_indexOfChar_4cfef 16 = .ok (.baload, 1) := by decide +kernel
theorem dJ1_indexOfChar_4cfef_17 : decode cJ1_indexOfChar_4cfef 17 = .ok (.iload 4, 2) := by decide +kernel
theorem dJ1_indexOfChar_4cfef_19 : decode cJ1_indexOfChar_4cfef 19 = .ok (.if_icmp .ne 6, 3) := by decide +kernel
theorem dJ1_indexOfChar_4cfef_22 : decode cJ1_indexOfChar_4cfef 22 = .ok (.iload 5, 2) := by decide +kernel
theorem dJ1_indexOfChar_4cfef_24 : decode cJ1_indexOfChar_4cfef 24 = .ok (.ireturn, 1) := by decide +kernel
theorem dJ1_indexOfChar_4cfef_25 : decode cJ1_indexOfChar_4cfef 25 = .ok (.iinc 5 1, 3) := by decide +kernel
theorem dJ1_indexOfChar_4cfef_28 : decode cJ1_indexOfChar_4cfef 28 = .ok (.goto (-21), 3) := by decide +kernel
theorem dJ1_indexOfChar_4cfef_31 : decode cJ1_indexOfChar_4cfef 31 = .ok (.iconst (-1), 1) := by decide +kernel
theorem dJ1_indexOfChar_4cfef_32 : decode cJ1_indexOfChar_4cfef 32 = .ok (.ireturn, 1) := by decide +kernel
theorem dJ2_getChar_3b067_0 : decode cJ2_getChar_3b067 0 = .ok (.getstatic 44, 3) := by decide +kernel
theorem dJ2_getChar_3b067_3 : decode cJ2_getChar_3b067 3 = .ok (.ifCond .ne 25, 3) := by decide +kernel
theorem dJ2_getChar_3b067_6 : decode cJ2_getChar_3b067 6 = .ok (.iload_n 1, 1) := by decide +kernel
theorem dJ2_getChar_3b067_7 : decode cJ2_getChar_3b067 7 = .ok (.ifCond .lt 11, 3) := by decide +kernel
theorem dJ2_getChar_3b067_10 : decode cJ2_getChar_3b067 10 = .ok (.iload_n 1, 1) := by decide +kernel
theorem dJ2_getChar_3b067_11 : decode cJ2_getChar_3b067 11 = .ok (.aload_n 0, 1) := by decide +kernel
theorem dJ2_getChar_3b067_12 : decode cJ2_getChar_3b067 12 = .ok (.invokestatic 48, 3) := by decide +kernel
theorem dJ2_getChar_3b067_15 : decode cJ2_getChar_3b067 15 = .ok (.if_icmp .lt 13, 3) := by decide +kernel
theorem dJ2_getChar_3b067_18 : decode cJ2_getChar_3b067 18 = .ok (.new 52, 3) := by decide +kernel
theorem dJ2_getChar_3b067_21 : decode cJ2_getChar_3b067 21 = .ok (.dup, 1) := by decide +kernel
theorem dJ2_getChar_3b067_22 : decode cJ2_getChar_3b067 22 = .ok (.ldc 54, 2) := by decide +kernel
theorem dJ2_getChar_3b067_24 : decode cJ2_getChar_3b067 24 = .ok (.invokespecial 56, 3) := by decide +kernel
theorem dJ2_getChar_3b067_27 : decode cJ2_getChar_3b067 27 = .ok (.athrow, 1) := by decide +kernel
theorem dJ2_getChar_3b067_28 : decode cJ2_getChar_3b067 28 = .ok (.iload_n 1, 1) := by decide +kernel
theorem dJ2_getChar_3b067_29 : decode cJ2_getChar_3b067 29 = .ok (.iconst 1, 1) := by decide +kernel
theorem dJ2_getChar_3b067_30 : decode cJ2_getChar_3b067 30 = .ok (.ishl, 1) := by decide +kernel
theorem dJ2_getChar_3b067_31 : decode cJ2_getChar_3b067 31 = .ok (.istore_n 1, 1) := by decide +kernel
theorem dJ2_getChar_3b067_32 : decode cJ2_getChar_3b067 32 = .ok (.aload_n 0, 1) := by decide +kernel
theorem dJ2_getChar_3b067_33 : decode cJ2_getChar_3b067 33 = .ok (.iload_n 1, 1) := by decide +kernel
theorem dJ2_getChar_3b067_34 : decode cJ2_getChar_3b067 34 = .ok (.iinc 1 1, 3) := by decide +kernel
theorem dJ2_getChar_3b067_37 : decode cJ2_getChar_3b067 37 = .ok (.baload, 1) := by decide +kernel
theorem dJ2_getChar_3b067_38 : decode cJ2_getChar_3b067 38 = .ok (.sipush 255, 3) := by decide +kernel
theorem dJ2_getChar_3b067_41 : decode cJ2_getChar_3b067 41 = .ok (.iand, 1) := by decide +kernel
theorem dJ2_getChar_3b067_42 : decode cJ2_getChar_3b067 42 = .ok (.getstatic 59, 3) := by decide +kernel
theorem dJ2_getChar_3b067_45 : decode cJ2_getChar_3b067 45 = .ok (.ishl, 1) := by decide +kernel
theorem dJ2_getChar_3b067_46 : decode cJ2_getChar_3b067 46 = .ok (.aload_n 0, 1) := by decide +kernel
theorem dJ2_getChar_3b067_47 : decode cJ2_getChar_3b067 47 = .ok (.iload_n 1, 1) := by decide +kernel
theorem dJ2_getChar_3b067_48 : decode cJ2_getChar_3b067 48 = .ok (.baload, 1) := by decide +kernel
theorem dJ2_getChar_3b067_49 : decode cJ2_getChar_3b067 49 = .ok (.sipush 255, 3) := by decide +kernel
theorem dJ2_getChar_3b067_52 : decode cJ2_getChar_3b067 52 = .ok (.iand, 1) := by decide +kernel
theorem dJ2_getChar_3b067_53 : decode cJ2_getChar_3b067 53 = .ok (.getstatic 63, 3) := by decide +kernel
theorem dJ2_getChar_3b067_56 : decode cJ2_getChar_3b067 56 = .ok (.ishl, 1) := by decide +kernel
theorem dJ2_getChar_3b067_57 : decode cJ2_getChar_3b067 57 = .ok (.ior, 1) := by decide +kernel
theorem dJ2_getChar_3b067_58 : decode cJ2_getChar_3b067 58 = .ok (.i2c, 1) := by decide +kernel
theorem dJ2_getChar_3b067_59 : decode cJ2_getChar_3b067 59 = .ok (.ireturn, 1) := by decide +kernel
theorem dJ2_length_9d52b_0 : decode cJ2_length_9d52b 0 = .ok (.aload_n 0, 1) := by decide +kernel
theorem dJ2_length_9d52b_1 : decode cJ2_length_9d52b 1 = .ok (.arraylength, 1) := by decide +kernel
theorem dJ2_length_9d52b_2 : decode cJ2_length_9d52b 2 = .ok (.iconst 1, 1) := by decide +kernel
theorem dJ2_length_9d52b_3 : decode cJ2_length_9d52b 3 = .ok (.ishr, 1) := by decide +kernel
theorem dJ2_length_9d52b_4 : decode cJ2_length_9d52b 4 = .ok (.ireturn, 1) := by decide +kernel
theorem dJ2_indexOf_4cfef_0 : decode cJ2_indexOf_4cfef 0 = .ok (.iload_n 2, 1) := by decide +kernel
theorem dJ2_indexOf_4cfef_1 : decode cJ2_indexOf_4cfef 1 = .ok (.iconst 0, 1) := by decide +kernel
theorem dJ2_indexOf_4cfef_2 : decode cJ2_indexOf_4cfef 2 = .ok (.invokestatic 224, 3) := by decide +kernel
theorem dJ2_indexOf_4cfef_5 : decode cJ2_indexOf_4cfef 5 = .ok (.istore_n 2, 1) := by decide +kernel
theorem dJ2_indexOf_4cfef_6 : decode cJ2_indexOf_4cfef 6 = .ok (.iload_n 3, 1) := by decide +kernel
theorem dJ2_indexOf_4cfef_7 : decode cJ2_indexOf_4cfef 7 = .ok (.aload_n 0, 1) := by decide +kernel
theorem dJ2_indexOf_4cfef_8 : decode cJ2_indexOf_4cfef 8 = .ok (.arraylength, 1) := by decide +kernel
theorem dJ2_indexOf_4cfef_9 : decode cJ2_indexOf_4cfef 9 = .ok (.iconst 1, 1) := by decide +kernel
theorem dJ2_indexOf_4cfef_10 : decode cJ2_indexOf_4cfef 10 = .ok (.ishr, 1) := by decide +kernel
theorem dJ2_indexOf_4cfef_11 : decode cJ2_indexOf_4cfef 11 = .ok (.invokestatic 183, 3) := by decide +kernel
theorem dJ2_indexOf_4cfef_14 : decode cJ2_indexOf_4cfef 14 = .ok (.istore_n 3, 1) := by decide +kernel
theorem dJ2_indexOf_4cfef_15 : decode cJ2_indexOf_4cfef 15 = .ok (.iload_n 2, 1) := by decide +kernel
theorem dJ2_indexOf_4cfef_16 : decode cJ2_indexOf_4cfef 16 = .ok (.iload_n 3, 1) := by decide +kernel
theorem dJ2_indexOf_4cfef_17 : decode cJ2_indexOf_4cfef 17 = .ok (.if_icmp .lt 5, 3) := by decide +kernel
theorem dJ2_indexOf_4cfef_20 : decode cJ2_indexOf_4cfef 20 = .ok (.iconst (-1), 1) := by decide +kernel
theorem dJ2_indexOf_4cfef_21 : decode cJ2_indexOf_4cfef 21 = .ok (.ireturn, 1) := by decide +kernel
theorem dJ2_indexOf_4cfef_22 : decode cJ2_indexOf_4cfef 22 = .ok (.iload_n 1, 1) := by decide +kernel
theorem dJ2_indexOf_4cfef_23 : decode cJ2_indexOf_4cfef 23 = .ok (.ldc 227, 2) := by decide +kernel
theorem dJ2_indexOf_4cfef_25 : decode cJ2_indexOf_4cfef 25 = .ok (.if_icmp .ge 11, 3) := by decide +kernel
theorem dJ2_indexOf_4cfef_28 : decode cJ2_indexOf_4cfef 28 = .ok (.aload_n 0, 1) := by decide +kernel
theorem dJ2_indexOf_4cfef_29 : decode cJ2_indexOf_4cfef 29 = .ok (.iload_n 1, 1) := by decide +kernel
theorem dJ2_indexOf_4cfef_30 : decode cJ2_indexOf_4cfef 30 = .ok (.iload_n 2, 1) := by decide +kernel
theorem dJ2_indexOf_4cfef_31 : decode cJ2_indexOf_4cfef 31 = .ok (.iload_n 3, 1) := by decide +kernel
theorem dJ2_indexOf_4cfef_32 : decode cJ2_indexOf_4cfef 32 = .ok (.invokestatic 228, 3) := by decide +kernel
theorem dJ2_indexOf_4cfef_35 : decode cJ2_indexOf_4cfef 35 = .ok (.ireturn, 1) := by decide +kernel
theorem dJ2_indexOf_4cfef_36 : decode cJ2_indexOf_4cfef 36 = .ok (.aload_n 0, 1) := by decide +kernel
theorem dJ2_indexOf_4cfef_37 : decode cJ2_indexOf_4cfef 37 = .ok (.iload_n 1, 1) := by decide +kernel
theorem dJ2_indexOf_4cfef_38 : decode cJ2_indexOf_4cfef 38 = .ok (.iload_n 2, 1) := by decide +kernel
theorem dJ2_indexOf_4cfef_39 : decode cJ2_indexOf_4cfef 39 = .ok (.iload_n 3, 1) := by decide +kernel
theorem dJ2_indexOf_4cfef_40 : decode cJ2_indexOf_4cfef 40 = .ok (.invokestatic 232, 3) := by decide +kernel
theorem dJ2_indexOf_4cfef_43 : decode cJ2_indexOf_4cfef 43 = .ok (.ireturn, 1) := by decide +kernel
theorem dJ2_indexOfChar_4cfef_0 : decode cJ2_indexOfChar_4cfef 0 = .ok (.iload_n 2, 1) := by decide +kernel
theorem dJ2_indexOfChar_4cfef_1 : decode cJ2_indexOfChar_4cfef 1 = .ok (.iload_n 3, 1) := by decide +kernel
theorem dJ2_indexOfChar_4cfef_2 : decode cJ2_indexOfChar_4cfef 2 = .ok (.aload_n 0, 1) := by decide +kernel
theorem dJ2_indexOfChar_4cfef_3 : decode cJ2_indexOfChar_4cfef 3 = .ok (.invokestatic 96, 3) := by decide +kernel
theorem dJ2_indexOfChar_4cfef_6 : decode cJ2_indexOfChar_4cfef 6 = .ok (.aload_n 0, 1) := by decide +kernel
theorem dJ2_indexOfChar_4cfef_7 : decode cJ2_indexOfChar_4cfef 7 = .ok (.iload_n 1, 1) := by decide +kernel
theorem dJ2_indexOfChar_4cfef_8 : decode cJ2_indexOfChar_4cfef 8 = .ok (.iload_n 2, 1) := by decide +kernel
theorem dJ2_indexOfChar_4cfef_9 : decode cJ2_indexOfChar_4cfef 9 = .ok (.iload_n 3, 1) := by decide +kernel
theorem dJ2_indexOfChar_4cfef_10 : decode cJ2_indexOfChar_4cfef 10 = .ok (.invokestatic 244, 3) := by decide +kernel
theorem dJ2_indexOfChar_4cfef_13 : decode cJ2_indexOfChar_4cfef 13 = .ok (.ireturn, 1) := by decide +kernel
theorem dJ2_indexOfCharUnsafe_4cfef_0 : decode cJ2_indexOfCharUnsafe_4cfef 0 = .ok (.iload_n 2, 1) := by decide +kernel
theorem dJ2_indexOfCharUnsafe_4cfef_1 : decode cJ2_indexOfCharUnsafe_4cfef 1 = .ok (.istore 4, 2) := by decide +kernel
theorem dJ2_indexOfCharUnsafe_4cfef_3 : decode cJ2_indexOfCharUnsafe_4cfef 3 = .ok (.iload 4, 2) := by decide +kernel
theorem dJ2_indexOfCharUnsafe_4cfef_5 : decode cJ2_indexOfCharUnsafe_4cfef 5 = .ok (.iload_n 3, 1) := by decide +kernel
theorem dJ2_indexOfCharUnsafe_4cfef_6 : decode cJ2_indexOfCharUnsafe_4cfef 6 = .ok (.if_icmp .ge 22, 3) := by decide +kernel
theorem dJ2_indexOfCharUnsafe_4cfef_9 : decode cJ2_indexOfCharUnsafe_4cfef 9 = .ok (.aload_n 0, 1) := by decide +kernel
theorem dJ2_indexOfCharUnsafe_4cfef_10 : decode cJ2_indexOfCharUnsafe_4cfef 10 = .ok (.iload 4, 2) := by decide +kernel
theorem dJ2_indexOfCharUnsafe_4cfef_12 : decode cJ2_indexOfCharUnsafe_4cfef 12 = .ok (.invokestatic 71, 3) := by decide +kernel
theorem dJ2_indexOfCharUnsafe_4cfef_15 : decode cJ2_indexOfCharUnsafe_4cfef 15 = .ok (.iload_n 1, 1) := by decide +kernel
theorem dJ2_indexOfCharUnsafe_4cfef_16 : decode cJ2_indexOfCharUnsafe_4cfef 16 = .ok (.if_icmp .ne 6, 3) := by decide +kernel
theorem dJ2_indexOfCharUnsafe_4cfef_19 : decode cJ2_indexOfCharUnsafe_4cfef 19 = .ok (.iload 4, 2) := by decide +kernel
theorem dJ2_indexOfCharUnsafe_4cfef_21 : decode cJ2_indexOfCharUnsafe_4cfef 21 = .ok (.ireturn, 1) := by decide +kernel
theorem dJ2_indexOfCharUnsafe_4cfef_22 : decode cJ2_indexOfCharUnsafe_4cfef 22 = .ok (.iinc 4 1, 3) := by decide +kernel
theorem dJ2_indexOfCharUnsafe_4cfef_25 : decode cJ2_indexOfCharUnsafe_4cfef 25 = .ok (.goto (-22), 3) := by decide +kernel
theorem dJ2_indexOfCharUnsafe_4cfef_28 : decode cJ2_indexOfCharUnsafe_4cfef 28 = .ok (.iconst (-1), 1) := by decide +kernel
theorem dJ2_indexOfCharUnsafe_4cfef_29 : decode cJ2_indexOfCharUnsafe_4cfef 29 = .ok (.ireturn, 1) := by decide +kernel
theorem dJ2_indexOfSupplementary_4cfef_0 : decode cJ2_indexOfSupplementary_4cfef 0 = .ok (.iload_n 1, 1) := by decide +kernel
theorem dJ2_indexOfSupplementary_4cfef_1 : decode cJ2_indexOfSupplementary_4cfef 1 = .ok (.invokestatic 164, 3) := by decide +kernel
theorem dJ2_indexOfSupplementary_4cfef_4 : decode cJ2_indexOfSupplementary_4cfef 4 = .ok (.ifCond .eq 65, 3) := by decide +kernel
theorem dJ2_indexOfSupplementary_4cfef_7 : decode cJ2_indexOfSupplementary_4cfef 7 = .ok (.iload_n 1, 1) := by decide +kernel
theorem dJ2_indexOfSupplementary_4cfef_8 : decode cJ2_indexOfSupplementary_4cfef 8 = .ok (.invokestatic 157, 3) := by decide +kernel
theorem dJ2_indexOfSupplementary_4cfef_11 : decode cJ2_indexOfSupplementary_4cfef 11 = .ok (.istore 4, 2) := by decide +kernel
theorem dJ2_indexOfSupplementary_4cfef_13 : decode cJ2_indexOfSupplementary_4cfef 13 = .ok (.iload_n 1, 1) := by decide +kernel
theorem dJ2_indexOfSupplementary_4cfef_14 : decode cJ2_indexOfSupplementary_4cfef 14 = .ok (.invokestatic 161, 3) := by decide +kernel
theorem dJ2_indexOfSupplementary_4cfef_17 : decode cJ2_indexOfSupplementary_4cfef 17 = .ok (.istore 5, 2) := by decide +kernel
theorem dJ2_indexOfSupplementary_4cfef_19 : decode cJ2_indexOfSupplementary_4cfef 19 = .ok (.iload_n 2, 1) := by decide +kernel
theorem dJ2_indexOfSupplementary_4cfef_20 : decode cJ2_indexOfSupplementary_4cfef 20 = .ok (.iload_n 3, 1) := by decide +kernel
theorem dJ2_indexOfSupplementary_4cfef_21 : decode cJ2_indexOfSupplementary_4cfef 21 = .ok (.aload_n 0, 1) := by decide +kernel
theorem dJ2_indexOfSupplementary_4cfef_22 : decode cJ2_indexOfSupplementary_4cfef 22 = .ok (.invokestatic 96, 3) := by decide +kernel
theorem dJ2_indexOfSupplementary_4cfef_25 : decode cJ2_indexOfSupplementary_4cfef 25 = .ok (.iload_n 2, 1) := by decide +kernel
theorem dJ2_indexOfSupplementary_4cfef_26 : decode cJ2_indexOfSupplementary_4cfef 26 = .ok (.istore 6, 2) := by decide +kernel
theorem dJ2_indexOfSupplementary_4cfef_28 : decode cJ2_indexOfSupplementary_4cfef 28 = .ok (.iload 6, 2) := by decide +kernel
theorem dJ2_indexOfSupplementary_4cfef_30 : decode cJ2_indexOfSupplementary_4cfef 30 = .ok (.iload_n 3, 1) := by decide +kernel
theorem dJ2_indexOfSupplementary_4cfef_31 : decode cJ2_indexOfSupplementary_4cfef 31 = .ok (.iconst 1, 1) := by decide +kernel
theorem dJ2_indexOfSupplementary_4cfef_32 : decode cJ2_indexOfSupplementary_4cfef 32 = .ok (.isub, 1) := by decide +kernel
theorem dJ2_indexOfSupplementary_4cfef_33 : decode cJ2_indexOfSupplementary_4cfef 33 = .ok (.if_icmp .ge 36, 3) := by decide +kernel
theorem dJ2_indexOfSupplementary_4cfef_36 : decode cJ2_indexOfSupplementary_4cfef 36 = .ok (.aload_n 0, 1) := by decide +kernel
theorem dJ2_indexOfSupplementary_4cfef_37 : decode cJ2_indexOfSupplementary_4cfef 37 = .ok (.iload 6, 2) := by decide +kernel
theorem dJ2_indexOfSupplementary_4cfef_39 : decode cJ2_indexOfSupplementary_4cfef 39 = .ok (.invokestatic 71, 3) := by decide +kernel
theorem dJ2_indexOfSupplementary_4cfef_42 : decode cJ2_indexOfSupplementary_4cfef 42 = .ok (.iload 4, 2) := by decide +kernel
theorem dJ2_indexOfSupplementary_4cfef_44 : decode cJ2_indexOfSupplementary_4cfef 44 = .ok (.if_icmp .ne 19, 3) := by decide +kernel
theorem dJ2_indexOfSupplementary_4cfef_47 : decode cJ2_indexOfSupplementary_4cfef 47 = .ok (.aload_n 0, 1) := by decide +kernel
theorem dJ2_indexOfSupplementary_4cfef_48 : decode cJ2_indexOfSupplementary_4cfef 48 = .ok (.iload 6, 2) := by decide +kernel
theorem dJ2_indexOfSupplementary_4cfef_50 : decode cJ2_indexOfSupplementary_4cfef 50 = .ok (.iconst 1, 1) := by decide +kernel
theorem dJ2_indexOfSupplementary_4cfef_51 : decode cJ2_indexOfSupplementary_4cfef 51 = .ok (.iadd, 1) := by decide +kernel
theorem dJ2_indexOfSupplementary_4cfef_52 : decode cJ2_indexOfSupplementary_4cfef 52 = .ok (.invokestatic 71, 3) := by decide +kernel
theorem dJ2_indexOfSupplementary_4cfef_55 : decode cJ2_indexOfSupplementary_4cfef 55 = .ok (.iload 5, 2) := by decide +kernel
theorem dJ2_indexOfSupplementary_4cfef_57 : decode cJ2_indexOfSupplementary_4cfef 57 = .ok (.if_icmp .ne 6, 3) := by decide +kernel
theorem dJ2_indexOfSupplementary_4cfef_60 : decode cJ2_indexOfSupplementary_4cfef 60 = .ok (.iload 6, 2) := by decide +kernel
theorem dJ2_indexOfSupplementary_4cfef_62 : decode cJ2_indexOfSupplementary_4cfef 62 = .ok (.ireturn, 1) := by decide +kernel
theorem dJ2_indexOfSupplementary_4cfef_63 : decode cJ2_indexOfSupplementary_4cfef 63 = .ok (.iinc 6 1, 3) := by decide +kernel
theorem dJ2_indexOfSupplementary_4cfef_66 : decode cJ2_indexOfSupplementary_4cfef 66 = .ok (.goto (-38), 3) := by decide +kernel
theorem dJ2_indexOfSupplementary_4cfef_69 : decode cJ2_indexOfSupplementary_4cfef 69 = .ok (.iconst (-1), 1) := by decide +kernel
theorem dJ2_indexOfSupplementary_4cfef_70 : decode cJ2_indexOfSupplementary_4cfef 70 = .ok (.ireturn, 1) := by decide +kernel
theorem dJ2_charAt_3b067_0 : decode cJ2_charAt_3b067 0 = .ok (.iload_n 1, 1) := by decide +kernel
theorem dJ2_charAt_3b067_1 : decode cJ2_charAt_3b067 1 = .ok (.aload_n 0, 1) := by decide +kernel
theorem dJ2_charAt_3b067_2 : decode cJ2_charAt_3b067 2 = .ok (.invokestatic 67, 3) := by decide +kernel
theorem dJ2_charAt_3b067_5 : decode cJ2_charAt_3b067 5 = .ok (.aload_n 0, 1) := by decide +kernel
theorem dJ2_charAt_3b067_6 : decode cJ2_charAt_3b067 6 = .ok (.iload_n 1, 1) := by decide +kernel
theorem dJ2_charAt_3b067_7 : decode cJ2_charAt_3b067 7 = .ok (.invokestatic 71, 3) := by decide +kernel
theorem dJ2_charAt_3b067_10 : decode cJ2_charAt_3b067 10 = .ok (.ireturn, 1) := by decide +kernel
theorem dJ2_checkIndex_2214a_0 : decode cJ2_checkIndex_2214a 0 = .ok (.iload_n 0, 1) := by decide +kernel
theorem dJ2_checkIndex_2214a_1 : decode cJ2_checkIndex_2214a 1 = .ok (.aload_n 1, 1) := by decide +kernel
theorem dJ2_checkIndex_2214a_2 : decode cJ2_checkIndex_2214a 2 = .ok (.invokestatic 48, 3) := by decide +kernel
theorem dJ2_checkIndex_2214a_5 : decode cJ2_checkIndex_2214a 5 = .ok (.invokestatic 414, 3) := by decide +kernel
theorem dJ2_checkIndex_2214a_8 : decode cJ2_checkIndex_2214a 8 = .ok (.return_, 1) := by decide +kernel
theorem dJ2_checkBoundsBeginEnd_d044e_0 : decode cJ2_checkBoundsBeginEnd_d044e 0 = .ok (.iload_n 0, 1) := by decide +kernel
theorem dJ2_checkBoundsBeginEnd_d044e_1 : decode cJ2_checkBoundsBeginEnd_d044e 1 = .ok (.iload_n 1, 1) := by decide +kernel
theorem dJ2_checkBoundsBeginEnd_d044e_2 : decode cJ2_checkBoundsBeginEnd_d044e 2 = .ok (.aload_n 2, 1) := by decide +kernel
theorem dJ2_checkBoundsBeginEnd_d044e_3 : decode cJ2_checkBoundsBeginEnd_d044e 3 = .ok (.invokestatic 48, 3) := by decide +kernel
theorem dJ2_checkBoundsBeginEnd_d044e_6 : decode cJ2_checkBoundsBeginEnd_d044e 6 = .ok (.invokestatic 241, 3) := by decide +kernel
theorem dJ2_checkBoundsBeginEnd_d044e_9 : decode cJ2_checkBoundsBeginEnd_d044e 9 = .ok (.return_, 1) := by decide +kernel
theorem dJ7_fill_53178_0 : decode cJ7_fill_53178 0 = .ok (.iconst 0, 1) := by decide +kernel
theorem dJ7_fill_53178_1 : decode cJ7_fill_53178 1 = .ok (.istore_n 2, 1) := by decide +kernel
theorem dJ7_fill_53178_2 : decode cJ7_fill_53178 2 = .ok (.aload_n 0, 1) := by decide +kernel
theorem dJ7_fill_53178_3 : decode cJ7_fill_53178 3 = .ok (.arraylength, 1) := by decide +kernel
theorem dJ7_fill_53178_4 : decode cJ7_fill_53178 4 = .ok (.istore_n 3, 1) := by decide +kernel
theorem dJ7_fill_53178_5 : decode cJ7_fill_53178 5 = .ok (.iload_n 2, 1) := by decide +kernel
theorem dJ7_fill_53178_6 : decode cJ7_fill_53178 6 = .ok (.iload_n 3, 1) := by decide +kernel
theorem dJ7_fill_53178_7 : decode cJ7_fill_53178 7 = .ok (.if_icmp .ge 13, 3) := by decide +kernel
theorem dJ7_fill_53178_10 : decode cJ7_fill_53178 10 = .ok (.aload_n 0, 1) := by decide +kernel
theorem dJ7_fill_53178_11 : decode cJ7_fill_53178 11 = .ok (.iload_n 2, 1) := by decide +kernel
theorem dJ7_fill_53178_12 : decode cJ7_fill_53178 12 = .ok (.iload_n 1, 1) := by decide +kernel
theorem dJ7_fill_53178_13 : decode cJ7_fill_53178 13 = .ok (.iastore, 1) := by decide +kernel
theorem dJ7_fill_53178_14 : decode cJ7_fill_53178 14 = .ok (.iinc 2 1, 3) := by decide +kernel
theorem dJ7_fill_53178_17 : decode cJ7_fill_53178 17 = .ok (.goto (-12), 3) := by decide +kernel
theorem dJ7_fill_53178_20 : decode cJ7_fill_53178 20 = .ok (.return_, 1) := by decide +kernel
theorem dJ3_checkIndex_8e157_0 : decode cJ3_checkIndex_8e157 0 = .ok (.iload_n 0, 1) := by decide +kernel
theorem dJ3_checkIndex_8e157_1 : decode cJ3_checkIndex_8e157 1 = .ok (.ifCond .lt 8, 3) := by decide +kernel
theorem dJ3_checkIndex_8e157_4 : decode cJ3_checkIndex_8e157 4 = .ok (.iload_n 0, 1) := by decide +kernel
theorem dJ3_checkIndex_8e157_5 : decode cJ3_checkIndex_8e157 5 = .ok (.iload_n 1, 1) := by decide +kernel
theorem dJ3_checkIndex_8e157_6 : decode cJ3_checkIndex_8e157 6 = .ok (.if_icmp .lt 10, 3) := by decide +kernel
theorem dJ3_checkIndex_8e157_9 : decode cJ3_checkIndex_8e157 9 = .ok (.aload_n 2, 1) := by decide +kernel
theorem dJ3_checkIndex_8e157_10 : decode cJ3_checkIndex_8e157 10 = .ok (.iload_n 0, 1) := by decide +kernel
theorem dJ3_checkIndex_8e157_11 : decode cJ3_checkIndex_8e157 11 = .ok (.iload_n 1, 1) := by decide +kernel
theorem dJ3_checkIndex_8e157_12 : decode cJ3_checkIndex_8e157 12 = .ok (.invokestatic 95, 3) := by decide +kernel
theorem dJ3_checkIndex_8e157_15 : decode cJ3_checkIndex_8e157 15 = .ok (.athrow, 1) := by decide +kernel
theorem dJ3_checkIndex_8e157_16 : decode cJ3_checkIndex_8e157 16 = .ok (.iload_n 0, 1) := by decide +kernel
theorem dJ3_checkIndex_8e157_17 : decode cJ3_checkIndex_8e157 17 = .ok (.ireturn, 1) := by decide +kernel
theorem dJ3_checkFromToIndex_8c36e_0 : decode cJ3_checkFromToIndex_8c36e 0 = .ok (.iload_n 0, 1) := by decide +kernel
theorem dJ3_checkFromToIndex_8c36e_1 : decode cJ3_checkFromToIndex_8c36e 1 = .ok (.ifCond .lt 13, 3) := by decide +kernel
theorem dJ3_checkFromToIndex_8c36e_4 : decode cJ3_checkFromToIndex_8c36e 4 = .ok (.iload_n 0, 1) := by decide +kernel
theorem dJ3_checkFromToIndex_8c36e_5 : decode cJ3_checkFromToIndex_8c36e 5 = .ok (.iload_n 1, 1) := by decide +kernel
theorem dJ3_checkFromToIndex_8c36e_6 : decode cJ3_checkFromToIndex_8c36e 6 = .ok (.if_icmp .gt 8, 3) := by decide +kernel
theorem dJ3_checkFromToIndex_8c36e_9 : decode cJ3_checkFromToIndex_8c36e 9 = .ok (.iload_n 1, 1) := by decide +kernel
theorem dJ3_checkFromToIndex_8c36e_10 : decode cJ3_checkFromToIndex_8c36e 10 = .ok (.iload_n 2, 1) := by decide +kernel
theorem dJ3_checkFromToIndex_8c36e_11 : decode cJ3_checkFromToIndex_8c36e 11 = .ok (.if_icmp .le 11, 3) := by decide +kernel
theorem dJ3_checkFromToIndex_8c36e_14 : decode cJ3_checkFromToIndex_8c36e 14 = .ok (.aload_n 3, 1) := by decide +kernel
theorem dJ3_checkFromToIndex_8c36e_15 : decode cJ3_checkFromToIndex_8c36e 15 = .ok (.iload_n 0, 1) := by decide +kernel
theorem dJ3_checkFromToIndex_8c36e_16 : decode cJ3_checkFromToIndex_8c36e 16 = .ok (.iload_n 1, 1) := by decide +kernel
theorem dJ3_checkFromToIndex_8c36e_17 : decode cJ3_checkFromToIndex_8c36e 17 = .ok (.iload_n 2, 1) := by decide +kernel
theorem dJ3_checkFromToIndex_8c36e_18 : decode cJ3_checkFromToIndex_8c36e 18 = .ok (.invokestatic 99, 3) := by decide +kernel
theorem dJ3_checkFromToIndex_8c36e_21 : decode cJ3_checkFromToIndex_8c36e 21 = .ok (.athrow, 1) := by decide +kernel
theorem dJ3_checkFromToIndex_8c36e_22 : decode cJ3_checkFromToIndex_8c36e 22 = .ok (.iload_n 0, 1) := by decide +kernel
theorem dJ3_checkFromToIndex_8c36e_23 : decode cJ3_checkFromToIndex_8c36e 23 = .ok (.ireturn, 1) := by decide +kernel
theorem dL_law_0 : decode cL_law 0 = .ok (.new 7, 3) := by decide +kernel
theorem dL_law_3 : decode cL_law 3 = .ok (.dup, 1) := by decide +kernel
theorem dL_law_4 : decode cL_law 4 = .ok (.invokespecial 9, 3) := by decide +kernel
theorem dL_law_7 : decode cL_law 7 = .ok (.astore_n 1, 1) := by decide +kernel
theorem dL_law_8 : decode cL_law 8 = .ok (.new 10, 3) := by decide +kernel
theorem dL_law_11 : decode cL_law 11 = .ok (.dup, 1) := by decide +kernel
theorem dL_law_12 : decode cL_law 12 = .ok (.invokespecial 12, 3) := by decide +kernel
theorem dL_law_15 : decode cL_law 15 = .ok (.astore_n 2, 1) := by decide +kernel
theorem dL_law_16 : decode cL_law 16 = .ok (.iconst 0, 1) := by decide +kernel
theorem dL_law_17 : decode cL_law 17 = .ok (.istore_n 3, 1) := by decide +kernel
theorem dL_law_18 : decode cL_law 18 = .ok (.iload_n 3, 1) := by decide +kernel
theorem dL_law_19 : decode cL_law 19 = .ok (.aload_n 0, 1) := by decide +kernel
theorem dL_law_20 : decode cL_law 20 = .ok (.arraylength, 1) := by decide +kernel
theorem dL_law_21 : decode cL_law 21 = .ok (.bipush 6, 2) := by decide +kernel
theorem dL_law_23 : decode cL_law 23 = .ok (.isub, 1) := by decide +kernel
theorem dL_law_24 : decode cL_law 24 = .ok (.if_icmp .gt 1535, 3) := by decide +kernel
theorem dL_law_27 : decode cL_law 27 = .ok (.aload_n 0, 1) := by decide +kernel
theorem dL_law_28 : decode cL_law 28 = .ok (.iload_n 3, 1) := by decide +kernel
theorem dL_law_29 : decode cL_law 29 = .ok (.iaload, 1) := by decide +kernel
theorem dL_law_30 : decode cL_law 30 = .ok (.bipush 63, 2) := by decide +kernel
theorem dL_law_32 : decode cL_law 32 = .ok (.iand, 1) := by decide +kernel
theorem dL_law_33 : decode cL_law 33 = .ok (.tableswitch 1520 0 46 #[203, 266, 289, 302, 325, 358, 401, 424, 447, 470, 483, 506, 519, 532, 545, 568, 591, 654, 687, 720, 753, 786, 819, 842, 875, 908, 941, 964, 987, 1010, 1033, 1056, 1079, 1092, 1125, 1138, 1161, 1194, 1217, 1296, 1319, 1342, 1365, 1398, 1451, 1474, 1497], 203) := by decide +kernel
theorem dL_law_236 : decode cL_law 236 = .ok (.aload_n 1, 1) := by decide +kernel
theorem dL_law_237 : decode cL_law 237 = .ok (.aload_n 0, 1) := by decide +kernel
theorem dL_law_238 : decode cL_law 238 = .ok (.iload_n 3, 1) := by decide +kernel
theorem dL_law_239 : decode cL_law 239 = .ok (.iconst 1, 1) := by decide +kernel
theorem dL_law_240 : decode cL_law 240 = .ok (.iadd, 1) := by decide +kernel
theorem dL_law_241 : decode cL_law 241 = .ok (.iaload, 1) := by decide +kernel
theorem dL_law_242 : decode cL_law 242 = .ok (.aload_n 0, 1) := by decide +kernel
theorem dL_law_243 : decode cL_law 243 = .ok (.iload_n 3, 1) := by decide +kernel
theorem dL_law_244 : decode cL_law 244 = .ok (.iconst 2, 1) := by decide +kernel
theorem dL_law_245 : decode cL_law 245 = .ok (.iadd, 1) := by decide +kernel
theorem dL_law_246 : decode cL_law 246 = .ok (.iaload, 1) := by decide +kernel
theorem dL_law_247 : decode cL_law 247 = .ok (.aload_n 0, 1) := by decide +kernel
theorem dL_law_248 : decode cL_law 248 = .ok (.iload_n 3, 1) := by decide +kernel
theorem dL_law_249 : decode cL_law 249 = .ok (.iconst 3, 1) := by decide +kernel
theorem dL_law_250 : decode cL_law 250 = .ok (.iadd, 1) := by decide +kernel
theorem dL_law_251 : decode cL_law 251 = .ok (.iaload, 1) := by decide +kernel
theorem dL_law_252 : decode cL_law 252 = .ok (.aload_n 0, 1) := by decide +kernel
theorem dL_law_253 : decode cL_law 253 = .ok (.iload_n 3, 1) := by decide +kernel
theorem dL_law_254 : decode cL_law 254 = .ok (.iconst 4, 1) := by decide +kernel
theorem dL_law_255 : decode cL_law 255 = .ok (.iadd, 1) := by decide +kernel
theorem dL_law_256 : decode cL_law 256 = .ok (.iaload, 1) := by decide +kernel
theorem dL_law_257 : decode cL_law 257 = .ok (.aload_n 0, 1) := by decide +kernel
theorem dL_law_258 : decode cL_law 258 = .ok (.iload_n 3, 1) := by decide +kernel
theorem dL_law_259 : decode cL_law 259 = .ok (.iconst 5, 1) := by decide +kernel
theorem dL_law_260 : decode cL_law 260 = .ok (.iadd, 1) := by decide +kernel
theorem dL_law_261 : decode cL_law 261 = .ok (.iaload, 1) := by decide +kernel
theorem dL_law_262 : decode cL_law 262 = .ok (.invokevirtual 13, 3) := by decide +kernel
theorem dL_law_265 : decode cL_law 265 = .ok (.aload_n 2, 1) := by decide +kernel
theorem dL_law_266 : decode cL_law 266 = .ok (.aload_n 0, 1) := by decide +kernel
theorem dL_law_267 : decode cL_law 267 = .ok (.iload_n 3, 1) := by decide +kernel
theorem dL_law_268 : decode cL_law 268 = .ok (.iconst 1, 1) := by decide +kernel
theorem dL_law_269 : decode cL_law 269 = .ok (.iadd, 1) := by decide +kernel
theorem dL_law_270 : decode cL_law 270 = .ok (.iaload, 1) := by decide +kernel
theorem dL_law_271 : decode cL_law 271 = .ok (.aload_n 0, 1) := by decide +kernel
theorem dL_law_272 : decode cL_law 272 = .ok (.iload_n 3, 1) := by decide +kernel
theorem dL_law_273 : decode cL_law 273 = .ok (.iconst 2, 1) := by decide +kernel
theorem dL_law_274 : decode cL_law 274 = .ok (.iadd, 1) := by decide +kernel
theorem dL_law_275 : decode cL_law 275 = .ok (.iaload, 1) := by decide +kernel
theorem dL_law_276 : decode cL_law 276 = .ok (.aload_n 0, 1) := by decide +kernel
theorem dL_law_277 : decode cL_law 277 = .ok (.iload_n 3, 1) := by decide +kernel
theorem dL_law_278 : decode cL_law 278 = .ok (.iconst 3, 1) := by decide +kernel
theorem dL_law_279 : decode cL_law 279 = .ok (.iadd, 1) := by decide +kernel
theorem dL_law_280 : decode cL_law 280 = .ok (.iaload, 1) := by decide +kernel
theorem dL_law_281 : decode cL_law 281 = .ok (.aload_n 0, 1) := by decide +kernel
theorem dL_law_282 : decode cL_law 282 = .ok (.iload_n 3, 1) := by decide +kernel
theorem dL_law_283 : decode cL_law 283 = .ok (.iconst 4, 1) := by decide +kernel
theorem dL_law_284 : decode cL_law 284 = .ok (.iadd, 1) := by decide +kernel
theorem dL_law_285 : decode cL_law 285 = .ok (.iaload, 1) := by decide +kernel
theorem dL_law_286 : decode cL_law 286 = .ok (.aload_n 0, 1) := by decide +kernel
theorem dL_law_287 : decode cL_law 287 = .ok (.iload_n 3, 1) := by decide +kernel
theorem dL_law_288 : decode cL_law 288 = .ok (.iconst 5, 1) := by decide +kernel
theorem dL_law_289 : decode cL_law 289 = .ok (.iadd, 1) := by decide +kernel
theorem dL_law_290 : decode cL_law 290 = .ok (.iaload, 1) := by decide +kernel
theorem dL_law_291 : decode cL_law 291 = .ok (.invokevirtual 17, 3) := by decide +kernel
theorem dL_law_294 : decode cL_law 294 = .ok (.if_icmp .eq 1259, 3) := by decide +kernel
theorem dL_law_297 : decode cL_law 297 = .ok (.iconst 0, 1) := by decide +kernel
theorem dL_law_298 : decode cL_law 298 = .ok (.ireturn, 1) := by decide +kernel
theorem dL_law_299 : decode cL_law 299 = .ok (.aload_n 1, 1) := by decide +kernel
theorem dL_law_300 : decode cL_law 300 = .ok (.aload_n 0, 1) := by decide +kernel
theorem dL_law_301 : decode cL_law 301 = .ok (.iload_n 3, 1) := by decide +kernel
theorem dL_law_302 : decode cL_law 302 = .ok (.iconst 1, 1) := by decide +kernel
theorem dL_law_303 : decode cL_law 303 = .ok (.iadd, 1) := by decide +kernel
theorem dL_law_304 : decode cL_law 304 = .ok (.iaload, 1) := by decide +kernel
theorem dL_law_305 : decode cL_law 305 = .ok (.invokevirtual 18, 3) := by decide +kernel
theorem dL_law_308 : decode cL_law 308 = .ok (.aload_n 2, 1) := by decide +kernel
theorem dL_law_309 : decode cL_law 309 = .ok (.aload_n 0, 1) := by decide +kernel
theorem dL_law_310 : decode cL_law 310 = .ok (.iload_n 3, 1) := by decide +kernel
theorem dL_law_311 : decode cL_law 311 = .ok (.iconst 1, 1) := by decide +kernel
theorem dL_law_312 : decode cL_law 312 = .ok (.iadd, 1) := by decide +kernel
theorem dL_law_313 : decode cL_law 313 = .ok (.iaload, 1) := by decide +kernel
theorem dL_law_314 : decode cL_law 314 = .ok (.invokevirtual 22, 3) := by decide +kernel
theorem dL_law_317 : decode cL_law 317 = .ok (.if_icmp .eq 1236, 3) := by decide +kernel
theorem dL_law_320 : decode cL_law 320 = .ok (.iconst 0, 1) := by decide +kernel
theorem dL_law_321 : decode cL_law 321 = .ok (.ireturn, 1) := by decide +kernel
theorem dL_law_322 : decode cL_law 322 = .ok (.aload_n 1, 1) := by decide +kernel
theorem dL_law_323 : decode cL_law 323 = .ok (.invokevirtual 23, 3) := by decide +kernel
theorem dL_law_326 : decode cL_law 326 = .ok (.aload_n 2, 1) := by decide +kernel
theorem dL_law_327 : decode cL_law 327 = .ok (.invokevirtual 27, 3) := by decide +kernel
theorem dL_law_330 : decode cL_law 330 = .ok (.if_icmp .eq 1223, 3) := by decide +kernel
theorem dL_law_333 : decode cL_law 333 = .ok (.iconst 0, 1) := by decide +kernel
theorem dL_law_334 : decode cL_law 334 = .ok (.ireturn, 1) := by decide +kernel
theorem dL_law_335 : decode cL_law 335 = .ok (.aload_n 1, 1) := by decide +kernel
theorem dL_law_336 : decode cL_law 336 = .ok (.aload_n 0, 1) := by decide +kernel
theorem dL_law_337 : decode cL_law 337 = .ok (.iload_n 3, 1) := by decide +kernel
theorem dL_law_338 : decode cL_law 338 = .ok (.iconst 1, 1) := by decide +kernel
theorem dL_law_339 : decode cL_law 339 = .ok (.iadd, 1) := by decide +kernel
theorem dL_law_340 : decode cL_law 340 = .ok (.iaload, 1) := by decide +kernel
theorem dL_law_341 : decode cL_law 341 = .ok (.invokevirtual 28, 3) := by decide +kernel
theorem dL_law_344 : decode cL_law 344 = .ok (.aload_n 2, 1) := by decide +kernel
theorem dL_law_345 : decode cL_law 345 = .ok (.aload_n 0, 1) := by decide +kernel
theorem dL_law_346 : decode cL_law 346 = .ok (.iload_n 3, 1) := by decide +kernel
theorem dL_law_347 : decode cL_law 347 = .ok (.iconst 1, 1) := by decide +kernel
theorem dL_law_348 : decode cL_law 348 = .ok (.iadd, 1) := by decide +kernel
theorem dL_law_349 : decode cL_law 349 = .ok (.iaload, 1) := by decide +kernel
theorem dL_law_350 : decode cL_law 350 = .ok (.invokevirtual 31, 3) := by decide +kernel
theorem dL_law_353 : decode cL_law 353 = .ok (.if_icmp .eq 1200, 3) := by decide +kernel
theorem dL_law_356 : decode cL_law 356 = .ok (.iconst 0, 1) := by decide +kernel
theorem dL_law_357 : decode cL_law 357 = .ok (.ireturn, 1) := by decide +kernel
theorem dL_law_358 : decode cL_law 358 = .ok (.aload_n 1, 1) := by decide +kernel
theorem dL_law_359 : decode cL_law 359 = .ok (.aload_n 0, 1) := by decide +kernel
theorem dL_law_360 : decode cL_law 360 = .ok (.iload_n 3, 1) := by decide +kernel
theorem dL_law_361 : decode cL_law 361 = .ok (.iconst 1, 1) := by decide +kernel
theorem dL_law_362 : decode cL_law 362 = .ok (.iadd, 1) := by decide +kernel
theorem dL_law_363 : decode cL_law 363 = .ok (.iaload, 1) := by decide +kernel
theorem dL_law_364 : decode cL_law 364 = .ok (.aload_n 0, 1) := by decide +kernel
theorem dL_law_365 : decode cL_law 365 = .ok (.iload_n 3, 1) := by decide +kernel
theorem dL_law_366 : decode cL_law 366 = .ok (.iconst 2, 1) := by decide +kernel
theorem dL_law_367 : decode cL_law 367 = .ok (.iadd, 1) := by decide +kernel
theorem dL_law_368 : decode cL_law 368 = .ok (.iaload, 1) := by decide +kernel
theorem dL_law_369 : decode cL_law 369 = .ok (.invokevirtual 32, 3) := by decide +kernel
theorem dL_law_372 : decode cL_law 372 = .ok (.aload_n 2, 1) := by decide +kernel
theorem dL_law_373 : decode cL_law 373 = .ok (.aload_n 0, 1) := by decide +kernel
theorem dL_law_374 : decode cL_law 374 = .ok (.iload_n 3, 1) := by decide +kernel
theorem dL_law_375 : decode cL_law 375 = .ok (.iconst 1, 1) := by decide +kernel
theorem dL_law_376 : decode cL_law 376 = .ok (.iadd, 1) := by decide +kernel
theorem dL_law_377 : decode cL_law 377 = .ok (.iaload, 1) := by decide +kernel
theorem dL_law_378 : decode cL_law 378 = .ok (.aload_n 0, 1) := by decide +kernel
theorem dL_law_379 : decode cL_law 379 = .ok (.iload_n 3, 1) := by decide +kernel
theorem dL_law_380 : decode cL_law 380 = .ok (.iconst 2, 1) := by decide +kernel
theorem dL_law_381 : decode cL_law 381 = .ok (.iadd, 1) := by decide +kernel
theorem dL_law_382 : decode cL_law 382 = .ok (.iaload, 1) := by decide +kernel
theorem dL_law_383 : decode cL_law 383 = .ok (.invokevirtual 36, 3) := by decide +kernel
theorem dL_law_386 : decode cL_law 386 = .ok (.if_icmp .eq 1167, 3) := by decide +kernel
theorem dL_law_389 : decode cL_law 389 = .ok (.iconst 0, 1) := by decide +kernel
theorem dL_law_390 : decode cL_law 390 = .ok (.ireturn, 1) := by decide +kernel
theorem dL_law_391 : decode cL_law 391 = .ok (.aload_n 1, 1) := by decide +kernel
theorem dL_law_392 : decode cL_law 392 = .ok (.aload_n 0, 1) := by decide +kernel
theorem dL_law_393 : decode cL_law 393 = .ok (.iload_n 3, 1) := by decide +kernel
theorem dL_law_394 : decode cL_law 394 = .ok (.iconst 1, 1) := by decide +kernel
theorem dL_law_395 : decode cL_law 395 = .ok (.iadd, 1) := by decide +kernel
theorem dL_law_396 : decode cL_law 396 = .ok (.iaload, 1) := by decide +kernel
theorem dL_law_397 : decode cL_law 397 = .ok (.aload_n 0, 1) := by decide +kernel
theorem dL_law_398 : decode cL_law 398 = .ok (.iload_n 3, 1) := by decide +kernel
theorem dL_law_399 : decode cL_law 399 = .ok (.iconst 2, 1) := by decide +kernel
theorem dL_law_400 : decode cL_law 400 = .ok (.iadd, 1) := by decide +kernel
theorem dL_law_401 : decode cL_law 401 = .ok (.iaload, 1) := by decide +kernel
theorem dL_law_402 : decode cL_law 402 = .ok (.aload_n 0, 1) := by decide +kernel
theorem dL_law_403 : decode cL_law 403 = .ok (.iload_n 3, 1) := by decide +kernel
theorem dL_law_404 : decode cL_law 404 = .ok (.iconst 3, 1) := by decide +kernel
theorem dL_law_405 : decode cL_law 405 = .ok (.iadd, 1) := by decide +kernel
theorem dL_law_406 : decode cL_law 406 = .ok (.iaload, 1) := by decide +kernel
theorem dL_law_407 : decode cL_law 407 = .ok (.invokevirtual 37, 3) := by decide +kernel
theorem dL_law_410 : decode cL_law 410 = .ok (.aload_n 2, 1) := by decide +kernel
theorem dL_law_411 : decode cL_law 411 = .ok (.aload_n 0, 1) := by decide +kernel
theorem dL_law_412 : decode cL_law 412 = .ok (.iload_n 3, 1) := by decide +kernel
theorem dL_law_413 : decode cL_law 413 = .ok (.iconst 1, 1) := by decide +kernel
theorem dL_law_414 : decode cL_law 414 = .ok (.iadd, 1) := by decide +kernel
theorem dL_law_415 : decode cL_law 415 = .ok (.iaload, 1) := by decide +kernel
theorem dL_law_416 : decode cL_law 416 = .ok (.aload_n 0, 1) := by decide +kernel
theorem dL_law_417 : decode cL_law 417 = .ok (.iload_n 3, 1) := by decide +kernel
theorem dL_law_418 : decode cL_law 418 = .ok (.iconst 2, 1) := by decide +kernel
theorem dL_law_419 : decode cL_law 419 = .ok (.iadd, 1) := by decide +kernel
theorem dL_law_420 : decode cL_law 420 = .ok (.iaload, 1) := by decide +kernel
theorem dL_law_421 : decode cL_law 421 = .ok (.aload_n 0, 1) := by decide +kernel
theorem dL_law_422 : decode cL_law 422 = .ok (.iload_n 3, 1) := by decide +kernel
theorem dL_law_423 : decode cL_law 423 = .ok (.iconst 3, 1) := by decide +kernel
theorem dL_law_424 : decode cL_law 424 = .ok (.iadd, 1) := by decide +kernel
theorem dL_law_425 : decode cL_law 425 = .ok (.iaload, 1) := by decide +kernel
theorem dL_law_426 : decode cL_law 426 = .ok (.invokevirtual 41, 3) := by decide +kernel
theorem dL_law_429 : decode cL_law 429 = .ok (.if_icmp .eq 1124, 3) := by decide +kernel
theorem dL_law_432 : decode cL_law 432 = .ok (.iconst 0, 1) := by decide +kernel
theorem dL_law_433 : decode cL_law 433 = .ok (.ireturn, 1) := by decide +kernel
theorem dL_law_434 : decode cL_law 434 = .ok (.aload_n 1, 1) := by decide +kernel
theorem dL_law_435 : decode cL_law 435 = .ok (.aload_n 0, 1) := by decide +kernel
theorem dL_law_436 : decode cL_law 436 = .ok (.iload_n 3, 1) := by decide +kernel
theorem dL_law_437 : decode cL_law 437 = .ok (.iconst 1, 1) := by decide +kernel
theorem dL_law_438 : decode cL_law 438 = .ok (.iadd, 1) := by decide +kernel
theorem dL_law_439 : decode cL_law 439 = .ok (.iaload, 1) := by decide +kernel
theorem dL_law_440 : decode cL_law 440 = .ok (.invokevirtual 42, 3) := by decide +kernel
theorem dL_law_443 : decode cL_law 443 = .ok (.aload_n 2, 1) := by decide +kernel
theorem dL_law_444 : decode cL_law 444 = .ok (.aload_n 0, 1) := by decide +kernel
theorem dL_law_445 : decode cL_law 445 = .ok (.iload_n 3, 1) := by decide +kernel
theorem dL_law_446 : decode cL_law 446 = .ok (.iconst 1, 1) := by decide +kernel
theorem dL_law_447 : decode cL_law 447 = .ok (.iadd, 1) := by decide +kernel
theorem dL_law_448 : decode cL_law 448 = .ok (.iaload, 1) := by decide +kernel
theorem dL_law_449 : decode cL_law 449 = .ok (.invokevirtual 45, 3) := by decide +kernel
theorem dL_law_452 : decode cL_law 452 = .ok (.if_icmp .eq 1101, 3) := by decide +kernel
theorem dL_law_455 : decode cL_law 455 = .ok (.iconst 0, 1) := by decide +kernel
theorem dL_law_456 : decode cL_law 456 = .ok (.ireturn, 1) := by decide +kernel
theorem dL_law_457 : decode cL_law 457 = .ok (.aload_n 1, 1) := by decide +kernel
theorem dL_law_458 : decode cL_law 458 = .ok (.aload_n 0, 1) := by decide +kernel
theorem dL_law_459 : decode cL_law 459 = .ok (.iload_n 3, 1) := by decide +kernel
theorem dL_law_460 : decode cL_law 460 = .ok (.iconst 1, 1) := by decide +kernel
theorem dL_law_461 : decode cL_law 461 = .ok (.iadd, 1) := by decide +kernel
theorem dL_law_462 : decode cL_law 462 = .ok (.iaload, 1) := by decide +kernel
theorem dL_law_463 : decode cL_law 463 = .ok (.invokevirtual 46, 3) := by decide +kernel
theorem dL_law_466 : decode cL_law 466 = .ok (.aload_n 2, 1) := by decide +kernel
theorem dL_law_467 : decode cL_law 467 = .ok (.aload_n 0, 1) := by decide +kernel
theorem dL_law_468 : decode cL_law 468 = .ok (.iload_n 3, 1) := by decide +kernel
theorem dL_law_469 : decode cL_law 469 = .ok (.iconst 1, 1) := by decide +kernel
theorem dL_law_470 : decode cL_law 470 = .ok (.iadd, 1) := by decide +kernel
theorem dL_law_471 : decode cL_law 471 = .ok (.iaload, 1) := by decide +kernel
theorem dL_law_472 : decode cL_law 472 = .ok (.invokevirtual 49, 3) := by decide +kernel
theorem dL_law_475 : decode cL_law 475 = .ok (.if_icmp .eq 1078, 3) := by decide +kernel
theorem dL_law_478 : decode cL_law 478 = .ok (.iconst 0, 1) := by decide +kernel
theorem dL_law_479 : decode cL_law 479 = .ok (.ireturn, 1) := by decide +kernel
theorem dL_law_480 : decode cL_law 480 = .ok (.aload_n 1, 1) := by decide +kernel
theorem dL_law_481 : decode cL_law 481 = .ok (.aload_n 0, 1) := by decide +kernel
theorem dL_law_482 : decode cL_law 482 = .ok (.iload_n 3, 1) := by decide +kernel
theorem dL_law_483 : decode cL_law 483 = .ok (.iconst 1, 1) := by decide +kernel
theorem dL_law_484 : decode cL_law 484 = .ok (.iadd, 1) := by decide +kernel
theorem dL_law_485 : decode cL_law 485 = .ok (.iaload, 1) := by decide +kernel
theorem dL_law_486 : decode cL_law 486 = .ok (.invokevirtual 50, 3) := by decide +kernel
theorem dL_law_489 : decode cL_law 489 = .ok (.aload_n 2, 1) := by decide +kernel
theorem dL_law_490 : decode cL_law 490 = .ok (.aload_n 0, 1) := by decide +kernel
theorem dL_law_491 : decode cL_law 491 = .ok (.iload_n 3, 1) := by decide +kernel
theorem dL_law_492 : decode cL_law 492 = .ok (.iconst 1, 1) := by decide +kernel
theorem dL_law_493 : decode cL_law 493 = .ok (.iadd, 1) := by decide +kernel
theorem dL_law_494 : decode cL_law 494 = .ok (.iaload, 1) := by decide +kernel
theorem dL_law_495 : decode cL_law 495 = .ok (.invokevirtual 53, 3) := by decide +kernel
theorem dL_law_498 : decode cL_law 498 = .ok (.if_icmp .eq 1055, 3) := by decide +kernel
theorem dL_law_501 : decode cL_law 501 = .ok (.iconst 0, 1) := by decide +kernel
theorem dL_law_502 : decode cL_law 502 = .ok (.ireturn, 1) := by decide +kernel
theorem dL_law_503 : decode cL_law 503 = .ok (.aload_n 1, 1) := by decide +kernel
theorem dL_law_504 : decode cL_law 504 = .ok (.invokevirtual 54, 3) := by decide +kernel
theorem dL_law_507 : decode cL_law 507 = .ok (.aload_n 2, 1) := by decide +kernel
theorem dL_law_508 : decode cL_law 508 = .ok (.invokevirtual 57, 3) := by decide +kernel
theorem dL_law_511 : decode cL_law 511 = .ok (.if_icmp .eq 1042, 3) := by decide +kernel
theorem dL_law_514 : decode cL_law 514 = .ok (.iconst 0, 1) := by decide +kernel
theorem dL_law_515 : decode cL_law 515 = .ok (.ireturn, 1) := by decide +kernel
theorem dL_law_516 : decode cL_law 516 = .ok (.aload_n 1, 1) := by decide +kernel
theorem dL_law_517 : decode cL_law 517 = .ok (.aload_n 0, 1) := by decide +kernel
theorem dL_law_518 : decode cL_law 518 = .ok (.iload_n 3, 1) := by decide +kernel
theorem dL_law_519 : decode cL_law 519 = .ok (.iconst 1, 1) := by decide +kernel
theorem dL_law_520 : decode cL_law 520 = .ok (.iadd, 1) := by decide +kernel
theorem dL_law_521 : decode cL_law 521 = .ok (.iaload, 1) := by decide +kernel
theorem dL_law_522 : decode cL_law 522 = .ok (.invokevirtual 58, 3) := by decide +kernel
theorem dL_law_525 : decode cL_law 525 = .ok (.aload_n 2, 1) := by decide +kernel
theorem dL_law_526 : decode cL_law 526 = .ok (.aload_n 0, 1) := by decide +kernel
theorem dL_law_527 : decode cL_law 527 = .ok (.iload_n 3, 1) := by decide +kernel
theorem dL_law_528 : decode cL_law 528 = .ok (.iconst 1, 1) := by decide +kernel
theorem dL_law_529 : decode cL_law 529 = .ok (.iadd, 1) := by decide +kernel
theorem dL_law_530 : decode cL_law 530 = .ok (.iaload, 1) := by decide +kernel
theorem dL_law_531 : decode cL_law 531 = .ok (.invokevirtual 61, 3) := by decide +kernel
theorem dL_law_534 : decode cL_law 534 = .ok (.if_icmp .eq 1019, 3) := by decide +kernel
theorem dL_law_537 : decode cL_law 537 = .ok (.iconst 0, 1) := by decide +kernel
theorem dL_law_538 : decode cL_law 538 = .ok (.ireturn, 1) := by decide +kernel
theorem dL_law_539 : decode cL_law 539 = .ok (.aload_n 1, 1) := by decide +kernel
theorem dL_law_540 : decode cL_law 540 = .ok (.invokevirtual 62, 3) := by decide +kernel
theorem dL_law_543 : decode cL_law 543 = .ok (.aload_n 2, 1) := by decide +kernel
theorem dL_law_544 : decode cL_law 544 = .ok (.invokevirtual 65, 3) := by decide +kernel
theorem dL_law_547 : decode cL_law 547 = .ok (.if_icmp .eq 1006, 3) := by decide +kernel
theorem dL_law_550 : decode cL_law 550 = .ok (.iconst 0, 1) := by decide +kernel
theorem dL_law_551 : decode cL_law 551 = .ok (.ireturn, 1) := by decide +kernel
theorem dL_law_552 : decode cL_law 552 = .ok (.aload_n 1, 1) := by decide +kernel
theorem dL_law_553 : decode cL_law 553 = .ok (.invokevirtual 66, 3) := by decide +kernel
theorem dL_law_556 : decode cL_law 556 = .ok (.aload_n 2, 1) := by decide +kernel
theorem dL_law_557 : decode cL_law 557 = .ok (.invokevirtual 70, 3) := by decide +kernel
theorem dL_law_560 : decode cL_law 560 = .ok (.if_icmp .eq 993, 3) := by decide +kernel
theorem dL_law_563 : decode cL_law 563 = .ok (.iconst 0, 1) := by decide +kernel
theorem dL_law_564 : decode cL_law 564 = .ok (.ireturn, 1) := by decide +kernel
theorem dL_law_565 : decode cL_law 565 = .ok (.aload_n 1, 1) := by decide +kernel
theorem dL_law_566 : decode cL_law 566 = .ok (.invokevirtual 71, 3) := by decide +kernel
theorem dL_law_569 : decode cL_law 569 = .ok (.aload_n 2, 1) := by decide +kernel
theorem dL_law_570 : decode cL_law 570 = .ok (.invokevirtual 74, 3) := by decide +kernel
theorem dL_law_573 : decode cL_law 573 = .ok (.if_icmp .eq 980, 3) := by decide +kernel
theorem dL_law_576 : decode cL_law 576 = .ok (.iconst 0, 1) := by decide +kernel
theorem dL_law_577 : decode cL_law 577 = .ok (.ireturn, 1) := by decide +kernel
theorem dL_law_578 : decode cL_law 578 = .ok (.aload_n 1, 1) := by decide +kernel
theorem dL_law_579 : decode cL_law 579 = .ok (.aload_n 0, 1) := by decide +kernel
theorem dL_law_580 : decode cL_law 580 = .ok (.iload_n 3, 1) := by decide +kernel
theorem dL_law_581 : decode cL_law 581 = .ok (.iconst 1, 1) := by decide +kernel
theorem dL_law_582 : decode cL_law 582 = .ok (.iadd, 1) := by decide +kernel
theorem dL_law_583 : decode cL_law 583 = .ok (.iaload, 1) := by decide +kernel
theorem dL_law_584 : decode cL_law 584 = .ok (.invokevirtual 75, 3) := by decide +kernel
theorem dL_law_587 : decode cL_law 587 = .ok (.aload_n 2, 1) := by decide +kernel
theorem dL_law_588 : decode cL_law 588 = .ok (.aload_n 0, 1) := by decide +kernel
theorem dL_law_589 : decode cL_law 589 = .ok (.iload_n 3, 1) := by decide +kernel
theorem dL_law_590 : decode cL_law 590 = .ok (.iconst 1, 1) := by decide +kernel
theorem dL_law_591 : decode cL_law 591 = .ok (.iadd, 1) := by decide +kernel
theorem dL_law_592 : decode cL_law 592 = .ok (.iaload, 1) := by decide +kernel
theorem dL_law_593 : decode cL_law 593 = .ok (.invokevirtual 78, 3) := by decide +kernel
theorem dL_law_596 : decode cL_law 596 = .ok (.if_icmp .eq 957, 3) := by decide +kernel
theorem dL_law_599 : decode cL_law 599 = .ok (.iconst 0, 1) := by decide +kernel
theorem dL_law_600 : decode cL_law 600 = .ok (.ireturn, 1) := by decide +kernel
theorem dL_law_601 : decode cL_law 601 = .ok (.aload_n 1, 1) := by decide +kernel
theorem dL_law_602 : decode cL_law 602 = .ok (.aload_n 0, 1) := by decide +kernel
theorem dL_law_603 : decode cL_law 603 = .ok (.iload_n 3, 1) := by decide +kernel
theorem dL_law_604 : decode cL_law 604 = .ok (.iconst 1, 1) := by decide +kernel
theorem dL_law_605 : decode cL_law 605 = .ok (.iadd, 1) := by decide +kernel
theorem dL_law_606 : decode cL_law 606 = .ok (.iaload, 1) := by decide +kernel
theorem dL_law_607 : decode cL_law 607 = .ok (.invokevirtual 79, 3) := by decide +kernel
theorem dL_law_610 : decode cL_law 610 = .ok (.aload_n 2, 1) := by decide +kernel
theorem dL_law_611 : decode cL_law 611 = .ok (.aload_n 0, 1) := by decide +kernel
theorem dL_law_612 : decode cL_law 612 = .ok (.iload_n 3, 1) := by decide +kernel
theorem dL_law_613 : decode cL_law 613 = .ok (.iconst 1, 1) := by decide +kernel
theorem dL_law_614 : decode cL_law 614 = .ok (.iadd, 1) := by decide +kernel
theorem dL_law_615 : decode cL_law 615 = .ok (.iaload, 1) := by decide +kernel
theorem dL_law_616 : decode cL_law 616 = .ok (.invokevirtual 82, 3) := by decide +kernel
theorem dL_law_619 : decode cL_law 619 = .ok (.if_icmp .eq 934, 3) := by decide +kernel
theorem dL_law_622 : decode cL_law 622 = .ok (.iconst 0, 1) := by decide +kernel
theorem dL_law_623 : decode cL_law 623 = .ok (.ireturn, 1) := by decide +kernel
theorem dL_law_624 : decode cL_law 624 = .ok (.aload_n 1, 1) := by decide +kernel
theorem dL_law_625 : decode cL_law 625 = .ok (.aload_n 0, 1) := by decide +kernel
theorem dL_law_626 : decode cL_law 626 = .ok (.iload_n 3, 1) := by decide +kernel
theorem dL_law_627 : decode cL_law 627 = .ok (.iconst 1, 1) := by decide +kernel
theorem dL_law_628 : decode cL_law 628 = .ok (.iadd, 1) := by decide +kernel
theorem dL_law_629 : decode cL_law 629 = .ok (.iaload, 1) := by decide +kernel
theorem dL_law_630 : decode cL_law 630 = .ok (.aload_n 0, 1) := by decide +kernel
theorem dL_law_631 : decode cL_law 631 = .ok (.iload_n 3, 1) := by decide +kernel
theorem dL_law_632 : decode cL_law 632 = .ok (.iconst 2, 1) := by decide +kernel
theorem dL_law_633 : decode cL_law 633 = .ok (.iadd, 1) := by decide +kernel
theorem dL_law_634 : decode cL_law 634 = .ok (.iaload, 1) := by decide +kernel
theorem dL_law_635 : decode cL_law 635 = .ok (.aload_n 0, 1) := by decide +kernel
theorem dL_law_636 : decode cL_law 636 = .ok (.iload_n 3, 1) := by decide +kernel
theorem dL_law_637 : decode cL_law 637 = .ok (.iconst 3, 1) := by decide +kernel
theorem dL_law_638 : decode cL_law 638 = .ok (.iadd, 1) := by decide +kernel
theorem dL_law_639 : decode cL_law 639 = .ok (.iaload, 1) := by decide +kernel
theorem dL_law_640 : decode cL_law 640 = .ok (.aload_n 0, 1) := by decide +kernel
theorem dL_law_641 : decode cL_law 641 = .ok (.iload_n 3, 1) := by decide +kernel
theorem dL_law_642 : decode cL_law 642 = .ok (.iconst 4, 1) := by decide +kernel
theorem dL_law_643 : decode cL_law 643 = .ok (.iadd, 1) := by decide +kernel
theorem dL_law_644 : decode cL_law 644 = .ok (.iaload, 1) := by decide +kernel
theorem dL_law_645 : decode cL_law 645 = .ok (.aload_n 0, 1) := by decide +kernel
theorem dL_law_646 : decode cL_law 646 = .ok (.iload_n 3, 1) := by decide +kernel
theorem dL_law_647 : decode cL_law 647 = .ok (.iconst 5, 1) := by decide +kernel
theorem dL_law_648 : decode cL_law 648 = .ok (.iadd, 1) := by decide +kernel
theorem dL_law_649 : decode cL_law 649 = .ok (.iaload, 1) := by decide +kernel
theorem dL_law_650 : decode cL_law 650 = .ok (.invokevirtual 83, 3) := by decide +kernel
theorem dL_law_653 : decode cL_law 653 = .ok (.aload_n 2, 1) := by decide +kernel
theorem dL_law_654 : decode cL_law 654 = .ok (.aload_n 0, 1) := by decide +kernel
theorem dL_law_655 : decode cL_law 655 = .ok (.iload_n 3, 1) := by decide +kernel
theorem dL_law_656 : decode cL_law 656 = .ok (.iconst 1, 1) := by decide +kernel
theorem dL_law_657 : decode cL_law 657 = .ok (.iadd, 1) := by decide +kernel
theorem dL_law_658 : decode cL_law 658 = .ok (.iaload, 1) := by decide +kernel
theorem dL_law_659 : decode cL_law 659 = .ok (.aload_n 0, 1) := by decide +kernel
theorem dL_law_660 : decode cL_law 660 = .ok (.iload_n 3, 1) := by decide +kernel
theorem dL_law_661 : decode cL_law 661 = .ok (.iconst 2, 1) := by decide +kernel
theorem dL_law_662 : decode cL_law 662 = .ok (.iadd, 1) := by decide +kernel
theorem dL_law_663 : decode cL_law 663 = .ok (.iaload, 1) := by decide +kernel
theorem dL_law_664 : decode cL_law 664 = .ok (.aload_n 0, 1) := by decide +kernel
theorem dL_law_665 : decode cL_law 665 = .ok (.iload_n 3, 1) := by decide +kernel
theorem dL_law_666 : decode cL_law 666 = .ok (.iconst 3, 1) := by decide +kernel
theorem dL_law_667 : decode cL_law 667 = .ok (.iadd, 1) := by decide +kernel
theorem dL_law_668 : decode cL_law 668 = .ok (.iaload, 1) := by decide +kernel
theorem dL_law_669 : decode cL_law 669 = .ok (.aload_n 0, 1) := by decide +kernel
theorem dL_law_670 : decode cL_law 670 = .ok (.iload_n 3, 1) := by decide +kernel
theorem dL_law_671 : decode cL_law 671 = .ok (.iconst 4, 1) := by decide +kernel
theorem dL_law_672 : decode cL_law 672 = .ok (.iadd, 1) := by decide +kernel
theorem dL_law_673 : decode cL_law 673 = .ok (.iaload, 1) := by decide +kernel
theorem dL_law_674 : decode cL_law 674 = .ok (.aload_n 0, 1) := by decide +kernel
theorem dL_law_675 : decode cL_law 675 = .ok (.iload_n 3, 1) := by decide +kernel
theorem dL_law_676 : decode cL_law 676 = .ok (.iconst 5, 1) := by decide +kernel
theorem dL_law_677 : decode cL_law 677 = .ok (.iadd, 1) := by decide +kernel
theorem dL_law_678 : decode cL_law 678 = .ok (.iaload, 1) := by decide +kernel
theorem dL_law_679 : decode cL_law 679 = .ok (.invokevirtual 86, 3) := by decide +kernel
theorem dL_law_682 : decode cL_law 682 = .ok (.if_icmp .eq 871, 3) := by decide +kernel
theorem dL_law_685 : decode cL_law 685 = .ok (.iconst 0, 1) := by decide +kernel
theorem dL_law_686 : decode cL_law 686 = .ok (.ireturn, 1) := by decide +kernel
theorem dL_law_687 : decode cL_law 687 = .ok (.aload_n 1, 1) := by decide +kernel
theorem dL_law_688 : decode cL_law 688 = .ok (.aload_n 0, 1) := by decide +kernel
theorem dL_law_689 : decode cL_law 689 = .ok (.iload_n 3, 1) := by decide +kernel
theorem dL_law_690 : decode cL_law 690 = .ok (.iconst 1, 1) := by decide +kernel
theorem dL_law_691 : decode cL_law 691 = .ok (.iadd, 1) := by decide +kernel
theorem dL_law_692 : decode cL_law 692 = .ok (.iaload, 1) := by decide +kernel
theorem dL_law_693 : decode cL_law 693 = .ok (.aload_n 0, 1) := by decide +kernel
theorem dL_law_694 : decode cL_law 694 = .ok (.iload_n 3, 1) := by decide +kernel
theorem dL_law_695 : decode cL_law 695 = .ok (.iconst 2, 1) := by decide +kernel
theorem dL_law_696 : decode cL_law 696 = .ok (.iadd, 1) := by decide +kernel
theorem dL_law_697 : decode cL_law 697 = .ok (.iaload, 1) := by decide +kernel
theorem dL_law_698 : decode cL_law 698 = .ok (.invokevirtual 87, 3) := by decide +kernel
theorem dL_law_701 : decode cL_law 701 = .ok (.aload_n 2, 1) := by decide +kernel
theorem dL_law_702 : decode cL_law 702 = .ok (.aload_n 0, 1) := by decide +kernel
theorem dL_law_703 : decode cL_law 703 = .ok (.iload_n 3, 1) := by decide +kernel
theorem dL_law_704 : decode cL_law 704 = .ok (.iconst 1, 1) := by decide +kernel
theorem dL_law_705 : decode cL_law 705 = .ok (.iadd, 1) := by decide +kernel
theorem dL_law_706 : decode cL_law 706 = .ok (.iaload, 1) := by decide +kernel
theorem dL_law_707 : decode cL_law 707 = .ok (.aload_n 0, 1) := by decide +kernel
theorem dL_law_708 : decode cL_law 708 = .ok (.iload_n 3, 1) := by decide +kernel
theorem dL_law_709 : decode cL_law 709 = .ok (.iconst 2, 1) := by decide +kernel
theorem dL_law_710 : decode cL_law 710 = .ok (.iadd, 1) := by decide +kernel
theorem dL_law_711 : decode cL_law 711 = .ok (.iaload, 1) := by decide +kernel
theorem dL_law_712 : decode cL_law 712 = .ok (.invokevirtual 90, 3) := by decide +kernel
theorem dL_law_715 : decode cL_law 715 = .ok (.if_icmp .eq 838, 3) := by decide +kernel
theorem dL_law_718 : decode cL_law 718 = .ok (.iconst 0, 1) := by decide +kernel
theorem dL_law_719 : decode cL_law 719 = .ok (.ireturn, 1) := by decide +kernel
theorem dL_law_720 : decode cL_law 720 = .ok (.aload_n 1, 1) := by decide +kernel
theorem dL_law_721 : decode cL_law 721 = .ok (.aload_n 0, 1) := by decide +kernel
theorem dL_law_722 : decode cL_law 722 = .ok (.iload_n 3, 1) := by decide +kernel
theorem dL_law_723 : decode cL_law 723 = .ok (.iconst 1, 1) := by decide +kernel
theorem dL_law_724 : decode cL_law 724 = .ok (.iadd, 1) := by decide +kernel
theorem dL_law_725 : decode cL_law 725 = .ok (.iaload, 1) := by decide +kernel
theorem dL_law_726 : decode cL_law 726 = .ok (.aload_n 0, 1) := by decide +kernel
theorem dL_law_727 : decode cL_law 727 = .ok (.iload_n 3, 1) := by decide +kernel
theorem dL_law_728 : decode cL_law 728 = .ok (.iconst 2, 1) := by decide +kernel
theorem dL_law_729 : decode cL_law 729 = .ok (.iadd, 1) := by decide +kernel
theorem dL_law_730 : decode cL_law 730 = .ok (.iaload, 1) := by decide +kernel
theorem dL_law_731 : decode cL_law 731 = .ok (.invokevirtual 91, 3) := by decide +kernel
theorem dL_law_734 : decode cL_law 734 = .ok (.aload_n 2, 1) := by decide +kernel
theorem dL_law_735 : decode cL_law 735 = .ok (.aload_n 0, 1) := by decide +kernel
theorem dL_law_736 : decode cL_law 736 = .ok (.iload_n 3, 1) := by decide +kernel
theorem dL_law_737 : decode cL_law 737 = .ok (.iconst 1, 1) := by decide +kernel
theorem dL_law_738 : decode cL_law 738 = .ok (.iadd, 1) := by decide +kernel
theorem dL_law_739 : decode cL_law 739 = .ok (.iaload, 1) := by decide +kernel
theorem dL_law_740 : decode cL_law 740 = .ok (.aload_n 0, 1) := by decide +kernel
theorem dL_law_741 : decode cL_law 741 = .ok (.iload_n 3, 1) := by decide +kernel
theorem dL_law_742 : decode cL_law 742 = .ok (.iconst 2, 1) := by decide +kernel
theorem dL_law_743 : decode cL_law 743 = .ok (.iadd, 1) := by decide +kernel
theorem dL_law_744 : decode cL_law 744 = .ok (.iaload, 1) := by decide +kernel
theorem dL_law_745 : decode cL_law 745 = .ok (.invokevirtual 94, 3) := by decide +kernel
theorem dL_law_748 : decode cL_law 748 = .ok (.if_icmp .eq 805, 3) := by decide +kernel
theorem dL_law_751 : decode cL_law 751 = .ok (.iconst 0, 1) := by decide +kernel
theorem dL_law_752 : decode cL_law 752 = .ok (.ireturn, 1) := by decide +kernel
theorem dL_law_753 : decode cL_law 753 = .ok (.aload_n 1, 1) := by decide +kernel
theorem dL_law_754 : decode cL_law 754 = .ok (.aload_n 0, 1) := by decide +kernel
theorem dL_law_755 : decode cL_law 755 = .ok (.iload_n 3, 1) := by decide +kernel
theorem dL_law_756 : decode cL_law 756 = .ok (.iconst 1, 1) := by decide +kernel
theorem dL_law_757 : decode cL_law 757 = .ok (.iadd, 1) := by decide +kernel
theorem dL_law_758 : decode cL_law 758 = .ok (.iaload, 1) := by decide +kernel
theorem dL_law_759 : decode cL_law 759 = .ok (.aload_n 0, 1) := by decide +kernel
theorem dL_law_760 : decode cL_law 760 = .ok (.iload_n 3, 1) := by decide +kernel
theorem dL_law_761 : decode cL_law 761 = .ok (.iconst 2, 1) := by decide +kernel
theorem dL_law_762 : decode cL_law 762 = .ok (.iadd, 1) := by decide +kernel
theorem dL_law_763 : decode cL_law 763 = .ok (.iaload, 1) := by decide +kernel
theorem dL_law_764 : decode cL_law 764 = .ok (.invokevirtual 95, 3) := by decide +kernel
theorem dL_law_767 : decode cL_law 767 = .ok (.aload_n 2, 1) := by decide +kernel
theorem dL_law_768 : decode cL_law 768 = .ok (.aload_n 0, 1) := by decide +kernel
theorem dL_law_769 : decode cL_law 769 = .ok (.iload_n 3, 1) := by decide +kernel
theorem dL_law_770 : decode cL_law 770 = .ok (.iconst 1, 1) := by decide +kernel
theorem dL_law_771 : decode cL_law 771 = .ok (.iadd, 1) := by decide +kernel
theorem dL_law_772 : decode cL_law 772 = .ok (.iaload, 1) := by decide +kernel
theorem dL_law_773 : decode cL_law 773 = .ok (.aload_n 0, 1) := by decide +kernel
theorem dL_law_774 : decode cL_law 774 = .ok (.iload_n 3, 1) := by decide +kernel
theorem dL_law_775 : decode cL_law 775 = .ok (.iconst 2, 1) := by decide +kernel
theorem dL_law_776 : decode cL_law 776 = .ok (.iadd, 1) := by decide +kernel
theorem dL_law_777 : decode cL_law 777 = .ok (.iaload, 1) := by decide +kernel
theorem dL_law_778 : decode cL_law 778 = .ok (.invokevirtual 98, 3) := by decide +kernel
theorem dL_law_781 : decode cL_law 781 = .ok (.if_icmp .eq 772, 3) := by decide +kernel
theorem dL_law_784 : decode cL_law 784 = .ok (.iconst 0, 1) := by decide +kernel
theorem dL_law_785 : decode cL_law 785 = .ok (.ireturn, 1) := by decide +kernel
theorem dL_law_786 : decode cL_law 786 = .ok (.aload_n 1, 1) := by decide +kernel
theorem dL_law_787 : decode cL_law 787 = .ok (.aload_n 0, 1) := by decide +kernel
theorem dL_law_788 : decode cL_law 788 = .ok (.iload_n 3, 1) := by decide +kernel
theorem dL_law_789 : decode cL_law 789 = .ok (.iconst 1, 1) := by decide +kernel
theorem dL_law_790 : decode cL_law 790 = .ok (.iadd, 1) := by decide +kernel
theorem dL_law_791 : decode cL_law 791 = .ok (.iaload, 1) := by decide +kernel
theorem dL_law_792 : decode cL_law 792 = .ok (.aload_n 0, 1) := by decide +kernel
theorem dL_law_793 : decode cL_law 793 = .ok (.iload_n 3, 1) := by decide +kernel
theorem dL_law_794 : decode cL_law 794 = .ok (.iconst 2, 1) := by decide +kernel
theorem dL_law_795 : decode cL_law 795 = .ok (.iadd, 1) := by decide +kernel
theorem dL_law_796 : decode cL_law 796 = .ok (.iaload, 1) := by decide +kernel
theorem dL_law_797 : decode cL_law 797 = .ok (.invokevirtual 99, 3) := by decide +kernel
theorem dL_law_800 : decode cL_law 800 = .ok (.aload_n 2, 1) := by decide +kernel
theorem dL_law_801 : decode cL_law 801 = .ok (.aload_n 0, 1) := by decide +kernel
theorem dL_law_802 : decode cL_law 802 = .ok (.iload_n 3, 1) := by decide +kernel
theorem dL_law_803 : decode cL_law 803 = .ok (.iconst 1, 1) := by decide +kernel
theorem dL_law_804 : decode cL_law 804 = .ok (.iadd, 1) := by decide +kernel
theorem dL_law_805 : decode cL_law 805 = .ok (.iaload, 1) := by decide +kernel
theorem dL_law_806 : decode cL_law 806 = .ok (.aload_n 0, 1) := by decide +kernel
theorem dL_law_807 : decode cL_law 807 = .ok (.iload_n 3, 1) := by decide +kernel
theorem dL_law_808 : decode cL_law 808 = .ok (.iconst 2, 1) := by decide +kernel
theorem dL_law_809 : decode cL_law 809 = .ok (.iadd, 1) := by decide +kernel
theorem dL_law_810 : decode cL_law 810 = .ok (.iaload, 1) := by decide +kernel
theorem dL_law_811 : decode cL_law 811 = .ok (.invokevirtual 102, 3) := by decide +kernel
theorem dL_law_814 : decode cL_law 814 = .ok (.if_icmp .eq 739, 3) := by decide +kernel
theorem dL_law_817 : decode cL_law 817 = .ok (.iconst 0, 1) := by decide +kernel
theorem dL_law_818 : decode cL_law 818 = .ok (.ireturn, 1) := by decide +kernel
theorem dL_law_819 : decode cL_law 819 = .ok (.aload_n 1, 1) := by decide +kernel
theorem dL_law_820 : decode cL_law 820 = .ok (.aload_n 0, 1) := by decide +kernel
theorem dL_law_821 : decode cL_law 821 = .ok (.iload_n 3, 1) := by decide +kernel
theorem dL_law_822 : decode cL_law 822 = .ok (.iconst 1, 1) := by decide +kernel
theorem dL_law_823 : decode cL_law 823 = .ok (.iadd, 1) := by decide +kernel
theorem dL_law_824 : decode cL_law 824 = .ok (.iaload, 1) := by decide +kernel
theorem dL_law_825 : decode cL_law 825 = .ok (.aload_n 0, 1) := by decide +kernel
theorem dL_law_826 : decode cL_law 826 = .ok (.iload_n 3, 1) := by decide +kernel
theorem dL_law_827 : decode cL_law 827 = .ok (.iconst 2, 1) := by decide +kernel
theorem dL_law_828 : decode cL_law 828 = .ok (.iadd, 1) := by decide +kernel
theorem dL_law_829 : decode cL_law 829 = .ok (.iaload, 1) := by decide +kernel
theorem dL_law_830 : decode cL_law 830 = .ok (.invokevirtual 103, 3) := by decide +kernel
theorem dL_law_833 : decode cL_law 833 = .ok (.aload_n 2, 1) := by decide +kernel
theorem dL_law_834 : decode cL_law 834 = .ok (.aload_n 0, 1) := by decide +kernel
theorem dL_law_835 : decode cL_law 835 = .ok (.iload_n 3, 1) := by decide +kernel
theorem dL_law_836 : decode cL_law 836 = .ok (.iconst 1, 1) := by decide +kernel
theorem dL_law_837 : decode cL_law 837 = .ok (.iadd, 1) := by decide +kernel
theorem dL_law_838 : decode cL_law 838 = .ok (.iaload, 1) := by decide +kernel
theorem dL_law_839 : decode cL_law 839 = .ok (.aload_n 0, 1) := by decide +kernel
theorem dL_law_840 : decode cL_law 840 = .ok (.iload_n 3, 1) := by decide +kernel
theorem dL_law_841 : decode cL_law 841 = .ok (.iconst 2, 1) := by decide +kernel
theorem dL_law_842 : decode cL_law 842 = .ok (.iadd, 1) := by decide +kernel
theorem dL_law_843 : decode cL_law 843 = .ok (.iaload, 1) := by decide +kernel
theorem dL_law_844 : decode cL_law 844 = .ok (.invokevirtual 106, 3) := by decide +kernel
theorem dL_law_847 : decode cL_law 847 = .ok (.if_icmp .eq 706, 3) := by decide +kernel
theorem dL_law_850 : decode cL_law 850 = .ok (.iconst 0, 1) := by decide +kernel
theorem dL_law_851 : decode cL_law 851 = .ok (.ireturn, 1) := by decide +kernel
theorem dL_law_852 : decode cL_law 852 = .ok (.aload_n 1, 1) := by decide +kernel
theorem dL_law_853 : decode cL_law 853 = .ok (.aload_n 0, 1) := by decide +kernel
theorem dL_law_854 : decode cL_law 854 = .ok (.iload_n 3, 1) := by decide +kernel
theorem dL_law_855 : decode cL_law 855 = .ok (.iconst 1, 1) := by decide +kernel
theorem dL_law_856 : decode cL_law 856 = .ok (.iadd, 1) := by decide +kernel
theorem dL_law_857 : decode cL_law 857 = .ok (.iaload, 1) := by decide +kernel
theorem dL_law_858 : decode cL_law 858 = .ok (.invokevirtual 107, 3) := by decide +kernel
theorem dL_law_861 : decode cL_law 861 = .ok (.aload_n 2, 1) := by decide +kernel
theorem dL_law_862 : decode cL_law 862 = .ok (.aload_n 0, 1) := by decide +kernel
theorem dL_law_863 : decode cL_law 863 = .ok (.iload_n 3, 1) := by decide +kernel
theorem dL_law_864 : decode cL_law 864 = .ok (.iconst 1, 1) := by decide +kernel
theorem dL_law_865 : decode cL_law 865 = .ok (.iadd, 1) := by decide +kernel
theorem dL_law_866 : decode cL_law 866 = .ok (.iaload, 1) := by decide +kernel
theorem dL_law_867 : decode cL_law 867 = .ok (.invokevirtual 110, 3) := by decide +kernel
theorem dL_law_870 : decode cL_law 870 = .ok (.if_icmp .eq 683, 3) := by decide +kernel
theorem dL_law_873 : decode cL_law 873 = .ok (.iconst 0, 1) := by decide +kernel
theorem dL_law_874 : decode cL_law 874 = .ok (.ireturn, 1) := by decide +kernel
theorem dL_law_875 : decode cL_law 875 = .ok (.aload_n 1, 1) := by decide +kernel
theorem dL_law_876 : decode cL_law 876 = .ok (.aload_n 0, 1) := by decide +kernel
theorem dL_law_877 : decode cL_law 877 = .ok (.iload_n 3, 1) := by decide +kernel
theorem dL_law_878 : decode cL_law 878 = .ok (.iconst 1, 1) := by decide +kernel
theorem dL_law_879 : decode cL_law 879 = .ok (.iadd, 1) := by decide +kernel
theorem dL_law_880 : decode cL_law 880 = .ok (.iaload, 1) := by decide +kernel
theorem dL_law_881 : decode cL_law 881 = .ok (.aload_n 0, 1) := by decide +kernel
theorem dL_law_882 : decode cL_law 882 = .ok (.iload_n 3, 1) := by decide +kernel
theorem dL_law_883 : decode cL_law 883 = .ok (.iconst 2, 1) := by decide +kernel
theorem dL_law_884 : decode cL_law 884 = .ok (.iadd, 1) := by decide +kernel
theorem dL_law_885 : decode cL_law 885 = .ok (.iaload, 1) := by decide +kernel
theorem dL_law_886 : decode cL_law 886 = .ok (.invokevirtual 111, 3) := by decide +kernel
theorem dL_law_889 : decode cL_law 889 = .ok (.aload_n 2, 1) := by decide +kernel
theorem dL_law_890 : decode cL_law 890 = .ok (.aload_n 0, 1) := by decide +kernel
theorem dL_law_891 : decode cL_law 891 = .ok (.iload_n 3, 1) := by decide +kernel
theorem dL_law_892 : decode cL_law 892 = .ok (.iconst 1, 1) := by decide +kernel
theorem dL_law_893 : decode cL_law 893 = .ok (.iadd, 1) := by decide +kernel
theorem dL_law_894 : decode cL_law 894 = .ok (.iaload, 1) := by decide +kernel
theorem dL_law_895 : decode cL_law 895 = .ok (.aload_n 0, 1) := by decide +kernel
theorem dL_law_896 : decode cL_law 896 = .ok (.iload_n 3, 1) := by decide +kernel
theorem dL_law_897 : decode cL_law 897 = .ok (.iconst 2, 1) := by decide +kernel
theorem dL_law_898 : decode cL_law 898 = .ok (.iadd, 1) := by decide +kernel
theorem dL_law_899 : decode cL_law 899 = .ok (.iaload, 1) := by decide +kernel
theorem dL_law_900 : decode cL_law 900 = .ok (.invokevirtual 114, 3) := by decide +kernel
theorem dL_law_903 : decode cL_law 903 = .ok (.if_icmp .eq 650, 3) := by decide +kernel
theorem dL_law_906 : decode cL_law 906 = .ok (.iconst 0, 1) := by decide +kernel
theorem dL_law_907 : decode cL_law 907 = .ok (.ireturn, 1) := by decide +kernel
theorem dL_law_908 : decode cL_law 908 = .ok (.aload_n 1, 1) := by decide +kernel
theorem dL_law_909 : decode cL_law 909 = .ok (.aload_n 0, 1) := by decide +kernel
theorem dL_law_910 : decode cL_law 910 = .ok (.iload_n 3, 1) := by decide +kernel
theorem dL_law_911 : decode cL_law 911 = .ok (.iconst 1, 1) := by decide +kernel
theorem dL_law_912 : decode cL_law 912 = .ok (.iadd, 1) := by decide +kernel
theorem dL_law_913 : decode cL_law 913 = .ok (.iaload, 1) := by decide +kernel
theorem dL_law_914 : decode cL_law 914 = .ok (.aload_n 0, 1) := by decide +kernel
theorem dL_law_915 : decode cL_law 915 = .ok (.iload_n 3, 1) := by decide +kernel
theorem dL_law_916 : decode cL_law 916 = .ok (.iconst 2, 1) := by decide +kernel
theorem dL_law_917 : decode cL_law 917 = .ok (.iadd, 1) := by decide +kernel
theorem dL_law_918 : decode cL_law 918 = .ok (.iaload, 1) := by decide +kernel
theorem dL_law_919 : decode cL_law 919 = .ok (.invokevirtual 115, 3) := by decide +kernel
theorem dL_law_922 : decode cL_law 922 = .ok (.aload_n 2, 1) := by decide +kernel
theorem dL_law_923 : decode cL_law 923 = .ok (.aload_n 0, 1) := by decide +kernel
theorem dL_law_924 : decode cL_law 924 = .ok (.iload_n 3, 1) := by decide +kernel
theorem dL_law_925 : decode cL_law 925 = .ok (.iconst 1, 1) := by decide +kernel
theorem dL_law_926 : decode cL_law 926 = .ok (.iadd, 1) := by decide +kernel
theorem dL_law_927 : decode cL_law 927 = .ok (.iaload, 1) := by decide +kernel
theorem dL_law_928 : decode cL_law 928 = .ok (.aload_n 0, 1) := by decide +kernel
theorem dL_law_929 : decode cL_law 929 = .ok (.iload_n 3, 1) := by decide +kernel
theorem dL_law_930 : decode cL_law 930 = .ok (.iconst 2, 1) := by decide +kernel
theorem dL_law_931 : decode cL_law 931 = .ok (.iadd, 1) := by decide +kernel
theorem dL_law_932 : decode cL_law 932 = .ok (.iaload, 1) := by decide +kernel
theorem dL_law_933 : decode cL_law 933 = .ok (.invokevirtual 118, 3) := by decide +kernel
theorem dL_law_936 : decode cL_law 936 = .ok (.if_icmp .eq 617, 3) := by decide +kernel
theorem dL_law_939 : decode cL_law 939 = .ok (.iconst 0, 1) := by decide +kernel
theorem dL_law_940 : decode cL_law 940 = .ok (.ireturn, 1) := by decide +kernel
theorem dL_law_941 : decode cL_law 941 = .ok (.aload_n 1, 1) := by decide +kernel
theorem dL_law_942 : decode cL_law 942 = .ok (.aload_n 0, 1) := by decide +kernel
theorem dL_law_943 : decode cL_law 943 = .ok (.iload_n 3, 1) := by decide +kernel
theorem dL_law_944 : decode cL_law 944 = .ok (.iconst 1, 1) := by decide +kernel
theorem dL_law_945 : decode cL_law 945 = .ok (.iadd, 1) := by decide +kernel
theorem dL_law_946 : decode cL_law 946 = .ok (.iaload, 1) := by decide +kernel
theorem dL_law_947 : decode cL_law 947 = .ok (.aload_n 0, 1) := by decide +kernel
theorem dL_law_948 : decode cL_law 948 = .ok (.iload_n 3, 1) := by decide +kernel
theorem dL_law_949 : decode cL_law 949 = .ok (.iconst 2, 1) := by decide +kernel
theorem dL_law_950 : decode cL_law 950 = .ok (.iadd, 1) := by decide +kernel
theorem dL_law_951 : decode cL_law 951 = .ok (.iaload, 1) := by decide +kernel
theorem dL_law_952 : decode cL_law 952 = .ok (.invokevirtual 119, 3) := by decide +kernel
theorem dL_law_955 : decode cL_law 955 = .ok (.aload_n 2, 1) := by decide +kernel
theorem dL_law_956 : decode cL_law 956 = .ok (.aload_n 0, 1) := by decide +kernel
theorem dL_law_957 : decode cL_law 957 = .ok (.iload_n 3, 1) := by decide +kernel
theorem dL_law_958 : decode cL_law 958 = .ok (.iconst 1, 1) := by decide +kernel
theorem dL_law_959 : decode cL_law 959 = .ok (.iadd, 1) := by decide +kernel
theorem dL_law_960 : decode cL_law 960 = .ok (.iaload, 1) := by decide +kernel
theorem dL_law_961 : decode cL_law 961 = .ok (.aload_n 0, 1) := by decide +kernel
theorem dL_law_962 : decode cL_law 962 = .ok (.iload_n 3, 1) := by decide +kernel
theorem dL_law_963 : decode cL_law 963 = .ok (.iconst 2, 1) := by decide +kernel
theorem dL_law_964 : decode cL_law 964 = .ok (.iadd, 1) := by decide +kernel
theorem dL_law_965 : decode cL_law 965 = .ok (.iaload, 1) := by decide +kernel
theorem dL_law_966 : decode cL_law 966 = .ok (.invokevirtual 122, 3) := by decide +kernel
theorem dL_law_969 : decode cL_law 969 = .ok (.if_icmp .eq 584, 3) := by decide +kernel
theorem dL_law_972 : decode cL_law 972 = .ok (.iconst 0, 1) := by decide +kernel
theorem dL_law_973 : decode cL_law 973 = .ok (.ireturn, 1) := by decide +kernel
theorem dL_law_974 : decode cL_law 974 = .ok (.aload_n 1, 1) := by decide +kernel
theorem dL_law_975 : decode cL_law 975 = .ok (.aload_n 0, 1) := by decide +kernel
theorem dL_law_976 : decode cL_law 976 = .ok (.iload_n 3, 1) := by decide +kernel
theorem dL_law_977 : decode cL_law 977 = .ok (.iconst 1, 1) := by decide +kernel
theorem dL_law_978 : decode cL_law 978 = .ok (.iadd, 1) := by decide +kernel
theorem dL_law_979 : decode cL_law 979 = .ok (.iaload, 1) := by decide +kernel
theorem dL_law_980 : decode cL_law 980 = .ok (.invokevirtual 123, 3) := by decide +kernel
theorem dL_law_983 : decode cL_law 983 = .ok (.aload_n 2, 1) := by decide +kernel
theorem dL_law_984 : decode cL_law 984 = .ok (.aload_n 0, 1) := by decide +kernel
theorem dL_law_985 : decode cL_law 985 = .ok (.iload_n 3, 1) := by decide +kernel
theorem dL_law_986 : decode cL_law 986 = .ok (.iconst 1, 1) := by decide +kernel
theorem dL_law_987 : decode cL_law 987 = .ok (.iadd, 1) := by decide +kernel
theorem dL_law_988 : decode cL_law 988 = .ok (.iaload, 1) := by decide +kernel
theorem dL_law_989 : decode cL_law 989 = .ok (.invokevirtual 126, 3) := by decide +kernel
theorem dL_law_992 : decode cL_law 992 = .ok (.if_icmp .eq 561, 3) := by decide +kernel
theorem dL_law_995 : decode cL_law 995 = .ok (.iconst 0, 1) := by decide +kernel
theorem dL_law_996 : decode cL_law 996 = .ok (.ireturn, 1) := by decide +kernel
theorem dL_law_997 : decode cL_law 997 = .ok (.aload_n 1, 1) := by decide +kernel
theorem dL_law_998 : decode cL_law 998 = .ok (.aload_n 0, 1) := by decide +kernel
theorem dL_law_999 : decode cL_law 999 = .ok (.iload_n 3, 1) := by decide +kernel
theorem dL_law_1000 : decode cL_law 1000 = .ok (.iconst 1, 1) := by decide +kernel
theorem dL_law_1001 : decode cL_law 1001 = .ok (.iadd, 1) := by decide +kernel
theorem dL_law_1002 : decode cL_law 1002 = .ok (.iaload, 1) := by decide +kernel
theorem dL_law_1003 : decode cL_law 1003 = .ok (.invokevirtual 127, 3) := by decide +kernel
theorem dL_law_1006 : decode cL_law 1006 = .ok (.aload_n 2, 1) := by decide +kernel
theorem dL_law_1007 : decode cL_law 1007 = .ok (.aload_n 0, 1) := by decide +kernel
theorem dL_law_1008 : decode cL_law 1008 = .ok (.iload_n 3, 1) := by decide +kernel
theorem dL_law_1009 : decode cL_law 1009 = .ok (.iconst 1, 1) := by decide +kernel
theorem dL_law_1010 : decode cL_law 1010 = .ok (.iadd, 1) := by decide +kernel
theorem dL_law_1011 : decode cL_law 1011 = .ok (.iaload, 1) := by decide +kernel
theorem dL_law_1012 : decode cL_law 1012 = .ok (.invokevirtual 130, 3) := by decide +kernel
theorem dL_law_1015 : decode cL_law 1015 = .ok (.if_icmp .eq 538, 3) := by decide +kernel
theorem dL_law_1018 : decode cL_law 1018 = .ok (.iconst 0, 1) := by decide +kernel
theorem dL_law_1019 : decode cL_law 1019 = .ok (.ireturn, 1) := by decide +kernel
theorem dL_law_1020 : decode cL_law 1020 = .ok (.aload_n 1, 1) := by decide +kernel
theorem dL_law_1021 : decode cL_law 1021 = .ok (.aload_n 0, 1) := by decide +kernel
theorem dL_law_1022 : decode cL_law 1022 = .ok (.iload_n 3, 1) := by decide +kernel
theorem dL_law_1023 : decode cL_law 1023 = .ok (.iconst 1, 1) := by decide +kernel
theorem dL_law_1024 : decode cL_law 1024 = .ok (.iadd, 1) := by decide +kernel
theorem dL_law_1025 : decode cL_law 1025 = .ok (.iaload, 1) := by decide +kernel
theorem dL_law_1026 : decode cL_law 1026 = .ok (.invokevirtual 131, 3) := by decide +kernel
theorem dL_law_1029 : decode cL_law 1029 = .ok (.aload_n 2, 1) := by decide +kernel
theorem dL_law_1030 : decode cL_law 1030 = .ok (.aload_n 0, 1) := by decide +kernel
theorem dL_law_1031 : decode cL_law 1031 = .ok (.iload_n 3, 1) := by decide +kernel
theorem dL_law_1032 : decode cL_law 1032 = .ok (.iconst 1, 1) := by decide +kernel
theorem dL_law_1033 : decode cL_law 1033 = .ok (.iadd, 1) := by decide +kernel
theorem dL_law_1034 : decode cL_law 1034 = .ok (.iaload, 1) := by decide +kernel
theorem dL_law_1035 : decode cL_law 1035 = .ok (.invokevirtual 134, 3) := by decide +kernel
theorem dL_law_1038 : decode cL_law 1038 = .ok (.if_icmp .eq 515, 3) := by decide +kernel
theorem dL_law_1041 : decode cL_law 1041 = .ok (.iconst 0, 1) := by decide +kernel
theorem dL_law_1042 : decode cL_law 1042 = .ok (.ireturn, 1) := by decide +kernel
theorem dL_law_1043 : decode cL_law 1043 = .ok (.aload_n 1, 1) := by decide +kernel
theorem dL_law_1044 : decode cL_law 1044 = .ok (.aload_n 0, 1) := by decide +kernel
theorem dL_law_1045 : decode cL_law 1045 = .ok (.iload_n 3, 1) := by decide +kernel
theorem dL_law_1046 : decode cL_law 1046 = .ok (.iconst 1, 1) := by decide +kernel
theorem dL_law_1047 : decode cL_law 1047 = .ok (.iadd, 1) := by decide +kernel
theorem dL_law_1048 : decode cL_law 1048 = .ok (.iaload, 1) := by decide +kernel
theorem dL_law_1049 : decode cL_law 1049 = .ok (.invokevirtual 135, 3) := by decide +kernel
theorem dL_law_1052 : decode cL_law 1052 = .ok (.aload_n 2, 1) := by decide +kernel
theorem dL_law_1053 : decode cL_law 1053 = .ok (.aload_n 0, 1) := by decide +kernel
theorem dL_law_1054 : decode cL_law 1054 = .ok (.iload_n 3, 1) := by decide +kernel
theorem dL_law_1055 : decode cL_law 1055 = .ok (.iconst 1, 1) := by decide +kernel
theorem dL_law_1056 : decode cL_law 1056 = .ok (.iadd, 1) := by decide +kernel
theorem dL_law_1057 : decode cL_law 1057 = .ok (.iaload, 1) := by decide +kernel
theorem dL_law_1058 : decode cL_law 1058 = .ok (.invokevirtual 138, 3) := by decide +kernel
theorem dL_law_1061 : decode cL_law 1061 = .ok (.if_icmp .eq 492, 3) := by decide +kernel
theorem dL_law_1064 : decode cL_law 1064 = .ok (.iconst 0, 1) := by decide +kernel
theorem dL_law_1065 : decode cL_law 1065 = .ok (.ireturn, 1) := by decide +kernel
theorem dL_law_1066 : decode cL_law 1066 = .ok (.aload_n 1, 1) := by decide +kernel
theorem dL_law_1067 : decode cL_law 1067 = .ok (.aload_n 0, 1) := by decide +kernel
theorem dL_law_1068 : decode cL_law 1068 = .ok (.iload_n 3, 1) := by decide +kernel
theorem dL_law_1069 : decode cL_law 1069 = .ok (.iconst 1, 1) := by decide +kernel
theorem dL_law_1070 : decode cL_law 1070 = .ok (.iadd, 1) := by decide +kernel
theorem dL_law_1071 : decode cL_law 1071 = .ok (.iaload, 1) := by decide +kernel
theorem dL_law_1072 : decode cL_law 1072 = .ok (.invokevirtual 139, 3) := by decide +kernel
theorem dL_law_1075 : decode cL_law 1075 = .ok (.aload_n 2, 1) := by decide +kernel
theorem dL_law_1076 : decode cL_law 1076 = .ok (.aload_n 0, 1) := by decide +kernel
theorem dL_law_1077 : decode cL_law 1077 = .ok (.iload_n 3, 1) := by decide +kernel
theorem dL_law_1078 : decode cL_law 1078 = .ok (.iconst 1, 1) := by decide +kernel
theorem dL_law_1079 : decode cL_law 1079 = .ok (.iadd, 1) := by decide +kernel
theorem dL_law_1080 : decode cL_law 1080 = .ok (.iaload, 1) := by decide +kernel
theorem dL_law_1081 : decode cL_law 1081 = .ok (.invokevirtual 142, 3) := by decide +kernel
theorem dL_law_1084 : decode cL_law 1084 = .ok (.if_icmp .eq 469, 3) := by decide +kernel
theorem dL_law_1087 : decode cL_law 1087 = .ok (.iconst 0, 1) := by decide +kernel
theorem dL_law_1088 : decode cL_law 1088 = .ok (.ireturn, 1) := by decide +kernel
theorem dL_law_1089 : decode cL_law 1089 = .ok (.aload_n 1, 1) := by decide +kernel
theorem dL_law_1090 : decode cL_law 1090 = .ok (.aload_n 0, 1) := by decide +kernel
theorem dL_law_1091 : decode cL_law 1091 = .ok (.iload_n 3, 1) := by decide +kernel
theorem dL_law_1092 : decode cL_law 1092 = .ok (.iconst 1, 1) := by decide +kernel
theorem dL_law_1093 : decode cL_law 1093 = .ok (.iadd, 1) := by decide +kernel
theorem dL_law_1094 : decode cL_law 1094 = .ok (.iaload, 1) := by decide +kernel
theorem dL_law_1095 : decode cL_law 1095 = .ok (.invokevirtual 143, 3) := by decide +kernel
theorem dL_law_1098 : decode cL_law 1098 = .ok (.aload_n 2, 1) := by decide +kernel
theorem dL_law_1099 : decode cL_law 1099 = .ok (.aload_n 0, 1) := by decide +kernel
theorem dL_law_1100 : decode cL_law 1100 = .ok (.iload_n 3, 1) := by decide +kernel
theorem dL_law_1101 : decode cL_law 1101 = .ok (.iconst 1, 1) := by decide +kernel
theorem dL_law_1102 : decode cL_law 1102 = .ok (.iadd, 1) := by decide +kernel
theorem dL_law_1103 : decode cL_law 1103 = .ok (.iaload, 1) := by decide +kernel
theorem dL_law_1104 : decode cL_law 1104 = .ok (.invokevirtual 146, 3) := by decide +kernel
theorem dL_law_1107 : decode cL_law 1107 = .ok (.if_icmp .eq 446, 3) := by decide +kernel
theorem dL_law_1110 : decode cL_law 1110 = .ok (.iconst 0, 1) := by decide +kernel
theorem dL_law_1111 : decode cL_law 1111 = .ok (.ireturn, 1) := by decide +kernel
theorem dL_law_1112 : decode cL_law 1112 = .ok (.aload_n 1, 1) := by decide +kernel
theorem dL_law_1113 : decode cL_law 1113 = .ok (.invokevirtual 147, 3) := by decide +kernel
theorem dL_law_1116 : decode cL_law 1116 = .ok (.aload_n 2, 1) := by decide +kernel
theorem dL_law_1117 : decode cL_law 1117 = .ok (.invokevirtual 150, 3) := by decide +kernel
theorem dL_law_1120 : decode cL_law 1120 = .ok (.if_icmp .eq 433, 3) := by decide +kernel
theorem dL_law_1123 : decode cL_law 1123 = .ok (.iconst 0, 1) := by decide +kernel
theorem dL_law_1124 : decode cL_law 1124 = .ok (.ireturn, 1) := by decide +kernel
theorem dL_law_1125 : decode cL_law 1125 = .ok (.aload_n 1, 1) := by decide +kernel
theorem dL_law_1126 : decode cL_law 1126 = .ok (.aload_n 0, 1) := by decide +kernel
theorem dL_law_1127 : decode cL_law 1127 = .ok (.iload_n 3, 1) := by decide +kernel
theorem dL_law_1128 : decode cL_law 1128 = .ok (.iconst 1, 1) := by decide +kernel
theorem dL_law_1129 : decode cL_law 1129 = .ok (.iadd, 1) := by decide +kernel
theorem dL_law_1130 : decode cL_law 1130 = .ok (.iaload, 1) := by decide +kernel
theorem dL_law_1131 : decode cL_law 1131 = .ok (.aload_n 0, 1) := by decide +kernel
theorem dL_law_1132 : decode cL_law 1132 = .ok (.iload_n 3, 1) := by decide +kernel
theorem dL_law_1133 : decode cL_law 1133 = .ok (.iconst 2, 1) := by decide +kernel
theorem dL_law_1134 : decode cL_law 1134 = .ok (.iadd, 1) := by decide +kernel
theorem dL_law_1135 : decode cL_law 1135 = .ok (.iaload, 1) := by decide +kernel
theorem dL_law_1136 : decode cL_law 1136 = .ok (.invokevirtual 151, 3) := by decide +kernel
theorem dL_law_1139 : decode cL_law 1139 = .ok (.aload_n 2, 1) := by decide +kernel
theorem dL_law_1140 : decode cL_law 1140 = .ok (.aload_n 0, 1) := by decide +kernel
theorem dL_law_1141 : decode cL_law 1141 = .ok (.iload_n 3, 1) := by decide +kernel
theorem dL_law_1142 : decode cL_law 1142 = .ok (.iconst 1, 1) := by decide +kernel
theorem dL_law_1143 : decode cL_law 1143 = .ok (.iadd, 1) := by decide +kernel
theorem dL_law_1144 : decode cL_law 1144 = .ok (.iaload, 1) := by decide +kernel
theorem dL_law_1145 : decode cL_law 1145 = .ok (.aload_n 0, 1) := by decide +kernel
theorem dL_law_1146 : decode cL_law 1146 = .ok (.iload_n 3, 1) := by decide +kernel
theorem dL_law_1147 : decode cL_law 1147 = .ok (.iconst 2, 1) := by decide +kernel
theorem dL_law_1148 : decode cL_law 1148 = .ok (.iadd, 1) := by decide +kernel
theorem dL_law_1149 : decode cL_law 1149 = .ok (.iaload, 1) := by decide +kernel
theorem dL_law_1150 : decode cL_law 1150 = .ok (.invokevirtual 154, 3) := by decide +kernel
theorem dL_law_1153 : decode cL_law 1153 = .ok (.if_icmp .eq 400, 3) := by decide +kernel
theorem dL_law_1156 : decode cL_law 1156 = .ok (.iconst 0, 1) := by decide +kernel
theorem dL_law_1157 : decode cL_law 1157 = .ok (.ireturn, 1) := by decide +kernel
theorem dL_law_1158 : decode cL_law 1158 = .ok (.aload_n 1, 1) := by decide +kernel
theorem dL_law_1159 : decode cL_law 1159 = .ok (.invokevirtual 155, 3) := by decide +kernel
theorem dL_law_1162 : decode cL_law 1162 = .ok (.aload_n 2, 1) := by decide +kernel
theorem dL_law_1163 : decode cL_law 1163 = .ok (.invokevirtual 158, 3) := by decide +kernel
theorem dL_law_1166 : decode cL_law 1166 = .ok (.if_icmp .eq 387, 3) := by decide +kernel
theorem dL_law_1169 : decode cL_law 1169 = .ok (.iconst 0, 1) := by decide +kernel
theorem dL_law_1170 : decode cL_law 1170 = .ok (.ireturn, 1) := by decide +kernel
theorem dL_law_1171 : decode cL_law 1171 = .ok (.aload_n 1, 1) := by decide +kernel
theorem dL_law_1172 : decode cL_law 1172 = .ok (.aload_n 0, 1) := by decide +kernel
theorem dL_law_1173 : decode cL_law 1173 = .ok (.iload_n 3, 1) := by decide +kernel
theorem dL_law_1174 : decode cL_law 1174 = .ok (.iconst 1, 1) := by decide +kernel
theorem dL_law_1175 : decode cL_law 1175 = .ok (.iadd, 1) := by decide +kernel
theorem dL_law_1176 : decode cL_law 1176 = .ok (.iaload, 1) := by decide +kernel
theorem dL_law_1177 : decode cL_law 1177 = .ok (.invokevirtual 159, 3) := by decide +kernel
theorem dL_law_1180 : decode cL_law 1180 = .ok (.aload_n 2, 1) := by decide +kernel
theorem dL_law_1181 : decode cL_law 1181 = .ok (.aload_n 0, 1) := by decide +kernel
theorem dL_law_1182 : decode cL_law 1182 = .ok (.iload_n 3, 1) := by decide +kernel
theorem dL_law_1183 : decode cL_law 1183 = .ok (.iconst 1, 1) := by decide +kernel
theorem dL_law_1184 : decode cL_law 1184 = .ok (.iadd, 1) := by decide +kernel
theorem dL_law_1185 : decode cL_law 1185 = .ok (.iaload, 1) := by decide +kernel
theorem dL_law_1186 : decode cL_law 1186 = .ok (.invokevirtual 162, 3) := by decide +kernel
theorem dL_law_1189 : decode cL_law 1189 = .ok (.if_icmp .eq 364, 3) := by decide +kernel
theorem dL_law_1192 : decode cL_law 1192 = .ok (.iconst 0, 1) := by decide +kernel
theorem dL_law_1193 : decode cL_law 1193 = .ok (.ireturn, 1) := by decide +kernel
theorem dL_law_1194 : decode cL_law 1194 = .ok (.aload_n 1, 1) := by decide +kernel
theorem dL_law_1195 : decode cL_law 1195 = .ok (.aload_n 0, 1) := by decide +kernel
theorem dL_law_1196 : decode cL_law 1196 = .ok (.iload_n 3, 1) := by decide +kernel
theorem dL_law_1197 : decode cL_law 1197 = .ok (.iconst 1, 1) := by decide +kernel
theorem dL_law_1198 : decode cL_law 1198 = .ok (.iadd, 1) := by decide +kernel
theorem dL_law_1199 : decode cL_law 1199 = .ok (.iaload, 1) := by decide +kernel
theorem dL_law_1200 : decode cL_law 1200 = .ok (.aload_n 0, 1) := by decide +kernel
theorem dL_law_1201 : decode cL_law 1201 = .ok (.iload_n 3, 1) := by decide +kernel
theorem dL_law_1202 : decode cL_law 1202 = .ok (.iconst 2, 1) := by decide +kernel
theorem dL_law_1203 : decode cL_law 1203 = .ok (.iadd, 1) := by decide +kernel
theorem dL_law_1204 : decode cL_law 1204 = .ok (.iaload, 1) := by decide +kernel
theorem dL_law_1205 : decode cL_law 1205 = .ok (.invokevirtual 163, 3) := by decide +kernel
theorem dL_law_1208 : decode cL_law 1208 = .ok (.aload_n 2, 1) := by decide +kernel
theorem dL_law_1209 : decode cL_law 1209 = .ok (.aload_n 0, 1) := by decide +kernel
theorem dL_law_1210 : decode cL_law 1210 = .ok (.iload_n 3, 1) := by decide +kernel
theorem dL_law_1211 : decode cL_law 1211 = .ok (.iconst 1, 1) := by decide +kernel
theorem dL_law_1212 : decode cL_law 1212 = .ok (.iadd, 1) := by decide +kernel
theorem dL_law_1213 : decode cL_law 1213 = .ok (.iaload, 1) := by decide +kernel
theorem dL_law_1214 : decode cL_law 1214 = .ok (.aload_n 0, 1) := by decide +kernel
theorem dL_law_1215 : decode cL_law 1215 = .ok (.iload_n 3, 1) := by decide +kernel
theorem dL_law_1216 : decode cL_law 1216 = .ok (.iconst 2, 1) := by decide +kernel
theorem dL_law_1217 : decode cL_law 1217 = .ok (.iadd, 1) := by decide +kernel
theorem dL_law_1218 : decode cL_law 1218 = .ok (.iaload, 1) := by decide +kernel
theorem dL_law_1219 : decode cL_law 1219 = .ok (.invokevirtual 166, 3) := by decide +kernel
theorem dL_law_1222 : decode cL_law 1222 = .ok (.if_icmp .eq 331, 3) := by decide +kernel
theorem dL_law_1225 : decode cL_law 1225 = .ok (.iconst 0, 1) := by decide +kernel
theorem dL_law_1226 : decode cL_law 1226 = .ok (.ireturn, 1) := by decide +kernel
theorem dL_law_1227 : decode cL_law 1227 = .ok (.aload_n 1, 1) := by decide +kernel
theorem dL_law_1228 : decode cL_law 1228 = .ok (.aload_n 0, 1) := by decide +kernel
theorem dL_law_1229 : decode cL_law 1229 = .ok (.iload_n 3, 1) := by decide +kernel
theorem dL_law_1230 : decode cL_law 1230 = .ok (.iconst 1, 1) := by decide +kernel
theorem dL_law_1231 : decode cL_law 1231 = .ok (.iadd, 1) := by decide +kernel
theorem dL_law_1232 : decode cL_law 1232 = .ok (.iaload, 1) := by decide +kernel
theorem dL_law_1233 : decode cL_law 1233 = .ok (.invokevirtual 167, 3) := by decide +kernel
theorem dL_law_1236 : decode cL_law 1236 = .ok (.aload_n 2, 1) := by decide +kernel
theorem dL_law_1237 : decode cL_law 1237 = .ok (.aload_n 0, 1) := by decide +kernel
theorem dL_law_1238 : decode cL_law 1238 = .ok (.iload_n 3, 1) := by decide +kernel
theorem dL_law_1239 : decode cL_law 1239 = .ok (.iconst 1, 1) := by decide +kernel
theorem dL_law_1240 : decode cL_law 1240 = .ok (.iadd, 1) := by decide +kernel
theorem dL_law_1241 : decode cL_law 1241 = .ok (.iaload, 1) := by decide +kernel
theorem dL_law_1242 : decode cL_law 1242 = .ok (.invokevirtual 170, 3) := by decide +kernel
theorem dL_law_1245 : decode cL_law 1245 = .ok (.if_icmp .eq 308, 3) := by decide +kernel
theorem dL_law_1248 : decode cL_law 1248 = .ok (.iconst 0, 1) := by decide +kernel
theorem dL_law_1249 : decode cL_law 1249 = .ok (.ireturn, 1) := by decide +kernel
theorem dL_law_1250 : decode cL_law 1250 = .ok (.aload_n 1, 1) := by decide +kernel
theorem dL_law_1251 : decode cL_law 1251 = .ok (.aload_n 0, 1) := by decide +kernel
theorem dL_law_1252 : decode cL_law 1252 = .ok (.iload_n 3, 1) := by decide +kernel
theorem dL_law_1253 : decode cL_law 1253 = .ok (.iconst 1, 1) := by decide +kernel
theorem dL_law_1254 : decode cL_law 1254 = .ok (.iadd, 1) := by decide +kernel
theorem dL_law_1255 : decode cL_law 1255 = .ok (.iaload, 1) := by decide +kernel
theorem dL_law_1256 : decode cL_law 1256 = .ok (.aload_n 0, 1) := by decide +kernel
theorem dL_law_1257 : decode cL_law 1257 = .ok (.iload_n 3, 1) := by decide +kernel
theorem dL_law_1258 : decode cL_law 1258 = .ok (.iconst 2, 1) := by decide +kernel
theorem dL_law_1259 : decode cL_law 1259 = .ok (.iadd, 1) := by decide +kernel
theorem dL_law_1260 : decode cL_law 1260 = .ok (.iaload, 1) := by decide +kernel
theorem dL_law_1261 : decode cL_law 1261 = .ok (.aload_n 0, 1) := by decide +kernel
theorem dL_law_1262 : decode cL_law 1262 = .ok (.iload_n 3, 1) := by decide +kernel
theorem dL_law_1263 : decode cL_law 1263 = .ok (.iconst 3, 1) := by decide +kernel
theorem dL_law_1264 : decode cL_law 1264 = .ok (.iadd, 1) := by decide +kernel
theorem dL_law_1265 : decode cL_law 1265 = .ok (.iaload, 1) := by decide +kernel
theorem dL_law_1266 : decode cL_law 1266 = .ok (.aload_n 0, 1) := by decide +kernel
theorem dL_law_1267 : decode cL_law 1267 = .ok (.iload_n 3, 1) := by decide +kernel
theorem dL_law_1268 : decode cL_law 1268 = .ok (.iconst 4, 1) := by decide +kernel
theorem dL_law_1269 : decode cL_law 1269 = .ok (.iadd, 1) := by decide +kernel
theorem dL_law_1270 : decode cL_law 1270 = .ok (.iaload, 1) := by decide +kernel
theorem dL_law_1271 : decode cL_law 1271 = .ok (.aload_n 0, 1) := by decide +kernel
theorem dL_law_1272 : decode cL_law 1272 = .ok (.iload_n 3, 1) := by decide +kernel
theorem dL_law_1273 : decode cL_law 1273 = .ok (.iconst 5, 1) := by decide +kernel
theorem dL_law_1274 : decode cL_law 1274 = .ok (.iadd, 1) := by decide +kernel
theorem dL_law_1275 : decode cL_law 1275 = .ok (.iaload, 1) := by decide +kernel
theorem dL_law_1276 : decode cL_law 1276 = .ok (.ifCond .eq 7, 3) := by decide +kernel
theorem dL_law_1279 : decode cL_law 1279 = .ok (.iconst 1, 1) := by decide +kernel
theorem dL_law_1280 : decode cL_law 1280 = .ok (.goto 4, 3) := by decide +kernel
theorem dL_law_1283 : decode cL_law 1283 = .ok (.iconst 0, 1) := by decide +kernel
theorem dL_law_1284 : decode cL_law 1284 = .ok (.invokevirtual 171, 3) := by decide +kernel
theorem dL_law_1287 : decode cL_law 1287 = .ok (.aload_n 2, 1) := by decide +kernel
theorem dL_law_1288 : decode cL_law 1288 = .ok (.aload_n 0, 1) := by decide +kernel
theorem dL_law_1289 : decode cL_law 1289 = .ok (.iload_n 3, 1) := by decide +kernel
theorem dL_law_1290 : decode cL_law 1290 = .ok (.iconst 1, 1) := by decide +kernel
theorem dL_law_1291 : decode cL_law 1291 = .ok (.iadd, 1) := by decide +kernel
theorem dL_law_1292 : decode cL_law 1292 = .ok (.iaload, 1) := by decide +kernel
theorem dL_law_1293 : decode cL_law 1293 = .ok (.aload_n 0, 1) := by decide +kernel
theorem dL_law_1294 : decode cL_law 1294 = .ok (.iload_n 3, 1) := by decide +kernel
theorem dL_law_1295 : decode cL_law 1295 = .ok (.iconst 2, 1) := by decide +kernel
theorem dL_law_1296 : decode cL_law 1296 = .ok (.iadd, 1) := by decide +kernel
theorem dL_law_1297 : decode cL_law 1297 = .ok (.iaload, 1) := by decide +kernel
theorem dL_law_1298 : decode cL_law 1298 = .ok (.aload_n 0, 1) := by decide +kernel
theorem dL_law_1299 : decode cL_law 1299 = .ok (.iload_n 3, 1) := by decide +kernel
theorem dL_law_1300 : decode cL_law 1300 = .ok (.iconst 3, 1) := by decide +kernel
theorem dL_law_1301 : decode cL_law 1301 = .ok (.iadd, 1) := by decide +kernel
theorem dL_law_1302 : decode cL_law 1302 = .ok (.iaload, 1) := by decide +kernel
theorem dL_law_1303 : decode cL_law 1303 = .ok (.aload_n 0, 1) := by decide +kernel
theorem dL_law_1304 : decode cL_law 1304 = .ok (.iload_n 3, 1) := by decide +kernel
theorem dL_law_1305 : decode cL_law 1305 = .ok (.iconst 4, 1) := by decide +kernel
theorem dL_law_1306 : decode cL_law 1306 = .ok (.iadd, 1) := by decide +kernel
theorem dL_law_1307 : decode cL_law 1307 = .ok (.iaload, 1) := by decide +kernel
theorem dL_law_1308 : decode cL_law 1308 = .ok (.aload_n 0, 1) := by decide +kernel
theorem dL_law_1309 : decode cL_law 1309 = .ok (.iload_n 3, 1) := by decide +kernel
theorem dL_law_1310 : decode cL_law 1310 = .ok (.iconst 5, 1) := by decide +kernel
theorem dL_law_1311 : decode cL_law 1311 = .ok (.iadd, 1) := by decide +kernel
theorem dL_law_1312 : decode cL_law 1312 = .ok (.iaload, 1) := by decide +kernel
theorem dL_law_1313 : decode cL_law 1313 = .ok (.ifCond .eq 7, 3) := by decide +kernel
theorem dL_law_1316 : decode cL_law 1316 = .ok (.iconst 1, 1) := by decide +kernel
theorem dL_law_1317 : decode cL_law 1317 = .ok (.goto 4, 3) := by decide +kernel
theorem dL_law_1320 : decode cL_law 1320 = .ok (.iconst 0, 1) := by decide +kernel
theorem dL_law_1321 : decode cL_law 1321 = .ok (.invokevirtual 175, 3) := by decide +kernel
theorem dL_law_1324 : decode cL_law 1324 = .ok (.if_icmp .eq 229, 3) := by decide +kernel
theorem dL_law_1327 : decode cL_law 1327 = .ok (.iconst 0, 1) := by decide +kernel
theorem dL_law_1328 : decode cL_law 1328 = .ok (.ireturn, 1) := by decide +kernel
theorem dL_law_1329 : decode cL_law 1329 = .ok (.aload_n 1, 1) := by decide +kernel
theorem dL_law_1330 : decode cL_law 1330 = .ok (.aload_n 0, 1) := by decide +kernel
theorem dL_law_1331 : decode cL_law 1331 = .ok (.iload_n 3, 1) := by decide +kernel
theorem dL_law_1332 : decode cL_law 1332 = .ok (.iconst 1, 1) := by decide +kernel
theorem dL_law_1333 : decode cL_law 1333 = .ok (.iadd, 1) := by decide +kernel
theorem dL_law_1334 : decode cL_law 1334 = .ok (.iaload, 1) := by decide +kernel
theorem dL_law_1335 : decode cL_law 1335 = .ok (.invokevirtual 176, 3) := by decide +kernel
theorem dL_law_1338 : decode cL_law 1338 = .ok (.aload_n 2, 1) := by decide +kernel
theorem dL_law_1339 : decode cL_law 1339 = .ok (.aload_n 0, 1) := by decide +kernel
theorem dL_law_1340 : decode cL_law 1340 = .ok (.iload_n 3, 1) := by decide +kernel
theorem dL_law_1341 : decode cL_law 1341 = .ok (.iconst 1, 1) := by decide +kernel
theorem dL_law_1342 : decode cL_law 1342 = .ok (.iadd, 1) := by decide +kernel
theorem dL_law_1343 : decode cL_law 1343 = .ok (.iaload, 1) := by decide +kernel
theorem dL_law_1344 : decode cL_law 1344 = .ok (.invokevirtual 180, 3) := by decide +kernel
theorem dL_law_1347 : decode cL_law 1347 = .ok (.if_icmp .eq 206, 3) := by decide +kernel
theorem dL_law_1350 : decode cL_law 1350 = .ok (.iconst 0, 1) := by decide +kernel
theorem dL_law_1351 : decode cL_law 1351 = .ok (.ireturn, 1) := by decide +kernel
theorem dL_law_1352 : decode cL_law 1352 = .ok (.aload_n 1, 1) := by decide +kernel
theorem dL_law_1353 : decode cL_law 1353 = .ok (.aload_n 0, 1) := by decide +kernel
theorem dL_law_1354 : decode cL_law 1354 = .ok (.iload_n 3, 1) := by decide +kernel
theorem dL_law_1355 : decode cL_law 1355 = .ok (.iconst 1, 1) := by decide +kernel
theorem dL_law_1356 : decode cL_law 1356 = .ok (.iadd, 1) := by decide +kernel
theorem dL_law_1357 : decode cL_law 1357 = .ok (.iaload, 1) := by decide +kernel
theorem dL_law_1358 : decode cL_law 1358 = .ok (.invokevirtual 181, 3) := by decide +kernel
theorem dL_law_1361 : decode cL_law 1361 = .ok (.aload_n 2, 1) := by decide +kernel
theorem dL_law_1362 : decode cL_law 1362 = .ok (.aload_n 0, 1) := by decide +kernel
theorem dL_law_1363 : decode cL_law 1363 = .ok (.iload_n 3, 1) := by decide +kernel
theorem dL_law_1364 : decode cL_law 1364 = .ok (.iconst 1, 1) := by decide +kernel
theorem dL_law_1365 : decode cL_law 1365 = .ok (.iadd, 1) := by decide +kernel
theorem dL_law_1366 : decode cL_law 1366 = .ok (.iaload, 1) := by decide +kernel
theorem dL_law_1367 : decode cL_law 1367 = .ok (.invokevirtual 184, 3) := by decide +kernel
theorem dL_law_1370 : decode cL_law 1370 = .ok (.if_icmp .eq 183, 3) := by decide +kernel
theorem dL_law_1373 : decode cL_law 1373 = .ok (.iconst 0, 1) := by decide +kernel
theorem dL_law_1374 : decode cL_law 1374 = .ok (.ireturn, 1) := by decide +kernel
theorem dL_law_1375 : decode cL_law 1375 = .ok (.aload_n 1, 1) := by decide +kernel
theorem dL_law_1376 : decode cL_law 1376 = .ok (.aload_n 0, 1) := by decide +kernel
theorem dL_law_1377 : decode cL_law 1377 = .ok (.iload_n 3, 1) := by decide +kernel
theorem dL_law_1378 : decode cL_law 1378 = .ok (.iconst 1, 1) := by decide +kernel
theorem dL_law_1379 : decode cL_law 1379 = .ok (.iadd, 1) := by decide +kernel
theorem dL_law_1380 : decode cL_law 1380 = .ok (.iaload, 1) := by decide +kernel
theorem dL_law_1381 : decode cL_law 1381 = .ok (.invokevirtual 185, 3) := by decide +kernel
theorem dL_law_1384 : decode cL_law 1384 = .ok (.aload_n 2, 1) := by decide +kernel
theorem dL_law_1385 : decode cL_law 1385 = .ok (.aload_n 0, 1) := by decide +kernel
theorem dL_law_1386 : decode cL_law 1386 = .ok (.iload_n 3, 1) := by decide +kernel
theorem dL_law_1387 : decode cL_law 1387 = .ok (.iconst 1, 1) := by decide +kernel
theorem dL_law_1388 : decode cL_law 1388 = .ok (.iadd, 1) := by decide +kernel
theorem dL_law_1389 : decode cL_law 1389 = .ok (.iaload, 1) := by decide +kernel
theorem dL_law_1390 : decode cL_law 1390 = .ok (.invokevirtual 188, 3) := by decide +kernel
theorem dL_law_1393 : decode cL_law 1393 = .ok (.if_icmp .eq 160, 3) := by decide +kernel
theorem dL_law_1396 : decode cL_law 1396 = .ok (.iconst 0, 1) := by decide +kernel
theorem dL_law_1397 : decode cL_law 1397 = .ok (.ireturn, 1) := by decide +kernel
theorem dL_law_1398 : decode cL_law 1398 = .ok (.aload_n 1, 1) := by decide +kernel
theorem dL_law_1399 : decode cL_law 1399 = .ok (.aload_n 0, 1) := by decide +kernel
theorem dL_law_1400 : decode cL_law 1400 = .ok (.iload_n 3, 1) := by decide +kernel
theorem dL_law_1401 : decode cL_law 1401 = .ok (.iconst 1, 1) := by decide +kernel
theorem dL_law_1402 : decode cL_law 1402 = .ok (.iadd, 1) := by decide +kernel
theorem dL_law_1403 : decode cL_law 1403 = .ok (.iaload, 1) := by decide +kernel
theorem dL_law_1404 : decode cL_law 1404 = .ok (.aload_n 0, 1) := by decide +kernel
theorem dL_law_1405 : decode cL_law 1405 = .ok (.iload_n 3, 1) := by decide +kernel
theorem dL_law_1406 : decode cL_law 1406 = .ok (.iconst 2, 1) := by decide +kernel
theorem dL_law_1407 : decode cL_law 1407 = .ok (.iadd, 1) := by decide +kernel
theorem dL_law_1408 : decode cL_law 1408 = .ok (.iaload, 1) := by decide +kernel
theorem dL_law_1409 : decode cL_law 1409 = .ok (.invokevirtual 189, 3) := by decide +kernel
theorem dL_law_1412 : decode cL_law 1412 = .ok (.aload_n 2, 1) := by decide +kernel
theorem dL_law_1413 : decode cL_law 1413 = .ok (.aload_n 0, 1) := by decide +kernel
theorem dL_law_1414 : decode cL_law 1414 = .ok (.iload_n 3, 1) := by decide +kernel
theorem dL_law_1415 : decode cL_law 1415 = .ok (.iconst 1, 1) := by decide +kernel
theorem dL_law_1416 : decode cL_law 1416 = .ok (.iadd, 1) := by decide +kernel
theorem dL_law_1417 : decode cL_law 1417 = .ok (.iaload, 1) := by decide +kernel
theorem dL_law_1418 : decode cL_law 1418 = .ok (.aload_n 0, 1) := by decide +kernel
theorem dL_law_1419 : decode cL_law 1419 = .ok (.iload_n 3, 1) := by decide +kernel
theorem dL_law_1420 : decode cL_law 1420 = .ok (.iconst 2, 1) := by decide +kernel
theorem dL_law_1421 : decode cL_law 1421 = .ok (.iadd, 1) := by decide +kernel
theorem dL_law_1422 : decode cL_law 1422 = .ok (.iaload, 1) := by decide +kernel
theorem dL_law_1423 : decode cL_law 1423 = .ok (.invokevirtual 192, 3) := by decide +kernel
theorem dL_law_1426 : decode cL_law 1426 = .ok (.if_icmp .eq 127, 3) := by decide +kernel
theorem dL_law_1429 : decode cL_law 1429 = .ok (.iconst 0, 1) := by decide +kernel
theorem dL_law_1430 : decode cL_law 1430 = .ok (.ireturn, 1) := by decide +kernel
theorem dL_law_1431 : decode cL_law 1431 = .ok (.aload_n 1, 1) := by decide +kernel
theorem dL_law_1432 : decode cL_law 1432 = .ok (.aload_n 0, 1) := by decide +kernel
theorem dL_law_1433 : decode cL_law 1433 = .ok (.iload_n 3, 1) := by decide +kernel
theorem dL_law_1434 : decode cL_law 1434 = .ok (.iconst 1, 1) := by decide +kernel
theorem dL_law_1435 : decode cL_law 1435 = .ok (.iadd, 1) := by decide +kernel
theorem dL_law_1436 : decode cL_law 1436 = .ok (.iaload, 1) := by decide +kernel
theorem dL_law_1437 : decode cL_law 1437 = .ok (.aload_n 0, 1) := by decide +kernel
theorem dL_law_1438 : decode cL_law 1438 = .ok (.iload_n 3, 1) := by decide +kernel
theorem dL_law_1439 : decode cL_law 1439 = .ok (.iconst 2, 1) := by decide +kernel
theorem dL_law_1440 : decode cL_law 1440 = .ok (.iadd, 1) := by decide +kernel
theorem dL_law_1441 : decode cL_law 1441 = .ok (.iaload, 1) := by decide +kernel
theorem dL_law_1442 : decode cL_law 1442 = .ok (.aload_n 0, 1) := by decide +kernel
theorem dL_law_1443 : decode cL_law 1443 = .ok (.iload_n 3, 1) := by decide +kernel
theorem dL_law_1444 : decode cL_law 1444 = .ok (.iconst 3, 1) := by decide +kernel
theorem dL_law_1445 : decode cL_law 1445 = .ok (.iadd, 1) := by decide +kernel
theorem dL_law_1446 : decode cL_law 1446 = .ok (.iaload, 1) := by decide +kernel
theorem dL_law_1447 : decode cL_law 1447 = .ok (.aload_n 0, 1) := by decide +kernel
theorem dL_law_1448 : decode cL_law 1448 = .ok (.iload_n 3, 1) := by decide +kernel
theorem dL_law_1449 : decode cL_law 1449 = .ok (.iconst 4, 1) := by decide +kernel
theorem dL_law_1450 : decode cL_law 1450 = .ok (.iadd, 1) := by decide +kernel
theorem dL_law_1451 : decode cL_law 1451 = .ok (.iaload, 1) := by decide +kernel
theorem dL_law_1452 : decode cL_law 1452 = .ok (.invokevirtual 193, 3) := by decide +kernel
theorem dL_law_1455 : decode cL_law 1455 = .ok (.aload_n 2, 1) := by decide +kernel
theorem dL_law_1456 : decode cL_law 1456 = .ok (.aload_n 0, 1) := by decide +kernel
theorem dL_law_1457 : decode cL_law 1457 = .ok (.iload_n 3, 1) := by decide +kernel
theorem dL_law_1458 : decode cL_law 1458 = .ok (.iconst 1, 1) := by decide +kernel
theorem dL_law_1459 : decode cL_law 1459 = .ok (.iadd, 1) := by decide +kernel
theorem dL_law_1460 : decode cL_law 1460 = .ok (.iaload, 1) := by decide +kernel
theorem dL_law_1461 : decode cL_law 1461 = .ok (.aload_n 0, 1) := by decide +kernel
theorem dL_law_1462 : decode cL_law 1462 = .ok (.iload_n 3, 1) := by decide +kernel
theorem dL_law_1463 : decode cL_law 1463 = .ok (.iconst 2, 1) := by decide +kernel
theorem dL_law_1464 : decode cL_law 1464 = .ok (.iadd, 1) := by decide +kernel
theorem dL_law_1465 : decode cL_law 1465 = .ok (.iaload, 1) := by decide +kernel
theorem dL_law_1466 : decode cL_law 1466 = .ok (.aload_n 0, 1) := by decide +kernel
theorem dL_law_1467 : decode cL_law 1467 = .ok (.iload_n 3, 1) := by decide +kernel
theorem dL_law_1468 : decode cL_law 1468 = .ok (.iconst 3, 1) := by decide +kernel
theorem dL_law_1469 : decode cL_law 1469 = .ok (.iadd, 1) := by decide +kernel
theorem dL_law_1470 : decode cL_law 1470 = .ok (.iaload, 1) := by decide +kernel
theorem dL_law_1471 : decode cL_law 1471 = .ok (.aload_n 0, 1) := by decide +kernel
theorem dL_law_1472 : decode cL_law 1472 = .ok (.iload_n 3, 1) := by decide +kernel
theorem dL_law_1473 : decode cL_law 1473 = .ok (.iconst 4, 1) := by decide +kernel
theorem dL_law_1474 : decode cL_law 1474 = .ok (.iadd, 1) := by decide +kernel
theorem dL_law_1475 : decode cL_law 1475 = .ok (.iaload, 1) := by decide +kernel
theorem dL_law_1476 : decode cL_law 1476 = .ok (.invokevirtual 197, 3) := by decide +kernel
theorem dL_law_1479 : decode cL_law 1479 = .ok (.if_icmp .eq 74, 3) := by decide +kernel
theorem dL_law_1482 : decode cL_law 1482 = .ok (.iconst 0, 1) := by decide +kernel
theorem dL_law_1483 : decode cL_law 1483 = .ok (.ireturn, 1) := by decide +kernel
theorem dL_law_1484 : decode cL_law 1484 = .ok (.aload_n 1, 1) := by decide +kernel
theorem dL_law_1485 : decode cL_law 1485 = .ok (.aload_n 0, 1) := by decide +kernel
theorem dL_law_1486 : decode cL_law 1486 = .ok (.iload_n 3, 1) := by decide +kernel
theorem dL_law_1487 : decode cL_law 1487 = .ok (.iconst 1, 1) := by decide +kernel
theorem dL_law_1488 : decode cL_law 1488 = .ok (.iadd, 1) := by decide +kernel
theorem dL_law_1489 : decode cL_law 1489 = .ok (.iaload, 1) := by decide +kernel
theorem dL_law_1490 : decode cL_law 1490 = .ok (.invokevirtual 198, 3) := by decide +kernel
theorem dL_law_1493 : decode cL_law 1493 = .ok (.aload_n 2, 1) := by decide +kernel
theorem dL_law_1494 : decode cL_law 1494 = .ok (.aload_n 0, 1) := by decide +kernel
theorem dL_law_1495 : decode cL_law 1495 = .ok (.iload_n 3, 1) := by decide +kernel
theorem dL_law_1496 : decode cL_law 1496 = .ok (.iconst 1, 1) := by decide +kernel
theorem dL_law_1497 : decode cL_law 1497 = .ok (.iadd, 1) := by decide +kernel
theorem dL_law_1498 : decode cL_law 1498 = .ok (.iaload, 1) := by decide +kernel
theorem dL_law_1499 : decode cL_law 1499 = .ok (.invokevirtual 201, 3) := by decide +kernel
theorem dL_law_1502 : decode cL_law 1502 = .ok (.if_icmp .eq 51, 3) := by decide +kernel
theorem dL_law_1505 : decode cL_law 1505 = .ok (.iconst 0, 1) := by decide +kernel
theorem dL_law_1506 : decode cL_law 1506 = .ok (.ireturn, 1) := by decide +kernel
theorem dL_law_1507 : decode cL_law 1507 = .ok (.aload_n 1, 1) := by decide +kernel
theorem dL_law_1508 : decode cL_law 1508 = .ok (.aload_n 0, 1) := by decide +kernel
theorem dL_law_1509 : decode cL_law 1509 = .ok (.iload_n 3, 1) := by decide +kernel
theorem dL_law_1510 : decode cL_law 1510 = .ok (.iconst 1, 1) := by decide +kernel
theorem dL_law_1511 : decode cL_law 1511 = .ok (.iadd, 1) := by decide +kernel
theorem dL_law_1512 : decode cL_law 1512 = .ok (.iaload, 1) := by decide +kernel
theorem dL_law_1513 : decode cL_law 1513 = .ok (.invokevirtual 202, 3) := by decide +kernel
theorem dL_law_1516 : decode cL_law 1516 = .ok (.aload_n 2, 1) := by decide +kernel
theorem dL_law_1517 : decode cL_law 1517 = .ok (.aload_n 0, 1) := by decide +kernel
theorem dL_law_1518 : decode cL_law 1518 = .ok (.iload_n 3, 1) := by decide +kernel
theorem dL_law_1519 : decode cL_law 1519 = .ok (.iconst 1, 1) := by decide +kernel
theorem dL_law_1520 : decode cL_law 1520 = .ok (.iadd, 1) := by decide +kernel
theorem dL_law_1521 : decode cL_law 1521 = .ok (.iaload, 1) := by decide +kernel
theorem dL_law_1522 : decode cL_law 1522 = .ok (.invokevirtual 205, 3) := by decide +kernel
theorem dL_law_1525 : decode cL_law 1525 = .ok (.if_icmp .eq 28, 3) := by decide +kernel
theorem dL_law_1528 : decode cL_law 1528 = .ok (.iconst 0, 1) := by decide +kernel
theorem dL_law_1529 : decode cL_law 1529 = .ok (.ireturn, 1) := by decide +kernel
theorem dL_law_1530 : decode cL_law 1530 = .ok (.aload_n 1, 1) := by decide +kernel
theorem dL_law_1531 : decode cL_law 1531 = .ok (.aload_n 0, 1) := by decide +kernel
theorem dL_law_1532 : decode cL_law 1532 = .ok (.iload_n 3, 1) := by decide +kernel
theorem dL_law_1533 : decode cL_law 1533 = .ok (.iconst 1, 1) := by decide +kernel
theorem dL_law_1534 : decode cL_law 1534 = .ok (.iadd, 1) := by decide +kernel
theorem dL_law_1535 : decode cL_law 1535 = .ok (.iaload, 1) := by decide +kernel
theorem dL_law_1536 : decode cL_law 1536 = .ok (.invokevirtual 206, 3) := by decide +kernel
theorem dL_law_1539 : decode cL_law 1539 = .ok (.aload_n 2, 1) := by decide +kernel
theorem dL_law_1540 : decode cL_law 1540 = .ok (.aload_n 0, 1) := by decide +kernel
theorem dL_law_1541 : decode cL_law 1541 = .ok (.iload_n 3, 1) := by decide +kernel
theorem dL_law_1542 : decode cL_law 1542 = .ok (.iconst 1, 1) := by decide +kernel
theorem dL_law_1543 : decode cL_law 1543 = .ok (.iadd, 1) := by decide +kernel
theorem dL_law_1544 : decode cL_law 1544 = .ok (.iaload, 1) := by decide +kernel
theorem dL_law_1545 : decode cL_law 1545 = .ok (.invokevirtual 209, 3) := by decide +kernel
theorem dL_law_1548 : decode cL_law 1548 = .ok (.if_icmp .eq 5, 3) := by decide +kernel
theorem dL_law_1551 : decode cL_law 1551 = .ok (.iconst 0, 1) := by decide +kernel
theorem dL_law_1552 : decode cL_law 1552 = .ok (.ireturn, 1) := by decide +kernel
theorem dL_law_1553 : decode cL_law 1553 = .ok (.iinc 3 6, 3) := by decide +kernel
theorem dL_law_1556 : decode cL_law 1556 = .ok (.goto (-1538), 3) := by decide +kernel
theorem dL_law_1559 : decode cL_law 1559 = .ok (.iconst 1, 1) := by decide +kernel
theorem dL_law_1560 : decode cL_law 1560 = .ok (.ireturn, 1) := by decide +kernel
