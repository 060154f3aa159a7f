theorem dX0_init_0 : decode cX0_init 0 = .ok (.aload_n 0, 1) := by decide +kernel
theorem dX0_init_1 : decode cX0_init 1 = .ok (.invokespecial 3, 3) := by decide +kernel
theorem dX0_init_4 : decode cX0_init 4 = .ok (.aload_n 0, 1) := by decide +kernel
theorem dX0_init_5 : decode cX0_init 5 = .ok (.bipush 60, 2) := by decide +kernel
theorem dX0_init_7 : decode cX0_init 7 = .ok (.newarray .int, 2) := by decide +kernel
theorem dX0_init_9 : decode cX0_init 9 = .ok (.putfield 9, 3) := by decide +kernel
theorem dX0_init_12 : decode cX0_init 12 = .ok (.aload_n 0, 1) := by decide +kernel
theorem dX0_init_13 : decode cX0_init 13 = .ok (.bipush 60, 2) := by decide +kernel
theorem dX0_init_15 : decode cX0_init 15 = .ok (.newarray .int, 2) := by decide +kernel
theorem dX0_init_17 : decode cX0_init 17 = .ok (.putfield 15, 3) := by decide +kernel
theorem dX0_init_20 : decode cX0_init 20 = .ok (.aload_n 0, 1) := by decide +kernel
theorem dX0_init_21 : decode cX0_init 21 = .ok (.bipush 60, 2) := by decide +kernel
theorem dX0_init_23 : decode cX0_init 23 = .ok (.newarray .int, 2) := by decide +kernel
theorem dX0_init_25 : decode cX0_init 25 = .ok (.putfield 18, 3) := by decide +kernel
theorem dX0_init_28 : decode cX0_init 28 = .ok (.aload_n 0, 1) := by decide +kernel
theorem dX0_init_29 : decode cX0_init 29 = .ok (.bipush 60, 2) := by decide +kernel
theorem dX0_init_31 : decode cX0_init 31 = .ok (.newarray .int, 2) := by decide +kernel
theorem dX0_init_33 : decode cX0_init 33 = .ok (.putfield 21, 3) := by decide +kernel
theorem dX0_init_36 : decode cX0_init 36 = .ok (.aload_n 0, 1) := by decide +kernel
theorem dX0_init_37 : decode cX0_init 37 = .ok (.bipush 7, 2) := by decide +kernel
theorem dX0_init_39 : decode cX0_init 39 = .ok (.newarray .int, 2) := by decide +kernel
theorem dX0_init_41 : decode cX0_init 41 = .ok (.putfield 24, 3) := by decide +kernel
theorem dX0_init_44 : decode cX0_init 44 = .ok (.aload_n 0, 1) := by decide +kernel
theorem dX0_init_45 : decode cX0_init 45 = .ok (.bipush 6, 2) := by decide +kernel
theorem dX0_init_47 : decode cX0_init 47 = .ok (.newarray .int, 2) := by decide +kernel
theorem dX0_init_49 : decode cX0_init 49 = .ok (.putfield 27, 3) := by decide +kernel
theorem dX0_init_52 : decode cX0_init 52 = .ok (.aload_n 0, 1) := by decide +kernel
theorem dX0_init_53 : decode cX0_init 53 = .ok (.bipush 6, 2) := by decide +kernel
theorem dX0_init_55 : decode cX0_init 55 = .ok (.newarray .int, 2) := by decide +kernel
theorem dX0_init_57 : decode cX0_init 57 = .ok (.putfield 30, 3) := by decide +kernel
theorem dX0_init_60 : decode cX0_init 60 = .ok (.aload_n 0, 1) := by decide +kernel
theorem dX0_init_61 : decode cX0_init 61 = .ok (.bipush 6, 2) := by decide +kernel
theorem dX0_init_63 : decode cX0_init 63 = .ok (.newarray .int, 2) := by decide +kernel
theorem dX0_init_65 : decode cX0_init 65 = .ok (.putfield 33, 3) := by decide +kernel
theorem dX0_init_68 : decode cX0_init 68 = .ok (.aload_n 0, 1) := by decide +kernel
theorem dX0_init_69 : decode cX0_init 69 = .ok (.bipush 6, 2) := by decide +kernel
theorem dX0_init_71 : decode cX0_init 71 = .ok (.newarray .int, 2) := by decide +kernel
theorem dX0_init_73 : decode cX0_init 73 = .ok (.putfield 36, 3) := by decide +kernel
theorem dX0_init_76 : decode cX0_init 76 = .ok (.aload_n 0, 1) := by decide +kernel
theorem dX0_init_77 : decode cX0_init 77 = .ok (.bipush 6, 2) := by decide +kernel
theorem dX0_init_79 : decode cX0_init 79 = .ok (.newarray .int, 2) := by decide +kernel
theorem dX0_init_81 : decode cX0_init 81 = .ok (.putfield 39, 3) := by decide +kernel
theorem dX0_init_84 : decode cX0_init 84 = .ok (.aload_n 0, 1) := by decide +kernel
theorem dX0_init_85 : decode cX0_init 85 = .ok (.bipush 57, 2) := by decide +kernel
theorem dX0_init_87 : decode cX0_init 87 = .ok (.newarray .int, 2) := by decide +kernel
theorem dX0_init_89 : decode cX0_init 89 = .ok (.putfield 42, 3) := by decide +kernel
theorem dX0_init_92 : decode cX0_init 92 = .ok (.aload_n 0, 1) := by decide +kernel
theorem dX0_init_93 : decode cX0_init 93 = .ok (.invokevirtual 45, 3) := by decide +kernel
theorem dX0_init_96 : decode cX0_init 96 = .ok (.return_, 1) := by decide +kernel
theorem dX0_empty_0 : decode cX0_empty 0 = .ok (.aload_n 0, 1) := by decide +kernel
theorem dX0_empty_1 : decode cX0_empty 1 = .ok (.iconst 0, 1) := by decide +kernel
theorem dX0_empty_2 : decode cX0_empty 2 = .ok (.putfield 48, 3) := by decide +kernel
theorem dX0_empty_5 : decode cX0_empty 5 = .ok (.aload_n 0, 1) := by decide +kernel
theorem dX0_empty_6 : decode cX0_empty 6 = .ok (.iconst 0, 1) := by decide +kernel
theorem dX0_empty_7 : decode cX0_empty 7 = .ok (.putfield 52, 3) := by decide +kernel
theorem dX0_empty_10 : decode cX0_empty 10 = .ok (.aload_n 0, 1) := by decide +kernel
theorem dX0_empty_11 : decode cX0_empty 11 = .ok (.iconst 0, 1) := by decide +kernel
theorem dX0_empty_12 : decode cX0_empty 12 = .ok (.putfield 55, 3) := by decide +kernel
theorem dX0_empty_15 : decode cX0_empty 15 = .ok (.aload_n 0, 1) := by decide +kernel
theorem dX0_empty_16 : decode cX0_empty 16 = .ok (.iconst 0, 1) := by decide +kernel
theorem dX0_empty_17 : decode cX0_empty 17 = .ok (.putfield 58, 3) := by decide +kernel
theorem dX0_empty_20 : decode cX0_empty 20 = .ok (.aload_n 0, 1) := by decide +kernel
theorem dX0_empty_21 : decode cX0_empty 21 = .ok (.iconst 0, 1) := by decide +kernel
theorem dX0_empty_22 : decode cX0_empty 22 = .ok (.putfield 61, 3) := by decide +kernel
theorem dX0_empty_25 : decode cX0_empty 25 = .ok (.aload_n 0, 1) := by decide +kernel
theorem dX0_empty_26 : decode cX0_empty 26 = .ok (.getfield 24, 3) := by decide +kernel
theorem dX0_empty_29 : decode cX0_empty 29 = .ok (.iconst 0, 1) := by decide +kernel
theorem dX0_empty_30 : decode cX0_empty 30 = .ok (.iconst 0, 1) := by decide +kernel
theorem dX0_empty_31 : decode cX0_empty 31 = .ok (.iastore, 1) := by decide +kernel
theorem dX0_empty_32 : decode cX0_empty 32 = .ok (.aload_n 0, 1) := by decide +kernel
theorem dX0_empty_33 : decode cX0_empty 33 = .ok (.invokevirtual 45, 3) := by decide +kernel
theorem dX0_empty_36 : decode cX0_empty 36 = .ok (.return_, 1) := by decide +kernel
theorem dX0_takePlainly_0 : decode cX0_takePlainly 0 = .ok (.iconst 0, 1) := by decide +kernel
theorem dX0_takePlainly_1 : decode cX0_takePlainly 1 = .ok (.istore_n 1, 1) := by decide +kernel
theorem dX0_takePlainly_2 : decode cX0_takePlainly 2 = .ok (.iload_n 1, 1) := by decide +kernel
theorem dX0_takePlainly_3 : decode cX0_takePlainly 3 = .ok (.aload_n 0, 1) := by decide +kernel
theorem dX0_takePlainly_4 : decode cX0_takePlainly 4 = .ok (.getfield 42, 3) := by decide +kernel
theorem dX0_takePlainly_7 : decode cX0_takePlainly 7 = .ok (.arraylength, 1) := by decide +kernel
theorem dX0_takePlainly_8 : decode cX0_takePlainly 8 = .ok (.if_icmp .ge 21, 3) := by decide +kernel
theorem dX0_takePlainly_11 : decode cX0_takePlainly 11 = .ok (.aload_n 0, 1) := by decide +kernel
theorem dX0_takePlainly_12 : decode cX0_takePlainly 12 = .ok (.getfield 42, 3) := by decide +kernel
theorem dX0_takePlainly_15 : decode cX0_takePlainly 15 = .ok (.iload_n 1, 1) := by decide +kernel
theorem dX0_takePlainly_16 : decode cX0_takePlainly 16 = .ok (.iconst 1, 1) := by decide +kernel
theorem dX0_takePlainly_17 : decode cX0_takePlainly 17 = .ok (.iload_n 1, 1) := by decide +kernel
theorem dX0_takePlainly_18 : decode cX0_takePlainly 18 = .ok (.bipush 19, 2) := by decide +kernel
theorem dX0_takePlainly_20 : decode cX0_takePlainly 20 = .ok (.idiv, 1) := by decide +kernel
theorem dX0_takePlainly_21 : decode cX0_takePlainly 21 = .ok (.iadd, 1) := by decide +kernel
theorem dX0_takePlainly_22 : decode cX0_takePlainly 22 = .ok (.iastore, 1) := by decide +kernel
theorem dX0_takePlainly_23 : decode cX0_takePlainly 23 = .ok (.iinc 1 1, 3) := by decide +kernel
theorem dX0_takePlainly_26 : decode cX0_takePlainly 26 = .ok (.goto (-24), 3) := by decide +kernel
theorem dX0_takePlainly_29 : decode cX0_takePlainly 29 = .ok (.return_, 1) := by decide +kernel
theorem dX0_hasWord_0 : decode cX0_hasWord 0 = .ok (.iload_n 1, 1) := by decide +kernel
theorem dX0_hasWord_1 : decode cX0_hasWord 1 = .ok (.ifCond .lt 15, 3) := by decide +kernel
theorem dX0_hasWord_4 : decode cX0_hasWord 4 = .ok (.iload_n 1, 1) := by decide +kernel
theorem dX0_hasWord_5 : decode cX0_hasWord 5 = .ok (.aload_n 0, 1) := by decide +kernel
theorem dX0_hasWord_6 : decode cX0_hasWord 6 = .ok (.getfield 48, 3) := by decide +kernel
theorem dX0_hasWord_9 : decode cX0_hasWord 9 = .ok (.if_icmp .ge 7, 3) := by decide +kernel
theorem dX0_hasWord_12 : decode cX0_hasWord 12 = .ok (.iconst 1, 1) := by decide +kernel
theorem dX0_hasWord_13 : decode cX0_hasWord 13 = .ok (.goto 4, 3) := by decide +kernel
theorem dX0_hasWord_16 : decode cX0_hasWord 16 = .ok (.iconst 0, 1) := by decide +kernel
theorem dX0_hasWord_17 : decode cX0_hasWord 17 = .ok (.ireturn, 1) := by decide +kernel
theorem dX0_hasItem_0 : decode cX0_hasItem 0 = .ok (.aload_n 0, 1) := by decide +kernel
theorem dX0_hasItem_1 : decode cX0_hasItem 1 = .ok (.iload_n 1, 1) := by decide +kernel
theorem dX0_hasItem_2 : decode cX0_hasItem 2 = .ok (.invokevirtual 64, 3) := by decide +kernel
theorem dX0_hasItem_5 : decode cX0_hasItem 5 = .ok (.ifCond .eq 30, 3) := by decide +kernel
theorem dX0_hasItem_8 : decode cX0_hasItem 8 = .ok (.iload_n 2, 1) := by decide +kernel
theorem dX0_hasItem_9 : decode cX0_hasItem 9 = .ok (.ifCond .lt 26, 3) := by decide +kernel
theorem dX0_hasItem_12 : decode cX0_hasItem 12 = .ok (.iload_n 2, 1) := by decide +kernel
theorem dX0_hasItem_13 : decode cX0_hasItem 13 = .ok (.aload_n 0, 1) := by decide +kernel
theorem dX0_hasItem_14 : decode cX0_hasItem 14 = .ok (.getfield 24, 3) := by decide +kernel
theorem dX0_hasItem_17 : decode cX0_hasItem 17 = .ok (.iload_n 1, 1) := by decide +kernel
theorem dX0_hasItem_18 : decode cX0_hasItem 18 = .ok (.iconst 1, 1) := by decide +kernel
theorem dX0_hasItem_19 : decode cX0_hasItem 19 = .ok (.iadd, 1) := by decide +kernel
theorem dX0_hasItem_20 : decode cX0_hasItem 20 = .ok (.iaload, 1) := by decide +kernel
theorem dX0_hasItem_21 : decode cX0_hasItem 21 = .ok (.aload_n 0, 1) := by decide +kernel
theorem dX0_hasItem_22 : decode cX0_hasItem 22 = .ok (.getfield 24, 3) := by decide +kernel
theorem dX0_hasItem_25 : decode cX0_hasItem 25 = .ok (.iload_n 1, 1) := by decide +kernel
theorem dX0_hasItem_26 : decode cX0_hasItem 26 = .ok (.iaload, 1) := by decide +kernel
theorem dX0_hasItem_27 : decode cX0_hasItem 27 = .ok (.isub, 1) := by decide +kernel
theorem dX0_hasItem_28 : decode cX0_hasItem 28 = .ok (.if_icmp .ge 7, 3) := by decide +kernel
theorem dX0_hasItem_31 : decode cX0_hasItem 31 = .ok (.iconst 1, 1) := by decide +kernel
theorem dX0_hasItem_32 : decode cX0_hasItem 32 = .ok (.goto 4, 3) := by decide +kernel
theorem dX0_hasItem_35 : decode cX0_hasItem 35 = .ok (.iconst 0, 1) := by decide +kernel
theorem dX0_hasItem_36 : decode cX0_hasItem 36 = .ok (.ireturn, 1) := by decide +kernel
theorem dX0_calledIn_0 : decode cX0_calledIn 0 = .ok (.iconst 0, 1) := by decide +kernel
theorem dX0_calledIn_1 : decode cX0_calledIn 1 = .ok (.istore_n 2, 1) := by decide +kernel
theorem dX0_calledIn_2 : decode cX0_calledIn 2 = .ok (.aload_n 0, 1) := by decide +kernel
theorem dX0_calledIn_3 : decode cX0_calledIn 3 = .ok (.getfield 24, 3) := by decide +kernel
theorem dX0_calledIn_6 : decode cX0_calledIn 6 = .ok (.iload_n 1, 1) := by decide +kernel
theorem dX0_calledIn_7 : decode cX0_calledIn 7 = .ok (.iaload, 1) := by decide +kernel
theorem dX0_calledIn_8 : decode cX0_calledIn 8 = .ok (.istore_n 3, 1) := by decide +kernel
theorem dX0_calledIn_9 : decode cX0_calledIn 9 = .ok (.iload_n 3, 1) := by decide +kernel
theorem dX0_calledIn_10 : decode cX0_calledIn 10 = .ok (.aload_n 0, 1) := by decide +kernel
theorem dX0_calledIn_11 : decode cX0_calledIn 11 = .ok (.getfield 24, 3) := by decide +kernel
theorem dX0_calledIn_14 : decode cX0_calledIn 14 = .ok (.iload_n 1, 1) := by decide +kernel
theorem dX0_calledIn_15 : decode cX0_calledIn 15 = .ok (.iconst 1, 1) := by decide +kernel
theorem dX0_calledIn_16 : decode cX0_calledIn 16 = .ok (.iadd, 1) := by decide +kernel
theorem dX0_calledIn_17 : decode cX0_calledIn 17 = .ok (.iaload, 1) := by decide +kernel
theorem dX0_calledIn_18 : decode cX0_calledIn 18 = .ok (.if_icmp .ge 30, 3) := by decide +kernel
theorem dX0_calledIn_21 : decode cX0_calledIn 21 = .ok (.aload_n 0, 1) := by decide +kernel
theorem dX0_calledIn_22 : decode cX0_calledIn 22 = .ok (.getfield 9, 3) := by decide +kernel
theorem dX0_calledIn_25 : decode cX0_calledIn 25 = .ok (.iload_n 3, 1) := by decide +kernel
theorem dX0_calledIn_26 : decode cX0_calledIn 26 = .ok (.iaload, 1) := by decide +kernel
theorem dX0_calledIn_27 : decode cX0_calledIn 27 = .ok (.iconst 2, 1) := by decide +kernel
theorem dX0_calledIn_28 : decode cX0_calledIn 28 = .ok (.if_icmp .ne 14, 3) := by decide +kernel
theorem dX0_calledIn_31 : decode cX0_calledIn 31 = .ok (.iload_n 2, 1) := by decide +kernel
theorem dX0_calledIn_32 : decode cX0_calledIn 32 = .ok (.iconst 1, 1) := by decide +kernel
theorem dX0_calledIn_33 : decode cX0_calledIn 33 = .ok (.aload_n 0, 1) := by decide +kernel
theorem dX0_calledIn_34 : decode cX0_calledIn 34 = .ok (.getfield 15, 3) := by decide +kernel
theorem dX0_calledIn_37 : decode cX0_calledIn 37 = .ok (.iload_n 3, 1) := by decide +kernel
theorem dX0_calledIn_38 : decode cX0_calledIn 38 = .ok (.iaload, 1) := by decide +kernel
theorem dX0_calledIn_39 : decode cX0_calledIn 39 = .ok (.ishl, 1) := by decide +kernel
theorem dX0_calledIn_40 : decode cX0_calledIn 40 = .ok (.ior, 1) := by decide +kernel
theorem dX0_calledIn_41 : decode cX0_calledIn 41 = .ok (.istore_n 2, 1) := by decide +kernel
theorem dX0_calledIn_42 : decode cX0_calledIn 42 = .ok (.iinc 3 1, 3) := by decide +kernel
theorem dX0_calledIn_45 : decode cX0_calledIn 45 = .ok (.goto (-36), 3) := by decide +kernel
theorem dX0_calledIn_48 : decode cX0_calledIn 48 = .ok (.iload_n 2, 1) := by decide +kernel
theorem dX0_calledIn_49 : decode cX0_calledIn 49 = .ok (.ireturn, 1) := by decide +kernel
theorem dX0_reaching_0 : decode cX0_reaching 0 = .ok (.iconst 0, 1) := by decide +kernel
theorem dX0_reaching_1 : decode cX0_reaching 1 = .ok (.istore_n 2, 1) := by decide +kernel
theorem dX0_reaching_2 : decode cX0_reaching 2 = .ok (.iload_n 1, 1) := by decide +kernel
theorem dX0_reaching_3 : decode cX0_reaching 3 = .ok (.iconst 1, 1) := by decide +kernel
theorem dX0_reaching_4 : decode cX0_reaching 4 = .ok (.iadd, 1) := by decide +kernel
theorem dX0_reaching_5 : decode cX0_reaching 5 = .ok (.istore_n 3, 1) := by decide +kernel
theorem dX0_reaching_6 : decode cX0_reaching 6 = .ok (.iload_n 3, 1) := by decide +kernel
theorem dX0_reaching_7 : decode cX0_reaching 7 = .ok (.aload_n 0, 1) := by decide +kernel
theorem dX0_reaching_8 : decode cX0_reaching 8 = .ok (.getfield 48, 3) := by decide +kernel
theorem dX0_reaching_11 : decode cX0_reaching 11 = .ok (.if_icmp .ge 29, 3) := by decide +kernel
theorem dX0_reaching_14 : decode cX0_reaching 14 = .ok (.aload_n 0, 1) := by decide +kernel
theorem dX0_reaching_15 : decode cX0_reaching 15 = .ok (.iload_n 3, 1) := by decide +kernel
theorem dX0_reaching_16 : decode cX0_reaching 16 = .ok (.invokevirtual 68, 3) := by decide +kernel
theorem dX0_reaching_19 : decode cX0_reaching 19 = .ok (.iload_n 2, 1) := by decide +kernel
theorem dX0_reaching_20 : decode cX0_reaching 20 = .ok (.iconst 1, 1) := by decide +kernel
theorem dX0_reaching_21 : decode cX0_reaching 21 = .ok (.iload_n 1, 1) := by decide +kernel
theorem dX0_reaching_22 : decode cX0_reaching 22 = .ok (.ishl, 1) := by decide +kernel
theorem dX0_reaching_23 : decode cX0_reaching 23 = .ok (.ior, 1) := by decide +kernel
theorem dX0_reaching_24 : decode cX0_reaching 24 = .ok (.iand, 1) := by decide +kernel
theorem dX0_reaching_25 : decode cX0_reaching 25 = .ok (.ifCond .eq 9, 3) := by decide +kernel
theorem dX0_reaching_28 : decode cX0_reaching 28 = .ok (.iload_n 2, 1) := by decide +kernel
theorem dX0_reaching_29 : decode cX0_reaching 29 = .ok (.iconst 1, 1) := by decide +kernel
theorem dX0_reaching_30 : decode cX0_reaching 30 = .ok (.iload_n 3, 1) := by decide +kernel
theorem dX0_reaching_31 : decode cX0_reaching 31 = .ok (.ishl, 1) := by decide +kernel
theorem dX0_reaching_32 : decode cX0_reaching 32 = .ok (.ior, 1) := by decide +kernel
theorem dX0_reaching_33 : decode cX0_reaching 33 = .ok (.istore_n 2, 1) := by decide +kernel
theorem dX0_reaching_34 : decode cX0_reaching 34 = .ok (.iinc 3 1, 3) := by decide +kernel
theorem dX0_reaching_37 : decode cX0_reaching 37 = .ok (.goto (-31), 3) := by decide +kernel
theorem dX0_reaching_40 : decode cX0_reaching 40 = .ok (.iload_n 2, 1) := by decide +kernel
theorem dX0_reaching_41 : decode cX0_reaching 41 = .ok (.ireturn, 1) := by decide +kernel
theorem dX0_countOf_0 : decode cX0_countOf 0 = .ok (.iconst 0, 1) := by decide +kernel
theorem dX0_countOf_1 : decode cX0_countOf 1 = .ok (.istore_n 2, 1) := by decide +kernel
theorem dX0_countOf_2 : decode cX0_countOf 2 = .ok (.iconst 0, 1) := by decide +kernel
theorem dX0_countOf_3 : decode cX0_countOf 3 = .ok (.istore_n 3, 1) := by decide +kernel
theorem dX0_countOf_4 : decode cX0_countOf 4 = .ok (.iload_n 3, 1) := by decide +kernel
theorem dX0_countOf_5 : decode cX0_countOf 5 = .ok (.aload_n 0, 1) := by decide +kernel
theorem dX0_countOf_6 : decode cX0_countOf 6 = .ok (.getfield 52, 3) := by decide +kernel
theorem dX0_countOf_9 : decode cX0_countOf 9 = .ok (.if_icmp .ge 31, 3) := by decide +kernel
theorem dX0_countOf_12 : decode cX0_countOf 12 = .ok (.aload_n 0, 1) := by decide +kernel
theorem dX0_countOf_13 : decode cX0_countOf 13 = .ok (.getfield 9, 3) := by decide +kernel
theorem dX0_countOf_16 : decode cX0_countOf 16 = .ok (.iload_n 3, 1) := by decide +kernel
theorem dX0_countOf_17 : decode cX0_countOf 17 = .ok (.iaload, 1) := by decide +kernel
theorem dX0_countOf_18 : decode cX0_countOf 18 = .ok (.ifCond .ne 16, 3) := by decide +kernel
theorem dX0_countOf_21 : decode cX0_countOf 21 = .ok (.aload_n 0, 1) := by decide +kernel
theorem dX0_countOf_22 : decode cX0_countOf 22 = .ok (.getfield 15, 3) := by decide +kernel
theorem dX0_countOf_25 : decode cX0_countOf 25 = .ok (.iload_n 3, 1) := by decide +kernel
theorem dX0_countOf_26 : decode cX0_countOf 26 = .ok (.iaload, 1) := by decide +kernel
theorem dX0_countOf_27 : decode cX0_countOf 27 = .ok (.iload_n 1, 1) := by decide +kernel
theorem dX0_countOf_28 : decode cX0_countOf 28 = .ok (.if_icmp .ne 6, 3) := by decide +kernel
theorem dX0_countOf_31 : decode cX0_countOf 31 = .ok (.iinc 2 1, 3) := by decide +kernel
theorem dX0_countOf_34 : decode cX0_countOf 34 = .ok (.iinc 3 1, 3) := by decide +kernel
theorem dX0_countOf_37 : decode cX0_countOf 37 = .ok (.goto (-33), 3) := by decide +kernel
theorem dX0_countOf_40 : decode cX0_countOf 40 = .ok (.iload_n 2, 1) := by decide +kernel
theorem dX0_countOf_41 : decode cX0_countOf 41 = .ok (.ireturn, 1) := by decide +kernel
theorem dX0_isShuffle_0 : decode cX0_isShuffle 0 = .ok (.aload_n 0, 1) := by decide +kernel
theorem dX0_isShuffle_1 : decode cX0_isShuffle 1 = .ok (.getfield 9, 3) := by decide +kernel
theorem dX0_isShuffle_4 : decode cX0_isShuffle 4 = .ok (.iload_n 1, 1) := by decide +kernel
theorem dX0_isShuffle_5 : decode cX0_isShuffle 5 = .ok (.iaload, 1) := by decide +kernel
theorem dX0_isShuffle_6 : decode cX0_isShuffle 6 = .ok (.ifCond .ne 18, 3) := by decide +kernel
theorem dX0_isShuffle_9 : decode cX0_isShuffle 9 = .ok (.aload_n 0, 1) := by decide +kernel
theorem dX0_isShuffle_10 : decode cX0_isShuffle 10 = .ok (.getfield 15, 3) := by decide +kernel
theorem dX0_isShuffle_13 : decode cX0_isShuffle 13 = .ok (.iload_n 1, 1) := by decide +kernel
theorem dX0_isShuffle_14 : decode cX0_isShuffle 14 = .ok (.iaload, 1) := by decide +kernel
theorem dX0_isShuffle_15 : decode cX0_isShuffle 15 = .ok (.bipush 7, 2) := by decide +kernel
theorem dX0_isShuffle_17 : decode cX0_isShuffle 17 = .ok (.if_icmp .ge 7, 3) := by decide +kernel
theorem dX0_isShuffle_20 : decode cX0_isShuffle 20 = .ok (.iconst 1, 1) := by decide +kernel
theorem dX0_isShuffle_21 : decode cX0_isShuffle 21 = .ok (.goto 4, 3) := by decide +kernel
theorem dX0_isShuffle_24 : decode cX0_isShuffle 24 = .ok (.iconst 0, 1) := by decide +kernel
theorem dX0_isShuffle_25 : decode cX0_isShuffle 25 = .ok (.ireturn, 1) := by decide +kernel
theorem dX0_isPure_0 : decode cX0_isPure 0 = .ok (.aload_n 0, 1) := by decide +kernel
theorem dX0_isPure_1 : decode cX0_isPure 1 = .ok (.getfield 24, 3) := by decide +kernel
theorem dX0_isPure_4 : decode cX0_isPure 4 = .ok (.iload_n 1, 1) := by decide +kernel
theorem dX0_isPure_5 : decode cX0_isPure 5 = .ok (.iaload, 1) := by decide +kernel
theorem dX0_isPure_6 : decode cX0_isPure 6 = .ok (.istore_n 2, 1) := by decide +kernel
theorem dX0_isPure_7 : decode cX0_isPure 7 = .ok (.iload_n 2, 1) := by decide +kernel
theorem dX0_isPure_8 : decode cX0_isPure 8 = .ok (.aload_n 0, 1) := by decide +kernel
theorem dX0_isPure_9 : decode cX0_isPure 9 = .ok (.getfield 24, 3) := by decide +kernel
theorem dX0_isPure_12 : decode cX0_isPure 12 = .ok (.iload_n 1, 1) := by decide +kernel
theorem dX0_isPure_13 : decode cX0_isPure 13 = .ok (.iconst 1, 1) := by decide +kernel
theorem dX0_isPure_14 : decode cX0_isPure 14 = .ok (.iadd, 1) := by decide +kernel
theorem dX0_isPure_15 : decode cX0_isPure 15 = .ok (.iaload, 1) := by decide +kernel
theorem dX0_isPure_16 : decode cX0_isPure 16 = .ok (.if_icmp .ge 19, 3) := by decide +kernel
theorem dX0_isPure_19 : decode cX0_isPure 19 = .ok (.aload_n 0, 1) := by decide +kernel
theorem dX0_isPure_20 : decode cX0_isPure 20 = .ok (.iload_n 2, 1) := by decide +kernel
theorem dX0_isPure_21 : decode cX0_isPure 21 = .ok (.invokevirtual 72, 3) := by decide +kernel
theorem dX0_isPure_24 : decode cX0_isPure 24 = .ok (.ifCond .ne 5, 3) := by decide +kernel
theorem dX0_isPure_27 : decode cX0_isPure 27 = .ok (.iconst 0, 1) := by decide +kernel
theorem dX0_isPure_28 : decode cX0_isPure 28 = .ok (.ireturn, 1) := by decide +kernel
theorem dX0_isPure_29 : decode cX0_isPure 29 = .ok (.iinc 2 1, 3) := by decide +kernel
theorem dX0_isPure_32 : decode cX0_isPure 32 = .ok (.goto (-25), 3) := by decide +kernel
theorem dX0_isPure_35 : decode cX0_isPure 35 = .ok (.iconst 1, 1) := by decide +kernel
theorem dX0_isPure_36 : decode cX0_isPure 36 = .ok (.ireturn, 1) := by decide +kernel
theorem dX1_init_0 : decode cX1_init 0 = .ok (.aload_n 0, 1) := by decide +kernel
theorem dX1_init_1 : decode cX1_init 1 = .ok (.invokespecial 3, 3) := by decide +kernel
theorem dX1_init_4 : decode cX1_init 4 = .ok (.aload_n 0, 1) := by decide +kernel
theorem dX1_init_5 : decode cX1_init 5 = .ok (.bipush 19, 2) := by decide +kernel
theorem dX1_init_7 : decode cX1_init 7 = .ok (.newarray .int, 2) := by decide +kernel
theorem dX1_init_9 : decode cX1_init 9 = .ok (.putfield 9, 3) := by decide +kernel
theorem dX1_init_12 : decode cX1_init 12 = .ok (.aload_n 0, 1) := by decide +kernel
theorem dX1_init_13 : decode cX1_init 13 = .ok (.bipush 6, 2) := by decide +kernel
theorem dX1_init_15 : decode cX1_init 15 = .ok (.newarray .int, 2) := by decide +kernel
theorem dX1_init_17 : decode cX1_init 17 = .ok (.putfield 15, 3) := by decide +kernel
theorem dX1_init_20 : decode cX1_init 20 = .ok (.aload_n 0, 1) := by decide +kernel
theorem dX1_init_21 : decode cX1_init 21 = .ok (.iconst 5, 1) := by decide +kernel
theorem dX1_init_22 : decode cX1_init 22 = .ok (.newarray .int, 2) := by decide +kernel
theorem dX1_init_24 : decode cX1_init 24 = .ok (.putfield 18, 3) := by decide +kernel
theorem dX1_init_27 : decode cX1_init 27 = .ok (.aload_n 0, 1) := by decide +kernel
theorem dX1_init_28 : decode cX1_init 28 = .ok (.iconst 5, 1) := by decide +kernel
theorem dX1_init_29 : decode cX1_init 29 = .ok (.newarray .int, 2) := by decide +kernel
theorem dX1_init_31 : decode cX1_init 31 = .ok (.putfield 21, 3) := by decide +kernel
theorem dX1_init_34 : decode cX1_init 34 = .ok (.return_, 1) := by decide +kernel
theorem dX1_priceByForm_0 : decode cX1_priceByForm 0 = .ok (.aload_n 1, 1) := by decide +kernel
theorem dX1_priceByForm_1 : decode cX1_priceByForm 1 = .ok (.getfield 24, 3) := by decide +kernel
theorem dX1_priceByForm_4 : decode cX1_priceByForm 4 = .ok (.iload_n 2, 1) := by decide +kernel
theorem dX1_priceByForm_5 : decode cX1_priceByForm 5 = .ok (.bipush 19, 2) := by decide +kernel
theorem dX1_priceByForm_7 : decode cX1_priceByForm 7 = .ok (.imul, 1) := by decide +kernel
theorem dX1_priceByForm_8 : decode cX1_priceByForm 8 = .ok (.aload_n 0, 1) := by decide +kernel
theorem dX1_priceByForm_9 : decode cX1_priceByForm 9 = .ok (.getfield 9, 3) := by decide +kernel
theorem dX1_priceByForm_12 : decode cX1_priceByForm 12 = .ok (.iconst 0, 1) := by decide +kernel
theorem dX1_priceByForm_13 : decode cX1_priceByForm 13 = .ok (.bipush 19, 2) := by decide +kernel
theorem dX1_priceByForm_15 : decode cX1_priceByForm 15 = .ok (.invokestatic 29, 3) := by decide +kernel
theorem dX1_priceByForm_18 : decode cX1_priceByForm 18 = .ok (.return_, 1) := by decide +kernel
theorem dX1_priceAlike_0 : decode cX1_priceAlike 0 = .ok (.aload_n 0, 1) := by decide +kernel
theorem dX1_priceAlike_1 : decode cX1_priceAlike 1 = .ok (.getfield 9, 3) := by decide +kernel
theorem dX1_priceAlike_4 : decode cX1_priceAlike 4 = .ok (.iload_n 1, 1) := by decide +kernel
theorem dX1_priceAlike_5 : decode cX1_priceAlike 5 = .ok (.invokestatic 35, 3) := by decide +kernel
theorem dX1_priceAlike_8 : decode cX1_priceAlike 8 = .ok (.return_, 1) := by decide +kernel
theorem dX1_timeOf_0 : decode cX1_timeOf 0 = .ok (.iconst 0, 1) := by decide +kernel
theorem dX1_timeOf_1 : decode cX1_timeOf 1 = .ok (.istore 4, 2) := by decide +kernel
theorem dX1_timeOf_3 : decode cX1_timeOf 3 = .ok (.iload 4, 2) := by decide +kernel
theorem dX1_timeOf_5 : decode cX1_timeOf 5 = .ok (.iload_n 3, 1) := by decide +kernel
theorem dX1_timeOf_6 : decode cX1_timeOf 6 = .ok (.if_icmp .gt 24, 3) := by decide +kernel
theorem dX1_timeOf_9 : decode cX1_timeOf 9 = .ok (.aload_n 0, 1) := by decide +kernel
theorem dX1_timeOf_10 : decode cX1_timeOf 10 = .ok (.getfield 15, 3) := by decide +kernel
theorem dX1_timeOf_13 : decode cX1_timeOf 13 = .ok (.iload 4, 2) := by decide +kernel
theorem dX1_timeOf_15 : decode cX1_timeOf 15 = .ok (.aload_n 0, 1) := by decide +kernel
theorem dX1_timeOf_16 : decode cX1_timeOf 16 = .ok (.aload_n 1, 1) := by decide +kernel
theorem dX1_timeOf_17 : decode cX1_timeOf 17 = .ok (.iload_n 2, 1) := by decide +kernel
theorem dX1_timeOf_18 : decode cX1_timeOf 18 = .ok (.iload 4, 2) := by decide +kernel
theorem dX1_timeOf_20 : decode cX1_timeOf 20 = .ok (.invokevirtual 41, 3) := by decide +kernel
theorem dX1_timeOf_23 : decode cX1_timeOf 23 = .ok (.iastore, 1) := by decide +kernel
theorem dX1_timeOf_24 : decode cX1_timeOf 24 = .ok (.iinc 4 1, 3) := by decide +kernel
theorem dX1_timeOf_27 : decode cX1_timeOf 27 = .ok (.goto (-24), 3) := by decide +kernel
theorem dX1_timeOf_30 : decode cX1_timeOf 30 = .ok (.aload_n 0, 1) := by decide +kernel
theorem dX1_timeOf_31 : decode cX1_timeOf 31 = .ok (.getfield 15, 3) := by decide +kernel
theorem dX1_timeOf_34 : decode cX1_timeOf 34 = .ok (.iload_n 3, 1) := by decide +kernel
theorem dX1_timeOf_35 : decode cX1_timeOf 35 = .ok (.iaload, 1) := by decide +kernel
theorem dX1_timeOf_36 : decode cX1_timeOf 36 = .ok (.ireturn, 1) := by decide +kernel
theorem dX1_timeAlone_0 : decode cX1_timeAlone 0 = .ok (.iconst 0, 1) := by decide +kernel
theorem dX1_timeAlone_1 : decode cX1_timeAlone 1 = .ok (.istore 4, 2) := by decide +kernel
theorem dX1_timeAlone_3 : decode cX1_timeAlone 3 = .ok (.iconst 0, 1) := by decide +kernel
theorem dX1_timeAlone_4 : decode cX1_timeAlone 4 = .ok (.istore 5, 2) := by decide +kernel
theorem dX1_timeAlone_6 : decode cX1_timeAlone 6 = .ok (.aload_n 1, 1) := by decide +kernel
theorem dX1_timeAlone_7 : decode cX1_timeAlone 7 = .ok (.getfield 45, 3) := by decide +kernel
theorem dX1_timeAlone_10 : decode cX1_timeAlone 10 = .ok (.iload_n 3, 1) := by decide +kernel
theorem dX1_timeAlone_11 : decode cX1_timeAlone 11 = .ok (.iaload, 1) := by decide +kernel
theorem dX1_timeAlone_12 : decode cX1_timeAlone 12 = .ok (.istore 6, 2) := by decide +kernel
theorem dX1_timeAlone_14 : decode cX1_timeAlone 14 = .ok (.iload 6, 2) := by decide +kernel
theorem dX1_timeAlone_16 : decode cX1_timeAlone 16 = .ok (.aload_n 1, 1) := by decide +kernel
theorem dX1_timeAlone_17 : decode cX1_timeAlone 17 = .ok (.getfield 45, 3) := by decide +kernel
theorem dX1_timeAlone_20 : decode cX1_timeAlone 20 = .ok (.iload_n 3, 1) := by decide +kernel
theorem dX1_timeAlone_21 : decode cX1_timeAlone 21 = .ok (.iconst 1, 1) := by decide +kernel
theorem dX1_timeAlone_22 : decode cX1_timeAlone 22 = .ok (.iadd, 1) := by decide +kernel
theorem dX1_timeAlone_23 : decode cX1_timeAlone 23 = .ok (.iaload, 1) := by decide +kernel
theorem dX1_timeAlone_24 : decode cX1_timeAlone 24 = .ok (.if_icmp .ge 266, 3) := by decide +kernel
theorem dX1_timeAlone_27 : decode cX1_timeAlone 27 = .ok (.aload_n 1, 1) := by decide +kernel
theorem dX1_timeAlone_28 : decode cX1_timeAlone 28 = .ok (.getfield 48, 3) := by decide +kernel
theorem dX1_timeAlone_31 : decode cX1_timeAlone 31 = .ok (.iload 6, 2) := by decide +kernel
theorem dX1_timeAlone_33 : decode cX1_timeAlone 33 = .ok (.iaload, 1) := by decide +kernel
theorem dX1_timeAlone_34 : decode cX1_timeAlone 34 = .ok (.istore 7, 2) := by decide +kernel
theorem dX1_timeAlone_36 : decode cX1_timeAlone 36 = .ok (.aload_n 1, 1) := by decide +kernel
theorem dX1_timeAlone_37 : decode cX1_timeAlone 37 = .ok (.getfield 51, 3) := by decide +kernel
theorem dX1_timeAlone_40 : decode cX1_timeAlone 40 = .ok (.iload 6, 2) := by decide +kernel
theorem dX1_timeAlone_42 : decode cX1_timeAlone 42 = .ok (.iaload, 1) := by decide +kernel
theorem dX1_timeAlone_43 : decode cX1_timeAlone 43 = .ok (.tableswitch 210 0 7 #[45, 60, 75, 210, 111, 126, 210, 169], 45) := by decide +kernel
theorem dX1_timeAlone_88 : decode cX1_timeAlone 88 = .ok (.iload 4, 2) := by decide +kernel
theorem dX1_timeAlone_90 : decode cX1_timeAlone 90 = .ok (.aload_n 0, 1) := by decide +kernel
theorem dX1_timeAlone_91 : decode cX1_timeAlone 91 = .ok (.getfield 9, 3) := by decide +kernel
theorem dX1_timeAlone_94 : decode cX1_timeAlone 94 = .ok (.iload 7, 2) := by decide +kernel
theorem dX1_timeAlone_96 : decode cX1_timeAlone 96 = .ok (.iaload, 1) := by decide +kernel
theorem dX1_timeAlone_97 : decode cX1_timeAlone 97 = .ok (.iadd, 1) := by decide +kernel
theorem dX1_timeAlone_98 : decode cX1_timeAlone 98 = .ok (.istore 4, 2) := by decide +kernel
theorem dX1_timeAlone_100 : decode cX1_timeAlone 100 = .ok (.goto 184, 3) := by decide +kernel
theorem dX1_timeAlone_103 : decode cX1_timeAlone 103 = .ok (.iload 4, 2) := by decide +kernel
theorem dX1_timeAlone_105 : decode cX1_timeAlone 105 = .ok (.aload_n 0, 1) := by decide +kernel
theorem dX1_timeAlone_106 : decode cX1_timeAlone 106 = .ok (.getfield 9, 3) := by decide +kernel
theorem dX1_timeAlone_109 : decode cX1_timeAlone 109 = .ok (.bipush 15, 2) := by decide +kernel
theorem dX1_timeAlone_111 : decode cX1_timeAlone 111 = .ok (.iaload, 1) := by decide +kernel
theorem dX1_timeAlone_112 : decode cX1_timeAlone 112 = .ok (.iadd, 1) := by decide +kernel
theorem dX1_timeAlone_113 : decode cX1_timeAlone 113 = .ok (.istore 4, 2) := by decide +kernel
theorem dX1_timeAlone_115 : decode cX1_timeAlone 115 = .ok (.goto 169, 3) := by decide +kernel
theorem dX1_timeAlone_118 : decode cX1_timeAlone 118 = .ok (.iload 4, 2) := by decide +kernel
theorem dX1_timeAlone_120 : decode cX1_timeAlone 120 = .ok (.aload_n 0, 1) := by decide +kernel
theorem dX1_timeAlone_121 : decode cX1_timeAlone 121 = .ok (.getfield 15, 3) := by decide +kernel
theorem dX1_timeAlone_124 : decode cX1_timeAlone 124 = .ok (.iload 7, 2) := by decide +kernel
theorem dX1_timeAlone_126 : decode cX1_timeAlone 126 = .ok (.iaload, 1) := by decide +kernel
theorem dX1_timeAlone_127 : decode cX1_timeAlone 127 = .ok (.iload_n 2, 1) := by decide +kernel
theorem dX1_timeAlone_128 : decode cX1_timeAlone 128 = .ok (.iload 7, 2) := by decide +kernel
theorem dX1_timeAlone_130 : decode cX1_timeAlone 130 = .ok (.ishr, 1) := by decide +kernel
theorem dX1_timeAlone_131 : decode cX1_timeAlone 131 = .ok (.iconst 1, 1) := by decide +kernel
theorem dX1_timeAlone_132 : decode cX1_timeAlone 132 = .ok (.iand, 1) := by decide +kernel
theorem dX1_timeAlone_133 : decode cX1_timeAlone 133 = .ok (.ifCond .ne 13, 3) := by decide +kernel
theorem dX1_timeAlone_136 : decode cX1_timeAlone 136 = .ok (.aload_n 0, 1) := by decide +kernel
theorem dX1_timeAlone_137 : decode cX1_timeAlone 137 = .ok (.getfield 9, 3) := by decide +kernel
theorem dX1_timeAlone_140 : decode cX1_timeAlone 140 = .ok (.bipush 16, 2) := by decide +kernel
theorem dX1_timeAlone_142 : decode cX1_timeAlone 142 = .ok (.iaload, 1) := by decide +kernel
theorem dX1_timeAlone_143 : decode cX1_timeAlone 143 = .ok (.goto 4, 3) := by decide +kernel
theorem dX1_timeAlone_146 : decode cX1_timeAlone 146 = .ok (.iconst 0, 1) := by decide +kernel
theorem dX1_timeAlone_147 : decode cX1_timeAlone 147 = .ok (.iadd, 1) := by decide +kernel
theorem dX1_timeAlone_148 : decode cX1_timeAlone 148 = .ok (.iadd, 1) := by decide +kernel
theorem dX1_timeAlone_149 : decode cX1_timeAlone 149 = .ok (.istore 4, 2) := by decide +kernel
theorem dX1_timeAlone_151 : decode cX1_timeAlone 151 = .ok (.goto 133, 3) := by decide +kernel
theorem dX1_timeAlone_154 : decode cX1_timeAlone 154 = .ok (.aload_n 0, 1) := by decide +kernel
theorem dX1_timeAlone_155 : decode cX1_timeAlone 155 = .ok (.getfield 21, 3) := by decide +kernel
theorem dX1_timeAlone_158 : decode cX1_timeAlone 158 = .ok (.iload 5, 2) := by decide +kernel
theorem dX1_timeAlone_160 : decode cX1_timeAlone 160 = .ok (.iload 4, 2) := by decide +kernel
theorem dX1_timeAlone_162 : decode cX1_timeAlone 162 = .ok (.iastore, 1) := by decide +kernel
theorem dX1_timeAlone_163 : decode cX1_timeAlone 163 = .ok (.iconst 0, 1) := by decide +kernel
theorem dX1_timeAlone_164 : decode cX1_timeAlone 164 = .ok (.istore 4, 2) := by decide +kernel
theorem dX1_timeAlone_166 : decode cX1_timeAlone 166 = .ok (.goto 118, 3) := by decide +kernel
theorem dX1_timeAlone_169 : decode cX1_timeAlone 169 = .ok (.aload_n 0, 1) := by decide +kernel
theorem dX1_timeAlone_170 : decode cX1_timeAlone 170 = .ok (.getfield 18, 3) := by decide +kernel
theorem dX1_timeAlone_173 : decode cX1_timeAlone 173 = .ok (.iload 5, 2) := by decide +kernel
theorem dX1_timeAlone_175 : decode cX1_timeAlone 175 = .ok (.iaload, 1) := by decide +kernel
theorem dX1_timeAlone_176 : decode cX1_timeAlone 176 = .ok (.aload_n 0, 1) := by decide +kernel
theorem dX1_timeAlone_177 : decode cX1_timeAlone 177 = .ok (.getfield 9, 3) := by decide +kernel
theorem dX1_timeAlone_180 : decode cX1_timeAlone 180 = .ok (.bipush 17, 2) := by decide +kernel
theorem dX1_timeAlone_182 : decode cX1_timeAlone 182 = .ok (.iaload, 1) := by decide +kernel
theorem dX1_timeAlone_183 : decode cX1_timeAlone 183 = .ok (.iadd, 1) := by decide +kernel
theorem dX1_timeAlone_184 : decode cX1_timeAlone 184 = .ok (.iload 4, 2) := by decide +kernel
theorem dX1_timeAlone_186 : decode cX1_timeAlone 186 = .ok (.aload_n 0, 1) := by decide +kernel
theorem dX1_timeAlone_187 : decode cX1_timeAlone 187 = .ok (.getfield 21, 3) := by decide +kernel
theorem dX1_timeAlone_190 : decode cX1_timeAlone 190 = .ok (.iload 5, 2) := by decide +kernel
theorem dX1_timeAlone_192 : decode cX1_timeAlone 192 = .ok (.iaload, 1) := by decide +kernel
theorem dX1_timeAlone_193 : decode cX1_timeAlone 193 = .ok (.invokestatic 54, 3) := by decide +kernel
theorem dX1_timeAlone_196 : decode cX1_timeAlone 196 = .ok (.iadd, 1) := by decide +kernel
theorem dX1_timeAlone_197 : decode cX1_timeAlone 197 = .ok (.istore 4, 2) := by decide +kernel
theorem dX1_timeAlone_199 : decode cX1_timeAlone 199 = .ok (.iconst 0, 1) := by decide +kernel
theorem dX1_timeAlone_200 : decode cX1_timeAlone 200 = .ok (.iload 5, 2) := by decide +kernel
theorem dX1_timeAlone_202 : decode cX1_timeAlone 202 = .ok (.iconst 1, 1) := by decide +kernel
theorem dX1_timeAlone_203 : decode cX1_timeAlone 203 = .ok (.isub, 1) := by decide +kernel
theorem dX1_timeAlone_204 : decode cX1_timeAlone 204 = .ok (.invokestatic 54, 3) := by decide +kernel
theorem dX1_timeAlone_207 : decode cX1_timeAlone 207 = .ok (.istore 5, 2) := by decide +kernel
theorem dX1_timeAlone_209 : decode cX1_timeAlone 209 = .ok (.goto 75, 3) := by decide +kernel
theorem dX1_timeAlone_212 : decode cX1_timeAlone 212 = .ok (.aload_n 0, 1) := by decide +kernel
theorem dX1_timeAlone_213 : decode cX1_timeAlone 213 = .ok (.getfield 18, 3) := by decide +kernel
theorem dX1_timeAlone_216 : decode cX1_timeAlone 216 = .ok (.iload 5, 2) := by decide +kernel
theorem dX1_timeAlone_218 : decode cX1_timeAlone 218 = .ok (.iaload, 1) := by decide +kernel
theorem dX1_timeAlone_219 : decode cX1_timeAlone 219 = .ok (.aload_n 0, 1) := by decide +kernel
theorem dX1_timeAlone_220 : decode cX1_timeAlone 220 = .ok (.getfield 21, 3) := by decide +kernel
theorem dX1_timeAlone_223 : decode cX1_timeAlone 223 = .ok (.iload 5, 2) := by decide +kernel
theorem dX1_timeAlone_225 : decode cX1_timeAlone 225 = .ok (.iaload, 1) := by decide +kernel
theorem dX1_timeAlone_226 : decode cX1_timeAlone 226 = .ok (.aload_n 0, 1) := by decide +kernel
theorem dX1_timeAlone_227 : decode cX1_timeAlone 227 = .ok (.getfield 9, 3) := by decide +kernel
theorem dX1_timeAlone_230 : decode cX1_timeAlone 230 = .ok (.bipush 18, 2) := by decide +kernel
theorem dX1_timeAlone_232 : decode cX1_timeAlone 232 = .ok (.iaload, 1) := by decide +kernel
theorem dX1_timeAlone_233 : decode cX1_timeAlone 233 = .ok (.iload 4, 2) := by decide +kernel
theorem dX1_timeAlone_235 : decode cX1_timeAlone 235 = .ok (.iadd, 1) := by decide +kernel
theorem dX1_timeAlone_236 : decode cX1_timeAlone 236 = .ok (.imul, 1) := by decide +kernel
theorem dX1_timeAlone_237 : decode cX1_timeAlone 237 = .ok (.iadd, 1) := by decide +kernel
theorem dX1_timeAlone_238 : decode cX1_timeAlone 238 = .ok (.istore 4, 2) := by decide +kernel
theorem dX1_timeAlone_240 : decode cX1_timeAlone 240 = .ok (.iconst 0, 1) := by decide +kernel
theorem dX1_timeAlone_241 : decode cX1_timeAlone 241 = .ok (.iload 5, 2) := by decide +kernel
theorem dX1_timeAlone_243 : decode cX1_timeAlone 243 = .ok (.iconst 1, 1) := by decide +kernel
theorem dX1_timeAlone_244 : decode cX1_timeAlone 244 = .ok (.isub, 1) := by decide +kernel
theorem dX1_timeAlone_245 : decode cX1_timeAlone 245 = .ok (.invokestatic 54, 3) := by decide +kernel
theorem dX1_timeAlone_248 : decode cX1_timeAlone 248 = .ok (.istore 5, 2) := by decide +kernel
theorem dX1_timeAlone_250 : decode cX1_timeAlone 250 = .ok (.goto 34, 3) := by decide +kernel
theorem dX1_timeAlone_253 : decode cX1_timeAlone 253 = .ok (.iconst 4, 1) := by decide +kernel
theorem dX1_timeAlone_254 : decode cX1_timeAlone 254 = .ok (.iload 5, 2) := by decide +kernel
theorem dX1_timeAlone_256 : decode cX1_timeAlone 256 = .ok (.iconst 1, 1) := by decide +kernel
theorem dX1_timeAlone_257 : decode cX1_timeAlone 257 = .ok (.iadd, 1) := by decide +kernel
theorem dX1_timeAlone_258 : decode cX1_timeAlone 258 = .ok (.invokestatic 60, 3) := by decide +kernel
theorem dX1_timeAlone_261 : decode cX1_timeAlone 261 = .ok (.istore 5, 2) := by decide +kernel
theorem dX1_timeAlone_263 : decode cX1_timeAlone 263 = .ok (.aload_n 0, 1) := by decide +kernel
theorem dX1_timeAlone_264 : decode cX1_timeAlone 264 = .ok (.getfield 18, 3) := by decide +kernel
theorem dX1_timeAlone_267 : decode cX1_timeAlone 267 = .ok (.iload 5, 2) := by decide +kernel
theorem dX1_timeAlone_269 : decode cX1_timeAlone 269 = .ok (.iload 4, 2) := by decide +kernel
theorem dX1_timeAlone_271 : decode cX1_timeAlone 271 = .ok (.iastore, 1) := by decide +kernel
theorem dX1_timeAlone_272 : decode cX1_timeAlone 272 = .ok (.aload_n 0, 1) := by decide +kernel
theorem dX1_timeAlone_273 : decode cX1_timeAlone 273 = .ok (.getfield 21, 3) := by decide +kernel
theorem dX1_timeAlone_276 : decode cX1_timeAlone 276 = .ok (.iload 5, 2) := by decide +kernel
theorem dX1_timeAlone_278 : decode cX1_timeAlone 278 = .ok (.iload 7, 2) := by decide +kernel
theorem dX1_timeAlone_280 : decode cX1_timeAlone 280 = .ok (.iastore, 1) := by decide +kernel
theorem dX1_timeAlone_281 : decode cX1_timeAlone 281 = .ok (.iconst 0, 1) := by decide +kernel
theorem dX1_timeAlone_282 : decode cX1_timeAlone 282 = .ok (.istore 4, 2) := by decide +kernel
theorem dX1_timeAlone_284 : decode cX1_timeAlone 284 = .ok (.iinc 6 1, 3) := by decide +kernel
theorem dX1_timeAlone_287 : decode cX1_timeAlone 287 = .ok (.goto (-273), 3) := by decide +kernel
theorem dX1_timeAlone_290 : decode cX1_timeAlone 290 = .ok (.iload 4, 2) := by decide +kernel
theorem dX1_timeAlone_292 : decode cX1_timeAlone 292 = .ok (.ireturn, 1) := by decide +kernel
theorem dX1_roomOf_0 : decode cX1_roomOf 0 = .ok (.iconst 0, 1) := by decide +kernel
theorem dX1_roomOf_1 : decode cX1_roomOf 1 = .ok (.istore 5, 2) := by decide +kernel
theorem dX1_roomOf_3 : decode cX1_roomOf 3 = .ok (.iload 5, 2) := by decide +kernel
theorem dX1_roomOf_5 : decode cX1_roomOf 5 = .ok (.iload_n 3, 1) := by decide +kernel
theorem dX1_roomOf_6 : decode cX1_roomOf 6 = .ok (.if_icmp .gt 76, 3) := by decide +kernel
theorem dX1_roomOf_9 : decode cX1_roomOf 9 = .ok (.iconst 0, 1) := by decide +kernel
theorem dX1_roomOf_10 : decode cX1_roomOf 10 = .ok (.istore 6, 2) := by decide +kernel
theorem dX1_roomOf_12 : decode cX1_roomOf 12 = .ok (.aload_n 1, 1) := by decide +kernel
theorem dX1_roomOf_13 : decode cX1_roomOf 13 = .ok (.getfield 45, 3) := by decide +kernel
theorem dX1_roomOf_16 : decode cX1_roomOf 16 = .ok (.iload 5, 2) := by decide +kernel
theorem dX1_roomOf_18 : decode cX1_roomOf 18 = .ok (.iaload, 1) := by decide +kernel
theorem dX1_roomOf_19 : decode cX1_roomOf 19 = .ok (.istore 7, 2) := by decide +kernel
theorem dX1_roomOf_21 : decode cX1_roomOf 21 = .ok (.iload 7, 2) := by decide +kernel
theorem dX1_roomOf_23 : decode cX1_roomOf 23 = .ok (.aload_n 1, 1) := by decide +kernel
theorem dX1_roomOf_24 : decode cX1_roomOf 24 = .ok (.getfield 45, 3) := by decide +kernel
theorem dX1_roomOf_27 : decode cX1_roomOf 27 = .ok (.iload 5, 2) := by decide +kernel
theorem dX1_roomOf_29 : decode cX1_roomOf 29 = .ok (.iconst 1, 1) := by decide +kernel
theorem dX1_roomOf_30 : decode cX1_roomOf 30 = .ok (.iadd, 1) := by decide +kernel
theorem dX1_roomOf_31 : decode cX1_roomOf 31 = .ok (.iaload, 1) := by decide +kernel
theorem dX1_roomOf_32 : decode cX1_roomOf 32 = .ok (.if_icmp .ge 35, 3) := by decide +kernel
theorem dX1_roomOf_35 : decode cX1_roomOf 35 = .ok (.iload 6, 2) := by decide +kernel
theorem dX1_roomOf_37 : decode cX1_roomOf 37 = .ok (.aload_n 0, 1) := by decide +kernel
theorem dX1_roomOf_38 : decode cX1_roomOf 38 = .ok (.aload_n 1, 1) := by decide +kernel
theorem dX1_roomOf_39 : decode cX1_roomOf 39 = .ok (.getfield 51, 3) := by decide +kernel
theorem dX1_roomOf_42 : decode cX1_roomOf 42 = .ok (.iload 7, 2) := by decide +kernel
theorem dX1_roomOf_44 : decode cX1_roomOf 44 = .ok (.iaload, 1) := by decide +kernel
theorem dX1_roomOf_45 : decode cX1_roomOf 45 = .ok (.aload_n 1, 1) := by decide +kernel
theorem dX1_roomOf_46 : decode cX1_roomOf 46 = .ok (.getfield 48, 3) := by decide +kernel
theorem dX1_roomOf_49 : decode cX1_roomOf 49 = .ok (.iload 7, 2) := by decide +kernel
theorem dX1_roomOf_51 : decode cX1_roomOf 51 = .ok (.iaload, 1) := by decide +kernel
theorem dX1_roomOf_52 : decode cX1_roomOf 52 = .ok (.iload_n 2, 1) := by decide +kernel
theorem dX1_roomOf_53 : decode cX1_roomOf 53 = .ok (.iload 4, 2) := by decide +kernel
theorem dX1_roomOf_55 : decode cX1_roomOf 55 = .ok (.invokevirtual 63, 3) := by decide +kernel
theorem dX1_roomOf_58 : decode cX1_roomOf 58 = .ok (.iadd, 1) := by decide +kernel
theorem dX1_roomOf_59 : decode cX1_roomOf 59 = .ok (.istore 6, 2) := by decide +kernel
theorem dX1_roomOf_61 : decode cX1_roomOf 61 = .ok (.iinc 7 1, 3) := by decide +kernel
theorem dX1_roomOf_64 : decode cX1_roomOf 64 = .ok (.goto (-43), 3) := by decide +kernel
theorem dX1_roomOf_67 : decode cX1_roomOf 67 = .ok (.aload_n 0, 1) := by decide +kernel
theorem dX1_roomOf_68 : decode cX1_roomOf 68 = .ok (.getfield 15, 3) := by decide +kernel
theorem dX1_roomOf_71 : decode cX1_roomOf 71 = .ok (.iload 5, 2) := by decide +kernel
theorem dX1_roomOf_73 : decode cX1_roomOf 73 = .ok (.iload 6, 2) := by decide +kernel
theorem dX1_roomOf_75 : decode cX1_roomOf 75 = .ok (.iastore, 1) := by decide +kernel
theorem dX1_roomOf_76 : decode cX1_roomOf 76 = .ok (.iinc 5 1, 3) := by decide +kernel
theorem dX1_roomOf_79 : decode cX1_roomOf 79 = .ok (.goto (-76), 3) := by decide +kernel
theorem dX1_roomOf_82 : decode cX1_roomOf 82 = .ok (.iconst 1, 1) := by decide +kernel
theorem dX1_roomOf_83 : decode cX1_roomOf 83 = .ok (.iload 4, 2) := by decide +kernel
theorem dX1_roomOf_85 : decode cX1_roomOf 85 = .ok (.iadd, 1) := by decide +kernel
theorem dX1_roomOf_86 : decode cX1_roomOf 86 = .ok (.aload_n 0, 1) := by decide +kernel
theorem dX1_roomOf_87 : decode cX1_roomOf 87 = .ok (.getfield 15, 3) := by decide +kernel
theorem dX1_roomOf_90 : decode cX1_roomOf 90 = .ok (.iload_n 3, 1) := by decide +kernel
theorem dX1_roomOf_91 : decode cX1_roomOf 91 = .ok (.iaload, 1) := by decide +kernel
theorem dX1_roomOf_92 : decode cX1_roomOf 92 = .ok (.iadd, 1) := by decide +kernel
theorem dX1_roomOf_93 : decode cX1_roomOf 93 = .ok (.ireturn, 1) := by decide +kernel
theorem dX1_roomOfItem_0 : decode cX1_roomOfItem 0 = .ok (.iload_n 1, 1) := by decide +kernel
theorem dX1_roomOfItem_1 : decode cX1_roomOfItem 1 = .ok (.tableswitch 74 0 5 #[39, 41, 53, 74, 74, 72], 39) := by decide +kernel
theorem dX1_roomOfItem_40 : decode cX1_roomOfItem 40 = .ok (.iconst 1, 1) := by decide +kernel
theorem dX1_roomOfItem_41 : decode cX1_roomOfItem 41 = .ok (.ireturn, 1) := by decide +kernel
theorem dX1_roomOfItem_42 : decode cX1_roomOfItem 42 = .ok (.iload 4, 2) := by decide +kernel
theorem dX1_roomOfItem_44 : decode cX1_roomOfItem 44 = .ok (.iconst 2, 1) := by decide +kernel
theorem dX1_roomOfItem_45 : decode cX1_roomOfItem 45 = .ok (.if_icmp .ne 7, 3) := by decide +kernel
theorem dX1_roomOfItem_48 : decode cX1_roomOfItem 48 = .ok (.iconst 3, 1) := by decide +kernel
theorem dX1_roomOfItem_49 : decode cX1_roomOfItem 49 = .ok (.goto 4, 3) := by decide +kernel
theorem dX1_roomOfItem_52 : decode cX1_roomOfItem 52 = .ok (.iconst 2, 1) := by decide +kernel
theorem dX1_roomOfItem_53 : decode cX1_roomOfItem 53 = .ok (.ireturn, 1) := by decide +kernel
theorem dX1_roomOfItem_54 : decode cX1_roomOfItem 54 = .ok (.iload_n 3, 1) := by decide +kernel
theorem dX1_roomOfItem_55 : decode cX1_roomOfItem 55 = .ok (.iload_n 2, 1) := by decide +kernel
theorem dX1_roomOfItem_56 : decode cX1_roomOfItem 56 = .ok (.ishr, 1) := by decide +kernel
theorem dX1_roomOfItem_57 : decode cX1_roomOfItem 57 = .ok (.iconst 1, 1) := by decide +kernel
theorem dX1_roomOfItem_58 : decode cX1_roomOfItem 58 = .ok (.iand, 1) := by decide +kernel
theorem dX1_roomOfItem_59 : decode cX1_roomOfItem 59 = .ok (.ifCond .ne 7, 3) := by decide +kernel
theorem dX1_roomOfItem_62 : decode cX1_roomOfItem 62 = .ok (.iconst 1, 1) := by decide +kernel
theorem dX1_roomOfItem_63 : decode cX1_roomOfItem 63 = .ok (.goto 9, 3) := by decide +kernel
theorem dX1_roomOfItem_66 : decode cX1_roomOfItem 66 = .ok (.aload_n 0, 1) := by decide +kernel
theorem dX1_roomOfItem_67 : decode cX1_roomOfItem 67 = .ok (.getfield 15, 3) := by decide +kernel
theorem dX1_roomOfItem_70 : decode cX1_roomOfItem 70 = .ok (.iload_n 2, 1) := by decide +kernel
theorem dX1_roomOfItem_71 : decode cX1_roomOfItem 71 = .ok (.iaload, 1) := by decide +kernel
theorem dX1_roomOfItem_72 : decode cX1_roomOfItem 72 = .ok (.ireturn, 1) := by decide +kernel
theorem dX1_roomOfItem_73 : decode cX1_roomOfItem 73 = .ok (.iconst 0, 1) := by decide +kernel
theorem dX1_roomOfItem_74 : decode cX1_roomOfItem 74 = .ok (.ireturn, 1) := by decide +kernel
theorem dX1_roomOfItem_75 : decode cX1_roomOfItem 75 = .ok (.iconst 2, 1) := by decide +kernel
theorem dX1_roomOfItem_76 : decode cX1_roomOfItem 76 = .ok (.ireturn, 1) := by decide +kernel
theorem dX1_bestForm_0 : decode cX1_bestForm 0 = .ok (.iconst 0, 1) := by decide +kernel
theorem dX1_bestForm_1 : decode cX1_bestForm 1 = .ok (.istore 4, 2) := by decide +kernel
theorem dX1_bestForm_3 : decode cX1_bestForm 3 = .ok (.ldc 67, 2) := by decide +kernel
theorem dX1_bestForm_5 : decode cX1_bestForm 5 = .ok (.istore 5, 2) := by decide +kernel
theorem dX1_bestForm_7 : decode cX1_bestForm 7 = .ok (.ldc 67, 2) := by decide +kernel
theorem dX1_bestForm_9 : decode cX1_bestForm 9 = .ok (.istore 6, 2) := by decide +kernel
theorem dX1_bestForm_11 : decode cX1_bestForm 11 = .ok (.iconst 0, 1) := by decide +kernel
theorem dX1_bestForm_12 : decode cX1_bestForm 12 = .ok (.istore 7, 2) := by decide +kernel
theorem dX1_bestForm_14 : decode cX1_bestForm 14 = .ok (.iload 7, 2) := by decide +kernel
theorem dX1_bestForm_16 : decode cX1_bestForm 16 = .ok (.iconst 3, 1) := by decide +kernel
theorem dX1_bestForm_17 : decode cX1_bestForm 17 = .ok (.if_icmp .ge 69, 3) := by decide +kernel
theorem dX1_bestForm_20 : decode cX1_bestForm 20 = .ok (.aload_n 0, 1) := by decide +kernel
theorem dX1_bestForm_21 : decode cX1_bestForm 21 = .ok (.aload_n 1, 1) := by decide +kernel
theorem dX1_bestForm_22 : decode cX1_bestForm 22 = .ok (.iload 7, 2) := by decide +kernel
theorem dX1_bestForm_24 : decode cX1_bestForm 24 = .ok (.invokevirtual 68, 3) := by decide +kernel
theorem dX1_bestForm_27 : decode cX1_bestForm 27 = .ok (.aload_n 0, 1) := by decide +kernel
theorem dX1_bestForm_28 : decode cX1_bestForm 28 = .ok (.aload_n 1, 1) := by decide +kernel
theorem dX1_bestForm_29 : decode cX1_bestForm 29 = .ok (.iload_n 2, 1) := by decide +kernel
theorem dX1_bestForm_30 : decode cX1_bestForm 30 = .ok (.iload_n 3, 1) := by decide +kernel
theorem dX1_bestForm_31 : decode cX1_bestForm 31 = .ok (.invokevirtual 72, 3) := by decide +kernel
theorem dX1_bestForm_34 : decode cX1_bestForm 34 = .ok (.istore 8, 2) := by decide +kernel
theorem dX1_bestForm_36 : decode cX1_bestForm 36 = .ok (.aload_n 0, 1) := by decide +kernel
theorem dX1_bestForm_37 : decode cX1_bestForm 37 = .ok (.aload_n 1, 1) := by decide +kernel
theorem dX1_bestForm_38 : decode cX1_bestForm 38 = .ok (.iload_n 2, 1) := by decide +kernel
theorem dX1_bestForm_39 : decode cX1_bestForm 39 = .ok (.iload_n 3, 1) := by decide +kernel
theorem dX1_bestForm_40 : decode cX1_bestForm 40 = .ok (.iload 7, 2) := by decide +kernel
theorem dX1_bestForm_42 : decode cX1_bestForm 42 = .ok (.invokevirtual 75, 3) := by decide +kernel
theorem dX1_bestForm_45 : decode cX1_bestForm 45 = .ok (.istore 9, 2) := by decide +kernel
theorem dX1_bestForm_47 : decode cX1_bestForm 47 = .ok (.iload 8, 2) := by decide +kernel
theorem dX1_bestForm_49 : decode cX1_bestForm 49 = .ok (.iload 5, 2) := by decide +kernel
theorem dX1_bestForm_51 : decode cX1_bestForm 51 = .ok (.if_icmp .lt 17, 3) := by decide +kernel
theorem dX1_bestForm_54 : decode cX1_bestForm 54 = .ok (.iload 8, 2) := by decide +kernel
theorem dX1_bestForm_56 : decode cX1_bestForm 56 = .ok (.iload 5, 2) := by decide +kernel
theorem dX1_bestForm_58 : decode cX1_bestForm 58 = .ok (.if_icmp .ne 22, 3) := by decide +kernel
theorem dX1_bestForm_61 : decode cX1_bestForm 61 = .ok (.iload 9, 2) := by decide +kernel
theorem dX1_bestForm_63 : decode cX1_bestForm 63 = .ok (.iload 6, 2) := by decide +kernel
theorem dX1_bestForm_65 : decode cX1_bestForm 65 = .ok (.if_icmp .ge 15, 3) := by decide +kernel
theorem dX1_bestForm_68 : decode cX1_bestForm 68 = .ok (.iload 7, 2) := by decide +kernel
theorem dX1_bestForm_70 : decode cX1_bestForm 70 = .ok (.istore 4, 2) := by decide +kernel
theorem dX1_bestForm_72 : decode cX1_bestForm 72 = .ok (.iload 8, 2) := by decide +kernel
theorem dX1_bestForm_74 : decode cX1_bestForm 74 = .ok (.istore 5, 2) := by decide +kernel
theorem dX1_bestForm_76 : decode cX1_bestForm 76 = .ok (.iload 9, 2) := by decide +kernel
theorem dX1_bestForm_78 : decode cX1_bestForm 78 = .ok (.istore 6, 2) := by decide +kernel
theorem dX1_bestForm_80 : decode cX1_bestForm 80 = .ok (.iinc 7 1, 3) := by decide +kernel
theorem dX1_bestForm_83 : decode cX1_bestForm 83 = .ok (.goto (-69), 3) := by decide +kernel
theorem dX1_bestForm_86 : decode cX1_bestForm 86 = .ok (.iload 4, 2) := by decide +kernel
theorem dX1_bestForm_88 : decode cX1_bestForm 88 = .ok (.ireturn, 1) := by decide +kernel
theorem dX1_bestToInline_0 : decode cX1_bestToInline 0 = .ok (.aload_n 1, 1) := by decide +kernel
theorem dX1_bestToInline_1 : decode cX1_bestToInline 1 = .ok (.getfield 79, 3) := by decide +kernel
theorem dX1_bestToInline_4 : decode cX1_bestToInline 4 = .ok (.iconst 1, 1) := by decide +kernel
theorem dX1_bestToInline_5 : decode cX1_bestToInline 5 = .ok (.isub, 1) := by decide +kernel
theorem dX1_bestToInline_6 : decode cX1_bestToInline 6 = .ok (.istore_n 3, 1) := by decide +kernel
theorem dX1_bestToInline_7 : decode cX1_bestToInline 7 = .ok (.aload_n 0, 1) := by decide +kernel
theorem dX1_bestToInline_8 : decode cX1_bestToInline 8 = .ok (.aload_n 1, 1) := by decide +kernel
theorem dX1_bestToInline_9 : decode cX1_bestToInline 9 = .ok (.iload_n 2, 1) := by decide +kernel
theorem dX1_bestToInline_10 : decode cX1_bestToInline 10 = .ok (.iload_n 3, 1) := by decide +kernel
theorem dX1_bestToInline_11 : decode cX1_bestToInline 11 = .ok (.invokevirtual 72, 3) := by decide +kernel
theorem dX1_bestToInline_14 : decode cX1_bestToInline 14 = .ok (.istore 4, 2) := by decide +kernel
theorem dX1_bestToInline_16 : decode cX1_bestToInline 16 = .ok (.iconst (-1), 1) := by decide +kernel
theorem dX1_bestToInline_17 : decode cX1_bestToInline 17 = .ok (.istore 5, 2) := by decide +kernel
theorem dX1_bestToInline_19 : decode cX1_bestToInline 19 = .ok (.iconst 0, 1) := by decide +kernel
theorem dX1_bestToInline_20 : decode cX1_bestToInline 20 = .ok (.istore 6, 2) := by decide +kernel
theorem dX1_bestToInline_22 : decode cX1_bestToInline 22 = .ok (.iload 6, 2) := by decide +kernel
theorem dX1_bestToInline_24 : decode cX1_bestToInline 24 = .ok (.iload_n 3, 1) := by decide +kernel
theorem dX1_bestToInline_25 : decode cX1_bestToInline 25 = .ok (.if_icmp .gt 47, 3) := by decide +kernel
theorem dX1_bestToInline_28 : decode cX1_bestToInline 28 = .ok (.iload_n 2, 1) := by decide +kernel
theorem dX1_bestToInline_29 : decode cX1_bestToInline 29 = .ok (.iload 6, 2) := by decide +kernel
theorem dX1_bestToInline_31 : decode cX1_bestToInline 31 = .ok (.ishr, 1) := by decide +kernel
theorem dX1_bestToInline_32 : decode cX1_bestToInline 32 = .ok (.iconst 1, 1) := by decide +kernel
theorem dX1_bestToInline_33 : decode cX1_bestToInline 33 = .ok (.iand, 1) := by decide +kernel
theorem dX1_bestToInline_34 : decode cX1_bestToInline 34 = .ok (.ifCond .ne 32, 3) := by decide +kernel
theorem dX1_bestToInline_37 : decode cX1_bestToInline 37 = .ok (.aload_n 0, 1) := by decide +kernel
theorem dX1_bestToInline_38 : decode cX1_bestToInline 38 = .ok (.aload_n 1, 1) := by decide +kernel
theorem dX1_bestToInline_39 : decode cX1_bestToInline 39 = .ok (.iload_n 2, 1) := by decide +kernel
theorem dX1_bestToInline_40 : decode cX1_bestToInline 40 = .ok (.iconst 1, 1) := by decide +kernel
theorem dX1_bestToInline_41 : decode cX1_bestToInline 41 = .ok (.iload 6, 2) := by decide +kernel
theorem dX1_bestToInline_43 : decode cX1_bestToInline 43 = .ok (.ishl, 1) := by decide +kernel
theorem dX1_bestToInline_44 : decode cX1_bestToInline 44 = .ok (.ior, 1) := by decide +kernel
theorem dX1_bestToInline_45 : decode cX1_bestToInline 45 = .ok (.iload_n 3, 1) := by decide +kernel
theorem dX1_bestToInline_46 : decode cX1_bestToInline 46 = .ok (.invokevirtual 72, 3) := by decide +kernel
theorem dX1_bestToInline_49 : decode cX1_bestToInline 49 = .ok (.istore 7, 2) := by decide +kernel
theorem dX1_bestToInline_51 : decode cX1_bestToInline 51 = .ok (.iload 7, 2) := by decide +kernel
theorem dX1_bestToInline_53 : decode cX1_bestToInline 53 = .ok (.iload 4, 2) := by decide +kernel
theorem dX1_bestToInline_55 : decode cX1_bestToInline 55 = .ok (.if_icmp .ge 11, 3) := by decide +kernel
theorem dX1_bestToInline_58 : decode cX1_bestToInline 58 = .ok (.iload 7, 2) := by decide +kernel
theorem dX1_bestToInline_60 : decode cX1_bestToInline 60 = .ok (.istore 4, 2) := by decide +kernel
theorem dX1_bestToInline_62 : decode cX1_bestToInline 62 = .ok (.iload 6, 2) := by decide +kernel
theorem dX1_bestToInline_64 : decode cX1_bestToInline 64 = .ok (.istore 5, 2) := by decide +kernel
theorem dX1_bestToInline_66 : decode cX1_bestToInline 66 = .ok (.iinc 6 1, 3) := by decide +kernel
theorem dX1_bestToInline_69 : decode cX1_bestToInline 69 = .ok (.goto (-47), 3) := by decide +kernel
theorem dX1_bestToInline_72 : decode cX1_bestToInline 72 = .ok (.iload 5, 2) := by decide +kernel
theorem dX1_bestToInline_74 : decode cX1_bestToInline 74 = .ok (.ireturn, 1) := by decide +kernel
theorem dX1_openCalls_0 : decode cX1_openCalls 0 = .ok (.iconst 0, 1) := by decide +kernel
theorem dX1_openCalls_1 : decode cX1_openCalls 1 = .ok (.istore_n 3, 1) := by decide +kernel
theorem dX1_openCalls_2 : decode cX1_openCalls 2 = .ok (.iload_n 3, 1) := by decide +kernel
theorem dX1_openCalls_3 : decode cX1_openCalls 3 = .ok (.iload_n 2, 1) := by decide +kernel
theorem dX1_openCalls_4 : decode cX1_openCalls 4 = .ok (.if_icmp .gt 83, 3) := by decide +kernel
theorem dX1_openCalls_7 : decode cX1_openCalls 7 = .ok (.aload_n 0, 1) := by decide +kernel
theorem dX1_openCalls_8 : decode cX1_openCalls 8 = .ok (.getfield 15, 3) := by decide +kernel
theorem dX1_openCalls_11 : decode cX1_openCalls 11 = .ok (.iload_n 3, 1) := by decide +kernel
theorem dX1_openCalls_12 : decode cX1_openCalls 12 = .ok (.iconst 1, 1) := by decide +kernel
theorem dX1_openCalls_13 : decode cX1_openCalls 13 = .ok (.iastore, 1) := by decide +kernel
theorem dX1_openCalls_14 : decode cX1_openCalls 14 = .ok (.aload_n 1, 1) := by decide +kernel
theorem dX1_openCalls_15 : decode cX1_openCalls 15 = .ok (.getfield 45, 3) := by decide +kernel
theorem dX1_openCalls_18 : decode cX1_openCalls 18 = .ok (.iload_n 3, 1) := by decide +kernel
theorem dX1_openCalls_19 : decode cX1_openCalls 19 = .ok (.iaload, 1) := by decide +kernel
theorem dX1_openCalls_20 : decode cX1_openCalls 20 = .ok (.istore 4, 2) := by decide +kernel
theorem dX1_openCalls_22 : decode cX1_openCalls 22 = .ok (.iload 4, 2) := by decide +kernel
theorem dX1_openCalls_24 : decode cX1_openCalls 24 = .ok (.aload_n 1, 1) := by decide +kernel
theorem dX1_openCalls_25 : decode cX1_openCalls 25 = .ok (.getfield 45, 3) := by decide +kernel
theorem dX1_openCalls_28 : decode cX1_openCalls 28 = .ok (.iload_n 3, 1) := by decide +kernel
theorem dX1_openCalls_29 : decode cX1_openCalls 29 = .ok (.iconst 1, 1) := by decide +kernel
theorem dX1_openCalls_30 : decode cX1_openCalls 30 = .ok (.iadd, 1) := by decide +kernel
theorem dX1_openCalls_31 : decode cX1_openCalls 31 = .ok (.iaload, 1) := by decide +kernel
theorem dX1_openCalls_32 : decode cX1_openCalls 32 = .ok (.if_icmp .ge 49, 3) := by decide +kernel
theorem dX1_openCalls_35 : decode cX1_openCalls 35 = .ok (.aload_n 1, 1) := by decide +kernel
theorem dX1_openCalls_36 : decode cX1_openCalls 36 = .ok (.getfield 51, 3) := by decide +kernel
theorem dX1_openCalls_39 : decode cX1_openCalls 39 = .ok (.iload 4, 2) := by decide +kernel
theorem dX1_openCalls_41 : decode cX1_openCalls 41 = .ok (.iaload, 1) := by decide +kernel
theorem dX1_openCalls_42 : decode cX1_openCalls 42 = .ok (.iconst 2, 1) := by decide +kernel
theorem dX1_openCalls_43 : decode cX1_openCalls 43 = .ok (.if_icmp .ne 32, 3) := by decide +kernel
theorem dX1_openCalls_46 : decode cX1_openCalls 46 = .ok (.aload_n 0, 1) := by decide +kernel
theorem dX1_openCalls_47 : decode cX1_openCalls 47 = .ok (.getfield 15, 3) := by decide +kernel
theorem dX1_openCalls_50 : decode cX1_openCalls 50 = .ok (.iload_n 3, 1) := by decide +kernel
theorem dX1_openCalls_51 : decode cX1_openCalls 51 = .ok (.aload_n 0, 1) := by decide +kernel
theorem dX1_openCalls_52 : decode cX1_openCalls 52 = .ok (.getfield 15, 3) := by decide +kernel
theorem dX1_openCalls_55 : decode cX1_openCalls 55 = .ok (.iload_n 3, 1) := by decide +kernel
theorem dX1_openCalls_56 : decode cX1_openCalls 56 = .ok (.iaload, 1) := by decide +kernel
theorem dX1_openCalls_57 : decode cX1_openCalls 57 = .ok (.iconst 1, 1) := by decide +kernel
theorem dX1_openCalls_58 : decode cX1_openCalls 58 = .ok (.aload_n 0, 1) := by decide +kernel
theorem dX1_openCalls_59 : decode cX1_openCalls 59 = .ok (.getfield 15, 3) := by decide +kernel
theorem dX1_openCalls_62 : decode cX1_openCalls 62 = .ok (.aload_n 1, 1) := by decide +kernel
theorem dX1_openCalls_63 : decode cX1_openCalls 63 = .ok (.getfield 48, 3) := by decide +kernel
theorem dX1_openCalls_66 : decode cX1_openCalls 66 = .ok (.iload 4, 2) := by decide +kernel
theorem dX1_openCalls_68 : decode cX1_openCalls 68 = .ok (.iaload, 1) := by decide +kernel
theorem dX1_openCalls_69 : decode cX1_openCalls 69 = .ok (.iaload, 1) := by decide +kernel
theorem dX1_openCalls_70 : decode cX1_openCalls 70 = .ok (.iadd, 1) := by decide +kernel
theorem dX1_openCalls_71 : decode cX1_openCalls 71 = .ok (.invokestatic 54, 3) := by decide +kernel
theorem dX1_openCalls_74 : decode cX1_openCalls 74 = .ok (.iastore, 1) := by decide +kernel
theorem dX1_openCalls_75 : decode cX1_openCalls 75 = .ok (.iinc 4 1, 3) := by decide +kernel
theorem dX1_openCalls_78 : decode cX1_openCalls 78 = .ok (.goto (-56), 3) := by decide +kernel
theorem dX1_openCalls_81 : decode cX1_openCalls 81 = .ok (.iinc 3 1, 3) := by decide +kernel
theorem dX1_openCalls_84 : decode cX1_openCalls 84 = .ok (.goto (-82), 3) := by decide +kernel
theorem dX1_openCalls_87 : decode cX1_openCalls 87 = .ok (.aload_n 0, 1) := by decide +kernel
theorem dX1_openCalls_88 : decode cX1_openCalls 88 = .ok (.getfield 15, 3) := by decide +kernel
theorem dX1_openCalls_91 : decode cX1_openCalls 91 = .ok (.iload_n 2, 1) := by decide +kernel
theorem dX1_openCalls_92 : decode cX1_openCalls 92 = .ok (.iaload, 1) := by decide +kernel
theorem dX1_openCalls_93 : decode cX1_openCalls 93 = .ok (.ireturn, 1) := by decide +kernel
theorem dX2_init_0 : decode cX2_init 0 = .ok (.aload_n 0, 1) := by decide +kernel
theorem dX2_init_1 : decode cX2_init 1 = .ok (.invokespecial 3, 3) := by decide +kernel
theorem dX2_init_4 : decode cX2_init 4 = .ok (.aload_n 0, 1) := by decide +kernel
theorem dX2_init_5 : decode cX2_init 5 = .ok (.sipush 270, 3) := by decide +kernel
theorem dX2_init_8 : decode cX2_init 8 = .ok (.newarray .int, 2) := by decide +kernel
theorem dX2_init_10 : decode cX2_init 10 = .ok (.putfield 9, 3) := by decide +kernel
theorem dX2_init_13 : decode cX2_init 13 = .ok (.aload_n 0, 1) := by decide +kernel
theorem dX2_init_14 : decode cX2_init 14 = .ok (.bipush 31, 2) := by decide +kernel
theorem dX2_init_16 : decode cX2_init 16 = .ok (.newarray .int, 2) := by decide +kernel
theorem dX2_init_18 : decode cX2_init 18 = .ok (.putfield 15, 3) := by decide +kernel
theorem dX2_init_21 : decode cX2_init 21 = .ok (.return_, 1) := by decide +kernel
theorem dX2_begin_0 : decode cX2_begin 0 = .ok (.aload_n 0, 1) := by decide +kernel
theorem dX2_begin_1 : decode cX2_begin 1 = .ok (.aload_n 1, 1) := by decide +kernel
theorem dX2_begin_2 : decode cX2_begin 2 = .ok (.putfield 18, 3) := by decide +kernel
theorem dX2_begin_5 : decode cX2_begin 5 = .ok (.aload_n 0, 1) := by decide +kernel
theorem dX2_begin_6 : decode cX2_begin 6 = .ok (.iconst 0, 1) := by decide +kernel
theorem dX2_begin_7 : decode cX2_begin 7 = .ok (.putfield 22, 3) := by decide +kernel
theorem dX2_begin_10 : decode cX2_begin 10 = .ok (.aload_n 0, 1) := by decide +kernel
theorem dX2_begin_11 : decode cX2_begin 11 = .ok (.iconst 0, 1) := by decide +kernel
theorem dX2_begin_12 : decode cX2_begin 12 = .ok (.putfield 26, 3) := by decide +kernel
theorem dX2_begin_15 : decode cX2_begin 15 = .ok (.return_, 1) := by decide +kernel
theorem dX2_readLevel_0 : decode cX2_readLevel 0 = .ok (.iload_n 1, 1) := by decide +kernel
theorem dX2_readLevel_1 : decode cX2_readLevel 1 = .ok (.iconst 5, 1) := by decide +kernel
theorem dX2_readLevel_2 : decode cX2_readLevel 2 = .ok (.if_icmp .lt 9, 3) := by decide +kernel
theorem dX2_readLevel_5 : decode cX2_readLevel 5 = .ok (.aload_n 0, 1) := by decide +kernel
theorem dX2_readLevel_6 : decode cX2_readLevel 6 = .ok (.iload_n 2, 1) := by decide +kernel
theorem dX2_readLevel_7 : decode cX2_readLevel 7 = .ok (.invokevirtual 29, 3) := by decide +kernel
theorem dX2_readLevel_10 : decode cX2_readLevel 10 = .ok (.return_, 1) := by decide +kernel
theorem dX2_readLevel_11 : decode cX2_readLevel 11 = .ok (.iload_n 1, 1) := by decide +kernel
theorem dX2_readLevel_12 : decode cX2_readLevel 12 = .ok (.iconst 2, 1) := by decide +kernel
theorem dX2_readLevel_13 : decode cX2_readLevel 13 = .ok (.if_icmp .ne 21, 3) := by decide +kernel
theorem dX2_readLevel_16 : decode cX2_readLevel 16 = .ok (.aload_n 0, 1) := by decide +kernel
theorem dX2_readLevel_17 : decode cX2_readLevel 17 = .ok (.getfield 18, 3) := by decide +kernel
theorem dX2_readLevel_20 : decode cX2_readLevel 20 = .ok (.bipush 26, 2) := by decide +kernel
theorem dX2_readLevel_22 : decode cX2_readLevel 22 = .ok (.invokevirtual 33, 3) := by decide +kernel
theorem dX2_readLevel_25 : decode cX2_readLevel 25 = .ok (.ifCond .eq 9, 3) := by decide +kernel
theorem dX2_readLevel_28 : decode cX2_readLevel 28 = .ok (.aload_n 0, 1) := by decide +kernel
theorem dX2_readLevel_29 : decode cX2_readLevel 29 = .ok (.iload_n 2, 1) := by decide +kernel
theorem dX2_readLevel_30 : decode cX2_readLevel 30 = .ok (.invokevirtual 39, 3) := by decide +kernel
theorem dX2_readLevel_33 : decode cX2_readLevel 33 = .ok (.return_, 1) := by decide +kernel
theorem dX2_readLevel_34 : decode cX2_readLevel 34 = .ok (.aload_n 0, 1) := by decide +kernel
theorem dX2_readLevel_35 : decode cX2_readLevel 35 = .ok (.iload_n 1, 1) := by decide +kernel
theorem dX2_readLevel_36 : decode cX2_readLevel 36 = .ok (.iconst 1, 1) := by decide +kernel
theorem dX2_readLevel_37 : decode cX2_readLevel 37 = .ok (.iadd, 1) := by decide +kernel
theorem dX2_readLevel_38 : decode cX2_readLevel 38 = .ok (.iload_n 2, 1) := by decide +kernel
theorem dX2_readLevel_39 : decode cX2_readLevel 39 = .ok (.invokevirtual 42, 3) := by decide +kernel
theorem dX2_readLevel_42 : decode cX2_readLevel 42 = .ok (.iload_n 1, 1) := by decide +kernel
theorem dX2_readLevel_43 : decode cX2_readLevel 43 = .ok (.iconst 2, 1) := by decide +kernel
theorem dX2_readLevel_44 : decode cX2_readLevel 44 = .ok (.if_icmp .ne 7, 3) := by decide +kernel
theorem dX2_readLevel_47 : decode cX2_readLevel 47 = .ok (.iconst 1, 1) := by decide +kernel
theorem dX2_readLevel_48 : decode cX2_readLevel 48 = .ok (.goto 5, 3) := by decide +kernel
theorem dX2_readLevel_51 : decode cX2_readLevel 51 = .ok (.bipush 30, 2) := by decide +kernel
theorem dX2_readLevel_53 : decode cX2_readLevel 53 = .ok (.istore_n 3, 1) := by decide +kernel
theorem dX2_readLevel_54 : decode cX2_readLevel 54 = .ok (.iconst 0, 1) := by decide +kernel
theorem dX2_readLevel_55 : decode cX2_readLevel 55 = .ok (.istore 4, 2) := by decide +kernel
theorem dX2_readLevel_57 : decode cX2_readLevel 57 = .ok (.iload 4, 2) := by decide +kernel
theorem dX2_readLevel_59 : decode cX2_readLevel 59 = .ok (.iload_n 3, 1) := by decide +kernel
theorem dX2_readLevel_60 : decode cX2_readLevel 60 = .ok (.if_icmp .ge 54, 3) := by decide +kernel
theorem dX2_readLevel_63 : decode cX2_readLevel 63 = .ok (.aload_n 0, 1) := by decide +kernel
theorem dX2_readLevel_64 : decode cX2_readLevel 64 = .ok (.getfield 18, 3) := by decide +kernel
theorem dX2_readLevel_67 : decode cX2_readLevel 67 = .ok (.getfield 46, 3) := by decide +kernel
theorem dX2_readLevel_70 : decode cX2_readLevel 70 = .ok (.ifCond .ne 44, 3) := by decide +kernel
theorem dX2_readLevel_73 : decode cX2_readLevel 73 = .ok (.aload_n 0, 1) := by decide +kernel
theorem dX2_readLevel_74 : decode cX2_readLevel 74 = .ok (.iload_n 1, 1) := by decide +kernel
theorem dX2_readLevel_75 : decode cX2_readLevel 75 = .ok (.invokevirtual 49, 3) := by decide +kernel
theorem dX2_readLevel_78 : decode cX2_readLevel 78 = .ok (.istore 5, 2) := by decide +kernel
theorem dX2_readLevel_80 : decode cX2_readLevel 80 = .ok (.iload 5, 2) := by decide +kernel
theorem dX2_readLevel_82 : decode cX2_readLevel 82 = .ok (.iconst (-1), 1) := by decide +kernel
theorem dX2_readLevel_83 : decode cX2_readLevel 83 = .ok (.if_icmp .ne 4, 3) := by decide +kernel
theorem dX2_readLevel_86 : decode cX2_readLevel 86 = .ok (.return_, 1) := by decide +kernel
theorem dX2_readLevel_87 : decode cX2_readLevel 87 = .ok (.aload_n 0, 1) := by decide +kernel
theorem dX2_readLevel_88 : decode cX2_readLevel 88 = .ok (.getfield 18, 3) := by decide +kernel
theorem dX2_readLevel_91 : decode cX2_readLevel 91 = .ok (.invokevirtual 53, 3) := by decide +kernel
theorem dX2_readLevel_94 : decode cX2_readLevel 94 = .ok (.aload_n 0, 1) := by decide +kernel
theorem dX2_readLevel_95 : decode cX2_readLevel 95 = .ok (.iload_n 1, 1) := by decide +kernel
theorem dX2_readLevel_96 : decode cX2_readLevel 96 = .ok (.iconst 1, 1) := by decide +kernel
theorem dX2_readLevel_97 : decode cX2_readLevel 97 = .ok (.iadd, 1) := by decide +kernel
theorem dX2_readLevel_98 : decode cX2_readLevel 98 = .ok (.iload_n 2, 1) := by decide +kernel
theorem dX2_readLevel_99 : decode cX2_readLevel 99 = .ok (.invokevirtual 42, 3) := by decide +kernel
theorem dX2_readLevel_102 : decode cX2_readLevel 102 = .ok (.aload_n 0, 1) := by decide +kernel
theorem dX2_readLevel_103 : decode cX2_readLevel 103 = .ok (.iload 5, 2) := by decide +kernel
theorem dX2_readLevel_105 : decode cX2_readLevel 105 = .ok (.invokevirtual 56, 3) := by decide +kernel
theorem dX2_readLevel_108 : decode cX2_readLevel 108 = .ok (.iinc 4 1, 3) := by decide +kernel
theorem dX2_readLevel_111 : decode cX2_readLevel 111 = .ok (.goto (-54), 3) := by decide +kernel
theorem dX2_readLevel_114 : decode cX2_readLevel 114 = .ok (.return_, 1) := by decide +kernel
theorem dX2_readNot_0 : decode cX2_readNot 0 = .ok (.iload_n 1, 1) := by decide +kernel
theorem dX2_readNot_1 : decode cX2_readNot 1 = .ok (.bipush 6, 2) := by decide +kernel
theorem dX2_readNot_3 : decode cX2_readNot 3 = .ok (.if_icmp .le 11, 3) := by decide +kernel
theorem dX2_readNot_6 : decode cX2_readNot 6 = .ok (.aload_n 0, 1) := by decide +kernel
theorem dX2_readNot_7 : decode cX2_readNot 7 = .ok (.getfield 18, 3) := by decide +kernel
theorem dX2_readNot_10 : decode cX2_readNot 10 = .ok (.invokevirtual 59, 3) := by decide +kernel
theorem dX2_readNot_13 : decode cX2_readNot 13 = .ok (.return_, 1) := by decide +kernel
theorem dX2_readNot_14 : decode cX2_readNot 14 = .ok (.aload_n 0, 1) := by decide +kernel
theorem dX2_readNot_15 : decode cX2_readNot 15 = .ok (.getfield 18, 3) := by decide +kernel
theorem dX2_readNot_18 : decode cX2_readNot 18 = .ok (.invokevirtual 53, 3) := by decide +kernel
theorem dX2_readNot_21 : decode cX2_readNot 21 = .ok (.aload_n 0, 1) := by decide +kernel
theorem dX2_readNot_22 : decode cX2_readNot 22 = .ok (.iconst 2, 1) := by decide +kernel
theorem dX2_readNot_23 : decode cX2_readNot 23 = .ok (.iload_n 1, 1) := by decide +kernel
theorem dX2_readNot_24 : decode cX2_readNot 24 = .ok (.iconst 1, 1) := by decide +kernel
theorem dX2_readNot_25 : decode cX2_readNot 25 = .ok (.iadd, 1) := by decide +kernel
theorem dX2_readNot_26 : decode cX2_readNot 26 = .ok (.invokevirtual 42, 3) := by decide +kernel
theorem dX2_readNot_29 : decode cX2_readNot 29 = .ok (.aload_n 0, 1) := by decide +kernel
theorem dX2_readNot_30 : decode cX2_readNot 30 = .ok (.bipush (-5), 2) := by decide +kernel
theorem dX2_readNot_32 : decode cX2_readNot 32 = .ok (.invokevirtual 56, 3) := by decide +kernel
theorem dX2_readNot_35 : decode cX2_readNot 35 = .ok (.return_, 1) := by decide +kernel
theorem dX2_readUnit_0 : decode cX2_readUnit 0 = .ok (.aload_n 0, 1) := by decide +kernel
theorem dX2_readUnit_1 : decode cX2_readUnit 1 = .ok (.getfield 18, 3) := by decide +kernel
theorem dX2_readUnit_4 : decode cX2_readUnit 4 = .ok (.getfield 46, 3) := by decide +kernel
theorem dX2_readUnit_7 : decode cX2_readUnit 7 = .ok (.ifCond .eq 4, 3) := by decide +kernel
theorem dX2_readUnit_10 : decode cX2_readUnit 10 = .ok (.return_, 1) := by decide +kernel
theorem dX2_readUnit_11 : decode cX2_readUnit 11 = .ok (.aload_n 0, 1) := by decide +kernel
theorem dX2_readUnit_12 : decode cX2_readUnit 12 = .ok (.getfield 26, 3) := by decide +kernel
theorem dX2_readUnit_15 : decode cX2_readUnit 15 = .ok (.bipush 30, 2) := by decide +kernel
theorem dX2_readUnit_17 : decode cX2_readUnit 17 = .ok (.if_icmp .lt 11, 3) := by decide +kernel
theorem dX2_readUnit_20 : decode cX2_readUnit 20 = .ok (.aload_n 0, 1) := by decide +kernel
theorem dX2_readUnit_21 : decode cX2_readUnit 21 = .ok (.getfield 18, 3) := by decide +kernel
theorem dX2_readUnit_24 : decode cX2_readUnit 24 = .ok (.invokevirtual 59, 3) := by decide +kernel
theorem dX2_readUnit_27 : decode cX2_readUnit 27 = .ok (.return_, 1) := by decide +kernel
theorem dX2_readUnit_28 : decode cX2_readUnit 28 = .ok (.aload_n 0, 1) := by decide +kernel
theorem dX2_readUnit_29 : decode cX2_readUnit 29 = .ok (.dup, 1) := by decide +kernel
theorem dX2_readUnit_30 : decode cX2_readUnit 30 = .ok (.getfield 26, 3) := by decide +kernel
theorem dX2_readUnit_33 : decode cX2_readUnit 33 = .ok (.iconst 1, 1) := by decide +kernel
theorem dX2_readUnit_34 : decode cX2_readUnit 34 = .ok (.iadd, 1) := by decide +kernel
theorem dX2_readUnit_35 : decode cX2_readUnit 35 = .ok (.putfield 26, 3) := by decide +kernel
theorem dX2_readUnit_38 : decode cX2_readUnit 38 = .ok (.aload_n 0, 1) := by decide +kernel
theorem dX2_readUnit_39 : decode cX2_readUnit 39 = .ok (.getfield 18, 3) := by decide +kernel
theorem dX2_readUnit_42 : decode cX2_readUnit 42 = .ok (.bipush 40, 2) := by decide +kernel
theorem dX2_readUnit_44 : decode cX2_readUnit 44 = .ok (.invokevirtual 62, 3) := by decide +kernel
theorem dX2_readUnit_47 : decode cX2_readUnit 47 = .ok (.ifCond .eq 36, 3) := by decide +kernel
theorem dX2_readUnit_50 : decode cX2_readUnit 50 = .ok (.iload_n 1, 1) := by decide +kernel
theorem dX2_readUnit_51 : decode cX2_readUnit 51 = .ok (.bipush 6, 2) := by decide +kernel
theorem dX2_readUnit_53 : decode cX2_readUnit 53 = .ok (.if_icmp .gt 30, 3) := by decide +kernel
theorem dX2_readUnit_56 : decode cX2_readUnit 56 = .ok (.aload_n 0, 1) := by decide +kernel
theorem dX2_readUnit_57 : decode cX2_readUnit 57 = .ok (.getfield 18, 3) := by decide +kernel
theorem dX2_readUnit_60 : decode cX2_readUnit 60 = .ok (.invokevirtual 53, 3) := by decide +kernel
theorem dX2_readUnit_63 : decode cX2_readUnit 63 = .ok (.aload_n 0, 1) := by decide +kernel
theorem dX2_readUnit_64 : decode cX2_readUnit 64 = .ok (.iconst 0, 1) := by decide +kernel
theorem dX2_readUnit_65 : decode cX2_readUnit 65 = .ok (.iload_n 1, 1) := by decide +kernel
theorem dX2_readUnit_66 : decode cX2_readUnit 66 = .ok (.iconst 1, 1) := by decide +kernel
theorem dX2_readUnit_67 : decode cX2_readUnit 67 = .ok (.iadd, 1) := by decide +kernel
theorem dX2_readUnit_68 : decode cX2_readUnit 68 = .ok (.invokevirtual 42, 3) := by decide +kernel
theorem dX2_readUnit_71 : decode cX2_readUnit 71 = .ok (.aload_n 0, 1) := by decide +kernel
theorem dX2_readUnit_72 : decode cX2_readUnit 72 = .ok (.getfield 18, 3) := by decide +kernel
theorem dX2_readUnit_75 : decode cX2_readUnit 75 = .ok (.bipush 41, 2) := by decide +kernel
theorem dX2_readUnit_77 : decode cX2_readUnit 77 = .ok (.invokevirtual 66, 3) := by decide +kernel
theorem dX2_readUnit_80 : decode cX2_readUnit 80 = .ok (.goto 76, 3) := by decide +kernel
theorem dX2_readUnit_83 : decode cX2_readUnit 83 = .ok (.aload_n 0, 1) := by decide +kernel
theorem dX2_readUnit_84 : decode cX2_readUnit 84 = .ok (.getfield 18, 3) := by decide +kernel
theorem dX2_readUnit_87 : decode cX2_readUnit 87 = .ok (.getfield 70, 3) := by decide +kernel
theorem dX2_readUnit_90 : decode cX2_readUnit 90 = .ok (.iconst 2, 1) := by decide +kernel
theorem dX2_readUnit_91 : decode cX2_readUnit 91 = .ok (.if_icmp .ne 17, 3) := by decide +kernel
theorem dX2_readUnit_94 : decode cX2_readUnit 94 = .ok (.aload_n 0, 1) := by decide +kernel
theorem dX2_readUnit_95 : decode cX2_readUnit 95 = .ok (.aload_n 0, 1) := by decide +kernel
theorem dX2_readUnit_96 : decode cX2_readUnit 96 = .ok (.getfield 18, 3) := by decide +kernel
theorem dX2_readUnit_99 : decode cX2_readUnit 99 = .ok (.getfield 73, 3) := by decide +kernel
theorem dX2_readUnit_102 : decode cX2_readUnit 102 = .ok (.invokevirtual 56, 3) := by decide +kernel
theorem dX2_readUnit_105 : decode cX2_readUnit 105 = .ok (.goto 51, 3) := by decide +kernel
theorem dX2_readUnit_108 : decode cX2_readUnit 108 = .ok (.aload_n 0, 1) := by decide +kernel
theorem dX2_readUnit_109 : decode cX2_readUnit 109 = .ok (.getfield 18, 3) := by decide +kernel
theorem dX2_readUnit_112 : decode cX2_readUnit 112 = .ok (.bipush 27, 2) := by decide +kernel
theorem dX2_readUnit_114 : decode cX2_readUnit 114 = .ok (.invokevirtual 33, 3) := by decide +kernel
theorem dX2_readUnit_117 : decode cX2_readUnit 117 = .ok (.ifCond .eq 11, 3) := by decide +kernel
theorem dX2_readUnit_120 : decode cX2_readUnit 120 = .ok (.aload_n 0, 1) := by decide +kernel
theorem dX2_readUnit_121 : decode cX2_readUnit 121 = .ok (.iconst (-1), 1) := by decide +kernel
theorem dX2_readUnit_122 : decode cX2_readUnit 122 = .ok (.invokevirtual 56, 3) := by decide +kernel
theorem dX2_readUnit_125 : decode cX2_readUnit 125 = .ok (.goto 31, 3) := by decide +kernel
theorem dX2_readUnit_128 : decode cX2_readUnit 128 = .ok (.aload_n 0, 1) := by decide +kernel
theorem dX2_readUnit_129 : decode cX2_readUnit 129 = .ok (.getfield 18, 3) := by decide +kernel
theorem dX2_readUnit_132 : decode cX2_readUnit 132 = .ok (.bipush 28, 2) := by decide +kernel
theorem dX2_readUnit_134 : decode cX2_readUnit 134 = .ok (.invokevirtual 33, 3) := by decide +kernel
theorem dX2_readUnit_137 : decode cX2_readUnit 137 = .ok (.ifCond .eq 12, 3) := by decide +kernel
theorem dX2_readUnit_140 : decode cX2_readUnit 140 = .ok (.aload_n 0, 1) := by decide +kernel
theorem dX2_readUnit_141 : decode cX2_readUnit 141 = .ok (.bipush (-2), 2) := by decide +kernel
theorem dX2_readUnit_143 : decode cX2_readUnit 143 = .ok (.invokevirtual 56, 3) := by decide +kernel
theorem dX2_readUnit_146 : decode cX2_readUnit 146 = .ok (.goto 10, 3) := by decide +kernel
theorem dX2_readUnit_149 : decode cX2_readUnit 149 = .ok (.aload_n 0, 1) := by decide +kernel
theorem dX2_readUnit_150 : decode cX2_readUnit 150 = .ok (.getfield 18, 3) := by decide +kernel
theorem dX2_readUnit_153 : decode cX2_readUnit 153 = .ok (.invokevirtual 59, 3) := by decide +kernel
theorem dX2_readUnit_156 : decode cX2_readUnit 156 = .ok (.aload_n 0, 1) := by decide +kernel
theorem dX2_readUnit_157 : decode cX2_readUnit 157 = .ok (.getfield 18, 3) := by decide +kernel
theorem dX2_readUnit_160 : decode cX2_readUnit 160 = .ok (.getfield 46, 3) := by decide +kernel
theorem dX2_readUnit_163 : decode cX2_readUnit 163 = .ok (.ifCond .ne 10, 3) := by decide +kernel
theorem dX2_readUnit_166 : decode cX2_readUnit 166 = .ok (.aload_n 0, 1) := by decide +kernel
theorem dX2_readUnit_167 : decode cX2_readUnit 167 = .ok (.getfield 18, 3) := by decide +kernel
theorem dX2_readUnit_170 : decode cX2_readUnit 170 = .ok (.invokevirtual 53, 3) := by decide +kernel
theorem dX2_readUnit_173 : decode cX2_readUnit 173 = .ok (.return_, 1) := by decide +kernel
theorem dX2_operatorOf_0 : decode cX2_operatorOf 0 = .ok (.iload_n 1, 1) := by decide +kernel
theorem dX2_operatorOf_1 : decode cX2_operatorOf 1 = .ok (.tableswitch 215 0 4 #[35, 54, 73, 126, 162], 35) := by decide +kernel
theorem dX2_operatorOf_36 : decode cX2_operatorOf 36 = .ok (.aload_n 0, 1) := by decide +kernel
theorem dX2_operatorOf_37 : decode cX2_operatorOf 37 = .ok (.getfield 18, 3) := by decide +kernel
theorem dX2_operatorOf_40 : decode cX2_operatorOf 40 = .ok (.bipush 24, 2) := by decide +kernel
theorem dX2_operatorOf_42 : decode cX2_operatorOf 42 = .ok (.invokevirtual 33, 3) := by decide +kernel
theorem dX2_operatorOf_45 : decode cX2_operatorOf 45 = .ok (.ifCond .eq 8, 3) := by decide +kernel
theorem dX2_operatorOf_48 : decode cX2_operatorOf 48 = .ok (.bipush (-3), 2) := by decide +kernel
theorem dX2_operatorOf_50 : decode cX2_operatorOf 50 = .ok (.goto 4, 3) := by decide +kernel
theorem dX2_operatorOf_53 : decode cX2_operatorOf 53 = .ok (.iconst (-1), 1) := by decide +kernel
theorem dX2_operatorOf_54 : decode cX2_operatorOf 54 = .ok (.ireturn, 1) := by decide +kernel
theorem dX2_operatorOf_55 : decode cX2_operatorOf 55 = .ok (.aload_n 0, 1) := by decide +kernel
theorem dX2_operatorOf_56 : decode cX2_operatorOf 56 = .ok (.getfield 18, 3) := by decide +kernel
theorem dX2_operatorOf_59 : decode cX2_operatorOf 59 = .ok (.bipush 25, 2) := by decide +kernel
theorem dX2_operatorOf_61 : decode cX2_operatorOf 61 = .ok (.invokevirtual 33, 3) := by decide +kernel
theorem dX2_operatorOf_64 : decode cX2_operatorOf 64 = .ok (.ifCond .eq 8, 3) := by decide +kernel
theorem dX2_operatorOf_67 : decode cX2_operatorOf 67 = .ok (.bipush (-4), 2) := by decide +kernel
theorem dX2_operatorOf_69 : decode cX2_operatorOf 69 = .ok (.goto 4, 3) := by decide +kernel
theorem dX2_operatorOf_72 : decode cX2_operatorOf 72 = .ok (.iconst (-1), 1) := by decide +kernel
theorem dX2_operatorOf_73 : decode cX2_operatorOf 73 = .ok (.ireturn, 1) := by decide +kernel
theorem dX2_operatorOf_74 : decode cX2_operatorOf 74 = .ok (.aload_n 0, 1) := by decide +kernel
theorem dX2_operatorOf_75 : decode cX2_operatorOf 75 = .ok (.getfield 18, 3) := by decide +kernel
theorem dX2_operatorOf_78 : decode cX2_operatorOf 78 = .ok (.bipush 60, 2) := by decide +kernel
theorem dX2_operatorOf_80 : decode cX2_operatorOf 80 = .ok (.invokevirtual 62, 3) := by decide +kernel
theorem dX2_operatorOf_83 : decode cX2_operatorOf 83 = .ok (.ifCond .eq 8, 3) := by decide +kernel
theorem dX2_operatorOf_86 : decode cX2_operatorOf 86 = .ok (.bipush (-6), 2) := by decide +kernel
theorem dX2_operatorOf_88 : decode cX2_operatorOf 88 = .ok (.goto 38, 3) := by decide +kernel
theorem dX2_operatorOf_91 : decode cX2_operatorOf 91 = .ok (.aload_n 0, 1) := by decide +kernel
theorem dX2_operatorOf_92 : decode cX2_operatorOf 92 = .ok (.getfield 18, 3) := by decide +kernel
theorem dX2_operatorOf_95 : decode cX2_operatorOf 95 = .ok (.bipush 62, 2) := by decide +kernel
theorem dX2_operatorOf_97 : decode cX2_operatorOf 97 = .ok (.invokevirtual 62, 3) := by decide +kernel
theorem dX2_operatorOf_100 : decode cX2_operatorOf 100 = .ok (.ifCond .eq 8, 3) := by decide +kernel
theorem dX2_operatorOf_103 : decode cX2_operatorOf 103 = .ok (.bipush (-7), 2) := by decide +kernel
theorem dX2_operatorOf_105 : decode cX2_operatorOf 105 = .ok (.goto 21, 3) := by decide +kernel
theorem dX2_operatorOf_108 : decode cX2_operatorOf 108 = .ok (.aload_n 0, 1) := by decide +kernel
theorem dX2_operatorOf_109 : decode cX2_operatorOf 109 = .ok (.getfield 18, 3) := by decide +kernel
theorem dX2_operatorOf_112 : decode cX2_operatorOf 112 = .ok (.bipush 61, 2) := by decide +kernel
theorem dX2_operatorOf_114 : decode cX2_operatorOf 114 = .ok (.invokevirtual 62, 3) := by decide +kernel
theorem dX2_operatorOf_117 : decode cX2_operatorOf 117 = .ok (.ifCond .eq 8, 3) := by decide +kernel
theorem dX2_operatorOf_120 : decode cX2_operatorOf 120 = .ok (.bipush (-8), 2) := by decide +kernel
theorem dX2_operatorOf_122 : decode cX2_operatorOf 122 = .ok (.goto 4, 3) := by decide +kernel
theorem dX2_operatorOf_125 : decode cX2_operatorOf 125 = .ok (.iconst (-1), 1) := by decide +kernel
theorem dX2_operatorOf_126 : decode cX2_operatorOf 126 = .ok (.ireturn, 1) := by decide +kernel
theorem dX2_operatorOf_127 : decode cX2_operatorOf 127 = .ok (.aload_n 0, 1) := by decide +kernel
theorem dX2_operatorOf_128 : decode cX2_operatorOf 128 = .ok (.getfield 18, 3) := by decide +kernel
theorem dX2_operatorOf_131 : decode cX2_operatorOf 131 = .ok (.bipush 43, 2) := by decide +kernel
theorem dX2_operatorOf_133 : decode cX2_operatorOf 133 = .ok (.invokevirtual 62, 3) := by decide +kernel
theorem dX2_operatorOf_136 : decode cX2_operatorOf 136 = .ok (.ifCond .eq 8, 3) := by decide +kernel
theorem dX2_operatorOf_139 : decode cX2_operatorOf 139 = .ok (.bipush (-9), 2) := by decide +kernel
theorem dX2_operatorOf_141 : decode cX2_operatorOf 141 = .ok (.goto 21, 3) := by decide +kernel
theorem dX2_operatorOf_144 : decode cX2_operatorOf 144 = .ok (.aload_n 0, 1) := by decide +kernel
theorem dX2_operatorOf_145 : decode cX2_operatorOf 145 = .ok (.getfield 18, 3) := by decide +kernel
theorem dX2_operatorOf_148 : decode cX2_operatorOf 148 = .ok (.bipush 45, 2) := by decide +kernel
theorem dX2_operatorOf_150 : decode cX2_operatorOf 150 = .ok (.invokevirtual 62, 3) := by decide +kernel
theorem dX2_operatorOf_153 : decode cX2_operatorOf 153 = .ok (.ifCond .eq 8, 3) := by decide +kernel
theorem dX2_operatorOf_156 : decode cX2_operatorOf 156 = .ok (.bipush (-10), 2) := by decide +kernel
theorem dX2_operatorOf_158 : decode cX2_operatorOf 158 = .ok (.goto 4, 3) := by decide +kernel
theorem dX2_operatorOf_161 : decode cX2_operatorOf 161 = .ok (.iconst (-1), 1) := by decide +kernel
theorem dX2_operatorOf_162 : decode cX2_operatorOf 162 = .ok (.ireturn, 1) := by decide +kernel
theorem dX2_operatorOf_163 : decode cX2_operatorOf 163 = .ok (.aload_n 0, 1) := by decide +kernel
theorem dX2_operatorOf_164 : decode cX2_operatorOf 164 = .ok (.getfield 18, 3) := by decide +kernel
theorem dX2_operatorOf_167 : decode cX2_operatorOf 167 = .ok (.bipush 42, 2) := by decide +kernel
theorem dX2_operatorOf_169 : decode cX2_operatorOf 169 = .ok (.invokevirtual 62, 3) := by decide +kernel
theorem dX2_operatorOf_172 : decode cX2_operatorOf 172 = .ok (.ifCond .eq 8, 3) := by decide +kernel
theorem dX2_operatorOf_175 : decode cX2_operatorOf 175 = .ok (.bipush (-11), 2) := by decide +kernel
theorem dX2_operatorOf_177 : decode cX2_operatorOf 177 = .ok (.goto 38, 3) := by decide +kernel
theorem dX2_operatorOf_180 : decode cX2_operatorOf 180 = .ok (.aload_n 0, 1) := by decide +kernel
theorem dX2_operatorOf_181 : decode cX2_operatorOf 181 = .ok (.getfield 18, 3) := by decide +kernel
theorem dX2_operatorOf_184 : decode cX2_operatorOf 184 = .ok (.bipush 47, 2) := by decide +kernel
theorem dX2_operatorOf_186 : decode cX2_operatorOf 186 = .ok (.invokevirtual 62, 3) := by decide +kernel
theorem dX2_operatorOf_189 : decode cX2_operatorOf 189 = .ok (.ifCond .eq 8, 3) := by decide +kernel
theorem dX2_operatorOf_192 : decode cX2_operatorOf 192 = .ok (.bipush (-12), 2) := by decide +kernel
theorem dX2_operatorOf_194 : decode cX2_operatorOf 194 = .ok (.goto 21, 3) := by decide +kernel
theorem dX2_operatorOf_197 : decode cX2_operatorOf 197 = .ok (.aload_n 0, 1) := by decide +kernel
theorem dX2_operatorOf_198 : decode cX2_operatorOf 198 = .ok (.getfield 18, 3) := by decide +kernel
theorem dX2_operatorOf_201 : decode cX2_operatorOf 201 = .ok (.bipush 37, 2) := by decide +kernel
theorem dX2_operatorOf_203 : decode cX2_operatorOf 203 = .ok (.invokevirtual 62, 3) := by decide +kernel
theorem dX2_operatorOf_206 : decode cX2_operatorOf 206 = .ok (.ifCond .eq 8, 3) := by decide +kernel
theorem dX2_operatorOf_209 : decode cX2_operatorOf 209 = .ok (.bipush (-13), 2) := by decide +kernel
theorem dX2_operatorOf_211 : decode cX2_operatorOf 211 = .ok (.goto 4, 3) := by decide +kernel
theorem dX2_operatorOf_214 : decode cX2_operatorOf 214 = .ok (.iconst (-1), 1) := by decide +kernel
theorem dX2_operatorOf_215 : decode cX2_operatorOf 215 = .ok (.ireturn, 1) := by decide +kernel
theorem dX2_operatorOf_216 : decode cX2_operatorOf 216 = .ok (.iconst (-1), 1) := by decide +kernel
theorem dX2_operatorOf_217 : decode cX2_operatorOf 217 = .ok (.ireturn, 1) := by decide +kernel
theorem dX2_append_0 : decode cX2_append 0 = .ok (.aload_n 0, 1) := by decide +kernel
theorem dX2_append_1 : decode cX2_append 1 = .ok (.getfield 22, 3) := by decide +kernel
theorem dX2_append_4 : decode cX2_append 4 = .ok (.aload_n 0, 1) := by decide +kernel
theorem dX2_append_5 : decode cX2_append 5 = .ok (.getfield 9, 3) := by decide +kernel
theorem dX2_append_8 : decode cX2_append 8 = .ok (.arraylength, 1) := by decide +kernel
theorem dX2_append_9 : decode cX2_append 9 = .ok (.if_icmp .ge 23, 3) := by decide +kernel
theorem dX2_append_12 : decode cX2_append 12 = .ok (.aload_n 0, 1) := by decide +kernel
theorem dX2_append_13 : decode cX2_append 13 = .ok (.getfield 9, 3) := by decide +kernel
theorem dX2_append_16 : decode cX2_append 16 = .ok (.aload_n 0, 1) := by decide +kernel
theorem dX2_append_17 : decode cX2_append 17 = .ok (.getfield 22, 3) := by decide +kernel
theorem dX2_append_20 : decode cX2_append 20 = .ok (.iload_n 1, 1) := by decide +kernel
theorem dX2_append_21 : decode cX2_append 21 = .ok (.iastore, 1) := by decide +kernel
theorem dX2_append_22 : decode cX2_append 22 = .ok (.aload_n 0, 1) := by decide +kernel
theorem dX2_append_23 : decode cX2_append 23 = .ok (.dup, 1) := by decide +kernel
theorem dX2_append_24 : decode cX2_append 24 = .ok (.getfield 22, 3) := by decide +kernel
theorem dX2_append_27 : decode cX2_append 27 = .ok (.iconst 1, 1) := by decide +kernel
theorem dX2_append_28 : decode cX2_append 28 = .ok (.iadd, 1) := by decide +kernel
theorem dX2_append_29 : decode cX2_append 29 = .ok (.putfield 22, 3) := by decide +kernel
theorem dX2_append_32 : decode cX2_append 32 = .ok (.return_, 1) := by decide +kernel
theorem dX2_fill_0 : decode cX2_fill 0 = .ok (.iconst 0, 1) := by decide +kernel
theorem dX2_fill_1 : decode cX2_fill 1 = .ok (.istore_n 2, 1) := by decide +kernel
theorem dX2_fill_2 : decode cX2_fill 2 = .ok (.iload_n 2, 1) := by decide +kernel
theorem dX2_fill_3 : decode cX2_fill 3 = .ok (.aload_n 1, 1) := by decide +kernel
theorem dX2_fill_4 : decode cX2_fill 4 = .ok (.arraylength, 1) := by decide +kernel
theorem dX2_fill_5 : decode cX2_fill 5 = .ok (.if_icmp .ge 33, 3) := by decide +kernel
theorem dX2_fill_8 : decode cX2_fill 8 = .ok (.aload_n 1, 1) := by decide +kernel
theorem dX2_fill_9 : decode cX2_fill 9 = .ok (.iload_n 2, 1) := by decide +kernel
theorem dX2_fill_10 : decode cX2_fill 10 = .ok (.iconst 0, 1) := by decide +kernel
theorem dX2_fill_11 : decode cX2_fill 11 = .ok (.bipush 99, 2) := by decide +kernel
theorem dX2_fill_13 : decode cX2_fill 13 = .ok (.aload_n 0, 1) := by decide +kernel
theorem dX2_fill_14 : decode cX2_fill 14 = .ok (.iload_n 2, 1) := by decide +kernel
theorem dX2_fill_15 : decode cX2_fill 15 = .ok (.bipush 19, 2) := by decide +kernel
theorem dX2_fill_17 : decode cX2_fill 17 = .ok (.idiv, 1) := by decide +kernel
theorem dX2_fill_18 : decode cX2_fill 18 = .ok (.iload_n 2, 1) := by decide +kernel
theorem dX2_fill_19 : decode cX2_fill 19 = .ok (.bipush 19, 2) := by decide +kernel
theorem dX2_fill_21 : decode cX2_fill 21 = .ok (.irem, 1) := by decide +kernel
theorem dX2_fill_22 : decode cX2_fill 22 = .ok (.invokevirtual 76, 3) := by decide +kernel
theorem dX2_fill_25 : decode cX2_fill 25 = .ok (.invokestatic 80, 3) := by decide +kernel
theorem dX2_fill_28 : decode cX2_fill 28 = .ok (.invokestatic 85, 3) := by decide +kernel
theorem dX2_fill_31 : decode cX2_fill 31 = .ok (.iastore, 1) := by decide +kernel
theorem dX2_fill_32 : decode cX2_fill 32 = .ok (.iinc 2 1, 3) := by decide +kernel
theorem dX2_fill_35 : decode cX2_fill 35 = .ok (.goto (-33), 3) := by decide +kernel
theorem dX2_fill_38 : decode cX2_fill 38 = .ok (.return_, 1) := by decide +kernel
theorem dX2_valueFor_0 : decode cX2_valueFor 0 = .ok (.iconst 0, 1) := by decide +kernel
theorem dX2_valueFor_1 : decode cX2_valueFor 1 = .ok (.istore_n 3, 1) := by decide +kernel
theorem dX2_valueFor_2 : decode cX2_valueFor 2 = .ok (.iconst 0, 1) := by decide +kernel
theorem dX2_valueFor_3 : decode cX2_valueFor 3 = .ok (.istore 4, 2) := by decide +kernel
theorem dX2_valueFor_5 : decode cX2_valueFor 5 = .ok (.iload 4, 2) := by decide +kernel
theorem dX2_valueFor_7 : decode cX2_valueFor 7 = .ok (.aload_n 0, 1) := by decide +kernel
theorem dX2_valueFor_8 : decode cX2_valueFor 8 = .ok (.getfield 22, 3) := by decide +kernel
theorem dX2_valueFor_11 : decode cX2_valueFor 11 = .ok (.if_icmp .ge 148, 3) := by decide +kernel
theorem dX2_valueFor_14 : decode cX2_valueFor 14 = .ok (.aload_n 0, 1) := by decide +kernel
theorem dX2_valueFor_15 : decode cX2_valueFor 15 = .ok (.getfield 9, 3) := by decide +kernel
theorem dX2_valueFor_18 : decode cX2_valueFor 18 = .ok (.iload 4, 2) := by decide +kernel
theorem dX2_valueFor_20 : decode cX2_valueFor 20 = .ok (.iaload, 1) := by decide +kernel
theorem dX2_valueFor_21 : decode cX2_valueFor 21 = .ok (.istore 5, 2) := by decide +kernel
theorem dX2_valueFor_23 : decode cX2_valueFor 23 = .ok (.iload 5, 2) := by decide +kernel
theorem dX2_valueFor_25 : decode cX2_valueFor 25 = .ok (.bipush (-2), 2) := by decide +kernel
theorem dX2_valueFor_27 : decode cX2_valueFor 27 = .ok (.if_icmp .lt 47, 3) := by decide +kernel
theorem dX2_valueFor_30 : decode cX2_valueFor 30 = .ok (.iload_n 3, 1) := by decide +kernel
theorem dX2_valueFor_31 : decode cX2_valueFor 31 = .ok (.aload_n 0, 1) := by decide +kernel
theorem dX2_valueFor_32 : decode cX2_valueFor 32 = .ok (.getfield 15, 3) := by decide +kernel
theorem dX2_valueFor_35 : decode cX2_valueFor 35 = .ok (.arraylength, 1) := by decide +kernel
theorem dX2_valueFor_36 : decode cX2_valueFor 36 = .ok (.if_icmp .ge 117, 3) := by decide +kernel
theorem dX2_valueFor_39 : decode cX2_valueFor 39 = .ok (.aload_n 0, 1) := by decide +kernel
theorem dX2_valueFor_40 : decode cX2_valueFor 40 = .ok (.getfield 15, 3) := by decide +kernel
theorem dX2_valueFor_43 : decode cX2_valueFor 43 = .ok (.iload_n 3, 1) := by decide +kernel
theorem dX2_valueFor_44 : decode cX2_valueFor 44 = .ok (.iload 5, 2) := by decide +kernel
theorem dX2_valueFor_46 : decode cX2_valueFor 46 = .ok (.iconst (-1), 1) := by decide +kernel
theorem dX2_valueFor_47 : decode cX2_valueFor 47 = .ok (.if_icmp .ne 7, 3) := by decide +kernel
theorem dX2_valueFor_50 : decode cX2_valueFor 50 = .ok (.iload_n 1, 1) := by decide +kernel
theorem dX2_valueFor_51 : decode cX2_valueFor 51 = .ok (.goto 16, 3) := by decide +kernel
theorem dX2_valueFor_54 : decode cX2_valueFor 54 = .ok (.iload 5, 2) := by decide +kernel
theorem dX2_valueFor_56 : decode cX2_valueFor 56 = .ok (.bipush (-2), 2) := by decide +kernel
theorem dX2_valueFor_58 : decode cX2_valueFor 58 = .ok (.if_icmp .ne 7, 3) := by decide +kernel
theorem dX2_valueFor_61 : decode cX2_valueFor 61 = .ok (.iload_n 2, 1) := by decide +kernel
theorem dX2_valueFor_62 : decode cX2_valueFor 62 = .ok (.goto 5, 3) := by decide +kernel
theorem dX2_valueFor_65 : decode cX2_valueFor 65 = .ok (.iload 5, 2) := by decide +kernel
theorem dX2_valueFor_67 : decode cX2_valueFor 67 = .ok (.iastore, 1) := by decide +kernel
theorem dX2_valueFor_68 : decode cX2_valueFor 68 = .ok (.iinc 3 1, 3) := by decide +kernel
theorem dX2_valueFor_71 : decode cX2_valueFor 71 = .ok (.goto 82, 3) := by decide +kernel
theorem dX2_valueFor_74 : decode cX2_valueFor 74 = .ok (.iload 5, 2) := by decide +kernel
theorem dX2_valueFor_76 : decode cX2_valueFor 76 = .ok (.bipush (-5), 2) := by decide +kernel
theorem dX2_valueFor_78 : decode cX2_valueFor 78 = .ok (.if_icmp .ne 38, 3) := by decide +kernel
theorem dX2_valueFor_81 : decode cX2_valueFor 81 = .ok (.iload_n 3, 1) := by decide +kernel
theorem dX2_valueFor_82 : decode cX2_valueFor 82 = .ok (.iconst 1, 1) := by decide +kernel
theorem dX2_valueFor_83 : decode cX2_valueFor 83 = .ok (.if_icmp .lt 70, 3) := by decide +kernel
theorem dX2_valueFor_86 : decode cX2_valueFor 86 = .ok (.aload_n 0, 1) := by decide +kernel
theorem dX2_valueFor_87 : decode cX2_valueFor 87 = .ok (.getfield 15, 3) := by decide +kernel
theorem dX2_valueFor_90 : decode cX2_valueFor 90 = .ok (.iload_n 3, 1) := by decide +kernel
theorem dX2_valueFor_91 : decode cX2_valueFor 91 = .ok (.iconst 1, 1) := by decide +kernel
theorem dX2_valueFor_92 : decode cX2_valueFor 92 = .ok (.isub, 1) := by decide +kernel
theorem dX2_valueFor_93 : decode cX2_valueFor 93 = .ok (.aload_n 0, 1) := by decide +kernel
theorem dX2_valueFor_94 : decode cX2_valueFor 94 = .ok (.getfield 15, 3) := by decide +kernel
theorem dX2_valueFor_97 : decode cX2_valueFor 97 = .ok (.iload_n 3, 1) := by decide +kernel
theorem dX2_valueFor_98 : decode cX2_valueFor 98 = .ok (.iconst 1, 1) := by decide +kernel
theorem dX2_valueFor_99 : decode cX2_valueFor 99 = .ok (.isub, 1) := by decide +kernel
theorem dX2_valueFor_100 : decode cX2_valueFor 100 = .ok (.iaload, 1) := by decide +kernel
theorem dX2_valueFor_101 : decode cX2_valueFor 101 = .ok (.ifCond .ne 7, 3) := by decide +kernel
theorem dX2_valueFor_104 : decode cX2_valueFor 104 = .ok (.iconst 1, 1) := by decide +kernel
theorem dX2_valueFor_105 : decode cX2_valueFor 105 = .ok (.goto 4, 3) := by decide +kernel
theorem dX2_valueFor_108 : decode cX2_valueFor 108 = .ok (.iconst 0, 1) := by decide +kernel
theorem dX2_valueFor_109 : decode cX2_valueFor 109 = .ok (.invokestatic 88, 3) := by decide +kernel
theorem dX2_valueFor_112 : decode cX2_valueFor 112 = .ok (.iastore, 1) := by decide +kernel
theorem dX2_valueFor_113 : decode cX2_valueFor 113 = .ok (.goto 40, 3) := by decide +kernel
theorem dX2_valueFor_116 : decode cX2_valueFor 116 = .ok (.iload_n 3, 1) := by decide +kernel
theorem dX2_valueFor_117 : decode cX2_valueFor 117 = .ok (.iconst 2, 1) := by decide +kernel
theorem dX2_valueFor_118 : decode cX2_valueFor 118 = .ok (.if_icmp .lt 35, 3) := by decide +kernel
theorem dX2_valueFor_121 : decode cX2_valueFor 121 = .ok (.aload_n 0, 1) := by decide +kernel
theorem dX2_valueFor_122 : decode cX2_valueFor 122 = .ok (.getfield 15, 3) := by decide +kernel
theorem dX2_valueFor_125 : decode cX2_valueFor 125 = .ok (.iload_n 3, 1) := by decide +kernel
theorem dX2_valueFor_126 : decode cX2_valueFor 126 = .ok (.iconst 2, 1) := by decide +kernel
theorem dX2_valueFor_127 : decode cX2_valueFor 127 = .ok (.isub, 1) := by decide +kernel
theorem dX2_valueFor_128 : decode cX2_valueFor 128 = .ok (.iload 5, 2) := by decide +kernel
theorem dX2_valueFor_130 : decode cX2_valueFor 130 = .ok (.aload_n 0, 1) := by decide +kernel
theorem dX2_valueFor_131 : decode cX2_valueFor 131 = .ok (.getfield 15, 3) := by decide +kernel
theorem dX2_valueFor_134 : decode cX2_valueFor 134 = .ok (.iload_n 3, 1) := by decide +kernel
theorem dX2_valueFor_135 : decode cX2_valueFor 135 = .ok (.iconst 2, 1) := by decide +kernel
theorem dX2_valueFor_136 : decode cX2_valueFor 136 = .ok (.isub, 1) := by decide +kernel
theorem dX2_valueFor_137 : decode cX2_valueFor 137 = .ok (.iaload, 1) := by decide +kernel
theorem dX2_valueFor_138 : decode cX2_valueFor 138 = .ok (.aload_n 0, 1) := by decide +kernel
theorem dX2_valueFor_139 : decode cX2_valueFor 139 = .ok (.getfield 15, 3) := by decide +kernel
theorem dX2_valueFor_142 : decode cX2_valueFor 142 = .ok (.iload_n 3, 1) := by decide +kernel
theorem dX2_valueFor_143 : decode cX2_valueFor 143 = .ok (.iconst 1, 1) := by decide +kernel
theorem dX2_valueFor_144 : decode cX2_valueFor 144 = .ok (.isub, 1) := by decide +kernel
theorem dX2_valueFor_145 : decode cX2_valueFor 145 = .ok (.iaload, 1) := by decide +kernel
theorem dX2_valueFor_146 : decode cX2_valueFor 146 = .ok (.invokestatic 92, 3) := by decide +kernel
theorem dX2_valueFor_149 : decode cX2_valueFor 149 = .ok (.iastore, 1) := by decide +kernel
theorem dX2_valueFor_150 : decode cX2_valueFor 150 = .ok (.iinc 3 (-1), 3) := by decide +kernel
theorem dX2_valueFor_153 : decode cX2_valueFor 153 = .ok (.iinc 4 1, 3) := by decide +kernel
theorem dX2_valueFor_156 : decode cX2_valueFor 156 = .ok (.goto (-151), 3) := by decide +kernel
theorem dX2_valueFor_159 : decode cX2_valueFor 159 = .ok (.iload_n 3, 1) := by decide +kernel
theorem dX2_valueFor_160 : decode cX2_valueFor 160 = .ok (.iconst 1, 1) := by decide +kernel
theorem dX2_valueFor_161 : decode cX2_valueFor 161 = .ok (.if_icmp .lt 14, 3) := by decide +kernel
theorem dX2_valueFor_164 : decode cX2_valueFor 164 = .ok (.aload_n 0, 1) := by decide +kernel
theorem dX2_valueFor_165 : decode cX2_valueFor 165 = .ok (.getfield 15, 3) := by decide +kernel
theorem dX2_valueFor_168 : decode cX2_valueFor 168 = .ok (.iload_n 3, 1) := by decide +kernel
theorem dX2_valueFor_169 : decode cX2_valueFor 169 = .ok (.iconst 1, 1) := by decide +kernel
theorem dX2_valueFor_170 : decode cX2_valueFor 170 = .ok (.isub, 1) := by decide +kernel
theorem dX2_valueFor_171 : decode cX2_valueFor 171 = .ok (.iaload, 1) := by decide +kernel
theorem dX2_valueFor_172 : decode cX2_valueFor 172 = .ok (.goto 4, 3) := by decide +kernel
theorem dX2_valueFor_175 : decode cX2_valueFor 175 = .ok (.iconst 0, 1) := by decide +kernel
theorem dX2_valueFor_176 : decode cX2_valueFor 176 = .ok (.ireturn, 1) := by decide +kernel
theorem dX2_join_0 : decode cX2_join 0 = .ok (.iload_n 0, 1) := by decide +kernel
theorem dX2_join_1 : decode cX2_join 1 = .ok (.tableswitch 171 (-13) (-3) #[159, 147, 143, 139, 135, 121, 107, 93, 171, 76, 59], 59) := by decide +kernel
theorem dX2_join_60 : decode cX2_join 60 = .ok (.iload_n 1, 1) := by decide +kernel
theorem dX2_join_61 : decode cX2_join 61 = .ok (.ifCond .ne 7, 3) := by decide +kernel
theorem dX2_join_64 : decode cX2_join 64 = .ok (.iload_n 2, 1) := by decide +kernel
theorem dX2_join_65 : decode cX2_join 65 = .ok (.ifCond .eq 7, 3) := by decide +kernel
theorem dX2_join_68 : decode cX2_join 68 = .ok (.iconst 1, 1) := by decide +kernel
theorem dX2_join_69 : decode cX2_join 69 = .ok (.goto 4, 3) := by decide +kernel
theorem dX2_join_72 : decode cX2_join 72 = .ok (.iconst 0, 1) := by decide +kernel
theorem dX2_join_73 : decode cX2_join 73 = .ok (.invokestatic 88, 3) := by decide +kernel
theorem dX2_join_76 : decode cX2_join 76 = .ok (.ireturn, 1) := by decide +kernel
theorem dX2_join_77 : decode cX2_join 77 = .ok (.iload_n 1, 1) := by decide +kernel
theorem dX2_join_78 : decode cX2_join 78 = .ok (.ifCond .eq 11, 3) := by decide +kernel
theorem dX2_join_81 : decode cX2_join 81 = .ok (.iload_n 2, 1) := by decide +kernel
theorem dX2_join_82 : decode cX2_join 82 = .ok (.ifCond .eq 7, 3) := by decide +kernel
theorem dX2_join_85 : decode cX2_join 85 = .ok (.iconst 1, 1) := by decide +kernel
theorem dX2_join_86 : decode cX2_join 86 = .ok (.goto 4, 3) := by decide +kernel
theorem dX2_join_89 : decode cX2_join 89 = .ok (.iconst 0, 1) := by decide +kernel
theorem dX2_join_90 : decode cX2_join 90 = .ok (.invokestatic 88, 3) := by decide +kernel
theorem dX2_join_93 : decode cX2_join 93 = .ok (.ireturn, 1) := by decide +kernel
theorem dX2_join_94 : decode cX2_join 94 = .ok (.iload_n 1, 1) := by decide +kernel
theorem dX2_join_95 : decode cX2_join 95 = .ok (.iload_n 2, 1) := by decide +kernel
theorem dX2_join_96 : decode cX2_join 96 = .ok (.if_icmp .ge 7, 3) := by decide +kernel
theorem dX2_join_99 : decode cX2_join 99 = .ok (.iconst 1, 1) := by decide +kernel
theorem dX2_join_100 : decode cX2_join 100 = .ok (.goto 4, 3) := by decide +kernel
theorem dX2_join_103 : decode cX2_join 103 = .ok (.iconst 0, 1) := by decide +kernel
theorem dX2_join_104 : decode cX2_join 104 = .ok (.invokestatic 88, 3) := by decide +kernel
theorem dX2_join_107 : decode cX2_join 107 = .ok (.ireturn, 1) := by decide +kernel
theorem dX2_join_108 : decode cX2_join 108 = .ok (.iload_n 1, 1) := by decide +kernel
theorem dX2_join_109 : decode cX2_join 109 = .ok (.iload_n 2, 1) := by decide +kernel
theorem dX2_join_110 : decode cX2_join 110 = .ok (.if_icmp .le 7, 3) := by decide +kernel
theorem dX2_join_113 : decode cX2_join 113 = .ok (.iconst 1, 1) := by decide +kernel
theorem dX2_join_114 : decode cX2_join 114 = .ok (.goto 4, 3) := by decide +kernel
theorem dX2_join_117 : decode cX2_join 117 = .ok (.iconst 0, 1) := by decide +kernel
theorem dX2_join_118 : decode cX2_join 118 = .ok (.invokestatic 88, 3) := by decide +kernel
theorem dX2_join_121 : decode cX2_join 121 = .ok (.ireturn, 1) := by decide +kernel
theorem dX2_join_122 : decode cX2_join 122 = .ok (.iload_n 1, 1) := by decide +kernel
theorem dX2_join_123 : decode cX2_join 123 = .ok (.iload_n 2, 1) := by decide +kernel
theorem dX2_join_124 : decode cX2_join 124 = .ok (.if_icmp .ne 7, 3) := by decide +kernel
theorem dX2_join_127 : decode cX2_join 127 = .ok (.iconst 1, 1) := by decide +kernel
theorem dX2_join_128 : decode cX2_join 128 = .ok (.goto 4, 3) := by decide +kernel
theorem dX2_join_131 : decode cX2_join 131 = .ok (.iconst 0, 1) := by decide +kernel
theorem dX2_join_132 : decode cX2_join 132 = .ok (.invokestatic 88, 3) := by decide +kernel
theorem dX2_join_135 : decode cX2_join 135 = .ok (.ireturn, 1) := by decide +kernel
theorem dX2_join_136 : decode cX2_join 136 = .ok (.iload_n 1, 1) := by decide +kernel
theorem dX2_join_137 : decode cX2_join 137 = .ok (.iload_n 2, 1) := by decide +kernel
theorem dX2_join_138 : decode cX2_join 138 = .ok (.iadd, 1) := by decide +kernel
theorem dX2_join_139 : decode cX2_join 139 = .ok (.ireturn, 1) := by decide +kernel
theorem dX2_join_140 : decode cX2_join 140 = .ok (.iload_n 1, 1) := by decide +kernel
theorem dX2_join_141 : decode cX2_join 141 = .ok (.iload_n 2, 1) := by decide +kernel
theorem dX2_join_142 : decode cX2_join 142 = .ok (.isub, 1) := by decide +kernel
theorem dX2_join_143 : decode cX2_join 143 = .ok (.ireturn, 1) := by decide +kernel
theorem dX2_join_144 : decode cX2_join 144 = .ok (.iload_n 1, 1) := by decide +kernel
theorem dX2_join_145 : decode cX2_join 145 = .ok (.iload_n 2, 1) := by decide +kernel
theorem dX2_join_146 : decode cX2_join 146 = .ok (.imul, 1) := by decide +kernel
theorem dX2_join_147 : decode cX2_join 147 = .ok (.ireturn, 1) := by decide +kernel
theorem dX2_join_148 : decode cX2_join 148 = .ok (.iload_n 2, 1) := by decide +kernel
theorem dX2_join_149 : decode cX2_join 149 = .ok (.ifCond .ne 7, 3) := by decide +kernel
theorem dX2_join_152 : decode cX2_join 152 = .ok (.iconst 0, 1) := by decide +kernel
theorem dX2_join_153 : decode cX2_join 153 = .ok (.goto 6, 3) := by decide +kernel
theorem dX2_join_156 : decode cX2_join 156 = .ok (.iload_n 1, 1) := by decide +kernel
theorem dX2_join_157 : decode cX2_join 157 = .ok (.iload_n 2, 1) := by decide +kernel
theorem dX2_join_158 : decode cX2_join 158 = .ok (.idiv, 1) := by decide +kernel
theorem dX2_join_159 : decode cX2_join 159 = .ok (.ireturn, 1) := by decide +kernel
theorem dX2_join_160 : decode cX2_join 160 = .ok (.iload_n 2, 1) := by decide +kernel
theorem dX2_join_161 : decode cX2_join 161 = .ok (.ifCond .ne 7, 3) := by decide +kernel
theorem dX2_join_164 : decode cX2_join 164 = .ok (.iconst 0, 1) := by decide +kernel
theorem dX2_join_165 : decode cX2_join 165 = .ok (.goto 6, 3) := by decide +kernel
theorem dX2_join_168 : decode cX2_join 168 = .ok (.iload_n 1, 1) := by decide +kernel
theorem dX2_join_169 : decode cX2_join 169 = .ok (.iload_n 2, 1) := by decide +kernel
theorem dX2_join_170 : decode cX2_join 170 = .ok (.irem, 1) := by decide +kernel
theorem dX2_join_171 : decode cX2_join 171 = .ok (.ireturn, 1) := by decide +kernel
theorem dX2_join_172 : decode cX2_join 172 = .ok (.iconst 0, 1) := by decide +kernel
theorem dX2_join_173 : decode cX2_join 173 = .ok (.ireturn, 1) := by decide +kernel
theorem dX2_truth_0 : decode cX2_truth 0 = .ok (.iload_n 0, 1) := by decide +kernel
theorem dX2_truth_1 : decode cX2_truth 1 = .ok (.ifCond .eq 7, 3) := by decide +kernel
theorem dX2_truth_4 : decode cX2_truth 4 = .ok (.iconst 1, 1) := by decide +kernel
theorem dX2_truth_5 : decode cX2_truth 5 = .ok (.goto 4, 3) := by decide +kernel
theorem dX2_truth_8 : decode cX2_truth 8 = .ok (.iconst 0, 1) := by decide +kernel
theorem dX2_truth_9 : decode cX2_truth 9 = .ok (.ireturn, 1) := by decide +kernel
theorem dX3_init_0 : decode cX3_init 0 = .ok (.aload_n 0, 1) := by decide +kernel
theorem dX3_init_1 : decode cX3_init 1 = .ok (.invokespecial 3, 3) := by decide +kernel
theorem dX3_init_4 : decode cX3_init 4 = .ok (.aload_n 0, 1) := by decide +kernel
theorem dX3_init_5 : decode cX3_init 5 = .ok (.new 9, 3) := by decide +kernel
theorem dX3_init_8 : decode cX3_init 8 = .ok (.dup, 1) := by decide +kernel
theorem dX3_init_9 : decode cX3_init 9 = .ok (.invokespecial 11, 3) := by decide +kernel
theorem dX3_init_12 : decode cX3_init 12 = .ok (.putfield 12, 3) := by decide +kernel
theorem dX3_init_15 : decode cX3_init 15 = .ok (.aload_n 0, 1) := by decide +kernel
theorem dX3_init_16 : decode cX3_init 16 = .ok (.new 18, 3) := by decide +kernel
theorem dX3_init_19 : decode cX3_init 19 = .ok (.dup, 1) := by decide +kernel
theorem dX3_init_20 : decode cX3_init 20 = .ok (.invokespecial 20, 3) := by decide +kernel
theorem dX3_init_23 : decode cX3_init 23 = .ok (.putfield 21, 3) := by decide +kernel
theorem dX3_init_26 : decode cX3_init 26 = .ok (.aload_n 0, 1) := by decide +kernel
theorem dX3_init_27 : decode cX3_init 27 = .ok (.new 25, 3) := by decide +kernel
theorem dX3_init_30 : decode cX3_init 30 = .ok (.dup, 1) := by decide +kernel
theorem dX3_init_31 : decode cX3_init 31 = .ok (.invokespecial 27, 3) := by decide +kernel
theorem dX3_init_34 : decode cX3_init 34 = .ok (.putfield 28, 3) := by decide +kernel
theorem dX3_init_37 : decode cX3_init 37 = .ok (.aload_n 0, 1) := by decide +kernel
theorem dX3_init_38 : decode cX3_init 38 = .ok (.bipush 6, 2) := by decide +kernel
theorem dX3_init_40 : decode cX3_init 40 = .ok (.newarray .long, 2) := by decide +kernel
theorem dX3_init_42 : decode cX3_init 42 = .ok (.putfield 32, 3) := by decide +kernel
theorem dX3_init_45 : decode cX3_init 45 = .ok (.aload_n 0, 1) := by decide +kernel
theorem dX3_init_46 : decode cX3_init 46 = .ok (.iconst 4, 1) := by decide +kernel
theorem dX3_init_47 : decode cX3_init 47 = .ok (.newarray .int, 2) := by decide +kernel
theorem dX3_init_49 : decode cX3_init 49 = .ok (.putfield 36, 3) := by decide +kernel
theorem dX3_init_52 : decode cX3_init 52 = .ok (.return_, 1) := by decide +kernel
theorem dX3_readAll_0 : decode cX3_readAll 0 = .ok (.aload_n 0, 1) := by decide +kernel
theorem dX3_readAll_1 : decode cX3_readAll 1 = .ok (.aload_n 1, 1) := by decide +kernel
theorem dX3_readAll_2 : decode cX3_readAll 2 = .ok (.putfield 40, 3) := by decide +kernel
theorem dX3_readAll_5 : decode cX3_readAll 5 = .ok (.aload_n 0, 1) := by decide +kernel
theorem dX3_readAll_6 : decode cX3_readAll 6 = .ok (.getfield 40, 3) := by decide +kernel
theorem dX3_readAll_9 : decode cX3_readAll 9 = .ok (.invokevirtual 44, 3) := by decide +kernel
theorem dX3_readAll_12 : decode cX3_readAll 12 = .ok (.aload_n 0, 1) := by decide +kernel
theorem dX3_readAll_13 : decode cX3_readAll 13 = .ok (.iconst 0, 1) := by decide +kernel
theorem dX3_readAll_14 : decode cX3_readAll 14 = .ok (.putfield 49, 3) := by decide +kernel
theorem dX3_readAll_17 : decode cX3_readAll 17 = .ok (.aload_n 0, 1) := by decide +kernel
theorem dX3_readAll_18 : decode cX3_readAll 18 = .ok (.getfield 12, 3) := by decide +kernel
theorem dX3_readAll_21 : decode cX3_readAll 21 = .ok (.iload_n 2, 1) := by decide +kernel
theorem dX3_readAll_22 : decode cX3_readAll 22 = .ok (.invokevirtual 53, 3) := by decide +kernel
theorem dX3_readAll_25 : decode cX3_readAll 25 = .ok (.iconst 0, 1) := by decide +kernel
theorem dX3_readAll_26 : decode cX3_readAll 26 = .ok (.istore_n 3, 1) := by decide +kernel
theorem dX3_readAll_27 : decode cX3_readAll 27 = .ok (.iload_n 3, 1) := by decide +kernel
theorem dX3_readAll_28 : decode cX3_readAll 28 = .ok (.sipush 1600, 3) := by decide +kernel
theorem dX3_readAll_31 : decode cX3_readAll 31 = .ok (.if_icmp .gt 142, 3) := by decide +kernel
theorem dX3_readAll_34 : decode cX3_readAll 34 = .ok (.aload_n 0, 1) := by decide +kernel
theorem dX3_readAll_35 : decode cX3_readAll 35 = .ok (.getfield 12, 3) := by decide +kernel
theorem dX3_readAll_38 : decode cX3_readAll 38 = .ok (.invokevirtual 57, 3) := by decide +kernel
theorem dX3_readAll_41 : decode cX3_readAll 41 = .ok (.ifCond .eq 132, 3) := by decide +kernel
theorem dX3_readAll_44 : decode cX3_readAll 44 = .ok (.aload_n 0, 1) := by decide +kernel
theorem dX3_readAll_45 : decode cX3_readAll 45 = .ok (.getfield 12, 3) := by decide +kernel
theorem dX3_readAll_48 : decode cX3_readAll 48 = .ok (.bipush 20, 2) := by decide +kernel
theorem dX3_readAll_50 : decode cX3_readAll 50 = .ok (.invokevirtual 61, 3) := by decide +kernel
theorem dX3_readAll_53 : decode cX3_readAll 53 = .ok (.ifCond .eq 10, 3) := by decide +kernel
theorem dX3_readAll_56 : decode cX3_readAll 56 = .ok (.aload_n 0, 1) := by decide +kernel
theorem dX3_readAll_57 : decode cX3_readAll 57 = .ok (.invokevirtual 65, 3) := by decide +kernel
theorem dX3_readAll_60 : decode cX3_readAll 60 = .ok (.goto 90, 3) := by decide +kernel
theorem dX3_readAll_63 : decode cX3_readAll 63 = .ok (.aload_n 0, 1) := by decide +kernel
theorem dX3_readAll_64 : decode cX3_readAll 64 = .ok (.getfield 12, 3) := by decide +kernel
theorem dX3_readAll_67 : decode cX3_readAll 67 = .ok (.bipush 21, 2) := by decide +kernel
theorem dX3_readAll_69 : decode cX3_readAll 69 = .ok (.invokevirtual 61, 3) := by decide +kernel
theorem dX3_readAll_72 : decode cX3_readAll 72 = .ok (.ifCond .eq 10, 3) := by decide +kernel
theorem dX3_readAll_75 : decode cX3_readAll 75 = .ok (.aload_n 0, 1) := by decide +kernel
theorem dX3_readAll_76 : decode cX3_readAll 76 = .ok (.invokevirtual 68, 3) := by decide +kernel
theorem dX3_readAll_79 : decode cX3_readAll 79 = .ok (.goto 71, 3) := by decide +kernel
theorem dX3_readAll_82 : decode cX3_readAll 82 = .ok (.aload_n 0, 1) := by decide +kernel
theorem dX3_readAll_83 : decode cX3_readAll 83 = .ok (.getfield 12, 3) := by decide +kernel
theorem dX3_readAll_86 : decode cX3_readAll 86 = .ok (.bipush 22, 2) := by decide +kernel
theorem dX3_readAll_88 : decode cX3_readAll 88 = .ok (.invokevirtual 61, 3) := by decide +kernel
theorem dX3_readAll_91 : decode cX3_readAll 91 = .ok (.ifCond .eq 21, 3) := by decide +kernel
theorem dX3_readAll_94 : decode cX3_readAll 94 = .ok (.aload_n 0, 1) := by decide +kernel
theorem dX3_readAll_95 : decode cX3_readAll 95 = .ok (.getfield 40, 3) := by decide +kernel
theorem dX3_readAll_98 : decode cX3_readAll 98 = .ok (.aload_n 0, 1) := by decide +kernel
theorem dX3_readAll_99 : decode cX3_readAll 99 = .ok (.bipush 22, 2) := by decide +kernel
theorem dX3_readAll_101 : decode cX3_readAll 101 = .ok (.bipush 100, 2) := by decide +kernel
theorem dX3_readAll_103 : decode cX3_readAll 103 = .ok (.invokevirtual 71, 3) := by decide +kernel
theorem dX3_readAll_106 : decode cX3_readAll 106 = .ok (.putfield 75, 3) := by decide +kernel
theorem dX3_readAll_109 : decode cX3_readAll 109 = .ok (.goto 41, 3) := by decide +kernel
theorem dX3_readAll_112 : decode cX3_readAll 112 = .ok (.aload_n 0, 1) := by decide +kernel
theorem dX3_readAll_113 : decode cX3_readAll 113 = .ok (.getfield 12, 3) := by decide +kernel
theorem dX3_readAll_116 : decode cX3_readAll 116 = .ok (.bipush 23, 2) := by decide +kernel
theorem dX3_readAll_118 : decode cX3_readAll 118 = .ok (.invokevirtual 61, 3) := by decide +kernel
theorem dX3_readAll_121 : decode cX3_readAll 121 = .ok (.ifCond .eq 22, 3) := by decide +kernel
theorem dX3_readAll_124 : decode cX3_readAll 124 = .ok (.aload_n 0, 1) := by decide +kernel
theorem dX3_readAll_125 : decode cX3_readAll 125 = .ok (.getfield 40, 3) := by decide +kernel
theorem dX3_readAll_128 : decode cX3_readAll 128 = .ok (.aload_n 0, 1) := by decide +kernel
theorem dX3_readAll_129 : decode cX3_readAll 129 = .ok (.bipush 23, 2) := by decide +kernel
theorem dX3_readAll_131 : decode cX3_readAll 131 = .ok (.sipush 999, 3) := by decide +kernel
theorem dX3_readAll_134 : decode cX3_readAll 134 = .ok (.invokevirtual 71, 3) := by decide +kernel
theorem dX3_readAll_137 : decode cX3_readAll 137 = .ok (.putfield 78, 3) := by decide +kernel
theorem dX3_readAll_140 : decode cX3_readAll 140 = .ok (.goto 10, 3) := by decide +kernel
theorem dX3_readAll_143 : decode cX3_readAll 143 = .ok (.aload_n 0, 1) := by decide +kernel
theorem dX3_readAll_144 : decode cX3_readAll 144 = .ok (.getfield 12, 3) := by decide +kernel
theorem dX3_readAll_147 : decode cX3_readAll 147 = .ok (.invokevirtual 81, 3) := by decide +kernel
theorem dX3_readAll_150 : decode cX3_readAll 150 = .ok (.aload_n 0, 1) := by decide +kernel
theorem dX3_readAll_151 : decode cX3_readAll 151 = .ok (.getfield 12, 3) := by decide +kernel
theorem dX3_readAll_154 : decode cX3_readAll 154 = .ok (.getfield 84, 3) := by decide +kernel
theorem dX3_readAll_157 : decode cX3_readAll 157 = .ok (.ifCond .ne 10, 3) := by decide +kernel
theorem dX3_readAll_160 : decode cX3_readAll 160 = .ok (.aload_n 0, 1) := by decide +kernel
theorem dX3_readAll_161 : decode cX3_readAll 161 = .ok (.getfield 12, 3) := by decide +kernel
theorem dX3_readAll_164 : decode cX3_readAll 164 = .ok (.invokevirtual 87, 3) := by decide +kernel
theorem dX3_readAll_167 : decode cX3_readAll 167 = .ok (.iinc 3 1, 3) := by decide +kernel
theorem dX3_readAll_170 : decode cX3_readAll 170 = .ok (.goto (-143), 3) := by decide +kernel
theorem dX3_readAll_173 : decode cX3_readAll 173 = .ok (.aload_n 0, 1) := by decide +kernel
theorem dX3_readAll_174 : decode cX3_readAll 174 = .ok (.getfield 12, 3) := by decide +kernel
theorem dX3_readAll_177 : decode cX3_readAll 177 = .ok (.getfield 84, 3) := by decide +kernel
theorem dX3_readAll_180 : decode cX3_readAll 180 = .ok (.ifCond .ne 7, 3) := by decide +kernel
theorem dX3_readAll_183 : decode cX3_readAll 183 = .ok (.iconst 1, 1) := by decide +kernel
theorem dX3_readAll_184 : decode cX3_readAll 184 = .ok (.goto 4, 3) := by decide +kernel
theorem dX3_readAll_187 : decode cX3_readAll 187 = .ok (.iconst 0, 1) := by decide +kernel
theorem dX3_readAll_188 : decode cX3_readAll 188 = .ok (.ireturn, 1) := by decide +kernel
theorem dX3_isToldAgain_0 : decode cX3_isToldAgain 0 = .ok (.iconst 1, 1) := by decide +kernel
theorem dX3_isToldAgain_1 : decode cX3_isToldAgain 1 = .ok (.iload_n 1, 1) := by decide +kernel
theorem dX3_isToldAgain_2 : decode cX3_isToldAgain 2 = .ok (.bipush 21, 2) := by decide +kernel
theorem dX3_isToldAgain_4 : decode cX3_isToldAgain 4 = .ok (.isub, 1) := by decide +kernel
theorem dX3_isToldAgain_5 : decode cX3_isToldAgain 5 = .ok (.ishl, 1) := by decide +kernel
theorem dX3_isToldAgain_6 : decode cX3_isToldAgain 6 = .ok (.istore_n 2, 1) := by decide +kernel
theorem dX3_isToldAgain_7 : decode cX3_isToldAgain 7 = .ok (.aload_n 0, 1) := by decide +kernel
theorem dX3_isToldAgain_8 : decode cX3_isToldAgain 8 = .ok (.getfield 49, 3) := by decide +kernel
theorem dX3_isToldAgain_11 : decode cX3_isToldAgain 11 = .ok (.iload_n 2, 1) := by decide +kernel
theorem dX3_isToldAgain_12 : decode cX3_isToldAgain 12 = .ok (.iand, 1) := by decide +kernel
theorem dX3_isToldAgain_13 : decode cX3_isToldAgain 13 = .ok (.ifCond .eq 7, 3) := by decide +kernel
theorem dX3_isToldAgain_16 : decode cX3_isToldAgain 16 = .ok (.iconst 1, 1) := by decide +kernel
theorem dX3_isToldAgain_17 : decode cX3_isToldAgain 17 = .ok (.goto 4, 3) := by decide +kernel
theorem dX3_isToldAgain_20 : decode cX3_isToldAgain 20 = .ok (.iconst 0, 1) := by decide +kernel
theorem dX3_isToldAgain_21 : decode cX3_isToldAgain 21 = .ok (.istore_n 3, 1) := by decide +kernel
theorem dX3_isToldAgain_22 : decode cX3_isToldAgain 22 = .ok (.aload_n 0, 1) := by decide +kernel
theorem dX3_isToldAgain_23 : decode cX3_isToldAgain 23 = .ok (.dup, 1) := by decide +kernel
theorem dX3_isToldAgain_24 : decode cX3_isToldAgain 24 = .ok (.getfield 49, 3) := by decide +kernel
theorem dX3_isToldAgain_27 : decode cX3_isToldAgain 27 = .ok (.iload_n 2, 1) := by decide +kernel
theorem dX3_isToldAgain_28 : decode cX3_isToldAgain 28 = .ok (.ior, 1) := by decide +kernel
theorem dX3_isToldAgain_29 : decode cX3_isToldAgain 29 = .ok (.putfield 49, 3) := by decide +kernel
theorem dX3_isToldAgain_32 : decode cX3_isToldAgain 32 = .ok (.iload_n 3, 1) := by decide +kernel
theorem dX3_isToldAgain_33 : decode cX3_isToldAgain 33 = .ok (.ireturn, 1) := by decide +kernel
theorem dX3_readTakes_0 : decode cX3_readTakes 0 = .ok (.aload_n 0, 1) := by decide +kernel
theorem dX3_readTakes_1 : decode cX3_readTakes 1 = .ok (.bipush 21, 2) := by decide +kernel
theorem dX3_readTakes_3 : decode cX3_readTakes 3 = .ok (.invokevirtual 90, 3) := by decide +kernel
theorem dX3_readTakes_6 : decode cX3_readTakes 6 = .ok (.ifCond .eq 11, 3) := by decide +kernel
theorem dX3_readTakes_9 : decode cX3_readTakes 9 = .ok (.aload_n 0, 1) := by decide +kernel
theorem dX3_readTakes_10 : decode cX3_readTakes 10 = .ok (.getfield 12, 3) := by decide +kernel
theorem dX3_readTakes_13 : decode cX3_readTakes 13 = .ok (.invokevirtual 81, 3) := by decide +kernel
theorem dX3_readTakes_16 : decode cX3_readTakes 16 = .ok (.return_, 1) := by decide +kernel
theorem dX3_readTakes_17 : decode cX3_readTakes 17 = .ok (.aload_n 0, 1) := by decide +kernel
theorem dX3_readTakes_18 : decode cX3_readTakes 18 = .ok (.getfield 12, 3) := by decide +kernel
theorem dX3_readTakes_21 : decode cX3_readTakes 21 = .ok (.invokevirtual 87, 3) := by decide +kernel
theorem dX3_readTakes_24 : decode cX3_readTakes 24 = .ok (.aload_n 0, 1) := by decide +kernel
theorem dX3_readTakes_25 : decode cX3_readTakes 25 = .ok (.getfield 28, 3) := by decide +kernel
theorem dX3_readTakes_28 : decode cX3_readTakes 28 = .ok (.aload_n 0, 1) := by decide +kernel
theorem dX3_readTakes_29 : decode cX3_readTakes 29 = .ok (.getfield 12, 3) := by decide +kernel
theorem dX3_readTakes_32 : decode cX3_readTakes 32 = .ok (.invokevirtual 93, 3) := by decide +kernel
theorem dX3_readTakes_35 : decode cX3_readTakes 35 = .ok (.aload_n 0, 1) := by decide +kernel
theorem dX3_readTakes_36 : decode cX3_readTakes 36 = .ok (.getfield 28, 3) := by decide +kernel
theorem dX3_readTakes_39 : decode cX3_readTakes 39 = .ok (.iconst 0, 1) := by decide +kernel
theorem dX3_readTakes_40 : decode cX3_readTakes 40 = .ok (.iconst 0, 1) := by decide +kernel
theorem dX3_readTakes_41 : decode cX3_readTakes 41 = .ok (.invokevirtual 96, 3) := by decide +kernel
theorem dX3_readTakes_44 : decode cX3_readTakes 44 = .ok (.aload_n 0, 1) := by decide +kernel
theorem dX3_readTakes_45 : decode cX3_readTakes 45 = .ok (.getfield 12, 3) := by decide +kernel
theorem dX3_readTakes_48 : decode cX3_readTakes 48 = .ok (.bipush 59, 2) := by decide +kernel
theorem dX3_readTakes_50 : decode cX3_readTakes 50 = .ok (.invokevirtual 100, 3) := by decide +kernel
theorem dX3_readTakes_53 : decode cX3_readTakes 53 = .ok (.aload_n 0, 1) := by decide +kernel
theorem dX3_readTakes_54 : decode cX3_readTakes 54 = .ok (.getfield 12, 3) := by decide +kernel
theorem dX3_readTakes_57 : decode cX3_readTakes 57 = .ok (.getfield 84, 3) := by decide +kernel
theorem dX3_readTakes_60 : decode cX3_readTakes 60 = .ok (.ifCond .ne 31, 3) := by decide +kernel
theorem dX3_readTakes_63 : decode cX3_readTakes 63 = .ok (.aload_n 0, 1) := by decide +kernel
theorem dX3_readTakes_64 : decode cX3_readTakes 64 = .ok (.getfield 40, 3) := by decide +kernel
theorem dX3_readTakes_67 : decode cX3_readTakes 67 = .ok (.aload_n 0, 1) := by decide +kernel
theorem dX3_readTakes_68 : decode cX3_readTakes 68 = .ok (.getfield 28, 3) := by decide +kernel
theorem dX3_readTakes_71 : decode cX3_readTakes 71 = .ok (.getfield 104, 3) := by decide +kernel
theorem dX3_readTakes_74 : decode cX3_readTakes 74 = .ok (.putfield 107, 3) := by decide +kernel
theorem dX3_readTakes_77 : decode cX3_readTakes 77 = .ok (.aload_n 0, 1) := by decide +kernel
theorem dX3_readTakes_78 : decode cX3_readTakes 78 = .ok (.getfield 28, 3) := by decide +kernel
theorem dX3_readTakes_81 : decode cX3_readTakes 81 = .ok (.aload_n 0, 1) := by decide +kernel
theorem dX3_readTakes_82 : decode cX3_readTakes 82 = .ok (.getfield 40, 3) := by decide +kernel
theorem dX3_readTakes_85 : decode cX3_readTakes 85 = .ok (.getfield 108, 3) := by decide +kernel
theorem dX3_readTakes_88 : decode cX3_readTakes 88 = .ok (.invokevirtual 111, 3) := by decide +kernel
theorem dX3_readTakes_91 : decode cX3_readTakes 91 = .ok (.return_, 1) := by decide +kernel
theorem dX3_readNumberLine_0 : decode cX3_readNumberLine 0 = .ok (.aload_n 0, 1) := by decide +kernel
theorem dX3_readNumberLine_1 : decode cX3_readNumberLine 1 = .ok (.iload_n 1, 1) := by decide +kernel
theorem dX3_readNumberLine_2 : decode cX3_readNumberLine 2 = .ok (.invokevirtual 90, 3) := by decide +kernel
theorem dX3_readNumberLine_5 : decode cX3_readNumberLine 5 = .ok (.ifCond .eq 12, 3) := by decide +kernel
theorem dX3_readNumberLine_8 : decode cX3_readNumberLine 8 = .ok (.aload_n 0, 1) := by decide +kernel
theorem dX3_readNumberLine_9 : decode cX3_readNumberLine 9 = .ok (.getfield 12, 3) := by decide +kernel
theorem dX3_readNumberLine_12 : decode cX3_readNumberLine 12 = .ok (.invokevirtual 81, 3) := by decide +kernel
theorem dX3_readNumberLine_15 : decode cX3_readNumberLine 15 = .ok (.iconst 0, 1) := by decide +kernel
theorem dX3_readNumberLine_16 : decode cX3_readNumberLine 16 = .ok (.ireturn, 1) := by decide +kernel
theorem dX3_readNumberLine_17 : decode cX3_readNumberLine 17 = .ok (.aload_n 0, 1) := by decide +kernel
theorem dX3_readNumberLine_18 : decode cX3_readNumberLine 18 = .ok (.getfield 12, 3) := by decide +kernel
theorem dX3_readNumberLine_21 : decode cX3_readNumberLine 21 = .ok (.invokevirtual 87, 3) := by decide +kernel
theorem dX3_readNumberLine_24 : decode cX3_readNumberLine 24 = .ok (.aload_n 0, 1) := by decide +kernel
theorem dX3_readNumberLine_25 : decode cX3_readNumberLine 25 = .ok (.getfield 12, 3) := by decide +kernel
theorem dX3_readNumberLine_28 : decode cX3_readNumberLine 28 = .ok (.getfield 115, 3) := by decide +kernel
theorem dX3_readNumberLine_31 : decode cX3_readNumberLine 31 = .ok (.istore_n 3, 1) := by decide +kernel
theorem dX3_readNumberLine_32 : decode cX3_readNumberLine 32 = .ok (.aload_n 0, 1) := by decide +kernel
theorem dX3_readNumberLine_33 : decode cX3_readNumberLine 33 = .ok (.iconst 0, 1) := by decide +kernel
theorem dX3_readNumberLine_34 : decode cX3_readNumberLine 34 = .ok (.iload_n 2, 1) := by decide +kernel
theorem dX3_readNumberLine_35 : decode cX3_readNumberLine 35 = .ok (.invokevirtual 118, 3) := by decide +kernel
theorem dX3_readNumberLine_38 : decode cX3_readNumberLine 38 = .ok (.aload_n 0, 1) := by decide +kernel
theorem dX3_readNumberLine_39 : decode cX3_readNumberLine 39 = .ok (.getfield 12, 3) := by decide +kernel
theorem dX3_readNumberLine_42 : decode cX3_readNumberLine 42 = .ok (.getfield 84, 3) := by decide +kernel
theorem dX3_readNumberLine_45 : decode cX3_readNumberLine 45 = .ok (.ifCond .ne 19, 3) := by decide +kernel
theorem dX3_readNumberLine_48 : decode cX3_readNumberLine 48 = .ok (.aload_n 0, 1) := by decide +kernel
theorem dX3_readNumberLine_49 : decode cX3_readNumberLine 49 = .ok (.getfield 12, 3) := by decide +kernel
theorem dX3_readNumberLine_52 : decode cX3_readNumberLine 52 = .ok (.invokevirtual 87, 3) := by decide +kernel
theorem dX3_readNumberLine_55 : decode cX3_readNumberLine 55 = .ok (.aload_n 0, 1) := by decide +kernel
theorem dX3_readNumberLine_56 : decode cX3_readNumberLine 56 = .ok (.getfield 12, 3) := by decide +kernel
theorem dX3_readNumberLine_59 : decode cX3_readNumberLine 59 = .ok (.bipush 59, 2) := by decide +kernel
theorem dX3_readNumberLine_61 : decode cX3_readNumberLine 61 = .ok (.invokevirtual 100, 3) := by decide +kernel
theorem dX3_readNumberLine_64 : decode cX3_readNumberLine 64 = .ok (.iload_n 3, 1) := by decide +kernel
theorem dX3_readNumberLine_65 : decode cX3_readNumberLine 65 = .ok (.ireturn, 1) := by decide +kernel
theorem dX3_requireNumber_0 : decode cX3_requireNumber 0 = .ok (.aload_n 0, 1) := by decide +kernel
theorem dX3_requireNumber_1 : decode cX3_requireNumber 1 = .ok (.getfield 12, 3) := by decide +kernel
theorem dX3_requireNumber_4 : decode cX3_requireNumber 4 = .ok (.getfield 121, 3) := by decide +kernel
theorem dX3_requireNumber_7 : decode cX3_requireNumber 7 = .ok (.iconst 2, 1) := by decide +kernel
theorem dX3_requireNumber_8 : decode cX3_requireNumber 8 = .ok (.if_icmp .eq 13, 3) := by decide +kernel
theorem dX3_requireNumber_11 : decode cX3_requireNumber 11 = .ok (.aload_n 0, 1) := by decide +kernel
theorem dX3_requireNumber_12 : decode cX3_requireNumber 12 = .ok (.getfield 12, 3) := by decide +kernel
theorem dX3_requireNumber_15 : decode cX3_requireNumber 15 = .ok (.invokevirtual 81, 3) := by decide +kernel
theorem dX3_requireNumber_18 : decode cX3_requireNumber 18 = .ok (.goto 33, 3) := by decide +kernel
theorem dX3_requireNumber_21 : decode cX3_requireNumber 21 = .ok (.aload_n 0, 1) := by decide +kernel
theorem dX3_requireNumber_22 : decode cX3_requireNumber 22 = .ok (.getfield 12, 3) := by decide +kernel
theorem dX3_requireNumber_25 : decode cX3_requireNumber 25 = .ok (.getfield 115, 3) := by decide +kernel
theorem dX3_requireNumber_28 : decode cX3_requireNumber 28 = .ok (.iload_n 1, 1) := by decide +kernel
theorem dX3_requireNumber_29 : decode cX3_requireNumber 29 = .ok (.if_icmp .lt 14, 3) := by decide +kernel
theorem dX3_requireNumber_32 : decode cX3_requireNumber 32 = .ok (.aload_n 0, 1) := by decide +kernel
theorem dX3_requireNumber_33 : decode cX3_requireNumber 33 = .ok (.getfield 12, 3) := by decide +kernel
theorem dX3_requireNumber_36 : decode cX3_requireNumber 36 = .ok (.getfield 115, 3) := by decide +kernel
theorem dX3_requireNumber_39 : decode cX3_requireNumber 39 = .ok (.iload_n 2, 1) := by decide +kernel
theorem dX3_requireNumber_40 : decode cX3_requireNumber 40 = .ok (.if_icmp .le 11, 3) := by decide +kernel
theorem dX3_requireNumber_43 : decode cX3_requireNumber 43 = .ok (.aload_n 0, 1) := by decide +kernel
theorem dX3_requireNumber_44 : decode cX3_requireNumber 44 = .ok (.getfield 12, 3) := by decide +kernel
theorem dX3_requireNumber_47 : decode cX3_requireNumber 47 = .ok (.iconst 4, 1) := by decide +kernel
theorem dX3_requireNumber_48 : decode cX3_requireNumber 48 = .ok (.invokevirtual 124, 3) := by decide +kernel
theorem dX3_requireNumber_51 : decode cX3_requireNumber 51 = .ok (.return_, 1) := by decide +kernel
theorem dX3_readWord_0 : decode cX3_readWord 0 = .ok (.aload_n 0, 1) := by decide +kernel
theorem dX3_readWord_1 : decode cX3_readWord 1 = .ok (.getfield 40, 3) := by decide +kernel
theorem dX3_readWord_4 : decode cX3_readWord 4 = .ok (.getfield 127, 3) := by decide +kernel
theorem dX3_readWord_7 : decode cX3_readWord 7 = .ok (.bipush 6, 2) := by decide +kernel
theorem dX3_readWord_9 : decode cX3_readWord 9 = .ok (.if_icmp .lt 11, 3) := by decide +kernel
theorem dX3_readWord_12 : decode cX3_readWord 12 = .ok (.aload_n 0, 1) := by decide +kernel
theorem dX3_readWord_13 : decode cX3_readWord 13 = .ok (.getfield 12, 3) := by decide +kernel
theorem dX3_readWord_16 : decode cX3_readWord 16 = .ok (.invokevirtual 81, 3) := by decide +kernel
theorem dX3_readWord_19 : decode cX3_readWord 19 = .ok (.return_, 1) := by decide +kernel
theorem dX3_readWord_20 : decode cX3_readWord 20 = .ok (.aload_n 0, 1) := by decide +kernel
theorem dX3_readWord_21 : decode cX3_readWord 21 = .ok (.getfield 12, 3) := by decide +kernel
theorem dX3_readWord_24 : decode cX3_readWord 24 = .ok (.invokevirtual 87, 3) := by decide +kernel
theorem dX3_readWord_27 : decode cX3_readWord 27 = .ok (.aload_n 0, 1) := by decide +kernel
theorem dX3_readWord_28 : decode cX3_readWord 28 = .ok (.invokevirtual 130, 3) := by decide +kernel
theorem dX3_readWord_31 : decode cX3_readWord 31 = .ok (.aload_n 0, 1) := by decide +kernel
theorem dX3_readWord_32 : decode cX3_readWord 32 = .ok (.getfield 12, 3) := by decide +kernel
theorem dX3_readWord_35 : decode cX3_readWord 35 = .ok (.getfield 84, 3) := by decide +kernel
theorem dX3_readWord_38 : decode cX3_readWord 38 = .ok (.ifCond .ne 19, 3) := by decide +kernel
theorem dX3_readWord_41 : decode cX3_readWord 41 = .ok (.aload_n 0, 1) := by decide +kernel
theorem dX3_readWord_42 : decode cX3_readWord 42 = .ok (.getfield 12, 3) := by decide +kernel
theorem dX3_readWord_45 : decode cX3_readWord 45 = .ok (.invokevirtual 87, 3) := by decide +kernel
theorem dX3_readWord_48 : decode cX3_readWord 48 = .ok (.aload_n 0, 1) := by decide +kernel
theorem dX3_readWord_49 : decode cX3_readWord 49 = .ok (.getfield 12, 3) := by decide +kernel
theorem dX3_readWord_52 : decode cX3_readWord 52 = .ok (.bipush 61, 2) := by decide +kernel
theorem dX3_readWord_54 : decode cX3_readWord 54 = .ok (.invokevirtual 100, 3) := by decide +kernel
theorem dX3_readWord_57 : decode cX3_readWord 57 = .ok (.aload_n 0, 1) := by decide +kernel
theorem dX3_readWord_58 : decode cX3_readWord 58 = .ok (.invokevirtual 133, 3) := by decide +kernel
theorem dX3_readWord_61 : decode cX3_readWord 61 = .ok (.aload_n 0, 1) := by decide +kernel
theorem dX3_readWord_62 : decode cX3_readWord 62 = .ok (.getfield 12, 3) := by decide +kernel
theorem dX3_readWord_65 : decode cX3_readWord 65 = .ok (.getfield 84, 3) := by decide +kernel
theorem dX3_readWord_68 : decode cX3_readWord 68 = .ok (.ifCond .ne 7, 3) := by decide +kernel
theorem dX3_readWord_71 : decode cX3_readWord 71 = .ok (.aload_n 0, 1) := by decide +kernel
theorem dX3_readWord_72 : decode cX3_readWord 72 = .ok (.invokevirtual 136, 3) := by decide +kernel
theorem dX3_readWord_75 : decode cX3_readWord 75 = .ok (.return_, 1) := by decide +kernel
theorem dX3_readName_0 : decode cX3_readName 0 = .ok (.aload_n 0, 1) := by decide +kernel
theorem dX3_readName_1 : decode cX3_readName 1 = .ok (.getfield 12, 3) := by decide +kernel
theorem dX3_readName_4 : decode cX3_readName 4 = .ok (.getfield 121, 3) := by decide +kernel
theorem dX3_readName_7 : decode cX3_readName 7 = .ok (.iconst 5, 1) := by decide +kernel
theorem dX3_readName_8 : decode cX3_readName 8 = .ok (.if_icmp .eq 13, 3) := by decide +kernel
theorem dX3_readName_11 : decode cX3_readName 11 = .ok (.aload_n 0, 1) := by decide +kernel
theorem dX3_readName_12 : decode cX3_readName 12 = .ok (.getfield 12, 3) := by decide +kernel
theorem dX3_readName_15 : decode cX3_readName 15 = .ok (.invokevirtual 81, 3) := by decide +kernel
theorem dX3_readName_18 : decode cX3_readName 18 = .ok (.goto 48, 3) := by decide +kernel
theorem dX3_readName_21 : decode cX3_readName 21 = .ok (.aload_n 0, 1) := by decide +kernel
theorem dX3_readName_22 : decode cX3_readName 22 = .ok (.aload_n 0, 1) := by decide +kernel
theorem dX3_readName_23 : decode cX3_readName 23 = .ok (.getfield 12, 3) := by decide +kernel
theorem dX3_readName_26 : decode cX3_readName 26 = .ok (.getfield 139, 3) := by decide +kernel
theorem dX3_readName_29 : decode cX3_readName 29 = .ok (.invokevirtual 143, 3) := by decide +kernel
theorem dX3_readName_32 : decode cX3_readName 32 = .ok (.iconst (-1), 1) := by decide +kernel
theorem dX3_readName_33 : decode cX3_readName 33 = .ok (.if_icmp .eq 14, 3) := by decide +kernel
theorem dX3_readName_36 : decode cX3_readName 36 = .ok (.aload_n 0, 1) := by decide +kernel
theorem dX3_readName_37 : decode cX3_readName 37 = .ok (.getfield 12, 3) := by decide +kernel
theorem dX3_readName_40 : decode cX3_readName 40 = .ok (.iconst 3, 1) := by decide +kernel
theorem dX3_readName_41 : decode cX3_readName 41 = .ok (.invokevirtual 124, 3) := by decide +kernel
theorem dX3_readName_44 : decode cX3_readName 44 = .ok (.goto 22, 3) := by decide +kernel
theorem dX3_readName_47 : decode cX3_readName 47 = .ok (.aload_n 0, 1) := by decide +kernel
theorem dX3_readName_48 : decode cX3_readName 48 = .ok (.getfield 32, 3) := by decide +kernel
theorem dX3_readName_51 : decode cX3_readName 51 = .ok (.aload_n 0, 1) := by decide +kernel
theorem dX3_readName_52 : decode cX3_readName 52 = .ok (.getfield 40, 3) := by decide +kernel
theorem dX3_readName_55 : decode cX3_readName 55 = .ok (.getfield 127, 3) := by decide +kernel
theorem dX3_readName_58 : decode cX3_readName 58 = .ok (.aload_n 0, 1) := by decide +kernel
theorem dX3_readName_59 : decode cX3_readName 59 = .ok (.getfield 12, 3) := by decide +kernel
theorem dX3_readName_62 : decode cX3_readName 62 = .ok (.getfield 139, 3) := by decide +kernel
theorem dX3_readName_65 : decode cX3_readName 65 = .ok (.lastore, 1) := by decide +kernel
theorem dX3_readName_66 : decode cX3_readName 66 = .ok (.return_, 1) := by decide +kernel
theorem dX3_readItems_0 : decode cX3_readItems 0 = .ok (.aload_n 0, 1) := by decide +kernel
theorem dX3_readItems_1 : decode cX3_readItems 1 = .ok (.iconst 0, 1) := by decide +kernel
theorem dX3_readItems_2 : decode cX3_readItems 2 = .ok (.putfield 147, 3) := by decide +kernel
theorem dX3_readItems_5 : decode cX3_readItems 5 = .ok (.aload_n 0, 1) := by decide +kernel
theorem dX3_readItems_6 : decode cX3_readItems 6 = .ok (.getfield 21, 3) := by decide +kernel
theorem dX3_readItems_9 : decode cX3_readItems 9 = .ok (.aload_n 0, 1) := by decide +kernel
theorem dX3_readItems_10 : decode cX3_readItems 10 = .ok (.getfield 40, 3) := by decide +kernel
theorem dX3_readItems_13 : decode cX3_readItems 13 = .ok (.invokevirtual 150, 3) := by decide +kernel
theorem dX3_readItems_16 : decode cX3_readItems 16 = .ok (.iconst 0, 1) := by decide +kernel
theorem dX3_readItems_17 : decode cX3_readItems 17 = .ok (.istore_n 1, 1) := by decide +kernel
theorem dX3_readItems_18 : decode cX3_readItems 18 = .ok (.iload_n 1, 1) := by decide +kernel
theorem dX3_readItems_19 : decode cX3_readItems 19 = .ok (.bipush 20, 2) := by decide +kernel
theorem dX3_readItems_21 : decode cX3_readItems 21 = .ok (.if_icmp .gt 101, 3) := by decide +kernel
theorem dX3_readItems_24 : decode cX3_readItems 24 = .ok (.aload_n 0, 1) := by decide +kernel
theorem dX3_readItems_25 : decode cX3_readItems 25 = .ok (.getfield 12, 3) := by decide +kernel
theorem dX3_readItems_28 : decode cX3_readItems 28 = .ok (.getfield 84, 3) := by decide +kernel
theorem dX3_readItems_31 : decode cX3_readItems 31 = .ok (.ifCond .ne 91, 3) := by decide +kernel
theorem dX3_readItems_34 : decode cX3_readItems 34 = .ok (.aload_n 0, 1) := by decide +kernel
theorem dX3_readItems_35 : decode cX3_readItems 35 = .ok (.getfield 12, 3) := by decide +kernel
theorem dX3_readItems_38 : decode cX3_readItems 38 = .ok (.invokevirtual 87, 3) := by decide +kernel
theorem dX3_readItems_41 : decode cX3_readItems 41 = .ok (.aload_n 0, 1) := by decide +kernel
theorem dX3_readItems_42 : decode cX3_readItems 42 = .ok (.getfield 12, 3) := by decide +kernel
theorem dX3_readItems_45 : decode cX3_readItems 45 = .ok (.bipush 59, 2) := by decide +kernel
theorem dX3_readItems_47 : decode cX3_readItems 47 = .ok (.invokevirtual 153, 3) := by decide +kernel
theorem dX3_readItems_50 : decode cX3_readItems 50 = .ok (.ifCond .eq 4, 3) := by decide +kernel
theorem dX3_readItems_53 : decode cX3_readItems 53 = .ok (.return_, 1) := by decide +kernel
theorem dX3_readItems_54 : decode cX3_readItems 54 = .ok (.aload_n 0, 1) := by decide +kernel
theorem dX3_readItems_55 : decode cX3_readItems 55 = .ok (.invokevirtual 157, 3) := by decide +kernel
theorem dX3_readItems_58 : decode cX3_readItems 58 = .ok (.aload_n 0, 1) := by decide +kernel
theorem dX3_readItems_59 : decode cX3_readItems 59 = .ok (.getfield 12, 3) := by decide +kernel
theorem dX3_readItems_62 : decode cX3_readItems 62 = .ok (.getfield 84, 3) := by decide +kernel
theorem dX3_readItems_65 : decode cX3_readItems 65 = .ok (.ifCond .ne 37, 3) := by decide +kernel
theorem dX3_readItems_68 : decode cX3_readItems 68 = .ok (.aload_n 0, 1) := by decide +kernel
theorem dX3_readItems_69 : decode cX3_readItems 69 = .ok (.getfield 160, 3) := by decide +kernel
theorem dX3_readItems_72 : decode cX3_readItems 72 = .ok (.bipush 6, 2) := by decide +kernel
theorem dX3_readItems_74 : decode cX3_readItems 74 = .ok (.if_icmp .ne 28, 3) := by decide +kernel
theorem dX3_readItems_77 : decode cX3_readItems 77 = .ok (.aload_n 0, 1) := by decide +kernel
theorem dX3_readItems_78 : decode cX3_readItems 78 = .ok (.getfield 12, 3) := by decide +kernel
theorem dX3_readItems_81 : decode cX3_readItems 81 = .ok (.invokevirtual 87, 3) := by decide +kernel
theorem dX3_readItems_84 : decode cX3_readItems 84 = .ok (.aload_n 0, 1) := by decide +kernel
theorem dX3_readItems_85 : decode cX3_readItems 85 = .ok (.iconst 1, 1) := by decide +kernel
theorem dX3_readItems_86 : decode cX3_readItems 86 = .ok (.bipush 9, 2) := by decide +kernel
theorem dX3_readItems_88 : decode cX3_readItems 88 = .ok (.invokevirtual 118, 3) := by decide +kernel
theorem dX3_readItems_91 : decode cX3_readItems 91 = .ok (.aload_n 0, 1) := by decide +kernel
theorem dX3_readItems_92 : decode cX3_readItems 92 = .ok (.aload_n 0, 1) := by decide +kernel
theorem dX3_readItems_93 : decode cX3_readItems 93 = .ok (.getfield 12, 3) := by decide +kernel
theorem dX3_readItems_96 : decode cX3_readItems 96 = .ok (.getfield 115, 3) := by decide +kernel
theorem dX3_readItems_99 : decode cX3_readItems 99 = .ok (.putfield 163, 3) := by decide +kernel
theorem dX3_readItems_102 : decode cX3_readItems 102 = .ok (.aload_n 0, 1) := by decide +kernel
theorem dX3_readItems_103 : decode cX3_readItems 103 = .ok (.getfield 12, 3) := by decide +kernel
theorem dX3_readItems_106 : decode cX3_readItems 106 = .ok (.getfield 84, 3) := by decide +kernel
theorem dX3_readItems_109 : decode cX3_readItems 109 = .ok (.ifCond .ne 7, 3) := by decide +kernel
theorem dX3_readItems_112 : decode cX3_readItems 112 = .ok (.aload_n 0, 1) := by decide +kernel
theorem dX3_readItems_113 : decode cX3_readItems 113 = .ok (.invokevirtual 166, 3) := by decide +kernel
theorem dX3_readItems_116 : decode cX3_readItems 116 = .ok (.iinc 1 1, 3) := by decide +kernel
theorem dX3_readItems_119 : decode cX3_readItems 119 = .ok (.goto (-101), 3) := by decide +kernel
theorem dX3_readItems_122 : decode cX3_readItems 122 = .ok (.return_, 1) := by decide +kernel
theorem dX3_closeWord_0 : decode cX3_closeWord 0 = .ok (.aload_n 0, 1) := by decide +kernel
theorem dX3_closeWord_1 : decode cX3_closeWord 1 = .ok (.getfield 147, 3) := by decide +kernel
theorem dX3_closeWord_4 : decode cX3_closeWord 4 = .ok (.ifCond .le 11, 3) := by decide +kernel
theorem dX3_closeWord_7 : decode cX3_closeWord 7 = .ok (.aload_n 0, 1) := by decide +kernel
theorem dX3_closeWord_8 : decode cX3_closeWord 8 = .ok (.getfield 12, 3) := by decide +kernel
theorem dX3_closeWord_11 : decode cX3_closeWord 11 = .ok (.invokevirtual 81, 3) := by decide +kernel
theorem dX3_closeWord_14 : decode cX3_closeWord 14 = .ok (.return_, 1) := by decide +kernel
theorem dX3_closeWord_15 : decode cX3_closeWord 15 = .ok (.aload_n 0, 1) := by decide +kernel
theorem dX3_closeWord_16 : decode cX3_closeWord 16 = .ok (.getfield 21, 3) := by decide +kernel
theorem dX3_closeWord_19 : decode cX3_closeWord 19 = .ok (.invokevirtual 169, 3) := by decide +kernel
theorem dX3_closeWord_22 : decode cX3_closeWord 22 = .ok (.ifCond .ne 13, 3) := by decide +kernel
theorem dX3_closeWord_25 : decode cX3_closeWord 25 = .ok (.aload_n 0, 1) := by decide +kernel
theorem dX3_closeWord_26 : decode cX3_closeWord 26 = .ok (.getfield 12, 3) := by decide +kernel
theorem dX3_closeWord_29 : decode cX3_closeWord 29 = .ok (.bipush 7, 2) := by decide +kernel
theorem dX3_closeWord_31 : decode cX3_closeWord 31 = .ok (.invokevirtual 124, 3) := by decide +kernel
theorem dX3_closeWord_34 : decode cX3_closeWord 34 = .ok (.return_, 1) := by decide +kernel
theorem dX3_closeWord_35 : decode cX3_closeWord 35 = .ok (.aload_n 0, 1) := by decide +kernel
theorem dX3_closeWord_36 : decode cX3_closeWord 36 = .ok (.getfield 40, 3) := by decide +kernel
theorem dX3_closeWord_39 : decode cX3_closeWord 39 = .ok (.getfield 127, 3) := by decide +kernel
theorem dX3_closeWord_42 : decode cX3_closeWord 42 = .ok (.istore_n 1, 1) := by decide +kernel
theorem dX3_closeWord_43 : decode cX3_closeWord 43 = .ok (.aload_n 0, 1) := by decide +kernel
theorem dX3_closeWord_44 : decode cX3_closeWord 44 = .ok (.getfield 40, 3) := by decide +kernel
theorem dX3_closeWord_47 : decode cX3_closeWord 47 = .ok (.getfield 172, 3) := by decide +kernel
theorem dX3_closeWord_50 : decode cX3_closeWord 50 = .ok (.iload_n 1, 1) := by decide +kernel
theorem dX3_closeWord_51 : decode cX3_closeWord 51 = .ok (.aload_n 0, 1) := by decide +kernel
theorem dX3_closeWord_52 : decode cX3_closeWord 52 = .ok (.getfield 21, 3) := by decide +kernel
theorem dX3_closeWord_55 : decode cX3_closeWord 55 = .ok (.getfield 175, 3) := by decide +kernel
theorem dX3_closeWord_58 : decode cX3_closeWord 58 = .ok (.iastore, 1) := by decide +kernel
theorem dX3_closeWord_59 : decode cX3_closeWord 59 = .ok (.aload_n 0, 1) := by decide +kernel
theorem dX3_closeWord_60 : decode cX3_closeWord 60 = .ok (.getfield 40, 3) := by decide +kernel
theorem dX3_closeWord_63 : decode cX3_closeWord 63 = .ok (.getfield 177, 3) := by decide +kernel
theorem dX3_closeWord_66 : decode cX3_closeWord 66 = .ok (.iload_n 1, 1) := by decide +kernel
theorem dX3_closeWord_67 : decode cX3_closeWord 67 = .ok (.aload_n 0, 1) := by decide +kernel
theorem dX3_closeWord_68 : decode cX3_closeWord 68 = .ok (.getfield 21, 3) := by decide +kernel
theorem dX3_closeWord_71 : decode cX3_closeWord 71 = .ok (.getfield 175, 3) := by decide +kernel
theorem dX3_closeWord_74 : decode cX3_closeWord 74 = .ok (.aload_n 0, 1) := by decide +kernel
theorem dX3_closeWord_75 : decode cX3_closeWord 75 = .ok (.getfield 21, 3) := by decide +kernel
theorem dX3_closeWord_78 : decode cX3_closeWord 78 = .ok (.getfield 180, 3) := by decide +kernel
theorem dX3_closeWord_81 : decode cX3_closeWord 81 = .ok (.iadd, 1) := by decide +kernel
theorem dX3_closeWord_82 : decode cX3_closeWord 82 = .ok (.iastore, 1) := by decide +kernel
theorem dX3_closeWord_83 : decode cX3_closeWord 83 = .ok (.aload_n 0, 1) := by decide +kernel
theorem dX3_closeWord_84 : decode cX3_closeWord 84 = .ok (.getfield 40, 3) := by decide +kernel
theorem dX3_closeWord_87 : decode cX3_closeWord 87 = .ok (.getfield 183, 3) := by decide +kernel
theorem dX3_closeWord_90 : decode cX3_closeWord 90 = .ok (.iload_n 1, 1) := by decide +kernel
theorem dX3_closeWord_91 : decode cX3_closeWord 91 = .ok (.aload_n 0, 1) := by decide +kernel
theorem dX3_closeWord_92 : decode cX3_closeWord 92 = .ok (.getfield 21, 3) := by decide +kernel
theorem dX3_closeWord_95 : decode cX3_closeWord 95 = .ok (.getfield 186, 3) := by decide +kernel
theorem dX3_closeWord_98 : decode cX3_closeWord 98 = .ok (.iastore, 1) := by decide +kernel
theorem dX3_closeWord_99 : decode cX3_closeWord 99 = .ok (.aload_n 0, 1) := by decide +kernel
theorem dX3_closeWord_100 : decode cX3_closeWord 100 = .ok (.getfield 40, 3) := by decide +kernel
theorem dX3_closeWord_103 : decode cX3_closeWord 103 = .ok (.getfield 188, 3) := by decide +kernel
theorem dX3_closeWord_106 : decode cX3_closeWord 106 = .ok (.iload_n 1, 1) := by decide +kernel
theorem dX3_closeWord_107 : decode cX3_closeWord 107 = .ok (.aload_n 0, 1) := by decide +kernel
theorem dX3_closeWord_108 : decode cX3_closeWord 108 = .ok (.getfield 21, 3) := by decide +kernel
theorem dX3_closeWord_111 : decode cX3_closeWord 111 = .ok (.getfield 191, 3) := by decide +kernel
theorem dX3_closeWord_114 : decode cX3_closeWord 114 = .ok (.iastore, 1) := by decide +kernel
theorem dX3_closeWord_115 : decode cX3_closeWord 115 = .ok (.aload_n 0, 1) := by decide +kernel
theorem dX3_closeWord_116 : decode cX3_closeWord 116 = .ok (.getfield 40, 3) := by decide +kernel
theorem dX3_closeWord_119 : decode cX3_closeWord 119 = .ok (.getfield 193, 3) := by decide +kernel
theorem dX3_closeWord_122 : decode cX3_closeWord 122 = .ok (.iload_n 1, 1) := by decide +kernel
theorem dX3_closeWord_123 : decode cX3_closeWord 123 = .ok (.aload_n 0, 1) := by decide +kernel
theorem dX3_closeWord_124 : decode cX3_closeWord 124 = .ok (.getfield 21, 3) := by decide +kernel
theorem dX3_closeWord_127 : decode cX3_closeWord 127 = .ok (.getfield 196, 3) := by decide +kernel
theorem dX3_closeWord_130 : decode cX3_closeWord 130 = .ok (.iastore, 1) := by decide +kernel
theorem dX3_closeWord_131 : decode cX3_closeWord 131 = .ok (.aload_n 0, 1) := by decide +kernel
theorem dX3_closeWord_132 : decode cX3_closeWord 132 = .ok (.getfield 40, 3) := by decide +kernel
theorem dX3_closeWord_135 : decode cX3_closeWord 135 = .ok (.dup, 1) := by decide +kernel
theorem dX3_closeWord_136 : decode cX3_closeWord 136 = .ok (.getfield 127, 3) := by decide +kernel
theorem dX3_closeWord_139 : decode cX3_closeWord 139 = .ok (.iconst 1, 1) := by decide +kernel
theorem dX3_closeWord_140 : decode cX3_closeWord 140 = .ok (.iadd, 1) := by decide +kernel
theorem dX3_closeWord_141 : decode cX3_closeWord 141 = .ok (.putfield 127, 3) := by decide +kernel
theorem dX3_closeWord_144 : decode cX3_closeWord 144 = .ok (.aload_n 0, 1) := by decide +kernel
theorem dX3_closeWord_145 : decode cX3_closeWord 145 = .ok (.getfield 40, 3) := by decide +kernel
theorem dX3_closeWord_148 : decode cX3_closeWord 148 = .ok (.getfield 198, 3) := by decide +kernel
theorem dX3_closeWord_151 : decode cX3_closeWord 151 = .ok (.aload_n 0, 1) := by decide +kernel
theorem dX3_closeWord_152 : decode cX3_closeWord 152 = .ok (.getfield 40, 3) := by decide +kernel
theorem dX3_closeWord_155 : decode cX3_closeWord 155 = .ok (.getfield 127, 3) := by decide +kernel
theorem dX3_closeWord_158 : decode cX3_closeWord 158 = .ok (.aload_n 0, 1) := by decide +kernel
theorem dX3_closeWord_159 : decode cX3_closeWord 159 = .ok (.getfield 40, 3) := by decide +kernel
theorem dX3_closeWord_162 : decode cX3_closeWord 162 = .ok (.getfield 201, 3) := by decide +kernel
theorem dX3_closeWord_165 : decode cX3_closeWord 165 = .ok (.iastore, 1) := by decide +kernel
theorem dX3_closeWord_166 : decode cX3_closeWord 166 = .ok (.return_, 1) := by decide +kernel
theorem dX3_numberOf_0 : decode cX3_numberOf 0 = .ok (.iconst 0, 1) := by decide +kernel
theorem dX3_numberOf_1 : decode cX3_numberOf 1 = .ok (.istore_n 3, 1) := by decide +kernel
theorem dX3_numberOf_2 : decode cX3_numberOf 2 = .ok (.iload_n 3, 1) := by decide +kernel
theorem dX3_numberOf_3 : decode cX3_numberOf 3 = .ok (.aload_n 0, 1) := by decide +kernel
theorem dX3_numberOf_4 : decode cX3_numberOf 4 = .ok (.getfield 40, 3) := by decide +kernel
theorem dX3_numberOf_7 : decode cX3_numberOf 7 = .ok (.getfield 127, 3) := by decide +kernel
theorem dX3_numberOf_10 : decode cX3_numberOf 10 = .ok (.if_icmp .ge 22, 3) := by decide +kernel
theorem dX3_numberOf_13 : decode cX3_numberOf 13 = .ok (.aload_n 0, 1) := by decide +kernel
theorem dX3_numberOf_14 : decode cX3_numberOf 14 = .ok (.getfield 32, 3) := by decide +kernel
theorem dX3_numberOf_17 : decode cX3_numberOf 17 = .ok (.iload_n 3, 1) := by decide +kernel
theorem dX3_numberOf_18 : decode cX3_numberOf 18 = .ok (.laload, 1) := by decide +kernel
theorem dX3_numberOf_19 : decode cX3_numberOf 19 = .ok (.lload_n 1, 1) := by decide +kernel
theorem dX3_numberOf_20 : decode cX3_numberOf 20 = .ok (.lcmp, 1) := by decide +kernel
theorem dX3_numberOf_21 : decode cX3_numberOf 21 = .ok (.ifCond .ne 5, 3) := by decide +kernel
theorem dX3_numberOf_24 : decode cX3_numberOf 24 = .ok (.iload_n 3, 1) := by decide +kernel
theorem dX3_numberOf_25 : decode cX3_numberOf 25 = .ok (.ireturn, 1) := by decide +kernel
theorem dX3_numberOf_26 : decode cX3_numberOf 26 = .ok (.iinc 3 1, 3) := by decide +kernel
theorem dX3_numberOf_29 : decode cX3_numberOf 29 = .ok (.goto (-27), 3) := by decide +kernel
theorem dX3_numberOf_32 : decode cX3_numberOf 32 = .ok (.iconst (-1), 1) := by decide +kernel
theorem dX3_numberOf_33 : decode cX3_numberOf 33 = .ok (.ireturn, 1) := by decide +kernel
theorem dX3_readItem_0 : decode cX3_readItem 0 = .ok (.aload_n 0, 1) := by decide +kernel
theorem dX3_readItem_1 : decode cX3_readItem 1 = .ok (.aload_n 0, 1) := by decide +kernel
theorem dX3_readItem_2 : decode cX3_readItem 2 = .ok (.getfield 12, 3) := by decide +kernel
theorem dX3_readItem_5 : decode cX3_readItem 5 = .ok (.getfield 115, 3) := by decide +kernel
theorem dX3_readItem_8 : decode cX3_readItem 8 = .ok (.putfield 163, 3) := by decide +kernel
theorem dX3_readItem_11 : decode cX3_readItem 11 = .ok (.aload_n 0, 1) := by decide +kernel
theorem dX3_readItem_12 : decode cX3_readItem 12 = .ok (.getfield 40, 3) := by decide +kernel
theorem dX3_readItem_15 : decode cX3_readItem 15 = .ok (.getfield 201, 3) := by decide +kernel
theorem dX3_readItem_18 : decode cX3_readItem 18 = .ok (.bipush 60, 2) := by decide +kernel
theorem dX3_readItem_20 : decode cX3_readItem 20 = .ok (.if_icmp .ge 31, 3) := by decide +kernel
theorem dX3_readItem_23 : decode cX3_readItem 23 = .ok (.aload_n 0, 1) := by decide +kernel
theorem dX3_readItem_24 : decode cX3_readItem 24 = .ok (.getfield 40, 3) := by decide +kernel
theorem dX3_readItem_27 : decode cX3_readItem 27 = .ok (.getfield 201, 3) := by decide +kernel
theorem dX3_readItem_30 : decode cX3_readItem 30 = .ok (.aload_n 0, 1) := by decide +kernel
theorem dX3_readItem_31 : decode cX3_readItem 31 = .ok (.getfield 40, 3) := by decide +kernel
theorem dX3_readItem_34 : decode cX3_readItem 34 = .ok (.getfield 198, 3) := by decide +kernel
theorem dX3_readItem_37 : decode cX3_readItem 37 = .ok (.aload_n 0, 1) := by decide +kernel
theorem dX3_readItem_38 : decode cX3_readItem 38 = .ok (.getfield 40, 3) := by decide +kernel
theorem dX3_readItem_41 : decode cX3_readItem 41 = .ok (.getfield 127, 3) := by decide +kernel
theorem dX3_readItem_44 : decode cX3_readItem 44 = .ok (.iaload, 1) := by decide +kernel
theorem dX3_readItem_45 : decode cX3_readItem 45 = .ok (.isub, 1) := by decide +kernel
theorem dX3_readItem_46 : decode cX3_readItem 46 = .ok (.bipush 20, 2) := by decide +kernel
theorem dX3_readItem_48 : decode cX3_readItem 48 = .ok (.if_icmp .lt 13, 3) := by decide +kernel
theorem dX3_readItem_51 : decode cX3_readItem 51 = .ok (.aload_n 0, 1) := by decide +kernel
theorem dX3_readItem_52 : decode cX3_readItem 52 = .ok (.getfield 12, 3) := by decide +kernel
theorem dX3_readItem_55 : decode cX3_readItem 55 = .ok (.invokevirtual 81, 3) := by decide +kernel
theorem dX3_readItem_58 : decode cX3_readItem 58 = .ok (.goto 106, 3) := by decide +kernel
theorem dX3_readItem_61 : decode cX3_readItem 61 = .ok (.aload_n 0, 1) := by decide +kernel
theorem dX3_readItem_62 : decode cX3_readItem 62 = .ok (.getfield 12, 3) := by decide +kernel
theorem dX3_readItem_65 : decode cX3_readItem 65 = .ok (.getfield 121, 3) := by decide +kernel
theorem dX3_readItem_68 : decode cX3_readItem 68 = .ok (.iconst 2, 1) := by decide +kernel
theorem dX3_readItem_69 : decode cX3_readItem 69 = .ok (.if_icmp .ne 11, 3) := by decide +kernel
theorem dX3_readItem_72 : decode cX3_readItem 72 = .ok (.aload_n 0, 1) := by decide +kernel
theorem dX3_readItem_73 : decode cX3_readItem 73 = .ok (.iconst 1, 1) := by decide +kernel
theorem dX3_readItem_74 : decode cX3_readItem 74 = .ok (.putfield 160, 3) := by decide +kernel
theorem dX3_readItem_77 : decode cX3_readItem 77 = .ok (.goto 87, 3) := by decide +kernel
theorem dX3_readItem_80 : decode cX3_readItem 80 = .ok (.aload_n 0, 1) := by decide +kernel
theorem dX3_readItem_81 : decode cX3_readItem 81 = .ok (.getfield 12, 3) := by decide +kernel
theorem dX3_readItem_84 : decode cX3_readItem 84 = .ok (.getfield 121, 3) := by decide +kernel
theorem dX3_readItem_87 : decode cX3_readItem 87 = .ok (.iconst 5, 1) := by decide +kernel
theorem dX3_readItem_88 : decode cX3_readItem 88 = .ok (.if_icmp .ne 10, 3) := by decide +kernel
theorem dX3_readItem_91 : decode cX3_readItem 91 = .ok (.aload_n 0, 1) := by decide +kernel
theorem dX3_readItem_92 : decode cX3_readItem 92 = .ok (.invokevirtual 204, 3) := by decide +kernel
theorem dX3_readItem_95 : decode cX3_readItem 95 = .ok (.goto 69, 3) := by decide +kernel
theorem dX3_readItem_98 : decode cX3_readItem 98 = .ok (.aload_n 0, 1) := by decide +kernel
theorem dX3_readItem_99 : decode cX3_readItem 99 = .ok (.getfield 12, 3) := by decide +kernel
theorem dX3_readItem_102 : decode cX3_readItem 102 = .ok (.getfield 121, 3) := by decide +kernel
theorem dX3_readItem_105 : decode cX3_readItem 105 = .ok (.iconst 4, 1) := by decide +kernel
theorem dX3_readItem_106 : decode cX3_readItem 106 = .ok (.if_icmp .ne 23, 3) := by decide +kernel
theorem dX3_readItem_109 : decode cX3_readItem 109 = .ok (.aload_n 0, 1) := by decide +kernel
theorem dX3_readItem_110 : decode cX3_readItem 110 = .ok (.getfield 12, 3) := by decide +kernel
theorem dX3_readItem_113 : decode cX3_readItem 113 = .ok (.getfield 115, 3) := by decide +kernel
theorem dX3_readItem_116 : decode cX3_readItem 116 = .ok (.bipush 15, 2) := by decide +kernel
theorem dX3_readItem_118 : decode cX3_readItem 118 = .ok (.if_icmp .ge 11, 3) := by decide +kernel
theorem dX3_readItem_121 : decode cX3_readItem 121 = .ok (.aload_n 0, 1) := by decide +kernel
theorem dX3_readItem_122 : decode cX3_readItem 122 = .ok (.iconst 0, 1) := by decide +kernel
theorem dX3_readItem_123 : decode cX3_readItem 123 = .ok (.putfield 160, 3) := by decide +kernel
theorem dX3_readItem_126 : decode cX3_readItem 126 = .ok (.goto 38, 3) := by decide +kernel
theorem dX3_readItem_129 : decode cX3_readItem 129 = .ok (.aload_n 0, 1) := by decide +kernel
theorem dX3_readItem_130 : decode cX3_readItem 130 = .ok (.getfield 12, 3) := by decide +kernel
theorem dX3_readItem_133 : decode cX3_readItem 133 = .ok (.bipush 15, 2) := by decide +kernel
theorem dX3_readItem_135 : decode cX3_readItem 135 = .ok (.invokevirtual 61, 3) := by decide +kernel
theorem dX3_readItem_138 : decode cX3_readItem 138 = .ok (.ifCond .ne 15, 3) := by decide +kernel
theorem dX3_readItem_141 : decode cX3_readItem 141 = .ok (.aload_n 0, 1) := by decide +kernel
theorem dX3_readItem_142 : decode cX3_readItem 142 = .ok (.getfield 12, 3) := by decide +kernel
theorem dX3_readItem_145 : decode cX3_readItem 145 = .ok (.bipush 18, 2) := by decide +kernel
theorem dX3_readItem_147 : decode cX3_readItem 147 = .ok (.invokevirtual 61, 3) := by decide +kernel
theorem dX3_readItem_150 : decode cX3_readItem 150 = .ok (.ifCond .eq 10, 3) := by decide +kernel
theorem dX3_readItem_153 : decode cX3_readItem 153 = .ok (.aload_n 0, 1) := by decide +kernel
theorem dX3_readItem_154 : decode cX3_readItem 154 = .ok (.invokevirtual 207, 3) := by decide +kernel
theorem dX3_readItem_157 : decode cX3_readItem 157 = .ok (.goto 7, 3) := by decide +kernel
theorem dX3_readItem_160 : decode cX3_readItem 160 = .ok (.aload_n 0, 1) := by decide +kernel
theorem dX3_readItem_161 : decode cX3_readItem 161 = .ok (.invokevirtual 210, 3) := by decide +kernel
theorem dX3_readItem_164 : decode cX3_readItem 164 = .ok (.return_, 1) := by decide +kernel
theorem dX3_readCall_0 : decode cX3_readCall 0 = .ok (.aload_n 0, 1) := by decide +kernel
theorem dX3_readCall_1 : decode cX3_readCall 1 = .ok (.iconst 2, 1) := by decide +kernel
theorem dX3_readCall_2 : decode cX3_readCall 2 = .ok (.putfield 160, 3) := by decide +kernel
theorem dX3_readCall_5 : decode cX3_readCall 5 = .ok (.aload_n 0, 1) := by decide +kernel
theorem dX3_readCall_6 : decode cX3_readCall 6 = .ok (.aload_n 0, 1) := by decide +kernel
theorem dX3_readCall_7 : decode cX3_readCall 7 = .ok (.aload_n 0, 1) := by decide +kernel
theorem dX3_readCall_8 : decode cX3_readCall 8 = .ok (.getfield 12, 3) := by decide +kernel
theorem dX3_readCall_11 : decode cX3_readCall 11 = .ok (.getfield 139, 3) := by decide +kernel
theorem dX3_readCall_14 : decode cX3_readCall 14 = .ok (.invokevirtual 143, 3) := by decide +kernel
theorem dX3_readCall_17 : decode cX3_readCall 17 = .ok (.putfield 163, 3) := by decide +kernel
theorem dX3_readCall_20 : decode cX3_readCall 20 = .ok (.aload_n 0, 1) := by decide +kernel
theorem dX3_readCall_21 : decode cX3_readCall 21 = .ok (.getfield 163, 3) := by decide +kernel
theorem dX3_readCall_24 : decode cX3_readCall 24 = .ok (.iconst (-1), 1) := by decide +kernel
theorem dX3_readCall_25 : decode cX3_readCall 25 = .ok (.if_icmp .ne 11, 3) := by decide +kernel
theorem dX3_readCall_28 : decode cX3_readCall 28 = .ok (.aload_n 0, 1) := by decide +kernel
theorem dX3_readCall_29 : decode cX3_readCall 29 = .ok (.getfield 12, 3) := by decide +kernel
theorem dX3_readCall_32 : decode cX3_readCall 32 = .ok (.iconst 5, 1) := by decide +kernel
theorem dX3_readCall_33 : decode cX3_readCall 33 = .ok (.invokevirtual 124, 3) := by decide +kernel
theorem dX3_readCall_36 : decode cX3_readCall 36 = .ok (.return_, 1) := by decide +kernel
theorem dX3_readOpening_0 : decode cX3_readOpening 0 = .ok (.aload_n 0, 1) := by decide +kernel
theorem dX3_readOpening_1 : decode cX3_readOpening 1 = .ok (.getfield 147, 3) := by decide +kernel
theorem dX3_readOpening_4 : decode cX3_readOpening 4 = .ok (.iconst 4, 1) := by decide +kernel
theorem dX3_readOpening_5 : decode cX3_readOpening 5 = .ok (.if_icmp .lt 11, 3) := by decide +kernel
theorem dX3_readOpening_8 : decode cX3_readOpening 8 = .ok (.aload_n 0, 1) := by decide +kernel
theorem dX3_readOpening_9 : decode cX3_readOpening 9 = .ok (.getfield 12, 3) := by decide +kernel
theorem dX3_readOpening_12 : decode cX3_readOpening 12 = .ok (.invokevirtual 81, 3) := by decide +kernel
theorem dX3_readOpening_15 : decode cX3_readOpening 15 = .ok (.return_, 1) := by decide +kernel
theorem dX3_readOpening_16 : decode cX3_readOpening 16 = .ok (.aload_n 0, 1) := by decide +kernel
theorem dX3_readOpening_17 : decode cX3_readOpening 17 = .ok (.getfield 36, 3) := by decide +kernel
theorem dX3_readOpening_20 : decode cX3_readOpening 20 = .ok (.aload_n 0, 1) := by decide +kernel
theorem dX3_readOpening_21 : decode cX3_readOpening 21 = .ok (.getfield 147, 3) := by decide +kernel
theorem dX3_readOpening_24 : decode cX3_readOpening 24 = .ok (.aload_n 0, 1) := by decide +kernel
theorem dX3_readOpening_25 : decode cX3_readOpening 25 = .ok (.getfield 40, 3) := by decide +kernel
theorem dX3_readOpening_28 : decode cX3_readOpening 28 = .ok (.getfield 201, 3) := by decide +kernel
theorem dX3_readOpening_31 : decode cX3_readOpening 31 = .ok (.iastore, 1) := by decide +kernel
theorem dX3_readOpening_32 : decode cX3_readOpening 32 = .ok (.aload_n 0, 1) := by decide +kernel
theorem dX3_readOpening_33 : decode cX3_readOpening 33 = .ok (.dup, 1) := by decide +kernel
theorem dX3_readOpening_34 : decode cX3_readOpening 34 = .ok (.getfield 147, 3) := by decide +kernel
theorem dX3_readOpening_37 : decode cX3_readOpening 37 = .ok (.iconst 1, 1) := by decide +kernel
theorem dX3_readOpening_38 : decode cX3_readOpening 38 = .ok (.iadd, 1) := by decide +kernel
theorem dX3_readOpening_39 : decode cX3_readOpening 39 = .ok (.putfield 147, 3) := by decide +kernel
theorem dX3_readOpening_42 : decode cX3_readOpening 42 = .ok (.aload_n 0, 1) := by decide +kernel
theorem dX3_readOpening_43 : decode cX3_readOpening 43 = .ok (.aload_n 0, 1) := by decide +kernel
theorem dX3_readOpening_44 : decode cX3_readOpening 44 = .ok (.getfield 12, 3) := by decide +kernel
theorem dX3_readOpening_47 : decode cX3_readOpening 47 = .ok (.bipush 15, 2) := by decide +kernel
theorem dX3_readOpening_49 : decode cX3_readOpening 49 = .ok (.invokevirtual 61, 3) := by decide +kernel
theorem dX3_readOpening_52 : decode cX3_readOpening 52 = .ok (.ifCond .eq 7, 3) := by decide +kernel
theorem dX3_readOpening_55 : decode cX3_readOpening 55 = .ok (.iconst 3, 1) := by decide +kernel
theorem dX3_readOpening_56 : decode cX3_readOpening 56 = .ok (.goto 5, 3) := by decide +kernel
theorem dX3_readOpening_59 : decode cX3_readOpening 59 = .ok (.bipush 6, 2) := by decide +kernel
theorem dX3_readOpening_61 : decode cX3_readOpening 61 = .ok (.putfield 160, 3) := by decide +kernel
theorem dX3_readOpening_64 : decode cX3_readOpening 64 = .ok (.aload_n 0, 1) := by decide +kernel
theorem dX3_readOpening_65 : decode cX3_readOpening 65 = .ok (.iconst 0, 1) := by decide +kernel
theorem dX3_readOpening_66 : decode cX3_readOpening 66 = .ok (.putfield 163, 3) := by decide +kernel
theorem dX3_readOpening_69 : decode cX3_readOpening 69 = .ok (.return_, 1) := by decide +kernel
theorem dX3_readClosing_0 : decode cX3_readClosing 0 = .ok (.aload_n 0, 1) := by decide +kernel
theorem dX3_readClosing_1 : decode cX3_readClosing 1 = .ok (.getfield 147, 3) := by decide +kernel
theorem dX3_readClosing_4 : decode cX3_readClosing 4 = .ok (.ifCond .le 17, 3) := by decide +kernel
theorem dX3_readClosing_7 : decode cX3_readClosing 7 = .ok (.aload_n 0, 1) := by decide +kernel
theorem dX3_readClosing_8 : decode cX3_readClosing 8 = .ok (.getfield 36, 3) := by decide +kernel
theorem dX3_readClosing_11 : decode cX3_readClosing 11 = .ok (.aload_n 0, 1) := by decide +kernel
theorem dX3_readClosing_12 : decode cX3_readClosing 12 = .ok (.getfield 147, 3) := by decide +kernel
theorem dX3_readClosing_15 : decode cX3_readClosing 15 = .ok (.iconst 1, 1) := by decide +kernel
theorem dX3_readClosing_16 : decode cX3_readClosing 16 = .ok (.isub, 1) := by decide +kernel
theorem dX3_readClosing_17 : decode cX3_readClosing 17 = .ok (.iaload, 1) := by decide +kernel
theorem dX3_readClosing_18 : decode cX3_readClosing 18 = .ok (.goto 4, 3) := by decide +kernel
theorem dX3_readClosing_21 : decode cX3_readClosing 21 = .ok (.iconst (-1), 1) := by decide +kernel
theorem dX3_readClosing_22 : decode cX3_readClosing 22 = .ok (.istore_n 1, 1) := by decide +kernel
theorem dX3_readClosing_23 : decode cX3_readClosing 23 = .ok (.iload_n 1, 1) := by decide +kernel
theorem dX3_readClosing_24 : decode cX3_readClosing 24 = .ok (.iconst (-1), 1) := by decide +kernel
theorem dX3_readClosing_25 : decode cX3_readClosing 25 = .ok (.if_icmp .ne 7, 3) := by decide +kernel
theorem dX3_readClosing_28 : decode cX3_readClosing 28 = .ok (.iconst (-1), 1) := by decide +kernel
theorem dX3_readClosing_29 : decode cX3_readClosing 29 = .ok (.goto 12, 3) := by decide +kernel
theorem dX3_readClosing_32 : decode cX3_readClosing 32 = .ok (.aload_n 0, 1) := by decide +kernel
theorem dX3_readClosing_33 : decode cX3_readClosing 33 = .ok (.getfield 40, 3) := by decide +kernel
theorem dX3_readClosing_36 : decode cX3_readClosing 36 = .ok (.getfield 213, 3) := by decide +kernel
theorem dX3_readClosing_39 : decode cX3_readClosing 39 = .ok (.iload_n 1, 1) := by decide +kernel
theorem dX3_readClosing_40 : decode cX3_readClosing 40 = .ok (.iaload, 1) := by decide +kernel
theorem dX3_readClosing_41 : decode cX3_readClosing 41 = .ok (.istore_n 2, 1) := by decide +kernel
theorem dX3_readClosing_42 : decode cX3_readClosing 42 = .ok (.aload_n 0, 1) := by decide +kernel
theorem dX3_readClosing_43 : decode cX3_readClosing 43 = .ok (.iconst 0, 1) := by decide +kernel
theorem dX3_readClosing_44 : decode cX3_readClosing 44 = .ok (.putfield 163, 3) := by decide +kernel
theorem dX3_readClosing_47 : decode cX3_readClosing 47 = .ok (.aload_n 0, 1) := by decide +kernel
theorem dX3_readClosing_48 : decode cX3_readClosing 48 = .ok (.getfield 12, 3) := by decide +kernel
theorem dX3_readClosing_51 : decode cX3_readClosing 51 = .ok (.bipush 16, 2) := by decide +kernel
theorem dX3_readClosing_53 : decode cX3_readClosing 53 = .ok (.invokevirtual 61, 3) := by decide +kernel
theorem dX3_readClosing_56 : decode cX3_readClosing 56 = .ok (.ifCond .eq 50, 3) := by decide +kernel
theorem dX3_readClosing_59 : decode cX3_readClosing 59 = .ok (.iload_n 2, 1) := by decide +kernel
theorem dX3_readClosing_60 : decode cX3_readClosing 60 = .ok (.iconst 3, 1) := by decide +kernel
theorem dX3_readClosing_61 : decode cX3_readClosing 61 = .ok (.if_icmp .ne 45, 3) := by decide +kernel
theorem dX3_readClosing_64 : decode cX3_readClosing 64 = .ok (.aload_n 0, 1) := by decide +kernel
theorem dX3_readClosing_65 : decode cX3_readClosing 65 = .ok (.iconst 4, 1) := by decide +kernel
theorem dX3_readClosing_66 : decode cX3_readClosing 66 = .ok (.putfield 160, 3) := by decide +kernel
theorem dX3_readClosing_69 : decode cX3_readClosing 69 = .ok (.aload_n 0, 1) := by decide +kernel
theorem dX3_readClosing_70 : decode cX3_readClosing 70 = .ok (.getfield 40, 3) := by decide +kernel
theorem dX3_readClosing_73 : decode cX3_readClosing 73 = .ok (.getfield 215, 3) := by decide +kernel
theorem dX3_readClosing_76 : decode cX3_readClosing 76 = .ok (.iload_n 1, 1) := by decide +kernel
theorem dX3_readClosing_77 : decode cX3_readClosing 77 = .ok (.aload_n 0, 1) := by decide +kernel
theorem dX3_readClosing_78 : decode cX3_readClosing 78 = .ok (.getfield 40, 3) := by decide +kernel
theorem dX3_readClosing_81 : decode cX3_readClosing 81 = .ok (.getfield 201, 3) := by decide +kernel
theorem dX3_readClosing_84 : decode cX3_readClosing 84 = .ok (.iastore, 1) := by decide +kernel
theorem dX3_readClosing_85 : decode cX3_readClosing 85 = .ok (.aload_n 0, 1) := by decide +kernel
theorem dX3_readClosing_86 : decode cX3_readClosing 86 = .ok (.getfield 36, 3) := by decide +kernel
theorem dX3_readClosing_89 : decode cX3_readClosing 89 = .ok (.aload_n 0, 1) := by decide +kernel
theorem dX3_readClosing_90 : decode cX3_readClosing 90 = .ok (.getfield 147, 3) := by decide +kernel
theorem dX3_readClosing_93 : decode cX3_readClosing 93 = .ok (.iconst 1, 1) := by decide +kernel
theorem dX3_readClosing_94 : decode cX3_readClosing 94 = .ok (.isub, 1) := by decide +kernel
theorem dX3_readClosing_95 : decode cX3_readClosing 95 = .ok (.aload_n 0, 1) := by decide +kernel
theorem dX3_readClosing_96 : decode cX3_readClosing 96 = .ok (.getfield 40, 3) := by decide +kernel
theorem dX3_readClosing_99 : decode cX3_readClosing 99 = .ok (.getfield 201, 3) := by decide +kernel
theorem dX3_readClosing_102 : decode cX3_readClosing 102 = .ok (.iastore, 1) := by decide +kernel
theorem dX3_readClosing_103 : decode cX3_readClosing 103 = .ok (.goto 119, 3) := by decide +kernel
theorem dX3_readClosing_106 : decode cX3_readClosing 106 = .ok (.aload_n 0, 1) := by decide +kernel
theorem dX3_readClosing_107 : decode cX3_readClosing 107 = .ok (.getfield 12, 3) := by decide +kernel
theorem dX3_readClosing_110 : decode cX3_readClosing 110 = .ok (.bipush 17, 2) := by decide +kernel
theorem dX3_readClosing_112 : decode cX3_readClosing 112 = .ok (.invokevirtual 61, 3) := by decide +kernel
theorem dX3_readClosing_115 : decode cX3_readClosing 115 = .ok (.ifCond .eq 47, 3) := by decide +kernel
theorem dX3_readClosing_118 : decode cX3_readClosing 118 = .ok (.iload_n 2, 1) := by decide +kernel
theorem dX3_readClosing_119 : decode cX3_readClosing 119 = .ok (.iconst 3, 1) := by decide +kernel
theorem dX3_readClosing_120 : decode cX3_readClosing 120 = .ok (.if_icmp .eq 8, 3) := by decide +kernel
theorem dX3_readClosing_123 : decode cX3_readClosing 123 = .ok (.iload_n 2, 1) := by decide +kernel
theorem dX3_readClosing_124 : decode cX3_readClosing 124 = .ok (.iconst 4, 1) := by decide +kernel
theorem dX3_readClosing_125 : decode cX3_readClosing 125 = .ok (.if_icmp .ne 37, 3) := by decide +kernel
theorem dX3_readClosing_128 : decode cX3_readClosing 128 = .ok (.aload_n 0, 1) := by decide +kernel
theorem dX3_readClosing_129 : decode cX3_readClosing 129 = .ok (.iconst 5, 1) := by decide +kernel
theorem dX3_readClosing_130 : decode cX3_readClosing 130 = .ok (.putfield 160, 3) := by decide +kernel
theorem dX3_readClosing_133 : decode cX3_readClosing 133 = .ok (.aload_n 0, 1) := by decide +kernel
theorem dX3_readClosing_134 : decode cX3_readClosing 134 = .ok (.getfield 40, 3) := by decide +kernel
theorem dX3_readClosing_137 : decode cX3_readClosing 137 = .ok (.getfield 215, 3) := by decide +kernel
theorem dX3_readClosing_140 : decode cX3_readClosing 140 = .ok (.iload_n 1, 1) := by decide +kernel
theorem dX3_readClosing_141 : decode cX3_readClosing 141 = .ok (.aload_n 0, 1) := by decide +kernel
theorem dX3_readClosing_142 : decode cX3_readClosing 142 = .ok (.getfield 40, 3) := by decide +kernel
theorem dX3_readClosing_145 : decode cX3_readClosing 145 = .ok (.getfield 201, 3) := by decide +kernel
theorem dX3_readClosing_148 : decode cX3_readClosing 148 = .ok (.iastore, 1) := by decide +kernel
theorem dX3_readClosing_149 : decode cX3_readClosing 149 = .ok (.aload_n 0, 1) := by decide +kernel
theorem dX3_readClosing_150 : decode cX3_readClosing 150 = .ok (.dup, 1) := by decide +kernel
theorem dX3_readClosing_151 : decode cX3_readClosing 151 = .ok (.getfield 147, 3) := by decide +kernel
theorem dX3_readClosing_154 : decode cX3_readClosing 154 = .ok (.iconst 1, 1) := by decide +kernel
theorem dX3_readClosing_155 : decode cX3_readClosing 155 = .ok (.isub, 1) := by decide +kernel
theorem dX3_readClosing_156 : decode cX3_readClosing 156 = .ok (.putfield 147, 3) := by decide +kernel
theorem dX3_readClosing_159 : decode cX3_readClosing 159 = .ok (.goto 63, 3) := by decide +kernel
theorem dX3_readClosing_162 : decode cX3_readClosing 162 = .ok (.aload_n 0, 1) := by decide +kernel
theorem dX3_readClosing_163 : decode cX3_readClosing 163 = .ok (.getfield 12, 3) := by decide +kernel
theorem dX3_readClosing_166 : decode cX3_readClosing 166 = .ok (.bipush 19, 2) := by decide +kernel
theorem dX3_readClosing_168 : decode cX3_readClosing 168 = .ok (.invokevirtual 61, 3) := by decide +kernel
theorem dX3_readClosing_171 : decode cX3_readClosing 171 = .ok (.ifCond .eq 44, 3) := by decide +kernel
theorem dX3_readClosing_174 : decode cX3_readClosing 174 = .ok (.iload_n 2, 1) := by decide +kernel
theorem dX3_readClosing_175 : decode cX3_readClosing 175 = .ok (.bipush 6, 2) := by decide +kernel
theorem dX3_readClosing_177 : decode cX3_readClosing 177 = .ok (.if_icmp .ne 38, 3) := by decide +kernel
theorem dX3_readClosing_180 : decode cX3_readClosing 180 = .ok (.aload_n 0, 1) := by decide +kernel
theorem dX3_readClosing_181 : decode cX3_readClosing 181 = .ok (.bipush 7, 2) := by decide +kernel
theorem dX3_readClosing_183 : decode cX3_readClosing 183 = .ok (.putfield 160, 3) := by decide +kernel
theorem dX3_readClosing_186 : decode cX3_readClosing 186 = .ok (.aload_n 0, 1) := by decide +kernel
theorem dX3_readClosing_187 : decode cX3_readClosing 187 = .ok (.getfield 40, 3) := by decide +kernel
theorem dX3_readClosing_190 : decode cX3_readClosing 190 = .ok (.getfield 215, 3) := by decide +kernel
theorem dX3_readClosing_193 : decode cX3_readClosing 193 = .ok (.aload_n 0, 1) := by decide +kernel
theorem dX3_readClosing_194 : decode cX3_readClosing 194 = .ok (.getfield 40, 3) := by decide +kernel
theorem dX3_readClosing_197 : decode cX3_readClosing 197 = .ok (.getfield 201, 3) := by decide +kernel
theorem dX3_readClosing_200 : decode cX3_readClosing 200 = .ok (.iload_n 1, 1) := by decide +kernel
theorem dX3_readClosing_201 : decode cX3_readClosing 201 = .ok (.iastore, 1) := by decide +kernel
theorem dX3_readClosing_202 : decode cX3_readClosing 202 = .ok (.aload_n 0, 1) := by decide +kernel
theorem dX3_readClosing_203 : decode cX3_readClosing 203 = .ok (.dup, 1) := by decide +kernel
theorem dX3_readClosing_204 : decode cX3_readClosing 204 = .ok (.getfield 147, 3) := by decide +kernel
theorem dX3_readClosing_207 : decode cX3_readClosing 207 = .ok (.iconst 1, 1) := by decide +kernel
theorem dX3_readClosing_208 : decode cX3_readClosing 208 = .ok (.isub, 1) := by decide +kernel
theorem dX3_readClosing_209 : decode cX3_readClosing 209 = .ok (.putfield 147, 3) := by decide +kernel
theorem dX3_readClosing_212 : decode cX3_readClosing 212 = .ok (.goto 10, 3) := by decide +kernel
theorem dX3_readClosing_215 : decode cX3_readClosing 215 = .ok (.aload_n 0, 1) := by decide +kernel
theorem dX3_readClosing_216 : decode cX3_readClosing 216 = .ok (.getfield 12, 3) := by decide +kernel
theorem dX3_readClosing_219 : decode cX3_readClosing 219 = .ok (.invokevirtual 81, 3) := by decide +kernel
theorem dX3_readClosing_222 : decode cX3_readClosing 222 = .ok (.return_, 1) := by decide +kernel
theorem dX3_addItem_0 : decode cX3_addItem 0 = .ok (.aload_n 0, 1) := by decide +kernel
theorem dX3_addItem_1 : decode cX3_addItem 1 = .ok (.getfield 21, 3) := by decide +kernel
theorem dX3_addItem_4 : decode cX3_addItem 4 = .ok (.aload_n 0, 1) := by decide +kernel
theorem dX3_addItem_5 : decode cX3_addItem 5 = .ok (.getfield 160, 3) := by decide +kernel
theorem dX3_addItem_8 : decode cX3_addItem 8 = .ok (.aload_n 0, 1) := by decide +kernel
theorem dX3_addItem_9 : decode cX3_addItem 9 = .ok (.getfield 163, 3) := by decide +kernel
theorem dX3_addItem_12 : decode cX3_addItem 12 = .ok (.invokevirtual 218, 3) := by decide +kernel
theorem dX3_addItem_15 : decode cX3_addItem 15 = .ok (.istore_n 1, 1) := by decide +kernel
theorem dX3_addItem_16 : decode cX3_addItem 16 = .ok (.iload_n 1, 1) := by decide +kernel
theorem dX3_addItem_17 : decode cX3_addItem 17 = .ok (.ifCond .eq 12, 3) := by decide +kernel
theorem dX3_addItem_20 : decode cX3_addItem 20 = .ok (.aload_n 0, 1) := by decide +kernel
theorem dX3_addItem_21 : decode cX3_addItem 21 = .ok (.getfield 12, 3) := by decide +kernel
theorem dX3_addItem_24 : decode cX3_addItem 24 = .ok (.iload_n 1, 1) := by decide +kernel
theorem dX3_addItem_25 : decode cX3_addItem 25 = .ok (.invokevirtual 124, 3) := by decide +kernel
theorem dX3_addItem_28 : decode cX3_addItem 28 = .ok (.return_, 1) := by decide +kernel
theorem dX3_addItem_29 : decode cX3_addItem 29 = .ok (.aload_n 0, 1) := by decide +kernel
theorem dX3_addItem_30 : decode cX3_addItem 30 = .ok (.getfield 40, 3) := by decide +kernel
theorem dX3_addItem_33 : decode cX3_addItem 33 = .ok (.getfield 213, 3) := by decide +kernel
theorem dX3_addItem_36 : decode cX3_addItem 36 = .ok (.aload_n 0, 1) := by decide +kernel
theorem dX3_addItem_37 : decode cX3_addItem 37 = .ok (.getfield 40, 3) := by decide +kernel
theorem dX3_addItem_40 : decode cX3_addItem 40 = .ok (.getfield 201, 3) := by decide +kernel
theorem dX3_addItem_43 : decode cX3_addItem 43 = .ok (.aload_n 0, 1) := by decide +kernel
theorem dX3_addItem_44 : decode cX3_addItem 44 = .ok (.getfield 160, 3) := by decide +kernel
theorem dX3_addItem_47 : decode cX3_addItem 47 = .ok (.iastore, 1) := by decide +kernel
theorem dX3_addItem_48 : decode cX3_addItem 48 = .ok (.aload_n 0, 1) := by decide +kernel
theorem dX3_addItem_49 : decode cX3_addItem 49 = .ok (.getfield 40, 3) := by decide +kernel
theorem dX3_addItem_52 : decode cX3_addItem 52 = .ok (.getfield 221, 3) := by decide +kernel
theorem dX3_addItem_55 : decode cX3_addItem 55 = .ok (.aload_n 0, 1) := by decide +kernel
theorem dX3_addItem_56 : decode cX3_addItem 56 = .ok (.getfield 40, 3) := by decide +kernel
theorem dX3_addItem_59 : decode cX3_addItem 59 = .ok (.getfield 201, 3) := by decide +kernel
theorem dX3_addItem_62 : decode cX3_addItem 62 = .ok (.aload_n 0, 1) := by decide +kernel
theorem dX3_addItem_63 : decode cX3_addItem 63 = .ok (.getfield 163, 3) := by decide +kernel
theorem dX3_addItem_66 : decode cX3_addItem 66 = .ok (.iastore, 1) := by decide +kernel
theorem dX3_addItem_67 : decode cX3_addItem 67 = .ok (.aload_n 0, 1) := by decide +kernel
theorem dX3_addItem_68 : decode cX3_addItem 68 = .ok (.getfield 40, 3) := by decide +kernel
theorem dX3_addItem_71 : decode cX3_addItem 71 = .ok (.getfield 223, 3) := by decide +kernel
theorem dX3_addItem_74 : decode cX3_addItem 74 = .ok (.aload_n 0, 1) := by decide +kernel
theorem dX3_addItem_75 : decode cX3_addItem 75 = .ok (.getfield 40, 3) := by decide +kernel
theorem dX3_addItem_78 : decode cX3_addItem 78 = .ok (.getfield 201, 3) := by decide +kernel
theorem dX3_addItem_81 : decode cX3_addItem 81 = .ok (.aload_n 0, 1) := by decide +kernel
theorem dX3_addItem_82 : decode cX3_addItem 82 = .ok (.getfield 21, 3) := by decide +kernel
theorem dX3_addItem_85 : decode cX3_addItem 85 = .ok (.getfield 180, 3) := by decide +kernel
theorem dX3_addItem_88 : decode cX3_addItem 88 = .ok (.iastore, 1) := by decide +kernel
theorem dX3_addItem_89 : decode cX3_addItem 89 = .ok (.aload_n 0, 1) := by decide +kernel
theorem dX3_addItem_90 : decode cX3_addItem 90 = .ok (.getfield 40, 3) := by decide +kernel
theorem dX3_addItem_93 : decode cX3_addItem 93 = .ok (.dup, 1) := by decide +kernel
theorem dX3_addItem_94 : decode cX3_addItem 94 = .ok (.getfield 201, 3) := by decide +kernel
theorem dX3_addItem_97 : decode cX3_addItem 97 = .ok (.iconst 1, 1) := by decide +kernel
theorem dX3_addItem_98 : decode cX3_addItem 98 = .ok (.iadd, 1) := by decide +kernel
theorem dX3_addItem_99 : decode cX3_addItem 99 = .ok (.putfield 201, 3) := by decide +kernel
theorem dX3_addItem_102 : decode cX3_addItem 102 = .ok (.return_, 1) := by decide +kernel
theorem dX4_init_0 : decode cX4_init 0 = .ok (.aload_n 0, 1) := by decide +kernel
theorem dX4_init_1 : decode cX4_init 1 = .ok (.invokespecial 3, 3) := by decide +kernel
theorem dX4_init_4 : decode cX4_init 4 = .ok (.aload_n 0, 1) := by decide +kernel
theorem dX4_init_5 : decode cX4_init 5 = .ok (.bipush 60, 2) := by decide +kernel
theorem dX4_init_7 : decode cX4_init 7 = .ok (.newarray .int, 2) := by decide +kernel
theorem dX4_init_9 : decode cX4_init 9 = .ok (.putfield 9, 3) := by decide +kernel
theorem dX4_init_12 : decode cX4_init 12 = .ok (.aload_n 0, 1) := by decide +kernel
theorem dX4_init_13 : decode cX4_init 13 = .ok (.new 15, 3) := by decide +kernel
theorem dX4_init_16 : decode cX4_init 16 = .ok (.dup, 1) := by decide +kernel
theorem dX4_init_17 : decode cX4_init 17 = .ok (.invokespecial 17, 3) := by decide +kernel
theorem dX4_init_20 : decode cX4_init 20 = .ok (.putfield 18, 3) := by decide +kernel
theorem dX4_init_23 : decode cX4_init 23 = .ok (.aload_n 0, 1) := by decide +kernel
theorem dX4_init_24 : decode cX4_init 24 = .ok (.new 15, 3) := by decide +kernel
theorem dX4_init_27 : decode cX4_init 27 = .ok (.dup, 1) := by decide +kernel
theorem dX4_init_28 : decode cX4_init 28 = .ok (.invokespecial 17, 3) := by decide +kernel
theorem dX4_init_31 : decode cX4_init 31 = .ok (.putfield 22, 3) := by decide +kernel
theorem dX4_init_34 : decode cX4_init 34 = .ok (.return_, 1) := by decide +kernel
theorem dX4_doWord_0 : decode cX4_doWord 0 = .ok (.aload_n 0, 1) := by decide +kernel
theorem dX4_doWord_1 : decode cX4_doWord 1 = .ok (.aload_n 1, 1) := by decide +kernel
theorem dX4_doWord_2 : decode cX4_doWord 2 = .ok (.aload_n 2, 1) := by decide +kernel
theorem dX4_doWord_3 : decode cX4_doWord 3 = .ok (.aload_n 1, 1) := by decide +kernel
theorem dX4_doWord_4 : decode cX4_doWord 4 = .ok (.getfield 25, 3) := by decide +kernel
theorem dX4_doWord_7 : decode cX4_doWord 7 = .ok (.iload_n 3, 1) := by decide +kernel
theorem dX4_doWord_8 : decode cX4_doWord 8 = .ok (.iaload, 1) := by decide +kernel
theorem dX4_doWord_9 : decode cX4_doWord 9 = .ok (.aload_n 1, 1) := by decide +kernel
theorem dX4_doWord_10 : decode cX4_doWord 10 = .ok (.getfield 25, 3) := by decide +kernel
theorem dX4_doWord_13 : decode cX4_doWord 13 = .ok (.iload_n 3, 1) := by decide +kernel
theorem dX4_doWord_14 : decode cX4_doWord 14 = .ok (.iconst 1, 1) := by decide +kernel
theorem dX4_doWord_15 : decode cX4_doWord 15 = .ok (.iadd, 1) := by decide +kernel
theorem dX4_doWord_16 : decode cX4_doWord 16 = .ok (.iaload, 1) := by decide +kernel
theorem dX4_doWord_17 : decode cX4_doWord 17 = .ok (.invokevirtual 30, 3) := by decide +kernel
theorem dX4_doWord_20 : decode cX4_doWord 20 = .ok (.return_, 1) := by decide +kernel
theorem dX4_doItems_0 : decode cX4_doItems 0 = .ok (.aload_n 0, 1) := by decide +kernel
theorem dX4_doItems_1 : decode cX4_doItems 1 = .ok (.aload_n 1, 1) := by decide +kernel
theorem dX4_doItems_2 : decode cX4_doItems 2 = .ok (.putfield 34, 3) := by decide +kernel
theorem dX4_doItems_5 : decode cX4_doItems 5 = .ok (.aload_n 0, 1) := by decide +kernel
theorem dX4_doItems_6 : decode cX4_doItems 6 = .ok (.aload_n 2, 1) := by decide +kernel
theorem dX4_doItems_7 : decode cX4_doItems 7 = .ok (.putfield 38, 3) := by decide +kernel
theorem dX4_doItems_10 : decode cX4_doItems 10 = .ok (.aload_n 0, 1) := by decide +kernel
theorem dX4_doItems_11 : decode cX4_doItems 11 = .ok (.ldc 41, 2) := by decide +kernel
theorem dX4_doItems_13 : decode cX4_doItems 13 = .ok (.putfield 42, 3) := by decide +kernel
theorem dX4_doItems_16 : decode cX4_doItems 16 = .ok (.aload_n 0, 1) := by decide +kernel
theorem dX4_doItems_17 : decode cX4_doItems 17 = .ok (.iload_n 3, 1) := by decide +kernel
theorem dX4_doItems_18 : decode cX4_doItems 18 = .ok (.iload 4, 2) := by decide +kernel
theorem dX4_doItems_20 : decode cX4_doItems 20 = .ok (.iconst 0, 1) := by decide +kernel
theorem dX4_doItems_21 : decode cX4_doItems 21 = .ok (.invokevirtual 46, 3) := by decide +kernel
theorem dX4_doItems_24 : decode cX4_doItems 24 = .ok (.return_, 1) := by decide +kernel
theorem dX4_goOver_0 : decode cX4_goOver 0 = .ok (.iload_n 1, 1) := by decide +kernel
theorem dX4_goOver_1 : decode cX4_goOver 1 = .ok (.istore 4, 2) := by decide +kernel
theorem dX4_goOver_3 : decode cX4_goOver 3 = .ok (.iload 4, 2) := by decide +kernel
theorem dX4_goOver_5 : decode cX4_goOver 5 = .ok (.ifCond .lt 38, 3) := by decide +kernel
theorem dX4_goOver_8 : decode cX4_goOver 8 = .ok (.iload 4, 2) := by decide +kernel
theorem dX4_goOver_10 : decode cX4_goOver 10 = .ok (.iload_n 2, 1) := by decide +kernel
theorem dX4_goOver_11 : decode cX4_goOver 11 = .ok (.if_icmp .ge 32, 3) := by decide +kernel
theorem dX4_goOver_14 : decode cX4_goOver 14 = .ok (.aload_n 0, 1) := by decide +kernel
theorem dX4_goOver_15 : decode cX4_goOver 15 = .ok (.getfield 42, 3) := by decide +kernel
theorem dX4_goOver_18 : decode cX4_goOver 18 = .ok (.ifCond .le 25, 3) := by decide +kernel
theorem dX4_goOver_21 : decode cX4_goOver 21 = .ok (.aload_n 0, 1) := by decide +kernel
theorem dX4_goOver_22 : decode cX4_goOver 22 = .ok (.dup, 1) := by decide +kernel
theorem dX4_goOver_23 : decode cX4_goOver 23 = .ok (.getfield 42, 3) := by decide +kernel
theorem dX4_goOver_26 : decode cX4_goOver 26 = .ok (.iconst 1, 1) := by decide +kernel
theorem dX4_goOver_27 : decode cX4_goOver 27 = .ok (.isub, 1) := by decide +kernel
theorem dX4_goOver_28 : decode cX4_goOver 28 = .ok (.putfield 42, 3) := by decide +kernel
theorem dX4_goOver_31 : decode cX4_goOver 31 = .ok (.aload_n 0, 1) := by decide +kernel
theorem dX4_goOver_32 : decode cX4_goOver 32 = .ok (.iload 4, 2) := by decide +kernel
theorem dX4_goOver_34 : decode cX4_goOver 34 = .ok (.iload_n 3, 1) := by decide +kernel
theorem dX4_goOver_35 : decode cX4_goOver 35 = .ok (.invokevirtual 50, 3) := by decide +kernel
theorem dX4_goOver_38 : decode cX4_goOver 38 = .ok (.istore 4, 2) := by decide +kernel
theorem dX4_goOver_40 : decode cX4_goOver 40 = .ok (.goto (-37), 3) := by decide +kernel
theorem dX4_goOver_43 : decode cX4_goOver 43 = .ok (.return_, 1) := by decide +kernel
theorem dX4_doItem_0 : decode cX4_doItem 0 = .ok (.aload_n 0, 1) := by decide +kernel
theorem dX4_doItem_1 : decode cX4_doItem 1 = .ok (.getfield 34, 3) := by decide +kernel
theorem dX4_doItem_4 : decode cX4_doItem 4 = .ok (.getfield 54, 3) := by decide +kernel
theorem dX4_doItem_7 : decode cX4_doItem 7 = .ok (.iload_n 1, 1) := by decide +kernel
theorem dX4_doItem_8 : decode cX4_doItem 8 = .ok (.iaload, 1) := by decide +kernel
theorem dX4_doItem_9 : decode cX4_doItem 9 = .ok (.istore_n 3, 1) := by decide +kernel
theorem dX4_doItem_10 : decode cX4_doItem 10 = .ok (.aload_n 0, 1) := by decide +kernel
theorem dX4_doItem_11 : decode cX4_doItem 11 = .ok (.getfield 34, 3) := by decide +kernel
theorem dX4_doItem_14 : decode cX4_doItem 14 = .ok (.getfield 57, 3) := by decide +kernel
theorem dX4_doItem_17 : decode cX4_doItem 17 = .ok (.iload_n 1, 1) := by decide +kernel
theorem dX4_doItem_18 : decode cX4_doItem 18 = .ok (.iaload, 1) := by decide +kernel
theorem dX4_doItem_19 : decode cX4_doItem 19 = .ok (.tableswitch 211 0 7 #[45, 57, 69, 117, 145, 211, 157, 168], 45) := by decide +kernel
theorem dX4_doItem_64 : decode cX4_doItem 64 = .ok (.aload_n 0, 1) := by decide +kernel
theorem dX4_doItem_65 : decode cX4_doItem 65 = .ok (.getfield 38, 3) := by decide +kernel
theorem dX4_doItem_68 : decode cX4_doItem 68 = .ok (.iload_n 3, 1) := by decide +kernel
theorem dX4_doItem_69 : decode cX4_doItem 69 = .ok (.invokevirtual 60, 3) := by decide +kernel
theorem dX4_doItem_72 : decode cX4_doItem 72 = .ok (.iload_n 1, 1) := by decide +kernel
theorem dX4_doItem_73 : decode cX4_doItem 73 = .ok (.iconst 1, 1) := by decide +kernel
theorem dX4_doItem_74 : decode cX4_doItem 74 = .ok (.iadd, 1) := by decide +kernel
theorem dX4_doItem_75 : decode cX4_doItem 75 = .ok (.ireturn, 1) := by decide +kernel
theorem dX4_doItem_76 : decode cX4_doItem 76 = .ok (.aload_n 0, 1) := by decide +kernel
theorem dX4_doItem_77 : decode cX4_doItem 77 = .ok (.getfield 38, 3) := by decide +kernel
theorem dX4_doItem_80 : decode cX4_doItem 80 = .ok (.iload_n 3, 1) := by decide +kernel
theorem dX4_doItem_81 : decode cX4_doItem 81 = .ok (.invokevirtual 64, 3) := by decide +kernel
theorem dX4_doItem_84 : decode cX4_doItem 84 = .ok (.iload_n 1, 1) := by decide +kernel
theorem dX4_doItem_85 : decode cX4_doItem 85 = .ok (.iconst 1, 1) := by decide +kernel
theorem dX4_doItem_86 : decode cX4_doItem 86 = .ok (.iadd, 1) := by decide +kernel
theorem dX4_doItem_87 : decode cX4_doItem 87 = .ok (.ireturn, 1) := by decide +kernel
theorem dX4_doItem_88 : decode cX4_doItem 88 = .ok (.iload_n 2, 1) := by decide +kernel
theorem dX4_doItem_89 : decode cX4_doItem 89 = .ok (.bipush 6, 2) := by decide +kernel
theorem dX4_doItem_91 : decode cX4_doItem 91 = .ok (.if_icmp .ge 41, 3) := by decide +kernel
theorem dX4_doItem_94 : decode cX4_doItem 94 = .ok (.aload_n 0, 1) := by decide +kernel
theorem dX4_doItem_95 : decode cX4_doItem 95 = .ok (.getfield 34, 3) := by decide +kernel
theorem dX4_doItem_98 : decode cX4_doItem 98 = .ok (.iload_n 3, 1) := by decide +kernel
theorem dX4_doItem_99 : decode cX4_doItem 99 = .ok (.invokevirtual 67, 3) := by decide +kernel
theorem dX4_doItem_102 : decode cX4_doItem 102 = .ok (.ifCond .eq 30, 3) := by decide +kernel
theorem dX4_doItem_105 : decode cX4_doItem 105 = .ok (.aload_n 0, 1) := by decide +kernel
theorem dX4_doItem_106 : decode cX4_doItem 106 = .ok (.aload_n 0, 1) := by decide +kernel
theorem dX4_doItem_107 : decode cX4_doItem 107 = .ok (.getfield 34, 3) := by decide +kernel
theorem dX4_doItem_110 : decode cX4_doItem 110 = .ok (.getfield 25, 3) := by decide +kernel
theorem dX4_doItem_113 : decode cX4_doItem 113 = .ok (.iload_n 3, 1) := by decide +kernel
theorem dX4_doItem_114 : decode cX4_doItem 114 = .ok (.iaload, 1) := by decide +kernel
theorem dX4_doItem_115 : decode cX4_doItem 115 = .ok (.aload_n 0, 1) := by decide +kernel
theorem dX4_doItem_116 : decode cX4_doItem 116 = .ok (.getfield 34, 3) := by decide +kernel
theorem dX4_doItem_119 : decode cX4_doItem 119 = .ok (.getfield 25, 3) := by decide +kernel
theorem dX4_doItem_122 : decode cX4_doItem 122 = .ok (.iload_n 3, 1) := by decide +kernel
theorem dX4_doItem_123 : decode cX4_doItem 123 = .ok (.iconst 1, 1) := by decide +kernel
theorem dX4_doItem_124 : decode cX4_doItem 124 = .ok (.iadd, 1) := by decide +kernel
theorem dX4_doItem_125 : decode cX4_doItem 125 = .ok (.iaload, 1) := by decide +kernel
theorem dX4_doItem_126 : decode cX4_doItem 126 = .ok (.iload_n 2, 1) := by decide +kernel
theorem dX4_doItem_127 : decode cX4_doItem 127 = .ok (.iconst 1, 1) := by decide +kernel
theorem dX4_doItem_128 : decode cX4_doItem 128 = .ok (.iadd, 1) := by decide +kernel
theorem dX4_doItem_129 : decode cX4_doItem 129 = .ok (.invokevirtual 46, 3) := by decide +kernel
theorem dX4_doItem_132 : decode cX4_doItem 132 = .ok (.iload_n 1, 1) := by decide +kernel
theorem dX4_doItem_133 : decode cX4_doItem 133 = .ok (.iconst 1, 1) := by decide +kernel
theorem dX4_doItem_134 : decode cX4_doItem 134 = .ok (.iadd, 1) := by decide +kernel
theorem dX4_doItem_135 : decode cX4_doItem 135 = .ok (.ireturn, 1) := by decide +kernel
theorem dX4_doItem_136 : decode cX4_doItem 136 = .ok (.aload_n 0, 1) := by decide +kernel
theorem dX4_doItem_137 : decode cX4_doItem 137 = .ok (.getfield 38, 3) := by decide +kernel
theorem dX4_doItem_140 : decode cX4_doItem 140 = .ok (.invokevirtual 71, 3) := by decide +kernel
theorem dX4_doItem_143 : decode cX4_doItem 143 = .ok (.ifCond .eq 9, 3) := by decide +kernel
theorem dX4_doItem_146 : decode cX4_doItem 146 = .ok (.iload_n 1, 1) := by decide +kernel
theorem dX4_doItem_147 : decode cX4_doItem 147 = .ok (.iconst 1, 1) := by decide +kernel
theorem dX4_doItem_148 : decode cX4_doItem 148 = .ok (.iadd, 1) := by decide +kernel
theorem dX4_doItem_149 : decode cX4_doItem 149 = .ok (.goto 14, 3) := by decide +kernel
theorem dX4_doItem_152 : decode cX4_doItem 152 = .ok (.aload_n 0, 1) := by decide +kernel
theorem dX4_doItem_153 : decode cX4_doItem 153 = .ok (.getfield 34, 3) := by decide +kernel
theorem dX4_doItem_156 : decode cX4_doItem 156 = .ok (.getfield 75, 3) := by decide +kernel
theorem dX4_doItem_159 : decode cX4_doItem 159 = .ok (.iload_n 1, 1) := by decide +kernel
theorem dX4_doItem_160 : decode cX4_doItem 160 = .ok (.iaload, 1) := by decide +kernel
theorem dX4_doItem_161 : decode cX4_doItem 161 = .ok (.iconst 1, 1) := by decide +kernel
theorem dX4_doItem_162 : decode cX4_doItem 162 = .ok (.iadd, 1) := by decide +kernel
theorem dX4_doItem_163 : decode cX4_doItem 163 = .ok (.ireturn, 1) := by decide +kernel
theorem dX4_doItem_164 : decode cX4_doItem 164 = .ok (.aload_n 0, 1) := by decide +kernel
theorem dX4_doItem_165 : decode cX4_doItem 165 = .ok (.getfield 34, 3) := by decide +kernel
theorem dX4_doItem_168 : decode cX4_doItem 168 = .ok (.getfield 75, 3) := by decide +kernel
theorem dX4_doItem_171 : decode cX4_doItem 171 = .ok (.iload_n 1, 1) := by decide +kernel
theorem dX4_doItem_172 : decode cX4_doItem 172 = .ok (.iaload, 1) := by decide +kernel
theorem dX4_doItem_173 : decode cX4_doItem 173 = .ok (.iconst 1, 1) := by decide +kernel
theorem dX4_doItem_174 : decode cX4_doItem 174 = .ok (.iadd, 1) := by decide +kernel
theorem dX4_doItem_175 : decode cX4_doItem 175 = .ok (.ireturn, 1) := by decide +kernel
theorem dX4_doItem_176 : decode cX4_doItem 176 = .ok (.aload_n 0, 1) := by decide +kernel
theorem dX4_doItem_177 : decode cX4_doItem 177 = .ok (.getfield 9, 3) := by decide +kernel
theorem dX4_doItem_180 : decode cX4_doItem 180 = .ok (.iload_n 1, 1) := by decide +kernel
theorem dX4_doItem_181 : decode cX4_doItem 181 = .ok (.iload_n 3, 1) := by decide +kernel
theorem dX4_doItem_182 : decode cX4_doItem 182 = .ok (.iastore, 1) := by decide +kernel
theorem dX4_doItem_183 : decode cX4_doItem 183 = .ok (.iload_n 1, 1) := by decide +kernel
theorem dX4_doItem_184 : decode cX4_doItem 184 = .ok (.iconst 1, 1) := by decide +kernel
theorem dX4_doItem_185 : decode cX4_doItem 185 = .ok (.iadd, 1) := by decide +kernel
theorem dX4_doItem_186 : decode cX4_doItem 186 = .ok (.ireturn, 1) := by decide +kernel
theorem dX4_doItem_187 : decode cX4_doItem 187 = .ok (.aload_n 0, 1) := by decide +kernel
theorem dX4_doItem_188 : decode cX4_doItem 188 = .ok (.getfield 34, 3) := by decide +kernel
theorem dX4_doItem_191 : decode cX4_doItem 191 = .ok (.getfield 75, 3) := by decide +kernel
theorem dX4_doItem_194 : decode cX4_doItem 194 = .ok (.iload_n 1, 1) := by decide +kernel
theorem dX4_doItem_195 : decode cX4_doItem 195 = .ok (.iaload, 1) := by decide +kernel
theorem dX4_doItem_196 : decode cX4_doItem 196 = .ok (.istore 4, 2) := by decide +kernel
theorem dX4_doItem_198 : decode cX4_doItem 198 = .ok (.aload_n 0, 1) := by decide +kernel
theorem dX4_doItem_199 : decode cX4_doItem 199 = .ok (.getfield 9, 3) := by decide +kernel
theorem dX4_doItem_202 : decode cX4_doItem 202 = .ok (.iload 4, 2) := by decide +kernel
theorem dX4_doItem_204 : decode cX4_doItem 204 = .ok (.dup2, 1) := by decide +kernel
theorem dX4_doItem_205 : decode cX4_doItem 205 = .ok (.iaload, 1) := by decide +kernel
theorem dX4_doItem_206 : decode cX4_doItem 206 = .ok (.iconst 1, 1) := by decide +kernel
theorem dX4_doItem_207 : decode cX4_doItem 207 = .ok (.isub, 1) := by decide +kernel
theorem dX4_doItem_208 : decode cX4_doItem 208 = .ok (.iastore, 1) := by decide +kernel
theorem dX4_doItem_209 : decode cX4_doItem 209 = .ok (.aload_n 0, 1) := by decide +kernel
theorem dX4_doItem_210 : decode cX4_doItem 210 = .ok (.getfield 9, 3) := by decide +kernel
theorem dX4_doItem_213 : decode cX4_doItem 213 = .ok (.iload 4, 2) := by decide +kernel
theorem dX4_doItem_215 : decode cX4_doItem 215 = .ok (.iaload, 1) := by decide +kernel
theorem dX4_doItem_216 : decode cX4_doItem 216 = .ok (.ifCond .le 10, 3) := by decide +kernel
theorem dX4_doItem_219 : decode cX4_doItem 219 = .ok (.iload 4, 2) := by decide +kernel
theorem dX4_doItem_221 : decode cX4_doItem 221 = .ok (.iconst 1, 1) := by decide +kernel
theorem dX4_doItem_222 : decode cX4_doItem 222 = .ok (.iadd, 1) := by decide +kernel
theorem dX4_doItem_223 : decode cX4_doItem 223 = .ok (.goto 6, 3) := by decide +kernel
theorem dX4_doItem_226 : decode cX4_doItem 226 = .ok (.iload_n 1, 1) := by decide +kernel
theorem dX4_doItem_227 : decode cX4_doItem 227 = .ok (.iconst 1, 1) := by decide +kernel
theorem dX4_doItem_228 : decode cX4_doItem 228 = .ok (.iadd, 1) := by decide +kernel
theorem dX4_doItem_229 : decode cX4_doItem 229 = .ok (.ireturn, 1) := by decide +kernel
theorem dX4_doItem_230 : decode cX4_doItem 230 = .ok (.iload_n 1, 1) := by decide +kernel
theorem dX4_doItem_231 : decode cX4_doItem 231 = .ok (.iconst 1, 1) := by decide +kernel
theorem dX4_doItem_232 : decode cX4_doItem 232 = .ok (.iadd, 1) := by decide +kernel
theorem dX4_doItem_233 : decode cX4_doItem 233 = .ok (.ireturn, 1) := by decide +kernel
theorem dX4_firstDifference_0 : decode cX4_firstDifference 0 = .ok (.aload_n 1, 1) := by decide +kernel
theorem dX4_firstDifference_1 : decode cX4_firstDifference 1 = .ok (.getfield 78, 3) := by decide +kernel
theorem dX4_firstDifference_4 : decode cX4_firstDifference 4 = .ok (.iload_n 2, 1) := by decide +kernel
theorem dX4_firstDifference_5 : decode cX4_firstDifference 5 = .ok (.iaload, 1) := by decide +kernel
theorem dX4_firstDifference_6 : decode cX4_firstDifference 6 = .ok (.istore 4, 2) := by decide +kernel
theorem dX4_firstDifference_8 : decode cX4_firstDifference 8 = .ok (.iload 4, 2) := by decide +kernel
theorem dX4_firstDifference_10 : decode cX4_firstDifference 10 = .ok (.iconst 3, 1) := by decide +kernel
theorem dX4_firstDifference_11 : decode cX4_firstDifference 11 = .ok (.if_icmp .gt 29, 3) := by decide +kernel
theorem dX4_firstDifference_14 : decode cX4_firstDifference 14 = .ok (.iload 4, 2) := by decide +kernel
theorem dX4_firstDifference_16 : decode cX4_firstDifference 16 = .ok (.aload_n 1, 1) := by decide +kernel
theorem dX4_firstDifference_17 : decode cX4_firstDifference 17 = .ok (.getfield 78, 3) := by decide +kernel
theorem dX4_firstDifference_20 : decode cX4_firstDifference 20 = .ok (.iload_n 3, 1) := by decide +kernel
theorem dX4_firstDifference_21 : decode cX4_firstDifference 21 = .ok (.iaload, 1) := by decide +kernel
theorem dX4_firstDifference_22 : decode cX4_firstDifference 22 = .ok (.if_icmp .ne 18, 3) := by decide +kernel
theorem dX4_firstDifference_25 : decode cX4_firstDifference 25 = .ok (.aload_n 1, 1) := by decide +kernel
theorem dX4_firstDifference_26 : decode cX4_firstDifference 26 = .ok (.getfield 81, 3) := by decide +kernel
theorem dX4_firstDifference_29 : decode cX4_firstDifference 29 = .ok (.iload_n 2, 1) := by decide +kernel
theorem dX4_firstDifference_30 : decode cX4_firstDifference 30 = .ok (.iaload, 1) := by decide +kernel
theorem dX4_firstDifference_31 : decode cX4_firstDifference 31 = .ok (.aload_n 1, 1) := by decide +kernel
theorem dX4_firstDifference_32 : decode cX4_firstDifference 32 = .ok (.getfield 81, 3) := by decide +kernel
theorem dX4_firstDifference_35 : decode cX4_firstDifference 35 = .ok (.iload_n 3, 1) := by decide +kernel
theorem dX4_firstDifference_36 : decode cX4_firstDifference 36 = .ok (.iaload, 1) := by decide +kernel
theorem dX4_firstDifference_37 : decode cX4_firstDifference 37 = .ok (.if_icmp .eq 6, 3) := by decide +kernel
theorem dX4_firstDifference_40 : decode cX4_firstDifference 40 = .ok (.bipush (-2), 2) := by decide +kernel
theorem dX4_firstDifference_42 : decode cX4_firstDifference 42 = .ok (.ireturn, 1) := by decide +kernel
theorem dX4_firstDifference_43 : decode cX4_firstDifference 43 = .ok (.iconst 1, 1) := by decide +kernel
theorem dX4_firstDifference_44 : decode cX4_firstDifference 44 = .ok (.iconst 2, 1) := by decide +kernel
theorem dX4_firstDifference_45 : decode cX4_firstDifference 45 = .ok (.iload 4, 2) := by decide +kernel
theorem dX4_firstDifference_47 : decode cX4_firstDifference 47 = .ok (.imul, 1) := by decide +kernel
theorem dX4_firstDifference_48 : decode cX4_firstDifference 48 = .ok (.ishl, 1) := by decide +kernel
theorem dX4_firstDifference_49 : decode cX4_firstDifference 49 = .ok (.istore 5, 2) := by decide +kernel
theorem dX4_firstDifference_51 : decode cX4_firstDifference 51 = .ok (.iconst 0, 1) := by decide +kernel
theorem dX4_firstDifference_52 : decode cX4_firstDifference 52 = .ok (.istore 6, 2) := by decide +kernel
theorem dX4_firstDifference_54 : decode cX4_firstDifference 54 = .ok (.iload 6, 2) := by decide +kernel
theorem dX4_firstDifference_56 : decode cX4_firstDifference 56 = .ok (.iload 5, 2) := by decide +kernel
theorem dX4_firstDifference_58 : decode cX4_firstDifference 58 = .ok (.if_icmp .ge 71, 3) := by decide +kernel
theorem dX4_firstDifference_61 : decode cX4_firstDifference 61 = .ok (.aload_n 0, 1) := by decide +kernel
theorem dX4_firstDifference_62 : decode cX4_firstDifference 62 = .ok (.getfield 18, 3) := by decide +kernel
theorem dX4_firstDifference_65 : decode cX4_firstDifference 65 = .ok (.iload 6, 2) := by decide +kernel
theorem dX4_firstDifference_67 : decode cX4_firstDifference 67 = .ok (.iload 4, 2) := by decide +kernel
theorem dX4_firstDifference_69 : decode cX4_firstDifference 69 = .ok (.invokestatic 84, 3) := by decide +kernel
theorem dX4_firstDifference_72 : decode cX4_firstDifference 72 = .ok (.istore 7, 2) := by decide +kernel
theorem dX4_firstDifference_74 : decode cX4_firstDifference 74 = .ok (.aload_n 0, 1) := by decide +kernel
theorem dX4_firstDifference_75 : decode cX4_firstDifference 75 = .ok (.getfield 22, 3) := by decide +kernel
theorem dX4_firstDifference_78 : decode cX4_firstDifference 78 = .ok (.iload 6, 2) := by decide +kernel
theorem dX4_firstDifference_80 : decode cX4_firstDifference 80 = .ok (.iload 4, 2) := by decide +kernel
theorem dX4_firstDifference_82 : decode cX4_firstDifference 82 = .ok (.invokestatic 84, 3) := by decide +kernel
theorem dX4_firstDifference_85 : decode cX4_firstDifference 85 = .ok (.pop, 1) := by decide +kernel
theorem dX4_firstDifference_86 : decode cX4_firstDifference 86 = .ok (.aload_n 0, 1) := by decide +kernel
theorem dX4_firstDifference_87 : decode cX4_firstDifference 87 = .ok (.aload_n 1, 1) := by decide +kernel
theorem dX4_firstDifference_88 : decode cX4_firstDifference 88 = .ok (.aload_n 0, 1) := by decide +kernel
theorem dX4_firstDifference_89 : decode cX4_firstDifference 89 = .ok (.getfield 18, 3) := by decide +kernel
theorem dX4_firstDifference_92 : decode cX4_firstDifference 92 = .ok (.iload_n 2, 1) := by decide +kernel
theorem dX4_firstDifference_93 : decode cX4_firstDifference 93 = .ok (.invokevirtual 88, 3) := by decide +kernel
theorem dX4_firstDifference_96 : decode cX4_firstDifference 96 = .ok (.aload_n 0, 1) := by decide +kernel
theorem dX4_firstDifference_97 : decode cX4_firstDifference 97 = .ok (.aload_n 1, 1) := by decide +kernel
theorem dX4_firstDifference_98 : decode cX4_firstDifference 98 = .ok (.aload_n 0, 1) := by decide +kernel
theorem dX4_firstDifference_99 : decode cX4_firstDifference 99 = .ok (.getfield 22, 3) := by decide +kernel
theorem dX4_firstDifference_102 : decode cX4_firstDifference 102 = .ok (.iload_n 3, 1) := by decide +kernel
theorem dX4_firstDifference_103 : decode cX4_firstDifference 103 = .ok (.invokevirtual 88, 3) := by decide +kernel
theorem dX4_firstDifference_106 : decode cX4_firstDifference 106 = .ok (.aload_n 0, 1) := by decide +kernel
theorem dX4_firstDifference_107 : decode cX4_firstDifference 107 = .ok (.getfield 18, 3) := by decide +kernel
theorem dX4_firstDifference_110 : decode cX4_firstDifference 110 = .ok (.aload_n 0, 1) := by decide +kernel
theorem dX4_firstDifference_111 : decode cX4_firstDifference 111 = .ok (.getfield 22, 3) := by decide +kernel
theorem dX4_firstDifference_114 : decode cX4_firstDifference 114 = .ok (.invokevirtual 92, 3) := by decide +kernel
theorem dX4_firstDifference_117 : decode cX4_firstDifference 117 = .ok (.ifCond .ne 6, 3) := by decide +kernel
theorem dX4_firstDifference_120 : decode cX4_firstDifference 120 = .ok (.iload 7, 2) := by decide +kernel
theorem dX4_firstDifference_122 : decode cX4_firstDifference 122 = .ok (.ireturn, 1) := by decide +kernel
theorem dX4_firstDifference_123 : decode cX4_firstDifference 123 = .ok (.iinc 6 1, 3) := by decide +kernel
theorem dX4_firstDifference_126 : decode cX4_firstDifference 126 = .ok (.goto (-72), 3) := by decide +kernel
theorem dX4_firstDifference_129 : decode cX4_firstDifference 129 = .ok (.iconst (-1), 1) := by decide +kernel
theorem dX4_firstDifference_130 : decode cX4_firstDifference 130 = .ok (.ireturn, 1) := by decide +kernel
theorem dX4_layDigits_0 : decode cX4_layDigits 0 = .ok (.iconst 0, 1) := by decide +kernel
theorem dX4_layDigits_1 : decode cX4_layDigits 1 = .ok (.istore_n 3, 1) := by decide +kernel
theorem dX4_layDigits_2 : decode cX4_layDigits 2 = .ok (.aload_n 0, 1) := by decide +kernel
theorem dX4_layDigits_3 : decode cX4_layDigits 3 = .ok (.invokevirtual 96, 3) := by decide +kernel
theorem dX4_layDigits_6 : decode cX4_layDigits 6 = .ok (.iload_n 2, 1) := by decide +kernel
theorem dX4_layDigits_7 : decode cX4_layDigits 7 = .ok (.iconst 1, 1) := by decide +kernel
theorem dX4_layDigits_8 : decode cX4_layDigits 8 = .ok (.isub, 1) := by decide +kernel
theorem dX4_layDigits_9 : decode cX4_layDigits 9 = .ok (.istore 4, 2) := by decide +kernel
theorem dX4_layDigits_11 : decode cX4_layDigits 11 = .ok (.iload 4, 2) := by decide +kernel
theorem dX4_layDigits_13 : decode cX4_layDigits 13 = .ok (.ifCond .lt 33, 3) := by decide +kernel
theorem dX4_layDigits_16 : decode cX4_layDigits 16 = .ok (.iload_n 1, 1) := by decide +kernel
theorem dX4_layDigits_17 : decode cX4_layDigits 17 = .ok (.iconst 2, 1) := by decide +kernel
theorem dX4_layDigits_18 : decode cX4_layDigits 18 = .ok (.iload 4, 2) := by decide +kernel
theorem dX4_layDigits_20 : decode cX4_layDigits 20 = .ok (.imul, 1) := by decide +kernel
theorem dX4_layDigits_21 : decode cX4_layDigits 21 = .ok (.ishr, 1) := by decide +kernel
theorem dX4_layDigits_22 : decode cX4_layDigits 22 = .ok (.iconst 3, 1) := by decide +kernel
theorem dX4_layDigits_23 : decode cX4_layDigits 23 = .ok (.iand, 1) := by decide +kernel
theorem dX4_layDigits_24 : decode cX4_layDigits 24 = .ok (.istore 5, 2) := by decide +kernel
theorem dX4_layDigits_26 : decode cX4_layDigits 26 = .ok (.aload_n 0, 1) := by decide +kernel
theorem dX4_layDigits_27 : decode cX4_layDigits 27 = .ok (.iload 5, 2) := by decide +kernel
theorem dX4_layDigits_29 : decode cX4_layDigits 29 = .ok (.invokevirtual 64, 3) := by decide +kernel
theorem dX4_layDigits_32 : decode cX4_layDigits 32 = .ok (.iload_n 3, 1) := by decide +kernel
theorem dX4_layDigits_33 : decode cX4_layDigits 33 = .ok (.bipush 10, 2) := by decide +kernel
theorem dX4_layDigits_35 : decode cX4_layDigits 35 = .ok (.imul, 1) := by decide +kernel
theorem dX4_layDigits_36 : decode cX4_layDigits 36 = .ok (.iload 5, 2) := by decide +kernel
theorem dX4_layDigits_38 : decode cX4_layDigits 38 = .ok (.iadd, 1) := by decide +kernel
theorem dX4_layDigits_39 : decode cX4_layDigits 39 = .ok (.istore_n 3, 1) := by decide +kernel
theorem dX4_layDigits_40 : decode cX4_layDigits 40 = .ok (.iinc 4 (-1), 3) := by decide +kernel
theorem dX4_layDigits_43 : decode cX4_layDigits 43 = .ok (.goto (-32), 3) := by decide +kernel
theorem dX4_layDigits_46 : decode cX4_layDigits 46 = .ok (.iload_n 3, 1) := by decide +kernel
theorem dX4_layDigits_47 : decode cX4_layDigits 47 = .ok (.ireturn, 1) := by decide +kernel
theorem dX5_init_0 : decode cX5_init 0 = .ok (.aload_n 0, 1) := by decide +kernel
theorem dX5_init_1 : decode cX5_init 1 = .ok (.invokespecial 3, 3) := by decide +kernel
theorem dX5_init_4 : decode cX5_init 4 = .ok (.aload_n 0, 1) := by decide +kernel
theorem dX5_init_5 : decode cX5_init 5 = .ok (.sipush 1600, 3) := by decide +kernel
theorem dX5_init_8 : decode cX5_init 8 = .ok (.newarray .byte, 2) := by decide +kernel
theorem dX5_init_10 : decode cX5_init 10 = .ok (.putfield 9, 3) := by decide +kernel
theorem dX5_init_13 : decode cX5_init 13 = .ok (.aload_n 0, 1) := by decide +kernel
theorem dX5_init_14 : decode cX5_init 14 = .ok (.iconst (-1), 1) := by decide +kernel
theorem dX5_init_15 : decode cX5_init 15 = .ok (.putfield 15, 3) := by decide +kernel
theorem dX5_init_18 : decode cX5_init 18 = .ok (.return_, 1) := by decide +kernel
theorem dX5_begin_0 : decode cX5_begin 0 = .ok (.aload_n 0, 1) := by decide +kernel
theorem dX5_begin_1 : decode cX5_begin 1 = .ok (.iload_n 1, 1) := by decide +kernel
theorem dX5_begin_2 : decode cX5_begin 2 = .ok (.sipush 1600, 3) := by decide +kernel
theorem dX5_begin_5 : decode cX5_begin 5 = .ok (.invokestatic 19, 3) := by decide +kernel
theorem dX5_begin_8 : decode cX5_begin 8 = .ok (.putfield 25, 3) := by decide +kernel
theorem dX5_begin_11 : decode cX5_begin 11 = .ok (.aload_n 0, 1) := by decide +kernel
theorem dX5_begin_12 : decode cX5_begin 12 = .ok (.iconst 0, 1) := by decide +kernel
theorem dX5_begin_13 : decode cX5_begin 13 = .ok (.putfield 28, 3) := by decide +kernel
theorem dX5_begin_16 : decode cX5_begin 16 = .ok (.aload_n 0, 1) := by decide +kernel
theorem dX5_begin_17 : decode cX5_begin 17 = .ok (.iconst 0, 1) := by decide +kernel
theorem dX5_begin_18 : decode cX5_begin 18 = .ok (.putfield 31, 3) := by decide +kernel
theorem dX5_begin_21 : decode cX5_begin 21 = .ok (.aload_n 0, 1) := by decide +kernel
theorem dX5_begin_22 : decode cX5_begin 22 = .ok (.iconst (-1), 1) := by decide +kernel
theorem dX5_begin_23 : decode cX5_begin 23 = .ok (.putfield 15, 3) := by decide +kernel
theorem dX5_begin_26 : decode cX5_begin 26 = .ok (.aload_n 0, 1) := by decide +kernel
theorem dX5_begin_27 : decode cX5_begin 27 = .ok (.invokevirtual 34, 3) := by decide +kernel
theorem dX5_begin_30 : decode cX5_begin 30 = .ok (.return_, 1) := by decide +kernel
theorem dX5_goesOn_0 : decode cX5_goesOn 0 = .ok (.aload_n 0, 1) := by decide +kernel
theorem dX5_goesOn_1 : decode cX5_goesOn 1 = .ok (.getfield 31, 3) := by decide +kernel
theorem dX5_goesOn_4 : decode cX5_goesOn 4 = .ok (.ifCond .ne 14, 3) := by decide +kernel
theorem dX5_goesOn_7 : decode cX5_goesOn 7 = .ok (.aload_n 0, 1) := by decide +kernel
theorem dX5_goesOn_8 : decode cX5_goesOn 8 = .ok (.getfield 37, 3) := by decide +kernel
theorem dX5_goesOn_11 : decode cX5_goesOn 11 = .ok (.ifCond .eq 7, 3) := by decide +kernel
theorem dX5_goesOn_14 : decode cX5_goesOn 14 = .ok (.iconst 1, 1) := by decide +kernel
theorem dX5_goesOn_15 : decode cX5_goesOn 15 = .ok (.goto 4, 3) := by decide +kernel
theorem dX5_goesOn_18 : decode cX5_goesOn 18 = .ok (.iconst 0, 1) := by decide +kernel
theorem dX5_goesOn_19 : decode cX5_goesOn 19 = .ok (.ireturn, 1) := by decide +kernel
theorem dX5_isSign_0 : decode cX5_isSign 0 = .ok (.aload_n 0, 1) := by decide +kernel
theorem dX5_isSign_1 : decode cX5_isSign 1 = .ok (.getfield 37, 3) := by decide +kernel
theorem dX5_isSign_4 : decode cX5_isSign 4 = .ok (.iconst 3, 1) := by decide +kernel
theorem dX5_isSign_5 : decode cX5_isSign 5 = .ok (.if_icmp .ne 15, 3) := by decide +kernel
theorem dX5_isSign_8 : decode cX5_isSign 8 = .ok (.aload_n 0, 1) := by decide +kernel
theorem dX5_isSign_9 : decode cX5_isSign 9 = .ok (.getfield 40, 3) := by decide +kernel
theorem dX5_isSign_12 : decode cX5_isSign 12 = .ok (.iload_n 1, 1) := by decide +kernel
theorem dX5_isSign_13 : decode cX5_isSign 13 = .ok (.if_icmp .ne 7, 3) := by decide +kernel
theorem dX5_isSign_16 : decode cX5_isSign 16 = .ok (.iconst 1, 1) := by decide +kernel
theorem dX5_isSign_17 : decode cX5_isSign 17 = .ok (.goto 4, 3) := by decide +kernel
theorem dX5_isSign_20 : decode cX5_isSign 20 = .ok (.iconst 0, 1) := by decide +kernel
theorem dX5_isSign_21 : decode cX5_isSign 21 = .ok (.ireturn, 1) := by decide +kernel
theorem dX5_isKey_0 : decode cX5_isKey 0 = .ok (.aload_n 0, 1) := by decide +kernel
theorem dX5_isKey_1 : decode cX5_isKey 1 = .ok (.getfield 37, 3) := by decide +kernel
theorem dX5_isKey_4 : decode cX5_isKey 4 = .ok (.iconst 4, 1) := by decide +kernel
theorem dX5_isKey_5 : decode cX5_isKey 5 = .ok (.if_icmp .ne 15, 3) := by decide +kernel
theorem dX5_isKey_8 : decode cX5_isKey 8 = .ok (.aload_n 0, 1) := by decide +kernel
theorem dX5_isKey_9 : decode cX5_isKey 9 = .ok (.getfield 40, 3) := by decide +kernel
theorem dX5_isKey_12 : decode cX5_isKey 12 = .ok (.iload_n 1, 1) := by decide +kernel
theorem dX5_isKey_13 : decode cX5_isKey 13 = .ok (.if_icmp .ne 7, 3) := by decide +kernel
theorem dX5_isKey_16 : decode cX5_isKey 16 = .ok (.iconst 1, 1) := by decide +kernel
theorem dX5_isKey_17 : decode cX5_isKey 17 = .ok (.goto 4, 3) := by decide +kernel
theorem dX5_isKey_20 : decode cX5_isKey 20 = .ok (.iconst 0, 1) := by decide +kernel
theorem dX5_isKey_21 : decode cX5_isKey 21 = .ok (.ireturn, 1) := by decide +kernel
theorem dX5_fail_0 : decode cX5_fail 0 = .ok (.aload_n 0, 1) := by decide +kernel
theorem dX5_fail_1 : decode cX5_fail 1 = .ok (.getfield 31, 3) := by decide +kernel
theorem dX5_fail_4 : decode cX5_fail 4 = .ok (.ifCond .ne 16, 3) := by decide +kernel
theorem dX5_fail_7 : decode cX5_fail 7 = .ok (.aload_n 0, 1) := by decide +kernel
theorem dX5_fail_8 : decode cX5_fail 8 = .ok (.iload_n 1, 1) := by decide +kernel
theorem dX5_fail_9 : decode cX5_fail 9 = .ok (.putfield 31, 3) := by decide +kernel
theorem dX5_fail_12 : decode cX5_fail 12 = .ok (.aload_n 0, 1) := by decide +kernel
theorem dX5_fail_13 : decode cX5_fail 13 = .ok (.aload_n 0, 1) := by decide +kernel
theorem dX5_fail_14 : decode cX5_fail 14 = .ok (.getfield 43, 3) := by decide +kernel
theorem dX5_fail_17 : decode cX5_fail 17 = .ok (.putfield 15, 3) := by decide +kernel
theorem dX5_fail_20 : decode cX5_fail 20 = .ok (.return_, 1) := by decide +kernel
theorem dX5_refuse_0 : decode cX5_refuse 0 = .ok (.aload_n 0, 1) := by decide +kernel
theorem dX5_refuse_1 : decode cX5_refuse 1 = .ok (.aload_n 0, 1) := by decide +kernel
theorem dX5_refuse_2 : decode cX5_refuse 2 = .ok (.getfield 37, 3) := by decide +kernel
theorem dX5_refuse_5 : decode cX5_refuse 5 = .ok (.iconst 1, 1) := by decide +kernel
theorem dX5_refuse_6 : decode cX5_refuse 6 = .ok (.if_icmp .ne 7, 3) := by decide +kernel
theorem dX5_refuse_9 : decode cX5_refuse 9 = .ok (.iconst 1, 1) := by decide +kernel
theorem dX5_refuse_10 : decode cX5_refuse 10 = .ok (.goto 4, 3) := by decide +kernel
theorem dX5_refuse_13 : decode cX5_refuse 13 = .ok (.iconst 2, 1) := by decide +kernel
theorem dX5_refuse_14 : decode cX5_refuse 14 = .ok (.invokevirtual 46, 3) := by decide +kernel
theorem dX5_refuse_17 : decode cX5_refuse 17 = .ok (.return_, 1) := by decide +kernel
theorem dX5_require_0 : decode cX5_require 0 = .ok (.aload_n 0, 1) := by decide +kernel
theorem dX5_require_1 : decode cX5_require 1 = .ok (.iload_n 1, 1) := by decide +kernel
theorem dX5_require_2 : decode cX5_require 2 = .ok (.invokevirtual 50, 3) := by decide +kernel
theorem dX5_require_5 : decode cX5_require 5 = .ok (.ifCond .ne 7, 3) := by decide +kernel
theorem dX5_require_8 : decode cX5_require 8 = .ok (.aload_n 0, 1) := by decide +kernel
theorem dX5_require_9 : decode cX5_require 9 = .ok (.invokevirtual 54, 3) := by decide +kernel
theorem dX5_require_12 : decode cX5_require 12 = .ok (.return_, 1) := by decide +kernel
theorem dX5_advance_0 : decode cX5_advance 0 = .ok (.aload_n 0, 1) := by decide +kernel
theorem dX5_advance_1 : decode cX5_advance 1 = .ok (.getfield 28, 3) := by decide +kernel
theorem dX5_advance_4 : decode cX5_advance 4 = .ok (.aload_n 0, 1) := by decide +kernel
theorem dX5_advance_5 : decode cX5_advance 5 = .ok (.getfield 25, 3) := by decide +kernel
theorem dX5_advance_8 : decode cX5_advance 8 = .ok (.if_icmp .ge 44, 3) := by decide +kernel
theorem dX5_advance_11 : decode cX5_advance 11 = .ok (.aload_n 0, 1) := by decide +kernel
theorem dX5_advance_12 : decode cX5_advance 12 = .ok (.getfield 9, 3) := by decide +kernel
theorem dX5_advance_15 : decode cX5_advance 15 = .ok (.aload_n 0, 1) := by decide +kernel
theorem dX5_advance_16 : decode cX5_advance 16 = .ok (.getfield 28, 3) := by decide +kernel
theorem dX5_advance_19 : decode cX5_advance 19 = .ok (.baload, 1) := by decide +kernel
theorem dX5_advance_20 : decode cX5_advance 20 = .ok (.bipush 32, 2) := by decide +kernel
theorem dX5_advance_22 : decode cX5_advance 22 = .ok (.if_icmp .eq 17, 3) := by decide +kernel
theorem dX5_advance_25 : decode cX5_advance 25 = .ok (.aload_n 0, 1) := by decide +kernel
theorem dX5_advance_26 : decode cX5_advance 26 = .ok (.getfield 9, 3) := by decide +kernel
theorem dX5_advance_29 : decode cX5_advance 29 = .ok (.aload_n 0, 1) := by decide +kernel
theorem dX5_advance_30 : decode cX5_advance 30 = .ok (.getfield 28, 3) := by decide +kernel
theorem dX5_advance_33 : decode cX5_advance 33 = .ok (.baload, 1) := by decide +kernel
theorem dX5_advance_34 : decode cX5_advance 34 = .ok (.bipush 10, 2) := by decide +kernel
theorem dX5_advance_36 : decode cX5_advance 36 = .ok (.if_icmp .ne 16, 3) := by decide +kernel
theorem dX5_advance_39 : decode cX5_advance 39 = .ok (.aload_n 0, 1) := by decide +kernel
theorem dX5_advance_40 : decode cX5_advance 40 = .ok (.dup, 1) := by decide +kernel
theorem dX5_advance_41 : decode cX5_advance 41 = .ok (.getfield 28, 3) := by decide +kernel
theorem dX5_advance_44 : decode cX5_advance 44 = .ok (.iconst 1, 1) := by decide +kernel
theorem dX5_advance_45 : decode cX5_advance 45 = .ok (.iadd, 1) := by decide +kernel
theorem dX5_advance_46 : decode cX5_advance 46 = .ok (.putfield 28, 3) := by decide +kernel
theorem dX5_advance_49 : decode cX5_advance 49 = .ok (.goto (-49), 3) := by decide +kernel
theorem dX5_advance_52 : decode cX5_advance 52 = .ok (.aload_n 0, 1) := by decide +kernel
theorem dX5_advance_53 : decode cX5_advance 53 = .ok (.aload_n 0, 1) := by decide +kernel
theorem dX5_advance_54 : decode cX5_advance 54 = .ok (.getfield 28, 3) := by decide +kernel
theorem dX5_advance_57 : decode cX5_advance 57 = .ok (.putfield 43, 3) := by decide +kernel
theorem dX5_advance_60 : decode cX5_advance 60 = .ok (.aload_n 0, 1) := by decide +kernel
theorem dX5_advance_61 : decode cX5_advance 61 = .ok (.iconst (-1), 1) := by decide +kernel
theorem dX5_advance_62 : decode cX5_advance 62 = .ok (.putfield 40, 3) := by decide +kernel
theorem dX5_advance_65 : decode cX5_advance 65 = .ok (.aload_n 0, 1) := by decide +kernel
theorem dX5_advance_66 : decode cX5_advance 66 = .ok (.getfield 28, 3) := by decide +kernel
theorem dX5_advance_69 : decode cX5_advance 69 = .ok (.aload_n 0, 1) := by decide +kernel
theorem dX5_advance_70 : decode cX5_advance 70 = .ok (.getfield 25, 3) := by decide +kernel
theorem dX5_advance_73 : decode cX5_advance 73 = .ok (.if_icmp .lt 11, 3) := by decide +kernel
theorem dX5_advance_76 : decode cX5_advance 76 = .ok (.aload_n 0, 1) := by decide +kernel
theorem dX5_advance_77 : decode cX5_advance 77 = .ok (.iconst 0, 1) := by decide +kernel
theorem dX5_advance_78 : decode cX5_advance 78 = .ok (.putfield 37, 3) := by decide +kernel
theorem dX5_advance_81 : decode cX5_advance 81 = .ok (.goto 153, 3) := by decide +kernel
theorem dX5_advance_84 : decode cX5_advance 84 = .ok (.aload_n 0, 1) := by decide +kernel
theorem dX5_advance_85 : decode cX5_advance 85 = .ok (.aload_n 0, 1) := by decide +kernel
theorem dX5_advance_86 : decode cX5_advance 86 = .ok (.getfield 28, 3) := by decide +kernel
theorem dX5_advance_89 : decode cX5_advance 89 = .ok (.invokevirtual 57, 3) := by decide +kernel
theorem dX5_advance_92 : decode cX5_advance 92 = .ok (.ifCond .eq 58, 3) := by decide +kernel
theorem dX5_advance_95 : decode cX5_advance 95 = .ok (.aload_n 0, 1) := by decide +kernel
theorem dX5_advance_96 : decode cX5_advance 96 = .ok (.invokevirtual 61, 3) := by decide +kernel
theorem dX5_advance_99 : decode cX5_advance 99 = .ok (.aload_n 0, 1) := by decide +kernel
theorem dX5_advance_100 : decode cX5_advance 100 = .ok (.aload_n 0, 1) := by decide +kernel
theorem dX5_advance_101 : decode cX5_advance 101 = .ok (.getfield 37, 3) := by decide +kernel
theorem dX5_advance_104 : decode cX5_advance 104 = .ok (.iconst 5, 1) := by decide +kernel
theorem dX5_advance_105 : decode cX5_advance 105 = .ok (.if_icmp .ne 18, 3) := by decide +kernel
theorem dX5_advance_108 : decode cX5_advance 108 = .ok (.aload_n 0, 1) := by decide +kernel
theorem dX5_advance_109 : decode cX5_advance 109 = .ok (.aload_n 0, 1) := by decide +kernel
theorem dX5_advance_110 : decode cX5_advance 110 = .ok (.getfield 43, 3) := by decide +kernel
theorem dX5_advance_113 : decode cX5_advance 113 = .ok (.aload_n 0, 1) := by decide +kernel
theorem dX5_advance_114 : decode cX5_advance 114 = .ok (.getfield 28, 3) := by decide +kernel
theorem dX5_advance_117 : decode cX5_advance 117 = .ok (.invokevirtual 64, 3) := by decide +kernel
theorem dX5_advance_120 : decode cX5_advance 120 = .ok (.goto 4, 3) := by decide +kernel
theorem dX5_advance_123 : decode cX5_advance 123 = .ok (.iconst (-1), 1) := by decide +kernel
theorem dX5_advance_124 : decode cX5_advance 124 = .ok (.putfield 40, 3) := by decide +kernel
theorem dX5_advance_127 : decode cX5_advance 127 = .ok (.aload_n 0, 1) := by decide +kernel
theorem dX5_advance_128 : decode cX5_advance 128 = .ok (.aload_n 0, 1) := by decide +kernel
theorem dX5_advance_129 : decode cX5_advance 129 = .ok (.getfield 40, 3) := by decide +kernel
theorem dX5_advance_132 : decode cX5_advance 132 = .ok (.iconst (-1), 1) := by decide +kernel
theorem dX5_advance_133 : decode cX5_advance 133 = .ok (.if_icmp .ne 10, 3) := by decide +kernel
theorem dX5_advance_136 : decode cX5_advance 136 = .ok (.aload_n 0, 1) := by decide +kernel
theorem dX5_advance_137 : decode cX5_advance 137 = .ok (.getfield 37, 3) := by decide +kernel
theorem dX5_advance_140 : decode cX5_advance 140 = .ok (.goto 4, 3) := by decide +kernel
theorem dX5_advance_143 : decode cX5_advance 143 = .ok (.iconst 4, 1) := by decide +kernel
theorem dX5_advance_144 : decode cX5_advance 144 = .ok (.putfield 37, 3) := by decide +kernel
theorem dX5_advance_147 : decode cX5_advance 147 = .ok (.goto 87, 3) := by decide +kernel
theorem dX5_advance_150 : decode cX5_advance 150 = .ok (.aload_n 0, 1) := by decide +kernel
theorem dX5_advance_151 : decode cX5_advance 151 = .ok (.aload_n 0, 1) := by decide +kernel
theorem dX5_advance_152 : decode cX5_advance 152 = .ok (.getfield 28, 3) := by decide +kernel
theorem dX5_advance_155 : decode cX5_advance 155 = .ok (.invokevirtual 67, 3) := by decide +kernel
theorem dX5_advance_158 : decode cX5_advance 158 = .ok (.ifCond .eq 10, 3) := by decide +kernel
theorem dX5_advance_161 : decode cX5_advance 161 = .ok (.aload_n 0, 1) := by decide +kernel
theorem dX5_advance_162 : decode cX5_advance 162 = .ok (.invokevirtual 70, 3) := by decide +kernel
theorem dX5_advance_165 : decode cX5_advance 165 = .ok (.goto 69, 3) := by decide +kernel
theorem dX5_advance_168 : decode cX5_advance 168 = .ok (.aload_n 0, 1) := by decide +kernel
theorem dX5_advance_169 : decode cX5_advance 169 = .ok (.getfield 9, 3) := by decide +kernel
theorem dX5_advance_172 : decode cX5_advance 172 = .ok (.aload_n 0, 1) := by decide +kernel
theorem dX5_advance_173 : decode cX5_advance 173 = .ok (.getfield 28, 3) := by decide +kernel
theorem dX5_advance_176 : decode cX5_advance 176 = .ok (.baload, 1) := by decide +kernel
theorem dX5_advance_177 : decode cX5_advance 177 = .ok (.ifCond .le 52, 3) := by decide +kernel
theorem dX5_advance_180 : decode cX5_advance 180 = .ok (.ldc 73, 2) := by decide +kernel
theorem dX5_advance_182 : decode cX5_advance 182 = .ok (.aload_n 0, 1) := by decide +kernel
theorem dX5_advance_183 : decode cX5_advance 183 = .ok (.getfield 9, 3) := by decide +kernel
theorem dX5_advance_186 : decode cX5_advance 186 = .ok (.aload_n 0, 1) := by decide +kernel
theorem dX5_advance_187 : decode cX5_advance 187 = .ok (.getfield 28, 3) := by decide +kernel
theorem dX5_advance_190 : decode cX5_advance 190 = .ok (.baload, 1) := by decide +kernel
theorem dX5_advance_191 : decode cX5_advance 191 = .ok (.i2c, 1) := by decide +kernel
theorem dX5_advance_192 : decode cX5_advance 192 = .ok (.invokevirtual 75, 3) := by decide +kernel
theorem dX5_advance_195 : decode cX5_advance 195 = .ok (.ifCond .lt 34, 3) := by decide +kernel
theorem dX5_advance_198 : decode cX5_advance 198 = .ok (.aload_n 0, 1) := by decide +kernel
theorem dX5_advance_199 : decode cX5_advance 199 = .ok (.iconst 3, 1) := by decide +kernel
theorem dX5_advance_200 : decode cX5_advance 200 = .ok (.putfield 37, 3) := by decide +kernel
theorem dX5_advance_203 : decode cX5_advance 203 = .ok (.aload_n 0, 1) := by decide +kernel
theorem dX5_advance_204 : decode cX5_advance 204 = .ok (.aload_n 0, 1) := by decide +kernel
theorem dX5_advance_205 : decode cX5_advance 205 = .ok (.getfield 9, 3) := by decide +kernel
theorem dX5_advance_208 : decode cX5_advance 208 = .ok (.aload_n 0, 1) := by decide +kernel
theorem dX5_advance_209 : decode cX5_advance 209 = .ok (.getfield 28, 3) := by decide +kernel
theorem dX5_advance_212 : decode cX5_advance 212 = .ok (.baload, 1) := by decide +kernel
theorem dX5_advance_213 : decode cX5_advance 213 = .ok (.putfield 40, 3) := by decide +kernel
theorem dX5_advance_216 : decode cX5_advance 216 = .ok (.aload_n 0, 1) := by decide +kernel
theorem dX5_advance_217 : decode cX5_advance 217 = .ok (.dup, 1) := by decide +kernel
theorem dX5_advance_218 : decode cX5_advance 218 = .ok (.getfield 28, 3) := by decide +kernel
theorem dX5_advance_221 : decode cX5_advance 221 = .ok (.iconst 1, 1) := by decide +kernel
theorem dX5_advance_222 : decode cX5_advance 222 = .ok (.iadd, 1) := by decide +kernel
theorem dX5_advance_223 : decode cX5_advance 223 = .ok (.putfield 28, 3) := by decide +kernel
theorem dX5_advance_226 : decode cX5_advance 226 = .ok (.goto 8, 3) := by decide +kernel
theorem dX5_advance_229 : decode cX5_advance 229 = .ok (.aload_n 0, 1) := by decide +kernel
theorem dX5_advance_230 : decode cX5_advance 230 = .ok (.iconst 1, 1) := by decide +kernel
theorem dX5_advance_231 : decode cX5_advance 231 = .ok (.putfield 37, 3) := by decide +kernel
theorem dX5_advance_234 : decode cX5_advance 234 = .ok (.return_, 1) := by decide +kernel
theorem dX5_readLetters_0 : decode cX5_readLetters 0 = .ok (.aload_n 0, 1) := by decide +kernel
theorem dX5_readLetters_1 : decode cX5_readLetters 1 = .ok (.lconst 0, 1) := by decide +kernel
theorem dX5_readLetters_2 : decode cX5_readLetters 2 = .ok (.putfield 81, 3) := by decide +kernel
theorem dX5_readLetters_5 : decode cX5_readLetters 5 = .ok (.aload_n 0, 1) := by decide +kernel
theorem dX5_readLetters_6 : decode cX5_readLetters 6 = .ok (.getfield 28, 3) := by decide +kernel
theorem dX5_readLetters_9 : decode cX5_readLetters 9 = .ok (.aload_n 0, 1) := by decide +kernel
theorem dX5_readLetters_10 : decode cX5_readLetters 10 = .ok (.getfield 25, 3) := by decide +kernel
theorem dX5_readLetters_13 : decode cX5_readLetters 13 = .ok (.if_icmp .ge 55, 3) := by decide +kernel
theorem dX5_readLetters_16 : decode cX5_readLetters 16 = .ok (.aload_n 0, 1) := by decide +kernel
theorem dX5_readLetters_17 : decode cX5_readLetters 17 = .ok (.aload_n 0, 1) := by decide +kernel
theorem dX5_readLetters_18 : decode cX5_readLetters 18 = .ok (.getfield 28, 3) := by decide +kernel
theorem dX5_readLetters_21 : decode cX5_readLetters 21 = .ok (.invokevirtual 57, 3) := by decide +kernel
theorem dX5_readLetters_24 : decode cX5_readLetters 24 = .ok (.ifCond .eq 44, 3) := by decide +kernel
theorem dX5_readLetters_27 : decode cX5_readLetters 27 = .ok (.aload_n 0, 1) := by decide +kernel
theorem dX5_readLetters_28 : decode cX5_readLetters 28 = .ok (.aload_n 0, 1) := by decide +kernel
theorem dX5_readLetters_29 : decode cX5_readLetters 29 = .ok (.getfield 81, 3) := by decide +kernel
theorem dX5_readLetters_32 : decode cX5_readLetters 32 = .ok (.ldc2_w 85, 3) := by decide +kernel
theorem dX5_readLetters_35 : decode cX5_readLetters 35 = .ok (.lmul, 1) := by decide +kernel
theorem dX5_readLetters_36 : decode cX5_readLetters 36 = .ok (.aload_n 0, 1) := by decide +kernel
theorem dX5_readLetters_37 : decode cX5_readLetters 37 = .ok (.getfield 9, 3) := by decide +kernel
theorem dX5_readLetters_40 : decode cX5_readLetters 40 = .ok (.aload_n 0, 1) := by decide +kernel
theorem dX5_readLetters_41 : decode cX5_readLetters 41 = .ok (.getfield 28, 3) := by decide +kernel
theorem dX5_readLetters_44 : decode cX5_readLetters 44 = .ok (.baload, 1) := by decide +kernel
theorem dX5_readLetters_45 : decode cX5_readLetters 45 = .ok (.bipush 97, 2) := by decide +kernel
theorem dX5_readLetters_47 : decode cX5_readLetters 47 = .ok (.isub, 1) := by decide +kernel
theorem dX5_readLetters_48 : decode cX5_readLetters 48 = .ok (.iconst 1, 1) := by decide +kernel
theorem dX5_readLetters_49 : decode cX5_readLetters 49 = .ok (.iadd, 1) := by decide +kernel
theorem dX5_readLetters_50 : decode cX5_readLetters 50 = .ok (.i2l, 1) := by decide +kernel
theorem dX5_readLetters_51 : decode cX5_readLetters 51 = .ok (.ladd, 1) := by decide +kernel
theorem dX5_readLetters_52 : decode cX5_readLetters 52 = .ok (.putfield 81, 3) := by decide +kernel
theorem dX5_readLetters_55 : decode cX5_readLetters 55 = .ok (.aload_n 0, 1) := by decide +kernel
theorem dX5_readLetters_56 : decode cX5_readLetters 56 = .ok (.dup, 1) := by decide +kernel
theorem dX5_readLetters_57 : decode cX5_readLetters 57 = .ok (.getfield 28, 3) := by decide +kernel
theorem dX5_readLetters_60 : decode cX5_readLetters 60 = .ok (.iconst 1, 1) := by decide +kernel
theorem dX5_readLetters_61 : decode cX5_readLetters 61 = .ok (.iadd, 1) := by decide +kernel
theorem dX5_readLetters_62 : decode cX5_readLetters 62 = .ok (.putfield 28, 3) := by decide +kernel
theorem dX5_readLetters_65 : decode cX5_readLetters 65 = .ok (.goto (-60), 3) := by decide +kernel
theorem dX5_readLetters_68 : decode cX5_readLetters 68 = .ok (.aload_n 0, 1) := by decide +kernel
theorem dX5_readLetters_69 : decode cX5_readLetters 69 = .ok (.aload_n 0, 1) := by decide +kernel
theorem dX5_readLetters_70 : decode cX5_readLetters 70 = .ok (.getfield 28, 3) := by decide +kernel
theorem dX5_readLetters_73 : decode cX5_readLetters 73 = .ok (.aload_n 0, 1) := by decide +kernel
theorem dX5_readLetters_74 : decode cX5_readLetters 74 = .ok (.getfield 43, 3) := by decide +kernel
theorem dX5_readLetters_77 : decode cX5_readLetters 77 = .ok (.isub, 1) := by decide +kernel
theorem dX5_readLetters_78 : decode cX5_readLetters 78 = .ok (.bipush 8, 2) := by decide +kernel
theorem dX5_readLetters_80 : decode cX5_readLetters 80 = .ok (.if_icmp .gt 7, 3) := by decide +kernel
theorem dX5_readLetters_83 : decode cX5_readLetters 83 = .ok (.iconst 5, 1) := by decide +kernel
theorem dX5_readLetters_84 : decode cX5_readLetters 84 = .ok (.goto 4, 3) := by decide +kernel
theorem dX5_readLetters_87 : decode cX5_readLetters 87 = .ok (.iconst 1, 1) := by decide +kernel
theorem dX5_readLetters_88 : decode cX5_readLetters 88 = .ok (.putfield 37, 3) := by decide +kernel
theorem dX5_readLetters_91 : decode cX5_readLetters 91 = .ok (.return_, 1) := by decide +kernel
theorem dX5_readDigits_0 : decode cX5_readDigits 0 = .ok (.iconst 0, 1) := by decide +kernel
theorem dX5_readDigits_1 : decode cX5_readDigits 1 = .ok (.istore_n 1, 1) := by decide +kernel
theorem dX5_readDigits_2 : decode cX5_readDigits 2 = .ok (.aload_n 0, 1) := by decide +kernel
theorem dX5_readDigits_3 : decode cX5_readDigits 3 = .ok (.getfield 28, 3) := by decide +kernel
theorem dX5_readDigits_6 : decode cX5_readDigits 6 = .ok (.aload_n 0, 1) := by decide +kernel
theorem dX5_readDigits_7 : decode cX5_readDigits 7 = .ok (.getfield 25, 3) := by decide +kernel
theorem dX5_readDigits_10 : decode cX5_readDigits 10 = .ok (.if_icmp .ge 45, 3) := by decide +kernel
theorem dX5_readDigits_13 : decode cX5_readDigits 13 = .ok (.aload_n 0, 1) := by decide +kernel
theorem dX5_readDigits_14 : decode cX5_readDigits 14 = .ok (.aload_n 0, 1) := by decide +kernel
theorem dX5_readDigits_15 : decode cX5_readDigits 15 = .ok (.getfield 28, 3) := by decide +kernel
theorem dX5_readDigits_18 : decode cX5_readDigits 18 = .ok (.invokevirtual 67, 3) := by decide +kernel
theorem dX5_readDigits_21 : decode cX5_readDigits 21 = .ok (.ifCond .eq 34, 3) := by decide +kernel
theorem dX5_readDigits_24 : decode cX5_readDigits 24 = .ok (.iload_n 1, 1) := by decide +kernel
theorem dX5_readDigits_25 : decode cX5_readDigits 25 = .ok (.bipush 10, 2) := by decide +kernel
theorem dX5_readDigits_27 : decode cX5_readDigits 27 = .ok (.imul, 1) := by decide +kernel
theorem dX5_readDigits_28 : decode cX5_readDigits 28 = .ok (.aload_n 0, 1) := by decide +kernel
theorem dX5_readDigits_29 : decode cX5_readDigits 29 = .ok (.getfield 9, 3) := by decide +kernel
theorem dX5_readDigits_32 : decode cX5_readDigits 32 = .ok (.aload_n 0, 1) := by decide +kernel
theorem dX5_readDigits_33 : decode cX5_readDigits 33 = .ok (.getfield 28, 3) := by decide +kernel
theorem dX5_readDigits_36 : decode cX5_readDigits 36 = .ok (.baload, 1) := by decide +kernel
theorem dX5_readDigits_37 : decode cX5_readDigits 37 = .ok (.bipush 48, 2) := by decide +kernel
theorem dX5_readDigits_39 : decode cX5_readDigits 39 = .ok (.isub, 1) := by decide +kernel
theorem dX5_readDigits_40 : decode cX5_readDigits 40 = .ok (.iadd, 1) := by decide +kernel
theorem dX5_readDigits_41 : decode cX5_readDigits 41 = .ok (.istore_n 1, 1) := by decide +kernel
theorem dX5_readDigits_42 : decode cX5_readDigits 42 = .ok (.aload_n 0, 1) := by decide +kernel
theorem dX5_readDigits_43 : decode cX5_readDigits 43 = .ok (.dup, 1) := by decide +kernel
theorem dX5_readDigits_44 : decode cX5_readDigits 44 = .ok (.getfield 28, 3) := by decide +kernel
theorem dX5_readDigits_47 : decode cX5_readDigits 47 = .ok (.iconst 1, 1) := by decide +kernel
theorem dX5_readDigits_48 : decode cX5_readDigits 48 = .ok (.iadd, 1) := by decide +kernel
theorem dX5_readDigits_49 : decode cX5_readDigits 49 = .ok (.putfield 28, 3) := by decide +kernel
theorem dX5_readDigits_52 : decode cX5_readDigits 52 = .ok (.goto (-50), 3) := by decide +kernel
theorem dX5_readDigits_55 : decode cX5_readDigits 55 = .ok (.aload_n 0, 1) := by decide +kernel
theorem dX5_readDigits_56 : decode cX5_readDigits 56 = .ok (.getfield 28, 3) := by decide +kernel
theorem dX5_readDigits_59 : decode cX5_readDigits 59 = .ok (.aload_n 0, 1) := by decide +kernel
theorem dX5_readDigits_60 : decode cX5_readDigits 60 = .ok (.getfield 43, 3) := by decide +kernel
theorem dX5_readDigits_63 : decode cX5_readDigits 63 = .ok (.isub, 1) := by decide +kernel
theorem dX5_readDigits_64 : decode cX5_readDigits 64 = .ok (.iconst 4, 1) := by decide +kernel
theorem dX5_readDigits_65 : decode cX5_readDigits 65 = .ok (.if_icmp .gt 29, 3) := by decide +kernel
theorem dX5_readDigits_68 : decode cX5_readDigits 68 = .ok (.aload_n 0, 1) := by decide +kernel
theorem dX5_readDigits_69 : decode cX5_readDigits 69 = .ok (.getfield 28, 3) := by decide +kernel
theorem dX5_readDigits_72 : decode cX5_readDigits 72 = .ok (.aload_n 0, 1) := by decide +kernel
theorem dX5_readDigits_73 : decode cX5_readDigits 73 = .ok (.getfield 25, 3) := by decide +kernel
theorem dX5_readDigits_76 : decode cX5_readDigits 76 = .ok (.if_icmp .ge 14, 3) := by decide +kernel
theorem dX5_readDigits_79 : decode cX5_readDigits 79 = .ok (.aload_n 0, 1) := by decide +kernel
theorem dX5_readDigits_80 : decode cX5_readDigits 80 = .ok (.aload_n 0, 1) := by decide +kernel
theorem dX5_readDigits_81 : decode cX5_readDigits 81 = .ok (.getfield 28, 3) := by decide +kernel
theorem dX5_readDigits_84 : decode cX5_readDigits 84 = .ok (.invokevirtual 57, 3) := by decide +kernel
theorem dX5_readDigits_87 : decode cX5_readDigits 87 = .ok (.ifCond .ne 7, 3) := by decide +kernel
theorem dX5_readDigits_90 : decode cX5_readDigits 90 = .ok (.iconst 1, 1) := by decide +kernel
theorem dX5_readDigits_91 : decode cX5_readDigits 91 = .ok (.goto 4, 3) := by decide +kernel
theorem dX5_readDigits_94 : decode cX5_readDigits 94 = .ok (.iconst 0, 1) := by decide +kernel
theorem dX5_readDigits_95 : decode cX5_readDigits 95 = .ok (.istore_n 2, 1) := by decide +kernel
theorem dX5_readDigits_96 : decode cX5_readDigits 96 = .ok (.aload_n 0, 1) := by decide +kernel
theorem dX5_readDigits_97 : decode cX5_readDigits 97 = .ok (.iload_n 2, 1) := by decide +kernel
theorem dX5_readDigits_98 : decode cX5_readDigits 98 = .ok (.ifCond .eq 7, 3) := by decide +kernel
theorem dX5_readDigits_101 : decode cX5_readDigits 101 = .ok (.iconst 2, 1) := by decide +kernel
theorem dX5_readDigits_102 : decode cX5_readDigits 102 = .ok (.goto 4, 3) := by decide +kernel
theorem dX5_readDigits_105 : decode cX5_readDigits 105 = .ok (.iconst 1, 1) := by decide +kernel
theorem dX5_readDigits_106 : decode cX5_readDigits 106 = .ok (.putfield 37, 3) := by decide +kernel
theorem dX5_readDigits_109 : decode cX5_readDigits 109 = .ok (.aload_n 0, 1) := by decide +kernel
theorem dX5_readDigits_110 : decode cX5_readDigits 110 = .ok (.iload_n 1, 1) := by decide +kernel
theorem dX5_readDigits_111 : decode cX5_readDigits 111 = .ok (.putfield 40, 3) := by decide +kernel
theorem dX5_readDigits_114 : decode cX5_readDigits 114 = .ok (.return_, 1) := by decide +kernel
theorem dX5_keyFrom_0 : decode cX5_keyFrom 0 = .ok (.iload_n 2, 1) := by decide +kernel
theorem dX5_keyFrom_1 : decode cX5_keyFrom 1 = .ok (.iload_n 1, 1) := by decide +kernel
theorem dX5_keyFrom_2 : decode cX5_keyFrom 2 = .ok (.isub, 1) := by decide +kernel
theorem dX5_keyFrom_3 : decode cX5_keyFrom 3 = .ok (.iconst 5, 1) := by decide +kernel
theorem dX5_keyFrom_4 : decode cX5_keyFrom 4 = .ok (.if_icmp .le 5, 3) := by decide +kernel
theorem dX5_keyFrom_7 : decode cX5_keyFrom 7 = .ok (.iconst (-1), 1) := by decide +kernel
theorem dX5_keyFrom_8 : decode cX5_keyFrom 8 = .ok (.ireturn, 1) := by decide +kernel
theorem dX5_keyFrom_9 : decode cX5_keyFrom 9 = .ok (.iconst 0, 1) := by decide +kernel
theorem dX5_keyFrom_10 : decode cX5_keyFrom 10 = .ok (.istore_n 3, 1) := by decide +kernel
theorem dX5_keyFrom_11 : decode cX5_keyFrom 11 = .ok (.iload_n 3, 1) := by decide +kernel
theorem dX5_keyFrom_12 : decode cX5_keyFrom 12 = .ok (.iconst 1, 1) := by decide +kernel
theorem dX5_keyFrom_13 : decode cX5_keyFrom 13 = .ok (.iadd, 1) := by decide +kernel
theorem dX5_keyFrom_14 : decode cX5_keyFrom 14 = .ok (.iconst 5, 1) := by decide +kernel
theorem dX5_keyFrom_15 : decode cX5_keyFrom 15 = .ok (.imul, 1) := by decide +kernel
theorem dX5_keyFrom_16 : decode cX5_keyFrom 16 = .ok (.ldc 87, 2) := by decide +kernel
theorem dX5_keyFrom_18 : decode cX5_keyFrom 18 = .ok (.invokevirtual 89, 3) := by decide +kernel
theorem dX5_keyFrom_21 : decode cX5_keyFrom 21 = .ok (.if_icmp .gt 69, 3) := by decide +kernel
theorem dX5_keyFrom_24 : decode cX5_keyFrom 24 = .ok (.iconst 0, 1) := by decide +kernel
theorem dX5_keyFrom_25 : decode cX5_keyFrom 25 = .ok (.istore 4, 2) := by decide +kernel
theorem dX5_keyFrom_27 : decode cX5_keyFrom 27 = .ok (.iload 4, 2) := by decide +kernel
theorem dX5_keyFrom_29 : decode cX5_keyFrom 29 = .ok (.iconst 5, 1) := by decide +kernel
theorem dX5_keyFrom_30 : decode cX5_keyFrom 30 = .ok (.if_icmp .ge 46, 3) := by decide +kernel
theorem dX5_keyFrom_33 : decode cX5_keyFrom 33 = .ok (.ldc 87, 2) := by decide +kernel
theorem dX5_keyFrom_35 : decode cX5_keyFrom 35 = .ok (.iload_n 3, 1) := by decide +kernel
theorem dX5_keyFrom_36 : decode cX5_keyFrom 36 = .ok (.iconst 5, 1) := by decide +kernel
theorem dX5_keyFrom_37 : decode cX5_keyFrom 37 = .ok (.imul, 1) := by decide +kernel
theorem dX5_keyFrom_38 : decode cX5_keyFrom 38 = .ok (.iload 4, 2) := by decide +kernel
theorem dX5_keyFrom_40 : decode cX5_keyFrom 40 = .ok (.iadd, 1) := by decide +kernel
theorem dX5_keyFrom_41 : decode cX5_keyFrom 41 = .ok (.invokevirtual 92, 3) := by decide +kernel
theorem dX5_keyFrom_44 : decode cX5_keyFrom 44 = .ok (.iload_n 1, 1) := by decide +kernel
theorem dX5_keyFrom_45 : decode cX5_keyFrom 45 = .ok (.iload 4, 2) := by decide +kernel
theorem dX5_keyFrom_47 : decode cX5_keyFrom 47 = .ok (.iadd, 1) := by decide +kernel
theorem dX5_keyFrom_48 : decode cX5_keyFrom 48 = .ok (.iload_n 2, 1) := by decide +kernel
theorem dX5_keyFrom_49 : decode cX5_keyFrom 49 = .ok (.if_icmp .ge 16, 3) := by decide +kernel
theorem dX5_keyFrom_52 : decode cX5_keyFrom 52 = .ok (.aload_n 0, 1) := by decide +kernel
theorem dX5_keyFrom_53 : decode cX5_keyFrom 53 = .ok (.getfield 9, 3) := by decide +kernel
theorem dX5_keyFrom_56 : decode cX5_keyFrom 56 = .ok (.iload_n 1, 1) := by decide +kernel
theorem dX5_keyFrom_57 : decode cX5_keyFrom 57 = .ok (.iload 4, 2) := by decide +kernel
theorem dX5_keyFrom_59 : decode cX5_keyFrom 59 = .ok (.iadd, 1) := by decide +kernel
theorem dX5_keyFrom_60 : decode cX5_keyFrom 60 = .ok (.baload, 1) := by decide +kernel
theorem dX5_keyFrom_61 : decode cX5_keyFrom 61 = .ok (.i2c, 1) := by decide +kernel
theorem dX5_keyFrom_62 : decode cX5_keyFrom 62 = .ok (.goto 5, 3) := by decide +kernel
theorem dX5_keyFrom_65 : decode cX5_keyFrom 65 = .ok (.bipush 32, 2) := by decide +kernel
theorem dX5_keyFrom_67 : decode cX5_keyFrom 67 = .ok (.if_icmp .ne 9, 3) := by decide +kernel
theorem dX5_keyFrom_70 : decode cX5_keyFrom 70 = .ok (.iinc 4 1, 3) := by decide +kernel
theorem dX5_keyFrom_73 : decode cX5_keyFrom 73 = .ok (.goto (-46), 3) := by decide +kernel
theorem dX5_keyFrom_76 : decode cX5_keyFrom 76 = .ok (.iload 4, 2) := by decide +kernel
theorem dX5_keyFrom_78 : decode cX5_keyFrom 78 = .ok (.iconst 5, 1) := by decide +kernel
theorem dX5_keyFrom_79 : decode cX5_keyFrom 79 = .ok (.if_icmp .ne 5, 3) := by decide +kernel
theorem dX5_keyFrom_82 : decode cX5_keyFrom 82 = .ok (.iload_n 3, 1) := by decide +kernel
theorem dX5_keyFrom_83 : decode cX5_keyFrom 83 = .ok (.ireturn, 1) := by decide +kernel
theorem dX5_keyFrom_84 : decode cX5_keyFrom 84 = .ok (.iinc 3 1, 3) := by decide +kernel
theorem dX5_keyFrom_87 : decode cX5_keyFrom 87 = .ok (.goto (-76), 3) := by decide +kernel
theorem dX5_keyFrom_90 : decode cX5_keyFrom 90 = .ok (.iconst (-1), 1) := by decide +kernel
theorem dX5_keyFrom_91 : decode cX5_keyFrom 91 = .ok (.ireturn, 1) := by decide +kernel
theorem dX5_isLetterAt_0 : decode cX5_isLetterAt 0 = .ok (.aload_n 0, 1) := by decide +kernel
theorem dX5_isLetterAt_1 : decode cX5_isLetterAt 1 = .ok (.getfield 9, 3) := by decide +kernel
theorem dX5_isLetterAt_4 : decode cX5_isLetterAt 4 = .ok (.iload_n 1, 1) := by decide +kernel
theorem dX5_isLetterAt_5 : decode cX5_isLetterAt 5 = .ok (.baload, 1) := by decide +kernel
theorem dX5_isLetterAt_6 : decode cX5_isLetterAt 6 = .ok (.bipush 97, 2) := by decide +kernel
theorem dX5_isLetterAt_8 : decode cX5_isLetterAt 8 = .ok (.if_icmp .lt 18, 3) := by decide +kernel
theorem dX5_isLetterAt_11 : decode cX5_isLetterAt 11 = .ok (.aload_n 0, 1) := by decide +kernel
theorem dX5_isLetterAt_12 : decode cX5_isLetterAt 12 = .ok (.getfield 9, 3) := by decide +kernel
theorem dX5_isLetterAt_15 : decode cX5_isLetterAt 15 = .ok (.iload_n 1, 1) := by decide +kernel
theorem dX5_isLetterAt_16 : decode cX5_isLetterAt 16 = .ok (.baload, 1) := by decide +kernel
theorem dX5_isLetterAt_17 : decode cX5_isLetterAt 17 = .ok (.bipush 122, 2) := by decide +kernel
theorem dX5_isLetterAt_19 : decode cX5_isLetterAt 19 = .ok (.if_icmp .gt 7, 3) := by decide +kernel
theorem dX5_isLetterAt_22 : decode cX5_isLetterAt 22 = .ok (.iconst 1, 1) := by decide +kernel
theorem dX5_isLetterAt_23 : decode cX5_isLetterAt 23 = .ok (.goto 4, 3) := by decide +kernel
theorem dX5_isLetterAt_26 : decode cX5_isLetterAt 26 = .ok (.iconst 0, 1) := by decide +kernel
theorem dX5_isLetterAt_27 : decode cX5_isLetterAt 27 = .ok (.ireturn, 1) := by decide +kernel
theorem dX5_isDigitAt_0 : decode cX5_isDigitAt 0 = .ok (.aload_n 0, 1) := by decide +kernel
theorem dX5_isDigitAt_1 : decode cX5_isDigitAt 1 = .ok (.getfield 9, 3) := by decide +kernel
theorem dX5_isDigitAt_4 : decode cX5_isDigitAt 4 = .ok (.iload_n 1, 1) := by decide +kernel
theorem dX5_isDigitAt_5 : decode cX5_isDigitAt 5 = .ok (.baload, 1) := by decide +kernel
theorem dX5_isDigitAt_6 : decode cX5_isDigitAt 6 = .ok (.bipush 48, 2) := by decide +kernel
theorem dX5_isDigitAt_8 : decode cX5_isDigitAt 8 = .ok (.if_icmp .lt 18, 3) := by decide +kernel
theorem dX5_isDigitAt_11 : decode cX5_isDigitAt 11 = .ok (.aload_n 0, 1) := by decide +kernel
theorem dX5_isDigitAt_12 : decode cX5_isDigitAt 12 = .ok (.getfield 9, 3) := by decide +kernel
theorem dX5_isDigitAt_15 : decode cX5_isDigitAt 15 = .ok (.iload_n 1, 1) := by decide +kernel
theorem dX5_isDigitAt_16 : decode cX5_isDigitAt 16 = .ok (.baload, 1) := by decide +kernel
theorem dX5_isDigitAt_17 : decode cX5_isDigitAt 17 = .ok (.bipush 57, 2) := by decide +kernel
theorem dX5_isDigitAt_19 : decode cX5_isDigitAt 19 = .ok (.if_icmp .gt 7, 3) := by decide +kernel
theorem dX5_isDigitAt_22 : decode cX5_isDigitAt 22 = .ok (.iconst 1, 1) := by decide +kernel
theorem dX5_isDigitAt_23 : decode cX5_isDigitAt 23 = .ok (.goto 4, 3) := by decide +kernel
theorem dX5_isDigitAt_26 : decode cX5_isDigitAt 26 = .ok (.iconst 0, 1) := by decide +kernel
theorem dX5_isDigitAt_27 : decode cX5_isDigitAt 27 = .ok (.ireturn, 1) := by decide +kernel
theorem dX6_init_0 : decode cX6_init 0 = .ok (.aload_n 0, 1) := by decide +kernel
theorem dX6_init_1 : decode cX6_init 1 = .ok (.invokespecial 3, 3) := by decide +kernel
theorem dX6_init_4 : decode cX6_init 4 = .ok (.aload_n 0, 1) := by decide +kernel
theorem dX6_init_5 : decode cX6_init 5 = .ok (.sipush 364, 3) := by decide +kernel
theorem dX6_init_8 : decode cX6_init 8 = .ok (.newarray .int, 2) := by decide +kernel
theorem dX6_init_10 : decode cX6_init 10 = .ok (.putfield 11, 3) := by decide +kernel
theorem dX6_init_13 : decode cX6_init 13 = .ok (.aload_n 0, 1) := by decide +kernel
theorem dX6_init_14 : decode cX6_init 14 = .ok (.sipush 1024, 3) := by decide +kernel
theorem dX6_init_17 : decode cX6_init 17 = .ok (.newarray .int, 2) := by decide +kernel
theorem dX6_init_19 : decode cX6_init 19 = .ok (.putfield 15, 3) := by decide +kernel
theorem dX6_init_22 : decode cX6_init 22 = .ok (.aload_n 0, 1) := by decide +kernel
theorem dX6_init_23 : decode cX6_init 23 = .ok (.sipush 1024, 3) := by decide +kernel
theorem dX6_init_26 : decode cX6_init 26 = .ok (.newarray .int, 2) := by decide +kernel
theorem dX6_init_28 : decode cX6_init 28 = .ok (.putfield 18, 3) := by decide +kernel
theorem dX6_init_31 : decode cX6_init 31 = .ok (.aload_n 0, 1) := by decide +kernel
theorem dX6_init_32 : decode cX6_init 32 = .ok (.sipush 1024, 3) := by decide +kernel
theorem dX6_init_35 : decode cX6_init 35 = .ok (.newarray .int, 2) := by decide +kernel
theorem dX6_init_37 : decode cX6_init 37 = .ok (.putfield 21, 3) := by decide +kernel
theorem dX6_init_40 : decode cX6_init 40 = .ok (.aload_n 0, 1) := by decide +kernel
theorem dX6_init_41 : decode cX6_init 41 = .ok (.bipush 7, 2) := by decide +kernel
theorem dX6_init_43 : decode cX6_init 43 = .ok (.newarray .int, 2) := by decide +kernel
theorem dX6_init_45 : decode cX6_init 45 = .ok (.putfield 24, 3) := by decide +kernel
theorem dX6_init_48 : decode cX6_init 48 = .ok (.aload_n 0, 1) := by decide +kernel
theorem dX6_init_49 : decode cX6_init 49 = .ok (.sipush 364, 3) := by decide +kernel
theorem dX6_init_52 : decode cX6_init 52 = .ok (.newarray .int, 2) := by decide +kernel
theorem dX6_init_54 : decode cX6_init 54 = .ok (.putfield 27, 3) := by decide +kernel
theorem dX6_init_57 : decode cX6_init 57 = .ok (.return_, 1) := by decide +kernel
theorem dX6_rowOf_0 : decode cX6_rowOf 0 = .ok (.iload_n 1, 1) := by decide +kernel
theorem dX6_rowOf_1 : decode cX6_rowOf 1 = .ok (.ifCond .lt 19, 3) := by decide +kernel
theorem dX6_rowOf_4 : decode cX6_rowOf 4 = .ok (.iload_n 1, 1) := by decide +kernel
theorem dX6_rowOf_5 : decode cX6_rowOf 5 = .ok (.iconst 3, 1) := by decide +kernel
theorem dX6_rowOf_6 : decode cX6_rowOf 6 = .ok (.if_icmp .gt 14, 3) := by decide +kernel
theorem dX6_rowOf_9 : decode cX6_rowOf 9 = .ok (.iload_n 2, 1) := by decide +kernel
theorem dX6_rowOf_10 : decode cX6_rowOf 10 = .ok (.ifCond .lt 10, 3) := by decide +kernel
theorem dX6_rowOf_13 : decode cX6_rowOf 13 = .ok (.iload_n 2, 1) := by decide +kernel
theorem dX6_rowOf_14 : decode cX6_rowOf 14 = .ok (.sipush 9999, 3) := by decide +kernel
theorem dX6_rowOf_17 : decode cX6_rowOf 17 = .ok (.if_icmp .le 5, 3) := by decide +kernel
theorem dX6_rowOf_20 : decode cX6_rowOf 20 = .ok (.iconst (-1), 1) := by decide +kernel
theorem dX6_rowOf_21 : decode cX6_rowOf 21 = .ok (.ireturn, 1) := by decide +kernel
theorem dX6_rowOf_22 : decode cX6_rowOf 22 = .ok (.iconst 0, 1) := by decide +kernel
theorem dX6_rowOf_23 : decode cX6_rowOf 23 = .ok (.istore_n 3, 1) := by decide +kernel
theorem dX6_rowOf_24 : decode cX6_rowOf 24 = .ok (.iconst 0, 1) := by decide +kernel
theorem dX6_rowOf_25 : decode cX6_rowOf 25 = .ok (.istore 4, 2) := by decide +kernel
theorem dX6_rowOf_27 : decode cX6_rowOf 27 = .ok (.sipush 1000, 3) := by decide +kernel
theorem dX6_rowOf_30 : decode cX6_rowOf 30 = .ok (.istore 5, 2) := by decide +kernel
theorem dX6_rowOf_32 : decode cX6_rowOf 32 = .ok (.iload 5, 2) := by decide +kernel
theorem dX6_rowOf_34 : decode cX6_rowOf 34 = .ok (.iconst 1, 1) := by decide +kernel
theorem dX6_rowOf_35 : decode cX6_rowOf 35 = .ok (.if_icmp .lt 65, 3) := by decide +kernel
theorem dX6_rowOf_38 : decode cX6_rowOf 38 = .ok (.iload_n 2, 1) := by decide +kernel
theorem dX6_rowOf_39 : decode cX6_rowOf 39 = .ok (.iload 5, 2) := by decide +kernel
theorem dX6_rowOf_41 : decode cX6_rowOf 41 = .ok (.idiv, 1) := by decide +kernel
theorem dX6_rowOf_42 : decode cX6_rowOf 42 = .ok (.bipush 10, 2) := by decide +kernel
theorem dX6_rowOf_44 : decode cX6_rowOf 44 = .ok (.irem, 1) := by decide +kernel
theorem dX6_rowOf_45 : decode cX6_rowOf 45 = .ok (.istore 6, 2) := by decide +kernel
theorem dX6_rowOf_47 : decode cX6_rowOf 47 = .ok (.iload 4, 2) := by decide +kernel
theorem dX6_rowOf_49 : decode cX6_rowOf 49 = .ok (.ifCond .ne 8, 3) := by decide +kernel
theorem dX6_rowOf_52 : decode cX6_rowOf 52 = .ok (.iload 6, 2) := by decide +kernel
theorem dX6_rowOf_54 : decode cX6_rowOf 54 = .ok (.ifCond .eq 7, 3) := by decide +kernel
theorem dX6_rowOf_57 : decode cX6_rowOf 57 = .ok (.iconst 1, 1) := by decide +kernel
theorem dX6_rowOf_58 : decode cX6_rowOf 58 = .ok (.goto 4, 3) := by decide +kernel
theorem dX6_rowOf_61 : decode cX6_rowOf 61 = .ok (.iconst 0, 1) := by decide +kernel
theorem dX6_rowOf_62 : decode cX6_rowOf 62 = .ok (.istore 4, 2) := by decide +kernel
theorem dX6_rowOf_64 : decode cX6_rowOf 64 = .ok (.iload 4, 2) := by decide +kernel
theorem dX6_rowOf_66 : decode cX6_rowOf 66 = .ok (.ifCond .eq 17, 3) := by decide +kernel
theorem dX6_rowOf_69 : decode cX6_rowOf 69 = .ok (.iload 6, 2) := by decide +kernel
theorem dX6_rowOf_71 : decode cX6_rowOf 71 = .ok (.iconst 1, 1) := by decide +kernel
theorem dX6_rowOf_72 : decode cX6_rowOf 72 = .ok (.if_icmp .lt 9, 3) := by decide +kernel
theorem dX6_rowOf_75 : decode cX6_rowOf 75 = .ok (.iload 6, 2) := by decide +kernel
theorem dX6_rowOf_77 : decode cX6_rowOf 77 = .ok (.iload_n 1, 1) := by decide +kernel
theorem dX6_rowOf_78 : decode cX6_rowOf 78 = .ok (.if_icmp .le 5, 3) := by decide +kernel
theorem dX6_rowOf_81 : decode cX6_rowOf 81 = .ok (.iconst (-1), 1) := by decide +kernel
theorem dX6_rowOf_82 : decode cX6_rowOf 82 = .ok (.ireturn, 1) := by decide +kernel
theorem dX6_rowOf_83 : decode cX6_rowOf 83 = .ok (.iload_n 3, 1) := by decide +kernel
theorem dX6_rowOf_84 : decode cX6_rowOf 84 = .ok (.iconst 4, 1) := by decide +kernel
theorem dX6_rowOf_85 : decode cX6_rowOf 85 = .ok (.imul, 1) := by decide +kernel
theorem dX6_rowOf_86 : decode cX6_rowOf 86 = .ok (.iload 6, 2) := by decide +kernel
theorem dX6_rowOf_88 : decode cX6_rowOf 88 = .ok (.iadd, 1) := by decide +kernel
theorem dX6_rowOf_89 : decode cX6_rowOf 89 = .ok (.istore_n 3, 1) := by decide +kernel
theorem dX6_rowOf_90 : decode cX6_rowOf 90 = .ok (.iload 5, 2) := by decide +kernel
theorem dX6_rowOf_92 : decode cX6_rowOf 92 = .ok (.bipush 10, 2) := by decide +kernel
theorem dX6_rowOf_94 : decode cX6_rowOf 94 = .ok (.idiv, 1) := by decide +kernel
theorem dX6_rowOf_95 : decode cX6_rowOf 95 = .ok (.istore 5, 2) := by decide +kernel
theorem dX6_rowOf_97 : decode cX6_rowOf 97 = .ok (.goto (-65), 3) := by decide +kernel
theorem dX6_rowOf_100 : decode cX6_rowOf 100 = .ok (.iload_n 3, 1) := by decide +kernel
theorem dX6_rowOf_101 : decode cX6_rowOf 101 = .ok (.ireturn, 1) := by decide +kernel
theorem dX6_digitsOf_0 : decode cX6_digitsOf 0 = .ok (.iconst 0, 1) := by decide +kernel
theorem dX6_digitsOf_1 : decode cX6_digitsOf 1 = .ok (.istore_n 1, 1) := by decide +kernel
theorem dX6_digitsOf_2 : decode cX6_digitsOf 2 = .ok (.bipush 8, 2) := by decide +kernel
theorem dX6_digitsOf_4 : decode cX6_digitsOf 4 = .ok (.istore_n 2, 1) := by decide +kernel
theorem dX6_digitsOf_5 : decode cX6_digitsOf 5 = .ok (.iload_n 2, 1) := by decide +kernel
theorem dX6_digitsOf_6 : decode cX6_digitsOf 6 = .ok (.ifCond .lt 20, 3) := by decide +kernel
theorem dX6_digitsOf_9 : decode cX6_digitsOf 9 = .ok (.iload_n 1, 1) := by decide +kernel
theorem dX6_digitsOf_10 : decode cX6_digitsOf 10 = .ok (.bipush 10, 2) := by decide +kernel
theorem dX6_digitsOf_12 : decode cX6_digitsOf 12 = .ok (.imul, 1) := by decide +kernel
theorem dX6_digitsOf_13 : decode cX6_digitsOf 13 = .ok (.iload_n 0, 1) := by decide +kernel
theorem dX6_digitsOf_14 : decode cX6_digitsOf 14 = .ok (.iload_n 2, 1) := by decide +kernel
theorem dX6_digitsOf_15 : decode cX6_digitsOf 15 = .ok (.ishr, 1) := by decide +kernel
theorem dX6_digitsOf_16 : decode cX6_digitsOf 16 = .ok (.iconst 3, 1) := by decide +kernel
theorem dX6_digitsOf_17 : decode cX6_digitsOf 17 = .ok (.iand, 1) := by decide +kernel
theorem dX6_digitsOf_18 : decode cX6_digitsOf 18 = .ok (.iadd, 1) := by decide +kernel
theorem dX6_digitsOf_19 : decode cX6_digitsOf 19 = .ok (.istore_n 1, 1) := by decide +kernel
theorem dX6_digitsOf_20 : decode cX6_digitsOf 20 = .ok (.iinc 2 (-2), 3) := by decide +kernel
theorem dX6_digitsOf_23 : decode cX6_digitsOf 23 = .ok (.goto (-18), 3) := by decide +kernel
theorem dX6_digitsOf_26 : decode cX6_digitsOf 26 = .ok (.iload_n 1, 1) := by decide +kernel
theorem dX6_digitsOf_27 : decode cX6_digitsOf 27 = .ok (.ireturn, 1) := by decide +kernel
theorem dX6_firstRow_0 : decode cX6_firstRow 0 = .ok (.iconst 0, 1) := by decide +kernel
theorem dX6_firstRow_1 : decode cX6_firstRow 1 = .ok (.istore_n 1, 1) := by decide +kernel
theorem dX6_firstRow_2 : decode cX6_firstRow 2 = .ok (.iconst 1, 1) := by decide +kernel
theorem dX6_firstRow_3 : decode cX6_firstRow 3 = .ok (.istore_n 2, 1) := by decide +kernel
theorem dX6_firstRow_4 : decode cX6_firstRow 4 = .ok (.iload_n 2, 1) := by decide +kernel
theorem dX6_firstRow_5 : decode cX6_firstRow 5 = .ok (.iload_n 0, 1) := by decide +kernel
theorem dX6_firstRow_6 : decode cX6_firstRow 6 = .ok (.if_icmp .gt 15, 3) := by decide +kernel
theorem dX6_firstRow_9 : decode cX6_firstRow 9 = .ok (.iload_n 1, 1) := by decide +kernel
theorem dX6_firstRow_10 : decode cX6_firstRow 10 = .ok (.iconst 4, 1) := by decide +kernel
theorem dX6_firstRow_11 : decode cX6_firstRow 11 = .ok (.imul, 1) := by decide +kernel
theorem dX6_firstRow_12 : decode cX6_firstRow 12 = .ok (.iload_n 2, 1) := by decide +kernel
theorem dX6_firstRow_13 : decode cX6_firstRow 13 = .ok (.iadd, 1) := by decide +kernel
theorem dX6_firstRow_14 : decode cX6_firstRow 14 = .ok (.istore_n 1, 1) := by decide +kernel
theorem dX6_firstRow_15 : decode cX6_firstRow 15 = .ok (.iinc 2 1, 3) := by decide +kernel
theorem dX6_firstRow_18 : decode cX6_firstRow 18 = .ok (.goto (-14), 3) := by decide +kernel
theorem dX6_firstRow_21 : decode cX6_firstRow 21 = .ok (.iload_n 1, 1) := by decide +kernel
theorem dX6_firstRow_22 : decode cX6_firstRow 22 = .ok (.ireturn, 1) := by decide +kernel
theorem dX6_shuffle_0 : decode cX6_shuffle 0 = .ok (.iload_n 0, 1) := by decide +kernel
theorem dX6_shuffle_1 : decode cX6_shuffle 1 = .ok (.iload_n 1, 1) := by decide +kernel
theorem dX6_shuffle_2 : decode cX6_shuffle 2 = .ok (.invokestatic 30, 3) := by decide +kernel
theorem dX6_shuffle_5 : decode cX6_shuffle 5 = .ok (.if_icmp .lt 23, 3) := by decide +kernel
theorem dX6_shuffle_8 : decode cX6_shuffle 8 = .ok (.getstatic 34, 3) := by decide +kernel
theorem dX6_shuffle_11 : decode cX6_shuffle 11 = .ok (.iload_n 1, 1) := by decide +kernel
theorem dX6_shuffle_12 : decode cX6_shuffle 12 = .ok (.iaload, 1) := by decide +kernel
theorem dX6_shuffle_13 : decode cX6_shuffle 13 = .ok (.getstatic 37, 3) := by decide +kernel
theorem dX6_shuffle_16 : decode cX6_shuffle 16 = .ok (.iload_n 1, 1) := by decide +kernel
theorem dX6_shuffle_17 : decode cX6_shuffle 17 = .ok (.iaload, 1) := by decide +kernel
theorem dX6_shuffle_18 : decode cX6_shuffle 18 = .ok (.if_icmp .le 12, 3) := by decide +kernel
theorem dX6_shuffle_21 : decode cX6_shuffle 21 = .ok (.iload_n 0, 1) := by decide +kernel
theorem dX6_shuffle_22 : decode cX6_shuffle 22 = .ok (.sipush 255, 3) := by decide +kernel
theorem dX6_shuffle_25 : decode cX6_shuffle 25 = .ok (.if_icmp .le 5, 3) := by decide +kernel
theorem dX6_shuffle_28 : decode cX6_shuffle 28 = .ok (.iconst (-1), 1) := by decide +kernel
theorem dX6_shuffle_29 : decode cX6_shuffle 29 = .ok (.ireturn, 1) := by decide +kernel
theorem dX6_shuffle_30 : decode cX6_shuffle 30 = .ok (.iload_n 0, 1) := by decide +kernel
theorem dX6_shuffle_31 : decode cX6_shuffle 31 = .ok (.iconst 3, 1) := by decide +kernel
theorem dX6_shuffle_32 : decode cX6_shuffle 32 = .ok (.iand, 1) := by decide +kernel
theorem dX6_shuffle_33 : decode cX6_shuffle 33 = .ok (.istore_n 2, 1) := by decide +kernel
theorem dX6_shuffle_34 : decode cX6_shuffle 34 = .ok (.iload_n 0, 1) := by decide +kernel
theorem dX6_shuffle_35 : decode cX6_shuffle 35 = .ok (.iconst 2, 1) := by decide +kernel
theorem dX6_shuffle_36 : decode cX6_shuffle 36 = .ok (.ishr, 1) := by decide +kernel
theorem dX6_shuffle_37 : decode cX6_shuffle 37 = .ok (.iconst 3, 1) := by decide +kernel
theorem dX6_shuffle_38 : decode cX6_shuffle 38 = .ok (.iand, 1) := by decide +kernel
theorem dX6_shuffle_39 : decode cX6_shuffle 39 = .ok (.istore_n 3, 1) := by decide +kernel
theorem dX6_shuffle_40 : decode cX6_shuffle 40 = .ok (.iload_n 0, 1) := by decide +kernel
theorem dX6_shuffle_41 : decode cX6_shuffle 41 = .ok (.iconst 4, 1) := by decide +kernel
theorem dX6_shuffle_42 : decode cX6_shuffle 42 = .ok (.ishr, 1) := by decide +kernel
theorem dX6_shuffle_43 : decode cX6_shuffle 43 = .ok (.iconst 3, 1) := by decide +kernel
theorem dX6_shuffle_44 : decode cX6_shuffle 44 = .ok (.iand, 1) := by decide +kernel
theorem dX6_shuffle_45 : decode cX6_shuffle 45 = .ok (.istore 4, 2) := by decide +kernel
theorem dX6_shuffle_47 : decode cX6_shuffle 47 = .ok (.iload_n 1, 1) := by decide +kernel
theorem dX6_shuffle_48 : decode cX6_shuffle 48 = .ok (.tableswitch 116 0 6 #[44, 50, 54, 66, 72, 91, 99], 44) := by decide +kernel
theorem dX6_shuffle_92 : decode cX6_shuffle 92 = .ok (.iload_n 0, 1) := by decide +kernel
theorem dX6_shuffle_93 : decode cX6_shuffle 93 = .ok (.iconst 2, 1) := by decide +kernel
theorem dX6_shuffle_94 : decode cX6_shuffle 94 = .ok (.ishl, 1) := by decide +kernel
theorem dX6_shuffle_95 : decode cX6_shuffle 95 = .ok (.iload_n 2, 1) := by decide +kernel
theorem dX6_shuffle_96 : decode cX6_shuffle 96 = .ok (.ior, 1) := by decide +kernel
theorem dX6_shuffle_97 : decode cX6_shuffle 97 = .ok (.ireturn, 1) := by decide +kernel
theorem dX6_shuffle_98 : decode cX6_shuffle 98 = .ok (.iload_n 0, 1) := by decide +kernel
theorem dX6_shuffle_99 : decode cX6_shuffle 99 = .ok (.iconst 2, 1) := by decide +kernel
theorem dX6_shuffle_100 : decode cX6_shuffle 100 = .ok (.ishr, 1) := by decide +kernel
theorem dX6_shuffle_101 : decode cX6_shuffle 101 = .ok (.ireturn, 1) := by decide +kernel
theorem dX6_shuffle_102 : decode cX6_shuffle 102 = .ok (.iload_n 0, 1) := by decide +kernel
theorem dX6_shuffle_103 : decode cX6_shuffle 103 = .ok (.iconst 4, 1) := by decide +kernel
theorem dX6_shuffle_104 : decode cX6_shuffle 104 = .ok (.ishr, 1) := by decide +kernel
theorem dX6_shuffle_105 : decode cX6_shuffle 105 = .ok (.iconst 4, 1) := by decide +kernel
theorem dX6_shuffle_106 : decode cX6_shuffle 106 = .ok (.ishl, 1) := by decide +kernel
theorem dX6_shuffle_107 : decode cX6_shuffle 107 = .ok (.iload_n 2, 1) := by decide +kernel
theorem dX6_shuffle_108 : decode cX6_shuffle 108 = .ok (.iconst 2, 1) := by decide +kernel
theorem dX6_shuffle_109 : decode cX6_shuffle 109 = .ok (.ishl, 1) := by decide +kernel
theorem dX6_shuffle_110 : decode cX6_shuffle 110 = .ok (.ior, 1) := by decide +kernel
theorem dX6_shuffle_111 : decode cX6_shuffle 111 = .ok (.iload_n 3, 1) := by decide +kernel
theorem dX6_shuffle_112 : decode cX6_shuffle 112 = .ok (.ior, 1) := by decide +kernel
theorem dX6_shuffle_113 : decode cX6_shuffle 113 = .ok (.ireturn, 1) := by decide +kernel
theorem dX6_shuffle_114 : decode cX6_shuffle 114 = .ok (.iload_n 0, 1) := by decide +kernel
theorem dX6_shuffle_115 : decode cX6_shuffle 115 = .ok (.iconst 2, 1) := by decide +kernel
theorem dX6_shuffle_116 : decode cX6_shuffle 116 = .ok (.ishl, 1) := by decide +kernel
theorem dX6_shuffle_117 : decode cX6_shuffle 117 = .ok (.iload_n 3, 1) := by decide +kernel
theorem dX6_shuffle_118 : decode cX6_shuffle 118 = .ok (.ior, 1) := by decide +kernel
theorem dX6_shuffle_119 : decode cX6_shuffle 119 = .ok (.ireturn, 1) := by decide +kernel
theorem dX6_shuffle_120 : decode cX6_shuffle 120 = .ok (.iload_n 0, 1) := by decide +kernel
theorem dX6_shuffle_121 : decode cX6_shuffle 121 = .ok (.bipush 6, 2) := by decide +kernel
theorem dX6_shuffle_123 : decode cX6_shuffle 123 = .ok (.ishr, 1) := by decide +kernel
theorem dX6_shuffle_124 : decode cX6_shuffle 124 = .ok (.bipush 6, 2) := by decide +kernel
theorem dX6_shuffle_126 : decode cX6_shuffle 126 = .ok (.ishl, 1) := by decide +kernel
theorem dX6_shuffle_127 : decode cX6_shuffle 127 = .ok (.iload_n 3, 1) := by decide +kernel
theorem dX6_shuffle_128 : decode cX6_shuffle 128 = .ok (.iconst 4, 1) := by decide +kernel
theorem dX6_shuffle_129 : decode cX6_shuffle 129 = .ok (.ishl, 1) := by decide +kernel
theorem dX6_shuffle_130 : decode cX6_shuffle 130 = .ok (.ior, 1) := by decide +kernel
theorem dX6_shuffle_131 : decode cX6_shuffle 131 = .ok (.iload_n 2, 1) := by decide +kernel
theorem dX6_shuffle_132 : decode cX6_shuffle 132 = .ok (.iconst 2, 1) := by decide +kernel
theorem dX6_shuffle_133 : decode cX6_shuffle 133 = .ok (.ishl, 1) := by decide +kernel
theorem dX6_shuffle_134 : decode cX6_shuffle 134 = .ok (.ior, 1) := by decide +kernel
theorem dX6_shuffle_135 : decode cX6_shuffle 135 = .ok (.iload 4, 2) := by decide +kernel
theorem dX6_shuffle_137 : decode cX6_shuffle 137 = .ok (.ior, 1) := by decide +kernel
theorem dX6_shuffle_138 : decode cX6_shuffle 138 = .ok (.ireturn, 1) := by decide +kernel
theorem dX6_shuffle_139 : decode cX6_shuffle 139 = .ok (.iload_n 0, 1) := by decide +kernel
theorem dX6_shuffle_140 : decode cX6_shuffle 140 = .ok (.iconst 4, 1) := by decide +kernel
theorem dX6_shuffle_141 : decode cX6_shuffle 141 = .ok (.ishr, 1) := by decide +kernel
theorem dX6_shuffle_142 : decode cX6_shuffle 142 = .ok (.iconst 2, 1) := by decide +kernel
theorem dX6_shuffle_143 : decode cX6_shuffle 143 = .ok (.ishl, 1) := by decide +kernel
theorem dX6_shuffle_144 : decode cX6_shuffle 144 = .ok (.iload_n 2, 1) := by decide +kernel
theorem dX6_shuffle_145 : decode cX6_shuffle 145 = .ok (.ior, 1) := by decide +kernel
theorem dX6_shuffle_146 : decode cX6_shuffle 146 = .ok (.ireturn, 1) := by decide +kernel
theorem dX6_shuffle_147 : decode cX6_shuffle 147 = .ok (.iload_n 0, 1) := by decide +kernel
theorem dX6_shuffle_148 : decode cX6_shuffle 148 = .ok (.iconst 4, 1) := by decide +kernel
theorem dX6_shuffle_149 : decode cX6_shuffle 149 = .ok (.ishr, 1) := by decide +kernel
theorem dX6_shuffle_150 : decode cX6_shuffle 150 = .ok (.bipush 6, 2) := by decide +kernel
theorem dX6_shuffle_152 : decode cX6_shuffle 152 = .ok (.ishl, 1) := by decide +kernel
theorem dX6_shuffle_153 : decode cX6_shuffle 153 = .ok (.iload_n 2, 1) := by decide +kernel
theorem dX6_shuffle_154 : decode cX6_shuffle 154 = .ok (.iconst 4, 1) := by decide +kernel
theorem dX6_shuffle_155 : decode cX6_shuffle 155 = .ok (.ishl, 1) := by decide +kernel
theorem dX6_shuffle_156 : decode cX6_shuffle 156 = .ok (.ior, 1) := by decide +kernel
theorem dX6_shuffle_157 : decode cX6_shuffle 157 = .ok (.iload_n 3, 1) := by decide +kernel
theorem dX6_shuffle_158 : decode cX6_shuffle 158 = .ok (.iconst 2, 1) := by decide +kernel
theorem dX6_shuffle_159 : decode cX6_shuffle 159 = .ok (.ishl, 1) := by decide +kernel
theorem dX6_shuffle_160 : decode cX6_shuffle 160 = .ok (.ior, 1) := by decide +kernel
theorem dX6_shuffle_161 : decode cX6_shuffle 161 = .ok (.iload_n 2, 1) := by decide +kernel
theorem dX6_shuffle_162 : decode cX6_shuffle 162 = .ok (.ior, 1) := by decide +kernel
theorem dX6_shuffle_163 : decode cX6_shuffle 163 = .ok (.ireturn, 1) := by decide +kernel
theorem dX6_shuffle_164 : decode cX6_shuffle 164 = .ok (.iconst (-1), 1) := by decide +kernel
theorem dX6_shuffle_165 : decode cX6_shuffle 165 = .ok (.ireturn, 1) := by decide +kernel
theorem dX6_least_0 : decode cX6_least 0 = .ok (.getstatic 37, 3) := by decide +kernel
theorem dX6_least_3 : decode cX6_least 3 = .ok (.iload_n 0, 1) := by decide +kernel
theorem dX6_least_4 : decode cX6_least 4 = .ok (.iaload, 1) := by decide +kernel
theorem dX6_least_5 : decode cX6_least 5 = .ok (.iconst 1, 1) := by decide +kernel
theorem dX6_least_6 : decode cX6_least 6 = .ok (.if_icmp .ne 7, 3) := by decide +kernel
theorem dX6_least_9 : decode cX6_least 9 = .ok (.iconst 1, 1) := by decide +kernel
theorem dX6_least_10 : decode cX6_least 10 = .ok (.goto 18, 3) := by decide +kernel
theorem dX6_least_13 : decode cX6_least 13 = .ok (.getstatic 37, 3) := by decide +kernel
theorem dX6_least_16 : decode cX6_least 16 = .ok (.iload_n 0, 1) := by decide +kernel
theorem dX6_least_17 : decode cX6_least 17 = .ok (.iaload, 1) := by decide +kernel
theorem dX6_least_18 : decode cX6_least 18 = .ok (.iconst 2, 1) := by decide +kernel
theorem dX6_least_19 : decode cX6_least 19 = .ok (.if_icmp .ne 7, 3) := by decide +kernel
theorem dX6_least_22 : decode cX6_least 22 = .ok (.iconst 4, 1) := by decide +kernel
theorem dX6_least_23 : decode cX6_least 23 = .ok (.goto 5, 3) := by decide +kernel
theorem dX6_least_26 : decode cX6_least 26 = .ok (.bipush 16, 2) := by decide +kernel
theorem dX6_least_28 : decode cX6_least 28 = .ok (.ireturn, 1) := by decide +kernel
theorem dX6_findShortest_0 : decode cX6_findShortest 0 = .ok (.aload_n 0, 1) := by decide +kernel
theorem dX6_findShortest_1 : decode cX6_findShortest 1 = .ok (.iconst 0, 1) := by decide +kernel
theorem dX6_findShortest_2 : decode cX6_findShortest 2 = .ok (.putfield 40, 3) := by decide +kernel
theorem dX6_findShortest_5 : decode cX6_findShortest 5 = .ok (.iload_n 2, 1) := by decide +kernel
theorem dX6_findShortest_6 : decode cX6_findShortest 6 = .ok (.iconst (-1), 1) := by decide +kernel
theorem dX6_findShortest_7 : decode cX6_findShortest 7 = .ok (.if_icmp .eq 12, 3) := by decide +kernel
theorem dX6_findShortest_10 : decode cX6_findShortest 10 = .ok (.aload_n 0, 1) := by decide +kernel
theorem dX6_findShortest_11 : decode cX6_findShortest 11 = .ok (.iload_n 1, 1) := by decide +kernel
theorem dX6_findShortest_12 : decode cX6_findShortest 12 = .ok (.iload_n 2, 1) := by decide +kernel
theorem dX6_findShortest_13 : decode cX6_findShortest 13 = .ok (.invokevirtual 44, 3) := by decide +kernel
theorem dX6_findShortest_16 : decode cX6_findShortest 16 = .ok (.ifCond .ne 5, 3) := by decide +kernel
theorem dX6_findShortest_19 : decode cX6_findShortest 19 = .ok (.iconst (-1), 1) := by decide +kernel
theorem dX6_findShortest_20 : decode cX6_findShortest 20 = .ok (.ireturn, 1) := by decide +kernel
theorem dX6_findShortest_21 : decode cX6_findShortest 21 = .ok (.aload_n 0, 1) := by decide +kernel
theorem dX6_findShortest_22 : decode cX6_findShortest 22 = .ok (.aload_n 0, 1) := by decide +kernel
theorem dX6_findShortest_23 : decode cX6_findShortest 23 = .ok (.iload_n 1, 1) := by decide +kernel
theorem dX6_findShortest_24 : decode cX6_findShortest 24 = .ok (.iload_n 2, 1) := by decide +kernel
theorem dX6_findShortest_25 : decode cX6_findShortest 25 = .ok (.invokevirtual 48, 3) := by decide +kernel
theorem dX6_findShortest_28 : decode cX6_findShortest 28 = .ok (.putfield 40, 3) := by decide +kernel
theorem dX6_findShortest_31 : decode cX6_findShortest 31 = .ok (.iload_n 2, 1) := by decide +kernel
theorem dX6_findShortest_32 : decode cX6_findShortest 32 = .ok (.istore_n 3, 1) := by decide +kernel
theorem dX6_findShortest_33 : decode cX6_findShortest 33 = .ok (.aload_n 0, 1) := by decide +kernel
theorem dX6_findShortest_34 : decode cX6_findShortest 34 = .ok (.getfield 40, 3) := by decide +kernel
theorem dX6_findShortest_37 : decode cX6_findShortest 37 = .ok (.iconst 1, 1) := by decide +kernel
theorem dX6_findShortest_38 : decode cX6_findShortest 38 = .ok (.isub, 1) := by decide +kernel
theorem dX6_findShortest_39 : decode cX6_findShortest 39 = .ok (.istore 4, 2) := by decide +kernel
theorem dX6_findShortest_41 : decode cX6_findShortest 41 = .ok (.iload 4, 2) := by decide +kernel
theorem dX6_findShortest_43 : decode cX6_findShortest 43 = .ok (.ifCond .lt 29, 3) := by decide +kernel
theorem dX6_findShortest_46 : decode cX6_findShortest 46 = .ok (.aload_n 0, 1) := by decide +kernel
theorem dX6_findShortest_47 : decode cX6_findShortest 47 = .ok (.getfield 27, 3) := by decide +kernel
theorem dX6_findShortest_50 : decode cX6_findShortest 50 = .ok (.iload 4, 2) := by decide +kernel
theorem dX6_findShortest_52 : decode cX6_findShortest 52 = .ok (.aload_n 0, 1) := by decide +kernel
theorem dX6_findShortest_53 : decode cX6_findShortest 53 = .ok (.getfield 15, 3) := by decide +kernel
theorem dX6_findShortest_56 : decode cX6_findShortest 56 = .ok (.iload_n 3, 1) := by decide +kernel
theorem dX6_findShortest_57 : decode cX6_findShortest 57 = .ok (.iaload, 1) := by decide +kernel
theorem dX6_findShortest_58 : decode cX6_findShortest 58 = .ok (.iastore, 1) := by decide +kernel
theorem dX6_findShortest_59 : decode cX6_findShortest 59 = .ok (.aload_n 0, 1) := by decide +kernel
theorem dX6_findShortest_60 : decode cX6_findShortest 60 = .ok (.getfield 18, 3) := by decide +kernel
theorem dX6_findShortest_63 : decode cX6_findShortest 63 = .ok (.iload_n 3, 1) := by decide +kernel
theorem dX6_findShortest_64 : decode cX6_findShortest 64 = .ok (.iaload, 1) := by decide +kernel
theorem dX6_findShortest_65 : decode cX6_findShortest 65 = .ok (.istore_n 3, 1) := by decide +kernel
theorem dX6_findShortest_66 : decode cX6_findShortest 66 = .ok (.iinc 4 (-1), 3) := by decide +kernel
theorem dX6_findShortest_69 : decode cX6_findShortest 69 = .ok (.goto (-28), 3) := by decide +kernel
theorem dX6_findShortest_72 : decode cX6_findShortest 72 = .ok (.aload_n 0, 1) := by decide +kernel
theorem dX6_findShortest_73 : decode cX6_findShortest 73 = .ok (.getfield 40, 3) := by decide +kernel
theorem dX6_findShortest_76 : decode cX6_findShortest 76 = .ok (.ireturn, 1) := by decide +kernel
theorem dX6_distance_0 : decode cX6_distance 0 = .ok (.iload_n 1, 1) := by decide +kernel
theorem dX6_distance_1 : decode cX6_distance 1 = .ok (.invokestatic 52, 3) := by decide +kernel
theorem dX6_distance_4 : decode cX6_distance 4 = .ok (.istore_n 3, 1) := by decide +kernel
theorem dX6_distance_5 : decode cX6_distance 5 = .ok (.iload_n 2, 1) := by decide +kernel
theorem dX6_distance_6 : decode cX6_distance 6 = .ok (.istore 4, 2) := by decide +kernel
theorem dX6_distance_8 : decode cX6_distance 8 = .ok (.iconst 0, 1) := by decide +kernel
theorem dX6_distance_9 : decode cX6_distance 9 = .ok (.istore 5, 2) := by decide +kernel
theorem dX6_distance_11 : decode cX6_distance 11 = .ok (.iload 4, 2) := by decide +kernel
theorem dX6_distance_13 : decode cX6_distance 13 = .ok (.iload_n 3, 1) := by decide +kernel
theorem dX6_distance_14 : decode cX6_distance 14 = .ok (.if_icmp .eq 26, 3) := by decide +kernel
theorem dX6_distance_17 : decode cX6_distance 17 = .ok (.iload 5, 2) := by decide +kernel
theorem dX6_distance_19 : decode cX6_distance 19 = .ok (.sipush 364, 3) := by decide +kernel
theorem dX6_distance_22 : decode cX6_distance 22 = .ok (.if_icmp .ge 18, 3) := by decide +kernel
theorem dX6_distance_25 : decode cX6_distance 25 = .ok (.aload_n 0, 1) := by decide +kernel
theorem dX6_distance_26 : decode cX6_distance 26 = .ok (.getfield 18, 3) := by decide +kernel
theorem dX6_distance_29 : decode cX6_distance 29 = .ok (.iload 4, 2) := by decide +kernel
theorem dX6_distance_31 : decode cX6_distance 31 = .ok (.iaload, 1) := by decide +kernel
theorem dX6_distance_32 : decode cX6_distance 32 = .ok (.istore 4, 2) := by decide +kernel
theorem dX6_distance_34 : decode cX6_distance 34 = .ok (.iinc 5 1, 3) := by decide +kernel
theorem dX6_distance_37 : decode cX6_distance 37 = .ok (.goto (-26), 3) := by decide +kernel
theorem dX6_distance_40 : decode cX6_distance 40 = .ok (.iload 5, 2) := by decide +kernel
theorem dX6_distance_42 : decode cX6_distance 42 = .ok (.ireturn, 1) := by decide +kernel
theorem dX6_explore_0 : decode cX6_explore 0 = .ok (.aload_n 0, 1) := by decide +kernel
theorem dX6_explore_1 : decode cX6_explore 1 = .ok (.getfield 15, 3) := by decide +kernel
theorem dX6_explore_4 : decode cX6_explore 4 = .ok (.iconst (-1), 1) := by decide +kernel
theorem dX6_explore_5 : decode cX6_explore 5 = .ok (.invokestatic 55, 3) := by decide +kernel
theorem dX6_explore_8 : decode cX6_explore 8 = .ok (.aload_n 0, 1) := by decide +kernel
theorem dX6_explore_9 : decode cX6_explore 9 = .ok (.iconst 0, 1) := by decide +kernel
theorem dX6_explore_10 : decode cX6_explore 10 = .ok (.putfield 61, 3) := by decide +kernel
theorem dX6_explore_13 : decode cX6_explore 13 = .ok (.aload_n 0, 1) := by decide +kernel
theorem dX6_explore_14 : decode cX6_explore 14 = .ok (.iload_n 1, 1) := by decide +kernel
theorem dX6_explore_15 : decode cX6_explore 15 = .ok (.invokestatic 52, 3) := by decide +kernel
theorem dX6_explore_18 : decode cX6_explore 18 = .ok (.iconst 0, 1) := by decide +kernel
theorem dX6_explore_19 : decode cX6_explore 19 = .ok (.iconst 0, 1) := by decide +kernel
theorem dX6_explore_20 : decode cX6_explore 20 = .ok (.invokevirtual 64, 3) := by decide +kernel
theorem dX6_explore_23 : decode cX6_explore 23 = .ok (.iconst 0, 1) := by decide +kernel
theorem dX6_explore_24 : decode cX6_explore 24 = .ok (.istore_n 3, 1) := by decide +kernel
theorem dX6_explore_25 : decode cX6_explore 25 = .ok (.iload_n 3, 1) := by decide +kernel
theorem dX6_explore_26 : decode cX6_explore 26 = .ok (.aload_n 0, 1) := by decide +kernel
theorem dX6_explore_27 : decode cX6_explore 27 = .ok (.getfield 61, 3) := by decide +kernel
theorem dX6_explore_30 : decode cX6_explore 30 = .ok (.if_icmp .ge 77, 3) := by decide +kernel
theorem dX6_explore_33 : decode cX6_explore 33 = .ok (.aload_n 0, 1) := by decide +kernel
theorem dX6_explore_34 : decode cX6_explore 34 = .ok (.getfield 11, 3) := by decide +kernel
theorem dX6_explore_37 : decode cX6_explore 37 = .ok (.iload_n 3, 1) := by decide +kernel
theorem dX6_explore_38 : decode cX6_explore 38 = .ok (.iaload, 1) := by decide +kernel
theorem dX6_explore_39 : decode cX6_explore 39 = .ok (.istore 4, 2) := by decide +kernel
theorem dX6_explore_41 : decode cX6_explore 41 = .ok (.iload 4, 2) := by decide +kernel
theorem dX6_explore_43 : decode cX6_explore 43 = .ok (.iload_n 2, 1) := by decide +kernel
theorem dX6_explore_44 : decode cX6_explore 44 = .ok (.if_icmp .ne 5, 3) := by decide +kernel
theorem dX6_explore_47 : decode cX6_explore 47 = .ok (.iconst 1, 1) := by decide +kernel
theorem dX6_explore_48 : decode cX6_explore 48 = .ok (.ireturn, 1) := by decide +kernel
theorem dX6_explore_49 : decode cX6_explore 49 = .ok (.iconst 0, 1) := by decide +kernel
theorem dX6_explore_50 : decode cX6_explore 50 = .ok (.istore 5, 2) := by decide +kernel
theorem dX6_explore_52 : decode cX6_explore 52 = .ok (.iload 5, 2) := by decide +kernel
theorem dX6_explore_54 : decode cX6_explore 54 = .ok (.bipush 7, 2) := by decide +kernel
theorem dX6_explore_56 : decode cX6_explore 56 = .ok (.if_icmp .ge 45, 3) := by decide +kernel
theorem dX6_explore_59 : decode cX6_explore 59 = .ok (.iload 4, 2) := by decide +kernel
theorem dX6_explore_61 : decode cX6_explore 61 = .ok (.iload 5, 2) := by decide +kernel
theorem dX6_explore_63 : decode cX6_explore 63 = .ok (.invokestatic 68, 3) := by decide +kernel
theorem dX6_explore_66 : decode cX6_explore 66 = .ok (.istore 6, 2) := by decide +kernel
theorem dX6_explore_68 : decode cX6_explore 68 = .ok (.iload 6, 2) := by decide +kernel
theorem dX6_explore_70 : decode cX6_explore 70 = .ok (.iconst (-1), 1) := by decide +kernel
theorem dX6_explore_71 : decode cX6_explore 71 = .ok (.if_icmp .eq 24, 3) := by decide +kernel
theorem dX6_explore_74 : decode cX6_explore 74 = .ok (.aload_n 0, 1) := by decide +kernel
theorem dX6_explore_75 : decode cX6_explore 75 = .ok (.getfield 15, 3) := by decide +kernel
theorem dX6_explore_78 : decode cX6_explore 78 = .ok (.iload 6, 2) := by decide +kernel
theorem dX6_explore_80 : decode cX6_explore 80 = .ok (.iaload, 1) := by decide +kernel
theorem dX6_explore_81 : decode cX6_explore 81 = .ok (.iconst (-1), 1) := by decide +kernel
theorem dX6_explore_82 : decode cX6_explore 82 = .ok (.if_icmp .ne 13, 3) := by decide +kernel
theorem dX6_explore_85 : decode cX6_explore 85 = .ok (.aload_n 0, 1) := by decide +kernel
theorem dX6_explore_86 : decode cX6_explore 86 = .ok (.iload 6, 2) := by decide +kernel
theorem dX6_explore_88 : decode cX6_explore 88 = .ok (.iload 5, 2) := by decide +kernel
theorem dX6_explore_90 : decode cX6_explore 90 = .ok (.iload 4, 2) := by decide +kernel
theorem dX6_explore_92 : decode cX6_explore 92 = .ok (.invokevirtual 64, 3) := by decide +kernel
theorem dX6_explore_95 : decode cX6_explore 95 = .ok (.iinc 5 1, 3) := by decide +kernel
theorem dX6_explore_98 : decode cX6_explore 98 = .ok (.goto (-46), 3) := by decide +kernel
theorem dX6_explore_101 : decode cX6_explore 101 = .ok (.iinc 3 1, 3) := by decide +kernel
theorem dX6_explore_104 : decode cX6_explore 104 = .ok (.goto (-79), 3) := by decide +kernel
theorem dX6_explore_107 : decode cX6_explore 107 = .ok (.iconst 0, 1) := by decide +kernel
theorem dX6_explore_108 : decode cX6_explore 108 = .ok (.ireturn, 1) := by decide +kernel
theorem dX6_meet_0 : decode cX6_meet 0 = .ok (.aload_n 0, 1) := by decide +kernel
theorem dX6_meet_1 : decode cX6_meet 1 = .ok (.getfield 61, 3) := by decide +kernel
theorem dX6_meet_4 : decode cX6_meet 4 = .ok (.sipush 364, 3) := by decide +kernel
theorem dX6_meet_7 : decode cX6_meet 7 = .ok (.if_icmp .ge 37, 3) := by decide +kernel
theorem dX6_meet_10 : decode cX6_meet 10 = .ok (.aload_n 0, 1) := by decide +kernel
theorem dX6_meet_11 : decode cX6_meet 11 = .ok (.getfield 15, 3) := by decide +kernel
theorem dX6_meet_14 : decode cX6_meet 14 = .ok (.iload_n 1, 1) := by decide +kernel
theorem dX6_meet_15 : decode cX6_meet 15 = .ok (.iload_n 2, 1) := by decide +kernel
theorem dX6_meet_16 : decode cX6_meet 16 = .ok (.iastore, 1) := by decide +kernel
theorem dX6_meet_17 : decode cX6_meet 17 = .ok (.aload_n 0, 1) := by decide +kernel
theorem dX6_meet_18 : decode cX6_meet 18 = .ok (.getfield 18, 3) := by decide +kernel
theorem dX6_meet_21 : decode cX6_meet 21 = .ok (.iload_n 1, 1) := by decide +kernel
theorem dX6_meet_22 : decode cX6_meet 22 = .ok (.iload_n 3, 1) := by decide +kernel
theorem dX6_meet_23 : decode cX6_meet 23 = .ok (.iastore, 1) := by decide +kernel
theorem dX6_meet_24 : decode cX6_meet 24 = .ok (.aload_n 0, 1) := by decide +kernel
theorem dX6_meet_25 : decode cX6_meet 25 = .ok (.getfield 11, 3) := by decide +kernel
theorem dX6_meet_28 : decode cX6_meet 28 = .ok (.aload_n 0, 1) := by decide +kernel
theorem dX6_meet_29 : decode cX6_meet 29 = .ok (.getfield 61, 3) := by decide +kernel
theorem dX6_meet_32 : decode cX6_meet 32 = .ok (.iload_n 1, 1) := by decide +kernel
theorem dX6_meet_33 : decode cX6_meet 33 = .ok (.iastore, 1) := by decide +kernel
theorem dX6_meet_34 : decode cX6_meet 34 = .ok (.aload_n 0, 1) := by decide +kernel
theorem dX6_meet_35 : decode cX6_meet 35 = .ok (.dup, 1) := by decide +kernel
theorem dX6_meet_36 : decode cX6_meet 36 = .ok (.getfield 61, 3) := by decide +kernel
theorem dX6_meet_39 : decode cX6_meet 39 = .ok (.iconst 1, 1) := by decide +kernel
theorem dX6_meet_40 : decode cX6_meet 40 = .ok (.iadd, 1) := by decide +kernel
theorem dX6_meet_41 : decode cX6_meet 41 = .ok (.putfield 61, 3) := by decide +kernel
theorem dX6_meet_44 : decode cX6_meet 44 = .ok (.return_, 1) := by decide +kernel
theorem dX6_findCheapest_0 : decode cX6_findCheapest 0 = .ok (.aload_n 0, 1) := by decide +kernel
theorem dX6_findCheapest_1 : decode cX6_findCheapest 1 = .ok (.iconst 0, 1) := by decide +kernel
theorem dX6_findCheapest_2 : decode cX6_findCheapest 2 = .ok (.putfield 40, 3) := by decide +kernel
theorem dX6_findCheapest_5 : decode cX6_findCheapest 5 = .ok (.iload_n 2, 1) := by decide +kernel
theorem dX6_findCheapest_6 : decode cX6_findCheapest 6 = .ok (.iconst (-1), 1) := by decide +kernel
theorem dX6_findCheapest_7 : decode cX6_findCheapest 7 = .ok (.if_icmp .ne 5, 3) := by decide +kernel
theorem dX6_findCheapest_10 : decode cX6_findCheapest 10 = .ok (.iconst (-1), 1) := by decide +kernel
theorem dX6_findCheapest_11 : decode cX6_findCheapest 11 = .ok (.ireturn, 1) := by decide +kernel
theorem dX6_findCheapest_12 : decode cX6_findCheapest 12 = .ok (.aload_n 0, 1) := by decide +kernel
theorem dX6_findCheapest_13 : decode cX6_findCheapest 13 = .ok (.iload_n 1, 1) := by decide +kernel
theorem dX6_findCheapest_14 : decode cX6_findCheapest 14 = .ok (.iconst (-1), 1) := by decide +kernel
theorem dX6_findCheapest_15 : decode cX6_findCheapest 15 = .ok (.invokevirtual 44, 3) := by decide +kernel
theorem dX6_findCheapest_18 : decode cX6_findCheapest 18 = .ok (.pop, 1) := by decide +kernel
theorem dX6_findCheapest_19 : decode cX6_findCheapest 19 = .ok (.aload_n 0, 1) := by decide +kernel
theorem dX6_findCheapest_20 : decode cX6_findCheapest 20 = .ok (.getfield 15, 3) := by decide +kernel
theorem dX6_findCheapest_23 : decode cX6_findCheapest 23 = .ok (.iload_n 2, 1) := by decide +kernel
theorem dX6_findCheapest_24 : decode cX6_findCheapest 24 = .ok (.iaload, 1) := by decide +kernel
theorem dX6_findCheapest_25 : decode cX6_findCheapest 25 = .ok (.iconst (-1), 1) := by decide +kernel
theorem dX6_findCheapest_26 : decode cX6_findCheapest 26 = .ok (.if_icmp .ne 5, 3) := by decide +kernel
theorem dX6_findCheapest_29 : decode cX6_findCheapest 29 = .ok (.iconst (-1), 1) := by decide +kernel
theorem dX6_findCheapest_30 : decode cX6_findCheapest 30 = .ok (.ireturn, 1) := by decide +kernel
theorem dX6_findCheapest_31 : decode cX6_findCheapest 31 = .ok (.iconst 0, 1) := by decide +kernel
theorem dX6_findCheapest_32 : decode cX6_findCheapest 32 = .ok (.istore 4, 2) := by decide +kernel
theorem dX6_findCheapest_34 : decode cX6_findCheapest 34 = .ok (.iload 4, 2) := by decide +kernel
theorem dX6_findCheapest_36 : decode cX6_findCheapest 36 = .ok (.bipush 7, 2) := by decide +kernel
theorem dX6_findCheapest_38 : decode cX6_findCheapest 38 = .ok (.if_icmp .ge 26, 3) := by decide +kernel
theorem dX6_findCheapest_41 : decode cX6_findCheapest 41 = .ok (.aload_n 0, 1) := by decide +kernel
theorem dX6_findCheapest_42 : decode cX6_findCheapest 42 = .ok (.getfield 24, 3) := by decide +kernel
theorem dX6_findCheapest_45 : decode cX6_findCheapest 45 = .ok (.iload 4, 2) := by decide +kernel
theorem dX6_findCheapest_47 : decode cX6_findCheapest 47 = .ok (.aload_n 3, 1) := by decide +kernel
theorem dX6_findCheapest_48 : decode cX6_findCheapest 48 = .ok (.iload 4, 2) := by decide +kernel
theorem dX6_findCheapest_50 : decode cX6_findCheapest 50 = .ok (.iaload, 1) := by decide +kernel
theorem dX6_findCheapest_51 : decode cX6_findCheapest 51 = .ok (.sipush 1000, 3) := by decide +kernel
theorem dX6_findCheapest_54 : decode cX6_findCheapest 54 = .ok (.imul, 1) := by decide +kernel
theorem dX6_findCheapest_55 : decode cX6_findCheapest 55 = .ok (.iconst 1, 1) := by decide +kernel
theorem dX6_findCheapest_56 : decode cX6_findCheapest 56 = .ok (.iadd, 1) := by decide +kernel
theorem dX6_findCheapest_57 : decode cX6_findCheapest 57 = .ok (.iastore, 1) := by decide +kernel
theorem dX6_findCheapest_58 : decode cX6_findCheapest 58 = .ok (.iinc 4 1, 3) := by decide +kernel
theorem dX6_findCheapest_61 : decode cX6_findCheapest 61 = .ok (.goto (-27), 3) := by decide +kernel
theorem dX6_findCheapest_64 : decode cX6_findCheapest 64 = .ok (.aload_n 0, 1) := by decide +kernel
theorem dX6_findCheapest_65 : decode cX6_findCheapest 65 = .ok (.iload_n 2, 1) := by decide +kernel
theorem dX6_findCheapest_66 : decode cX6_findCheapest 66 = .ok (.invokevirtual 71, 3) := by decide +kernel
theorem dX6_findCheapest_69 : decode cX6_findCheapest 69 = .ok (.aload_n 0, 1) := by decide +kernel
theorem dX6_findCheapest_70 : decode cX6_findCheapest 70 = .ok (.iload_n 1, 1) := by decide +kernel
theorem dX6_findCheapest_71 : decode cX6_findCheapest 71 = .ok (.invokestatic 52, 3) := by decide +kernel
theorem dX6_findCheapest_74 : decode cX6_findCheapest 74 = .ok (.iload_n 2, 1) := by decide +kernel
theorem dX6_findCheapest_75 : decode cX6_findCheapest 75 = .ok (.invokevirtual 75, 3) := by decide +kernel
theorem dX6_findCheapest_78 : decode cX6_findCheapest 78 = .ok (.aload_n 0, 1) := by decide +kernel
theorem dX6_findCheapest_79 : decode cX6_findCheapest 79 = .ok (.getfield 21, 3) := by decide +kernel
theorem dX6_findCheapest_82 : decode cX6_findCheapest 82 = .ok (.iload_n 1, 1) := by decide +kernel
theorem dX6_findCheapest_83 : decode cX6_findCheapest 83 = .ok (.invokestatic 52, 3) := by decide +kernel
theorem dX6_findCheapest_86 : decode cX6_findCheapest 86 = .ok (.iaload, 1) := by decide +kernel
theorem dX6_findCheapest_87 : decode cX6_findCheapest 87 = .ok (.sipush 1000, 3) := by decide +kernel
theorem dX6_findCheapest_90 : decode cX6_findCheapest 90 = .ok (.idiv, 1) := by decide +kernel
theorem dX6_findCheapest_91 : decode cX6_findCheapest 91 = .ok (.ireturn, 1) := by decide +kernel
theorem dX6_reckonCosts_0 : decode cX6_reckonCosts 0 = .ok (.aload_n 0, 1) := by decide +kernel
theorem dX6_reckonCosts_1 : decode cX6_reckonCosts 1 = .ok (.getfield 21, 3) := by decide +kernel
theorem dX6_reckonCosts_4 : decode cX6_reckonCosts 4 = .ok (.ldc 79, 2) := by decide +kernel
theorem dX6_reckonCosts_6 : decode cX6_reckonCosts 6 = .ok (.invokestatic 55, 3) := by decide +kernel
theorem dX6_reckonCosts_9 : decode cX6_reckonCosts 9 = .ok (.aload_n 0, 1) := by decide +kernel
theorem dX6_reckonCosts_10 : decode cX6_reckonCosts 10 = .ok (.getfield 21, 3) := by decide +kernel
theorem dX6_reckonCosts_13 : decode cX6_reckonCosts 13 = .ok (.iload_n 1, 1) := by decide +kernel
theorem dX6_reckonCosts_14 : decode cX6_reckonCosts 14 = .ok (.iconst 0, 1) := by decide +kernel
theorem dX6_reckonCosts_15 : decode cX6_reckonCosts 15 = .ok (.iastore, 1) := by decide +kernel
theorem dX6_reckonCosts_16 : decode cX6_reckonCosts 16 = .ok (.iconst 1, 1) := by decide +kernel
theorem dX6_reckonCosts_17 : decode cX6_reckonCosts 17 = .ok (.istore_n 2, 1) := by decide +kernel
theorem dX6_reckonCosts_18 : decode cX6_reckonCosts 18 = .ok (.iconst 0, 1) := by decide +kernel
theorem dX6_reckonCosts_19 : decode cX6_reckonCosts 19 = .ok (.istore_n 3, 1) := by decide +kernel
theorem dX6_reckonCosts_20 : decode cX6_reckonCosts 20 = .ok (.iload_n 3, 1) := by decide +kernel
theorem dX6_reckonCosts_21 : decode cX6_reckonCosts 21 = .ok (.sipush 364, 3) := by decide +kernel
theorem dX6_reckonCosts_24 : decode cX6_reckonCosts 24 = .ok (.if_icmp .ge 123, 3) := by decide +kernel
theorem dX6_reckonCosts_27 : decode cX6_reckonCosts 27 = .ok (.iload_n 2, 1) := by decide +kernel
theorem dX6_reckonCosts_28 : decode cX6_reckonCosts 28 = .ok (.ifCond .eq 119, 3) := by decide +kernel
theorem dX6_reckonCosts_31 : decode cX6_reckonCosts 31 = .ok (.iconst 0, 1) := by decide +kernel
theorem dX6_reckonCosts_32 : decode cX6_reckonCosts 32 = .ok (.istore_n 2, 1) := by decide +kernel
theorem dX6_reckonCosts_33 : decode cX6_reckonCosts 33 = .ok (.aload_n 0, 1) := by decide +kernel
theorem dX6_reckonCosts_34 : decode cX6_reckonCosts 34 = .ok (.getfield 61, 3) := by decide +kernel
theorem dX6_reckonCosts_37 : decode cX6_reckonCosts 37 = .ok (.iconst 1, 1) := by decide +kernel
theorem dX6_reckonCosts_38 : decode cX6_reckonCosts 38 = .ok (.isub, 1) := by decide +kernel
theorem dX6_reckonCosts_39 : decode cX6_reckonCosts 39 = .ok (.istore 4, 2) := by decide +kernel
theorem dX6_reckonCosts_41 : decode cX6_reckonCosts 41 = .ok (.iload 4, 2) := by decide +kernel
theorem dX6_reckonCosts_43 : decode cX6_reckonCosts 43 = .ok (.ifCond .lt 98, 3) := by decide +kernel
theorem dX6_reckonCosts_46 : decode cX6_reckonCosts 46 = .ok (.aload_n 0, 1) := by decide +kernel
theorem dX6_reckonCosts_47 : decode cX6_reckonCosts 47 = .ok (.getfield 11, 3) := by decide +kernel
theorem dX6_reckonCosts_50 : decode cX6_reckonCosts 50 = .ok (.iload 4, 2) := by decide +kernel
theorem dX6_reckonCosts_52 : decode cX6_reckonCosts 52 = .ok (.iaload, 1) := by decide +kernel
theorem dX6_reckonCosts_53 : decode cX6_reckonCosts 53 = .ok (.istore 5, 2) := by decide +kernel
theorem dX6_reckonCosts_55 : decode cX6_reckonCosts 55 = .ok (.iconst 0, 1) := by decide +kernel
theorem dX6_reckonCosts_56 : decode cX6_reckonCosts 56 = .ok (.istore 6, 2) := by decide +kernel
theorem dX6_reckonCosts_58 : decode cX6_reckonCosts 58 = .ok (.iload 6, 2) := by decide +kernel
theorem dX6_reckonCosts_60 : decode cX6_reckonCosts 60 = .ok (.bipush 7, 2) := by decide +kernel
theorem dX6_reckonCosts_62 : decode cX6_reckonCosts 62 = .ok (.if_icmp .ge 73, 3) := by decide +kernel
theorem dX6_reckonCosts_65 : decode cX6_reckonCosts 65 = .ok (.iload 5, 2) := by decide +kernel
theorem dX6_reckonCosts_67 : decode cX6_reckonCosts 67 = .ok (.iload 6, 2) := by decide +kernel
theorem dX6_reckonCosts_69 : decode cX6_reckonCosts 69 = .ok (.invokestatic 68, 3) := by decide +kernel
theorem dX6_reckonCosts_72 : decode cX6_reckonCosts 72 = .ok (.istore 7, 2) := by decide +kernel
theorem dX6_reckonCosts_74 : decode cX6_reckonCosts 74 = .ok (.iload 7, 2) := by decide +kernel
theorem dX6_reckonCosts_76 : decode cX6_reckonCosts 76 = .ok (.iconst (-1), 1) := by decide +kernel
theorem dX6_reckonCosts_77 : decode cX6_reckonCosts 77 = .ok (.if_icmp .eq 52, 3) := by decide +kernel
theorem dX6_reckonCosts_80 : decode cX6_reckonCosts 80 = .ok (.aload_n 0, 1) := by decide +kernel
theorem dX6_reckonCosts_81 : decode cX6_reckonCosts 81 = .ok (.getfield 21, 3) := by decide +kernel
theorem dX6_reckonCosts_84 : decode cX6_reckonCosts 84 = .ok (.iload 7, 2) := by decide +kernel
theorem dX6_reckonCosts_86 : decode cX6_reckonCosts 86 = .ok (.iaload, 1) := by decide +kernel
theorem dX6_reckonCosts_87 : decode cX6_reckonCosts 87 = .ok (.aload_n 0, 1) := by decide +kernel
theorem dX6_reckonCosts_88 : decode cX6_reckonCosts 88 = .ok (.getfield 24, 3) := by decide +kernel
theorem dX6_reckonCosts_91 : decode cX6_reckonCosts 91 = .ok (.iload 6, 2) := by decide +kernel
theorem dX6_reckonCosts_93 : decode cX6_reckonCosts 93 = .ok (.iaload, 1) := by decide +kernel
theorem dX6_reckonCosts_94 : decode cX6_reckonCosts 94 = .ok (.iadd, 1) := by decide +kernel
theorem dX6_reckonCosts_95 : decode cX6_reckonCosts 95 = .ok (.aload_n 0, 1) := by decide +kernel
theorem dX6_reckonCosts_96 : decode cX6_reckonCosts 96 = .ok (.getfield 21, 3) := by decide +kernel
theorem dX6_reckonCosts_99 : decode cX6_reckonCosts 99 = .ok (.iload 5, 2) := by decide +kernel
theorem dX6_reckonCosts_101 : decode cX6_reckonCosts 101 = .ok (.iaload, 1) := by decide +kernel
theorem dX6_reckonCosts_102 : decode cX6_reckonCosts 102 = .ok (.if_icmp .ge 27, 3) := by decide +kernel
theorem dX6_reckonCosts_105 : decode cX6_reckonCosts 105 = .ok (.aload_n 0, 1) := by decide +kernel
theorem dX6_reckonCosts_106 : decode cX6_reckonCosts 106 = .ok (.getfield 21, 3) := by decide +kernel
theorem dX6_reckonCosts_109 : decode cX6_reckonCosts 109 = .ok (.iload 5, 2) := by decide +kernel
theorem dX6_reckonCosts_111 : decode cX6_reckonCosts 111 = .ok (.aload_n 0, 1) := by decide +kernel
theorem dX6_reckonCosts_112 : decode cX6_reckonCosts 112 = .ok (.getfield 21, 3) := by decide +kernel
theorem dX6_reckonCosts_115 : decode cX6_reckonCosts 115 = .ok (.iload 7, 2) := by decide +kernel
theorem dX6_reckonCosts_117 : decode cX6_reckonCosts 117 = .ok (.iaload, 1) := by decide +kernel
theorem dX6_reckonCosts_118 : decode cX6_reckonCosts 118 = .ok (.aload_n 0, 1) := by decide +kernel
theorem dX6_reckonCosts_119 : decode cX6_reckonCosts 119 = .ok (.getfield 24, 3) := by decide +kernel
theorem dX6_reckonCosts_122 : decode cX6_reckonCosts 122 = .ok (.iload 6, 2) := by decide +kernel
theorem dX6_reckonCosts_124 : decode cX6_reckonCosts 124 = .ok (.iaload, 1) := by decide +kernel
theorem dX6_reckonCosts_125 : decode cX6_reckonCosts 125 = .ok (.iadd, 1) := by decide +kernel
theorem dX6_reckonCosts_126 : decode cX6_reckonCosts 126 = .ok (.iastore, 1) := by decide +kernel
theorem dX6_reckonCosts_127 : decode cX6_reckonCosts 127 = .ok (.iconst 1, 1) := by decide +kernel
theorem dX6_reckonCosts_128 : decode cX6_reckonCosts 128 = .ok (.istore_n 2, 1) := by decide +kernel
theorem dX6_reckonCosts_129 : decode cX6_reckonCosts 129 = .ok (.iinc 6 1, 3) := by decide +kernel
theorem dX6_reckonCosts_132 : decode cX6_reckonCosts 132 = .ok (.goto (-74), 3) := by decide +kernel
theorem dX6_reckonCosts_135 : decode cX6_reckonCosts 135 = .ok (.iinc 4 (-1), 3) := by decide +kernel
theorem dX6_reckonCosts_138 : decode cX6_reckonCosts 138 = .ok (.goto (-97), 3) := by decide +kernel
theorem dX6_reckonCosts_141 : decode cX6_reckonCosts 141 = .ok (.iinc 3 1, 3) := by decide +kernel
theorem dX6_reckonCosts_144 : decode cX6_reckonCosts 144 = .ok (.goto (-124), 3) := by decide +kernel
theorem dX6_reckonCosts_147 : decode cX6_reckonCosts 147 = .ok (.return_, 1) := by decide +kernel
theorem dX6_walkCheaply_0 : decode cX6_walkCheaply 0 = .ok (.iload_n 1, 1) := by decide +kernel
theorem dX6_walkCheaply_1 : decode cX6_walkCheaply 1 = .ok (.istore_n 3, 1) := by decide +kernel
theorem dX6_walkCheaply_2 : decode cX6_walkCheaply 2 = .ok (.iload_n 3, 1) := by decide +kernel
theorem dX6_walkCheaply_3 : decode cX6_walkCheaply 3 = .ok (.iload_n 2, 1) := by decide +kernel
theorem dX6_walkCheaply_4 : decode cX6_walkCheaply 4 = .ok (.if_icmp .eq 117, 3) := by decide +kernel
theorem dX6_walkCheaply_7 : decode cX6_walkCheaply 7 = .ok (.aload_n 0, 1) := by decide +kernel
theorem dX6_walkCheaply_8 : decode cX6_walkCheaply 8 = .ok (.getfield 40, 3) := by decide +kernel
theorem dX6_walkCheaply_11 : decode cX6_walkCheaply 11 = .ok (.sipush 364, 3) := by decide +kernel
theorem dX6_walkCheaply_14 : decode cX6_walkCheaply 14 = .ok (.if_icmp .ge 107, 3) := by decide +kernel
theorem dX6_walkCheaply_17 : decode cX6_walkCheaply 17 = .ok (.iconst (-1), 1) := by decide +kernel
theorem dX6_walkCheaply_18 : decode cX6_walkCheaply 18 = .ok (.istore 4, 2) := by decide +kernel
theorem dX6_walkCheaply_20 : decode cX6_walkCheaply 20 = .ok (.iconst 0, 1) := by decide +kernel
theorem dX6_walkCheaply_21 : decode cX6_walkCheaply 21 = .ok (.istore 5, 2) := by decide +kernel
theorem dX6_walkCheaply_23 : decode cX6_walkCheaply 23 = .ok (.iload 5, 2) := by decide +kernel
theorem dX6_walkCheaply_25 : decode cX6_walkCheaply 25 = .ok (.bipush 7, 2) := by decide +kernel
theorem dX6_walkCheaply_27 : decode cX6_walkCheaply 27 = .ok (.if_icmp .ge 60, 3) := by decide +kernel
theorem dX6_walkCheaply_30 : decode cX6_walkCheaply 30 = .ok (.iload 4, 2) := by decide +kernel
theorem dX6_walkCheaply_32 : decode cX6_walkCheaply 32 = .ok (.iconst (-1), 1) := by decide +kernel
theorem dX6_walkCheaply_33 : decode cX6_walkCheaply 33 = .ok (.if_icmp .ne 54, 3) := by decide +kernel
theorem dX6_walkCheaply_36 : decode cX6_walkCheaply 36 = .ok (.iload_n 3, 1) := by decide +kernel
theorem dX6_walkCheaply_37 : decode cX6_walkCheaply 37 = .ok (.iload 5, 2) := by decide +kernel
theorem dX6_walkCheaply_39 : decode cX6_walkCheaply 39 = .ok (.invokestatic 68, 3) := by decide +kernel
theorem dX6_walkCheaply_42 : decode cX6_walkCheaply 42 = .ok (.istore 6, 2) := by decide +kernel
theorem dX6_walkCheaply_44 : decode cX6_walkCheaply 44 = .ok (.iload 6, 2) := by decide +kernel
theorem dX6_walkCheaply_46 : decode cX6_walkCheaply 46 = .ok (.iconst (-1), 1) := by decide +kernel
theorem dX6_walkCheaply_47 : decode cX6_walkCheaply 47 = .ok (.if_icmp .eq 34, 3) := by decide +kernel
theorem dX6_walkCheaply_50 : decode cX6_walkCheaply 50 = .ok (.aload_n 0, 1) := by decide +kernel
theorem dX6_walkCheaply_51 : decode cX6_walkCheaply 51 = .ok (.getfield 21, 3) := by decide +kernel
theorem dX6_walkCheaply_54 : decode cX6_walkCheaply 54 = .ok (.iload 6, 2) := by decide +kernel
theorem dX6_walkCheaply_56 : decode cX6_walkCheaply 56 = .ok (.iaload, 1) := by decide +kernel
theorem dX6_walkCheaply_57 : decode cX6_walkCheaply 57 = .ok (.aload_n 0, 1) := by decide +kernel
theorem dX6_walkCheaply_58 : decode cX6_walkCheaply 58 = .ok (.getfield 24, 3) := by decide +kernel
theorem dX6_walkCheaply_61 : decode cX6_walkCheaply 61 = .ok (.iload 5, 2) := by decide +kernel
theorem dX6_walkCheaply_63 : decode cX6_walkCheaply 63 = .ok (.iaload, 1) := by decide +kernel
theorem dX6_walkCheaply_64 : decode cX6_walkCheaply 64 = .ok (.iadd, 1) := by decide +kernel
theorem dX6_walkCheaply_65 : decode cX6_walkCheaply 65 = .ok (.aload_n 0, 1) := by decide +kernel
theorem dX6_walkCheaply_66 : decode cX6_walkCheaply 66 = .ok (.getfield 21, 3) := by decide +kernel
theorem dX6_walkCheaply_69 : decode cX6_walkCheaply 69 = .ok (.iload_n 3, 1) := by decide +kernel
theorem dX6_walkCheaply_70 : decode cX6_walkCheaply 70 = .ok (.iaload, 1) := by decide +kernel
theorem dX6_walkCheaply_71 : decode cX6_walkCheaply 71 = .ok (.if_icmp .ne 10, 3) := by decide +kernel
theorem dX6_walkCheaply_74 : decode cX6_walkCheaply 74 = .ok (.iload 6, 2) := by decide +kernel
theorem dX6_walkCheaply_76 : decode cX6_walkCheaply 76 = .ok (.istore 4, 2) := by decide +kernel
theorem dX6_walkCheaply_78 : decode cX6_walkCheaply 78 = .ok (.goto 6, 3) := by decide +kernel
theorem dX6_walkCheaply_81 : decode cX6_walkCheaply 81 = .ok (.iinc 5 1, 3) := by decide +kernel
theorem dX6_walkCheaply_84 : decode cX6_walkCheaply 84 = .ok (.goto (-61), 3) := by decide +kernel
theorem dX6_walkCheaply_87 : decode cX6_walkCheaply 87 = .ok (.iload 4, 2) := by decide +kernel
theorem dX6_walkCheaply_89 : decode cX6_walkCheaply 89 = .ok (.iconst (-1), 1) := by decide +kernel
theorem dX6_walkCheaply_90 : decode cX6_walkCheaply 90 = .ok (.if_icmp .ne 4, 3) := by decide +kernel
theorem dX6_walkCheaply_93 : decode cX6_walkCheaply 93 = .ok (.return_, 1) := by decide +kernel
theorem dX6_walkCheaply_94 : decode cX6_walkCheaply 94 = .ok (.aload_n 0, 1) := by decide +kernel
theorem dX6_walkCheaply_95 : decode cX6_walkCheaply 95 = .ok (.getfield 27, 3) := by decide +kernel
theorem dX6_walkCheaply_98 : decode cX6_walkCheaply 98 = .ok (.aload_n 0, 1) := by decide +kernel
theorem dX6_walkCheaply_99 : decode cX6_walkCheaply 99 = .ok (.getfield 40, 3) := by decide +kernel
theorem dX6_walkCheaply_102 : decode cX6_walkCheaply 102 = .ok (.iload 5, 2) := by decide +kernel
theorem dX6_walkCheaply_104 : decode cX6_walkCheaply 104 = .ok (.iastore, 1) := by decide +kernel
theorem dX6_walkCheaply_105 : decode cX6_walkCheaply 105 = .ok (.aload_n 0, 1) := by decide +kernel
theorem dX6_walkCheaply_106 : decode cX6_walkCheaply 106 = .ok (.dup, 1) := by decide +kernel
theorem dX6_walkCheaply_107 : decode cX6_walkCheaply 107 = .ok (.getfield 40, 3) := by decide +kernel
theorem dX6_walkCheaply_110 : decode cX6_walkCheaply 110 = .ok (.iconst 1, 1) := by decide +kernel
theorem dX6_walkCheaply_111 : decode cX6_walkCheaply 111 = .ok (.iadd, 1) := by decide +kernel
theorem dX6_walkCheaply_112 : decode cX6_walkCheaply 112 = .ok (.putfield 40, 3) := by decide +kernel
theorem dX6_walkCheaply_115 : decode cX6_walkCheaply 115 = .ok (.iload 4, 2) := by decide +kernel
theorem dX6_walkCheaply_117 : decode cX6_walkCheaply 117 = .ok (.istore_n 3, 1) := by decide +kernel
theorem dX6_walkCheaply_118 : decode cX6_walkCheaply 118 = .ok (.goto (-116), 3) := by decide +kernel
theorem dX6_walkCheaply_121 : decode cX6_walkCheaply 121 = .ok (.return_, 1) := by decide +kernel
theorem dX6_follow_0 : decode cX6_follow 0 = .ok (.iload_n 1, 1) := by decide +kernel
theorem dX6_follow_1 : decode cX6_follow 1 = .ok (.ifCond .lt 18, 3) := by decide +kernel
theorem dX6_follow_4 : decode cX6_follow 4 = .ok (.iload_n 1, 1) := by decide +kernel
theorem dX6_follow_5 : decode cX6_follow 5 = .ok (.iconst 3, 1) := by decide +kernel
theorem dX6_follow_6 : decode cX6_follow 6 = .ok (.if_icmp .gt 13, 3) := by decide +kernel
theorem dX6_follow_9 : decode cX6_follow 9 = .ok (.iload_n 2, 1) := by decide +kernel
theorem dX6_follow_10 : decode cX6_follow 10 = .ok (.ifCond .lt 9, 3) := by decide +kernel
theorem dX6_follow_13 : decode cX6_follow 13 = .ok (.iload_n 2, 1) := by decide +kernel
theorem dX6_follow_14 : decode cX6_follow 14 = .ok (.ldc 80, 2) := by decide +kernel
theorem dX6_follow_16 : decode cX6_follow 16 = .ok (.if_icmp .le 5, 3) := by decide +kernel
theorem dX6_follow_19 : decode cX6_follow 19 = .ok (.iconst (-1), 1) := by decide +kernel
theorem dX6_follow_20 : decode cX6_follow 20 = .ok (.ireturn, 1) := by decide +kernel
theorem dX6_follow_21 : decode cX6_follow 21 = .ok (.iload_n 1, 1) := by decide +kernel
theorem dX6_follow_22 : decode cX6_follow 22 = .ok (.invokestatic 52, 3) := by decide +kernel
theorem dX6_follow_25 : decode cX6_follow 25 = .ok (.istore_n 3, 1) := by decide +kernel
theorem dX6_follow_26 : decode cX6_follow 26 = .ok (.iconst 0, 1) := by decide +kernel
theorem dX6_follow_27 : decode cX6_follow 27 = .ok (.istore 4, 2) := by decide +kernel
theorem dX6_follow_29 : decode cX6_follow 29 = .ok (.ldc 81, 2) := by decide +kernel
theorem dX6_follow_31 : decode cX6_follow 31 = .ok (.istore 5, 2) := by decide +kernel
theorem dX6_follow_33 : decode cX6_follow 33 = .ok (.iload 5, 2) := by decide +kernel
theorem dX6_follow_35 : decode cX6_follow 35 = .ok (.iconst 1, 1) := by decide +kernel
theorem dX6_follow_36 : decode cX6_follow 36 = .ok (.if_icmp .lt 77, 3) := by decide +kernel
theorem dX6_follow_39 : decode cX6_follow 39 = .ok (.iload_n 2, 1) := by decide +kernel
theorem dX6_follow_40 : decode cX6_follow 40 = .ok (.iload 5, 2) := by decide +kernel
theorem dX6_follow_42 : decode cX6_follow 42 = .ok (.idiv, 1) := by decide +kernel
theorem dX6_follow_43 : decode cX6_follow 43 = .ok (.bipush 10, 2) := by decide +kernel
theorem dX6_follow_45 : decode cX6_follow 45 = .ok (.irem, 1) := by decide +kernel
theorem dX6_follow_46 : decode cX6_follow 46 = .ok (.istore 6, 2) := by decide +kernel
theorem dX6_follow_48 : decode cX6_follow 48 = .ok (.iload 4, 2) := by decide +kernel
theorem dX6_follow_50 : decode cX6_follow 50 = .ok (.ifCond .ne 8, 3) := by decide +kernel
theorem dX6_follow_53 : decode cX6_follow 53 = .ok (.iload 6, 2) := by decide +kernel
theorem dX6_follow_55 : decode cX6_follow 55 = .ok (.ifCond .eq 7, 3) := by decide +kernel
theorem dX6_follow_58 : decode cX6_follow 58 = .ok (.iconst 1, 1) := by decide +kernel
theorem dX6_follow_59 : decode cX6_follow 59 = .ok (.goto 4, 3) := by decide +kernel
theorem dX6_follow_62 : decode cX6_follow 62 = .ok (.iconst 0, 1) := by decide +kernel
theorem dX6_follow_63 : decode cX6_follow 63 = .ok (.istore 4, 2) := by decide +kernel
theorem dX6_follow_65 : decode cX6_follow 65 = .ok (.iload 4, 2) := by decide +kernel
theorem dX6_follow_67 : decode cX6_follow 67 = .ok (.ifCond .eq 29, 3) := by decide +kernel
theorem dX6_follow_70 : decode cX6_follow 70 = .ok (.iload 6, 2) := by decide +kernel
theorem dX6_follow_72 : decode cX6_follow 72 = .ok (.iconst 1, 1) := by decide +kernel
theorem dX6_follow_73 : decode cX6_follow 73 = .ok (.if_icmp .lt 10, 3) := by decide +kernel
theorem dX6_follow_76 : decode cX6_follow 76 = .ok (.iload 6, 2) := by decide +kernel
theorem dX6_follow_78 : decode cX6_follow 78 = .ok (.bipush 7, 2) := by decide +kernel
theorem dX6_follow_80 : decode cX6_follow 80 = .ok (.if_icmp .le 7, 3) := by decide +kernel
theorem dX6_follow_83 : decode cX6_follow 83 = .ok (.iconst (-1), 1) := by decide +kernel
theorem dX6_follow_84 : decode cX6_follow 84 = .ok (.goto 11, 3) := by decide +kernel
theorem dX6_follow_87 : decode cX6_follow 87 = .ok (.iload_n 3, 1) := by decide +kernel
theorem dX6_follow_88 : decode cX6_follow 88 = .ok (.iload 6, 2) := by decide +kernel
theorem dX6_follow_90 : decode cX6_follow 90 = .ok (.iconst 1, 1) := by decide +kernel
theorem dX6_follow_91 : decode cX6_follow 91 = .ok (.isub, 1) := by decide +kernel
theorem dX6_follow_92 : decode cX6_follow 92 = .ok (.invokestatic 68, 3) := by decide +kernel
theorem dX6_follow_95 : decode cX6_follow 95 = .ok (.istore_n 3, 1) := by decide +kernel
theorem dX6_follow_96 : decode cX6_follow 96 = .ok (.iload_n 3, 1) := by decide +kernel
theorem dX6_follow_97 : decode cX6_follow 97 = .ok (.iconst (-1), 1) := by decide +kernel
theorem dX6_follow_98 : decode cX6_follow 98 = .ok (.if_icmp .ne 5, 3) := by decide +kernel
theorem dX6_follow_101 : decode cX6_follow 101 = .ok (.iconst (-1), 1) := by decide +kernel
theorem dX6_follow_102 : decode cX6_follow 102 = .ok (.ireturn, 1) := by decide +kernel
theorem dX6_follow_103 : decode cX6_follow 103 = .ok (.iload 5, 2) := by decide +kernel
theorem dX6_follow_105 : decode cX6_follow 105 = .ok (.bipush 10, 2) := by decide +kernel
theorem dX6_follow_107 : decode cX6_follow 107 = .ok (.idiv, 1) := by decide +kernel
theorem dX6_follow_108 : decode cX6_follow 108 = .ok (.istore 5, 2) := by decide +kernel
theorem dX6_follow_110 : decode cX6_follow 110 = .ok (.goto (-77), 3) := by decide +kernel
theorem dX6_follow_113 : decode cX6_follow 113 = .ok (.iload_n 3, 1) := by decide +kernel
theorem dX6_follow_114 : decode cX6_follow 114 = .ok (.sipush 255, 3) := by decide +kernel
theorem dX6_follow_117 : decode cX6_follow 117 = .ok (.if_icmp .le 7, 3) := by decide +kernel
theorem dX6_follow_120 : decode cX6_follow 120 = .ok (.iconst (-1), 1) := by decide +kernel
theorem dX6_follow_121 : decode cX6_follow 121 = .ok (.goto 7, 3) := by decide +kernel
theorem dX6_follow_124 : decode cX6_follow 124 = .ok (.iload_n 3, 1) := by decide +kernel
theorem dX6_follow_125 : decode cX6_follow 125 = .ok (.invokestatic 82, 3) := by decide +kernel
theorem dX6_follow_128 : decode cX6_follow 128 = .ok (.ireturn, 1) := by decide +kernel
theorem dX6_saved_0 : decode cX6_saved 0 = .ok (.iconst 0, 1) := by decide +kernel
theorem dX6_saved_1 : decode cX6_saved 1 = .ok (.istore_n 3, 1) := by decide +kernel
theorem dX6_saved_2 : decode cX6_saved 2 = .ok (.aload_n 1, 1) := by decide +kernel
theorem dX6_saved_3 : decode cX6_saved 3 = .ok (.getfield 85, 3) := by decide +kernel
theorem dX6_saved_6 : decode cX6_saved 6 = .ok (.iload_n 2, 1) := by decide +kernel
theorem dX6_saved_7 : decode cX6_saved 7 = .ok (.iaload, 1) := by decide +kernel
theorem dX6_saved_8 : decode cX6_saved 8 = .ok (.istore 4, 2) := by decide +kernel
theorem dX6_saved_10 : decode cX6_saved 10 = .ok (.iload 4, 2) := by decide +kernel
theorem dX6_saved_12 : decode cX6_saved 12 = .ok (.aload_n 1, 1) := by decide +kernel
theorem dX6_saved_13 : decode cX6_saved 13 = .ok (.getfield 85, 3) := by decide +kernel
theorem dX6_saved_16 : decode cX6_saved 16 = .ok (.iload_n 2, 1) := by decide +kernel
theorem dX6_saved_17 : decode cX6_saved 17 = .ok (.iconst 1, 1) := by decide +kernel
theorem dX6_saved_18 : decode cX6_saved 18 = .ok (.iadd, 1) := by decide +kernel
theorem dX6_saved_19 : decode cX6_saved 19 = .ok (.iaload, 1) := by decide +kernel
theorem dX6_saved_20 : decode cX6_saved 20 = .ok (.if_icmp .ge 83, 3) := by decide +kernel
theorem dX6_saved_23 : decode cX6_saved 23 = .ok (.aload_n 0, 1) := by decide +kernel
theorem dX6_saved_24 : decode cX6_saved 24 = .ok (.aload_n 1, 1) := by decide +kernel
theorem dX6_saved_25 : decode cX6_saved 25 = .ok (.iload 4, 2) := by decide +kernel
theorem dX6_saved_27 : decode cX6_saved 27 = .ok (.aload_n 1, 1) := by decide +kernel
theorem dX6_saved_28 : decode cX6_saved 28 = .ok (.getfield 85, 3) := by decide +kernel
theorem dX6_saved_31 : decode cX6_saved 31 = .ok (.iload_n 2, 1) := by decide +kernel
theorem dX6_saved_32 : decode cX6_saved 32 = .ok (.iconst 1, 1) := by decide +kernel
theorem dX6_saved_33 : decode cX6_saved 33 = .ok (.iadd, 1) := by decide +kernel
theorem dX6_saved_34 : decode cX6_saved 34 = .ok (.iaload, 1) := by decide +kernel
theorem dX6_saved_35 : decode cX6_saved 35 = .ok (.invokevirtual 90, 3) := by decide +kernel
theorem dX6_saved_38 : decode cX6_saved 38 = .ok (.istore 5, 2) := by decide +kernel
theorem dX6_saved_40 : decode cX6_saved 40 = .ok (.iload 5, 2) := by decide +kernel
theorem dX6_saved_42 : decode cX6_saved 42 = .ok (.ifCond .le 47, 3) := by decide +kernel
theorem dX6_saved_45 : decode cX6_saved 45 = .ok (.aload_n 0, 1) := by decide +kernel
theorem dX6_saved_46 : decode cX6_saved 46 = .ok (.aload_n 1, 1) := by decide +kernel
theorem dX6_saved_47 : decode cX6_saved 47 = .ok (.iload 4, 2) := by decide +kernel
theorem dX6_saved_49 : decode cX6_saved 49 = .ok (.iload 5, 2) := by decide +kernel
theorem dX6_saved_51 : decode cX6_saved 51 = .ok (.invokevirtual 94, 3) := by decide +kernel
theorem dX6_saved_54 : decode cX6_saved 54 = .ok (.istore 6, 2) := by decide +kernel
theorem dX6_saved_56 : decode cX6_saved 56 = .ok (.iload_n 3, 1) := by decide +kernel
theorem dX6_saved_57 : decode cX6_saved 57 = .ok (.aload_n 0, 1) := by decide +kernel
theorem dX6_saved_58 : decode cX6_saved 58 = .ok (.aload_n 0, 1) := by decide +kernel
theorem dX6_saved_59 : decode cX6_saved 59 = .ok (.getfield 97, 3) := by decide +kernel
theorem dX6_saved_62 : decode cX6_saved 62 = .ok (.iload 6, 2) := by decide +kernel
theorem dX6_saved_64 : decode cX6_saved 64 = .ok (.invokevirtual 44, 3) := by decide +kernel
theorem dX6_saved_67 : decode cX6_saved 67 = .ok (.ifCond .eq 19, 3) := by decide +kernel
theorem dX6_saved_70 : decode cX6_saved 70 = .ok (.iload 5, 2) := by decide +kernel
theorem dX6_saved_72 : decode cX6_saved 72 = .ok (.aload_n 0, 1) := by decide +kernel
theorem dX6_saved_73 : decode cX6_saved 73 = .ok (.aload_n 0, 1) := by decide +kernel
theorem dX6_saved_74 : decode cX6_saved 74 = .ok (.getfield 97, 3) := by decide +kernel
theorem dX6_saved_77 : decode cX6_saved 77 = .ok (.iload 6, 2) := by decide +kernel
theorem dX6_saved_79 : decode cX6_saved 79 = .ok (.invokevirtual 48, 3) := by decide +kernel
theorem dX6_saved_82 : decode cX6_saved 82 = .ok (.isub, 1) := by decide +kernel
theorem dX6_saved_83 : decode cX6_saved 83 = .ok (.goto 4, 3) := by decide +kernel
theorem dX6_saved_86 : decode cX6_saved 86 = .ok (.iconst 0, 1) := by decide +kernel
theorem dX6_saved_87 : decode cX6_saved 87 = .ok (.iadd, 1) := by decide +kernel
theorem dX6_saved_88 : decode cX6_saved 88 = .ok (.istore_n 3, 1) := by decide +kernel
theorem dX6_saved_89 : decode cX6_saved 89 = .ok (.iload 4, 2) := by decide +kernel
theorem dX6_saved_91 : decode cX6_saved 91 = .ok (.iconst 1, 1) := by decide +kernel
theorem dX6_saved_92 : decode cX6_saved 92 = .ok (.iload 5, 2) := by decide +kernel
theorem dX6_saved_94 : decode cX6_saved 94 = .ok (.invokestatic 100, 3) := by decide +kernel
theorem dX6_saved_97 : decode cX6_saved 97 = .ok (.iadd, 1) := by decide +kernel
theorem dX6_saved_98 : decode cX6_saved 98 = .ok (.istore 4, 2) := by decide +kernel
theorem dX6_saved_100 : decode cX6_saved 100 = .ok (.goto (-90), 3) := by decide +kernel
theorem dX6_saved_103 : decode cX6_saved 103 = .ok (.iload_n 3, 1) := by decide +kernel
theorem dX6_saved_104 : decode cX6_saved 104 = .ok (.ireturn, 1) := by decide +kernel
theorem dX6_longestRun_0 : decode cX6_longestRun 0 = .ok (.iconst 0, 1) := by decide +kernel
theorem dX6_longestRun_1 : decode cX6_longestRun 1 = .ok (.istore 4, 2) := by decide +kernel
theorem dX6_longestRun_3 : decode cX6_longestRun 3 = .ok (.iload 4, 2) := by decide +kernel
theorem dX6_longestRun_5 : decode cX6_longestRun 5 = .ok (.bipush 6, 2) := by decide +kernel
theorem dX6_longestRun_7 : decode cX6_longestRun 7 = .ok (.if_icmp .ge 28, 3) := by decide +kernel
theorem dX6_longestRun_10 : decode cX6_longestRun 10 = .ok (.iload_n 2, 1) := by decide +kernel
theorem dX6_longestRun_11 : decode cX6_longestRun 11 = .ok (.iload 4, 2) := by decide +kernel
theorem dX6_longestRun_13 : decode cX6_longestRun 13 = .ok (.iadd, 1) := by decide +kernel
theorem dX6_longestRun_14 : decode cX6_longestRun 14 = .ok (.iload_n 3, 1) := by decide +kernel
theorem dX6_longestRun_15 : decode cX6_longestRun 15 = .ok (.if_icmp .ge 20, 3) := by decide +kernel
theorem dX6_longestRun_18 : decode cX6_longestRun 18 = .ok (.aload_n 1, 1) := by decide +kernel
theorem dX6_longestRun_19 : decode cX6_longestRun 19 = .ok (.iload_n 2, 1) := by decide +kernel
theorem dX6_longestRun_20 : decode cX6_longestRun 20 = .ok (.iload 4, 2) := by decide +kernel
theorem dX6_longestRun_22 : decode cX6_longestRun 22 = .ok (.iadd, 1) := by decide +kernel
theorem dX6_longestRun_23 : decode cX6_longestRun 23 = .ok (.invokevirtual 105, 3) := by decide +kernel
theorem dX6_longestRun_26 : decode cX6_longestRun 26 = .ok (.ifCond .eq 9, 3) := by decide +kernel
theorem dX6_longestRun_29 : decode cX6_longestRun 29 = .ok (.iinc 4 1, 3) := by decide +kernel
theorem dX6_longestRun_32 : decode cX6_longestRun 32 = .ok (.goto (-29), 3) := by decide +kernel
theorem dX6_longestRun_35 : decode cX6_longestRun 35 = .ok (.iload 4, 2) := by decide +kernel
theorem dX6_longestRun_37 : decode cX6_longestRun 37 = .ok (.istore 5, 2) := by decide +kernel
theorem dX6_longestRun_39 : decode cX6_longestRun 39 = .ok (.iload 5, 2) := by decide +kernel
theorem dX6_longestRun_41 : decode cX6_longestRun 41 = .ok (.iconst 1, 1) := by decide +kernel
theorem dX6_longestRun_42 : decode cX6_longestRun 42 = .ok (.if_icmp .le 36, 3) := by decide +kernel
theorem dX6_longestRun_45 : decode cX6_longestRun 45 = .ok (.aload_n 0, 1) := by decide +kernel
theorem dX6_longestRun_46 : decode cX6_longestRun 46 = .ok (.aload_n 1, 1) := by decide +kernel
theorem dX6_longestRun_47 : decode cX6_longestRun 47 = .ok (.iload_n 2, 1) := by decide +kernel
theorem dX6_longestRun_48 : decode cX6_longestRun 48 = .ok (.iload 5, 2) := by decide +kernel
theorem dX6_longestRun_50 : decode cX6_longestRun 50 = .ok (.invokevirtual 94, 3) := by decide +kernel
theorem dX6_longestRun_53 : decode cX6_longestRun 53 = .ok (.istore 6, 2) := by decide +kernel
theorem dX6_longestRun_55 : decode cX6_longestRun 55 = .ok (.iload 6, 2) := by decide +kernel
theorem dX6_longestRun_57 : decode cX6_longestRun 57 = .ok (.iconst (-1), 1) := by decide +kernel
theorem dX6_longestRun_58 : decode cX6_longestRun 58 = .ok (.if_icmp .eq 14, 3) := by decide +kernel
theorem dX6_longestRun_61 : decode cX6_longestRun 61 = .ok (.iload 6, 2) := by decide +kernel
theorem dX6_longestRun_63 : decode cX6_longestRun 63 = .ok (.sipush 255, 3) := by decide +kernel
theorem dX6_longestRun_66 : decode cX6_longestRun 66 = .ok (.if_icmp .gt 6, 3) := by decide +kernel
theorem dX6_longestRun_69 : decode cX6_longestRun 69 = .ok (.iload 5, 2) := by decide +kernel
theorem dX6_longestRun_71 : decode cX6_longestRun 71 = .ok (.ireturn, 1) := by decide +kernel
theorem dX6_longestRun_72 : decode cX6_longestRun 72 = .ok (.iinc 5 (-1), 3) := by decide +kernel
theorem dX6_longestRun_75 : decode cX6_longestRun 75 = .ok (.goto (-36), 3) := by decide +kernel
theorem dX6_longestRun_78 : decode cX6_longestRun 78 = .ok (.iload 4, 2) := by decide +kernel
theorem dX6_longestRun_80 : decode cX6_longestRun 80 = .ok (.iconst 1, 1) := by decide +kernel
theorem dX6_longestRun_81 : decode cX6_longestRun 81 = .ok (.invokestatic 109, 3) := by decide +kernel
theorem dX6_longestRun_84 : decode cX6_longestRun 84 = .ok (.ireturn, 1) := by decide +kernel
theorem dX6_rowOfRun_0 : decode cX6_rowOfRun 0 = .ok (.iconst 0, 1) := by decide +kernel
theorem dX6_rowOfRun_1 : decode cX6_rowOfRun 1 = .ok (.istore 4, 2) := by decide +kernel
theorem dX6_rowOfRun_3 : decode cX6_rowOfRun 3 = .ok (.iconst 0, 1) := by decide +kernel
theorem dX6_rowOfRun_4 : decode cX6_rowOfRun 4 = .ok (.istore 5, 2) := by decide +kernel
theorem dX6_rowOfRun_6 : decode cX6_rowOfRun 6 = .ok (.iload_n 2, 1) := by decide +kernel
theorem dX6_rowOfRun_7 : decode cX6_rowOfRun 7 = .ok (.istore 6, 2) := by decide +kernel
theorem dX6_rowOfRun_9 : decode cX6_rowOfRun 9 = .ok (.iload 6, 2) := by decide +kernel
theorem dX6_rowOfRun_11 : decode cX6_rowOfRun 11 = .ok (.iload_n 2, 1) := by decide +kernel
theorem dX6_rowOfRun_12 : decode cX6_rowOfRun 12 = .ok (.iload_n 3, 1) := by decide +kernel
theorem dX6_rowOfRun_13 : decode cX6_rowOfRun 13 = .ok (.iadd, 1) := by decide +kernel
theorem dX6_rowOfRun_14 : decode cX6_rowOfRun 14 = .ok (.if_icmp .ge 52, 3) := by decide +kernel
theorem dX6_rowOfRun_17 : decode cX6_rowOfRun 17 = .ok (.aload_n 1, 1) := by decide +kernel
theorem dX6_rowOfRun_18 : decode cX6_rowOfRun 18 = .ok (.getfield 112, 3) := by decide +kernel
theorem dX6_rowOfRun_21 : decode cX6_rowOfRun 21 = .ok (.iload 6, 2) := by decide +kernel
theorem dX6_rowOfRun_23 : decode cX6_rowOfRun 23 = .ok (.iaload, 1) := by decide +kernel
theorem dX6_rowOfRun_24 : decode cX6_rowOfRun 24 = .ok (.istore 7, 2) := by decide +kernel
theorem dX6_rowOfRun_26 : decode cX6_rowOfRun 26 = .ok (.iload 5, 2) := by decide +kernel
theorem dX6_rowOfRun_28 : decode cX6_rowOfRun 28 = .ok (.getstatic 37, 3) := by decide +kernel
theorem dX6_rowOfRun_31 : decode cX6_rowOfRun 31 = .ok (.iload 7, 2) := by decide +kernel
theorem dX6_rowOfRun_33 : decode cX6_rowOfRun 33 = .ok (.iaload, 1) := by decide +kernel
theorem dX6_rowOfRun_34 : decode cX6_rowOfRun 34 = .ok (.iload 4, 2) := by decide +kernel
theorem dX6_rowOfRun_36 : decode cX6_rowOfRun 36 = .ok (.isub, 1) := by decide +kernel
theorem dX6_rowOfRun_37 : decode cX6_rowOfRun 37 = .ok (.invokestatic 100, 3) := by decide +kernel
theorem dX6_rowOfRun_40 : decode cX6_rowOfRun 40 = .ok (.istore 5, 2) := by decide +kernel
theorem dX6_rowOfRun_42 : decode cX6_rowOfRun 42 = .ok (.iload 4, 2) := by decide +kernel
theorem dX6_rowOfRun_44 : decode cX6_rowOfRun 44 = .ok (.getstatic 34, 3) := by decide +kernel
theorem dX6_rowOfRun_47 : decode cX6_rowOfRun 47 = .ok (.iload 7, 2) := by decide +kernel
theorem dX6_rowOfRun_49 : decode cX6_rowOfRun 49 = .ok (.iaload, 1) := by decide +kernel
theorem dX6_rowOfRun_50 : decode cX6_rowOfRun 50 = .ok (.getstatic 37, 3) := by decide +kernel
theorem dX6_rowOfRun_53 : decode cX6_rowOfRun 53 = .ok (.iload 7, 2) := by decide +kernel
theorem dX6_rowOfRun_55 : decode cX6_rowOfRun 55 = .ok (.iaload, 1) := by decide +kernel
theorem dX6_rowOfRun_56 : decode cX6_rowOfRun 56 = .ok (.isub, 1) := by decide +kernel
theorem dX6_rowOfRun_57 : decode cX6_rowOfRun 57 = .ok (.iadd, 1) := by decide +kernel
theorem dX6_rowOfRun_58 : decode cX6_rowOfRun 58 = .ok (.istore 4, 2) := by decide +kernel
theorem dX6_rowOfRun_60 : decode cX6_rowOfRun 60 = .ok (.iinc 6 1, 3) := by decide +kernel
theorem dX6_rowOfRun_63 : decode cX6_rowOfRun 63 = .ok (.goto (-54), 3) := by decide +kernel
theorem dX6_rowOfRun_66 : decode cX6_rowOfRun 66 = .ok (.aload_n 0, 1) := by decide +kernel
theorem dX6_rowOfRun_67 : decode cX6_rowOfRun 67 = .ok (.iload 5, 2) := by decide +kernel
theorem dX6_rowOfRun_69 : decode cX6_rowOfRun 69 = .ok (.putfield 97, 3) := by decide +kernel
theorem dX6_rowOfRun_72 : decode cX6_rowOfRun 72 = .ok (.iload 5, 2) := by decide +kernel
theorem dX6_rowOfRun_74 : decode cX6_rowOfRun 74 = .ok (.iconst 3, 1) := by decide +kernel
theorem dX6_rowOfRun_75 : decode cX6_rowOfRun 75 = .ok (.if_icmp .le 7, 3) := by decide +kernel
theorem dX6_rowOfRun_78 : decode cX6_rowOfRun 78 = .ok (.iconst (-1), 1) := by decide +kernel
theorem dX6_rowOfRun_79 : decode cX6_rowOfRun 79 = .ok (.goto 8, 3) := by decide +kernel
theorem dX6_rowOfRun_82 : decode cX6_rowOfRun 82 = .ok (.iload 5, 2) := by decide +kernel
theorem dX6_rowOfRun_84 : decode cX6_rowOfRun 84 = .ok (.invokestatic 52, 3) := by decide +kernel
theorem dX6_rowOfRun_87 : decode cX6_rowOfRun 87 = .ok (.istore 6, 2) := by decide +kernel
theorem dX6_rowOfRun_89 : decode cX6_rowOfRun 89 = .ok (.iload_n 2, 1) := by decide +kernel
theorem dX6_rowOfRun_90 : decode cX6_rowOfRun 90 = .ok (.istore 7, 2) := by decide +kernel
theorem dX6_rowOfRun_92 : decode cX6_rowOfRun 92 = .ok (.iload 7, 2) := by decide +kernel
theorem dX6_rowOfRun_94 : decode cX6_rowOfRun 94 = .ok (.iload_n 2, 1) := by decide +kernel
theorem dX6_rowOfRun_95 : decode cX6_rowOfRun 95 = .ok (.iload_n 3, 1) := by decide +kernel
theorem dX6_rowOfRun_96 : decode cX6_rowOfRun 96 = .ok (.iadd, 1) := by decide +kernel
theorem dX6_rowOfRun_97 : decode cX6_rowOfRun 97 = .ok (.if_icmp .ge 29, 3) := by decide +kernel
theorem dX6_rowOfRun_100 : decode cX6_rowOfRun 100 = .ok (.iload 6, 2) := by decide +kernel
theorem dX6_rowOfRun_102 : decode cX6_rowOfRun 102 = .ok (.iconst (-1), 1) := by decide +kernel
theorem dX6_rowOfRun_103 : decode cX6_rowOfRun 103 = .ok (.if_icmp .eq 23, 3) := by decide +kernel
theorem dX6_rowOfRun_106 : decode cX6_rowOfRun 106 = .ok (.iload 6, 2) := by decide +kernel
theorem dX6_rowOfRun_108 : decode cX6_rowOfRun 108 = .ok (.aload_n 1, 1) := by decide +kernel
theorem dX6_rowOfRun_109 : decode cX6_rowOfRun 109 = .ok (.getfield 112, 3) := by decide +kernel
theorem dX6_rowOfRun_112 : decode cX6_rowOfRun 112 = .ok (.iload 7, 2) := by decide +kernel
theorem dX6_rowOfRun_114 : decode cX6_rowOfRun 114 = .ok (.iaload, 1) := by decide +kernel
theorem dX6_rowOfRun_115 : decode cX6_rowOfRun 115 = .ok (.invokestatic 68, 3) := by decide +kernel
theorem dX6_rowOfRun_118 : decode cX6_rowOfRun 118 = .ok (.istore 6, 2) := by decide +kernel
theorem dX6_rowOfRun_120 : decode cX6_rowOfRun 120 = .ok (.iinc 7 1, 3) := by decide +kernel
theorem dX6_rowOfRun_123 : decode cX6_rowOfRun 123 = .ok (.goto (-31), 3) := by decide +kernel
theorem dX6_rowOfRun_126 : decode cX6_rowOfRun 126 = .ok (.iload 6, 2) := by decide +kernel
theorem dX6_rowOfRun_128 : decode cX6_rowOfRun 128 = .ok (.ireturn, 1) := by decide +kernel
theorem dX7_init_0 : decode cX7_init 0 = .ok (.aload_n 0, 1) := by decide +kernel
theorem dX7_init_1 : decode cX7_init 1 = .ok (.invokespecial 3, 3) := by decide +kernel
theorem dX7_init_4 : decode cX7_init 4 = .ok (.aload_n 0, 1) := by decide +kernel
theorem dX7_init_5 : decode cX7_init 5 = .ok (.new 9, 3) := by decide +kernel
theorem dX7_init_8 : decode cX7_init 8 = .ok (.dup, 1) := by decide +kernel
theorem dX7_init_9 : decode cX7_init 9 = .ok (.invokespecial 11, 3) := by decide +kernel
theorem dX7_init_12 : decode cX7_init 12 = .ok (.putfield 12, 3) := by decide +kernel
theorem dX7_init_15 : decode cX7_init 15 = .ok (.aload_n 0, 1) := by decide +kernel
theorem dX7_init_16 : decode cX7_init 16 = .ok (.new 18, 3) := by decide +kernel
theorem dX7_init_19 : decode cX7_init 19 = .ok (.dup, 1) := by decide +kernel
theorem dX7_init_20 : decode cX7_init 20 = .ok (.invokespecial 20, 3) := by decide +kernel
theorem dX7_init_23 : decode cX7_init 23 = .ok (.putfield 21, 3) := by decide +kernel
theorem dX7_init_26 : decode cX7_init 26 = .ok (.aload_n 0, 1) := by decide +kernel
theorem dX7_init_27 : decode cX7_init 27 = .ok (.new 25, 3) := by decide +kernel
theorem dX7_init_30 : decode cX7_init 30 = .ok (.dup, 1) := by decide +kernel
theorem dX7_init_31 : decode cX7_init 31 = .ok (.invokespecial 27, 3) := by decide +kernel
theorem dX7_init_34 : decode cX7_init 34 = .ok (.putfield 28, 3) := by decide +kernel
theorem dX7_init_37 : decode cX7_init 37 = .ok (.aload_n 0, 1) := by decide +kernel
theorem dX7_init_38 : decode cX7_init 38 = .ok (.bipush 30, 2) := by decide +kernel
theorem dX7_init_40 : decode cX7_init 40 = .ok (.newarray .int, 2) := by decide +kernel
theorem dX7_init_42 : decode cX7_init 42 = .ok (.putfield 32, 3) := by decide +kernel
theorem dX7_init_45 : decode cX7_init 45 = .ok (.aload_n 0, 1) := by decide +kernel
theorem dX7_init_46 : decode cX7_init 46 = .ok (.bipush 30, 2) := by decide +kernel
theorem dX7_init_48 : decode cX7_init 48 = .ok (.newarray .int, 2) := by decide +kernel
theorem dX7_init_50 : decode cX7_init 50 = .ok (.putfield 36, 3) := by decide +kernel
theorem dX7_init_53 : decode cX7_init 53 = .ok (.aload_n 0, 1) := by decide +kernel
theorem dX7_init_54 : decode cX7_init 54 = .ok (.bipush 30, 2) := by decide +kernel
theorem dX7_init_56 : decode cX7_init 56 = .ok (.newarray .boolean, 2) := by decide +kernel
theorem dX7_init_58 : decode cX7_init 58 = .ok (.putfield 39, 3) := by decide +kernel
theorem dX7_init_61 : decode cX7_init 61 = .ok (.aload_n 0, 1) := by decide +kernel
theorem dX7_init_62 : decode cX7_init 62 = .ok (.bipush 30, 2) := by decide +kernel
theorem dX7_init_64 : decode cX7_init 64 = .ok (.newarray .int, 2) := by decide +kernel
theorem dX7_init_66 : decode cX7_init 66 = .ok (.putfield 43, 3) := by decide +kernel
theorem dX7_init_69 : decode cX7_init 69 = .ok (.aload_n 0, 1) := by decide +kernel
theorem dX7_init_70 : decode cX7_init 70 = .ok (.bipush 30, 2) := by decide +kernel
theorem dX7_init_72 : decode cX7_init 72 = .ok (.newarray .int, 2) := by decide +kernel
theorem dX7_init_74 : decode cX7_init 74 = .ok (.putfield 46, 3) := by decide +kernel
theorem dX7_init_77 : decode cX7_init 77 = .ok (.aload_n 0, 1) := by decide +kernel
theorem dX7_init_78 : decode cX7_init 78 = .ok (.bipush 15, 2) := by decide +kernel
theorem dX7_init_80 : decode cX7_init 80 = .ok (.newarray .int, 2) := by decide +kernel
theorem dX7_init_82 : decode cX7_init 82 = .ok (.putfield 49, 3) := by decide +kernel
theorem dX7_init_85 : decode cX7_init 85 = .ok (.aload_n 0, 1) := by decide +kernel
theorem dX7_init_86 : decode cX7_init 86 = .ok (.bipush 15, 2) := by decide +kernel
theorem dX7_init_88 : decode cX7_init 88 = .ok (.newarray .int, 2) := by decide +kernel
theorem dX7_init_90 : decode cX7_init 90 = .ok (.putfield 52, 3) := by decide +kernel
theorem dX7_init_93 : decode cX7_init 93 = .ok (.return_, 1) := by decide +kernel
theorem dX7_forget_0 : decode cX7_forget 0 = .ok (.aload_n 0, 1) := by decide +kernel
theorem dX7_forget_1 : decode cX7_forget 1 = .ok (.iconst 0, 1) := by decide +kernel
theorem dX7_forget_2 : decode cX7_forget 2 = .ok (.putfield 55, 3) := by decide +kernel
theorem dX7_forget_5 : decode cX7_forget 5 = .ok (.return_, 1) := by decide +kernel
theorem dX7_tell_0 : decode cX7_tell 0 = .ok (.aload_n 0, 1) := by decide +kernel
theorem dX7_tell_1 : decode cX7_tell 1 = .ok (.getfield 55, 3) := by decide +kernel
theorem dX7_tell_4 : decode cX7_tell 4 = .ok (.bipush 30, 2) := by decide +kernel
theorem dX7_tell_6 : decode cX7_tell 6 = .ok (.if_icmp .lt 5, 3) := by decide +kernel
theorem dX7_tell_9 : decode cX7_tell 9 = .ok (.iconst (-1), 1) := by decide +kernel
theorem dX7_tell_10 : decode cX7_tell 10 = .ok (.ireturn, 1) := by decide +kernel
theorem dX7_tell_11 : decode cX7_tell 11 = .ok (.aload_n 0, 1) := by decide +kernel
theorem dX7_tell_12 : decode cX7_tell 12 = .ok (.getfield 32, 3) := by decide +kernel
theorem dX7_tell_15 : decode cX7_tell 15 = .ok (.aload_n 0, 1) := by decide +kernel
theorem dX7_tell_16 : decode cX7_tell 16 = .ok (.getfield 55, 3) := by decide +kernel
theorem dX7_tell_19 : decode cX7_tell 19 = .ok (.iload_n 1, 1) := by decide +kernel
theorem dX7_tell_20 : decode cX7_tell 20 = .ok (.iastore, 1) := by decide +kernel
theorem dX7_tell_21 : decode cX7_tell 21 = .ok (.aload_n 0, 1) := by decide +kernel
theorem dX7_tell_22 : decode cX7_tell 22 = .ok (.getfield 36, 3) := by decide +kernel
theorem dX7_tell_25 : decode cX7_tell 25 = .ok (.aload_n 0, 1) := by decide +kernel
theorem dX7_tell_26 : decode cX7_tell 26 = .ok (.getfield 55, 3) := by decide +kernel
theorem dX7_tell_29 : decode cX7_tell 29 = .ok (.iload_n 2, 1) := by decide +kernel
theorem dX7_tell_30 : decode cX7_tell 30 = .ok (.iastore, 1) := by decide +kernel
theorem dX7_tell_31 : decode cX7_tell 31 = .ok (.aload_n 0, 1) := by decide +kernel
theorem dX7_tell_32 : decode cX7_tell 32 = .ok (.getfield 39, 3) := by decide +kernel
theorem dX7_tell_35 : decode cX7_tell 35 = .ok (.aload_n 0, 1) := by decide +kernel
theorem dX7_tell_36 : decode cX7_tell 36 = .ok (.getfield 55, 3) := by decide +kernel
theorem dX7_tell_39 : decode cX7_tell 39 = .ok (.iload_n 3, 1) := by decide +kernel
theorem dX7_tell_40 : decode cX7_tell 40 = .ok (.bastore, 1) := by decide +kernel
theorem dX7_tell_41 : decode cX7_tell 41 = .ok (.aload_n 0, 1) := by decide +kernel
theorem dX7_tell_42 : decode cX7_tell 42 = .ok (.getfield 43, 3) := by decide +kernel
theorem dX7_tell_45 : decode cX7_tell 45 = .ok (.aload_n 0, 1) := by decide +kernel
theorem dX7_tell_46 : decode cX7_tell 46 = .ok (.getfield 55, 3) := by decide +kernel
theorem dX7_tell_49 : decode cX7_tell 49 = .ok (.iload 4, 2) := by decide +kernel
theorem dX7_tell_51 : decode cX7_tell 51 = .ok (.iastore, 1) := by decide +kernel
theorem dX7_tell_52 : decode cX7_tell 52 = .ok (.aload_n 0, 1) := by decide +kernel
theorem dX7_tell_53 : decode cX7_tell 53 = .ok (.getfield 46, 3) := by decide +kernel
theorem dX7_tell_56 : decode cX7_tell 56 = .ok (.aload_n 0, 1) := by decide +kernel
theorem dX7_tell_57 : decode cX7_tell 57 = .ok (.getfield 55, 3) := by decide +kernel
theorem dX7_tell_60 : decode cX7_tell 60 = .ok (.iconst (-1), 1) := by decide +kernel
theorem dX7_tell_61 : decode cX7_tell 61 = .ok (.iastore, 1) := by decide +kernel
theorem dX7_tell_62 : decode cX7_tell 62 = .ok (.aload_n 0, 1) := by decide +kernel
theorem dX7_tell_63 : decode cX7_tell 63 = .ok (.dup, 1) := by decide +kernel
theorem dX7_tell_64 : decode cX7_tell 64 = .ok (.getfield 55, 3) := by decide +kernel
theorem dX7_tell_67 : decode cX7_tell 67 = .ok (.iconst 1, 1) := by decide +kernel
theorem dX7_tell_68 : decode cX7_tell 68 = .ok (.iadd, 1) := by decide +kernel
theorem dX7_tell_69 : decode cX7_tell 69 = .ok (.putfield 55, 3) := by decide +kernel
theorem dX7_tell_72 : decode cX7_tell 72 = .ok (.aload_n 0, 1) := by decide +kernel
theorem dX7_tell_73 : decode cX7_tell 73 = .ok (.getfield 55, 3) := by decide +kernel
theorem dX7_tell_76 : decode cX7_tell 76 = .ok (.iconst 1, 1) := by decide +kernel
theorem dX7_tell_77 : decode cX7_tell 77 = .ok (.isub, 1) := by decide +kernel
theorem dX7_tell_78 : decode cX7_tell 78 = .ok (.ireturn, 1) := by decide +kernel
theorem dX7_takeBack_0 : decode cX7_takeBack 0 = .ok (.iload_n 1, 1) := by decide +kernel
theorem dX7_takeBack_1 : decode cX7_takeBack 1 = .ok (.ifCond .lt 21, 3) := by decide +kernel
theorem dX7_takeBack_4 : decode cX7_takeBack 4 = .ok (.iload_n 1, 1) := by decide +kernel
theorem dX7_takeBack_5 : decode cX7_takeBack 5 = .ok (.aload_n 0, 1) := by decide +kernel
theorem dX7_takeBack_6 : decode cX7_takeBack 6 = .ok (.getfield 55, 3) := by decide +kernel
theorem dX7_takeBack_9 : decode cX7_takeBack 9 = .ok (.if_icmp .ge 13, 3) := by decide +kernel
theorem dX7_takeBack_12 : decode cX7_takeBack 12 = .ok (.aload_n 0, 1) := by decide +kernel
theorem dX7_takeBack_13 : decode cX7_takeBack 13 = .ok (.getfield 46, 3) := by decide +kernel
theorem dX7_takeBack_16 : decode cX7_takeBack 16 = .ok (.iload_n 1, 1) := by decide +kernel
theorem dX7_takeBack_17 : decode cX7_takeBack 17 = .ok (.iaload, 1) := by decide +kernel
theorem dX7_takeBack_18 : decode cX7_takeBack 18 = .ok (.iconst (-1), 1) := by decide +kernel
theorem dX7_takeBack_19 : decode cX7_takeBack 19 = .ok (.if_icmp .eq 5, 3) := by decide +kernel
theorem dX7_takeBack_22 : decode cX7_takeBack 22 = .ok (.iconst 0, 1) := by decide +kernel
theorem dX7_takeBack_23 : decode cX7_takeBack 23 = .ok (.ireturn, 1) := by decide +kernel
theorem dX7_takeBack_24 : decode cX7_takeBack 24 = .ok (.aload_n 0, 1) := by decide +kernel
theorem dX7_takeBack_25 : decode cX7_takeBack 25 = .ok (.getfield 46, 3) := by decide +kernel
theorem dX7_takeBack_28 : decode cX7_takeBack 28 = .ok (.iload_n 1, 1) := by decide +kernel
theorem dX7_takeBack_29 : decode cX7_takeBack 29 = .ok (.iload_n 2, 1) := by decide +kernel
theorem dX7_takeBack_30 : decode cX7_takeBack 30 = .ok (.iastore, 1) := by decide +kernel
theorem dX7_takeBack_31 : decode cX7_takeBack 31 = .ok (.iconst 1, 1) := by decide +kernel
theorem dX7_takeBack_32 : decode cX7_takeBack 32 = .ok (.ireturn, 1) := by decide +kernel
theorem dX7_isKnown_0 : decode cX7_isKnown 0 = .ok (.aload_n 0, 1) := by decide +kernel
theorem dX7_isKnown_1 : decode cX7_isKnown 1 = .ok (.getfield 46, 3) := by decide +kernel
theorem dX7_isKnown_4 : decode cX7_isKnown 4 = .ok (.iload_n 1, 1) := by decide +kernel
theorem dX7_isKnown_5 : decode cX7_isKnown 5 = .ok (.iaload, 1) := by decide +kernel
theorem dX7_isKnown_6 : decode cX7_isKnown 6 = .ok (.iconst (-1), 1) := by decide +kernel
theorem dX7_isKnown_7 : decode cX7_isKnown 7 = .ok (.if_icmp .eq 17, 3) := by decide +kernel
theorem dX7_isKnown_10 : decode cX7_isKnown 10 = .ok (.aload_n 0, 1) := by decide +kernel
theorem dX7_isKnown_11 : decode cX7_isKnown 11 = .ok (.getfield 46, 3) := by decide +kernel
theorem dX7_isKnown_14 : decode cX7_isKnown 14 = .ok (.iload_n 1, 1) := by decide +kernel
theorem dX7_isKnown_15 : decode cX7_isKnown 15 = .ok (.iaload, 1) := by decide +kernel
theorem dX7_isKnown_16 : decode cX7_isKnown 16 = .ok (.iload_n 2, 1) := by decide +kernel
theorem dX7_isKnown_17 : decode cX7_isKnown 17 = .ok (.if_icmp .gt 7, 3) := by decide +kernel
theorem dX7_isKnown_20 : decode cX7_isKnown 20 = .ok (.iconst 1, 1) := by decide +kernel
theorem dX7_isKnown_21 : decode cX7_isKnown 21 = .ok (.goto 4, 3) := by decide +kernel
theorem dX7_isKnown_24 : decode cX7_isKnown 24 = .ok (.iconst 0, 1) := by decide +kernel
theorem dX7_isKnown_25 : decode cX7_isKnown 25 = .ok (.istore_n 3, 1) := by decide +kernel
theorem dX7_isKnown_26 : decode cX7_isKnown 26 = .ok (.aload_n 0, 1) := by decide +kernel
theorem dX7_isKnown_27 : decode cX7_isKnown 27 = .ok (.getfield 43, 3) := by decide +kernel
theorem dX7_isKnown_30 : decode cX7_isKnown 30 = .ok (.iload_n 1, 1) := by decide +kernel
theorem dX7_isKnown_31 : decode cX7_isKnown 31 = .ok (.iaload, 1) := by decide +kernel
theorem dX7_isKnown_32 : decode cX7_isKnown 32 = .ok (.iload_n 2, 1) := by decide +kernel
theorem dX7_isKnown_33 : decode cX7_isKnown 33 = .ok (.if_icmp .gt 11, 3) := by decide +kernel
theorem dX7_isKnown_36 : decode cX7_isKnown 36 = .ok (.iload_n 3, 1) := by decide +kernel
theorem dX7_isKnown_37 : decode cX7_isKnown 37 = .ok (.ifCond .ne 7, 3) := by decide +kernel
theorem dX7_isKnown_40 : decode cX7_isKnown 40 = .ok (.iconst 1, 1) := by decide +kernel
theorem dX7_isKnown_41 : decode cX7_isKnown 41 = .ok (.goto 4, 3) := by decide +kernel
theorem dX7_isKnown_44 : decode cX7_isKnown 44 = .ok (.iconst 0, 1) := by decide +kernel
theorem dX7_isKnown_45 : decode cX7_isKnown 45 = .ok (.ireturn, 1) := by decide +kernel
theorem dX7_collect_0 : decode cX7_collect 0 = .ok (.aload_n 0, 1) := by decide +kernel
theorem dX7_collect_1 : decode cX7_collect 1 = .ok (.iconst 0, 1) := by decide +kernel
theorem dX7_collect_2 : decode cX7_collect 2 = .ok (.putfield 59, 3) := by decide +kernel
theorem dX7_collect_5 : decode cX7_collect 5 = .ok (.aload_n 1, 1) := by decide +kernel
theorem dX7_collect_6 : decode cX7_collect 6 = .ok (.getfield 62, 3) := by decide +kernel
theorem dX7_collect_9 : decode cX7_collect 9 = .ok (.iconst 1, 1) := by decide +kernel
theorem dX7_collect_10 : decode cX7_collect 10 = .ok (.isub, 1) := by decide +kernel
theorem dX7_collect_11 : decode cX7_collect 11 = .ok (.istore_n 3, 1) := by decide +kernel
theorem dX7_collect_12 : decode cX7_collect 12 = .ok (.iload_n 3, 1) := by decide +kernel
theorem dX7_collect_13 : decode cX7_collect 13 = .ok (.ifCond .lt 27, 3) := by decide +kernel
theorem dX7_collect_16 : decode cX7_collect 16 = .ok (.aload_n 1, 1) := by decide +kernel
theorem dX7_collect_17 : decode cX7_collect 17 = .ok (.iload_n 3, 1) := by decide +kernel
theorem dX7_collect_18 : decode cX7_collect 18 = .ok (.iconst 0, 1) := by decide +kernel
theorem dX7_collect_19 : decode cX7_collect 19 = .ok (.invokevirtual 67, 3) := by decide +kernel
theorem dX7_collect_22 : decode cX7_collect 22 = .ok (.ifCond .eq 18, 3) := by decide +kernel
theorem dX7_collect_25 : decode cX7_collect 25 = .ok (.aload_n 1, 1) := by decide +kernel
theorem dX7_collect_26 : decode cX7_collect 26 = .ok (.getfield 71, 3) := by decide +kernel
theorem dX7_collect_29 : decode cX7_collect 29 = .ok (.aload_n 1, 1) := by decide +kernel
theorem dX7_collect_30 : decode cX7_collect 30 = .ok (.getfield 74, 3) := by decide +kernel
theorem dX7_collect_33 : decode cX7_collect 33 = .ok (.iload_n 3, 1) := by decide +kernel
theorem dX7_collect_34 : decode cX7_collect 34 = .ok (.iaload, 1) := by decide +kernel
theorem dX7_collect_35 : decode cX7_collect 35 = .ok (.iaload, 1) := by decide +kernel
theorem dX7_collect_36 : decode cX7_collect 36 = .ok (.iconst 2, 1) := by decide +kernel
theorem dX7_collect_37 : decode cX7_collect 37 = .ok (.if_icmp .le 5, 3) := by decide +kernel
theorem dX7_collect_40 : decode cX7_collect 40 = .ok (.iconst 0, 1) := by decide +kernel
theorem dX7_collect_41 : decode cX7_collect 41 = .ok (.ireturn, 1) := by decide +kernel
theorem dX7_collect_42 : decode cX7_collect 42 = .ok (.iconst 0, 1) := by decide +kernel
theorem dX7_collect_43 : decode cX7_collect 43 = .ok (.istore 4, 2) := by decide +kernel
theorem dX7_collect_45 : decode cX7_collect 45 = .ok (.iload 4, 2) := by decide +kernel
theorem dX7_collect_47 : decode cX7_collect 47 = .ok (.bipush 15, 2) := by decide +kernel
theorem dX7_collect_49 : decode cX7_collect 49 = .ok (.if_icmp .ge 51, 3) := by decide +kernel
theorem dX7_collect_52 : decode cX7_collect 52 = .ok (.aload_n 0, 1) := by decide +kernel
theorem dX7_collect_53 : decode cX7_collect 53 = .ok (.aload_n 1, 1) := by decide +kernel
theorem dX7_collect_54 : decode cX7_collect 54 = .ok (.iload 4, 2) := by decide +kernel
theorem dX7_collect_56 : decode cX7_collect 56 = .ok (.invokevirtual 77, 3) := by decide +kernel
theorem dX7_collect_59 : decode cX7_collect 59 = .ok (.ifCond .eq 35, 3) := by decide +kernel
theorem dX7_collect_62 : decode cX7_collect 62 = .ok (.aload_n 0, 1) := by decide +kernel
theorem dX7_collect_63 : decode cX7_collect 63 = .ok (.aload_n 1, 1) := by decide +kernel
theorem dX7_collect_64 : decode cX7_collect 64 = .ok (.iload 4, 2) := by decide +kernel
theorem dX7_collect_66 : decode cX7_collect 66 = .ok (.iload_n 2, 1) := by decide +kernel
theorem dX7_collect_67 : decode cX7_collect 67 = .ok (.invokevirtual 81, 3) := by decide +kernel
theorem dX7_collect_70 : decode cX7_collect 70 = .ok (.ifCond .eq 24, 3) := by decide +kernel
theorem dX7_collect_73 : decode cX7_collect 73 = .ok (.aload_n 0, 1) := by decide +kernel
theorem dX7_collect_74 : decode cX7_collect 74 = .ok (.getfield 49, 3) := by decide +kernel
theorem dX7_collect_77 : decode cX7_collect 77 = .ok (.aload_n 0, 1) := by decide +kernel
theorem dX7_collect_78 : decode cX7_collect 78 = .ok (.getfield 59, 3) := by decide +kernel
theorem dX7_collect_81 : decode cX7_collect 81 = .ok (.iload 4, 2) := by decide +kernel
theorem dX7_collect_83 : decode cX7_collect 83 = .ok (.iastore, 1) := by decide +kernel
theorem dX7_collect_84 : decode cX7_collect 84 = .ok (.aload_n 0, 1) := by decide +kernel
theorem dX7_collect_85 : decode cX7_collect 85 = .ok (.dup, 1) := by decide +kernel
theorem dX7_collect_86 : decode cX7_collect 86 = .ok (.getfield 59, 3) := by decide +kernel
theorem dX7_collect_89 : decode cX7_collect 89 = .ok (.iconst 1, 1) := by decide +kernel
theorem dX7_collect_90 : decode cX7_collect 90 = .ok (.iadd, 1) := by decide +kernel
theorem dX7_collect_91 : decode cX7_collect 91 = .ok (.putfield 59, 3) := by decide +kernel
theorem dX7_collect_94 : decode cX7_collect 94 = .ok (.iinc 4 1, 3) := by decide +kernel
theorem dX7_collect_97 : decode cX7_collect 97 = .ok (.goto (-52), 3) := by decide +kernel
theorem dX7_collect_100 : decode cX7_collect 100 = .ok (.aload_n 0, 1) := by decide +kernel
theorem dX7_collect_101 : decode cX7_collect 101 = .ok (.getfield 59, 3) := by decide +kernel
theorem dX7_collect_104 : decode cX7_collect 104 = .ok (.ireturn, 1) := by decide +kernel
theorem dX7_canStandFirst_0 : decode cX7_canStandFirst 0 = .ok (.aload_n 1, 1) := by decide +kernel
theorem dX7_canStandFirst_1 : decode cX7_canStandFirst 1 = .ok (.getfield 62, 3) := by decide +kernel
theorem dX7_canStandFirst_4 : decode cX7_canStandFirst 4 = .ok (.iconst 1, 1) := by decide +kernel
theorem dX7_canStandFirst_5 : decode cX7_canStandFirst 5 = .ok (.isub, 1) := by decide +kernel
theorem dX7_canStandFirst_6 : decode cX7_canStandFirst 6 = .ok (.istore_n 3, 1) := by decide +kernel
theorem dX7_canStandFirst_7 : decode cX7_canStandFirst 7 = .ok (.aload_n 0, 1) := by decide +kernel
theorem dX7_canStandFirst_8 : decode cX7_canStandFirst 8 = .ok (.getfield 12, 3) := by decide +kernel
theorem dX7_canStandFirst_11 : decode cX7_canStandFirst 11 = .ok (.aload_n 1, 1) := by decide +kernel
theorem dX7_canStandFirst_12 : decode cX7_canStandFirst 12 = .ok (.invokevirtual 85, 3) := by decide +kernel
theorem dX7_canStandFirst_15 : decode cX7_canStandFirst 15 = .ok (.aload_n 0, 1) := by decide +kernel
theorem dX7_canStandFirst_16 : decode cX7_canStandFirst 16 = .ok (.getfield 12, 3) := by decide +kernel
theorem dX7_canStandFirst_19 : decode cX7_canStandFirst 19 = .ok (.iconst 0, 1) := by decide +kernel
theorem dX7_canStandFirst_20 : decode cX7_canStandFirst 20 = .ok (.iload_n 2, 1) := by decide +kernel
theorem dX7_canStandFirst_21 : decode cX7_canStandFirst 21 = .ok (.invokevirtual 89, 3) := by decide +kernel
theorem dX7_canStandFirst_24 : decode cX7_canStandFirst 24 = .ok (.istore 4, 2) := by decide +kernel
theorem dX7_canStandFirst_26 : decode cX7_canStandFirst 26 = .ok (.aload_n 1, 1) := by decide +kernel
theorem dX7_canStandFirst_27 : decode cX7_canStandFirst 27 = .ok (.getfield 74, 3) := by decide +kernel
theorem dX7_canStandFirst_30 : decode cX7_canStandFirst 30 = .ok (.iload_n 3, 1) := by decide +kernel
theorem dX7_canStandFirst_31 : decode cX7_canStandFirst 31 = .ok (.iaload, 1) := by decide +kernel
theorem dX7_canStandFirst_32 : decode cX7_canStandFirst 32 = .ok (.iconst 1, 1) := by decide +kernel
theorem dX7_canStandFirst_33 : decode cX7_canStandFirst 33 = .ok (.iadd, 1) := by decide +kernel
theorem dX7_canStandFirst_34 : decode cX7_canStandFirst 34 = .ok (.istore 5, 2) := by decide +kernel
theorem dX7_canStandFirst_36 : decode cX7_canStandFirst 36 = .ok (.iload 5, 2) := by decide +kernel
theorem dX7_canStandFirst_38 : decode cX7_canStandFirst 38 = .ok (.aload_n 1, 1) := by decide +kernel
theorem dX7_canStandFirst_39 : decode cX7_canStandFirst 39 = .ok (.getfield 74, 3) := by decide +kernel
theorem dX7_canStandFirst_42 : decode cX7_canStandFirst 42 = .ok (.iload_n 3, 1) := by decide +kernel
theorem dX7_canStandFirst_43 : decode cX7_canStandFirst 43 = .ok (.iconst 1, 1) := by decide +kernel
theorem dX7_canStandFirst_44 : decode cX7_canStandFirst 44 = .ok (.iadd, 1) := by decide +kernel
theorem dX7_canStandFirst_45 : decode cX7_canStandFirst 45 = .ok (.iaload, 1) := by decide +kernel
theorem dX7_canStandFirst_46 : decode cX7_canStandFirst 46 = .ok (.if_icmp .ge 37, 3) := by decide +kernel
theorem dX7_canStandFirst_49 : decode cX7_canStandFirst 49 = .ok (.iload 4, 2) := by decide +kernel
theorem dX7_canStandFirst_51 : decode cX7_canStandFirst 51 = .ok (.ifCond .ne 32, 3) := by decide +kernel
theorem dX7_canStandFirst_54 : decode cX7_canStandFirst 54 = .ok (.aload_n 0, 1) := by decide +kernel
theorem dX7_canStandFirst_55 : decode cX7_canStandFirst 55 = .ok (.getfield 12, 3) := by decide +kernel
theorem dX7_canStandFirst_58 : decode cX7_canStandFirst 58 = .ok (.aload_n 1, 1) := by decide +kernel
theorem dX7_canStandFirst_59 : decode cX7_canStandFirst 59 = .ok (.getfield 71, 3) := by decide +kernel
theorem dX7_canStandFirst_62 : decode cX7_canStandFirst 62 = .ok (.iload 5, 2) := by decide +kernel
theorem dX7_canStandFirst_64 : decode cX7_canStandFirst 64 = .ok (.iaload, 1) := by decide +kernel
theorem dX7_canStandFirst_65 : decode cX7_canStandFirst 65 = .ok (.aload_n 1, 1) := by decide +kernel
theorem dX7_canStandFirst_66 : decode cX7_canStandFirst 66 = .ok (.getfield 93, 3) := by decide +kernel
theorem dX7_canStandFirst_69 : decode cX7_canStandFirst 69 = .ok (.iload 5, 2) := by decide +kernel
theorem dX7_canStandFirst_71 : decode cX7_canStandFirst 71 = .ok (.iaload, 1) := by decide +kernel
theorem dX7_canStandFirst_72 : decode cX7_canStandFirst 72 = .ok (.invokevirtual 89, 3) := by decide +kernel
theorem dX7_canStandFirst_75 : decode cX7_canStandFirst 75 = .ok (.istore 4, 2) := by decide +kernel
theorem dX7_canStandFirst_77 : decode cX7_canStandFirst 77 = .ok (.iinc 5 1, 3) := by decide +kernel
theorem dX7_canStandFirst_80 : decode cX7_canStandFirst 80 = .ok (.goto (-44), 3) := by decide +kernel
theorem dX7_canStandFirst_83 : decode cX7_canStandFirst 83 = .ok (.iload 4, 2) := by decide +kernel
theorem dX7_canStandFirst_85 : decode cX7_canStandFirst 85 = .ok (.ifCond .ne 41, 3) := by decide +kernel
theorem dX7_canStandFirst_88 : decode cX7_canStandFirst 88 = .ok (.aload_n 0, 1) := by decide +kernel
theorem dX7_canStandFirst_89 : decode cX7_canStandFirst 89 = .ok (.getfield 12, 3) := by decide +kernel
theorem dX7_canStandFirst_92 : decode cX7_canStandFirst 92 = .ok (.invokevirtual 96, 3) := by decide +kernel
theorem dX7_canStandFirst_95 : decode cX7_canStandFirst 95 = .ok (.ifCond .eq 31, 3) := by decide +kernel
theorem dX7_canStandFirst_98 : decode cX7_canStandFirst 98 = .ok (.aload_n 0, 1) := by decide +kernel
theorem dX7_canStandFirst_99 : decode cX7_canStandFirst 99 = .ok (.getfield 12, 3) := by decide +kernel
theorem dX7_canStandFirst_102 : decode cX7_canStandFirst 102 = .ok (.getfield 100, 3) := by decide +kernel
theorem dX7_canStandFirst_105 : decode cX7_canStandFirst 105 = .ok (.iconst 3, 1) := by decide +kernel
theorem dX7_canStandFirst_106 : decode cX7_canStandFirst 106 = .ok (.if_icmp .gt 20, 3) := by decide +kernel
theorem dX7_canStandFirst_109 : decode cX7_canStandFirst 109 = .ok (.iconst 3, 1) := by decide +kernel
theorem dX7_canStandFirst_110 : decode cX7_canStandFirst 110 = .ok (.aload_n 0, 1) := by decide +kernel
theorem dX7_canStandFirst_111 : decode cX7_canStandFirst 111 = .ok (.getfield 12, 3) := by decide +kernel
theorem dX7_canStandFirst_114 : decode cX7_canStandFirst 114 = .ok (.getfield 103, 3) := by decide +kernel
theorem dX7_canStandFirst_117 : decode cX7_canStandFirst 117 = .ok (.iadd, 1) := by decide +kernel
theorem dX7_canStandFirst_118 : decode cX7_canStandFirst 118 = .ok (.iconst 1, 1) := by decide +kernel
theorem dX7_canStandFirst_119 : decode cX7_canStandFirst 119 = .ok (.if_icmp .lt 7, 3) := by decide +kernel
theorem dX7_canStandFirst_122 : decode cX7_canStandFirst 122 = .ok (.iconst 1, 1) := by decide +kernel
theorem dX7_canStandFirst_123 : decode cX7_canStandFirst 123 = .ok (.goto 4, 3) := by decide +kernel
theorem dX7_canStandFirst_126 : decode cX7_canStandFirst 126 = .ok (.iconst 0, 1) := by decide +kernel
theorem dX7_canStandFirst_127 : decode cX7_canStandFirst 127 = .ok (.ireturn, 1) := by decide +kernel
theorem dX7_agreesWithAll_0 : decode cX7_agreesWithAll 0 = .ok (.iconst 0, 1) := by decide +kernel
theorem dX7_agreesWithAll_1 : decode cX7_agreesWithAll 1 = .ok (.istore 4, 2) := by decide +kernel
theorem dX7_agreesWithAll_3 : decode cX7_agreesWithAll 3 = .ok (.iload 4, 2) := by decide +kernel
theorem dX7_agreesWithAll_5 : decode cX7_agreesWithAll 5 = .ok (.aload_n 0, 1) := by decide +kernel
theorem dX7_agreesWithAll_6 : decode cX7_agreesWithAll 6 = .ok (.getfield 55, 3) := by decide +kernel
theorem dX7_agreesWithAll_9 : decode cX7_agreesWithAll 9 = .ok (.if_icmp .ge 59, 3) := by decide +kernel
theorem dX7_agreesWithAll_12 : decode cX7_agreesWithAll 12 = .ok (.aload_n 0, 1) := by decide +kernel
theorem dX7_agreesWithAll_13 : decode cX7_agreesWithAll 13 = .ok (.iload 4, 2) := by decide +kernel
theorem dX7_agreesWithAll_15 : decode cX7_agreesWithAll 15 = .ok (.iload_n 3, 1) := by decide +kernel
theorem dX7_agreesWithAll_16 : decode cX7_agreesWithAll 16 = .ok (.invokevirtual 106, 3) := by decide +kernel
theorem dX7_agreesWithAll_19 : decode cX7_agreesWithAll 19 = .ok (.ifCond .eq 43, 3) := by decide +kernel
theorem dX7_agreesWithAll_22 : decode cX7_agreesWithAll 22 = .ok (.aload_n 0, 1) := by decide +kernel
theorem dX7_agreesWithAll_23 : decode cX7_agreesWithAll 23 = .ok (.aload_n 1, 1) := by decide +kernel
theorem dX7_agreesWithAll_24 : decode cX7_agreesWithAll 24 = .ok (.iload_n 2, 1) := by decide +kernel
theorem dX7_agreesWithAll_25 : decode cX7_agreesWithAll 25 = .ok (.aload_n 0, 1) := by decide +kernel
theorem dX7_agreesWithAll_26 : decode cX7_agreesWithAll 26 = .ok (.getfield 32, 3) := by decide +kernel
theorem dX7_agreesWithAll_29 : decode cX7_agreesWithAll 29 = .ok (.iload 4, 2) := by decide +kernel
theorem dX7_agreesWithAll_31 : decode cX7_agreesWithAll 31 = .ok (.iaload, 1) := by decide +kernel
theorem dX7_agreesWithAll_32 : decode cX7_agreesWithAll 32 = .ok (.invokevirtual 109, 3) := by decide +kernel
theorem dX7_agreesWithAll_35 : decode cX7_agreesWithAll 35 = .ok (.aload_n 0, 1) := by decide +kernel
theorem dX7_agreesWithAll_36 : decode cX7_agreesWithAll 36 = .ok (.getfield 36, 3) := by decide +kernel
theorem dX7_agreesWithAll_39 : decode cX7_agreesWithAll 39 = .ok (.iload 4, 2) := by decide +kernel
theorem dX7_agreesWithAll_41 : decode cX7_agreesWithAll 41 = .ok (.iaload, 1) := by decide +kernel
theorem dX7_agreesWithAll_42 : decode cX7_agreesWithAll 42 = .ok (.if_icmp .ne 7, 3) := by decide +kernel
theorem dX7_agreesWithAll_45 : decode cX7_agreesWithAll 45 = .ok (.iconst 1, 1) := by decide +kernel
theorem dX7_agreesWithAll_46 : decode cX7_agreesWithAll 46 = .ok (.goto 4, 3) := by decide +kernel
theorem dX7_agreesWithAll_49 : decode cX7_agreesWithAll 49 = .ok (.iconst 0, 1) := by decide +kernel
theorem dX7_agreesWithAll_50 : decode cX7_agreesWithAll 50 = .ok (.aload_n 0, 1) := by decide +kernel
theorem dX7_agreesWithAll_51 : decode cX7_agreesWithAll 51 = .ok (.getfield 39, 3) := by decide +kernel
theorem dX7_agreesWithAll_54 : decode cX7_agreesWithAll 54 = .ok (.iload 4, 2) := by decide +kernel
theorem dX7_agreesWithAll_56 : decode cX7_agreesWithAll 56 = .ok (.baload, 1) := by decide +kernel
theorem dX7_agreesWithAll_57 : decode cX7_agreesWithAll 57 = .ok (.if_icmp .eq 5, 3) := by decide +kernel
theorem dX7_agreesWithAll_60 : decode cX7_agreesWithAll 60 = .ok (.iconst 0, 1) := by decide +kernel
theorem dX7_agreesWithAll_61 : decode cX7_agreesWithAll 61 = .ok (.ireturn, 1) := by decide +kernel
theorem dX7_agreesWithAll_62 : decode cX7_agreesWithAll 62 = .ok (.iinc 4 1, 3) := by decide +kernel
theorem dX7_agreesWithAll_65 : decode cX7_agreesWithAll 65 = .ok (.goto (-62), 3) := by decide +kernel
theorem dX7_agreesWithAll_68 : decode cX7_agreesWithAll 68 = .ok (.iconst 1, 1) := by decide +kernel
theorem dX7_agreesWithAll_69 : decode cX7_agreesWithAll 69 = .ok (.ireturn, 1) := by decide +kernel
theorem dX7_topFor_0 : decode cX7_topFor 0 = .ok (.aload_n 1, 1) := by decide +kernel
theorem dX7_topFor_1 : decode cX7_topFor 1 = .ok (.getfield 62, 3) := by decide +kernel
theorem dX7_topFor_4 : decode cX7_topFor 4 = .ok (.iconst 1, 1) := by decide +kernel
theorem dX7_topFor_5 : decode cX7_topFor 5 = .ok (.isub, 1) := by decide +kernel
theorem dX7_topFor_6 : decode cX7_topFor 6 = .ok (.istore 4, 2) := by decide +kernel
theorem dX7_topFor_8 : decode cX7_topFor 8 = .ok (.aload_n 0, 1) := by decide +kernel
theorem dX7_topFor_9 : decode cX7_topFor 9 = .ok (.getfield 28, 3) := by decide +kernel
theorem dX7_topFor_12 : decode cX7_topFor 12 = .ok (.iload_n 3, 1) := by decide +kernel
theorem dX7_topFor_13 : decode cX7_topFor 13 = .ok (.bipush 100, 2) := by decide +kernel
theorem dX7_topFor_15 : decode cX7_topFor 15 = .ok (.idiv, 1) := by decide +kernel
theorem dX7_topFor_16 : decode cX7_topFor 16 = .ok (.iload_n 3, 1) := by decide +kernel
theorem dX7_topFor_17 : decode cX7_topFor 17 = .ok (.bipush 10, 2) := by decide +kernel
theorem dX7_topFor_19 : decode cX7_topFor 19 = .ok (.idiv, 1) := by decide +kernel
theorem dX7_topFor_20 : decode cX7_topFor 20 = .ok (.bipush 10, 2) := by decide +kernel
theorem dX7_topFor_22 : decode cX7_topFor 22 = .ok (.irem, 1) := by decide +kernel
theorem dX7_topFor_23 : decode cX7_topFor 23 = .ok (.iload_n 3, 1) := by decide +kernel
theorem dX7_topFor_24 : decode cX7_topFor 24 = .ok (.bipush 10, 2) := by decide +kernel
theorem dX7_topFor_26 : decode cX7_topFor 26 = .ok (.irem, 1) := by decide +kernel
theorem dX7_topFor_27 : decode cX7_topFor 27 = .ok (.invokevirtual 113, 3) := by decide +kernel
theorem dX7_topFor_30 : decode cX7_topFor 30 = .ok (.aload_n 0, 1) := by decide +kernel
theorem dX7_topFor_31 : decode cX7_topFor 31 = .ok (.getfield 28, 3) := by decide +kernel
theorem dX7_topFor_34 : decode cX7_topFor 34 = .ok (.iload_n 2, 1) := by decide +kernel
theorem dX7_topFor_35 : decode cX7_topFor 35 = .ok (.invokevirtual 117, 3) := by decide +kernel
theorem dX7_topFor_38 : decode cX7_topFor 38 = .ok (.aload_n 0, 1) := by decide +kernel
theorem dX7_topFor_39 : decode cX7_topFor 39 = .ok (.getfield 21, 3) := by decide +kernel
theorem dX7_topFor_42 : decode cX7_topFor 42 = .ok (.aload_n 1, 1) := by decide +kernel
theorem dX7_topFor_43 : decode cX7_topFor 43 = .ok (.aload_n 0, 1) := by decide +kernel
theorem dX7_topFor_44 : decode cX7_topFor 44 = .ok (.getfield 28, 3) := by decide +kernel
theorem dX7_topFor_47 : decode cX7_topFor 47 = .ok (.aload_n 1, 1) := by decide +kernel
theorem dX7_topFor_48 : decode cX7_topFor 48 = .ok (.getfield 74, 3) := by decide +kernel
theorem dX7_topFor_51 : decode cX7_topFor 51 = .ok (.iload 4, 2) := by decide +kernel
theorem dX7_topFor_53 : decode cX7_topFor 53 = .ok (.iaload, 1) := by decide +kernel
theorem dX7_topFor_54 : decode cX7_topFor 54 = .ok (.iconst 1, 1) := by decide +kernel
theorem dX7_topFor_55 : decode cX7_topFor 55 = .ok (.iadd, 1) := by decide +kernel
theorem dX7_topFor_56 : decode cX7_topFor 56 = .ok (.aload_n 1, 1) := by decide +kernel
theorem dX7_topFor_57 : decode cX7_topFor 57 = .ok (.getfield 74, 3) := by decide +kernel
theorem dX7_topFor_60 : decode cX7_topFor 60 = .ok (.iload 4, 2) := by decide +kernel
theorem dX7_topFor_62 : decode cX7_topFor 62 = .ok (.iconst 1, 1) := by decide +kernel
theorem dX7_topFor_63 : decode cX7_topFor 63 = .ok (.iadd, 1) := by decide +kernel
theorem dX7_topFor_64 : decode cX7_topFor 64 = .ok (.iaload, 1) := by decide +kernel
theorem dX7_topFor_65 : decode cX7_topFor 65 = .ok (.invokevirtual 121, 3) := by decide +kernel
theorem dX7_topFor_68 : decode cX7_topFor 68 = .ok (.aload_n 0, 1) := by decide +kernel
theorem dX7_topFor_69 : decode cX7_topFor 69 = .ok (.getfield 28, 3) := by decide +kernel
theorem dX7_topFor_72 : decode cX7_topFor 72 = .ok (.iconst 0, 1) := by decide +kernel
theorem dX7_topFor_73 : decode cX7_topFor 73 = .ok (.invokevirtual 125, 3) := by decide +kernel
theorem dX7_topFor_76 : decode cX7_topFor 76 = .ok (.ireturn, 1) := by decide +kernel
theorem dX7_nextToTry_0 : decode cX7_nextToTry 0 = .ok (.iconst 0, 1) := by decide +kernel
theorem dX7_nextToTry_1 : decode cX7_nextToTry 1 = .ok (.istore_n 3, 1) := by decide +kernel
theorem dX7_nextToTry_2 : decode cX7_nextToTry 2 = .ok (.ldc 129, 2) := by decide +kernel
theorem dX7_nextToTry_4 : decode cX7_nextToTry 4 = .ok (.istore 4, 2) := by decide +kernel
theorem dX7_nextToTry_6 : decode cX7_nextToTry 6 = .ok (.iconst 0, 1) := by decide +kernel
theorem dX7_nextToTry_7 : decode cX7_nextToTry 7 = .ok (.istore 5, 2) := by decide +kernel
theorem dX7_nextToTry_9 : decode cX7_nextToTry 9 = .ok (.iload 5, 2) := by decide +kernel
theorem dX7_nextToTry_11 : decode cX7_nextToTry 11 = .ok (.bipush 9, 2) := by decide +kernel
theorem dX7_nextToTry_13 : decode cX7_nextToTry 13 = .ok (.if_icmp .gt 37, 3) := by decide +kernel
theorem dX7_nextToTry_16 : decode cX7_nextToTry 16 = .ok (.aload_n 0, 1) := by decide +kernel
theorem dX7_nextToTry_17 : decode cX7_nextToTry 17 = .ok (.aload_n 1, 1) := by decide +kernel
theorem dX7_nextToTry_18 : decode cX7_nextToTry 18 = .ok (.iload_n 2, 1) := by decide +kernel
theorem dX7_nextToTry_19 : decode cX7_nextToTry 19 = .ok (.bipush 10, 2) := by decide +kernel
theorem dX7_nextToTry_21 : decode cX7_nextToTry 21 = .ok (.imul, 1) := by decide +kernel
theorem dX7_nextToTry_22 : decode cX7_nextToTry 22 = .ok (.iload 5, 2) := by decide +kernel
theorem dX7_nextToTry_24 : decode cX7_nextToTry 24 = .ok (.iadd, 1) := by decide +kernel
theorem dX7_nextToTry_25 : decode cX7_nextToTry 25 = .ok (.invokevirtual 130, 3) := by decide +kernel
theorem dX7_nextToTry_28 : decode cX7_nextToTry 28 = .ok (.istore 6, 2) := by decide +kernel
theorem dX7_nextToTry_30 : decode cX7_nextToTry 30 = .ok (.iload 6, 2) := by decide +kernel
theorem dX7_nextToTry_32 : decode cX7_nextToTry 32 = .ok (.iload 4, 2) := by decide +kernel
theorem dX7_nextToTry_34 : decode cX7_nextToTry 34 = .ok (.if_icmp .ge 10, 3) := by decide +kernel
theorem dX7_nextToTry_37 : decode cX7_nextToTry 37 = .ok (.iload 6, 2) := by decide +kernel
theorem dX7_nextToTry_39 : decode cX7_nextToTry 39 = .ok (.istore 4, 2) := by decide +kernel
theorem dX7_nextToTry_41 : decode cX7_nextToTry 41 = .ok (.iload 5, 2) := by decide +kernel
theorem dX7_nextToTry_43 : decode cX7_nextToTry 43 = .ok (.istore_n 3, 1) := by decide +kernel
theorem dX7_nextToTry_44 : decode cX7_nextToTry 44 = .ok (.iinc 5 1, 3) := by decide +kernel
theorem dX7_nextToTry_47 : decode cX7_nextToTry 47 = .ok (.goto (-38), 3) := by decide +kernel
theorem dX7_nextToTry_50 : decode cX7_nextToTry 50 = .ok (.iload_n 3, 1) := by decide +kernel
theorem dX7_nextToTry_51 : decode cX7_nextToTry 51 = .ok (.ireturn, 1) := by decide +kernel
theorem dX7_leftAtMost_0 : decode cX7_leftAtMost 0 = .ok (.iconst 0, 1) := by decide +kernel
theorem dX7_leftAtMost_1 : decode cX7_leftAtMost 1 = .ok (.istore_n 3, 1) := by decide +kernel
theorem dX7_leftAtMost_2 : decode cX7_leftAtMost 2 = .ok (.iconst 0, 1) := by decide +kernel
theorem dX7_leftAtMost_3 : decode cX7_leftAtMost 3 = .ok (.istore 4, 2) := by decide +kernel
theorem dX7_leftAtMost_5 : decode cX7_leftAtMost 5 = .ok (.iload 4, 2) := by decide +kernel
theorem dX7_leftAtMost_7 : decode cX7_leftAtMost 7 = .ok (.aload_n 0, 1) := by decide +kernel
theorem dX7_leftAtMost_8 : decode cX7_leftAtMost 8 = .ok (.getfield 59, 3) := by decide +kernel
theorem dX7_leftAtMost_11 : decode cX7_leftAtMost 11 = .ok (.if_icmp .ge 82, 3) := by decide +kernel
theorem dX7_leftAtMost_14 : decode cX7_leftAtMost 14 = .ok (.aload_n 0, 1) := by decide +kernel
theorem dX7_leftAtMost_15 : decode cX7_leftAtMost 15 = .ok (.getfield 52, 3) := by decide +kernel
theorem dX7_leftAtMost_18 : decode cX7_leftAtMost 18 = .ok (.iload 4, 2) := by decide +kernel
theorem dX7_leftAtMost_20 : decode cX7_leftAtMost 20 = .ok (.aload_n 0, 1) := by decide +kernel
theorem dX7_leftAtMost_21 : decode cX7_leftAtMost 21 = .ok (.aload_n 1, 1) := by decide +kernel
theorem dX7_leftAtMost_22 : decode cX7_leftAtMost 22 = .ok (.aload_n 0, 1) := by decide +kernel
theorem dX7_leftAtMost_23 : decode cX7_leftAtMost 23 = .ok (.getfield 49, 3) := by decide +kernel
theorem dX7_leftAtMost_26 : decode cX7_leftAtMost 26 = .ok (.iload 4, 2) := by decide +kernel
theorem dX7_leftAtMost_28 : decode cX7_leftAtMost 28 = .ok (.iaload, 1) := by decide +kernel
theorem dX7_leftAtMost_29 : decode cX7_leftAtMost 29 = .ok (.iload_n 2, 1) := by decide +kernel
theorem dX7_leftAtMost_30 : decode cX7_leftAtMost 30 = .ok (.invokevirtual 109, 3) := by decide +kernel
theorem dX7_leftAtMost_33 : decode cX7_leftAtMost 33 = .ok (.iastore, 1) := by decide +kernel
theorem dX7_leftAtMost_34 : decode cX7_leftAtMost 34 = .ok (.iconst 0, 1) := by decide +kernel
theorem dX7_leftAtMost_35 : decode cX7_leftAtMost 35 = .ok (.istore 5, 2) := by decide +kernel
theorem dX7_leftAtMost_37 : decode cX7_leftAtMost 37 = .ok (.iconst 0, 1) := by decide +kernel
theorem dX7_leftAtMost_38 : decode cX7_leftAtMost 38 = .ok (.istore 6, 2) := by decide +kernel
theorem dX7_leftAtMost_40 : decode cX7_leftAtMost 40 = .ok (.iload 6, 2) := by decide +kernel
theorem dX7_leftAtMost_42 : decode cX7_leftAtMost 42 = .ok (.iload 4, 2) := by decide +kernel
theorem dX7_leftAtMost_44 : decode cX7_leftAtMost 44 = .ok (.if_icmp .gt 36, 3) := by decide +kernel
theorem dX7_leftAtMost_47 : decode cX7_leftAtMost 47 = .ok (.iload 5, 2) := by decide +kernel
theorem dX7_leftAtMost_49 : decode cX7_leftAtMost 49 = .ok (.aload_n 0, 1) := by decide +kernel
theorem dX7_leftAtMost_50 : decode cX7_leftAtMost 50 = .ok (.getfield 52, 3) := by decide +kernel
theorem dX7_leftAtMost_53 : decode cX7_leftAtMost 53 = .ok (.iload 6, 2) := by decide +kernel
theorem dX7_leftAtMost_55 : decode cX7_leftAtMost 55 = .ok (.iaload, 1) := by decide +kernel
theorem dX7_leftAtMost_56 : decode cX7_leftAtMost 56 = .ok (.aload_n 0, 1) := by decide +kernel
theorem dX7_leftAtMost_57 : decode cX7_leftAtMost 57 = .ok (.getfield 52, 3) := by decide +kernel
theorem dX7_leftAtMost_60 : decode cX7_leftAtMost 60 = .ok (.iload 4, 2) := by decide +kernel
theorem dX7_leftAtMost_62 : decode cX7_leftAtMost 62 = .ok (.iaload, 1) := by decide +kernel
theorem dX7_leftAtMost_63 : decode cX7_leftAtMost 63 = .ok (.if_icmp .ne 7, 3) := by decide +kernel
theorem dX7_leftAtMost_66 : decode cX7_leftAtMost 66 = .ok (.iconst 1, 1) := by decide +kernel
theorem dX7_leftAtMost_67 : decode cX7_leftAtMost 67 = .ok (.goto 4, 3) := by decide +kernel
theorem dX7_leftAtMost_70 : decode cX7_leftAtMost 70 = .ok (.iconst 0, 1) := by decide +kernel
theorem dX7_leftAtMost_71 : decode cX7_leftAtMost 71 = .ok (.iadd, 1) := by decide +kernel
theorem dX7_leftAtMost_72 : decode cX7_leftAtMost 72 = .ok (.istore 5, 2) := by decide +kernel
theorem dX7_leftAtMost_74 : decode cX7_leftAtMost 74 = .ok (.iinc 6 1, 3) := by decide +kernel
theorem dX7_leftAtMost_77 : decode cX7_leftAtMost 77 = .ok (.goto (-37), 3) := by decide +kernel
theorem dX7_leftAtMost_80 : decode cX7_leftAtMost 80 = .ok (.iload_n 3, 1) := by decide +kernel
theorem dX7_leftAtMost_81 : decode cX7_leftAtMost 81 = .ok (.iload 5, 2) := by decide +kernel
theorem dX7_leftAtMost_83 : decode cX7_leftAtMost 83 = .ok (.invokestatic 134, 3) := by decide +kernel
theorem dX7_leftAtMost_86 : decode cX7_leftAtMost 86 = .ok (.istore_n 3, 1) := by decide +kernel
theorem dX7_leftAtMost_87 : decode cX7_leftAtMost 87 = .ok (.iinc 4 1, 3) := by decide +kernel
theorem dX7_leftAtMost_90 : decode cX7_leftAtMost 90 = .ok (.goto (-85), 3) := by decide +kernel
theorem dX7_leftAtMost_93 : decode cX7_leftAtMost 93 = .ok (.iload_n 3, 1) := by decide +kernel
theorem dX7_leftAtMost_94 : decode cX7_leftAtMost 94 = .ok (.ireturn, 1) := by decide +kernel
theorem dX8_init_0 : decode cX8_init 0 = .ok (.aload_n 0, 1) := by decide +kernel
theorem dX8_init_1 : decode cX8_init 1 = .ok (.invokespecial 3, 3) := by decide +kernel
theorem dX8_init_4 : decode cX8_init 4 = .ok (.aload_n 0, 1) := by decide +kernel
theorem dX8_init_5 : decode cX8_init 5 = .ok (.bipush 24, 2) := by decide +kernel
theorem dX8_init_7 : decode cX8_init 7 = .ok (.newarray .int, 2) := by decide +kernel
theorem dX8_init_9 : decode cX8_init 9 = .ok (.putfield 9, 3) := by decide +kernel
theorem dX8_init_12 : decode cX8_init 12 = .ok (.aload_n 0, 1) := by decide +kernel
theorem dX8_init_13 : decode cX8_init 13 = .ok (.bipush 42, 2) := by decide +kernel
theorem dX8_init_15 : decode cX8_init 15 = .ok (.newarray .int, 2) := by decide +kernel
theorem dX8_init_17 : decode cX8_init 17 = .ok (.putfield 15, 3) := by decide +kernel
theorem dX8_init_20 : decode cX8_init 20 = .ok (.return_, 1) := by decide +kernel
theorem dX8_begin_0 : decode cX8_begin 0 = .ok (.aload_n 0, 1) := by decide +kernel
theorem dX8_begin_1 : decode cX8_begin 1 = .ok (.invokevirtual 18, 3) := by decide +kernel
theorem dX8_begin_4 : decode cX8_begin 4 = .ok (.aload_n 0, 1) := by decide +kernel
theorem dX8_begin_5 : decode cX8_begin 5 = .ok (.iconst 0, 1) := by decide +kernel
theorem dX8_begin_6 : decode cX8_begin 6 = .ok (.putfield 21, 3) := by decide +kernel
theorem dX8_begin_9 : decode cX8_begin 9 = .ok (.aload_n 0, 1) := by decide +kernel
theorem dX8_begin_10 : decode cX8_begin 10 = .ok (.iload_n 1, 1) := by decide +kernel
theorem dX8_begin_11 : decode cX8_begin 11 = .ok (.putfield 25, 3) := by decide +kernel
theorem dX8_begin_14 : decode cX8_begin 14 = .ok (.return_, 1) := by decide +kernel
theorem dX8_beginWith_0 : decode cX8_beginWith 0 = .ok (.aload_n 0, 1) := by decide +kernel
theorem dX8_beginWith_1 : decode cX8_beginWith 1 = .ok (.invokevirtual 18, 3) := by decide +kernel
theorem dX8_beginWith_4 : decode cX8_beginWith 4 = .ok (.aload_n 0, 1) := by decide +kernel
theorem dX8_beginWith_5 : decode cX8_beginWith 5 = .ok (.iload_n 1, 1) := by decide +kernel
theorem dX8_beginWith_6 : decode cX8_beginWith 6 = .ok (.invokevirtual 28, 3) := by decide +kernel
theorem dX8_beginWith_9 : decode cX8_beginWith 9 = .ok (.aload_n 0, 1) := by decide +kernel
theorem dX8_beginWith_10 : decode cX8_beginWith 10 = .ok (.iload_n 2, 1) := by decide +kernel
theorem dX8_beginWith_11 : decode cX8_beginWith 11 = .ok (.invokevirtual 28, 3) := by decide +kernel
theorem dX8_beginWith_14 : decode cX8_beginWith 14 = .ok (.aload_n 0, 1) := by decide +kernel
theorem dX8_beginWith_15 : decode cX8_beginWith 15 = .ok (.iload_n 3, 1) := by decide +kernel
theorem dX8_beginWith_16 : decode cX8_beginWith 16 = .ok (.invokevirtual 28, 3) := by decide +kernel
theorem dX8_beginWith_19 : decode cX8_beginWith 19 = .ok (.return_, 1) := by decide +kernel
theorem dX8_dropAll_0 : decode cX8_dropAll 0 = .ok (.aload_n 0, 1) := by decide +kernel
theorem dX8_dropAll_1 : decode cX8_dropAll 1 = .ok (.iconst 0, 1) := by decide +kernel
theorem dX8_dropAll_2 : decode cX8_dropAll 2 = .ok (.putfield 32, 3) := by decide +kernel
theorem dX8_dropAll_5 : decode cX8_dropAll 5 = .ok (.aload_n 0, 1) := by decide +kernel
theorem dX8_dropAll_6 : decode cX8_dropAll 6 = .ok (.iconst 0, 1) := by decide +kernel
theorem dX8_dropAll_7 : decode cX8_dropAll 7 = .ok (.putfield 35, 3) := by decide +kernel
theorem dX8_dropAll_10 : decode cX8_dropAll 10 = .ok (.return_, 1) := by decide +kernel
theorem dX8_copyFrom_0 : decode cX8_copyFrom 0 = .ok (.aload_n 1, 1) := by decide +kernel
theorem dX8_copyFrom_1 : decode cX8_copyFrom 1 = .ok (.getfield 9, 3) := by decide +kernel
theorem dX8_copyFrom_4 : decode cX8_copyFrom 4 = .ok (.iconst 0, 1) := by decide +kernel
theorem dX8_copyFrom_5 : decode cX8_copyFrom 5 = .ok (.aload_n 0, 1) := by decide +kernel
theorem dX8_copyFrom_6 : decode cX8_copyFrom 6 = .ok (.getfield 9, 3) := by decide +kernel
theorem dX8_copyFrom_9 : decode cX8_copyFrom 9 = .ok (.iconst 0, 1) := by decide +kernel
theorem dX8_copyFrom_10 : decode cX8_copyFrom 10 = .ok (.aload_n 1, 1) := by decide +kernel
theorem dX8_copyFrom_11 : decode cX8_copyFrom 11 = .ok (.getfield 32, 3) := by decide +kernel
theorem dX8_copyFrom_14 : decode cX8_copyFrom 14 = .ok (.invokestatic 38, 3) := by decide +kernel
theorem dX8_copyFrom_17 : decode cX8_copyFrom 17 = .ok (.aload_n 1, 1) := by decide +kernel
theorem dX8_copyFrom_18 : decode cX8_copyFrom 18 = .ok (.getfield 15, 3) := by decide +kernel
theorem dX8_copyFrom_21 : decode cX8_copyFrom 21 = .ok (.iconst 0, 1) := by decide +kernel
theorem dX8_copyFrom_22 : decode cX8_copyFrom 22 = .ok (.aload_n 0, 1) := by decide +kernel
theorem dX8_copyFrom_23 : decode cX8_copyFrom 23 = .ok (.getfield 15, 3) := by decide +kernel
theorem dX8_copyFrom_26 : decode cX8_copyFrom 26 = .ok (.iconst 0, 1) := by decide +kernel
theorem dX8_copyFrom_27 : decode cX8_copyFrom 27 = .ok (.aload_n 1, 1) := by decide +kernel
theorem dX8_copyFrom_28 : decode cX8_copyFrom 28 = .ok (.getfield 35, 3) := by decide +kernel
theorem dX8_copyFrom_31 : decode cX8_copyFrom 31 = .ok (.invokestatic 38, 3) := by decide +kernel
theorem dX8_copyFrom_34 : decode cX8_copyFrom 34 = .ok (.aload_n 0, 1) := by decide +kernel
theorem dX8_copyFrom_35 : decode cX8_copyFrom 35 = .ok (.aload_n 1, 1) := by decide +kernel
theorem dX8_copyFrom_36 : decode cX8_copyFrom 36 = .ok (.getfield 32, 3) := by decide +kernel
theorem dX8_copyFrom_39 : decode cX8_copyFrom 39 = .ok (.putfield 32, 3) := by decide +kernel
theorem dX8_copyFrom_42 : decode cX8_copyFrom 42 = .ok (.aload_n 0, 1) := by decide +kernel
theorem dX8_copyFrom_43 : decode cX8_copyFrom 43 = .ok (.aload_n 1, 1) := by decide +kernel
theorem dX8_copyFrom_44 : decode cX8_copyFrom 44 = .ok (.getfield 35, 3) := by decide +kernel
theorem dX8_copyFrom_47 : decode cX8_copyFrom 47 = .ok (.putfield 35, 3) := by decide +kernel
theorem dX8_copyFrom_50 : decode cX8_copyFrom 50 = .ok (.aload_n 0, 1) := by decide +kernel
theorem dX8_copyFrom_51 : decode cX8_copyFrom 51 = .ok (.aload_n 1, 1) := by decide +kernel
theorem dX8_copyFrom_52 : decode cX8_copyFrom 52 = .ok (.getfield 21, 3) := by decide +kernel
theorem dX8_copyFrom_55 : decode cX8_copyFrom 55 = .ok (.putfield 21, 3) := by decide +kernel
theorem dX8_copyFrom_58 : decode cX8_copyFrom 58 = .ok (.aload_n 0, 1) := by decide +kernel
theorem dX8_copyFrom_59 : decode cX8_copyFrom 59 = .ok (.aload_n 1, 1) := by decide +kernel
theorem dX8_copyFrom_60 : decode cX8_copyFrom 60 = .ok (.getfield 25, 3) := by decide +kernel
theorem dX8_copyFrom_63 : decode cX8_copyFrom 63 = .ok (.putfield 25, 3) := by decide +kernel
theorem dX8_copyFrom_66 : decode cX8_copyFrom 66 = .ok (.return_, 1) := by decide +kernel
theorem dX8_hasSameCells_0 : decode cX8_hasSameCells 0 = .ok (.aload_n 0, 1) := by decide +kernel
theorem dX8_hasSameCells_1 : decode cX8_hasSameCells 1 = .ok (.getfield 32, 3) := by decide +kernel
theorem dX8_hasSameCells_4 : decode cX8_hasSameCells 4 = .ok (.aload_n 1, 1) := by decide +kernel
theorem dX8_hasSameCells_5 : decode cX8_hasSameCells 5 = .ok (.getfield 32, 3) := by decide +kernel
theorem dX8_hasSameCells_8 : decode cX8_hasSameCells 8 = .ok (.if_icmp .eq 5, 3) := by decide +kernel
theorem dX8_hasSameCells_11 : decode cX8_hasSameCells 11 = .ok (.iconst 0, 1) := by decide +kernel
theorem dX8_hasSameCells_12 : decode cX8_hasSameCells 12 = .ok (.ireturn, 1) := by decide +kernel
theorem dX8_hasSameCells_13 : decode cX8_hasSameCells 13 = .ok (.iconst 0, 1) := by decide +kernel
theorem dX8_hasSameCells_14 : decode cX8_hasSameCells 14 = .ok (.istore_n 2, 1) := by decide +kernel
theorem dX8_hasSameCells_15 : decode cX8_hasSameCells 15 = .ok (.iload_n 2, 1) := by decide +kernel
theorem dX8_hasSameCells_16 : decode cX8_hasSameCells 16 = .ok (.aload_n 0, 1) := by decide +kernel
theorem dX8_hasSameCells_17 : decode cX8_hasSameCells 17 = .ok (.getfield 32, 3) := by decide +kernel
theorem dX8_hasSameCells_20 : decode cX8_hasSameCells 20 = .ok (.if_icmp .ge 26, 3) := by decide +kernel
theorem dX8_hasSameCells_23 : decode cX8_hasSameCells 23 = .ok (.aload_n 0, 1) := by decide +kernel
theorem dX8_hasSameCells_24 : decode cX8_hasSameCells 24 = .ok (.getfield 9, 3) := by decide +kernel
theorem dX8_hasSameCells_27 : decode cX8_hasSameCells 27 = .ok (.iload_n 2, 1) := by decide +kernel
theorem dX8_hasSameCells_28 : decode cX8_hasSameCells 28 = .ok (.iaload, 1) := by decide +kernel
theorem dX8_hasSameCells_29 : decode cX8_hasSameCells 29 = .ok (.aload_n 1, 1) := by decide +kernel
theorem dX8_hasSameCells_30 : decode cX8_hasSameCells 30 = .ok (.getfield 9, 3) := by decide +kernel
theorem dX8_hasSameCells_33 : decode cX8_hasSameCells 33 = .ok (.iload_n 2, 1) := by decide +kernel
theorem dX8_hasSameCells_34 : decode cX8_hasSameCells 34 = .ok (.iaload, 1) := by decide +kernel
theorem dX8_hasSameCells_35 : decode cX8_hasSameCells 35 = .ok (.if_icmp .eq 5, 3) := by decide +kernel
theorem dX8_hasSameCells_38 : decode cX8_hasSameCells 38 = .ok (.iconst 0, 1) := by decide +kernel
theorem dX8_hasSameCells_39 : decode cX8_hasSameCells 39 = .ok (.ireturn, 1) := by decide +kernel
theorem dX8_hasSameCells_40 : decode cX8_hasSameCells 40 = .ok (.iinc 2 1, 3) := by decide +kernel
theorem dX8_hasSameCells_43 : decode cX8_hasSameCells 43 = .ok (.goto (-28), 3) := by decide +kernel
theorem dX8_hasSameCells_46 : decode cX8_hasSameCells 46 = .ok (.iconst 1, 1) := by decide +kernel
theorem dX8_hasSameCells_47 : decode cX8_hasSameCells 47 = .ok (.ireturn, 1) := by decide +kernel
theorem dX8_cellAt_0 : decode cX8_cellAt 0 = .ok (.iload_n 1, 1) := by decide +kernel
theorem dX8_cellAt_1 : decode cX8_cellAt 1 = .ok (.ifCond .lt 27, 3) := by decide +kernel
theorem dX8_cellAt_4 : decode cX8_cellAt 4 = .ok (.iload_n 1, 1) := by decide +kernel
theorem dX8_cellAt_5 : decode cX8_cellAt 5 = .ok (.aload_n 0, 1) := by decide +kernel
theorem dX8_cellAt_6 : decode cX8_cellAt 6 = .ok (.getfield 32, 3) := by decide +kernel
theorem dX8_cellAt_9 : decode cX8_cellAt 9 = .ok (.if_icmp .ge 19, 3) := by decide +kernel
theorem dX8_cellAt_12 : decode cX8_cellAt 12 = .ok (.aload_n 0, 1) := by decide +kernel
theorem dX8_cellAt_13 : decode cX8_cellAt 13 = .ok (.getfield 9, 3) := by decide +kernel
theorem dX8_cellAt_16 : decode cX8_cellAt 16 = .ok (.aload_n 0, 1) := by decide +kernel
theorem dX8_cellAt_17 : decode cX8_cellAt 17 = .ok (.getfield 32, 3) := by decide +kernel
theorem dX8_cellAt_20 : decode cX8_cellAt 20 = .ok (.iconst 1, 1) := by decide +kernel
theorem dX8_cellAt_21 : decode cX8_cellAt 21 = .ok (.isub, 1) := by decide +kernel
theorem dX8_cellAt_22 : decode cX8_cellAt 22 = .ok (.iload_n 1, 1) := by decide +kernel
theorem dX8_cellAt_23 : decode cX8_cellAt 23 = .ok (.isub, 1) := by decide +kernel
theorem dX8_cellAt_24 : decode cX8_cellAt 24 = .ok (.iaload, 1) := by decide +kernel
theorem dX8_cellAt_25 : decode cX8_cellAt 25 = .ok (.goto 4, 3) := by decide +kernel
theorem dX8_cellAt_28 : decode cX8_cellAt 28 = .ok (.iconst 0, 1) := by decide +kernel
theorem dX8_cellAt_29 : decode cX8_cellAt 29 = .ok (.ireturn, 1) := by decide +kernel
theorem dX8_putAt_0 : decode cX8_putAt 0 = .ok (.iload_n 1, 1) := by decide +kernel
theorem dX8_putAt_1 : decode cX8_putAt 1 = .ok (.ifCond .lt 27, 3) := by decide +kernel
theorem dX8_putAt_4 : decode cX8_putAt 4 = .ok (.iload_n 1, 1) := by decide +kernel
theorem dX8_putAt_5 : decode cX8_putAt 5 = .ok (.aload_n 0, 1) := by decide +kernel
theorem dX8_putAt_6 : decode cX8_putAt 6 = .ok (.getfield 35, 3) := by decide +kernel
theorem dX8_putAt_9 : decode cX8_putAt 9 = .ok (.if_icmp .ge 19, 3) := by decide +kernel
theorem dX8_putAt_12 : decode cX8_putAt 12 = .ok (.aload_n 0, 1) := by decide +kernel
theorem dX8_putAt_13 : decode cX8_putAt 13 = .ok (.getfield 15, 3) := by decide +kernel
theorem dX8_putAt_16 : decode cX8_putAt 16 = .ok (.aload_n 0, 1) := by decide +kernel
theorem dX8_putAt_17 : decode cX8_putAt 17 = .ok (.getfield 35, 3) := by decide +kernel
theorem dX8_putAt_20 : decode cX8_putAt 20 = .ok (.iconst 1, 1) := by decide +kernel
theorem dX8_putAt_21 : decode cX8_putAt 21 = .ok (.isub, 1) := by decide +kernel
theorem dX8_putAt_22 : decode cX8_putAt 22 = .ok (.iload_n 1, 1) := by decide +kernel
theorem dX8_putAt_23 : decode cX8_putAt 23 = .ok (.isub, 1) := by decide +kernel
theorem dX8_putAt_24 : decode cX8_putAt 24 = .ok (.iaload, 1) := by decide +kernel
theorem dX8_putAt_25 : decode cX8_putAt 25 = .ok (.goto 4, 3) := by decide +kernel
theorem dX8_putAt_28 : decode cX8_putAt 28 = .ok (.iconst 0, 1) := by decide +kernel
theorem dX8_putAt_29 : decode cX8_putAt 29 = .ok (.ireturn, 1) := by decide +kernel
theorem dX8_add_0 : decode cX8_add 0 = .ok (.aload_n 0, 1) := by decide +kernel
theorem dX8_add_1 : decode cX8_add 1 = .ok (.getfield 32, 3) := by decide +kernel
theorem dX8_add_4 : decode cX8_add 4 = .ok (.bipush 24, 2) := by decide +kernel
theorem dX8_add_6 : decode cX8_add 6 = .ok (.if_icmp .ge 23, 3) := by decide +kernel
theorem dX8_add_9 : decode cX8_add 9 = .ok (.aload_n 0, 1) := by decide +kernel
theorem dX8_add_10 : decode cX8_add 10 = .ok (.getfield 9, 3) := by decide +kernel
theorem dX8_add_13 : decode cX8_add 13 = .ok (.aload_n 0, 1) := by decide +kernel
theorem dX8_add_14 : decode cX8_add 14 = .ok (.getfield 32, 3) := by decide +kernel
theorem dX8_add_17 : decode cX8_add 17 = .ok (.iload_n 1, 1) := by decide +kernel
theorem dX8_add_18 : decode cX8_add 18 = .ok (.iastore, 1) := by decide +kernel
theorem dX8_add_19 : decode cX8_add 19 = .ok (.aload_n 0, 1) := by decide +kernel
theorem dX8_add_20 : decode cX8_add 20 = .ok (.dup, 1) := by decide +kernel
theorem dX8_add_21 : decode cX8_add 21 = .ok (.getfield 32, 3) := by decide +kernel
theorem dX8_add_24 : decode cX8_add 24 = .ok (.iconst 1, 1) := by decide +kernel
theorem dX8_add_25 : decode cX8_add 25 = .ok (.iadd, 1) := by decide +kernel
theorem dX8_add_26 : decode cX8_add 26 = .ok (.putfield 32, 3) := by decide +kernel
theorem dX8_add_29 : decode cX8_add 29 = .ok (.return_, 1) := by decide +kernel
theorem dX8_takeTop_0 : decode cX8_takeTop 0 = .ok (.aload_n 0, 1) := by decide +kernel
theorem dX8_takeTop_1 : decode cX8_takeTop 1 = .ok (.getfield 32, 3) := by decide +kernel
theorem dX8_takeTop_4 : decode cX8_takeTop 4 = .ok (.ifCond .ne 5, 3) := by decide +kernel
theorem dX8_takeTop_7 : decode cX8_takeTop 7 = .ok (.iconst 0, 1) := by decide +kernel
theorem dX8_takeTop_8 : decode cX8_takeTop 8 = .ok (.ireturn, 1) := by decide +kernel
theorem dX8_takeTop_9 : decode cX8_takeTop 9 = .ok (.aload_n 0, 1) := by decide +kernel
theorem dX8_takeTop_10 : decode cX8_takeTop 10 = .ok (.dup, 1) := by decide +kernel
theorem dX8_takeTop_11 : decode cX8_takeTop 11 = .ok (.getfield 32, 3) := by decide +kernel
theorem dX8_takeTop_14 : decode cX8_takeTop 14 = .ok (.iconst 1, 1) := by decide +kernel
theorem dX8_takeTop_15 : decode cX8_takeTop 15 = .ok (.isub, 1) := by decide +kernel
theorem dX8_takeTop_16 : decode cX8_takeTop 16 = .ok (.putfield 32, 3) := by decide +kernel
theorem dX8_takeTop_19 : decode cX8_takeTop 19 = .ok (.aload_n 0, 1) := by decide +kernel
theorem dX8_takeTop_20 : decode cX8_takeTop 20 = .ok (.getfield 9, 3) := by decide +kernel
theorem dX8_takeTop_23 : decode cX8_takeTop 23 = .ok (.aload_n 0, 1) := by decide +kernel
theorem dX8_takeTop_24 : decode cX8_takeTop 24 = .ok (.getfield 32, 3) := by decide +kernel
theorem dX8_takeTop_27 : decode cX8_takeTop 27 = .ok (.iaload, 1) := by decide +kernel
theorem dX8_takeTop_28 : decode cX8_takeTop 28 = .ok (.ireturn, 1) := by decide +kernel
theorem dX8_canByHand_0 : decode cX8_canByHand 0 = .ok (.iload_n 1, 1) := by decide +kernel
theorem dX8_canByHand_1 : decode cX8_canByHand 1 = .ok (.bipush 7, 2) := by decide +kernel
theorem dX8_canByHand_3 : decode cX8_canByHand 3 = .ok (.if_icmp .ne 12, 3) := by decide +kernel
theorem dX8_canByHand_6 : decode cX8_canByHand 6 = .ok (.aload_n 0, 1) := by decide +kernel
theorem dX8_canByHand_7 : decode cX8_canByHand 7 = .ok (.getfield 35, 3) := by decide +kernel
theorem dX8_canByHand_10 : decode cX8_canByHand 10 = .ok (.bipush 6, 2) := by decide +kernel
theorem dX8_canByHand_12 : decode cX8_canByHand 12 = .ok (.if_icmp .ge 16, 3) := by decide +kernel
theorem dX8_canByHand_15 : decode cX8_canByHand 15 = .ok (.iload_n 1, 1) := by decide +kernel
theorem dX8_canByHand_16 : decode cX8_canByHand 16 = .ok (.bipush 8, 2) := by decide +kernel
theorem dX8_canByHand_18 : decode cX8_canByHand 18 = .ok (.if_icmp .ne 12, 3) := by decide +kernel
theorem dX8_canByHand_21 : decode cX8_canByHand 21 = .ok (.aload_n 0, 1) := by decide +kernel
theorem dX8_canByHand_22 : decode cX8_canByHand 22 = .ok (.getfield 35, 3) := by decide +kernel
theorem dX8_canByHand_25 : decode cX8_canByHand 25 = .ok (.ifCond .ne 5, 3) := by decide +kernel
theorem dX8_canByHand_28 : decode cX8_canByHand 28 = .ok (.iconst 0, 1) := by decide +kernel
theorem dX8_canByHand_29 : decode cX8_canByHand 29 = .ok (.ireturn, 1) := by decide +kernel
theorem dX8_canByHand_30 : decode cX8_canByHand 30 = .ok (.aload_n 0, 1) := by decide +kernel
theorem dX8_canByHand_31 : decode cX8_canByHand 31 = .ok (.getfield 32, 3) := by decide +kernel
theorem dX8_canByHand_34 : decode cX8_canByHand 34 = .ok (.getstatic 44, 3) := by decide +kernel
theorem dX8_canByHand_37 : decode cX8_canByHand 37 = .ok (.iload_n 1, 1) := by decide +kernel
theorem dX8_canByHand_38 : decode cX8_canByHand 38 = .ok (.iaload, 1) := by decide +kernel
theorem dX8_canByHand_39 : decode cX8_canByHand 39 = .ok (.if_icmp .lt 28, 3) := by decide +kernel
theorem dX8_canByHand_42 : decode cX8_canByHand 42 = .ok (.aload_n 0, 1) := by decide +kernel
theorem dX8_canByHand_43 : decode cX8_canByHand 43 = .ok (.getfield 32, 3) := by decide +kernel
theorem dX8_canByHand_46 : decode cX8_canByHand 46 = .ok (.getstatic 44, 3) := by decide +kernel
theorem dX8_canByHand_49 : decode cX8_canByHand 49 = .ok (.iload_n 1, 1) := by decide +kernel
theorem dX8_canByHand_50 : decode cX8_canByHand 50 = .ok (.iaload, 1) := by decide +kernel
theorem dX8_canByHand_51 : decode cX8_canByHand 51 = .ok (.isub, 1) := by decide +kernel
theorem dX8_canByHand_52 : decode cX8_canByHand 52 = .ok (.getstatic 47, 3) := by decide +kernel
theorem dX8_canByHand_55 : decode cX8_canByHand 55 = .ok (.iload_n 1, 1) := by decide +kernel
theorem dX8_canByHand_56 : decode cX8_canByHand 56 = .ok (.iaload, 1) := by decide +kernel
theorem dX8_canByHand_57 : decode cX8_canByHand 57 = .ok (.iadd, 1) := by decide +kernel
theorem dX8_canByHand_58 : decode cX8_canByHand 58 = .ok (.bipush 24, 2) := by decide +kernel
theorem dX8_canByHand_60 : decode cX8_canByHand 60 = .ok (.if_icmp .gt 7, 3) := by decide +kernel
theorem dX8_canByHand_63 : decode cX8_canByHand 63 = .ok (.iconst 1, 1) := by decide +kernel
theorem dX8_canByHand_64 : decode cX8_canByHand 64 = .ok (.goto 4, 3) := by decide +kernel
theorem dX8_canByHand_67 : decode cX8_canByHand 67 = .ok (.iconst 0, 1) := by decide +kernel
theorem dX8_canByHand_68 : decode cX8_canByHand 68 = .ok (.ireturn, 1) := by decide +kernel
theorem dX8_perform_0 : decode cX8_perform 0 = .ok (.iload_n 1, 1) := by decide +kernel
theorem dX8_perform_1 : decode cX8_perform 1 = .ok (.ifCond .lt 42, 3) := by decide +kernel
theorem dX8_perform_4 : decode cX8_perform 4 = .ok (.iload_n 1, 1) := by decide +kernel
theorem dX8_perform_5 : decode cX8_perform 5 = .ok (.bipush 15, 2) := by decide +kernel
theorem dX8_perform_7 : decode cX8_perform 7 = .ok (.if_icmp .ge 36, 3) := by decide +kernel
theorem dX8_perform_10 : decode cX8_perform 10 = .ok (.aload_n 0, 1) := by decide +kernel
theorem dX8_perform_11 : decode cX8_perform 11 = .ok (.getfield 32, 3) := by decide +kernel
theorem dX8_perform_14 : decode cX8_perform 14 = .ok (.getstatic 44, 3) := by decide +kernel
theorem dX8_perform_17 : decode cX8_perform 17 = .ok (.iload_n 1, 1) := by decide +kernel
theorem dX8_perform_18 : decode cX8_perform 18 = .ok (.iaload, 1) := by decide +kernel
theorem dX8_perform_19 : decode cX8_perform 19 = .ok (.if_icmp .lt 24, 3) := by decide +kernel
theorem dX8_perform_22 : decode cX8_perform 22 = .ok (.aload_n 0, 1) := by decide +kernel
theorem dX8_perform_23 : decode cX8_perform 23 = .ok (.getfield 32, 3) := by decide +kernel
theorem dX8_perform_26 : decode cX8_perform 26 = .ok (.getstatic 44, 3) := by decide +kernel
theorem dX8_perform_29 : decode cX8_perform 29 = .ok (.iload_n 1, 1) := by decide +kernel
theorem dX8_perform_30 : decode cX8_perform 30 = .ok (.iaload, 1) := by decide +kernel
theorem dX8_perform_31 : decode cX8_perform 31 = .ok (.isub, 1) := by decide +kernel
theorem dX8_perform_32 : decode cX8_perform 32 = .ok (.getstatic 47, 3) := by decide +kernel
theorem dX8_perform_35 : decode cX8_perform 35 = .ok (.iload_n 1, 1) := by decide +kernel
theorem dX8_perform_36 : decode cX8_perform 36 = .ok (.iaload, 1) := by decide +kernel
theorem dX8_perform_37 : decode cX8_perform 37 = .ok (.iadd, 1) := by decide +kernel
theorem dX8_perform_38 : decode cX8_perform 38 = .ok (.bipush 24, 2) := by decide +kernel
theorem dX8_perform_40 : decode cX8_perform 40 = .ok (.if_icmp .le 4, 3) := by decide +kernel
theorem dX8_perform_43 : decode cX8_perform 43 = .ok (.return_, 1) := by decide +kernel
theorem dX8_perform_44 : decode cX8_perform 44 = .ok (.aload_n 0, 1) := by decide +kernel
theorem dX8_perform_45 : decode cX8_perform 45 = .ok (.getfield 32, 3) := by decide +kernel
theorem dX8_perform_48 : decode cX8_perform 48 = .ok (.iconst 3, 1) := by decide +kernel
theorem dX8_perform_49 : decode cX8_perform 49 = .ok (.if_icmp .lt 17, 3) := by decide +kernel
theorem dX8_perform_52 : decode cX8_perform 52 = .ok (.aload_n 0, 1) := by decide +kernel
theorem dX8_perform_53 : decode cX8_perform 53 = .ok (.getfield 9, 3) := by decide +kernel
theorem dX8_perform_56 : decode cX8_perform 56 = .ok (.aload_n 0, 1) := by decide +kernel
theorem dX8_perform_57 : decode cX8_perform 57 = .ok (.getfield 32, 3) := by decide +kernel
theorem dX8_perform_60 : decode cX8_perform 60 = .ok (.iconst 3, 1) := by decide +kernel
theorem dX8_perform_61 : decode cX8_perform 61 = .ok (.isub, 1) := by decide +kernel
theorem dX8_perform_62 : decode cX8_perform 62 = .ok (.iaload, 1) := by decide +kernel
theorem dX8_perform_63 : decode cX8_perform 63 = .ok (.goto 4, 3) := by decide +kernel
theorem dX8_perform_66 : decode cX8_perform 66 = .ok (.iconst 0, 1) := by decide +kernel
theorem dX8_perform_67 : decode cX8_perform 67 = .ok (.istore_n 2, 1) := by decide +kernel
theorem dX8_perform_68 : decode cX8_perform 68 = .ok (.aload_n 0, 1) := by decide +kernel
theorem dX8_perform_69 : decode cX8_perform 69 = .ok (.getfield 32, 3) := by decide +kernel
theorem dX8_perform_72 : decode cX8_perform 72 = .ok (.iconst 2, 1) := by decide +kernel
theorem dX8_perform_73 : decode cX8_perform 73 = .ok (.if_icmp .lt 17, 3) := by decide +kernel
theorem dX8_perform_76 : decode cX8_perform 76 = .ok (.aload_n 0, 1) := by decide +kernel
theorem dX8_perform_77 : decode cX8_perform 77 = .ok (.getfield 9, 3) := by decide +kernel
theorem dX8_perform_80 : decode cX8_perform 80 = .ok (.aload_n 0, 1) := by decide +kernel
theorem dX8_perform_81 : decode cX8_perform 81 = .ok (.getfield 32, 3) := by decide +kernel
theorem dX8_perform_84 : decode cX8_perform 84 = .ok (.iconst 2, 1) := by decide +kernel
theorem dX8_perform_85 : decode cX8_perform 85 = .ok (.isub, 1) := by decide +kernel
theorem dX8_perform_86 : decode cX8_perform 86 = .ok (.iaload, 1) := by decide +kernel
theorem dX8_perform_87 : decode cX8_perform 87 = .ok (.goto 4, 3) := by decide +kernel
theorem dX8_perform_90 : decode cX8_perform 90 = .ok (.iconst 0, 1) := by decide +kernel
theorem dX8_perform_91 : decode cX8_perform 91 = .ok (.istore_n 3, 1) := by decide +kernel
theorem dX8_perform_92 : decode cX8_perform 92 = .ok (.aload_n 0, 1) := by decide +kernel
theorem dX8_perform_93 : decode cX8_perform 93 = .ok (.getfield 32, 3) := by decide +kernel
theorem dX8_perform_96 : decode cX8_perform 96 = .ok (.iconst 1, 1) := by decide +kernel
theorem dX8_perform_97 : decode cX8_perform 97 = .ok (.if_icmp .lt 17, 3) := by decide +kernel
theorem dX8_perform_100 : decode cX8_perform 100 = .ok (.aload_n 0, 1) := by decide +kernel
theorem dX8_perform_101 : decode cX8_perform 101 = .ok (.getfield 9, 3) := by decide +kernel
theorem dX8_perform_104 : decode cX8_perform 104 = .ok (.aload_n 0, 1) := by decide +kernel
theorem dX8_perform_105 : decode cX8_perform 105 = .ok (.getfield 32, 3) := by decide +kernel
theorem dX8_perform_108 : decode cX8_perform 108 = .ok (.iconst 1, 1) := by decide +kernel
theorem dX8_perform_109 : decode cX8_perform 109 = .ok (.isub, 1) := by decide +kernel
theorem dX8_perform_110 : decode cX8_perform 110 = .ok (.iaload, 1) := by decide +kernel
theorem dX8_perform_111 : decode cX8_perform 111 = .ok (.goto 4, 3) := by decide +kernel
theorem dX8_perform_114 : decode cX8_perform 114 = .ok (.iconst 0, 1) := by decide +kernel
theorem dX8_perform_115 : decode cX8_perform 115 = .ok (.istore 4, 2) := by decide +kernel
theorem dX8_perform_117 : decode cX8_perform 117 = .ok (.aload_n 0, 1) := by decide +kernel
theorem dX8_perform_118 : decode cX8_perform 118 = .ok (.getfield 32, 3) := by decide +kernel
theorem dX8_perform_121 : decode cX8_perform 121 = .ok (.getstatic 44, 3) := by decide +kernel
theorem dX8_perform_124 : decode cX8_perform 124 = .ok (.iload_n 1, 1) := by decide +kernel
theorem dX8_perform_125 : decode cX8_perform 125 = .ok (.iaload, 1) := by decide +kernel
theorem dX8_perform_126 : decode cX8_perform 126 = .ok (.isub, 1) := by decide +kernel
theorem dX8_perform_127 : decode cX8_perform 127 = .ok (.istore 5, 2) := by decide +kernel
theorem dX8_perform_129 : decode cX8_perform 129 = .ok (.aload_n 0, 1) := by decide +kernel
theorem dX8_perform_130 : decode cX8_perform 130 = .ok (.iload 5, 2) := by decide +kernel
theorem dX8_perform_132 : decode cX8_perform 132 = .ok (.getstatic 47, 3) := by decide +kernel
theorem dX8_perform_135 : decode cX8_perform 135 = .ok (.iload_n 1, 1) := by decide +kernel
theorem dX8_perform_136 : decode cX8_perform 136 = .ok (.iaload, 1) := by decide +kernel
theorem dX8_perform_137 : decode cX8_perform 137 = .ok (.iadd, 1) := by decide +kernel
theorem dX8_perform_138 : decode cX8_perform 138 = .ok (.putfield 32, 3) := by decide +kernel
theorem dX8_perform_141 : decode cX8_perform 141 = .ok (.iload_n 1, 1) := by decide +kernel
theorem dX8_perform_142 : decode cX8_perform 142 = .ok (.bipush 7, 2) := by decide +kernel
theorem dX8_perform_144 : decode cX8_perform 144 = .ok (.if_icmp .ge 66, 3) := by decide +kernel
theorem dX8_perform_147 : decode cX8_perform 147 = .ok (.iconst 0, 1) := by decide +kernel
theorem dX8_perform_148 : decode cX8_perform 148 = .ok (.istore 6, 2) := by decide +kernel
theorem dX8_perform_150 : decode cX8_perform 150 = .ok (.iload 6, 2) := by decide +kernel
theorem dX8_perform_152 : decode cX8_perform 152 = .ok (.getstatic 47, 3) := by decide +kernel
theorem dX8_perform_155 : decode cX8_perform 155 = .ok (.iload_n 1, 1) := by decide +kernel
theorem dX8_perform_156 : decode cX8_perform 156 = .ok (.iaload, 1) := by decide +kernel
theorem dX8_perform_157 : decode cX8_perform 157 = .ok (.if_icmp .ge 52, 3) := by decide +kernel
theorem dX8_perform_160 : decode cX8_perform 160 = .ok (.getstatic 50, 3) := by decide +kernel
theorem dX8_perform_163 : decode cX8_perform 163 = .ok (.iload_n 1, 1) := by decide +kernel
theorem dX8_perform_164 : decode cX8_perform 164 = .ok (.iconst 3, 1) := by decide +kernel
theorem dX8_perform_165 : decode cX8_perform 165 = .ok (.imul, 1) := by decide +kernel
theorem dX8_perform_166 : decode cX8_perform 166 = .ok (.iload 6, 2) := by decide +kernel
theorem dX8_perform_168 : decode cX8_perform 168 = .ok (.iadd, 1) := by decide +kernel
theorem dX8_perform_169 : decode cX8_perform 169 = .ok (.iaload, 1) := by decide +kernel
theorem dX8_perform_170 : decode cX8_perform 170 = .ok (.istore 7, 2) := by decide +kernel
theorem dX8_perform_172 : decode cX8_perform 172 = .ok (.aload_n 0, 1) := by decide +kernel
theorem dX8_perform_173 : decode cX8_perform 173 = .ok (.getfield 9, 3) := by decide +kernel
theorem dX8_perform_176 : decode cX8_perform 176 = .ok (.iload 5, 2) := by decide +kernel
theorem dX8_perform_178 : decode cX8_perform 178 = .ok (.iload 6, 2) := by decide +kernel
theorem dX8_perform_180 : decode cX8_perform 180 = .ok (.iadd, 1) := by decide +kernel
theorem dX8_perform_181 : decode cX8_perform 181 = .ok (.iload 7, 2) := by decide +kernel
theorem dX8_perform_183 : decode cX8_perform 183 = .ok (.ifCond .ne 8, 3) := by decide +kernel
theorem dX8_perform_186 : decode cX8_perform 186 = .ok (.iload 4, 2) := by decide +kernel
theorem dX8_perform_188 : decode cX8_perform 188 = .ok (.goto 14, 3) := by decide +kernel
theorem dX8_perform_191 : decode cX8_perform 191 = .ok (.iload 7, 2) := by decide +kernel
theorem dX8_perform_193 : decode cX8_perform 193 = .ok (.iconst 1, 1) := by decide +kernel
theorem dX8_perform_194 : decode cX8_perform 194 = .ok (.if_icmp .ne 7, 3) := by decide +kernel
theorem dX8_perform_197 : decode cX8_perform 197 = .ok (.iload_n 3, 1) := by decide +kernel
theorem dX8_perform_198 : decode cX8_perform 198 = .ok (.goto 4, 3) := by decide +kernel
theorem dX8_perform_201 : decode cX8_perform 201 = .ok (.iload_n 2, 1) := by decide +kernel
theorem dX8_perform_202 : decode cX8_perform 202 = .ok (.iastore, 1) := by decide +kernel
theorem dX8_perform_203 : decode cX8_perform 203 = .ok (.iinc 6 1, 3) := by decide +kernel
theorem dX8_perform_206 : decode cX8_perform 206 = .ok (.goto (-56), 3) := by decide +kernel
theorem dX8_perform_209 : decode cX8_perform 209 = .ok (.return_, 1) := by decide +kernel
theorem dX8_perform_210 : decode cX8_perform 210 = .ok (.iload_n 1, 1) := by decide +kernel
theorem dX8_perform_211 : decode cX8_perform 211 = .ok (.tableswitch 228 7 14 #[45, 78, 131, 145, 159, 173, 186, 207], 45) := by decide +kernel
theorem dX8_perform_256 : decode cX8_perform 256 = .ok (.aload_n 0, 1) := by decide +kernel
theorem dX8_perform_257 : decode cX8_perform 257 = .ok (.getfield 35, 3) := by decide +kernel
theorem dX8_perform_260 : decode cX8_perform 260 = .ok (.bipush 42, 2) := by decide +kernel
theorem dX8_perform_262 : decode cX8_perform 262 = .ok (.if_icmp .ge 177, 3) := by decide +kernel
theorem dX8_perform_265 : decode cX8_perform 265 = .ok (.aload_n 0, 1) := by decide +kernel
theorem dX8_perform_266 : decode cX8_perform 266 = .ok (.getfield 15, 3) := by decide +kernel
theorem dX8_perform_269 : decode cX8_perform 269 = .ok (.aload_n 0, 1) := by decide +kernel
theorem dX8_perform_270 : decode cX8_perform 270 = .ok (.getfield 35, 3) := by decide +kernel
theorem dX8_perform_273 : decode cX8_perform 273 = .ok (.iload 4, 2) := by decide +kernel
theorem dX8_perform_275 : decode cX8_perform 275 = .ok (.iastore, 1) := by decide +kernel
theorem dX8_perform_276 : decode cX8_perform 276 = .ok (.aload_n 0, 1) := by decide +kernel
theorem dX8_perform_277 : decode cX8_perform 277 = .ok (.dup, 1) := by decide +kernel
theorem dX8_perform_278 : decode cX8_perform 278 = .ok (.getfield 35, 3) := by decide +kernel
theorem dX8_perform_281 : decode cX8_perform 281 = .ok (.iconst 1, 1) := by decide +kernel
theorem dX8_perform_282 : decode cX8_perform 282 = .ok (.iadd, 1) := by decide +kernel
theorem dX8_perform_283 : decode cX8_perform 283 = .ok (.putfield 35, 3) := by decide +kernel
theorem dX8_perform_286 : decode cX8_perform 286 = .ok (.goto 153, 3) := by decide +kernel
theorem dX8_perform_289 : decode cX8_perform 289 = .ok (.aload_n 0, 1) := by decide +kernel
theorem dX8_perform_290 : decode cX8_perform 290 = .ok (.getfield 9, 3) := by decide +kernel
theorem dX8_perform_293 : decode cX8_perform 293 = .ok (.iload 5, 2) := by decide +kernel
theorem dX8_perform_295 : decode cX8_perform 295 = .ok (.aload_n 0, 1) := by decide +kernel
theorem dX8_perform_296 : decode cX8_perform 296 = .ok (.getfield 35, 3) := by decide +kernel
theorem dX8_perform_299 : decode cX8_perform 299 = .ok (.ifCond .le 17, 3) := by decide +kernel
theorem dX8_perform_302 : decode cX8_perform 302 = .ok (.aload_n 0, 1) := by decide +kernel
theorem dX8_perform_303 : decode cX8_perform 303 = .ok (.getfield 15, 3) := by decide +kernel
theorem dX8_perform_306 : decode cX8_perform 306 = .ok (.aload_n 0, 1) := by decide +kernel
theorem dX8_perform_307 : decode cX8_perform 307 = .ok (.getfield 35, 3) := by decide +kernel
theorem dX8_perform_310 : decode cX8_perform 310 = .ok (.iconst 1, 1) := by decide +kernel
theorem dX8_perform_311 : decode cX8_perform 311 = .ok (.isub, 1) := by decide +kernel
theorem dX8_perform_312 : decode cX8_perform 312 = .ok (.iaload, 1) := by decide +kernel
theorem dX8_perform_313 : decode cX8_perform 313 = .ok (.goto 4, 3) := by decide +kernel
theorem dX8_perform_316 : decode cX8_perform 316 = .ok (.iconst 0, 1) := by decide +kernel
theorem dX8_perform_317 : decode cX8_perform 317 = .ok (.iastore, 1) := by decide +kernel
theorem dX8_perform_318 : decode cX8_perform 318 = .ok (.aload_n 0, 1) := by decide +kernel
theorem dX8_perform_319 : decode cX8_perform 319 = .ok (.aload_n 0, 1) := by decide +kernel
theorem dX8_perform_320 : decode cX8_perform 320 = .ok (.getfield 35, 3) := by decide +kernel
theorem dX8_perform_323 : decode cX8_perform 323 = .ok (.ifCond .le 12, 3) := by decide +kernel
theorem dX8_perform_326 : decode cX8_perform 326 = .ok (.aload_n 0, 1) := by decide +kernel
theorem dX8_perform_327 : decode cX8_perform 327 = .ok (.getfield 35, 3) := by decide +kernel
theorem dX8_perform_330 : decode cX8_perform 330 = .ok (.iconst 1, 1) := by decide +kernel
theorem dX8_perform_331 : decode cX8_perform 331 = .ok (.isub, 1) := by decide +kernel
theorem dX8_perform_332 : decode cX8_perform 332 = .ok (.goto 4, 3) := by decide +kernel
theorem dX8_perform_335 : decode cX8_perform 335 = .ok (.iconst 0, 1) := by decide +kernel
theorem dX8_perform_336 : decode cX8_perform 336 = .ok (.putfield 35, 3) := by decide +kernel
theorem dX8_perform_339 : decode cX8_perform 339 = .ok (.goto 100, 3) := by decide +kernel
theorem dX8_perform_342 : decode cX8_perform 342 = .ok (.aload_n 0, 1) := by decide +kernel
theorem dX8_perform_343 : decode cX8_perform 343 = .ok (.getfield 9, 3) := by decide +kernel
theorem dX8_perform_346 : decode cX8_perform 346 = .ok (.iload 5, 2) := by decide +kernel
theorem dX8_perform_348 : decode cX8_perform 348 = .ok (.iload_n 3, 1) := by decide +kernel
theorem dX8_perform_349 : decode cX8_perform 349 = .ok (.iload 4, 2) := by decide +kernel
theorem dX8_perform_351 : decode cX8_perform 351 = .ok (.iadd, 1) := by decide +kernel
theorem dX8_perform_352 : decode cX8_perform 352 = .ok (.iastore, 1) := by decide +kernel
theorem dX8_perform_353 : decode cX8_perform 353 = .ok (.goto 86, 3) := by decide +kernel
theorem dX8_perform_356 : decode cX8_perform 356 = .ok (.aload_n 0, 1) := by decide +kernel
theorem dX8_perform_357 : decode cX8_perform 357 = .ok (.getfield 9, 3) := by decide +kernel
theorem dX8_perform_360 : decode cX8_perform 360 = .ok (.iload 5, 2) := by decide +kernel
theorem dX8_perform_362 : decode cX8_perform 362 = .ok (.iload_n 3, 1) := by decide +kernel
theorem dX8_perform_363 : decode cX8_perform 363 = .ok (.iload 4, 2) := by decide +kernel
theorem dX8_perform_365 : decode cX8_perform 365 = .ok (.isub, 1) := by decide +kernel
theorem dX8_perform_366 : decode cX8_perform 366 = .ok (.iastore, 1) := by decide +kernel
theorem dX8_perform_367 : decode cX8_perform 367 = .ok (.goto 72, 3) := by decide +kernel
theorem dX8_perform_370 : decode cX8_perform 370 = .ok (.aload_n 0, 1) := by decide +kernel
theorem dX8_perform_371 : decode cX8_perform 371 = .ok (.getfield 9, 3) := by decide +kernel
theorem dX8_perform_374 : decode cX8_perform 374 = .ok (.iload 5, 2) := by decide +kernel
theorem dX8_perform_376 : decode cX8_perform 376 = .ok (.iload_n 3, 1) := by decide +kernel
theorem dX8_perform_377 : decode cX8_perform 377 = .ok (.iload 4, 2) := by decide +kernel
theorem dX8_perform_379 : decode cX8_perform 379 = .ok (.imul, 1) := by decide +kernel
theorem dX8_perform_380 : decode cX8_perform 380 = .ok (.iastore, 1) := by decide +kernel
theorem dX8_perform_381 : decode cX8_perform 381 = .ok (.goto 58, 3) := by decide +kernel
theorem dX8_perform_384 : decode cX8_perform 384 = .ok (.aload_n 0, 1) := by decide +kernel
theorem dX8_perform_385 : decode cX8_perform 385 = .ok (.getfield 9, 3) := by decide +kernel
theorem dX8_perform_388 : decode cX8_perform 388 = .ok (.iload 5, 2) := by decide +kernel
theorem dX8_perform_390 : decode cX8_perform 390 = .ok (.iload 4, 2) := by decide +kernel
theorem dX8_perform_392 : decode cX8_perform 392 = .ok (.ineg, 1) := by decide +kernel
theorem dX8_perform_393 : decode cX8_perform 393 = .ok (.iastore, 1) := by decide +kernel
theorem dX8_perform_394 : decode cX8_perform 394 = .ok (.goto 45, 3) := by decide +kernel
theorem dX8_perform_397 : decode cX8_perform 397 = .ok (.aload_n 0, 1) := by decide +kernel
theorem dX8_perform_398 : decode cX8_perform 398 = .ok (.getfield 9, 3) := by decide +kernel
theorem dX8_perform_401 : decode cX8_perform 401 = .ok (.iload 5, 2) := by decide +kernel
theorem dX8_perform_403 : decode cX8_perform 403 = .ok (.iload_n 3, 1) := by decide +kernel
theorem dX8_perform_404 : decode cX8_perform 404 = .ok (.iload 4, 2) := by decide +kernel
theorem dX8_perform_406 : decode cX8_perform 406 = .ok (.if_icmp .ge 7, 3) := by decide +kernel
theorem dX8_perform_409 : decode cX8_perform 409 = .ok (.iconst 1, 1) := by decide +kernel
theorem dX8_perform_410 : decode cX8_perform 410 = .ok (.goto 4, 3) := by decide +kernel
theorem dX8_perform_413 : decode cX8_perform 413 = .ok (.iconst 0, 1) := by decide +kernel
theorem dX8_perform_414 : decode cX8_perform 414 = .ok (.iastore, 1) := by decide +kernel
theorem dX8_perform_415 : decode cX8_perform 415 = .ok (.goto 24, 3) := by decide +kernel
theorem dX8_perform_418 : decode cX8_perform 418 = .ok (.aload_n 0, 1) := by decide +kernel
theorem dX8_perform_419 : decode cX8_perform 419 = .ok (.getfield 9, 3) := by decide +kernel
theorem dX8_perform_422 : decode cX8_perform 422 = .ok (.iload 5, 2) := by decide +kernel
theorem dX8_perform_424 : decode cX8_perform 424 = .ok (.iload_n 3, 1) := by decide +kernel
theorem dX8_perform_425 : decode cX8_perform 425 = .ok (.iload 4, 2) := by decide +kernel
theorem dX8_perform_427 : decode cX8_perform 427 = .ok (.if_icmp .ne 7, 3) := by decide +kernel
theorem dX8_perform_430 : decode cX8_perform 430 = .ok (.iconst 1, 1) := by decide +kernel
theorem dX8_perform_431 : decode cX8_perform 431 = .ok (.goto 4, 3) := by decide +kernel
theorem dX8_perform_434 : decode cX8_perform 434 = .ok (.iconst 0, 1) := by decide +kernel
theorem dX8_perform_435 : decode cX8_perform 435 = .ok (.iastore, 1) := by decide +kernel
theorem dX8_perform_436 : decode cX8_perform 436 = .ok (.goto 3, 3) := by decide +kernel
theorem dX8_perform_439 : decode cX8_perform 439 = .ok (.return_, 1) := by decide +kernel
theorem dX8_turnBit_0 : decode cX8_turnBit 0 = .ok (.aload_n 0, 1) := by decide +kernel
theorem dX8_turnBit_1 : decode cX8_turnBit 1 = .ok (.aload_n 0, 1) := by decide +kernel
theorem dX8_turnBit_2 : decode cX8_turnBit 2 = .ok (.getfield 25, 3) := by decide +kernel
theorem dX8_turnBit_5 : decode cX8_turnBit 5 = .ok (.sipush 137, 3) := by decide +kernel
theorem dX8_turnBit_8 : decode cX8_turnBit 8 = .ok (.imul, 1) := by decide +kernel
theorem dX8_turnBit_9 : decode cX8_turnBit 9 = .ok (.bipush 71, 2) := by decide +kernel
theorem dX8_turnBit_11 : decode cX8_turnBit 11 = .ok (.iadd, 1) := by decide +kernel
theorem dX8_turnBit_12 : decode cX8_turnBit 12 = .ok (.sipush 1000, 3) := by decide +kernel
theorem dX8_turnBit_15 : decode cX8_turnBit 15 = .ok (.irem, 1) := by decide +kernel
theorem dX8_turnBit_16 : decode cX8_turnBit 16 = .ok (.putfield 25, 3) := by decide +kernel
theorem dX8_turnBit_19 : decode cX8_turnBit 19 = .ok (.aload_n 0, 1) := by decide +kernel
theorem dX8_turnBit_20 : decode cX8_turnBit 20 = .ok (.getfield 25, 3) := by decide +kernel
theorem dX8_turnBit_23 : decode cX8_turnBit 23 = .ok (.bipush 100, 2) := by decide +kernel
theorem dX8_turnBit_25 : decode cX8_turnBit 25 = .ok (.irem, 1) := by decide +kernel
theorem dX8_turnBit_26 : decode cX8_turnBit 26 = .ok (.iload_n 1, 1) := by decide +kernel
theorem dX8_turnBit_27 : decode cX8_turnBit 27 = .ok (.if_icmp .ge 10, 3) := by decide +kernel
theorem dX8_turnBit_30 : decode cX8_turnBit 30 = .ok (.aload_n 0, 1) := by decide +kernel
theorem dX8_turnBit_31 : decode cX8_turnBit 31 = .ok (.getfield 32, 3) := by decide +kernel
theorem dX8_turnBit_34 : decode cX8_turnBit 34 = .ok (.ifCond .ne 5, 3) := by decide +kernel
theorem dX8_turnBit_37 : decode cX8_turnBit 37 = .ok (.iconst (-1), 1) := by decide +kernel
theorem dX8_turnBit_38 : decode cX8_turnBit 38 = .ok (.ireturn, 1) := by decide +kernel
theorem dX8_turnBit_39 : decode cX8_turnBit 39 = .ok (.aload_n 0, 1) := by decide +kernel
theorem dX8_turnBit_40 : decode cX8_turnBit 40 = .ok (.getfield 25, 3) := by decide +kernel
theorem dX8_turnBit_43 : decode cX8_turnBit 43 = .ok (.bipush 100, 2) := by decide +kernel
theorem dX8_turnBit_45 : decode cX8_turnBit 45 = .ok (.idiv, 1) := by decide +kernel
theorem dX8_turnBit_46 : decode cX8_turnBit 46 = .ok (.istore_n 2, 1) := by decide +kernel
theorem dX8_turnBit_47 : decode cX8_turnBit 47 = .ok (.aload_n 0, 1) := by decide +kernel
theorem dX8_turnBit_48 : decode cX8_turnBit 48 = .ok (.getfield 9, 3) := by decide +kernel
theorem dX8_turnBit_51 : decode cX8_turnBit 51 = .ok (.aload_n 0, 1) := by decide +kernel
theorem dX8_turnBit_52 : decode cX8_turnBit 52 = .ok (.getfield 32, 3) := by decide +kernel
theorem dX8_turnBit_55 : decode cX8_turnBit 55 = .ok (.iconst 1, 1) := by decide +kernel
theorem dX8_turnBit_56 : decode cX8_turnBit 56 = .ok (.isub, 1) := by decide +kernel
theorem dX8_turnBit_57 : decode cX8_turnBit 57 = .ok (.dup2, 1) := by decide +kernel
theorem dX8_turnBit_58 : decode cX8_turnBit 58 = .ok (.iaload, 1) := by decide +kernel
theorem dX8_turnBit_59 : decode cX8_turnBit 59 = .ok (.iconst 1, 1) := by decide +kernel
theorem dX8_turnBit_60 : decode cX8_turnBit 60 = .ok (.iload_n 2, 1) := by decide +kernel
theorem dX8_turnBit_61 : decode cX8_turnBit 61 = .ok (.ishl, 1) := by decide +kernel
theorem dX8_turnBit_62 : decode cX8_turnBit 62 = .ok (.ixor, 1) := by decide +kernel
theorem dX8_turnBit_63 : decode cX8_turnBit 63 = .ok (.iastore, 1) := by decide +kernel
theorem dX8_turnBit_64 : decode cX8_turnBit 64 = .ok (.iload_n 2, 1) := by decide +kernel
theorem dX8_turnBit_65 : decode cX8_turnBit 65 = .ok (.ireturn, 1) := by decide +kernel
theorem dX9_init_0 : decode cX9_init 0 = .ok (.aload_n 0, 1) := by decide +kernel
theorem dX9_init_1 : decode cX9_init 1 = .ok (.invokespecial 3, 3) := by decide +kernel
theorem dX9_init_4 : decode cX9_init 4 = .ok (.aload_n 0, 1) := by decide +kernel
theorem dX9_init_5 : decode cX9_init 5 = .ok (.bipush 41, 2) := by decide +kernel
theorem dX9_init_7 : decode cX9_init 7 = .ok (.anewarray 9, 3) := by decide +kernel
theorem dX9_init_10 : decode cX9_init 10 = .ok (.putfield 11, 3) := by decide +kernel
theorem dX9_init_13 : decode cX9_init 13 = .ok (.iconst 0, 1) := by decide +kernel
theorem dX9_init_14 : decode cX9_init 14 = .ok (.istore_n 1, 1) := by decide +kernel
theorem dX9_init_15 : decode cX9_init 15 = .ok (.iload_n 1, 1) := by decide +kernel
theorem dX9_init_16 : decode cX9_init 16 = .ok (.bipush 40, 2) := by decide +kernel
theorem dX9_init_18 : decode cX9_init 18 = .ok (.if_icmp .gt 22, 3) := by decide +kernel
theorem dX9_init_21 : decode cX9_init 21 = .ok (.aload_n 0, 1) := by decide +kernel
theorem dX9_init_22 : decode cX9_init 22 = .ok (.getfield 11, 3) := by decide +kernel
theorem dX9_init_25 : decode cX9_init 25 = .ok (.iload_n 1, 1) := by decide +kernel
theorem dX9_init_26 : decode cX9_init 26 = .ok (.new 9, 3) := by decide +kernel
theorem dX9_init_29 : decode cX9_init 29 = .ok (.dup, 1) := by decide +kernel
theorem dX9_init_30 : decode cX9_init 30 = .ok (.invokespecial 17, 3) := by decide +kernel
theorem dX9_init_33 : decode cX9_init 33 = .ok (.aastore, 1) := by decide +kernel
theorem dX9_init_34 : decode cX9_init 34 = .ok (.iinc 1 1, 3) := by decide +kernel
theorem dX9_init_37 : decode cX9_init 37 = .ok (.goto (-22), 3) := by decide +kernel
theorem dX9_init_40 : decode cX9_init 40 = .ok (.return_, 1) := by decide +kernel
theorem dX9_state_0 : decode cX9_state 0 = .ok (.aload_n 0, 1) := by decide +kernel
theorem dX9_state_1 : decode cX9_state 1 = .ok (.getfield 11, 3) := by decide +kernel
theorem dX9_state_4 : decode cX9_state 4 = .ok (.aload_n 0, 1) := by decide +kernel
theorem dX9_state_5 : decode cX9_state 5 = .ok (.getfield 18, 3) := by decide +kernel
theorem dX9_state_8 : decode cX9_state 8 = .ok (.aload_n 0, 1) := by decide +kernel
theorem dX9_state_9 : decode cX9_state 9 = .ok (.getfield 22, 3) := by decide +kernel
theorem dX9_state_12 : decode cX9_state 12 = .ok (.iadd, 1) := by decide +kernel
theorem dX9_state_13 : decode cX9_state 13 = .ok (.bipush 41, 2) := by decide +kernel
theorem dX9_state_15 : decode cX9_state 15 = .ok (.irem, 1) := by decide +kernel
theorem dX9_state_16 : decode cX9_state 16 = .ok (.aaload, 1) := by decide +kernel
theorem dX9_state_17 : decode cX9_state 17 = .ok (.areturn, 1) := by decide +kernel
theorem dX9_begin_0 : decode cX9_begin 0 = .ok (.aload_n 0, 1) := by decide +kernel
theorem dX9_begin_1 : decode cX9_begin 1 = .ok (.invokevirtual 25, 3) := by decide +kernel
theorem dX9_begin_4 : decode cX9_begin 4 = .ok (.astore_n 1, 1) := by decide +kernel
theorem dX9_begin_5 : decode cX9_begin 5 = .ok (.aload_n 0, 1) := by decide +kernel
theorem dX9_begin_6 : decode cX9_begin 6 = .ok (.getfield 22, 3) := by decide +kernel
theorem dX9_begin_9 : decode cX9_begin 9 = .ok (.bipush 40, 2) := by decide +kernel
theorem dX9_begin_11 : decode cX9_begin 11 = .ok (.if_icmp .ne 19, 3) := by decide +kernel
theorem dX9_begin_14 : decode cX9_begin 14 = .ok (.aload_n 0, 1) := by decide +kernel
theorem dX9_begin_15 : decode cX9_begin 15 = .ok (.aload_n 0, 1) := by decide +kernel
theorem dX9_begin_16 : decode cX9_begin 16 = .ok (.getfield 18, 3) := by decide +kernel
theorem dX9_begin_19 : decode cX9_begin 19 = .ok (.iconst 1, 1) := by decide +kernel
theorem dX9_begin_20 : decode cX9_begin 20 = .ok (.iadd, 1) := by decide +kernel
theorem dX9_begin_21 : decode cX9_begin 21 = .ok (.bipush 41, 2) := by decide +kernel
theorem dX9_begin_23 : decode cX9_begin 23 = .ok (.irem, 1) := by decide +kernel
theorem dX9_begin_24 : decode cX9_begin 24 = .ok (.putfield 18, 3) := by decide +kernel
theorem dX9_begin_27 : decode cX9_begin 27 = .ok (.goto 13, 3) := by decide +kernel
theorem dX9_begin_30 : decode cX9_begin 30 = .ok (.aload_n 0, 1) := by decide +kernel
theorem dX9_begin_31 : decode cX9_begin 31 = .ok (.dup, 1) := by decide +kernel
theorem dX9_begin_32 : decode cX9_begin 32 = .ok (.getfield 22, 3) := by decide +kernel
theorem dX9_begin_35 : decode cX9_begin 35 = .ok (.iconst 1, 1) := by decide +kernel
theorem dX9_begin_36 : decode cX9_begin 36 = .ok (.iadd, 1) := by decide +kernel
theorem dX9_begin_37 : decode cX9_begin 37 = .ok (.putfield 22, 3) := by decide +kernel
theorem dX9_begin_40 : decode cX9_begin 40 = .ok (.aload_n 0, 1) := by decide +kernel
theorem dX9_begin_41 : decode cX9_begin 41 = .ok (.aload_n 0, 1) := by decide +kernel
theorem dX9_begin_42 : decode cX9_begin 42 = .ok (.getfield 22, 3) := by decide +kernel
theorem dX9_begin_45 : decode cX9_begin 45 = .ok (.putfield 29, 3) := by decide +kernel
theorem dX9_begin_48 : decode cX9_begin 48 = .ok (.aload_n 0, 1) := by decide +kernel
theorem dX9_begin_49 : decode cX9_begin 49 = .ok (.invokevirtual 25, 3) := by decide +kernel
theorem dX9_begin_52 : decode cX9_begin 52 = .ok (.aload_n 1, 1) := by decide +kernel
theorem dX9_begin_53 : decode cX9_begin 53 = .ok (.invokevirtual 32, 3) := by decide +kernel
theorem dX9_begin_56 : decode cX9_begin 56 = .ok (.aload_n 0, 1) := by decide +kernel
theorem dX9_begin_57 : decode cX9_begin 57 = .ok (.invokevirtual 25, 3) := by decide +kernel
theorem dX9_begin_60 : decode cX9_begin 60 = .ok (.areturn, 1) := by decide +kernel
theorem dX9_stepBack_0 : decode cX9_stepBack 0 = .ok (.aload_n 0, 1) := by decide +kernel
theorem dX9_stepBack_1 : decode cX9_stepBack 1 = .ok (.getfield 22, 3) := by decide +kernel
theorem dX9_stepBack_4 : decode cX9_stepBack 4 = .ok (.ifCond .ne 5, 3) := by decide +kernel
theorem dX9_stepBack_7 : decode cX9_stepBack 7 = .ok (.iconst 0, 1) := by decide +kernel
theorem dX9_stepBack_8 : decode cX9_stepBack 8 = .ok (.ireturn, 1) := by decide +kernel
theorem dX9_stepBack_9 : decode cX9_stepBack 9 = .ok (.aload_n 0, 1) := by decide +kernel
theorem dX9_stepBack_10 : decode cX9_stepBack 10 = .ok (.dup, 1) := by decide +kernel
theorem dX9_stepBack_11 : decode cX9_stepBack 11 = .ok (.getfield 22, 3) := by decide +kernel
theorem dX9_stepBack_14 : decode cX9_stepBack 14 = .ok (.iconst 1, 1) := by decide +kernel
theorem dX9_stepBack_15 : decode cX9_stepBack 15 = .ok (.isub, 1) := by decide +kernel
theorem dX9_stepBack_16 : decode cX9_stepBack 16 = .ok (.putfield 22, 3) := by decide +kernel
theorem dX9_stepBack_19 : decode cX9_stepBack 19 = .ok (.iconst 1, 1) := by decide +kernel
theorem dX9_stepBack_20 : decode cX9_stepBack 20 = .ok (.ireturn, 1) := by decide +kernel
theorem dX9_stepOn_0 : decode cX9_stepOn 0 = .ok (.aload_n 0, 1) := by decide +kernel
theorem dX9_stepOn_1 : decode cX9_stepOn 1 = .ok (.getfield 22, 3) := by decide +kernel
theorem dX9_stepOn_4 : decode cX9_stepOn 4 = .ok (.aload_n 0, 1) := by decide +kernel
theorem dX9_stepOn_5 : decode cX9_stepOn 5 = .ok (.getfield 29, 3) := by decide +kernel
theorem dX9_stepOn_8 : decode cX9_stepOn 8 = .ok (.if_icmp .ne 5, 3) := by decide +kernel
theorem dX9_stepOn_11 : decode cX9_stepOn 11 = .ok (.iconst 0, 1) := by decide +kernel
theorem dX9_stepOn_12 : decode cX9_stepOn 12 = .ok (.ireturn, 1) := by decide +kernel
theorem dX9_stepOn_13 : decode cX9_stepOn 13 = .ok (.aload_n 0, 1) := by decide +kernel
theorem dX9_stepOn_14 : decode cX9_stepOn 14 = .ok (.dup, 1) := by decide +kernel
theorem dX9_stepOn_15 : decode cX9_stepOn 15 = .ok (.getfield 22, 3) := by decide +kernel
theorem dX9_stepOn_18 : decode cX9_stepOn 18 = .ok (.iconst 1, 1) := by decide +kernel
theorem dX9_stepOn_19 : decode cX9_stepOn 19 = .ok (.iadd, 1) := by decide +kernel
theorem dX9_stepOn_20 : decode cX9_stepOn 20 = .ok (.putfield 22, 3) := by decide +kernel
theorem dX9_stepOn_23 : decode cX9_stepOn 23 = .ok (.iconst 1, 1) := by decide +kernel
theorem dX9_stepOn_24 : decode cX9_stepOn 24 = .ok (.ireturn, 1) := by decide +kernel
theorem dX9_restart_0 : decode cX9_restart 0 = .ok (.aload_n 0, 1) := by decide +kernel
theorem dX9_restart_1 : decode cX9_restart 1 = .ok (.iconst 0, 1) := by decide +kernel
theorem dX9_restart_2 : decode cX9_restart 2 = .ok (.putfield 22, 3) := by decide +kernel
theorem dX9_restart_5 : decode cX9_restart 5 = .ok (.aload_n 0, 1) := by decide +kernel
theorem dX9_restart_6 : decode cX9_restart 6 = .ok (.iconst 0, 1) := by decide +kernel
theorem dX9_restart_7 : decode cX9_restart 7 = .ok (.putfield 29, 3) := by decide +kernel
theorem dX9_restart_10 : decode cX9_restart 10 = .ok (.aload_n 0, 1) := by decide +kernel
theorem dX9_restart_11 : decode cX9_restart 11 = .ok (.invokevirtual 25, 3) := by decide +kernel
theorem dX9_restart_14 : decode cX9_restart 14 = .ok (.areturn, 1) := by decide +kernel
theorem dX10_init_0 : decode cX10_init 0 = .ok (.aload_n 0, 1) := by decide +kernel
theorem dX10_init_1 : decode cX10_init 1 = .ok (.invokespecial 3, 3) := by decide +kernel
theorem dX10_init_4 : decode cX10_init 4 = .ok (.aload_n 0, 1) := by decide +kernel
theorem dX10_init_5 : decode cX10_init 5 = .ok (.iconst 4, 1) := by decide +kernel
theorem dX10_init_6 : decode cX10_init 6 = .ok (.newarray .int, 2) := by decide +kernel
theorem dX10_init_8 : decode cX10_init 8 = .ok (.putfield 9, 3) := by decide +kernel
theorem dX10_init_11 : decode cX10_init 11 = .ok (.aload_n 0, 1) := by decide +kernel
theorem dX10_init_12 : decode cX10_init 12 = .ok (.iconst 4, 1) := by decide +kernel
theorem dX10_init_13 : decode cX10_init 13 = .ok (.newarray .int, 2) := by decide +kernel
theorem dX10_init_15 : decode cX10_init 15 = .ok (.putfield 15, 3) := by decide +kernel
theorem dX10_init_18 : decode cX10_init 18 = .ok (.aload_n 0, 1) := by decide +kernel
theorem dX10_init_19 : decode cX10_init 19 = .ok (.iconst 4, 1) := by decide +kernel
theorem dX10_init_20 : decode cX10_init 20 = .ok (.newarray .int, 2) := by decide +kernel
theorem dX10_init_22 : decode cX10_init 22 = .ok (.putfield 18, 3) := by decide +kernel
theorem dX10_init_25 : decode cX10_init 25 = .ok (.aload_n 0, 1) := by decide +kernel
theorem dX10_init_26 : decode cX10_init 26 = .ok (.iconst 4, 1) := by decide +kernel
theorem dX10_init_27 : decode cX10_init 27 = .ok (.newarray .int, 2) := by decide +kernel
theorem dX10_init_29 : decode cX10_init 29 = .ok (.putfield 21, 3) := by decide +kernel
theorem dX10_init_32 : decode cX10_init 32 = .ok (.aload_n 0, 1) := by decide +kernel
theorem dX10_init_33 : decode cX10_init 33 = .ok (.iconst 4, 1) := by decide +kernel
theorem dX10_init_34 : decode cX10_init 34 = .ok (.newarray .int, 2) := by decide +kernel
theorem dX10_init_36 : decode cX10_init 36 = .ok (.putfield 24, 3) := by decide +kernel
theorem dX10_init_39 : decode cX10_init 39 = .ok (.aload_n 0, 1) := by decide +kernel
theorem dX10_init_40 : decode cX10_init 40 = .ok (.iconst 4, 1) := by decide +kernel
theorem dX10_init_41 : decode cX10_init 41 = .ok (.newarray .int, 2) := by decide +kernel
theorem dX10_init_43 : decode cX10_init 43 = .ok (.putfield 27, 3) := by decide +kernel
theorem dX10_init_46 : decode cX10_init 46 = .ok (.return_, 1) := by decide +kernel
theorem dX10_begin_0 : decode cX10_begin 0 = .ok (.aload_n 0, 1) := by decide +kernel
theorem dX10_begin_1 : decode cX10_begin 1 = .ok (.aload_n 1, 1) := by decide +kernel
theorem dX10_begin_2 : decode cX10_begin 2 = .ok (.putfield 30, 3) := by decide +kernel
theorem dX10_begin_5 : decode cX10_begin 5 = .ok (.aload_n 0, 1) := by decide +kernel
theorem dX10_begin_6 : decode cX10_begin 6 = .ok (.iconst 0, 1) := by decide +kernel
theorem dX10_begin_7 : decode cX10_begin 7 = .ok (.putfield 34, 3) := by decide +kernel
theorem dX10_begin_10 : decode cX10_begin 10 = .ok (.aload_n 0, 1) := by decide +kernel
theorem dX10_begin_11 : decode cX10_begin 11 = .ok (.iconst 0, 1) := by decide +kernel
theorem dX10_begin_12 : decode cX10_begin 12 = .ok (.putfield 38, 3) := by decide +kernel
theorem dX10_begin_15 : decode cX10_begin 15 = .ok (.aload_n 0, 1) := by decide +kernel
theorem dX10_begin_16 : decode cX10_begin 16 = .ok (.iconst 0, 1) := by decide +kernel
theorem dX10_begin_17 : decode cX10_begin 17 = .ok (.putfield 41, 3) := by decide +kernel
theorem dX10_begin_20 : decode cX10_begin 20 = .ok (.aload_n 0, 1) := by decide +kernel
theorem dX10_begin_21 : decode cX10_begin 21 = .ok (.iconst 0, 1) := by decide +kernel
theorem dX10_begin_22 : decode cX10_begin 22 = .ok (.putfield 44, 3) := by decide +kernel
theorem dX10_begin_25 : decode cX10_begin 25 = .ok (.aload_n 0, 1) := by decide +kernel
theorem dX10_begin_26 : decode cX10_begin 26 = .ok (.iconst 0, 1) := by decide +kernel
theorem dX10_begin_27 : decode cX10_begin 27 = .ok (.putfield 47, 3) := by decide +kernel
theorem dX10_begin_30 : decode cX10_begin 30 = .ok (.aload_n 0, 1) := by decide +kernel
theorem dX10_begin_31 : decode cX10_begin 31 = .ok (.iconst 0, 1) := by decide +kernel
theorem dX10_begin_32 : decode cX10_begin 32 = .ok (.putfield 50, 3) := by decide +kernel
theorem dX10_begin_35 : decode cX10_begin 35 = .ok (.aload_n 0, 1) := by decide +kernel
theorem dX10_begin_36 : decode cX10_begin 36 = .ok (.iconst 0, 1) := by decide +kernel
theorem dX10_begin_37 : decode cX10_begin 37 = .ok (.putfield 53, 3) := by decide +kernel
theorem dX10_begin_40 : decode cX10_begin 40 = .ok (.return_, 1) := by decide +kernel
theorem dX10_endsWell_0 : decode cX10_endsWell 0 = .ok (.aload_n 0, 1) := by decide +kernel
theorem dX10_endsWell_1 : decode cX10_endsWell 1 = .ok (.getfield 53, 3) := by decide +kernel
theorem dX10_endsWell_4 : decode cX10_endsWell 4 = .ok (.ifCond .ne 24, 3) := by decide +kernel
theorem dX10_endsWell_7 : decode cX10_endsWell 7 = .ok (.aload_n 0, 1) := by decide +kernel
theorem dX10_endsWell_8 : decode cX10_endsWell 8 = .ok (.getfield 38, 3) := by decide +kernel
theorem dX10_endsWell_11 : decode cX10_endsWell 11 = .ok (.ifCond .ne 17, 3) := by decide +kernel
theorem dX10_endsWell_14 : decode cX10_endsWell 14 = .ok (.aload_n 0, 1) := by decide +kernel
theorem dX10_endsWell_15 : decode cX10_endsWell 15 = .ok (.getfield 50, 3) := by decide +kernel
theorem dX10_endsWell_18 : decode cX10_endsWell 18 = .ok (.sipush 2000, 3) := by decide +kernel
theorem dX10_endsWell_21 : decode cX10_endsWell 21 = .ok (.if_icmp .gt 7, 3) := by decide +kernel
theorem dX10_endsWell_24 : decode cX10_endsWell 24 = .ok (.iconst 1, 1) := by decide +kernel
theorem dX10_endsWell_25 : decode cX10_endsWell 25 = .ok (.goto 4, 3) := by decide +kernel
theorem dX10_endsWell_28 : decode cX10_endsWell 28 = .ok (.iconst 0, 1) := by decide +kernel
theorem dX10_endsWell_29 : decode cX10_endsWell 29 = .ok (.ireturn, 1) := by decide +kernel
theorem dX10_pass_0 : decode cX10_pass 0 = .ok (.iload_n 1, 1) := by decide +kernel
theorem dX10_pass_1 : decode cX10_pass 1 = .ok (.tableswitch 120 0 7 #[47, 53, 71, 77, 105, 110, 99, 115], 47) := by decide +kernel
theorem dX10_pass_48 : decode cX10_pass 48 = .ok (.aload_n 0, 1) := by decide +kernel
theorem dX10_pass_49 : decode cX10_pass 49 = .ok (.iload_n 2, 1) := by decide +kernel
theorem dX10_pass_50 : decode cX10_pass 50 = .ok (.invokevirtual 56, 3) := by decide +kernel
theorem dX10_pass_53 : decode cX10_pass 53 = .ok (.ireturn, 1) := by decide +kernel
theorem dX10_pass_54 : decode cX10_pass 54 = .ok (.aload_n 0, 1) := by decide +kernel
theorem dX10_pass_55 : decode cX10_pass 55 = .ok (.dup, 1) := by decide +kernel
theorem dX10_pass_56 : decode cX10_pass 56 = .ok (.getfield 50, 3) := by decide +kernel
theorem dX10_pass_59 : decode cX10_pass 59 = .ok (.iconst 1, 1) := by decide +kernel
theorem dX10_pass_60 : decode cX10_pass 60 = .ok (.iadd, 1) := by decide +kernel
theorem dX10_pass_61 : decode cX10_pass 61 = .ok (.putfield 50, 3) := by decide +kernel
theorem dX10_pass_64 : decode cX10_pass 64 = .ok (.aload_n 0, 1) := by decide +kernel
theorem dX10_pass_65 : decode cX10_pass 65 = .ok (.iconst 0, 1) := by decide +kernel
theorem dX10_pass_66 : decode cX10_pass 66 = .ok (.iconst 1, 1) := by decide +kernel
theorem dX10_pass_67 : decode cX10_pass 67 = .ok (.iconst 1, 1) := by decide +kernel
theorem dX10_pass_68 : decode cX10_pass 68 = .ok (.invokevirtual 60, 3) := by decide +kernel
theorem dX10_pass_71 : decode cX10_pass 71 = .ok (.ireturn, 1) := by decide +kernel
theorem dX10_pass_72 : decode cX10_pass 72 = .ok (.aload_n 0, 1) := by decide +kernel
theorem dX10_pass_73 : decode cX10_pass 73 = .ok (.iload_n 2, 1) := by decide +kernel
theorem dX10_pass_74 : decode cX10_pass 74 = .ok (.invokevirtual 64, 3) := by decide +kernel
theorem dX10_pass_77 : decode cX10_pass 77 = .ok (.ireturn, 1) := by decide +kernel
theorem dX10_pass_78 : decode cX10_pass 78 = .ok (.aload_n 0, 1) := by decide +kernel
theorem dX10_pass_79 : decode cX10_pass 79 = .ok (.iconst 1, 1) := by decide +kernel
theorem dX10_pass_80 : decode cX10_pass 80 = .ok (.iconst 0, 1) := by decide +kernel
theorem dX10_pass_81 : decode cX10_pass 81 = .ok (.iconst 0, 1) := by decide +kernel
theorem dX10_pass_82 : decode cX10_pass 82 = .ok (.invokevirtual 60, 3) := by decide +kernel
theorem dX10_pass_85 : decode cX10_pass 85 = .ok (.istore_n 3, 1) := by decide +kernel
theorem dX10_pass_86 : decode cX10_pass 86 = .ok (.iload_n 3, 1) := by decide +kernel
theorem dX10_pass_87 : decode cX10_pass 87 = .ok (.ifCond .eq 7, 3) := by decide +kernel
theorem dX10_pass_90 : decode cX10_pass 90 = .ok (.iload_n 3, 1) := by decide +kernel
theorem dX10_pass_91 : decode cX10_pass 91 = .ok (.goto 8, 3) := by decide +kernel
theorem dX10_pass_94 : decode cX10_pass 94 = .ok (.aload_n 0, 1) := by decide +kernel
theorem dX10_pass_95 : decode cX10_pass 95 = .ok (.iconst 0, 1) := by decide +kernel
theorem dX10_pass_96 : decode cX10_pass 96 = .ok (.invokevirtual 67, 3) := by decide +kernel
theorem dX10_pass_99 : decode cX10_pass 99 = .ok (.ireturn, 1) := by decide +kernel
theorem dX10_pass_100 : decode cX10_pass 100 = .ok (.aload_n 0, 1) := by decide +kernel
theorem dX10_pass_101 : decode cX10_pass 101 = .ok (.iload_n 2, 1) := by decide +kernel
theorem dX10_pass_102 : decode cX10_pass 102 = .ok (.invokevirtual 67, 3) := by decide +kernel
theorem dX10_pass_105 : decode cX10_pass 105 = .ok (.ireturn, 1) := by decide +kernel
theorem dX10_pass_106 : decode cX10_pass 106 = .ok (.aload_n 0, 1) := by decide +kernel
theorem dX10_pass_107 : decode cX10_pass 107 = .ok (.invokevirtual 70, 3) := by decide +kernel
theorem dX10_pass_110 : decode cX10_pass 110 = .ok (.ireturn, 1) := by decide +kernel
theorem dX10_pass_111 : decode cX10_pass 111 = .ok (.aload_n 0, 1) := by decide +kernel
theorem dX10_pass_112 : decode cX10_pass 112 = .ok (.invokevirtual 74, 3) := by decide +kernel
theorem dX10_pass_115 : decode cX10_pass 115 = .ok (.ireturn, 1) := by decide +kernel
theorem dX10_pass_116 : decode cX10_pass 116 = .ok (.aload_n 0, 1) := by decide +kernel
theorem dX10_pass_117 : decode cX10_pass 117 = .ok (.invokevirtual 77, 3) := by decide +kernel
theorem dX10_pass_120 : decode cX10_pass 120 = .ok (.ireturn, 1) := by decide +kernel
theorem dX10_pass_121 : decode cX10_pass 121 = .ok (.iconst 2, 1) := by decide +kernel
theorem dX10_pass_122 : decode cX10_pass 122 = .ok (.ireturn, 1) := by decide +kernel
theorem dX10_passThing_0 : decode cX10_passThing 0 = .ok (.iload_n 1, 1) := by decide +kernel
theorem dX10_passThing_1 : decode cX10_passThing 1 = .ok (.ifCond .lt 22, 3) := by decide +kernel
theorem dX10_passThing_4 : decode cX10_passThing 4 = .ok (.iload_n 1, 1) := by decide +kernel
theorem dX10_passThing_5 : decode cX10_passThing 5 = .ok (.bipush 15, 2) := by decide +kernel
theorem dX10_passThing_7 : decode cX10_passThing 7 = .ok (.if_icmp .ge 16, 3) := by decide +kernel
theorem dX10_passThing_10 : decode cX10_passThing 10 = .ok (.iload_n 1, 1) := by decide +kernel
theorem dX10_passThing_11 : decode cX10_passThing 11 = .ok (.bipush 8, 2) := by decide +kernel
theorem dX10_passThing_13 : decode cX10_passThing 13 = .ok (.if_icmp .ne 13, 3) := by decide +kernel
theorem dX10_passThing_16 : decode cX10_passThing 16 = .ok (.aload_n 0, 1) := by decide +kernel
theorem dX10_passThing_17 : decode cX10_passThing 17 = .ok (.getfield 38, 3) := by decide +kernel
theorem dX10_passThing_20 : decode cX10_passThing 20 = .ok (.ifCond .ne 6, 3) := by decide +kernel
theorem dX10_passThing_23 : decode cX10_passThing 23 = .ok (.bipush 7, 2) := by decide +kernel
theorem dX10_passThing_25 : decode cX10_passThing 25 = .ok (.ireturn, 1) := by decide +kernel
theorem dX10_passThing_26 : decode cX10_passThing 26 = .ok (.aload_n 0, 1) := by decide +kernel
theorem dX10_passThing_27 : decode cX10_passThing 27 = .ok (.dup, 1) := by decide +kernel
theorem dX10_passThing_28 : decode cX10_passThing 28 = .ok (.getfield 50, 3) := by decide +kernel
theorem dX10_passThing_31 : decode cX10_passThing 31 = .ok (.iconst 1, 1) := by decide +kernel
theorem dX10_passThing_32 : decode cX10_passThing 32 = .ok (.iadd, 1) := by decide +kernel
theorem dX10_passThing_33 : decode cX10_passThing 33 = .ok (.putfield 50, 3) := by decide +kernel
theorem dX10_passThing_36 : decode cX10_passThing 36 = .ok (.iload_n 1, 1) := by decide +kernel
theorem dX10_passThing_37 : decode cX10_passThing 37 = .ok (.bipush 7, 2) := by decide +kernel
theorem dX10_passThing_39 : decode cX10_passThing 39 = .ok (.if_icmp .ne 31, 3) := by decide +kernel
theorem dX10_passThing_42 : decode cX10_passThing 42 = .ok (.aload_n 0, 1) := by decide +kernel
theorem dX10_passThing_43 : decode cX10_passThing 43 = .ok (.dup, 1) := by decide +kernel
theorem dX10_passThing_44 : decode cX10_passThing 44 = .ok (.getfield 38, 3) := by decide +kernel
theorem dX10_passThing_47 : decode cX10_passThing 47 = .ok (.iconst 1, 1) := by decide +kernel
theorem dX10_passThing_48 : decode cX10_passThing 48 = .ok (.iadd, 1) := by decide +kernel
theorem dX10_passThing_49 : decode cX10_passThing 49 = .ok (.putfield 38, 3) := by decide +kernel
theorem dX10_passThing_52 : decode cX10_passThing 52 = .ok (.aload_n 0, 1) := by decide +kernel
theorem dX10_passThing_53 : decode cX10_passThing 53 = .ok (.aload_n 0, 1) := by decide +kernel
theorem dX10_passThing_54 : decode cX10_passThing 54 = .ok (.getfield 47, 3) := by decide +kernel
theorem dX10_passThing_57 : decode cX10_passThing 57 = .ok (.aload_n 0, 1) := by decide +kernel
theorem dX10_passThing_58 : decode cX10_passThing 58 = .ok (.getfield 38, 3) := by decide +kernel
theorem dX10_passThing_61 : decode cX10_passThing 61 = .ok (.invokestatic 80, 3) := by decide +kernel
theorem dX10_passThing_64 : decode cX10_passThing 64 = .ok (.putfield 47, 3) := by decide +kernel
theorem dX10_passThing_67 : decode cX10_passThing 67 = .ok (.goto 19, 3) := by decide +kernel
theorem dX10_passThing_70 : decode cX10_passThing 70 = .ok (.iload_n 1, 1) := by decide +kernel
theorem dX10_passThing_71 : decode cX10_passThing 71 = .ok (.bipush 8, 2) := by decide +kernel
theorem dX10_passThing_73 : decode cX10_passThing 73 = .ok (.if_icmp .ne 13, 3) := by decide +kernel
theorem dX10_passThing_76 : decode cX10_passThing 76 = .ok (.aload_n 0, 1) := by decide +kernel
theorem dX10_passThing_77 : decode cX10_passThing 77 = .ok (.dup, 1) := by decide +kernel
theorem dX10_passThing_78 : decode cX10_passThing 78 = .ok (.getfield 38, 3) := by decide +kernel
theorem dX10_passThing_81 : decode cX10_passThing 81 = .ok (.iconst 1, 1) := by decide +kernel
theorem dX10_passThing_82 : decode cX10_passThing 82 = .ok (.isub, 1) := by decide +kernel
theorem dX10_passThing_83 : decode cX10_passThing 83 = .ok (.putfield 38, 3) := by decide +kernel
theorem dX10_passThing_86 : decode cX10_passThing 86 = .ok (.aload_n 0, 1) := by decide +kernel
theorem dX10_passThing_87 : decode cX10_passThing 87 = .ok (.getstatic 86, 3) := by decide +kernel
theorem dX10_passThing_90 : decode cX10_passThing 90 = .ok (.iload_n 1, 1) := by decide +kernel
theorem dX10_passThing_91 : decode cX10_passThing 91 = .ok (.iaload, 1) := by decide +kernel
theorem dX10_passThing_92 : decode cX10_passThing 92 = .ok (.getstatic 89, 3) := by decide +kernel
theorem dX10_passThing_95 : decode cX10_passThing 95 = .ok (.iload_n 1, 1) := by decide +kernel
theorem dX10_passThing_96 : decode cX10_passThing 96 = .ok (.iaload, 1) := by decide +kernel
theorem dX10_passThing_97 : decode cX10_passThing 97 = .ok (.getstatic 89, 3) := by decide +kernel
theorem dX10_passThing_100 : decode cX10_passThing 100 = .ok (.iload_n 1, 1) := by decide +kernel
theorem dX10_passThing_101 : decode cX10_passThing 101 = .ok (.iaload, 1) := by decide +kernel
theorem dX10_passThing_102 : decode cX10_passThing 102 = .ok (.getstatic 86, 3) := by decide +kernel
theorem dX10_passThing_105 : decode cX10_passThing 105 = .ok (.iload_n 1, 1) := by decide +kernel
theorem dX10_passThing_106 : decode cX10_passThing 106 = .ok (.iaload, 1) := by decide +kernel
theorem dX10_passThing_107 : decode cX10_passThing 107 = .ok (.isub, 1) := by decide +kernel
theorem dX10_passThing_108 : decode cX10_passThing 108 = .ok (.invokevirtual 60, 3) := by decide +kernel
theorem dX10_passThing_111 : decode cX10_passThing 111 = .ok (.istore_n 2, 1) := by decide +kernel
theorem dX10_passThing_112 : decode cX10_passThing 112 = .ok (.aload_n 0, 1) := by decide +kernel
theorem dX10_passThing_113 : decode cX10_passThing 113 = .ok (.getfield 38, 3) := by decide +kernel
theorem dX10_passThing_116 : decode cX10_passThing 116 = .ok (.bipush 6, 2) := by decide +kernel
theorem dX10_passThing_118 : decode cX10_passThing 118 = .ok (.if_icmp .le 8, 3) := by decide +kernel
theorem dX10_passThing_121 : decode cX10_passThing 121 = .ok (.bipush 7, 2) := by decide +kernel
theorem dX10_passThing_123 : decode cX10_passThing 123 = .ok (.goto 4, 3) := by decide +kernel
theorem dX10_passThing_126 : decode cX10_passThing 126 = .ok (.iload_n 2, 1) := by decide +kernel
theorem dX10_passThing_127 : decode cX10_passThing 127 = .ok (.ireturn, 1) := by decide +kernel
theorem dX10_passCall_0 : decode cX10_passCall 0 = .ok (.aload_n 0, 1) := by decide +kernel
theorem dX10_passCall_1 : decode cX10_passCall 1 = .ok (.getfield 30, 3) := by decide +kernel
theorem dX10_passCall_4 : decode cX10_passCall 4 = .ok (.iload_n 1, 1) := by decide +kernel
theorem dX10_passCall_5 : decode cX10_passCall 5 = .ok (.invokevirtual 92, 3) := by decide +kernel
theorem dX10_passCall_8 : decode cX10_passCall 8 = .ok (.ifCond .ne 5, 3) := by decide +kernel
theorem dX10_passCall_11 : decode cX10_passCall 11 = .ok (.iconst 5, 1) := by decide +kernel
theorem dX10_passCall_12 : decode cX10_passCall 12 = .ok (.ireturn, 1) := by decide +kernel
theorem dX10_passCall_13 : decode cX10_passCall 13 = .ok (.aload_n 0, 1) := by decide +kernel
theorem dX10_passCall_14 : decode cX10_passCall 14 = .ok (.dup, 1) := by decide +kernel
theorem dX10_passCall_15 : decode cX10_passCall 15 = .ok (.getfield 50, 3) := by decide +kernel
theorem dX10_passCall_18 : decode cX10_passCall 18 = .ok (.iconst 1, 1) := by decide +kernel
theorem dX10_passCall_19 : decode cX10_passCall 19 = .ok (.aload_n 0, 1) := by decide +kernel
theorem dX10_passCall_20 : decode cX10_passCall 20 = .ok (.getfield 30, 3) := by decide +kernel
theorem dX10_passCall_23 : decode cX10_passCall 23 = .ok (.getfield 98, 3) := by decide +kernel
theorem dX10_passCall_26 : decode cX10_passCall 26 = .ok (.iload_n 1, 1) := by decide +kernel
theorem dX10_passCall_27 : decode cX10_passCall 27 = .ok (.iaload, 1) := by decide +kernel
theorem dX10_passCall_28 : decode cX10_passCall 28 = .ok (.iadd, 1) := by decide +kernel
theorem dX10_passCall_29 : decode cX10_passCall 29 = .ok (.iadd, 1) := by decide +kernel
theorem dX10_passCall_30 : decode cX10_passCall 30 = .ok (.putfield 50, 3) := by decide +kernel
theorem dX10_passCall_33 : decode cX10_passCall 33 = .ok (.aload_n 0, 1) := by decide +kernel
theorem dX10_passCall_34 : decode cX10_passCall 34 = .ok (.aload_n 0, 1) := by decide +kernel
theorem dX10_passCall_35 : decode cX10_passCall 35 = .ok (.getfield 30, 3) := by decide +kernel
theorem dX10_passCall_38 : decode cX10_passCall 38 = .ok (.getfield 100, 3) := by decide +kernel
theorem dX10_passCall_41 : decode cX10_passCall 41 = .ok (.iload_n 1, 1) := by decide +kernel
theorem dX10_passCall_42 : decode cX10_passCall 42 = .ok (.iaload, 1) := by decide +kernel
theorem dX10_passCall_43 : decode cX10_passCall 43 = .ok (.aload_n 0, 1) := by decide +kernel
theorem dX10_passCall_44 : decode cX10_passCall 44 = .ok (.getfield 30, 3) := by decide +kernel
theorem dX10_passCall_47 : decode cX10_passCall 47 = .ok (.getfield 102, 3) := by decide +kernel
theorem dX10_passCall_50 : decode cX10_passCall 50 = .ok (.iload_n 1, 1) := by decide +kernel
theorem dX10_passCall_51 : decode cX10_passCall 51 = .ok (.iaload, 1) := by decide +kernel
theorem dX10_passCall_52 : decode cX10_passCall 52 = .ok (.aload_n 0, 1) := by decide +kernel
theorem dX10_passCall_53 : decode cX10_passCall 53 = .ok (.getfield 30, 3) := by decide +kernel
theorem dX10_passCall_56 : decode cX10_passCall 56 = .ok (.getfield 105, 3) := by decide +kernel
theorem dX10_passCall_59 : decode cX10_passCall 59 = .ok (.iload_n 1, 1) := by decide +kernel
theorem dX10_passCall_60 : decode cX10_passCall 60 = .ok (.iaload, 1) := by decide +kernel
theorem dX10_passCall_61 : decode cX10_passCall 61 = .ok (.invokevirtual 60, 3) := by decide +kernel
theorem dX10_passCall_64 : decode cX10_passCall 64 = .ok (.ireturn, 1) := by decide +kernel
theorem dX10_change_0 : decode cX10_change 0 = .ok (.aload_n 0, 1) := by decide +kernel
theorem dX10_change_1 : decode cX10_change 1 = .ok (.iload_n 1, 1) := by decide +kernel
theorem dX10_change_2 : decode cX10_change 2 = .ok (.aload_n 0, 1) := by decide +kernel
theorem dX10_change_3 : decode cX10_change 3 = .ok (.getfield 34, 3) := by decide +kernel
theorem dX10_change_6 : decode cX10_change 6 = .ok (.isub, 1) := by decide +kernel
theorem dX10_change_7 : decode cX10_change 7 = .ok (.aload_n 0, 1) := by decide +kernel
theorem dX10_change_8 : decode cX10_change 8 = .ok (.getfield 41, 3) := by decide +kernel
theorem dX10_change_11 : decode cX10_change 11 = .ok (.if_icmp .le 12, 3) := by decide +kernel
theorem dX10_change_14 : decode cX10_change 14 = .ok (.iload_n 1, 1) := by decide +kernel
