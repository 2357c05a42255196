theorem dX3_goOver_63 : decode cX3_goOver 63 = .ok (.if_icmp .ge 58, 3) := by decide +kernel
theorem dX3_goOver_66 : decode cX3_goOver 66 = .ok (.iconst 0, 1) := by decide +kernel
theorem dX3_goOver_67 : decode cX3_goOver 67 = .ok (.istore_n 3, 1) := by decide +kernel
theorem dX3_goOver_68 : decode cX3_goOver 68 = .ok (.iload_n 3, 1) := by decide +kernel
theorem dX3_goOver_69 : decode cX3_goOver 69 = .ok (.aload_n 0, 1) := by decide +kernel
theorem dX3_goOver_70 : decode cX3_goOver 70 = .ok (.getfield 17, 3) := by decide +kernel
theorem dX3_goOver_73 : decode cX3_goOver 73 = .ok (.iload_n 2, 1) := by decide +kernel
theorem dX3_goOver_74 : decode cX3_goOver 74 = .ok (.iaload, 1) := by decide +kernel
theorem dX3_goOver_75 : decode cX3_goOver 75 = .ok (.if_icmp .ge 40, 3) := by decide +kernel
theorem dX3_goOver_78 : decode cX3_goOver 78 = .ok (.aload_n 0, 1) := by decide +kernel
theorem dX3_goOver_79 : decode cX3_goOver 79 = .ok (.getfield 20, 3) := by decide +kernel
theorem dX3_goOver_82 : decode cX3_goOver 82 = .ok (.iload_n 2, 1) := by decide +kernel
theorem dX3_goOver_83 : decode cX3_goOver 83 = .ok (.baload, 1) := by decide +kernel
theorem dX3_goOver_84 : decode cX3_goOver 84 = .ok (.ifCond .eq 31, 3) := by decide +kernel
theorem dX3_goOver_87 : decode cX3_goOver 87 = .ok (.aload_n 0, 1) := by decide +kernel
theorem dX3_goOver_88 : decode cX3_goOver 88 = .ok (.iload_n 2, 1) := by decide +kernel
theorem dX3_goOver_89 : decode cX3_goOver 89 = .ok (.iload_n 3, 1) := by decide +kernel
theorem dX3_goOver_90 : decode cX3_goOver 90 = .ok (.invokestatic 41, 3) := by decide +kernel
theorem dX3_goOver_93 : decode cX3_goOver 93 = .ok (.invokevirtual 38, 3) := by decide +kernel
theorem dX3_goOver_96 : decode cX3_goOver 96 = .ok (.ifCond .ne 7, 3) := by decide +kernel
theorem dX3_goOver_99 : decode cX3_goOver 99 = .ok (.iload_n 1, 1) := by decide +kernel
theorem dX3_goOver_100 : decode cX3_goOver 100 = .ok (.ifCond .eq 7, 3) := by decide +kernel
theorem dX3_goOver_103 : decode cX3_goOver 103 = .ok (.iconst 1, 1) := by decide +kernel
theorem dX3_goOver_104 : decode cX3_goOver 104 = .ok (.goto 4, 3) := by decide +kernel
theorem dX3_goOver_107 : decode cX3_goOver 107 = .ok (.iconst 0, 1) := by decide +kernel
theorem dX3_goOver_108 : decode cX3_goOver 108 = .ok (.istore_n 1, 1) := by decide +kernel
theorem dX3_goOver_109 : decode cX3_goOver 109 = .ok (.iinc 3 1, 3) := by decide +kernel
theorem dX3_goOver_112 : decode cX3_goOver 112 = .ok (.goto (-44), 3) := by decide +kernel
theorem dX3_goOver_115 : decode cX3_goOver 115 = .ok (.iinc 2 1, 3) := by decide +kernel
theorem dX3_goOver_118 : decode cX3_goOver 118 = .ok (.goto (-60), 3) := by decide +kernel
theorem dX3_goOver_121 : decode cX3_goOver 121 = .ok (.goto (-71), 3) := by decide +kernel
theorem dX3_goOver_124 : decode cX3_goOver 124 = .ok (.return_, 1) := by decide +kernel
theorem dX3_reach_0 : decode cX3_reach 0 = .ok (.aload_n 0, 1) := by decide +kernel
theorem dX3_reach_1 : decode cX3_reach 1 = .ok (.getfield 7, 3) := by decide +kernel
theorem dX3_reach_4 : decode cX3_reach 4 = .ok (.iload_n 1, 1) := by decide +kernel
theorem dX3_reach_5 : decode cX3_reach 5 = .ok (.baload, 1) := by decide +kernel
theorem dX3_reach_6 : decode cX3_reach 6 = .ok (.iconst 2, 1) := by decide +kernel
theorem dX3_reach_7 : decode cX3_reach 7 = .ok (.if_icmp .ne 17, 3) := by decide +kernel
theorem dX3_reach_10 : decode cX3_reach 10 = .ok (.aload_n 0, 1) := by decide +kernel
theorem dX3_reach_11 : decode cX3_reach 11 = .ok (.getfield 20, 3) := by decide +kernel
theorem dX3_reach_14 : decode cX3_reach 14 = .ok (.aload_n 0, 1) := by decide +kernel
theorem dX3_reach_15 : decode cX3_reach 15 = .ok (.getfield 13, 3) := by decide +kernel
theorem dX3_reach_18 : decode cX3_reach 18 = .ok (.iload_n 1, 1) := by decide +kernel
theorem dX3_reach_19 : decode cX3_reach 19 = .ok (.iaload, 1) := by decide +kernel
theorem dX3_reach_20 : decode cX3_reach 20 = .ok (.baload, 1) := by decide +kernel
theorem dX3_reach_21 : decode cX3_reach 21 = .ok (.ifCond .eq 5, 3) := by decide +kernel
theorem dX3_reach_24 : decode cX3_reach 24 = .ok (.iconst 0, 1) := by decide +kernel
theorem dX3_reach_25 : decode cX3_reach 25 = .ok (.ireturn, 1) := by decide +kernel
theorem dX3_reach_26 : decode cX3_reach 26 = .ok (.aload_n 0, 1) := by decide +kernel
theorem dX3_reach_27 : decode cX3_reach 27 = .ok (.getfield 20, 3) := by decide +kernel
theorem dX3_reach_30 : decode cX3_reach 30 = .ok (.aload_n 0, 1) := by decide +kernel
theorem dX3_reach_31 : decode cX3_reach 31 = .ok (.getfield 13, 3) := by decide +kernel
theorem dX3_reach_34 : decode cX3_reach 34 = .ok (.iload_n 1, 1) := by decide +kernel
theorem dX3_reach_35 : decode cX3_reach 35 = .ok (.iaload, 1) := by decide +kernel
theorem dX3_reach_36 : decode cX3_reach 36 = .ok (.iconst 1, 1) := by decide +kernel
theorem dX3_reach_37 : decode cX3_reach 37 = .ok (.bastore, 1) := by decide +kernel
theorem dX3_reach_38 : decode cX3_reach 38 = .ok (.iconst 1, 1) := by decide +kernel
theorem dX3_reach_39 : decode cX3_reach 39 = .ok (.ireturn, 1) := by decide +kernel
theorem dX3_placeOf_0 : decode cX3_placeOf 0 = .ok (.bipush 60, 2) := by decide +kernel
theorem dX3_placeOf_2 : decode cX3_placeOf 2 = .ok (.bipush 20, 2) := by decide +kernel
theorem dX3_placeOf_4 : decode cX3_placeOf 4 = .ok (.iload_n 0, 1) := by decide +kernel
theorem dX3_placeOf_5 : decode cX3_placeOf 5 = .ok (.imul, 1) := by decide +kernel
theorem dX3_placeOf_6 : decode cX3_placeOf 6 = .ok (.iadd, 1) := by decide +kernel
theorem dX3_placeOf_7 : decode cX3_placeOf 7 = .ok (.iload_n 1, 1) := by decide +kernel
theorem dX3_placeOf_8 : decode cX3_placeOf 8 = .ok (.iadd, 1) := by decide +kernel
theorem dX3_placeOf_9 : decode cX3_placeOf 9 = .ok (.ireturn, 1) := by decide +kernel
theorem dX3_move_0 : decode cX3_move 0 = .ok (.aload_n 0, 1) := by decide +kernel
theorem dX3_move_1 : decode cX3_move 1 = .ok (.getfield 7, 3) := by decide +kernel
theorem dX3_move_4 : decode cX3_move 4 = .ok (.iload_n 1, 1) := by decide +kernel
theorem dX3_move_5 : decode cX3_move 5 = .ok (.aload_n 0, 1) := by decide +kernel
theorem dX3_move_6 : decode cX3_move 6 = .ok (.getfield 7, 3) := by decide +kernel
theorem dX3_move_9 : decode cX3_move 9 = .ok (.iload_n 2, 1) := by decide +kernel
theorem dX3_move_10 : decode cX3_move 10 = .ok (.baload, 1) := by decide +kernel
theorem dX3_move_11 : decode cX3_move 11 = .ok (.bastore, 1) := by decide +kernel
theorem dX3_move_12 : decode cX3_move 12 = .ok (.aload_n 0, 1) := by decide +kernel
theorem dX3_move_13 : decode cX3_move 13 = .ok (.getfield 13, 3) := by decide +kernel
theorem dX3_move_16 : decode cX3_move 16 = .ok (.iload_n 1, 1) := by decide +kernel
theorem dX3_move_17 : decode cX3_move 17 = .ok (.aload_n 0, 1) := by decide +kernel
theorem dX3_move_18 : decode cX3_move 18 = .ok (.getfield 13, 3) := by decide +kernel
theorem dX3_move_21 : decode cX3_move 21 = .ok (.iload_n 2, 1) := by decide +kernel
theorem dX3_move_22 : decode cX3_move 22 = .ok (.iaload, 1) := by decide +kernel
theorem dX3_move_23 : decode cX3_move 23 = .ok (.iastore, 1) := by decide +kernel
theorem dX3_move_24 : decode cX3_move 24 = .ok (.return_, 1) := by decide +kernel
theorem dX3_grow_0 : decode cX3_grow 0 = .ok (.aload_n 0, 1) := by decide +kernel
theorem dX3_grow_1 : decode cX3_grow 1 = .ok (.iload_n 1, 1) := by decide +kernel
theorem dX3_grow_2 : decode cX3_grow 2 = .ok (.invokevirtual 62, 3) := by decide +kernel
theorem dX3_grow_5 : decode cX3_grow 5 = .ok (.ifCond .eq 26, 3) := by decide +kernel
theorem dX3_grow_8 : decode cX3_grow 8 = .ok (.iload_n 2, 1) := by decide +kernel
theorem dX3_grow_9 : decode cX3_grow 9 = .ok (.invokestatic 28, 3) := by decide +kernel
theorem dX3_grow_12 : decode cX3_grow 12 = .ok (.ifCond .eq 19, 3) := by decide +kernel
theorem dX3_grow_15 : decode cX3_grow 15 = .ok (.aload_n 0, 1) := by decide +kernel
theorem dX3_grow_16 : decode cX3_grow 16 = .ok (.getfield 17, 3) := by decide +kernel
theorem dX3_grow_19 : decode cX3_grow 19 = .ok (.aload_n 0, 1) := by decide +kernel
theorem dX3_grow_20 : decode cX3_grow 20 = .ok (.getfield 13, 3) := by decide +kernel
theorem dX3_grow_23 : decode cX3_grow 23 = .ok (.iload_n 1, 1) := by decide +kernel
theorem dX3_grow_24 : decode cX3_grow 24 = .ok (.iaload, 1) := by decide +kernel
theorem dX3_grow_25 : decode cX3_grow 25 = .ok (.iaload, 1) := by decide +kernel
theorem dX3_grow_26 : decode cX3_grow 26 = .ok (.bipush 20, 2) := by decide +kernel
theorem dX3_grow_28 : decode cX3_grow 28 = .ok (.if_icmp .ne 5, 3) := by decide +kernel
theorem dX3_grow_31 : decode cX3_grow 31 = .ok (.iconst (-1), 1) := by decide +kernel
theorem dX3_grow_32 : decode cX3_grow 32 = .ok (.ireturn, 1) := by decide +kernel
theorem dX3_grow_33 : decode cX3_grow 33 = .ok (.aload_n 0, 1) := by decide +kernel
theorem dX3_grow_34 : decode cX3_grow 34 = .ok (.iconst 1, 1) := by decide +kernel
theorem dX3_grow_35 : decode cX3_grow 35 = .ok (.invokevirtual 55, 3) := by decide +kernel
theorem dX3_grow_38 : decode cX3_grow 38 = .ok (.ifCond .ne 5, 3) := by decide +kernel
theorem dX3_grow_41 : decode cX3_grow 41 = .ok (.iconst 0, 1) := by decide +kernel
theorem dX3_grow_42 : decode cX3_grow 42 = .ok (.ireturn, 1) := by decide +kernel
theorem dX3_grow_43 : decode cX3_grow 43 = .ok (.aload_n 0, 1) := by decide +kernel
theorem dX3_grow_44 : decode cX3_grow 44 = .ok (.getfield 13, 3) := by decide +kernel
theorem dX3_grow_47 : decode cX3_grow 47 = .ok (.iload_n 1, 1) := by decide +kernel
theorem dX3_grow_48 : decode cX3_grow 48 = .ok (.iaload, 1) := by decide +kernel
theorem dX3_grow_49 : decode cX3_grow 49 = .ok (.istore_n 3, 1) := by decide +kernel
theorem dX3_grow_50 : decode cX3_grow 50 = .ok (.aload_n 0, 1) := by decide +kernel
theorem dX3_grow_51 : decode cX3_grow 51 = .ok (.iload_n 3, 1) := by decide +kernel
theorem dX3_grow_52 : decode cX3_grow 52 = .ok (.aload_n 0, 1) := by decide +kernel
theorem dX3_grow_53 : decode cX3_grow 53 = .ok (.getfield 17, 3) := by decide +kernel
theorem dX3_grow_56 : decode cX3_grow 56 = .ok (.iload_n 3, 1) := by decide +kernel
theorem dX3_grow_57 : decode cX3_grow 57 = .ok (.iaload, 1) := by decide +kernel
theorem dX3_grow_58 : decode cX3_grow 58 = .ok (.invokestatic 41, 3) := by decide +kernel
theorem dX3_grow_61 : decode cX3_grow 61 = .ok (.iload_n 2, 1) := by decide +kernel
theorem dX3_grow_62 : decode cX3_grow 62 = .ok (.invokevirtual 58, 3) := by decide +kernel
theorem dX3_grow_65 : decode cX3_grow 65 = .ok (.aload_n 0, 1) := by decide +kernel
theorem dX3_grow_66 : decode cX3_grow 66 = .ok (.getfield 17, 3) := by decide +kernel
theorem dX3_grow_69 : decode cX3_grow 69 = .ok (.iload_n 3, 1) := by decide +kernel
theorem dX3_grow_70 : decode cX3_grow 70 = .ok (.dup2, 1) := by decide +kernel
theorem dX3_grow_71 : decode cX3_grow 71 = .ok (.iaload, 1) := by decide +kernel
theorem dX3_grow_72 : decode cX3_grow 72 = .ok (.iconst 1, 1) := by decide +kernel
theorem dX3_grow_73 : decode cX3_grow 73 = .ok (.iadd, 1) := by decide +kernel
theorem dX3_grow_74 : decode cX3_grow 74 = .ok (.iastore, 1) := by decide +kernel
theorem dX3_grow_75 : decode cX3_grow 75 = .ok (.aload_n 0, 1) := by decide +kernel
theorem dX3_grow_76 : decode cX3_grow 76 = .ok (.getfield 17, 3) := by decide +kernel
theorem dX3_grow_79 : decode cX3_grow 79 = .ok (.iload_n 3, 1) := by decide +kernel
theorem dX3_grow_80 : decode cX3_grow 80 = .ok (.iaload, 1) := by decide +kernel
theorem dX3_grow_81 : decode cX3_grow 81 = .ok (.ireturn, 1) := by decide +kernel
theorem dX3_hasObject_0 : decode cX3_hasObject 0 = .ok (.iload_n 1, 1) := by decide +kernel
theorem dX3_hasObject_1 : decode cX3_hasObject 1 = .ok (.invokestatic 28, 3) := by decide +kernel
theorem dX3_hasObject_4 : decode cX3_hasObject 4 = .ok (.ifCond .eq 17, 3) := by decide +kernel
theorem dX3_hasObject_7 : decode cX3_hasObject 7 = .ok (.aload_n 0, 1) := by decide +kernel
theorem dX3_hasObject_8 : decode cX3_hasObject 8 = .ok (.getfield 7, 3) := by decide +kernel
theorem dX3_hasObject_11 : decode cX3_hasObject 11 = .ok (.iload_n 1, 1) := by decide +kernel
theorem dX3_hasObject_12 : decode cX3_hasObject 12 = .ok (.baload, 1) := by decide +kernel
theorem dX3_hasObject_13 : decode cX3_hasObject 13 = .ok (.iconst 2, 1) := by decide +kernel
theorem dX3_hasObject_14 : decode cX3_hasObject 14 = .ok (.if_icmp .ne 7, 3) := by decide +kernel
theorem dX3_hasObject_17 : decode cX3_hasObject 17 = .ok (.iconst 1, 1) := by decide +kernel
theorem dX3_hasObject_18 : decode cX3_hasObject 18 = .ok (.goto 4, 3) := by decide +kernel
theorem dX3_hasObject_21 : decode cX3_hasObject 21 = .ok (.iconst 0, 1) := by decide +kernel
theorem dX3_hasObject_22 : decode cX3_hasObject 22 = .ok (.ireturn, 1) := by decide +kernel
theorem dX3_shrink_0 : decode cX3_shrink 0 = .ok (.aload_n 0, 1) := by decide +kernel
theorem dX3_shrink_1 : decode cX3_shrink 1 = .ok (.iload_n 1, 1) := by decide +kernel
theorem dX3_shrink_2 : decode cX3_shrink 2 = .ok (.invokevirtual 62, 3) := by decide +kernel
theorem dX3_shrink_5 : decode cX3_shrink 5 = .ok (.ifCond .eq 17, 3) := by decide +kernel
theorem dX3_shrink_8 : decode cX3_shrink 8 = .ok (.aload_n 0, 1) := by decide +kernel
theorem dX3_shrink_9 : decode cX3_shrink 9 = .ok (.getfield 17, 3) := by decide +kernel
theorem dX3_shrink_12 : decode cX3_shrink 12 = .ok (.aload_n 0, 1) := by decide +kernel
theorem dX3_shrink_13 : decode cX3_shrink 13 = .ok (.getfield 13, 3) := by decide +kernel
theorem dX3_shrink_16 : decode cX3_shrink 16 = .ok (.iload_n 1, 1) := by decide +kernel
theorem dX3_shrink_17 : decode cX3_shrink 17 = .ok (.iaload, 1) := by decide +kernel
theorem dX3_shrink_18 : decode cX3_shrink 18 = .ok (.iaload, 1) := by decide +kernel
theorem dX3_shrink_19 : decode cX3_shrink 19 = .ok (.ifCond .ne 5, 3) := by decide +kernel
theorem dX3_shrink_22 : decode cX3_shrink 22 = .ok (.iconst (-1), 1) := by decide +kernel
theorem dX3_shrink_23 : decode cX3_shrink 23 = .ok (.ireturn, 1) := by decide +kernel
theorem dX3_shrink_24 : decode cX3_shrink 24 = .ok (.aload_n 0, 1) := by decide +kernel
theorem dX3_shrink_25 : decode cX3_shrink 25 = .ok (.getfield 13, 3) := by decide +kernel
theorem dX3_shrink_28 : decode cX3_shrink 28 = .ok (.iload_n 1, 1) := by decide +kernel
theorem dX3_shrink_29 : decode cX3_shrink 29 = .ok (.iaload, 1) := by decide +kernel
theorem dX3_shrink_30 : decode cX3_shrink 30 = .ok (.istore_n 2, 1) := by decide +kernel
theorem dX3_shrink_31 : decode cX3_shrink 31 = .ok (.aload_n 0, 1) := by decide +kernel
theorem dX3_shrink_32 : decode cX3_shrink 32 = .ok (.getfield 17, 3) := by decide +kernel
theorem dX3_shrink_35 : decode cX3_shrink 35 = .ok (.iload_n 2, 1) := by decide +kernel
theorem dX3_shrink_36 : decode cX3_shrink 36 = .ok (.dup2, 1) := by decide +kernel
theorem dX3_shrink_37 : decode cX3_shrink 37 = .ok (.iaload, 1) := by decide +kernel
theorem dX3_shrink_38 : decode cX3_shrink 38 = .ok (.iconst 1, 1) := by decide +kernel
theorem dX3_shrink_39 : decode cX3_shrink 39 = .ok (.isub, 1) := by decide +kernel
theorem dX3_shrink_40 : decode cX3_shrink 40 = .ok (.iastore, 1) := by decide +kernel
theorem dX3_shrink_41 : decode cX3_shrink 41 = .ok (.aload_n 0, 1) := by decide +kernel
theorem dX3_shrink_42 : decode cX3_shrink 42 = .ok (.iload_n 2, 1) := by decide +kernel
theorem dX3_shrink_43 : decode cX3_shrink 43 = .ok (.aload_n 0, 1) := by decide +kernel
theorem dX3_shrink_44 : decode cX3_shrink 44 = .ok (.getfield 17, 3) := by decide +kernel
theorem dX3_shrink_47 : decode cX3_shrink 47 = .ok (.iload_n 2, 1) := by decide +kernel
theorem dX3_shrink_48 : decode cX3_shrink 48 = .ok (.iaload, 1) := by decide +kernel
theorem dX3_shrink_49 : decode cX3_shrink 49 = .ok (.invokestatic 41, 3) := by decide +kernel
theorem dX3_shrink_52 : decode cX3_shrink 52 = .ok (.invokevirtual 65, 3) := by decide +kernel
theorem dX3_shrink_55 : decode cX3_shrink 55 = .ok (.aload_n 0, 1) := by decide +kernel
theorem dX3_shrink_56 : decode cX3_shrink 56 = .ok (.getfield 17, 3) := by decide +kernel
theorem dX3_shrink_59 : decode cX3_shrink 59 = .ok (.iload_n 2, 1) := by decide +kernel
theorem dX3_shrink_60 : decode cX3_shrink 60 = .ok (.iaload, 1) := by decide +kernel
theorem dX3_shrink_61 : decode cX3_shrink 61 = .ok (.ireturn, 1) := by decide +kernel
theorem dX3_empty_0 : decode cX3_empty 0 = .ok (.aload_n 0, 1) := by decide +kernel
theorem dX3_empty_1 : decode cX3_empty 1 = .ok (.getfield 7, 3) := by decide +kernel
theorem dX3_empty_4 : decode cX3_empty 4 = .ok (.iload_n 1, 1) := by decide +kernel
theorem dX3_empty_5 : decode cX3_empty 5 = .ok (.iconst 0, 1) := by decide +kernel
theorem dX3_empty_6 : decode cX3_empty 6 = .ok (.bastore, 1) := by decide +kernel
theorem dX3_empty_7 : decode cX3_empty 7 = .ok (.aload_n 0, 1) := by decide +kernel
theorem dX3_empty_8 : decode cX3_empty 8 = .ok (.getfield 13, 3) := by decide +kernel
theorem dX3_empty_11 : decode cX3_empty 11 = .ok (.iload_n 1, 1) := by decide +kernel
theorem dX3_empty_12 : decode cX3_empty 12 = .ok (.iconst 0, 1) := by decide +kernel
theorem dX3_empty_13 : decode cX3_empty 13 = .ok (.iastore, 1) := by decide +kernel
theorem dX3_empty_14 : decode cX3_empty 14 = .ok (.return_, 1) := by decide +kernel
theorem dX3_number_0 : decode cX3_number 0 = .ok (.iload_n 1, 1) := by decide +kernel
theorem dX3_number_1 : decode cX3_number 1 = .ok (.invokestatic 28, 3) := by decide +kernel
theorem dX3_number_4 : decode cX3_number 4 = .ok (.ifCond .ne 5, 3) := by decide +kernel
theorem dX3_number_7 : decode cX3_number 7 = .ok (.iconst 0, 1) := by decide +kernel
theorem dX3_number_8 : decode cX3_number 8 = .ok (.ireturn, 1) := by decide +kernel
theorem dX3_number_9 : decode cX3_number 9 = .ok (.aload_n 0, 1) := by decide +kernel
theorem dX3_number_10 : decode cX3_number 10 = .ok (.getfield 7, 3) := by decide +kernel
theorem dX3_number_13 : decode cX3_number 13 = .ok (.iload_n 1, 1) := by decide +kernel
theorem dX3_number_14 : decode cX3_number 14 = .ok (.iconst 1, 1) := by decide +kernel
theorem dX3_number_15 : decode cX3_number 15 = .ok (.bastore, 1) := by decide +kernel
theorem dX3_number_16 : decode cX3_number 16 = .ok (.aload_n 0, 1) := by decide +kernel
theorem dX3_number_17 : decode cX3_number 17 = .ok (.getfield 13, 3) := by decide +kernel
theorem dX3_number_20 : decode cX3_number 20 = .ok (.iload_n 1, 1) := by decide +kernel
theorem dX3_number_21 : decode cX3_number 21 = .ok (.iload_n 2, 1) := by decide +kernel
theorem dX3_number_22 : decode cX3_number 22 = .ok (.iastore, 1) := by decide +kernel
theorem dX3_number_23 : decode cX3_number 23 = .ok (.iconst 1, 1) := by decide +kernel
theorem dX3_number_24 : decode cX3_number 24 = .ok (.ireturn, 1) := by decide +kernel
theorem dX3_copy_0 : decode cX3_copy 0 = .ok (.iload_n 1, 1) := by decide +kernel
theorem dX3_copy_1 : decode cX3_copy 1 = .ok (.invokestatic 28, 3) := by decide +kernel
theorem dX3_copy_4 : decode cX3_copy 4 = .ok (.ifCond .eq 15, 3) := by decide +kernel
theorem dX3_copy_7 : decode cX3_copy 7 = .ok (.iload_n 2, 1) := by decide +kernel
theorem dX3_copy_8 : decode cX3_copy 8 = .ok (.iconst (-1), 1) := by decide +kernel
theorem dX3_copy_9 : decode cX3_copy 9 = .ok (.if_icmp .eq 12, 3) := by decide +kernel
theorem dX3_copy_12 : decode cX3_copy 12 = .ok (.iload_n 2, 1) := by decide +kernel
theorem dX3_copy_13 : decode cX3_copy 13 = .ok (.invokestatic 28, 3) := by decide +kernel
theorem dX3_copy_16 : decode cX3_copy 16 = .ok (.ifCond .ne 5, 3) := by decide +kernel
theorem dX3_copy_19 : decode cX3_copy 19 = .ok (.iconst 0, 1) := by decide +kernel
theorem dX3_copy_20 : decode cX3_copy 20 = .ok (.ireturn, 1) := by decide +kernel
theorem dX3_copy_21 : decode cX3_copy 21 = .ok (.iload_n 2, 1) := by decide +kernel
theorem dX3_copy_22 : decode cX3_copy 22 = .ok (.iconst (-1), 1) := by decide +kernel
theorem dX3_copy_23 : decode cX3_copy 23 = .ok (.if_icmp .ne 11, 3) := by decide +kernel
theorem dX3_copy_26 : decode cX3_copy 26 = .ok (.aload_n 0, 1) := by decide +kernel
theorem dX3_copy_27 : decode cX3_copy 27 = .ok (.iload_n 1, 1) := by decide +kernel
theorem dX3_copy_28 : decode cX3_copy 28 = .ok (.invokevirtual 65, 3) := by decide +kernel
theorem dX3_copy_31 : decode cX3_copy 31 = .ok (.goto 9, 3) := by decide +kernel
theorem dX3_copy_34 : decode cX3_copy 34 = .ok (.aload_n 0, 1) := by decide +kernel
theorem dX3_copy_35 : decode cX3_copy 35 = .ok (.iload_n 1, 1) := by decide +kernel
theorem dX3_copy_36 : decode cX3_copy 36 = .ok (.iload_n 2, 1) := by decide +kernel
theorem dX3_copy_37 : decode cX3_copy 37 = .ok (.invokevirtual 58, 3) := by decide +kernel
theorem dX3_copy_40 : decode cX3_copy 40 = .ok (.iconst 1, 1) := by decide +kernel
theorem dX3_copy_41 : decode cX3_copy 41 = .ok (.ireturn, 1) := by decide +kernel
theorem dX3_get_0 : decode cX3_get 0 = .ok (.iload_n 1, 1) := by decide +kernel
theorem dX3_get_1 : decode cX3_get 1 = .ok (.invokestatic 28, 3) := by decide +kernel
theorem dX3_get_4 : decode cX3_get 4 = .ok (.ifCond .eq 12, 3) := by decide +kernel
theorem dX3_get_7 : decode cX3_get 7 = .ok (.aload_n 0, 1) := by decide +kernel
theorem dX3_get_8 : decode cX3_get 8 = .ok (.iload_n 2, 1) := by decide +kernel
theorem dX3_get_9 : decode cX3_get 9 = .ok (.iload_n 3, 1) := by decide +kernel
theorem dX3_get_10 : decode cX3_get 10 = .ok (.invokevirtual 69, 3) := by decide +kernel
theorem dX3_get_13 : decode cX3_get 13 = .ok (.ifCond .ne 5, 3) := by decide +kernel
theorem dX3_get_16 : decode cX3_get 16 = .ok (.iconst 0, 1) := by decide +kernel
theorem dX3_get_17 : decode cX3_get 17 = .ok (.ireturn, 1) := by decide +kernel
theorem dX3_get_18 : decode cX3_get 18 = .ok (.aload_n 0, 1) := by decide +kernel
theorem dX3_get_19 : decode cX3_get 19 = .ok (.iload_n 1, 1) := by decide +kernel
theorem dX3_get_20 : decode cX3_get 20 = .ok (.aload_n 0, 1) := by decide +kernel
theorem dX3_get_21 : decode cX3_get 21 = .ok (.getfield 13, 3) := by decide +kernel
theorem dX3_get_24 : decode cX3_get 24 = .ok (.iload_n 2, 1) := by decide +kernel
theorem dX3_get_25 : decode cX3_get 25 = .ok (.iaload, 1) := by decide +kernel
theorem dX3_get_26 : decode cX3_get 26 = .ok (.iload_n 3, 1) := by decide +kernel
theorem dX3_get_27 : decode cX3_get 27 = .ok (.invokestatic 41, 3) := by decide +kernel
theorem dX3_get_30 : decode cX3_get 30 = .ok (.invokevirtual 58, 3) := by decide +kernel
theorem dX3_get_33 : decode cX3_get 33 = .ok (.iconst 1, 1) := by decide +kernel
theorem dX3_get_34 : decode cX3_get 34 = .ok (.ireturn, 1) := by decide +kernel
theorem dX3_hasValue_0 : decode cX3_hasValue 0 = .ok (.aload_n 0, 1) := by decide +kernel
theorem dX3_hasValue_1 : decode cX3_hasValue 1 = .ok (.iload_n 1, 1) := by decide +kernel
theorem dX3_hasValue_2 : decode cX3_hasValue 2 = .ok (.invokevirtual 62, 3) := by decide +kernel
theorem dX3_hasValue_5 : decode cX3_hasValue 5 = .ok (.ifCond .eq 26, 3) := by decide +kernel
theorem dX3_hasValue_8 : decode cX3_hasValue 8 = .ok (.iload_n 2, 1) := by decide +kernel
theorem dX3_hasValue_9 : decode cX3_hasValue 9 = .ok (.ifCond .lt 22, 3) := by decide +kernel
theorem dX3_hasValue_12 : decode cX3_hasValue 12 = .ok (.iload_n 2, 1) := by decide +kernel
theorem dX3_hasValue_13 : decode cX3_hasValue 13 = .ok (.aload_n 0, 1) := by decide +kernel
theorem dX3_hasValue_14 : decode cX3_hasValue 14 = .ok (.getfield 17, 3) := by decide +kernel
theorem dX3_hasValue_17 : decode cX3_hasValue 17 = .ok (.aload_n 0, 1) := by decide +kernel
theorem dX3_hasValue_18 : decode cX3_hasValue 18 = .ok (.getfield 13, 3) := by decide +kernel
theorem dX3_hasValue_21 : decode cX3_hasValue 21 = .ok (.iload_n 1, 1) := by decide +kernel
theorem dX3_hasValue_22 : decode cX3_hasValue 22 = .ok (.iaload, 1) := by decide +kernel
theorem dX3_hasValue_23 : decode cX3_hasValue 23 = .ok (.iaload, 1) := by decide +kernel
theorem dX3_hasValue_24 : decode cX3_hasValue 24 = .ok (.if_icmp .ge 7, 3) := by decide +kernel
theorem dX3_hasValue_27 : decode cX3_hasValue 27 = .ok (.iconst 1, 1) := by decide +kernel
theorem dX3_hasValue_28 : decode cX3_hasValue 28 = .ok (.goto 4, 3) := by decide +kernel
theorem dX3_hasValue_31 : decode cX3_hasValue 31 = .ok (.iconst 0, 1) := by decide +kernel
theorem dX3_hasValue_32 : decode cX3_hasValue 32 = .ok (.ireturn, 1) := by decide +kernel
theorem dX3_set_0 : decode cX3_set 0 = .ok (.iload_n 3, 1) := by decide +kernel
theorem dX3_set_1 : decode cX3_set 1 = .ok (.invokestatic 28, 3) := by decide +kernel
theorem dX3_set_4 : decode cX3_set 4 = .ok (.ifCond .eq 12, 3) := by decide +kernel
theorem dX3_set_7 : decode cX3_set 7 = .ok (.aload_n 0, 1) := by decide +kernel
theorem dX3_set_8 : decode cX3_set 8 = .ok (.iload_n 1, 1) := by decide +kernel
theorem dX3_set_9 : decode cX3_set 9 = .ok (.iload_n 2, 1) := by decide +kernel
theorem dX3_set_10 : decode cX3_set 10 = .ok (.invokevirtual 69, 3) := by decide +kernel
theorem dX3_set_13 : decode cX3_set 13 = .ok (.ifCond .ne 5, 3) := by decide +kernel
theorem dX3_set_16 : decode cX3_set 16 = .ok (.iconst 0, 1) := by decide +kernel
theorem dX3_set_17 : decode cX3_set 17 = .ok (.ireturn, 1) := by decide +kernel
theorem dX3_set_18 : decode cX3_set 18 = .ok (.aload_n 0, 1) := by decide +kernel
theorem dX3_set_19 : decode cX3_set 19 = .ok (.aload_n 0, 1) := by decide +kernel
theorem dX3_set_20 : decode cX3_set 20 = .ok (.getfield 13, 3) := by decide +kernel
theorem dX3_set_23 : decode cX3_set 23 = .ok (.iload_n 1, 1) := by decide +kernel
theorem dX3_set_24 : decode cX3_set 24 = .ok (.iaload, 1) := by decide +kernel
theorem dX3_set_25 : decode cX3_set 25 = .ok (.iload_n 2, 1) := by decide +kernel
theorem dX3_set_26 : decode cX3_set 26 = .ok (.invokestatic 41, 3) := by decide +kernel
theorem dX3_set_29 : decode cX3_set 29 = .ok (.iload_n 3, 1) := by decide +kernel
theorem dX3_set_30 : decode cX3_set 30 = .ok (.invokevirtual 58, 3) := by decide +kernel
theorem dX3_set_33 : decode cX3_set 33 = .ok (.iconst 1, 1) := by decide +kernel
theorem dX3_set_34 : decode cX3_set 34 = .ok (.ireturn, 1) := by decide +kernel
