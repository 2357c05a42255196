theorem dX2_pop_31 : decode cX2_pop 31 = .ok (.aload_n 0, 1) := by decide +kernel
theorem dX2_pop_32 : decode cX2_pop 32 = .ok (.getfield 25, 3) := by decide +kernel
theorem dX2_pop_35 : decode cX2_pop 35 = .ok (.aload_n 0, 1) := by decide +kernel
theorem dX2_pop_36 : decode cX2_pop 36 = .ok (.getfield 70, 3) := by decide +kernel
theorem dX2_pop_39 : decode cX2_pop 39 = .ok (.laload, 1) := by decide +kernel
theorem dX2_pop_40 : decode cX2_pop 40 = .ok (.lastore, 1) := by decide +kernel
theorem dX2_pop_41 : decode cX2_pop 41 = .ok (.aload_n 0, 1) := by decide +kernel
theorem dX2_pop_42 : decode cX2_pop 42 = .ok (.getfield 70, 3) := by decide +kernel
theorem dX2_pop_45 : decode cX2_pop 45 = .ok (.ireturn, 1) := by decide +kernel
theorem dX2_look_0 : decode cX2_look 0 = .ok (.iload_n 1, 1) := by decide +kernel
theorem dX2_look_1 : decode cX2_look 1 = .ok (.invokestatic 37, 3) := by decide +kernel
theorem dX2_look_4 : decode cX2_look 4 = .ok (.ifCond .ne 5, 3) := by decide +kernel
theorem dX2_look_7 : decode cX2_look 7 = .ok (.iconst (-1), 1) := by decide +kernel
theorem dX2_look_8 : decode cX2_look 8 = .ok (.ireturn, 1) := by decide +kernel
theorem dX2_look_9 : decode cX2_look 9 = .ok (.aload_n 0, 1) := by decide +kernel
theorem dX2_look_10 : decode cX2_look 10 = .ok (.iload_n 1, 1) := by decide +kernel
theorem dX2_look_11 : decode cX2_look 11 = .ok (.invokevirtual 55, 3) := by decide +kernel
theorem dX2_look_14 : decode cX2_look 14 = .ok (.astore_n 2, 1) := by decide +kernel
theorem dX2_look_15 : decode cX2_look 15 = .ok (.aload_n 2, 1) := by decide +kernel
theorem dX2_look_16 : decode cX2_look 16 = .ok (.ifnull 8, 3) := by decide +kernel
theorem dX2_look_19 : decode cX2_look 19 = .ok (.aload_n 2, 1) := by decide +kernel
theorem dX2_look_20 : decode cX2_look 20 = .ok (.getfield 59, 3) := by decide +kernel
theorem dX2_look_23 : decode cX2_look 23 = .ok (.ireturn, 1) := by decide +kernel
theorem dX2_look_24 : decode cX2_look 24 = .ok (.aload_n 0, 1) := by decide +kernel
theorem dX2_look_25 : decode cX2_look 25 = .ok (.getfield 13, 3) := by decide +kernel
theorem dX2_look_28 : decode cX2_look 28 = .ok (.iload_n 1, 1) := by decide +kernel
theorem dX2_look_29 : decode cX2_look 29 = .ok (.laload, 1) := by decide +kernel
theorem dX2_look_30 : decode cX2_look 30 = .ok (.ldc2_w 17, 3) := by decide +kernel
theorem dX2_look_33 : decode cX2_look 33 = .ok (.lcmp, 1) := by decide +kernel
theorem dX2_look_34 : decode cX2_look 34 = .ok (.ifCond .ne 8, 3) := by decide +kernel
theorem dX2_look_37 : decode cX2_look 37 = .ok (.bipush (-2), 2) := by decide +kernel
theorem dX2_look_39 : decode cX2_look 39 = .ok (.goto 5, 3) := by decide +kernel
theorem dX2_look_42 : decode cX2_look 42 = .ok (.bipush (-3), 2) := by decide +kernel
theorem dX2_look_44 : decode cX2_look 44 = .ok (.ireturn, 1) := by decide +kernel
theorem dX2_numberIn_0 : decode cX2_numberIn 0 = .ok (.iload_n 1, 1) := by decide +kernel
theorem dX2_numberIn_1 : decode cX2_numberIn 1 = .ok (.invokestatic 37, 3) := by decide +kernel
theorem dX2_numberIn_4 : decode cX2_numberIn 4 = .ok (.ifCond .eq 26, 3) := by decide +kernel
theorem dX2_numberIn_7 : decode cX2_numberIn 7 = .ok (.aload_n 0, 1) := by decide +kernel
theorem dX2_numberIn_8 : decode cX2_numberIn 8 = .ok (.getfield 13, 3) := by decide +kernel
theorem dX2_numberIn_11 : decode cX2_numberIn 11 = .ok (.iload_n 1, 1) := by decide +kernel
theorem dX2_numberIn_12 : decode cX2_numberIn 12 = .ok (.laload, 1) := by decide +kernel
theorem dX2_numberIn_13 : decode cX2_numberIn 13 = .ok (.ldc2_w 17, 3) := by decide +kernel
theorem dX2_numberIn_16 : decode cX2_numberIn 16 = .ok (.lcmp, 1) := by decide +kernel
theorem dX2_numberIn_17 : decode cX2_numberIn 17 = .ok (.ifCond .ge 13, 3) := by decide +kernel
theorem dX2_numberIn_20 : decode cX2_numberIn 20 = .ok (.aload_n 0, 1) := by decide +kernel
theorem dX2_numberIn_21 : decode cX2_numberIn 21 = .ok (.getfield 13, 3) := by decide +kernel
theorem dX2_numberIn_24 : decode cX2_numberIn 24 = .ok (.iload_n 1, 1) := by decide +kernel
theorem dX2_numberIn_25 : decode cX2_numberIn 25 = .ok (.laload, 1) := by decide +kernel
theorem dX2_numberIn_26 : decode cX2_numberIn 26 = .ok (.l2i, 1) := by decide +kernel
theorem dX2_numberIn_27 : decode cX2_numberIn 27 = .ok (.goto 4, 3) := by decide +kernel
theorem dX2_numberIn_30 : decode cX2_numberIn 30 = .ok (.iconst 0, 1) := by decide +kernel
theorem dX2_numberIn_31 : decode cX2_numberIn 31 = .ok (.ireturn, 1) := by decide +kernel
theorem dX2_same_0 : decode cX2_same 0 = .ok (.iload_n 1, 1) := by decide +kernel
theorem dX2_same_1 : decode cX2_same 1 = .ok (.invokestatic 37, 3) := by decide +kernel
theorem dX2_same_4 : decode cX2_same 4 = .ok (.ifCond .eq 10, 3) := by decide +kernel
theorem dX2_same_7 : decode cX2_same 7 = .ok (.iload_n 2, 1) := by decide +kernel
theorem dX2_same_8 : decode cX2_same 8 = .ok (.invokestatic 37, 3) := by decide +kernel
theorem dX2_same_11 : decode cX2_same 11 = .ok (.ifCond .ne 5, 3) := by decide +kernel
theorem dX2_same_14 : decode cX2_same 14 = .ok (.iconst (-1), 1) := by decide +kernel
theorem dX2_same_15 : decode cX2_same 15 = .ok (.ireturn, 1) := by decide +kernel
theorem dX2_same_16 : decode cX2_same 16 = .ok (.aload_n 0, 1) := by decide +kernel
theorem dX2_same_17 : decode cX2_same 17 = .ok (.getfield 13, 3) := by decide +kernel
theorem dX2_same_20 : decode cX2_same 20 = .ok (.iload_n 1, 1) := by decide +kernel
theorem dX2_same_21 : decode cX2_same 21 = .ok (.laload, 1) := by decide +kernel
theorem dX2_same_22 : decode cX2_same 22 = .ok (.aload_n 0, 1) := by decide +kernel
theorem dX2_same_23 : decode cX2_same 23 = .ok (.getfield 13, 3) := by decide +kernel
theorem dX2_same_26 : decode cX2_same 26 = .ok (.iload_n 2, 1) := by decide +kernel
theorem dX2_same_27 : decode cX2_same 27 = .ok (.laload, 1) := by decide +kernel
theorem dX2_same_28 : decode cX2_same 28 = .ok (.lcmp, 1) := by decide +kernel
theorem dX2_same_29 : decode cX2_same 29 = .ok (.ifCond .ne 7, 3) := by decide +kernel
theorem dX2_same_32 : decode cX2_same 32 = .ok (.iconst 1, 1) := by decide +kernel
theorem dX2_same_33 : decode cX2_same 33 = .ok (.goto 4, 3) := by decide +kernel
theorem dX2_same_36 : decode cX2_same 36 = .ok (.iconst 0, 1) := by decide +kernel
theorem dX2_same_37 : decode cX2_same 37 = .ok (.ireturn, 1) := by decide +kernel
theorem dX2_count_0 : decode cX2_count 0 = .ok (.iload_n 1, 1) := by decide +kernel
theorem dX2_count_1 : decode cX2_count 1 = .ok (.tableswitch 74 0 4 #[35, 47, 59, 64, 69], 35) := by decide +kernel
theorem dX2_count_36 : decode cX2_count 36 = .ok (.aload_n 0, 1) := by decide +kernel
theorem dX2_count_37 : decode cX2_count 37 = .ok (.invokevirtual 73, 3) := by decide +kernel
theorem dX2_count_40 : decode cX2_count 40 = .ok (.aload_n 0, 1) := by decide +kernel
theorem dX2_count_41 : decode cX2_count 41 = .ok (.getfield 33, 3) := by decide +kernel
theorem dX2_count_44 : decode cX2_count 44 = .ok (.getfield 76, 3) := by decide +kernel
theorem dX2_count_47 : decode cX2_count 47 = .ok (.ireturn, 1) := by decide +kernel
theorem dX2_count_48 : decode cX2_count 48 = .ok (.aload_n 0, 1) := by decide +kernel
theorem dX2_count_49 : decode cX2_count 49 = .ok (.invokevirtual 73, 3) := by decide +kernel
theorem dX2_count_52 : decode cX2_count 52 = .ok (.aload_n 0, 1) := by decide +kernel
theorem dX2_count_53 : decode cX2_count 53 = .ok (.getfield 33, 3) := by decide +kernel
theorem dX2_count_56 : decode cX2_count 56 = .ok (.getfield 79, 3) := by decide +kernel
theorem dX2_count_59 : decode cX2_count 59 = .ok (.ireturn, 1) := by decide +kernel
theorem dX2_count_60 : decode cX2_count 60 = .ok (.aload_n 0, 1) := by decide +kernel
theorem dX2_count_61 : decode cX2_count 61 = .ok (.getfield 70, 3) := by decide +kernel
theorem dX2_count_64 : decode cX2_count 64 = .ok (.ireturn, 1) := by decide +kernel
theorem dX2_count_65 : decode cX2_count 65 = .ok (.aload_n 0, 1) := by decide +kernel
theorem dX2_count_66 : decode cX2_count 66 = .ok (.getfield 52, 3) := by decide +kernel
theorem dX2_count_69 : decode cX2_count 69 = .ok (.ireturn, 1) := by decide +kernel
theorem dX2_count_70 : decode cX2_count 70 = .ok (.aload_n 0, 1) := by decide +kernel
theorem dX2_count_71 : decode cX2_count 71 = .ok (.getfield 82, 3) := by decide +kernel
theorem dX2_count_74 : decode cX2_count 74 = .ok (.ireturn, 1) := by decide +kernel
theorem dX2_count_75 : decode cX2_count 75 = .ok (.iconst (-1), 1) := by decide +kernel
theorem dX2_count_76 : decode cX2_count 76 = .ok (.ireturn, 1) := by decide +kernel
theorem dL_cell_0 : decode cL_cell 0 = .ok (.iload_n 1, 1) := by decide +kernel
theorem dL_cell_1 : decode cL_cell 1 = .ok (.aload_n 0, 1) := by decide +kernel
theorem dL_cell_2 : decode cL_cell 2 = .ok (.arraylength, 1) := by decide +kernel
theorem dL_cell_3 : decode cL_cell 3 = .ok (.if_icmp .ge 9, 3) := by decide +kernel
theorem dL_cell_6 : decode cL_cell 6 = .ok (.aload_n 0, 1) := by decide +kernel
theorem dL_cell_7 : decode cL_cell 7 = .ok (.iload_n 1, 1) := by decide +kernel
theorem dL_cell_8 : decode cL_cell 8 = .ok (.iaload, 1) := by decide +kernel
theorem dL_cell_9 : decode cL_cell 9 = .ok (.goto 4, 3) := by decide +kernel
theorem dL_cell_12 : decode cL_cell 12 = .ok (.iconst 0, 1) := by decide +kernel
theorem dL_cell_13 : decode cL_cell 13 = .ok (.ireturn, 1) := by decide +kernel
theorem dX3_init_0 : decode cX3_init 0 = .ok (.aload_n 0, 1) := by decide +kernel
theorem dX3_init_1 : decode cX3_init 1 = .ok (.invokespecial 1, 3) := by decide +kernel
theorem dX3_init_4 : decode cX3_init 4 = .ok (.aload_n 0, 1) := by decide +kernel
theorem dX3_init_5 : decode cX3_init 5 = .ok (.sipush 10460, 3) := by decide +kernel
theorem dX3_init_8 : decode cX3_init 8 = .ok (.newarray .byte, 2) := by decide +kernel
theorem dX3_init_10 : decode cX3_init 10 = .ok (.putfield 7, 3) := by decide +kernel
theorem dX3_init_13 : decode cX3_init 13 = .ok (.aload_n 0, 1) := by decide +kernel
theorem dX3_init_14 : decode cX3_init 14 = .ok (.sipush 10460, 3) := by decide +kernel
theorem dX3_init_17 : decode cX3_init 17 = .ok (.newarray .int, 2) := by decide +kernel
theorem dX3_init_19 : decode cX3_init 19 = .ok (.putfield 13, 3) := by decide +kernel
theorem dX3_init_22 : decode cX3_init 22 = .ok (.aload_n 0, 1) := by decide +kernel
theorem dX3_init_23 : decode cX3_init 23 = .ok (.sipush 520, 3) := by decide +kernel
theorem dX3_init_26 : decode cX3_init 26 = .ok (.newarray .int, 2) := by decide +kernel
theorem dX3_init_28 : decode cX3_init 28 = .ok (.putfield 17, 3) := by decide +kernel
theorem dX3_init_31 : decode cX3_init 31 = .ok (.aload_n 0, 1) := by decide +kernel
theorem dX3_init_32 : decode cX3_init 32 = .ok (.sipush 520, 3) := by decide +kernel
theorem dX3_init_35 : decode cX3_init 35 = .ok (.newarray .boolean, 2) := by decide +kernel
theorem dX3_init_37 : decode cX3_init 37 = .ok (.putfield 20, 3) := by decide +kernel
theorem dX3_init_40 : decode cX3_init 40 = .ok (.aload_n 0, 1) := by decide +kernel
theorem dX3_init_41 : decode cX3_init 41 = .ok (.iload_n 1, 1) := by decide +kernel
theorem dX3_init_42 : decode cX3_init 42 = .ok (.bipush 20, 2) := by decide +kernel
theorem dX3_init_44 : decode cX3_init 44 = .ok (.if_icmp .lt 14, 3) := by decide +kernel
theorem dX3_init_47 : decode cX3_init 47 = .ok (.iload_n 1, 1) := by decide +kernel
theorem dX3_init_48 : decode cX3_init 48 = .ok (.sipush 3000, 3) := by decide +kernel
theorem dX3_init_51 : decode cX3_init 51 = .ok (.if_icmp .gt 7, 3) := by decide +kernel
theorem dX3_init_54 : decode cX3_init 54 = .ok (.iload_n 1, 1) := by decide +kernel
theorem dX3_init_55 : decode cX3_init 55 = .ok (.goto 6, 3) := by decide +kernel
theorem dX3_init_58 : decode cX3_init 58 = .ok (.sipush 300, 3) := by decide +kernel
theorem dX3_init_61 : decode cX3_init 61 = .ok (.putfield 24, 3) := by decide +kernel
theorem dX3_init_64 : decode cX3_init 64 = .ok (.return_, 1) := by decide +kernel
theorem dX3_make_0 : decode cX3_make 0 = .ok (.iload_n 1, 1) := by decide +kernel
theorem dX3_make_1 : decode cX3_make 1 = .ok (.invokestatic 28, 3) := by decide +kernel
theorem dX3_make_4 : decode cX3_make 4 = .ok (.ifCond .eq 20, 3) := by decide +kernel
theorem dX3_make_7 : decode cX3_make 7 = .ok (.iload_n 3, 1) := by decide +kernel
theorem dX3_make_8 : decode cX3_make 8 = .ok (.invokestatic 28, 3) := by decide +kernel
theorem dX3_make_11 : decode cX3_make 11 = .ok (.ifCond .eq 13, 3) := by decide +kernel
theorem dX3_make_14 : decode cX3_make 14 = .ok (.iload_n 2, 1) := by decide +kernel
theorem dX3_make_15 : decode cX3_make 15 = .ok (.ifCond .lt 9, 3) := by decide +kernel
theorem dX3_make_18 : decode cX3_make 18 = .ok (.iload_n 2, 1) := by decide +kernel
theorem dX3_make_19 : decode cX3_make 19 = .ok (.bipush 20, 2) := by decide +kernel
theorem dX3_make_21 : decode cX3_make 21 = .ok (.if_icmp .le 5, 3) := by decide +kernel
theorem dX3_make_24 : decode cX3_make 24 = .ok (.iconst (-1), 1) := by decide +kernel
theorem dX3_make_25 : decode cX3_make 25 = .ok (.ireturn, 1) := by decide +kernel
theorem dX3_make_26 : decode cX3_make 26 = .ok (.aload_n 0, 1) := by decide +kernel
theorem dX3_make_27 : decode cX3_make 27 = .ok (.iconst 2, 1) := by decide +kernel
theorem dX3_make_28 : decode cX3_make 28 = .ok (.iload_n 2, 1) := by decide +kernel
theorem dX3_make_29 : decode cX3_make 29 = .ok (.iadd, 1) := by decide +kernel
theorem dX3_make_30 : decode cX3_make 30 = .ok (.invokevirtual 55, 3) := by decide +kernel
theorem dX3_make_33 : decode cX3_make 33 = .ok (.ifCond .ne 5, 3) := by decide +kernel
theorem dX3_make_36 : decode cX3_make 36 = .ok (.iconst 0, 1) := by decide +kernel
theorem dX3_make_37 : decode cX3_make 37 = .ok (.ireturn, 1) := by decide +kernel
theorem dX3_make_38 : decode cX3_make 38 = .ok (.iconst 0, 1) := by decide +kernel
theorem dX3_make_39 : decode cX3_make 39 = .ok (.istore 4, 2) := by decide +kernel
theorem dX3_make_41 : decode cX3_make 41 = .ok (.iload 4, 2) := by decide +kernel
theorem dX3_make_43 : decode cX3_make 43 = .ok (.iload_n 2, 1) := by decide +kernel
theorem dX3_make_44 : decode cX3_make 44 = .ok (.if_icmp .ge 23, 3) := by decide +kernel
theorem dX3_make_47 : decode cX3_make 47 = .ok (.aload_n 0, 1) := by decide +kernel
theorem dX3_make_48 : decode cX3_make 48 = .ok (.aload_n 0, 1) := by decide +kernel
theorem dX3_make_49 : decode cX3_make 49 = .ok (.getfield 32, 3) := by decide +kernel
theorem dX3_make_52 : decode cX3_make 52 = .ok (.iload 4, 2) := by decide +kernel
theorem dX3_make_54 : decode cX3_make 54 = .ok (.invokestatic 41, 3) := by decide +kernel
theorem dX3_make_57 : decode cX3_make 57 = .ok (.iload_n 3, 1) := by decide +kernel
theorem dX3_make_58 : decode cX3_make 58 = .ok (.invokevirtual 58, 3) := by decide +kernel
theorem dX3_make_61 : decode cX3_make 61 = .ok (.iinc 4 1, 3) := by decide +kernel
theorem dX3_make_64 : decode cX3_make 64 = .ok (.goto (-23), 3) := by decide +kernel
theorem dX3_make_67 : decode cX3_make 67 = .ok (.aload_n 0, 1) := by decide +kernel
theorem dX3_make_68 : decode cX3_make 68 = .ok (.getfield 17, 3) := by decide +kernel
theorem dX3_make_71 : decode cX3_make 71 = .ok (.aload_n 0, 1) := by decide +kernel
theorem dX3_make_72 : decode cX3_make 72 = .ok (.getfield 32, 3) := by decide +kernel
theorem dX3_make_75 : decode cX3_make 75 = .ok (.iload_n 2, 1) := by decide +kernel
theorem dX3_make_76 : decode cX3_make 76 = .ok (.iastore, 1) := by decide +kernel
theorem dX3_make_77 : decode cX3_make 77 = .ok (.aload_n 0, 1) := by decide +kernel
theorem dX3_make_78 : decode cX3_make 78 = .ok (.getfield 7, 3) := by decide +kernel
theorem dX3_make_81 : decode cX3_make 81 = .ok (.iload_n 1, 1) := by decide +kernel
theorem dX3_make_82 : decode cX3_make 82 = .ok (.iconst 2, 1) := by decide +kernel
theorem dX3_make_83 : decode cX3_make 83 = .ok (.bastore, 1) := by decide +kernel
theorem dX3_make_84 : decode cX3_make 84 = .ok (.aload_n 0, 1) := by decide +kernel
theorem dX3_make_85 : decode cX3_make 85 = .ok (.getfield 13, 3) := by decide +kernel
theorem dX3_make_88 : decode cX3_make 88 = .ok (.iload_n 1, 1) := by decide +kernel
theorem dX3_make_89 : decode cX3_make 89 = .ok (.aload_n 0, 1) := by decide +kernel
theorem dX3_make_90 : decode cX3_make 90 = .ok (.getfield 32, 3) := by decide +kernel
theorem dX3_make_93 : decode cX3_make 93 = .ok (.iastore, 1) := by decide +kernel
theorem dX3_make_94 : decode cX3_make 94 = .ok (.aload_n 0, 1) := by decide +kernel
theorem dX3_make_95 : decode cX3_make 95 = .ok (.dup, 1) := by decide +kernel
theorem dX3_make_96 : decode cX3_make 96 = .ok (.getfield 32, 3) := by decide +kernel
theorem dX3_make_99 : decode cX3_make 99 = .ok (.iconst 1, 1) := by decide +kernel
theorem dX3_make_100 : decode cX3_make 100 = .ok (.iadd, 1) := by decide +kernel
theorem dX3_make_101 : decode cX3_make 101 = .ok (.putfield 32, 3) := by decide +kernel
theorem dX3_make_104 : decode cX3_make 104 = .ok (.iconst 1, 1) := by decide +kernel
theorem dX3_make_105 : decode cX3_make 105 = .ok (.ireturn, 1) := by decide +kernel
theorem dX3_isRegister_0 : decode cX3_isRegister 0 = .ok (.iload_n 0, 1) := by decide +kernel
theorem dX3_isRegister_1 : decode cX3_isRegister 1 = .ok (.ifCond .lt 13, 3) := by decide +kernel
theorem dX3_isRegister_4 : decode cX3_isRegister 4 = .ok (.iload_n 0, 1) := by decide +kernel
theorem dX3_isRegister_5 : decode cX3_isRegister 5 = .ok (.bipush 10, 2) := by decide +kernel
theorem dX3_isRegister_7 : decode cX3_isRegister 7 = .ok (.if_icmp .ge 7, 3) := by decide +kernel
theorem dX3_isRegister_10 : decode cX3_isRegister 10 = .ok (.iconst 1, 1) := by decide +kernel
theorem dX3_isRegister_11 : decode cX3_isRegister 11 = .ok (.goto 4, 3) := by decide +kernel
theorem dX3_isRegister_14 : decode cX3_isRegister 14 = .ok (.iconst 0, 1) := by decide +kernel
theorem dX3_isRegister_15 : decode cX3_isRegister 15 = .ok (.ireturn, 1) := by decide +kernel
theorem dX3_hasRoom_0 : decode cX3_hasRoom 0 = .ok (.aload_n 0, 1) := by decide +kernel
theorem dX3_hasRoom_1 : decode cX3_hasRoom 1 = .ok (.invokevirtual 48, 3) := by decide +kernel
theorem dX3_hasRoom_4 : decode cX3_hasRoom 4 = .ok (.iload_n 1, 1) := by decide +kernel
theorem dX3_hasRoom_5 : decode cX3_hasRoom 5 = .ok (.iadd, 1) := by decide +kernel
theorem dX3_hasRoom_6 : decode cX3_hasRoom 6 = .ok (.aload_n 0, 1) := by decide +kernel
theorem dX3_hasRoom_7 : decode cX3_hasRoom 7 = .ok (.getfield 24, 3) := by decide +kernel
theorem dX3_hasRoom_10 : decode cX3_hasRoom 10 = .ok (.if_icmp .gt 7, 3) := by decide +kernel
theorem dX3_hasRoom_13 : decode cX3_hasRoom 13 = .ok (.iconst 1, 1) := by decide +kernel
theorem dX3_hasRoom_14 : decode cX3_hasRoom 14 = .ok (.goto 4, 3) := by decide +kernel
theorem dX3_hasRoom_17 : decode cX3_hasRoom 17 = .ok (.iconst 0, 1) := by decide +kernel
theorem dX3_hasRoom_18 : decode cX3_hasRoom 18 = .ok (.istore_n 2, 1) := by decide +kernel
theorem dX3_hasRoom_19 : decode cX3_hasRoom 19 = .ok (.aload_n 0, 1) := by decide +kernel
theorem dX3_hasRoom_20 : decode cX3_hasRoom 20 = .ok (.iload_n 2, 1) := by decide +kernel
theorem dX3_hasRoom_21 : decode cX3_hasRoom 21 = .ok (.ifCond .eq 10, 3) := by decide +kernel
theorem dX3_hasRoom_24 : decode cX3_hasRoom 24 = .ok (.aload_n 0, 1) := by decide +kernel
theorem dX3_hasRoom_25 : decode cX3_hasRoom 25 = .ok (.getfield 52, 3) := by decide +kernel
theorem dX3_hasRoom_28 : decode cX3_hasRoom 28 = .ok (.goto 9, 3) := by decide +kernel
theorem dX3_hasRoom_31 : decode cX3_hasRoom 31 = .ok (.aload_n 0, 1) := by decide +kernel
theorem dX3_hasRoom_32 : decode cX3_hasRoom 32 = .ok (.getfield 52, 3) := by decide +kernel
theorem dX3_hasRoom_35 : decode cX3_hasRoom 35 = .ok (.iconst 1, 1) := by decide +kernel
theorem dX3_hasRoom_36 : decode cX3_hasRoom 36 = .ok (.iadd, 1) := by decide +kernel
theorem dX3_hasRoom_37 : decode cX3_hasRoom 37 = .ok (.putfield 52, 3) := by decide +kernel
theorem dX3_hasRoom_40 : decode cX3_hasRoom 40 = .ok (.iload_n 2, 1) := by decide +kernel
theorem dX3_hasRoom_41 : decode cX3_hasRoom 41 = .ok (.ireturn, 1) := by decide +kernel
theorem dX3_reachable_0 : decode cX3_reachable 0 = .ok (.aload_n 0, 1) := by decide +kernel
theorem dX3_reachable_1 : decode cX3_reachable 1 = .ok (.invokevirtual 45, 3) := by decide +kernel
theorem dX3_reachable_4 : decode cX3_reachable 4 = .ok (.iconst 0, 1) := by decide +kernel
theorem dX3_reachable_5 : decode cX3_reachable 5 = .ok (.istore_n 1, 1) := by decide +kernel
theorem dX3_reachable_6 : decode cX3_reachable 6 = .ok (.iconst 0, 1) := by decide +kernel
theorem dX3_reachable_7 : decode cX3_reachable 7 = .ok (.istore_n 2, 1) := by decide +kernel
theorem dX3_reachable_8 : decode cX3_reachable 8 = .ok (.iload_n 2, 1) := by decide +kernel
theorem dX3_reachable_9 : decode cX3_reachable 9 = .ok (.aload_n 0, 1) := by decide +kernel
theorem dX3_reachable_10 : decode cX3_reachable 10 = .ok (.getfield 32, 3) := by decide +kernel
theorem dX3_reachable_13 : decode cX3_reachable 13 = .ok (.if_icmp .ge 33, 3) := by decide +kernel
theorem dX3_reachable_16 : decode cX3_reachable 16 = .ok (.aload_n 0, 1) := by decide +kernel
theorem dX3_reachable_17 : decode cX3_reachable 17 = .ok (.getfield 20, 3) := by decide +kernel
theorem dX3_reachable_20 : decode cX3_reachable 20 = .ok (.iload_n 2, 1) := by decide +kernel
theorem dX3_reachable_21 : decode cX3_reachable 21 = .ok (.baload, 1) := by decide +kernel
theorem dX3_reachable_22 : decode cX3_reachable 22 = .ok (.ifCond .eq 16, 3) := by decide +kernel
theorem dX3_reachable_25 : decode cX3_reachable 25 = .ok (.iload_n 1, 1) := by decide +kernel
theorem dX3_reachable_26 : decode cX3_reachable 26 = .ok (.iconst 2, 1) := by decide +kernel
theorem dX3_reachable_27 : decode cX3_reachable 27 = .ok (.iadd, 1) := by decide +kernel
theorem dX3_reachable_28 : decode cX3_reachable 28 = .ok (.aload_n 0, 1) := by decide +kernel
theorem dX3_reachable_29 : decode cX3_reachable 29 = .ok (.getfield 17, 3) := by decide +kernel
theorem dX3_reachable_32 : decode cX3_reachable 32 = .ok (.iload_n 2, 1) := by decide +kernel
theorem dX3_reachable_33 : decode cX3_reachable 33 = .ok (.iaload, 1) := by decide +kernel
theorem dX3_reachable_34 : decode cX3_reachable 34 = .ok (.iadd, 1) := by decide +kernel
theorem dX3_reachable_35 : decode cX3_reachable 35 = .ok (.goto 4, 3) := by decide +kernel
theorem dX3_reachable_38 : decode cX3_reachable 38 = .ok (.iload_n 1, 1) := by decide +kernel
theorem dX3_reachable_39 : decode cX3_reachable 39 = .ok (.istore_n 1, 1) := by decide +kernel
theorem dX3_reachable_40 : decode cX3_reachable 40 = .ok (.iinc 2 1, 3) := by decide +kernel
theorem dX3_reachable_43 : decode cX3_reachable 43 = .ok (.goto (-35), 3) := by decide +kernel
theorem dX3_reachable_46 : decode cX3_reachable 46 = .ok (.iload_n 1, 1) := by decide +kernel
theorem dX3_reachable_47 : decode cX3_reachable 47 = .ok (.ireturn, 1) := by decide +kernel
theorem dX3_goOver_0 : decode cX3_goOver 0 = .ok (.iconst 0, 1) := by decide +kernel
theorem dX3_goOver_1 : decode cX3_goOver 1 = .ok (.istore_n 1, 1) := by decide +kernel
theorem dX3_goOver_2 : decode cX3_goOver 2 = .ok (.iload_n 1, 1) := by decide +kernel
theorem dX3_goOver_3 : decode cX3_goOver 3 = .ok (.aload_n 0, 1) := by decide +kernel
theorem dX3_goOver_4 : decode cX3_goOver 4 = .ok (.getfield 32, 3) := by decide +kernel
theorem dX3_goOver_7 : decode cX3_goOver 7 = .ok (.if_icmp .ge 16, 3) := by decide +kernel
theorem dX3_goOver_10 : decode cX3_goOver 10 = .ok (.aload_n 0, 1) := by decide +kernel
theorem dX3_goOver_11 : decode cX3_goOver 11 = .ok (.getfield 20, 3) := by decide +kernel
theorem dX3_goOver_14 : decode cX3_goOver 14 = .ok (.iload_n 1, 1) := by decide +kernel
theorem dX3_goOver_15 : decode cX3_goOver 15 = .ok (.iconst 0, 1) := by decide +kernel
theorem dX3_goOver_16 : decode cX3_goOver 16 = .ok (.bastore, 1) := by decide +kernel
theorem dX3_goOver_17 : decode cX3_goOver 17 = .ok (.iinc 1 1, 3) := by decide +kernel
theorem dX3_goOver_20 : decode cX3_goOver 20 = .ok (.goto (-18), 3) := by decide +kernel
theorem dX3_goOver_23 : decode cX3_goOver 23 = .ok (.iconst 0, 1) := by decide +kernel
theorem dX3_goOver_24 : decode cX3_goOver 24 = .ok (.istore_n 1, 1) := by decide +kernel
theorem dX3_goOver_25 : decode cX3_goOver 25 = .ok (.iload_n 1, 1) := by decide +kernel
theorem dX3_goOver_26 : decode cX3_goOver 26 = .ok (.bipush 10, 2) := by decide +kernel
theorem dX3_goOver_28 : decode cX3_goOver 28 = .ok (.aload_n 0, 1) := by decide +kernel
theorem dX3_goOver_29 : decode cX3_goOver 29 = .ok (.getfield 35, 3) := by decide +kernel
theorem dX3_goOver_32 : decode cX3_goOver 32 = .ok (.iadd, 1) := by decide +kernel
theorem dX3_goOver_33 : decode cX3_goOver 33 = .ok (.if_icmp .ge 15, 3) := by decide +kernel
theorem dX3_goOver_36 : decode cX3_goOver 36 = .ok (.aload_n 0, 1) := by decide +kernel
theorem dX3_goOver_37 : decode cX3_goOver 37 = .ok (.iload_n 1, 1) := by decide +kernel
theorem dX3_goOver_38 : decode cX3_goOver 38 = .ok (.invokevirtual 38, 3) := by decide +kernel
theorem dX3_goOver_41 : decode cX3_goOver 41 = .ok (.pop, 1) := by decide +kernel
theorem dX3_goOver_42 : decode cX3_goOver 42 = .ok (.iinc 1 1, 3) := by decide +kernel
theorem dX3_goOver_45 : decode cX3_goOver 45 = .ok (.goto (-20), 3) := by decide +kernel
theorem dX3_goOver_48 : decode cX3_goOver 48 = .ok (.iconst 1, 1) := by decide +kernel
theorem dX3_goOver_49 : decode cX3_goOver 49 = .ok (.istore_n 1, 1) := by decide +kernel
theorem dX3_goOver_50 : decode cX3_goOver 50 = .ok (.iload_n 1, 1) := by decide +kernel
theorem dX3_goOver_51 : decode cX3_goOver 51 = .ok (.ifCond .eq 73, 3) := by decide +kernel
theorem dX3_goOver_54 : decode cX3_goOver 54 = .ok (.iconst 0, 1) := by decide +kernel
theorem dX3_goOver_55 : decode cX3_goOver 55 = .ok (.istore_n 1, 1) := by decide +kernel
theorem dX3_goOver_56 : decode cX3_goOver 56 = .ok (.iconst 0, 1) := by decide +kernel
theorem dX3_goOver_57 : decode cX3_goOver 57 = .ok (.istore_n 2, 1) := by decide +kernel
theorem dX3_goOver_58 : decode cX3_goOver 58 = .ok (.iload_n 2, 1) := by decide +kernel
theorem dX3_goOver_59 : decode cX3_goOver 59 = .ok (.aload_n 0, 1) := by decide +kernel
theorem dX3_goOver_60 : decode cX3_goOver 60 = .ok (.getfield 32, 3) := by decide +kernel
