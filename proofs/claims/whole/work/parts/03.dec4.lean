theorem dX3_push_0 : decode cX3_push 0 = .ok (.iload_n 1, 1) := by decide +kernel
theorem dX3_push_1 : decode cX3_push 1 = .ok (.invokestatic 28, 3) := by decide +kernel
theorem dX3_push_4 : decode cX3_push 4 = .ok (.ifCond .eq 12, 3) := by decide +kernel
theorem dX3_push_7 : decode cX3_push 7 = .ok (.aload_n 0, 1) := by decide +kernel
theorem dX3_push_8 : decode cX3_push 8 = .ok (.getfield 35, 3) := by decide +kernel
theorem dX3_push_11 : decode cX3_push 11 = .ok (.bipush 50, 2) := by decide +kernel
theorem dX3_push_13 : decode cX3_push 13 = .ok (.if_icmp .ne 5, 3) := by decide +kernel
theorem dX3_push_16 : decode cX3_push 16 = .ok (.iconst (-1), 1) := by decide +kernel
theorem dX3_push_17 : decode cX3_push 17 = .ok (.ireturn, 1) := by decide +kernel
theorem dX3_push_18 : decode cX3_push 18 = .ok (.aload_n 0, 1) := by decide +kernel
theorem dX3_push_19 : decode cX3_push 19 = .ok (.bipush 10, 2) := by decide +kernel
theorem dX3_push_21 : decode cX3_push 21 = .ok (.aload_n 0, 1) := by decide +kernel
theorem dX3_push_22 : decode cX3_push 22 = .ok (.getfield 35, 3) := by decide +kernel
theorem dX3_push_25 : decode cX3_push 25 = .ok (.iadd, 1) := by decide +kernel
theorem dX3_push_26 : decode cX3_push 26 = .ok (.iload_n 1, 1) := by decide +kernel
theorem dX3_push_27 : decode cX3_push 27 = .ok (.invokevirtual 58, 3) := by decide +kernel
theorem dX3_push_30 : decode cX3_push 30 = .ok (.aload_n 0, 1) := by decide +kernel
theorem dX3_push_31 : decode cX3_push 31 = .ok (.iload_n 1, 1) := by decide +kernel
theorem dX3_push_32 : decode cX3_push 32 = .ok (.invokevirtual 65, 3) := by decide +kernel
theorem dX3_push_35 : decode cX3_push 35 = .ok (.aload_n 0, 1) := by decide +kernel
theorem dX3_push_36 : decode cX3_push 36 = .ok (.dup, 1) := by decide +kernel
theorem dX3_push_37 : decode cX3_push 37 = .ok (.getfield 35, 3) := by decide +kernel
theorem dX3_push_40 : decode cX3_push 40 = .ok (.iconst 1, 1) := by decide +kernel
theorem dX3_push_41 : decode cX3_push 41 = .ok (.iadd, 1) := by decide +kernel
theorem dX3_push_42 : decode cX3_push 42 = .ok (.putfield 35, 3) := by decide +kernel
theorem dX3_push_45 : decode cX3_push 45 = .ok (.aload_n 0, 1) := by decide +kernel
theorem dX3_push_46 : decode cX3_push 46 = .ok (.getfield 35, 3) := by decide +kernel
theorem dX3_push_49 : decode cX3_push 49 = .ok (.ireturn, 1) := by decide +kernel
theorem dX3_pop_0 : decode cX3_pop 0 = .ok (.iload_n 1, 1) := by decide +kernel
theorem dX3_pop_1 : decode cX3_pop 1 = .ok (.invokestatic 28, 3) := by decide +kernel
theorem dX3_pop_4 : decode cX3_pop 4 = .ok (.ifCond .eq 10, 3) := by decide +kernel
theorem dX3_pop_7 : decode cX3_pop 7 = .ok (.aload_n 0, 1) := by decide +kernel
theorem dX3_pop_8 : decode cX3_pop 8 = .ok (.getfield 35, 3) := by decide +kernel
theorem dX3_pop_11 : decode cX3_pop 11 = .ok (.ifCond .ne 5, 3) := by decide +kernel
theorem dX3_pop_14 : decode cX3_pop 14 = .ok (.iconst (-1), 1) := by decide +kernel
theorem dX3_pop_15 : decode cX3_pop 15 = .ok (.ireturn, 1) := by decide +kernel
theorem dX3_pop_16 : decode cX3_pop 16 = .ok (.aload_n 0, 1) := by decide +kernel
theorem dX3_pop_17 : decode cX3_pop 17 = .ok (.dup, 1) := by decide +kernel
theorem dX3_pop_18 : decode cX3_pop 18 = .ok (.getfield 35, 3) := by decide +kernel
theorem dX3_pop_21 : decode cX3_pop 21 = .ok (.iconst 1, 1) := by decide +kernel
theorem dX3_pop_22 : decode cX3_pop 22 = .ok (.isub, 1) := by decide +kernel
theorem dX3_pop_23 : decode cX3_pop 23 = .ok (.putfield 35, 3) := by decide +kernel
theorem dX3_pop_26 : decode cX3_pop 26 = .ok (.aload_n 0, 1) := by decide +kernel
theorem dX3_pop_27 : decode cX3_pop 27 = .ok (.iload_n 1, 1) := by decide +kernel
theorem dX3_pop_28 : decode cX3_pop 28 = .ok (.bipush 10, 2) := by decide +kernel
theorem dX3_pop_30 : decode cX3_pop 30 = .ok (.aload_n 0, 1) := by decide +kernel
theorem dX3_pop_31 : decode cX3_pop 31 = .ok (.getfield 35, 3) := by decide +kernel
theorem dX3_pop_34 : decode cX3_pop 34 = .ok (.iadd, 1) := by decide +kernel
theorem dX3_pop_35 : decode cX3_pop 35 = .ok (.invokevirtual 58, 3) := by decide +kernel
theorem dX3_pop_38 : decode cX3_pop 38 = .ok (.aload_n 0, 1) := by decide +kernel
theorem dX3_pop_39 : decode cX3_pop 39 = .ok (.getfield 35, 3) := by decide +kernel
theorem dX3_pop_42 : decode cX3_pop 42 = .ok (.ireturn, 1) := by decide +kernel
theorem dX3_look_0 : decode cX3_look 0 = .ok (.iload_n 1, 1) := by decide +kernel
theorem dX3_look_1 : decode cX3_look 1 = .ok (.invokestatic 28, 3) := by decide +kernel
theorem dX3_look_4 : decode cX3_look 4 = .ok (.ifCond .ne 7, 3) := by decide +kernel
theorem dX3_look_7 : decode cX3_look 7 = .ok (.iconst (-1), 1) := by decide +kernel
theorem dX3_look_8 : decode cX3_look 8 = .ok (.goto 43, 3) := by decide +kernel
theorem dX3_look_11 : decode cX3_look 11 = .ok (.aload_n 0, 1) := by decide +kernel
theorem dX3_look_12 : decode cX3_look 12 = .ok (.getfield 7, 3) := by decide +kernel
theorem dX3_look_15 : decode cX3_look 15 = .ok (.iload_n 1, 1) := by decide +kernel
theorem dX3_look_16 : decode cX3_look 16 = .ok (.baload, 1) := by decide +kernel
theorem dX3_look_17 : decode cX3_look 17 = .ok (.ifCond .ne 8, 3) := by decide +kernel
theorem dX3_look_20 : decode cX3_look 20 = .ok (.bipush (-2), 2) := by decide +kernel
theorem dX3_look_22 : decode cX3_look 22 = .ok (.goto 29, 3) := by decide +kernel
theorem dX3_look_25 : decode cX3_look 25 = .ok (.aload_n 0, 1) := by decide +kernel
theorem dX3_look_26 : decode cX3_look 26 = .ok (.getfield 7, 3) := by decide +kernel
theorem dX3_look_29 : decode cX3_look 29 = .ok (.iload_n 1, 1) := by decide +kernel
theorem dX3_look_30 : decode cX3_look 30 = .ok (.baload, 1) := by decide +kernel
theorem dX3_look_31 : decode cX3_look 31 = .ok (.iconst 1, 1) := by decide +kernel
theorem dX3_look_32 : decode cX3_look 32 = .ok (.if_icmp .ne 8, 3) := by decide +kernel
theorem dX3_look_35 : decode cX3_look 35 = .ok (.bipush (-3), 2) := by decide +kernel
theorem dX3_look_37 : decode cX3_look 37 = .ok (.goto 14, 3) := by decide +kernel
theorem dX3_look_40 : decode cX3_look 40 = .ok (.aload_n 0, 1) := by decide +kernel
theorem dX3_look_41 : decode cX3_look 41 = .ok (.getfield 17, 3) := by decide +kernel
theorem dX3_look_44 : decode cX3_look 44 = .ok (.aload_n 0, 1) := by decide +kernel
theorem dX3_look_45 : decode cX3_look 45 = .ok (.getfield 13, 3) := by decide +kernel
theorem dX3_look_48 : decode cX3_look 48 = .ok (.iload_n 1, 1) := by decide +kernel
theorem dX3_look_49 : decode cX3_look 49 = .ok (.iaload, 1) := by decide +kernel
theorem dX3_look_50 : decode cX3_look 50 = .ok (.iaload, 1) := by decide +kernel
theorem dX3_look_51 : decode cX3_look 51 = .ok (.ireturn, 1) := by decide +kernel
theorem dX3_numberIn_0 : decode cX3_numberIn 0 = .ok (.iload_n 1, 1) := by decide +kernel
theorem dX3_numberIn_1 : decode cX3_numberIn 1 = .ok (.invokestatic 28, 3) := by decide +kernel
theorem dX3_numberIn_4 : decode cX3_numberIn 4 = .ok (.ifCond .eq 22, 3) := by decide +kernel
theorem dX3_numberIn_7 : decode cX3_numberIn 7 = .ok (.aload_n 0, 1) := by decide +kernel
theorem dX3_numberIn_8 : decode cX3_numberIn 8 = .ok (.getfield 7, 3) := by decide +kernel
theorem dX3_numberIn_11 : decode cX3_numberIn 11 = .ok (.iload_n 1, 1) := by decide +kernel
theorem dX3_numberIn_12 : decode cX3_numberIn 12 = .ok (.baload, 1) := by decide +kernel
theorem dX3_numberIn_13 : decode cX3_numberIn 13 = .ok (.iconst 1, 1) := by decide +kernel
theorem dX3_numberIn_14 : decode cX3_numberIn 14 = .ok (.if_icmp .ne 12, 3) := by decide +kernel
theorem dX3_numberIn_17 : decode cX3_numberIn 17 = .ok (.aload_n 0, 1) := by decide +kernel
theorem dX3_numberIn_18 : decode cX3_numberIn 18 = .ok (.getfield 13, 3) := by decide +kernel
theorem dX3_numberIn_21 : decode cX3_numberIn 21 = .ok (.iload_n 1, 1) := by decide +kernel
theorem dX3_numberIn_22 : decode cX3_numberIn 22 = .ok (.iaload, 1) := by decide +kernel
theorem dX3_numberIn_23 : decode cX3_numberIn 23 = .ok (.goto 4, 3) := by decide +kernel
theorem dX3_numberIn_26 : decode cX3_numberIn 26 = .ok (.iconst 0, 1) := by decide +kernel
theorem dX3_numberIn_27 : decode cX3_numberIn 27 = .ok (.ireturn, 1) := by decide +kernel
theorem dX3_same_0 : decode cX3_same 0 = .ok (.iload_n 1, 1) := by decide +kernel
theorem dX3_same_1 : decode cX3_same 1 = .ok (.invokestatic 28, 3) := by decide +kernel
theorem dX3_same_4 : decode cX3_same 4 = .ok (.ifCond .eq 10, 3) := by decide +kernel
theorem dX3_same_7 : decode cX3_same 7 = .ok (.iload_n 2, 1) := by decide +kernel
theorem dX3_same_8 : decode cX3_same 8 = .ok (.invokestatic 28, 3) := by decide +kernel
theorem dX3_same_11 : decode cX3_same 11 = .ok (.ifCond .ne 7, 3) := by decide +kernel
theorem dX3_same_14 : decode cX3_same 14 = .ok (.iconst (-1), 1) := by decide +kernel
theorem dX3_same_15 : decode cX3_same 15 = .ok (.goto 38, 3) := by decide +kernel
theorem dX3_same_18 : decode cX3_same 18 = .ok (.aload_n 0, 1) := by decide +kernel
theorem dX3_same_19 : decode cX3_same 19 = .ok (.getfield 7, 3) := by decide +kernel
theorem dX3_same_22 : decode cX3_same 22 = .ok (.iload_n 1, 1) := by decide +kernel
theorem dX3_same_23 : decode cX3_same 23 = .ok (.baload, 1) := by decide +kernel
theorem dX3_same_24 : decode cX3_same 24 = .ok (.aload_n 0, 1) := by decide +kernel
theorem dX3_same_25 : decode cX3_same 25 = .ok (.getfield 7, 3) := by decide +kernel
theorem dX3_same_28 : decode cX3_same 28 = .ok (.iload_n 2, 1) := by decide +kernel
theorem dX3_same_29 : decode cX3_same 29 = .ok (.baload, 1) := by decide +kernel
theorem dX3_same_30 : decode cX3_same 30 = .ok (.if_icmp .ne 22, 3) := by decide +kernel
theorem dX3_same_33 : decode cX3_same 33 = .ok (.aload_n 0, 1) := by decide +kernel
theorem dX3_same_34 : decode cX3_same 34 = .ok (.getfield 13, 3) := by decide +kernel
theorem dX3_same_37 : decode cX3_same 37 = .ok (.iload_n 1, 1) := by decide +kernel
theorem dX3_same_38 : decode cX3_same 38 = .ok (.iaload, 1) := by decide +kernel
theorem dX3_same_39 : decode cX3_same 39 = .ok (.aload_n 0, 1) := by decide +kernel
theorem dX3_same_40 : decode cX3_same 40 = .ok (.getfield 13, 3) := by decide +kernel
theorem dX3_same_43 : decode cX3_same 43 = .ok (.iload_n 2, 1) := by decide +kernel
theorem dX3_same_44 : decode cX3_same 44 = .ok (.iaload, 1) := by decide +kernel
theorem dX3_same_45 : decode cX3_same 45 = .ok (.if_icmp .ne 7, 3) := by decide +kernel
theorem dX3_same_48 : decode cX3_same 48 = .ok (.iconst 1, 1) := by decide +kernel
theorem dX3_same_49 : decode cX3_same 49 = .ok (.goto 4, 3) := by decide +kernel
theorem dX3_same_52 : decode cX3_same 52 = .ok (.iconst 0, 1) := by decide +kernel
theorem dX3_same_53 : decode cX3_same 53 = .ok (.ireturn, 1) := by decide +kernel
theorem dX3_count_0 : decode cX3_count 0 = .ok (.iconst 0, 1) := by decide +kernel
theorem dX3_count_1 : decode cX3_count 1 = .ok (.istore_n 2, 1) := by decide +kernel
theorem dX3_count_2 : decode cX3_count 2 = .ok (.aload_n 0, 1) := by decide +kernel
theorem dX3_count_3 : decode cX3_count 3 = .ok (.invokevirtual 48, 3) := by decide +kernel
theorem dX3_count_6 : decode cX3_count 6 = .ok (.istore_n 3, 1) := by decide +kernel
theorem dX3_count_7 : decode cX3_count 7 = .ok (.iconst 0, 1) := by decide +kernel
theorem dX3_count_8 : decode cX3_count 8 = .ok (.istore 4, 2) := by decide +kernel
theorem dX3_count_10 : decode cX3_count 10 = .ok (.iload 4, 2) := by decide +kernel
theorem dX3_count_12 : decode cX3_count 12 = .ok (.aload_n 0, 1) := by decide +kernel
theorem dX3_count_13 : decode cX3_count 13 = .ok (.getfield 32, 3) := by decide +kernel
theorem dX3_count_16 : decode cX3_count 16 = .ok (.if_icmp .ge 27, 3) := by decide +kernel
theorem dX3_count_19 : decode cX3_count 19 = .ok (.aload_n 0, 1) := by decide +kernel
theorem dX3_count_20 : decode cX3_count 20 = .ok (.getfield 20, 3) := by decide +kernel
theorem dX3_count_23 : decode cX3_count 23 = .ok (.iload 4, 2) := by decide +kernel
theorem dX3_count_25 : decode cX3_count 25 = .ok (.baload, 1) := by decide +kernel
theorem dX3_count_26 : decode cX3_count 26 = .ok (.ifCond .eq 9, 3) := by decide +kernel
theorem dX3_count_29 : decode cX3_count 29 = .ok (.iload_n 2, 1) := by decide +kernel
theorem dX3_count_30 : decode cX3_count 30 = .ok (.iconst 1, 1) := by decide +kernel
theorem dX3_count_31 : decode cX3_count 31 = .ok (.iadd, 1) := by decide +kernel
theorem dX3_count_32 : decode cX3_count 32 = .ok (.goto 4, 3) := by decide +kernel
theorem dX3_count_35 : decode cX3_count 35 = .ok (.iload_n 2, 1) := by decide +kernel
theorem dX3_count_36 : decode cX3_count 36 = .ok (.istore_n 2, 1) := by decide +kernel
theorem dX3_count_37 : decode cX3_count 37 = .ok (.iinc 4 1, 3) := by decide +kernel
theorem dX3_count_40 : decode cX3_count 40 = .ok (.goto (-30), 3) := by decide +kernel
theorem dX3_count_43 : decode cX3_count 43 = .ok (.iload_n 1, 1) := by decide +kernel
theorem dX3_count_44 : decode cX3_count 44 = .ok (.ifCond .ne 7, 3) := by decide +kernel
theorem dX3_count_47 : decode cX3_count 47 = .ok (.iload_n 3, 1) := by decide +kernel
theorem dX3_count_48 : decode cX3_count 48 = .ok (.goto 49, 3) := by decide +kernel
theorem dX3_count_51 : decode cX3_count 51 = .ok (.iload_n 1, 1) := by decide +kernel
theorem dX3_count_52 : decode cX3_count 52 = .ok (.iconst 1, 1) := by decide +kernel
theorem dX3_count_53 : decode cX3_count 53 = .ok (.if_icmp .ne 7, 3) := by decide +kernel
theorem dX3_count_56 : decode cX3_count 56 = .ok (.iload_n 2, 1) := by decide +kernel
theorem dX3_count_57 : decode cX3_count 57 = .ok (.goto 40, 3) := by decide +kernel
theorem dX3_count_60 : decode cX3_count 60 = .ok (.iload_n 1, 1) := by decide +kernel
theorem dX3_count_61 : decode cX3_count 61 = .ok (.iconst 2, 1) := by decide +kernel
theorem dX3_count_62 : decode cX3_count 62 = .ok (.if_icmp .ne 10, 3) := by decide +kernel
theorem dX3_count_65 : decode cX3_count 65 = .ok (.aload_n 0, 1) := by decide +kernel
theorem dX3_count_66 : decode cX3_count 66 = .ok (.getfield 35, 3) := by decide +kernel
theorem dX3_count_69 : decode cX3_count 69 = .ok (.goto 28, 3) := by decide +kernel
theorem dX3_count_72 : decode cX3_count 72 = .ok (.iload_n 1, 1) := by decide +kernel
theorem dX3_count_73 : decode cX3_count 73 = .ok (.iconst 3, 1) := by decide +kernel
theorem dX3_count_74 : decode cX3_count 74 = .ok (.if_icmp .ne 10, 3) := by decide +kernel
theorem dX3_count_77 : decode cX3_count 77 = .ok (.aload_n 0, 1) := by decide +kernel
theorem dX3_count_78 : decode cX3_count 78 = .ok (.getfield 32, 3) := by decide +kernel
theorem dX3_count_81 : decode cX3_count 81 = .ok (.goto 16, 3) := by decide +kernel
theorem dX3_count_84 : decode cX3_count 84 = .ok (.iload_n 1, 1) := by decide +kernel
theorem dX3_count_85 : decode cX3_count 85 = .ok (.iconst 4, 1) := by decide +kernel
theorem dX3_count_86 : decode cX3_count 86 = .ok (.if_icmp .ne 10, 3) := by decide +kernel
theorem dX3_count_89 : decode cX3_count 89 = .ok (.aload_n 0, 1) := by decide +kernel
theorem dX3_count_90 : decode cX3_count 90 = .ok (.getfield 52, 3) := by decide +kernel
theorem dX3_count_93 : decode cX3_count 93 = .ok (.goto 4, 3) := by decide +kernel
theorem dX3_count_96 : decode cX3_count 96 = .ok (.iconst (-1), 1) := by decide +kernel
theorem dX3_count_97 : decode cX3_count 97 = .ok (.ireturn, 1) := by decide +kernel
