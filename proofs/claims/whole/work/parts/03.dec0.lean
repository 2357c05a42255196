theorem dX2_init_0 : decode cX2_init 0 = .ok (.aload_n 0, 1) := by decide +kernel
theorem dX2_init_1 : decode cX2_init 1 = .ok (.invokespecial 3, 3) := by decide +kernel
theorem dX2_init_4 : decode cX2_init 4 = .ok (.aload_n 0, 1) := by decide +kernel
theorem dX2_init_5 : decode cX2_init 5 = .ok (.iload_n 1, 1) := by decide +kernel
theorem dX2_init_6 : decode cX2_init 6 = .ok (.bipush 20, 2) := by decide +kernel
theorem dX2_init_8 : decode cX2_init 8 = .ok (.if_icmp .lt 14, 3) := by decide +kernel
theorem dX2_init_11 : decode cX2_init 11 = .ok (.iload_n 1, 1) := by decide +kernel
theorem dX2_init_12 : decode cX2_init 12 = .ok (.sipush 3000, 3) := by decide +kernel
theorem dX2_init_15 : decode cX2_init 15 = .ok (.if_icmp .gt 7, 3) := by decide +kernel
theorem dX2_init_18 : decode cX2_init 18 = .ok (.iload_n 1, 1) := by decide +kernel
theorem dX2_init_19 : decode cX2_init 19 = .ok (.goto 6, 3) := by decide +kernel
theorem dX2_init_22 : decode cX2_init 22 = .ok (.sipush 300, 3) := by decide +kernel
theorem dX2_init_25 : decode cX2_init 25 = .ok (.putfield 9, 3) := by decide +kernel
theorem dX2_init_28 : decode cX2_init 28 = .ok (.aload_n 0, 1) := by decide +kernel
theorem dX2_init_29 : decode cX2_init 29 = .ok (.bipush 10, 2) := by decide +kernel
theorem dX2_init_31 : decode cX2_init 31 = .ok (.newarray .long, 2) := by decide +kernel
theorem dX2_init_33 : decode cX2_init 33 = .ok (.putfield 13, 3) := by decide +kernel
theorem dX2_init_36 : decode cX2_init 36 = .ok (.aload_n 0, 1) := by decide +kernel
theorem dX2_init_37 : decode cX2_init 37 = .ok (.getfield 13, 3) := by decide +kernel
theorem dX2_init_40 : decode cX2_init 40 = .ok (.ldc2_w 17, 3) := by decide +kernel
theorem dX2_init_43 : decode cX2_init 43 = .ok (.invokestatic 19, 3) := by decide +kernel
theorem dX2_init_46 : decode cX2_init 46 = .ok (.aload_n 0, 1) := by decide +kernel
theorem dX2_init_47 : decode cX2_init 47 = .ok (.bipush 50, 2) := by decide +kernel
theorem dX2_init_49 : decode cX2_init 49 = .ok (.newarray .long, 2) := by decide +kernel
theorem dX2_init_51 : decode cX2_init 51 = .ok (.putfield 25, 3) := by decide +kernel
theorem dX2_init_54 : decode cX2_init 54 = .ok (.aload_n 0, 1) := by decide +kernel
theorem dX2_init_55 : decode cX2_init 55 = .ok (.new 28, 3) := by decide +kernel
theorem dX2_init_58 : decode cX2_init 58 = .ok (.dup, 1) := by decide +kernel
theorem dX2_init_59 : decode cX2_init 59 = .ok (.aload_n 0, 1) := by decide +kernel
theorem dX2_init_60 : decode cX2_init 60 = .ok (.getfield 9, 3) := by decide +kernel
theorem dX2_init_63 : decode cX2_init 63 = .ok (.iconst 2, 1) := by decide +kernel
theorem dX2_init_64 : decode cX2_init 64 = .ok (.idiv, 1) := by decide +kernel
theorem dX2_init_65 : decode cX2_init 65 = .ok (.invokespecial 30, 3) := by decide +kernel
theorem dX2_init_68 : decode cX2_init 68 = .ok (.putfield 33, 3) := by decide +kernel
theorem dX2_init_71 : decode cX2_init 71 = .ok (.return_, 1) := by decide +kernel
theorem dJ_fill_0 : decode cJ_fill 0 = .ok (.iconst 0, 1) := by decide +kernel
theorem dJ_fill_1 : decode cJ_fill 1 = .ok (.istore_n 3, 1) := by decide +kernel
theorem dJ_fill_2 : decode cJ_fill 2 = .ok (.aload_n 0, 1) := by decide +kernel
theorem dJ_fill_3 : decode cJ_fill 3 = .ok (.arraylength, 1) := by decide +kernel
theorem dJ_fill_4 : decode cJ_fill 4 = .ok (.istore 4, 2) := by decide +kernel
theorem dJ_fill_6 : decode cJ_fill 6 = .ok (.iload_n 3, 1) := by decide +kernel
theorem dJ_fill_7 : decode cJ_fill 7 = .ok (.iload 4, 2) := by decide +kernel
theorem dJ_fill_9 : decode cJ_fill 9 = .ok (.if_icmp .ge 13, 3) := by decide +kernel
theorem dJ_fill_12 : decode cJ_fill 12 = .ok (.aload_n 0, 1) := by decide +kernel
theorem dJ_fill_13 : decode cJ_fill 13 = .ok (.iload_n 3, 1) := by decide +kernel
theorem dJ_fill_14 : decode cJ_fill 14 = .ok (.lload_n 1, 1) := by decide +kernel
theorem dJ_fill_15 : decode cJ_fill 15 = .ok (.lastore, 1) := by decide +kernel
theorem dJ_fill_16 : decode cJ_fill 16 = .ok (.iinc 3 1, 3) := by decide +kernel
theorem dJ_fill_19 : decode cJ_fill 19 = .ok (.goto (-13), 3) := by decide +kernel
theorem dJ_fill_22 : decode cJ_fill 22 = .ok (.return_, 1) := by decide +kernel
theorem dX0_init_0 : decode cX0_init 0 = .ok (.aload_n 0, 1) := by decide +kernel
theorem dX0_init_1 : decode cX0_init 1 = .ok (.invokespecial 3, 3) := by decide +kernel
theorem dX0_init_4 : decode cX0_init 4 = .ok (.aload_n 0, 1) := by decide +kernel
theorem dX0_init_5 : decode cX0_init 5 = .ok (.iload_n 1, 1) := by decide +kernel
theorem dX0_init_6 : decode cX0_init 6 = .ok (.anewarray 9, 3) := by decide +kernel
theorem dX0_init_9 : decode cX0_init 9 = .ok (.putfield 11, 3) := by decide +kernel
theorem dX0_init_12 : decode cX0_init 12 = .ok (.aload_n 0, 1) := by decide +kernel
theorem dX0_init_13 : decode cX0_init 13 = .ok (.iload_n 1, 1) := by decide +kernel
theorem dX0_init_14 : decode cX0_init 14 = .ok (.anewarray 9, 3) := by decide +kernel
theorem dX0_init_17 : decode cX0_init 17 = .ok (.putfield 17, 3) := by decide +kernel
theorem dX0_init_20 : decode cX0_init 20 = .ok (.return_, 1) := by decide +kernel
theorem dX2_make_0 : decode cX2_make 0 = .ok (.iload_n 1, 1) := by decide +kernel
theorem dX2_make_1 : decode cX2_make 1 = .ok (.invokestatic 37, 3) := by decide +kernel
theorem dX2_make_4 : decode cX2_make 4 = .ok (.ifCond .eq 20, 3) := by decide +kernel
theorem dX2_make_7 : decode cX2_make 7 = .ok (.iload_n 3, 1) := by decide +kernel
theorem dX2_make_8 : decode cX2_make 8 = .ok (.invokestatic 37, 3) := by decide +kernel
theorem dX2_make_11 : decode cX2_make 11 = .ok (.ifCond .eq 13, 3) := by decide +kernel
theorem dX2_make_14 : decode cX2_make 14 = .ok (.iload_n 2, 1) := by decide +kernel
theorem dX2_make_15 : decode cX2_make 15 = .ok (.ifCond .lt 9, 3) := by decide +kernel
theorem dX2_make_18 : decode cX2_make 18 = .ok (.iload_n 2, 1) := by decide +kernel
theorem dX2_make_19 : decode cX2_make 19 = .ok (.bipush 20, 2) := by decide +kernel
theorem dX2_make_21 : decode cX2_make 21 = .ok (.if_icmp .le 5, 3) := by decide +kernel
theorem dX2_make_24 : decode cX2_make 24 = .ok (.iconst (-1), 1) := by decide +kernel
theorem dX2_make_25 : decode cX2_make 25 = .ok (.ireturn, 1) := by decide +kernel
theorem dX2_make_26 : decode cX2_make 26 = .ok (.aload_n 0, 1) := by decide +kernel
theorem dX2_make_27 : decode cX2_make 27 = .ok (.iconst 2, 1) := by decide +kernel
theorem dX2_make_28 : decode cX2_make 28 = .ok (.iload_n 2, 1) := by decide +kernel
theorem dX2_make_29 : decode cX2_make 29 = .ok (.iadd, 1) := by decide +kernel
theorem dX2_make_30 : decode cX2_make 30 = .ok (.invokevirtual 41, 3) := by decide +kernel
theorem dX2_make_33 : decode cX2_make 33 = .ok (.ifCond .eq 20, 3) := by decide +kernel
theorem dX2_make_36 : decode cX2_make 36 = .ok (.aload_n 0, 1) := by decide +kernel
theorem dX2_make_37 : decode cX2_make 37 = .ok (.getfield 33, 3) := by decide +kernel
theorem dX2_make_40 : decode cX2_make 40 = .ok (.iload_n 2, 1) := by decide +kernel
theorem dX2_make_41 : decode cX2_make 41 = .ok (.aload_n 0, 1) := by decide +kernel
theorem dX2_make_42 : decode cX2_make 42 = .ok (.getfield 13, 3) := by decide +kernel
theorem dX2_make_45 : decode cX2_make 45 = .ok (.iload_n 3, 1) := by decide +kernel
theorem dX2_make_46 : decode cX2_make 46 = .ok (.laload, 1) := by decide +kernel
theorem dX2_make_47 : decode cX2_make 47 = .ok (.invokevirtual 44, 3) := by decide +kernel
theorem dX2_make_50 : decode cX2_make 50 = .ok (.goto 6, 3) := by decide +kernel
theorem dX2_make_53 : decode cX2_make 53 = .ok (.ldc2_w 17, 3) := by decide +kernel
theorem dX2_make_56 : decode cX2_make 56 = .ok (.lstore 4, 2) := by decide +kernel
theorem dX2_make_58 : decode cX2_make 58 = .ok (.lload 4, 2) := by decide +kernel
theorem dX2_make_60 : decode cX2_make 60 = .ok (.ldc2_w 17, 3) := by decide +kernel
theorem dX2_make_63 : decode cX2_make 63 = .ok (.lcmp, 1) := by decide +kernel
theorem dX2_make_64 : decode cX2_make 64 = .ok (.ifCond .ne 8, 3) := by decide +kernel
theorem dX2_make_67 : decode cX2_make 67 = .ok (.aload_n 0, 1) := by decide +kernel
theorem dX2_make_68 : decode cX2_make 68 = .ok (.invokevirtual 48, 3) := by decide +kernel
theorem dX2_make_71 : decode cX2_make 71 = .ok (.ireturn, 1) := by decide +kernel
theorem dX2_make_72 : decode cX2_make 72 = .ok (.aload_n 0, 1) := by decide +kernel
theorem dX2_make_73 : decode cX2_make 73 = .ok (.getfield 13, 3) := by decide +kernel
theorem dX2_make_76 : decode cX2_make 76 = .ok (.iload_n 1, 1) := by decide +kernel
theorem dX2_make_77 : decode cX2_make 77 = .ok (.lload 4, 2) := by decide +kernel
theorem dX2_make_79 : decode cX2_make 79 = .ok (.lastore, 1) := by decide +kernel
theorem dX2_make_80 : decode cX2_make 80 = .ok (.aload_n 0, 1) := by decide +kernel
theorem dX2_make_81 : decode cX2_make 81 = .ok (.dup, 1) := by decide +kernel
theorem dX2_make_82 : decode cX2_make 82 = .ok (.getfield 52, 3) := by decide +kernel
theorem dX2_make_85 : decode cX2_make 85 = .ok (.iconst 1, 1) := by decide +kernel
theorem dX2_make_86 : decode cX2_make 86 = .ok (.iadd, 1) := by decide +kernel
theorem dX2_make_87 : decode cX2_make 87 = .ok (.putfield 52, 3) := by decide +kernel
theorem dX2_make_90 : decode cX2_make 90 = .ok (.iconst 1, 1) := by decide +kernel
theorem dX2_make_91 : decode cX2_make 91 = .ok (.ireturn, 1) := by decide +kernel
theorem dX2_isRegister_0 : decode cX2_isRegister 0 = .ok (.iload_n 0, 1) := by decide +kernel
theorem dX2_isRegister_1 : decode cX2_isRegister 1 = .ok (.ifCond .lt 13, 3) := by decide +kernel
theorem dX2_isRegister_4 : decode cX2_isRegister 4 = .ok (.iload_n 0, 1) := by decide +kernel
theorem dX2_isRegister_5 : decode cX2_isRegister 5 = .ok (.bipush 10, 2) := by decide +kernel
theorem dX2_isRegister_7 : decode cX2_isRegister 7 = .ok (.if_icmp .ge 7, 3) := by decide +kernel
theorem dX2_isRegister_10 : decode cX2_isRegister 10 = .ok (.iconst 1, 1) := by decide +kernel
theorem dX2_isRegister_11 : decode cX2_isRegister 11 = .ok (.goto 4, 3) := by decide +kernel
theorem dX2_isRegister_14 : decode cX2_isRegister 14 = .ok (.iconst 0, 1) := by decide +kernel
theorem dX2_isRegister_15 : decode cX2_isRegister 15 = .ok (.ireturn, 1) := by decide +kernel
theorem dX2_hasRoomFor_0 : decode cX2_hasRoomFor 0 = .ok (.aload_n 0, 1) := by decide +kernel
theorem dX2_hasRoomFor_1 : decode cX2_hasRoomFor 1 = .ok (.invokevirtual 73, 3) := by decide +kernel
theorem dX2_hasRoomFor_4 : decode cX2_hasRoomFor 4 = .ok (.aload_n 0, 1) := by decide +kernel
theorem dX2_hasRoomFor_5 : decode cX2_hasRoomFor 5 = .ok (.getfield 33, 3) := by decide +kernel
theorem dX2_hasRoomFor_8 : decode cX2_hasRoomFor 8 = .ok (.getfield 76, 3) := by decide +kernel
theorem dX2_hasRoomFor_11 : decode cX2_hasRoomFor 11 = .ok (.iload_n 1, 1) := by decide +kernel
theorem dX2_hasRoomFor_12 : decode cX2_hasRoomFor 12 = .ok (.iadd, 1) := by decide +kernel
theorem dX2_hasRoomFor_13 : decode cX2_hasRoomFor 13 = .ok (.aload_n 0, 1) := by decide +kernel
theorem dX2_hasRoomFor_14 : decode cX2_hasRoomFor 14 = .ok (.getfield 9, 3) := by decide +kernel
theorem dX2_hasRoomFor_17 : decode cX2_hasRoomFor 17 = .ok (.if_icmp .gt 7, 3) := by decide +kernel
theorem dX2_hasRoomFor_20 : decode cX2_hasRoomFor 20 = .ok (.iconst 1, 1) := by decide +kernel
theorem dX2_hasRoomFor_21 : decode cX2_hasRoomFor 21 = .ok (.goto 4, 3) := by decide +kernel
theorem dX2_hasRoomFor_24 : decode cX2_hasRoomFor 24 = .ok (.iconst 0, 1) := by decide +kernel
theorem dX2_hasRoomFor_25 : decode cX2_hasRoomFor 25 = .ok (.ireturn, 1) := by decide +kernel
theorem dX2_walk_0 : decode cX2_walk 0 = .ok (.aload_n 0, 1) := by decide +kernel
theorem dX2_walk_1 : decode cX2_walk 1 = .ok (.getfield 33, 3) := by decide +kernel
theorem dX2_walk_4 : decode cX2_walk 4 = .ok (.invokevirtual 89, 3) := by decide +kernel
theorem dX2_walk_7 : decode cX2_walk 7 = .ok (.aload_n 0, 1) := by decide +kernel
theorem dX2_walk_8 : decode cX2_walk 8 = .ok (.getfield 33, 3) := by decide +kernel
theorem dX2_walk_11 : decode cX2_walk 11 = .ok (.aload_n 0, 1) := by decide +kernel
theorem dX2_walk_12 : decode cX2_walk 12 = .ok (.getfield 13, 3) := by decide +kernel
theorem dX2_walk_15 : decode cX2_walk 15 = .ok (.bipush 10, 2) := by decide +kernel
theorem dX2_walk_17 : decode cX2_walk 17 = .ok (.invokevirtual 92, 3) := by decide +kernel
theorem dX2_walk_20 : decode cX2_walk 20 = .ok (.aload_n 0, 1) := by decide +kernel
theorem dX2_walk_21 : decode cX2_walk 21 = .ok (.getfield 33, 3) := by decide +kernel
theorem dX2_walk_24 : decode cX2_walk 24 = .ok (.aload_n 0, 1) := by decide +kernel
theorem dX2_walk_25 : decode cX2_walk 25 = .ok (.getfield 25, 3) := by decide +kernel
theorem dX2_walk_28 : decode cX2_walk 28 = .ok (.aload_n 0, 1) := by decide +kernel
theorem dX2_walk_29 : decode cX2_walk 29 = .ok (.getfield 70, 3) := by decide +kernel
theorem dX2_walk_32 : decode cX2_walk 32 = .ok (.invokevirtual 92, 3) := by decide +kernel
theorem dX2_walk_35 : decode cX2_walk 35 = .ok (.aload_n 0, 1) := by decide +kernel
theorem dX2_walk_36 : decode cX2_walk 36 = .ok (.getfield 33, 3) := by decide +kernel
theorem dX2_walk_39 : decode cX2_walk 39 = .ok (.invokevirtual 96, 3) := by decide +kernel
theorem dX2_walk_42 : decode cX2_walk 42 = .ok (.return_, 1) := by decide +kernel
theorem dX0_forgetWalk_0 : decode cX0_forgetWalk 0 = .ok (.iconst 0, 1) := by decide +kernel
theorem dX0_forgetWalk_1 : decode cX0_forgetWalk 1 = .ok (.istore_n 1, 1) := by decide +kernel
theorem dX0_forgetWalk_2 : decode cX0_forgetWalk 2 = .ok (.iload_n 1, 1) := by decide +kernel
theorem dX0_forgetWalk_3 : decode cX0_forgetWalk 3 = .ok (.aload_n 0, 1) := by decide +kernel
theorem dX0_forgetWalk_4 : decode cX0_forgetWalk 4 = .ok (.getfield 11, 3) := by decide +kernel
theorem dX0_forgetWalk_7 : decode cX0_forgetWalk 7 = .ok (.arraylength, 1) := by decide +kernel
theorem dX0_forgetWalk_8 : decode cX0_forgetWalk 8 = .ok (.if_icmp .ge 28, 3) := by decide +kernel
theorem dX0_forgetWalk_11 : decode cX0_forgetWalk 11 = .ok (.aload_n 0, 1) := by decide +kernel
theorem dX0_forgetWalk_12 : decode cX0_forgetWalk 12 = .ok (.getfield 11, 3) := by decide +kernel
theorem dX0_forgetWalk_15 : decode cX0_forgetWalk 15 = .ok (.iload_n 1, 1) := by decide +kernel
theorem dX0_forgetWalk_16 : decode cX0_forgetWalk 16 = .ok (.aaload, 1) := by decide +kernel
theorem dX0_forgetWalk_17 : decode cX0_forgetWalk 17 = .ok (.ifnull 19, 3) := by decide +kernel
theorem dX0_forgetWalk_20 : decode cX0_forgetWalk 20 = .ok (.aload_n 0, 1) := by decide +kernel
theorem dX0_forgetWalk_21 : decode cX0_forgetWalk 21 = .ok (.getfield 11, 3) := by decide +kernel
theorem dX0_forgetWalk_24 : decode cX0_forgetWalk 24 = .ok (.iload_n 1, 1) := by decide +kernel
theorem dX0_forgetWalk_25 : decode cX0_forgetWalk 25 = .ok (.aaload, 1) := by decide +kernel
theorem dX0_forgetWalk_26 : decode cX0_forgetWalk 26 = .ok (.iconst 0, 1) := by decide +kernel
theorem dX0_forgetWalk_27 : decode cX0_forgetWalk 27 = .ok (.putfield 33, 3) := by decide +kernel
theorem dX0_forgetWalk_30 : decode cX0_forgetWalk 30 = .ok (.iinc 1 1, 3) := by decide +kernel
theorem dX0_forgetWalk_33 : decode cX0_forgetWalk 33 = .ok (.goto (-31), 3) := by decide +kernel
theorem dX0_forgetWalk_36 : decode cX0_forgetWalk 36 = .ok (.aload_n 0, 1) := by decide +kernel
theorem dX0_forgetWalk_37 : decode cX0_forgetWalk 37 = .ok (.iconst 0, 1) := by decide +kernel
theorem dX0_forgetWalk_38 : decode cX0_forgetWalk 38 = .ok (.putfield 36, 3) := by decide +kernel
theorem dX0_forgetWalk_41 : decode cX0_forgetWalk 41 = .ok (.aload_n 0, 1) := by decide +kernel
theorem dX0_forgetWalk_42 : decode cX0_forgetWalk 42 = .ok (.iconst 0, 1) := by decide +kernel
theorem dX0_forgetWalk_43 : decode cX0_forgetWalk 43 = .ok (.putfield 40, 3) := by decide +kernel
theorem dX0_forgetWalk_46 : decode cX0_forgetWalk 46 = .ok (.return_, 1) := by decide +kernel
theorem dX0_reachAll_0 : decode cX0_reachAll 0 = .ok (.iconst 0, 1) := by decide +kernel
theorem dX0_reachAll_1 : decode cX0_reachAll 1 = .ok (.istore_n 3, 1) := by decide +kernel
theorem dX0_reachAll_2 : decode cX0_reachAll 2 = .ok (.iload_n 3, 1) := by decide +kernel
theorem dX0_reachAll_3 : decode cX0_reachAll 3 = .ok (.iload_n 2, 1) := by decide +kernel
theorem dX0_reachAll_4 : decode cX0_reachAll 4 = .ok (.if_icmp .ge 26, 3) := by decide +kernel
theorem dX0_reachAll_7 : decode cX0_reachAll 7 = .ok (.iload_n 3, 1) := by decide +kernel
theorem dX0_reachAll_8 : decode cX0_reachAll 8 = .ok (.aload_n 1, 1) := by decide +kernel
theorem dX0_reachAll_9 : decode cX0_reachAll 9 = .ok (.arraylength, 1) := by decide +kernel
theorem dX0_reachAll_10 : decode cX0_reachAll 10 = .ok (.if_icmp .ge 20, 3) := by decide +kernel
theorem dX0_reachAll_13 : decode cX0_reachAll 13 = .ok (.aload_n 0, 1) := by decide +kernel
theorem dX0_reachAll_14 : decode cX0_reachAll 14 = .ok (.aload_n 0, 1) := by decide +kernel
theorem dX0_reachAll_15 : decode cX0_reachAll 15 = .ok (.aload_n 1, 1) := by decide +kernel
theorem dX0_reachAll_16 : decode cX0_reachAll 16 = .ok (.iload_n 3, 1) := by decide +kernel
theorem dX0_reachAll_17 : decode cX0_reachAll 17 = .ok (.laload, 1) := by decide +kernel
theorem dX0_reachAll_18 : decode cX0_reachAll 18 = .ok (.invokevirtual 43, 3) := by decide +kernel
theorem dX0_reachAll_21 : decode cX0_reachAll 21 = .ok (.invokevirtual 47, 3) := by decide +kernel
theorem dX0_reachAll_24 : decode cX0_reachAll 24 = .ok (.iinc 3 1, 3) := by decide +kernel
theorem dX0_reachAll_27 : decode cX0_reachAll 27 = .ok (.goto (-25), 3) := by decide +kernel
theorem dX0_reachAll_30 : decode cX0_reachAll 30 = .ok (.return_, 1) := by decide +kernel
theorem dX0_thingOf_0 : decode cX0_thingOf 0 = .ok (.lload_n 1, 1) := by decide +kernel
theorem dX0_thingOf_1 : decode cX0_thingOf 1 = .ok (.ldc2_w 20, 3) := by decide +kernel
theorem dX0_thingOf_4 : decode cX0_thingOf 4 = .ok (.lsub, 1) := by decide +kernel
theorem dX0_thingOf_5 : decode cX0_thingOf 5 = .ok (.lstore_n 3, 1) := by decide +kernel
theorem dX0_thingOf_6 : decode cX0_thingOf 6 = .ok (.lload_n 3, 1) := by decide +kernel
theorem dX0_thingOf_7 : decode cX0_thingOf 7 = .ok (.lconst 0, 1) := by decide +kernel
theorem dX0_thingOf_8 : decode cX0_thingOf 8 = .ok (.lcmp, 1) := by decide +kernel
theorem dX0_thingOf_9 : decode cX0_thingOf 9 = .ok (.ifCond .lt 24, 3) := by decide +kernel
theorem dX0_thingOf_12 : decode cX0_thingOf 12 = .ok (.lload_n 3, 1) := by decide +kernel
theorem dX0_thingOf_13 : decode cX0_thingOf 13 = .ok (.aload_n 0, 1) := by decide +kernel
theorem dX0_thingOf_14 : decode cX0_thingOf 14 = .ok (.getfield 11, 3) := by decide +kernel
theorem dX0_thingOf_17 : decode cX0_thingOf 17 = .ok (.arraylength, 1) := by decide +kernel
theorem dX0_thingOf_18 : decode cX0_thingOf 18 = .ok (.i2l, 1) := by decide +kernel
theorem dX0_thingOf_19 : decode cX0_thingOf 19 = .ok (.lcmp, 1) := by decide +kernel
theorem dX0_thingOf_20 : decode cX0_thingOf 20 = .ok (.ifCond .ge 13, 3) := by decide +kernel
theorem dX0_thingOf_23 : decode cX0_thingOf 23 = .ok (.aload_n 0, 1) := by decide +kernel
theorem dX0_thingOf_24 : decode cX0_thingOf 24 = .ok (.getfield 11, 3) := by decide +kernel
theorem dX0_thingOf_27 : decode cX0_thingOf 27 = .ok (.lload_n 3, 1) := by decide +kernel
theorem dX0_thingOf_28 : decode cX0_thingOf 28 = .ok (.l2i, 1) := by decide +kernel
theorem dX0_thingOf_29 : decode cX0_thingOf 29 = .ok (.aaload, 1) := by decide +kernel
theorem dX0_thingOf_30 : decode cX0_thingOf 30 = .ok (.goto 4, 3) := by decide +kernel
theorem dX0_thingOf_33 : decode cX0_thingOf 33 = .ok (.aconst_null, 1) := by decide +kernel
theorem dX0_thingOf_34 : decode cX0_thingOf 34 = .ok (.areturn, 1) := by decide +kernel
theorem dX0_reach_0 : decode cX0_reach 0 = .ok (.aload_n 1, 1) := by decide +kernel
theorem dX0_reach_1 : decode cX0_reach 1 = .ok (.ifnull 22, 3) := by decide +kernel
theorem dX0_reach_4 : decode cX0_reach 4 = .ok (.aload_n 1, 1) := by decide +kernel
theorem dX0_reach_5 : decode cX0_reach 5 = .ok (.getfield 33, 3) := by decide +kernel
theorem dX0_reach_8 : decode cX0_reach 8 = .ok (.ifCond .ne 15, 3) := by decide +kernel
theorem dX0_reach_11 : decode cX0_reach 11 = .ok (.aload_n 0, 1) := by decide +kernel
theorem dX0_reach_12 : decode cX0_reach 12 = .ok (.getfield 36, 3) := by decide +kernel
theorem dX0_reach_15 : decode cX0_reach 15 = .ok (.aload_n 0, 1) := by decide +kernel
theorem dX0_reach_16 : decode cX0_reach 16 = .ok (.getfield 17, 3) := by decide +kernel
theorem dX0_reach_19 : decode cX0_reach 19 = .ok (.arraylength, 1) := by decide +kernel
theorem dX0_reach_20 : decode cX0_reach 20 = .ok (.if_icmp .lt 4, 3) := by decide +kernel
theorem dX0_reach_23 : decode cX0_reach 23 = .ok (.return_, 1) := by decide +kernel
theorem dX0_reach_24 : decode cX0_reach 24 = .ok (.aload_n 1, 1) := by decide +kernel
theorem dX0_reach_25 : decode cX0_reach 25 = .ok (.iconst 1, 1) := by decide +kernel
theorem dX0_reach_26 : decode cX0_reach 26 = .ok (.putfield 33, 3) := by decide +kernel
theorem dX0_reach_29 : decode cX0_reach 29 = .ok (.aload_n 0, 1) := by decide +kernel
theorem dX0_reach_30 : decode cX0_reach 30 = .ok (.getfield 17, 3) := by decide +kernel
theorem dX0_reach_33 : decode cX0_reach 33 = .ok (.aload_n 0, 1) := by decide +kernel
theorem dX0_reach_34 : decode cX0_reach 34 = .ok (.getfield 36, 3) := by decide +kernel
theorem dX0_reach_37 : decode cX0_reach 37 = .ok (.aload_n 1, 1) := by decide +kernel
theorem dX0_reach_38 : decode cX0_reach 38 = .ok (.aastore, 1) := by decide +kernel
theorem dX0_reach_39 : decode cX0_reach 39 = .ok (.aload_n 0, 1) := by decide +kernel
theorem dX0_reach_40 : decode cX0_reach 40 = .ok (.dup, 1) := by decide +kernel
theorem dX0_reach_41 : decode cX0_reach 41 = .ok (.getfield 36, 3) := by decide +kernel
theorem dX0_reach_44 : decode cX0_reach 44 = .ok (.iconst 1, 1) := by decide +kernel
theorem dX0_reach_45 : decode cX0_reach 45 = .ok (.iadd, 1) := by decide +kernel
theorem dX0_reach_46 : decode cX0_reach 46 = .ok (.putfield 36, 3) := by decide +kernel
theorem dX0_reach_49 : decode cX0_reach 49 = .ok (.aload_n 0, 1) := by decide +kernel
theorem dX0_reach_50 : decode cX0_reach 50 = .ok (.dup, 1) := by decide +kernel
theorem dX0_reach_51 : decode cX0_reach 51 = .ok (.getfield 40, 3) := by decide +kernel
theorem dX0_reach_54 : decode cX0_reach 54 = .ok (.iconst 2, 1) := by decide +kernel
theorem dX0_reach_55 : decode cX0_reach 55 = .ok (.aload_n 1, 1) := by decide +kernel
theorem dX0_reach_56 : decode cX0_reach 56 = .ok (.getfield 51, 3) := by decide +kernel
theorem dX0_reach_59 : decode cX0_reach 59 = .ok (.iadd, 1) := by decide +kernel
theorem dX0_reach_60 : decode cX0_reach 60 = .ok (.iadd, 1) := by decide +kernel
theorem dX0_reach_61 : decode cX0_reach 61 = .ok (.putfield 40, 3) := by decide +kernel
theorem dX0_reach_64 : decode cX0_reach 64 = .ok (.return_, 1) := by decide +kernel
theorem dX0_followReached_0 : decode cX0_followReached 0 = .ok (.iconst 0, 1) := by decide +kernel
theorem dX0_followReached_1 : decode cX0_followReached 1 = .ok (.istore_n 1, 1) := by decide +kernel
theorem dX0_followReached_2 : decode cX0_followReached 2 = .ok (.iload_n 1, 1) := by decide +kernel
theorem dX0_followReached_3 : decode cX0_followReached 3 = .ok (.aload_n 0, 1) := by decide +kernel
theorem dX0_followReached_4 : decode cX0_followReached 4 = .ok (.getfield 36, 3) := by decide +kernel
theorem dX0_followReached_7 : decode cX0_followReached 7 = .ok (.if_icmp .ge 41, 3) := by decide +kernel
theorem dX0_followReached_10 : decode cX0_followReached 10 = .ok (.iload_n 1, 1) := by decide +kernel
theorem dX0_followReached_11 : decode cX0_followReached 11 = .ok (.aload_n 0, 1) := by decide +kernel
theorem dX0_followReached_12 : decode cX0_followReached 12 = .ok (.getfield 17, 3) := by decide +kernel
theorem dX0_followReached_15 : decode cX0_followReached 15 = .ok (.arraylength, 1) := by decide +kernel
theorem dX0_followReached_16 : decode cX0_followReached 16 = .ok (.if_icmp .ge 32, 3) := by decide +kernel
theorem dX0_followReached_19 : decode cX0_followReached 19 = .ok (.aload_n 0, 1) := by decide +kernel
theorem dX0_followReached_20 : decode cX0_followReached 20 = .ok (.getfield 17, 3) := by decide +kernel
theorem dX0_followReached_23 : decode cX0_followReached 23 = .ok (.iload_n 1, 1) := by decide +kernel
theorem dX0_followReached_24 : decode cX0_followReached 24 = .ok (.aaload, 1) := by decide +kernel
theorem dX0_followReached_25 : decode cX0_followReached 25 = .ok (.astore_n 2, 1) := by decide +kernel
theorem dX0_followReached_26 : decode cX0_followReached 26 = .ok (.aload_n 2, 1) := by decide +kernel
theorem dX0_followReached_27 : decode cX0_followReached 27 = .ok (.ifnull 15, 3) := by decide +kernel
theorem dX0_followReached_30 : decode cX0_followReached 30 = .ok (.aload_n 0, 1) := by decide +kernel
theorem dX0_followReached_31 : decode cX0_followReached 31 = .ok (.aload_n 2, 1) := by decide +kernel
theorem dX0_followReached_32 : decode cX0_followReached 32 = .ok (.getfield 54, 3) := by decide +kernel
theorem dX0_followReached_35 : decode cX0_followReached 35 = .ok (.aload_n 2, 1) := by decide +kernel
theorem dX0_followReached_36 : decode cX0_followReached 36 = .ok (.getfield 51, 3) := by decide +kernel
theorem dX0_followReached_39 : decode cX0_followReached 39 = .ok (.invokevirtual 58, 3) := by decide +kernel
theorem dX0_followReached_42 : decode cX0_followReached 42 = .ok (.iinc 1 1, 3) := by decide +kernel
theorem dX0_followReached_45 : decode cX0_followReached 45 = .ok (.goto (-43), 3) := by decide +kernel
theorem dX0_followReached_48 : decode cX0_followReached 48 = .ok (.return_, 1) := by decide +kernel
theorem dX0_place_0 : decode cX0_place 0 = .ok (.aload_n 0, 1) := by decide +kernel
theorem dX0_place_1 : decode cX0_place 1 = .ok (.invokevirtual 22, 3) := by decide +kernel
theorem dX0_place_4 : decode cX0_place 4 = .ok (.istore 4, 2) := by decide +kernel
theorem dX0_place_6 : decode cX0_place 6 = .ok (.iload 4, 2) := by decide +kernel
theorem dX0_place_8 : decode cX0_place 8 = .ok (.aload_n 0, 1) := by decide +kernel
theorem dX0_place_9 : decode cX0_place 9 = .ok (.getfield 11, 3) := by decide +kernel
theorem dX0_place_12 : decode cX0_place 12 = .ok (.arraylength, 1) := by decide +kernel
theorem dX0_place_13 : decode cX0_place 13 = .ok (.if_icmp .lt 7, 3) := by decide +kernel
theorem dX0_place_16 : decode cX0_place 16 = .ok (.ldc2_w 26, 3) := by decide +kernel
theorem dX0_place_19 : decode cX0_place 19 = .ok (.lreturn, 1) := by decide +kernel
theorem dX0_place_20 : decode cX0_place 20 = .ok (.aload_n 0, 1) := by decide +kernel
theorem dX0_place_21 : decode cX0_place 21 = .ok (.getfield 11, 3) := by decide +kernel
theorem dX0_place_24 : decode cX0_place 24 = .ok (.iload 4, 2) := by decide +kernel
