theorem dX0_place_26 : decode cX0_place 26 = .ok (.aaload, 1) := by decide +kernel
theorem dX0_place_27 : decode cX0_place 27 = .ok (.ifnonnull 17, 3) := by decide +kernel
theorem dX0_place_30 : decode cX0_place 30 = .ok (.aload_n 0, 1) := by decide +kernel
theorem dX0_place_31 : decode cX0_place 31 = .ok (.getfield 11, 3) := by decide +kernel
theorem dX0_place_34 : decode cX0_place 34 = .ok (.iload 4, 2) := by decide +kernel
theorem dX0_place_36 : decode cX0_place 36 = .ok (.new 9, 3) := by decide +kernel
theorem dX0_place_39 : decode cX0_place 39 = .ok (.dup, 1) := by decide +kernel
theorem dX0_place_40 : decode cX0_place 40 = .ok (.invokespecial 28, 3) := by decide +kernel
theorem dX0_place_43 : decode cX0_place 43 = .ok (.aastore, 1) := by decide +kernel
theorem dX0_place_44 : decode cX0_place 44 = .ok (.aload_n 0, 1) := by decide +kernel
theorem dX0_place_45 : decode cX0_place 45 = .ok (.getfield 11, 3) := by decide +kernel
theorem dX0_place_48 : decode cX0_place 48 = .ok (.iload 4, 2) := by decide +kernel
theorem dX0_place_50 : decode cX0_place 50 = .ok (.aaload, 1) := by decide +kernel
theorem dX0_place_51 : decode cX0_place 51 = .ok (.iload_n 1, 1) := by decide +kernel
theorem dX0_place_52 : decode cX0_place 52 = .ok (.lload_n 2, 1) := by decide +kernel
theorem dX0_place_53 : decode cX0_place 53 = .ok (.invokevirtual 29, 3) := by decide +kernel
theorem dX0_place_56 : decode cX0_place 56 = .ok (.ldc2_w 20, 3) := by decide +kernel
theorem dX0_place_59 : decode cX0_place 59 = .ok (.iload 4, 2) := by decide +kernel
theorem dX0_place_61 : decode cX0_place 61 = .ok (.i2l, 1) := by decide +kernel
theorem dX0_place_62 : decode cX0_place 62 = .ok (.ladd, 1) := by decide +kernel
theorem dX0_place_63 : decode cX0_place 63 = .ok (.lreturn, 1) := by decide +kernel
theorem dX0_firstUnreached_0 : decode cX0_firstUnreached 0 = .ok (.iconst 0, 1) := by decide +kernel
theorem dX0_firstUnreached_1 : decode cX0_firstUnreached 1 = .ok (.istore_n 1, 1) := by decide +kernel
theorem dX0_firstUnreached_2 : decode cX0_firstUnreached 2 = .ok (.iload_n 1, 1) := by decide +kernel
theorem dX0_firstUnreached_3 : decode cX0_firstUnreached 3 = .ok (.aload_n 0, 1) := by decide +kernel
theorem dX0_firstUnreached_4 : decode cX0_firstUnreached 4 = .ok (.getfield 11, 3) := by decide +kernel
theorem dX0_firstUnreached_7 : decode cX0_firstUnreached 7 = .ok (.arraylength, 1) := by decide +kernel
theorem dX0_firstUnreached_8 : decode cX0_firstUnreached 8 = .ok (.if_icmp .ge 30, 3) := by decide +kernel
theorem dX0_firstUnreached_11 : decode cX0_firstUnreached 11 = .ok (.aload_n 0, 1) := by decide +kernel
theorem dX0_firstUnreached_12 : decode cX0_firstUnreached 12 = .ok (.getfield 11, 3) := by decide +kernel
theorem dX0_firstUnreached_15 : decode cX0_firstUnreached 15 = .ok (.iload_n 1, 1) := by decide +kernel
theorem dX0_firstUnreached_16 : decode cX0_firstUnreached 16 = .ok (.aaload, 1) := by decide +kernel
theorem dX0_firstUnreached_17 : decode cX0_firstUnreached 17 = .ok (.ifnull 21, 3) := by decide +kernel
theorem dX0_firstUnreached_20 : decode cX0_firstUnreached 20 = .ok (.aload_n 0, 1) := by decide +kernel
theorem dX0_firstUnreached_21 : decode cX0_firstUnreached 21 = .ok (.getfield 11, 3) := by decide +kernel
theorem dX0_firstUnreached_24 : decode cX0_firstUnreached 24 = .ok (.iload_n 1, 1) := by decide +kernel
theorem dX0_firstUnreached_25 : decode cX0_firstUnreached 25 = .ok (.aaload, 1) := by decide +kernel
theorem dX0_firstUnreached_26 : decode cX0_firstUnreached 26 = .ok (.getfield 33, 3) := by decide +kernel
theorem dX0_firstUnreached_29 : decode cX0_firstUnreached 29 = .ok (.ifCond .eq 9, 3) := by decide +kernel
theorem dX0_firstUnreached_32 : decode cX0_firstUnreached 32 = .ok (.iinc 1 1, 3) := by decide +kernel
theorem dX0_firstUnreached_35 : decode cX0_firstUnreached 35 = .ok (.goto (-33), 3) := by decide +kernel
theorem dX0_firstUnreached_38 : decode cX0_firstUnreached 38 = .ok (.iload_n 1, 1) := by decide +kernel
theorem dX0_firstUnreached_39 : decode cX0_firstUnreached 39 = .ok (.ireturn, 1) := by decide +kernel
theorem dX1_init_0 : decode cX1_init 0 = .ok (.aload_n 0, 1) := by decide +kernel
theorem dX1_init_1 : decode cX1_init 1 = .ok (.invokespecial 3, 3) := by decide +kernel
theorem dX1_init_4 : decode cX1_init 4 = .ok (.aload_n 0, 1) := by decide +kernel
theorem dX1_init_5 : decode cX1_init 5 = .ok (.bipush 20, 2) := by decide +kernel
theorem dX1_init_7 : decode cX1_init 7 = .ok (.newarray .long, 2) := by decide +kernel
theorem dX1_init_9 : decode cX1_init 9 = .ok (.putfield 9, 3) := by decide +kernel
theorem dX1_init_12 : decode cX1_init 12 = .ok (.return_, 1) := by decide +kernel
theorem dX1_fill_0 : decode cX1_fill 0 = .ok (.aload_n 0, 1) := by decide +kernel
theorem dX1_fill_1 : decode cX1_fill 1 = .ok (.iload_n 1, 1) := by decide +kernel
theorem dX1_fill_2 : decode cX1_fill 2 = .ok (.putfield 15, 3) := by decide +kernel
theorem dX1_fill_5 : decode cX1_fill 5 = .ok (.iconst 0, 1) := by decide +kernel
theorem dX1_fill_6 : decode cX1_fill 6 = .ok (.istore 4, 2) := by decide +kernel
theorem dX1_fill_8 : decode cX1_fill 8 = .ok (.iload 4, 2) := by decide +kernel
theorem dX1_fill_10 : decode cX1_fill 10 = .ok (.iload_n 1, 1) := by decide +kernel
theorem dX1_fill_11 : decode cX1_fill 11 = .ok (.if_icmp .ge 27, 3) := by decide +kernel
theorem dX1_fill_14 : decode cX1_fill 14 = .ok (.iload 4, 2) := by decide +kernel
theorem dX1_fill_16 : decode cX1_fill 16 = .ok (.aload_n 0, 1) := by decide +kernel
theorem dX1_fill_17 : decode cX1_fill 17 = .ok (.getfield 9, 3) := by decide +kernel
theorem dX1_fill_20 : decode cX1_fill 20 = .ok (.arraylength, 1) := by decide +kernel
theorem dX1_fill_21 : decode cX1_fill 21 = .ok (.if_icmp .ge 17, 3) := by decide +kernel
theorem dX1_fill_24 : decode cX1_fill 24 = .ok (.aload_n 0, 1) := by decide +kernel
theorem dX1_fill_25 : decode cX1_fill 25 = .ok (.getfield 9, 3) := by decide +kernel
theorem dX1_fill_28 : decode cX1_fill 28 = .ok (.iload 4, 2) := by decide +kernel
theorem dX1_fill_30 : decode cX1_fill 30 = .ok (.lload_n 2, 1) := by decide +kernel
theorem dX1_fill_31 : decode cX1_fill 31 = .ok (.lastore, 1) := by decide +kernel
theorem dX1_fill_32 : decode cX1_fill 32 = .ok (.iinc 4 1, 3) := by decide +kernel
theorem dX1_fill_35 : decode cX1_fill 35 = .ok (.goto (-27), 3) := by decide +kernel
theorem dX1_fill_38 : decode cX1_fill 38 = .ok (.return_, 1) := by decide +kernel
theorem dX2_tellFull_0 : decode cX2_tellFull 0 = .ok (.aload_n 0, 1) := by decide +kernel
theorem dX2_tellFull_1 : decode cX2_tellFull 1 = .ok (.dup, 1) := by decide +kernel
theorem dX2_tellFull_2 : decode cX2_tellFull 2 = .ok (.getfield 82, 3) := by decide +kernel
theorem dX2_tellFull_5 : decode cX2_tellFull 5 = .ok (.iconst 1, 1) := by decide +kernel
theorem dX2_tellFull_6 : decode cX2_tellFull 6 = .ok (.iadd, 1) := by decide +kernel
theorem dX2_tellFull_7 : decode cX2_tellFull 7 = .ok (.putfield 82, 3) := by decide +kernel
theorem dX2_tellFull_10 : decode cX2_tellFull 10 = .ok (.iconst 0, 1) := by decide +kernel
theorem dX2_tellFull_11 : decode cX2_tellFull 11 = .ok (.ireturn, 1) := by decide +kernel
theorem dX2_grow_0 : decode cX2_grow 0 = .ok (.aload_n 0, 1) := by decide +kernel
theorem dX2_grow_1 : decode cX2_grow 1 = .ok (.iload_n 1, 1) := by decide +kernel
theorem dX2_grow_2 : decode cX2_grow 2 = .ok (.invokevirtual 55, 3) := by decide +kernel
theorem dX2_grow_5 : decode cX2_grow 5 = .ok (.astore_n 3, 1) := by decide +kernel
theorem dX2_grow_6 : decode cX2_grow 6 = .ok (.aload_n 3, 1) := by decide +kernel
theorem dX2_grow_7 : decode cX2_grow 7 = .ok (.ifnull 19, 3) := by decide +kernel
theorem dX2_grow_10 : decode cX2_grow 10 = .ok (.iload_n 2, 1) := by decide +kernel
theorem dX2_grow_11 : decode cX2_grow 11 = .ok (.invokestatic 37, 3) := by decide +kernel
theorem dX2_grow_14 : decode cX2_grow 14 = .ok (.ifCond .eq 12, 3) := by decide +kernel
theorem dX2_grow_17 : decode cX2_grow 17 = .ok (.aload_n 3, 1) := by decide +kernel
theorem dX2_grow_18 : decode cX2_grow 18 = .ok (.getfield 59, 3) := by decide +kernel
theorem dX2_grow_21 : decode cX2_grow 21 = .ok (.bipush 20, 2) := by decide +kernel
theorem dX2_grow_23 : decode cX2_grow 23 = .ok (.if_icmp .lt 5, 3) := by decide +kernel
theorem dX2_grow_26 : decode cX2_grow 26 = .ok (.iconst (-1), 1) := by decide +kernel
theorem dX2_grow_27 : decode cX2_grow 27 = .ok (.ireturn, 1) := by decide +kernel
theorem dX2_grow_28 : decode cX2_grow 28 = .ok (.aload_n 0, 1) := by decide +kernel
theorem dX2_grow_29 : decode cX2_grow 29 = .ok (.iconst 1, 1) := by decide +kernel
theorem dX2_grow_30 : decode cX2_grow 30 = .ok (.invokevirtual 41, 3) := by decide +kernel
theorem dX2_grow_33 : decode cX2_grow 33 = .ok (.ifCond .ne 8, 3) := by decide +kernel
theorem dX2_grow_36 : decode cX2_grow 36 = .ok (.aload_n 0, 1) := by decide +kernel
theorem dX2_grow_37 : decode cX2_grow 37 = .ok (.invokevirtual 48, 3) := by decide +kernel
theorem dX2_grow_40 : decode cX2_grow 40 = .ok (.ireturn, 1) := by decide +kernel
theorem dX2_grow_41 : decode cX2_grow 41 = .ok (.aload_n 3, 1) := by decide +kernel
theorem dX2_grow_42 : decode cX2_grow 42 = .ok (.getfield 64, 3) := by decide +kernel
theorem dX2_grow_45 : decode cX2_grow 45 = .ok (.aload_n 3, 1) := by decide +kernel
theorem dX2_grow_46 : decode cX2_grow 46 = .ok (.getfield 59, 3) := by decide +kernel
theorem dX2_grow_49 : decode cX2_grow 49 = .ok (.aload_n 0, 1) := by decide +kernel
theorem dX2_grow_50 : decode cX2_grow 50 = .ok (.getfield 13, 3) := by decide +kernel
theorem dX2_grow_53 : decode cX2_grow 53 = .ok (.iload_n 2, 1) := by decide +kernel
theorem dX2_grow_54 : decode cX2_grow 54 = .ok (.laload, 1) := by decide +kernel
theorem dX2_grow_55 : decode cX2_grow 55 = .ok (.lastore, 1) := by decide +kernel
theorem dX2_grow_56 : decode cX2_grow 56 = .ok (.aload_n 3, 1) := by decide +kernel
theorem dX2_grow_57 : decode cX2_grow 57 = .ok (.dup, 1) := by decide +kernel
theorem dX2_grow_58 : decode cX2_grow 58 = .ok (.getfield 59, 3) := by decide +kernel
theorem dX2_grow_61 : decode cX2_grow 61 = .ok (.iconst 1, 1) := by decide +kernel
theorem dX2_grow_62 : decode cX2_grow 62 = .ok (.iadd, 1) := by decide +kernel
theorem dX2_grow_63 : decode cX2_grow 63 = .ok (.putfield 59, 3) := by decide +kernel
theorem dX2_grow_66 : decode cX2_grow 66 = .ok (.aload_n 3, 1) := by decide +kernel
theorem dX2_grow_67 : decode cX2_grow 67 = .ok (.getfield 59, 3) := by decide +kernel
theorem dX2_grow_70 : decode cX2_grow 70 = .ok (.ireturn, 1) := by decide +kernel
theorem dX2_thingIn_0 : decode cX2_thingIn 0 = .ok (.iload_n 1, 1) := by decide +kernel
theorem dX2_thingIn_1 : decode cX2_thingIn 1 = .ok (.invokestatic 37, 3) := by decide +kernel
theorem dX2_thingIn_4 : decode cX2_thingIn 4 = .ok (.ifCond .eq 19, 3) := by decide +kernel
theorem dX2_thingIn_7 : decode cX2_thingIn 7 = .ok (.aload_n 0, 1) := by decide +kernel
theorem dX2_thingIn_8 : decode cX2_thingIn 8 = .ok (.getfield 33, 3) := by decide +kernel
theorem dX2_thingIn_11 : decode cX2_thingIn 11 = .ok (.aload_n 0, 1) := by decide +kernel
theorem dX2_thingIn_12 : decode cX2_thingIn 12 = .ok (.getfield 13, 3) := by decide +kernel
theorem dX2_thingIn_15 : decode cX2_thingIn 15 = .ok (.iload_n 1, 1) := by decide +kernel
theorem dX2_thingIn_16 : decode cX2_thingIn 16 = .ok (.laload, 1) := by decide +kernel
theorem dX2_thingIn_17 : decode cX2_thingIn 17 = .ok (.invokevirtual 85, 3) := by decide +kernel
theorem dX2_thingIn_20 : decode cX2_thingIn 20 = .ok (.goto 4, 3) := by decide +kernel
theorem dX2_thingIn_23 : decode cX2_thingIn 23 = .ok (.aconst_null, 1) := by decide +kernel
theorem dX2_thingIn_24 : decode cX2_thingIn 24 = .ok (.areturn, 1) := by decide +kernel
theorem dX2_shrink_0 : decode cX2_shrink 0 = .ok (.aload_n 0, 1) := by decide +kernel
theorem dX2_shrink_1 : decode cX2_shrink 1 = .ok (.iload_n 1, 1) := by decide +kernel
theorem dX2_shrink_2 : decode cX2_shrink 2 = .ok (.invokevirtual 55, 3) := by decide +kernel
theorem dX2_shrink_5 : decode cX2_shrink 5 = .ok (.astore_n 2, 1) := by decide +kernel
theorem dX2_shrink_6 : decode cX2_shrink 6 = .ok (.aload_n 2, 1) := by decide +kernel
theorem dX2_shrink_7 : decode cX2_shrink 7 = .ok (.ifnull 10, 3) := by decide +kernel
theorem dX2_shrink_10 : decode cX2_shrink 10 = .ok (.aload_n 2, 1) := by decide +kernel
theorem dX2_shrink_11 : decode cX2_shrink 11 = .ok (.getfield 59, 3) := by decide +kernel
theorem dX2_shrink_14 : decode cX2_shrink 14 = .ok (.ifCond .gt 5, 3) := by decide +kernel
theorem dX2_shrink_17 : decode cX2_shrink 17 = .ok (.iconst (-1), 1) := by decide +kernel
theorem dX2_shrink_18 : decode cX2_shrink 18 = .ok (.ireturn, 1) := by decide +kernel
theorem dX2_shrink_19 : decode cX2_shrink 19 = .ok (.aload_n 2, 1) := by decide +kernel
theorem dX2_shrink_20 : decode cX2_shrink 20 = .ok (.dup, 1) := by decide +kernel
theorem dX2_shrink_21 : decode cX2_shrink 21 = .ok (.getfield 59, 3) := by decide +kernel
theorem dX2_shrink_24 : decode cX2_shrink 24 = .ok (.iconst 1, 1) := by decide +kernel
theorem dX2_shrink_25 : decode cX2_shrink 25 = .ok (.isub, 1) := by decide +kernel
theorem dX2_shrink_26 : decode cX2_shrink 26 = .ok (.putfield 59, 3) := by decide +kernel
theorem dX2_shrink_29 : decode cX2_shrink 29 = .ok (.aload_n 2, 1) := by decide +kernel
theorem dX2_shrink_30 : decode cX2_shrink 30 = .ok (.getfield 59, 3) := by decide +kernel
theorem dX2_shrink_33 : decode cX2_shrink 33 = .ok (.ireturn, 1) := by decide +kernel
theorem dX2_number_0 : decode cX2_number 0 = .ok (.iload_n 1, 1) := by decide +kernel
theorem dX2_number_1 : decode cX2_number 1 = .ok (.invokestatic 37, 3) := by decide +kernel
theorem dX2_number_4 : decode cX2_number 4 = .ok (.ifCond .ne 5, 3) := by decide +kernel
theorem dX2_number_7 : decode cX2_number 7 = .ok (.iconst 0, 1) := by decide +kernel
theorem dX2_number_8 : decode cX2_number 8 = .ok (.ireturn, 1) := by decide +kernel
theorem dX2_number_9 : decode cX2_number 9 = .ok (.aload_n 0, 1) := by decide +kernel
theorem dX2_number_10 : decode cX2_number 10 = .ok (.getfield 13, 3) := by decide +kernel
theorem dX2_number_13 : decode cX2_number 13 = .ok (.iload_n 1, 1) := by decide +kernel
theorem dX2_number_14 : decode cX2_number 14 = .ok (.iload_n 2, 1) := by decide +kernel
theorem dX2_number_15 : decode cX2_number 15 = .ok (.i2l, 1) := by decide +kernel
theorem dX2_number_16 : decode cX2_number 16 = .ok (.lastore, 1) := by decide +kernel
theorem dX2_number_17 : decode cX2_number 17 = .ok (.iconst 1, 1) := by decide +kernel
theorem dX2_number_18 : decode cX2_number 18 = .ok (.ireturn, 1) := by decide +kernel
theorem dX2_copy_0 : decode cX2_copy 0 = .ok (.iload_n 1, 1) := by decide +kernel
theorem dX2_copy_1 : decode cX2_copy 1 = .ok (.invokestatic 37, 3) := by decide +kernel
theorem dX2_copy_4 : decode cX2_copy 4 = .ok (.ifCond .eq 15, 3) := by decide +kernel
theorem dX2_copy_7 : decode cX2_copy 7 = .ok (.iload_n 2, 1) := by decide +kernel
theorem dX2_copy_8 : decode cX2_copy 8 = .ok (.iconst (-1), 1) := by decide +kernel
theorem dX2_copy_9 : decode cX2_copy 9 = .ok (.if_icmp .eq 12, 3) := by decide +kernel
theorem dX2_copy_12 : decode cX2_copy 12 = .ok (.iload_n 2, 1) := by decide +kernel
theorem dX2_copy_13 : decode cX2_copy 13 = .ok (.invokestatic 37, 3) := by decide +kernel
theorem dX2_copy_16 : decode cX2_copy 16 = .ok (.ifCond .ne 5, 3) := by decide +kernel
theorem dX2_copy_19 : decode cX2_copy 19 = .ok (.iconst 0, 1) := by decide +kernel
theorem dX2_copy_20 : decode cX2_copy 20 = .ok (.ireturn, 1) := by decide +kernel
theorem dX2_copy_21 : decode cX2_copy 21 = .ok (.aload_n 0, 1) := by decide +kernel
theorem dX2_copy_22 : decode cX2_copy 22 = .ok (.getfield 13, 3) := by decide +kernel
theorem dX2_copy_25 : decode cX2_copy 25 = .ok (.iload_n 1, 1) := by decide +kernel
theorem dX2_copy_26 : decode cX2_copy 26 = .ok (.iload_n 2, 1) := by decide +kernel
theorem dX2_copy_27 : decode cX2_copy 27 = .ok (.iconst (-1), 1) := by decide +kernel
theorem dX2_copy_28 : decode cX2_copy 28 = .ok (.if_icmp .ne 9, 3) := by decide +kernel
theorem dX2_copy_31 : decode cX2_copy 31 = .ok (.ldc2_w 17, 3) := by decide +kernel
theorem dX2_copy_34 : decode cX2_copy 34 = .ok (.goto 9, 3) := by decide +kernel
theorem dX2_copy_37 : decode cX2_copy 37 = .ok (.aload_n 0, 1) := by decide +kernel
theorem dX2_copy_38 : decode cX2_copy 38 = .ok (.getfield 13, 3) := by decide +kernel
theorem dX2_copy_41 : decode cX2_copy 41 = .ok (.iload_n 2, 1) := by decide +kernel
theorem dX2_copy_42 : decode cX2_copy 42 = .ok (.laload, 1) := by decide +kernel
theorem dX2_copy_43 : decode cX2_copy 43 = .ok (.lastore, 1) := by decide +kernel
theorem dX2_copy_44 : decode cX2_copy 44 = .ok (.iconst 1, 1) := by decide +kernel
theorem dX2_copy_45 : decode cX2_copy 45 = .ok (.ireturn, 1) := by decide +kernel
theorem dX2_get_0 : decode cX2_get 0 = .ok (.aload_n 0, 1) := by decide +kernel
theorem dX2_get_1 : decode cX2_get 1 = .ok (.iload_n 2, 1) := by decide +kernel
theorem dX2_get_2 : decode cX2_get 2 = .ok (.invokevirtual 55, 3) := by decide +kernel
theorem dX2_get_5 : decode cX2_get 5 = .ok (.astore 4, 2) := by decide +kernel
theorem dX2_get_7 : decode cX2_get 7 = .ok (.iload_n 1, 1) := by decide +kernel
theorem dX2_get_8 : decode cX2_get 8 = .ok (.invokestatic 37, 3) := by decide +kernel
theorem dX2_get_11 : decode cX2_get 11 = .ok (.ifCond .eq 17, 3) := by decide +kernel
theorem dX2_get_14 : decode cX2_get 14 = .ok (.aload 4, 2) := by decide +kernel
theorem dX2_get_16 : decode cX2_get 16 = .ok (.ifnull 12, 3) := by decide +kernel
theorem dX2_get_19 : decode cX2_get 19 = .ok (.aload 4, 2) := by decide +kernel
theorem dX2_get_21 : decode cX2_get 21 = .ok (.iload_n 3, 1) := by decide +kernel
theorem dX2_get_22 : decode cX2_get 22 = .ok (.invokevirtual 67, 3) := by decide +kernel
theorem dX2_get_25 : decode cX2_get 25 = .ok (.ifCond .ne 5, 3) := by decide +kernel
theorem dX2_get_28 : decode cX2_get 28 = .ok (.iconst 0, 1) := by decide +kernel
theorem dX2_get_29 : decode cX2_get 29 = .ok (.ireturn, 1) := by decide +kernel
theorem dX2_get_30 : decode cX2_get 30 = .ok (.aload_n 0, 1) := by decide +kernel
theorem dX2_get_31 : decode cX2_get 31 = .ok (.getfield 13, 3) := by decide +kernel
theorem dX2_get_34 : decode cX2_get 34 = .ok (.iload_n 1, 1) := by decide +kernel
theorem dX2_get_35 : decode cX2_get 35 = .ok (.aload 4, 2) := by decide +kernel
theorem dX2_get_37 : decode cX2_get 37 = .ok (.getfield 64, 3) := by decide +kernel
theorem dX2_get_40 : decode cX2_get 40 = .ok (.iload_n 3, 1) := by decide +kernel
theorem dX2_get_41 : decode cX2_get 41 = .ok (.laload, 1) := by decide +kernel
theorem dX2_get_42 : decode cX2_get 42 = .ok (.lastore, 1) := by decide +kernel
theorem dX2_get_43 : decode cX2_get 43 = .ok (.iconst 1, 1) := by decide +kernel
theorem dX2_get_44 : decode cX2_get 44 = .ok (.ireturn, 1) := by decide +kernel
theorem dX1_hasValue_0 : decode cX1_hasValue 0 = .ok (.iload_n 1, 1) := by decide +kernel
theorem dX1_hasValue_1 : decode cX1_hasValue 1 = .ok (.ifCond .lt 15, 3) := by decide +kernel
theorem dX1_hasValue_4 : decode cX1_hasValue 4 = .ok (.iload_n 1, 1) := by decide +kernel
theorem dX1_hasValue_5 : decode cX1_hasValue 5 = .ok (.aload_n 0, 1) := by decide +kernel
theorem dX1_hasValue_6 : decode cX1_hasValue 6 = .ok (.getfield 15, 3) := by decide +kernel
theorem dX1_hasValue_9 : decode cX1_hasValue 9 = .ok (.if_icmp .ge 7, 3) := by decide +kernel
theorem dX1_hasValue_12 : decode cX1_hasValue 12 = .ok (.iconst 1, 1) := by decide +kernel
theorem dX1_hasValue_13 : decode cX1_hasValue 13 = .ok (.goto 4, 3) := by decide +kernel
theorem dX1_hasValue_16 : decode cX1_hasValue 16 = .ok (.iconst 0, 1) := by decide +kernel
theorem dX1_hasValue_17 : decode cX1_hasValue 17 = .ok (.ireturn, 1) := by decide +kernel
theorem dX2_set_0 : decode cX2_set 0 = .ok (.aload_n 0, 1) := by decide +kernel
theorem dX2_set_1 : decode cX2_set 1 = .ok (.iload_n 1, 1) := by decide +kernel
theorem dX2_set_2 : decode cX2_set 2 = .ok (.invokevirtual 55, 3) := by decide +kernel
theorem dX2_set_5 : decode cX2_set 5 = .ok (.astore 4, 2) := by decide +kernel
theorem dX2_set_7 : decode cX2_set 7 = .ok (.iload_n 3, 1) := by decide +kernel
theorem dX2_set_8 : decode cX2_set 8 = .ok (.invokestatic 37, 3) := by decide +kernel
theorem dX2_set_11 : decode cX2_set 11 = .ok (.ifCond .eq 17, 3) := by decide +kernel
theorem dX2_set_14 : decode cX2_set 14 = .ok (.aload 4, 2) := by decide +kernel
theorem dX2_set_16 : decode cX2_set 16 = .ok (.ifnull 12, 3) := by decide +kernel
theorem dX2_set_19 : decode cX2_set 19 = .ok (.aload 4, 2) := by decide +kernel
theorem dX2_set_21 : decode cX2_set 21 = .ok (.iload_n 2, 1) := by decide +kernel
theorem dX2_set_22 : decode cX2_set 22 = .ok (.invokevirtual 67, 3) := by decide +kernel
theorem dX2_set_25 : decode cX2_set 25 = .ok (.ifCond .ne 5, 3) := by decide +kernel
theorem dX2_set_28 : decode cX2_set 28 = .ok (.iconst 0, 1) := by decide +kernel
theorem dX2_set_29 : decode cX2_set 29 = .ok (.ireturn, 1) := by decide +kernel
theorem dX2_set_30 : decode cX2_set 30 = .ok (.aload 4, 2) := by decide +kernel
theorem dX2_set_32 : decode cX2_set 32 = .ok (.getfield 64, 3) := by decide +kernel
theorem dX2_set_35 : decode cX2_set 35 = .ok (.iload_n 2, 1) := by decide +kernel
theorem dX2_set_36 : decode cX2_set 36 = .ok (.aload_n 0, 1) := by decide +kernel
theorem dX2_set_37 : decode cX2_set 37 = .ok (.getfield 13, 3) := by decide +kernel
theorem dX2_set_40 : decode cX2_set 40 = .ok (.iload_n 3, 1) := by decide +kernel
theorem dX2_set_41 : decode cX2_set 41 = .ok (.laload, 1) := by decide +kernel
theorem dX2_set_42 : decode cX2_set 42 = .ok (.lastore, 1) := by decide +kernel
theorem dX2_set_43 : decode cX2_set 43 = .ok (.iconst 1, 1) := by decide +kernel
theorem dX2_set_44 : decode cX2_set 44 = .ok (.ireturn, 1) := by decide +kernel
theorem dX2_push_0 : decode cX2_push 0 = .ok (.iload_n 1, 1) := by decide +kernel
theorem dX2_push_1 : decode cX2_push 1 = .ok (.invokestatic 37, 3) := by decide +kernel
theorem dX2_push_4 : decode cX2_push 4 = .ok (.ifCond .eq 12, 3) := by decide +kernel
theorem dX2_push_7 : decode cX2_push 7 = .ok (.aload_n 0, 1) := by decide +kernel
theorem dX2_push_8 : decode cX2_push 8 = .ok (.getfield 70, 3) := by decide +kernel
theorem dX2_push_11 : decode cX2_push 11 = .ok (.bipush 50, 2) := by decide +kernel
theorem dX2_push_13 : decode cX2_push 13 = .ok (.if_icmp .lt 5, 3) := by decide +kernel
theorem dX2_push_16 : decode cX2_push 16 = .ok (.iconst (-1), 1) := by decide +kernel
theorem dX2_push_17 : decode cX2_push 17 = .ok (.ireturn, 1) := by decide +kernel
theorem dX2_push_18 : decode cX2_push 18 = .ok (.aload_n 0, 1) := by decide +kernel
theorem dX2_push_19 : decode cX2_push 19 = .ok (.getfield 25, 3) := by decide +kernel
theorem dX2_push_22 : decode cX2_push 22 = .ok (.aload_n 0, 1) := by decide +kernel
theorem dX2_push_23 : decode cX2_push 23 = .ok (.getfield 70, 3) := by decide +kernel
theorem dX2_push_26 : decode cX2_push 26 = .ok (.aload_n 0, 1) := by decide +kernel
theorem dX2_push_27 : decode cX2_push 27 = .ok (.getfield 13, 3) := by decide +kernel
theorem dX2_push_30 : decode cX2_push 30 = .ok (.iload_n 1, 1) := by decide +kernel
theorem dX2_push_31 : decode cX2_push 31 = .ok (.laload, 1) := by decide +kernel
theorem dX2_push_32 : decode cX2_push 32 = .ok (.lastore, 1) := by decide +kernel
theorem dX2_push_33 : decode cX2_push 33 = .ok (.aload_n 0, 1) := by decide +kernel
theorem dX2_push_34 : decode cX2_push 34 = .ok (.dup, 1) := by decide +kernel
theorem dX2_push_35 : decode cX2_push 35 = .ok (.getfield 70, 3) := by decide +kernel
theorem dX2_push_38 : decode cX2_push 38 = .ok (.iconst 1, 1) := by decide +kernel
theorem dX2_push_39 : decode cX2_push 39 = .ok (.iadd, 1) := by decide +kernel
theorem dX2_push_40 : decode cX2_push 40 = .ok (.putfield 70, 3) := by decide +kernel
theorem dX2_push_43 : decode cX2_push 43 = .ok (.aload_n 0, 1) := by decide +kernel
theorem dX2_push_44 : decode cX2_push 44 = .ok (.getfield 13, 3) := by decide +kernel
theorem dX2_push_47 : decode cX2_push 47 = .ok (.iload_n 1, 1) := by decide +kernel
theorem dX2_push_48 : decode cX2_push 48 = .ok (.ldc2_w 17, 3) := by decide +kernel
theorem dX2_push_51 : decode cX2_push 51 = .ok (.lastore, 1) := by decide +kernel
theorem dX2_push_52 : decode cX2_push 52 = .ok (.aload_n 0, 1) := by decide +kernel
theorem dX2_push_53 : decode cX2_push 53 = .ok (.getfield 70, 3) := by decide +kernel
theorem dX2_push_56 : decode cX2_push 56 = .ok (.ireturn, 1) := by decide +kernel
theorem dX2_pop_0 : decode cX2_pop 0 = .ok (.iload_n 1, 1) := by decide +kernel
theorem dX2_pop_1 : decode cX2_pop 1 = .ok (.invokestatic 37, 3) := by decide +kernel
theorem dX2_pop_4 : decode cX2_pop 4 = .ok (.ifCond .eq 10, 3) := by decide +kernel
theorem dX2_pop_7 : decode cX2_pop 7 = .ok (.aload_n 0, 1) := by decide +kernel
theorem dX2_pop_8 : decode cX2_pop 8 = .ok (.getfield 70, 3) := by decide +kernel
theorem dX2_pop_11 : decode cX2_pop 11 = .ok (.ifCond .gt 5, 3) := by decide +kernel
theorem dX2_pop_14 : decode cX2_pop 14 = .ok (.iconst (-1), 1) := by decide +kernel
theorem dX2_pop_15 : decode cX2_pop 15 = .ok (.ireturn, 1) := by decide +kernel
theorem dX2_pop_16 : decode cX2_pop 16 = .ok (.aload_n 0, 1) := by decide +kernel
theorem dX2_pop_17 : decode cX2_pop 17 = .ok (.dup, 1) := by decide +kernel
theorem dX2_pop_18 : decode cX2_pop 18 = .ok (.getfield 70, 3) := by decide +kernel
theorem dX2_pop_21 : decode cX2_pop 21 = .ok (.iconst 1, 1) := by decide +kernel
theorem dX2_pop_22 : decode cX2_pop 22 = .ok (.isub, 1) := by decide +kernel
theorem dX2_pop_23 : decode cX2_pop 23 = .ok (.putfield 70, 3) := by decide +kernel
theorem dX2_pop_26 : decode cX2_pop 26 = .ok (.aload_n 0, 1) := by decide +kernel
theorem dX2_pop_27 : decode cX2_pop 27 = .ok (.getfield 13, 3) := by decide +kernel
theorem dX2_pop_30 : decode cX2_pop 30 = .ok (.iload_n 1, 1) := by decide +kernel
