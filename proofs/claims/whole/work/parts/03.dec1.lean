theorem d_Num_of_0 : decode b_Num_of 0 = .ok (.lload_n 0, 1) := by decide +kernel
theorem d_Num_of_1 : decode b_Num_of 1 = .ok (.ldc2_w 9, 3) := by decide +kernel
theorem d_Num_of_4 : decode b_Num_of 4 = .ok (.lrem, 1) := by decide +kernel
theorem d_Num_of_5 : decode b_Num_of 5 = .ok (.l2i, 1) := by decide +kernel
theorem d_Num_of_6 : decode b_Num_of 6 = .ok (.istore_n 2, 1) := by decide +kernel
theorem d_Num_of_7 : decode b_Num_of 7 = .ok (.iload_n 2, 1) := by decide +kernel
theorem d_Num_of_8 : decode b_Num_of 8 = .ok (.ifCond .ge 11, 3) := by decide +kernel
theorem d_Num_of_11 : decode b_Num_of 11 = .ok (.iload_n 2, 1) := by decide +kernel
theorem d_Num_of_12 : decode b_Num_of 12 = .ok (.sipush 32003, 3) := by decide +kernel
theorem d_Num_of_15 : decode b_Num_of 15 = .ok (.iadd, 1) := by decide +kernel
theorem d_Num_of_16 : decode b_Num_of 16 = .ok (.goto 4, 3) := by decide +kernel
theorem d_Num_of_19 : decode b_Num_of 19 = .ok (.iload_n 2, 1) := by decide +kernel
theorem d_Num_of_20 : decode b_Num_of 20 = .ok (.ireturn, 1) := by decide +kernel
theorem d_Num_raise_0 : decode b_Num_raise 0 = .ok (.iload_n 0, 1) := by decide +kernel
theorem d_Num_raise_1 : decode b_Num_raise 1 = .ok (.i2l, 1) := by decide +kernel
theorem d_Num_raise_2 : decode b_Num_raise 2 = .ok (.invokestatic 11, 3) := by decide +kernel
theorem d_Num_raise_5 : decode b_Num_raise 5 = .ok (.i2l, 1) := by decide +kernel
theorem d_Num_raise_6 : decode b_Num_raise 6 = .ok (.lstore_n 2, 1) := by decide +kernel
theorem d_Num_raise_7 : decode b_Num_raise 7 = .ok (.lconst 1, 1) := by decide +kernel
theorem d_Num_raise_8 : decode b_Num_raise 8 = .ok (.lstore 4, 2) := by decide +kernel
theorem d_Num_raise_10 : decode b_Num_raise 10 = .ok (.iconst 0, 1) := by decide +kernel
theorem d_Num_raise_11 : decode b_Num_raise 11 = .ok (.istore 6, 2) := by decide +kernel
theorem d_Num_raise_13 : decode b_Num_raise 13 = .ok (.iload 6, 2) := by decide +kernel
theorem d_Num_raise_15 : decode b_Num_raise 15 = .ok (.bipush 15, 2) := by decide +kernel
theorem d_Num_raise_17 : decode b_Num_raise 17 = .ok (.if_icmp .ge 37, 3) := by decide +kernel
theorem d_Num_raise_20 : decode b_Num_raise 20 = .ok (.iload_n 1, 1) := by decide +kernel
theorem d_Num_raise_21 : decode b_Num_raise 21 = .ok (.iload 6, 2) := by decide +kernel
theorem d_Num_raise_23 : decode b_Num_raise 23 = .ok (.ishr, 1) := by decide +kernel
theorem d_Num_raise_24 : decode b_Num_raise 24 = .ok (.iconst 1, 1) := by decide +kernel
theorem d_Num_raise_25 : decode b_Num_raise 25 = .ok (.iand, 1) := by decide +kernel
theorem d_Num_raise_26 : decode b_Num_raise 26 = .ok (.iconst 1, 1) := by decide +kernel
theorem d_Num_raise_27 : decode b_Num_raise 27 = .ok (.if_icmp .ne 13, 3) := by decide +kernel
theorem d_Num_raise_30 : decode b_Num_raise 30 = .ok (.lload 4, 2) := by decide +kernel
theorem d_Num_raise_32 : decode b_Num_raise 32 = .ok (.lload_n 2, 1) := by decide +kernel
theorem d_Num_raise_33 : decode b_Num_raise 33 = .ok (.lmul, 1) := by decide +kernel
theorem d_Num_raise_34 : decode b_Num_raise 34 = .ok (.ldc2_w 9, 3) := by decide +kernel
theorem d_Num_raise_37 : decode b_Num_raise 37 = .ok (.lrem, 1) := by decide +kernel
theorem d_Num_raise_38 : decode b_Num_raise 38 = .ok (.lstore 4, 2) := by decide +kernel
theorem d_Num_raise_40 : decode b_Num_raise 40 = .ok (.lload_n 2, 1) := by decide +kernel
theorem d_Num_raise_41 : decode b_Num_raise 41 = .ok (.lload_n 2, 1) := by decide +kernel
theorem d_Num_raise_42 : decode b_Num_raise 42 = .ok (.lmul, 1) := by decide +kernel
theorem d_Num_raise_43 : decode b_Num_raise 43 = .ok (.ldc2_w 9, 3) := by decide +kernel
theorem d_Num_raise_46 : decode b_Num_raise 46 = .ok (.lrem, 1) := by decide +kernel
theorem d_Num_raise_47 : decode b_Num_raise 47 = .ok (.lstore_n 2, 1) := by decide +kernel
theorem d_Num_raise_48 : decode b_Num_raise 48 = .ok (.iinc 6 1, 3) := by decide +kernel
theorem d_Num_raise_51 : decode b_Num_raise 51 = .ok (.goto (-38), 3) := by decide +kernel
theorem d_Num_raise_54 : decode b_Num_raise 54 = .ok (.lload 4, 2) := by decide +kernel
theorem d_Num_raise_56 : decode b_Num_raise 56 = .ok (.l2i, 1) := by decide +kernel
theorem d_Num_raise_57 : decode b_Num_raise 57 = .ok (.ireturn, 1) := by decide +kernel
theorem d_Num_inverse_0 : decode b_Num_inverse 0 = .ok (.iload_n 0, 1) := by decide +kernel
theorem d_Num_inverse_1 : decode b_Num_inverse 1 = .ok (.sipush 32001, 3) := by decide +kernel
theorem d_Num_inverse_4 : decode b_Num_inverse 4 = .ok (.invokestatic 17, 3) := by decide +kernel
theorem d_Num_inverse_7 : decode b_Num_inverse 7 = .ok (.ireturn, 1) := by decide +kernel
theorem d_Num_lessRoot_0 : decode b_Num_lessRoot 0 = .ok (.iload_n 0, 1) := by decide +kernel
theorem d_Num_lessRoot_1 : decode b_Num_lessRoot 1 = .ok (.sipush 8001, 3) := by decide +kernel
theorem d_Num_lessRoot_4 : decode b_Num_lessRoot 4 = .ok (.invokestatic 17, 3) := by decide +kernel
theorem d_Num_lessRoot_7 : decode b_Num_lessRoot 7 = .ok (.istore_n 1, 1) := by decide +kernel
theorem d_Num_lessRoot_8 : decode b_Num_lessRoot 8 = .ok (.iload_n 1, 1) := by decide +kernel
theorem d_Num_lessRoot_9 : decode b_Num_lessRoot 9 = .ok (.i2l, 1) := by decide +kernel
theorem d_Num_lessRoot_10 : decode b_Num_lessRoot 10 = .ok (.iload_n 1, 1) := by decide +kernel
theorem d_Num_lessRoot_11 : decode b_Num_lessRoot 11 = .ok (.i2l, 1) := by decide +kernel
theorem d_Num_lessRoot_12 : decode b_Num_lessRoot 12 = .ok (.lmul, 1) := by decide +kernel
theorem d_Num_lessRoot_13 : decode b_Num_lessRoot 13 = .ok (.invokestatic 11, 3) := by decide +kernel
theorem d_Num_lessRoot_16 : decode b_Num_lessRoot 16 = .ok (.iload_n 0, 1) := by decide +kernel
theorem d_Num_lessRoot_17 : decode b_Num_lessRoot 17 = .ok (.if_icmp .eq 5, 3) := by decide +kernel
theorem d_Num_lessRoot_20 : decode b_Num_lessRoot 20 = .ok (.iconst (-1), 1) := by decide +kernel
theorem d_Num_lessRoot_21 : decode b_Num_lessRoot 21 = .ok (.ireturn, 1) := by decide +kernel
theorem d_Num_lessRoot_22 : decode b_Num_lessRoot 22 = .ok (.iload_n 1, 1) := by decide +kernel
theorem d_Num_lessRoot_23 : decode b_Num_lessRoot 23 = .ok (.iload_n 1, 1) := by decide +kernel
theorem d_Num_lessRoot_24 : decode b_Num_lessRoot 24 = .ok (.ineg, 1) := by decide +kernel
theorem d_Num_lessRoot_25 : decode b_Num_lessRoot 25 = .ok (.i2l, 1) := by decide +kernel
theorem d_Num_lessRoot_26 : decode b_Num_lessRoot 26 = .ok (.invokestatic 11, 3) := by decide +kernel
theorem d_Num_lessRoot_29 : decode b_Num_lessRoot 29 = .ok (.invokestatic 21, 3) := by decide +kernel
theorem d_Num_lessRoot_32 : decode b_Num_lessRoot 32 = .ok (.ireturn, 1) := by decide +kernel
theorem d_Opr_init_0 : decode b_Opr_init 0 = .ok (.aload_n 0, 1) := by decide +kernel
theorem d_Opr_init_1 : decode b_Opr_init 1 = .ok (.invokespecial 3, 3) := by decide +kernel
theorem d_Opr_init_4 : decode b_Opr_init 4 = .ok (.aload_n 0, 1) := by decide +kernel
theorem d_Opr_init_5 : decode b_Opr_init 5 = .ok (.new 9, 3) := by decide +kernel
theorem d_Opr_init_8 : decode b_Opr_init 8 = .ok (.dup, 1) := by decide +kernel
theorem d_Opr_init_9 : decode b_Opr_init 9 = .ok (.iconst 2, 1) := by decide +kernel
theorem d_Opr_init_10 : decode b_Opr_init 10 = .ok (.invokespecial 11, 3) := by decide +kernel
theorem d_Opr_init_13 : decode b_Opr_init 13 = .ok (.putfield 14, 3) := by decide +kernel
theorem d_Opr_init_16 : decode b_Opr_init 16 = .ok (.aload_n 0, 1) := by decide +kernel
theorem d_Opr_init_17 : decode b_Opr_init 17 = .ok (.new 9, 3) := by decide +kernel
theorem d_Opr_init_20 : decode b_Opr_init 20 = .ok (.dup, 1) := by decide +kernel
theorem d_Opr_init_21 : decode b_Opr_init 21 = .ok (.iconst 4, 1) := by decide +kernel
theorem d_Opr_init_22 : decode b_Opr_init 22 = .ok (.invokespecial 11, 3) := by decide +kernel
theorem d_Opr_init_25 : decode b_Opr_init 25 = .ok (.putfield 20, 3) := by decide +kernel
theorem d_Opr_init_28 : decode b_Opr_init 28 = .ok (.return_, 1) := by decide +kernel
theorem d_Opr_lowerTerms_0 : decode b_Opr_lowerTerms 0 = .ok (.lconst 0, 1) := by decide +kernel
theorem d_Opr_lowerTerms_1 : decode b_Opr_lowerTerms 1 = .ok (.lstore_n 3, 1) := by decide +kernel
theorem d_Opr_lowerTerms_2 : decode b_Opr_lowerTerms 2 = .ok (.iconst 0, 1) := by decide +kernel
theorem d_Opr_lowerTerms_3 : decode b_Opr_lowerTerms 3 = .ok (.istore 5, 2) := by decide +kernel
theorem d_Opr_lowerTerms_5 : decode b_Opr_lowerTerms 5 = .ok (.iload 5, 2) := by decide +kernel
theorem d_Opr_lowerTerms_7 : decode b_Opr_lowerTerms 7 = .ok (.iconst 2, 1) := by decide +kernel
theorem d_Opr_lowerTerms_8 : decode b_Opr_lowerTerms 8 = .ok (.if_icmp .gt 31, 3) := by decide +kernel
theorem d_Opr_lowerTerms_11 : decode b_Opr_lowerTerms 11 = .ok (.lload_n 3, 1) := by decide +kernel
theorem d_Opr_lowerTerms_12 : decode b_Opr_lowerTerms 12 = .ok (.aload_n 0, 1) := by decide +kernel
theorem d_Opr_lowerTerms_13 : decode b_Opr_lowerTerms 13 = .ok (.getfield 14, 3) := by decide +kernel
theorem d_Opr_lowerTerms_16 : decode b_Opr_lowerTerms 16 = .ok (.iload 5, 2) := by decide +kernel
theorem d_Opr_lowerTerms_18 : decode b_Opr_lowerTerms 18 = .ok (.invokevirtual 23, 3) := by decide +kernel
theorem d_Opr_lowerTerms_21 : decode b_Opr_lowerTerms 21 = .ok (.i2l, 1) := by decide +kernel
theorem d_Opr_lowerTerms_22 : decode b_Opr_lowerTerms 22 = .ok (.aload_n 1, 1) := by decide +kernel
theorem d_Opr_lowerTerms_23 : decode b_Opr_lowerTerms 23 = .ok (.iload_n 2, 1) := by decide +kernel
theorem d_Opr_lowerTerms_24 : decode b_Opr_lowerTerms 24 = .ok (.iload 5, 2) := by decide +kernel
theorem d_Opr_lowerTerms_26 : decode b_Opr_lowerTerms 26 = .ok (.isub, 1) := by decide +kernel
theorem d_Opr_lowerTerms_27 : decode b_Opr_lowerTerms 27 = .ok (.invokevirtual 27, 3) := by decide +kernel
theorem d_Opr_lowerTerms_30 : decode b_Opr_lowerTerms 30 = .ok (.lmul, 1) := by decide +kernel
theorem d_Opr_lowerTerms_31 : decode b_Opr_lowerTerms 31 = .ok (.ladd, 1) := by decide +kernel
theorem d_Opr_lowerTerms_32 : decode b_Opr_lowerTerms 32 = .ok (.lstore_n 3, 1) := by decide +kernel
theorem d_Opr_lowerTerms_33 : decode b_Opr_lowerTerms 33 = .ok (.iinc 5 1, 3) := by decide +kernel
theorem d_Opr_lowerTerms_36 : decode b_Opr_lowerTerms 36 = .ok (.goto (-31), 3) := by decide +kernel
theorem d_Opr_lowerTerms_39 : decode b_Opr_lowerTerms 39 = .ok (.iconst 0, 1) := by decide +kernel
theorem d_Opr_lowerTerms_40 : decode b_Opr_lowerTerms 40 = .ok (.istore 5, 2) := by decide +kernel
theorem d_Opr_lowerTerms_42 : decode b_Opr_lowerTerms 42 = .ok (.iload 5, 2) := by decide +kernel
theorem d_Opr_lowerTerms_44 : decode b_Opr_lowerTerms 44 = .ok (.iconst 4, 1) := by decide +kernel
theorem d_Opr_lowerTerms_45 : decode b_Opr_lowerTerms 45 = .ok (.if_icmp .gt 32, 3) := by decide +kernel
theorem d_Opr_lowerTerms_48 : decode b_Opr_lowerTerms 48 = .ok (.lload_n 3, 1) := by decide +kernel
theorem d_Opr_lowerTerms_49 : decode b_Opr_lowerTerms 49 = .ok (.aload_n 0, 1) := by decide +kernel
theorem d_Opr_lowerTerms_50 : decode b_Opr_lowerTerms 50 = .ok (.getfield 20, 3) := by decide +kernel
theorem d_Opr_lowerTerms_53 : decode b_Opr_lowerTerms 53 = .ok (.iload 5, 2) := by decide +kernel
theorem d_Opr_lowerTerms_55 : decode b_Opr_lowerTerms 55 = .ok (.invokevirtual 23, 3) := by decide +kernel
theorem d_Opr_lowerTerms_58 : decode b_Opr_lowerTerms 58 = .ok (.i2l, 1) := by decide +kernel
theorem d_Opr_lowerTerms_59 : decode b_Opr_lowerTerms 59 = .ok (.aload_n 1, 1) := by decide +kernel
theorem d_Opr_lowerTerms_60 : decode b_Opr_lowerTerms 60 = .ok (.iload_n 2, 1) := by decide +kernel
theorem d_Opr_lowerTerms_61 : decode b_Opr_lowerTerms 61 = .ok (.iload 5, 2) := by decide +kernel
theorem d_Opr_lowerTerms_63 : decode b_Opr_lowerTerms 63 = .ok (.isub, 1) := by decide +kernel
theorem d_Opr_lowerTerms_64 : decode b_Opr_lowerTerms 64 = .ok (.invokevirtual 23, 3) := by decide +kernel
theorem d_Opr_lowerTerms_67 : decode b_Opr_lowerTerms 67 = .ok (.i2l, 1) := by decide +kernel
theorem d_Opr_lowerTerms_68 : decode b_Opr_lowerTerms 68 = .ok (.lmul, 1) := by decide +kernel
theorem d_Opr_lowerTerms_69 : decode b_Opr_lowerTerms 69 = .ok (.ladd, 1) := by decide +kernel
theorem d_Opr_lowerTerms_70 : decode b_Opr_lowerTerms 70 = .ok (.lstore_n 3, 1) := by decide +kernel
theorem d_Opr_lowerTerms_71 : decode b_Opr_lowerTerms 71 = .ok (.iinc 5 1, 3) := by decide +kernel
theorem d_Opr_lowerTerms_74 : decode b_Opr_lowerTerms 74 = .ok (.goto (-32), 3) := by decide +kernel
theorem d_Opr_lowerTerms_77 : decode b_Opr_lowerTerms 77 = .ok (.lload_n 3, 1) := by decide +kernel
theorem d_Opr_lowerTerms_78 : decode b_Opr_lowerTerms 78 = .ok (.invokestatic 31, 3) := by decide +kernel
theorem d_Opr_lowerTerms_81 : decode b_Opr_lowerTerms 81 = .ok (.ireturn, 1) := by decide +kernel
theorem d_Opr_allTerms_0 : decode b_Opr_allTerms 0 = .ok (.iload_n 2, 1) := by decide +kernel
theorem d_Opr_allTerms_1 : decode b_Opr_allTerms 1 = .ok (.i2l, 1) := by decide +kernel
theorem d_Opr_allTerms_2 : decode b_Opr_allTerms 2 = .ok (.ldc2_w 37, 3) := by decide +kernel
theorem d_Opr_allTerms_5 : decode b_Opr_allTerms 5 = .ok (.ladd, 1) := by decide +kernel
theorem d_Opr_allTerms_6 : decode b_Opr_allTerms 6 = .ok (.iload_n 2, 1) := by decide +kernel
theorem d_Opr_allTerms_7 : decode b_Opr_allTerms 7 = .ok (.i2l, 1) := by decide +kernel
theorem d_Opr_allTerms_8 : decode b_Opr_allTerms 8 = .ok (.lconst 1, 1) := by decide +kernel
theorem d_Opr_allTerms_9 : decode b_Opr_allTerms 9 = .ok (.ladd, 1) := by decide +kernel
theorem d_Opr_allTerms_10 : decode b_Opr_allTerms 10 = .ok (.lmul, 1) := by decide +kernel
theorem d_Opr_allTerms_11 : decode b_Opr_allTerms 11 = .ok (.aload_n 1, 1) := by decide +kernel
theorem d_Opr_allTerms_12 : decode b_Opr_allTerms 12 = .ok (.iload_n 2, 1) := by decide +kernel
theorem d_Opr_allTerms_13 : decode b_Opr_allTerms 13 = .ok (.iconst 2, 1) := by decide +kernel
theorem d_Opr_allTerms_14 : decode b_Opr_allTerms 14 = .ok (.iadd, 1) := by decide +kernel
theorem d_Opr_allTerms_15 : decode b_Opr_allTerms 15 = .ok (.invokevirtual 23, 3) := by decide +kernel
theorem d_Opr_allTerms_18 : decode b_Opr_allTerms 18 = .ok (.i2l, 1) := by decide +kernel
theorem d_Opr_allTerms_19 : decode b_Opr_allTerms 19 = .ok (.lmul, 1) := by decide +kernel
theorem d_Opr_allTerms_20 : decode b_Opr_allTerms 20 = .ok (.aload_n 0, 1) := by decide +kernel
theorem d_Opr_allTerms_21 : decode b_Opr_allTerms 21 = .ok (.aload_n 1, 1) := by decide +kernel
theorem d_Opr_allTerms_22 : decode b_Opr_allTerms 22 = .ok (.iload_n 2, 1) := by decide +kernel
theorem d_Opr_allTerms_23 : decode b_Opr_allTerms 23 = .ok (.invokevirtual 39, 3) := by decide +kernel
theorem d_Opr_allTerms_26 : decode b_Opr_allTerms 26 = .ok (.i2l, 1) := by decide +kernel
theorem d_Opr_allTerms_27 : decode b_Opr_allTerms 27 = .ok (.ladd, 1) := by decide +kernel
theorem d_Opr_allTerms_28 : decode b_Opr_allTerms 28 = .ok (.invokestatic 31, 3) := by decide +kernel
theorem d_Opr_allTerms_31 : decode b_Opr_allTerms 31 = .ok (.ireturn, 1) := by decide +kernel
theorem d_Pai_init_0 : decode b_Pai_init 0 = .ok (.aload_n 0, 1) := by decide +kernel
theorem d_Pai_init_1 : decode b_Pai_init 1 = .ok (.invokespecial 3, 3) := by decide +kernel
theorem d_Pai_init_4 : decode b_Pai_init 4 = .ok (.aload_n 0, 1) := by decide +kernel
theorem d_Pai_init_5 : decode b_Pai_init 5 = .ok (.new 9, 3) := by decide +kernel
theorem d_Pai_init_8 : decode b_Pai_init 8 = .ok (.dup, 1) := by decide +kernel
theorem d_Pai_init_9 : decode b_Pai_init 9 = .ok (.iconst 2, 1) := by decide +kernel
theorem d_Pai_init_10 : decode b_Pai_init 10 = .ok (.invokespecial 11, 3) := by decide +kernel
theorem d_Pai_init_13 : decode b_Pai_init 13 = .ok (.putfield 14, 3) := by decide +kernel
theorem d_Pai_init_16 : decode b_Pai_init 16 = .ok (.aload_n 0, 1) := by decide +kernel
theorem d_Pai_init_17 : decode b_Pai_init 17 = .ok (.new 9, 3) := by decide +kernel
theorem d_Pai_init_20 : decode b_Pai_init 20 = .ok (.dup, 1) := by decide +kernel
theorem d_Pai_init_21 : decode b_Pai_init 21 = .ok (.bipush 12, 2) := by decide +kernel
theorem d_Pai_init_23 : decode b_Pai_init 23 = .ok (.invokespecial 11, 3) := by decide +kernel
theorem d_Pai_init_26 : decode b_Pai_init 26 = .ok (.putfield 20, 3) := by decide +kernel
theorem d_Pai_init_29 : decode b_Pai_init 29 = .ok (.aload_n 0, 1) := by decide +kernel
theorem d_Pai_init_30 : decode b_Pai_init 30 = .ok (.new 23, 3) := by decide +kernel
theorem d_Pai_init_33 : decode b_Pai_init 33 = .ok (.dup, 1) := by decide +kernel
theorem d_Pai_init_34 : decode b_Pai_init 34 = .ok (.invokespecial 25, 3) := by decide +kernel
theorem d_Pai_init_37 : decode b_Pai_init 37 = .ok (.putfield 26, 3) := by decide +kernel
theorem d_Pai_init_40 : decode b_Pai_init 40 = .ok (.return_, 1) := by decide +kernel
theorem d_Pai_turn_0 : decode b_Pai_turn 0 = .ok (.iconst 0, 1) := by decide +kernel
theorem d_Pai_turn_1 : decode b_Pai_turn 1 = .ok (.istore_n 2, 1) := by decide +kernel
theorem d_Pai_turn_2 : decode b_Pai_turn 2 = .ok (.iload_n 2, 1) := by decide +kernel
theorem d_Pai_turn_3 : decode b_Pai_turn 3 = .ok (.iconst 2, 1) := by decide +kernel
theorem d_Pai_turn_4 : decode b_Pai_turn 4 = .ok (.if_icmp .gt 43, 3) := by decide +kernel
theorem d_Pai_turn_7 : decode b_Pai_turn 7 = .ok (.aload_n 0, 1) := by decide +kernel
theorem d_Pai_turn_8 : decode b_Pai_turn 8 = .ok (.getfield 26, 3) := by decide +kernel
theorem d_Pai_turn_11 : decode b_Pai_turn 11 = .ok (.getfield 30, 3) := by decide +kernel
theorem d_Pai_turn_14 : decode b_Pai_turn 14 = .ok (.iload_n 2, 1) := by decide +kernel
theorem d_Pai_turn_15 : decode b_Pai_turn 15 = .ok (.ldc2_w 33, 3) := by decide +kernel
theorem d_Pai_turn_18 : decode b_Pai_turn 18 = .ok (.aload_n 0, 1) := by decide +kernel
theorem d_Pai_turn_19 : decode b_Pai_turn 19 = .ok (.getfield 14, 3) := by decide +kernel
theorem d_Pai_turn_22 : decode b_Pai_turn 22 = .ok (.iload_n 2, 1) := by decide +kernel
theorem d_Pai_turn_23 : decode b_Pai_turn 23 = .ok (.invokevirtual 35, 3) := by decide +kernel
theorem d_Pai_turn_26 : decode b_Pai_turn 26 = .ok (.i2l, 1) := by decide +kernel
theorem d_Pai_turn_27 : decode b_Pai_turn 27 = .ok (.lmul, 1) := by decide +kernel
theorem d_Pai_turn_28 : decode b_Pai_turn 28 = .ok (.aload_n 1, 1) := by decide +kernel
theorem d_Pai_turn_29 : decode b_Pai_turn 29 = .ok (.getfield 30, 3) := by decide +kernel
theorem d_Pai_turn_32 : decode b_Pai_turn 32 = .ok (.iload_n 2, 1) := by decide +kernel
theorem d_Pai_turn_33 : decode b_Pai_turn 33 = .ok (.invokevirtual 35, 3) := by decide +kernel
theorem d_Pai_turn_36 : decode b_Pai_turn 36 = .ok (.i2l, 1) := by decide +kernel
theorem d_Pai_turn_37 : decode b_Pai_turn 37 = .ok (.ladd, 1) := by decide +kernel
theorem d_Pai_turn_38 : decode b_Pai_turn 38 = .ok (.invokevirtual 39, 3) := by decide +kernel
theorem d_Pai_turn_41 : decode b_Pai_turn 41 = .ok (.iinc 2 1, 3) := by decide +kernel
theorem d_Pai_turn_44 : decode b_Pai_turn 44 = .ok (.goto (-42), 3) := by decide +kernel
theorem d_Pai_turn_47 : decode b_Pai_turn 47 = .ok (.iconst 0, 1) := by decide +kernel
theorem d_Pai_turn_48 : decode b_Pai_turn 48 = .ok (.istore_n 2, 1) := by decide +kernel
theorem d_Pai_turn_49 : decode b_Pai_turn 49 = .ok (.iload_n 2, 1) := by decide +kernel
theorem d_Pai_turn_50 : decode b_Pai_turn 50 = .ok (.iconst 4, 1) := by decide +kernel
theorem d_Pai_turn_51 : decode b_Pai_turn 51 = .ok (.if_icmp .gt 68, 3) := by decide +kernel
theorem d_Pai_turn_54 : decode b_Pai_turn 54 = .ok (.aload_n 0, 1) := by decide +kernel
theorem d_Pai_turn_55 : decode b_Pai_turn 55 = .ok (.getfield 14, 3) := by decide +kernel
theorem d_Pai_turn_58 : decode b_Pai_turn 58 = .ok (.iload_n 2, 1) := by decide +kernel
theorem d_Pai_turn_59 : decode b_Pai_turn 59 = .ok (.invokevirtual 43, 3) := by decide +kernel
theorem d_Pai_turn_62 : decode b_Pai_turn 62 = .ok (.aload_n 0, 1) := by decide +kernel
theorem d_Pai_turn_63 : decode b_Pai_turn 63 = .ok (.getfield 14, 3) := by decide +kernel
theorem d_Pai_turn_66 : decode b_Pai_turn 66 = .ok (.aload_n 0, 1) := by decide +kernel
theorem d_Pai_turn_67 : decode b_Pai_turn 67 = .ok (.getfield 14, 3) := by decide +kernel
theorem d_Pai_turn_70 : decode b_Pai_turn 70 = .ok (.iload_n 2, 1) := by decide +kernel
theorem d_Pai_turn_71 : decode b_Pai_turn 71 = .ok (.invokevirtual 47, 3) := by decide +kernel
theorem d_Pai_turn_74 : decode b_Pai_turn 74 = .ok (.i2l, 1) := by decide +kernel
theorem d_Pai_turn_75 : decode b_Pai_turn 75 = .ok (.ladd, 1) := by decide +kernel
theorem d_Pai_turn_76 : decode b_Pai_turn 76 = .ok (.lstore_n 3, 1) := by decide +kernel
theorem d_Pai_turn_77 : decode b_Pai_turn 77 = .ok (.aload_n 0, 1) := by decide +kernel
theorem d_Pai_turn_78 : decode b_Pai_turn 78 = .ok (.getfield 26, 3) := by decide +kernel
theorem d_Pai_turn_81 : decode b_Pai_turn 81 = .ok (.getfield 51, 3) := by decide +kernel
theorem d_Pai_turn_84 : decode b_Pai_turn 84 = .ok (.iload_n 2, 1) := by decide +kernel
theorem d_Pai_turn_85 : decode b_Pai_turn 85 = .ok (.lload_n 3, 1) := by decide +kernel
theorem d_Pai_turn_86 : decode b_Pai_turn 86 = .ok (.aload_n 1, 1) := by decide +kernel
theorem d_Pai_turn_87 : decode b_Pai_turn 87 = .ok (.getfield 30, 3) := by decide +kernel
theorem d_Pai_turn_90 : decode b_Pai_turn 90 = .ok (.aload_n 0, 1) := by decide +kernel
theorem d_Pai_turn_91 : decode b_Pai_turn 91 = .ok (.getfield 14, 3) := by decide +kernel
theorem d_Pai_turn_94 : decode b_Pai_turn 94 = .ok (.iload_n 2, 1) := by decide +kernel
theorem d_Pai_turn_95 : decode b_Pai_turn 95 = .ok (.invokevirtual 47, 3) := by decide +kernel
theorem d_Pai_turn_98 : decode b_Pai_turn 98 = .ok (.i2l, 1) := by decide +kernel
theorem d_Pai_turn_99 : decode b_Pai_turn 99 = .ok (.ladd, 1) := by decide +kernel
theorem d_Pai_turn_100 : decode b_Pai_turn 100 = .ok (.aload_n 1, 1) := by decide +kernel
theorem d_Pai_turn_101 : decode b_Pai_turn 101 = .ok (.getfield 51, 3) := by decide +kernel
theorem d_Pai_turn_104 : decode b_Pai_turn 104 = .ok (.iload_n 2, 1) := by decide +kernel
theorem d_Pai_turn_105 : decode b_Pai_turn 105 = .ok (.invokevirtual 35, 3) := by decide +kernel
theorem d_Pai_turn_108 : decode b_Pai_turn 108 = .ok (.i2l, 1) := by decide +kernel
theorem d_Pai_turn_109 : decode b_Pai_turn 109 = .ok (.ladd, 1) := by decide +kernel
theorem d_Pai_turn_110 : decode b_Pai_turn 110 = .ok (.invokevirtual 39, 3) := by decide +kernel
theorem d_Pai_turn_113 : decode b_Pai_turn 113 = .ok (.iinc 2 1, 3) := by decide +kernel
theorem d_Pai_turn_116 : decode b_Pai_turn 116 = .ok (.goto (-67), 3) := by decide +kernel
theorem d_Pai_turn_119 : decode b_Pai_turn 119 = .ok (.return_, 1) := by decide +kernel
theorem d_Pai_holds_0 : decode b_Pai_holds 0 = .ok (.iconst 0, 1) := by decide +kernel
theorem d_Pai_holds_1 : decode b_Pai_holds 1 = .ok (.istore_n 1, 1) := by decide +kernel
theorem d_Pai_holds_2 : decode b_Pai_holds 2 = .ok (.iload_n 1, 1) := by decide +kernel
theorem d_Pai_holds_3 : decode b_Pai_holds 3 = .ok (.bipush 16, 2) := by decide +kernel
theorem d_Pai_holds_5 : decode b_Pai_holds 5 = .ok (.if_icmp .gt 26, 3) := by decide +kernel
theorem d_Pai_holds_8 : decode b_Pai_holds 8 = .ok (.aload_n 0, 1) := by decide +kernel
theorem d_Pai_holds_9 : decode b_Pai_holds 9 = .ok (.getfield 26, 3) := by decide +kernel
theorem d_Pai_holds_12 : decode b_Pai_holds 12 = .ok (.aload_n 0, 1) := by decide +kernel
theorem d_Pai_holds_13 : decode b_Pai_holds 13 = .ok (.getfield 20, 3) := by decide +kernel
theorem d_Pai_holds_16 : decode b_Pai_holds 16 = .ok (.iload_n 1, 1) := by decide +kernel
theorem d_Pai_holds_17 : decode b_Pai_holds 17 = .ok (.invokevirtual 54, 3) := by decide +kernel
theorem d_Pai_holds_20 : decode b_Pai_holds 20 = .ok (.ifCond .eq 5, 3) := by decide +kernel
theorem d_Pai_holds_23 : decode b_Pai_holds 23 = .ok (.iconst 0, 1) := by decide +kernel
theorem d_Pai_holds_24 : decode b_Pai_holds 24 = .ok (.ireturn, 1) := by decide +kernel
theorem d_Pai_holds_25 : decode b_Pai_holds 25 = .ok (.iinc 1 1, 3) := by decide +kernel
theorem d_Pai_holds_28 : decode b_Pai_holds 28 = .ok (.goto (-26), 3) := by decide +kernel
theorem d_Pai_holds_31 : decode b_Pai_holds 31 = .ok (.iconst 1, 1) := by decide +kernel
theorem d_Pai_holds_32 : decode b_Pai_holds 32 = .ok (.ireturn, 1) := by decide +kernel
theorem d_Pai_takePower_0 : decode b_Pai_takePower 0 = .ok (.aload_n 0, 1) := by decide +kernel
theorem d_Pai_takePower_1 : decode b_Pai_takePower 1 = .ok (.getfield 20, 3) := by decide +kernel
theorem d_Pai_takePower_4 : decode b_Pai_takePower 4 = .ok (.invokevirtual 57, 3) := by decide +kernel
theorem d_Pai_takePower_7 : decode b_Pai_takePower 7 = .ok (.aload_n 0, 1) := by decide +kernel
theorem d_Pai_takePower_8 : decode b_Pai_takePower 8 = .ok (.getfield 20, 3) := by decide +kernel
theorem d_Pai_takePower_11 : decode b_Pai_takePower 11 = .ok (.iload_n 1, 1) := by decide +kernel
theorem d_Pai_takePower_12 : decode b_Pai_takePower 12 = .ok (.lconst 1, 1) := by decide +kernel
theorem d_Pai_takePower_13 : decode b_Pai_takePower 13 = .ok (.invokevirtual 39, 3) := by decide +kernel
theorem d_Pai_takePower_16 : decode b_Pai_takePower 16 = .ok (.return_, 1) := by decide +kernel
theorem d_Pai_takeSum_0 : decode b_Pai_takeSum 0 = .ok (.iconst 0, 1) := by decide +kernel
theorem d_Pai_takeSum_1 : decode b_Pai_takeSum 1 = .ok (.istore_n 3, 1) := by decide +kernel
theorem d_Pai_takeSum_2 : decode b_Pai_takeSum 2 = .ok (.iload_n 3, 1) := by decide +kernel
theorem d_Pai_takeSum_3 : decode b_Pai_takeSum 3 = .ok (.iconst 2, 1) := by decide +kernel
theorem d_Pai_takeSum_4 : decode b_Pai_takeSum 4 = .ok (.if_icmp .gt 37, 3) := by decide +kernel
theorem d_Pai_takeSum_7 : decode b_Pai_takeSum 7 = .ok (.aload_n 0, 1) := by decide +kernel
theorem d_Pai_takeSum_8 : decode b_Pai_takeSum 8 = .ok (.getfield 14, 3) := by decide +kernel
theorem d_Pai_takeSum_11 : decode b_Pai_takeSum 11 = .ok (.iload_n 3, 1) := by decide +kernel
theorem d_Pai_takeSum_12 : decode b_Pai_takeSum 12 = .ok (.aload_n 1, 1) := by decide +kernel
theorem d_Pai_takeSum_13 : decode b_Pai_takeSum 13 = .ok (.iload_n 3, 1) := by decide +kernel
theorem d_Pai_takeSum_14 : decode b_Pai_takeSum 14 = .ok (.invokevirtual 35, 3) := by decide +kernel
theorem d_Pai_takeSum_17 : decode b_Pai_takeSum 17 = .ok (.i2l, 1) := by decide +kernel
theorem d_Pai_takeSum_18 : decode b_Pai_takeSum 18 = .ok (.ldc2_w 60, 3) := by decide +kernel
theorem d_Pai_takeSum_21 : decode b_Pai_takeSum 21 = .ok (.aload_n 2, 1) := by decide +kernel
theorem d_Pai_takeSum_22 : decode b_Pai_takeSum 22 = .ok (.getfield 30, 3) := by decide +kernel
theorem d_Pai_takeSum_25 : decode b_Pai_takeSum 25 = .ok (.iload_n 3, 1) := by decide +kernel
theorem d_Pai_takeSum_26 : decode b_Pai_takeSum 26 = .ok (.invokevirtual 35, 3) := by decide +kernel
theorem d_Pai_takeSum_29 : decode b_Pai_takeSum 29 = .ok (.i2l, 1) := by decide +kernel
theorem d_Pai_takeSum_30 : decode b_Pai_takeSum 30 = .ok (.lmul, 1) := by decide +kernel
theorem d_Pai_takeSum_31 : decode b_Pai_takeSum 31 = .ok (.lsub, 1) := by decide +kernel
theorem d_Pai_takeSum_32 : decode b_Pai_takeSum 32 = .ok (.invokevirtual 39, 3) := by decide +kernel
theorem d_Pai_takeSum_35 : decode b_Pai_takeSum 35 = .ok (.iinc 3 1, 3) := by decide +kernel
theorem d_Pai_takeSum_38 : decode b_Pai_takeSum 38 = .ok (.goto (-36), 3) := by decide +kernel
theorem d_Pai_takeSum_41 : decode b_Pai_takeSum 41 = .ok (.return_, 1) := by decide +kernel
theorem d_Pai_solve_0 : decode b_Pai_solve 0 = .ok (.aload_n 0, 1) := by decide +kernel
theorem d_Pai_solve_1 : decode b_Pai_solve 1 = .ok (.iload_n 1, 1) := by decide +kernel
theorem d_Pai_solve_2 : decode b_Pai_solve 2 = .ok (.invokevirtual 62, 3) := by decide +kernel
theorem d_Pai_solve_5 : decode b_Pai_solve 5 = .ok (.iload_n 1, 1) := by decide +kernel
theorem d_Pai_solve_6 : decode b_Pai_solve 6 = .ok (.iconst 1, 1) := by decide +kernel
theorem d_Pai_solve_7 : decode b_Pai_solve 7 = .ok (.isub, 1) := by decide +kernel
theorem d_Pai_solve_8 : decode b_Pai_solve 8 = .ok (.istore 4, 2) := by decide +kernel
theorem d_Pai_solve_10 : decode b_Pai_solve 10 = .ok (.iload 4, 2) := by decide +kernel
theorem d_Pai_solve_12 : decode b_Pai_solve 12 = .ok (.ifCond .lt 60, 3) := by decide +kernel
theorem d_Pai_solve_15 : decode b_Pai_solve 15 = .ok (.ldc2_w 33, 3) := by decide +kernel
theorem d_Pai_solve_18 : decode b_Pai_solve 18 = .ok (.iload_n 2, 1) := by decide +kernel
theorem d_Pai_solve_19 : decode b_Pai_solve 19 = .ok (.i2l, 1) := by decide +kernel
theorem d_Pai_solve_20 : decode b_Pai_solve 20 = .ok (.lmul, 1) := by decide +kernel
theorem d_Pai_solve_21 : decode b_Pai_solve 21 = .ok (.iload_n 1, 1) := by decide +kernel
theorem d_Pai_solve_22 : decode b_Pai_solve 22 = .ok (.iload 4, 2) := by decide +kernel
theorem d_Pai_solve_24 : decode b_Pai_solve 24 = .ok (.isub, 1) := by decide +kernel
theorem d_Pai_solve_25 : decode b_Pai_solve 25 = .ok (.i2l, 1) := by decide +kernel
theorem d_Pai_solve_26 : decode b_Pai_solve 26 = .ok (.lmul, 1) := by decide +kernel
theorem d_Pai_solve_27 : decode b_Pai_solve 27 = .ok (.invokestatic 65, 3) := by decide +kernel
theorem d_Pai_solve_30 : decode b_Pai_solve 30 = .ok (.istore 5, 2) := by decide +kernel
theorem d_Pai_solve_32 : decode b_Pai_solve 32 = .ok (.aload_n 0, 1) := by decide +kernel
theorem d_Pai_solve_33 : decode b_Pai_solve 33 = .ok (.getfield 20, 3) := by decide +kernel
theorem d_Pai_solve_36 : decode b_Pai_solve 36 = .ok (.iload 4, 2) := by decide +kernel
theorem d_Pai_solve_38 : decode b_Pai_solve 38 = .ok (.aload_n 0, 1) := by decide +kernel
theorem d_Pai_solve_39 : decode b_Pai_solve 39 = .ok (.getfield 26, 3) := by decide +kernel
theorem d_Pai_solve_42 : decode b_Pai_solve 42 = .ok (.aload_n 0, 1) := by decide +kernel
theorem d_Pai_solve_43 : decode b_Pai_solve 43 = .ok (.getfield 20, 3) := by decide +kernel
theorem d_Pai_solve_46 : decode b_Pai_solve 46 = .ok (.iload 4, 2) := by decide +kernel
theorem d_Pai_solve_48 : decode b_Pai_solve 48 = .ok (.iload_n 3, 1) := by decide +kernel
theorem d_Pai_solve_49 : decode b_Pai_solve 49 = .ok (.iadd, 1) := by decide +kernel
theorem d_Pai_solve_50 : decode b_Pai_solve 50 = .ok (.iconst 1, 1) := by decide +kernel
theorem d_Pai_solve_51 : decode b_Pai_solve 51 = .ok (.isub, 1) := by decide +kernel
theorem d_Pai_solve_52 : decode b_Pai_solve 52 = .ok (.invokevirtual 54, 3) := by decide +kernel
theorem d_Pai_solve_55 : decode b_Pai_solve 55 = .ok (.i2l, 1) := by decide +kernel
theorem d_Pai_solve_56 : decode b_Pai_solve 56 = .ok (.iload 5, 2) := by decide +kernel
theorem d_Pai_solve_58 : decode b_Pai_solve 58 = .ok (.invokestatic 71, 3) := by decide +kernel
theorem d_Pai_solve_61 : decode b_Pai_solve 61 = .ok (.i2l, 1) := by decide +kernel
theorem d_Pai_solve_62 : decode b_Pai_solve 62 = .ok (.lmul, 1) := by decide +kernel
theorem d_Pai_solve_63 : decode b_Pai_solve 63 = .ok (.invokevirtual 39, 3) := by decide +kernel
theorem d_Pai_solve_66 : decode b_Pai_solve 66 = .ok (.iinc 4 (-1), 3) := by decide +kernel
theorem d_Pai_solve_69 : decode b_Pai_solve 69 = .ok (.goto (-59), 3) := by decide +kernel
theorem d_Pai_solve_72 : decode b_Pai_solve 72 = .ok (.return_, 1) := by decide +kernel
theorem d_Row_init_0 : decode b_Row_init 0 = .ok (.aload_n 0, 1) := by decide +kernel
theorem d_Row_init_1 : decode b_Row_init 1 = .ok (.invokespecial 3, 3) := by decide +kernel
theorem d_Row_init_4 : decode b_Row_init 4 = .ok (.aload_n 0, 1) := by decide +kernel
theorem d_Row_init_5 : decode b_Row_init 5 = .ok (.iload_n 1, 1) := by decide +kernel
theorem d_Row_init_6 : decode b_Row_init 6 = .ok (.ifCond .lt 9, 3) := by decide +kernel
theorem d_Row_init_9 : decode b_Row_init 9 = .ok (.iload_n 1, 1) := by decide +kernel
theorem d_Row_init_10 : decode b_Row_init 10 = .ok (.bipush 40, 2) := by decide +kernel
theorem d_Row_init_12 : decode b_Row_init 12 = .ok (.if_icmp .le 7, 3) := by decide +kernel
theorem d_Row_init_15 : decode b_Row_init 15 = .ok (.iconst 0, 1) := by decide +kernel
theorem d_Row_init_16 : decode b_Row_init 16 = .ok (.goto 6, 3) := by decide +kernel
theorem d_Row_init_19 : decode b_Row_init 19 = .ok (.iload_n 1, 1) := by decide +kernel
theorem d_Row_init_20 : decode b_Row_init 20 = .ok (.iconst 1, 1) := by decide +kernel
theorem d_Row_init_21 : decode b_Row_init 21 = .ok (.iadd, 1) := by decide +kernel
theorem d_Row_init_22 : decode b_Row_init 22 = .ok (.newarray .int, 2) := by decide +kernel
theorem d_Row_init_24 : decode b_Row_init 24 = .ok (.putfield 9, 3) := by decide +kernel
theorem d_Row_init_27 : decode b_Row_init 27 = .ok (.return_, 1) := by decide +kernel
theorem d_Row_has_0 : decode b_Row_has 0 = .ok (.iload_n 1, 1) := by decide +kernel
theorem d_Row_has_1 : decode b_Row_has 1 = .ok (.ifCond .lt 16, 3) := by decide +kernel
theorem d_Row_has_4 : decode b_Row_has 4 = .ok (.iload_n 1, 1) := by decide +kernel
theorem d_Row_has_5 : decode b_Row_has 5 = .ok (.aload_n 0, 1) := by decide +kernel
theorem d_Row_has_6 : decode b_Row_has 6 = .ok (.getfield 9, 3) := by decide +kernel
theorem d_Row_has_9 : decode b_Row_has 9 = .ok (.arraylength, 1) := by decide +kernel
theorem d_Row_has_10 : decode b_Row_has 10 = .ok (.if_icmp .ge 7, 3) := by decide +kernel
theorem d_Row_has_13 : decode b_Row_has 13 = .ok (.iconst 1, 1) := by decide +kernel
theorem d_Row_has_14 : decode b_Row_has 14 = .ok (.goto 4, 3) := by decide +kernel
theorem d_Row_has_17 : decode b_Row_has 17 = .ok (.iconst 0, 1) := by decide +kernel
theorem d_Row_has_18 : decode b_Row_has 18 = .ok (.ireturn, 1) := by decide +kernel
theorem d_Row_get_0 : decode b_Row_get 0 = .ok (.iload_n 1, 1) := by decide +kernel
theorem d_Row_get_1 : decode b_Row_get 1 = .ok (.ifCond .lt 21, 3) := by decide +kernel
theorem d_Row_get_4 : decode b_Row_get 4 = .ok (.iload_n 1, 1) := by decide +kernel
theorem d_Row_get_5 : decode b_Row_get 5 = .ok (.aload_n 0, 1) := by decide +kernel
theorem d_Row_get_6 : decode b_Row_get 6 = .ok (.getfield 9, 3) := by decide +kernel
theorem d_Row_get_9 : decode b_Row_get 9 = .ok (.arraylength, 1) := by decide +kernel
theorem d_Row_get_10 : decode b_Row_get 10 = .ok (.if_icmp .ge 12, 3) := by decide +kernel
theorem d_Row_get_13 : decode b_Row_get 13 = .ok (.aload_n 0, 1) := by decide +kernel
theorem d_Row_get_14 : decode b_Row_get 14 = .ok (.getfield 9, 3) := by decide +kernel
theorem d_Row_get_17 : decode b_Row_get 17 = .ok (.iload_n 1, 1) := by decide +kernel
theorem d_Row_get_18 : decode b_Row_get 18 = .ok (.iaload, 1) := by decide +kernel
theorem d_Row_get_19 : decode b_Row_get 19 = .ok (.goto 4, 3) := by decide +kernel
theorem d_Row_get_22 : decode b_Row_get 22 = .ok (.iconst 0, 1) := by decide +kernel
theorem d_Row_get_23 : decode b_Row_get 23 = .ok (.ireturn, 1) := by decide +kernel
theorem d_Row_set_0 : decode b_Row_set 0 = .ok (.iload_n 1, 1) := by decide +kernel
theorem d_Row_set_1 : decode b_Row_set 1 = .ok (.ifCond .lt 22, 3) := by decide +kernel
theorem d_Row_set_4 : decode b_Row_set 4 = .ok (.iload_n 1, 1) := by decide +kernel
theorem d_Row_set_5 : decode b_Row_set 5 = .ok (.aload_n 0, 1) := by decide +kernel
theorem d_Row_set_6 : decode b_Row_set 6 = .ok (.getfield 9, 3) := by decide +kernel
theorem d_Row_set_9 : decode b_Row_set 9 = .ok (.arraylength, 1) := by decide +kernel
theorem d_Row_set_10 : decode b_Row_set 10 = .ok (.if_icmp .ge 13, 3) := by decide +kernel
theorem d_Row_set_13 : decode b_Row_set 13 = .ok (.aload_n 0, 1) := by decide +kernel
theorem d_Row_set_14 : decode b_Row_set 14 = .ok (.getfield 9, 3) := by decide +kernel
theorem d_Row_set_17 : decode b_Row_set 17 = .ok (.iload_n 1, 1) := by decide +kernel
theorem d_Row_set_18 : decode b_Row_set 18 = .ok (.lload_n 2, 1) := by decide +kernel
theorem d_Row_set_19 : decode b_Row_set 19 = .ok (.invokestatic 15, 3) := by decide +kernel
theorem d_Row_set_22 : decode b_Row_set 22 = .ok (.iastore, 1) := by decide +kernel
theorem d_Row_set_23 : decode b_Row_set 23 = .ok (.return_, 1) := by decide +kernel
theorem d_Row_wipe_0 : decode b_Row_wipe 0 = .ok (.iconst 0, 1) := by decide +kernel
theorem d_Row_wipe_1 : decode b_Row_wipe 1 = .ok (.istore_n 1, 1) := by decide +kernel
theorem d_Row_wipe_2 : decode b_Row_wipe 2 = .ok (.iload_n 1, 1) := by decide +kernel
theorem d_Row_wipe_3 : decode b_Row_wipe 3 = .ok (.aload_n 0, 1) := by decide +kernel
theorem d_Row_wipe_4 : decode b_Row_wipe 4 = .ok (.getfield 9, 3) := by decide +kernel
theorem d_Row_wipe_7 : decode b_Row_wipe 7 = .ok (.arraylength, 1) := by decide +kernel
theorem d_Row_wipe_8 : decode b_Row_wipe 8 = .ok (.if_icmp .ge 16, 3) := by decide +kernel
theorem d_Row_wipe_11 : decode b_Row_wipe 11 = .ok (.aload_n 0, 1) := by decide +kernel
theorem d_Row_wipe_12 : decode b_Row_wipe 12 = .ok (.getfield 9, 3) := by decide +kernel
theorem d_Row_wipe_15 : decode b_Row_wipe 15 = .ok (.iload_n 1, 1) := by decide +kernel
theorem d_Row_wipe_16 : decode b_Row_wipe 16 = .ok (.iconst 0, 1) := by decide +kernel
theorem d_Row_wipe_17 : decode b_Row_wipe 17 = .ok (.iastore, 1) := by decide +kernel
theorem d_Row_wipe_18 : decode b_Row_wipe 18 = .ok (.iinc 1 1, 3) := by decide +kernel
theorem d_Row_wipe_21 : decode b_Row_wipe 21 = .ok (.goto (-19), 3) := by decide +kernel
theorem d_Row_wipe_24 : decode b_Row_wipe 24 = .ok (.return_, 1) := by decide +kernel
theorem d_Row_top_0 : decode b_Row_top 0 = .ok (.aload_n 0, 1) := by decide +kernel
theorem d_Row_top_1 : decode b_Row_top 1 = .ok (.getfield 9, 3) := by decide +kernel
theorem d_Row_top_4 : decode b_Row_top 4 = .ok (.arraylength, 1) := by decide +kernel
theorem d_Row_top_5 : decode b_Row_top 5 = .ok (.iconst 1, 1) := by decide +kernel
theorem d_Row_top_6 : decode b_Row_top 6 = .ok (.isub, 1) := by decide +kernel
theorem d_Row_top_7 : decode b_Row_top 7 = .ok (.istore_n 1, 1) := by decide +kernel
theorem d_Row_top_8 : decode b_Row_top 8 = .ok (.iload_n 1, 1) := by decide +kernel
theorem d_Row_top_9 : decode b_Row_top 9 = .ok (.ifCond .lt 20, 3) := by decide +kernel
theorem d_Row_top_12 : decode b_Row_top 12 = .ok (.aload_n 0, 1) := by decide +kernel
theorem d_Row_top_13 : decode b_Row_top 13 = .ok (.getfield 9, 3) := by decide +kernel
theorem d_Row_top_16 : decode b_Row_top 16 = .ok (.iload_n 1, 1) := by decide +kernel
theorem d_Row_top_17 : decode b_Row_top 17 = .ok (.iaload, 1) := by decide +kernel
theorem d_Row_top_18 : decode b_Row_top 18 = .ok (.ifCond .eq 5, 3) := by decide +kernel
theorem d_Row_top_21 : decode b_Row_top 21 = .ok (.iload_n 1, 1) := by decide +kernel
theorem d_Row_top_22 : decode b_Row_top 22 = .ok (.ireturn, 1) := by decide +kernel
theorem d_Row_top_23 : decode b_Row_top 23 = .ok (.iinc 1 (-1), 3) := by decide +kernel
theorem d_Row_top_26 : decode b_Row_top 26 = .ok (.goto (-18), 3) := by decide +kernel
theorem d_Row_top_29 : decode b_Row_top 29 = .ok (.iconst (-1), 1) := by decide +kernel
theorem d_Row_top_30 : decode b_Row_top 30 = .ok (.ireturn, 1) := by decide +kernel
theorem d_Row_shift_0 : decode b_Row_shift 0 = .ok (.lload_n 1, 1) := by decide +kernel
theorem d_Row_shift_1 : decode b_Row_shift 1 = .ok (.invokestatic 15, 3) := by decide +kernel
theorem d_Row_shift_4 : decode b_Row_shift 4 = .ok (.i2l, 1) := by decide +kernel
theorem d_Row_shift_5 : decode b_Row_shift 5 = .ok (.lstore_n 3, 1) := by decide +kernel
theorem d_Row_shift_6 : decode b_Row_shift 6 = .ok (.iconst 0, 1) := by decide +kernel
theorem d_Row_shift_7 : decode b_Row_shift 7 = .ok (.istore 5, 2) := by decide +kernel
theorem d_Row_shift_9 : decode b_Row_shift 9 = .ok (.iload 5, 2) := by decide +kernel
theorem d_Row_shift_11 : decode b_Row_shift 11 = .ok (.aload_n 0, 1) := by decide +kernel
theorem d_Row_shift_12 : decode b_Row_shift 12 = .ok (.getfield 9, 3) := by decide +kernel
theorem d_Row_shift_15 : decode b_Row_shift 15 = .ok (.arraylength, 1) := by decide +kernel
theorem d_Row_shift_16 : decode b_Row_shift 16 = .ok (.if_icmp .ge 56, 3) := by decide +kernel
theorem d_Row_shift_19 : decode b_Row_shift 19 = .ok (.aload_n 0, 1) := by decide +kernel
theorem d_Row_shift_20 : decode b_Row_shift 20 = .ok (.getfield 9, 3) := by decide +kernel
theorem d_Row_shift_23 : decode b_Row_shift 23 = .ok (.arraylength, 1) := by decide +kernel
theorem d_Row_shift_24 : decode b_Row_shift 24 = .ok (.iconst 2, 1) := by decide +kernel
theorem d_Row_shift_25 : decode b_Row_shift 25 = .ok (.isub, 1) := by decide +kernel
theorem d_Row_shift_26 : decode b_Row_shift 26 = .ok (.istore 6, 2) := by decide +kernel
theorem d_Row_shift_28 : decode b_Row_shift 28 = .ok (.iload 6, 2) := by decide +kernel
theorem d_Row_shift_30 : decode b_Row_shift 30 = .ok (.iload 5, 2) := by decide +kernel
theorem d_Row_shift_32 : decode b_Row_shift 32 = .ok (.if_icmp .lt 34, 3) := by decide +kernel
theorem d_Row_shift_35 : decode b_Row_shift 35 = .ok (.aload_n 0, 1) := by decide +kernel
theorem d_Row_shift_36 : decode b_Row_shift 36 = .ok (.iload 6, 2) := by decide +kernel
theorem d_Row_shift_38 : decode b_Row_shift 38 = .ok (.aload_n 0, 1) := by decide +kernel
theorem d_Row_shift_39 : decode b_Row_shift 39 = .ok (.iload 6, 2) := by decide +kernel
theorem d_Row_shift_41 : decode b_Row_shift 41 = .ok (.invokevirtual 21, 3) := by decide +kernel
theorem d_Row_shift_44 : decode b_Row_shift 44 = .ok (.i2l, 1) := by decide +kernel
theorem d_Row_shift_45 : decode b_Row_shift 45 = .ok (.lload_n 3, 1) := by decide +kernel
theorem d_Row_shift_46 : decode b_Row_shift 46 = .ok (.aload_n 0, 1) := by decide +kernel
theorem d_Row_shift_47 : decode b_Row_shift 47 = .ok (.iload 6, 2) := by decide +kernel
theorem d_Row_shift_49 : decode b_Row_shift 49 = .ok (.iconst 1, 1) := by decide +kernel
theorem d_Row_shift_50 : decode b_Row_shift 50 = .ok (.iadd, 1) := by decide +kernel
theorem d_Row_shift_51 : decode b_Row_shift 51 = .ok (.invokevirtual 21, 3) := by decide +kernel
theorem d_Row_shift_54 : decode b_Row_shift 54 = .ok (.i2l, 1) := by decide +kernel
theorem d_Row_shift_55 : decode b_Row_shift 55 = .ok (.lmul, 1) := by decide +kernel
theorem d_Row_shift_56 : decode b_Row_shift 56 = .ok (.ladd, 1) := by decide +kernel
theorem d_Row_shift_57 : decode b_Row_shift 57 = .ok (.invokevirtual 25, 3) := by decide +kernel
theorem d_Row_shift_60 : decode b_Row_shift 60 = .ok (.iinc 6 (-1), 3) := by decide +kernel
theorem d_Row_shift_63 : decode b_Row_shift 63 = .ok (.goto (-35), 3) := by decide +kernel
theorem d_Row_shift_66 : decode b_Row_shift 66 = .ok (.iinc 5 1, 3) := by decide +kernel
theorem d_Row_shift_69 : decode b_Row_shift 69 = .ok (.goto (-60), 3) := by decide +kernel
theorem d_Row_shift_72 : decode b_Row_shift 72 = .ok (.return_, 1) := by decide +kernel
theorem d_Row_slopeAt_0 : decode b_Row_slopeAt 0 = .ok (.iload_n 1, 1) := by decide +kernel
theorem d_Row_slopeAt_1 : decode b_Row_slopeAt 1 = .ok (.iconst 1, 1) := by decide +kernel
theorem d_Row_slopeAt_2 : decode b_Row_slopeAt 2 = .ok (.iadd, 1) := by decide +kernel
theorem d_Row_slopeAt_3 : decode b_Row_slopeAt 3 = .ok (.istore_n 2, 1) := by decide +kernel
theorem d_Row_slopeAt_4 : decode b_Row_slopeAt 4 = .ok (.iload_n 2, 1) := by decide +kernel
theorem d_Row_slopeAt_5 : decode b_Row_slopeAt 5 = .ok (.ifCond .le 25, 3) := by decide +kernel
theorem d_Row_slopeAt_8 : decode b_Row_slopeAt 8 = .ok (.iload_n 2, 1) := by decide +kernel
theorem d_Row_slopeAt_9 : decode b_Row_slopeAt 9 = .ok (.aload_n 0, 1) := by decide +kernel
theorem d_Row_slopeAt_10 : decode b_Row_slopeAt 10 = .ok (.getfield 9, 3) := by decide +kernel
theorem d_Row_slopeAt_13 : decode b_Row_slopeAt 13 = .ok (.arraylength, 1) := by decide +kernel
theorem d_Row_slopeAt_14 : decode b_Row_slopeAt 14 = .ok (.if_icmp .ge 16, 3) := by decide +kernel
theorem d_Row_slopeAt_17 : decode b_Row_slopeAt 17 = .ok (.iload_n 2, 1) := by decide +kernel
theorem d_Row_slopeAt_18 : decode b_Row_slopeAt 18 = .ok (.i2l, 1) := by decide +kernel
theorem d_Row_slopeAt_19 : decode b_Row_slopeAt 19 = .ok (.aload_n 0, 1) := by decide +kernel
theorem d_Row_slopeAt_20 : decode b_Row_slopeAt 20 = .ok (.getfield 9, 3) := by decide +kernel
theorem d_Row_slopeAt_23 : decode b_Row_slopeAt 23 = .ok (.iload_n 2, 1) := by decide +kernel
theorem d_Row_slopeAt_24 : decode b_Row_slopeAt 24 = .ok (.iaload, 1) := by decide +kernel
theorem d_Row_slopeAt_25 : decode b_Row_slopeAt 25 = .ok (.i2l, 1) := by decide +kernel
theorem d_Row_slopeAt_26 : decode b_Row_slopeAt 26 = .ok (.lmul, 1) := by decide +kernel
theorem d_Row_slopeAt_27 : decode b_Row_slopeAt 27 = .ok (.goto 4, 3) := by decide +kernel
theorem d_Row_slopeAt_30 : decode b_Row_slopeAt 30 = .ok (.lconst 0, 1) := by decide +kernel
theorem d_Row_slopeAt_31 : decode b_Row_slopeAt 31 = .ok (.lreturn, 1) := by decide +kernel
theorem d_Row_timesAt_0 : decode b_Row_timesAt 0 = .ok (.lconst 0, 1) := by decide +kernel
theorem d_Row_timesAt_1 : decode b_Row_timesAt 1 = .ok (.lstore_n 3, 1) := by decide +kernel
theorem d_Row_timesAt_2 : decode b_Row_timesAt 2 = .ok (.iconst 0, 1) := by decide +kernel
theorem d_Row_timesAt_3 : decode b_Row_timesAt 3 = .ok (.istore 5, 2) := by decide +kernel
theorem d_Row_timesAt_5 : decode b_Row_timesAt 5 = .ok (.iload 5, 2) := by decide +kernel
theorem d_Row_timesAt_7 : decode b_Row_timesAt 7 = .ok (.aload_n 0, 1) := by decide +kernel
theorem d_Row_timesAt_8 : decode b_Row_timesAt 8 = .ok (.getfield 9, 3) := by decide +kernel
theorem d_Row_timesAt_11 : decode b_Row_timesAt 11 = .ok (.arraylength, 1) := by decide +kernel
theorem d_Row_timesAt_12 : decode b_Row_timesAt 12 = .ok (.if_icmp .ge 30, 3) := by decide +kernel
theorem d_Row_timesAt_15 : decode b_Row_timesAt 15 = .ok (.lload_n 3, 1) := by decide +kernel
theorem d_Row_timesAt_16 : decode b_Row_timesAt 16 = .ok (.aload_n 0, 1) := by decide +kernel
theorem d_Row_timesAt_17 : decode b_Row_timesAt 17 = .ok (.getfield 9, 3) := by decide +kernel
theorem d_Row_timesAt_20 : decode b_Row_timesAt 20 = .ok (.iload 5, 2) := by decide +kernel
theorem d_Row_timesAt_22 : decode b_Row_timesAt 22 = .ok (.iaload, 1) := by decide +kernel
theorem d_Row_timesAt_23 : decode b_Row_timesAt 23 = .ok (.i2l, 1) := by decide +kernel
theorem d_Row_timesAt_24 : decode b_Row_timesAt 24 = .ok (.aload_n 1, 1) := by decide +kernel
theorem d_Row_timesAt_25 : decode b_Row_timesAt 25 = .ok (.iload_n 2, 1) := by decide +kernel
theorem d_Row_timesAt_26 : decode b_Row_timesAt 26 = .ok (.iload 5, 2) := by decide +kernel
theorem d_Row_timesAt_28 : decode b_Row_timesAt 28 = .ok (.isub, 1) := by decide +kernel
theorem d_Row_timesAt_29 : decode b_Row_timesAt 29 = .ok (.invokevirtual 21, 3) := by decide +kernel
theorem d_Row_timesAt_32 : decode b_Row_timesAt 32 = .ok (.i2l, 1) := by decide +kernel
theorem d_Row_timesAt_33 : decode b_Row_timesAt 33 = .ok (.lmul, 1) := by decide +kernel
theorem d_Row_timesAt_34 : decode b_Row_timesAt 34 = .ok (.ladd, 1) := by decide +kernel
theorem d_Row_timesAt_35 : decode b_Row_timesAt 35 = .ok (.lstore_n 3, 1) := by decide +kernel
theorem d_Row_timesAt_36 : decode b_Row_timesAt 36 = .ok (.iinc 5 1, 3) := by decide +kernel
theorem d_Row_timesAt_39 : decode b_Row_timesAt 39 = .ok (.goto (-34), 3) := by decide +kernel
theorem d_Row_timesAt_42 : decode b_Row_timesAt 42 = .ok (.lload_n 3, 1) := by decide +kernel
theorem d_Row_timesAt_43 : decode b_Row_timesAt 43 = .ok (.invokestatic 15, 3) := by decide +kernel
theorem d_Row_timesAt_46 : decode b_Row_timesAt 46 = .ok (.ireturn, 1) := by decide +kernel
