theorem d_Otc_init_0 : decode b_Otc_init 0 = .ok (.aload_n 0, 1) := by decide +kernel
theorem d_Otc_init_1 : decode b_Otc_init 1 = .ok (.invokespecial 1, 3) := by decide +kernel
theorem d_Otc_init_4 : decode b_Otc_init 4 = .ok (.aload_n 0, 1) := by decide +kernel
theorem d_Otc_init_5 : decode b_Otc_init 5 = .ok (.new 7, 3) := by decide +kernel
theorem d_Otc_init_8 : decode b_Otc_init 8 = .ok (.dup, 1) := by decide +kernel
theorem d_Otc_init_9 : decode b_Otc_init 9 = .ok (.invokespecial 9, 3) := by decide +kernel
theorem d_Otc_init_12 : decode b_Otc_init 12 = .ok (.putfield 10, 3) := by decide +kernel
theorem d_Otc_init_15 : decode b_Otc_init 15 = .ok (.aload_n 0, 1) := by decide +kernel
theorem d_Otc_init_16 : decode b_Otc_init 16 = .ok (.new 16, 3) := by decide +kernel
theorem d_Otc_init_19 : decode b_Otc_init 19 = .ok (.dup, 1) := by decide +kernel
theorem d_Otc_init_20 : decode b_Otc_init 20 = .ok (.invokespecial 18, 3) := by decide +kernel
theorem d_Otc_init_23 : decode b_Otc_init 23 = .ok (.putfield 19, 3) := by decide +kernel
theorem d_Otc_init_26 : decode b_Otc_init 26 = .ok (.aload_n 0, 1) := by decide +kernel
theorem d_Otc_init_27 : decode b_Otc_init 27 = .ok (.new 23, 3) := by decide +kernel
theorem d_Otc_init_30 : decode b_Otc_init 30 = .ok (.dup, 1) := by decide +kernel
theorem d_Otc_init_31 : decode b_Otc_init 31 = .ok (.invokespecial 25, 3) := by decide +kernel
theorem d_Otc_init_34 : decode b_Otc_init 34 = .ok (.putfield 26, 3) := by decide +kernel
theorem d_Otc_init_37 : decode b_Otc_init 37 = .ok (.aload_n 0, 1) := by decide +kernel
theorem d_Otc_init_38 : decode b_Otc_init 38 = .ok (.new 30, 3) := by decide +kernel
theorem d_Otc_init_41 : decode b_Otc_init 41 = .ok (.dup, 1) := by decide +kernel
theorem d_Otc_init_42 : decode b_Otc_init 42 = .ok (.bipush 40, 2) := by decide +kernel
theorem d_Otc_init_44 : decode b_Otc_init 44 = .ok (.invokespecial 32, 3) := by decide +kernel
theorem d_Otc_init_47 : decode b_Otc_init 47 = .ok (.putfield 35, 3) := by decide +kernel
theorem d_Otc_init_50 : decode b_Otc_init 50 = .ok (.aload_n 0, 1) := by decide +kernel
theorem d_Otc_init_51 : decode b_Otc_init 51 = .ok (.iconst 0, 1) := by decide +kernel
theorem d_Otc_init_52 : decode b_Otc_init 52 = .ok (.putfield 39, 3) := by decide +kernel
theorem d_Otc_init_55 : decode b_Otc_init 55 = .ok (.return_, 1) := by decide +kernel
theorem d_Otc_put_0 : decode b_Otc_put 0 = .ok (.iload_n 1, 1) := by decide +kernel
theorem d_Otc_put_1 : decode b_Otc_put 1 = .ok (.ifCond .eq 18, 3) := by decide +kernel
theorem d_Otc_put_4 : decode b_Otc_put 4 = .ok (.iload_n 1, 1) := by decide +kernel
theorem d_Otc_put_5 : decode b_Otc_put 5 = .ok (.iconst 1, 1) := by decide +kernel
theorem d_Otc_put_6 : decode b_Otc_put 6 = .ok (.if_icmp .eq 13, 3) := by decide +kernel
theorem d_Otc_put_9 : decode b_Otc_put 9 = .ok (.new 43, 3) := by decide +kernel
theorem d_Otc_put_12 : decode b_Otc_put 12 = .ok (.dup, 1) := by decide +kernel
theorem d_Otc_put_13 : decode b_Otc_put 13 = .ok (.ldc 45, 2) := by decide +kernel
theorem d_Otc_put_15 : decode b_Otc_put 15 = .ok (.invokespecial 47, 3) := by decide +kernel
theorem d_Otc_put_18 : decode b_Otc_put 18 = .ok (.athrow, 1) := by decide +kernel
theorem d_Otc_put_19 : decode b_Otc_put 19 = .ok (.iload_n 1, 1) := by decide +kernel
theorem d_Otc_put_20 : decode b_Otc_put 20 = .ok (.ifCond .ne 13, 3) := by decide +kernel
theorem d_Otc_put_23 : decode b_Otc_put 23 = .ok (.aload_n 0, 1) := by decide +kernel
theorem d_Otc_put_24 : decode b_Otc_put 24 = .ok (.getfield 10, 3) := by decide +kernel
theorem d_Otc_put_27 : decode b_Otc_put 27 = .ok (.getfield 50, 3) := by decide +kernel
theorem d_Otc_put_30 : decode b_Otc_put 30 = .ok (.goto 10, 3) := by decide +kernel
theorem d_Otc_put_33 : decode b_Otc_put 33 = .ok (.aload_n 0, 1) := by decide +kernel
theorem d_Otc_put_34 : decode b_Otc_put 34 = .ok (.getfield 10, 3) := by decide +kernel
theorem d_Otc_put_37 : decode b_Otc_put 37 = .ok (.getfield 53, 3) := by decide +kernel
theorem d_Otc_put_40 : decode b_Otc_put 40 = .ok (.astore 5, 2) := by decide +kernel
theorem d_Otc_put_42 : decode b_Otc_put 42 = .ok (.aload 5, 2) := by decide +kernel
theorem d_Otc_put_44 : decode b_Otc_put 44 = .ok (.iload_n 2, 1) := by decide +kernel
theorem d_Otc_put_45 : decode b_Otc_put 45 = .ok (.invokevirtual 56, 3) := by decide +kernel
theorem d_Otc_put_48 : decode b_Otc_put 48 = .ok (.ifCond .ne 13, 3) := by decide +kernel
theorem d_Otc_put_51 : decode b_Otc_put 51 = .ok (.new 60, 3) := by decide +kernel
theorem d_Otc_put_54 : decode b_Otc_put 54 = .ok (.dup, 1) := by decide +kernel
theorem d_Otc_put_55 : decode b_Otc_put 55 = .ok (.ldc 62, 2) := by decide +kernel
theorem d_Otc_put_57 : decode b_Otc_put 57 = .ok (.invokespecial 64, 3) := by decide +kernel
theorem d_Otc_put_60 : decode b_Otc_put 60 = .ok (.athrow, 1) := by decide +kernel
theorem d_Otc_put_61 : decode b_Otc_put 61 = .ok (.aload 5, 2) := by decide +kernel
theorem d_Otc_put_63 : decode b_Otc_put 63 = .ok (.iload_n 2, 1) := by decide +kernel
theorem d_Otc_put_64 : decode b_Otc_put 64 = .ok (.invokevirtual 65, 3) := by decide +kernel
theorem d_Otc_put_67 : decode b_Otc_put 67 = .ok (.istore 6, 2) := by decide +kernel
theorem d_Otc_put_69 : decode b_Otc_put 69 = .ok (.aload 5, 2) := by decide +kernel
theorem d_Otc_put_71 : decode b_Otc_put 71 = .ok (.iload_n 2, 1) := by decide +kernel
theorem d_Otc_put_72 : decode b_Otc_put 72 = .ok (.lload_n 3, 1) := by decide +kernel
theorem d_Otc_put_73 : decode b_Otc_put 73 = .ok (.invokevirtual 69, 3) := by decide +kernel
theorem d_Otc_put_76 : decode b_Otc_put 76 = .ok (.aload_n 0, 1) := by decide +kernel
theorem d_Otc_put_77 : decode b_Otc_put 77 = .ok (.iconst 0, 1) := by decide +kernel
theorem d_Otc_put_78 : decode b_Otc_put 78 = .ok (.putfield 39, 3) := by decide +kernel
theorem d_Otc_put_81 : decode b_Otc_put 81 = .ok (.aload 5, 2) := by decide +kernel
theorem d_Otc_put_83 : decode b_Otc_put 83 = .ok (.iload_n 2, 1) := by decide +kernel
theorem d_Otc_put_84 : decode b_Otc_put 84 = .ok (.invokevirtual 65, 3) := by decide +kernel
theorem d_Otc_put_87 : decode b_Otc_put 87 = .ok (.iload 6, 2) := by decide +kernel
theorem d_Otc_put_89 : decode b_Otc_put 89 = .ok (.if_icmp .eq 7, 3) := by decide +kernel
theorem d_Otc_put_92 : decode b_Otc_put 92 = .ok (.iconst 1, 1) := by decide +kernel
theorem d_Otc_put_93 : decode b_Otc_put 93 = .ok (.goto 4, 3) := by decide +kernel
theorem d_Otc_put_96 : decode b_Otc_put 96 = .ok (.iconst 0, 1) := by decide +kernel
theorem d_Otc_put_97 : decode b_Otc_put 97 = .ok (.ireturn, 1) := by decide +kernel
theorem d_Otc_at_0 : decode b_Otc_at 0 = .ok (.iload_n 1, 1) := by decide +kernel
theorem d_Otc_at_1 : decode b_Otc_at 1 = .ok (.ifCond .lt 8, 3) := by decide +kernel
theorem d_Otc_at_4 : decode b_Otc_at 4 = .ok (.iload_n 1, 1) := by decide +kernel
theorem d_Otc_at_5 : decode b_Otc_at 5 = .ok (.iconst 2, 1) := by decide +kernel
theorem d_Otc_at_6 : decode b_Otc_at 6 = .ok (.if_icmp .le 13, 3) := by decide +kernel
theorem d_Otc_at_9 : decode b_Otc_at 9 = .ok (.new 43, 3) := by decide +kernel
theorem d_Otc_at_12 : decode b_Otc_at 12 = .ok (.dup, 1) := by decide +kernel
theorem d_Otc_at_13 : decode b_Otc_at 13 = .ok (.ldc 73, 2) := by decide +kernel
theorem d_Otc_at_15 : decode b_Otc_at 15 = .ok (.invokespecial 47, 3) := by decide +kernel
theorem d_Otc_at_18 : decode b_Otc_at 18 = .ok (.athrow, 1) := by decide +kernel
theorem d_Otc_at_19 : decode b_Otc_at 19 = .ok (.iload_n 1, 1) := by decide +kernel
theorem d_Otc_at_20 : decode b_Otc_at 20 = .ok (.ifCond .ne 13, 3) := by decide +kernel
theorem d_Otc_at_23 : decode b_Otc_at 23 = .ok (.aload_n 0, 1) := by decide +kernel
theorem d_Otc_at_24 : decode b_Otc_at 24 = .ok (.getfield 10, 3) := by decide +kernel
theorem d_Otc_at_27 : decode b_Otc_at 27 = .ok (.getfield 50, 3) := by decide +kernel
theorem d_Otc_at_30 : decode b_Otc_at 30 = .ok (.goto 25, 3) := by decide +kernel
theorem d_Otc_at_33 : decode b_Otc_at 33 = .ok (.iload_n 1, 1) := by decide +kernel
theorem d_Otc_at_34 : decode b_Otc_at 34 = .ok (.iconst 1, 1) := by decide +kernel
theorem d_Otc_at_35 : decode b_Otc_at 35 = .ok (.if_icmp .ne 13, 3) := by decide +kernel
theorem d_Otc_at_38 : decode b_Otc_at 38 = .ok (.aload_n 0, 1) := by decide +kernel
theorem d_Otc_at_39 : decode b_Otc_at 39 = .ok (.getfield 10, 3) := by decide +kernel
theorem d_Otc_at_42 : decode b_Otc_at 42 = .ok (.getfield 53, 3) := by decide +kernel
theorem d_Otc_at_45 : decode b_Otc_at 45 = .ok (.goto 10, 3) := by decide +kernel
theorem d_Otc_at_48 : decode b_Otc_at 48 = .ok (.aload_n 0, 1) := by decide +kernel
theorem d_Otc_at_49 : decode b_Otc_at 49 = .ok (.invokevirtual 75, 3) := by decide +kernel
theorem d_Otc_at_52 : decode b_Otc_at 52 = .ok (.getfield 79, 3) := by decide +kernel
theorem d_Otc_at_55 : decode b_Otc_at 55 = .ok (.astore_n 3, 1) := by decide +kernel
theorem d_Otc_at_56 : decode b_Otc_at 56 = .ok (.aload_n 3, 1) := by decide +kernel
theorem d_Otc_at_57 : decode b_Otc_at 57 = .ok (.iload_n 2, 1) := by decide +kernel
theorem d_Otc_at_58 : decode b_Otc_at 58 = .ok (.invokevirtual 56, 3) := by decide +kernel
theorem d_Otc_at_61 : decode b_Otc_at 61 = .ok (.ifCond .ne 13, 3) := by decide +kernel
theorem d_Otc_at_64 : decode b_Otc_at 64 = .ok (.new 60, 3) := by decide +kernel
theorem d_Otc_at_67 : decode b_Otc_at 67 = .ok (.dup, 1) := by decide +kernel
theorem d_Otc_at_68 : decode b_Otc_at 68 = .ok (.ldc 62, 2) := by decide +kernel
theorem d_Otc_at_70 : decode b_Otc_at 70 = .ok (.invokespecial 64, 3) := by decide +kernel
theorem d_Otc_at_73 : decode b_Otc_at 73 = .ok (.athrow, 1) := by decide +kernel
theorem d_Otc_at_74 : decode b_Otc_at 74 = .ok (.aload_n 3, 1) := by decide +kernel
theorem d_Otc_at_75 : decode b_Otc_at 75 = .ok (.iload_n 2, 1) := by decide +kernel
theorem d_Otc_at_76 : decode b_Otc_at 76 = .ok (.invokevirtual 65, 3) := by decide +kernel
theorem d_Otc_at_79 : decode b_Otc_at 79 = .ok (.ireturn, 1) := by decide +kernel
theorem d_Otc_move_0 : decode b_Otc_move 0 = .ok (.aload_n 0, 1) := by decide +kernel
theorem d_Otc_move_1 : decode b_Otc_move 1 = .ok (.getfield 10, 3) := by decide +kernel
theorem d_Otc_move_4 : decode b_Otc_move 4 = .ok (.getfield 50, 3) := by decide +kernel
theorem d_Otc_move_7 : decode b_Otc_move 7 = .ok (.lload_n 1, 1) := by decide +kernel
theorem d_Otc_move_8 : decode b_Otc_move 8 = .ok (.invokevirtual 82, 3) := by decide +kernel
theorem d_Otc_move_11 : decode b_Otc_move 11 = .ok (.aload_n 0, 1) := by decide +kernel
theorem d_Otc_move_12 : decode b_Otc_move 12 = .ok (.getfield 10, 3) := by decide +kernel
theorem d_Otc_move_15 : decode b_Otc_move 15 = .ok (.getfield 53, 3) := by decide +kernel
theorem d_Otc_move_18 : decode b_Otc_move 18 = .ok (.lload_n 1, 1) := by decide +kernel
theorem d_Otc_move_19 : decode b_Otc_move 19 = .ok (.invokevirtual 82, 3) := by decide +kernel
theorem d_Otc_move_22 : decode b_Otc_move 22 = .ok (.aload_n 0, 1) := by decide +kernel
theorem d_Otc_move_23 : decode b_Otc_move 23 = .ok (.iconst 0, 1) := by decide +kernel
theorem d_Otc_move_24 : decode b_Otc_move 24 = .ok (.putfield 39, 3) := by decide +kernel
theorem d_Otc_move_27 : decode b_Otc_move 27 = .ok (.return_, 1) := by decide +kernel
theorem d_Otc_kind_0 : decode b_Otc_kind 0 = .ok (.aload_n 0, 1) := by decide +kernel
theorem d_Otc_kind_1 : decode b_Otc_kind 1 = .ok (.invokevirtual 75, 3) := by decide +kernel
theorem d_Otc_kind_4 : decode b_Otc_kind 4 = .ok (.getfield 86, 3) := by decide +kernel
theorem d_Otc_kind_7 : decode b_Otc_kind 7 = .ok (.ireturn, 1) := by decide +kernel
theorem d_Otc_tried_0 : decode b_Otc_tried 0 = .ok (.aload_n 0, 1) := by decide +kernel
theorem d_Otc_tried_1 : decode b_Otc_tried 1 = .ok (.invokevirtual 75, 3) := by decide +kernel
theorem d_Otc_tried_4 : decode b_Otc_tried 4 = .ok (.astore_n 2, 1) := by decide +kernel
theorem d_Otc_tried_5 : decode b_Otc_tried 5 = .ok (.aload_n 2, 1) := by decide +kernel
theorem d_Otc_tried_6 : decode b_Otc_tried 6 = .ok (.getfield 86, 3) := by decide +kernel
theorem d_Otc_tried_9 : decode b_Otc_tried 9 = .ok (.iconst 3, 1) := by decide +kernel
theorem d_Otc_tried_10 : decode b_Otc_tried 10 = .ok (.if_icmp .eq 13, 3) := by decide +kernel
theorem d_Otc_tried_13 : decode b_Otc_tried 13 = .ok (.new 90, 3) := by decide +kernel
theorem d_Otc_tried_16 : decode b_Otc_tried 16 = .ok (.dup, 1) := by decide +kernel
theorem d_Otc_tried_17 : decode b_Otc_tried 17 = .ok (.ldc 92, 2) := by decide +kernel
theorem d_Otc_tried_19 : decode b_Otc_tried 19 = .ok (.invokespecial 94, 3) := by decide +kernel
theorem d_Otc_tried_22 : decode b_Otc_tried 22 = .ok (.athrow, 1) := by decide +kernel
theorem d_Otc_tried_23 : decode b_Otc_tried 23 = .ok (.iload_n 1, 1) := by decide +kernel
theorem d_Otc_tried_24 : decode b_Otc_tried 24 = .ok (.ifCond .eq 18, 3) := by decide +kernel
theorem d_Otc_tried_27 : decode b_Otc_tried 27 = .ok (.iload_n 1, 1) := by decide +kernel
theorem d_Otc_tried_28 : decode b_Otc_tried 28 = .ok (.iconst 1, 1) := by decide +kernel
theorem d_Otc_tried_29 : decode b_Otc_tried 29 = .ok (.if_icmp .eq 13, 3) := by decide +kernel
theorem d_Otc_tried_32 : decode b_Otc_tried 32 = .ok (.new 43, 3) := by decide +kernel
theorem d_Otc_tried_35 : decode b_Otc_tried 35 = .ok (.dup, 1) := by decide +kernel
theorem d_Otc_tried_36 : decode b_Otc_tried 36 = .ok (.ldc 95, 2) := by decide +kernel
theorem d_Otc_tried_38 : decode b_Otc_tried 38 = .ok (.invokespecial 47, 3) := by decide +kernel
theorem d_Otc_tried_41 : decode b_Otc_tried 41 = .ok (.athrow, 1) := by decide +kernel
theorem d_Otc_tried_42 : decode b_Otc_tried 42 = .ok (.iload_n 1, 1) := by decide +kernel
theorem d_Otc_tried_43 : decode b_Otc_tried 43 = .ok (.ifCond .ne 10, 3) := by decide +kernel
theorem d_Otc_tried_46 : decode b_Otc_tried 46 = .ok (.aload_n 2, 1) := by decide +kernel
theorem d_Otc_tried_47 : decode b_Otc_tried 47 = .ok (.getfield 97, 3) := by decide +kernel
theorem d_Otc_tried_50 : decode b_Otc_tried 50 = .ok (.goto 7, 3) := by decide +kernel
theorem d_Otc_tried_53 : decode b_Otc_tried 53 = .ok (.aload_n 2, 1) := by decide +kernel
theorem d_Otc_tried_54 : decode b_Otc_tried 54 = .ok (.getfield 100, 3) := by decide +kernel
theorem d_Otc_tried_57 : decode b_Otc_tried 57 = .ok (.ireturn, 1) := by decide +kernel
theorem d_Otc_answers_0 : decode b_Otc_answers 0 = .ok (.aload_n 0, 1) := by decide +kernel
theorem d_Otc_answers_1 : decode b_Otc_answers 1 = .ok (.invokevirtual 75, 3) := by decide +kernel
theorem d_Otc_answers_4 : decode b_Otc_answers 4 = .ok (.getfield 103, 3) := by decide +kernel
theorem d_Otc_answers_7 : decode b_Otc_answers 7 = .ok (.ireturn, 1) := by decide +kernel
theorem d_Otc_degree_0 : decode b_Otc_degree 0 = .ok (.aload_n 0, 1) := by decide +kernel
theorem d_Otc_degree_1 : decode b_Otc_degree 1 = .ok (.invokevirtual 75, 3) := by decide +kernel
theorem d_Otc_degree_4 : decode b_Otc_degree 4 = .ok (.astore_n 2, 1) := by decide +kernel
theorem d_Otc_degree_5 : decode b_Otc_degree 5 = .ok (.aload_n 2, 1) := by decide +kernel
theorem d_Otc_degree_6 : decode b_Otc_degree 6 = .ok (.iload_n 1, 1) := by decide +kernel
theorem d_Otc_degree_7 : decode b_Otc_degree 7 = .ok (.invokevirtual 106, 3) := by decide +kernel
theorem d_Otc_degree_10 : decode b_Otc_degree 10 = .ok (.ifCond .ne 13, 3) := by decide +kernel
theorem d_Otc_degree_13 : decode b_Otc_degree 13 = .ok (.new 60, 3) := by decide +kernel
theorem d_Otc_degree_16 : decode b_Otc_degree 16 = .ok (.dup, 1) := by decide +kernel
theorem d_Otc_degree_17 : decode b_Otc_degree 17 = .ok (.ldc 109, 2) := by decide +kernel
theorem d_Otc_degree_19 : decode b_Otc_degree 19 = .ok (.invokespecial 64, 3) := by decide +kernel
theorem d_Otc_degree_22 : decode b_Otc_degree 22 = .ok (.athrow, 1) := by decide +kernel
theorem d_Otc_degree_23 : decode b_Otc_degree 23 = .ok (.aload_n 2, 1) := by decide +kernel
theorem d_Otc_degree_24 : decode b_Otc_degree 24 = .ok (.iload_n 1, 1) := by decide +kernel
theorem d_Otc_degree_25 : decode b_Otc_degree 25 = .ok (.invokevirtual 111, 3) := by decide +kernel
theorem d_Otc_degree_28 : decode b_Otc_degree 28 = .ok (.getfield 115, 3) := by decide +kernel
theorem d_Otc_degree_31 : decode b_Otc_degree 31 = .ok (.invokevirtual 118, 3) := by decide +kernel
theorem d_Otc_degree_34 : decode b_Otc_degree 34 = .ok (.ireturn, 1) := by decide +kernel
theorem d_Otc_polynomial_0 : decode b_Otc_polynomial 0 = .ok (.aload_n 0, 1) := by decide +kernel
theorem d_Otc_polynomial_1 : decode b_Otc_polynomial 1 = .ok (.invokevirtual 75, 3) := by decide +kernel
theorem d_Otc_polynomial_4 : decode b_Otc_polynomial 4 = .ok (.astore_n 3, 1) := by decide +kernel
theorem d_Otc_polynomial_5 : decode b_Otc_polynomial 5 = .ok (.aload_n 3, 1) := by decide +kernel
theorem d_Otc_polynomial_6 : decode b_Otc_polynomial 6 = .ok (.iload_n 1, 1) := by decide +kernel
theorem d_Otc_polynomial_7 : decode b_Otc_polynomial 7 = .ok (.invokevirtual 106, 3) := by decide +kernel
theorem d_Otc_polynomial_10 : decode b_Otc_polynomial 10 = .ok (.ifCond .eq 13, 3) := by decide +kernel
theorem d_Otc_polynomial_13 : decode b_Otc_polynomial 13 = .ok (.iload_n 2, 1) := by decide +kernel
theorem d_Otc_polynomial_14 : decode b_Otc_polynomial 14 = .ok (.ifCond .lt 9, 3) := by decide +kernel
theorem d_Otc_polynomial_17 : decode b_Otc_polynomial 17 = .ok (.iload_n 2, 1) := by decide +kernel
theorem d_Otc_polynomial_18 : decode b_Otc_polynomial 18 = .ok (.bipush 12, 2) := by decide +kernel
theorem d_Otc_polynomial_20 : decode b_Otc_polynomial 20 = .ok (.if_icmp .le 13, 3) := by decide +kernel
theorem d_Otc_polynomial_23 : decode b_Otc_polynomial 23 = .ok (.new 60, 3) := by decide +kernel
theorem d_Otc_polynomial_26 : decode b_Otc_polynomial 26 = .ok (.dup, 1) := by decide +kernel
theorem d_Otc_polynomial_27 : decode b_Otc_polynomial 27 = .ok (.ldc 122, 2) := by decide +kernel
theorem d_Otc_polynomial_29 : decode b_Otc_polynomial 29 = .ok (.invokespecial 64, 3) := by decide +kernel
theorem d_Otc_polynomial_32 : decode b_Otc_polynomial 32 = .ok (.athrow, 1) := by decide +kernel
theorem d_Otc_polynomial_33 : decode b_Otc_polynomial 33 = .ok (.aload_n 3, 1) := by decide +kernel
theorem d_Otc_polynomial_34 : decode b_Otc_polynomial 34 = .ok (.iload_n 1, 1) := by decide +kernel
theorem d_Otc_polynomial_35 : decode b_Otc_polynomial 35 = .ok (.invokevirtual 111, 3) := by decide +kernel
theorem d_Otc_polynomial_38 : decode b_Otc_polynomial 38 = .ok (.getfield 115, 3) := by decide +kernel
theorem d_Otc_polynomial_41 : decode b_Otc_polynomial 41 = .ok (.iload_n 2, 1) := by decide +kernel
theorem d_Otc_polynomial_42 : decode b_Otc_polynomial 42 = .ok (.invokevirtual 65, 3) := by decide +kernel
theorem d_Otc_polynomial_45 : decode b_Otc_polynomial 45 = .ok (.ireturn, 1) := by decide +kernel
theorem d_Otc_slope_0 : decode b_Otc_slope 0 = .ok (.aload_n 0, 1) := by decide +kernel
theorem d_Otc_slope_1 : decode b_Otc_slope 1 = .ok (.invokevirtual 75, 3) := by decide +kernel
theorem d_Otc_slope_4 : decode b_Otc_slope 4 = .ok (.astore_n 3, 1) := by decide +kernel
theorem d_Otc_slope_5 : decode b_Otc_slope 5 = .ok (.aload_n 3, 1) := by decide +kernel
theorem d_Otc_slope_6 : decode b_Otc_slope 6 = .ok (.iload_n 1, 1) := by decide +kernel
theorem d_Otc_slope_7 : decode b_Otc_slope 7 = .ok (.invokevirtual 106, 3) := by decide +kernel
theorem d_Otc_slope_10 : decode b_Otc_slope 10 = .ok (.ifCond .eq 12, 3) := by decide +kernel
theorem d_Otc_slope_13 : decode b_Otc_slope 13 = .ok (.iload_n 2, 1) := by decide +kernel
theorem d_Otc_slope_14 : decode b_Otc_slope 14 = .ok (.ifCond .lt 8, 3) := by decide +kernel
theorem d_Otc_slope_17 : decode b_Otc_slope 17 = .ok (.iload_n 2, 1) := by decide +kernel
theorem d_Otc_slope_18 : decode b_Otc_slope 18 = .ok (.iconst 2, 1) := by decide +kernel
theorem d_Otc_slope_19 : decode b_Otc_slope 19 = .ok (.if_icmp .le 13, 3) := by decide +kernel
theorem d_Otc_slope_22 : decode b_Otc_slope 22 = .ok (.new 60, 3) := by decide +kernel
theorem d_Otc_slope_25 : decode b_Otc_slope 25 = .ok (.dup, 1) := by decide +kernel
theorem d_Otc_slope_26 : decode b_Otc_slope 26 = .ok (.ldc 122, 2) := by decide +kernel
theorem d_Otc_slope_28 : decode b_Otc_slope 28 = .ok (.invokespecial 64, 3) := by decide +kernel
theorem d_Otc_slope_31 : decode b_Otc_slope 31 = .ok (.athrow, 1) := by decide +kernel
theorem d_Otc_slope_32 : decode b_Otc_slope 32 = .ok (.aload_n 3, 1) := by decide +kernel
theorem d_Otc_slope_33 : decode b_Otc_slope 33 = .ok (.iload_n 1, 1) := by decide +kernel
theorem d_Otc_slope_34 : decode b_Otc_slope 34 = .ok (.invokevirtual 111, 3) := by decide +kernel
theorem d_Otc_slope_37 : decode b_Otc_slope 37 = .ok (.getfield 124, 3) := by decide +kernel
theorem d_Otc_slope_40 : decode b_Otc_slope 40 = .ok (.iload_n 2, 1) := by decide +kernel
theorem d_Otc_slope_41 : decode b_Otc_slope 41 = .ok (.invokevirtual 65, 3) := by decide +kernel
theorem d_Otc_slope_44 : decode b_Otc_slope 44 = .ok (.ireturn, 1) := by decide +kernel
theorem d_Otc_series_0 : decode b_Otc_series 0 = .ok (.iload 5, 2) := by decide +kernel
theorem d_Otc_series_2 : decode b_Otc_series 2 = .ok (.ifCond .lt 10, 3) := by decide +kernel
theorem d_Otc_series_5 : decode b_Otc_series 5 = .ok (.iload 5, 2) := by decide +kernel
theorem d_Otc_series_7 : decode b_Otc_series 7 = .ok (.bipush 40, 2) := by decide +kernel
theorem d_Otc_series_9 : decode b_Otc_series 9 = .ok (.if_icmp .le 13, 3) := by decide +kernel
theorem d_Otc_series_12 : decode b_Otc_series 12 = .ok (.new 60, 3) := by decide +kernel
theorem d_Otc_series_15 : decode b_Otc_series 15 = .ok (.dup, 1) := by decide +kernel
theorem d_Otc_series_16 : decode b_Otc_series 16 = .ok (.ldc 62, 2) := by decide +kernel
theorem d_Otc_series_18 : decode b_Otc_series 18 = .ok (.invokespecial 64, 3) := by decide +kernel
theorem d_Otc_series_21 : decode b_Otc_series 21 = .ok (.athrow, 1) := by decide +kernel
theorem d_Otc_series_22 : decode b_Otc_series 22 = .ok (.aload_n 0, 1) := by decide +kernel
theorem d_Otc_series_23 : decode b_Otc_series 23 = .ok (.lload_n 1, 1) := by decide +kernel
theorem d_Otc_series_24 : decode b_Otc_series 24 = .ok (.lload_n 3, 1) := by decide +kernel
theorem d_Otc_series_25 : decode b_Otc_series 25 = .ok (.iload 5, 2) := by decide +kernel
theorem d_Otc_series_27 : decode b_Otc_series 27 = .ok (.invokevirtual 127, 3) := by decide +kernel
theorem d_Otc_series_30 : decode b_Otc_series 30 = .ok (.ireturn, 1) := by decide +kernel
theorem d_Otc_answer_0 : decode b_Otc_answer 0 = .ok (.aload_n 0, 1) := by decide +kernel
theorem d_Otc_answer_1 : decode b_Otc_answer 1 = .ok (.invokevirtual 75, 3) := by decide +kernel
theorem d_Otc_answer_4 : decode b_Otc_answer 4 = .ok (.astore_n 3, 1) := by decide +kernel
theorem d_Otc_answer_5 : decode b_Otc_answer 5 = .ok (.aload_n 3, 1) := by decide +kernel
theorem d_Otc_answer_6 : decode b_Otc_answer 6 = .ok (.iload_n 1, 1) := by decide +kernel
theorem d_Otc_answer_7 : decode b_Otc_answer 7 = .ok (.invokevirtual 106, 3) := by decide +kernel
theorem d_Otc_answer_10 : decode b_Otc_answer 10 = .ok (.ifCond .eq 13, 3) := by decide +kernel
theorem d_Otc_answer_13 : decode b_Otc_answer 13 = .ok (.iload_n 2, 1) := by decide +kernel
theorem d_Otc_answer_14 : decode b_Otc_answer 14 = .ok (.ifCond .lt 9, 3) := by decide +kernel
theorem d_Otc_answer_17 : decode b_Otc_answer 17 = .ok (.iload_n 2, 1) := by decide +kernel
theorem d_Otc_answer_18 : decode b_Otc_answer 18 = .ok (.bipush 40, 2) := by decide +kernel
theorem d_Otc_answer_20 : decode b_Otc_answer 20 = .ok (.if_icmp .le 13, 3) := by decide +kernel
theorem d_Otc_answer_23 : decode b_Otc_answer 23 = .ok (.new 60, 3) := by decide +kernel
theorem d_Otc_answer_26 : decode b_Otc_answer 26 = .ok (.dup, 1) := by decide +kernel
theorem d_Otc_answer_27 : decode b_Otc_answer 27 = .ok (.ldc 122, 2) := by decide +kernel
theorem d_Otc_answer_29 : decode b_Otc_answer 29 = .ok (.invokespecial 64, 3) := by decide +kernel
theorem d_Otc_answer_32 : decode b_Otc_answer 32 = .ok (.athrow, 1) := by decide +kernel
theorem d_Otc_answer_33 : decode b_Otc_answer 33 = .ok (.aload_n 3, 1) := by decide +kernel
theorem d_Otc_answer_34 : decode b_Otc_answer 34 = .ok (.iload_n 1, 1) := by decide +kernel
theorem d_Otc_answer_35 : decode b_Otc_answer 35 = .ok (.invokevirtual 111, 3) := by decide +kernel
theorem d_Otc_answer_38 : decode b_Otc_answer 38 = .ok (.astore 4, 2) := by decide +kernel
theorem d_Otc_answer_40 : decode b_Otc_answer 40 = .ok (.aload 4, 2) := by decide +kernel
theorem d_Otc_answer_42 : decode b_Otc_answer 42 = .ok (.getfield 115, 3) := by decide +kernel
theorem d_Otc_answer_45 : decode b_Otc_answer 45 = .ok (.iconst 0, 1) := by decide +kernel
theorem d_Otc_answer_46 : decode b_Otc_answer 46 = .ok (.invokevirtual 65, 3) := by decide +kernel
theorem d_Otc_answer_49 : decode b_Otc_answer 49 = .ok (.i2l, 1) := by decide +kernel
theorem d_Otc_answer_50 : decode b_Otc_answer 50 = .ok (.lstore 5, 2) := by decide +kernel
theorem d_Otc_answer_52 : decode b_Otc_answer 52 = .ok (.aload_n 0, 1) := by decide +kernel
theorem d_Otc_answer_53 : decode b_Otc_answer 53 = .ok (.lload 5, 2) := by decide +kernel
theorem d_Otc_answer_55 : decode b_Otc_answer 55 = .ok (.aload 4, 2) := by decide +kernel
theorem d_Otc_answer_57 : decode b_Otc_answer 57 = .ok (.getfield 115, 3) := by decide +kernel
theorem d_Otc_answer_60 : decode b_Otc_answer 60 = .ok (.iconst 1, 1) := by decide +kernel
theorem d_Otc_answer_61 : decode b_Otc_answer 61 = .ok (.invokevirtual 65, 3) := by decide +kernel
theorem d_Otc_answer_64 : decode b_Otc_answer 64 = .ok (.i2l, 1) := by decide +kernel
theorem d_Otc_answer_65 : decode b_Otc_answer 65 = .ok (.lload 5, 2) := by decide +kernel
theorem d_Otc_answer_67 : decode b_Otc_answer 67 = .ok (.aload 4, 2) := by decide +kernel
theorem d_Otc_answer_69 : decode b_Otc_answer 69 = .ok (.getfield 124, 3) := by decide +kernel
theorem d_Otc_answer_72 : decode b_Otc_answer 72 = .ok (.iconst 0, 1) := by decide +kernel
theorem d_Otc_answer_73 : decode b_Otc_answer 73 = .ok (.invokevirtual 65, 3) := by decide +kernel
theorem d_Otc_answer_76 : decode b_Otc_answer 76 = .ok (.i2l, 1) := by decide +kernel
theorem d_Otc_answer_77 : decode b_Otc_answer 77 = .ok (.lmul, 1) := by decide +kernel
theorem d_Otc_answer_78 : decode b_Otc_answer 78 = .ok (.ladd, 1) := by decide +kernel
theorem d_Otc_answer_79 : decode b_Otc_answer 79 = .ok (.iload_n 2, 1) := by decide +kernel
theorem d_Otc_answer_80 : decode b_Otc_answer 80 = .ok (.invokevirtual 127, 3) := by decide +kernel
theorem d_Otc_answer_83 : decode b_Otc_answer 83 = .ok (.ireturn, 1) := by decide +kernel
theorem d_Otc_proves_0 : decode b_Otc_proves 0 = .ok (.aload_n 0, 1) := by decide +kernel
theorem d_Otc_proves_1 : decode b_Otc_proves 1 = .ok (.getfield 26, 3) := by decide +kernel
theorem d_Otc_proves_4 : decode b_Otc_proves 4 = .ok (.getfield 124, 3) := by decide +kernel
theorem d_Otc_proves_7 : decode b_Otc_proves 7 = .ok (.iconst 0, 1) := by decide +kernel
theorem d_Otc_proves_8 : decode b_Otc_proves 8 = .ok (.iload_n 1, 1) := by decide +kernel
theorem d_Otc_proves_9 : decode b_Otc_proves 9 = .ok (.i2l, 1) := by decide +kernel
theorem d_Otc_proves_10 : decode b_Otc_proves 10 = .ok (.invokevirtual 69, 3) := by decide +kernel
theorem d_Otc_proves_13 : decode b_Otc_proves 13 = .ok (.aload_n 0, 1) := by decide +kernel
theorem d_Otc_proves_14 : decode b_Otc_proves 14 = .ok (.getfield 26, 3) := by decide +kernel
theorem d_Otc_proves_17 : decode b_Otc_proves 17 = .ok (.getfield 124, 3) := by decide +kernel
theorem d_Otc_proves_20 : decode b_Otc_proves 20 = .ok (.iconst 1, 1) := by decide +kernel
theorem d_Otc_proves_21 : decode b_Otc_proves 21 = .ok (.iload_n 2, 1) := by decide +kernel
theorem d_Otc_proves_22 : decode b_Otc_proves 22 = .ok (.i2l, 1) := by decide +kernel
theorem d_Otc_proves_23 : decode b_Otc_proves 23 = .ok (.invokevirtual 69, 3) := by decide +kernel
theorem d_Otc_proves_26 : decode b_Otc_proves 26 = .ok (.aload_n 0, 1) := by decide +kernel
theorem d_Otc_proves_27 : decode b_Otc_proves 27 = .ok (.getfield 26, 3) := by decide +kernel
theorem d_Otc_proves_30 : decode b_Otc_proves 30 = .ok (.getfield 124, 3) := by decide +kernel
theorem d_Otc_proves_33 : decode b_Otc_proves 33 = .ok (.iconst 2, 1) := by decide +kernel
theorem d_Otc_proves_34 : decode b_Otc_proves 34 = .ok (.iload_n 3, 1) := by decide +kernel
theorem d_Otc_proves_35 : decode b_Otc_proves 35 = .ok (.i2l, 1) := by decide +kernel
theorem d_Otc_proves_36 : decode b_Otc_proves 36 = .ok (.invokevirtual 69, 3) := by decide +kernel
theorem d_Otc_proves_39 : decode b_Otc_proves 39 = .ok (.aload_n 0, 1) := by decide +kernel
theorem d_Otc_proves_40 : decode b_Otc_proves 40 = .ok (.getfield 26, 3) := by decide +kernel
theorem d_Otc_proves_43 : decode b_Otc_proves 43 = .ok (.getfield 115, 3) := by decide +kernel
theorem d_Otc_proves_46 : decode b_Otc_proves 46 = .ok (.iconst 0, 1) := by decide +kernel
theorem d_Otc_proves_47 : decode b_Otc_proves 47 = .ok (.iload 4, 2) := by decide +kernel
theorem d_Otc_proves_49 : decode b_Otc_proves 49 = .ok (.i2l, 1) := by decide +kernel
theorem d_Otc_proves_50 : decode b_Otc_proves 50 = .ok (.invokevirtual 69, 3) := by decide +kernel
theorem d_Otc_proves_53 : decode b_Otc_proves 53 = .ok (.aload_n 0, 1) := by decide +kernel
theorem d_Otc_proves_54 : decode b_Otc_proves 54 = .ok (.getfield 26, 3) := by decide +kernel
theorem d_Otc_proves_57 : decode b_Otc_proves 57 = .ok (.getfield 115, 3) := by decide +kernel
theorem d_Otc_proves_60 : decode b_Otc_proves 60 = .ok (.iconst 1, 1) := by decide +kernel
theorem d_Otc_proves_61 : decode b_Otc_proves 61 = .ok (.iload 5, 2) := by decide +kernel
theorem d_Otc_proves_63 : decode b_Otc_proves 63 = .ok (.i2l, 1) := by decide +kernel
theorem d_Otc_proves_64 : decode b_Otc_proves 64 = .ok (.invokevirtual 69, 3) := by decide +kernel
theorem d_Otc_proves_67 : decode b_Otc_proves 67 = .ok (.aload_n 0, 1) := by decide +kernel
theorem d_Otc_proves_68 : decode b_Otc_proves 68 = .ok (.getfield 26, 3) := by decide +kernel
theorem d_Otc_proves_71 : decode b_Otc_proves 71 = .ok (.getfield 115, 3) := by decide +kernel
theorem d_Otc_proves_74 : decode b_Otc_proves 74 = .ok (.iconst 2, 1) := by decide +kernel
theorem d_Otc_proves_75 : decode b_Otc_proves 75 = .ok (.iload 6, 2) := by decide +kernel
theorem d_Otc_proves_77 : decode b_Otc_proves 77 = .ok (.i2l, 1) := by decide +kernel
theorem d_Otc_proves_78 : decode b_Otc_proves 78 = .ok (.invokevirtual 69, 3) := by decide +kernel
theorem d_Otc_proves_81 : decode b_Otc_proves 81 = .ok (.aload_n 0, 1) := by decide +kernel
theorem d_Otc_proves_82 : decode b_Otc_proves 82 = .ok (.getfield 26, 3) := by decide +kernel
theorem d_Otc_proves_85 : decode b_Otc_proves 85 = .ok (.aload_n 0, 1) := by decide +kernel
theorem d_Otc_proves_86 : decode b_Otc_proves 86 = .ok (.getfield 10, 3) := by decide +kernel
theorem d_Otc_proves_89 : decode b_Otc_proves 89 = .ok (.invokevirtual 131, 3) := by decide +kernel
theorem d_Otc_proves_92 : decode b_Otc_proves 92 = .ok (.aload_n 0, 1) := by decide +kernel
theorem d_Otc_proves_93 : decode b_Otc_proves 93 = .ok (.getfield 26, 3) := by decide +kernel
theorem d_Otc_proves_96 : decode b_Otc_proves 96 = .ok (.invokevirtual 135, 3) := by decide +kernel
theorem d_Otc_proves_99 : decode b_Otc_proves 99 = .ok (.ireturn, 1) := by decide +kernel
theorem d_Otc_clear_0 : decode b_Otc_clear 0 = .ok (.aload_n 0, 1) := by decide +kernel
theorem d_Otc_clear_1 : decode b_Otc_clear 1 = .ok (.getfield 10, 3) := by decide +kernel
theorem d_Otc_clear_4 : decode b_Otc_clear 4 = .ok (.getfield 50, 3) := by decide +kernel
theorem d_Otc_clear_7 : decode b_Otc_clear 7 = .ok (.invokevirtual 139, 3) := by decide +kernel
theorem d_Otc_clear_10 : decode b_Otc_clear 10 = .ok (.aload_n 0, 1) := by decide +kernel
theorem d_Otc_clear_11 : decode b_Otc_clear 11 = .ok (.getfield 10, 3) := by decide +kernel
theorem d_Otc_clear_14 : decode b_Otc_clear 14 = .ok (.getfield 53, 3) := by decide +kernel
theorem d_Otc_clear_17 : decode b_Otc_clear 17 = .ok (.invokevirtual 139, 3) := by decide +kernel
theorem d_Otc_clear_20 : decode b_Otc_clear 20 = .ok (.aload_n 0, 1) := by decide +kernel
theorem d_Otc_clear_21 : decode b_Otc_clear 21 = .ok (.iconst 0, 1) := by decide +kernel
theorem d_Otc_clear_22 : decode b_Otc_clear 22 = .ok (.putfield 39, 3) := by decide +kernel
theorem d_Otc_clear_25 : decode b_Otc_clear 25 = .ok (.return_, 1) := by decide +kernel
theorem d_Otc_current_0 : decode b_Otc_current 0 = .ok (.aload_n 0, 1) := by decide +kernel
theorem d_Otc_current_1 : decode b_Otc_current 1 = .ok (.getfield 39, 3) := by decide +kernel
theorem d_Otc_current_4 : decode b_Otc_current 4 = .ok (.ifCond .ne 19, 3) := by decide +kernel
theorem d_Otc_current_7 : decode b_Otc_current 7 = .ok (.aload_n 0, 1) := by decide +kernel
theorem d_Otc_current_8 : decode b_Otc_current 8 = .ok (.getfield 19, 3) := by decide +kernel
theorem d_Otc_current_11 : decode b_Otc_current 11 = .ok (.aload_n 0, 1) := by decide +kernel
theorem d_Otc_current_12 : decode b_Otc_current 12 = .ok (.getfield 10, 3) := by decide +kernel
theorem d_Otc_current_15 : decode b_Otc_current 15 = .ok (.invokevirtual 142, 3) := by decide +kernel
theorem d_Otc_current_18 : decode b_Otc_current 18 = .ok (.aload_n 0, 1) := by decide +kernel
theorem d_Otc_current_19 : decode b_Otc_current 19 = .ok (.iconst 1, 1) := by decide +kernel
theorem d_Otc_current_20 : decode b_Otc_current 20 = .ok (.putfield 39, 3) := by decide +kernel
theorem d_Otc_current_23 : decode b_Otc_current 23 = .ok (.aload_n 0, 1) := by decide +kernel
theorem d_Otc_current_24 : decode b_Otc_current 24 = .ok (.getfield 19, 3) := by decide +kernel
theorem d_Otc_current_27 : decode b_Otc_current 27 = .ok (.areturn, 1) := by decide +kernel
theorem d_Otc_expand_0 : decode b_Otc_expand 0 = .ok (.aload_n 0, 1) := by decide +kernel
theorem d_Otc_expand_1 : decode b_Otc_expand 1 = .ok (.getfield 35, 3) := by decide +kernel
theorem d_Otc_expand_4 : decode b_Otc_expand 4 = .ok (.iconst 0, 1) := by decide +kernel
theorem d_Otc_expand_5 : decode b_Otc_expand 5 = .ok (.lload_n 1, 1) := by decide +kernel
theorem d_Otc_expand_6 : decode b_Otc_expand 6 = .ok (.invokevirtual 69, 3) := by decide +kernel
theorem d_Otc_expand_9 : decode b_Otc_expand 9 = .ok (.aload_n 0, 1) := by decide +kernel
theorem d_Otc_expand_10 : decode b_Otc_expand 10 = .ok (.getfield 35, 3) := by decide +kernel
theorem d_Otc_expand_13 : decode b_Otc_expand 13 = .ok (.iconst 1, 1) := by decide +kernel
theorem d_Otc_expand_14 : decode b_Otc_expand 14 = .ok (.lload_n 3, 1) := by decide +kernel
theorem d_Otc_expand_15 : decode b_Otc_expand 15 = .ok (.invokevirtual 69, 3) := by decide +kernel
theorem d_Otc_expand_18 : decode b_Otc_expand 18 = .ok (.iconst 0, 1) := by decide +kernel
theorem d_Otc_expand_19 : decode b_Otc_expand 19 = .ok (.istore 6, 2) := by decide +kernel
theorem d_Otc_expand_21 : decode b_Otc_expand 21 = .ok (.iload 6, 2) := by decide +kernel
theorem d_Otc_expand_23 : decode b_Otc_expand 23 = .ok (.iconst 2, 1) := by decide +kernel
theorem d_Otc_expand_24 : decode b_Otc_expand 24 = .ok (.iadd, 1) := by decide +kernel
theorem d_Otc_expand_25 : decode b_Otc_expand 25 = .ok (.iload 5, 2) := by decide +kernel
theorem d_Otc_expand_27 : decode b_Otc_expand 27 = .ok (.if_icmp .gt 62, 3) := by decide +kernel
theorem d_Otc_expand_30 : decode b_Otc_expand 30 = .ok (.iload 6, 2) := by decide +kernel
theorem d_Otc_expand_32 : decode b_Otc_expand 32 = .ok (.iconst 2, 1) := by decide +kernel
theorem d_Otc_expand_33 : decode b_Otc_expand 33 = .ok (.iadd, 1) := by decide +kernel
theorem d_Otc_expand_34 : decode b_Otc_expand 34 = .ok (.bipush 40, 2) := by decide +kernel
theorem d_Otc_expand_36 : decode b_Otc_expand 36 = .ok (.if_icmp .gt 53, 3) := by decide +kernel
theorem d_Otc_expand_39 : decode b_Otc_expand 39 = .ok (.iload 6, 2) := by decide +kernel
theorem d_Otc_expand_41 : decode b_Otc_expand 41 = .ok (.iconst 2, 1) := by decide +kernel
theorem d_Otc_expand_42 : decode b_Otc_expand 42 = .ok (.iadd, 1) := by decide +kernel
theorem d_Otc_expand_43 : decode b_Otc_expand 43 = .ok (.iload 6, 2) := by decide +kernel
theorem d_Otc_expand_45 : decode b_Otc_expand 45 = .ok (.iconst 1, 1) := by decide +kernel
theorem d_Otc_expand_46 : decode b_Otc_expand 46 = .ok (.iadd, 1) := by decide +kernel
theorem d_Otc_expand_47 : decode b_Otc_expand 47 = .ok (.imul, 1) := by decide +kernel
theorem d_Otc_expand_48 : decode b_Otc_expand 48 = .ok (.istore 7, 2) := by decide +kernel
theorem d_Otc_expand_50 : decode b_Otc_expand 50 = .ok (.aload_n 0, 1) := by decide +kernel
theorem d_Otc_expand_51 : decode b_Otc_expand 51 = .ok (.getfield 35, 3) := by decide +kernel
theorem d_Otc_expand_54 : decode b_Otc_expand 54 = .ok (.iload 6, 2) := by decide +kernel
theorem d_Otc_expand_56 : decode b_Otc_expand 56 = .ok (.iconst 2, 1) := by decide +kernel
theorem d_Otc_expand_57 : decode b_Otc_expand 57 = .ok (.iadd, 1) := by decide +kernel
theorem d_Otc_expand_58 : decode b_Otc_expand 58 = .ok (.aload_n 0, 1) := by decide +kernel
theorem d_Otc_expand_59 : decode b_Otc_expand 59 = .ok (.getfield 10, 3) := by decide +kernel
theorem d_Otc_expand_62 : decode b_Otc_expand 62 = .ok (.aload_n 0, 1) := by decide +kernel
theorem d_Otc_expand_63 : decode b_Otc_expand 63 = .ok (.getfield 35, 3) := by decide +kernel
theorem d_Otc_expand_66 : decode b_Otc_expand 66 = .ok (.iload 6, 2) := by decide +kernel
theorem d_Otc_expand_68 : decode b_Otc_expand 68 = .ok (.invokevirtual 145, 3) := by decide +kernel
theorem d_Otc_expand_71 : decode b_Otc_expand 71 = .ok (.i2l, 1) := by decide +kernel
theorem d_Otc_expand_72 : decode b_Otc_expand 72 = .ok (.lneg, 1) := by decide +kernel
theorem d_Otc_expand_73 : decode b_Otc_expand 73 = .ok (.iload 7, 2) := by decide +kernel
theorem d_Otc_expand_75 : decode b_Otc_expand 75 = .ok (.invokestatic 149, 3) := by decide +kernel
theorem d_Otc_expand_78 : decode b_Otc_expand 78 = .ok (.i2l, 1) := by decide +kernel
theorem d_Otc_expand_79 : decode b_Otc_expand 79 = .ok (.lmul, 1) := by decide +kernel
theorem d_Otc_expand_80 : decode b_Otc_expand 80 = .ok (.invokevirtual 69, 3) := by decide +kernel
theorem d_Otc_expand_83 : decode b_Otc_expand 83 = .ok (.iinc 6 1, 3) := by decide +kernel
theorem d_Otc_expand_86 : decode b_Otc_expand 86 = .ok (.goto (-65), 3) := by decide +kernel
theorem d_Otc_expand_89 : decode b_Otc_expand 89 = .ok (.aload_n 0, 1) := by decide +kernel
theorem d_Otc_expand_90 : decode b_Otc_expand 90 = .ok (.getfield 35, 3) := by decide +kernel
theorem d_Otc_expand_93 : decode b_Otc_expand 93 = .ok (.iload 5, 2) := by decide +kernel
theorem d_Otc_expand_95 : decode b_Otc_expand 95 = .ok (.invokevirtual 65, 3) := by decide +kernel
theorem d_Otc_expand_98 : decode b_Otc_expand 98 = .ok (.ireturn, 1) := by decide +kernel
theorem d_Stu_init_0 : decode b_Stu_init 0 = .ok (.aload_n 0, 1) := by decide +kernel
theorem d_Stu_init_1 : decode b_Stu_init 1 = .ok (.invokespecial 3, 3) := by decide +kernel
theorem d_Stu_init_4 : decode b_Stu_init 4 = .ok (.aload_n 0, 1) := by decide +kernel
theorem d_Stu_init_5 : decode b_Stu_init 5 = .ok (.new 9, 3) := by decide +kernel
theorem d_Stu_init_8 : decode b_Stu_init 8 = .ok (.dup, 1) := by decide +kernel
theorem d_Stu_init_9 : decode b_Stu_init 9 = .ok (.iconst 4, 1) := by decide +kernel
theorem d_Stu_init_10 : decode b_Stu_init 10 = .ok (.invokespecial 11, 3) := by decide +kernel
theorem d_Stu_init_13 : decode b_Stu_init 13 = .ok (.putfield 14, 3) := by decide +kernel
theorem d_Stu_init_16 : decode b_Stu_init 16 = .ok (.aload_n 0, 1) := by decide +kernel
theorem d_Stu_init_17 : decode b_Stu_init 17 = .ok (.iconst 0, 1) := by decide +kernel
theorem d_Stu_init_18 : decode b_Stu_init 18 = .ok (.putfield 20, 3) := by decide +kernel
theorem d_Stu_init_21 : decode b_Stu_init 21 = .ok (.aload_n 0, 1) := by decide +kernel
theorem d_Stu_init_22 : decode b_Stu_init 22 = .ok (.iconst 0, 1) := by decide +kernel
theorem d_Stu_init_23 : decode b_Stu_init 23 = .ok (.putfield 24, 3) := by decide +kernel
theorem d_Stu_init_26 : decode b_Stu_init 26 = .ok (.aload_n 0, 1) := by decide +kernel
theorem d_Stu_init_27 : decode b_Stu_init 27 = .ok (.iconst 0, 1) := by decide +kernel
theorem d_Stu_init_28 : decode b_Stu_init 28 = .ok (.putfield 27, 3) := by decide +kernel
theorem d_Stu_init_31 : decode b_Stu_init 31 = .ok (.aload_n 0, 1) := by decide +kernel
theorem d_Stu_init_32 : decode b_Stu_init 32 = .ok (.iconst 0, 1) := by decide +kernel
theorem d_Stu_init_33 : decode b_Stu_init 33 = .ok (.putfield 30, 3) := by decide +kernel
theorem d_Stu_init_36 : decode b_Stu_init 36 = .ok (.aload_n 0, 1) := by decide +kernel
theorem d_Stu_init_37 : decode b_Stu_init 37 = .ok (.new 9, 3) := by decide +kernel
theorem d_Stu_init_40 : decode b_Stu_init 40 = .ok (.dup, 1) := by decide +kernel
theorem d_Stu_init_41 : decode b_Stu_init 41 = .ok (.iconst 2, 1) := by decide +kernel
theorem d_Stu_init_42 : decode b_Stu_init 42 = .ok (.invokespecial 11, 3) := by decide +kernel
theorem d_Stu_init_45 : decode b_Stu_init 45 = .ok (.putfield 33, 3) := by decide +kernel
theorem d_Stu_init_48 : decode b_Stu_init 48 = .ok (.aload_n 0, 1) := by decide +kernel
theorem d_Stu_init_49 : decode b_Stu_init 49 = .ok (.new 36, 3) := by decide +kernel
theorem d_Stu_init_52 : decode b_Stu_init 52 = .ok (.dup, 1) := by decide +kernel
theorem d_Stu_init_53 : decode b_Stu_init 53 = .ok (.invokespecial 38, 3) := by decide +kernel
theorem d_Stu_init_56 : decode b_Stu_init 56 = .ok (.putfield 39, 3) := by decide +kernel
theorem d_Stu_init_59 : decode b_Stu_init 59 = .ok (.aload_n 0, 1) := by decide +kernel
theorem d_Stu_init_60 : decode b_Stu_init 60 = .ok (.new 36, 3) := by decide +kernel
theorem d_Stu_init_63 : decode b_Stu_init 63 = .ok (.dup, 1) := by decide +kernel
theorem d_Stu_init_64 : decode b_Stu_init 64 = .ok (.invokespecial 38, 3) := by decide +kernel
theorem d_Stu_init_67 : decode b_Stu_init 67 = .ok (.putfield 43, 3) := by decide +kernel
theorem d_Stu_init_70 : decode b_Stu_init 70 = .ok (.return_, 1) := by decide +kernel
theorem d_Stu_hasPair_0 : decode b_Stu_hasPair 0 = .ok (.iload_n 1, 1) := by decide +kernel
theorem d_Stu_hasPair_1 : decode b_Stu_hasPair 1 = .ok (.ifCond .lt 15, 3) := by decide +kernel
theorem d_Stu_hasPair_4 : decode b_Stu_hasPair 4 = .ok (.iload_n 1, 1) := by decide +kernel
theorem d_Stu_hasPair_5 : decode b_Stu_hasPair 5 = .ok (.aload_n 0, 1) := by decide +kernel
theorem d_Stu_hasPair_6 : decode b_Stu_hasPair 6 = .ok (.getfield 30, 3) := by decide +kernel
theorem d_Stu_hasPair_9 : decode b_Stu_hasPair 9 = .ok (.if_icmp .ge 7, 3) := by decide +kernel
theorem d_Stu_hasPair_12 : decode b_Stu_hasPair 12 = .ok (.iconst 1, 1) := by decide +kernel
theorem d_Stu_hasPair_13 : decode b_Stu_hasPair 13 = .ok (.goto 4, 3) := by decide +kernel
theorem d_Stu_hasPair_16 : decode b_Stu_hasPair 16 = .ok (.iconst 0, 1) := by decide +kernel
theorem d_Stu_hasPair_17 : decode b_Stu_hasPair 17 = .ok (.ireturn, 1) := by decide +kernel
theorem d_Stu_pair_0 : decode b_Stu_pair 0 = .ok (.iload_n 1, 1) := by decide +kernel
theorem d_Stu_pair_1 : decode b_Stu_pair 1 = .ok (.ifCond .ne 10, 3) := by decide +kernel
theorem d_Stu_pair_4 : decode b_Stu_pair 4 = .ok (.aload_n 0, 1) := by decide +kernel
theorem d_Stu_pair_5 : decode b_Stu_pair 5 = .ok (.getfield 39, 3) := by decide +kernel
theorem d_Stu_pair_8 : decode b_Stu_pair 8 = .ok (.goto 7, 3) := by decide +kernel
theorem d_Stu_pair_11 : decode b_Stu_pair 11 = .ok (.aload_n 0, 1) := by decide +kernel
theorem d_Stu_pair_12 : decode b_Stu_pair 12 = .ok (.getfield 43, 3) := by decide +kernel
theorem d_Stu_pair_15 : decode b_Stu_pair 15 = .ok (.areturn, 1) := by decide +kernel
theorem d_Stu_begin_0 : decode b_Stu_begin 0 = .ok (.aload_n 0, 1) := by decide +kernel
theorem d_Stu_begin_1 : decode b_Stu_begin 1 = .ok (.aload_n 1, 1) := by decide +kernel
theorem d_Stu_begin_2 : decode b_Stu_begin 2 = .ok (.invokevirtual 46, 3) := by decide +kernel
theorem d_Stu_begin_5 : decode b_Stu_begin 5 = .ok (.aload_n 0, 1) := by decide +kernel
theorem d_Stu_begin_6 : decode b_Stu_begin 6 = .ok (.iconst 0, 1) := by decide +kernel
theorem d_Stu_begin_7 : decode b_Stu_begin 7 = .ok (.putfield 30, 3) := by decide +kernel
theorem d_Stu_begin_10 : decode b_Stu_begin 10 = .ok (.aload_n 0, 1) := by decide +kernel
theorem d_Stu_begin_11 : decode b_Stu_begin 11 = .ok (.getfield 14, 3) := by decide +kernel
theorem d_Stu_begin_14 : decode b_Stu_begin 14 = .ok (.invokevirtual 50, 3) := by decide +kernel
theorem d_Stu_begin_17 : decode b_Stu_begin 17 = .ok (.istore_n 2, 1) := by decide +kernel
theorem d_Stu_begin_18 : decode b_Stu_begin 18 = .ok (.aload_n 0, 1) := by decide +kernel
theorem d_Stu_begin_19 : decode b_Stu_begin 19 = .ok (.getfield 14, 3) := by decide +kernel
theorem d_Stu_begin_22 : decode b_Stu_begin 22 = .ok (.iload_n 2, 1) := by decide +kernel
theorem d_Stu_begin_23 : decode b_Stu_begin 23 = .ok (.invokevirtual 54, 3) := by decide +kernel
theorem d_Stu_begin_26 : decode b_Stu_begin 26 = .ok (.invokestatic 58, 3) := by decide +kernel
theorem d_Stu_begin_29 : decode b_Stu_begin 29 = .ok (.istore_n 3, 1) := by decide +kernel
theorem d_Stu_begin_30 : decode b_Stu_begin 30 = .ok (.aload_n 0, 1) := by decide +kernel
theorem d_Stu_begin_31 : decode b_Stu_begin 31 = .ok (.iload_n 2, 1) := by decide +kernel
theorem d_Stu_begin_32 : decode b_Stu_begin 32 = .ok (.ifCond .ge 7, 3) := by decide +kernel
theorem d_Stu_begin_35 : decode b_Stu_begin 35 = .ok (.iconst 0, 1) := by decide +kernel
theorem d_Stu_begin_36 : decode b_Stu_begin 36 = .ok (.goto 22, 3) := by decide +kernel
theorem d_Stu_begin_39 : decode b_Stu_begin 39 = .ok (.iload_n 2, 1) := by decide +kernel
theorem d_Stu_begin_40 : decode b_Stu_begin 40 = .ok (.iconst 2, 1) := by decide +kernel
theorem d_Stu_begin_41 : decode b_Stu_begin 41 = .ok (.irem, 1) := by decide +kernel
theorem d_Stu_begin_42 : decode b_Stu_begin 42 = .ok (.ifCond .eq 7, 3) := by decide +kernel
theorem d_Stu_begin_45 : decode b_Stu_begin 45 = .ok (.iconst 1, 1) := by decide +kernel
theorem d_Stu_begin_46 : decode b_Stu_begin 46 = .ok (.goto 12, 3) := by decide +kernel
theorem d_Stu_begin_49 : decode b_Stu_begin 49 = .ok (.iload_n 3, 1) := by decide +kernel
theorem d_Stu_begin_50 : decode b_Stu_begin 50 = .ok (.ifCond .ge 7, 3) := by decide +kernel
theorem d_Stu_begin_53 : decode b_Stu_begin 53 = .ok (.iconst 2, 1) := by decide +kernel
theorem d_Stu_begin_54 : decode b_Stu_begin 54 = .ok (.goto 4, 3) := by decide +kernel
theorem d_Stu_begin_57 : decode b_Stu_begin 57 = .ok (.iconst 3, 1) := by decide +kernel
theorem d_Stu_begin_58 : decode b_Stu_begin 58 = .ok (.putfield 20, 3) := by decide +kernel
theorem d_Stu_begin_61 : decode b_Stu_begin 61 = .ok (.aload_n 0, 1) := by decide +kernel
theorem d_Stu_begin_62 : decode b_Stu_begin 62 = .ok (.getfield 20, 3) := by decide +kernel
theorem d_Stu_begin_65 : decode b_Stu_begin 65 = .ok (.ifCond .ne 11, 3) := by decide +kernel
theorem d_Stu_begin_68 : decode b_Stu_begin 68 = .ok (.aload_n 0, 1) := by decide +kernel
theorem d_Stu_begin_69 : decode b_Stu_begin 69 = .ok (.aload_n 1, 1) := by decide +kernel
theorem d_Stu_begin_70 : decode b_Stu_begin 70 = .ok (.invokevirtual 63, 3) := by decide +kernel
theorem d_Stu_begin_73 : decode b_Stu_begin 73 = .ok (.goto 41, 3) := by decide +kernel
theorem d_Stu_begin_76 : decode b_Stu_begin 76 = .ok (.aload_n 0, 1) := by decide +kernel
theorem d_Stu_begin_77 : decode b_Stu_begin 77 = .ok (.getfield 20, 3) := by decide +kernel
theorem d_Stu_begin_80 : decode b_Stu_begin 80 = .ok (.iconst 3, 1) := by decide +kernel
theorem d_Stu_begin_81 : decode b_Stu_begin 81 = .ok (.if_icmp .ne 33, 3) := by decide +kernel
theorem d_Stu_begin_84 : decode b_Stu_begin 84 = .ok (.aload_n 0, 1) := by decide +kernel
theorem d_Stu_begin_85 : decode b_Stu_begin 85 = .ok (.aload_n 0, 1) := by decide +kernel
theorem d_Stu_begin_86 : decode b_Stu_begin 86 = .ok (.aload_n 1, 1) := by decide +kernel
theorem d_Stu_begin_87 : decode b_Stu_begin 87 = .ok (.iload_n 3, 1) := by decide +kernel
theorem d_Stu_begin_88 : decode b_Stu_begin 88 = .ok (.iload_n 2, 1) := by decide +kernel
theorem d_Stu_begin_89 : decode b_Stu_begin 89 = .ok (.iconst 2, 1) := by decide +kernel
theorem d_Stu_begin_90 : decode b_Stu_begin 90 = .ok (.idiv, 1) := by decide +kernel
theorem d_Stu_begin_91 : decode b_Stu_begin 91 = .ok (.invokevirtual 66, 3) := by decide +kernel
theorem d_Stu_begin_94 : decode b_Stu_begin 94 = .ok (.putfield 24, 3) := by decide +kernel
theorem d_Stu_begin_97 : decode b_Stu_begin 97 = .ok (.aload_n 0, 1) := by decide +kernel
theorem d_Stu_begin_98 : decode b_Stu_begin 98 = .ok (.aload_n 0, 1) := by decide +kernel
theorem d_Stu_begin_99 : decode b_Stu_begin 99 = .ok (.aload_n 1, 1) := by decide +kernel
theorem d_Stu_begin_100 : decode b_Stu_begin 100 = .ok (.sipush 32003, 3) := by decide +kernel
theorem d_Stu_begin_103 : decode b_Stu_begin 103 = .ok (.iload_n 3, 1) := by decide +kernel
theorem d_Stu_begin_104 : decode b_Stu_begin 104 = .ok (.isub, 1) := by decide +kernel
theorem d_Stu_begin_105 : decode b_Stu_begin 105 = .ok (.iload_n 2, 1) := by decide +kernel
theorem d_Stu_begin_106 : decode b_Stu_begin 106 = .ok (.iconst 2, 1) := by decide +kernel
theorem d_Stu_begin_107 : decode b_Stu_begin 107 = .ok (.idiv, 1) := by decide +kernel
theorem d_Stu_begin_108 : decode b_Stu_begin 108 = .ok (.invokevirtual 66, 3) := by decide +kernel
theorem d_Stu_begin_111 : decode b_Stu_begin 111 = .ok (.putfield 27, 3) := by decide +kernel
theorem d_Stu_begin_114 : decode b_Stu_begin 114 = .ok (.return_, 1) := by decide +kernel
theorem d_Stu_fillRest_0 : decode b_Stu_fillRest 0 = .ok (.aload_n 1, 1) := by decide +kernel
theorem d_Stu_fillRest_1 : decode b_Stu_fillRest 1 = .ok (.getfield 70, 3) := by decide +kernel
theorem d_Stu_fillRest_4 : decode b_Stu_fillRest 4 = .ok (.astore_n 2, 1) := by decide +kernel
theorem d_Stu_fillRest_5 : decode b_Stu_fillRest 5 = .ok (.iconst 0, 1) := by decide +kernel
theorem d_Stu_fillRest_6 : decode b_Stu_fillRest 6 = .ok (.istore_n 3, 1) := by decide +kernel
theorem d_Stu_fillRest_7 : decode b_Stu_fillRest 7 = .ok (.iload_n 3, 1) := by decide +kernel
theorem d_Stu_fillRest_8 : decode b_Stu_fillRest 8 = .ok (.iconst 4, 1) := by decide +kernel
theorem d_Stu_fillRest_9 : decode b_Stu_fillRest 9 = .ok (.if_icmp .gt 52, 3) := by decide +kernel
theorem d_Stu_fillRest_12 : decode b_Stu_fillRest 12 = .ok (.ldc2_w 75, 3) := by decide +kernel
theorem d_Stu_fillRest_15 : decode b_Stu_fillRest 15 = .ok (.aload_n 2, 1) := by decide +kernel
theorem d_Stu_fillRest_16 : decode b_Stu_fillRest 16 = .ok (.aload_n 2, 1) := by decide +kernel
theorem d_Stu_fillRest_17 : decode b_Stu_fillRest 17 = .ok (.iload_n 3, 1) := by decide +kernel
theorem d_Stu_fillRest_18 : decode b_Stu_fillRest 18 = .ok (.invokevirtual 77, 3) := by decide +kernel
theorem d_Stu_fillRest_21 : decode b_Stu_fillRest 21 = .ok (.i2l, 1) := by decide +kernel
theorem d_Stu_fillRest_22 : decode b_Stu_fillRest 22 = .ok (.lmul, 1) := by decide +kernel
theorem d_Stu_fillRest_23 : decode b_Stu_fillRest 23 = .ok (.ldc2_w 81, 3) := by decide +kernel
theorem d_Stu_fillRest_26 : decode b_Stu_fillRest 26 = .ok (.aload_n 2, 1) := by decide +kernel
theorem d_Stu_fillRest_27 : decode b_Stu_fillRest 27 = .ok (.iload_n 3, 1) := by decide +kernel
theorem d_Stu_fillRest_28 : decode b_Stu_fillRest 28 = .ok (.invokevirtual 83, 3) := by decide +kernel
theorem d_Stu_fillRest_31 : decode b_Stu_fillRest 31 = .ok (.lmul, 1) := by decide +kernel
theorem d_Stu_fillRest_32 : decode b_Stu_fillRest 32 = .ok (.ladd, 1) := by decide +kernel
theorem d_Stu_fillRest_33 : decode b_Stu_fillRest 33 = .ok (.lstore 4, 2) := by decide +kernel
theorem d_Stu_fillRest_35 : decode b_Stu_fillRest 35 = .ok (.aload_n 0, 1) := by decide +kernel
theorem d_Stu_fillRest_36 : decode b_Stu_fillRest 36 = .ok (.getfield 14, 3) := by decide +kernel
theorem d_Stu_fillRest_39 : decode b_Stu_fillRest 39 = .ok (.iload_n 3, 1) := by decide +kernel
theorem d_Stu_fillRest_40 : decode b_Stu_fillRest 40 = .ok (.lload 4, 2) := by decide +kernel
theorem d_Stu_fillRest_42 : decode b_Stu_fillRest 42 = .ok (.aload_n 1, 1) := by decide +kernel
theorem d_Stu_fillRest_43 : decode b_Stu_fillRest 43 = .ok (.getfield 87, 3) := by decide +kernel
theorem d_Stu_fillRest_46 : decode b_Stu_fillRest 46 = .ok (.iload_n 3, 1) := by decide +kernel
theorem d_Stu_fillRest_47 : decode b_Stu_fillRest 47 = .ok (.invokevirtual 54, 3) := by decide +kernel
theorem d_Stu_fillRest_50 : decode b_Stu_fillRest 50 = .ok (.i2l, 1) := by decide +kernel
theorem d_Stu_fillRest_51 : decode b_Stu_fillRest 51 = .ok (.lsub, 1) := by decide +kernel
theorem d_Stu_fillRest_52 : decode b_Stu_fillRest 52 = .ok (.invokevirtual 90, 3) := by decide +kernel
theorem d_Stu_fillRest_55 : decode b_Stu_fillRest 55 = .ok (.iinc 3 1, 3) := by decide +kernel
theorem d_Stu_fillRest_58 : decode b_Stu_fillRest 58 = .ok (.goto (-51), 3) := by decide +kernel
theorem d_Stu_fillRest_61 : decode b_Stu_fillRest 61 = .ok (.return_, 1) := by decide +kernel
theorem d_Stu_takeBothPlain_0 : decode b_Stu_takeBothPlain 0 = .ok (.aload_n 0, 1) := by decide +kernel
theorem d_Stu_takeBothPlain_1 : decode b_Stu_takeBothPlain 1 = .ok (.getfield 33, 3) := by decide +kernel
theorem d_Stu_takeBothPlain_4 : decode b_Stu_takeBothPlain 4 = .ok (.invokevirtual 94, 3) := by decide +kernel
theorem d_Stu_takeBothPlain_7 : decode b_Stu_takeBothPlain 7 = .ok (.iconst 0, 1) := by decide +kernel
theorem d_Stu_takeBothPlain_8 : decode b_Stu_takeBothPlain 8 = .ok (.istore_n 2, 1) := by decide +kernel
theorem d_Stu_takeBothPlain_9 : decode b_Stu_takeBothPlain 9 = .ok (.iload_n 2, 1) := by decide +kernel
theorem d_Stu_takeBothPlain_10 : decode b_Stu_takeBothPlain 10 = .ok (.iconst 2, 1) := by decide +kernel
theorem d_Stu_takeBothPlain_11 : decode b_Stu_takeBothPlain 11 = .ok (.if_icmp .ge 29, 3) := by decide +kernel
theorem d_Stu_takeBothPlain_14 : decode b_Stu_takeBothPlain 14 = .ok (.aload_n 0, 1) := by decide +kernel
theorem d_Stu_takeBothPlain_15 : decode b_Stu_takeBothPlain 15 = .ok (.iload_n 2, 1) := by decide +kernel
theorem d_Stu_takeBothPlain_16 : decode b_Stu_takeBothPlain 16 = .ok (.invokevirtual 97, 3) := by decide +kernel
theorem d_Stu_takeBothPlain_19 : decode b_Stu_takeBothPlain 19 = .ok (.astore_n 3, 1) := by decide +kernel
theorem d_Stu_takeBothPlain_20 : decode b_Stu_takeBothPlain 20 = .ok (.aload_n 3, 1) := by decide +kernel
theorem d_Stu_takeBothPlain_21 : decode b_Stu_takeBothPlain 21 = .ok (.aload_n 0, 1) := by decide +kernel
theorem d_Stu_takeBothPlain_22 : decode b_Stu_takeBothPlain 22 = .ok (.getfield 33, 3) := by decide +kernel
theorem d_Stu_takeBothPlain_25 : decode b_Stu_takeBothPlain 25 = .ok (.aload_n 1, 1) := by decide +kernel
theorem d_Stu_takeBothPlain_26 : decode b_Stu_takeBothPlain 26 = .ok (.invokevirtual 101, 3) := by decide +kernel
theorem d_Stu_takeBothPlain_29 : decode b_Stu_takeBothPlain 29 = .ok (.aload_n 3, 1) := by decide +kernel
theorem d_Stu_takeBothPlain_30 : decode b_Stu_takeBothPlain 30 = .ok (.iload_n 2, 1) := by decide +kernel
theorem d_Stu_takeBothPlain_31 : decode b_Stu_takeBothPlain 31 = .ok (.invokevirtual 105, 3) := by decide +kernel
theorem d_Stu_takeBothPlain_34 : decode b_Stu_takeBothPlain 34 = .ok (.iinc 2 1, 3) := by decide +kernel
theorem d_Stu_takeBothPlain_37 : decode b_Stu_takeBothPlain 37 = .ok (.goto (-28), 3) := by decide +kernel
theorem d_Stu_takeBothPlain_40 : decode b_Stu_takeBothPlain 40 = .ok (.aload_n 0, 1) := by decide +kernel
theorem d_Stu_takeBothPlain_41 : decode b_Stu_takeBothPlain 41 = .ok (.iconst 2, 1) := by decide +kernel
theorem d_Stu_takeBothPlain_42 : decode b_Stu_takeBothPlain 42 = .ok (.putfield 30, 3) := by decide +kernel
theorem d_Stu_takeBothPlain_45 : decode b_Stu_takeBothPlain 45 = .ok (.return_, 1) := by decide +kernel
theorem d_Stu_tryRoot_0 : decode b_Stu_tryRoot 0 = .ok (.aload_n 0, 1) := by decide +kernel
theorem d_Stu_tryRoot_1 : decode b_Stu_tryRoot 1 = .ok (.iload_n 2, 1) := by decide +kernel
theorem d_Stu_tryRoot_2 : decode b_Stu_tryRoot 2 = .ok (.iload_n 3, 1) := by decide +kernel
theorem d_Stu_tryRoot_3 : decode b_Stu_tryRoot 3 = .ok (.invokevirtual 108, 3) := by decide +kernel
theorem d_Stu_tryRoot_6 : decode b_Stu_tryRoot 6 = .ok (.aload_n 0, 1) := by decide +kernel
theorem d_Stu_tryRoot_7 : decode b_Stu_tryRoot 7 = .ok (.getfield 14, 3) := by decide +kernel
theorem d_Stu_tryRoot_10 : decode b_Stu_tryRoot 10 = .ok (.iload_n 3, 1) := by decide +kernel
theorem d_Stu_tryRoot_11 : decode b_Stu_tryRoot 11 = .ok (.iconst 1, 1) := by decide +kernel
theorem d_Stu_tryRoot_12 : decode b_Stu_tryRoot 12 = .ok (.isub, 1) := by decide +kernel
theorem d_Stu_tryRoot_13 : decode b_Stu_tryRoot 13 = .ok (.invokevirtual 54, 3) := by decide +kernel
theorem d_Stu_tryRoot_16 : decode b_Stu_tryRoot 16 = .ok (.aload_n 0, 1) := by decide +kernel
theorem d_Stu_tryRoot_17 : decode b_Stu_tryRoot 17 = .ok (.getfield 33, 3) := by decide +kernel
theorem d_Stu_tryRoot_20 : decode b_Stu_tryRoot 20 = .ok (.aload_n 0, 1) := by decide +kernel
theorem d_Stu_tryRoot_21 : decode b_Stu_tryRoot 21 = .ok (.getfield 33, 3) := by decide +kernel
theorem d_Stu_tryRoot_24 : decode b_Stu_tryRoot 24 = .ok (.iload_n 3, 1) := by decide +kernel
theorem d_Stu_tryRoot_25 : decode b_Stu_tryRoot 25 = .ok (.iconst 1, 1) := by decide +kernel
theorem d_Stu_tryRoot_26 : decode b_Stu_tryRoot 26 = .ok (.isub, 1) := by decide +kernel
theorem d_Stu_tryRoot_27 : decode b_Stu_tryRoot 27 = .ok (.invokevirtual 77, 3) := by decide +kernel
theorem d_Stu_tryRoot_30 : decode b_Stu_tryRoot 30 = .ok (.isub, 1) := by decide +kernel
theorem d_Stu_tryRoot_31 : decode b_Stu_tryRoot 31 = .ok (.i2l, 1) := by decide +kernel
theorem d_Stu_tryRoot_32 : decode b_Stu_tryRoot 32 = .ok (.lstore 4, 2) := by decide +kernel
theorem d_Stu_tryRoot_34 : decode b_Stu_tryRoot 34 = .ok (.lload 4, 2) := by decide +kernel
theorem d_Stu_tryRoot_36 : decode b_Stu_tryRoot 36 = .ok (.invokestatic 112, 3) := by decide +kernel
theorem d_Stu_tryRoot_39 : decode b_Stu_tryRoot 39 = .ok (.i2l, 1) := by decide +kernel
theorem d_Stu_tryRoot_40 : decode b_Stu_tryRoot 40 = .ok (.iload_n 2, 1) := by decide +kernel
theorem d_Stu_tryRoot_41 : decode b_Stu_tryRoot 41 = .ok (.invokestatic 116, 3) := by decide +kernel
theorem d_Stu_tryRoot_44 : decode b_Stu_tryRoot 44 = .ok (.i2l, 1) := by decide +kernel
theorem d_Stu_tryRoot_45 : decode b_Stu_tryRoot 45 = .ok (.lmul, 1) := by decide +kernel
theorem d_Stu_tryRoot_46 : decode b_Stu_tryRoot 46 = .ok (.iload_n 3, 1) := by decide +kernel
theorem d_Stu_tryRoot_47 : decode b_Stu_tryRoot 47 = .ok (.i2l, 1) := by decide +kernel
theorem d_Stu_tryRoot_48 : decode b_Stu_tryRoot 48 = .ok (.lsub, 1) := by decide +kernel
theorem d_Stu_tryRoot_49 : decode b_Stu_tryRoot 49 = .ok (.ldc2_w 81, 3) := by decide +kernel
theorem d_Stu_tryRoot_52 : decode b_Stu_tryRoot 52 = .ok (.lmul, 1) := by decide +kernel
theorem d_Stu_tryRoot_53 : decode b_Stu_tryRoot 53 = .ok (.invokestatic 112, 3) := by decide +kernel
theorem d_Stu_tryRoot_56 : decode b_Stu_tryRoot 56 = .ok (.istore 6, 2) := by decide +kernel
theorem d_Stu_tryRoot_58 : decode b_Stu_tryRoot 58 = .ok (.iload 6, 2) := by decide +kernel
theorem d_Stu_tryRoot_60 : decode b_Stu_tryRoot 60 = .ok (.bipush 12, 2) := by decide +kernel
theorem d_Stu_tryRoot_62 : decode b_Stu_tryRoot 62 = .ok (.if_icmp .gt 60, 3) := by decide +kernel
theorem d_Stu_tryRoot_65 : decode b_Stu_tryRoot 65 = .ok (.aload_n 0, 1) := by decide +kernel
theorem d_Stu_tryRoot_66 : decode b_Stu_tryRoot 66 = .ok (.aload_n 0, 1) := by decide +kernel
theorem d_Stu_tryRoot_67 : decode b_Stu_tryRoot 67 = .ok (.getfield 30, 3) := by decide +kernel
theorem d_Stu_tryRoot_70 : decode b_Stu_tryRoot 70 = .ok (.invokevirtual 97, 3) := by decide +kernel
theorem d_Stu_tryRoot_73 : decode b_Stu_tryRoot 73 = .ok (.astore 7, 2) := by decide +kernel
theorem d_Stu_tryRoot_75 : decode b_Stu_tryRoot 75 = .ok (.aload 7, 2) := by decide +kernel
theorem d_Stu_tryRoot_77 : decode b_Stu_tryRoot 77 = .ok (.aload_n 0, 1) := by decide +kernel
theorem d_Stu_tryRoot_78 : decode b_Stu_tryRoot 78 = .ok (.getfield 33, 3) := by decide +kernel
theorem d_Stu_tryRoot_81 : decode b_Stu_tryRoot 81 = .ok (.aload_n 1, 1) := by decide +kernel
theorem d_Stu_tryRoot_82 : decode b_Stu_tryRoot 82 = .ok (.invokevirtual 101, 3) := by decide +kernel
theorem d_Stu_tryRoot_85 : decode b_Stu_tryRoot 85 = .ok (.aload 7, 2) := by decide +kernel
theorem d_Stu_tryRoot_87 : decode b_Stu_tryRoot 87 = .ok (.aload_n 1, 1) := by decide +kernel
theorem d_Stu_tryRoot_88 : decode b_Stu_tryRoot 88 = .ok (.invokevirtual 119, 3) := by decide +kernel
theorem d_Stu_tryRoot_91 : decode b_Stu_tryRoot 91 = .ok (.aload 7, 2) := by decide +kernel
theorem d_Stu_tryRoot_93 : decode b_Stu_tryRoot 93 = .ok (.iload 6, 2) := by decide +kernel
theorem d_Stu_tryRoot_95 : decode b_Stu_tryRoot 95 = .ok (.iload_n 2, 1) := by decide +kernel
theorem d_Stu_tryRoot_96 : decode b_Stu_tryRoot 96 = .ok (.iload_n 3, 1) := by decide +kernel
theorem d_Stu_tryRoot_97 : decode b_Stu_tryRoot 97 = .ok (.invokevirtual 122, 3) := by decide +kernel
theorem d_Stu_tryRoot_100 : decode b_Stu_tryRoot 100 = .ok (.aload_n 0, 1) := by decide +kernel
theorem d_Stu_tryRoot_101 : decode b_Stu_tryRoot 101 = .ok (.dup, 1) := by decide +kernel
theorem d_Stu_tryRoot_102 : decode b_Stu_tryRoot 102 = .ok (.getfield 30, 3) := by decide +kernel
theorem d_Stu_tryRoot_105 : decode b_Stu_tryRoot 105 = .ok (.aload 7, 2) := by decide +kernel
theorem d_Stu_tryRoot_107 : decode b_Stu_tryRoot 107 = .ok (.invokevirtual 126, 3) := by decide +kernel
theorem d_Stu_tryRoot_110 : decode b_Stu_tryRoot 110 = .ok (.ifCond .eq 7, 3) := by decide +kernel
theorem d_Stu_tryRoot_113 : decode b_Stu_tryRoot 113 = .ok (.iconst 1, 1) := by decide +kernel
theorem d_Stu_tryRoot_114 : decode b_Stu_tryRoot 114 = .ok (.goto 4, 3) := by decide +kernel
theorem d_Stu_tryRoot_117 : decode b_Stu_tryRoot 117 = .ok (.iconst 0, 1) := by decide +kernel
theorem d_Stu_tryRoot_118 : decode b_Stu_tryRoot 118 = .ok (.iadd, 1) := by decide +kernel
theorem d_Stu_tryRoot_119 : decode b_Stu_tryRoot 119 = .ok (.putfield 30, 3) := by decide +kernel
theorem d_Stu_tryRoot_122 : decode b_Stu_tryRoot 122 = .ok (.iload 6, 2) := by decide +kernel
theorem d_Stu_tryRoot_124 : decode b_Stu_tryRoot 124 = .ok (.ireturn, 1) := by decide +kernel
theorem d_Stu_fillW_0 : decode b_Stu_fillW 0 = .ok (.aload_n 0, 1) := by decide +kernel
theorem d_Stu_fillW_1 : decode b_Stu_fillW 1 = .ok (.getfield 33, 3) := by decide +kernel
theorem d_Stu_fillW_4 : decode b_Stu_fillW 4 = .ok (.invokevirtual 94, 3) := by decide +kernel
theorem d_Stu_fillW_7 : decode b_Stu_fillW 7 = .ok (.aload_n 0, 1) := by decide +kernel
theorem d_Stu_fillW_8 : decode b_Stu_fillW 8 = .ok (.getfield 33, 3) := by decide +kernel
theorem d_Stu_fillW_11 : decode b_Stu_fillW 11 = .ok (.iload_n 2, 1) := by decide +kernel
theorem d_Stu_fillW_12 : decode b_Stu_fillW 12 = .ok (.iload_n 1, 1) := by decide +kernel
theorem d_Stu_fillW_13 : decode b_Stu_fillW 13 = .ok (.i2l, 1) := by decide +kernel
theorem d_Stu_fillW_14 : decode b_Stu_fillW 14 = .ok (.invokevirtual 90, 3) := by decide +kernel
theorem d_Stu_fillW_17 : decode b_Stu_fillW 17 = .ok (.ldc2_w 130, 3) := by decide +kernel
theorem d_Stu_fillW_20 : decode b_Stu_fillW 20 = .ok (.iload_n 1, 1) := by decide +kernel
theorem d_Stu_fillW_21 : decode b_Stu_fillW 21 = .ok (.i2l, 1) := by decide +kernel
theorem d_Stu_fillW_22 : decode b_Stu_fillW 22 = .ok (.lmul, 1) := by decide +kernel
theorem d_Stu_fillW_23 : decode b_Stu_fillW 23 = .ok (.invokestatic 112, 3) := by decide +kernel
theorem d_Stu_fillW_26 : decode b_Stu_fillW 26 = .ok (.invokestatic 116, 3) := by decide +kernel
theorem d_Stu_fillW_29 : decode b_Stu_fillW 29 = .ok (.i2l, 1) := by decide +kernel
theorem d_Stu_fillW_30 : decode b_Stu_fillW 30 = .ok (.lstore_n 3, 1) := by decide +kernel
theorem d_Stu_fillW_31 : decode b_Stu_fillW 31 = .ok (.iload_n 2, 1) := by decide +kernel
theorem d_Stu_fillW_32 : decode b_Stu_fillW 32 = .ok (.iconst 1, 1) := by decide +kernel
theorem d_Stu_fillW_33 : decode b_Stu_fillW 33 = .ok (.isub, 1) := by decide +kernel
theorem d_Stu_fillW_34 : decode b_Stu_fillW 34 = .ok (.istore 5, 2) := by decide +kernel
theorem d_Stu_fillW_36 : decode b_Stu_fillW 36 = .ok (.iload 5, 2) := by decide +kernel
theorem d_Stu_fillW_38 : decode b_Stu_fillW 38 = .ok (.ifCond .lt 48, 3) := by decide +kernel
theorem d_Stu_fillW_41 : decode b_Stu_fillW 41 = .ok (.aload_n 0, 1) := by decide +kernel
theorem d_Stu_fillW_42 : decode b_Stu_fillW 42 = .ok (.getfield 33, 3) := by decide +kernel
theorem d_Stu_fillW_45 : decode b_Stu_fillW 45 = .ok (.iload 5, 2) := by decide +kernel
theorem d_Stu_fillW_47 : decode b_Stu_fillW 47 = .ok (.aload_n 0, 1) := by decide +kernel
theorem d_Stu_fillW_48 : decode b_Stu_fillW 48 = .ok (.getfield 14, 3) := by decide +kernel
theorem d_Stu_fillW_51 : decode b_Stu_fillW 51 = .ok (.iload_n 2, 1) := by decide +kernel
theorem d_Stu_fillW_52 : decode b_Stu_fillW 52 = .ok (.iload 5, 2) := by decide +kernel
theorem d_Stu_fillW_54 : decode b_Stu_fillW 54 = .ok (.iadd, 1) := by decide +kernel
theorem d_Stu_fillW_55 : decode b_Stu_fillW 55 = .ok (.invokevirtual 54, 3) := by decide +kernel
theorem d_Stu_fillW_58 : decode b_Stu_fillW 58 = .ok (.aload_n 0, 1) := by decide +kernel
theorem d_Stu_fillW_59 : decode b_Stu_fillW 59 = .ok (.getfield 33, 3) := by decide +kernel
theorem d_Stu_fillW_62 : decode b_Stu_fillW 62 = .ok (.aload_n 0, 1) := by decide +kernel
theorem d_Stu_fillW_63 : decode b_Stu_fillW 63 = .ok (.getfield 33, 3) := by decide +kernel
theorem d_Stu_fillW_66 : decode b_Stu_fillW 66 = .ok (.iload_n 2, 1) := by decide +kernel
theorem d_Stu_fillW_67 : decode b_Stu_fillW 67 = .ok (.iload 5, 2) := by decide +kernel
theorem d_Stu_fillW_69 : decode b_Stu_fillW 69 = .ok (.iadd, 1) := by decide +kernel
theorem d_Stu_fillW_70 : decode b_Stu_fillW 70 = .ok (.invokevirtual 77, 3) := by decide +kernel
theorem d_Stu_fillW_73 : decode b_Stu_fillW 73 = .ok (.isub, 1) := by decide +kernel
theorem d_Stu_fillW_74 : decode b_Stu_fillW 74 = .ok (.i2l, 1) := by decide +kernel
theorem d_Stu_fillW_75 : decode b_Stu_fillW 75 = .ok (.lload_n 3, 1) := by decide +kernel
theorem d_Stu_fillW_76 : decode b_Stu_fillW 76 = .ok (.lmul, 1) := by decide +kernel
theorem d_Stu_fillW_77 : decode b_Stu_fillW 77 = .ok (.invokevirtual 90, 3) := by decide +kernel
theorem d_Stu_fillW_80 : decode b_Stu_fillW 80 = .ok (.iinc 5 (-1), 3) := by decide +kernel
theorem d_Stu_fillW_83 : decode b_Stu_fillW 83 = .ok (.goto (-47), 3) := by decide +kernel
theorem d_Stu_fillW_86 : decode b_Stu_fillW 86 = .ok (.return_, 1) := by decide +kernel
