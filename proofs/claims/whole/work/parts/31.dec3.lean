theorem d_Mod_init_0 : decode b_Mod_init 0 = .ok (.aload_n 0, 1) := by decide +kernel
theorem d_Mod_init_1 : decode b_Mod_init 1 = .ok (.invokespecial 1, 3) := by decide +kernel
theorem d_Mod_init_4 : decode b_Mod_init 4 = .ok (.aload_n 0, 1) := by decide +kernel
theorem d_Mod_init_5 : decode b_Mod_init 5 = .ok (.iconst 3, 1) := by decide +kernel
theorem d_Mod_init_6 : decode b_Mod_init 6 = .ok (.newarray .int, 2) := by decide +kernel
theorem d_Mod_init_8 : decode b_Mod_init 8 = .ok (.putfield 7, 3) := by decide +kernel
theorem d_Mod_init_11 : decode b_Mod_init 11 = .ok (.aload_n 0, 1) := by decide +kernel
theorem d_Mod_init_12 : decode b_Mod_init 12 = .ok (.iconst 5, 1) := by decide +kernel
theorem d_Mod_init_13 : decode b_Mod_init 13 = .ok (.newarray .int, 2) := by decide +kernel
theorem d_Mod_init_15 : decode b_Mod_init 15 = .ok (.putfield 13, 3) := by decide +kernel
theorem d_Mod_init_18 : decode b_Mod_init 18 = .ok (.aload_n 0, 1) := by decide +kernel
theorem d_Mod_init_19 : decode b_Mod_init 19 = .ok (.iconst 5, 1) := by decide +kernel
theorem d_Mod_init_20 : decode b_Mod_init 20 = .ok (.newarray .long, 2) := by decide +kernel
theorem d_Mod_init_22 : decode b_Mod_init 22 = .ok (.putfield 16, 3) := by decide +kernel
theorem d_Mod_init_25 : decode b_Mod_init 25 = .ok (.aload_n 0, 1) := by decide +kernel
theorem d_Mod_init_26 : decode b_Mod_init 26 = .ok (.iconst 3, 1) := by decide +kernel
theorem d_Mod_init_27 : decode b_Mod_init 27 = .ok (.newarray .long, 2) := by decide +kernel
theorem d_Mod_init_29 : decode b_Mod_init 29 = .ok (.putfield 20, 3) := by decide +kernel
theorem d_Mod_init_32 : decode b_Mod_init 32 = .ok (.aload_n 0, 1) := by decide +kernel
theorem d_Mod_init_33 : decode b_Mod_init 33 = .ok (.iconst 5, 1) := by decide +kernel
theorem d_Mod_init_34 : decode b_Mod_init 34 = .ok (.newarray .long, 2) := by decide +kernel
theorem d_Mod_init_36 : decode b_Mod_init 36 = .ok (.putfield 23, 3) := by decide +kernel
theorem d_Mod_init_39 : decode b_Mod_init 39 = .ok (.aload_n 0, 1) := by decide +kernel
theorem d_Mod_init_40 : decode b_Mod_init 40 = .ok (.iconst 2, 1) := by decide +kernel
theorem d_Mod_init_41 : decode b_Mod_init 41 = .ok (.newarray .int, 2) := by decide +kernel
theorem d_Mod_init_43 : decode b_Mod_init 43 = .ok (.putfield 26, 3) := by decide +kernel
theorem d_Mod_init_46 : decode b_Mod_init 46 = .ok (.aload_n 0, 1) := by decide +kernel
theorem d_Mod_init_47 : decode b_Mod_init 47 = .ok (.bipush 26, 2) := by decide +kernel
theorem d_Mod_init_49 : decode b_Mod_init 49 = .ok (.newarray .long, 2) := by decide +kernel
theorem d_Mod_init_51 : decode b_Mod_init 51 = .ok (.putfield 29, 3) := by decide +kernel
theorem d_Mod_init_54 : decode b_Mod_init 54 = .ok (.aload_n 0, 1) := by decide +kernel
theorem d_Mod_init_55 : decode b_Mod_init 55 = .ok (.bipush 6, 2) := by decide +kernel
theorem d_Mod_init_57 : decode b_Mod_init 57 = .ok (.newarray .long, 2) := by decide +kernel
theorem d_Mod_init_59 : decode b_Mod_init 59 = .ok (.putfield 32, 3) := by decide +kernel
theorem d_Mod_init_62 : decode b_Mod_init 62 = .ok (.aload_n 0, 1) := by decide +kernel
theorem d_Mod_init_63 : decode b_Mod_init 63 = .ok (.bipush 20, 2) := by decide +kernel
theorem d_Mod_init_65 : decode b_Mod_init 65 = .ok (.newarray .long, 2) := by decide +kernel
theorem d_Mod_init_67 : decode b_Mod_init 67 = .ok (.putfield 35, 3) := by decide +kernel
theorem d_Mod_init_70 : decode b_Mod_init 70 = .ok (.aload_n 0, 1) := by decide +kernel
theorem d_Mod_init_71 : decode b_Mod_init 71 = .ok (.bipush 13, 2) := by decide +kernel
theorem d_Mod_init_73 : decode b_Mod_init 73 = .ok (.newarray .long, 2) := by decide +kernel
theorem d_Mod_init_75 : decode b_Mod_init 75 = .ok (.putfield 38, 3) := by decide +kernel
theorem d_Mod_init_78 : decode b_Mod_init 78 = .ok (.aload_n 0, 1) := by decide +kernel
theorem d_Mod_init_79 : decode b_Mod_init 79 = .ok (.bipush 41, 2) := by decide +kernel
theorem d_Mod_init_81 : decode b_Mod_init 81 = .ok (.newarray .long, 2) := by decide +kernel
theorem d_Mod_init_83 : decode b_Mod_init 83 = .ok (.putfield 41, 3) := by decide +kernel
theorem d_Mod_init_86 : decode b_Mod_init 86 = .ok (.aload_n 0, 1) := by decide +kernel
theorem d_Mod_init_87 : decode b_Mod_init 87 = .ok (.iconst 2, 1) := by decide +kernel
theorem d_Mod_init_88 : decode b_Mod_init 88 = .ok (.newarray .int, 2) := by decide +kernel
theorem d_Mod_init_90 : decode b_Mod_init 90 = .ok (.putfield 44, 3) := by decide +kernel
theorem d_Mod_init_93 : decode b_Mod_init 93 = .ok (.return_, 1) := by decide +kernel
theorem d_Mod_thrown_0 : decode b_Mod_thrown 0 = .ok (.aload_n 0, 1) := by decide +kernel
theorem d_Mod_thrown_1 : decode b_Mod_thrown 1 = .ok (.getfield 47, 3) := by decide +kernel
theorem d_Mod_thrown_4 : decode b_Mod_thrown 4 = .ok (.ireturn, 1) := by decide +kernel
theorem d_Mod_raise_0 : decode b_Mod_raise 0 = .ok (.aload_n 0, 1) := by decide +kernel
theorem d_Mod_raise_1 : decode b_Mod_raise 1 = .ok (.iload_n 1, 1) := by decide +kernel
theorem d_Mod_raise_2 : decode b_Mod_raise 2 = .ok (.putfield 47, 3) := by decide +kernel
theorem d_Mod_raise_5 : decode b_Mod_raise 5 = .ok (.iconst 0, 1) := by decide +kernel
theorem d_Mod_raise_6 : decode b_Mod_raise 6 = .ok (.ireturn, 1) := by decide +kernel
theorem d_Mod_in_0 : decode b_Mod_in 0 = .ok (.lload_n 0, 1) := by decide +kernel
theorem d_Mod_in_1 : decode b_Mod_in 1 = .ok (.lload_n 2, 1) := by decide +kernel
theorem d_Mod_in_2 : decode b_Mod_in 2 = .ok (.lcmp, 1) := by decide +kernel
theorem d_Mod_in_3 : decode b_Mod_in 3 = .ok (.ifCond .lt 14, 3) := by decide +kernel
theorem d_Mod_in_6 : decode b_Mod_in 6 = .ok (.lload_n 0, 1) := by decide +kernel
theorem d_Mod_in_7 : decode b_Mod_in 7 = .ok (.lload 4, 2) := by decide +kernel
theorem d_Mod_in_9 : decode b_Mod_in 9 = .ok (.lcmp, 1) := by decide +kernel
theorem d_Mod_in_10 : decode b_Mod_in 10 = .ok (.ifCond .gt 7, 3) := by decide +kernel
theorem d_Mod_in_13 : decode b_Mod_in 13 = .ok (.iconst 1, 1) := by decide +kernel
theorem d_Mod_in_14 : decode b_Mod_in 14 = .ok (.goto 4, 3) := by decide +kernel
theorem d_Mod_in_17 : decode b_Mod_in 17 = .ok (.iconst 0, 1) := by decide +kernel
theorem d_Mod_in_18 : decode b_Mod_in 18 = .ok (.ireturn, 1) := by decide +kernel
theorem d_Mod_modulo_0 : decode b_Mod_modulo 0 = .ok (.lload_n 0, 1) := by decide +kernel
theorem d_Mod_modulo_1 : decode b_Mod_modulo 1 = .ok (.ldc2_w 51, 3) := by decide +kernel
theorem d_Mod_modulo_4 : decode b_Mod_modulo 4 = .ok (.lrem, 1) := by decide +kernel
theorem d_Mod_modulo_5 : decode b_Mod_modulo 5 = .ok (.lstore_n 2, 1) := by decide +kernel
theorem d_Mod_modulo_6 : decode b_Mod_modulo 6 = .ok (.lload_n 2, 1) := by decide +kernel
theorem d_Mod_modulo_7 : decode b_Mod_modulo 7 = .ok (.lconst 0, 1) := by decide +kernel
theorem d_Mod_modulo_8 : decode b_Mod_modulo 8 = .ok (.lcmp, 1) := by decide +kernel
theorem d_Mod_modulo_9 : decode b_Mod_modulo 9 = .ok (.ifCond .ge 11, 3) := by decide +kernel
theorem d_Mod_modulo_12 : decode b_Mod_modulo 12 = .ok (.lload_n 2, 1) := by decide +kernel
theorem d_Mod_modulo_13 : decode b_Mod_modulo 13 = .ok (.ldc2_w 51, 3) := by decide +kernel
theorem d_Mod_modulo_16 : decode b_Mod_modulo 16 = .ok (.ladd, 1) := by decide +kernel
theorem d_Mod_modulo_17 : decode b_Mod_modulo 17 = .ok (.goto 4, 3) := by decide +kernel
theorem d_Mod_modulo_20 : decode b_Mod_modulo 20 = .ok (.lload_n 2, 1) := by decide +kernel
theorem d_Mod_modulo_21 : decode b_Mod_modulo 21 = .ok (.lreturn, 1) := by decide +kernel
theorem d_Mod_inverse_0 : decode b_Mod_inverse 0 = .ok (.lconst 1, 1) := by decide +kernel
theorem d_Mod_inverse_1 : decode b_Mod_inverse 1 = .ok (.lstore_n 2, 1) := by decide +kernel
theorem d_Mod_inverse_2 : decode b_Mod_inverse 2 = .ok (.lload_n 0, 1) := by decide +kernel
theorem d_Mod_inverse_3 : decode b_Mod_inverse 3 = .ok (.lstore 4, 2) := by decide +kernel
theorem d_Mod_inverse_5 : decode b_Mod_inverse 5 = .ok (.sipush 32001, 3) := by decide +kernel
theorem d_Mod_inverse_8 : decode b_Mod_inverse 8 = .ok (.istore 6, 2) := by decide +kernel
theorem d_Mod_inverse_10 : decode b_Mod_inverse 10 = .ok (.iload 6, 2) := by decide +kernel
theorem d_Mod_inverse_12 : decode b_Mod_inverse 12 = .ok (.ifCond .le 44, 3) := by decide +kernel
theorem d_Mod_inverse_15 : decode b_Mod_inverse 15 = .ok (.iload 6, 2) := by decide +kernel
theorem d_Mod_inverse_17 : decode b_Mod_inverse 17 = .ok (.iconst 2, 1) := by decide +kernel
theorem d_Mod_inverse_18 : decode b_Mod_inverse 18 = .ok (.irem, 1) := by decide +kernel
theorem d_Mod_inverse_19 : decode b_Mod_inverse 19 = .ok (.iconst 1, 1) := by decide +kernel
theorem d_Mod_inverse_20 : decode b_Mod_inverse 20 = .ok (.if_icmp .ne 14, 3) := by decide +kernel
theorem d_Mod_inverse_23 : decode b_Mod_inverse 23 = .ok (.lload_n 2, 1) := by decide +kernel
theorem d_Mod_inverse_24 : decode b_Mod_inverse 24 = .ok (.lload 4, 2) := by decide +kernel
theorem d_Mod_inverse_26 : decode b_Mod_inverse 26 = .ok (.lmul, 1) := by decide +kernel
theorem d_Mod_inverse_27 : decode b_Mod_inverse 27 = .ok (.ldc2_w 51, 3) := by decide +kernel
theorem d_Mod_inverse_30 : decode b_Mod_inverse 30 = .ok (.lrem, 1) := by decide +kernel
theorem d_Mod_inverse_31 : decode b_Mod_inverse 31 = .ok (.goto 4, 3) := by decide +kernel
theorem d_Mod_inverse_34 : decode b_Mod_inverse 34 = .ok (.lload_n 2, 1) := by decide +kernel
theorem d_Mod_inverse_35 : decode b_Mod_inverse 35 = .ok (.lstore_n 2, 1) := by decide +kernel
theorem d_Mod_inverse_36 : decode b_Mod_inverse 36 = .ok (.lload 4, 2) := by decide +kernel
theorem d_Mod_inverse_38 : decode b_Mod_inverse 38 = .ok (.lload 4, 2) := by decide +kernel
theorem d_Mod_inverse_40 : decode b_Mod_inverse 40 = .ok (.lmul, 1) := by decide +kernel
theorem d_Mod_inverse_41 : decode b_Mod_inverse 41 = .ok (.ldc2_w 51, 3) := by decide +kernel
theorem d_Mod_inverse_44 : decode b_Mod_inverse 44 = .ok (.lrem, 1) := by decide +kernel
theorem d_Mod_inverse_45 : decode b_Mod_inverse 45 = .ok (.lstore 4, 2) := by decide +kernel
theorem d_Mod_inverse_47 : decode b_Mod_inverse 47 = .ok (.iload 6, 2) := by decide +kernel
theorem d_Mod_inverse_49 : decode b_Mod_inverse 49 = .ok (.iconst 2, 1) := by decide +kernel
theorem d_Mod_inverse_50 : decode b_Mod_inverse 50 = .ok (.idiv, 1) := by decide +kernel
theorem d_Mod_inverse_51 : decode b_Mod_inverse 51 = .ok (.istore 6, 2) := by decide +kernel
theorem d_Mod_inverse_53 : decode b_Mod_inverse 53 = .ok (.goto (-43), 3) := by decide +kernel
theorem d_Mod_inverse_56 : decode b_Mod_inverse 56 = .ok (.lload_n 2, 1) := by decide +kernel
theorem d_Mod_inverse_57 : decode b_Mod_inverse 57 = .ok (.lreturn, 1) := by decide +kernel
theorem d_Mod_put_0 : decode b_Mod_put 0 = .ok (.aload_n 0, 1) := by decide +kernel
theorem d_Mod_put_1 : decode b_Mod_put 1 = .ok (.iload_n 1, 1) := by decide +kernel
theorem d_Mod_put_2 : decode b_Mod_put 2 = .ok (.i2l, 1) := by decide +kernel
theorem d_Mod_put_3 : decode b_Mod_put 3 = .ok (.lconst 0, 1) := by decide +kernel
theorem d_Mod_put_4 : decode b_Mod_put 4 = .ok (.lconst 1, 1) := by decide +kernel
theorem d_Mod_put_5 : decode b_Mod_put 5 = .ok (.invokestatic 53, 3) := by decide +kernel
theorem d_Mod_put_8 : decode b_Mod_put 8 = .ok (.ifCond .ne 7, 3) := by decide +kernel
theorem d_Mod_put_11 : decode b_Mod_put 11 = .ok (.iconst 1, 1) := by decide +kernel
theorem d_Mod_put_12 : decode b_Mod_put 12 = .ok (.goto 30, 3) := by decide +kernel
theorem d_Mod_put_15 : decode b_Mod_put 15 = .ok (.iload_n 2, 1) := by decide +kernel
theorem d_Mod_put_16 : decode b_Mod_put 16 = .ok (.i2l, 1) := by decide +kernel
theorem d_Mod_put_17 : decode b_Mod_put 17 = .ok (.lconst 0, 1) := by decide +kernel
theorem d_Mod_put_18 : decode b_Mod_put 18 = .ok (.iload_n 1, 1) := by decide +kernel
theorem d_Mod_put_19 : decode b_Mod_put 19 = .ok (.ifCond .ne 9, 3) := by decide +kernel
theorem d_Mod_put_22 : decode b_Mod_put 22 = .ok (.ldc2_w 57, 3) := by decide +kernel
theorem d_Mod_put_25 : decode b_Mod_put 25 = .ok (.goto 6, 3) := by decide +kernel
theorem d_Mod_put_28 : decode b_Mod_put 28 = .ok (.ldc2_w 59, 3) := by decide +kernel
theorem d_Mod_put_31 : decode b_Mod_put 31 = .ok (.invokestatic 53, 3) := by decide +kernel
theorem d_Mod_put_34 : decode b_Mod_put 34 = .ok (.ifCond .ne 7, 3) := by decide +kernel
theorem d_Mod_put_37 : decode b_Mod_put 37 = .ok (.iconst 2, 1) := by decide +kernel
theorem d_Mod_put_38 : decode b_Mod_put 38 = .ok (.goto 4, 3) := by decide +kernel
theorem d_Mod_put_41 : decode b_Mod_put 41 = .ok (.iconst 0, 1) := by decide +kernel
theorem d_Mod_put_42 : decode b_Mod_put 42 = .ok (.putfield 47, 3) := by decide +kernel
theorem d_Mod_put_45 : decode b_Mod_put 45 = .ok (.aload_n 0, 1) := by decide +kernel
theorem d_Mod_put_46 : decode b_Mod_put 46 = .ok (.getfield 47, 3) := by decide +kernel
theorem d_Mod_put_49 : decode b_Mod_put 49 = .ok (.ifCond .le 5, 3) := by decide +kernel
theorem d_Mod_put_52 : decode b_Mod_put 52 = .ok (.iconst 0, 1) := by decide +kernel
theorem d_Mod_put_53 : decode b_Mod_put 53 = .ok (.ireturn, 1) := by decide +kernel
theorem d_Mod_put_54 : decode b_Mod_put 54 = .ok (.lload_n 3, 1) := by decide +kernel
theorem d_Mod_put_55 : decode b_Mod_put 55 = .ok (.invokestatic 61, 3) := by decide +kernel
theorem d_Mod_put_58 : decode b_Mod_put 58 = .ok (.l2i, 1) := by decide +kernel
theorem d_Mod_put_59 : decode b_Mod_put 59 = .ok (.istore 5, 2) := by decide +kernel
theorem d_Mod_put_61 : decode b_Mod_put 61 = .ok (.iload_n 1, 1) := by decide +kernel
theorem d_Mod_put_62 : decode b_Mod_put 62 = .ok (.ifCond .ne 12, 3) := by decide +kernel
theorem d_Mod_put_65 : decode b_Mod_put 65 = .ok (.aload_n 0, 1) := by decide +kernel
theorem d_Mod_put_66 : decode b_Mod_put 66 = .ok (.getfield 7, 3) := by decide +kernel
theorem d_Mod_put_69 : decode b_Mod_put 69 = .ok (.iload_n 2, 1) := by decide +kernel
theorem d_Mod_put_70 : decode b_Mod_put 70 = .ok (.iaload, 1) := by decide +kernel
theorem d_Mod_put_71 : decode b_Mod_put 71 = .ok (.goto 9, 3) := by decide +kernel
theorem d_Mod_put_74 : decode b_Mod_put 74 = .ok (.aload_n 0, 1) := by decide +kernel
theorem d_Mod_put_75 : decode b_Mod_put 75 = .ok (.getfield 13, 3) := by decide +kernel
theorem d_Mod_put_78 : decode b_Mod_put 78 = .ok (.iload_n 2, 1) := by decide +kernel
theorem d_Mod_put_79 : decode b_Mod_put 79 = .ok (.iaload, 1) := by decide +kernel
theorem d_Mod_put_80 : decode b_Mod_put 80 = .ok (.istore 6, 2) := by decide +kernel
theorem d_Mod_put_82 : decode b_Mod_put 82 = .ok (.iload_n 1, 1) := by decide +kernel
theorem d_Mod_put_83 : decode b_Mod_put 83 = .ok (.ifCond .ne 14, 3) := by decide +kernel
theorem d_Mod_put_86 : decode b_Mod_put 86 = .ok (.aload_n 0, 1) := by decide +kernel
theorem d_Mod_put_87 : decode b_Mod_put 87 = .ok (.getfield 7, 3) := by decide +kernel
theorem d_Mod_put_90 : decode b_Mod_put 90 = .ok (.iload_n 2, 1) := by decide +kernel
theorem d_Mod_put_91 : decode b_Mod_put 91 = .ok (.iload 5, 2) := by decide +kernel
theorem d_Mod_put_93 : decode b_Mod_put 93 = .ok (.iastore, 1) := by decide +kernel
theorem d_Mod_put_94 : decode b_Mod_put 94 = .ok (.goto 11, 3) := by decide +kernel
theorem d_Mod_put_97 : decode b_Mod_put 97 = .ok (.aload_n 0, 1) := by decide +kernel
theorem d_Mod_put_98 : decode b_Mod_put 98 = .ok (.getfield 13, 3) := by decide +kernel
theorem d_Mod_put_101 : decode b_Mod_put 101 = .ok (.iload_n 2, 1) := by decide +kernel
theorem d_Mod_put_102 : decode b_Mod_put 102 = .ok (.iload 5, 2) := by decide +kernel
theorem d_Mod_put_104 : decode b_Mod_put 104 = .ok (.iastore, 1) := by decide +kernel
theorem d_Mod_put_105 : decode b_Mod_put 105 = .ok (.iload 6, 2) := by decide +kernel
theorem d_Mod_put_107 : decode b_Mod_put 107 = .ok (.iload 5, 2) := by decide +kernel
theorem d_Mod_put_109 : decode b_Mod_put 109 = .ok (.if_icmp .eq 7, 3) := by decide +kernel
theorem d_Mod_put_112 : decode b_Mod_put 112 = .ok (.iconst 1, 1) := by decide +kernel
theorem d_Mod_put_113 : decode b_Mod_put 113 = .ok (.goto 4, 3) := by decide +kernel
theorem d_Mod_put_116 : decode b_Mod_put 116 = .ok (.iconst 0, 1) := by decide +kernel
theorem d_Mod_put_117 : decode b_Mod_put 117 = .ok (.ireturn, 1) := by decide +kernel
theorem d_Mod_at_0 : decode b_Mod_at 0 = .ok (.aload_n 0, 1) := by decide +kernel
theorem d_Mod_at_1 : decode b_Mod_at 1 = .ok (.iload_n 1, 1) := by decide +kernel
theorem d_Mod_at_2 : decode b_Mod_at 2 = .ok (.i2l, 1) := by decide +kernel
theorem d_Mod_at_3 : decode b_Mod_at 3 = .ok (.lconst 0, 1) := by decide +kernel
theorem d_Mod_at_4 : decode b_Mod_at 4 = .ok (.ldc2_w 57, 3) := by decide +kernel
theorem d_Mod_at_7 : decode b_Mod_at 7 = .ok (.invokestatic 53, 3) := by decide +kernel
theorem d_Mod_at_10 : decode b_Mod_at 10 = .ok (.ifCond .ne 7, 3) := by decide +kernel
theorem d_Mod_at_13 : decode b_Mod_at 13 = .ok (.iconst 1, 1) := by decide +kernel
theorem d_Mod_at_14 : decode b_Mod_at 14 = .ok (.goto 30, 3) := by decide +kernel
theorem d_Mod_at_17 : decode b_Mod_at 17 = .ok (.iload_n 2, 1) := by decide +kernel
theorem d_Mod_at_18 : decode b_Mod_at 18 = .ok (.i2l, 1) := by decide +kernel
theorem d_Mod_at_19 : decode b_Mod_at 19 = .ok (.lconst 0, 1) := by decide +kernel
theorem d_Mod_at_20 : decode b_Mod_at 20 = .ok (.iload_n 1, 1) := by decide +kernel
theorem d_Mod_at_21 : decode b_Mod_at 21 = .ok (.ifCond .ne 9, 3) := by decide +kernel
theorem d_Mod_at_24 : decode b_Mod_at 24 = .ok (.ldc2_w 57, 3) := by decide +kernel
theorem d_Mod_at_27 : decode b_Mod_at 27 = .ok (.goto 6, 3) := by decide +kernel
theorem d_Mod_at_30 : decode b_Mod_at 30 = .ok (.ldc2_w 59, 3) := by decide +kernel
theorem d_Mod_at_33 : decode b_Mod_at 33 = .ok (.invokestatic 53, 3) := by decide +kernel
theorem d_Mod_at_36 : decode b_Mod_at 36 = .ok (.ifCond .ne 7, 3) := by decide +kernel
theorem d_Mod_at_39 : decode b_Mod_at 39 = .ok (.iconst 2, 1) := by decide +kernel
theorem d_Mod_at_40 : decode b_Mod_at 40 = .ok (.goto 4, 3) := by decide +kernel
theorem d_Mod_at_43 : decode b_Mod_at 43 = .ok (.iconst 0, 1) := by decide +kernel
theorem d_Mod_at_44 : decode b_Mod_at 44 = .ok (.putfield 47, 3) := by decide +kernel
theorem d_Mod_at_47 : decode b_Mod_at 47 = .ok (.aload_n 0, 1) := by decide +kernel
theorem d_Mod_at_48 : decode b_Mod_at 48 = .ok (.getfield 47, 3) := by decide +kernel
theorem d_Mod_at_51 : decode b_Mod_at 51 = .ok (.ifCond .le 5, 3) := by decide +kernel
theorem d_Mod_at_54 : decode b_Mod_at 54 = .ok (.iconst 0, 1) := by decide +kernel
theorem d_Mod_at_55 : decode b_Mod_at 55 = .ok (.ireturn, 1) := by decide +kernel
theorem d_Mod_at_56 : decode b_Mod_at 56 = .ok (.iload_n 1, 1) := by decide +kernel
theorem d_Mod_at_57 : decode b_Mod_at 57 = .ok (.iconst 2, 1) := by decide +kernel
theorem d_Mod_at_58 : decode b_Mod_at 58 = .ok (.if_icmp .ge 23, 3) := by decide +kernel
theorem d_Mod_at_61 : decode b_Mod_at 61 = .ok (.iload_n 1, 1) := by decide +kernel
theorem d_Mod_at_62 : decode b_Mod_at 62 = .ok (.ifCond .ne 12, 3) := by decide +kernel
theorem d_Mod_at_65 : decode b_Mod_at 65 = .ok (.aload_n 0, 1) := by decide +kernel
theorem d_Mod_at_66 : decode b_Mod_at 66 = .ok (.getfield 7, 3) := by decide +kernel
theorem d_Mod_at_69 : decode b_Mod_at 69 = .ok (.iload_n 2, 1) := by decide +kernel
theorem d_Mod_at_70 : decode b_Mod_at 70 = .ok (.iaload, 1) := by decide +kernel
theorem d_Mod_at_71 : decode b_Mod_at 71 = .ok (.goto 9, 3) := by decide +kernel
theorem d_Mod_at_74 : decode b_Mod_at 74 = .ok (.aload_n 0, 1) := by decide +kernel
theorem d_Mod_at_75 : decode b_Mod_at 75 = .ok (.getfield 13, 3) := by decide +kernel
theorem d_Mod_at_78 : decode b_Mod_at 78 = .ok (.iload_n 2, 1) := by decide +kernel
theorem d_Mod_at_79 : decode b_Mod_at 79 = .ok (.iaload, 1) := by decide +kernel
theorem d_Mod_at_80 : decode b_Mod_at 80 = .ok (.ireturn, 1) := by decide +kernel
theorem d_Mod_at_81 : decode b_Mod_at 81 = .ok (.aload_n 0, 1) := by decide +kernel
theorem d_Mod_at_82 : decode b_Mod_at 82 = .ok (.invokevirtual 65, 3) := by decide +kernel
theorem d_Mod_at_85 : decode b_Mod_at 85 = .ok (.aload_n 0, 1) := by decide +kernel
theorem d_Mod_at_86 : decode b_Mod_at 86 = .ok (.getfield 16, 3) := by decide +kernel
theorem d_Mod_at_89 : decode b_Mod_at 89 = .ok (.iload_n 2, 1) := by decide +kernel
theorem d_Mod_at_90 : decode b_Mod_at 90 = .ok (.laload, 1) := by decide +kernel
theorem d_Mod_at_91 : decode b_Mod_at 91 = .ok (.l2i, 1) := by decide +kernel
theorem d_Mod_at_92 : decode b_Mod_at 92 = .ok (.ireturn, 1) := by decide +kernel
theorem d_Mod_clear_0 : decode b_Mod_clear 0 = .ok (.aload_n 0, 1) := by decide +kernel
theorem d_Mod_clear_1 : decode b_Mod_clear 1 = .ok (.iconst 0, 1) := by decide +kernel
theorem d_Mod_clear_2 : decode b_Mod_clear 2 = .ok (.putfield 47, 3) := by decide +kernel
theorem d_Mod_clear_5 : decode b_Mod_clear 5 = .ok (.iconst 0, 1) := by decide +kernel
theorem d_Mod_clear_6 : decode b_Mod_clear 6 = .ok (.istore_n 1, 1) := by decide +kernel
theorem d_Mod_clear_7 : decode b_Mod_clear 7 = .ok (.iload_n 1, 1) := by decide +kernel
theorem d_Mod_clear_8 : decode b_Mod_clear 8 = .ok (.iconst 3, 1) := by decide +kernel
theorem d_Mod_clear_9 : decode b_Mod_clear 9 = .ok (.if_icmp .ge 16, 3) := by decide +kernel
theorem d_Mod_clear_12 : decode b_Mod_clear 12 = .ok (.aload_n 0, 1) := by decide +kernel
theorem d_Mod_clear_13 : decode b_Mod_clear 13 = .ok (.getfield 7, 3) := by decide +kernel
theorem d_Mod_clear_16 : decode b_Mod_clear 16 = .ok (.iload_n 1, 1) := by decide +kernel
theorem d_Mod_clear_17 : decode b_Mod_clear 17 = .ok (.iconst 0, 1) := by decide +kernel
theorem d_Mod_clear_18 : decode b_Mod_clear 18 = .ok (.iastore, 1) := by decide +kernel
theorem d_Mod_clear_19 : decode b_Mod_clear 19 = .ok (.iinc 1 1, 3) := by decide +kernel
theorem d_Mod_clear_22 : decode b_Mod_clear 22 = .ok (.goto (-15), 3) := by decide +kernel
theorem d_Mod_clear_25 : decode b_Mod_clear 25 = .ok (.iconst 0, 1) := by decide +kernel
theorem d_Mod_clear_26 : decode b_Mod_clear 26 = .ok (.istore_n 1, 1) := by decide +kernel
theorem d_Mod_clear_27 : decode b_Mod_clear 27 = .ok (.iload_n 1, 1) := by decide +kernel
theorem d_Mod_clear_28 : decode b_Mod_clear 28 = .ok (.iconst 5, 1) := by decide +kernel
theorem d_Mod_clear_29 : decode b_Mod_clear 29 = .ok (.if_icmp .ge 16, 3) := by decide +kernel
theorem d_Mod_clear_32 : decode b_Mod_clear 32 = .ok (.aload_n 0, 1) := by decide +kernel
theorem d_Mod_clear_33 : decode b_Mod_clear 33 = .ok (.getfield 13, 3) := by decide +kernel
theorem d_Mod_clear_36 : decode b_Mod_clear 36 = .ok (.iload_n 1, 1) := by decide +kernel
theorem d_Mod_clear_37 : decode b_Mod_clear 37 = .ok (.iconst 0, 1) := by decide +kernel
theorem d_Mod_clear_38 : decode b_Mod_clear 38 = .ok (.iastore, 1) := by decide +kernel
theorem d_Mod_clear_39 : decode b_Mod_clear 39 = .ok (.iinc 1 1, 3) := by decide +kernel
theorem d_Mod_clear_42 : decode b_Mod_clear 42 = .ok (.goto (-15), 3) := by decide +kernel
theorem d_Mod_clear_45 : decode b_Mod_clear 45 = .ok (.return_, 1) := by decide +kernel
theorem d_Mod_move_0 : decode b_Mod_move 0 = .ok (.aload_n 0, 1) := by decide +kernel
theorem d_Mod_move_1 : decode b_Mod_move 1 = .ok (.iconst 0, 1) := by decide +kernel
theorem d_Mod_move_2 : decode b_Mod_move 2 = .ok (.putfield 47, 3) := by decide +kernel
theorem d_Mod_move_5 : decode b_Mod_move 5 = .ok (.lload_n 1, 1) := by decide +kernel
theorem d_Mod_move_6 : decode b_Mod_move 6 = .ok (.invokestatic 61, 3) := by decide +kernel
theorem d_Mod_move_9 : decode b_Mod_move 9 = .ok (.lstore_n 3, 1) := by decide +kernel
theorem d_Mod_move_10 : decode b_Mod_move 10 = .ok (.iconst 0, 1) := by decide +kernel
theorem d_Mod_move_11 : decode b_Mod_move 11 = .ok (.istore 5, 2) := by decide +kernel
theorem d_Mod_move_13 : decode b_Mod_move 13 = .ok (.iload 5, 2) := by decide +kernel
theorem d_Mod_move_15 : decode b_Mod_move 15 = .ok (.iconst 3, 1) := by decide +kernel
theorem d_Mod_move_16 : decode b_Mod_move 16 = .ok (.if_icmp .ge 58, 3) := by decide +kernel
theorem d_Mod_move_19 : decode b_Mod_move 19 = .ok (.iconst 1, 1) := by decide +kernel
theorem d_Mod_move_20 : decode b_Mod_move 20 = .ok (.istore 6, 2) := by decide +kernel
theorem d_Mod_move_22 : decode b_Mod_move 22 = .ok (.iload 6, 2) := by decide +kernel
theorem d_Mod_move_24 : decode b_Mod_move 24 = .ok (.iload 5, 2) := by decide +kernel
theorem d_Mod_move_26 : decode b_Mod_move 26 = .ok (.if_icmp .lt 42, 3) := by decide +kernel
theorem d_Mod_move_29 : decode b_Mod_move 29 = .ok (.aload_n 0, 1) := by decide +kernel
theorem d_Mod_move_30 : decode b_Mod_move 30 = .ok (.getfield 7, 3) := by decide +kernel
theorem d_Mod_move_33 : decode b_Mod_move 33 = .ok (.iload 6, 2) := by decide +kernel
theorem d_Mod_move_35 : decode b_Mod_move 35 = .ok (.aload_n 0, 1) := by decide +kernel
theorem d_Mod_move_36 : decode b_Mod_move 36 = .ok (.getfield 7, 3) := by decide +kernel
theorem d_Mod_move_39 : decode b_Mod_move 39 = .ok (.iload 6, 2) := by decide +kernel
theorem d_Mod_move_41 : decode b_Mod_move 41 = .ok (.iaload, 1) := by decide +kernel
theorem d_Mod_move_42 : decode b_Mod_move 42 = .ok (.i2l, 1) := by decide +kernel
theorem d_Mod_move_43 : decode b_Mod_move 43 = .ok (.lload_n 3, 1) := by decide +kernel
theorem d_Mod_move_44 : decode b_Mod_move 44 = .ok (.aload_n 0, 1) := by decide +kernel
theorem d_Mod_move_45 : decode b_Mod_move 45 = .ok (.getfield 7, 3) := by decide +kernel
theorem d_Mod_move_48 : decode b_Mod_move 48 = .ok (.iload 6, 2) := by decide +kernel
theorem d_Mod_move_50 : decode b_Mod_move 50 = .ok (.iconst 1, 1) := by decide +kernel
theorem d_Mod_move_51 : decode b_Mod_move 51 = .ok (.iadd, 1) := by decide +kernel
theorem d_Mod_move_52 : decode b_Mod_move 52 = .ok (.iaload, 1) := by decide +kernel
theorem d_Mod_move_53 : decode b_Mod_move 53 = .ok (.i2l, 1) := by decide +kernel
theorem d_Mod_move_54 : decode b_Mod_move 54 = .ok (.lmul, 1) := by decide +kernel
theorem d_Mod_move_55 : decode b_Mod_move 55 = .ok (.ladd, 1) := by decide +kernel
theorem d_Mod_move_56 : decode b_Mod_move 56 = .ok (.ldc2_w 51, 3) := by decide +kernel
theorem d_Mod_move_59 : decode b_Mod_move 59 = .ok (.lrem, 1) := by decide +kernel
theorem d_Mod_move_60 : decode b_Mod_move 60 = .ok (.l2i, 1) := by decide +kernel
theorem d_Mod_move_61 : decode b_Mod_move 61 = .ok (.iastore, 1) := by decide +kernel
theorem d_Mod_move_62 : decode b_Mod_move 62 = .ok (.iinc 6 (-1), 3) := by decide +kernel
theorem d_Mod_move_65 : decode b_Mod_move 65 = .ok (.goto (-43), 3) := by decide +kernel
theorem d_Mod_move_68 : decode b_Mod_move 68 = .ok (.iinc 5 1, 3) := by decide +kernel
theorem d_Mod_move_71 : decode b_Mod_move 71 = .ok (.goto (-58), 3) := by decide +kernel
theorem d_Mod_move_74 : decode b_Mod_move 74 = .ok (.iconst 0, 1) := by decide +kernel
theorem d_Mod_move_75 : decode b_Mod_move 75 = .ok (.istore 5, 2) := by decide +kernel
theorem d_Mod_move_77 : decode b_Mod_move 77 = .ok (.iload 5, 2) := by decide +kernel
theorem d_Mod_move_79 : decode b_Mod_move 79 = .ok (.iconst 5, 1) := by decide +kernel
theorem d_Mod_move_80 : decode b_Mod_move 80 = .ok (.if_icmp .ge 58, 3) := by decide +kernel
theorem d_Mod_move_83 : decode b_Mod_move 83 = .ok (.iconst 3, 1) := by decide +kernel
theorem d_Mod_move_84 : decode b_Mod_move 84 = .ok (.istore 6, 2) := by decide +kernel
theorem d_Mod_move_86 : decode b_Mod_move 86 = .ok (.iload 6, 2) := by decide +kernel
theorem d_Mod_move_88 : decode b_Mod_move 88 = .ok (.iload 5, 2) := by decide +kernel
theorem d_Mod_move_90 : decode b_Mod_move 90 = .ok (.if_icmp .lt 42, 3) := by decide +kernel
theorem d_Mod_move_93 : decode b_Mod_move 93 = .ok (.aload_n 0, 1) := by decide +kernel
theorem d_Mod_move_94 : decode b_Mod_move 94 = .ok (.getfield 13, 3) := by decide +kernel
theorem d_Mod_move_97 : decode b_Mod_move 97 = .ok (.iload 6, 2) := by decide +kernel
theorem d_Mod_move_99 : decode b_Mod_move 99 = .ok (.aload_n 0, 1) := by decide +kernel
theorem d_Mod_move_100 : decode b_Mod_move 100 = .ok (.getfield 13, 3) := by decide +kernel
theorem d_Mod_move_103 : decode b_Mod_move 103 = .ok (.iload 6, 2) := by decide +kernel
theorem d_Mod_move_105 : decode b_Mod_move 105 = .ok (.iaload, 1) := by decide +kernel
theorem d_Mod_move_106 : decode b_Mod_move 106 = .ok (.i2l, 1) := by decide +kernel
theorem d_Mod_move_107 : decode b_Mod_move 107 = .ok (.lload_n 3, 1) := by decide +kernel
theorem d_Mod_move_108 : decode b_Mod_move 108 = .ok (.aload_n 0, 1) := by decide +kernel
theorem d_Mod_move_109 : decode b_Mod_move 109 = .ok (.getfield 13, 3) := by decide +kernel
theorem d_Mod_move_112 : decode b_Mod_move 112 = .ok (.iload 6, 2) := by decide +kernel
theorem d_Mod_move_114 : decode b_Mod_move 114 = .ok (.iconst 1, 1) := by decide +kernel
theorem d_Mod_move_115 : decode b_Mod_move 115 = .ok (.iadd, 1) := by decide +kernel
theorem d_Mod_move_116 : decode b_Mod_move 116 = .ok (.iaload, 1) := by decide +kernel
theorem d_Mod_move_117 : decode b_Mod_move 117 = .ok (.i2l, 1) := by decide +kernel
theorem d_Mod_move_118 : decode b_Mod_move 118 = .ok (.lmul, 1) := by decide +kernel
theorem d_Mod_move_119 : decode b_Mod_move 119 = .ok (.ladd, 1) := by decide +kernel
theorem d_Mod_move_120 : decode b_Mod_move 120 = .ok (.ldc2_w 51, 3) := by decide +kernel
theorem d_Mod_move_123 : decode b_Mod_move 123 = .ok (.lrem, 1) := by decide +kernel
theorem d_Mod_move_124 : decode b_Mod_move 124 = .ok (.l2i, 1) := by decide +kernel
theorem d_Mod_move_125 : decode b_Mod_move 125 = .ok (.iastore, 1) := by decide +kernel
theorem d_Mod_move_126 : decode b_Mod_move 126 = .ok (.iinc 6 (-1), 3) := by decide +kernel
theorem d_Mod_move_129 : decode b_Mod_move 129 = .ok (.goto (-43), 3) := by decide +kernel
theorem d_Mod_move_132 : decode b_Mod_move 132 = .ok (.iinc 5 1, 3) := by decide +kernel
theorem d_Mod_move_135 : decode b_Mod_move 135 = .ok (.goto (-58), 3) := by decide +kernel
theorem d_Mod_move_138 : decode b_Mod_move 138 = .ok (.return_, 1) := by decide +kernel
theorem d_Mod_findRest_0 : decode b_Mod_findRest 0 = .ok (.ldc2_w 59, 3) := by decide +kernel
theorem d_Mod_findRest_3 : decode b_Mod_findRest 3 = .ok (.invokestatic 68, 3) := by decide +kernel
theorem d_Mod_findRest_6 : decode b_Mod_findRest 6 = .ok (.lstore_n 1, 1) := by decide +kernel
theorem d_Mod_findRest_7 : decode b_Mod_findRest 7 = .ok (.ldc2_w 57, 3) := by decide +kernel
theorem d_Mod_findRest_10 : decode b_Mod_findRest 10 = .ok (.invokestatic 68, 3) := by decide +kernel
theorem d_Mod_findRest_13 : decode b_Mod_findRest 13 = .ok (.lstore_n 3, 1) := by decide +kernel
theorem d_Mod_findRest_14 : decode b_Mod_findRest 14 = .ok (.iconst 0, 1) := by decide +kernel
theorem d_Mod_findRest_15 : decode b_Mod_findRest 15 = .ok (.istore 5, 2) := by decide +kernel
theorem d_Mod_findRest_17 : decode b_Mod_findRest 17 = .ok (.iload 5, 2) := by decide +kernel
theorem d_Mod_findRest_19 : decode b_Mod_findRest 19 = .ok (.iconst 5, 1) := by decide +kernel
theorem d_Mod_findRest_20 : decode b_Mod_findRest 20 = .ok (.if_icmp .ge 132, 3) := by decide +kernel
theorem d_Mod_findRest_23 : decode b_Mod_findRest 23 = .ok (.lconst 0, 1) := by decide +kernel
theorem d_Mod_findRest_24 : decode b_Mod_findRest 24 = .ok (.lstore 6, 2) := by decide +kernel
theorem d_Mod_findRest_26 : decode b_Mod_findRest 26 = .ok (.iconst 0, 1) := by decide +kernel
theorem d_Mod_findRest_27 : decode b_Mod_findRest 27 = .ok (.istore 8, 2) := by decide +kernel
theorem d_Mod_findRest_29 : decode b_Mod_findRest 29 = .ok (.iload 8, 2) := by decide +kernel
theorem d_Mod_findRest_31 : decode b_Mod_findRest 31 = .ok (.iconst 3, 1) := by decide +kernel
theorem d_Mod_findRest_32 : decode b_Mod_findRest 32 = .ok (.if_icmp .ge 54, 3) := by decide +kernel
theorem d_Mod_findRest_35 : decode b_Mod_findRest 35 = .ok (.iload 5, 2) := by decide +kernel
theorem d_Mod_findRest_37 : decode b_Mod_findRest 37 = .ok (.iload 8, 2) := by decide +kernel
theorem d_Mod_findRest_39 : decode b_Mod_findRest 39 = .ok (.isub, 1) := by decide +kernel
theorem d_Mod_findRest_40 : decode b_Mod_findRest 40 = .ok (.i2l, 1) := by decide +kernel
theorem d_Mod_findRest_41 : decode b_Mod_findRest 41 = .ok (.lconst 0, 1) := by decide +kernel
theorem d_Mod_findRest_42 : decode b_Mod_findRest 42 = .ok (.ldc2_w 57, 3) := by decide +kernel
theorem d_Mod_findRest_45 : decode b_Mod_findRest 45 = .ok (.invokestatic 53, 3) := by decide +kernel
theorem d_Mod_findRest_48 : decode b_Mod_findRest 48 = .ok (.ifCond .eq 32, 3) := by decide +kernel
theorem d_Mod_findRest_51 : decode b_Mod_findRest 51 = .ok (.lload 6, 2) := by decide +kernel
theorem d_Mod_findRest_53 : decode b_Mod_findRest 53 = .ok (.aload_n 0, 1) := by decide +kernel
theorem d_Mod_findRest_54 : decode b_Mod_findRest 54 = .ok (.getfield 7, 3) := by decide +kernel
theorem d_Mod_findRest_57 : decode b_Mod_findRest 57 = .ok (.iload 8, 2) := by decide +kernel
theorem d_Mod_findRest_59 : decode b_Mod_findRest 59 = .ok (.iaload, 1) := by decide +kernel
theorem d_Mod_findRest_60 : decode b_Mod_findRest 60 = .ok (.i2l, 1) := by decide +kernel
theorem d_Mod_findRest_61 : decode b_Mod_findRest 61 = .ok (.aload_n 0, 1) := by decide +kernel
theorem d_Mod_findRest_62 : decode b_Mod_findRest 62 = .ok (.getfield 7, 3) := by decide +kernel
theorem d_Mod_findRest_65 : decode b_Mod_findRest 65 = .ok (.iload 5, 2) := by decide +kernel
theorem d_Mod_findRest_67 : decode b_Mod_findRest 67 = .ok (.iload 8, 2) := by decide +kernel
theorem d_Mod_findRest_69 : decode b_Mod_findRest 69 = .ok (.isub, 1) := by decide +kernel
theorem d_Mod_findRest_70 : decode b_Mod_findRest 70 = .ok (.iaload, 1) := by decide +kernel
theorem d_Mod_findRest_71 : decode b_Mod_findRest 71 = .ok (.i2l, 1) := by decide +kernel
theorem d_Mod_findRest_72 : decode b_Mod_findRest 72 = .ok (.lmul, 1) := by decide +kernel
theorem d_Mod_findRest_73 : decode b_Mod_findRest 73 = .ok (.ladd, 1) := by decide +kernel
theorem d_Mod_findRest_74 : decode b_Mod_findRest 74 = .ok (.ldc2_w 51, 3) := by decide +kernel
theorem d_Mod_findRest_77 : decode b_Mod_findRest 77 = .ok (.lrem, 1) := by decide +kernel
theorem d_Mod_findRest_78 : decode b_Mod_findRest 78 = .ok (.lstore 6, 2) := by decide +kernel
theorem d_Mod_findRest_80 : decode b_Mod_findRest 80 = .ok (.iinc 8 1, 3) := by decide +kernel
theorem d_Mod_findRest_83 : decode b_Mod_findRest 83 = .ok (.goto (-54), 3) := by decide +kernel
theorem d_Mod_findRest_86 : decode b_Mod_findRest 86 = .ok (.iload 5, 2) := by decide +kernel
theorem d_Mod_findRest_88 : decode b_Mod_findRest 88 = .ok (.iconst 2, 1) := by decide +kernel
theorem d_Mod_findRest_89 : decode b_Mod_findRest 89 = .ok (.if_icmp .ge 22, 3) := by decide +kernel
theorem d_Mod_findRest_92 : decode b_Mod_findRest 92 = .ok (.iload 5, 2) := by decide +kernel
theorem d_Mod_findRest_94 : decode b_Mod_findRest 94 = .ok (.i2l, 1) := by decide +kernel
theorem d_Mod_findRest_95 : decode b_Mod_findRest 95 = .ok (.lconst 1, 1) := by decide +kernel
theorem d_Mod_findRest_96 : decode b_Mod_findRest 96 = .ok (.ladd, 1) := by decide +kernel
theorem d_Mod_findRest_97 : decode b_Mod_findRest 97 = .ok (.aload_n 0, 1) := by decide +kernel
theorem d_Mod_findRest_98 : decode b_Mod_findRest 98 = .ok (.getfield 7, 3) := by decide +kernel
theorem d_Mod_findRest_101 : decode b_Mod_findRest 101 = .ok (.iload 5, 2) := by decide +kernel
theorem d_Mod_findRest_103 : decode b_Mod_findRest 103 = .ok (.iconst 1, 1) := by decide +kernel
theorem d_Mod_findRest_104 : decode b_Mod_findRest 104 = .ok (.iadd, 1) := by decide +kernel
theorem d_Mod_findRest_105 : decode b_Mod_findRest 105 = .ok (.iaload, 1) := by decide +kernel
theorem d_Mod_findRest_106 : decode b_Mod_findRest 106 = .ok (.i2l, 1) := by decide +kernel
theorem d_Mod_findRest_107 : decode b_Mod_findRest 107 = .ok (.lmul, 1) := by decide +kernel
theorem d_Mod_findRest_108 : decode b_Mod_findRest 108 = .ok (.goto 4, 3) := by decide +kernel
theorem d_Mod_findRest_111 : decode b_Mod_findRest 111 = .ok (.lconst 0, 1) := by decide +kernel
theorem d_Mod_findRest_112 : decode b_Mod_findRest 112 = .ok (.lstore 8, 2) := by decide +kernel
theorem d_Mod_findRest_114 : decode b_Mod_findRest 114 = .ok (.aload_n 0, 1) := by decide +kernel
theorem d_Mod_findRest_115 : decode b_Mod_findRest 115 = .ok (.getfield 16, 3) := by decide +kernel
theorem d_Mod_findRest_118 : decode b_Mod_findRest 118 = .ok (.iload 5, 2) := by decide +kernel
theorem d_Mod_findRest_120 : decode b_Mod_findRest 120 = .ok (.lload 6, 2) := by decide +kernel
theorem d_Mod_findRest_122 : decode b_Mod_findRest 122 = .ok (.lload_n 1, 1) := by decide +kernel
theorem d_Mod_findRest_123 : decode b_Mod_findRest 123 = .ok (.lmul, 1) := by decide +kernel
theorem d_Mod_findRest_124 : decode b_Mod_findRest 124 = .ok (.lload 8, 2) := by decide +kernel
theorem d_Mod_findRest_126 : decode b_Mod_findRest 126 = .ok (.ldc2_w 51, 3) := by decide +kernel
theorem d_Mod_findRest_129 : decode b_Mod_findRest 129 = .ok (.lrem, 1) := by decide +kernel
theorem d_Mod_findRest_130 : decode b_Mod_findRest 130 = .ok (.lload_n 3, 1) := by decide +kernel
theorem d_Mod_findRest_131 : decode b_Mod_findRest 131 = .ok (.lmul, 1) := by decide +kernel
theorem d_Mod_findRest_132 : decode b_Mod_findRest 132 = .ok (.ladd, 1) := by decide +kernel
theorem d_Mod_findRest_133 : decode b_Mod_findRest 133 = .ok (.aload_n 0, 1) := by decide +kernel
theorem d_Mod_findRest_134 : decode b_Mod_findRest 134 = .ok (.getfield 13, 3) := by decide +kernel
theorem d_Mod_findRest_137 : decode b_Mod_findRest 137 = .ok (.iload 5, 2) := by decide +kernel
theorem d_Mod_findRest_139 : decode b_Mod_findRest 139 = .ok (.iaload, 1) := by decide +kernel
theorem d_Mod_findRest_140 : decode b_Mod_findRest 140 = .ok (.i2l, 1) := by decide +kernel
theorem d_Mod_findRest_141 : decode b_Mod_findRest 141 = .ok (.lsub, 1) := by decide +kernel
theorem d_Mod_findRest_142 : decode b_Mod_findRest 142 = .ok (.invokestatic 61, 3) := by decide +kernel
theorem d_Mod_findRest_145 : decode b_Mod_findRest 145 = .ok (.lastore, 1) := by decide +kernel
theorem d_Mod_findRest_146 : decode b_Mod_findRest 146 = .ok (.iinc 5 1, 3) := by decide +kernel
theorem d_Mod_findRest_149 : decode b_Mod_findRest 149 = .ok (.goto (-132), 3) := by decide +kernel
theorem d_Mod_findRest_152 : decode b_Mod_findRest 152 = .ok (.return_, 1) := by decide +kernel
theorem d_Mod_high_0 : decode b_Mod_high 0 = .ok (.iconst 4, 1) := by decide +kernel
theorem d_Mod_high_1 : decode b_Mod_high 1 = .ok (.istore_n 1, 1) := by decide +kernel
theorem d_Mod_high_2 : decode b_Mod_high 2 = .ok (.iload_n 1, 1) := by decide +kernel
theorem d_Mod_high_3 : decode b_Mod_high 3 = .ok (.ifCond .lt 20, 3) := by decide +kernel
theorem d_Mod_high_6 : decode b_Mod_high 6 = .ok (.aload_n 0, 1) := by decide +kernel
theorem d_Mod_high_7 : decode b_Mod_high 7 = .ok (.getfield 16, 3) := by decide +kernel
theorem d_Mod_high_10 : decode b_Mod_high 10 = .ok (.iload_n 1, 1) := by decide +kernel
theorem d_Mod_high_11 : decode b_Mod_high 11 = .ok (.laload, 1) := by decide +kernel
theorem d_Mod_high_12 : decode b_Mod_high 12 = .ok (.lconst 0, 1) := by decide +kernel
theorem d_Mod_high_13 : decode b_Mod_high 13 = .ok (.lcmp, 1) := by decide +kernel
theorem d_Mod_high_14 : decode b_Mod_high 14 = .ok (.ifCond .ne 9, 3) := by decide +kernel
theorem d_Mod_high_17 : decode b_Mod_high 17 = .ok (.iinc 1 (-1), 3) := by decide +kernel
theorem d_Mod_high_20 : decode b_Mod_high 20 = .ok (.goto (-18), 3) := by decide +kernel
theorem d_Mod_high_23 : decode b_Mod_high 23 = .ok (.iload_n 1, 1) := by decide +kernel
theorem d_Mod_high_24 : decode b_Mod_high 24 = .ok (.ireturn, 1) := by decide +kernel
theorem d_Mod_find_0 : decode b_Mod_find 0 = .ok (.aload_n 0, 1) := by decide +kernel
theorem d_Mod_find_1 : decode b_Mod_find 1 = .ok (.invokevirtual 65, 3) := by decide +kernel
theorem d_Mod_find_4 : decode b_Mod_find 4 = .ok (.aload_n 0, 1) := by decide +kernel
theorem d_Mod_find_5 : decode b_Mod_find 5 = .ok (.invokevirtual 71, 3) := by decide +kernel
theorem d_Mod_find_8 : decode b_Mod_find 8 = .ok (.istore_n 1, 1) := by decide +kernel
theorem d_Mod_find_9 : decode b_Mod_find 9 = .ok (.iload_n 1, 1) := by decide +kernel
theorem d_Mod_find_10 : decode b_Mod_find 10 = .ok (.ifCond .ge 5, 3) := by decide +kernel
theorem d_Mod_find_13 : decode b_Mod_find 13 = .ok (.iconst 0, 1) := by decide +kernel
theorem d_Mod_find_14 : decode b_Mod_find 14 = .ok (.ireturn, 1) := by decide +kernel
theorem d_Mod_find_15 : decode b_Mod_find 15 = .ok (.iload_n 1, 1) := by decide +kernel
theorem d_Mod_find_16 : decode b_Mod_find 16 = .ok (.iconst 2, 1) := by decide +kernel
theorem d_Mod_find_17 : decode b_Mod_find 17 = .ok (.irem, 1) := by decide +kernel
theorem d_Mod_find_18 : decode b_Mod_find 18 = .ok (.iconst 1, 1) := by decide +kernel
theorem d_Mod_find_19 : decode b_Mod_find 19 = .ok (.if_icmp .ne 5, 3) := by decide +kernel
theorem d_Mod_find_22 : decode b_Mod_find 22 = .ok (.iconst 1, 1) := by decide +kernel
theorem d_Mod_find_23 : decode b_Mod_find 23 = .ok (.ireturn, 1) := by decide +kernel
theorem d_Mod_find_24 : decode b_Mod_find 24 = .ok (.iconst 0, 1) := by decide +kernel
theorem d_Mod_find_25 : decode b_Mod_find 25 = .ok (.istore_n 2, 1) := by decide +kernel
theorem d_Mod_find_26 : decode b_Mod_find 26 = .ok (.iconst 1, 1) := by decide +kernel
theorem d_Mod_find_27 : decode b_Mod_find 27 = .ok (.istore_n 3, 1) := by decide +kernel
theorem d_Mod_find_28 : decode b_Mod_find 28 = .ok (.iload_n 3, 1) := by decide +kernel
theorem d_Mod_find_29 : decode b_Mod_find 29 = .ok (.sipush 32003, 3) := by decide +kernel
theorem d_Mod_find_32 : decode b_Mod_find 32 = .ok (.if_icmp .ge 46, 3) := by decide +kernel
theorem d_Mod_find_35 : decode b_Mod_find 35 = .ok (.iload_n 2, 1) := by decide +kernel
theorem d_Mod_find_36 : decode b_Mod_find 36 = .ok (.iconst 2, 1) := by decide +kernel
theorem d_Mod_find_37 : decode b_Mod_find 37 = .ok (.if_icmp .ge 41, 3) := by decide +kernel
theorem d_Mod_find_40 : decode b_Mod_find 40 = .ok (.iload_n 3, 1) := by decide +kernel
theorem d_Mod_find_41 : decode b_Mod_find 41 = .ok (.i2l, 1) := by decide +kernel
theorem d_Mod_find_42 : decode b_Mod_find 42 = .ok (.iload_n 3, 1) := by decide +kernel
theorem d_Mod_find_43 : decode b_Mod_find 43 = .ok (.i2l, 1) := by decide +kernel
theorem d_Mod_find_44 : decode b_Mod_find 44 = .ok (.lmul, 1) := by decide +kernel
theorem d_Mod_find_45 : decode b_Mod_find 45 = .ok (.ldc2_w 51, 3) := by decide +kernel
theorem d_Mod_find_48 : decode b_Mod_find 48 = .ok (.lrem, 1) := by decide +kernel
theorem d_Mod_find_49 : decode b_Mod_find 49 = .ok (.aload_n 0, 1) := by decide +kernel
theorem d_Mod_find_50 : decode b_Mod_find 50 = .ok (.getfield 16, 3) := by decide +kernel
theorem d_Mod_find_53 : decode b_Mod_find 53 = .ok (.iload_n 1, 1) := by decide +kernel
theorem d_Mod_find_54 : decode b_Mod_find 54 = .ok (.laload, 1) := by decide +kernel
theorem d_Mod_find_55 : decode b_Mod_find 55 = .ok (.lcmp, 1) := by decide +kernel
theorem d_Mod_find_56 : decode b_Mod_find 56 = .ok (.ifCond .eq 6, 3) := by decide +kernel
theorem d_Mod_find_59 : decode b_Mod_find 59 = .ok (.goto 13, 3) := by decide +kernel
theorem d_Mod_find_62 : decode b_Mod_find 62 = .ok (.aload_n 0, 1) := by decide +kernel
theorem d_Mod_find_63 : decode b_Mod_find 63 = .ok (.getfield 44, 3) := by decide +kernel
theorem d_Mod_find_66 : decode b_Mod_find 66 = .ok (.iload_n 2, 1) := by decide +kernel
theorem d_Mod_find_67 : decode b_Mod_find 67 = .ok (.iload_n 3, 1) := by decide +kernel
theorem d_Mod_find_68 : decode b_Mod_find 68 = .ok (.iastore, 1) := by decide +kernel
theorem d_Mod_find_69 : decode b_Mod_find 69 = .ok (.iinc 2 1, 3) := by decide +kernel
theorem d_Mod_find_72 : decode b_Mod_find 72 = .ok (.iinc 3 1, 3) := by decide +kernel
theorem d_Mod_find_75 : decode b_Mod_find 75 = .ok (.goto (-47), 3) := by decide +kernel
theorem d_Mod_find_78 : decode b_Mod_find 78 = .ok (.iload_n 2, 1) := by decide +kernel
theorem d_Mod_find_79 : decode b_Mod_find 79 = .ok (.ifCond .ne 7, 3) := by decide +kernel
theorem d_Mod_find_82 : decode b_Mod_find 82 = .ok (.iconst 2, 1) := by decide +kernel
theorem d_Mod_find_83 : decode b_Mod_find 83 = .ok (.goto 4, 3) := by decide +kernel
theorem d_Mod_find_86 : decode b_Mod_find 86 = .ok (.iconst 3, 1) := by decide +kernel
theorem d_Mod_find_87 : decode b_Mod_find 87 = .ok (.ireturn, 1) := by decide +kernel
theorem d_Mod_kind_0 : decode b_Mod_kind 0 = .ok (.aload_n 0, 1) := by decide +kernel
theorem d_Mod_kind_1 : decode b_Mod_kind 1 = .ok (.iconst 0, 1) := by decide +kernel
theorem d_Mod_kind_2 : decode b_Mod_kind 2 = .ok (.putfield 47, 3) := by decide +kernel
theorem d_Mod_kind_5 : decode b_Mod_kind 5 = .ok (.aload_n 0, 1) := by decide +kernel
theorem d_Mod_kind_6 : decode b_Mod_kind 6 = .ok (.invokevirtual 75, 3) := by decide +kernel
theorem d_Mod_kind_9 : decode b_Mod_kind 9 = .ok (.ireturn, 1) := by decide +kernel
theorem d_Mod_take_0 : decode b_Mod_take 0 = .ok (.aload_n 0, 1) := by decide +kernel
theorem d_Mod_take_1 : decode b_Mod_take 1 = .ok (.invokevirtual 71, 3) := by decide +kernel
theorem d_Mod_take_4 : decode b_Mod_take 4 = .ok (.iconst 2, 1) := by decide +kernel
theorem d_Mod_take_5 : decode b_Mod_take 5 = .ok (.idiv, 1) := by decide +kernel
theorem d_Mod_take_6 : decode b_Mod_take 6 = .ok (.istore_n 2, 1) := by decide +kernel
theorem d_Mod_take_7 : decode b_Mod_take 7 = .ok (.aload_n 0, 1) := by decide +kernel
theorem d_Mod_take_8 : decode b_Mod_take 8 = .ok (.getfield 44, 3) := by decide +kernel
theorem d_Mod_take_11 : decode b_Mod_take 11 = .ok (.iload_n 1, 1) := by decide +kernel
theorem d_Mod_take_12 : decode b_Mod_take 12 = .ok (.iaload, 1) := by decide +kernel
theorem d_Mod_take_13 : decode b_Mod_take 13 = .ok (.i2l, 1) := by decide +kernel
theorem d_Mod_take_14 : decode b_Mod_take 14 = .ok (.lstore_n 3, 1) := by decide +kernel
theorem d_Mod_take_15 : decode b_Mod_take 15 = .ok (.ldc2_w 57, 3) := by decide +kernel
theorem d_Mod_take_18 : decode b_Mod_take 18 = .ok (.lload_n 3, 1) := by decide +kernel
theorem d_Mod_take_19 : decode b_Mod_take 19 = .ok (.lmul, 1) := by decide +kernel
theorem d_Mod_take_20 : decode b_Mod_take 20 = .ok (.ldc2_w 51, 3) := by decide +kernel
theorem d_Mod_take_23 : decode b_Mod_take 23 = .ok (.lrem, 1) := by decide +kernel
theorem d_Mod_take_24 : decode b_Mod_take 24 = .ok (.invokestatic 68, 3) := by decide +kernel
theorem d_Mod_take_27 : decode b_Mod_take 27 = .ok (.lstore 5, 2) := by decide +kernel
theorem d_Mod_take_29 : decode b_Mod_take 29 = .ok (.iconst 0, 1) := by decide +kernel
theorem d_Mod_take_30 : decode b_Mod_take 30 = .ok (.istore 7, 2) := by decide +kernel
theorem d_Mod_take_32 : decode b_Mod_take 32 = .ok (.iload 7, 2) := by decide +kernel
theorem d_Mod_take_34 : decode b_Mod_take 34 = .ok (.iconst 3, 1) := by decide +kernel
theorem d_Mod_take_35 : decode b_Mod_take 35 = .ok (.if_icmp .ge 27, 3) := by decide +kernel
theorem d_Mod_take_38 : decode b_Mod_take 38 = .ok (.aload_n 0, 1) := by decide +kernel
theorem d_Mod_take_39 : decode b_Mod_take 39 = .ok (.getfield 20, 3) := by decide +kernel
theorem d_Mod_take_42 : decode b_Mod_take 42 = .ok (.iload 7, 2) := by decide +kernel
theorem d_Mod_take_44 : decode b_Mod_take 44 = .ok (.iload 7, 2) := by decide +kernel
theorem d_Mod_take_46 : decode b_Mod_take 46 = .ok (.iload_n 2, 1) := by decide +kernel
theorem d_Mod_take_47 : decode b_Mod_take 47 = .ok (.if_icmp .ne 7, 3) := by decide +kernel
theorem d_Mod_take_50 : decode b_Mod_take 50 = .ok (.lload_n 3, 1) := by decide +kernel
theorem d_Mod_take_51 : decode b_Mod_take 51 = .ok (.goto 4, 3) := by decide +kernel
theorem d_Mod_take_54 : decode b_Mod_take 54 = .ok (.lconst 0, 1) := by decide +kernel
theorem d_Mod_take_55 : decode b_Mod_take 55 = .ok (.lastore, 1) := by decide +kernel
theorem d_Mod_take_56 : decode b_Mod_take 56 = .ok (.iinc 7 1, 3) := by decide +kernel
theorem d_Mod_take_59 : decode b_Mod_take 59 = .ok (.goto (-27), 3) := by decide +kernel
theorem d_Mod_take_62 : decode b_Mod_take 62 = .ok (.iload_n 2, 1) := by decide +kernel
theorem d_Mod_take_63 : decode b_Mod_take 63 = .ok (.iconst 1, 1) := by decide +kernel
theorem d_Mod_take_64 : decode b_Mod_take 64 = .ok (.isub, 1) := by decide +kernel
theorem d_Mod_take_65 : decode b_Mod_take 65 = .ok (.istore 7, 2) := by decide +kernel
theorem d_Mod_take_67 : decode b_Mod_take 67 = .ok (.iload 7, 2) := by decide +kernel
theorem d_Mod_take_69 : decode b_Mod_take 69 = .ok (.ifCond .lt 97, 3) := by decide +kernel
theorem d_Mod_take_72 : decode b_Mod_take 72 = .ok (.aload_n 0, 1) := by decide +kernel
theorem d_Mod_take_73 : decode b_Mod_take 73 = .ok (.getfield 16, 3) := by decide +kernel
theorem d_Mod_take_76 : decode b_Mod_take 76 = .ok (.iload_n 2, 1) := by decide +kernel
theorem d_Mod_take_77 : decode b_Mod_take 77 = .ok (.iload 7, 2) := by decide +kernel
theorem d_Mod_take_79 : decode b_Mod_take 79 = .ok (.iadd, 1) := by decide +kernel
theorem d_Mod_take_80 : decode b_Mod_take 80 = .ok (.laload, 1) := by decide +kernel
theorem d_Mod_take_81 : decode b_Mod_take 81 = .ok (.lstore 8, 2) := by decide +kernel
theorem d_Mod_take_83 : decode b_Mod_take 83 = .ok (.iconst 0, 1) := by decide +kernel
theorem d_Mod_take_84 : decode b_Mod_take 84 = .ok (.istore 10, 2) := by decide +kernel
theorem d_Mod_take_86 : decode b_Mod_take 86 = .ok (.iload 10, 2) := by decide +kernel
theorem d_Mod_take_88 : decode b_Mod_take 88 = .ok (.iconst 3, 1) := by decide +kernel
theorem d_Mod_take_89 : decode b_Mod_take 89 = .ok (.if_icmp .ge 55, 3) := by decide +kernel
theorem d_Mod_take_92 : decode b_Mod_take 92 = .ok (.iload_n 2, 1) := by decide +kernel
theorem d_Mod_take_93 : decode b_Mod_take 93 = .ok (.iload 7, 2) := by decide +kernel
theorem d_Mod_take_95 : decode b_Mod_take 95 = .ok (.iadd, 1) := by decide +kernel
theorem d_Mod_take_96 : decode b_Mod_take 96 = .ok (.iload 10, 2) := by decide +kernel
theorem d_Mod_take_98 : decode b_Mod_take 98 = .ok (.isub, 1) := by decide +kernel
theorem d_Mod_take_99 : decode b_Mod_take 99 = .ok (.i2l, 1) := by decide +kernel
theorem d_Mod_take_100 : decode b_Mod_take 100 = .ok (.lconst 0, 1) := by decide +kernel
theorem d_Mod_take_101 : decode b_Mod_take 101 = .ok (.ldc2_w 57, 3) := by decide +kernel
theorem d_Mod_take_104 : decode b_Mod_take 104 = .ok (.invokestatic 53, 3) := by decide +kernel
theorem d_Mod_take_107 : decode b_Mod_take 107 = .ok (.ifCond .eq 31, 3) := by decide +kernel
theorem d_Mod_take_110 : decode b_Mod_take 110 = .ok (.lload 8, 2) := by decide +kernel
theorem d_Mod_take_112 : decode b_Mod_take 112 = .ok (.aload_n 0, 1) := by decide +kernel
theorem d_Mod_take_113 : decode b_Mod_take 113 = .ok (.getfield 20, 3) := by decide +kernel
theorem d_Mod_take_116 : decode b_Mod_take 116 = .ok (.iload 10, 2) := by decide +kernel
theorem d_Mod_take_118 : decode b_Mod_take 118 = .ok (.laload, 1) := by decide +kernel
theorem d_Mod_take_119 : decode b_Mod_take 119 = .ok (.aload_n 0, 1) := by decide +kernel
theorem d_Mod_take_120 : decode b_Mod_take 120 = .ok (.getfield 20, 3) := by decide +kernel
theorem d_Mod_take_123 : decode b_Mod_take 123 = .ok (.iload_n 2, 1) := by decide +kernel
theorem d_Mod_take_124 : decode b_Mod_take 124 = .ok (.iload 7, 2) := by decide +kernel
theorem d_Mod_take_126 : decode b_Mod_take 126 = .ok (.iadd, 1) := by decide +kernel
theorem d_Mod_take_127 : decode b_Mod_take 127 = .ok (.iload 10, 2) := by decide +kernel
theorem d_Mod_take_129 : decode b_Mod_take 129 = .ok (.isub, 1) := by decide +kernel
theorem d_Mod_take_130 : decode b_Mod_take 130 = .ok (.laload, 1) := by decide +kernel
theorem d_Mod_take_131 : decode b_Mod_take 131 = .ok (.lmul, 1) := by decide +kernel
theorem d_Mod_take_132 : decode b_Mod_take 132 = .ok (.lsub, 1) := by decide +kernel
theorem d_Mod_take_133 : decode b_Mod_take 133 = .ok (.invokestatic 61, 3) := by decide +kernel
theorem d_Mod_take_136 : decode b_Mod_take 136 = .ok (.lstore 8, 2) := by decide +kernel
theorem d_Mod_take_138 : decode b_Mod_take 138 = .ok (.iinc 10 1, 3) := by decide +kernel
theorem d_Mod_take_141 : decode b_Mod_take 141 = .ok (.goto (-55), 3) := by decide +kernel
theorem d_Mod_take_144 : decode b_Mod_take 144 = .ok (.aload_n 0, 1) := by decide +kernel
theorem d_Mod_take_145 : decode b_Mod_take 145 = .ok (.getfield 20, 3) := by decide +kernel
theorem d_Mod_take_148 : decode b_Mod_take 148 = .ok (.iload 7, 2) := by decide +kernel
theorem d_Mod_take_150 : decode b_Mod_take 150 = .ok (.lload 8, 2) := by decide +kernel
theorem d_Mod_take_152 : decode b_Mod_take 152 = .ok (.lload 5, 2) := by decide +kernel
theorem d_Mod_take_154 : decode b_Mod_take 154 = .ok (.lmul, 1) := by decide +kernel
theorem d_Mod_take_155 : decode b_Mod_take 155 = .ok (.ldc2_w 51, 3) := by decide +kernel
theorem d_Mod_take_158 : decode b_Mod_take 158 = .ok (.lrem, 1) := by decide +kernel
theorem d_Mod_take_159 : decode b_Mod_take 159 = .ok (.lastore, 1) := by decide +kernel
theorem d_Mod_take_160 : decode b_Mod_take 160 = .ok (.iinc 7 (-1), 3) := by decide +kernel
theorem d_Mod_take_163 : decode b_Mod_take 163 = .ok (.goto (-96), 3) := by decide +kernel
theorem d_Mod_take_166 : decode b_Mod_take 166 = .ok (.iconst 0, 1) := by decide +kernel
theorem d_Mod_take_167 : decode b_Mod_take 167 = .ok (.istore 7, 2) := by decide +kernel
theorem d_Mod_take_169 : decode b_Mod_take 169 = .ok (.iload 7, 2) := by decide +kernel
theorem d_Mod_take_171 : decode b_Mod_take 171 = .ok (.iconst 5, 1) := by decide +kernel
theorem d_Mod_take_172 : decode b_Mod_take 172 = .ok (.if_icmp .ge 84, 3) := by decide +kernel
theorem d_Mod_take_175 : decode b_Mod_take 175 = .ok (.aload_n 0, 1) := by decide +kernel
theorem d_Mod_take_176 : decode b_Mod_take 176 = .ok (.getfield 16, 3) := by decide +kernel
theorem d_Mod_take_179 : decode b_Mod_take 179 = .ok (.iload 7, 2) := by decide +kernel
theorem d_Mod_take_181 : decode b_Mod_take 181 = .ok (.laload, 1) := by decide +kernel
theorem d_Mod_take_182 : decode b_Mod_take 182 = .ok (.lstore 8, 2) := by decide +kernel
theorem d_Mod_take_184 : decode b_Mod_take 184 = .ok (.iconst 0, 1) := by decide +kernel
theorem d_Mod_take_185 : decode b_Mod_take 185 = .ok (.istore 10, 2) := by decide +kernel
theorem d_Mod_take_187 : decode b_Mod_take 187 = .ok (.iload 10, 2) := by decide +kernel
theorem d_Mod_take_189 : decode b_Mod_take 189 = .ok (.iconst 3, 1) := by decide +kernel
theorem d_Mod_take_190 : decode b_Mod_take 190 = .ok (.if_icmp .ge 51, 3) := by decide +kernel
theorem d_Mod_take_193 : decode b_Mod_take 193 = .ok (.iload 7, 2) := by decide +kernel
theorem d_Mod_take_195 : decode b_Mod_take 195 = .ok (.iload 10, 2) := by decide +kernel
theorem d_Mod_take_197 : decode b_Mod_take 197 = .ok (.isub, 1) := by decide +kernel
theorem d_Mod_take_198 : decode b_Mod_take 198 = .ok (.i2l, 1) := by decide +kernel
theorem d_Mod_take_199 : decode b_Mod_take 199 = .ok (.lconst 0, 1) := by decide +kernel
theorem d_Mod_take_200 : decode b_Mod_take 200 = .ok (.ldc2_w 57, 3) := by decide +kernel
theorem d_Mod_take_203 : decode b_Mod_take 203 = .ok (.invokestatic 53, 3) := by decide +kernel
theorem d_Mod_take_206 : decode b_Mod_take 206 = .ok (.ifCond .eq 29, 3) := by decide +kernel
theorem d_Mod_take_209 : decode b_Mod_take 209 = .ok (.lload 8, 2) := by decide +kernel
theorem d_Mod_take_211 : decode b_Mod_take 211 = .ok (.aload_n 0, 1) := by decide +kernel
theorem d_Mod_take_212 : decode b_Mod_take 212 = .ok (.getfield 20, 3) := by decide +kernel
theorem d_Mod_take_215 : decode b_Mod_take 215 = .ok (.iload 10, 2) := by decide +kernel
theorem d_Mod_take_217 : decode b_Mod_take 217 = .ok (.laload, 1) := by decide +kernel
theorem d_Mod_take_218 : decode b_Mod_take 218 = .ok (.aload_n 0, 1) := by decide +kernel
theorem d_Mod_take_219 : decode b_Mod_take 219 = .ok (.getfield 20, 3) := by decide +kernel
theorem d_Mod_take_222 : decode b_Mod_take 222 = .ok (.iload 7, 2) := by decide +kernel
theorem d_Mod_take_224 : decode b_Mod_take 224 = .ok (.iload 10, 2) := by decide +kernel
theorem d_Mod_take_226 : decode b_Mod_take 226 = .ok (.isub, 1) := by decide +kernel
theorem d_Mod_take_227 : decode b_Mod_take 227 = .ok (.laload, 1) := by decide +kernel
theorem d_Mod_take_228 : decode b_Mod_take 228 = .ok (.lmul, 1) := by decide +kernel
theorem d_Mod_take_229 : decode b_Mod_take 229 = .ok (.lsub, 1) := by decide +kernel
theorem d_Mod_take_230 : decode b_Mod_take 230 = .ok (.invokestatic 61, 3) := by decide +kernel
theorem d_Mod_take_233 : decode b_Mod_take 233 = .ok (.lstore 8, 2) := by decide +kernel
theorem d_Mod_take_235 : decode b_Mod_take 235 = .ok (.iinc 10 1, 3) := by decide +kernel
theorem d_Mod_take_238 : decode b_Mod_take 238 = .ok (.goto (-51), 3) := by decide +kernel
theorem d_Mod_take_241 : decode b_Mod_take 241 = .ok (.aload_n 0, 1) := by decide +kernel
theorem d_Mod_take_242 : decode b_Mod_take 242 = .ok (.getfield 23, 3) := by decide +kernel
theorem d_Mod_take_245 : decode b_Mod_take 245 = .ok (.iload 7, 2) := by decide +kernel
theorem d_Mod_take_247 : decode b_Mod_take 247 = .ok (.lload 8, 2) := by decide +kernel
theorem d_Mod_take_249 : decode b_Mod_take 249 = .ok (.lastore, 1) := by decide +kernel
theorem d_Mod_take_250 : decode b_Mod_take 250 = .ok (.iinc 7 1, 3) := by decide +kernel
theorem d_Mod_take_253 : decode b_Mod_take 253 = .ok (.goto (-84), 3) := by decide +kernel
theorem d_Mod_take_256 : decode b_Mod_take 256 = .ok (.iload_n 2, 1) := by decide +kernel
theorem d_Mod_take_257 : decode b_Mod_take 257 = .ok (.ifCond .ne 7, 3) := by decide +kernel
theorem d_Mod_take_260 : decode b_Mod_take 260 = .ok (.lconst 0, 1) := by decide +kernel
theorem d_Mod_take_261 : decode b_Mod_take 261 = .ok (.goto 20, 3) := by decide +kernel
theorem d_Mod_take_264 : decode b_Mod_take 264 = .ok (.aload_n 0, 1) := by decide +kernel
theorem d_Mod_take_265 : decode b_Mod_take 265 = .ok (.getfield 23, 3) := by decide +kernel
theorem d_Mod_take_268 : decode b_Mod_take 268 = .ok (.iload_n 2, 1) := by decide +kernel
theorem d_Mod_take_269 : decode b_Mod_take 269 = .ok (.iconst 1, 1) := by decide +kernel
theorem d_Mod_take_270 : decode b_Mod_take 270 = .ok (.isub, 1) := by decide +kernel
theorem d_Mod_take_271 : decode b_Mod_take 271 = .ok (.laload, 1) := by decide +kernel
theorem d_Mod_take_272 : decode b_Mod_take 272 = .ok (.lload_n 3, 1) := by decide +kernel
theorem d_Mod_take_273 : decode b_Mod_take 273 = .ok (.invokestatic 68, 3) := by decide +kernel
theorem d_Mod_take_276 : decode b_Mod_take 276 = .ok (.lmul, 1) := by decide +kernel
theorem d_Mod_take_277 : decode b_Mod_take 277 = .ok (.ldc2_w 51, 3) := by decide +kernel
theorem d_Mod_take_280 : decode b_Mod_take 280 = .ok (.lrem, 1) := by decide +kernel
theorem d_Mod_take_281 : decode b_Mod_take 281 = .ok (.lstore 7, 2) := by decide +kernel
theorem d_Mod_take_283 : decode b_Mod_take 283 = .ok (.aload_n 0, 1) := by decide +kernel
theorem d_Mod_take_284 : decode b_Mod_take 284 = .ok (.lload 7, 2) := by decide +kernel
theorem d_Mod_take_286 : decode b_Mod_take 286 = .ok (.iload_n 2, 1) := by decide +kernel
theorem d_Mod_take_287 : decode b_Mod_take 287 = .ok (.i2l, 1) := by decide +kernel
theorem d_Mod_take_288 : decode b_Mod_take 288 = .ok (.lsub, 1) := by decide +kernel
theorem d_Mod_take_289 : decode b_Mod_take 289 = .ok (.invokestatic 61, 3) := by decide +kernel
theorem d_Mod_take_292 : decode b_Mod_take 292 = .ok (.ldc2_w 57, 3) := by decide +kernel
theorem d_Mod_take_295 : decode b_Mod_take 295 = .ok (.invokestatic 68, 3) := by decide +kernel
theorem d_Mod_take_298 : decode b_Mod_take 298 = .ok (.lmul, 1) := by decide +kernel
theorem d_Mod_take_299 : decode b_Mod_take 299 = .ok (.ldc2_w 51, 3) := by decide +kernel
theorem d_Mod_take_302 : decode b_Mod_take 302 = .ok (.lrem, 1) := by decide +kernel
theorem d_Mod_take_303 : decode b_Mod_take 303 = .ok (.l2i, 1) := by decide +kernel
theorem d_Mod_take_304 : decode b_Mod_take 304 = .ok (.putfield 78, 3) := by decide +kernel
theorem d_Mod_take_307 : decode b_Mod_take 307 = .ok (.return_, 1) := by decide +kernel
theorem d_Mod_tried_0 : decode b_Mod_tried 0 = .ok (.aload_n 0, 1) := by decide +kernel
theorem d_Mod_tried_1 : decode b_Mod_tried 1 = .ok (.invokevirtual 75, 3) := by decide +kernel
theorem d_Mod_tried_4 : decode b_Mod_tried 4 = .ok (.iconst 3, 1) := by decide +kernel
theorem d_Mod_tried_5 : decode b_Mod_tried 5 = .ok (.if_icmp .eq 9, 3) := by decide +kernel
theorem d_Mod_tried_8 : decode b_Mod_tried 8 = .ok (.aload_n 0, 1) := by decide +kernel
theorem d_Mod_tried_9 : decode b_Mod_tried 9 = .ok (.iconst 1, 1) := by decide +kernel
theorem d_Mod_tried_10 : decode b_Mod_tried 10 = .ok (.invokevirtual 81, 3) := by decide +kernel
theorem d_Mod_tried_13 : decode b_Mod_tried 13 = .ok (.ireturn, 1) := by decide +kernel
theorem d_Mod_tried_14 : decode b_Mod_tried 14 = .ok (.aload_n 0, 1) := by decide +kernel
theorem d_Mod_tried_15 : decode b_Mod_tried 15 = .ok (.iload_n 1, 1) := by decide +kernel
theorem d_Mod_tried_16 : decode b_Mod_tried 16 = .ok (.i2l, 1) := by decide +kernel
theorem d_Mod_tried_17 : decode b_Mod_tried 17 = .ok (.lconst 0, 1) := by decide +kernel
theorem d_Mod_tried_18 : decode b_Mod_tried 18 = .ok (.lconst 1, 1) := by decide +kernel
theorem d_Mod_tried_19 : decode b_Mod_tried 19 = .ok (.invokestatic 53, 3) := by decide +kernel
theorem d_Mod_tried_22 : decode b_Mod_tried 22 = .ok (.ifCond .eq 7, 3) := by decide +kernel
theorem d_Mod_tried_25 : decode b_Mod_tried 25 = .ok (.iconst 0, 1) := by decide +kernel
theorem d_Mod_tried_26 : decode b_Mod_tried 26 = .ok (.goto 4, 3) := by decide +kernel
theorem d_Mod_tried_29 : decode b_Mod_tried 29 = .ok (.iconst 2, 1) := by decide +kernel
theorem d_Mod_tried_30 : decode b_Mod_tried 30 = .ok (.putfield 47, 3) := by decide +kernel
theorem d_Mod_tried_33 : decode b_Mod_tried 33 = .ok (.aload_n 0, 1) := by decide +kernel
theorem d_Mod_tried_34 : decode b_Mod_tried 34 = .ok (.getfield 47, 3) := by decide +kernel
theorem d_Mod_tried_37 : decode b_Mod_tried 37 = .ok (.ifCond .le 5, 3) := by decide +kernel
theorem d_Mod_tried_40 : decode b_Mod_tried 40 = .ok (.iconst 0, 1) := by decide +kernel
theorem d_Mod_tried_41 : decode b_Mod_tried 41 = .ok (.ireturn, 1) := by decide +kernel
theorem d_Mod_tried_42 : decode b_Mod_tried 42 = .ok (.aload_n 0, 1) := by decide +kernel
theorem d_Mod_tried_43 : decode b_Mod_tried 43 = .ok (.iload_n 1, 1) := by decide +kernel
theorem d_Mod_tried_44 : decode b_Mod_tried 44 = .ok (.invokevirtual 85, 3) := by decide +kernel
theorem d_Mod_tried_47 : decode b_Mod_tried 47 = .ok (.aload_n 0, 1) := by decide +kernel
theorem d_Mod_tried_48 : decode b_Mod_tried 48 = .ok (.getfield 78, 3) := by decide +kernel
theorem d_Mod_tried_51 : decode b_Mod_tried 51 = .ok (.ireturn, 1) := by decide +kernel
theorem d_Mod_make_0 : decode b_Mod_make 0 = .ok (.iconst 0, 1) := by decide +kernel
theorem d_Mod_make_1 : decode b_Mod_make 1 = .ok (.istore_n 1, 1) := by decide +kernel
theorem d_Mod_make_2 : decode b_Mod_make 2 = .ok (.iload_n 1, 1) := by decide +kernel
theorem d_Mod_make_3 : decode b_Mod_make 3 = .ok (.bipush 20, 2) := by decide +kernel
theorem d_Mod_make_5 : decode b_Mod_make 5 = .ok (.if_icmp .ge 16, 3) := by decide +kernel
theorem d_Mod_make_8 : decode b_Mod_make 8 = .ok (.aload_n 0, 1) := by decide +kernel
theorem d_Mod_make_9 : decode b_Mod_make 9 = .ok (.getfield 35, 3) := by decide +kernel
theorem d_Mod_make_12 : decode b_Mod_make 12 = .ok (.iload_n 1, 1) := by decide +kernel
theorem d_Mod_make_13 : decode b_Mod_make 13 = .ok (.lconst 0, 1) := by decide +kernel
theorem d_Mod_make_14 : decode b_Mod_make 14 = .ok (.lastore, 1) := by decide +kernel
theorem d_Mod_make_15 : decode b_Mod_make 15 = .ok (.iinc 1 1, 3) := by decide +kernel
theorem d_Mod_make_18 : decode b_Mod_make 18 = .ok (.goto (-16), 3) := by decide +kernel
theorem d_Mod_make_21 : decode b_Mod_make 21 = .ok (.iconst 0, 1) := by decide +kernel
theorem d_Mod_make_22 : decode b_Mod_make 22 = .ok (.istore_n 1, 1) := by decide +kernel
theorem d_Mod_make_23 : decode b_Mod_make 23 = .ok (.iload_n 1, 1) := by decide +kernel
theorem d_Mod_make_24 : decode b_Mod_make 24 = .ok (.bipush 12, 2) := by decide +kernel
theorem d_Mod_make_26 : decode b_Mod_make 26 = .ok (.if_icmp .gt 228, 3) := by decide +kernel
theorem d_Mod_make_29 : decode b_Mod_make 29 = .ok (.aload_n 0, 1) := by decide +kernel
theorem d_Mod_make_30 : decode b_Mod_make 30 = .ok (.getfield 38, 3) := by decide +kernel
theorem d_Mod_make_33 : decode b_Mod_make 33 = .ok (.iload_n 1, 1) := by decide +kernel
theorem d_Mod_make_34 : decode b_Mod_make 34 = .ok (.laload, 1) := by decide +kernel
theorem d_Mod_make_35 : decode b_Mod_make 35 = .ok (.lstore_n 2, 1) := by decide +kernel
theorem d_Mod_make_36 : decode b_Mod_make 36 = .ok (.lload_n 2, 1) := by decide +kernel
theorem d_Mod_make_37 : decode b_Mod_make 37 = .ok (.lconst 0, 1) := by decide +kernel
theorem d_Mod_make_38 : decode b_Mod_make 38 = .ok (.lcmp, 1) := by decide +kernel
theorem d_Mod_make_39 : decode b_Mod_make 39 = .ok (.ifCond .ne 6, 3) := by decide +kernel
theorem d_Mod_make_42 : decode b_Mod_make 42 = .ok (.goto 206, 3) := by decide +kernel
theorem d_Mod_make_45 : decode b_Mod_make 45 = .ok (.iload_n 1, 1) := by decide +kernel
theorem d_Mod_make_46 : decode b_Mod_make 46 = .ok (.iconst 1, 1) := by decide +kernel
theorem d_Mod_make_47 : decode b_Mod_make 47 = .ok (.if_icmp .le 32, 3) := by decide +kernel
theorem d_Mod_make_50 : decode b_Mod_make 50 = .ok (.aload_n 0, 1) := by decide +kernel
theorem d_Mod_make_51 : decode b_Mod_make 51 = .ok (.getfield 35, 3) := by decide +kernel
theorem d_Mod_make_54 : decode b_Mod_make 54 = .ok (.iload_n 1, 1) := by decide +kernel
theorem d_Mod_make_55 : decode b_Mod_make 55 = .ok (.iconst 2, 1) := by decide +kernel
theorem d_Mod_make_56 : decode b_Mod_make 56 = .ok (.isub, 1) := by decide +kernel
theorem d_Mod_make_57 : decode b_Mod_make 57 = .ok (.aload_n 0, 1) := by decide +kernel
theorem d_Mod_make_58 : decode b_Mod_make 58 = .ok (.getfield 35, 3) := by decide +kernel
theorem d_Mod_make_61 : decode b_Mod_make 61 = .ok (.iload_n 1, 1) := by decide +kernel
theorem d_Mod_make_62 : decode b_Mod_make 62 = .ok (.iconst 2, 1) := by decide +kernel
theorem d_Mod_make_63 : decode b_Mod_make 63 = .ok (.isub, 1) := by decide +kernel
theorem d_Mod_make_64 : decode b_Mod_make 64 = .ok (.laload, 1) := by decide +kernel
theorem d_Mod_make_65 : decode b_Mod_make 65 = .ok (.lload_n 2, 1) := by decide +kernel
theorem d_Mod_make_66 : decode b_Mod_make 66 = .ok (.iload_n 1, 1) := by decide +kernel
theorem d_Mod_make_67 : decode b_Mod_make 67 = .ok (.iload_n 1, 1) := by decide +kernel
theorem d_Mod_make_68 : decode b_Mod_make 68 = .ok (.iconst 1, 1) := by decide +kernel
theorem d_Mod_make_69 : decode b_Mod_make 69 = .ok (.isub, 1) := by decide +kernel
theorem d_Mod_make_70 : decode b_Mod_make 70 = .ok (.imul, 1) := by decide +kernel
theorem d_Mod_make_71 : decode b_Mod_make 71 = .ok (.i2l, 1) := by decide +kernel
theorem d_Mod_make_72 : decode b_Mod_make 72 = .ok (.lmul, 1) := by decide +kernel
theorem d_Mod_make_73 : decode b_Mod_make 73 = .ok (.ladd, 1) := by decide +kernel
theorem d_Mod_make_74 : decode b_Mod_make 74 = .ok (.ldc2_w 51, 3) := by decide +kernel
theorem d_Mod_make_77 : decode b_Mod_make 77 = .ok (.lrem, 1) := by decide +kernel
theorem d_Mod_make_78 : decode b_Mod_make 78 = .ok (.lastore, 1) := by decide +kernel
theorem d_Mod_make_79 : decode b_Mod_make 79 = .ok (.iconst 0, 1) := by decide +kernel
theorem d_Mod_make_80 : decode b_Mod_make 80 = .ok (.istore 4, 2) := by decide +kernel
theorem d_Mod_make_82 : decode b_Mod_make 82 = .ok (.iload 4, 2) := by decide +kernel
theorem d_Mod_make_84 : decode b_Mod_make 84 = .ok (.iconst 3, 1) := by decide +kernel
theorem d_Mod_make_85 : decode b_Mod_make 85 = .ok (.if_icmp .ge 58, 3) := by decide +kernel
theorem d_Mod_make_88 : decode b_Mod_make 88 = .ok (.iload_n 1, 1) := by decide +kernel
theorem d_Mod_make_89 : decode b_Mod_make 89 = .ok (.ifCond .le 54, 3) := by decide +kernel
theorem d_Mod_make_92 : decode b_Mod_make 92 = .ok (.aload_n 0, 1) := by decide +kernel
theorem d_Mod_make_93 : decode b_Mod_make 93 = .ok (.getfield 35, 3) := by decide +kernel
theorem d_Mod_make_96 : decode b_Mod_make 96 = .ok (.iload_n 1, 1) := by decide +kernel
theorem d_Mod_make_97 : decode b_Mod_make 97 = .ok (.iconst 1, 1) := by decide +kernel
theorem d_Mod_make_98 : decode b_Mod_make 98 = .ok (.isub, 1) := by decide +kernel
theorem d_Mod_make_99 : decode b_Mod_make 99 = .ok (.iload 4, 2) := by decide +kernel
theorem d_Mod_make_101 : decode b_Mod_make 101 = .ok (.iadd, 1) := by decide +kernel
theorem d_Mod_make_102 : decode b_Mod_make 102 = .ok (.aload_n 0, 1) := by decide +kernel
theorem d_Mod_make_103 : decode b_Mod_make 103 = .ok (.getfield 35, 3) := by decide +kernel
theorem d_Mod_make_106 : decode b_Mod_make 106 = .ok (.iload_n 1, 1) := by decide +kernel
theorem d_Mod_make_107 : decode b_Mod_make 107 = .ok (.iconst 1, 1) := by decide +kernel
theorem d_Mod_make_108 : decode b_Mod_make 108 = .ok (.isub, 1) := by decide +kernel
theorem d_Mod_make_109 : decode b_Mod_make 109 = .ok (.iload 4, 2) := by decide +kernel
theorem d_Mod_make_111 : decode b_Mod_make 111 = .ok (.iadd, 1) := by decide +kernel
theorem d_Mod_make_112 : decode b_Mod_make 112 = .ok (.laload, 1) := by decide +kernel
theorem d_Mod_make_113 : decode b_Mod_make 113 = .ok (.lload_n 2, 1) := by decide +kernel
theorem d_Mod_make_114 : decode b_Mod_make 114 = .ok (.iconst 2, 1) := by decide +kernel
theorem d_Mod_make_115 : decode b_Mod_make 115 = .ok (.iload_n 1, 1) := by decide +kernel
theorem d_Mod_make_116 : decode b_Mod_make 116 = .ok (.imul, 1) := by decide +kernel
theorem d_Mod_make_117 : decode b_Mod_make 117 = .ok (.i2l, 1) := by decide +kernel
theorem d_Mod_make_118 : decode b_Mod_make 118 = .ok (.lmul, 1) := by decide +kernel
theorem d_Mod_make_119 : decode b_Mod_make 119 = .ok (.ldc2_w 51, 3) := by decide +kernel
theorem d_Mod_make_122 : decode b_Mod_make 122 = .ok (.lrem, 1) := by decide +kernel
theorem d_Mod_make_123 : decode b_Mod_make 123 = .ok (.aload_n 0, 1) := by decide +kernel
theorem d_Mod_make_124 : decode b_Mod_make 124 = .ok (.getfield 20, 3) := by decide +kernel
theorem d_Mod_make_127 : decode b_Mod_make 127 = .ok (.iload 4, 2) := by decide +kernel
theorem d_Mod_make_129 : decode b_Mod_make 129 = .ok (.laload, 1) := by decide +kernel
theorem d_Mod_make_130 : decode b_Mod_make 130 = .ok (.lmul, 1) := by decide +kernel
theorem d_Mod_make_131 : decode b_Mod_make 131 = .ok (.ladd, 1) := by decide +kernel
theorem d_Mod_make_132 : decode b_Mod_make 132 = .ok (.ldc2_w 51, 3) := by decide +kernel
theorem d_Mod_make_135 : decode b_Mod_make 135 = .ok (.lrem, 1) := by decide +kernel
theorem d_Mod_make_136 : decode b_Mod_make 136 = .ok (.lastore, 1) := by decide +kernel
theorem d_Mod_make_137 : decode b_Mod_make 137 = .ok (.iinc 4 1, 3) := by decide +kernel
theorem d_Mod_make_140 : decode b_Mod_make 140 = .ok (.goto (-58), 3) := by decide +kernel
theorem d_Mod_make_143 : decode b_Mod_make 143 = .ok (.iconst 0, 1) := by decide +kernel
theorem d_Mod_make_144 : decode b_Mod_make 144 = .ok (.istore 4, 2) := by decide +kernel
theorem d_Mod_make_146 : decode b_Mod_make 146 = .ok (.iload 4, 2) := by decide +kernel
theorem d_Mod_make_148 : decode b_Mod_make 148 = .ok (.iconst 2, 1) := by decide +kernel
theorem d_Mod_make_149 : decode b_Mod_make 149 = .ok (.if_icmp .ge 53, 3) := by decide +kernel
theorem d_Mod_make_152 : decode b_Mod_make 152 = .ok (.aload_n 0, 1) := by decide +kernel
theorem d_Mod_make_153 : decode b_Mod_make 153 = .ok (.getfield 35, 3) := by decide +kernel
theorem d_Mod_make_156 : decode b_Mod_make 156 = .ok (.iload_n 1, 1) := by decide +kernel
theorem d_Mod_make_157 : decode b_Mod_make 157 = .ok (.iload 4, 2) := by decide +kernel
theorem d_Mod_make_159 : decode b_Mod_make 159 = .ok (.iadd, 1) := by decide +kernel
theorem d_Mod_make_160 : decode b_Mod_make 160 = .ok (.aload_n 0, 1) := by decide +kernel
theorem d_Mod_make_161 : decode b_Mod_make 161 = .ok (.getfield 35, 3) := by decide +kernel
theorem d_Mod_make_164 : decode b_Mod_make 164 = .ok (.iload_n 1, 1) := by decide +kernel
theorem d_Mod_make_165 : decode b_Mod_make 165 = .ok (.iload 4, 2) := by decide +kernel
theorem d_Mod_make_167 : decode b_Mod_make 167 = .ok (.iadd, 1) := by decide +kernel
theorem d_Mod_make_168 : decode b_Mod_make 168 = .ok (.laload, 1) := by decide +kernel
theorem d_Mod_make_169 : decode b_Mod_make 169 = .ok (.lload_n 2, 1) := by decide +kernel
theorem d_Mod_make_170 : decode b_Mod_make 170 = .ok (.iload 4, 2) := by decide +kernel
theorem d_Mod_make_172 : decode b_Mod_make 172 = .ok (.iconst 1, 1) := by decide +kernel
theorem d_Mod_make_173 : decode b_Mod_make 173 = .ok (.iadd, 1) := by decide +kernel
theorem d_Mod_make_174 : decode b_Mod_make 174 = .ok (.i2l, 1) := by decide +kernel
theorem d_Mod_make_175 : decode b_Mod_make 175 = .ok (.lmul, 1) := by decide +kernel
theorem d_Mod_make_176 : decode b_Mod_make 176 = .ok (.ldc2_w 51, 3) := by decide +kernel
theorem d_Mod_make_179 : decode b_Mod_make 179 = .ok (.lrem, 1) := by decide +kernel
theorem d_Mod_make_180 : decode b_Mod_make 180 = .ok (.aload_n 0, 1) := by decide +kernel
theorem d_Mod_make_181 : decode b_Mod_make 181 = .ok (.getfield 20, 3) := by decide +kernel
theorem d_Mod_make_184 : decode b_Mod_make 184 = .ok (.iload 4, 2) := by decide +kernel
theorem d_Mod_make_186 : decode b_Mod_make 186 = .ok (.iconst 1, 1) := by decide +kernel
theorem d_Mod_make_187 : decode b_Mod_make 187 = .ok (.iadd, 1) := by decide +kernel
theorem d_Mod_make_188 : decode b_Mod_make 188 = .ok (.laload, 1) := by decide +kernel
theorem d_Mod_make_189 : decode b_Mod_make 189 = .ok (.lmul, 1) := by decide +kernel
theorem d_Mod_make_190 : decode b_Mod_make 190 = .ok (.ladd, 1) := by decide +kernel
theorem d_Mod_make_191 : decode b_Mod_make 191 = .ok (.ldc2_w 51, 3) := by decide +kernel
theorem d_Mod_make_194 : decode b_Mod_make 194 = .ok (.lrem, 1) := by decide +kernel
theorem d_Mod_make_195 : decode b_Mod_make 195 = .ok (.lastore, 1) := by decide +kernel
theorem d_Mod_make_196 : decode b_Mod_make 196 = .ok (.iinc 4 1, 3) := by decide +kernel
theorem d_Mod_make_199 : decode b_Mod_make 199 = .ok (.goto (-53), 3) := by decide +kernel
theorem d_Mod_make_202 : decode b_Mod_make 202 = .ok (.iconst 0, 1) := by decide +kernel
theorem d_Mod_make_203 : decode b_Mod_make 203 = .ok (.istore 4, 2) := by decide +kernel
theorem d_Mod_make_205 : decode b_Mod_make 205 = .ok (.iload 4, 2) := by decide +kernel
theorem d_Mod_make_207 : decode b_Mod_make 207 = .ok (.iconst 5, 1) := by decide +kernel
theorem d_Mod_make_208 : decode b_Mod_make 208 = .ok (.if_icmp .ge 40, 3) := by decide +kernel
theorem d_Mod_make_211 : decode b_Mod_make 211 = .ok (.aload_n 0, 1) := by decide +kernel
theorem d_Mod_make_212 : decode b_Mod_make 212 = .ok (.getfield 35, 3) := by decide +kernel
theorem d_Mod_make_215 : decode b_Mod_make 215 = .ok (.iload_n 1, 1) := by decide +kernel
theorem d_Mod_make_216 : decode b_Mod_make 216 = .ok (.iload 4, 2) := by decide +kernel
theorem d_Mod_make_218 : decode b_Mod_make 218 = .ok (.iadd, 1) := by decide +kernel
theorem d_Mod_make_219 : decode b_Mod_make 219 = .ok (.aload_n 0, 1) := by decide +kernel
theorem d_Mod_make_220 : decode b_Mod_make 220 = .ok (.getfield 35, 3) := by decide +kernel
theorem d_Mod_make_223 : decode b_Mod_make 223 = .ok (.iload_n 1, 1) := by decide +kernel
theorem d_Mod_make_224 : decode b_Mod_make 224 = .ok (.iload 4, 2) := by decide +kernel
theorem d_Mod_make_226 : decode b_Mod_make 226 = .ok (.iadd, 1) := by decide +kernel
theorem d_Mod_make_227 : decode b_Mod_make 227 = .ok (.laload, 1) := by decide +kernel
theorem d_Mod_make_228 : decode b_Mod_make 228 = .ok (.lload_n 2, 1) := by decide +kernel
theorem d_Mod_make_229 : decode b_Mod_make 229 = .ok (.aload_n 0, 1) := by decide +kernel
theorem d_Mod_make_230 : decode b_Mod_make 230 = .ok (.getfield 23, 3) := by decide +kernel
theorem d_Mod_make_233 : decode b_Mod_make 233 = .ok (.iload 4, 2) := by decide +kernel
theorem d_Mod_make_235 : decode b_Mod_make 235 = .ok (.laload, 1) := by decide +kernel
theorem d_Mod_make_236 : decode b_Mod_make 236 = .ok (.lmul, 1) := by decide +kernel
theorem d_Mod_make_237 : decode b_Mod_make 237 = .ok (.lsub, 1) := by decide +kernel
theorem d_Mod_make_238 : decode b_Mod_make 238 = .ok (.invokestatic 61, 3) := by decide +kernel
theorem d_Mod_make_241 : decode b_Mod_make 241 = .ok (.lastore, 1) := by decide +kernel
theorem d_Mod_make_242 : decode b_Mod_make 242 = .ok (.iinc 4 1, 3) := by decide +kernel
theorem d_Mod_make_245 : decode b_Mod_make 245 = .ok (.goto (-40), 3) := by decide +kernel
theorem d_Mod_make_248 : decode b_Mod_make 248 = .ok (.iinc 1 1, 3) := by decide +kernel
theorem d_Mod_make_251 : decode b_Mod_make 251 = .ok (.goto (-228), 3) := by decide +kernel
theorem d_Mod_make_254 : decode b_Mod_make 254 = .ok (.return_, 1) := by decide +kernel
theorem d_Mod_solve_0 : decode b_Mod_solve 0 = .ok (.aload_n 0, 1) := by decide +kernel
theorem d_Mod_solve_1 : decode b_Mod_solve 1 = .ok (.invokevirtual 71, 3) := by decide +kernel
theorem d_Mod_solve_4 : decode b_Mod_solve 4 = .ok (.iconst 2, 1) := by decide +kernel
theorem d_Mod_solve_5 : decode b_Mod_solve 5 = .ok (.idiv, 1) := by decide +kernel
theorem d_Mod_solve_6 : decode b_Mod_solve 6 = .ok (.istore_n 1, 1) := by decide +kernel
theorem d_Mod_solve_7 : decode b_Mod_solve 7 = .ok (.iconst 0, 1) := by decide +kernel
theorem d_Mod_solve_8 : decode b_Mod_solve 8 = .ok (.istore_n 2, 1) := by decide +kernel
theorem d_Mod_solve_9 : decode b_Mod_solve 9 = .ok (.iload_n 2, 1) := by decide +kernel
theorem d_Mod_solve_10 : decode b_Mod_solve 10 = .ok (.bipush 12, 2) := by decide +kernel
theorem d_Mod_solve_12 : decode b_Mod_solve 12 = .ok (.if_icmp .gt 16, 3) := by decide +kernel
theorem d_Mod_solve_15 : decode b_Mod_solve 15 = .ok (.aload_n 0, 1) := by decide +kernel
theorem d_Mod_solve_16 : decode b_Mod_solve 16 = .ok (.getfield 38, 3) := by decide +kernel
theorem d_Mod_solve_19 : decode b_Mod_solve 19 = .ok (.iload_n 2, 1) := by decide +kernel
theorem d_Mod_solve_20 : decode b_Mod_solve 20 = .ok (.lconst 0, 1) := by decide +kernel
theorem d_Mod_solve_21 : decode b_Mod_solve 21 = .ok (.lastore, 1) := by decide +kernel
theorem d_Mod_solve_22 : decode b_Mod_solve 22 = .ok (.iinc 2 1, 3) := by decide +kernel
theorem d_Mod_solve_25 : decode b_Mod_solve 25 = .ok (.goto (-16), 3) := by decide +kernel
theorem d_Mod_solve_28 : decode b_Mod_solve 28 = .ok (.aload_n 0, 1) := by decide +kernel
theorem d_Mod_solve_29 : decode b_Mod_solve 29 = .ok (.getfield 38, 3) := by decide +kernel
theorem d_Mod_solve_32 : decode b_Mod_solve 32 = .ok (.aload_n 0, 1) := by decide +kernel
theorem d_Mod_solve_33 : decode b_Mod_solve 33 = .ok (.getfield 78, 3) := by decide +kernel
theorem d_Mod_solve_36 : decode b_Mod_solve 36 = .ok (.lconst 1, 1) := by decide +kernel
theorem d_Mod_solve_37 : decode b_Mod_solve 37 = .ok (.lastore, 1) := by decide +kernel
theorem d_Mod_solve_38 : decode b_Mod_solve 38 = .ok (.aload_n 0, 1) := by decide +kernel
theorem d_Mod_solve_39 : decode b_Mod_solve 39 = .ok (.getfield 78, 3) := by decide +kernel
theorem d_Mod_solve_42 : decode b_Mod_solve 42 = .ok (.iconst 1, 1) := by decide +kernel
theorem d_Mod_solve_43 : decode b_Mod_solve 43 = .ok (.isub, 1) := by decide +kernel
theorem d_Mod_solve_44 : decode b_Mod_solve 44 = .ok (.istore_n 2, 1) := by decide +kernel
theorem d_Mod_solve_45 : decode b_Mod_solve 45 = .ok (.iload_n 2, 1) := by decide +kernel
theorem d_Mod_solve_46 : decode b_Mod_solve 46 = .ok (.ifCond .lt 68, 3) := by decide +kernel
theorem d_Mod_solve_49 : decode b_Mod_solve 49 = .ok (.iload_n 1, 1) := by decide +kernel
theorem d_Mod_solve_50 : decode b_Mod_solve 50 = .ok (.ifCond .le 64, 3) := by decide +kernel
theorem d_Mod_solve_53 : decode b_Mod_solve 53 = .ok (.aload_n 0, 1) := by decide +kernel
theorem d_Mod_solve_54 : decode b_Mod_solve 54 = .ok (.invokevirtual 89, 3) := by decide +kernel
theorem d_Mod_solve_57 : decode b_Mod_solve 57 = .ok (.ldc2_w 57, 3) := by decide +kernel
theorem d_Mod_solve_60 : decode b_Mod_solve 60 = .ok (.aload_n 0, 1) := by decide +kernel
theorem d_Mod_solve_61 : decode b_Mod_solve 61 = .ok (.getfield 20, 3) := by decide +kernel
theorem d_Mod_solve_64 : decode b_Mod_solve 64 = .ok (.iload_n 1, 1) := by decide +kernel
theorem d_Mod_solve_65 : decode b_Mod_solve 65 = .ok (.laload, 1) := by decide +kernel
theorem d_Mod_solve_66 : decode b_Mod_solve 66 = .ok (.lmul, 1) := by decide +kernel
theorem d_Mod_solve_67 : decode b_Mod_solve 67 = .ok (.iload_n 2, 1) := by decide +kernel
theorem d_Mod_solve_68 : decode b_Mod_solve 68 = .ok (.aload_n 0, 1) := by decide +kernel
theorem d_Mod_solve_69 : decode b_Mod_solve 69 = .ok (.getfield 78, 3) := by decide +kernel
theorem d_Mod_solve_72 : decode b_Mod_solve 72 = .ok (.isub, 1) := by decide +kernel
theorem d_Mod_solve_73 : decode b_Mod_solve 73 = .ok (.i2l, 1) := by decide +kernel
theorem d_Mod_solve_74 : decode b_Mod_solve 74 = .ok (.lmul, 1) := by decide +kernel
theorem d_Mod_solve_75 : decode b_Mod_solve 75 = .ok (.invokestatic 61, 3) := by decide +kernel
theorem d_Mod_solve_78 : decode b_Mod_solve 78 = .ok (.lstore_n 3, 1) := by decide +kernel
theorem d_Mod_solve_79 : decode b_Mod_solve 79 = .ok (.aload_n 0, 1) := by decide +kernel
theorem d_Mod_solve_80 : decode b_Mod_solve 80 = .ok (.getfield 38, 3) := by decide +kernel
theorem d_Mod_solve_83 : decode b_Mod_solve 83 = .ok (.iload_n 2, 1) := by decide +kernel
theorem d_Mod_solve_84 : decode b_Mod_solve 84 = .ok (.aload_n 0, 1) := by decide +kernel
theorem d_Mod_solve_85 : decode b_Mod_solve 85 = .ok (.getfield 35, 3) := by decide +kernel
theorem d_Mod_solve_88 : decode b_Mod_solve 88 = .ok (.iload_n 2, 1) := by decide +kernel
theorem d_Mod_solve_89 : decode b_Mod_solve 89 = .ok (.iload_n 1, 1) := by decide +kernel
theorem d_Mod_solve_90 : decode b_Mod_solve 90 = .ok (.iadd, 1) := by decide +kernel
theorem d_Mod_solve_91 : decode b_Mod_solve 91 = .ok (.iconst 1, 1) := by decide +kernel
theorem d_Mod_solve_92 : decode b_Mod_solve 92 = .ok (.isub, 1) := by decide +kernel
theorem d_Mod_solve_93 : decode b_Mod_solve 93 = .ok (.laload, 1) := by decide +kernel
theorem d_Mod_solve_94 : decode b_Mod_solve 94 = .ok (.lneg, 1) := by decide +kernel
theorem d_Mod_solve_95 : decode b_Mod_solve 95 = .ok (.invokestatic 61, 3) := by decide +kernel
theorem d_Mod_solve_98 : decode b_Mod_solve 98 = .ok (.lload_n 3, 1) := by decide +kernel
theorem d_Mod_solve_99 : decode b_Mod_solve 99 = .ok (.invokestatic 68, 3) := by decide +kernel
theorem d_Mod_solve_102 : decode b_Mod_solve 102 = .ok (.lmul, 1) := by decide +kernel
theorem d_Mod_solve_103 : decode b_Mod_solve 103 = .ok (.ldc2_w 51, 3) := by decide +kernel
theorem d_Mod_solve_106 : decode b_Mod_solve 106 = .ok (.lrem, 1) := by decide +kernel
theorem d_Mod_solve_107 : decode b_Mod_solve 107 = .ok (.lastore, 1) := by decide +kernel
theorem d_Mod_solve_108 : decode b_Mod_solve 108 = .ok (.iinc 2 (-1), 3) := by decide +kernel
theorem d_Mod_solve_111 : decode b_Mod_solve 111 = .ok (.goto (-66), 3) := by decide +kernel
theorem d_Mod_solve_114 : decode b_Mod_solve 114 = .ok (.aload_n 0, 1) := by decide +kernel
theorem d_Mod_solve_115 : decode b_Mod_solve 115 = .ok (.invokevirtual 89, 3) := by decide +kernel
theorem d_Mod_solve_118 : decode b_Mod_solve 118 = .ok (.iconst 0, 1) := by decide +kernel
theorem d_Mod_solve_119 : decode b_Mod_solve 119 = .ok (.istore_n 2, 1) := by decide +kernel
theorem d_Mod_solve_120 : decode b_Mod_solve 120 = .ok (.iload_n 2, 1) := by decide +kernel
theorem d_Mod_solve_121 : decode b_Mod_solve 121 = .ok (.bipush 20, 2) := by decide +kernel
theorem d_Mod_solve_123 : decode b_Mod_solve 123 = .ok (.if_icmp .ge 22, 3) := by decide +kernel
theorem d_Mod_solve_126 : decode b_Mod_solve 126 = .ok (.aload_n 0, 1) := by decide +kernel
theorem d_Mod_solve_127 : decode b_Mod_solve 127 = .ok (.getfield 35, 3) := by decide +kernel
theorem d_Mod_solve_130 : decode b_Mod_solve 130 = .ok (.iload_n 2, 1) := by decide +kernel
theorem d_Mod_solve_131 : decode b_Mod_solve 131 = .ok (.laload, 1) := by decide +kernel
theorem d_Mod_solve_132 : decode b_Mod_solve 132 = .ok (.lconst 0, 1) := by decide +kernel
theorem d_Mod_solve_133 : decode b_Mod_solve 133 = .ok (.lcmp, 1) := by decide +kernel
theorem d_Mod_solve_134 : decode b_Mod_solve 134 = .ok (.ifCond .eq 5, 3) := by decide +kernel
theorem d_Mod_solve_137 : decode b_Mod_solve 137 = .ok (.iconst 0, 1) := by decide +kernel
theorem d_Mod_solve_138 : decode b_Mod_solve 138 = .ok (.ireturn, 1) := by decide +kernel
theorem d_Mod_solve_139 : decode b_Mod_solve 139 = .ok (.iinc 2 1, 3) := by decide +kernel
theorem d_Mod_solve_142 : decode b_Mod_solve 142 = .ok (.goto (-22), 3) := by decide +kernel
theorem d_Mod_solve_145 : decode b_Mod_solve 145 = .ok (.iconst 1, 1) := by decide +kernel
theorem d_Mod_solve_146 : decode b_Mod_solve 146 = .ok (.ireturn, 1) := by decide +kernel
theorem d_Mod_keep_0 : decode b_Mod_keep 0 = .ok (.iconst 0, 1) := by decide +kernel
theorem d_Mod_keep_1 : decode b_Mod_keep 1 = .ok (.istore_n 1, 1) := by decide +kernel
theorem d_Mod_keep_2 : decode b_Mod_keep 2 = .ok (.iconst 0, 1) := by decide +kernel
theorem d_Mod_keep_3 : decode b_Mod_keep 3 = .ok (.istore_n 2, 1) := by decide +kernel
theorem d_Mod_keep_4 : decode b_Mod_keep 4 = .ok (.iload_n 2, 1) := by decide +kernel
theorem d_Mod_keep_5 : decode b_Mod_keep 5 = .ok (.bipush 12, 2) := by decide +kernel
theorem d_Mod_keep_7 : decode b_Mod_keep 7 = .ok (.if_icmp .gt 42, 3) := by decide +kernel
theorem d_Mod_keep_10 : decode b_Mod_keep 10 = .ok (.aload_n 0, 1) := by decide +kernel
theorem d_Mod_keep_11 : decode b_Mod_keep 11 = .ok (.getfield 29, 3) := by decide +kernel
theorem d_Mod_keep_14 : decode b_Mod_keep 14 = .ok (.bipush 13, 2) := by decide +kernel
theorem d_Mod_keep_16 : decode b_Mod_keep 16 = .ok (.aload_n 0, 1) := by decide +kernel
theorem d_Mod_keep_17 : decode b_Mod_keep 17 = .ok (.getfield 92, 3) := by decide +kernel
theorem d_Mod_keep_20 : decode b_Mod_keep 20 = .ok (.imul, 1) := by decide +kernel
theorem d_Mod_keep_21 : decode b_Mod_keep 21 = .ok (.iload_n 2, 1) := by decide +kernel
theorem d_Mod_keep_22 : decode b_Mod_keep 22 = .ok (.iadd, 1) := by decide +kernel
theorem d_Mod_keep_23 : decode b_Mod_keep 23 = .ok (.aload_n 0, 1) := by decide +kernel
theorem d_Mod_keep_24 : decode b_Mod_keep 24 = .ok (.getfield 38, 3) := by decide +kernel
theorem d_Mod_keep_27 : decode b_Mod_keep 27 = .ok (.iload_n 2, 1) := by decide +kernel
theorem d_Mod_keep_28 : decode b_Mod_keep 28 = .ok (.laload, 1) := by decide +kernel
theorem d_Mod_keep_29 : decode b_Mod_keep 29 = .ok (.lastore, 1) := by decide +kernel
theorem d_Mod_keep_30 : decode b_Mod_keep 30 = .ok (.aload_n 0, 1) := by decide +kernel
theorem d_Mod_keep_31 : decode b_Mod_keep 31 = .ok (.getfield 38, 3) := by decide +kernel
theorem d_Mod_keep_34 : decode b_Mod_keep 34 = .ok (.iload_n 2, 1) := by decide +kernel
theorem d_Mod_keep_35 : decode b_Mod_keep 35 = .ok (.laload, 1) := by decide +kernel
theorem d_Mod_keep_36 : decode b_Mod_keep 36 = .ok (.lconst 0, 1) := by decide +kernel
theorem d_Mod_keep_37 : decode b_Mod_keep 37 = .ok (.lcmp, 1) := by decide +kernel
theorem d_Mod_keep_38 : decode b_Mod_keep 38 = .ok (.ifCond .eq 5, 3) := by decide +kernel
theorem d_Mod_keep_41 : decode b_Mod_keep 41 = .ok (.iload_n 2, 1) := by decide +kernel
theorem d_Mod_keep_42 : decode b_Mod_keep 42 = .ok (.istore_n 1, 1) := by decide +kernel
theorem d_Mod_keep_43 : decode b_Mod_keep 43 = .ok (.iinc 2 1, 3) := by decide +kernel
theorem d_Mod_keep_46 : decode b_Mod_keep 46 = .ok (.goto (-42), 3) := by decide +kernel
theorem d_Mod_keep_49 : decode b_Mod_keep 49 = .ok (.aload_n 0, 1) := by decide +kernel
theorem d_Mod_keep_50 : decode b_Mod_keep 50 = .ok (.getfield 26, 3) := by decide +kernel
theorem d_Mod_keep_53 : decode b_Mod_keep 53 = .ok (.aload_n 0, 1) := by decide +kernel
theorem d_Mod_keep_54 : decode b_Mod_keep 54 = .ok (.getfield 92, 3) := by decide +kernel
theorem d_Mod_keep_57 : decode b_Mod_keep 57 = .ok (.iload_n 1, 1) := by decide +kernel
theorem d_Mod_keep_58 : decode b_Mod_keep 58 = .ok (.iastore, 1) := by decide +kernel
theorem d_Mod_keep_59 : decode b_Mod_keep 59 = .ok (.ldc2_w 57, 3) := by decide +kernel
theorem d_Mod_keep_62 : decode b_Mod_keep 62 = .ok (.invokestatic 68, 3) := by decide +kernel
theorem d_Mod_keep_65 : decode b_Mod_keep 65 = .ok (.lstore_n 2, 1) := by decide +kernel
theorem d_Mod_keep_66 : decode b_Mod_keep 66 = .ok (.iconst 0, 1) := by decide +kernel
theorem d_Mod_keep_67 : decode b_Mod_keep 67 = .ok (.istore 4, 2) := by decide +kernel
theorem d_Mod_keep_69 : decode b_Mod_keep 69 = .ok (.iload 4, 2) := by decide +kernel
theorem d_Mod_keep_71 : decode b_Mod_keep 71 = .ok (.iconst 3, 1) := by decide +kernel
theorem d_Mod_keep_72 : decode b_Mod_keep 72 = .ok (.if_icmp .ge 44, 3) := by decide +kernel
theorem d_Mod_keep_75 : decode b_Mod_keep 75 = .ok (.aload_n 0, 1) := by decide +kernel
theorem d_Mod_keep_76 : decode b_Mod_keep 76 = .ok (.getfield 32, 3) := by decide +kernel
theorem d_Mod_keep_79 : decode b_Mod_keep 79 = .ok (.iconst 3, 1) := by decide +kernel
theorem d_Mod_keep_80 : decode b_Mod_keep 80 = .ok (.aload_n 0, 1) := by decide +kernel
theorem d_Mod_keep_81 : decode b_Mod_keep 81 = .ok (.getfield 92, 3) := by decide +kernel
theorem d_Mod_keep_84 : decode b_Mod_keep 84 = .ok (.imul, 1) := by decide +kernel
theorem d_Mod_keep_85 : decode b_Mod_keep 85 = .ok (.iload 4, 2) := by decide +kernel
theorem d_Mod_keep_87 : decode b_Mod_keep 87 = .ok (.iadd, 1) := by decide +kernel
theorem d_Mod_keep_88 : decode b_Mod_keep 88 = .ok (.aload_n 0, 1) := by decide +kernel
theorem d_Mod_keep_89 : decode b_Mod_keep 89 = .ok (.getfield 20, 3) := by decide +kernel
theorem d_Mod_keep_92 : decode b_Mod_keep 92 = .ok (.iload 4, 2) := by decide +kernel
theorem d_Mod_keep_94 : decode b_Mod_keep 94 = .ok (.laload, 1) := by decide +kernel
theorem d_Mod_keep_95 : decode b_Mod_keep 95 = .ok (.aload_n 0, 1) := by decide +kernel
theorem d_Mod_keep_96 : decode b_Mod_keep 96 = .ok (.getfield 7, 3) := by decide +kernel
theorem d_Mod_keep_99 : decode b_Mod_keep 99 = .ok (.iload 4, 2) := by decide +kernel
theorem d_Mod_keep_101 : decode b_Mod_keep 101 = .ok (.iaload, 1) := by decide +kernel
theorem d_Mod_keep_102 : decode b_Mod_keep 102 = .ok (.i2l, 1) := by decide +kernel
theorem d_Mod_keep_103 : decode b_Mod_keep 103 = .ok (.lload_n 2, 1) := by decide +kernel
theorem d_Mod_keep_104 : decode b_Mod_keep 104 = .ok (.lmul, 1) := by decide +kernel
theorem d_Mod_keep_105 : decode b_Mod_keep 105 = .ok (.lsub, 1) := by decide +kernel
theorem d_Mod_keep_106 : decode b_Mod_keep 106 = .ok (.invokestatic 61, 3) := by decide +kernel
theorem d_Mod_keep_109 : decode b_Mod_keep 109 = .ok (.lastore, 1) := by decide +kernel
theorem d_Mod_keep_110 : decode b_Mod_keep 110 = .ok (.iinc 4 1, 3) := by decide +kernel
theorem d_Mod_keep_113 : decode b_Mod_keep 113 = .ok (.goto (-44), 3) := by decide +kernel
theorem d_Mod_keep_116 : decode b_Mod_keep 116 = .ok (.aload_n 0, 1) := by decide +kernel
theorem d_Mod_keep_117 : decode b_Mod_keep 117 = .ok (.dup, 1) := by decide +kernel
theorem d_Mod_keep_118 : decode b_Mod_keep 118 = .ok (.getfield 92, 3) := by decide +kernel
theorem d_Mod_keep_121 : decode b_Mod_keep 121 = .ok (.iconst 1, 1) := by decide +kernel
theorem d_Mod_keep_122 : decode b_Mod_keep 122 = .ok (.iadd, 1) := by decide +kernel
theorem d_Mod_keep_123 : decode b_Mod_keep 123 = .ok (.putfield 92, 3) := by decide +kernel
theorem d_Mod_keep_126 : decode b_Mod_keep 126 = .ok (.return_, 1) := by decide +kernel
theorem d_Mod_findAnswers_0 : decode b_Mod_findAnswers 0 = .ok (.aload_n 0, 1) := by decide +kernel
theorem d_Mod_findAnswers_1 : decode b_Mod_findAnswers 1 = .ok (.iconst 0, 1) := by decide +kernel
theorem d_Mod_findAnswers_2 : decode b_Mod_findAnswers 2 = .ok (.putfield 92, 3) := by decide +kernel
theorem d_Mod_findAnswers_5 : decode b_Mod_findAnswers 5 = .ok (.aload_n 0, 1) := by decide +kernel
theorem d_Mod_findAnswers_6 : decode b_Mod_findAnswers 6 = .ok (.invokevirtual 75, 3) := by decide +kernel
theorem d_Mod_findAnswers_9 : decode b_Mod_findAnswers 9 = .ok (.istore_n 1, 1) := by decide +kernel
theorem d_Mod_findAnswers_10 : decode b_Mod_findAnswers 10 = .ok (.iload_n 1, 1) := by decide +kernel
theorem d_Mod_findAnswers_11 : decode b_Mod_findAnswers 11 = .ok (.ifCond .ne 71, 3) := by decide +kernel
theorem d_Mod_findAnswers_14 : decode b_Mod_findAnswers 14 = .ok (.iconst 0, 1) := by decide +kernel
theorem d_Mod_findAnswers_15 : decode b_Mod_findAnswers 15 = .ok (.istore_n 2, 1) := by decide +kernel
theorem d_Mod_findAnswers_16 : decode b_Mod_findAnswers 16 = .ok (.iload_n 2, 1) := by decide +kernel
theorem d_Mod_findAnswers_17 : decode b_Mod_findAnswers 17 = .ok (.iconst 3, 1) := by decide +kernel
theorem d_Mod_findAnswers_18 : decode b_Mod_findAnswers 18 = .ok (.if_icmp .ge 16, 3) := by decide +kernel
theorem d_Mod_findAnswers_21 : decode b_Mod_findAnswers 21 = .ok (.aload_n 0, 1) := by decide +kernel
theorem d_Mod_findAnswers_22 : decode b_Mod_findAnswers 22 = .ok (.getfield 20, 3) := by decide +kernel
theorem d_Mod_findAnswers_25 : decode b_Mod_findAnswers 25 = .ok (.iload_n 2, 1) := by decide +kernel
theorem d_Mod_findAnswers_26 : decode b_Mod_findAnswers 26 = .ok (.lconst 0, 1) := by decide +kernel
theorem d_Mod_findAnswers_27 : decode b_Mod_findAnswers 27 = .ok (.lastore, 1) := by decide +kernel
theorem d_Mod_findAnswers_28 : decode b_Mod_findAnswers 28 = .ok (.iinc 2 1, 3) := by decide +kernel
theorem d_Mod_findAnswers_31 : decode b_Mod_findAnswers 31 = .ok (.goto (-15), 3) := by decide +kernel
theorem d_Mod_findAnswers_34 : decode b_Mod_findAnswers 34 = .ok (.iconst 0, 1) := by decide +kernel
theorem d_Mod_findAnswers_35 : decode b_Mod_findAnswers 35 = .ok (.istore_n 2, 1) := by decide +kernel
theorem d_Mod_findAnswers_36 : decode b_Mod_findAnswers 36 = .ok (.iload_n 2, 1) := by decide +kernel
theorem d_Mod_findAnswers_37 : decode b_Mod_findAnswers 37 = .ok (.iconst 2, 1) := by decide +kernel
theorem d_Mod_findAnswers_38 : decode b_Mod_findAnswers 38 = .ok (.if_icmp .ge 43, 3) := by decide +kernel
theorem d_Mod_findAnswers_41 : decode b_Mod_findAnswers 41 = .ok (.iconst 0, 1) := by decide +kernel
theorem d_Mod_findAnswers_42 : decode b_Mod_findAnswers 42 = .ok (.istore_n 3, 1) := by decide +kernel
theorem d_Mod_findAnswers_43 : decode b_Mod_findAnswers 43 = .ok (.iload_n 3, 1) := by decide +kernel
theorem d_Mod_findAnswers_44 : decode b_Mod_findAnswers 44 = .ok (.bipush 12, 2) := by decide +kernel
theorem d_Mod_findAnswers_46 : decode b_Mod_findAnswers 46 = .ok (.if_icmp .gt 25, 3) := by decide +kernel
theorem d_Mod_findAnswers_49 : decode b_Mod_findAnswers 49 = .ok (.aload_n 0, 1) := by decide +kernel
theorem d_Mod_findAnswers_50 : decode b_Mod_findAnswers 50 = .ok (.getfield 38, 3) := by decide +kernel
theorem d_Mod_findAnswers_53 : decode b_Mod_findAnswers 53 = .ok (.iload_n 3, 1) := by decide +kernel
theorem d_Mod_findAnswers_54 : decode b_Mod_findAnswers 54 = .ok (.iload_n 3, 1) := by decide +kernel
theorem d_Mod_findAnswers_55 : decode b_Mod_findAnswers 55 = .ok (.iload_n 2, 1) := by decide +kernel
theorem d_Mod_findAnswers_56 : decode b_Mod_findAnswers 56 = .ok (.if_icmp .ne 7, 3) := by decide +kernel
theorem d_Mod_findAnswers_59 : decode b_Mod_findAnswers 59 = .ok (.lconst 1, 1) := by decide +kernel
theorem d_Mod_findAnswers_60 : decode b_Mod_findAnswers 60 = .ok (.goto 4, 3) := by decide +kernel
theorem d_Mod_findAnswers_63 : decode b_Mod_findAnswers 63 = .ok (.lconst 0, 1) := by decide +kernel
theorem d_Mod_findAnswers_64 : decode b_Mod_findAnswers 64 = .ok (.lastore, 1) := by decide +kernel
theorem d_Mod_findAnswers_65 : decode b_Mod_findAnswers 65 = .ok (.iinc 3 1, 3) := by decide +kernel
theorem d_Mod_findAnswers_68 : decode b_Mod_findAnswers 68 = .ok (.goto (-25), 3) := by decide +kernel
theorem d_Mod_findAnswers_71 : decode b_Mod_findAnswers 71 = .ok (.aload_n 0, 1) := by decide +kernel
theorem d_Mod_findAnswers_72 : decode b_Mod_findAnswers 72 = .ok (.invokevirtual 95, 3) := by decide +kernel
theorem d_Mod_findAnswers_75 : decode b_Mod_findAnswers 75 = .ok (.iinc 2 1, 3) := by decide +kernel
theorem d_Mod_findAnswers_78 : decode b_Mod_findAnswers 78 = .ok (.goto (-42), 3) := by decide +kernel
theorem d_Mod_findAnswers_81 : decode b_Mod_findAnswers 81 = .ok (.return_, 1) := by decide +kernel
theorem d_Mod_findAnswers_82 : decode b_Mod_findAnswers 82 = .ok (.iconst 0, 1) := by decide +kernel
theorem d_Mod_findAnswers_83 : decode b_Mod_findAnswers 83 = .ok (.istore_n 2, 1) := by decide +kernel
theorem d_Mod_findAnswers_84 : decode b_Mod_findAnswers 84 = .ok (.iload_n 2, 1) := by decide +kernel
theorem d_Mod_findAnswers_85 : decode b_Mod_findAnswers 85 = .ok (.iconst 2, 1) := by decide +kernel
theorem d_Mod_findAnswers_86 : decode b_Mod_findAnswers 86 = .ok (.if_icmp .ge 39, 3) := by decide +kernel
theorem d_Mod_findAnswers_89 : decode b_Mod_findAnswers 89 = .ok (.iload_n 1, 1) := by decide +kernel
theorem d_Mod_findAnswers_90 : decode b_Mod_findAnswers 90 = .ok (.iconst 3, 1) := by decide +kernel
theorem d_Mod_findAnswers_91 : decode b_Mod_findAnswers 91 = .ok (.if_icmp .ne 34, 3) := by decide +kernel
theorem d_Mod_findAnswers_94 : decode b_Mod_findAnswers 94 = .ok (.aload_n 0, 1) := by decide +kernel
theorem d_Mod_findAnswers_95 : decode b_Mod_findAnswers 95 = .ok (.iload_n 2, 1) := by decide +kernel
theorem d_Mod_findAnswers_96 : decode b_Mod_findAnswers 96 = .ok (.invokevirtual 85, 3) := by decide +kernel
theorem d_Mod_findAnswers_99 : decode b_Mod_findAnswers 99 = .ok (.aload_n 0, 1) := by decide +kernel
theorem d_Mod_findAnswers_100 : decode b_Mod_findAnswers 100 = .ok (.getfield 78, 3) := by decide +kernel
theorem d_Mod_findAnswers_103 : decode b_Mod_findAnswers 103 = .ok (.bipush 12, 2) := by decide +kernel
theorem d_Mod_findAnswers_105 : decode b_Mod_findAnswers 105 = .ok (.if_icmp .gt 14, 3) := by decide +kernel
theorem d_Mod_findAnswers_108 : decode b_Mod_findAnswers 108 = .ok (.aload_n 0, 1) := by decide +kernel
theorem d_Mod_findAnswers_109 : decode b_Mod_findAnswers 109 = .ok (.invokevirtual 98, 3) := by decide +kernel
theorem d_Mod_findAnswers_112 : decode b_Mod_findAnswers 112 = .ok (.ifCond .eq 7, 3) := by decide +kernel
theorem d_Mod_findAnswers_115 : decode b_Mod_findAnswers 115 = .ok (.aload_n 0, 1) := by decide +kernel
theorem d_Mod_findAnswers_116 : decode b_Mod_findAnswers 116 = .ok (.invokevirtual 95, 3) := by decide +kernel
theorem d_Mod_findAnswers_119 : decode b_Mod_findAnswers 119 = .ok (.iinc 2 1, 3) := by decide +kernel
theorem d_Mod_findAnswers_122 : decode b_Mod_findAnswers 122 = .ok (.goto (-38), 3) := by decide +kernel
theorem d_Mod_findAnswers_125 : decode b_Mod_findAnswers 125 = .ok (.return_, 1) := by decide +kernel
theorem d_Mod_answers_0 : decode b_Mod_answers 0 = .ok (.aload_n 0, 1) := by decide +kernel
theorem d_Mod_answers_1 : decode b_Mod_answers 1 = .ok (.iconst 0, 1) := by decide +kernel
theorem d_Mod_answers_2 : decode b_Mod_answers 2 = .ok (.putfield 47, 3) := by decide +kernel
theorem d_Mod_answers_5 : decode b_Mod_answers 5 = .ok (.aload_n 0, 1) := by decide +kernel
theorem d_Mod_answers_6 : decode b_Mod_answers 6 = .ok (.invokevirtual 102, 3) := by decide +kernel
theorem d_Mod_answers_9 : decode b_Mod_answers 9 = .ok (.aload_n 0, 1) := by decide +kernel
theorem d_Mod_answers_10 : decode b_Mod_answers 10 = .ok (.getfield 92, 3) := by decide +kernel
theorem d_Mod_answers_13 : decode b_Mod_answers 13 = .ok (.ireturn, 1) := by decide +kernel
theorem d_Mod_isAnswer_0 : decode b_Mod_isAnswer 0 = .ok (.aload_n 0, 1) := by decide +kernel
theorem d_Mod_isAnswer_1 : decode b_Mod_isAnswer 1 = .ok (.invokevirtual 102, 3) := by decide +kernel
theorem d_Mod_isAnswer_4 : decode b_Mod_isAnswer 4 = .ok (.aload_n 0, 1) := by decide +kernel
theorem d_Mod_isAnswer_5 : decode b_Mod_isAnswer 5 = .ok (.iload_n 1, 1) := by decide +kernel
theorem d_Mod_isAnswer_6 : decode b_Mod_isAnswer 6 = .ok (.i2l, 1) := by decide +kernel
theorem d_Mod_isAnswer_7 : decode b_Mod_isAnswer 7 = .ok (.lconst 0, 1) := by decide +kernel
theorem d_Mod_isAnswer_8 : decode b_Mod_isAnswer 8 = .ok (.aload_n 0, 1) := by decide +kernel
theorem d_Mod_isAnswer_9 : decode b_Mod_isAnswer 9 = .ok (.getfield 92, 3) := by decide +kernel
theorem d_Mod_isAnswer_12 : decode b_Mod_isAnswer 12 = .ok (.iconst 1, 1) := by decide +kernel
theorem d_Mod_isAnswer_13 : decode b_Mod_isAnswer 13 = .ok (.isub, 1) := by decide +kernel
theorem d_Mod_isAnswer_14 : decode b_Mod_isAnswer 14 = .ok (.i2l, 1) := by decide +kernel
theorem d_Mod_isAnswer_15 : decode b_Mod_isAnswer 15 = .ok (.invokestatic 53, 3) := by decide +kernel
theorem d_Mod_isAnswer_18 : decode b_Mod_isAnswer 18 = .ok (.ifCond .eq 18, 3) := by decide +kernel
theorem d_Mod_isAnswer_21 : decode b_Mod_isAnswer 21 = .ok (.iload_n 2, 1) := by decide +kernel
theorem d_Mod_isAnswer_22 : decode b_Mod_isAnswer 22 = .ok (.i2l, 1) := by decide +kernel
theorem d_Mod_isAnswer_23 : decode b_Mod_isAnswer 23 = .ok (.lconst 0, 1) := by decide +kernel
theorem d_Mod_isAnswer_24 : decode b_Mod_isAnswer 24 = .ok (.iload_n 3, 1) := by decide +kernel
theorem d_Mod_isAnswer_25 : decode b_Mod_isAnswer 25 = .ok (.i2l, 1) := by decide +kernel
theorem d_Mod_isAnswer_26 : decode b_Mod_isAnswer 26 = .ok (.invokestatic 53, 3) := by decide +kernel
theorem d_Mod_isAnswer_29 : decode b_Mod_isAnswer 29 = .ok (.ifCond .eq 7, 3) := by decide +kernel
theorem d_Mod_isAnswer_32 : decode b_Mod_isAnswer 32 = .ok (.iconst 0, 1) := by decide +kernel
theorem d_Mod_isAnswer_33 : decode b_Mod_isAnswer 33 = .ok (.goto 4, 3) := by decide +kernel
theorem d_Mod_isAnswer_36 : decode b_Mod_isAnswer 36 = .ok (.iconst 1, 1) := by decide +kernel
theorem d_Mod_isAnswer_37 : decode b_Mod_isAnswer 37 = .ok (.putfield 47, 3) := by decide +kernel
theorem d_Mod_isAnswer_40 : decode b_Mod_isAnswer 40 = .ok (.aload_n 0, 1) := by decide +kernel
theorem d_Mod_isAnswer_41 : decode b_Mod_isAnswer 41 = .ok (.getfield 47, 3) := by decide +kernel
theorem d_Mod_isAnswer_44 : decode b_Mod_isAnswer 44 = .ok (.ifCond .ne 7, 3) := by decide +kernel
theorem d_Mod_isAnswer_47 : decode b_Mod_isAnswer 47 = .ok (.iconst 1, 1) := by decide +kernel
theorem d_Mod_isAnswer_48 : decode b_Mod_isAnswer 48 = .ok (.goto 4, 3) := by decide +kernel
theorem d_Mod_isAnswer_51 : decode b_Mod_isAnswer 51 = .ok (.iconst 0, 1) := by decide +kernel
theorem d_Mod_isAnswer_52 : decode b_Mod_isAnswer 52 = .ok (.ireturn, 1) := by decide +kernel
theorem d_Mod_degree_0 : decode b_Mod_degree 0 = .ok (.aload_n 0, 1) := by decide +kernel
theorem d_Mod_degree_1 : decode b_Mod_degree 1 = .ok (.iload_n 1, 1) := by decide +kernel
theorem d_Mod_degree_2 : decode b_Mod_degree 2 = .ok (.iconst 0, 1) := by decide +kernel
theorem d_Mod_degree_3 : decode b_Mod_degree 3 = .ok (.iconst 0, 1) := by decide +kernel
theorem d_Mod_degree_4 : decode b_Mod_degree 4 = .ok (.invokevirtual 105, 3) := by decide +kernel
theorem d_Mod_degree_7 : decode b_Mod_degree 7 = .ok (.ifCond .eq 12, 3) := by decide +kernel
theorem d_Mod_degree_10 : decode b_Mod_degree 10 = .ok (.aload_n 0, 1) := by decide +kernel
theorem d_Mod_degree_11 : decode b_Mod_degree 11 = .ok (.getfield 26, 3) := by decide +kernel
theorem d_Mod_degree_14 : decode b_Mod_degree 14 = .ok (.iload_n 1, 1) := by decide +kernel
theorem d_Mod_degree_15 : decode b_Mod_degree 15 = .ok (.iaload, 1) := by decide +kernel
theorem d_Mod_degree_16 : decode b_Mod_degree 16 = .ok (.goto 4, 3) := by decide +kernel
theorem d_Mod_degree_19 : decode b_Mod_degree 19 = .ok (.iconst 0, 1) := by decide +kernel
theorem d_Mod_degree_20 : decode b_Mod_degree 20 = .ok (.ireturn, 1) := by decide +kernel
theorem d_Mod_polynomial_0 : decode b_Mod_polynomial 0 = .ok (.aload_n 0, 1) := by decide +kernel
theorem d_Mod_polynomial_1 : decode b_Mod_polynomial 1 = .ok (.iload_n 1, 1) := by decide +kernel
theorem d_Mod_polynomial_2 : decode b_Mod_polynomial 2 = .ok (.iload_n 2, 1) := by decide +kernel
theorem d_Mod_polynomial_3 : decode b_Mod_polynomial 3 = .ok (.bipush 12, 2) := by decide +kernel
theorem d_Mod_polynomial_5 : decode b_Mod_polynomial 5 = .ok (.invokevirtual 105, 3) := by decide +kernel
theorem d_Mod_polynomial_8 : decode b_Mod_polynomial 8 = .ok (.ifCond .eq 18, 3) := by decide +kernel
theorem d_Mod_polynomial_11 : decode b_Mod_polynomial 11 = .ok (.aload_n 0, 1) := by decide +kernel
theorem d_Mod_polynomial_12 : decode b_Mod_polynomial 12 = .ok (.getfield 29, 3) := by decide +kernel
theorem d_Mod_polynomial_15 : decode b_Mod_polynomial 15 = .ok (.bipush 13, 2) := by decide +kernel
theorem d_Mod_polynomial_17 : decode b_Mod_polynomial 17 = .ok (.iload_n 1, 1) := by decide +kernel
theorem d_Mod_polynomial_18 : decode b_Mod_polynomial 18 = .ok (.imul, 1) := by decide +kernel
theorem d_Mod_polynomial_19 : decode b_Mod_polynomial 19 = .ok (.iload_n 2, 1) := by decide +kernel
theorem d_Mod_polynomial_20 : decode b_Mod_polynomial 20 = .ok (.iadd, 1) := by decide +kernel
theorem d_Mod_polynomial_21 : decode b_Mod_polynomial 21 = .ok (.laload, 1) := by decide +kernel
theorem d_Mod_polynomial_22 : decode b_Mod_polynomial 22 = .ok (.l2i, 1) := by decide +kernel
theorem d_Mod_polynomial_23 : decode b_Mod_polynomial 23 = .ok (.goto 4, 3) := by decide +kernel
theorem d_Mod_polynomial_26 : decode b_Mod_polynomial 26 = .ok (.iconst 0, 1) := by decide +kernel
theorem d_Mod_polynomial_27 : decode b_Mod_polynomial 27 = .ok (.ireturn, 1) := by decide +kernel
theorem d_Mod_slope_0 : decode b_Mod_slope 0 = .ok (.aload_n 0, 1) := by decide +kernel
theorem d_Mod_slope_1 : decode b_Mod_slope 1 = .ok (.iload_n 1, 1) := by decide +kernel
theorem d_Mod_slope_2 : decode b_Mod_slope 2 = .ok (.iload_n 2, 1) := by decide +kernel
theorem d_Mod_slope_3 : decode b_Mod_slope 3 = .ok (.iconst 2, 1) := by decide +kernel
theorem d_Mod_slope_4 : decode b_Mod_slope 4 = .ok (.invokevirtual 105, 3) := by decide +kernel
theorem d_Mod_slope_7 : decode b_Mod_slope 7 = .ok (.ifCond .eq 17, 3) := by decide +kernel
theorem d_Mod_slope_10 : decode b_Mod_slope 10 = .ok (.aload_n 0, 1) := by decide +kernel
theorem d_Mod_slope_11 : decode b_Mod_slope 11 = .ok (.getfield 32, 3) := by decide +kernel
theorem d_Mod_slope_14 : decode b_Mod_slope 14 = .ok (.iconst 3, 1) := by decide +kernel
theorem d_Mod_slope_15 : decode b_Mod_slope 15 = .ok (.iload_n 1, 1) := by decide +kernel
theorem d_Mod_slope_16 : decode b_Mod_slope 16 = .ok (.imul, 1) := by decide +kernel
theorem d_Mod_slope_17 : decode b_Mod_slope 17 = .ok (.iload_n 2, 1) := by decide +kernel
theorem d_Mod_slope_18 : decode b_Mod_slope 18 = .ok (.iadd, 1) := by decide +kernel
theorem d_Mod_slope_19 : decode b_Mod_slope 19 = .ok (.laload, 1) := by decide +kernel
theorem d_Mod_slope_20 : decode b_Mod_slope 20 = .ok (.l2i, 1) := by decide +kernel
theorem d_Mod_slope_21 : decode b_Mod_slope 21 = .ok (.goto 4, 3) := by decide +kernel
theorem d_Mod_slope_24 : decode b_Mod_slope 24 = .ok (.iconst 0, 1) := by decide +kernel
theorem d_Mod_slope_25 : decode b_Mod_slope 25 = .ok (.ireturn, 1) := by decide +kernel
theorem d_Mod_seriesAt_0 : decode b_Mod_seriesAt 0 = .ok (.aload_n 0, 1) := by decide +kernel
theorem d_Mod_seriesAt_1 : decode b_Mod_seriesAt 1 = .ok (.getfield 41, 3) := by decide +kernel
theorem d_Mod_seriesAt_4 : decode b_Mod_seriesAt 4 = .ok (.iconst 0, 1) := by decide +kernel
theorem d_Mod_seriesAt_5 : decode b_Mod_seriesAt 5 = .ok (.lload_n 1, 1) := by decide +kernel
theorem d_Mod_seriesAt_6 : decode b_Mod_seriesAt 6 = .ok (.invokestatic 61, 3) := by decide +kernel
theorem d_Mod_seriesAt_9 : decode b_Mod_seriesAt 9 = .ok (.lastore, 1) := by decide +kernel
theorem d_Mod_seriesAt_10 : decode b_Mod_seriesAt 10 = .ok (.aload_n 0, 1) := by decide +kernel
theorem d_Mod_seriesAt_11 : decode b_Mod_seriesAt 11 = .ok (.getfield 41, 3) := by decide +kernel
theorem d_Mod_seriesAt_14 : decode b_Mod_seriesAt 14 = .ok (.iconst 1, 1) := by decide +kernel
theorem d_Mod_seriesAt_15 : decode b_Mod_seriesAt 15 = .ok (.lload_n 3, 1) := by decide +kernel
theorem d_Mod_seriesAt_16 : decode b_Mod_seriesAt 16 = .ok (.invokestatic 61, 3) := by decide +kernel
theorem d_Mod_seriesAt_19 : decode b_Mod_seriesAt 19 = .ok (.lastore, 1) := by decide +kernel
theorem d_Mod_seriesAt_20 : decode b_Mod_seriesAt 20 = .ok (.iconst 2, 1) := by decide +kernel
theorem d_Mod_seriesAt_21 : decode b_Mod_seriesAt 21 = .ok (.istore 6, 2) := by decide +kernel
theorem d_Mod_seriesAt_23 : decode b_Mod_seriesAt 23 = .ok (.iload 6, 2) := by decide +kernel
theorem d_Mod_seriesAt_25 : decode b_Mod_seriesAt 25 = .ok (.iload 5, 2) := by decide +kernel
theorem d_Mod_seriesAt_27 : decode b_Mod_seriesAt 27 = .ok (.if_icmp .gt 165, 3) := by decide +kernel
theorem d_Mod_seriesAt_30 : decode b_Mod_seriesAt 30 = .ok (.lconst 0, 1) := by decide +kernel
theorem d_Mod_seriesAt_31 : decode b_Mod_seriesAt 31 = .ok (.lstore 7, 2) := by decide +kernel
theorem d_Mod_seriesAt_33 : decode b_Mod_seriesAt 33 = .ok (.iconst 0, 1) := by decide +kernel
theorem d_Mod_seriesAt_34 : decode b_Mod_seriesAt 34 = .ok (.istore 9, 2) := by decide +kernel
theorem d_Mod_seriesAt_36 : decode b_Mod_seriesAt 36 = .ok (.iload 9, 2) := by decide +kernel
theorem d_Mod_seriesAt_38 : decode b_Mod_seriesAt 38 = .ok (.iconst 3, 1) := by decide +kernel
theorem d_Mod_seriesAt_39 : decode b_Mod_seriesAt 39 = .ok (.if_icmp .ge 62, 3) := by decide +kernel
theorem d_Mod_seriesAt_42 : decode b_Mod_seriesAt 42 = .ok (.iload 6, 2) := by decide +kernel
theorem d_Mod_seriesAt_44 : decode b_Mod_seriesAt 44 = .ok (.iconst 1, 1) := by decide +kernel
theorem d_Mod_seriesAt_45 : decode b_Mod_seriesAt 45 = .ok (.isub, 1) := by decide +kernel
theorem d_Mod_seriesAt_46 : decode b_Mod_seriesAt 46 = .ok (.iload 9, 2) := by decide +kernel
theorem d_Mod_seriesAt_48 : decode b_Mod_seriesAt 48 = .ok (.isub, 1) := by decide +kernel
theorem d_Mod_seriesAt_49 : decode b_Mod_seriesAt 49 = .ok (.ifCond .le 46, 3) := by decide +kernel
theorem d_Mod_seriesAt_52 : decode b_Mod_seriesAt 52 = .ok (.lload 7, 2) := by decide +kernel
theorem d_Mod_seriesAt_54 : decode b_Mod_seriesAt 54 = .ok (.aload_n 0, 1) := by decide +kernel
theorem d_Mod_seriesAt_55 : decode b_Mod_seriesAt 55 = .ok (.getfield 7, 3) := by decide +kernel
theorem d_Mod_seriesAt_58 : decode b_Mod_seriesAt 58 = .ok (.iload 9, 2) := by decide +kernel
theorem d_Mod_seriesAt_60 : decode b_Mod_seriesAt 60 = .ok (.iaload, 1) := by decide +kernel
theorem d_Mod_seriesAt_61 : decode b_Mod_seriesAt 61 = .ok (.i2l, 1) := by decide +kernel
theorem d_Mod_seriesAt_62 : decode b_Mod_seriesAt 62 = .ok (.iload 6, 2) := by decide +kernel
theorem d_Mod_seriesAt_64 : decode b_Mod_seriesAt 64 = .ok (.iconst 1, 1) := by decide +kernel
theorem d_Mod_seriesAt_65 : decode b_Mod_seriesAt 65 = .ok (.isub, 1) := by decide +kernel
theorem d_Mod_seriesAt_66 : decode b_Mod_seriesAt 66 = .ok (.iload 9, 2) := by decide +kernel
theorem d_Mod_seriesAt_68 : decode b_Mod_seriesAt 68 = .ok (.isub, 1) := by decide +kernel
theorem d_Mod_seriesAt_69 : decode b_Mod_seriesAt 69 = .ok (.i2l, 1) := by decide +kernel
theorem d_Mod_seriesAt_70 : decode b_Mod_seriesAt 70 = .ok (.lmul, 1) := by decide +kernel
theorem d_Mod_seriesAt_71 : decode b_Mod_seriesAt 71 = .ok (.ldc2_w 51, 3) := by decide +kernel
theorem d_Mod_seriesAt_74 : decode b_Mod_seriesAt 74 = .ok (.lrem, 1) := by decide +kernel
theorem d_Mod_seriesAt_75 : decode b_Mod_seriesAt 75 = .ok (.aload_n 0, 1) := by decide +kernel
theorem d_Mod_seriesAt_76 : decode b_Mod_seriesAt 76 = .ok (.getfield 41, 3) := by decide +kernel
theorem d_Mod_seriesAt_79 : decode b_Mod_seriesAt 79 = .ok (.iload 6, 2) := by decide +kernel
theorem d_Mod_seriesAt_81 : decode b_Mod_seriesAt 81 = .ok (.iconst 1, 1) := by decide +kernel
theorem d_Mod_seriesAt_82 : decode b_Mod_seriesAt 82 = .ok (.isub, 1) := by decide +kernel
theorem d_Mod_seriesAt_83 : decode b_Mod_seriesAt 83 = .ok (.iload 9, 2) := by decide +kernel
theorem d_Mod_seriesAt_85 : decode b_Mod_seriesAt 85 = .ok (.isub, 1) := by decide +kernel
theorem d_Mod_seriesAt_86 : decode b_Mod_seriesAt 86 = .ok (.laload, 1) := by decide +kernel
theorem d_Mod_seriesAt_87 : decode b_Mod_seriesAt 87 = .ok (.lmul, 1) := by decide +kernel
theorem d_Mod_seriesAt_88 : decode b_Mod_seriesAt 88 = .ok (.ladd, 1) := by decide +kernel
theorem d_Mod_seriesAt_89 : decode b_Mod_seriesAt 89 = .ok (.ldc2_w 51, 3) := by decide +kernel
theorem d_Mod_seriesAt_92 : decode b_Mod_seriesAt 92 = .ok (.lrem, 1) := by decide +kernel
theorem d_Mod_seriesAt_93 : decode b_Mod_seriesAt 93 = .ok (.lstore 7, 2) := by decide +kernel
theorem d_Mod_seriesAt_95 : decode b_Mod_seriesAt 95 = .ok (.iinc 9 1, 3) := by decide +kernel
theorem d_Mod_seriesAt_98 : decode b_Mod_seriesAt 98 = .ok (.goto (-62), 3) := by decide +kernel
theorem d_Mod_seriesAt_101 : decode b_Mod_seriesAt 101 = .ok (.iconst 0, 1) := by decide +kernel
theorem d_Mod_seriesAt_102 : decode b_Mod_seriesAt 102 = .ok (.istore 9, 2) := by decide +kernel
theorem d_Mod_seriesAt_104 : decode b_Mod_seriesAt 104 = .ok (.iload 9, 2) := by decide +kernel
theorem d_Mod_seriesAt_106 : decode b_Mod_seriesAt 106 = .ok (.iconst 5, 1) := by decide +kernel
theorem d_Mod_seriesAt_107 : decode b_Mod_seriesAt 107 = .ok (.if_icmp .ge 49, 3) := by decide +kernel
theorem d_Mod_seriesAt_110 : decode b_Mod_seriesAt 110 = .ok (.iload 6, 2) := by decide +kernel
theorem d_Mod_seriesAt_112 : decode b_Mod_seriesAt 112 = .ok (.iconst 2, 1) := by decide +kernel
theorem d_Mod_seriesAt_113 : decode b_Mod_seriesAt 113 = .ok (.isub, 1) := by decide +kernel
theorem d_Mod_seriesAt_114 : decode b_Mod_seriesAt 114 = .ok (.iload 9, 2) := by decide +kernel
theorem d_Mod_seriesAt_116 : decode b_Mod_seriesAt 116 = .ok (.isub, 1) := by decide +kernel
theorem d_Mod_seriesAt_117 : decode b_Mod_seriesAt 117 = .ok (.ifCond .lt 33, 3) := by decide +kernel
theorem d_Mod_seriesAt_120 : decode b_Mod_seriesAt 120 = .ok (.lload 7, 2) := by decide +kernel
theorem d_Mod_seriesAt_122 : decode b_Mod_seriesAt 122 = .ok (.aload_n 0, 1) := by decide +kernel
theorem d_Mod_seriesAt_123 : decode b_Mod_seriesAt 123 = .ok (.getfield 13, 3) := by decide +kernel
theorem d_Mod_seriesAt_126 : decode b_Mod_seriesAt 126 = .ok (.iload 9, 2) := by decide +kernel
theorem d_Mod_seriesAt_128 : decode b_Mod_seriesAt 128 = .ok (.iaload, 1) := by decide +kernel
theorem d_Mod_seriesAt_129 : decode b_Mod_seriesAt 129 = .ok (.i2l, 1) := by decide +kernel
theorem d_Mod_seriesAt_130 : decode b_Mod_seriesAt 130 = .ok (.aload_n 0, 1) := by decide +kernel
theorem d_Mod_seriesAt_131 : decode b_Mod_seriesAt 131 = .ok (.getfield 41, 3) := by decide +kernel
theorem d_Mod_seriesAt_134 : decode b_Mod_seriesAt 134 = .ok (.iload 6, 2) := by decide +kernel
theorem d_Mod_seriesAt_136 : decode b_Mod_seriesAt 136 = .ok (.iconst 2, 1) := by decide +kernel
theorem d_Mod_seriesAt_137 : decode b_Mod_seriesAt 137 = .ok (.isub, 1) := by decide +kernel
theorem d_Mod_seriesAt_138 : decode b_Mod_seriesAt 138 = .ok (.iload 9, 2) := by decide +kernel
theorem d_Mod_seriesAt_140 : decode b_Mod_seriesAt 140 = .ok (.isub, 1) := by decide +kernel
theorem d_Mod_seriesAt_141 : decode b_Mod_seriesAt 141 = .ok (.laload, 1) := by decide +kernel
theorem d_Mod_seriesAt_142 : decode b_Mod_seriesAt 142 = .ok (.lmul, 1) := by decide +kernel
theorem d_Mod_seriesAt_143 : decode b_Mod_seriesAt 143 = .ok (.ladd, 1) := by decide +kernel
theorem d_Mod_seriesAt_144 : decode b_Mod_seriesAt 144 = .ok (.ldc2_w 51, 3) := by decide +kernel
theorem d_Mod_seriesAt_147 : decode b_Mod_seriesAt 147 = .ok (.lrem, 1) := by decide +kernel
theorem d_Mod_seriesAt_148 : decode b_Mod_seriesAt 148 = .ok (.lstore 7, 2) := by decide +kernel
theorem d_Mod_seriesAt_150 : decode b_Mod_seriesAt 150 = .ok (.iinc 9 1, 3) := by decide +kernel
theorem d_Mod_seriesAt_153 : decode b_Mod_seriesAt 153 = .ok (.goto (-49), 3) := by decide +kernel
theorem d_Mod_seriesAt_156 : decode b_Mod_seriesAt 156 = .ok (.aload_n 0, 1) := by decide +kernel
theorem d_Mod_seriesAt_157 : decode b_Mod_seriesAt 157 = .ok (.getfield 41, 3) := by decide +kernel
theorem d_Mod_seriesAt_160 : decode b_Mod_seriesAt 160 = .ok (.iload 6, 2) := by decide +kernel
theorem d_Mod_seriesAt_162 : decode b_Mod_seriesAt 162 = .ok (.lload 7, 2) := by decide +kernel
theorem d_Mod_seriesAt_164 : decode b_Mod_seriesAt 164 = .ok (.lneg, 1) := by decide +kernel
theorem d_Mod_seriesAt_165 : decode b_Mod_seriesAt 165 = .ok (.invokestatic 61, 3) := by decide +kernel
theorem d_Mod_seriesAt_168 : decode b_Mod_seriesAt 168 = .ok (.iload 6, 2) := by decide +kernel
theorem d_Mod_seriesAt_170 : decode b_Mod_seriesAt 170 = .ok (.i2l, 1) := by decide +kernel
theorem d_Mod_seriesAt_171 : decode b_Mod_seriesAt 171 = .ok (.iload 6, 2) := by decide +kernel
theorem d_Mod_seriesAt_173 : decode b_Mod_seriesAt 173 = .ok (.iconst 1, 1) := by decide +kernel
theorem d_Mod_seriesAt_174 : decode b_Mod_seriesAt 174 = .ok (.isub, 1) := by decide +kernel
theorem d_Mod_seriesAt_175 : decode b_Mod_seriesAt 175 = .ok (.i2l, 1) := by decide +kernel
theorem d_Mod_seriesAt_176 : decode b_Mod_seriesAt 176 = .ok (.lmul, 1) := by decide +kernel
theorem d_Mod_seriesAt_177 : decode b_Mod_seriesAt 177 = .ok (.invokestatic 68, 3) := by decide +kernel
theorem d_Mod_seriesAt_180 : decode b_Mod_seriesAt 180 = .ok (.lmul, 1) := by decide +kernel
theorem d_Mod_seriesAt_181 : decode b_Mod_seriesAt 181 = .ok (.ldc2_w 51, 3) := by decide +kernel
theorem d_Mod_seriesAt_184 : decode b_Mod_seriesAt 184 = .ok (.lrem, 1) := by decide +kernel
theorem d_Mod_seriesAt_185 : decode b_Mod_seriesAt 185 = .ok (.lastore, 1) := by decide +kernel
theorem d_Mod_seriesAt_186 : decode b_Mod_seriesAt 186 = .ok (.iinc 6 1, 3) := by decide +kernel
theorem d_Mod_seriesAt_189 : decode b_Mod_seriesAt 189 = .ok (.goto (-166), 3) := by decide +kernel
theorem d_Mod_seriesAt_192 : decode b_Mod_seriesAt 192 = .ok (.aload_n 0, 1) := by decide +kernel
theorem d_Mod_seriesAt_193 : decode b_Mod_seriesAt 193 = .ok (.getfield 41, 3) := by decide +kernel
theorem d_Mod_seriesAt_196 : decode b_Mod_seriesAt 196 = .ok (.iload 5, 2) := by decide +kernel
theorem d_Mod_seriesAt_198 : decode b_Mod_seriesAt 198 = .ok (.laload, 1) := by decide +kernel
theorem d_Mod_seriesAt_199 : decode b_Mod_seriesAt 199 = .ok (.l2i, 1) := by decide +kernel
theorem d_Mod_seriesAt_200 : decode b_Mod_seriesAt 200 = .ok (.ireturn, 1) := by decide +kernel
theorem d_Mod_series_0 : decode b_Mod_series 0 = .ok (.aload_n 0, 1) := by decide +kernel
theorem d_Mod_series_1 : decode b_Mod_series 1 = .ok (.iload 5, 2) := by decide +kernel
theorem d_Mod_series_3 : decode b_Mod_series 3 = .ok (.i2l, 1) := by decide +kernel
theorem d_Mod_series_4 : decode b_Mod_series 4 = .ok (.lconst 0, 1) := by decide +kernel
theorem d_Mod_series_5 : decode b_Mod_series 5 = .ok (.ldc2_w 109, 3) := by decide +kernel
theorem d_Mod_series_8 : decode b_Mod_series 8 = .ok (.invokestatic 53, 3) := by decide +kernel
theorem d_Mod_series_11 : decode b_Mod_series 11 = .ok (.ifCond .eq 7, 3) := by decide +kernel
theorem d_Mod_series_14 : decode b_Mod_series 14 = .ok (.iconst 0, 1) := by decide +kernel
theorem d_Mod_series_15 : decode b_Mod_series 15 = .ok (.goto 4, 3) := by decide +kernel
theorem d_Mod_series_18 : decode b_Mod_series 18 = .ok (.iconst 1, 1) := by decide +kernel
theorem d_Mod_series_19 : decode b_Mod_series 19 = .ok (.putfield 47, 3) := by decide +kernel
theorem d_Mod_series_22 : decode b_Mod_series 22 = .ok (.aload_n 0, 1) := by decide +kernel
theorem d_Mod_series_23 : decode b_Mod_series 23 = .ok (.getfield 47, 3) := by decide +kernel
theorem d_Mod_series_26 : decode b_Mod_series 26 = .ok (.ifCond .le 7, 3) := by decide +kernel
theorem d_Mod_series_29 : decode b_Mod_series 29 = .ok (.iconst 0, 1) := by decide +kernel
theorem d_Mod_series_30 : decode b_Mod_series 30 = .ok (.goto 11, 3) := by decide +kernel
theorem d_Mod_series_33 : decode b_Mod_series 33 = .ok (.aload_n 0, 1) := by decide +kernel
theorem d_Mod_series_34 : decode b_Mod_series 34 = .ok (.lload_n 1, 1) := by decide +kernel
theorem d_Mod_series_35 : decode b_Mod_series 35 = .ok (.lload_n 3, 1) := by decide +kernel
theorem d_Mod_series_36 : decode b_Mod_series 36 = .ok (.iload 5, 2) := by decide +kernel
theorem d_Mod_series_38 : decode b_Mod_series 38 = .ok (.invokevirtual 111, 3) := by decide +kernel
theorem d_Mod_series_41 : decode b_Mod_series 41 = .ok (.ireturn, 1) := by decide +kernel
theorem d_Mod_answer_0 : decode b_Mod_answer 0 = .ok (.aload_n 0, 1) := by decide +kernel
theorem d_Mod_answer_1 : decode b_Mod_answer 1 = .ok (.iload_n 1, 1) := by decide +kernel
theorem d_Mod_answer_2 : decode b_Mod_answer 2 = .ok (.iload_n 2, 1) := by decide +kernel
theorem d_Mod_answer_3 : decode b_Mod_answer 3 = .ok (.bipush 40, 2) := by decide +kernel
theorem d_Mod_answer_5 : decode b_Mod_answer 5 = .ok (.invokevirtual 105, 3) := by decide +kernel
theorem d_Mod_answer_8 : decode b_Mod_answer 8 = .ok (.ifCond .ne 5, 3) := by decide +kernel
theorem d_Mod_answer_11 : decode b_Mod_answer 11 = .ok (.iconst 0, 1) := by decide +kernel
theorem d_Mod_answer_12 : decode b_Mod_answer 12 = .ok (.ireturn, 1) := by decide +kernel
theorem d_Mod_answer_13 : decode b_Mod_answer 13 = .ok (.aload_n 0, 1) := by decide +kernel
theorem d_Mod_answer_14 : decode b_Mod_answer 14 = .ok (.getfield 29, 3) := by decide +kernel
theorem d_Mod_answer_17 : decode b_Mod_answer 17 = .ok (.bipush 13, 2) := by decide +kernel
theorem d_Mod_answer_19 : decode b_Mod_answer 19 = .ok (.iload_n 1, 1) := by decide +kernel
theorem d_Mod_answer_20 : decode b_Mod_answer 20 = .ok (.imul, 1) := by decide +kernel
theorem d_Mod_answer_21 : decode b_Mod_answer 21 = .ok (.laload, 1) := by decide +kernel
theorem d_Mod_answer_22 : decode b_Mod_answer 22 = .ok (.lstore_n 3, 1) := by decide +kernel
theorem d_Mod_answer_23 : decode b_Mod_answer 23 = .ok (.aload_n 0, 1) := by decide +kernel
theorem d_Mod_answer_24 : decode b_Mod_answer 24 = .ok (.lload_n 3, 1) := by decide +kernel
theorem d_Mod_answer_25 : decode b_Mod_answer 25 = .ok (.aload_n 0, 1) := by decide +kernel
theorem d_Mod_answer_26 : decode b_Mod_answer 26 = .ok (.getfield 29, 3) := by decide +kernel
theorem d_Mod_answer_29 : decode b_Mod_answer 29 = .ok (.bipush 13, 2) := by decide +kernel
theorem d_Mod_answer_31 : decode b_Mod_answer 31 = .ok (.iload_n 1, 1) := by decide +kernel
theorem d_Mod_answer_32 : decode b_Mod_answer 32 = .ok (.imul, 1) := by decide +kernel
theorem d_Mod_answer_33 : decode b_Mod_answer 33 = .ok (.iconst 1, 1) := by decide +kernel
theorem d_Mod_answer_34 : decode b_Mod_answer 34 = .ok (.iadd, 1) := by decide +kernel
theorem d_Mod_answer_35 : decode b_Mod_answer 35 = .ok (.laload, 1) := by decide +kernel
theorem d_Mod_answer_36 : decode b_Mod_answer 36 = .ok (.aload_n 0, 1) := by decide +kernel
theorem d_Mod_answer_37 : decode b_Mod_answer 37 = .ok (.getfield 32, 3) := by decide +kernel
theorem d_Mod_answer_40 : decode b_Mod_answer 40 = .ok (.iconst 3, 1) := by decide +kernel
theorem d_Mod_answer_41 : decode b_Mod_answer 41 = .ok (.iload_n 1, 1) := by decide +kernel
theorem d_Mod_answer_42 : decode b_Mod_answer 42 = .ok (.imul, 1) := by decide +kernel
theorem d_Mod_answer_43 : decode b_Mod_answer 43 = .ok (.laload, 1) := by decide +kernel
theorem d_Mod_answer_44 : decode b_Mod_answer 44 = .ok (.lload_n 3, 1) := by decide +kernel
theorem d_Mod_answer_45 : decode b_Mod_answer 45 = .ok (.lmul, 1) := by decide +kernel
theorem d_Mod_answer_46 : decode b_Mod_answer 46 = .ok (.ladd, 1) := by decide +kernel
theorem d_Mod_answer_47 : decode b_Mod_answer 47 = .ok (.iload_n 2, 1) := by decide +kernel
theorem d_Mod_answer_48 : decode b_Mod_answer 48 = .ok (.invokevirtual 111, 3) := by decide +kernel
theorem d_Mod_answer_51 : decode b_Mod_answer 51 = .ok (.ireturn, 1) := by decide +kernel
theorem d_Mod_proves_0 : decode b_Mod_proves 0 = .ok (.aload_n 0, 1) := by decide +kernel
theorem d_Mod_proves_1 : decode b_Mod_proves 1 = .ok (.iconst 0, 1) := by decide +kernel
theorem d_Mod_proves_2 : decode b_Mod_proves 2 = .ok (.putfield 47, 3) := by decide +kernel
theorem d_Mod_proves_5 : decode b_Mod_proves 5 = .ok (.aload_n 0, 1) := by decide +kernel
theorem d_Mod_proves_6 : decode b_Mod_proves 6 = .ok (.invokevirtual 65, 3) := by decide +kernel
theorem d_Mod_proves_9 : decode b_Mod_proves 9 = .ok (.ldc2_w 57, 3) := by decide +kernel
theorem d_Mod_proves_12 : decode b_Mod_proves 12 = .ok (.invokestatic 68, 3) := by decide +kernel
theorem d_Mod_proves_15 : decode b_Mod_proves 15 = .ok (.lstore 7, 2) := by decide +kernel
theorem d_Mod_proves_17 : decode b_Mod_proves 17 = .ok (.aload_n 0, 1) := by decide +kernel
theorem d_Mod_proves_18 : decode b_Mod_proves 18 = .ok (.getfield 20, 3) := by decide +kernel
theorem d_Mod_proves_21 : decode b_Mod_proves 21 = .ok (.iconst 0, 1) := by decide +kernel
theorem d_Mod_proves_22 : decode b_Mod_proves 22 = .ok (.iload_n 1, 1) := by decide +kernel
theorem d_Mod_proves_23 : decode b_Mod_proves 23 = .ok (.i2l, 1) := by decide +kernel
theorem d_Mod_proves_24 : decode b_Mod_proves 24 = .ok (.aload_n 0, 1) := by decide +kernel
theorem d_Mod_proves_25 : decode b_Mod_proves 25 = .ok (.getfield 7, 3) := by decide +kernel
theorem d_Mod_proves_28 : decode b_Mod_proves 28 = .ok (.iconst 0, 1) := by decide +kernel
theorem d_Mod_proves_29 : decode b_Mod_proves 29 = .ok (.iaload, 1) := by decide +kernel
theorem d_Mod_proves_30 : decode b_Mod_proves 30 = .ok (.i2l, 1) := by decide +kernel
theorem d_Mod_proves_31 : decode b_Mod_proves 31 = .ok (.lload 7, 2) := by decide +kernel
theorem d_Mod_proves_33 : decode b_Mod_proves 33 = .ok (.lmul, 1) := by decide +kernel
theorem d_Mod_proves_34 : decode b_Mod_proves 34 = .ok (.ladd, 1) := by decide +kernel
theorem d_Mod_proves_35 : decode b_Mod_proves 35 = .ok (.invokestatic 61, 3) := by decide +kernel
theorem d_Mod_proves_38 : decode b_Mod_proves 38 = .ok (.lastore, 1) := by decide +kernel
theorem d_Mod_proves_39 : decode b_Mod_proves 39 = .ok (.aload_n 0, 1) := by decide +kernel
theorem d_Mod_proves_40 : decode b_Mod_proves 40 = .ok (.getfield 20, 3) := by decide +kernel
theorem d_Mod_proves_43 : decode b_Mod_proves 43 = .ok (.iconst 1, 1) := by decide +kernel
theorem d_Mod_proves_44 : decode b_Mod_proves 44 = .ok (.iload_n 2, 1) := by decide +kernel
theorem d_Mod_proves_45 : decode b_Mod_proves 45 = .ok (.i2l, 1) := by decide +kernel
theorem d_Mod_proves_46 : decode b_Mod_proves 46 = .ok (.aload_n 0, 1) := by decide +kernel
theorem d_Mod_proves_47 : decode b_Mod_proves 47 = .ok (.getfield 7, 3) := by decide +kernel
theorem d_Mod_proves_50 : decode b_Mod_proves 50 = .ok (.iconst 1, 1) := by decide +kernel
theorem d_Mod_proves_51 : decode b_Mod_proves 51 = .ok (.iaload, 1) := by decide +kernel
theorem d_Mod_proves_52 : decode b_Mod_proves 52 = .ok (.i2l, 1) := by decide +kernel
theorem d_Mod_proves_53 : decode b_Mod_proves 53 = .ok (.lload 7, 2) := by decide +kernel
theorem d_Mod_proves_55 : decode b_Mod_proves 55 = .ok (.lmul, 1) := by decide +kernel
theorem d_Mod_proves_56 : decode b_Mod_proves 56 = .ok (.ladd, 1) := by decide +kernel
theorem d_Mod_proves_57 : decode b_Mod_proves 57 = .ok (.invokestatic 61, 3) := by decide +kernel
theorem d_Mod_proves_60 : decode b_Mod_proves 60 = .ok (.lastore, 1) := by decide +kernel
theorem d_Mod_proves_61 : decode b_Mod_proves 61 = .ok (.aload_n 0, 1) := by decide +kernel
theorem d_Mod_proves_62 : decode b_Mod_proves 62 = .ok (.getfield 20, 3) := by decide +kernel
theorem d_Mod_proves_65 : decode b_Mod_proves 65 = .ok (.iconst 2, 1) := by decide +kernel
theorem d_Mod_proves_66 : decode b_Mod_proves 66 = .ok (.iload_n 3, 1) := by decide +kernel
theorem d_Mod_proves_67 : decode b_Mod_proves 67 = .ok (.i2l, 1) := by decide +kernel
theorem d_Mod_proves_68 : decode b_Mod_proves 68 = .ok (.aload_n 0, 1) := by decide +kernel
theorem d_Mod_proves_69 : decode b_Mod_proves 69 = .ok (.getfield 7, 3) := by decide +kernel
theorem d_Mod_proves_72 : decode b_Mod_proves 72 = .ok (.iconst 2, 1) := by decide +kernel
theorem d_Mod_proves_73 : decode b_Mod_proves 73 = .ok (.iaload, 1) := by decide +kernel
theorem d_Mod_proves_74 : decode b_Mod_proves 74 = .ok (.i2l, 1) := by decide +kernel
theorem d_Mod_proves_75 : decode b_Mod_proves 75 = .ok (.lload 7, 2) := by decide +kernel
theorem d_Mod_proves_77 : decode b_Mod_proves 77 = .ok (.lmul, 1) := by decide +kernel
theorem d_Mod_proves_78 : decode b_Mod_proves 78 = .ok (.ladd, 1) := by decide +kernel
theorem d_Mod_proves_79 : decode b_Mod_proves 79 = .ok (.invokestatic 61, 3) := by decide +kernel
theorem d_Mod_proves_82 : decode b_Mod_proves 82 = .ok (.lastore, 1) := by decide +kernel
theorem d_Mod_proves_83 : decode b_Mod_proves 83 = .ok (.iconst 0, 1) := by decide +kernel
theorem d_Mod_proves_84 : decode b_Mod_proves 84 = .ok (.istore 9, 2) := by decide +kernel
theorem d_Mod_proves_86 : decode b_Mod_proves 86 = .ok (.iload 9, 2) := by decide +kernel
theorem d_Mod_proves_88 : decode b_Mod_proves 88 = .ok (.iconst 5, 1) := by decide +kernel
theorem d_Mod_proves_89 : decode b_Mod_proves 89 = .ok (.if_icmp .ge 84, 3) := by decide +kernel
theorem d_Mod_proves_92 : decode b_Mod_proves 92 = .ok (.aload_n 0, 1) := by decide +kernel
theorem d_Mod_proves_93 : decode b_Mod_proves 93 = .ok (.getfield 16, 3) := by decide +kernel
theorem d_Mod_proves_96 : decode b_Mod_proves 96 = .ok (.iload 9, 2) := by decide +kernel
theorem d_Mod_proves_98 : decode b_Mod_proves 98 = .ok (.laload, 1) := by decide +kernel
theorem d_Mod_proves_99 : decode b_Mod_proves 99 = .ok (.lstore 10, 2) := by decide +kernel
theorem d_Mod_proves_101 : decode b_Mod_proves 101 = .ok (.iconst 0, 1) := by decide +kernel
theorem d_Mod_proves_102 : decode b_Mod_proves 102 = .ok (.istore 12, 2) := by decide +kernel
theorem d_Mod_proves_104 : decode b_Mod_proves 104 = .ok (.iload 12, 2) := by decide +kernel
theorem d_Mod_proves_106 : decode b_Mod_proves 106 = .ok (.iconst 3, 1) := by decide +kernel
theorem d_Mod_proves_107 : decode b_Mod_proves 107 = .ok (.if_icmp .ge 51, 3) := by decide +kernel
theorem d_Mod_proves_110 : decode b_Mod_proves 110 = .ok (.iload 9, 2) := by decide +kernel
theorem d_Mod_proves_112 : decode b_Mod_proves 112 = .ok (.iload 12, 2) := by decide +kernel
theorem d_Mod_proves_114 : decode b_Mod_proves 114 = .ok (.isub, 1) := by decide +kernel
theorem d_Mod_proves_115 : decode b_Mod_proves 115 = .ok (.i2l, 1) := by decide +kernel
theorem d_Mod_proves_116 : decode b_Mod_proves 116 = .ok (.lconst 0, 1) := by decide +kernel
theorem d_Mod_proves_117 : decode b_Mod_proves 117 = .ok (.ldc2_w 57, 3) := by decide +kernel
theorem d_Mod_proves_120 : decode b_Mod_proves 120 = .ok (.invokestatic 53, 3) := by decide +kernel
theorem d_Mod_proves_123 : decode b_Mod_proves 123 = .ok (.ifCond .eq 29, 3) := by decide +kernel
theorem d_Mod_proves_126 : decode b_Mod_proves 126 = .ok (.lload 10, 2) := by decide +kernel
theorem d_Mod_proves_128 : decode b_Mod_proves 128 = .ok (.aload_n 0, 1) := by decide +kernel
theorem d_Mod_proves_129 : decode b_Mod_proves 129 = .ok (.getfield 20, 3) := by decide +kernel
theorem d_Mod_proves_132 : decode b_Mod_proves 132 = .ok (.iload 12, 2) := by decide +kernel
theorem d_Mod_proves_134 : decode b_Mod_proves 134 = .ok (.laload, 1) := by decide +kernel
theorem d_Mod_proves_135 : decode b_Mod_proves 135 = .ok (.aload_n 0, 1) := by decide +kernel
theorem d_Mod_proves_136 : decode b_Mod_proves 136 = .ok (.getfield 20, 3) := by decide +kernel
theorem d_Mod_proves_139 : decode b_Mod_proves 139 = .ok (.iload 9, 2) := by decide +kernel
theorem d_Mod_proves_141 : decode b_Mod_proves 141 = .ok (.iload 12, 2) := by decide +kernel
theorem d_Mod_proves_143 : decode b_Mod_proves 143 = .ok (.isub, 1) := by decide +kernel
theorem d_Mod_proves_144 : decode b_Mod_proves 144 = .ok (.laload, 1) := by decide +kernel
theorem d_Mod_proves_145 : decode b_Mod_proves 145 = .ok (.lmul, 1) := by decide +kernel
theorem d_Mod_proves_146 : decode b_Mod_proves 146 = .ok (.lsub, 1) := by decide +kernel
theorem d_Mod_proves_147 : decode b_Mod_proves 147 = .ok (.invokestatic 61, 3) := by decide +kernel
theorem d_Mod_proves_150 : decode b_Mod_proves 150 = .ok (.lstore 10, 2) := by decide +kernel
theorem d_Mod_proves_152 : decode b_Mod_proves 152 = .ok (.iinc 12 1, 3) := by decide +kernel
theorem d_Mod_proves_155 : decode b_Mod_proves 155 = .ok (.goto (-51), 3) := by decide +kernel
theorem d_Mod_proves_158 : decode b_Mod_proves 158 = .ok (.aload_n 0, 1) := by decide +kernel
theorem d_Mod_proves_159 : decode b_Mod_proves 159 = .ok (.getfield 23, 3) := by decide +kernel
theorem d_Mod_proves_162 : decode b_Mod_proves 162 = .ok (.iload 9, 2) := by decide +kernel
theorem d_Mod_proves_164 : decode b_Mod_proves 164 = .ok (.lload 10, 2) := by decide +kernel
theorem d_Mod_proves_166 : decode b_Mod_proves 166 = .ok (.lastore, 1) := by decide +kernel
theorem d_Mod_proves_167 : decode b_Mod_proves 167 = .ok (.iinc 9 1, 3) := by decide +kernel
theorem d_Mod_proves_170 : decode b_Mod_proves 170 = .ok (.goto (-84), 3) := by decide +kernel
theorem d_Mod_proves_173 : decode b_Mod_proves 173 = .ok (.iconst 0, 1) := by decide +kernel
theorem d_Mod_proves_174 : decode b_Mod_proves 174 = .ok (.istore 9, 2) := by decide +kernel
theorem d_Mod_proves_176 : decode b_Mod_proves 176 = .ok (.iload 9, 2) := by decide +kernel
theorem d_Mod_proves_178 : decode b_Mod_proves 178 = .ok (.bipush 12, 2) := by decide +kernel
theorem d_Mod_proves_180 : decode b_Mod_proves 180 = .ok (.if_icmp .gt 17, 3) := by decide +kernel
theorem d_Mod_proves_183 : decode b_Mod_proves 183 = .ok (.aload_n 0, 1) := by decide +kernel
theorem d_Mod_proves_184 : decode b_Mod_proves 184 = .ok (.getfield 38, 3) := by decide +kernel
theorem d_Mod_proves_187 : decode b_Mod_proves 187 = .ok (.iload 9, 2) := by decide +kernel
theorem d_Mod_proves_189 : decode b_Mod_proves 189 = .ok (.lconst 0, 1) := by decide +kernel
theorem d_Mod_proves_190 : decode b_Mod_proves 190 = .ok (.lastore, 1) := by decide +kernel
theorem d_Mod_proves_191 : decode b_Mod_proves 191 = .ok (.iinc 9 1, 3) := by decide +kernel
theorem d_Mod_proves_194 : decode b_Mod_proves 194 = .ok (.goto (-18), 3) := by decide +kernel
theorem d_Mod_proves_197 : decode b_Mod_proves 197 = .ok (.aload_n 0, 1) := by decide +kernel
theorem d_Mod_proves_198 : decode b_Mod_proves 198 = .ok (.getfield 38, 3) := by decide +kernel
theorem d_Mod_proves_201 : decode b_Mod_proves 201 = .ok (.iconst 0, 1) := by decide +kernel
theorem d_Mod_proves_202 : decode b_Mod_proves 202 = .ok (.iload 4, 2) := by decide +kernel
theorem d_Mod_proves_204 : decode b_Mod_proves 204 = .ok (.i2l, 1) := by decide +kernel
theorem d_Mod_proves_205 : decode b_Mod_proves 205 = .ok (.invokestatic 61, 3) := by decide +kernel
theorem d_Mod_proves_208 : decode b_Mod_proves 208 = .ok (.lastore, 1) := by decide +kernel
theorem d_Mod_proves_209 : decode b_Mod_proves 209 = .ok (.aload_n 0, 1) := by decide +kernel
theorem d_Mod_proves_210 : decode b_Mod_proves 210 = .ok (.getfield 38, 3) := by decide +kernel
theorem d_Mod_proves_213 : decode b_Mod_proves 213 = .ok (.iconst 1, 1) := by decide +kernel
theorem d_Mod_proves_214 : decode b_Mod_proves 214 = .ok (.iload 5, 2) := by decide +kernel
theorem d_Mod_proves_216 : decode b_Mod_proves 216 = .ok (.i2l, 1) := by decide +kernel
theorem d_Mod_proves_217 : decode b_Mod_proves 217 = .ok (.invokestatic 61, 3) := by decide +kernel
theorem d_Mod_proves_220 : decode b_Mod_proves 220 = .ok (.lastore, 1) := by decide +kernel
theorem d_Mod_proves_221 : decode b_Mod_proves 221 = .ok (.aload_n 0, 1) := by decide +kernel
theorem d_Mod_proves_222 : decode b_Mod_proves 222 = .ok (.getfield 38, 3) := by decide +kernel
theorem d_Mod_proves_225 : decode b_Mod_proves 225 = .ok (.iconst 2, 1) := by decide +kernel
theorem d_Mod_proves_226 : decode b_Mod_proves 226 = .ok (.iload 6, 2) := by decide +kernel
theorem d_Mod_proves_228 : decode b_Mod_proves 228 = .ok (.i2l, 1) := by decide +kernel
theorem d_Mod_proves_229 : decode b_Mod_proves 229 = .ok (.invokestatic 61, 3) := by decide +kernel
theorem d_Mod_proves_232 : decode b_Mod_proves 232 = .ok (.lastore, 1) := by decide +kernel
theorem d_Mod_proves_233 : decode b_Mod_proves 233 = .ok (.aload_n 0, 1) := by decide +kernel
theorem d_Mod_proves_234 : decode b_Mod_proves 234 = .ok (.invokevirtual 89, 3) := by decide +kernel
theorem d_Mod_proves_237 : decode b_Mod_proves 237 = .ok (.iconst 0, 1) := by decide +kernel
theorem d_Mod_proves_238 : decode b_Mod_proves 238 = .ok (.istore 9, 2) := by decide +kernel
theorem d_Mod_proves_240 : decode b_Mod_proves 240 = .ok (.iload 9, 2) := by decide +kernel
theorem d_Mod_proves_242 : decode b_Mod_proves 242 = .ok (.bipush 20, 2) := by decide +kernel
theorem d_Mod_proves_244 : decode b_Mod_proves 244 = .ok (.if_icmp .ge 23, 3) := by decide +kernel
theorem d_Mod_proves_247 : decode b_Mod_proves 247 = .ok (.aload_n 0, 1) := by decide +kernel
theorem d_Mod_proves_248 : decode b_Mod_proves 248 = .ok (.getfield 35, 3) := by decide +kernel
theorem d_Mod_proves_251 : decode b_Mod_proves 251 = .ok (.iload 9, 2) := by decide +kernel
theorem d_Mod_proves_253 : decode b_Mod_proves 253 = .ok (.laload, 1) := by decide +kernel
theorem d_Mod_proves_254 : decode b_Mod_proves 254 = .ok (.lconst 0, 1) := by decide +kernel
theorem d_Mod_proves_255 : decode b_Mod_proves 255 = .ok (.lcmp, 1) := by decide +kernel
theorem d_Mod_proves_256 : decode b_Mod_proves 256 = .ok (.ifCond .eq 5, 3) := by decide +kernel
theorem d_Mod_proves_259 : decode b_Mod_proves 259 = .ok (.iconst 0, 1) := by decide +kernel
theorem d_Mod_proves_260 : decode b_Mod_proves 260 = .ok (.ireturn, 1) := by decide +kernel
theorem d_Mod_proves_261 : decode b_Mod_proves 261 = .ok (.iinc 9 1, 3) := by decide +kernel
theorem d_Mod_proves_264 : decode b_Mod_proves 264 = .ok (.goto (-24), 3) := by decide +kernel
theorem d_Mod_proves_267 : decode b_Mod_proves 267 = .ok (.iconst 1, 1) := by decide +kernel
theorem d_Mod_proves_268 : decode b_Mod_proves 268 = .ok (.ireturn, 1) := by decide +kernel
