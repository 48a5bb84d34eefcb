theorem d_X_init_0 : decode b_X_init 0 = .ok (.aload_n 0, 1) := by decide +kernel
theorem d_X_init_1 : decode b_X_init 1 = .ok (.invokespecial 1, 3) := by decide +kernel
theorem d_X_init_4 : decode b_X_init 4 = .ok (.aload_n 0, 1) := by decide +kernel
theorem d_X_init_5 : decode b_X_init 5 = .ok (.iload_n 1, 1) := by decide +kernel
theorem d_X_init_6 : decode b_X_init 6 = .ok (.putfield 7, 3) := by decide +kernel
theorem d_X_init_9 : decode b_X_init 9 = .ok (.aload_n 0, 1) := by decide +kernel
theorem d_X_init_10 : decode b_X_init 10 = .ok (.sipush 256, 3) := by decide +kernel
theorem d_X_init_13 : decode b_X_init 13 = .ok (.newarray .int, 2) := by decide +kernel
theorem d_X_init_15 : decode b_X_init 15 = .ok (.putfield 13, 3) := by decide +kernel
theorem d_X_init_18 : decode b_X_init 18 = .ok (.aload_n 0, 1) := by decide +kernel
theorem d_X_init_19 : decode b_X_init 19 = .ok (.bipush 16, 2) := by decide +kernel
theorem d_X_init_21 : decode b_X_init 21 = .ok (.newarray .int, 2) := by decide +kernel
theorem d_X_init_23 : decode b_X_init 23 = .ok (.putfield 17, 3) := by decide +kernel
theorem d_X_init_26 : decode b_X_init 26 = .ok (.aload_n 0, 1) := by decide +kernel
theorem d_X_init_27 : decode b_X_init 27 = .ok (.getfield 17, 3) := by decide +kernel
theorem d_X_init_30 : decode b_X_init 30 = .ok (.iconst 0, 1) := by decide +kernel
theorem d_X_init_31 : decode b_X_init 31 = .ok (.iconst 0, 1) := by decide +kernel
theorem d_X_init_32 : decode b_X_init 32 = .ok (.iastore, 1) := by decide +kernel
theorem d_X_init_33 : decode b_X_init 33 = .ok (.iconst 1, 1) := by decide +kernel
theorem d_X_init_34 : decode b_X_init 34 = .ok (.istore_n 2, 1) := by decide +kernel
theorem d_X_init_35 : decode b_X_init 35 = .ok (.iload_n 2, 1) := by decide +kernel
theorem d_X_init_36 : decode b_X_init 36 = .ok (.bipush 16, 2) := by decide +kernel
theorem d_X_init_38 : decode b_X_init 38 = .ok (.if_icmp .ge 16, 3) := by decide +kernel
theorem d_X_init_41 : decode b_X_init 41 = .ok (.aload_n 0, 1) := by decide +kernel
theorem d_X_init_42 : decode b_X_init 42 = .ok (.getfield 17, 3) := by decide +kernel
theorem d_X_init_45 : decode b_X_init 45 = .ok (.iload_n 2, 1) := by decide +kernel
theorem d_X_init_46 : decode b_X_init 46 = .ok (.iconst 1, 1) := by decide +kernel
theorem d_X_init_47 : decode b_X_init 47 = .ok (.iastore, 1) := by decide +kernel
theorem d_X_init_48 : decode b_X_init 48 = .ok (.iinc 2 1, 3) := by decide +kernel
theorem d_X_init_51 : decode b_X_init 51 = .ok (.goto (-16), 3) := by decide +kernel
theorem d_X_init_54 : decode b_X_init 54 = .ok (.aload_n 0, 1) := by decide +kernel
theorem d_X_init_55 : decode b_X_init 55 = .ok (.iconst 4, 1) := by decide +kernel
theorem d_X_init_56 : decode b_X_init 56 = .ok (.anewarray 20, 3) := by decide +kernel
theorem d_X_init_59 : decode b_X_init 59 = .ok (.putfield 22, 3) := by decide +kernel
theorem d_X_init_62 : decode b_X_init 62 = .ok (.iconst 0, 1) := by decide +kernel
theorem d_X_init_63 : decode b_X_init 63 = .ok (.istore_n 2, 1) := by decide +kernel
theorem d_X_init_64 : decode b_X_init 64 = .ok (.iload_n 2, 1) := by decide +kernel
theorem d_X_init_65 : decode b_X_init 65 = .ok (.iconst 4, 1) := by decide +kernel
theorem d_X_init_66 : decode b_X_init 66 = .ok (.if_icmp .ge 22, 3) := by decide +kernel
theorem d_X_init_69 : decode b_X_init 69 = .ok (.aload_n 0, 1) := by decide +kernel
theorem d_X_init_70 : decode b_X_init 70 = .ok (.getfield 22, 3) := by decide +kernel
theorem d_X_init_73 : decode b_X_init 73 = .ok (.iload_n 2, 1) := by decide +kernel
theorem d_X_init_74 : decode b_X_init 74 = .ok (.new 20, 3) := by decide +kernel
theorem d_X_init_77 : decode b_X_init 77 = .ok (.dup, 1) := by decide +kernel
theorem d_X_init_78 : decode b_X_init 78 = .ok (.invokespecial 26, 3) := by decide +kernel
theorem d_X_init_81 : decode b_X_init 81 = .ok (.aastore, 1) := by decide +kernel
theorem d_X_init_82 : decode b_X_init 82 = .ok (.iinc 2 1, 3) := by decide +kernel
theorem d_X_init_85 : decode b_X_init 85 = .ok (.goto (-21), 3) := by decide +kernel
theorem d_X_init_88 : decode b_X_init 88 = .ok (.aload_n 0, 1) := by decide +kernel
theorem d_X_init_89 : decode b_X_init 89 = .ok (.iconst 2, 1) := by decide +kernel
theorem d_X_init_90 : decode b_X_init 90 = .ok (.anewarray 27, 3) := by decide +kernel
theorem d_X_init_93 : decode b_X_init 93 = .ok (.putfield 29, 3) := by decide +kernel
theorem d_X_init_96 : decode b_X_init 96 = .ok (.iconst 0, 1) := by decide +kernel
theorem d_X_init_97 : decode b_X_init 97 = .ok (.istore_n 2, 1) := by decide +kernel
theorem d_X_init_98 : decode b_X_init 98 = .ok (.iload_n 2, 1) := by decide +kernel
theorem d_X_init_99 : decode b_X_init 99 = .ok (.iconst 2, 1) := by decide +kernel
theorem d_X_init_100 : decode b_X_init 100 = .ok (.if_icmp .ge 22, 3) := by decide +kernel
theorem d_X_init_103 : decode b_X_init 103 = .ok (.aload_n 0, 1) := by decide +kernel
theorem d_X_init_104 : decode b_X_init 104 = .ok (.getfield 29, 3) := by decide +kernel
theorem d_X_init_107 : decode b_X_init 107 = .ok (.iload_n 2, 1) := by decide +kernel
theorem d_X_init_108 : decode b_X_init 108 = .ok (.new 27, 3) := by decide +kernel
theorem d_X_init_111 : decode b_X_init 111 = .ok (.dup, 1) := by decide +kernel
theorem d_X_init_112 : decode b_X_init 112 = .ok (.invokespecial 33, 3) := by decide +kernel
theorem d_X_init_115 : decode b_X_init 115 = .ok (.aastore, 1) := by decide +kernel
theorem d_X_init_116 : decode b_X_init 116 = .ok (.iinc 2 1, 3) := by decide +kernel
theorem d_X_init_119 : decode b_X_init 119 = .ok (.goto (-21), 3) := by decide +kernel
theorem d_X_init_122 : decode b_X_init 122 = .ok (.aload_n 0, 1) := by decide +kernel
theorem d_X_init_123 : decode b_X_init 123 = .ok (.invokevirtual 34, 3) := by decide +kernel
theorem d_X_init_126 : decode b_X_init 126 = .ok (.return_, 1) := by decide +kernel
theorem d_X_load_0 : decode b_X_load 0 = .ok (.aload_n 0, 1) := by decide +kernel
theorem d_X_load_1 : decode b_X_load 1 = .ok (.iload_n 1, 1) := by decide +kernel
theorem d_X_load_2 : decode b_X_load 2 = .ok (.invokevirtual 37, 3) := by decide +kernel
theorem d_X_load_5 : decode b_X_load 5 = .ok (.ifCond .eq 7, 3) := by decide +kernel
theorem d_X_load_8 : decode b_X_load 8 = .ok (.ldc2_w 41, 3) := by decide +kernel
theorem d_X_load_11 : decode b_X_load 11 = .ok (.lreturn, 1) := by decide +kernel
theorem d_X_load_12 : decode b_X_load 12 = .ok (.aload_n 0, 1) := by decide +kernel
theorem d_X_load_13 : decode b_X_load 13 = .ok (.aload_n 0, 1) := by decide +kernel
theorem d_X_load_14 : decode b_X_load 14 = .ok (.getfield 29, 3) := by decide +kernel
theorem d_X_load_17 : decode b_X_load 17 = .ok (.iload_n 1, 1) := by decide +kernel
theorem d_X_load_18 : decode b_X_load 18 = .ok (.aaload, 1) := by decide +kernel
theorem d_X_load_19 : decode b_X_load 19 = .ok (.iload_n 2, 1) := by decide +kernel
theorem d_X_load_20 : decode b_X_load 20 = .ok (.iconst 1, 1) := by decide +kernel
theorem d_X_load_21 : decode b_X_load 21 = .ok (.invokevirtual 43, 3) := by decide +kernel
theorem d_X_load_24 : decode b_X_load 24 = .ok (.ifCond .ne 17, 3) := by decide +kernel
theorem d_X_load_27 : decode b_X_load 27 = .ok (.aload_n 0, 1) := by decide +kernel
theorem d_X_load_28 : decode b_X_load 28 = .ok (.dup, 1) := by decide +kernel
theorem d_X_load_29 : decode b_X_load 29 = .ok (.getfield 47, 3) := by decide +kernel
theorem d_X_load_32 : decode b_X_load 32 = .ok (.iconst 1, 1) := by decide +kernel
theorem d_X_load_33 : decode b_X_load 33 = .ok (.iadd, 1) := by decide +kernel
theorem d_X_load_34 : decode b_X_load 34 = .ok (.putfield 47, 3) := by decide +kernel
theorem d_X_load_37 : decode b_X_load 37 = .ok (.ldc2_w 50, 3) := by decide +kernel
theorem d_X_load_40 : decode b_X_load 40 = .ok (.lreturn, 1) := by decide +kernel
theorem d_X_load_41 : decode b_X_load 41 = .ok (.aload_n 0, 1) := by decide +kernel
theorem d_X_load_42 : decode b_X_load 42 = .ok (.getfield 13, 3) := by decide +kernel
theorem d_X_load_45 : decode b_X_load 45 = .ok (.iload_n 2, 1) := by decide +kernel
theorem d_X_load_46 : decode b_X_load 46 = .ok (.iaload, 1) := by decide +kernel
theorem d_X_load_47 : decode b_X_load 47 = .ok (.i2l, 1) := by decide +kernel
theorem d_X_load_48 : decode b_X_load 48 = .ok (.lreturn, 1) := by decide +kernel
theorem d_X_store_0 : decode b_X_store 0 = .ok (.aload_n 0, 1) := by decide +kernel
theorem d_X_store_1 : decode b_X_store 1 = .ok (.iload_n 1, 1) := by decide +kernel
theorem d_X_store_2 : decode b_X_store 2 = .ok (.invokevirtual 37, 3) := by decide +kernel
theorem d_X_store_5 : decode b_X_store 5 = .ok (.ifCond .eq 5, 3) := by decide +kernel
theorem d_X_store_8 : decode b_X_store 8 = .ok (.iconst (-1), 1) := by decide +kernel
theorem d_X_store_9 : decode b_X_store 9 = .ok (.ireturn, 1) := by decide +kernel
theorem d_X_store_10 : decode b_X_store 10 = .ok (.aload_n 0, 1) := by decide +kernel
theorem d_X_store_11 : decode b_X_store 11 = .ok (.aload_n 0, 1) := by decide +kernel
theorem d_X_store_12 : decode b_X_store 12 = .ok (.getfield 29, 3) := by decide +kernel
theorem d_X_store_15 : decode b_X_store 15 = .ok (.iload_n 1, 1) := by decide +kernel
theorem d_X_store_16 : decode b_X_store 16 = .ok (.aaload, 1) := by decide +kernel
theorem d_X_store_17 : decode b_X_store 17 = .ok (.iload_n 2, 1) := by decide +kernel
theorem d_X_store_18 : decode b_X_store 18 = .ok (.iconst 2, 1) := by decide +kernel
theorem d_X_store_19 : decode b_X_store 19 = .ok (.invokevirtual 43, 3) := by decide +kernel
theorem d_X_store_22 : decode b_X_store 22 = .ok (.ifCond .ne 15, 3) := by decide +kernel
theorem d_X_store_25 : decode b_X_store 25 = .ok (.aload_n 0, 1) := by decide +kernel
theorem d_X_store_26 : decode b_X_store 26 = .ok (.dup, 1) := by decide +kernel
theorem d_X_store_27 : decode b_X_store 27 = .ok (.getfield 47, 3) := by decide +kernel
theorem d_X_store_30 : decode b_X_store 30 = .ok (.iconst 1, 1) := by decide +kernel
theorem d_X_store_31 : decode b_X_store 31 = .ok (.iadd, 1) := by decide +kernel
theorem d_X_store_32 : decode b_X_store 32 = .ok (.putfield 47, 3) := by decide +kernel
theorem d_X_store_35 : decode b_X_store 35 = .ok (.iconst 1, 1) := by decide +kernel
theorem d_X_store_36 : decode b_X_store 36 = .ok (.ireturn, 1) := by decide +kernel
theorem d_X_store_37 : decode b_X_store 37 = .ok (.aload_n 0, 1) := by decide +kernel
theorem d_X_store_38 : decode b_X_store 38 = .ok (.getfield 13, 3) := by decide +kernel
theorem d_X_store_41 : decode b_X_store 41 = .ok (.iload_n 2, 1) := by decide +kernel
theorem d_X_store_42 : decode b_X_store 42 = .ok (.iload_n 3, 1) := by decide +kernel
theorem d_X_store_43 : decode b_X_store 43 = .ok (.iastore, 1) := by decide +kernel
theorem d_X_store_44 : decode b_X_store 44 = .ok (.iconst 0, 1) := by decide +kernel
theorem d_X_store_45 : decode b_X_store 45 = .ok (.ireturn, 1) := by decide +kernel
theorem d_X_denied_0 : decode b_X_denied 0 = .ok (.aload_n 0, 1) := by decide +kernel
theorem d_X_denied_1 : decode b_X_denied 1 = .ok (.getfield 47, 3) := by decide +kernel
theorem d_X_denied_4 : decode b_X_denied 4 = .ok (.ireturn, 1) := by decide +kernel
theorem d_X_give_0 : decode b_X_give 0 = .ok (.aload_n 0, 1) := by decide +kernel
theorem d_X_give_1 : decode b_X_give 1 = .ok (.iload_n 1, 1) := by decide +kernel
theorem d_X_give_2 : decode b_X_give 2 = .ok (.invokevirtual 37, 3) := by decide +kernel
theorem d_X_give_5 : decode b_X_give 5 = .ok (.ifCond .ne 10, 3) := by decide +kernel
theorem d_X_give_8 : decode b_X_give 8 = .ok (.iload_n 2, 1) := by decide +kernel
theorem d_X_give_9 : decode b_X_give 9 = .ok (.invokestatic 52, 3) := by decide +kernel
theorem d_X_give_12 : decode b_X_give 12 = .ok (.ifCond .ne 5, 3) := by decide +kernel
theorem d_X_give_15 : decode b_X_give 15 = .ok (.iconst 0, 1) := by decide +kernel
theorem d_X_give_16 : decode b_X_give 16 = .ok (.ireturn, 1) := by decide +kernel
theorem d_X_give_17 : decode b_X_give 17 = .ok (.aload_n 0, 1) := by decide +kernel
theorem d_X_give_18 : decode b_X_give 18 = .ok (.getfield 29, 3) := by decide +kernel
theorem d_X_give_21 : decode b_X_give 21 = .ok (.iload_n 1, 1) := by decide +kernel
theorem d_X_give_22 : decode b_X_give 22 = .ok (.aaload, 1) := by decide +kernel
theorem d_X_give_23 : decode b_X_give 23 = .ok (.getfield 55, 3) := by decide +kernel
theorem d_X_give_26 : decode b_X_give 26 = .ok (.iload_n 2, 1) := by decide +kernel
theorem d_X_give_27 : decode b_X_give 27 = .ok (.iload_n 3, 1) := by decide +kernel
theorem d_X_give_28 : decode b_X_give 28 = .ok (.iastore, 1) := by decide +kernel
theorem d_X_give_29 : decode b_X_give 29 = .ok (.iconst 1, 1) := by decide +kernel
theorem d_X_give_30 : decode b_X_give 30 = .ok (.ireturn, 1) := by decide +kernel
theorem d_X_register_0 : decode b_X_register 0 = .ok (.aload_n 0, 1) := by decide +kernel
theorem d_X_register_1 : decode b_X_register 1 = .ok (.iload_n 1, 1) := by decide +kernel
theorem d_X_register_2 : decode b_X_register 2 = .ok (.invokevirtual 37, 3) := by decide +kernel
theorem d_X_register_5 : decode b_X_register 5 = .ok (.ifCond .ne 10, 3) := by decide +kernel
theorem d_X_register_8 : decode b_X_register 8 = .ok (.iload_n 2, 1) := by decide +kernel
theorem d_X_register_9 : decode b_X_register 9 = .ok (.invokestatic 52, 3) := by decide +kernel
theorem d_X_register_12 : decode b_X_register 12 = .ok (.ifCond .ne 7, 3) := by decide +kernel
theorem d_X_register_15 : decode b_X_register 15 = .ok (.ldc2_w 41, 3) := by decide +kernel
theorem d_X_register_18 : decode b_X_register 18 = .ok (.lreturn, 1) := by decide +kernel
theorem d_X_register_19 : decode b_X_register 19 = .ok (.aload_n 0, 1) := by decide +kernel
theorem d_X_register_20 : decode b_X_register 20 = .ok (.getfield 29, 3) := by decide +kernel
theorem d_X_register_23 : decode b_X_register 23 = .ok (.iload_n 1, 1) := by decide +kernel
theorem d_X_register_24 : decode b_X_register 24 = .ok (.aaload, 1) := by decide +kernel
theorem d_X_register_25 : decode b_X_register 25 = .ok (.getfield 55, 3) := by decide +kernel
theorem d_X_register_28 : decode b_X_register 28 = .ok (.iload_n 2, 1) := by decide +kernel
theorem d_X_register_29 : decode b_X_register 29 = .ok (.iaload, 1) := by decide +kernel
theorem d_X_register_30 : decode b_X_register 30 = .ok (.i2l, 1) := by decide +kernel
theorem d_X_register_31 : decode b_X_register 31 = .ok (.lreturn, 1) := by decide +kernel
theorem d_X_create_0 : decode b_X_create 0 = .ok (.aload_n 0, 1) := by decide +kernel
theorem d_X_create_1 : decode b_X_create 1 = .ok (.iload_n 1, 1) := by decide +kernel
theorem d_X_create_2 : decode b_X_create 2 = .ok (.invokevirtual 37, 3) := by decide +kernel
theorem d_X_create_5 : decode b_X_create 5 = .ok (.ifCond .eq 5, 3) := by decide +kernel
theorem d_X_create_8 : decode b_X_create 8 = .ok (.iconst (-1), 1) := by decide +kernel
theorem d_X_create_9 : decode b_X_create 9 = .ok (.ireturn, 1) := by decide +kernel
theorem d_X_create_10 : decode b_X_create 10 = .ok (.iload_n 2, 1) := by decide +kernel
theorem d_X_create_11 : decode b_X_create 11 = .ok (.iload_n 3, 1) := by decide +kernel
theorem d_X_create_12 : decode b_X_create 12 = .ok (.invokestatic 58, 3) := by decide +kernel
theorem d_X_create_15 : decode b_X_create 15 = .ok (.ifCond .eq 21, 3) := by decide +kernel
theorem d_X_create_18 : decode b_X_create 18 = .ok (.iload 4, 2) := by decide +kernel
theorem d_X_create_20 : decode b_X_create 20 = .ok (.iload_n 2, 1) := by decide +kernel
theorem d_X_create_21 : decode b_X_create 21 = .ok (.iload_n 3, 1) := by decide +kernel
theorem d_X_create_22 : decode b_X_create 22 = .ok (.invokestatic 62, 3) := by decide +kernel
theorem d_X_create_25 : decode b_X_create 25 = .ok (.ifCond .eq 11, 3) := by decide +kernel
theorem d_X_create_28 : decode b_X_create 28 = .ok (.iload 5, 2) := by decide +kernel
theorem d_X_create_30 : decode b_X_create 30 = .ok (.invokestatic 66, 3) := by decide +kernel
theorem d_X_create_33 : decode b_X_create 33 = .ok (.ifCond .ne 6, 3) := by decide +kernel
theorem d_X_create_36 : decode b_X_create 36 = .ok (.bipush (-2), 2) := by decide +kernel
theorem d_X_create_38 : decode b_X_create 38 = .ok (.ireturn, 1) := by decide +kernel
theorem d_X_create_39 : decode b_X_create 39 = .ok (.aload_n 0, 1) := by decide +kernel
theorem d_X_create_40 : decode b_X_create 40 = .ok (.iload_n 2, 1) := by decide +kernel
theorem d_X_create_41 : decode b_X_create 41 = .ok (.iload_n 3, 1) := by decide +kernel
theorem d_X_create_42 : decode b_X_create 42 = .ok (.invokevirtual 69, 3) := by decide +kernel
theorem d_X_create_45 : decode b_X_create 45 = .ok (.ifCond .ne 6, 3) := by decide +kernel
theorem d_X_create_48 : decode b_X_create 48 = .ok (.bipush (-3), 2) := by decide +kernel
theorem d_X_create_50 : decode b_X_create 50 = .ok (.ireturn, 1) := by decide +kernel
theorem d_X_create_51 : decode b_X_create 51 = .ok (.aload_n 0, 1) := by decide +kernel
theorem d_X_create_52 : decode b_X_create 52 = .ok (.iload 5, 2) := by decide +kernel
theorem d_X_create_54 : decode b_X_create 54 = .ok (.iload_n 2, 1) := by decide +kernel
theorem d_X_create_55 : decode b_X_create 55 = .ok (.iload_n 3, 1) := by decide +kernel
theorem d_X_create_56 : decode b_X_create 56 = .ok (.invokevirtual 72, 3) := by decide +kernel
theorem d_X_create_59 : decode b_X_create 59 = .ok (.ifCond .ne 6, 3) := by decide +kernel
theorem d_X_create_62 : decode b_X_create 62 = .ok (.bipush (-4), 2) := by decide +kernel
theorem d_X_create_64 : decode b_X_create 64 = .ok (.ireturn, 1) := by decide +kernel
theorem d_X_create_65 : decode b_X_create 65 = .ok (.aload_n 0, 1) := by decide +kernel
theorem d_X_create_66 : decode b_X_create 66 = .ok (.invokevirtual 75, 3) := by decide +kernel
theorem d_X_create_69 : decode b_X_create 69 = .ok (.istore 6, 2) := by decide +kernel
theorem d_X_create_71 : decode b_X_create 71 = .ok (.iload 6, 2) := by decide +kernel
theorem d_X_create_73 : decode b_X_create 73 = .ok (.iconst (-1), 1) := by decide +kernel
theorem d_X_create_74 : decode b_X_create 74 = .ok (.if_icmp .ne 6, 3) := by decide +kernel
theorem d_X_create_77 : decode b_X_create 77 = .ok (.bipush (-5), 2) := by decide +kernel
theorem d_X_create_79 : decode b_X_create 79 = .ok (.ireturn, 1) := by decide +kernel
theorem d_X_create_80 : decode b_X_create 80 = .ok (.aload_n 0, 1) := by decide +kernel
theorem d_X_create_81 : decode b_X_create 81 = .ok (.iload 6, 2) := by decide +kernel
theorem d_X_create_83 : decode b_X_create 83 = .ok (.iload_n 2, 1) := by decide +kernel
theorem d_X_create_84 : decode b_X_create 84 = .ok (.iload_n 3, 1) := by decide +kernel
theorem d_X_create_85 : decode b_X_create 85 = .ok (.iload 4, 2) := by decide +kernel
theorem d_X_create_87 : decode b_X_create 87 = .ok (.iload 5, 2) := by decide +kernel
theorem d_X_create_89 : decode b_X_create 89 = .ok (.invokevirtual 79, 3) := by decide +kernel
theorem d_X_create_92 : decode b_X_create 92 = .ok (.iload 6, 2) := by decide +kernel
theorem d_X_create_94 : decode b_X_create 94 = .ok (.ireturn, 1) := by decide +kernel
theorem d_X_run_0 : decode b_X_run 0 = .ok (.aload_n 0, 1) := by decide +kernel
theorem d_X_run_1 : decode b_X_run 1 = .ok (.iload_n 1, 1) := by decide +kernel
theorem d_X_run_2 : decode b_X_run 2 = .ok (.invokevirtual 37, 3) := by decide +kernel
theorem d_X_run_5 : decode b_X_run 5 = .ok (.ifCond .eq 5, 3) := by decide +kernel
theorem d_X_run_8 : decode b_X_run 8 = .ok (.iconst (-1), 1) := by decide +kernel
theorem d_X_run_9 : decode b_X_run 9 = .ok (.ireturn, 1) := by decide +kernel
theorem d_X_run_10 : decode b_X_run 10 = .ok (.aload_n 0, 1) := by decide +kernel
theorem d_X_run_11 : decode b_X_run 11 = .ok (.iload_n 2, 1) := by decide +kernel
theorem d_X_run_12 : decode b_X_run 12 = .ok (.invokevirtual 83, 3) := by decide +kernel
theorem d_X_run_15 : decode b_X_run 15 = .ok (.ifCond .ne 6, 3) := by decide +kernel
theorem d_X_run_18 : decode b_X_run 18 = .ok (.bipush (-2), 2) := by decide +kernel
theorem d_X_run_20 : decode b_X_run 20 = .ok (.ireturn, 1) := by decide +kernel
theorem d_X_run_21 : decode b_X_run 21 = .ok (.aload_n 0, 1) := by decide +kernel
theorem d_X_run_22 : decode b_X_run 22 = .ok (.getfield 22, 3) := by decide +kernel
theorem d_X_run_25 : decode b_X_run 25 = .ok (.iload_n 2, 1) := by decide +kernel
theorem d_X_run_26 : decode b_X_run 26 = .ok (.aaload, 1) := by decide +kernel
theorem d_X_run_27 : decode b_X_run 27 = .ok (.astore 4, 2) := by decide +kernel
theorem d_X_run_29 : decode b_X_run 29 = .ok (.aload 4, 2) := by decide +kernel
theorem d_X_run_31 : decode b_X_run 31 = .ok (.getfield 86, 3) := by decide +kernel
theorem d_X_run_34 : decode b_X_run 34 = .ok (.iconst 1, 1) := by decide +kernel
theorem d_X_run_35 : decode b_X_run 35 = .ok (.if_icmp .eq 15, 3) := by decide +kernel
theorem d_X_run_38 : decode b_X_run 38 = .ok (.aload 4, 2) := by decide +kernel
theorem d_X_run_40 : decode b_X_run 40 = .ok (.getfield 86, 3) := by decide +kernel
theorem d_X_run_43 : decode b_X_run 43 = .ok (.iconst 3, 1) := by decide +kernel
theorem d_X_run_44 : decode b_X_run 44 = .ok (.if_icmp .eq 6, 3) := by decide +kernel
theorem d_X_run_47 : decode b_X_run 47 = .ok (.bipush (-2), 2) := by decide +kernel
theorem d_X_run_49 : decode b_X_run 49 = .ok (.ireturn, 1) := by decide +kernel
theorem d_X_run_50 : decode b_X_run 50 = .ok (.aload 4, 2) := by decide +kernel
theorem d_X_run_52 : decode b_X_run 52 = .ok (.getfield 86, 3) := by decide +kernel
theorem d_X_run_55 : decode b_X_run 55 = .ok (.iconst 1, 1) := by decide +kernel
theorem d_X_run_56 : decode b_X_run 56 = .ok (.if_icmp .ne 9, 3) := by decide +kernel
theorem d_X_run_59 : decode b_X_run 59 = .ok (.aload 4, 2) := by decide +kernel
theorem d_X_run_61 : decode b_X_run 61 = .ok (.iload_n 3, 1) := by decide +kernel
theorem d_X_run_62 : decode b_X_run 62 = .ok (.invokevirtual 89, 3) := by decide +kernel
theorem d_X_run_65 : decode b_X_run 65 = .ok (.aload 4, 2) := by decide +kernel
theorem d_X_run_67 : decode b_X_run 67 = .ok (.iconst 2, 1) := by decide +kernel
theorem d_X_run_68 : decode b_X_run 68 = .ok (.putfield 86, 3) := by decide +kernel
theorem d_X_run_71 : decode b_X_run 71 = .ok (.aload_n 0, 1) := by decide +kernel
theorem d_X_run_72 : decode b_X_run 72 = .ok (.getfield 29, 3) := by decide +kernel
theorem d_X_run_75 : decode b_X_run 75 = .ok (.iload_n 1, 1) := by decide +kernel
theorem d_X_run_76 : decode b_X_run 76 = .ok (.aaload, 1) := by decide +kernel
theorem d_X_run_77 : decode b_X_run 77 = .ok (.iload_n 2, 1) := by decide +kernel
theorem d_X_run_78 : decode b_X_run 78 = .ok (.putfield 93, 3) := by decide +kernel
theorem d_X_run_81 : decode b_X_run 81 = .ok (.aload_n 0, 1) := by decide +kernel
theorem d_X_run_82 : decode b_X_run 82 = .ok (.aload_n 0, 1) := by decide +kernel
theorem d_X_run_83 : decode b_X_run 83 = .ok (.getfield 29, 3) := by decide +kernel
theorem d_X_run_86 : decode b_X_run 86 = .ok (.iload_n 1, 1) := by decide +kernel
theorem d_X_run_87 : decode b_X_run 87 = .ok (.aaload, 1) := by decide +kernel
theorem d_X_run_88 : decode b_X_run 88 = .ok (.invokevirtual 96, 3) := by decide +kernel
theorem d_X_run_91 : decode b_X_run 91 = .ok (.iconst 0, 1) := by decide +kernel
theorem d_X_run_92 : decode b_X_run 92 = .ok (.ireturn, 1) := by decide +kernel
theorem d_X_step_0 : decode b_X_step 0 = .ok (.aload_n 0, 1) := by decide +kernel
theorem d_X_step_1 : decode b_X_step 1 = .ok (.iload_n 1, 1) := by decide +kernel
theorem d_X_step_2 : decode b_X_step 2 = .ok (.invokevirtual 100, 3) := by decide +kernel
theorem d_X_step_5 : decode b_X_step 5 = .ok (.ifCond .eq 14, 3) := by decide +kernel
theorem d_X_step_8 : decode b_X_step 8 = .ok (.iload_n 2, 1) := by decide +kernel
theorem d_X_step_9 : decode b_X_step 9 = .ok (.iconst 1, 1) := by decide +kernel
theorem d_X_step_10 : decode b_X_step 10 = .ok (.if_icmp .lt 9, 3) := by decide +kernel
theorem d_X_step_13 : decode b_X_step 13 = .ok (.iload_n 2, 1) := by decide +kernel
theorem d_X_step_14 : decode b_X_step 14 = .ok (.bipush 100, 2) := by decide +kernel
theorem d_X_step_16 : decode b_X_step 16 = .ok (.if_icmp .le 5, 3) := by decide +kernel
theorem d_X_step_19 : decode b_X_step 19 = .ok (.iconst (-1), 1) := by decide +kernel
theorem d_X_step_20 : decode b_X_step 20 = .ok (.ireturn, 1) := by decide +kernel
theorem d_X_step_21 : decode b_X_step 21 = .ok (.aload_n 0, 1) := by decide +kernel
theorem d_X_step_22 : decode b_X_step 22 = .ok (.getfield 29, 3) := by decide +kernel
theorem d_X_step_25 : decode b_X_step 25 = .ok (.iload_n 1, 1) := by decide +kernel
theorem d_X_step_26 : decode b_X_step 26 = .ok (.aaload, 1) := by decide +kernel
theorem d_X_step_27 : decode b_X_step 27 = .ok (.astore_n 3, 1) := by decide +kernel
theorem d_X_step_28 : decode b_X_step 28 = .ok (.aload_n 0, 1) := by decide +kernel
theorem d_X_step_29 : decode b_X_step 29 = .ok (.getfield 22, 3) := by decide +kernel
theorem d_X_step_32 : decode b_X_step 32 = .ok (.aload_n 3, 1) := by decide +kernel
theorem d_X_step_33 : decode b_X_step 33 = .ok (.getfield 93, 3) := by decide +kernel
theorem d_X_step_36 : decode b_X_step 36 = .ok (.aaload, 1) := by decide +kernel
theorem d_X_step_37 : decode b_X_step 37 = .ok (.astore 4, 2) := by decide +kernel
theorem d_X_step_39 : decode b_X_step 39 = .ok (.iconst 0, 1) := by decide +kernel
theorem d_X_step_40 : decode b_X_step 40 = .ok (.istore 5, 2) := by decide +kernel
theorem d_X_step_42 : decode b_X_step 42 = .ok (.iload 5, 2) := by decide +kernel
theorem d_X_step_44 : decode b_X_step 44 = .ok (.iload_n 2, 1) := by decide +kernel
theorem d_X_step_45 : decode b_X_step 45 = .ok (.if_icmp .ge 25, 3) := by decide +kernel
theorem d_X_step_48 : decode b_X_step 48 = .ok (.aload 4, 2) := by decide +kernel
theorem d_X_step_50 : decode b_X_step 50 = .ok (.getfield 86, 3) := by decide +kernel
theorem d_X_step_53 : decode b_X_step 53 = .ok (.iconst 2, 1) := by decide +kernel
theorem d_X_step_54 : decode b_X_step 54 = .ok (.if_icmp .ne 16, 3) := by decide +kernel
theorem d_X_step_57 : decode b_X_step 57 = .ok (.aload_n 0, 1) := by decide +kernel
theorem d_X_step_58 : decode b_X_step 58 = .ok (.aload_n 3, 1) := by decide +kernel
theorem d_X_step_59 : decode b_X_step 59 = .ok (.aload 4, 2) := by decide +kernel
theorem d_X_step_61 : decode b_X_step 61 = .ok (.invokevirtual 103, 3) := by decide +kernel
theorem d_X_step_64 : decode b_X_step 64 = .ok (.iinc 5 1, 3) := by decide +kernel
theorem d_X_step_67 : decode b_X_step 67 = .ok (.goto (-25), 3) := by decide +kernel
theorem d_X_step_70 : decode b_X_step 70 = .ok (.aload 4, 2) := by decide +kernel
theorem d_X_step_72 : decode b_X_step 72 = .ok (.getfield 86, 3) := by decide +kernel
theorem d_X_step_75 : decode b_X_step 75 = .ok (.iconst 2, 1) := by decide +kernel
theorem d_X_step_76 : decode b_X_step 76 = .ok (.if_icmp .eq 8, 3) := by decide +kernel
theorem d_X_step_79 : decode b_X_step 79 = .ok (.aload_n 0, 1) := by decide +kernel
theorem d_X_step_80 : decode b_X_step 80 = .ok (.aload_n 3, 1) := by decide +kernel
theorem d_X_step_81 : decode b_X_step 81 = .ok (.invokevirtual 107, 3) := by decide +kernel
theorem d_X_step_84 : decode b_X_step 84 = .ok (.iload 5, 2) := by decide +kernel
theorem d_X_step_86 : decode b_X_step 86 = .ok (.ireturn, 1) := by decide +kernel
theorem d_X_interrupt_0 : decode b_X_interrupt 0 = .ok (.aload_n 0, 1) := by decide +kernel
theorem d_X_interrupt_1 : decode b_X_interrupt 1 = .ok (.iload_n 1, 1) := by decide +kernel
theorem d_X_interrupt_2 : decode b_X_interrupt 2 = .ok (.invokevirtual 100, 3) := by decide +kernel
theorem d_X_interrupt_5 : decode b_X_interrupt 5 = .ok (.ifCond .ne 5, 3) := by decide +kernel
theorem d_X_interrupt_8 : decode b_X_interrupt 8 = .ok (.iconst (-1), 1) := by decide +kernel
theorem d_X_interrupt_9 : decode b_X_interrupt 9 = .ok (.ireturn, 1) := by decide +kernel
theorem d_X_interrupt_10 : decode b_X_interrupt 10 = .ok (.aload_n 0, 1) := by decide +kernel
theorem d_X_interrupt_11 : decode b_X_interrupt 11 = .ok (.getfield 29, 3) := by decide +kernel
theorem d_X_interrupt_14 : decode b_X_interrupt 14 = .ok (.iload_n 1, 1) := by decide +kernel
theorem d_X_interrupt_15 : decode b_X_interrupt 15 = .ok (.aaload, 1) := by decide +kernel
theorem d_X_interrupt_16 : decode b_X_interrupt 16 = .ok (.astore_n 2, 1) := by decide +kernel
theorem d_X_interrupt_17 : decode b_X_interrupt 17 = .ok (.aload_n 2, 1) := by decide +kernel
theorem d_X_interrupt_18 : decode b_X_interrupt 18 = .ok (.getfield 93, 3) := by decide +kernel
theorem d_X_interrupt_21 : decode b_X_interrupt 21 = .ok (.istore_n 3, 1) := by decide +kernel
theorem d_X_interrupt_22 : decode b_X_interrupt 22 = .ok (.aload_n 0, 1) := by decide +kernel
theorem d_X_interrupt_23 : decode b_X_interrupt 23 = .ok (.getfield 22, 3) := by decide +kernel
theorem d_X_interrupt_26 : decode b_X_interrupt 26 = .ok (.iload_n 3, 1) := by decide +kernel
theorem d_X_interrupt_27 : decode b_X_interrupt 27 = .ok (.aaload, 1) := by decide +kernel
theorem d_X_interrupt_28 : decode b_X_interrupt 28 = .ok (.iconst 3, 1) := by decide +kernel
theorem d_X_interrupt_29 : decode b_X_interrupt 29 = .ok (.putfield 86, 3) := by decide +kernel
theorem d_X_interrupt_32 : decode b_X_interrupt 32 = .ok (.aload_n 0, 1) := by decide +kernel
theorem d_X_interrupt_33 : decode b_X_interrupt 33 = .ok (.aload_n 2, 1) := by decide +kernel
theorem d_X_interrupt_34 : decode b_X_interrupt 34 = .ok (.invokevirtual 107, 3) := by decide +kernel
theorem d_X_interrupt_37 : decode b_X_interrupt 37 = .ok (.iload_n 3, 1) := by decide +kernel
theorem d_X_interrupt_38 : decode b_X_interrupt 38 = .ok (.ireturn, 1) := by decide +kernel
theorem d_X_destroy_0 : decode b_X_destroy 0 = .ok (.aload_n 0, 1) := by decide +kernel
theorem d_X_destroy_1 : decode b_X_destroy 1 = .ok (.iload_n 1, 1) := by decide +kernel
theorem d_X_destroy_2 : decode b_X_destroy 2 = .ok (.invokevirtual 37, 3) := by decide +kernel
theorem d_X_destroy_5 : decode b_X_destroy 5 = .ok (.ifCond .eq 5, 3) := by decide +kernel
theorem d_X_destroy_8 : decode b_X_destroy 8 = .ok (.iconst (-1), 1) := by decide +kernel
theorem d_X_destroy_9 : decode b_X_destroy 9 = .ok (.ireturn, 1) := by decide +kernel
theorem d_X_destroy_10 : decode b_X_destroy 10 = .ok (.aload_n 0, 1) := by decide +kernel
theorem d_X_destroy_11 : decode b_X_destroy 11 = .ok (.iload_n 2, 1) := by decide +kernel
theorem d_X_destroy_12 : decode b_X_destroy 12 = .ok (.invokevirtual 83, 3) := by decide +kernel
theorem d_X_destroy_15 : decode b_X_destroy 15 = .ok (.ifCond .ne 6, 3) := by decide +kernel
theorem d_X_destroy_18 : decode b_X_destroy 18 = .ok (.bipush (-2), 2) := by decide +kernel
theorem d_X_destroy_20 : decode b_X_destroy 20 = .ok (.ireturn, 1) := by decide +kernel
theorem d_X_destroy_21 : decode b_X_destroy 21 = .ok (.aload_n 0, 1) := by decide +kernel
theorem d_X_destroy_22 : decode b_X_destroy 22 = .ok (.getfield 22, 3) := by decide +kernel
theorem d_X_destroy_25 : decode b_X_destroy 25 = .ok (.iload_n 2, 1) := by decide +kernel
theorem d_X_destroy_26 : decode b_X_destroy 26 = .ok (.aaload, 1) := by decide +kernel
theorem d_X_destroy_27 : decode b_X_destroy 27 = .ok (.getfield 86, 3) := by decide +kernel
theorem d_X_destroy_30 : decode b_X_destroy 30 = .ok (.iconst 2, 1) := by decide +kernel
theorem d_X_destroy_31 : decode b_X_destroy 31 = .ok (.if_icmp .ne 6, 3) := by decide +kernel
theorem d_X_destroy_34 : decode b_X_destroy 34 = .ok (.bipush (-3), 2) := by decide +kernel
theorem d_X_destroy_36 : decode b_X_destroy 36 = .ok (.ireturn, 1) := by decide +kernel
theorem d_X_destroy_37 : decode b_X_destroy 37 = .ok (.aload_n 0, 1) := by decide +kernel
theorem d_X_destroy_38 : decode b_X_destroy 38 = .ok (.aload_n 0, 1) := by decide +kernel
theorem d_X_destroy_39 : decode b_X_destroy 39 = .ok (.getfield 22, 3) := by decide +kernel
theorem d_X_destroy_42 : decode b_X_destroy 42 = .ok (.iload_n 2, 1) := by decide +kernel
theorem d_X_destroy_43 : decode b_X_destroy 43 = .ok (.aaload, 1) := by decide +kernel
theorem d_X_destroy_44 : decode b_X_destroy 44 = .ok (.invokevirtual 110, 3) := by decide +kernel
theorem d_X_destroy_47 : decode b_X_destroy 47 = .ok (.iconst 0, 1) := by decide +kernel
theorem d_X_destroy_48 : decode b_X_destroy 48 = .ok (.ireturn, 1) := by decide +kernel
theorem d_X_state_0 : decode b_X_state 0 = .ok (.iload_n 1, 1) := by decide +kernel
theorem d_X_state_1 : decode b_X_state 1 = .ok (.invokestatic 114, 3) := by decide +kernel
theorem d_X_state_4 : decode b_X_state 4 = .ok (.ifCond .eq 15, 3) := by decide +kernel
theorem d_X_state_7 : decode b_X_state 7 = .ok (.aload_n 0, 1) := by decide +kernel
theorem d_X_state_8 : decode b_X_state 8 = .ok (.getfield 22, 3) := by decide +kernel
theorem d_X_state_11 : decode b_X_state 11 = .ok (.iload_n 1, 1) := by decide +kernel
theorem d_X_state_12 : decode b_X_state 12 = .ok (.aaload, 1) := by decide +kernel
theorem d_X_state_13 : decode b_X_state 13 = .ok (.getfield 86, 3) := by decide +kernel
theorem d_X_state_16 : decode b_X_state 16 = .ok (.goto 4, 3) := by decide +kernel
theorem d_X_state_19 : decode b_X_state 19 = .ok (.iconst (-1), 1) := by decide +kernel
theorem d_X_state_20 : decode b_X_state 20 = .ok (.ireturn, 1) := by decide +kernel
theorem d_X_released_0 : decode b_X_released 0 = .ok (.aload_n 0, 1) := by decide +kernel
theorem d_X_released_1 : decode b_X_released 1 = .ok (.iload_n 1, 1) := by decide +kernel
theorem d_X_released_2 : decode b_X_released 2 = .ok (.invokevirtual 83, 3) := by decide +kernel
theorem d_X_released_5 : decode b_X_released 5 = .ok (.ifCond .ne 7, 3) := by decide +kernel
theorem d_X_released_8 : decode b_X_released 8 = .ok (.ldc2_w 41, 3) := by decide +kernel
theorem d_X_released_11 : decode b_X_released 11 = .ok (.lreturn, 1) := by decide +kernel
theorem d_X_released_12 : decode b_X_released 12 = .ok (.aload_n 0, 1) := by decide +kernel
theorem d_X_released_13 : decode b_X_released 13 = .ok (.getfield 22, 3) := by decide +kernel
theorem d_X_released_16 : decode b_X_released 16 = .ok (.iload_n 1, 1) := by decide +kernel
theorem d_X_released_17 : decode b_X_released 17 = .ok (.aaload, 1) := by decide +kernel
theorem d_X_released_18 : decode b_X_released 18 = .ok (.astore_n 2, 1) := by decide +kernel
theorem d_X_released_19 : decode b_X_released 19 = .ok (.aload_n 2, 1) := by decide +kernel
theorem d_X_released_20 : decode b_X_released 20 = .ok (.getfield 86, 3) := by decide +kernel
theorem d_X_released_23 : decode b_X_released 23 = .ok (.iconst 4, 1) := by decide +kernel
theorem d_X_released_24 : decode b_X_released 24 = .ok (.if_icmp .eq 11, 3) := by decide +kernel
theorem d_X_released_27 : decode b_X_released 27 = .ok (.aload_n 2, 1) := by decide +kernel
theorem d_X_released_28 : decode b_X_released 28 = .ok (.getfield 86, 3) := by decide +kernel
theorem d_X_released_31 : decode b_X_released 31 = .ok (.iconst 5, 1) := by decide +kernel
theorem d_X_released_32 : decode b_X_released 32 = .ok (.if_icmp .ne 7, 3) := by decide +kernel
theorem d_X_released_35 : decode b_X_released 35 = .ok (.iconst 1, 1) := by decide +kernel
theorem d_X_released_36 : decode b_X_released 36 = .ok (.goto 4, 3) := by decide +kernel
theorem d_X_released_39 : decode b_X_released 39 = .ok (.iconst 0, 1) := by decide +kernel
theorem d_X_released_40 : decode b_X_released 40 = .ok (.istore_n 3, 1) := by decide +kernel
theorem d_X_released_41 : decode b_X_released 41 = .ok (.iload_n 3, 1) := by decide +kernel
theorem d_X_released_42 : decode b_X_released 42 = .ok (.ifCond .eq 11, 3) := by decide +kernel
theorem d_X_released_45 : decode b_X_released 45 = .ok (.aload_n 2, 1) := by decide +kernel
theorem d_X_released_46 : decode b_X_released 46 = .ok (.getfield 117, 3) := by decide +kernel
theorem d_X_released_49 : decode b_X_released 49 = .ok (.i2l, 1) := by decide +kernel
theorem d_X_released_50 : decode b_X_released 50 = .ok (.goto 6, 3) := by decide +kernel
theorem d_X_released_53 : decode b_X_released 53 = .ok (.ldc2_w 41, 3) := by decide +kernel
theorem d_X_released_56 : decode b_X_released 56 = .ok (.lreturn, 1) := by decide +kernel
theorem d_X_measurement_0 : decode b_X_measurement 0 = .ok (.aload_n 0, 1) := by decide +kernel
theorem d_X_measurement_1 : decode b_X_measurement 1 = .ok (.iload_n 1, 1) := by decide +kernel
theorem d_X_measurement_2 : decode b_X_measurement 2 = .ok (.invokevirtual 83, 3) := by decide +kernel
theorem d_X_measurement_5 : decode b_X_measurement 5 = .ok (.ifCond .eq 16, 3) := by decide +kernel
theorem d_X_measurement_8 : decode b_X_measurement 8 = .ok (.aload_n 0, 1) := by decide +kernel
theorem d_X_measurement_9 : decode b_X_measurement 9 = .ok (.getfield 22, 3) := by decide +kernel
theorem d_X_measurement_12 : decode b_X_measurement 12 = .ok (.iload_n 1, 1) := by decide +kernel
theorem d_X_measurement_13 : decode b_X_measurement 13 = .ok (.aaload, 1) := by decide +kernel
theorem d_X_measurement_14 : decode b_X_measurement 14 = .ok (.getfield 120, 3) := by decide +kernel
theorem d_X_measurement_17 : decode b_X_measurement 17 = .ok (.i2l, 1) := by decide +kernel
theorem d_X_measurement_18 : decode b_X_measurement 18 = .ok (.goto 6, 3) := by decide +kernel
theorem d_X_measurement_21 : decode b_X_measurement 21 = .ok (.ldc2_w 41, 3) := by decide +kernel
theorem d_X_measurement_24 : decode b_X_measurement 24 = .ok (.lreturn, 1) := by decide +kernel
theorem d_X_verify_0 : decode b_X_verify 0 = .ok (.iload_n 3, 1) := by decide +kernel
theorem d_X_verify_1 : decode b_X_verify 1 = .ok (.aload_n 0, 1) := by decide +kernel
theorem d_X_verify_2 : decode b_X_verify 2 = .ok (.iload_n 1, 1) := by decide +kernel
theorem d_X_verify_3 : decode b_X_verify 3 = .ok (.iload_n 2, 1) := by decide +kernel
theorem d_X_verify_4 : decode b_X_verify 4 = .ok (.invokevirtual 123, 3) := by decide +kernel
theorem d_X_verify_7 : decode b_X_verify 7 = .ok (.if_icmp .ne 7, 3) := by decide +kernel
theorem d_X_verify_10 : decode b_X_verify 10 = .ok (.iconst 1, 1) := by decide +kernel
theorem d_X_verify_11 : decode b_X_verify 11 = .ok (.goto 4, 3) := by decide +kernel
theorem d_X_verify_14 : decode b_X_verify 14 = .ok (.iconst 0, 1) := by decide +kernel
theorem d_X_verify_15 : decode b_X_verify 15 = .ok (.ireturn, 1) := by decide +kernel
theorem d_X_running_0 : decode b_X_running 0 = .ok (.iload_n 1, 1) := by decide +kernel
theorem d_X_running_1 : decode b_X_running 1 = .ok (.invokestatic 127, 3) := by decide +kernel
theorem d_X_running_4 : decode b_X_running 4 = .ok (.ifCond .eq 15, 3) := by decide +kernel
theorem d_X_running_7 : decode b_X_running 7 = .ok (.aload_n 0, 1) := by decide +kernel
theorem d_X_running_8 : decode b_X_running 8 = .ok (.getfield 29, 3) := by decide +kernel
theorem d_X_running_11 : decode b_X_running 11 = .ok (.iload_n 1, 1) := by decide +kernel
theorem d_X_running_12 : decode b_X_running 12 = .ok (.aaload, 1) := by decide +kernel
theorem d_X_running_13 : decode b_X_running 13 = .ok (.getfield 93, 3) := by decide +kernel
theorem d_X_running_16 : decode b_X_running 16 = .ok (.goto 5, 3) := by decide +kernel
theorem d_X_running_19 : decode b_X_running 19 = .ok (.bipush (-2), 2) := by decide +kernel
theorem d_X_running_21 : decode b_X_running 21 = .ok (.ireturn, 1) := by decide +kernel
theorem d_X_owner_0 : decode b_X_owner 0 = .ok (.iload_n 1, 1) := by decide +kernel
theorem d_X_owner_1 : decode b_X_owner 1 = .ok (.invokestatic 130, 3) := by decide +kernel
theorem d_X_owner_4 : decode b_X_owner 4 = .ok (.ifCond .eq 12, 3) := by decide +kernel
theorem d_X_owner_7 : decode b_X_owner 7 = .ok (.aload_n 0, 1) := by decide +kernel
theorem d_X_owner_8 : decode b_X_owner 8 = .ok (.getfield 17, 3) := by decide +kernel
theorem d_X_owner_11 : decode b_X_owner 11 = .ok (.iload_n 1, 1) := by decide +kernel
theorem d_X_owner_12 : decode b_X_owner 12 = .ok (.iaload, 1) := by decide +kernel
theorem d_X_owner_13 : decode b_X_owner 13 = .ok (.goto 4, 3) := by decide +kernel
theorem d_X_owner_16 : decode b_X_owner 16 = .ok (.iconst (-1), 1) := by decide +kernel
theorem d_X_owner_17 : decode b_X_owner 17 = .ok (.ireturn, 1) := by decide +kernel
theorem d_X_guard_0 : decode b_X_guard 0 = .ok (.iload_n 1, 1) := by decide +kernel
theorem d_X_guard_1 : decode b_X_guard 1 = .ok (.invokestatic 127, 3) := by decide +kernel
theorem d_X_guard_4 : decode b_X_guard 4 = .ok (.ifCond .eq 13, 3) := by decide +kernel
theorem d_X_guard_7 : decode b_X_guard 7 = .ok (.iload_n 2, 1) := by decide +kernel
theorem d_X_guard_8 : decode b_X_guard 8 = .ok (.ifCond .lt 9, 3) := by decide +kernel
theorem d_X_guard_11 : decode b_X_guard 11 = .ok (.iload_n 2, 1) := by decide +kernel
theorem d_X_guard_12 : decode b_X_guard 12 = .ok (.bipush 11, 2) := by decide +kernel
theorem d_X_guard_14 : decode b_X_guard 14 = .ok (.if_icmp .lt 5, 3) := by decide +kernel
theorem d_X_guard_17 : decode b_X_guard 17 = .ok (.iconst (-1), 1) := by decide +kernel
theorem d_X_guard_18 : decode b_X_guard 18 = .ok (.ireturn, 1) := by decide +kernel
theorem d_X_guard_19 : decode b_X_guard 19 = .ok (.aload_n 0, 1) := by decide +kernel
theorem d_X_guard_20 : decode b_X_guard 20 = .ok (.getfield 29, 3) := by decide +kernel
theorem d_X_guard_23 : decode b_X_guard 23 = .ok (.iload_n 1, 1) := by decide +kernel
theorem d_X_guard_24 : decode b_X_guard 24 = .ok (.aaload, 1) := by decide +kernel
theorem d_X_guard_25 : decode b_X_guard 25 = .ok (.getfield 133, 3) := by decide +kernel
theorem d_X_guard_28 : decode b_X_guard 28 = .ok (.iload_n 2, 1) := by decide +kernel
theorem d_X_guard_29 : decode b_X_guard 29 = .ok (.aaload, 1) := by decide +kernel
theorem d_X_guard_30 : decode b_X_guard 30 = .ok (.astore 4, 2) := by decide +kernel
theorem d_X_guard_32 : decode b_X_guard 32 = .ok (.iload_n 3, 1) := by decide +kernel
theorem d_X_guard_33 : decode b_X_guard 33 = .ok (.tableswitch 45 0 2 #[27, 33, 39], 27) := by decide +kernel
theorem d_X_guard_60 : decode b_X_guard 60 = .ok (.aload 4, 2) := by decide +kernel
theorem d_X_guard_62 : decode b_X_guard 62 = .ok (.getfield 137, 3) := by decide +kernel
theorem d_X_guard_65 : decode b_X_guard 65 = .ok (.ireturn, 1) := by decide +kernel
theorem d_X_guard_66 : decode b_X_guard 66 = .ok (.aload 4, 2) := by decide +kernel
theorem d_X_guard_68 : decode b_X_guard 68 = .ok (.getfield 142, 3) := by decide +kernel
theorem d_X_guard_71 : decode b_X_guard 71 = .ok (.ireturn, 1) := by decide +kernel
theorem d_X_guard_72 : decode b_X_guard 72 = .ok (.aload 4, 2) := by decide +kernel
theorem d_X_guard_74 : decode b_X_guard 74 = .ok (.getfield 145, 3) := by decide +kernel
theorem d_X_guard_77 : decode b_X_guard 77 = .ok (.ireturn, 1) := by decide +kernel
theorem d_X_guard_78 : decode b_X_guard 78 = .ok (.iconst (-1), 1) := by decide +kernel
theorem d_X_guard_79 : decode b_X_guard 79 = .ok (.ireturn, 1) := by decide +kernel
theorem d_X_isProcessor_0 : decode b_X_isProcessor 0 = .ok (.iload_n 0, 1) := by decide +kernel
theorem d_X_isProcessor_1 : decode b_X_isProcessor 1 = .ok (.ifCond .lt 12, 3) := by decide +kernel
theorem d_X_isProcessor_4 : decode b_X_isProcessor 4 = .ok (.iload_n 0, 1) := by decide +kernel
theorem d_X_isProcessor_5 : decode b_X_isProcessor 5 = .ok (.iconst 2, 1) := by decide +kernel
theorem d_X_isProcessor_6 : decode b_X_isProcessor 6 = .ok (.if_icmp .ge 7, 3) := by decide +kernel
theorem d_X_isProcessor_9 : decode b_X_isProcessor 9 = .ok (.iconst 1, 1) := by decide +kernel
theorem d_X_isProcessor_10 : decode b_X_isProcessor 10 = .ok (.goto 4, 3) := by decide +kernel
theorem d_X_isProcessor_13 : decode b_X_isProcessor 13 = .ok (.iconst 0, 1) := by decide +kernel
theorem d_X_isProcessor_14 : decode b_X_isProcessor 14 = .ok (.ireturn, 1) := by decide +kernel
theorem d_X_isRegister_0 : decode b_X_isRegister 0 = .ok (.iload_n 0, 1) := by decide +kernel
theorem d_X_isRegister_1 : decode b_X_isRegister 1 = .ok (.ifCond .lt 13, 3) := by decide +kernel
theorem d_X_isRegister_4 : decode b_X_isRegister 4 = .ok (.iload_n 0, 1) := by decide +kernel
theorem d_X_isRegister_5 : decode b_X_isRegister 5 = .ok (.bipush 8, 2) := by decide +kernel
theorem d_X_isRegister_7 : decode b_X_isRegister 7 = .ok (.if_icmp .ge 7, 3) := by decide +kernel
theorem d_X_isRegister_10 : decode b_X_isRegister 10 = .ok (.iconst 1, 1) := by decide +kernel
theorem d_X_isRegister_11 : decode b_X_isRegister 11 = .ok (.goto 4, 3) := by decide +kernel
theorem d_X_isRegister_14 : decode b_X_isRegister 14 = .ok (.iconst 0, 1) := by decide +kernel
theorem d_X_isRegister_15 : decode b_X_isRegister 15 = .ok (.ireturn, 1) := by decide +kernel
theorem d_X_isAddress_0 : decode b_X_isAddress 0 = .ok (.iload_n 0, 1) := by decide +kernel
theorem d_X_isAddress_1 : decode b_X_isAddress 1 = .ok (.ifCond .lt 14, 3) := by decide +kernel
theorem d_X_isAddress_4 : decode b_X_isAddress 4 = .ok (.iload_n 0, 1) := by decide +kernel
theorem d_X_isAddress_5 : decode b_X_isAddress 5 = .ok (.sipush 256, 3) := by decide +kernel
theorem d_X_isAddress_8 : decode b_X_isAddress 8 = .ok (.if_icmp .ge 7, 3) := by decide +kernel
theorem d_X_isAddress_11 : decode b_X_isAddress 11 = .ok (.iconst 1, 1) := by decide +kernel
theorem d_X_isAddress_12 : decode b_X_isAddress 12 = .ok (.goto 4, 3) := by decide +kernel
theorem d_X_isAddress_15 : decode b_X_isAddress 15 = .ok (.iconst 0, 1) := by decide +kernel
theorem d_X_isAddress_16 : decode b_X_isAddress 16 = .ok (.ireturn, 1) := by decide +kernel
theorem d_X_isPage_0 : decode b_X_isPage 0 = .ok (.iload_n 0, 1) := by decide +kernel
theorem d_X_isPage_1 : decode b_X_isPage 1 = .ok (.ifCond .lt 13, 3) := by decide +kernel
theorem d_X_isPage_4 : decode b_X_isPage 4 = .ok (.iload_n 0, 1) := by decide +kernel
theorem d_X_isPage_5 : decode b_X_isPage 5 = .ok (.bipush 16, 2) := by decide +kernel
theorem d_X_isPage_7 : decode b_X_isPage 7 = .ok (.if_icmp .ge 7, 3) := by decide +kernel
theorem d_X_isPage_10 : decode b_X_isPage 10 = .ok (.iconst 1, 1) := by decide +kernel
theorem d_X_isPage_11 : decode b_X_isPage 11 = .ok (.goto 4, 3) := by decide +kernel
theorem d_X_isPage_14 : decode b_X_isPage 14 = .ok (.iconst 0, 1) := by decide +kernel
theorem d_X_isPage_15 : decode b_X_isPage 15 = .ok (.ireturn, 1) := by decide +kernel
theorem d_X_isEnclaveNumber_0 : decode b_X_isEnclaveNumber 0 = .ok (.iload_n 0, 1) := by decide +kernel
theorem d_X_isEnclaveNumber_1 : decode b_X_isEnclaveNumber 1 = .ok (.ifCond .lt 12, 3) := by decide +kernel
theorem d_X_isEnclaveNumber_4 : decode b_X_isEnclaveNumber 4 = .ok (.iload_n 0, 1) := by decide +kernel
theorem d_X_isEnclaveNumber_5 : decode b_X_isEnclaveNumber 5 = .ok (.iconst 4, 1) := by decide +kernel
theorem d_X_isEnclaveNumber_6 : decode b_X_isEnclaveNumber 6 = .ok (.if_icmp .ge 7, 3) := by decide +kernel
theorem d_X_isEnclaveNumber_9 : decode b_X_isEnclaveNumber 9 = .ok (.iconst 1, 1) := by decide +kernel
theorem d_X_isEnclaveNumber_10 : decode b_X_isEnclaveNumber 10 = .ok (.goto 4, 3) := by decide +kernel
theorem d_X_isEnclaveNumber_13 : decode b_X_isEnclaveNumber 13 = .ok (.iconst 0, 1) := by decide +kernel
theorem d_X_isEnclaveNumber_14 : decode b_X_isEnclaveNumber 14 = .ok (.ireturn, 1) := by decide +kernel
theorem d_X_isShared_0 : decode b_X_isShared 0 = .ok (.iload_n 0, 1) := by decide +kernel
theorem d_X_isShared_1 : decode b_X_isShared 1 = .ok (.iconst (-1), 1) := by decide +kernel
theorem d_X_isShared_2 : decode b_X_isShared 2 = .ok (.if_icmp .lt 14, 3) := by decide +kernel
theorem d_X_isShared_5 : decode b_X_isShared 5 = .ok (.iload_n 0, 1) := by decide +kernel
theorem d_X_isShared_6 : decode b_X_isShared 6 = .ok (.sipush 271, 3) := by decide +kernel
theorem d_X_isShared_9 : decode b_X_isShared 9 = .ok (.if_icmp .gt 7, 3) := by decide +kernel
theorem d_X_isShared_12 : decode b_X_isShared 12 = .ok (.iconst 1, 1) := by decide +kernel
theorem d_X_isShared_13 : decode b_X_isShared 13 = .ok (.goto 4, 3) := by decide +kernel
theorem d_X_isShared_16 : decode b_X_isShared 16 = .ok (.iconst 0, 1) := by decide +kernel
theorem d_X_isShared_17 : decode b_X_isShared 17 = .ok (.ireturn, 1) := by decide +kernel
theorem d_X_arePages_0 : decode b_X_arePages 0 = .ok (.iload_n 1, 1) := by decide +kernel
theorem d_X_arePages_1 : decode b_X_arePages 1 = .ok (.iconst 1, 1) := by decide +kernel
theorem d_X_arePages_2 : decode b_X_arePages 2 = .ok (.if_icmp .lt 31, 3) := by decide +kernel
theorem d_X_arePages_5 : decode b_X_arePages 5 = .ok (.iload_n 1, 1) := by decide +kernel
theorem d_X_arePages_6 : decode b_X_arePages 6 = .ok (.bipush 8, 2) := by decide +kernel
theorem d_X_arePages_8 : decode b_X_arePages 8 = .ok (.if_icmp .gt 25, 3) := by decide +kernel
theorem d_X_arePages_11 : decode b_X_arePages 11 = .ok (.iload_n 0, 1) := by decide +kernel
theorem d_X_arePages_12 : decode b_X_arePages 12 = .ok (.invokestatic 130, 3) := by decide +kernel
theorem d_X_arePages_15 : decode b_X_arePages 15 = .ok (.ifCond .eq 18, 3) := by decide +kernel
theorem d_X_arePages_18 : decode b_X_arePages 18 = .ok (.iload_n 0, 1) := by decide +kernel
theorem d_X_arePages_19 : decode b_X_arePages 19 = .ok (.iload_n 1, 1) := by decide +kernel
theorem d_X_arePages_20 : decode b_X_arePages 20 = .ok (.iadd, 1) := by decide +kernel
theorem d_X_arePages_21 : decode b_X_arePages 21 = .ok (.iconst 1, 1) := by decide +kernel
theorem d_X_arePages_22 : decode b_X_arePages 22 = .ok (.isub, 1) := by decide +kernel
theorem d_X_arePages_23 : decode b_X_arePages 23 = .ok (.invokestatic 130, 3) := by decide +kernel
theorem d_X_arePages_26 : decode b_X_arePages 26 = .ok (.ifCond .eq 7, 3) := by decide +kernel
theorem d_X_arePages_29 : decode b_X_arePages 29 = .ok (.iconst 1, 1) := by decide +kernel
theorem d_X_arePages_30 : decode b_X_arePages 30 = .ok (.goto 4, 3) := by decide +kernel
theorem d_X_arePages_33 : decode b_X_arePages 33 = .ok (.iconst 0, 1) := by decide +kernel
theorem d_X_arePages_34 : decode b_X_arePages 34 = .ok (.ireturn, 1) := by decide +kernel
theorem d_X_isOnPages_0 : decode b_X_isOnPages 0 = .ok (.iload_n 0, 1) := by decide +kernel
theorem d_X_isOnPages_1 : decode b_X_isOnPages 1 = .ok (.iload_n 1, 1) := by decide +kernel
theorem d_X_isOnPages_2 : decode b_X_isOnPages 2 = .ok (.bipush 16, 2) := by decide +kernel
theorem d_X_isOnPages_4 : decode b_X_isOnPages 4 = .ok (.imul, 1) := by decide +kernel
theorem d_X_isOnPages_5 : decode b_X_isOnPages 5 = .ok (.if_icmp .lt 17, 3) := by decide +kernel
theorem d_X_isOnPages_8 : decode b_X_isOnPages 8 = .ok (.iload_n 0, 1) := by decide +kernel
theorem d_X_isOnPages_9 : decode b_X_isOnPages 9 = .ok (.iload_n 1, 1) := by decide +kernel
theorem d_X_isOnPages_10 : decode b_X_isOnPages 10 = .ok (.iload_n 2, 1) := by decide +kernel
theorem d_X_isOnPages_11 : decode b_X_isOnPages 11 = .ok (.iadd, 1) := by decide +kernel
theorem d_X_isOnPages_12 : decode b_X_isOnPages 12 = .ok (.bipush 16, 2) := by decide +kernel
theorem d_X_isOnPages_14 : decode b_X_isOnPages 14 = .ok (.imul, 1) := by decide +kernel
theorem d_X_isOnPages_15 : decode b_X_isOnPages 15 = .ok (.if_icmp .ge 7, 3) := by decide +kernel
theorem d_X_isOnPages_18 : decode b_X_isOnPages 18 = .ok (.iconst 1, 1) := by decide +kernel
theorem d_X_isOnPages_19 : decode b_X_isOnPages 19 = .ok (.goto 4, 3) := by decide +kernel
theorem d_X_isOnPages_22 : decode b_X_isOnPages 22 = .ok (.iconst 0, 1) := by decide +kernel
theorem d_X_isOnPages_23 : decode b_X_isOnPages 23 = .ok (.ireturn, 1) := by decide +kernel
theorem d_X_isBusy_0 : decode b_X_isBusy 0 = .ok (.iload_n 1, 1) := by decide +kernel
theorem d_X_isBusy_1 : decode b_X_isBusy 1 = .ok (.invokestatic 127, 3) := by decide +kernel
theorem d_X_isBusy_4 : decode b_X_isBusy 4 = .ok (.ifCond .eq 16, 3) := by decide +kernel
theorem d_X_isBusy_7 : decode b_X_isBusy 7 = .ok (.aload_n 0, 1) := by decide +kernel
theorem d_X_isBusy_8 : decode b_X_isBusy 8 = .ok (.getfield 29, 3) := by decide +kernel
theorem d_X_isBusy_11 : decode b_X_isBusy 11 = .ok (.iload_n 1, 1) := by decide +kernel
theorem d_X_isBusy_12 : decode b_X_isBusy 12 = .ok (.aaload, 1) := by decide +kernel
theorem d_X_isBusy_13 : decode b_X_isBusy 13 = .ok (.getfield 93, 3) := by decide +kernel
theorem d_X_isBusy_16 : decode b_X_isBusy 16 = .ok (.iconst (-1), 1) := by decide +kernel
theorem d_X_isBusy_17 : decode b_X_isBusy 17 = .ok (.if_icmp .eq 7, 3) := by decide +kernel
theorem d_X_isBusy_20 : decode b_X_isBusy 20 = .ok (.iconst 1, 1) := by decide +kernel
theorem d_X_isBusy_21 : decode b_X_isBusy 21 = .ok (.goto 4, 3) := by decide +kernel
theorem d_X_isBusy_24 : decode b_X_isBusy 24 = .ok (.iconst 0, 1) := by decide +kernel
theorem d_X_isBusy_25 : decode b_X_isBusy 25 = .ok (.ireturn, 1) := by decide +kernel
theorem d_X_runsEnclave_0 : decode b_X_runsEnclave 0 = .ok (.iload_n 1, 1) := by decide +kernel
theorem d_X_runsEnclave_1 : decode b_X_runsEnclave 1 = .ok (.invokestatic 127, 3) := by decide +kernel
theorem d_X_runsEnclave_4 : decode b_X_runsEnclave 4 = .ok (.ifCond .eq 20, 3) := by decide +kernel
theorem d_X_runsEnclave_7 : decode b_X_runsEnclave 7 = .ok (.aload_n 0, 1) := by decide +kernel
theorem d_X_runsEnclave_8 : decode b_X_runsEnclave 8 = .ok (.getfield 29, 3) := by decide +kernel
theorem d_X_runsEnclave_11 : decode b_X_runsEnclave 11 = .ok (.iload_n 1, 1) := by decide +kernel
theorem d_X_runsEnclave_12 : decode b_X_runsEnclave 12 = .ok (.aaload, 1) := by decide +kernel
theorem d_X_runsEnclave_13 : decode b_X_runsEnclave 13 = .ok (.getfield 93, 3) := by decide +kernel
theorem d_X_runsEnclave_16 : decode b_X_runsEnclave 16 = .ok (.iconst (-1), 1) := by decide +kernel
theorem d_X_runsEnclave_17 : decode b_X_runsEnclave 17 = .ok (.if_icmp .eq 7, 3) := by decide +kernel
theorem d_X_runsEnclave_20 : decode b_X_runsEnclave 20 = .ok (.iconst 1, 1) := by decide +kernel
theorem d_X_runsEnclave_21 : decode b_X_runsEnclave 21 = .ok (.goto 4, 3) := by decide +kernel
theorem d_X_runsEnclave_24 : decode b_X_runsEnclave 24 = .ok (.iconst 0, 1) := by decide +kernel
theorem d_X_runsEnclave_25 : decode b_X_runsEnclave 25 = .ok (.ireturn, 1) := by decide +kernel
theorem d_X_isThere_0 : decode b_X_isThere 0 = .ok (.iload_n 1, 1) := by decide +kernel
theorem d_X_isThere_1 : decode b_X_isThere 1 = .ok (.invokestatic 114, 3) := by decide +kernel
theorem d_X_isThere_4 : decode b_X_isThere 4 = .ok (.ifCond .eq 19, 3) := by decide +kernel
theorem d_X_isThere_7 : decode b_X_isThere 7 = .ok (.aload_n 0, 1) := by decide +kernel
theorem d_X_isThere_8 : decode b_X_isThere 8 = .ok (.getfield 22, 3) := by decide +kernel
theorem d_X_isThere_11 : decode b_X_isThere 11 = .ok (.iload_n 1, 1) := by decide +kernel
theorem d_X_isThere_12 : decode b_X_isThere 12 = .ok (.aaload, 1) := by decide +kernel
theorem d_X_isThere_13 : decode b_X_isThere 13 = .ok (.getfield 86, 3) := by decide +kernel
theorem d_X_isThere_16 : decode b_X_isThere 16 = .ok (.ifCond .eq 7, 3) := by decide +kernel
theorem d_X_isThere_19 : decode b_X_isThere 19 = .ok (.iconst 1, 1) := by decide +kernel
theorem d_X_isThere_20 : decode b_X_isThere 20 = .ok (.goto 4, 3) := by decide +kernel
theorem d_X_isThere_23 : decode b_X_isThere 23 = .ok (.iconst 0, 1) := by decide +kernel
theorem d_X_isThere_24 : decode b_X_isThere 24 = .ok (.ireturn, 1) := by decide +kernel
theorem d_X_areSystemPages_0 : decode b_X_areSystemPages 0 = .ok (.iload_n 1, 1) := by decide +kernel
theorem d_X_areSystemPages_1 : decode b_X_areSystemPages 1 = .ok (.istore_n 3, 1) := by decide +kernel
theorem d_X_areSystemPages_2 : decode b_X_areSystemPages 2 = .ok (.iload_n 3, 1) := by decide +kernel
theorem d_X_areSystemPages_3 : decode b_X_areSystemPages 3 = .ok (.iload_n 1, 1) := by decide +kernel
theorem d_X_areSystemPages_4 : decode b_X_areSystemPages 4 = .ok (.iload_n 2, 1) := by decide +kernel
theorem d_X_areSystemPages_5 : decode b_X_areSystemPages 5 = .ok (.iadd, 1) := by decide +kernel
theorem d_X_areSystemPages_6 : decode b_X_areSystemPages 6 = .ok (.if_icmp .ge 21, 3) := by decide +kernel
theorem d_X_areSystemPages_9 : decode b_X_areSystemPages 9 = .ok (.aload_n 0, 1) := by decide +kernel
theorem d_X_areSystemPages_10 : decode b_X_areSystemPages 10 = .ok (.getfield 17, 3) := by decide +kernel
theorem d_X_areSystemPages_13 : decode b_X_areSystemPages 13 = .ok (.iload_n 3, 1) := by decide +kernel
theorem d_X_areSystemPages_14 : decode b_X_areSystemPages 14 = .ok (.iaload, 1) := by decide +kernel
theorem d_X_areSystemPages_15 : decode b_X_areSystemPages 15 = .ok (.iconst 1, 1) := by decide +kernel
theorem d_X_areSystemPages_16 : decode b_X_areSystemPages 16 = .ok (.if_icmp .eq 5, 3) := by decide +kernel
theorem d_X_areSystemPages_19 : decode b_X_areSystemPages 19 = .ok (.iconst 0, 1) := by decide +kernel
theorem d_X_areSystemPages_20 : decode b_X_areSystemPages 20 = .ok (.ireturn, 1) := by decide +kernel
theorem d_X_areSystemPages_21 : decode b_X_areSystemPages 21 = .ok (.iinc 3 1, 3) := by decide +kernel
theorem d_X_areSystemPages_24 : decode b_X_areSystemPages 24 = .ok (.goto (-22), 3) := by decide +kernel
theorem d_X_areSystemPages_27 : decode b_X_areSystemPages 27 = .ok (.iconst 1, 1) := by decide +kernel
theorem d_X_areSystemPages_28 : decode b_X_areSystemPages 28 = .ok (.ireturn, 1) := by decide +kernel
theorem d_X_canShare_0 : decode b_X_canShare 0 = .ok (.iload_n 1, 1) := by decide +kernel
theorem d_X_canShare_1 : decode b_X_canShare 1 = .ok (.iconst (-1), 1) := by decide +kernel
theorem d_X_canShare_2 : decode b_X_canShare 2 = .ok (.if_icmp .ne 5, 3) := by decide +kernel
theorem d_X_canShare_5 : decode b_X_canShare 5 = .ok (.iconst 1, 1) := by decide +kernel
theorem d_X_canShare_6 : decode b_X_canShare 6 = .ok (.ireturn, 1) := by decide +kernel
theorem d_X_canShare_7 : decode b_X_canShare 7 = .ok (.iload_n 1, 1) := by decide +kernel
theorem d_X_canShare_8 : decode b_X_canShare 8 = .ok (.sipush 256, 3) := by decide +kernel
theorem d_X_canShare_11 : decode b_X_canShare 11 = .ok (.if_icmp .lt 11, 3) := by decide +kernel
theorem d_X_canShare_14 : decode b_X_canShare 14 = .ok (.iload_n 1, 1) := by decide +kernel
theorem d_X_canShare_15 : decode b_X_canShare 15 = .ok (.sipush 256, 3) := by decide +kernel
theorem d_X_canShare_18 : decode b_X_canShare 18 = .ok (.isub, 1) := by decide +kernel
theorem d_X_canShare_19 : decode b_X_canShare 19 = .ok (.goto 7, 3) := by decide +kernel
theorem d_X_canShare_22 : decode b_X_canShare 22 = .ok (.iload_n 1, 1) := by decide +kernel
theorem d_X_canShare_23 : decode b_X_canShare 23 = .ok (.bipush 16, 2) := by decide +kernel
theorem d_X_canShare_25 : decode b_X_canShare 25 = .ok (.idiv, 1) := by decide +kernel
theorem d_X_canShare_26 : decode b_X_canShare 26 = .ok (.istore 4, 2) := by decide +kernel
theorem d_X_canShare_28 : decode b_X_canShare 28 = .ok (.iload 4, 2) := by decide +kernel
theorem d_X_canShare_30 : decode b_X_canShare 30 = .ok (.iload_n 2, 1) := by decide +kernel
theorem d_X_canShare_31 : decode b_X_canShare 31 = .ok (.if_icmp .lt 15, 3) := by decide +kernel
theorem d_X_canShare_34 : decode b_X_canShare 34 = .ok (.iload 4, 2) := by decide +kernel
theorem d_X_canShare_36 : decode b_X_canShare 36 = .ok (.iload_n 2, 1) := by decide +kernel
theorem d_X_canShare_37 : decode b_X_canShare 37 = .ok (.iload_n 3, 1) := by decide +kernel
theorem d_X_canShare_38 : decode b_X_canShare 38 = .ok (.iadd, 1) := by decide +kernel
theorem d_X_canShare_39 : decode b_X_canShare 39 = .ok (.if_icmp .ge 7, 3) := by decide +kernel
theorem d_X_canShare_42 : decode b_X_canShare 42 = .ok (.iconst 1, 1) := by decide +kernel
theorem d_X_canShare_43 : decode b_X_canShare 43 = .ok (.goto 4, 3) := by decide +kernel
theorem d_X_canShare_46 : decode b_X_canShare 46 = .ok (.iconst 0, 1) := by decide +kernel
theorem d_X_canShare_47 : decode b_X_canShare 47 = .ok (.istore 5, 2) := by decide +kernel
theorem d_X_canShare_49 : decode b_X_canShare 49 = .ok (.aload_n 0, 1) := by decide +kernel
theorem d_X_canShare_50 : decode b_X_canShare 50 = .ok (.getfield 17, 3) := by decide +kernel
theorem d_X_canShare_53 : decode b_X_canShare 53 = .ok (.iload 4, 2) := by decide +kernel
theorem d_X_canShare_55 : decode b_X_canShare 55 = .ok (.iaload, 1) := by decide +kernel
theorem d_X_canShare_56 : decode b_X_canShare 56 = .ok (.iconst 1, 1) := by decide +kernel
theorem d_X_canShare_57 : decode b_X_canShare 57 = .ok (.if_icmp .ne 12, 3) := by decide +kernel
theorem d_X_canShare_60 : decode b_X_canShare 60 = .ok (.iload 5, 2) := by decide +kernel
theorem d_X_canShare_62 : decode b_X_canShare 62 = .ok (.ifCond .ne 7, 3) := by decide +kernel
theorem d_X_canShare_65 : decode b_X_canShare 65 = .ok (.iconst 1, 1) := by decide +kernel
theorem d_X_canShare_66 : decode b_X_canShare 66 = .ok (.goto 4, 3) := by decide +kernel
theorem d_X_canShare_69 : decode b_X_canShare 69 = .ok (.iconst 0, 1) := by decide +kernel
theorem d_X_canShare_70 : decode b_X_canShare 70 = .ok (.ireturn, 1) := by decide +kernel
theorem d_X_leastFreeEnclave_0 : decode b_X_leastFreeEnclave 0 = .ok (.iconst 0, 1) := by decide +kernel
theorem d_X_leastFreeEnclave_1 : decode b_X_leastFreeEnclave 1 = .ok (.istore_n 1, 1) := by decide +kernel
theorem d_X_leastFreeEnclave_2 : decode b_X_leastFreeEnclave 2 = .ok (.iload_n 1, 1) := by decide +kernel
theorem d_X_leastFreeEnclave_3 : decode b_X_leastFreeEnclave 3 = .ok (.iconst 4, 1) := by decide +kernel
theorem d_X_leastFreeEnclave_4 : decode b_X_leastFreeEnclave 4 = .ok (.if_icmp .ge 23, 3) := by decide +kernel
theorem d_X_leastFreeEnclave_7 : decode b_X_leastFreeEnclave 7 = .ok (.aload_n 0, 1) := by decide +kernel
theorem d_X_leastFreeEnclave_8 : decode b_X_leastFreeEnclave 8 = .ok (.getfield 22, 3) := by decide +kernel
theorem d_X_leastFreeEnclave_11 : decode b_X_leastFreeEnclave 11 = .ok (.iload_n 1, 1) := by decide +kernel
theorem d_X_leastFreeEnclave_12 : decode b_X_leastFreeEnclave 12 = .ok (.aaload, 1) := by decide +kernel
theorem d_X_leastFreeEnclave_13 : decode b_X_leastFreeEnclave 13 = .ok (.getfield 86, 3) := by decide +kernel
theorem d_X_leastFreeEnclave_16 : decode b_X_leastFreeEnclave 16 = .ok (.ifCond .ne 5, 3) := by decide +kernel
theorem d_X_leastFreeEnclave_19 : decode b_X_leastFreeEnclave 19 = .ok (.iload_n 1, 1) := by decide +kernel
theorem d_X_leastFreeEnclave_20 : decode b_X_leastFreeEnclave 20 = .ok (.ireturn, 1) := by decide +kernel
theorem d_X_leastFreeEnclave_21 : decode b_X_leastFreeEnclave 21 = .ok (.iinc 1 1, 3) := by decide +kernel
theorem d_X_leastFreeEnclave_24 : decode b_X_leastFreeEnclave 24 = .ok (.goto (-22), 3) := by decide +kernel
theorem d_X_leastFreeEnclave_27 : decode b_X_leastFreeEnclave 27 = .ok (.iconst (-1), 1) := by decide +kernel
theorem d_X_leastFreeEnclave_28 : decode b_X_leastFreeEnclave 28 = .ok (.ireturn, 1) := by decide +kernel
theorem d_X_makeEnclave_0 : decode b_X_makeEnclave 0 = .ok (.aload_n 0, 1) := by decide +kernel
theorem d_X_makeEnclave_1 : decode b_X_makeEnclave 1 = .ok (.getfield 22, 3) := by decide +kernel
theorem d_X_makeEnclave_4 : decode b_X_makeEnclave 4 = .ok (.iload_n 1, 1) := by decide +kernel
theorem d_X_makeEnclave_5 : decode b_X_makeEnclave 5 = .ok (.aaload, 1) := by decide +kernel
theorem d_X_makeEnclave_6 : decode b_X_makeEnclave 6 = .ok (.astore 6, 2) := by decide +kernel
theorem d_X_makeEnclave_8 : decode b_X_makeEnclave 8 = .ok (.aload 6, 2) := by decide +kernel
theorem d_X_makeEnclave_10 : decode b_X_makeEnclave 10 = .ok (.iconst 1, 1) := by decide +kernel
theorem d_X_makeEnclave_11 : decode b_X_makeEnclave 11 = .ok (.putfield 86, 3) := by decide +kernel
theorem d_X_makeEnclave_14 : decode b_X_makeEnclave 14 = .ok (.aload 6, 2) := by decide +kernel
theorem d_X_makeEnclave_16 : decode b_X_makeEnclave 16 = .ok (.iload_n 2, 1) := by decide +kernel
theorem d_X_makeEnclave_17 : decode b_X_makeEnclave 17 = .ok (.putfield 148, 3) := by decide +kernel
theorem d_X_makeEnclave_20 : decode b_X_makeEnclave 20 = .ok (.aload 6, 2) := by decide +kernel
theorem d_X_makeEnclave_22 : decode b_X_makeEnclave 22 = .ok (.iload_n 3, 1) := by decide +kernel
theorem d_X_makeEnclave_23 : decode b_X_makeEnclave 23 = .ok (.putfield 151, 3) := by decide +kernel
theorem d_X_makeEnclave_26 : decode b_X_makeEnclave 26 = .ok (.aload 6, 2) := by decide +kernel
theorem d_X_makeEnclave_28 : decode b_X_makeEnclave 28 = .ok (.iload 4, 2) := by decide +kernel
theorem d_X_makeEnclave_30 : decode b_X_makeEnclave 30 = .ok (.putfield 154, 3) := by decide +kernel
theorem d_X_makeEnclave_33 : decode b_X_makeEnclave 33 = .ok (.aload 6, 2) := by decide +kernel
theorem d_X_makeEnclave_35 : decode b_X_makeEnclave 35 = .ok (.iload 5, 2) := by decide +kernel
theorem d_X_makeEnclave_37 : decode b_X_makeEnclave 37 = .ok (.putfield 157, 3) := by decide +kernel
theorem d_X_makeEnclave_40 : decode b_X_makeEnclave 40 = .ok (.aload 6, 2) := by decide +kernel
theorem d_X_makeEnclave_42 : decode b_X_makeEnclave 42 = .ok (.aload_n 0, 1) := by decide +kernel
theorem d_X_makeEnclave_43 : decode b_X_makeEnclave 43 = .ok (.aload 6, 2) := by decide +kernel
theorem d_X_makeEnclave_45 : decode b_X_makeEnclave 45 = .ok (.invokevirtual 160, 3) := by decide +kernel
theorem d_X_makeEnclave_48 : decode b_X_makeEnclave 48 = .ok (.putfield 120, 3) := by decide +kernel
theorem d_X_makeEnclave_51 : decode b_X_makeEnclave 51 = .ok (.aload_n 0, 1) := by decide +kernel
theorem d_X_makeEnclave_52 : decode b_X_makeEnclave 52 = .ok (.aload 6, 2) := by decide +kernel
theorem d_X_makeEnclave_54 : decode b_X_makeEnclave 54 = .ok (.iconst 2, 1) := by decide +kernel
theorem d_X_makeEnclave_55 : decode b_X_makeEnclave 55 = .ok (.iload_n 1, 1) := by decide +kernel
theorem d_X_makeEnclave_56 : decode b_X_makeEnclave 56 = .ok (.iadd, 1) := by decide +kernel
theorem d_X_makeEnclave_57 : decode b_X_makeEnclave 57 = .ok (.invokevirtual 164, 3) := by decide +kernel
theorem d_X_makeEnclave_60 : decode b_X_makeEnclave 60 = .ok (.aload_n 0, 1) := by decide +kernel
theorem d_X_makeEnclave_61 : decode b_X_makeEnclave 61 = .ok (.invokevirtual 34, 3) := by decide +kernel
theorem d_X_makeEnclave_64 : decode b_X_makeEnclave 64 = .ok (.return_, 1) := by decide +kernel
theorem d_X_removeEnclave_0 : decode b_X_removeEnclave 0 = .ok (.aload_n 1, 1) := by decide +kernel
theorem d_X_removeEnclave_1 : decode b_X_removeEnclave 1 = .ok (.invokevirtual 168, 3) := by decide +kernel
theorem d_X_removeEnclave_4 : decode b_X_removeEnclave 4 = .ok (.istore_n 2, 1) := by decide +kernel
theorem d_X_removeEnclave_5 : decode b_X_removeEnclave 5 = .ok (.aload_n 1, 1) := by decide +kernel
theorem d_X_removeEnclave_6 : decode b_X_removeEnclave 6 = .ok (.invokevirtual 171, 3) := by decide +kernel
theorem d_X_removeEnclave_9 : decode b_X_removeEnclave 9 = .ok (.istore_n 3, 1) := by decide +kernel
theorem d_X_removeEnclave_10 : decode b_X_removeEnclave 10 = .ok (.iload_n 3, 1) := by decide +kernel
theorem d_X_removeEnclave_11 : decode b_X_removeEnclave 11 = .ok (.iload_n 2, 1) := by decide +kernel
theorem d_X_removeEnclave_12 : decode b_X_removeEnclave 12 = .ok (.if_icmp .ge 16, 3) := by decide +kernel
theorem d_X_removeEnclave_15 : decode b_X_removeEnclave 15 = .ok (.aload_n 0, 1) := by decide +kernel
theorem d_X_removeEnclave_16 : decode b_X_removeEnclave 16 = .ok (.getfield 13, 3) := by decide +kernel
theorem d_X_removeEnclave_19 : decode b_X_removeEnclave 19 = .ok (.iload_n 3, 1) := by decide +kernel
theorem d_X_removeEnclave_20 : decode b_X_removeEnclave 20 = .ok (.iconst 0, 1) := by decide +kernel
theorem d_X_removeEnclave_21 : decode b_X_removeEnclave 21 = .ok (.iastore, 1) := by decide +kernel
theorem d_X_removeEnclave_22 : decode b_X_removeEnclave 22 = .ok (.iinc 3 1, 3) := by decide +kernel
theorem d_X_removeEnclave_25 : decode b_X_removeEnclave 25 = .ok (.goto (-15), 3) := by decide +kernel
theorem d_X_removeEnclave_28 : decode b_X_removeEnclave 28 = .ok (.aload_n 0, 1) := by decide +kernel
theorem d_X_removeEnclave_29 : decode b_X_removeEnclave 29 = .ok (.aload_n 1, 1) := by decide +kernel
theorem d_X_removeEnclave_30 : decode b_X_removeEnclave 30 = .ok (.iconst 1, 1) := by decide +kernel
theorem d_X_removeEnclave_31 : decode b_X_removeEnclave 31 = .ok (.invokevirtual 164, 3) := by decide +kernel
theorem d_X_removeEnclave_34 : decode b_X_removeEnclave 34 = .ok (.aload_n 1, 1) := by decide +kernel
theorem d_X_removeEnclave_35 : decode b_X_removeEnclave 35 = .ok (.iconst 0, 1) := by decide +kernel
theorem d_X_removeEnclave_36 : decode b_X_removeEnclave 36 = .ok (.putfield 86, 3) := by decide +kernel
theorem d_X_removeEnclave_39 : decode b_X_removeEnclave 39 = .ok (.aload_n 0, 1) := by decide +kernel
theorem d_X_removeEnclave_40 : decode b_X_removeEnclave 40 = .ok (.invokevirtual 34, 3) := by decide +kernel
theorem d_X_removeEnclave_43 : decode b_X_removeEnclave 43 = .ok (.return_, 1) := by decide +kernel
theorem d_X_setOwner_0 : decode b_X_setOwner 0 = .ok (.aload_n 1, 1) := by decide +kernel
theorem d_X_setOwner_1 : decode b_X_setOwner 1 = .ok (.getfield 148, 3) := by decide +kernel
theorem d_X_setOwner_4 : decode b_X_setOwner 4 = .ok (.aload_n 1, 1) := by decide +kernel
theorem d_X_setOwner_5 : decode b_X_setOwner 5 = .ok (.getfield 151, 3) := by decide +kernel
theorem d_X_setOwner_8 : decode b_X_setOwner 8 = .ok (.iadd, 1) := by decide +kernel
theorem d_X_setOwner_9 : decode b_X_setOwner 9 = .ok (.istore_n 3, 1) := by decide +kernel
theorem d_X_setOwner_10 : decode b_X_setOwner 10 = .ok (.aload_n 1, 1) := by decide +kernel
theorem d_X_setOwner_11 : decode b_X_setOwner 11 = .ok (.getfield 148, 3) := by decide +kernel
theorem d_X_setOwner_14 : decode b_X_setOwner 14 = .ok (.istore 4, 2) := by decide +kernel
theorem d_X_setOwner_16 : decode b_X_setOwner 16 = .ok (.iload 4, 2) := by decide +kernel
theorem d_X_setOwner_18 : decode b_X_setOwner 18 = .ok (.iload_n 3, 1) := by decide +kernel
theorem d_X_setOwner_19 : decode b_X_setOwner 19 = .ok (.if_icmp .ge 17, 3) := by decide +kernel
theorem d_X_setOwner_22 : decode b_X_setOwner 22 = .ok (.aload_n 0, 1) := by decide +kernel
theorem d_X_setOwner_23 : decode b_X_setOwner 23 = .ok (.getfield 17, 3) := by decide +kernel
theorem d_X_setOwner_26 : decode b_X_setOwner 26 = .ok (.iload 4, 2) := by decide +kernel
theorem d_X_setOwner_28 : decode b_X_setOwner 28 = .ok (.iload_n 2, 1) := by decide +kernel
theorem d_X_setOwner_29 : decode b_X_setOwner 29 = .ok (.iastore, 1) := by decide +kernel
theorem d_X_setOwner_30 : decode b_X_setOwner 30 = .ok (.iinc 4 1, 3) := by decide +kernel
theorem d_X_setOwner_33 : decode b_X_setOwner 33 = .ok (.goto (-17), 3) := by decide +kernel
theorem d_X_setOwner_36 : decode b_X_setOwner 36 = .ok (.return_, 1) := by decide +kernel
theorem d_X_measure_0 : decode b_X_measure 0 = .ok (.aload_n 1, 1) := by decide +kernel
theorem d_X_measure_1 : decode b_X_measure 1 = .ok (.getfield 151, 3) := by decide +kernel
theorem d_X_measure_4 : decode b_X_measure 4 = .ok (.aload_n 1, 1) := by decide +kernel
theorem d_X_measure_5 : decode b_X_measure 5 = .ok (.getfield 154, 3) := by decide +kernel
theorem d_X_measure_8 : decode b_X_measure 8 = .ok (.aload_n 1, 1) := by decide +kernel
theorem d_X_measure_9 : decode b_X_measure 9 = .ok (.invokevirtual 171, 3) := by decide +kernel
theorem d_X_measure_12 : decode b_X_measure 12 = .ok (.isub, 1) := by decide +kernel
theorem d_X_measure_13 : decode b_X_measure 13 = .ok (.invokestatic 174, 3) := by decide +kernel
theorem d_X_measure_16 : decode b_X_measure 16 = .ok (.istore_n 2, 1) := by decide +kernel
theorem d_X_measure_17 : decode b_X_measure 17 = .ok (.aload_n 1, 1) := by decide +kernel
theorem d_X_measure_18 : decode b_X_measure 18 = .ok (.invokevirtual 168, 3) := by decide +kernel
theorem d_X_measure_21 : decode b_X_measure 21 = .ok (.istore_n 3, 1) := by decide +kernel
theorem d_X_measure_22 : decode b_X_measure 22 = .ok (.aload_n 1, 1) := by decide +kernel
theorem d_X_measure_23 : decode b_X_measure 23 = .ok (.invokevirtual 171, 3) := by decide +kernel
theorem d_X_measure_26 : decode b_X_measure 26 = .ok (.istore 4, 2) := by decide +kernel
theorem d_X_measure_28 : decode b_X_measure 28 = .ok (.iload 4, 2) := by decide +kernel
theorem d_X_measure_30 : decode b_X_measure 30 = .ok (.iload_n 3, 1) := by decide +kernel
theorem d_X_measure_31 : decode b_X_measure 31 = .ok (.if_icmp .ge 21, 3) := by decide +kernel
theorem d_X_measure_34 : decode b_X_measure 34 = .ok (.iload_n 2, 1) := by decide +kernel
theorem d_X_measure_35 : decode b_X_measure 35 = .ok (.aload_n 0, 1) := by decide +kernel
theorem d_X_measure_36 : decode b_X_measure 36 = .ok (.getfield 13, 3) := by decide +kernel
theorem d_X_measure_39 : decode b_X_measure 39 = .ok (.iload 4, 2) := by decide +kernel
theorem d_X_measure_41 : decode b_X_measure 41 = .ok (.iaload, 1) := by decide +kernel
theorem d_X_measure_42 : decode b_X_measure 42 = .ok (.invokestatic 174, 3) := by decide +kernel
theorem d_X_measure_45 : decode b_X_measure 45 = .ok (.istore_n 2, 1) := by decide +kernel
theorem d_X_measure_46 : decode b_X_measure 46 = .ok (.iinc 4 1, 3) := by decide +kernel
theorem d_X_measure_49 : decode b_X_measure 49 = .ok (.goto (-21), 3) := by decide +kernel
theorem d_X_measure_52 : decode b_X_measure 52 = .ok (.iload_n 2, 1) := by decide +kernel
theorem d_X_measure_53 : decode b_X_measure 53 = .ok (.ireturn, 1) := by decide +kernel
theorem d_X_mix_0 : decode b_X_mix 0 = .ok (.bipush 31, 2) := by decide +kernel
theorem d_X_mix_2 : decode b_X_mix 2 = .ok (.iload_n 0, 1) := by decide +kernel
theorem d_X_mix_3 : decode b_X_mix 3 = .ok (.imul, 1) := by decide +kernel
theorem d_X_mix_4 : decode b_X_mix 4 = .ok (.iload_n 1, 1) := by decide +kernel
theorem d_X_mix_5 : decode b_X_mix 5 = .ok (.ixor, 1) := by decide +kernel
theorem d_X_mix_6 : decode b_X_mix 6 = .ok (.ldc 177, 2) := by decide +kernel
theorem d_X_mix_8 : decode b_X_mix 8 = .ok (.imul, 1) := by decide +kernel
theorem d_X_mix_9 : decode b_X_mix 9 = .ok (.istore_n 2, 1) := by decide +kernel
theorem d_X_mix_10 : decode b_X_mix 10 = .ok (.iload_n 2, 1) := by decide +kernel
theorem d_X_mix_11 : decode b_X_mix 11 = .ok (.iload_n 2, 1) := by decide +kernel
theorem d_X_mix_12 : decode b_X_mix 12 = .ok (.bipush 15, 2) := by decide +kernel
theorem d_X_mix_14 : decode b_X_mix 14 = .ok (.iushr, 1) := by decide +kernel
theorem d_X_mix_15 : decode b_X_mix 15 = .ok (.ixor, 1) := by decide +kernel
theorem d_X_mix_16 : decode b_X_mix 16 = .ok (.ireturn, 1) := by decide +kernel
theorem d_X_proofOf_0 : decode b_X_proofOf 0 = .ok (.aload_n 0, 1) := by decide +kernel
theorem d_X_proofOf_1 : decode b_X_proofOf 1 = .ok (.getfield 7, 3) := by decide +kernel
theorem d_X_proofOf_4 : decode b_X_proofOf 4 = .ok (.iconst 3, 1) := by decide +kernel
theorem d_X_proofOf_5 : decode b_X_proofOf 5 = .ok (.invokestatic 174, 3) := by decide +kernel
theorem d_X_proofOf_8 : decode b_X_proofOf 8 = .ok (.iload_n 1, 1) := by decide +kernel
theorem d_X_proofOf_9 : decode b_X_proofOf 9 = .ok (.invokestatic 174, 3) := by decide +kernel
theorem d_X_proofOf_12 : decode b_X_proofOf 12 = .ok (.iload_n 2, 1) := by decide +kernel
theorem d_X_proofOf_13 : decode b_X_proofOf 13 = .ok (.invokestatic 174, 3) := by decide +kernel
theorem d_X_proofOf_16 : decode b_X_proofOf 16 = .ok (.ireturn, 1) := by decide +kernel
theorem d_X_secretOf_0 : decode b_X_secretOf 0 = .ok (.aload_n 0, 1) := by decide +kernel
theorem d_X_secretOf_1 : decode b_X_secretOf 1 = .ok (.getfield 7, 3) := by decide +kernel
theorem d_X_secretOf_4 : decode b_X_secretOf 4 = .ok (.bipush 7, 2) := by decide +kernel
theorem d_X_secretOf_6 : decode b_X_secretOf 6 = .ok (.invokestatic 174, 3) := by decide +kernel
theorem d_X_secretOf_9 : decode b_X_secretOf 9 = .ok (.iload_n 1, 1) := by decide +kernel
theorem d_X_secretOf_10 : decode b_X_secretOf 10 = .ok (.invokestatic 174, 3) := by decide +kernel
theorem d_X_secretOf_13 : decode b_X_secretOf 13 = .ok (.ireturn, 1) := by decide +kernel
theorem d_X_isAllowed_0 : decode b_X_isAllowed 0 = .ok (.iload_n 2, 1) := by decide +kernel
theorem d_X_isAllowed_1 : decode b_X_isAllowed 1 = .ok (.invokestatic 178, 3) := by decide +kernel
theorem d_X_isAllowed_4 : decode b_X_isAllowed 4 = .ok (.ifCond .ne 5, 3) := by decide +kernel
theorem d_X_isAllowed_7 : decode b_X_isAllowed 7 = .ok (.iconst 0, 1) := by decide +kernel
theorem d_X_isAllowed_8 : decode b_X_isAllowed 8 = .ok (.ireturn, 1) := by decide +kernel
theorem d_X_isAllowed_9 : decode b_X_isAllowed 9 = .ok (.iconst 0, 1) := by decide +kernel
theorem d_X_isAllowed_10 : decode b_X_isAllowed 10 = .ok (.istore 4, 2) := by decide +kernel
theorem d_X_isAllowed_12 : decode b_X_isAllowed 12 = .ok (.iload 4, 2) := by decide +kernel
theorem d_X_isAllowed_14 : decode b_X_isAllowed 14 = .ok (.bipush 11, 2) := by decide +kernel
theorem d_X_isAllowed_16 : decode b_X_isAllowed 16 = .ok (.if_icmp .ge 69, 3) := by decide +kernel
theorem d_X_isAllowed_19 : decode b_X_isAllowed 19 = .ok (.iload 4, 2) := by decide +kernel
theorem d_X_isAllowed_21 : decode b_X_isAllowed 21 = .ok (.ifCond .ne 7, 3) := by decide +kernel
theorem d_X_isAllowed_24 : decode b_X_isAllowed 24 = .ok (.iconst 0, 1) := by decide +kernel
theorem d_X_isAllowed_25 : decode b_X_isAllowed 25 = .ok (.goto 15, 3) := by decide +kernel
theorem d_X_isAllowed_28 : decode b_X_isAllowed 28 = .ok (.aload_n 1, 1) := by decide +kernel
theorem d_X_isAllowed_29 : decode b_X_isAllowed 29 = .ok (.getfield 133, 3) := by decide +kernel
theorem d_X_isAllowed_32 : decode b_X_isAllowed 32 = .ok (.iload 4, 2) := by decide +kernel
theorem d_X_isAllowed_34 : decode b_X_isAllowed 34 = .ok (.iconst 1, 1) := by decide +kernel
theorem d_X_isAllowed_35 : decode b_X_isAllowed 35 = .ok (.isub, 1) := by decide +kernel
theorem d_X_isAllowed_36 : decode b_X_isAllowed 36 = .ok (.aaload, 1) := by decide +kernel
theorem d_X_isAllowed_37 : decode b_X_isAllowed 37 = .ok (.getfield 145, 3) := by decide +kernel
theorem d_X_isAllowed_40 : decode b_X_isAllowed 40 = .ok (.istore 5, 2) := by decide +kernel
theorem d_X_isAllowed_42 : decode b_X_isAllowed 42 = .ok (.aload_n 1, 1) := by decide +kernel
theorem d_X_isAllowed_43 : decode b_X_isAllowed 43 = .ok (.getfield 133, 3) := by decide +kernel
theorem d_X_isAllowed_46 : decode b_X_isAllowed 46 = .ok (.iload 4, 2) := by decide +kernel
theorem d_X_isAllowed_48 : decode b_X_isAllowed 48 = .ok (.aaload, 1) := by decide +kernel
theorem d_X_isAllowed_49 : decode b_X_isAllowed 49 = .ok (.iload_n 2, 1) := by decide +kernel
theorem d_X_isAllowed_50 : decode b_X_isAllowed 50 = .ok (.iload 5, 2) := by decide +kernel
theorem d_X_isAllowed_52 : decode b_X_isAllowed 52 = .ok (.invokevirtual 181, 3) := by decide +kernel
theorem d_X_isAllowed_55 : decode b_X_isAllowed 55 = .ok (.ifCond .eq 24, 3) := by decide +kernel
theorem d_X_isAllowed_58 : decode b_X_isAllowed 58 = .ok (.aload_n 1, 1) := by decide +kernel
theorem d_X_isAllowed_59 : decode b_X_isAllowed 59 = .ok (.getfield 133, 3) := by decide +kernel
theorem d_X_isAllowed_62 : decode b_X_isAllowed 62 = .ok (.iload 4, 2) := by decide +kernel
theorem d_X_isAllowed_64 : decode b_X_isAllowed 64 = .ok (.aaload, 1) := by decide +kernel
theorem d_X_isAllowed_65 : decode b_X_isAllowed 65 = .ok (.getfield 142, 3) := by decide +kernel
theorem d_X_isAllowed_68 : decode b_X_isAllowed 68 = .ok (.iload_n 3, 1) := by decide +kernel
theorem d_X_isAllowed_69 : decode b_X_isAllowed 69 = .ok (.iand, 1) := by decide +kernel
theorem d_X_isAllowed_70 : decode b_X_isAllowed 70 = .ok (.ifCond .eq 7, 3) := by decide +kernel
theorem d_X_isAllowed_73 : decode b_X_isAllowed 73 = .ok (.iconst 1, 1) := by decide +kernel
theorem d_X_isAllowed_74 : decode b_X_isAllowed 74 = .ok (.goto 4, 3) := by decide +kernel
theorem d_X_isAllowed_77 : decode b_X_isAllowed 77 = .ok (.iconst 0, 1) := by decide +kernel
theorem d_X_isAllowed_78 : decode b_X_isAllowed 78 = .ok (.ireturn, 1) := by decide +kernel
theorem d_X_isAllowed_79 : decode b_X_isAllowed 79 = .ok (.iinc 4 1, 3) := by decide +kernel
theorem d_X_isAllowed_82 : decode b_X_isAllowed 82 = .ok (.goto (-70), 3) := by decide +kernel
theorem d_X_isAllowed_85 : decode b_X_isAllowed 85 = .ok (.iconst 0, 1) := by decide +kernel
theorem d_X_isAllowed_86 : decode b_X_isAllowed 86 = .ok (.ireturn, 1) := by decide +kernel
theorem d_X_setAllGuards_0 : decode b_X_setAllGuards 0 = .ok (.iconst 0, 1) := by decide +kernel
theorem d_X_setAllGuards_1 : decode b_X_setAllGuards 1 = .ok (.istore_n 1, 1) := by decide +kernel
theorem d_X_setAllGuards_2 : decode b_X_setAllGuards 2 = .ok (.iload_n 1, 1) := by decide +kernel
theorem d_X_setAllGuards_3 : decode b_X_setAllGuards 3 = .ok (.iconst 2, 1) := by decide +kernel
theorem d_X_setAllGuards_4 : decode b_X_setAllGuards 4 = .ok (.if_icmp .ge 19, 3) := by decide +kernel
theorem d_X_setAllGuards_7 : decode b_X_setAllGuards 7 = .ok (.aload_n 0, 1) := by decide +kernel
theorem d_X_setAllGuards_8 : decode b_X_setAllGuards 8 = .ok (.aload_n 0, 1) := by decide +kernel
theorem d_X_setAllGuards_9 : decode b_X_setAllGuards 9 = .ok (.getfield 29, 3) := by decide +kernel
theorem d_X_setAllGuards_12 : decode b_X_setAllGuards 12 = .ok (.iload_n 1, 1) := by decide +kernel
theorem d_X_setAllGuards_13 : decode b_X_setAllGuards 13 = .ok (.aaload, 1) := by decide +kernel
theorem d_X_setAllGuards_14 : decode b_X_setAllGuards 14 = .ok (.invokevirtual 96, 3) := by decide +kernel
theorem d_X_setAllGuards_17 : decode b_X_setAllGuards 17 = .ok (.iinc 1 1, 3) := by decide +kernel
theorem d_X_setAllGuards_20 : decode b_X_setAllGuards 20 = .ok (.goto (-18), 3) := by decide +kernel
theorem d_X_setAllGuards_23 : decode b_X_setAllGuards 23 = .ok (.return_, 1) := by decide +kernel
theorem d_X_setGuards_0 : decode b_X_setGuards 0 = .ok (.aload_n 1, 1) := by decide +kernel
theorem d_X_setGuards_1 : decode b_X_setGuards 1 = .ok (.getfield 133, 3) := by decide +kernel
theorem d_X_setGuards_4 : decode b_X_setGuards 4 = .ok (.iconst 0, 1) := by decide +kernel
theorem d_X_setGuards_5 : decode b_X_setGuards 5 = .ok (.aaload, 1) := by decide +kernel
theorem d_X_setGuards_6 : decode b_X_setGuards 6 = .ok (.iconst 0, 1) := by decide +kernel
theorem d_X_setGuards_7 : decode b_X_setGuards 7 = .ok (.bipush 16, 2) := by decide +kernel
theorem d_X_setGuards_9 : decode b_X_setGuards 9 = .ok (.iconst 0, 1) := by decide +kernel
theorem d_X_setGuards_10 : decode b_X_setGuards 10 = .ok (.invokevirtual 184, 3) := by decide +kernel
theorem d_X_setGuards_13 : decode b_X_setGuards 13 = .ok (.iconst 0, 1) := by decide +kernel
theorem d_X_setGuards_14 : decode b_X_setGuards 14 = .ok (.istore_n 2, 1) := by decide +kernel
theorem d_X_setGuards_15 : decode b_X_setGuards 15 = .ok (.iload_n 2, 1) := by decide +kernel
theorem d_X_setGuards_16 : decode b_X_setGuards 16 = .ok (.iconst 4, 1) := by decide +kernel
theorem d_X_setGuards_17 : decode b_X_setGuards 17 = .ok (.if_icmp .ge 54, 3) := by decide +kernel
theorem d_X_setGuards_20 : decode b_X_setGuards 20 = .ok (.aload_n 1, 1) := by decide +kernel
theorem d_X_setGuards_21 : decode b_X_setGuards 21 = .ok (.getfield 93, 3) := by decide +kernel
theorem d_X_setGuards_24 : decode b_X_setGuards 24 = .ok (.iload_n 2, 1) := by decide +kernel
theorem d_X_setGuards_25 : decode b_X_setGuards 25 = .ok (.if_icmp .ne 8, 3) := by decide +kernel
theorem d_X_setGuards_28 : decode b_X_setGuards 28 = .ok (.bipush 7, 2) := by decide +kernel
theorem d_X_setGuards_30 : decode b_X_setGuards 30 = .ok (.goto 4, 3) := by decide +kernel
theorem d_X_setGuards_33 : decode b_X_setGuards 33 = .ok (.iconst 0, 1) := by decide +kernel
theorem d_X_setGuards_34 : decode b_X_setGuards 34 = .ok (.istore_n 3, 1) := by decide +kernel
theorem d_X_setGuards_35 : decode b_X_setGuards 35 = .ok (.aload_n 0, 1) := by decide +kernel
theorem d_X_setGuards_36 : decode b_X_setGuards 36 = .ok (.getfield 22, 3) := by decide +kernel
theorem d_X_setGuards_39 : decode b_X_setGuards 39 = .ok (.iload_n 2, 1) := by decide +kernel
theorem d_X_setGuards_40 : decode b_X_setGuards 40 = .ok (.aaload, 1) := by decide +kernel
theorem d_X_setGuards_41 : decode b_X_setGuards 41 = .ok (.aload_n 1, 1) := by decide +kernel
theorem d_X_setGuards_42 : decode b_X_setGuards 42 = .ok (.getfield 133, 3) := by decide +kernel
theorem d_X_setGuards_45 : decode b_X_setGuards 45 = .ok (.iconst 1, 1) := by decide +kernel
theorem d_X_setGuards_46 : decode b_X_setGuards 46 = .ok (.iconst 2, 1) := by decide +kernel
theorem d_X_setGuards_47 : decode b_X_setGuards 47 = .ok (.iload_n 2, 1) := by decide +kernel
theorem d_X_setGuards_48 : decode b_X_setGuards 48 = .ok (.imul, 1) := by decide +kernel
theorem d_X_setGuards_49 : decode b_X_setGuards 49 = .ok (.iadd, 1) := by decide +kernel
theorem d_X_setGuards_50 : decode b_X_setGuards 50 = .ok (.aaload, 1) := by decide +kernel
theorem d_X_setGuards_51 : decode b_X_setGuards 51 = .ok (.aload_n 1, 1) := by decide +kernel
theorem d_X_setGuards_52 : decode b_X_setGuards 52 = .ok (.getfield 133, 3) := by decide +kernel
theorem d_X_setGuards_55 : decode b_X_setGuards 55 = .ok (.iconst 2, 1) := by decide +kernel
theorem d_X_setGuards_56 : decode b_X_setGuards 56 = .ok (.iconst 2, 1) := by decide +kernel
theorem d_X_setGuards_57 : decode b_X_setGuards 57 = .ok (.iload_n 2, 1) := by decide +kernel
theorem d_X_setGuards_58 : decode b_X_setGuards 58 = .ok (.imul, 1) := by decide +kernel
theorem d_X_setGuards_59 : decode b_X_setGuards 59 = .ok (.iadd, 1) := by decide +kernel
theorem d_X_setGuards_60 : decode b_X_setGuards 60 = .ok (.aaload, 1) := by decide +kernel
theorem d_X_setGuards_61 : decode b_X_setGuards 61 = .ok (.iload_n 3, 1) := by decide +kernel
theorem d_X_setGuards_62 : decode b_X_setGuards 62 = .ok (.invokestatic 188, 3) := by decide +kernel
theorem d_X_setGuards_65 : decode b_X_setGuards 65 = .ok (.iinc 2 1, 3) := by decide +kernel
theorem d_X_setGuards_68 : decode b_X_setGuards 68 = .ok (.goto (-53), 3) := by decide +kernel
theorem d_X_setGuards_71 : decode b_X_setGuards 71 = .ok (.aload_n 0, 1) := by decide +kernel
theorem d_X_setGuards_72 : decode b_X_setGuards 72 = .ok (.aload_n 1, 1) := by decide +kernel
theorem d_X_setGuards_73 : decode b_X_setGuards 73 = .ok (.invokevirtual 192, 3) := by decide +kernel
theorem d_X_setGuards_76 : decode b_X_setGuards 76 = .ok (.aload_n 1, 1) := by decide +kernel
theorem d_X_setGuards_77 : decode b_X_setGuards 77 = .ok (.getfield 93, 3) := by decide +kernel
theorem d_X_setGuards_80 : decode b_X_setGuards 80 = .ok (.iconst (-1), 1) := by decide +kernel
theorem d_X_setGuards_81 : decode b_X_setGuards 81 = .ok (.if_icmp .ne 8, 3) := by decide +kernel
theorem d_X_setGuards_84 : decode b_X_setGuards 84 = .ok (.bipush 7, 2) := by decide +kernel
theorem d_X_setGuards_86 : decode b_X_setGuards 86 = .ok (.goto 4, 3) := by decide +kernel
theorem d_X_setGuards_89 : decode b_X_setGuards 89 = .ok (.iconst 0, 1) := by decide +kernel
theorem d_X_setGuards_90 : decode b_X_setGuards 90 = .ok (.istore_n 2, 1) := by decide +kernel
theorem d_X_setGuards_91 : decode b_X_setGuards 91 = .ok (.aload_n 1, 1) := by decide +kernel
theorem d_X_setGuards_92 : decode b_X_setGuards 92 = .ok (.getfield 133, 3) := by decide +kernel
theorem d_X_setGuards_95 : decode b_X_setGuards 95 = .ok (.bipush 10, 2) := by decide +kernel
theorem d_X_setGuards_97 : decode b_X_setGuards 97 = .ok (.aaload, 1) := by decide +kernel
theorem d_X_setGuards_98 : decode b_X_setGuards 98 = .ok (.iconst 0, 1) := by decide +kernel
theorem d_X_setGuards_99 : decode b_X_setGuards 99 = .ok (.sipush 256, 3) := by decide +kernel
theorem d_X_setGuards_102 : decode b_X_setGuards 102 = .ok (.iload_n 2, 1) := by decide +kernel
theorem d_X_setGuards_103 : decode b_X_setGuards 103 = .ok (.invokevirtual 184, 3) := by decide +kernel
theorem d_X_setGuards_106 : decode b_X_setGuards 106 = .ok (.return_, 1) := by decide +kernel
theorem d_X_setEnclaveGuards_0 : decode b_X_setEnclaveGuards 0 = .ok (.aload_n 0, 1) := by decide +kernel
theorem d_X_setEnclaveGuards_1 : decode b_X_setEnclaveGuards 1 = .ok (.getfield 86, 3) := by decide +kernel
theorem d_X_setEnclaveGuards_4 : decode b_X_setEnclaveGuards 4 = .ok (.ifCond .ne 16, 3) := by decide +kernel
theorem d_X_setEnclaveGuards_7 : decode b_X_setEnclaveGuards 7 = .ok (.aload_n 1, 1) := by decide +kernel
theorem d_X_setEnclaveGuards_8 : decode b_X_setEnclaveGuards 8 = .ok (.iconst 0, 1) := by decide +kernel
theorem d_X_setEnclaveGuards_9 : decode b_X_setEnclaveGuards 9 = .ok (.invokevirtual 195, 3) := by decide +kernel
theorem d_X_setEnclaveGuards_12 : decode b_X_setEnclaveGuards 12 = .ok (.aload_n 2, 1) := by decide +kernel
theorem d_X_setEnclaveGuards_13 : decode b_X_setEnclaveGuards 13 = .ok (.iconst 0, 1) := by decide +kernel
theorem d_X_setEnclaveGuards_14 : decode b_X_setEnclaveGuards 14 = .ok (.invokevirtual 195, 3) := by decide +kernel
theorem d_X_setEnclaveGuards_17 : decode b_X_setEnclaveGuards 17 = .ok (.goto 54, 3) := by decide +kernel
theorem d_X_setEnclaveGuards_20 : decode b_X_setEnclaveGuards 20 = .ok (.aload_n 0, 1) := by decide +kernel
theorem d_X_setEnclaveGuards_21 : decode b_X_setEnclaveGuards 21 = .ok (.invokevirtual 198, 3) := by decide +kernel
theorem d_X_setEnclaveGuards_24 : decode b_X_setEnclaveGuards 24 = .ok (.ifCond .eq 29, 3) := by decide +kernel
theorem d_X_setEnclaveGuards_27 : decode b_X_setEnclaveGuards 27 = .ok (.aload_n 1, 1) := by decide +kernel
theorem d_X_setEnclaveGuards_28 : decode b_X_setEnclaveGuards 28 = .ok (.iconst 0, 1) := by decide +kernel
theorem d_X_setEnclaveGuards_29 : decode b_X_setEnclaveGuards 29 = .ok (.invokevirtual 195, 3) := by decide +kernel
theorem d_X_setEnclaveGuards_32 : decode b_X_setEnclaveGuards 32 = .ok (.aload_n 2, 1) := by decide +kernel
theorem d_X_setEnclaveGuards_33 : decode b_X_setEnclaveGuards 33 = .ok (.aload_n 0, 1) := by decide +kernel
theorem d_X_setEnclaveGuards_34 : decode b_X_setEnclaveGuards 34 = .ok (.invokevirtual 171, 3) := by decide +kernel
theorem d_X_setEnclaveGuards_37 : decode b_X_setEnclaveGuards 37 = .ok (.aload_n 0, 1) := by decide +kernel
theorem d_X_setEnclaveGuards_38 : decode b_X_setEnclaveGuards 38 = .ok (.invokevirtual 168, 3) := by decide +kernel
theorem d_X_setEnclaveGuards_41 : decode b_X_setEnclaveGuards 41 = .ok (.aload_n 0, 1) := by decide +kernel
theorem d_X_setEnclaveGuards_42 : decode b_X_setEnclaveGuards 42 = .ok (.invokevirtual 171, 3) := by decide +kernel
theorem d_X_setEnclaveGuards_45 : decode b_X_setEnclaveGuards 45 = .ok (.isub, 1) := by decide +kernel
theorem d_X_setEnclaveGuards_46 : decode b_X_setEnclaveGuards 46 = .ok (.iload_n 3, 1) := by decide +kernel
theorem d_X_setEnclaveGuards_47 : decode b_X_setEnclaveGuards 47 = .ok (.invokevirtual 184, 3) := by decide +kernel
theorem d_X_setEnclaveGuards_50 : decode b_X_setEnclaveGuards 50 = .ok (.goto 21, 3) := by decide +kernel
theorem d_X_setEnclaveGuards_53 : decode b_X_setEnclaveGuards 53 = .ok (.aload_n 1, 1) := by decide +kernel
theorem d_X_setEnclaveGuards_54 : decode b_X_setEnclaveGuards 54 = .ok (.aload_n 0, 1) := by decide +kernel
theorem d_X_setEnclaveGuards_55 : decode b_X_setEnclaveGuards 55 = .ok (.invokevirtual 171, 3) := by decide +kernel
theorem d_X_setEnclaveGuards_58 : decode b_X_setEnclaveGuards 58 = .ok (.invokevirtual 195, 3) := by decide +kernel
theorem d_X_setEnclaveGuards_61 : decode b_X_setEnclaveGuards 61 = .ok (.aload_n 2, 1) := by decide +kernel
theorem d_X_setEnclaveGuards_62 : decode b_X_setEnclaveGuards 62 = .ok (.iconst 1, 1) := by decide +kernel
theorem d_X_setEnclaveGuards_63 : decode b_X_setEnclaveGuards 63 = .ok (.iload_n 3, 1) := by decide +kernel
theorem d_X_setEnclaveGuards_64 : decode b_X_setEnclaveGuards 64 = .ok (.aload_n 0, 1) := by decide +kernel
theorem d_X_setEnclaveGuards_65 : decode b_X_setEnclaveGuards 65 = .ok (.invokevirtual 168, 3) := by decide +kernel
theorem d_X_setEnclaveGuards_68 : decode b_X_setEnclaveGuards 68 = .ok (.invokevirtual 202, 3) := by decide +kernel
theorem d_X_setEnclaveGuards_71 : decode b_X_setEnclaveGuards 71 = .ok (.return_, 1) := by decide +kernel
theorem d_X_setSharedGuard_0 : decode b_X_setSharedGuard 0 = .ok (.aload_n 1, 1) := by decide +kernel
theorem d_X_setSharedGuard_1 : decode b_X_setSharedGuard 1 = .ok (.getfield 93, 3) := by decide +kernel
theorem d_X_setSharedGuard_4 : decode b_X_setSharedGuard 4 = .ok (.iconst (-1), 1) := by decide +kernel
theorem d_X_setSharedGuard_5 : decode b_X_setSharedGuard 5 = .ok (.if_icmp .ne 7, 3) := by decide +kernel
theorem d_X_setSharedGuard_8 : decode b_X_setSharedGuard 8 = .ok (.iconst (-1), 1) := by decide +kernel
theorem d_X_setSharedGuard_9 : decode b_X_setSharedGuard 9 = .ok (.goto 15, 3) := by decide +kernel
theorem d_X_setSharedGuard_12 : decode b_X_setSharedGuard 12 = .ok (.aload_n 0, 1) := by decide +kernel
theorem d_X_setSharedGuard_13 : decode b_X_setSharedGuard 13 = .ok (.getfield 22, 3) := by decide +kernel
theorem d_X_setSharedGuard_16 : decode b_X_setSharedGuard 16 = .ok (.aload_n 1, 1) := by decide +kernel
theorem d_X_setSharedGuard_17 : decode b_X_setSharedGuard 17 = .ok (.getfield 93, 3) := by decide +kernel
theorem d_X_setSharedGuard_20 : decode b_X_setSharedGuard 20 = .ok (.aaload, 1) := by decide +kernel
theorem d_X_setSharedGuard_21 : decode b_X_setSharedGuard 21 = .ok (.getfield 157, 3) := by decide +kernel
theorem d_X_setSharedGuard_24 : decode b_X_setSharedGuard 24 = .ok (.istore_n 2, 1) := by decide +kernel
theorem d_X_setSharedGuard_25 : decode b_X_setSharedGuard 25 = .ok (.aload_n 1, 1) := by decide +kernel
theorem d_X_setSharedGuard_26 : decode b_X_setSharedGuard 26 = .ok (.getfield 133, 3) := by decide +kernel
theorem d_X_setSharedGuard_29 : decode b_X_setSharedGuard 29 = .ok (.bipush 9, 2) := by decide +kernel
theorem d_X_setSharedGuard_31 : decode b_X_setSharedGuard 31 = .ok (.aaload, 1) := by decide +kernel
theorem d_X_setSharedGuard_32 : decode b_X_setSharedGuard 32 = .ok (.astore_n 3, 1) := by decide +kernel
theorem d_X_setSharedGuard_33 : decode b_X_setSharedGuard 33 = .ok (.iload_n 2, 1) := by decide +kernel
theorem d_X_setSharedGuard_34 : decode b_X_setSharedGuard 34 = .ok (.iconst (-1), 1) := by decide +kernel
theorem d_X_setSharedGuard_35 : decode b_X_setSharedGuard 35 = .ok (.if_icmp .ne 11, 3) := by decide +kernel
theorem d_X_setSharedGuard_38 : decode b_X_setSharedGuard 38 = .ok (.aload_n 3, 1) := by decide +kernel
theorem d_X_setSharedGuard_39 : decode b_X_setSharedGuard 39 = .ok (.iconst 0, 1) := by decide +kernel
theorem d_X_setSharedGuard_40 : decode b_X_setSharedGuard 40 = .ok (.invokevirtual 195, 3) := by decide +kernel
theorem d_X_setSharedGuard_43 : decode b_X_setSharedGuard 43 = .ok (.goto 35, 3) := by decide +kernel
theorem d_X_setSharedGuard_46 : decode b_X_setSharedGuard 46 = .ok (.iload_n 2, 1) := by decide +kernel
theorem d_X_setSharedGuard_47 : decode b_X_setSharedGuard 47 = .ok (.sipush 256, 3) := by decide +kernel
theorem d_X_setSharedGuard_50 : decode b_X_setSharedGuard 50 = .ok (.if_icmp .ge 13, 3) := by decide +kernel
theorem d_X_setSharedGuard_53 : decode b_X_setSharedGuard 53 = .ok (.aload_n 3, 1) := by decide +kernel
theorem d_X_setSharedGuard_54 : decode b_X_setSharedGuard 54 = .ok (.iconst 2, 1) := by decide +kernel
theorem d_X_setSharedGuard_55 : decode b_X_setSharedGuard 55 = .ok (.iconst 3, 1) := by decide +kernel
theorem d_X_setSharedGuard_56 : decode b_X_setSharedGuard 56 = .ok (.iload_n 2, 1) := by decide +kernel
theorem d_X_setSharedGuard_57 : decode b_X_setSharedGuard 57 = .ok (.invokevirtual 202, 3) := by decide +kernel
theorem d_X_setSharedGuard_60 : decode b_X_setSharedGuard 60 = .ok (.goto 18, 3) := by decide +kernel
theorem d_X_setSharedGuard_63 : decode b_X_setSharedGuard 63 = .ok (.aload_n 3, 1) := by decide +kernel
theorem d_X_setSharedGuard_64 : decode b_X_setSharedGuard 64 = .ok (.iload_n 2, 1) := by decide +kernel
theorem d_X_setSharedGuard_65 : decode b_X_setSharedGuard 65 = .ok (.sipush 256, 3) := by decide +kernel
theorem d_X_setSharedGuard_68 : decode b_X_setSharedGuard 68 = .ok (.isub, 1) := by decide +kernel
theorem d_X_setSharedGuard_69 : decode b_X_setSharedGuard 69 = .ok (.bipush 16, 2) := by decide +kernel
theorem d_X_setSharedGuard_71 : decode b_X_setSharedGuard 71 = .ok (.imul, 1) := by decide +kernel
theorem d_X_setSharedGuard_72 : decode b_X_setSharedGuard 72 = .ok (.bipush 16, 2) := by decide +kernel
theorem d_X_setSharedGuard_74 : decode b_X_setSharedGuard 74 = .ok (.iconst 3, 1) := by decide +kernel
theorem d_X_setSharedGuard_75 : decode b_X_setSharedGuard 75 = .ok (.invokevirtual 184, 3) := by decide +kernel
theorem d_X_setSharedGuard_78 : decode b_X_setSharedGuard 78 = .ok (.return_, 1) := by decide +kernel
theorem d_X_runSystem_0 : decode b_X_runSystem 0 = .ok (.aload_n 1, 1) := by decide +kernel
theorem d_X_runSystem_1 : decode b_X_runSystem 1 = .ok (.iconst (-1), 1) := by decide +kernel
theorem d_X_runSystem_2 : decode b_X_runSystem 2 = .ok (.putfield 93, 3) := by decide +kernel
theorem d_X_runSystem_5 : decode b_X_runSystem 5 = .ok (.aload_n 0, 1) := by decide +kernel
theorem d_X_runSystem_6 : decode b_X_runSystem 6 = .ok (.aload_n 1, 1) := by decide +kernel
theorem d_X_runSystem_7 : decode b_X_runSystem 7 = .ok (.invokevirtual 96, 3) := by decide +kernel
theorem d_X_runSystem_10 : decode b_X_runSystem 10 = .ok (.return_, 1) := by decide +kernel
theorem d_X_makeStep_0 : decode b_X_makeStep 0 = .ok (.aload_n 2, 1) := by decide +kernel
theorem d_X_makeStep_1 : decode b_X_makeStep 1 = .ok (.getfield 205, 3) := by decide +kernel
theorem d_X_makeStep_4 : decode b_X_makeStep 4 = .ok (.istore_n 3, 1) := by decide +kernel
theorem d_X_makeStep_5 : decode b_X_makeStep 5 = .ok (.aload_n 0, 1) := by decide +kernel
theorem d_X_makeStep_6 : decode b_X_makeStep 6 = .ok (.aload_n 1, 1) := by decide +kernel
theorem d_X_makeStep_7 : decode b_X_makeStep 7 = .ok (.iload_n 3, 1) := by decide +kernel
theorem d_X_makeStep_8 : decode b_X_makeStep 8 = .ok (.iconst 4, 1) := by decide +kernel
theorem d_X_makeStep_9 : decode b_X_makeStep 9 = .ok (.invokevirtual 43, 3) := by decide +kernel
theorem d_X_makeStep_12 : decode b_X_makeStep 12 = .ok (.ifCond .ne 10, 3) := by decide +kernel
theorem d_X_makeStep_15 : decode b_X_makeStep 15 = .ok (.aload_n 2, 1) := by decide +kernel
theorem d_X_makeStep_16 : decode b_X_makeStep 16 = .ok (.iconst 5, 1) := by decide +kernel
theorem d_X_makeStep_17 : decode b_X_makeStep 17 = .ok (.iconst 1, 1) := by decide +kernel
theorem d_X_makeStep_18 : decode b_X_makeStep 18 = .ok (.invokevirtual 208, 3) := by decide +kernel
theorem d_X_makeStep_21 : decode b_X_makeStep 21 = .ok (.return_, 1) := by decide +kernel
theorem d_X_makeStep_22 : decode b_X_makeStep 22 = .ok (.aload_n 0, 1) := by decide +kernel
theorem d_X_makeStep_23 : decode b_X_makeStep 23 = .ok (.aload_n 1, 1) := by decide +kernel
theorem d_X_makeStep_24 : decode b_X_makeStep 24 = .ok (.aload_n 2, 1) := by decide +kernel
theorem d_X_makeStep_25 : decode b_X_makeStep 25 = .ok (.aload_n 0, 1) := by decide +kernel
theorem d_X_makeStep_26 : decode b_X_makeStep 26 = .ok (.getfield 13, 3) := by decide +kernel
theorem d_X_makeStep_29 : decode b_X_makeStep 29 = .ok (.iload_n 3, 1) := by decide +kernel
theorem d_X_makeStep_30 : decode b_X_makeStep 30 = .ok (.iaload, 1) := by decide +kernel
theorem d_X_makeStep_31 : decode b_X_makeStep 31 = .ok (.invokevirtual 212, 3) := by decide +kernel
theorem d_X_makeStep_34 : decode b_X_makeStep 34 = .ok (.istore 4, 2) := by decide +kernel
theorem d_X_makeStep_36 : decode b_X_makeStep 36 = .ok (.aload_n 2, 1) := by decide +kernel
theorem d_X_makeStep_37 : decode b_X_makeStep 37 = .ok (.getfield 86, 3) := by decide +kernel
theorem d_X_makeStep_40 : decode b_X_makeStep 40 = .ok (.iconst 5, 1) := by decide +kernel
theorem d_X_makeStep_41 : decode b_X_makeStep 41 = .ok (.if_icmp .eq 9, 3) := by decide +kernel
theorem d_X_makeStep_44 : decode b_X_makeStep 44 = .ok (.aload_n 2, 1) := by decide +kernel
theorem d_X_makeStep_45 : decode b_X_makeStep 45 = .ok (.iload 4, 2) := by decide +kernel
theorem d_X_makeStep_47 : decode b_X_makeStep 47 = .ok (.putfield 205, 3) := by decide +kernel
theorem d_X_makeStep_50 : decode b_X_makeStep 50 = .ok (.return_, 1) := by decide +kernel
theorem d_X_doWord_0 : decode b_X_doWord 0 = .ok (.aload_n 2, 1) := by decide +kernel
theorem d_X_doWord_1 : decode b_X_doWord 1 = .ok (.getfield 216, 3) := by decide +kernel
theorem d_X_doWord_4 : decode b_X_doWord 4 = .ok (.astore 4, 2) := by decide +kernel
theorem d_X_doWord_6 : decode b_X_doWord 6 = .ok (.iload_n 3, 1) := by decide +kernel
theorem d_X_doWord_7 : decode b_X_doWord 7 = .ok (.iconst 4, 1) := by decide +kernel
theorem d_X_doWord_8 : decode b_X_doWord 8 = .ok (.ishr, 1) := by decide +kernel
theorem d_X_doWord_9 : decode b_X_doWord 9 = .ok (.bipush 7, 2) := by decide +kernel
theorem d_X_doWord_11 : decode b_X_doWord 11 = .ok (.iand, 1) := by decide +kernel
theorem d_X_doWord_12 : decode b_X_doWord 12 = .ok (.istore 5, 2) := by decide +kernel
theorem d_X_doWord_14 : decode b_X_doWord 14 = .ok (.iload_n 3, 1) := by decide +kernel
theorem d_X_doWord_15 : decode b_X_doWord 15 = .ok (.bipush 8, 2) := by decide +kernel
theorem d_X_doWord_17 : decode b_X_doWord 17 = .ok (.ishr, 1) := by decide +kernel
theorem d_X_doWord_18 : decode b_X_doWord 18 = .ok (.bipush 7, 2) := by decide +kernel
theorem d_X_doWord_20 : decode b_X_doWord 20 = .ok (.iand, 1) := by decide +kernel
theorem d_X_doWord_21 : decode b_X_doWord 21 = .ok (.istore 6, 2) := by decide +kernel
theorem d_X_doWord_23 : decode b_X_doWord 23 = .ok (.iload_n 3, 1) := by decide +kernel
theorem d_X_doWord_24 : decode b_X_doWord 24 = .ok (.bipush 16, 2) := by decide +kernel
theorem d_X_doWord_26 : decode b_X_doWord 26 = .ok (.ishr, 1) := by decide +kernel
theorem d_X_doWord_27 : decode b_X_doWord 27 = .ok (.istore 7, 2) := by decide +kernel
theorem d_X_doWord_29 : decode b_X_doWord 29 = .ok (.aload_n 2, 1) := by decide +kernel
theorem d_X_doWord_30 : decode b_X_doWord 30 = .ok (.getfield 205, 3) := by decide +kernel
theorem d_X_doWord_33 : decode b_X_doWord 33 = .ok (.iconst 1, 1) := by decide +kernel
theorem d_X_doWord_34 : decode b_X_doWord 34 = .ok (.iadd, 1) := by decide +kernel
theorem d_X_doWord_35 : decode b_X_doWord 35 = .ok (.istore 8, 2) := by decide +kernel
theorem d_X_doWord_37 : decode b_X_doWord 37 = .ok (.iload_n 3, 1) := by decide +kernel
theorem d_X_doWord_38 : decode b_X_doWord 38 = .ok (.bipush 15, 2) := by decide +kernel
theorem d_X_doWord_40 : decode b_X_doWord 40 = .ok (.iand, 1) := by decide +kernel
theorem d_X_doWord_41 : decode b_X_doWord 41 = .ok (.tableswitch 248 0 10 #[59, 72, 88, 107, 126, 145, 164, 183, 203, 224, 240], 59) := by decide +kernel
theorem d_X_doWord_100 : decode b_X_doWord 100 = .ok (.aload_n 2, 1) := by decide +kernel
theorem d_X_doWord_101 : decode b_X_doWord 101 = .ok (.iconst 4, 1) := by decide +kernel
theorem d_X_doWord_102 : decode b_X_doWord 102 = .ok (.aload 4, 2) := by decide +kernel
theorem d_X_doWord_104 : decode b_X_doWord 104 = .ok (.iload 5, 2) := by decide +kernel
theorem d_X_doWord_106 : decode b_X_doWord 106 = .ok (.iaload, 1) := by decide +kernel
theorem d_X_doWord_107 : decode b_X_doWord 107 = .ok (.invokevirtual 208, 3) := by decide +kernel
theorem d_X_doWord_110 : decode b_X_doWord 110 = .ok (.iload 8, 2) := by decide +kernel
theorem d_X_doWord_112 : decode b_X_doWord 112 = .ok (.ireturn, 1) := by decide +kernel
theorem d_X_doWord_113 : decode b_X_doWord 113 = .ok (.aload 4, 2) := by decide +kernel
theorem d_X_doWord_115 : decode b_X_doWord 115 = .ok (.iload 5, 2) := by decide +kernel
theorem d_X_doWord_117 : decode b_X_doWord 117 = .ok (.aload 4, 2) := by decide +kernel
theorem d_X_doWord_119 : decode b_X_doWord 119 = .ok (.iload 6, 2) := by decide +kernel
theorem d_X_doWord_121 : decode b_X_doWord 121 = .ok (.iaload, 1) := by decide +kernel
theorem d_X_doWord_122 : decode b_X_doWord 122 = .ok (.iload 7, 2) := by decide +kernel
theorem d_X_doWord_124 : decode b_X_doWord 124 = .ok (.iadd, 1) := by decide +kernel
theorem d_X_doWord_125 : decode b_X_doWord 125 = .ok (.iastore, 1) := by decide +kernel
theorem d_X_doWord_126 : decode b_X_doWord 126 = .ok (.iload 8, 2) := by decide +kernel
theorem d_X_doWord_128 : decode b_X_doWord 128 = .ok (.ireturn, 1) := by decide +kernel
theorem d_X_doWord_129 : decode b_X_doWord 129 = .ok (.aload 4, 2) := by decide +kernel
theorem d_X_doWord_131 : decode b_X_doWord 131 = .ok (.iload 5, 2) := by decide +kernel
theorem d_X_doWord_133 : decode b_X_doWord 133 = .ok (.aload 4, 2) := by decide +kernel
theorem d_X_doWord_135 : decode b_X_doWord 135 = .ok (.iload 5, 2) := by decide +kernel
theorem d_X_doWord_137 : decode b_X_doWord 137 = .ok (.iaload, 1) := by decide +kernel
theorem d_X_doWord_138 : decode b_X_doWord 138 = .ok (.aload 4, 2) := by decide +kernel
theorem d_X_doWord_140 : decode b_X_doWord 140 = .ok (.iload 6, 2) := by decide +kernel
theorem d_X_doWord_142 : decode b_X_doWord 142 = .ok (.iaload, 1) := by decide +kernel
theorem d_X_doWord_143 : decode b_X_doWord 143 = .ok (.iadd, 1) := by decide +kernel
theorem d_X_doWord_144 : decode b_X_doWord 144 = .ok (.iastore, 1) := by decide +kernel
theorem d_X_doWord_145 : decode b_X_doWord 145 = .ok (.iload 8, 2) := by decide +kernel
theorem d_X_doWord_147 : decode b_X_doWord 147 = .ok (.ireturn, 1) := by decide +kernel
theorem d_X_doWord_148 : decode b_X_doWord 148 = .ok (.aload 4, 2) := by decide +kernel
theorem d_X_doWord_150 : decode b_X_doWord 150 = .ok (.iload 5, 2) := by decide +kernel
theorem d_X_doWord_152 : decode b_X_doWord 152 = .ok (.aload 4, 2) := by decide +kernel
theorem d_X_doWord_154 : decode b_X_doWord 154 = .ok (.iload 5, 2) := by decide +kernel
theorem d_X_doWord_156 : decode b_X_doWord 156 = .ok (.iaload, 1) := by decide +kernel
theorem d_X_doWord_157 : decode b_X_doWord 157 = .ok (.aload 4, 2) := by decide +kernel
theorem d_X_doWord_159 : decode b_X_doWord 159 = .ok (.iload 6, 2) := by decide +kernel
theorem d_X_doWord_161 : decode b_X_doWord 161 = .ok (.iaload, 1) := by decide +kernel
theorem d_X_doWord_162 : decode b_X_doWord 162 = .ok (.ixor, 1) := by decide +kernel
theorem d_X_doWord_163 : decode b_X_doWord 163 = .ok (.iastore, 1) := by decide +kernel
theorem d_X_doWord_164 : decode b_X_doWord 164 = .ok (.iload 8, 2) := by decide +kernel
theorem d_X_doWord_166 : decode b_X_doWord 166 = .ok (.ireturn, 1) := by decide +kernel
theorem d_X_doWord_167 : decode b_X_doWord 167 = .ok (.aload_n 0, 1) := by decide +kernel
theorem d_X_doWord_168 : decode b_X_doWord 168 = .ok (.aload_n 1, 1) := by decide +kernel
theorem d_X_doWord_169 : decode b_X_doWord 169 = .ok (.aload_n 2, 1) := by decide +kernel
theorem d_X_doWord_170 : decode b_X_doWord 170 = .ok (.iload 5, 2) := by decide +kernel
theorem d_X_doWord_172 : decode b_X_doWord 172 = .ok (.aload 4, 2) := by decide +kernel
theorem d_X_doWord_174 : decode b_X_doWord 174 = .ok (.iload 6, 2) := by decide +kernel
theorem d_X_doWord_176 : decode b_X_doWord 176 = .ok (.iaload, 1) := by decide +kernel
theorem d_X_doWord_177 : decode b_X_doWord 177 = .ok (.iload 7, 2) := by decide +kernel
theorem d_X_doWord_179 : decode b_X_doWord 179 = .ok (.iadd, 1) := by decide +kernel
theorem d_X_doWord_180 : decode b_X_doWord 180 = .ok (.invokevirtual 217, 3) := by decide +kernel
theorem d_X_doWord_183 : decode b_X_doWord 183 = .ok (.iload 8, 2) := by decide +kernel
theorem d_X_doWord_185 : decode b_X_doWord 185 = .ok (.ireturn, 1) := by decide +kernel
theorem d_X_doWord_186 : decode b_X_doWord 186 = .ok (.aload_n 0, 1) := by decide +kernel
theorem d_X_doWord_187 : decode b_X_doWord 187 = .ok (.aload_n 1, 1) := by decide +kernel
theorem d_X_doWord_188 : decode b_X_doWord 188 = .ok (.aload_n 2, 1) := by decide +kernel
theorem d_X_doWord_189 : decode b_X_doWord 189 = .ok (.iload 5, 2) := by decide +kernel
theorem d_X_doWord_191 : decode b_X_doWord 191 = .ok (.aload 4, 2) := by decide +kernel
theorem d_X_doWord_193 : decode b_X_doWord 193 = .ok (.iload 6, 2) := by decide +kernel
theorem d_X_doWord_195 : decode b_X_doWord 195 = .ok (.iaload, 1) := by decide +kernel
theorem d_X_doWord_196 : decode b_X_doWord 196 = .ok (.iload 7, 2) := by decide +kernel
theorem d_X_doWord_198 : decode b_X_doWord 198 = .ok (.iadd, 1) := by decide +kernel
theorem d_X_doWord_199 : decode b_X_doWord 199 = .ok (.invokevirtual 221, 3) := by decide +kernel
theorem d_X_doWord_202 : decode b_X_doWord 202 = .ok (.iload 8, 2) := by decide +kernel
theorem d_X_doWord_204 : decode b_X_doWord 204 = .ok (.ireturn, 1) := by decide +kernel
theorem d_X_doWord_205 : decode b_X_doWord 205 = .ok (.aload 4, 2) := by decide +kernel
theorem d_X_doWord_207 : decode b_X_doWord 207 = .ok (.iload 5, 2) := by decide +kernel
theorem d_X_doWord_209 : decode b_X_doWord 209 = .ok (.iaload, 1) := by decide +kernel
theorem d_X_doWord_210 : decode b_X_doWord 210 = .ok (.ifCond .ne 11, 3) := by decide +kernel
theorem d_X_doWord_213 : decode b_X_doWord 213 = .ok (.iload 8, 2) := by decide +kernel
theorem d_X_doWord_215 : decode b_X_doWord 215 = .ok (.iload 7, 2) := by decide +kernel
theorem d_X_doWord_217 : decode b_X_doWord 217 = .ok (.iadd, 1) := by decide +kernel
theorem d_X_doWord_218 : decode b_X_doWord 218 = .ok (.goto 5, 3) := by decide +kernel
theorem d_X_doWord_221 : decode b_X_doWord 221 = .ok (.iload 8, 2) := by decide +kernel
theorem d_X_doWord_223 : decode b_X_doWord 223 = .ok (.ireturn, 1) := by decide +kernel
theorem d_X_doWord_224 : decode b_X_doWord 224 = .ok (.aload 4, 2) := by decide +kernel
theorem d_X_doWord_226 : decode b_X_doWord 226 = .ok (.iload 6, 2) := by decide +kernel
theorem d_X_doWord_228 : decode b_X_doWord 228 = .ok (.iaload, 1) := by decide +kernel
theorem d_X_doWord_229 : decode b_X_doWord 229 = .ok (.iload 7, 2) := by decide +kernel
theorem d_X_doWord_231 : decode b_X_doWord 231 = .ok (.iadd, 1) := by decide +kernel
theorem d_X_doWord_232 : decode b_X_doWord 232 = .ok (.istore 9, 2) := by decide +kernel
theorem d_X_doWord_234 : decode b_X_doWord 234 = .ok (.aload 4, 2) := by decide +kernel
theorem d_X_doWord_236 : decode b_X_doWord 236 = .ok (.iload 5, 2) := by decide +kernel
theorem d_X_doWord_238 : decode b_X_doWord 238 = .ok (.iload 8, 2) := by decide +kernel
theorem d_X_doWord_240 : decode b_X_doWord 240 = .ok (.iastore, 1) := by decide +kernel
theorem d_X_doWord_241 : decode b_X_doWord 241 = .ok (.iload 9, 2) := by decide +kernel
theorem d_X_doWord_243 : decode b_X_doWord 243 = .ok (.ireturn, 1) := by decide +kernel
theorem d_X_doWord_244 : decode b_X_doWord 244 = .ok (.aload 4, 2) := by decide +kernel
theorem d_X_doWord_246 : decode b_X_doWord 246 = .ok (.iload 5, 2) := by decide +kernel
theorem d_X_doWord_248 : decode b_X_doWord 248 = .ok (.aload_n 0, 1) := by decide +kernel
theorem d_X_doWord_249 : decode b_X_doWord 249 = .ok (.aload_n 2, 1) := by decide +kernel
theorem d_X_doWord_250 : decode b_X_doWord 250 = .ok (.getfield 120, 3) := by decide +kernel
theorem d_X_doWord_253 : decode b_X_doWord 253 = .ok (.aload 4, 2) := by decide +kernel
theorem d_X_doWord_255 : decode b_X_doWord 255 = .ok (.iload 6, 2) := by decide +kernel
theorem d_X_doWord_257 : decode b_X_doWord 257 = .ok (.iaload, 1) := by decide +kernel
theorem d_X_doWord_258 : decode b_X_doWord 258 = .ok (.invokevirtual 123, 3) := by decide +kernel
theorem d_X_doWord_261 : decode b_X_doWord 261 = .ok (.iastore, 1) := by decide +kernel
theorem d_X_doWord_262 : decode b_X_doWord 262 = .ok (.iload 8, 2) := by decide +kernel
theorem d_X_doWord_264 : decode b_X_doWord 264 = .ok (.ireturn, 1) := by decide +kernel
theorem d_X_doWord_265 : decode b_X_doWord 265 = .ok (.aload 4, 2) := by decide +kernel
theorem d_X_doWord_267 : decode b_X_doWord 267 = .ok (.iload 5, 2) := by decide +kernel
theorem d_X_doWord_269 : decode b_X_doWord 269 = .ok (.aload_n 0, 1) := by decide +kernel
theorem d_X_doWord_270 : decode b_X_doWord 270 = .ok (.aload_n 2, 1) := by decide +kernel
theorem d_X_doWord_271 : decode b_X_doWord 271 = .ok (.getfield 120, 3) := by decide +kernel
theorem d_X_doWord_274 : decode b_X_doWord 274 = .ok (.invokevirtual 224, 3) := by decide +kernel
theorem d_X_doWord_277 : decode b_X_doWord 277 = .ok (.iastore, 1) := by decide +kernel
theorem d_X_doWord_278 : decode b_X_doWord 278 = .ok (.iload 8, 2) := by decide +kernel
theorem d_X_doWord_280 : decode b_X_doWord 280 = .ok (.ireturn, 1) := by decide +kernel
theorem d_X_doWord_281 : decode b_X_doWord 281 = .ok (.aload_n 2, 1) := by decide +kernel
theorem d_X_doWord_282 : decode b_X_doWord 282 = .ok (.iconst 3, 1) := by decide +kernel
theorem d_X_doWord_283 : decode b_X_doWord 283 = .ok (.putfield 86, 3) := by decide +kernel
theorem d_X_doWord_286 : decode b_X_doWord 286 = .ok (.iload 8, 2) := by decide +kernel
theorem d_X_doWord_288 : decode b_X_doWord 288 = .ok (.ireturn, 1) := by decide +kernel
theorem d_X_doWord_289 : decode b_X_doWord 289 = .ok (.aload_n 2, 1) := by decide +kernel
theorem d_X_doWord_290 : decode b_X_doWord 290 = .ok (.iconst 5, 1) := by decide +kernel
theorem d_X_doWord_291 : decode b_X_doWord 291 = .ok (.iconst 4, 1) := by decide +kernel
theorem d_X_doWord_292 : decode b_X_doWord 292 = .ok (.invokevirtual 208, 3) := by decide +kernel
theorem d_X_doWord_295 : decode b_X_doWord 295 = .ok (.iload 8, 2) := by decide +kernel
theorem d_X_doWord_297 : decode b_X_doWord 297 = .ok (.ireturn, 1) := by decide +kernel
theorem d_X_loadFor_0 : decode b_X_loadFor 0 = .ok (.aload_n 0, 1) := by decide +kernel
theorem d_X_loadFor_1 : decode b_X_loadFor 1 = .ok (.aload_n 1, 1) := by decide +kernel
theorem d_X_loadFor_2 : decode b_X_loadFor 2 = .ok (.iload 4, 2) := by decide +kernel
theorem d_X_loadFor_4 : decode b_X_loadFor 4 = .ok (.iconst 1, 1) := by decide +kernel
theorem d_X_loadFor_5 : decode b_X_loadFor 5 = .ok (.invokevirtual 43, 3) := by decide +kernel
theorem d_X_loadFor_8 : decode b_X_loadFor 8 = .ok (.ifCond .eq 19, 3) := by decide +kernel
theorem d_X_loadFor_11 : decode b_X_loadFor 11 = .ok (.aload_n 2, 1) := by decide +kernel
theorem d_X_loadFor_12 : decode b_X_loadFor 12 = .ok (.getfield 216, 3) := by decide +kernel
theorem d_X_loadFor_15 : decode b_X_loadFor 15 = .ok (.iload_n 3, 1) := by decide +kernel
theorem d_X_loadFor_16 : decode b_X_loadFor 16 = .ok (.aload_n 0, 1) := by decide +kernel
theorem d_X_loadFor_17 : decode b_X_loadFor 17 = .ok (.getfield 13, 3) := by decide +kernel
theorem d_X_loadFor_20 : decode b_X_loadFor 20 = .ok (.iload 4, 2) := by decide +kernel
theorem d_X_loadFor_22 : decode b_X_loadFor 22 = .ok (.iaload, 1) := by decide +kernel
theorem d_X_loadFor_23 : decode b_X_loadFor 23 = .ok (.iastore, 1) := by decide +kernel
theorem d_X_loadFor_24 : decode b_X_loadFor 24 = .ok (.goto 9, 3) := by decide +kernel
theorem d_X_loadFor_27 : decode b_X_loadFor 27 = .ok (.aload_n 2, 1) := by decide +kernel
theorem d_X_loadFor_28 : decode b_X_loadFor 28 = .ok (.iconst 5, 1) := by decide +kernel
theorem d_X_loadFor_29 : decode b_X_loadFor 29 = .ok (.iconst 2, 1) := by decide +kernel
theorem d_X_loadFor_30 : decode b_X_loadFor 30 = .ok (.invokevirtual 208, 3) := by decide +kernel
theorem d_X_loadFor_33 : decode b_X_loadFor 33 = .ok (.return_, 1) := by decide +kernel
theorem d_X_storeFor_0 : decode b_X_storeFor 0 = .ok (.aload_n 0, 1) := by decide +kernel
theorem d_X_storeFor_1 : decode b_X_storeFor 1 = .ok (.aload_n 1, 1) := by decide +kernel
theorem d_X_storeFor_2 : decode b_X_storeFor 2 = .ok (.iload 4, 2) := by decide +kernel
theorem d_X_storeFor_4 : decode b_X_storeFor 4 = .ok (.iconst 2, 1) := by decide +kernel
theorem d_X_storeFor_5 : decode b_X_storeFor 5 = .ok (.invokevirtual 43, 3) := by decide +kernel
theorem d_X_storeFor_8 : decode b_X_storeFor 8 = .ok (.ifCond .eq 19, 3) := by decide +kernel
theorem d_X_storeFor_11 : decode b_X_storeFor 11 = .ok (.aload_n 0, 1) := by decide +kernel
theorem d_X_storeFor_12 : decode b_X_storeFor 12 = .ok (.getfield 13, 3) := by decide +kernel
theorem d_X_storeFor_15 : decode b_X_storeFor 15 = .ok (.iload 4, 2) := by decide +kernel
theorem d_X_storeFor_17 : decode b_X_storeFor 17 = .ok (.aload_n 2, 1) := by decide +kernel
theorem d_X_storeFor_18 : decode b_X_storeFor 18 = .ok (.getfield 216, 3) := by decide +kernel
theorem d_X_storeFor_21 : decode b_X_storeFor 21 = .ok (.iload_n 3, 1) := by decide +kernel
theorem d_X_storeFor_22 : decode b_X_storeFor 22 = .ok (.iaload, 1) := by decide +kernel
theorem d_X_storeFor_23 : decode b_X_storeFor 23 = .ok (.iastore, 1) := by decide +kernel
theorem d_X_storeFor_24 : decode b_X_storeFor 24 = .ok (.goto 9, 3) := by decide +kernel
theorem d_X_storeFor_27 : decode b_X_storeFor 27 = .ok (.aload_n 2, 1) := by decide +kernel
theorem d_X_storeFor_28 : decode b_X_storeFor 28 = .ok (.iconst 5, 1) := by decide +kernel
theorem d_X_storeFor_29 : decode b_X_storeFor 29 = .ok (.iconst 3, 1) := by decide +kernel
theorem d_X_storeFor_30 : decode b_X_storeFor 30 = .ok (.invokevirtual 208, 3) := by decide +kernel
theorem d_X_storeFor_33 : decode b_X_storeFor 33 = .ok (.return_, 1) := by decide +kernel
theorem d_E_init_0 : decode b_E_init 0 = .ok (.aload_n 0, 1) := by decide +kernel
theorem d_E_init_1 : decode b_E_init 1 = .ok (.invokespecial 3, 3) := by decide +kernel
theorem d_E_init_4 : decode b_E_init 4 = .ok (.aload_n 0, 1) := by decide +kernel
theorem d_E_init_5 : decode b_E_init 5 = .ok (.bipush 8, 2) := by decide +kernel
theorem d_E_init_7 : decode b_E_init 7 = .ok (.newarray .int, 2) := by decide +kernel
theorem d_E_init_9 : decode b_E_init 9 = .ok (.putfield 9, 3) := by decide +kernel
theorem d_E_init_12 : decode b_E_init 12 = .ok (.aload_n 0, 1) := by decide +kernel
theorem d_E_init_13 : decode b_E_init 13 = .ok (.iconst 0, 1) := by decide +kernel
theorem d_E_init_14 : decode b_E_init 14 = .ok (.putfield 15, 3) := by decide +kernel
theorem d_E_init_17 : decode b_E_init 17 = .ok (.aload_n 0, 1) := by decide +kernel
theorem d_E_init_18 : decode b_E_init 18 = .ok (.iconst (-1), 1) := by decide +kernel
theorem d_E_init_19 : decode b_E_init 19 = .ok (.putfield 19, 3) := by decide +kernel
theorem d_E_init_22 : decode b_E_init 22 = .ok (.return_, 1) := by decide +kernel
theorem d_E_firstWord_0 : decode b_E_firstWord 0 = .ok (.aload_n 0, 1) := by decide +kernel
theorem d_E_firstWord_1 : decode b_E_firstWord 1 = .ok (.getfield 22, 3) := by decide +kernel
theorem d_E_firstWord_4 : decode b_E_firstWord 4 = .ok (.bipush 16, 2) := by decide +kernel
theorem d_E_firstWord_6 : decode b_E_firstWord 6 = .ok (.imul, 1) := by decide +kernel
theorem d_E_firstWord_7 : decode b_E_firstWord 7 = .ok (.ireturn, 1) := by decide +kernel
theorem d_E_endWord_0 : decode b_E_endWord 0 = .ok (.aload_n 0, 1) := by decide +kernel
theorem d_E_endWord_1 : decode b_E_endWord 1 = .ok (.getfield 22, 3) := by decide +kernel
theorem d_E_endWord_4 : decode b_E_endWord 4 = .ok (.aload_n 0, 1) := by decide +kernel
theorem d_E_endWord_5 : decode b_E_endWord 5 = .ok (.getfield 25, 3) := by decide +kernel
theorem d_E_endWord_8 : decode b_E_endWord 8 = .ok (.iadd, 1) := by decide +kernel
theorem d_E_endWord_9 : decode b_E_endWord 9 = .ok (.bipush 16, 2) := by decide +kernel
theorem d_E_endWord_11 : decode b_E_endWord 11 = .ok (.imul, 1) := by decide +kernel
theorem d_E_endWord_12 : decode b_E_endWord 12 = .ok (.ireturn, 1) := by decide +kernel
theorem d_E_isBlock_0 : decode b_E_isBlock 0 = .ok (.aload_n 0, 1) := by decide +kernel
theorem d_E_isBlock_1 : decode b_E_isBlock 1 = .ok (.getfield 25, 3) := by decide +kernel
theorem d_E_isBlock_4 : decode b_E_isBlock 4 = .ok (.aload_n 0, 1) := by decide +kernel
theorem d_E_isBlock_5 : decode b_E_isBlock 5 = .ok (.getfield 25, 3) := by decide +kernel
theorem d_E_isBlock_8 : decode b_E_isBlock 8 = .ok (.iconst 1, 1) := by decide +kernel
theorem d_E_isBlock_9 : decode b_E_isBlock 9 = .ok (.isub, 1) := by decide +kernel
theorem d_E_isBlock_10 : decode b_E_isBlock 10 = .ok (.iand, 1) := by decide +kernel
theorem d_E_isBlock_11 : decode b_E_isBlock 11 = .ok (.ifCond .ne 7, 3) := by decide +kernel
theorem d_E_isBlock_14 : decode b_E_isBlock 14 = .ok (.iconst 1, 1) := by decide +kernel
theorem d_E_isBlock_15 : decode b_E_isBlock 15 = .ok (.goto 4, 3) := by decide +kernel
theorem d_E_isBlock_18 : decode b_E_isBlock 18 = .ok (.iconst 0, 1) := by decide +kernel
theorem d_E_isBlock_19 : decode b_E_isBlock 19 = .ok (.istore_n 1, 1) := by decide +kernel
theorem d_E_isBlock_20 : decode b_E_isBlock 20 = .ok (.iload_n 1, 1) := by decide +kernel
theorem d_E_isBlock_21 : decode b_E_isBlock 21 = .ok (.ifCond .eq 21, 3) := by decide +kernel
theorem d_E_isBlock_24 : decode b_E_isBlock 24 = .ok (.aload_n 0, 1) := by decide +kernel
theorem d_E_isBlock_25 : decode b_E_isBlock 25 = .ok (.getfield 22, 3) := by decide +kernel
theorem d_E_isBlock_28 : decode b_E_isBlock 28 = .ok (.aload_n 0, 1) := by decide +kernel
theorem d_E_isBlock_29 : decode b_E_isBlock 29 = .ok (.getfield 25, 3) := by decide +kernel
theorem d_E_isBlock_32 : decode b_E_isBlock 32 = .ok (.iconst 1, 1) := by decide +kernel
theorem d_E_isBlock_33 : decode b_E_isBlock 33 = .ok (.isub, 1) := by decide +kernel
theorem d_E_isBlock_34 : decode b_E_isBlock 34 = .ok (.iand, 1) := by decide +kernel
theorem d_E_isBlock_35 : decode b_E_isBlock 35 = .ok (.ifCond .ne 7, 3) := by decide +kernel
theorem d_E_isBlock_38 : decode b_E_isBlock 38 = .ok (.iconst 1, 1) := by decide +kernel
theorem d_E_isBlock_39 : decode b_E_isBlock 39 = .ok (.goto 4, 3) := by decide +kernel
theorem d_E_isBlock_42 : decode b_E_isBlock 42 = .ok (.iconst 0, 1) := by decide +kernel
theorem d_E_isBlock_43 : decode b_E_isBlock 43 = .ok (.ireturn, 1) := by decide +kernel
theorem d_E_startWith_0 : decode b_E_startWith 0 = .ok (.iconst 0, 1) := by decide +kernel
theorem d_E_startWith_1 : decode b_E_startWith 1 = .ok (.istore_n 2, 1) := by decide +kernel
theorem d_E_startWith_2 : decode b_E_startWith 2 = .ok (.iload_n 2, 1) := by decide +kernel
theorem d_E_startWith_3 : decode b_E_startWith 3 = .ok (.bipush 8, 2) := by decide +kernel
theorem d_E_startWith_5 : decode b_E_startWith 5 = .ok (.if_icmp .ge 16, 3) := by decide +kernel
theorem d_E_startWith_8 : decode b_E_startWith 8 = .ok (.aload_n 0, 1) := by decide +kernel
theorem d_E_startWith_9 : decode b_E_startWith 9 = .ok (.getfield 9, 3) := by decide +kernel
theorem d_E_startWith_12 : decode b_E_startWith 12 = .ok (.iload_n 2, 1) := by decide +kernel
theorem d_E_startWith_13 : decode b_E_startWith 13 = .ok (.iconst 0, 1) := by decide +kernel
theorem d_E_startWith_14 : decode b_E_startWith 14 = .ok (.iastore, 1) := by decide +kernel
theorem d_E_startWith_15 : decode b_E_startWith 15 = .ok (.iinc 2 1, 3) := by decide +kernel
theorem d_E_startWith_18 : decode b_E_startWith 18 = .ok (.goto (-16), 3) := by decide +kernel
theorem d_E_startWith_21 : decode b_E_startWith 21 = .ok (.aload_n 0, 1) := by decide +kernel
theorem d_E_startWith_22 : decode b_E_startWith 22 = .ok (.getfield 9, 3) := by decide +kernel
theorem d_E_startWith_25 : decode b_E_startWith 25 = .ok (.iconst 1, 1) := by decide +kernel
theorem d_E_startWith_26 : decode b_E_startWith 26 = .ok (.iload_n 1, 1) := by decide +kernel
theorem d_E_startWith_27 : decode b_E_startWith 27 = .ok (.iastore, 1) := by decide +kernel
theorem d_E_startWith_28 : decode b_E_startWith 28 = .ok (.aload_n 0, 1) := by decide +kernel
theorem d_E_startWith_29 : decode b_E_startWith 29 = .ok (.aload_n 0, 1) := by decide +kernel
theorem d_E_startWith_30 : decode b_E_startWith 30 = .ok (.getfield 28, 3) := by decide +kernel
theorem d_E_startWith_33 : decode b_E_startWith 33 = .ok (.putfield 31, 3) := by decide +kernel
theorem d_E_startWith_36 : decode b_E_startWith 36 = .ok (.return_, 1) := by decide +kernel
theorem d_E_endWith_0 : decode b_E_endWith 0 = .ok (.aload_n 0, 1) := by decide +kernel
theorem d_E_endWith_1 : decode b_E_endWith 1 = .ok (.iload_n 1, 1) := by decide +kernel
theorem d_E_endWith_2 : decode b_E_endWith 2 = .ok (.putfield 15, 3) := by decide +kernel
theorem d_E_endWith_5 : decode b_E_endWith 5 = .ok (.aload_n 0, 1) := by decide +kernel
theorem d_E_endWith_6 : decode b_E_endWith 6 = .ok (.iload_n 2, 1) := by decide +kernel
theorem d_E_endWith_7 : decode b_E_endWith 7 = .ok (.putfield 34, 3) := by decide +kernel
theorem d_E_endWith_10 : decode b_E_endWith 10 = .ok (.return_, 1) := by decide +kernel
theorem d_G_init_0 : decode b_G_init 0 = .ok (.aload_n 0, 1) := by decide +kernel
theorem d_G_init_1 : decode b_G_init 1 = .ok (.invokespecial 3, 3) := by decide +kernel
theorem d_G_init_4 : decode b_G_init 4 = .ok (.aload_n 0, 1) := by decide +kernel
theorem d_G_init_5 : decode b_G_init 5 = .ok (.iconst 0, 1) := by decide +kernel
theorem d_G_init_6 : decode b_G_init 6 = .ok (.putfield 9, 3) := by decide +kernel
theorem d_G_init_9 : decode b_G_init 9 = .ok (.aload_n 0, 1) := by decide +kernel
theorem d_G_init_10 : decode b_G_init 10 = .ok (.iconst 0, 1) := by decide +kernel
theorem d_G_init_11 : decode b_G_init 11 = .ok (.putfield 15, 3) := by decide +kernel
theorem d_G_init_14 : decode b_G_init 14 = .ok (.aload_n 0, 1) := by decide +kernel
theorem d_G_init_15 : decode b_G_init 15 = .ok (.iconst 0, 1) := by decide +kernel
theorem d_G_init_16 : decode b_G_init 16 = .ok (.putfield 18, 3) := by decide +kernel
theorem d_G_init_19 : decode b_G_init 19 = .ok (.return_, 1) := by decide +kernel
theorem d_G_setTo_0 : decode b_G_setTo 0 = .ok (.aload_n 0, 1) := by decide +kernel
theorem d_G_setTo_1 : decode b_G_setTo 1 = .ok (.iload_n 1, 1) := by decide +kernel
theorem d_G_setTo_2 : decode b_G_setTo 2 = .ok (.putfield 9, 3) := by decide +kernel
theorem d_G_setTo_5 : decode b_G_setTo 5 = .ok (.aload_n 0, 1) := by decide +kernel
theorem d_G_setTo_6 : decode b_G_setTo 6 = .ok (.iload_n 2, 1) := by decide +kernel
theorem d_G_setTo_7 : decode b_G_setTo 7 = .ok (.putfield 15, 3) := by decide +kernel
theorem d_G_setTo_10 : decode b_G_setTo 10 = .ok (.aload_n 0, 1) := by decide +kernel
theorem d_G_setTo_11 : decode b_G_setTo 11 = .ok (.iload_n 3, 1) := by decide +kernel
theorem d_G_setTo_12 : decode b_G_setTo 12 = .ok (.putfield 18, 3) := by decide +kernel
theorem d_G_setTo_15 : decode b_G_setTo 15 = .ok (.return_, 1) := by decide +kernel
theorem d_G_setOff_0 : decode b_G_setOff 0 = .ok (.aload_n 0, 1) := by decide +kernel
theorem d_G_setOff_1 : decode b_G_setOff 1 = .ok (.iconst 0, 1) := by decide +kernel
theorem d_G_setOff_2 : decode b_G_setOff 2 = .ok (.iconst 0, 1) := by decide +kernel
theorem d_G_setOff_3 : decode b_G_setOff 3 = .ok (.iload_n 1, 1) := by decide +kernel
theorem d_G_setOff_4 : decode b_G_setOff 4 = .ok (.invokevirtual 21, 3) := by decide +kernel
theorem d_G_setOff_7 : decode b_G_setOff 7 = .ok (.return_, 1) := by decide +kernel
theorem d_G_setBlock_0 : decode b_G_setBlock 0 = .ok (.aload_n 0, 1) := by decide +kernel
theorem d_G_setBlock_1 : decode b_G_setBlock 1 = .ok (.iconst 3, 1) := by decide +kernel
theorem d_G_setBlock_2 : decode b_G_setBlock 2 = .ok (.iload_n 3, 1) := by decide +kernel
theorem d_G_setBlock_3 : decode b_G_setBlock 3 = .ok (.iload_n 1, 1) := by decide +kernel
theorem d_G_setBlock_4 : decode b_G_setBlock 4 = .ok (.iload_n 2, 1) := by decide +kernel
theorem d_G_setBlock_5 : decode b_G_setBlock 5 = .ok (.iconst 2, 1) := by decide +kernel
theorem d_G_setBlock_6 : decode b_G_setBlock 6 = .ok (.idiv, 1) := by decide +kernel
theorem d_G_setBlock_7 : decode b_G_setBlock 7 = .ok (.iadd, 1) := by decide +kernel
theorem d_G_setBlock_8 : decode b_G_setBlock 8 = .ok (.iconst 1, 1) := by decide +kernel
theorem d_G_setBlock_9 : decode b_G_setBlock 9 = .ok (.isub, 1) := by decide +kernel
theorem d_G_setBlock_10 : decode b_G_setBlock 10 = .ok (.invokevirtual 21, 3) := by decide +kernel
theorem d_G_setBlock_13 : decode b_G_setBlock 13 = .ok (.return_, 1) := by decide +kernel
theorem d_G_matches_0 : decode b_G_matches 0 = .ok (.aload_n 0, 1) := by decide +kernel
theorem d_G_matches_1 : decode b_G_matches 1 = .ok (.getfield 9, 3) := by decide +kernel
theorem d_G_matches_4 : decode b_G_matches 4 = .ok (.tableswitch 91 1 3 #[28, 47, 61], 28) := by decide +kernel
theorem d_G_matches_32 : decode b_G_matches 32 = .ok (.iload_n 2, 1) := by decide +kernel
theorem d_G_matches_33 : decode b_G_matches 33 = .ok (.iload_n 1, 1) := by decide +kernel
theorem d_G_matches_34 : decode b_G_matches 34 = .ok (.if_icmp .gt 15, 3) := by decide +kernel
theorem d_G_matches_37 : decode b_G_matches 37 = .ok (.iload_n 1, 1) := by decide +kernel
theorem d_G_matches_38 : decode b_G_matches 38 = .ok (.aload_n 0, 1) := by decide +kernel
theorem d_G_matches_39 : decode b_G_matches 39 = .ok (.getfield 18, 3) := by decide +kernel
theorem d_G_matches_42 : decode b_G_matches 42 = .ok (.if_icmp .ge 7, 3) := by decide +kernel
theorem d_G_matches_45 : decode b_G_matches 45 = .ok (.iconst 1, 1) := by decide +kernel
theorem d_G_matches_46 : decode b_G_matches 46 = .ok (.goto 4, 3) := by decide +kernel
theorem d_G_matches_49 : decode b_G_matches 49 = .ok (.iconst 0, 1) := by decide +kernel
theorem d_G_matches_50 : decode b_G_matches 50 = .ok (.ireturn, 1) := by decide +kernel
theorem d_G_matches_51 : decode b_G_matches 51 = .ok (.iload_n 1, 1) := by decide +kernel
theorem d_G_matches_52 : decode b_G_matches 52 = .ok (.aload_n 0, 1) := by decide +kernel
theorem d_G_matches_53 : decode b_G_matches 53 = .ok (.getfield 18, 3) := by decide +kernel
theorem d_G_matches_56 : decode b_G_matches 56 = .ok (.if_icmp .ne 7, 3) := by decide +kernel
theorem d_G_matches_59 : decode b_G_matches 59 = .ok (.iconst 1, 1) := by decide +kernel
theorem d_G_matches_60 : decode b_G_matches 60 = .ok (.goto 4, 3) := by decide +kernel
theorem d_G_matches_63 : decode b_G_matches 63 = .ok (.iconst 0, 1) := by decide +kernel
theorem d_G_matches_64 : decode b_G_matches 64 = .ok (.ireturn, 1) := by decide +kernel
theorem d_G_matches_65 : decode b_G_matches 65 = .ok (.aload_n 0, 1) := by decide +kernel
theorem d_G_matches_66 : decode b_G_matches 66 = .ok (.getfield 18, 3) := by decide +kernel
theorem d_G_matches_69 : decode b_G_matches 69 = .ok (.aload_n 0, 1) := by decide +kernel
theorem d_G_matches_70 : decode b_G_matches 70 = .ok (.getfield 18, 3) := by decide +kernel
theorem d_G_matches_73 : decode b_G_matches 73 = .ok (.iconst 1, 1) := by decide +kernel
theorem d_G_matches_74 : decode b_G_matches 74 = .ok (.iadd, 1) := by decide +kernel
theorem d_G_matches_75 : decode b_G_matches 75 = .ok (.ixor, 1) := by decide +kernel
theorem d_G_matches_76 : decode b_G_matches 76 = .ok (.istore_n 3, 1) := by decide +kernel
theorem d_G_matches_77 : decode b_G_matches 77 = .ok (.iload_n 1, 1) := by decide +kernel
theorem d_G_matches_78 : decode b_G_matches 78 = .ok (.iload_n 3, 1) := by decide +kernel
theorem d_G_matches_79 : decode b_G_matches 79 = .ok (.ior, 1) := by decide +kernel
theorem d_G_matches_80 : decode b_G_matches 80 = .ok (.aload_n 0, 1) := by decide +kernel
theorem d_G_matches_81 : decode b_G_matches 81 = .ok (.getfield 18, 3) := by decide +kernel
theorem d_G_matches_84 : decode b_G_matches 84 = .ok (.iload_n 3, 1) := by decide +kernel
theorem d_G_matches_85 : decode b_G_matches 85 = .ok (.ior, 1) := by decide +kernel
theorem d_G_matches_86 : decode b_G_matches 86 = .ok (.if_icmp .ne 7, 3) := by decide +kernel
theorem d_G_matches_89 : decode b_G_matches 89 = .ok (.iconst 1, 1) := by decide +kernel
theorem d_G_matches_90 : decode b_G_matches 90 = .ok (.goto 4, 3) := by decide +kernel
theorem d_G_matches_93 : decode b_G_matches 93 = .ok (.iconst 0, 1) := by decide +kernel
theorem d_G_matches_94 : decode b_G_matches 94 = .ok (.ireturn, 1) := by decide +kernel
theorem d_G_matches_95 : decode b_G_matches 95 = .ok (.iconst 0, 1) := by decide +kernel
theorem d_G_matches_96 : decode b_G_matches 96 = .ok (.ireturn, 1) := by decide +kernel
theorem d_P_init_0 : decode b_P_init 0 = .ok (.aload_n 0, 1) := by decide +kernel
theorem d_P_init_1 : decode b_P_init 1 = .ok (.invokespecial 3, 3) := by decide +kernel
theorem d_P_init_4 : decode b_P_init 4 = .ok (.aload_n 0, 1) := by decide +kernel
theorem d_P_init_5 : decode b_P_init 5 = .ok (.bipush 8, 2) := by decide +kernel
theorem d_P_init_7 : decode b_P_init 7 = .ok (.newarray .int, 2) := by decide +kernel
theorem d_P_init_9 : decode b_P_init 9 = .ok (.putfield 9, 3) := by decide +kernel
theorem d_P_init_12 : decode b_P_init 12 = .ok (.aload_n 0, 1) := by decide +kernel
theorem d_P_init_13 : decode b_P_init 13 = .ok (.bipush 11, 2) := by decide +kernel
theorem d_P_init_15 : decode b_P_init 15 = .ok (.anewarray 15, 3) := by decide +kernel
theorem d_P_init_18 : decode b_P_init 18 = .ok (.putfield 17, 3) := by decide +kernel
theorem d_P_init_21 : decode b_P_init 21 = .ok (.iconst 0, 1) := by decide +kernel
theorem d_P_init_22 : decode b_P_init 22 = .ok (.istore_n 1, 1) := by decide +kernel
theorem d_P_init_23 : decode b_P_init 23 = .ok (.iload_n 1, 1) := by decide +kernel
theorem d_P_init_24 : decode b_P_init 24 = .ok (.bipush 11, 2) := by decide +kernel
theorem d_P_init_26 : decode b_P_init 26 = .ok (.if_icmp .ge 22, 3) := by decide +kernel
theorem d_P_init_29 : decode b_P_init 29 = .ok (.aload_n 0, 1) := by decide +kernel
theorem d_P_init_30 : decode b_P_init 30 = .ok (.getfield 17, 3) := by decide +kernel
theorem d_P_init_33 : decode b_P_init 33 = .ok (.iload_n 1, 1) := by decide +kernel
theorem d_P_init_34 : decode b_P_init 34 = .ok (.new 15, 3) := by decide +kernel
theorem d_P_init_37 : decode b_P_init 37 = .ok (.dup, 1) := by decide +kernel
theorem d_P_init_38 : decode b_P_init 38 = .ok (.invokespecial 21, 3) := by decide +kernel
theorem d_P_init_41 : decode b_P_init 41 = .ok (.aastore, 1) := by decide +kernel
theorem d_P_init_42 : decode b_P_init 42 = .ok (.iinc 1 1, 3) := by decide +kernel
theorem d_P_init_45 : decode b_P_init 45 = .ok (.goto (-22), 3) := by decide +kernel
theorem d_P_init_48 : decode b_P_init 48 = .ok (.aload_n 0, 1) := by decide +kernel
theorem d_P_init_49 : decode b_P_init 49 = .ok (.iconst (-1), 1) := by decide +kernel
theorem d_P_init_50 : decode b_P_init 50 = .ok (.putfield 22, 3) := by decide +kernel
theorem d_P_init_53 : decode b_P_init 53 = .ok (.return_, 1) := by decide +kernel
