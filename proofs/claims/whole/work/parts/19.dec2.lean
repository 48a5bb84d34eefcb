theorem d_M_init_0 : decode b_M_init 0 = .ok (.aload_n 0, 1) := by decide +kernel
theorem d_M_init_1 : decode b_M_init 1 = .ok (.invokespecial 1, 3) := by decide +kernel
theorem d_M_init_4 : decode b_M_init 4 = .ok (.aload_n 0, 1) := by decide +kernel
theorem d_M_init_5 : decode b_M_init 5 = .ok (.sipush 256, 3) := by decide +kernel
theorem d_M_init_8 : decode b_M_init 8 = .ok (.newarray .int, 2) := by decide +kernel
theorem d_M_init_10 : decode b_M_init 10 = .ok (.putfield 7, 3) := by decide +kernel
theorem d_M_init_13 : decode b_M_init 13 = .ok (.aload_n 0, 1) := by decide +kernel
theorem d_M_init_14 : decode b_M_init 14 = .ok (.bipush 16, 2) := by decide +kernel
theorem d_M_init_16 : decode b_M_init 16 = .ok (.newarray .int, 2) := by decide +kernel
theorem d_M_init_18 : decode b_M_init 18 = .ok (.putfield 13, 3) := by decide +kernel
theorem d_M_init_21 : decode b_M_init 21 = .ok (.aload_n 0, 1) := by decide +kernel
theorem d_M_init_22 : decode b_M_init 22 = .ok (.bipush 16, 2) := by decide +kernel
theorem d_M_init_24 : decode b_M_init 24 = .ok (.newarray .int, 2) := by decide +kernel
theorem d_M_init_26 : decode b_M_init 26 = .ok (.putfield 16, 3) := by decide +kernel
theorem d_M_init_29 : decode b_M_init 29 = .ok (.aload_n 0, 1) := by decide +kernel
theorem d_M_init_30 : decode b_M_init 30 = .ok (.iconst 2, 1) := by decide +kernel
theorem d_M_init_31 : decode b_M_init 31 = .ok (.newarray .int, 2) := by decide +kernel
theorem d_M_init_33 : decode b_M_init 33 = .ok (.putfield 19, 3) := by decide +kernel
theorem d_M_init_36 : decode b_M_init 36 = .ok (.aload_n 0, 1) := by decide +kernel
theorem d_M_init_37 : decode b_M_init 37 = .ok (.iconst 4, 1) := by decide +kernel
theorem d_M_init_38 : decode b_M_init 38 = .ok (.newarray .int, 2) := by decide +kernel
theorem d_M_init_40 : decode b_M_init 40 = .ok (.putfield 22, 3) := by decide +kernel
theorem d_M_init_43 : decode b_M_init 43 = .ok (.aload_n 0, 1) := by decide +kernel
theorem d_M_init_44 : decode b_M_init 44 = .ok (.iconst 4, 1) := by decide +kernel
theorem d_M_init_45 : decode b_M_init 45 = .ok (.newarray .int, 2) := by decide +kernel
theorem d_M_init_47 : decode b_M_init 47 = .ok (.putfield 25, 3) := by decide +kernel
theorem d_M_init_50 : decode b_M_init 50 = .ok (.aload_n 0, 1) := by decide +kernel
theorem d_M_init_51 : decode b_M_init 51 = .ok (.iconst 4, 1) := by decide +kernel
theorem d_M_init_52 : decode b_M_init 52 = .ok (.newarray .int, 2) := by decide +kernel
theorem d_M_init_54 : decode b_M_init 54 = .ok (.putfield 28, 3) := by decide +kernel
theorem d_M_init_57 : decode b_M_init 57 = .ok (.aload_n 0, 1) := by decide +kernel
theorem d_M_init_58 : decode b_M_init 58 = .ok (.iconst 4, 1) := by decide +kernel
theorem d_M_init_59 : decode b_M_init 59 = .ok (.newarray .int, 2) := by decide +kernel
theorem d_M_init_61 : decode b_M_init 61 = .ok (.putfield 31, 3) := by decide +kernel
theorem d_M_init_64 : decode b_M_init 64 = .ok (.aload_n 0, 1) := by decide +kernel
theorem d_M_init_65 : decode b_M_init 65 = .ok (.iconst 4, 1) := by decide +kernel
theorem d_M_init_66 : decode b_M_init 66 = .ok (.newarray .int, 2) := by decide +kernel
theorem d_M_init_68 : decode b_M_init 68 = .ok (.putfield 34, 3) := by decide +kernel
theorem d_M_init_71 : decode b_M_init 71 = .ok (.aload_n 0, 1) := by decide +kernel
theorem d_M_init_72 : decode b_M_init 72 = .ok (.iconst 4, 1) := by decide +kernel
theorem d_M_init_73 : decode b_M_init 73 = .ok (.newarray .int, 2) := by decide +kernel
theorem d_M_init_75 : decode b_M_init 75 = .ok (.putfield 37, 3) := by decide +kernel
theorem d_M_init_78 : decode b_M_init 78 = .ok (.aload_n 0, 1) := by decide +kernel
theorem d_M_init_79 : decode b_M_init 79 = .ok (.iconst 4, 1) := by decide +kernel
theorem d_M_init_80 : decode b_M_init 80 = .ok (.newarray .int, 2) := by decide +kernel
theorem d_M_init_82 : decode b_M_init 82 = .ok (.putfield 40, 3) := by decide +kernel
theorem d_M_init_85 : decode b_M_init 85 = .ok (.aload_n 0, 1) := by decide +kernel
theorem d_M_init_86 : decode b_M_init 86 = .ok (.iconst 4, 1) := by decide +kernel
theorem d_M_init_87 : decode b_M_init 87 = .ok (.newarray .int, 2) := by decide +kernel
theorem d_M_init_89 : decode b_M_init 89 = .ok (.putfield 43, 3) := by decide +kernel
theorem d_M_init_92 : decode b_M_init 92 = .ok (.aload_n 0, 1) := by decide +kernel
theorem d_M_init_93 : decode b_M_init 93 = .ok (.bipush 32, 2) := by decide +kernel
theorem d_M_init_95 : decode b_M_init 95 = .ok (.newarray .int, 2) := by decide +kernel
theorem d_M_init_97 : decode b_M_init 97 = .ok (.putfield 46, 3) := by decide +kernel
theorem d_M_init_100 : decode b_M_init 100 = .ok (.aload_n 0, 1) := by decide +kernel
theorem d_M_init_101 : decode b_M_init 101 = .ok (.iload_n 1, 1) := by decide +kernel
theorem d_M_init_102 : decode b_M_init 102 = .ok (.putfield 49, 3) := by decide +kernel
theorem d_M_init_105 : decode b_M_init 105 = .ok (.iconst 0, 1) := by decide +kernel
theorem d_M_init_106 : decode b_M_init 106 = .ok (.istore_n 2, 1) := by decide +kernel
theorem d_M_init_107 : decode b_M_init 107 = .ok (.iload_n 2, 1) := by decide +kernel
theorem d_M_init_108 : decode b_M_init 108 = .ok (.bipush 16, 2) := by decide +kernel
theorem d_M_init_110 : decode b_M_init 110 = .ok (.if_icmp .ge 24, 3) := by decide +kernel
theorem d_M_init_113 : decode b_M_init 113 = .ok (.aload_n 0, 1) := by decide +kernel
theorem d_M_init_114 : decode b_M_init 114 = .ok (.getfield 13, 3) := by decide +kernel
theorem d_M_init_117 : decode b_M_init 117 = .ok (.iload_n 2, 1) := by decide +kernel
theorem d_M_init_118 : decode b_M_init 118 = .ok (.iload_n 2, 1) := by decide +kernel
theorem d_M_init_119 : decode b_M_init 119 = .ok (.ifCond .ne 7, 3) := by decide +kernel
theorem d_M_init_122 : decode b_M_init 122 = .ok (.iconst 0, 1) := by decide +kernel
theorem d_M_init_123 : decode b_M_init 123 = .ok (.goto 4, 3) := by decide +kernel
theorem d_M_init_126 : decode b_M_init 126 = .ok (.iconst 1, 1) := by decide +kernel
theorem d_M_init_127 : decode b_M_init 127 = .ok (.iastore, 1) := by decide +kernel
theorem d_M_init_128 : decode b_M_init 128 = .ok (.iinc 2 1, 3) := by decide +kernel
theorem d_M_init_131 : decode b_M_init 131 = .ok (.goto (-24), 3) := by decide +kernel
theorem d_M_init_134 : decode b_M_init 134 = .ok (.aload_n 0, 1) := by decide +kernel
theorem d_M_init_135 : decode b_M_init 135 = .ok (.getfield 19, 3) := by decide +kernel
theorem d_M_init_138 : decode b_M_init 138 = .ok (.iconst 0, 1) := by decide +kernel
theorem d_M_init_139 : decode b_M_init 139 = .ok (.iconst (-1), 1) := by decide +kernel
theorem d_M_init_140 : decode b_M_init 140 = .ok (.iastore, 1) := by decide +kernel
theorem d_M_init_141 : decode b_M_init 141 = .ok (.aload_n 0, 1) := by decide +kernel
theorem d_M_init_142 : decode b_M_init 142 = .ok (.getfield 19, 3) := by decide +kernel
theorem d_M_init_145 : decode b_M_init 145 = .ok (.iconst 1, 1) := by decide +kernel
theorem d_M_init_146 : decode b_M_init 146 = .ok (.iconst (-1), 1) := by decide +kernel
theorem d_M_init_147 : decode b_M_init 147 = .ok (.iastore, 1) := by decide +kernel
theorem d_M_init_148 : decode b_M_init 148 = .ok (.return_, 1) := by decide +kernel
theorem d_M_mix_0 : decode b_M_mix 0 = .ok (.bipush 31, 2) := by decide +kernel
theorem d_M_mix_2 : decode b_M_mix 2 = .ok (.iload_n 0, 1) := by decide +kernel
theorem d_M_mix_3 : decode b_M_mix 3 = .ok (.imul, 1) := by decide +kernel
theorem d_M_mix_4 : decode b_M_mix 4 = .ok (.iload_n 1, 1) := by decide +kernel
theorem d_M_mix_5 : decode b_M_mix 5 = .ok (.ixor, 1) := by decide +kernel
theorem d_M_mix_6 : decode b_M_mix 6 = .ok (.ldc 53, 2) := by decide +kernel
theorem d_M_mix_8 : decode b_M_mix 8 = .ok (.imul, 1) := by decide +kernel
theorem d_M_mix_9 : decode b_M_mix 9 = .ok (.istore_n 2, 1) := by decide +kernel
theorem d_M_mix_10 : decode b_M_mix 10 = .ok (.iload_n 2, 1) := by decide +kernel
theorem d_M_mix_11 : decode b_M_mix 11 = .ok (.iload_n 2, 1) := by decide +kernel
theorem d_M_mix_12 : decode b_M_mix 12 = .ok (.bipush 15, 2) := by decide +kernel
theorem d_M_mix_14 : decode b_M_mix 14 = .ok (.iushr, 1) := by decide +kernel
theorem d_M_mix_15 : decode b_M_mix 15 = .ok (.ixor, 1) := by decide +kernel
theorem d_M_mix_16 : decode b_M_mix 16 = .ok (.ireturn, 1) := by decide +kernel
theorem d_M_proof_0 : decode b_M_proof 0 = .ok (.aload_n 0, 1) := by decide +kernel
theorem d_M_proof_1 : decode b_M_proof 1 = .ok (.getfield 49, 3) := by decide +kernel
theorem d_M_proof_4 : decode b_M_proof 4 = .ok (.iconst 3, 1) := by decide +kernel
theorem d_M_proof_5 : decode b_M_proof 5 = .ok (.invokestatic 54, 3) := by decide +kernel
theorem d_M_proof_8 : decode b_M_proof 8 = .ok (.istore_n 3, 1) := by decide +kernel
theorem d_M_proof_9 : decode b_M_proof 9 = .ok (.iload_n 3, 1) := by decide +kernel
theorem d_M_proof_10 : decode b_M_proof 10 = .ok (.iload_n 1, 1) := by decide +kernel
theorem d_M_proof_11 : decode b_M_proof 11 = .ok (.invokestatic 54, 3) := by decide +kernel
theorem d_M_proof_14 : decode b_M_proof 14 = .ok (.iload_n 2, 1) := by decide +kernel
theorem d_M_proof_15 : decode b_M_proof 15 = .ok (.invokestatic 54, 3) := by decide +kernel
theorem d_M_proof_18 : decode b_M_proof 18 = .ok (.ireturn, 1) := by decide +kernel
theorem d_M_processor_0 : decode b_M_processor 0 = .ok (.iload_n 0, 1) := by decide +kernel
theorem d_M_processor_1 : decode b_M_processor 1 = .ok (.ifCond .eq 8, 3) := by decide +kernel
theorem d_M_processor_4 : decode b_M_processor 4 = .ok (.iload_n 0, 1) := by decide +kernel
theorem d_M_processor_5 : decode b_M_processor 5 = .ok (.iconst 1, 1) := by decide +kernel
theorem d_M_processor_6 : decode b_M_processor 6 = .ok (.if_icmp .ne 7, 3) := by decide +kernel
theorem d_M_processor_9 : decode b_M_processor 9 = .ok (.iconst 1, 1) := by decide +kernel
theorem d_M_processor_10 : decode b_M_processor 10 = .ok (.goto 4, 3) := by decide +kernel
theorem d_M_processor_13 : decode b_M_processor 13 = .ok (.iconst 0, 1) := by decide +kernel
theorem d_M_processor_14 : decode b_M_processor 14 = .ok (.ireturn, 1) := by decide +kernel
theorem d_M_busy_0 : decode b_M_busy 0 = .ok (.iload_n 1, 1) := by decide +kernel
theorem d_M_busy_1 : decode b_M_busy 1 = .ok (.invokestatic 58, 3) := by decide +kernel
theorem d_M_busy_4 : decode b_M_busy 4 = .ok (.ifCond .eq 12, 3) := by decide +kernel
theorem d_M_busy_7 : decode b_M_busy 7 = .ok (.aload_n 0, 1) := by decide +kernel
theorem d_M_busy_8 : decode b_M_busy 8 = .ok (.getfield 19, 3) := by decide +kernel
theorem d_M_busy_11 : decode b_M_busy 11 = .ok (.iload_n 1, 1) := by decide +kernel
theorem d_M_busy_12 : decode b_M_busy 12 = .ok (.iaload, 1) := by decide +kernel
theorem d_M_busy_13 : decode b_M_busy 13 = .ok (.ifCond .lt 7, 3) := by decide +kernel
theorem d_M_busy_16 : decode b_M_busy 16 = .ok (.iconst 1, 1) := by decide +kernel
theorem d_M_busy_17 : decode b_M_busy 17 = .ok (.goto 4, 3) := by decide +kernel
theorem d_M_busy_20 : decode b_M_busy 20 = .ok (.iconst 0, 1) := by decide +kernel
theorem d_M_busy_21 : decode b_M_busy 21 = .ok (.ireturn, 1) := by decide +kernel
theorem d_M_isShared_0 : decode b_M_isShared 0 = .ok (.aload_n 0, 1) := by decide +kernel
theorem d_M_isShared_1 : decode b_M_isShared 1 = .ok (.getfield 34, 3) := by decide +kernel
theorem d_M_isShared_4 : decode b_M_isShared 4 = .ok (.iload_n 1, 1) := by decide +kernel
theorem d_M_isShared_5 : decode b_M_isShared 5 = .ok (.iaload, 1) := by decide +kernel
theorem d_M_isShared_6 : decode b_M_isShared 6 = .ok (.istore_n 3, 1) := by decide +kernel
theorem d_M_isShared_7 : decode b_M_isShared 7 = .ok (.iload_n 3, 1) := by decide +kernel
theorem d_M_isShared_8 : decode b_M_isShared 8 = .ok (.ifCond .lt 34, 3) := by decide +kernel
theorem d_M_isShared_11 : decode b_M_isShared 11 = .ok (.iload_n 3, 1) := by decide +kernel
theorem d_M_isShared_12 : decode b_M_isShared 12 = .ok (.sipush 256, 3) := by decide +kernel
theorem d_M_isShared_15 : decode b_M_isShared 15 = .ok (.if_icmp .ge 11, 3) := by decide +kernel
theorem d_M_isShared_18 : decode b_M_isShared 18 = .ok (.iload_n 2, 1) := by decide +kernel
theorem d_M_isShared_19 : decode b_M_isShared 19 = .ok (.iload_n 3, 1) := by decide +kernel
theorem d_M_isShared_20 : decode b_M_isShared 20 = .ok (.if_icmp .ne 22, 3) := by decide +kernel
theorem d_M_isShared_23 : decode b_M_isShared 23 = .ok (.goto 15, 3) := by decide +kernel
theorem d_M_isShared_26 : decode b_M_isShared 26 = .ok (.iload_n 2, 1) := by decide +kernel
theorem d_M_isShared_27 : decode b_M_isShared 27 = .ok (.bipush 16, 2) := by decide +kernel
theorem d_M_isShared_29 : decode b_M_isShared 29 = .ok (.idiv, 1) := by decide +kernel
theorem d_M_isShared_30 : decode b_M_isShared 30 = .ok (.iload_n 3, 1) := by decide +kernel
theorem d_M_isShared_31 : decode b_M_isShared 31 = .ok (.sipush 256, 3) := by decide +kernel
theorem d_M_isShared_34 : decode b_M_isShared 34 = .ok (.isub, 1) := by decide +kernel
theorem d_M_isShared_35 : decode b_M_isShared 35 = .ok (.if_icmp .ne 7, 3) := by decide +kernel
theorem d_M_isShared_38 : decode b_M_isShared 38 = .ok (.iconst 1, 1) := by decide +kernel
theorem d_M_isShared_39 : decode b_M_isShared 39 = .ok (.goto 4, 3) := by decide +kernel
theorem d_M_isShared_42 : decode b_M_isShared 42 = .ok (.iconst 0, 1) := by decide +kernel
theorem d_M_isShared_43 : decode b_M_isShared 43 = .ok (.ireturn, 1) := by decide +kernel
theorem d_M_allowed_0 : decode b_M_allowed 0 = .ok (.iload_n 2, 1) := by decide +kernel
theorem d_M_allowed_1 : decode b_M_allowed 1 = .ok (.ifCond .lt 22, 3) := by decide +kernel
theorem d_M_allowed_4 : decode b_M_allowed 4 = .ok (.iload_n 2, 1) := by decide +kernel
theorem d_M_allowed_5 : decode b_M_allowed 5 = .ok (.sipush 255, 3) := by decide +kernel
theorem d_M_allowed_8 : decode b_M_allowed 8 = .ok (.if_icmp .gt 15, 3) := by decide +kernel
theorem d_M_allowed_11 : decode b_M_allowed 11 = .ok (.aload_n 0, 1) := by decide +kernel
theorem d_M_allowed_12 : decode b_M_allowed 12 = .ok (.getfield 13, 3) := by decide +kernel
theorem d_M_allowed_15 : decode b_M_allowed 15 = .ok (.iload_n 2, 1) := by decide +kernel
theorem d_M_allowed_16 : decode b_M_allowed 16 = .ok (.bipush 16, 2) := by decide +kernel
theorem d_M_allowed_18 : decode b_M_allowed 18 = .ok (.idiv, 1) := by decide +kernel
theorem d_M_allowed_19 : decode b_M_allowed 19 = .ok (.iaload, 1) := by decide +kernel
theorem d_M_allowed_20 : decode b_M_allowed 20 = .ok (.ifCond .ne 5, 3) := by decide +kernel
theorem d_M_allowed_23 : decode b_M_allowed 23 = .ok (.iconst 0, 1) := by decide +kernel
theorem d_M_allowed_24 : decode b_M_allowed 24 = .ok (.ireturn, 1) := by decide +kernel
theorem d_M_allowed_25 : decode b_M_allowed 25 = .ok (.aload_n 0, 1) := by decide +kernel
theorem d_M_allowed_26 : decode b_M_allowed 26 = .ok (.getfield 19, 3) := by decide +kernel
theorem d_M_allowed_29 : decode b_M_allowed 29 = .ok (.iload_n 1, 1) := by decide +kernel
theorem d_M_allowed_30 : decode b_M_allowed 30 = .ok (.iaload, 1) := by decide +kernel
theorem d_M_allowed_31 : decode b_M_allowed 31 = .ok (.istore 4, 2) := by decide +kernel
theorem d_M_allowed_33 : decode b_M_allowed 33 = .ok (.aload_n 0, 1) := by decide +kernel
theorem d_M_allowed_34 : decode b_M_allowed 34 = .ok (.getfield 13, 3) := by decide +kernel
theorem d_M_allowed_37 : decode b_M_allowed 37 = .ok (.iload_n 2, 1) := by decide +kernel
theorem d_M_allowed_38 : decode b_M_allowed 38 = .ok (.bipush 16, 2) := by decide +kernel
theorem d_M_allowed_40 : decode b_M_allowed 40 = .ok (.idiv, 1) := by decide +kernel
theorem d_M_allowed_41 : decode b_M_allowed 41 = .ok (.iaload, 1) := by decide +kernel
theorem d_M_allowed_42 : decode b_M_allowed 42 = .ok (.iconst 1, 1) := by decide +kernel
theorem d_M_allowed_43 : decode b_M_allowed 43 = .ok (.if_icmp .le 25, 3) := by decide +kernel
theorem d_M_allowed_46 : decode b_M_allowed 46 = .ok (.aload_n 0, 1) := by decide +kernel
theorem d_M_allowed_47 : decode b_M_allowed 47 = .ok (.getfield 13, 3) := by decide +kernel
theorem d_M_allowed_50 : decode b_M_allowed 50 = .ok (.iload_n 2, 1) := by decide +kernel
theorem d_M_allowed_51 : decode b_M_allowed 51 = .ok (.bipush 16, 2) := by decide +kernel
theorem d_M_allowed_53 : decode b_M_allowed 53 = .ok (.idiv, 1) := by decide +kernel
theorem d_M_allowed_54 : decode b_M_allowed 54 = .ok (.iaload, 1) := by decide +kernel
theorem d_M_allowed_55 : decode b_M_allowed 55 = .ok (.iconst 2, 1) := by decide +kernel
theorem d_M_allowed_56 : decode b_M_allowed 56 = .ok (.iload 4, 2) := by decide +kernel
theorem d_M_allowed_58 : decode b_M_allowed 58 = .ok (.iadd, 1) := by decide +kernel
theorem d_M_allowed_59 : decode b_M_allowed 59 = .ok (.if_icmp .ne 7, 3) := by decide +kernel
theorem d_M_allowed_62 : decode b_M_allowed 62 = .ok (.iconst 1, 1) := by decide +kernel
theorem d_M_allowed_63 : decode b_M_allowed 63 = .ok (.goto 4, 3) := by decide +kernel
theorem d_M_allowed_66 : decode b_M_allowed 66 = .ok (.iconst 0, 1) := by decide +kernel
theorem d_M_allowed_67 : decode b_M_allowed 67 = .ok (.ireturn, 1) := by decide +kernel
theorem d_M_allowed_68 : decode b_M_allowed 68 = .ok (.iload 4, 2) := by decide +kernel
theorem d_M_allowed_70 : decode b_M_allowed 70 = .ok (.ifCond .lt 18, 3) := by decide +kernel
theorem d_M_allowed_73 : decode b_M_allowed 73 = .ok (.aload_n 0, 1) := by decide +kernel
theorem d_M_allowed_74 : decode b_M_allowed 74 = .ok (.iload 4, 2) := by decide +kernel
theorem d_M_allowed_76 : decode b_M_allowed 76 = .ok (.iload_n 2, 1) := by decide +kernel
theorem d_M_allowed_77 : decode b_M_allowed 77 = .ok (.invokevirtual 62, 3) := by decide +kernel
theorem d_M_allowed_80 : decode b_M_allowed 80 = .ok (.ifCond .eq 12, 3) := by decide +kernel
theorem d_M_allowed_83 : decode b_M_allowed 83 = .ok (.iload_n 3, 1) := by decide +kernel
theorem d_M_allowed_84 : decode b_M_allowed 84 = .ok (.iconst 4, 1) := by decide +kernel
theorem d_M_allowed_85 : decode b_M_allowed 85 = .ok (.if_icmp .eq 7, 3) := by decide +kernel
theorem d_M_allowed_88 : decode b_M_allowed 88 = .ok (.iconst 1, 1) := by decide +kernel
theorem d_M_allowed_89 : decode b_M_allowed 89 = .ok (.goto 4, 3) := by decide +kernel
theorem d_M_allowed_92 : decode b_M_allowed 92 = .ok (.iconst 0, 1) := by decide +kernel
theorem d_M_allowed_93 : decode b_M_allowed 93 = .ok (.ireturn, 1) := by decide +kernel
theorem d_M_load_0 : decode b_M_load 0 = .ok (.aload_n 0, 1) := by decide +kernel
theorem d_M_load_1 : decode b_M_load 1 = .ok (.iload_n 1, 1) := by decide +kernel
theorem d_M_load_2 : decode b_M_load 2 = .ok (.invokevirtual 66, 3) := by decide +kernel
theorem d_M_load_5 : decode b_M_load 5 = .ok (.ifCond .eq 7, 3) := by decide +kernel
theorem d_M_load_8 : decode b_M_load 8 = .ok (.ldc2_w 69, 3) := by decide +kernel
theorem d_M_load_11 : decode b_M_load 11 = .ok (.lreturn, 1) := by decide +kernel
theorem d_M_load_12 : decode b_M_load 12 = .ok (.aload_n 0, 1) := by decide +kernel
theorem d_M_load_13 : decode b_M_load 13 = .ok (.iload_n 1, 1) := by decide +kernel
theorem d_M_load_14 : decode b_M_load 14 = .ok (.iload_n 2, 1) := by decide +kernel
theorem d_M_load_15 : decode b_M_load 15 = .ok (.iconst 1, 1) := by decide +kernel
theorem d_M_load_16 : decode b_M_load 16 = .ok (.invokevirtual 71, 3) := by decide +kernel
theorem d_M_load_19 : decode b_M_load 19 = .ok (.ifCond .ne 17, 3) := by decide +kernel
theorem d_M_load_22 : decode b_M_load 22 = .ok (.aload_n 0, 1) := by decide +kernel
theorem d_M_load_23 : decode b_M_load 23 = .ok (.dup, 1) := by decide +kernel
theorem d_M_load_24 : decode b_M_load 24 = .ok (.getfield 75, 3) := by decide +kernel
theorem d_M_load_27 : decode b_M_load 27 = .ok (.iconst 1, 1) := by decide +kernel
theorem d_M_load_28 : decode b_M_load 28 = .ok (.iadd, 1) := by decide +kernel
theorem d_M_load_29 : decode b_M_load 29 = .ok (.putfield 75, 3) := by decide +kernel
theorem d_M_load_32 : decode b_M_load 32 = .ok (.ldc2_w 78, 3) := by decide +kernel
theorem d_M_load_35 : decode b_M_load 35 = .ok (.lreturn, 1) := by decide +kernel
theorem d_M_load_36 : decode b_M_load 36 = .ok (.aload_n 0, 1) := by decide +kernel
theorem d_M_load_37 : decode b_M_load 37 = .ok (.getfield 7, 3) := by decide +kernel
theorem d_M_load_40 : decode b_M_load 40 = .ok (.iload_n 2, 1) := by decide +kernel
theorem d_M_load_41 : decode b_M_load 41 = .ok (.iaload, 1) := by decide +kernel
theorem d_M_load_42 : decode b_M_load 42 = .ok (.i2l, 1) := by decide +kernel
theorem d_M_load_43 : decode b_M_load 43 = .ok (.lreturn, 1) := by decide +kernel
theorem d_M_store_0 : decode b_M_store 0 = .ok (.aload_n 0, 1) := by decide +kernel
theorem d_M_store_1 : decode b_M_store 1 = .ok (.iload_n 1, 1) := by decide +kernel
theorem d_M_store_2 : decode b_M_store 2 = .ok (.invokevirtual 66, 3) := by decide +kernel
theorem d_M_store_5 : decode b_M_store 5 = .ok (.ifCond .eq 5, 3) := by decide +kernel
theorem d_M_store_8 : decode b_M_store 8 = .ok (.iconst (-1), 1) := by decide +kernel
theorem d_M_store_9 : decode b_M_store 9 = .ok (.ireturn, 1) := by decide +kernel
theorem d_M_store_10 : decode b_M_store 10 = .ok (.aload_n 0, 1) := by decide +kernel
theorem d_M_store_11 : decode b_M_store 11 = .ok (.iload_n 1, 1) := by decide +kernel
theorem d_M_store_12 : decode b_M_store 12 = .ok (.iload_n 2, 1) := by decide +kernel
theorem d_M_store_13 : decode b_M_store 13 = .ok (.iconst 2, 1) := by decide +kernel
theorem d_M_store_14 : decode b_M_store 14 = .ok (.invokevirtual 71, 3) := by decide +kernel
theorem d_M_store_17 : decode b_M_store 17 = .ok (.ifCond .ne 15, 3) := by decide +kernel
theorem d_M_store_20 : decode b_M_store 20 = .ok (.aload_n 0, 1) := by decide +kernel
theorem d_M_store_21 : decode b_M_store 21 = .ok (.dup, 1) := by decide +kernel
theorem d_M_store_22 : decode b_M_store 22 = .ok (.getfield 75, 3) := by decide +kernel
theorem d_M_store_25 : decode b_M_store 25 = .ok (.iconst 1, 1) := by decide +kernel
theorem d_M_store_26 : decode b_M_store 26 = .ok (.iadd, 1) := by decide +kernel
theorem d_M_store_27 : decode b_M_store 27 = .ok (.putfield 75, 3) := by decide +kernel
theorem d_M_store_30 : decode b_M_store 30 = .ok (.iconst 1, 1) := by decide +kernel
theorem d_M_store_31 : decode b_M_store 31 = .ok (.ireturn, 1) := by decide +kernel
theorem d_M_store_32 : decode b_M_store 32 = .ok (.aload_n 0, 1) := by decide +kernel
theorem d_M_store_33 : decode b_M_store 33 = .ok (.getfield 7, 3) := by decide +kernel
theorem d_M_store_36 : decode b_M_store 36 = .ok (.iload_n 2, 1) := by decide +kernel
theorem d_M_store_37 : decode b_M_store 37 = .ok (.iload_n 3, 1) := by decide +kernel
theorem d_M_store_38 : decode b_M_store 38 = .ok (.iastore, 1) := by decide +kernel
theorem d_M_store_39 : decode b_M_store 39 = .ok (.iconst 0, 1) := by decide +kernel
theorem d_M_store_40 : decode b_M_store 40 = .ok (.ireturn, 1) := by decide +kernel
theorem d_M_denied_0 : decode b_M_denied 0 = .ok (.aload_n 0, 1) := by decide +kernel
theorem d_M_denied_1 : decode b_M_denied 1 = .ok (.getfield 75, 3) := by decide +kernel
theorem d_M_denied_4 : decode b_M_denied 4 = .ok (.ireturn, 1) := by decide +kernel
theorem d_M_give_0 : decode b_M_give 0 = .ok (.aload_n 0, 1) := by decide +kernel
theorem d_M_give_1 : decode b_M_give 1 = .ok (.iload_n 1, 1) := by decide +kernel
theorem d_M_give_2 : decode b_M_give 2 = .ok (.invokevirtual 66, 3) := by decide +kernel
theorem d_M_give_5 : decode b_M_give 5 = .ok (.ifCond .ne 13, 3) := by decide +kernel
theorem d_M_give_8 : decode b_M_give 8 = .ok (.iload_n 2, 1) := by decide +kernel
theorem d_M_give_9 : decode b_M_give 9 = .ok (.ifCond .lt 9, 3) := by decide +kernel
theorem d_M_give_12 : decode b_M_give 12 = .ok (.iload_n 2, 1) := by decide +kernel
theorem d_M_give_13 : decode b_M_give 13 = .ok (.bipush 7, 2) := by decide +kernel
theorem d_M_give_15 : decode b_M_give 15 = .ok (.if_icmp .le 5, 3) := by decide +kernel
theorem d_M_give_18 : decode b_M_give 18 = .ok (.iconst 0, 1) := by decide +kernel
theorem d_M_give_19 : decode b_M_give 19 = .ok (.ireturn, 1) := by decide +kernel
theorem d_M_give_20 : decode b_M_give 20 = .ok (.aload_n 0, 1) := by decide +kernel
theorem d_M_give_21 : decode b_M_give 21 = .ok (.getfield 16, 3) := by decide +kernel
theorem d_M_give_24 : decode b_M_give 24 = .ok (.bipush 8, 2) := by decide +kernel
theorem d_M_give_26 : decode b_M_give 26 = .ok (.iload_n 1, 1) := by decide +kernel
theorem d_M_give_27 : decode b_M_give 27 = .ok (.imul, 1) := by decide +kernel
theorem d_M_give_28 : decode b_M_give 28 = .ok (.iload_n 2, 1) := by decide +kernel
theorem d_M_give_29 : decode b_M_give 29 = .ok (.iadd, 1) := by decide +kernel
theorem d_M_give_30 : decode b_M_give 30 = .ok (.iload_n 3, 1) := by decide +kernel
theorem d_M_give_31 : decode b_M_give 31 = .ok (.iastore, 1) := by decide +kernel
theorem d_M_give_32 : decode b_M_give 32 = .ok (.iconst 1, 1) := by decide +kernel
theorem d_M_give_33 : decode b_M_give 33 = .ok (.ireturn, 1) := by decide +kernel
theorem d_M_register_0 : decode b_M_register 0 = .ok (.aload_n 0, 1) := by decide +kernel
theorem d_M_register_1 : decode b_M_register 1 = .ok (.iload_n 1, 1) := by decide +kernel
theorem d_M_register_2 : decode b_M_register 2 = .ok (.invokevirtual 66, 3) := by decide +kernel
theorem d_M_register_5 : decode b_M_register 5 = .ok (.ifCond .ne 13, 3) := by decide +kernel
theorem d_M_register_8 : decode b_M_register 8 = .ok (.iload_n 2, 1) := by decide +kernel
theorem d_M_register_9 : decode b_M_register 9 = .ok (.ifCond .lt 9, 3) := by decide +kernel
theorem d_M_register_12 : decode b_M_register 12 = .ok (.iload_n 2, 1) := by decide +kernel
theorem d_M_register_13 : decode b_M_register 13 = .ok (.bipush 7, 2) := by decide +kernel
theorem d_M_register_15 : decode b_M_register 15 = .ok (.if_icmp .le 9, 3) := by decide +kernel
theorem d_M_register_18 : decode b_M_register 18 = .ok (.ldc2_w 69, 3) := by decide +kernel
theorem d_M_register_21 : decode b_M_register 21 = .ok (.goto 15, 3) := by decide +kernel
theorem d_M_register_24 : decode b_M_register 24 = .ok (.aload_n 0, 1) := by decide +kernel
theorem d_M_register_25 : decode b_M_register 25 = .ok (.getfield 16, 3) := by decide +kernel
theorem d_M_register_28 : decode b_M_register 28 = .ok (.bipush 8, 2) := by decide +kernel
theorem d_M_register_30 : decode b_M_register 30 = .ok (.iload_n 1, 1) := by decide +kernel
theorem d_M_register_31 : decode b_M_register 31 = .ok (.imul, 1) := by decide +kernel
theorem d_M_register_32 : decode b_M_register 32 = .ok (.iload_n 2, 1) := by decide +kernel
theorem d_M_register_33 : decode b_M_register 33 = .ok (.iadd, 1) := by decide +kernel
theorem d_M_register_34 : decode b_M_register 34 = .ok (.iaload, 1) := by decide +kernel
theorem d_M_register_35 : decode b_M_register 35 = .ok (.i2l, 1) := by decide +kernel
theorem d_M_register_36 : decode b_M_register 36 = .ok (.lreturn, 1) := by decide +kernel
theorem d_M_wrongRange_0 : decode b_M_wrongRange 0 = .ok (.iload_n 2, 1) := by decide +kernel
theorem d_M_wrongRange_1 : decode b_M_wrongRange 1 = .ok (.iconst 1, 1) := by decide +kernel
theorem d_M_wrongRange_2 : decode b_M_wrongRange 2 = .ok (.if_icmp .lt 27, 3) := by decide +kernel
theorem d_M_wrongRange_5 : decode b_M_wrongRange 5 = .ok (.iload_n 2, 1) := by decide +kernel
theorem d_M_wrongRange_6 : decode b_M_wrongRange 6 = .ok (.bipush 8, 2) := by decide +kernel
theorem d_M_wrongRange_8 : decode b_M_wrongRange 8 = .ok (.if_icmp .gt 21, 3) := by decide +kernel
theorem d_M_wrongRange_11 : decode b_M_wrongRange 11 = .ok (.iload_n 1, 1) := by decide +kernel
theorem d_M_wrongRange_12 : decode b_M_wrongRange 12 = .ok (.ifCond .lt 17, 3) := by decide +kernel
theorem d_M_wrongRange_15 : decode b_M_wrongRange 15 = .ok (.iload_n 1, 1) := by decide +kernel
theorem d_M_wrongRange_16 : decode b_M_wrongRange 16 = .ok (.bipush 15, 2) := by decide +kernel
theorem d_M_wrongRange_18 : decode b_M_wrongRange 18 = .ok (.if_icmp .gt 11, 3) := by decide +kernel
theorem d_M_wrongRange_21 : decode b_M_wrongRange 21 = .ok (.iload_n 1, 1) := by decide +kernel
theorem d_M_wrongRange_22 : decode b_M_wrongRange 22 = .ok (.iload_n 2, 1) := by decide +kernel
theorem d_M_wrongRange_23 : decode b_M_wrongRange 23 = .ok (.iadd, 1) := by decide +kernel
theorem d_M_wrongRange_24 : decode b_M_wrongRange 24 = .ok (.bipush 16, 2) := by decide +kernel
theorem d_M_wrongRange_26 : decode b_M_wrongRange 26 = .ok (.if_icmp .le 5, 3) := by decide +kernel
theorem d_M_wrongRange_29 : decode b_M_wrongRange 29 = .ok (.iconst 1, 1) := by decide +kernel
theorem d_M_wrongRange_30 : decode b_M_wrongRange 30 = .ok (.ireturn, 1) := by decide +kernel
theorem d_M_wrongRange_31 : decode b_M_wrongRange 31 = .ok (.iload_n 3, 1) := by decide +kernel
theorem d_M_wrongRange_32 : decode b_M_wrongRange 32 = .ok (.bipush 16, 2) := by decide +kernel
theorem d_M_wrongRange_34 : decode b_M_wrongRange 34 = .ok (.iload_n 1, 1) := by decide +kernel
theorem d_M_wrongRange_35 : decode b_M_wrongRange 35 = .ok (.imul, 1) := by decide +kernel
theorem d_M_wrongRange_36 : decode b_M_wrongRange 36 = .ok (.if_icmp .lt 27, 3) := by decide +kernel
theorem d_M_wrongRange_39 : decode b_M_wrongRange 39 = .ok (.iload_n 3, 1) := by decide +kernel
theorem d_M_wrongRange_40 : decode b_M_wrongRange 40 = .ok (.bipush 16, 2) := by decide +kernel
theorem d_M_wrongRange_42 : decode b_M_wrongRange 42 = .ok (.iload_n 1, 1) := by decide +kernel
theorem d_M_wrongRange_43 : decode b_M_wrongRange 43 = .ok (.iload_n 2, 1) := by decide +kernel
theorem d_M_wrongRange_44 : decode b_M_wrongRange 44 = .ok (.iadd, 1) := by decide +kernel
theorem d_M_wrongRange_45 : decode b_M_wrongRange 45 = .ok (.imul, 1) := by decide +kernel
theorem d_M_wrongRange_46 : decode b_M_wrongRange 46 = .ok (.if_icmp .ge 17, 3) := by decide +kernel
theorem d_M_wrongRange_49 : decode b_M_wrongRange 49 = .ok (.iload 4, 2) := by decide +kernel
theorem d_M_wrongRange_51 : decode b_M_wrongRange 51 = .ok (.iconst (-1), 1) := by decide +kernel
theorem d_M_wrongRange_52 : decode b_M_wrongRange 52 = .ok (.if_icmp .lt 11, 3) := by decide +kernel
theorem d_M_wrongRange_55 : decode b_M_wrongRange 55 = .ok (.iload 4, 2) := by decide +kernel
theorem d_M_wrongRange_57 : decode b_M_wrongRange 57 = .ok (.sipush 271, 3) := by decide +kernel
theorem d_M_wrongRange_60 : decode b_M_wrongRange 60 = .ok (.if_icmp .le 7, 3) := by decide +kernel
theorem d_M_wrongRange_63 : decode b_M_wrongRange 63 = .ok (.iconst 1, 1) := by decide +kernel
theorem d_M_wrongRange_64 : decode b_M_wrongRange 64 = .ok (.goto 4, 3) := by decide +kernel
theorem d_M_wrongRange_67 : decode b_M_wrongRange 67 = .ok (.iconst 0, 1) := by decide +kernel
theorem d_M_wrongRange_68 : decode b_M_wrongRange 68 = .ok (.ireturn, 1) := by decide +kernel
theorem d_M_measure_0 : decode b_M_measure 0 = .ok (.iload_n 2, 1) := by decide +kernel
theorem d_M_measure_1 : decode b_M_measure 1 = .ok (.iload_n 3, 1) := by decide +kernel
theorem d_M_measure_2 : decode b_M_measure 2 = .ok (.bipush 16, 2) := by decide +kernel
theorem d_M_measure_4 : decode b_M_measure 4 = .ok (.iload_n 1, 1) := by decide +kernel
theorem d_M_measure_5 : decode b_M_measure 5 = .ok (.imul, 1) := by decide +kernel
theorem d_M_measure_6 : decode b_M_measure 6 = .ok (.isub, 1) := by decide +kernel
theorem d_M_measure_7 : decode b_M_measure 7 = .ok (.invokestatic 54, 3) := by decide +kernel
theorem d_M_measure_10 : decode b_M_measure 10 = .ok (.istore 4, 2) := by decide +kernel
theorem d_M_measure_12 : decode b_M_measure 12 = .ok (.bipush 16, 2) := by decide +kernel
theorem d_M_measure_14 : decode b_M_measure 14 = .ok (.iload_n 1, 1) := by decide +kernel
theorem d_M_measure_15 : decode b_M_measure 15 = .ok (.imul, 1) := by decide +kernel
theorem d_M_measure_16 : decode b_M_measure 16 = .ok (.istore 5, 2) := by decide +kernel
theorem d_M_measure_18 : decode b_M_measure 18 = .ok (.iload 5, 2) := by decide +kernel
theorem d_M_measure_20 : decode b_M_measure 20 = .ok (.bipush 16, 2) := by decide +kernel
theorem d_M_measure_22 : decode b_M_measure 22 = .ok (.iload_n 1, 1) := by decide +kernel
theorem d_M_measure_23 : decode b_M_measure 23 = .ok (.iload_n 2, 1) := by decide +kernel
theorem d_M_measure_24 : decode b_M_measure 24 = .ok (.iadd, 1) := by decide +kernel
theorem d_M_measure_25 : decode b_M_measure 25 = .ok (.imul, 1) := by decide +kernel
theorem d_M_measure_26 : decode b_M_measure 26 = .ok (.if_icmp .ge 23, 3) := by decide +kernel
theorem d_M_measure_29 : decode b_M_measure 29 = .ok (.iload 4, 2) := by decide +kernel
theorem d_M_measure_31 : decode b_M_measure 31 = .ok (.aload_n 0, 1) := by decide +kernel
theorem d_M_measure_32 : decode b_M_measure 32 = .ok (.getfield 7, 3) := by decide +kernel
theorem d_M_measure_35 : decode b_M_measure 35 = .ok (.iload 5, 2) := by decide +kernel
theorem d_M_measure_37 : decode b_M_measure 37 = .ok (.iaload, 1) := by decide +kernel
theorem d_M_measure_38 : decode b_M_measure 38 = .ok (.invokestatic 54, 3) := by decide +kernel
theorem d_M_measure_41 : decode b_M_measure 41 = .ok (.istore 4, 2) := by decide +kernel
theorem d_M_measure_43 : decode b_M_measure 43 = .ok (.iinc 5 1, 3) := by decide +kernel
theorem d_M_measure_46 : decode b_M_measure 46 = .ok (.goto (-28), 3) := by decide +kernel
theorem d_M_measure_49 : decode b_M_measure 49 = .ok (.iload 4, 2) := by decide +kernel
theorem d_M_measure_51 : decode b_M_measure 51 = .ok (.ireturn, 1) := by decide +kernel
theorem d_M_create_0 : decode b_M_create 0 = .ok (.aload_n 0, 1) := by decide +kernel
theorem d_M_create_1 : decode b_M_create 1 = .ok (.iload_n 1, 1) := by decide +kernel
theorem d_M_create_2 : decode b_M_create 2 = .ok (.invokevirtual 66, 3) := by decide +kernel
theorem d_M_create_5 : decode b_M_create 5 = .ok (.ifCond .eq 5, 3) := by decide +kernel
theorem d_M_create_8 : decode b_M_create 8 = .ok (.iconst (-1), 1) := by decide +kernel
theorem d_M_create_9 : decode b_M_create 9 = .ok (.ireturn, 1) := by decide +kernel
theorem d_M_create_10 : decode b_M_create 10 = .ok (.aload_n 0, 1) := by decide +kernel
theorem d_M_create_11 : decode b_M_create 11 = .ok (.iload_n 2, 1) := by decide +kernel
theorem d_M_create_12 : decode b_M_create 12 = .ok (.iload_n 3, 1) := by decide +kernel
theorem d_M_create_13 : decode b_M_create 13 = .ok (.iload 4, 2) := by decide +kernel
theorem d_M_create_15 : decode b_M_create 15 = .ok (.iload 5, 2) := by decide +kernel
theorem d_M_create_17 : decode b_M_create 17 = .ok (.invokevirtual 80, 3) := by decide +kernel
theorem d_M_create_20 : decode b_M_create 20 = .ok (.ifCond .eq 6, 3) := by decide +kernel
theorem d_M_create_23 : decode b_M_create 23 = .ok (.bipush (-2), 2) := by decide +kernel
theorem d_M_create_25 : decode b_M_create 25 = .ok (.ireturn, 1) := by decide +kernel
theorem d_M_create_26 : decode b_M_create 26 = .ok (.iload_n 2, 1) := by decide +kernel
theorem d_M_create_27 : decode b_M_create 27 = .ok (.istore 6, 2) := by decide +kernel
theorem d_M_create_29 : decode b_M_create 29 = .ok (.iload 6, 2) := by decide +kernel
theorem d_M_create_31 : decode b_M_create 31 = .ok (.iload_n 2, 1) := by decide +kernel
theorem d_M_create_32 : decode b_M_create 32 = .ok (.iload_n 3, 1) := by decide +kernel
theorem d_M_create_33 : decode b_M_create 33 = .ok (.iadd, 1) := by decide +kernel
theorem d_M_create_34 : decode b_M_create 34 = .ok (.if_icmp .ge 23, 3) := by decide +kernel
theorem d_M_create_37 : decode b_M_create 37 = .ok (.aload_n 0, 1) := by decide +kernel
theorem d_M_create_38 : decode b_M_create 38 = .ok (.getfield 13, 3) := by decide +kernel
theorem d_M_create_41 : decode b_M_create 41 = .ok (.iload 6, 2) := by decide +kernel
theorem d_M_create_43 : decode b_M_create 43 = .ok (.iaload, 1) := by decide +kernel
theorem d_M_create_44 : decode b_M_create 44 = .ok (.iconst 1, 1) := by decide +kernel
theorem d_M_create_45 : decode b_M_create 45 = .ok (.if_icmp .eq 6, 3) := by decide +kernel
theorem d_M_create_48 : decode b_M_create 48 = .ok (.bipush (-3), 2) := by decide +kernel
theorem d_M_create_50 : decode b_M_create 50 = .ok (.ireturn, 1) := by decide +kernel
theorem d_M_create_51 : decode b_M_create 51 = .ok (.iinc 6 1, 3) := by decide +kernel
theorem d_M_create_54 : decode b_M_create 54 = .ok (.goto (-25), 3) := by decide +kernel
theorem d_M_create_57 : decode b_M_create 57 = .ok (.iload 5, 2) := by decide +kernel
theorem d_M_create_59 : decode b_M_create 59 = .ok (.ifCond .lt 55, 3) := by decide +kernel
theorem d_M_create_62 : decode b_M_create 62 = .ok (.iload 5, 2) := by decide +kernel
theorem d_M_create_64 : decode b_M_create 64 = .ok (.sipush 256, 3) := by decide +kernel
theorem d_M_create_67 : decode b_M_create 67 = .ok (.if_icmp .ge 11, 3) := by decide +kernel
theorem d_M_create_70 : decode b_M_create 70 = .ok (.iload 5, 2) := by decide +kernel
theorem d_M_create_72 : decode b_M_create 72 = .ok (.bipush 16, 2) := by decide +kernel
theorem d_M_create_74 : decode b_M_create 74 = .ok (.idiv, 1) := by decide +kernel
theorem d_M_create_75 : decode b_M_create 75 = .ok (.goto 9, 3) := by decide +kernel
theorem d_M_create_78 : decode b_M_create 78 = .ok (.iload 5, 2) := by decide +kernel
theorem d_M_create_80 : decode b_M_create 80 = .ok (.sipush 256, 3) := by decide +kernel
theorem d_M_create_83 : decode b_M_create 83 = .ok (.isub, 1) := by decide +kernel
theorem d_M_create_84 : decode b_M_create 84 = .ok (.istore 6, 2) := by decide +kernel
theorem d_M_create_86 : decode b_M_create 86 = .ok (.aload_n 0, 1) := by decide +kernel
theorem d_M_create_87 : decode b_M_create 87 = .ok (.getfield 13, 3) := by decide +kernel
theorem d_M_create_90 : decode b_M_create 90 = .ok (.iload 6, 2) := by decide +kernel
theorem d_M_create_92 : decode b_M_create 92 = .ok (.iaload, 1) := by decide +kernel
theorem d_M_create_93 : decode b_M_create 93 = .ok (.iconst 1, 1) := by decide +kernel
theorem d_M_create_94 : decode b_M_create 94 = .ok (.if_icmp .ne 17, 3) := by decide +kernel
theorem d_M_create_97 : decode b_M_create 97 = .ok (.iload 6, 2) := by decide +kernel
theorem d_M_create_99 : decode b_M_create 99 = .ok (.iload_n 2, 1) := by decide +kernel
theorem d_M_create_100 : decode b_M_create 100 = .ok (.if_icmp .lt 14, 3) := by decide +kernel
theorem d_M_create_103 : decode b_M_create 103 = .ok (.iload 6, 2) := by decide +kernel
theorem d_M_create_105 : decode b_M_create 105 = .ok (.iload_n 2, 1) := by decide +kernel
theorem d_M_create_106 : decode b_M_create 106 = .ok (.iload_n 3, 1) := by decide +kernel
theorem d_M_create_107 : decode b_M_create 107 = .ok (.iadd, 1) := by decide +kernel
theorem d_M_create_108 : decode b_M_create 108 = .ok (.if_icmp .ge 6, 3) := by decide +kernel
theorem d_M_create_111 : decode b_M_create 111 = .ok (.bipush (-4), 2) := by decide +kernel
theorem d_M_create_113 : decode b_M_create 113 = .ok (.ireturn, 1) := by decide +kernel
theorem d_M_create_114 : decode b_M_create 114 = .ok (.iconst 0, 1) := by decide +kernel
theorem d_M_create_115 : decode b_M_create 115 = .ok (.istore 6, 2) := by decide +kernel
theorem d_M_create_117 : decode b_M_create 117 = .ok (.iload 6, 2) := by decide +kernel
theorem d_M_create_119 : decode b_M_create 119 = .ok (.iconst 4, 1) := by decide +kernel
theorem d_M_create_120 : decode b_M_create 120 = .ok (.if_icmp .ge 19, 3) := by decide +kernel
theorem d_M_create_123 : decode b_M_create 123 = .ok (.aload_n 0, 1) := by decide +kernel
theorem d_M_create_124 : decode b_M_create 124 = .ok (.getfield 22, 3) := by decide +kernel
theorem d_M_create_127 : decode b_M_create 127 = .ok (.iload 6, 2) := by decide +kernel
theorem d_M_create_129 : decode b_M_create 129 = .ok (.iaload, 1) := by decide +kernel
theorem d_M_create_130 : decode b_M_create 130 = .ok (.ifCond .eq 9, 3) := by decide +kernel
theorem d_M_create_133 : decode b_M_create 133 = .ok (.iinc 6 1, 3) := by decide +kernel
theorem d_M_create_136 : decode b_M_create 136 = .ok (.goto (-19), 3) := by decide +kernel
theorem d_M_create_139 : decode b_M_create 139 = .ok (.iload 6, 2) := by decide +kernel
theorem d_M_create_141 : decode b_M_create 141 = .ok (.iconst 4, 1) := by decide +kernel
theorem d_M_create_142 : decode b_M_create 142 = .ok (.if_icmp .ne 6, 3) := by decide +kernel
theorem d_M_create_145 : decode b_M_create 145 = .ok (.bipush (-5), 2) := by decide +kernel
theorem d_M_create_147 : decode b_M_create 147 = .ok (.ireturn, 1) := by decide +kernel
theorem d_M_create_148 : decode b_M_create 148 = .ok (.iload_n 2, 1) := by decide +kernel
theorem d_M_create_149 : decode b_M_create 149 = .ok (.istore 7, 2) := by decide +kernel
theorem d_M_create_151 : decode b_M_create 151 = .ok (.iload 7, 2) := by decide +kernel
theorem d_M_create_153 : decode b_M_create 153 = .ok (.iload_n 2, 1) := by decide +kernel
theorem d_M_create_154 : decode b_M_create 154 = .ok (.iload_n 3, 1) := by decide +kernel
theorem d_M_create_155 : decode b_M_create 155 = .ok (.iadd, 1) := by decide +kernel
theorem d_M_create_156 : decode b_M_create 156 = .ok (.if_icmp .ge 20, 3) := by decide +kernel
theorem d_M_create_159 : decode b_M_create 159 = .ok (.aload_n 0, 1) := by decide +kernel
theorem d_M_create_160 : decode b_M_create 160 = .ok (.getfield 13, 3) := by decide +kernel
theorem d_M_create_163 : decode b_M_create 163 = .ok (.iload 7, 2) := by decide +kernel
theorem d_M_create_165 : decode b_M_create 165 = .ok (.iconst 2, 1) := by decide +kernel
theorem d_M_create_166 : decode b_M_create 166 = .ok (.iload 6, 2) := by decide +kernel
theorem d_M_create_168 : decode b_M_create 168 = .ok (.iadd, 1) := by decide +kernel
theorem d_M_create_169 : decode b_M_create 169 = .ok (.iastore, 1) := by decide +kernel
theorem d_M_create_170 : decode b_M_create 170 = .ok (.iinc 7 1, 3) := by decide +kernel
theorem d_M_create_173 : decode b_M_create 173 = .ok (.goto (-22), 3) := by decide +kernel
theorem d_M_create_176 : decode b_M_create 176 = .ok (.aload_n 0, 1) := by decide +kernel
theorem d_M_create_177 : decode b_M_create 177 = .ok (.getfield 22, 3) := by decide +kernel
theorem d_M_create_180 : decode b_M_create 180 = .ok (.iload 6, 2) := by decide +kernel
theorem d_M_create_182 : decode b_M_create 182 = .ok (.iconst 1, 1) := by decide +kernel
theorem d_M_create_183 : decode b_M_create 183 = .ok (.iastore, 1) := by decide +kernel
theorem d_M_create_184 : decode b_M_create 184 = .ok (.aload_n 0, 1) := by decide +kernel
theorem d_M_create_185 : decode b_M_create 185 = .ok (.getfield 25, 3) := by decide +kernel
theorem d_M_create_188 : decode b_M_create 188 = .ok (.iload 6, 2) := by decide +kernel
theorem d_M_create_190 : decode b_M_create 190 = .ok (.iload_n 2, 1) := by decide +kernel
theorem d_M_create_191 : decode b_M_create 191 = .ok (.iastore, 1) := by decide +kernel
theorem d_M_create_192 : decode b_M_create 192 = .ok (.aload_n 0, 1) := by decide +kernel
theorem d_M_create_193 : decode b_M_create 193 = .ok (.getfield 28, 3) := by decide +kernel
theorem d_M_create_196 : decode b_M_create 196 = .ok (.iload 6, 2) := by decide +kernel
theorem d_M_create_198 : decode b_M_create 198 = .ok (.iload_n 3, 1) := by decide +kernel
theorem d_M_create_199 : decode b_M_create 199 = .ok (.iastore, 1) := by decide +kernel
theorem d_M_create_200 : decode b_M_create 200 = .ok (.aload_n 0, 1) := by decide +kernel
theorem d_M_create_201 : decode b_M_create 201 = .ok (.getfield 31, 3) := by decide +kernel
theorem d_M_create_204 : decode b_M_create 204 = .ok (.iload 6, 2) := by decide +kernel
theorem d_M_create_206 : decode b_M_create 206 = .ok (.iload 4, 2) := by decide +kernel
theorem d_M_create_208 : decode b_M_create 208 = .ok (.iastore, 1) := by decide +kernel
theorem d_M_create_209 : decode b_M_create 209 = .ok (.aload_n 0, 1) := by decide +kernel
theorem d_M_create_210 : decode b_M_create 210 = .ok (.getfield 34, 3) := by decide +kernel
theorem d_M_create_213 : decode b_M_create 213 = .ok (.iload 6, 2) := by decide +kernel
theorem d_M_create_215 : decode b_M_create 215 = .ok (.iload 5, 2) := by decide +kernel
theorem d_M_create_217 : decode b_M_create 217 = .ok (.iastore, 1) := by decide +kernel
theorem d_M_create_218 : decode b_M_create 218 = .ok (.aload_n 0, 1) := by decide +kernel
theorem d_M_create_219 : decode b_M_create 219 = .ok (.getfield 37, 3) := by decide +kernel
theorem d_M_create_222 : decode b_M_create 222 = .ok (.iload 6, 2) := by decide +kernel
theorem d_M_create_224 : decode b_M_create 224 = .ok (.aload_n 0, 1) := by decide +kernel
theorem d_M_create_225 : decode b_M_create 225 = .ok (.iload_n 2, 1) := by decide +kernel
theorem d_M_create_226 : decode b_M_create 226 = .ok (.iload_n 3, 1) := by decide +kernel
theorem d_M_create_227 : decode b_M_create 227 = .ok (.iload 4, 2) := by decide +kernel
theorem d_M_create_229 : decode b_M_create 229 = .ok (.invokevirtual 84, 3) := by decide +kernel
theorem d_M_create_232 : decode b_M_create 232 = .ok (.iastore, 1) := by decide +kernel
theorem d_M_create_233 : decode b_M_create 233 = .ok (.iload 6, 2) := by decide +kernel
theorem d_M_create_235 : decode b_M_create 235 = .ok (.ireturn, 1) := by decide +kernel
theorem d_M_there_0 : decode b_M_there 0 = .ok (.iload_n 1, 1) := by decide +kernel
theorem d_M_there_1 : decode b_M_there 1 = .ok (.ifCond .lt 21, 3) := by decide +kernel
theorem d_M_there_4 : decode b_M_there 4 = .ok (.iload_n 1, 1) := by decide +kernel
theorem d_M_there_5 : decode b_M_there 5 = .ok (.iconst 4, 1) := by decide +kernel
theorem d_M_there_6 : decode b_M_there 6 = .ok (.if_icmp .ge 16, 3) := by decide +kernel
theorem d_M_there_9 : decode b_M_there 9 = .ok (.aload_n 0, 1) := by decide +kernel
theorem d_M_there_10 : decode b_M_there 10 = .ok (.getfield 22, 3) := by decide +kernel
theorem d_M_there_13 : decode b_M_there 13 = .ok (.iload_n 1, 1) := by decide +kernel
theorem d_M_there_14 : decode b_M_there 14 = .ok (.iaload, 1) := by decide +kernel
theorem d_M_there_15 : decode b_M_there 15 = .ok (.ifCond .eq 7, 3) := by decide +kernel
theorem d_M_there_18 : decode b_M_there 18 = .ok (.iconst 1, 1) := by decide +kernel
theorem d_M_there_19 : decode b_M_there 19 = .ok (.goto 4, 3) := by decide +kernel
theorem d_M_there_22 : decode b_M_there 22 = .ok (.iconst 0, 1) := by decide +kernel
theorem d_M_there_23 : decode b_M_there 23 = .ok (.ireturn, 1) := by decide +kernel
theorem d_M_run_0 : decode b_M_run 0 = .ok (.aload_n 0, 1) := by decide +kernel
theorem d_M_run_1 : decode b_M_run 1 = .ok (.iload_n 1, 1) := by decide +kernel
theorem d_M_run_2 : decode b_M_run 2 = .ok (.invokevirtual 66, 3) := by decide +kernel
theorem d_M_run_5 : decode b_M_run 5 = .ok (.ifCond .eq 5, 3) := by decide +kernel
theorem d_M_run_8 : decode b_M_run 8 = .ok (.iconst (-1), 1) := by decide +kernel
theorem d_M_run_9 : decode b_M_run 9 = .ok (.ireturn, 1) := by decide +kernel
theorem d_M_run_10 : decode b_M_run 10 = .ok (.aload_n 0, 1) := by decide +kernel
theorem d_M_run_11 : decode b_M_run 11 = .ok (.iload_n 2, 1) := by decide +kernel
theorem d_M_run_12 : decode b_M_run 12 = .ok (.invokevirtual 88, 3) := by decide +kernel
theorem d_M_run_15 : decode b_M_run 15 = .ok (.ifCond .eq 23, 3) := by decide +kernel
theorem d_M_run_18 : decode b_M_run 18 = .ok (.aload_n 0, 1) := by decide +kernel
theorem d_M_run_19 : decode b_M_run 19 = .ok (.getfield 22, 3) := by decide +kernel
theorem d_M_run_22 : decode b_M_run 22 = .ok (.iload_n 2, 1) := by decide +kernel
theorem d_M_run_23 : decode b_M_run 23 = .ok (.iaload, 1) := by decide +kernel
theorem d_M_run_24 : decode b_M_run 24 = .ok (.iconst 1, 1) := by decide +kernel
theorem d_M_run_25 : decode b_M_run 25 = .ok (.if_icmp .eq 16, 3) := by decide +kernel
theorem d_M_run_28 : decode b_M_run 28 = .ok (.aload_n 0, 1) := by decide +kernel
theorem d_M_run_29 : decode b_M_run 29 = .ok (.getfield 22, 3) := by decide +kernel
theorem d_M_run_32 : decode b_M_run 32 = .ok (.iload_n 2, 1) := by decide +kernel
theorem d_M_run_33 : decode b_M_run 33 = .ok (.iaload, 1) := by decide +kernel
theorem d_M_run_34 : decode b_M_run 34 = .ok (.iconst 3, 1) := by decide +kernel
theorem d_M_run_35 : decode b_M_run 35 = .ok (.if_icmp .eq 6, 3) := by decide +kernel
theorem d_M_run_38 : decode b_M_run 38 = .ok (.bipush (-2), 2) := by decide +kernel
theorem d_M_run_40 : decode b_M_run 40 = .ok (.ireturn, 1) := by decide +kernel
theorem d_M_run_41 : decode b_M_run 41 = .ok (.aload_n 0, 1) := by decide +kernel
theorem d_M_run_42 : decode b_M_run 42 = .ok (.getfield 22, 3) := by decide +kernel
theorem d_M_run_45 : decode b_M_run 45 = .ok (.iload_n 2, 1) := by decide +kernel
theorem d_M_run_46 : decode b_M_run 46 = .ok (.iaload, 1) := by decide +kernel
theorem d_M_run_47 : decode b_M_run 47 = .ok (.iconst 1, 1) := by decide +kernel
theorem d_M_run_48 : decode b_M_run 48 = .ok (.if_icmp .ne 54, 3) := by decide +kernel
theorem d_M_run_51 : decode b_M_run 51 = .ok (.iconst 0, 1) := by decide +kernel
theorem d_M_run_52 : decode b_M_run 52 = .ok (.istore 4, 2) := by decide +kernel
theorem d_M_run_54 : decode b_M_run 54 = .ok (.iload 4, 2) := by decide +kernel
theorem d_M_run_56 : decode b_M_run 56 = .ok (.bipush 8, 2) := by decide +kernel
theorem d_M_run_58 : decode b_M_run 58 = .ok (.if_icmp .ge 32, 3) := by decide +kernel
theorem d_M_run_61 : decode b_M_run 61 = .ok (.aload_n 0, 1) := by decide +kernel
theorem d_M_run_62 : decode b_M_run 62 = .ok (.getfield 46, 3) := by decide +kernel
theorem d_M_run_65 : decode b_M_run 65 = .ok (.bipush 8, 2) := by decide +kernel
theorem d_M_run_67 : decode b_M_run 67 = .ok (.iload_n 2, 1) := by decide +kernel
theorem d_M_run_68 : decode b_M_run 68 = .ok (.imul, 1) := by decide +kernel
theorem d_M_run_69 : decode b_M_run 69 = .ok (.iload 4, 2) := by decide +kernel
theorem d_M_run_71 : decode b_M_run 71 = .ok (.iadd, 1) := by decide +kernel
theorem d_M_run_72 : decode b_M_run 72 = .ok (.iload 4, 2) := by decide +kernel
theorem d_M_run_74 : decode b_M_run 74 = .ok (.iconst 1, 1) := by decide +kernel
theorem d_M_run_75 : decode b_M_run 75 = .ok (.if_icmp .ne 7, 3) := by decide +kernel
theorem d_M_run_78 : decode b_M_run 78 = .ok (.iload_n 3, 1) := by decide +kernel
theorem d_M_run_79 : decode b_M_run 79 = .ok (.goto 4, 3) := by decide +kernel
theorem d_M_run_82 : decode b_M_run 82 = .ok (.iconst 0, 1) := by decide +kernel
theorem d_M_run_83 : decode b_M_run 83 = .ok (.iastore, 1) := by decide +kernel
theorem d_M_run_84 : decode b_M_run 84 = .ok (.iinc 4 1, 3) := by decide +kernel
theorem d_M_run_87 : decode b_M_run 87 = .ok (.goto (-33), 3) := by decide +kernel
theorem d_M_run_90 : decode b_M_run 90 = .ok (.aload_n 0, 1) := by decide +kernel
theorem d_M_run_91 : decode b_M_run 91 = .ok (.getfield 43, 3) := by decide +kernel
theorem d_M_run_94 : decode b_M_run 94 = .ok (.iload_n 2, 1) := by decide +kernel
theorem d_M_run_95 : decode b_M_run 95 = .ok (.aload_n 0, 1) := by decide +kernel
theorem d_M_run_96 : decode b_M_run 96 = .ok (.getfield 31, 3) := by decide +kernel
theorem d_M_run_99 : decode b_M_run 99 = .ok (.iload_n 2, 1) := by decide +kernel
theorem d_M_run_100 : decode b_M_run 100 = .ok (.iaload, 1) := by decide +kernel
theorem d_M_run_101 : decode b_M_run 101 = .ok (.iastore, 1) := by decide +kernel
theorem d_M_run_102 : decode b_M_run 102 = .ok (.aload_n 0, 1) := by decide +kernel
theorem d_M_run_103 : decode b_M_run 103 = .ok (.getfield 22, 3) := by decide +kernel
theorem d_M_run_106 : decode b_M_run 106 = .ok (.iload_n 2, 1) := by decide +kernel
theorem d_M_run_107 : decode b_M_run 107 = .ok (.iconst 2, 1) := by decide +kernel
theorem d_M_run_108 : decode b_M_run 108 = .ok (.iastore, 1) := by decide +kernel
theorem d_M_run_109 : decode b_M_run 109 = .ok (.aload_n 0, 1) := by decide +kernel
theorem d_M_run_110 : decode b_M_run 110 = .ok (.getfield 19, 3) := by decide +kernel
theorem d_M_run_113 : decode b_M_run 113 = .ok (.iload_n 1, 1) := by decide +kernel
theorem d_M_run_114 : decode b_M_run 114 = .ok (.iload_n 2, 1) := by decide +kernel
theorem d_M_run_115 : decode b_M_run 115 = .ok (.iastore, 1) := by decide +kernel
theorem d_M_run_116 : decode b_M_run 116 = .ok (.iconst 0, 1) := by decide +kernel
theorem d_M_run_117 : decode b_M_run 117 = .ok (.ireturn, 1) := by decide +kernel
theorem d_M_leave_0 : decode b_M_leave 0 = .ok (.aload_n 0, 1) := by decide +kernel
theorem d_M_leave_1 : decode b_M_leave 1 = .ok (.getfield 22, 3) := by decide +kernel
theorem d_M_leave_4 : decode b_M_leave 4 = .ok (.aload_n 0, 1) := by decide +kernel
theorem d_M_leave_5 : decode b_M_leave 5 = .ok (.getfield 19, 3) := by decide +kernel
theorem d_M_leave_8 : decode b_M_leave 8 = .ok (.iload_n 1, 1) := by decide +kernel
theorem d_M_leave_9 : decode b_M_leave 9 = .ok (.iaload, 1) := by decide +kernel
theorem d_M_leave_10 : decode b_M_leave 10 = .ok (.iload_n 2, 1) := by decide +kernel
theorem d_M_leave_11 : decode b_M_leave 11 = .ok (.iastore, 1) := by decide +kernel
theorem d_M_leave_12 : decode b_M_leave 12 = .ok (.aload_n 0, 1) := by decide +kernel
theorem d_M_leave_13 : decode b_M_leave 13 = .ok (.getfield 19, 3) := by decide +kernel
theorem d_M_leave_16 : decode b_M_leave 16 = .ok (.iload_n 1, 1) := by decide +kernel
theorem d_M_leave_17 : decode b_M_leave 17 = .ok (.iconst (-1), 1) := by decide +kernel
theorem d_M_leave_18 : decode b_M_leave 18 = .ok (.iastore, 1) := by decide +kernel
theorem d_M_leave_19 : decode b_M_leave 19 = .ok (.return_, 1) := by decide +kernel
theorem d_M_end_0 : decode b_M_end 0 = .ok (.aload_n 0, 1) := by decide +kernel
theorem d_M_end_1 : decode b_M_end 1 = .ok (.getfield 40, 3) := by decide +kernel
theorem d_M_end_4 : decode b_M_end 4 = .ok (.aload_n 0, 1) := by decide +kernel
theorem d_M_end_5 : decode b_M_end 5 = .ok (.getfield 19, 3) := by decide +kernel
theorem d_M_end_8 : decode b_M_end 8 = .ok (.iload_n 1, 1) := by decide +kernel
theorem d_M_end_9 : decode b_M_end 9 = .ok (.iaload, 1) := by decide +kernel
theorem d_M_end_10 : decode b_M_end 10 = .ok (.iload_n 3, 1) := by decide +kernel
theorem d_M_end_11 : decode b_M_end 11 = .ok (.iastore, 1) := by decide +kernel
theorem d_M_end_12 : decode b_M_end 12 = .ok (.aload_n 0, 1) := by decide +kernel
theorem d_M_end_13 : decode b_M_end 13 = .ok (.iload_n 1, 1) := by decide +kernel
theorem d_M_end_14 : decode b_M_end 14 = .ok (.iload_n 2, 1) := by decide +kernel
theorem d_M_end_15 : decode b_M_end 15 = .ok (.invokevirtual 91, 3) := by decide +kernel
theorem d_M_end_18 : decode b_M_end 18 = .ok (.return_, 1) := by decide +kernel
theorem d_M_once_0 : decode b_M_once 0 = .ok (.aload_n 0, 1) := by decide +kernel
theorem d_M_once_1 : decode b_M_once 1 = .ok (.getfield 19, 3) := by decide +kernel
theorem d_M_once_4 : decode b_M_once 4 = .ok (.iload_n 1, 1) := by decide +kernel
theorem d_M_once_5 : decode b_M_once 5 = .ok (.iaload, 1) := by decide +kernel
theorem d_M_once_6 : decode b_M_once 6 = .ok (.istore_n 2, 1) := by decide +kernel
theorem d_M_once_7 : decode b_M_once 7 = .ok (.aload_n 0, 1) := by decide +kernel
theorem d_M_once_8 : decode b_M_once 8 = .ok (.getfield 43, 3) := by decide +kernel
theorem d_M_once_11 : decode b_M_once 11 = .ok (.iload_n 2, 1) := by decide +kernel
theorem d_M_once_12 : decode b_M_once 12 = .ok (.iaload, 1) := by decide +kernel
theorem d_M_once_13 : decode b_M_once 13 = .ok (.istore_n 3, 1) := by decide +kernel
theorem d_M_once_14 : decode b_M_once 14 = .ok (.aload_n 0, 1) := by decide +kernel
theorem d_M_once_15 : decode b_M_once 15 = .ok (.iload_n 1, 1) := by decide +kernel
theorem d_M_once_16 : decode b_M_once 16 = .ok (.iload_n 3, 1) := by decide +kernel
theorem d_M_once_17 : decode b_M_once 17 = .ok (.iconst 4, 1) := by decide +kernel
theorem d_M_once_18 : decode b_M_once 18 = .ok (.invokevirtual 71, 3) := by decide +kernel
theorem d_M_once_21 : decode b_M_once 21 = .ok (.ifCond .ne 11, 3) := by decide +kernel
theorem d_M_once_24 : decode b_M_once 24 = .ok (.aload_n 0, 1) := by decide +kernel
theorem d_M_once_25 : decode b_M_once 25 = .ok (.iload_n 1, 1) := by decide +kernel
theorem d_M_once_26 : decode b_M_once 26 = .ok (.iconst 5, 1) := by decide +kernel
theorem d_M_once_27 : decode b_M_once 27 = .ok (.iconst 1, 1) := by decide +kernel
theorem d_M_once_28 : decode b_M_once 28 = .ok (.invokevirtual 95, 3) := by decide +kernel
theorem d_M_once_31 : decode b_M_once 31 = .ok (.return_, 1) := by decide +kernel
theorem d_M_once_32 : decode b_M_once 32 = .ok (.aload_n 0, 1) := by decide +kernel
theorem d_M_once_33 : decode b_M_once 33 = .ok (.getfield 7, 3) := by decide +kernel
theorem d_M_once_36 : decode b_M_once 36 = .ok (.iload_n 3, 1) := by decide +kernel
theorem d_M_once_37 : decode b_M_once 37 = .ok (.iaload, 1) := by decide +kernel
theorem d_M_once_38 : decode b_M_once 38 = .ok (.istore 4, 2) := by decide +kernel
theorem d_M_once_40 : decode b_M_once 40 = .ok (.iload 4, 2) := by decide +kernel
theorem d_M_once_42 : decode b_M_once 42 = .ok (.bipush 15, 2) := by decide +kernel
theorem d_M_once_44 : decode b_M_once 44 = .ok (.iand, 1) := by decide +kernel
theorem d_M_once_45 : decode b_M_once 45 = .ok (.istore 5, 2) := by decide +kernel
theorem d_M_once_47 : decode b_M_once 47 = .ok (.bipush 8, 2) := by decide +kernel
theorem d_M_once_49 : decode b_M_once 49 = .ok (.iload_n 2, 1) := by decide +kernel
theorem d_M_once_50 : decode b_M_once 50 = .ok (.imul, 1) := by decide +kernel
theorem d_M_once_51 : decode b_M_once 51 = .ok (.iload 4, 2) := by decide +kernel
theorem d_M_once_53 : decode b_M_once 53 = .ok (.iconst 4, 1) := by decide +kernel
theorem d_M_once_54 : decode b_M_once 54 = .ok (.ishr, 1) := by decide +kernel
theorem d_M_once_55 : decode b_M_once 55 = .ok (.bipush 7, 2) := by decide +kernel
theorem d_M_once_57 : decode b_M_once 57 = .ok (.iand, 1) := by decide +kernel
theorem d_M_once_58 : decode b_M_once 58 = .ok (.iadd, 1) := by decide +kernel
theorem d_M_once_59 : decode b_M_once 59 = .ok (.istore 6, 2) := by decide +kernel
theorem d_M_once_61 : decode b_M_once 61 = .ok (.bipush 8, 2) := by decide +kernel
theorem d_M_once_63 : decode b_M_once 63 = .ok (.iload_n 2, 1) := by decide +kernel
theorem d_M_once_64 : decode b_M_once 64 = .ok (.imul, 1) := by decide +kernel
theorem d_M_once_65 : decode b_M_once 65 = .ok (.iload 4, 2) := by decide +kernel
theorem d_M_once_67 : decode b_M_once 67 = .ok (.bipush 8, 2) := by decide +kernel
theorem d_M_once_69 : decode b_M_once 69 = .ok (.ishr, 1) := by decide +kernel
theorem d_M_once_70 : decode b_M_once 70 = .ok (.bipush 7, 2) := by decide +kernel
theorem d_M_once_72 : decode b_M_once 72 = .ok (.iand, 1) := by decide +kernel
theorem d_M_once_73 : decode b_M_once 73 = .ok (.iadd, 1) := by decide +kernel
theorem d_M_once_74 : decode b_M_once 74 = .ok (.istore 7, 2) := by decide +kernel
theorem d_M_once_76 : decode b_M_once 76 = .ok (.iload 4, 2) := by decide +kernel
theorem d_M_once_78 : decode b_M_once 78 = .ok (.bipush 16, 2) := by decide +kernel
theorem d_M_once_80 : decode b_M_once 80 = .ok (.ishr, 1) := by decide +kernel
theorem d_M_once_81 : decode b_M_once 81 = .ok (.istore 8, 2) := by decide +kernel
theorem d_M_once_83 : decode b_M_once 83 = .ok (.aload_n 0, 1) := by decide +kernel
theorem d_M_once_84 : decode b_M_once 84 = .ok (.getfield 46, 3) := by decide +kernel
theorem d_M_once_87 : decode b_M_once 87 = .ok (.iload 7, 2) := by decide +kernel
theorem d_M_once_89 : decode b_M_once 89 = .ok (.iaload, 1) := by decide +kernel
theorem d_M_once_90 : decode b_M_once 90 = .ok (.iload 8, 2) := by decide +kernel
theorem d_M_once_92 : decode b_M_once 92 = .ok (.iadd, 1) := by decide +kernel
theorem d_M_once_93 : decode b_M_once 93 = .ok (.istore 9, 2) := by decide +kernel
theorem d_M_once_95 : decode b_M_once 95 = .ok (.iload 5, 2) := by decide +kernel
theorem d_M_once_97 : decode b_M_once 97 = .ok (.ifCond .ne 19, 3) := by decide +kernel
theorem d_M_once_100 : decode b_M_once 100 = .ok (.aload_n 0, 1) := by decide +kernel
theorem d_M_once_101 : decode b_M_once 101 = .ok (.iload_n 1, 1) := by decide +kernel
theorem d_M_once_102 : decode b_M_once 102 = .ok (.iconst 4, 1) := by decide +kernel
theorem d_M_once_103 : decode b_M_once 103 = .ok (.aload_n 0, 1) := by decide +kernel
theorem d_M_once_104 : decode b_M_once 104 = .ok (.getfield 46, 3) := by decide +kernel
theorem d_M_once_107 : decode b_M_once 107 = .ok (.iload 6, 2) := by decide +kernel
theorem d_M_once_109 : decode b_M_once 109 = .ok (.iaload, 1) := by decide +kernel
theorem d_M_once_110 : decode b_M_once 110 = .ok (.invokevirtual 95, 3) := by decide +kernel
theorem d_M_once_113 : decode b_M_once 113 = .ok (.goto 135, 3) := by decide +kernel
theorem d_M_once_116 : decode b_M_once 116 = .ok (.iload 5, 2) := by decide +kernel
theorem d_M_once_118 : decode b_M_once 118 = .ok (.bipush 10, 2) := by decide +kernel
theorem d_M_once_120 : decode b_M_once 120 = .ok (.if_icmp .le 13, 3) := by decide +kernel
theorem d_M_once_123 : decode b_M_once 123 = .ok (.aload_n 0, 1) := by decide +kernel
theorem d_M_once_124 : decode b_M_once 124 = .ok (.iload_n 1, 1) := by decide +kernel
theorem d_M_once_125 : decode b_M_once 125 = .ok (.iconst 5, 1) := by decide +kernel
theorem d_M_once_126 : decode b_M_once 126 = .ok (.iconst 4, 1) := by decide +kernel
theorem d_M_once_127 : decode b_M_once 127 = .ok (.invokevirtual 95, 3) := by decide +kernel
theorem d_M_once_130 : decode b_M_once 130 = .ok (.goto 118, 3) := by decide +kernel
theorem d_M_once_133 : decode b_M_once 133 = .ok (.iload 5, 2) := by decide +kernel
theorem d_M_once_135 : decode b_M_once 135 = .ok (.iconst 4, 1) := by decide +kernel
theorem d_M_once_136 : decode b_M_once 136 = .ok (.if_icmp .ne 24, 3) := by decide +kernel
theorem d_M_once_139 : decode b_M_once 139 = .ok (.aload_n 0, 1) := by decide +kernel
theorem d_M_once_140 : decode b_M_once 140 = .ok (.iload_n 1, 1) := by decide +kernel
theorem d_M_once_141 : decode b_M_once 141 = .ok (.iload 9, 2) := by decide +kernel
theorem d_M_once_143 : decode b_M_once 143 = .ok (.iconst 1, 1) := by decide +kernel
theorem d_M_once_144 : decode b_M_once 144 = .ok (.invokevirtual 71, 3) := by decide +kernel
theorem d_M_once_147 : decode b_M_once 147 = .ok (.ifCond .ne 13, 3) := by decide +kernel
theorem d_M_once_150 : decode b_M_once 150 = .ok (.aload_n 0, 1) := by decide +kernel
theorem d_M_once_151 : decode b_M_once 151 = .ok (.iload_n 1, 1) := by decide +kernel
theorem d_M_once_152 : decode b_M_once 152 = .ok (.iconst 5, 1) := by decide +kernel
theorem d_M_once_153 : decode b_M_once 153 = .ok (.iconst 2, 1) := by decide +kernel
theorem d_M_once_154 : decode b_M_once 154 = .ok (.invokevirtual 95, 3) := by decide +kernel
theorem d_M_once_157 : decode b_M_once 157 = .ok (.goto 91, 3) := by decide +kernel
theorem d_M_once_160 : decode b_M_once 160 = .ok (.iload 5, 2) := by decide +kernel
theorem d_M_once_162 : decode b_M_once 162 = .ok (.iconst 5, 1) := by decide +kernel
theorem d_M_once_163 : decode b_M_once 163 = .ok (.if_icmp .ne 24, 3) := by decide +kernel
theorem d_M_once_166 : decode b_M_once 166 = .ok (.aload_n 0, 1) := by decide +kernel
theorem d_M_once_167 : decode b_M_once 167 = .ok (.iload_n 1, 1) := by decide +kernel
theorem d_M_once_168 : decode b_M_once 168 = .ok (.iload 9, 2) := by decide +kernel
theorem d_M_once_170 : decode b_M_once 170 = .ok (.iconst 2, 1) := by decide +kernel
theorem d_M_once_171 : decode b_M_once 171 = .ok (.invokevirtual 71, 3) := by decide +kernel
theorem d_M_once_174 : decode b_M_once 174 = .ok (.ifCond .ne 13, 3) := by decide +kernel
theorem d_M_once_177 : decode b_M_once 177 = .ok (.aload_n 0, 1) := by decide +kernel
theorem d_M_once_178 : decode b_M_once 178 = .ok (.iload_n 1, 1) := by decide +kernel
theorem d_M_once_179 : decode b_M_once 179 = .ok (.iconst 5, 1) := by decide +kernel
theorem d_M_once_180 : decode b_M_once 180 = .ok (.iconst 3, 1) := by decide +kernel
theorem d_M_once_181 : decode b_M_once 181 = .ok (.invokevirtual 95, 3) := by decide +kernel
theorem d_M_once_184 : decode b_M_once 184 = .ok (.goto 64, 3) := by decide +kernel
theorem d_M_once_187 : decode b_M_once 187 = .ok (.aload_n 0, 1) := by decide +kernel
theorem d_M_once_188 : decode b_M_once 188 = .ok (.getfield 43, 3) := by decide +kernel
theorem d_M_once_191 : decode b_M_once 191 = .ok (.iload_n 2, 1) := by decide +kernel
theorem d_M_once_192 : decode b_M_once 192 = .ok (.iload 5, 2) := by decide +kernel
theorem d_M_once_194 : decode b_M_once 194 = .ok (.bipush 7, 2) := by decide +kernel
theorem d_M_once_196 : decode b_M_once 196 = .ok (.if_icmp .ne 8, 3) := by decide +kernel
theorem d_M_once_199 : decode b_M_once 199 = .ok (.iload 9, 2) := by decide +kernel
theorem d_M_once_201 : decode b_M_once 201 = .ok (.goto 32, 3) := by decide +kernel
theorem d_M_once_204 : decode b_M_once 204 = .ok (.iload 5, 2) := by decide +kernel
theorem d_M_once_206 : decode b_M_once 206 = .ok (.bipush 6, 2) := by decide +kernel
theorem d_M_once_208 : decode b_M_once 208 = .ok (.if_icmp .ne 22, 3) := by decide +kernel
theorem d_M_once_211 : decode b_M_once 211 = .ok (.aload_n 0, 1) := by decide +kernel
theorem d_M_once_212 : decode b_M_once 212 = .ok (.getfield 46, 3) := by decide +kernel
theorem d_M_once_215 : decode b_M_once 215 = .ok (.iload 6, 2) := by decide +kernel
theorem d_M_once_217 : decode b_M_once 217 = .ok (.iaload, 1) := by decide +kernel
theorem d_M_once_218 : decode b_M_once 218 = .ok (.ifCond .ne 12, 3) := by decide +kernel
theorem d_M_once_221 : decode b_M_once 221 = .ok (.iload_n 3, 1) := by decide +kernel
theorem d_M_once_222 : decode b_M_once 222 = .ok (.iconst 1, 1) := by decide +kernel
theorem d_M_once_223 : decode b_M_once 223 = .ok (.iadd, 1) := by decide +kernel
theorem d_M_once_224 : decode b_M_once 224 = .ok (.iload 8, 2) := by decide +kernel
theorem d_M_once_226 : decode b_M_once 226 = .ok (.iadd, 1) := by decide +kernel
theorem d_M_once_227 : decode b_M_once 227 = .ok (.goto 6, 3) := by decide +kernel
theorem d_M_once_230 : decode b_M_once 230 = .ok (.iload_n 3, 1) := by decide +kernel
theorem d_M_once_231 : decode b_M_once 231 = .ok (.iconst 1, 1) := by decide +kernel
theorem d_M_once_232 : decode b_M_once 232 = .ok (.iadd, 1) := by decide +kernel
theorem d_M_once_233 : decode b_M_once 233 = .ok (.iastore, 1) := by decide +kernel
theorem d_M_once_234 : decode b_M_once 234 = .ok (.aload_n 0, 1) := by decide +kernel
theorem d_M_once_235 : decode b_M_once 235 = .ok (.iload_n 1, 1) := by decide +kernel
theorem d_M_once_236 : decode b_M_once 236 = .ok (.iload 5, 2) := by decide +kernel
theorem d_M_once_238 : decode b_M_once 238 = .ok (.iload 6, 2) := by decide +kernel
theorem d_M_once_240 : decode b_M_once 240 = .ok (.iload 7, 2) := by decide +kernel
theorem d_M_once_242 : decode b_M_once 242 = .ok (.iload 9, 2) := by decide +kernel
theorem d_M_once_244 : decode b_M_once 244 = .ok (.iload_n 3, 1) := by decide +kernel
theorem d_M_once_245 : decode b_M_once 245 = .ok (.invokevirtual 99, 3) := by decide +kernel
theorem d_M_once_248 : decode b_M_once 248 = .ok (.return_, 1) := by decide +kernel
theorem d_M_work_0 : decode b_M_work 0 = .ok (.aload_n 0, 1) := by decide +kernel
theorem d_M_work_1 : decode b_M_work 1 = .ok (.getfield 19, 3) := by decide +kernel
theorem d_M_work_4 : decode b_M_work 4 = .ok (.iload_n 1, 1) := by decide +kernel
theorem d_M_work_5 : decode b_M_work 5 = .ok (.iaload, 1) := by decide +kernel
theorem d_M_work_6 : decode b_M_work 6 = .ok (.istore 7, 2) := by decide +kernel
theorem d_M_work_8 : decode b_M_work 8 = .ok (.iload_n 2, 1) := by decide +kernel
theorem d_M_work_9 : decode b_M_work 9 = .ok (.tableswitch 221 1 10 #[55, 66, 89, 112, 128, 221, 144, 157, 184, 212], 55) := by decide +kernel
theorem d_M_work_64 : decode b_M_work 64 = .ok (.aload_n 0, 1) := by decide +kernel
theorem d_M_work_65 : decode b_M_work 65 = .ok (.getfield 46, 3) := by decide +kernel
theorem d_M_work_68 : decode b_M_work 68 = .ok (.iload_n 3, 1) := by decide +kernel
theorem d_M_work_69 : decode b_M_work 69 = .ok (.iload 5, 2) := by decide +kernel
theorem d_M_work_71 : decode b_M_work 71 = .ok (.iastore, 1) := by decide +kernel
theorem d_M_work_72 : decode b_M_work 72 = .ok (.goto 158, 3) := by decide +kernel
theorem d_M_work_75 : decode b_M_work 75 = .ok (.aload_n 0, 1) := by decide +kernel
theorem d_M_work_76 : decode b_M_work 76 = .ok (.getfield 46, 3) := by decide +kernel
theorem d_M_work_79 : decode b_M_work 79 = .ok (.iload_n 3, 1) := by decide +kernel
theorem d_M_work_80 : decode b_M_work 80 = .ok (.aload_n 0, 1) := by decide +kernel
theorem d_M_work_81 : decode b_M_work 81 = .ok (.getfield 46, 3) := by decide +kernel
theorem d_M_work_84 : decode b_M_work 84 = .ok (.iload_n 3, 1) := by decide +kernel
theorem d_M_work_85 : decode b_M_work 85 = .ok (.iaload, 1) := by decide +kernel
theorem d_M_work_86 : decode b_M_work 86 = .ok (.aload_n 0, 1) := by decide +kernel
theorem d_M_work_87 : decode b_M_work 87 = .ok (.getfield 46, 3) := by decide +kernel
theorem d_M_work_90 : decode b_M_work 90 = .ok (.iload 4, 2) := by decide +kernel
theorem d_M_work_92 : decode b_M_work 92 = .ok (.iaload, 1) := by decide +kernel
theorem d_M_work_93 : decode b_M_work 93 = .ok (.iadd, 1) := by decide +kernel
theorem d_M_work_94 : decode b_M_work 94 = .ok (.iastore, 1) := by decide +kernel
theorem d_M_work_95 : decode b_M_work 95 = .ok (.goto 135, 3) := by decide +kernel
theorem d_M_work_98 : decode b_M_work 98 = .ok (.aload_n 0, 1) := by decide +kernel
theorem d_M_work_99 : decode b_M_work 99 = .ok (.getfield 46, 3) := by decide +kernel
theorem d_M_work_102 : decode b_M_work 102 = .ok (.iload_n 3, 1) := by decide +kernel
theorem d_M_work_103 : decode b_M_work 103 = .ok (.aload_n 0, 1) := by decide +kernel
theorem d_M_work_104 : decode b_M_work 104 = .ok (.getfield 46, 3) := by decide +kernel
theorem d_M_work_107 : decode b_M_work 107 = .ok (.iload_n 3, 1) := by decide +kernel
theorem d_M_work_108 : decode b_M_work 108 = .ok (.iaload, 1) := by decide +kernel
theorem d_M_work_109 : decode b_M_work 109 = .ok (.aload_n 0, 1) := by decide +kernel
theorem d_M_work_110 : decode b_M_work 110 = .ok (.getfield 46, 3) := by decide +kernel
theorem d_M_work_113 : decode b_M_work 113 = .ok (.iload 4, 2) := by decide +kernel
theorem d_M_work_115 : decode b_M_work 115 = .ok (.iaload, 1) := by decide +kernel
theorem d_M_work_116 : decode b_M_work 116 = .ok (.ixor, 1) := by decide +kernel
theorem d_M_work_117 : decode b_M_work 117 = .ok (.iastore, 1) := by decide +kernel
theorem d_M_work_118 : decode b_M_work 118 = .ok (.goto 112, 3) := by decide +kernel
theorem d_M_work_121 : decode b_M_work 121 = .ok (.aload_n 0, 1) := by decide +kernel
theorem d_M_work_122 : decode b_M_work 122 = .ok (.getfield 46, 3) := by decide +kernel
theorem d_M_work_125 : decode b_M_work 125 = .ok (.iload_n 3, 1) := by decide +kernel
theorem d_M_work_126 : decode b_M_work 126 = .ok (.aload_n 0, 1) := by decide +kernel
theorem d_M_work_127 : decode b_M_work 127 = .ok (.getfield 7, 3) := by decide +kernel
theorem d_M_work_130 : decode b_M_work 130 = .ok (.iload 5, 2) := by decide +kernel
theorem d_M_work_132 : decode b_M_work 132 = .ok (.iaload, 1) := by decide +kernel
theorem d_M_work_133 : decode b_M_work 133 = .ok (.iastore, 1) := by decide +kernel
theorem d_M_work_134 : decode b_M_work 134 = .ok (.goto 96, 3) := by decide +kernel
theorem d_M_work_137 : decode b_M_work 137 = .ok (.aload_n 0, 1) := by decide +kernel
theorem d_M_work_138 : decode b_M_work 138 = .ok (.getfield 7, 3) := by decide +kernel
theorem d_M_work_141 : decode b_M_work 141 = .ok (.iload 5, 2) := by decide +kernel
theorem d_M_work_143 : decode b_M_work 143 = .ok (.aload_n 0, 1) := by decide +kernel
theorem d_M_work_144 : decode b_M_work 144 = .ok (.getfield 46, 3) := by decide +kernel
theorem d_M_work_147 : decode b_M_work 147 = .ok (.iload_n 3, 1) := by decide +kernel
theorem d_M_work_148 : decode b_M_work 148 = .ok (.iaload, 1) := by decide +kernel
theorem d_M_work_149 : decode b_M_work 149 = .ok (.iastore, 1) := by decide +kernel
theorem d_M_work_150 : decode b_M_work 150 = .ok (.goto 80, 3) := by decide +kernel
theorem d_M_work_153 : decode b_M_work 153 = .ok (.aload_n 0, 1) := by decide +kernel
theorem d_M_work_154 : decode b_M_work 154 = .ok (.getfield 46, 3) := by decide +kernel
theorem d_M_work_157 : decode b_M_work 157 = .ok (.iload_n 3, 1) := by decide +kernel
theorem d_M_work_158 : decode b_M_work 158 = .ok (.iload 6, 2) := by decide +kernel
theorem d_M_work_160 : decode b_M_work 160 = .ok (.iconst 1, 1) := by decide +kernel
theorem d_M_work_161 : decode b_M_work 161 = .ok (.iadd, 1) := by decide +kernel
theorem d_M_work_162 : decode b_M_work 162 = .ok (.iastore, 1) := by decide +kernel
theorem d_M_work_163 : decode b_M_work 163 = .ok (.goto 67, 3) := by decide +kernel
theorem d_M_work_166 : decode b_M_work 166 = .ok (.aload_n 0, 1) := by decide +kernel
theorem d_M_work_167 : decode b_M_work 167 = .ok (.getfield 46, 3) := by decide +kernel
theorem d_M_work_170 : decode b_M_work 170 = .ok (.iload_n 3, 1) := by decide +kernel
theorem d_M_work_171 : decode b_M_work 171 = .ok (.aload_n 0, 1) := by decide +kernel
theorem d_M_work_172 : decode b_M_work 172 = .ok (.aload_n 0, 1) := by decide +kernel
theorem d_M_work_173 : decode b_M_work 173 = .ok (.getfield 37, 3) := by decide +kernel
theorem d_M_work_176 : decode b_M_work 176 = .ok (.iload 7, 2) := by decide +kernel
theorem d_M_work_178 : decode b_M_work 178 = .ok (.iaload, 1) := by decide +kernel
theorem d_M_work_179 : decode b_M_work 179 = .ok (.aload_n 0, 1) := by decide +kernel
theorem d_M_work_180 : decode b_M_work 180 = .ok (.getfield 46, 3) := by decide +kernel
theorem d_M_work_183 : decode b_M_work 183 = .ok (.iload 4, 2) := by decide +kernel
theorem d_M_work_185 : decode b_M_work 185 = .ok (.iaload, 1) := by decide +kernel
theorem d_M_work_186 : decode b_M_work 186 = .ok (.invokevirtual 103, 3) := by decide +kernel
theorem d_M_work_189 : decode b_M_work 189 = .ok (.iastore, 1) := by decide +kernel
theorem d_M_work_190 : decode b_M_work 190 = .ok (.goto 40, 3) := by decide +kernel
theorem d_M_work_193 : decode b_M_work 193 = .ok (.aload_n 0, 1) := by decide +kernel
theorem d_M_work_194 : decode b_M_work 194 = .ok (.getfield 46, 3) := by decide +kernel
theorem d_M_work_197 : decode b_M_work 197 = .ok (.iload_n 3, 1) := by decide +kernel
theorem d_M_work_198 : decode b_M_work 198 = .ok (.aload_n 0, 1) := by decide +kernel
theorem d_M_work_199 : decode b_M_work 199 = .ok (.getfield 49, 3) := by decide +kernel
theorem d_M_work_202 : decode b_M_work 202 = .ok (.bipush 7, 2) := by decide +kernel
theorem d_M_work_204 : decode b_M_work 204 = .ok (.invokestatic 54, 3) := by decide +kernel
theorem d_M_work_207 : decode b_M_work 207 = .ok (.aload_n 0, 1) := by decide +kernel
theorem d_M_work_208 : decode b_M_work 208 = .ok (.getfield 37, 3) := by decide +kernel
theorem d_M_work_211 : decode b_M_work 211 = .ok (.iload 7, 2) := by decide +kernel
theorem d_M_work_213 : decode b_M_work 213 = .ok (.iaload, 1) := by decide +kernel
theorem d_M_work_214 : decode b_M_work 214 = .ok (.invokestatic 54, 3) := by decide +kernel
theorem d_M_work_217 : decode b_M_work 217 = .ok (.iastore, 1) := by decide +kernel
theorem d_M_work_218 : decode b_M_work 218 = .ok (.goto 12, 3) := by decide +kernel
theorem d_M_work_221 : decode b_M_work 221 = .ok (.aload_n 0, 1) := by decide +kernel
theorem d_M_work_222 : decode b_M_work 222 = .ok (.iload_n 1, 1) := by decide +kernel
theorem d_M_work_223 : decode b_M_work 223 = .ok (.iconst 3, 1) := by decide +kernel
theorem d_M_work_224 : decode b_M_work 224 = .ok (.invokevirtual 91, 3) := by decide +kernel
theorem d_M_work_227 : decode b_M_work 227 = .ok (.goto 3, 3) := by decide +kernel
theorem d_M_work_230 : decode b_M_work 230 = .ok (.return_, 1) := by decide +kernel
theorem d_M_step_0 : decode b_M_step 0 = .ok (.iload_n 1, 1) := by decide +kernel
theorem d_M_step_1 : decode b_M_step 1 = .ok (.invokestatic 58, 3) := by decide +kernel
theorem d_M_step_4 : decode b_M_step 4 = .ok (.ifCond .eq 23, 3) := by decide +kernel
theorem d_M_step_7 : decode b_M_step 7 = .ok (.aload_n 0, 1) := by decide +kernel
theorem d_M_step_8 : decode b_M_step 8 = .ok (.getfield 19, 3) := by decide +kernel
theorem d_M_step_11 : decode b_M_step 11 = .ok (.iload_n 1, 1) := by decide +kernel
theorem d_M_step_12 : decode b_M_step 12 = .ok (.iaload, 1) := by decide +kernel
theorem d_M_step_13 : decode b_M_step 13 = .ok (.ifCond .lt 14, 3) := by decide +kernel
theorem d_M_step_16 : decode b_M_step 16 = .ok (.iload_n 2, 1) := by decide +kernel
theorem d_M_step_17 : decode b_M_step 17 = .ok (.iconst 1, 1) := by decide +kernel
theorem d_M_step_18 : decode b_M_step 18 = .ok (.if_icmp .lt 9, 3) := by decide +kernel
theorem d_M_step_21 : decode b_M_step 21 = .ok (.iload_n 2, 1) := by decide +kernel
theorem d_M_step_22 : decode b_M_step 22 = .ok (.bipush 100, 2) := by decide +kernel
theorem d_M_step_24 : decode b_M_step 24 = .ok (.if_icmp .le 5, 3) := by decide +kernel
theorem d_M_step_27 : decode b_M_step 27 = .ok (.iconst (-1), 1) := by decide +kernel
theorem d_M_step_28 : decode b_M_step 28 = .ok (.ireturn, 1) := by decide +kernel
theorem d_M_step_29 : decode b_M_step 29 = .ok (.iconst 0, 1) := by decide +kernel
theorem d_M_step_30 : decode b_M_step 30 = .ok (.istore_n 3, 1) := by decide +kernel
theorem d_M_step_31 : decode b_M_step 31 = .ok (.iload_n 3, 1) := by decide +kernel
theorem d_M_step_32 : decode b_M_step 32 = .ok (.iload_n 2, 1) := by decide +kernel
theorem d_M_step_33 : decode b_M_step 33 = .ok (.if_icmp .ge 23, 3) := by decide +kernel
theorem d_M_step_36 : decode b_M_step 36 = .ok (.aload_n 0, 1) := by decide +kernel
theorem d_M_step_37 : decode b_M_step 37 = .ok (.getfield 19, 3) := by decide +kernel
theorem d_M_step_40 : decode b_M_step 40 = .ok (.iload_n 1, 1) := by decide +kernel
theorem d_M_step_41 : decode b_M_step 41 = .ok (.iaload, 1) := by decide +kernel
theorem d_M_step_42 : decode b_M_step 42 = .ok (.ifCond .lt 14, 3) := by decide +kernel
theorem d_M_step_45 : decode b_M_step 45 = .ok (.aload_n 0, 1) := by decide +kernel
theorem d_M_step_46 : decode b_M_step 46 = .ok (.iload_n 1, 1) := by decide +kernel
theorem d_M_step_47 : decode b_M_step 47 = .ok (.invokevirtual 106, 3) := by decide +kernel
theorem d_M_step_50 : decode b_M_step 50 = .ok (.iinc 3 1, 3) := by decide +kernel
theorem d_M_step_53 : decode b_M_step 53 = .ok (.goto (-22), 3) := by decide +kernel
theorem d_M_step_56 : decode b_M_step 56 = .ok (.iload_n 3, 1) := by decide +kernel
theorem d_M_step_57 : decode b_M_step 57 = .ok (.ireturn, 1) := by decide +kernel
theorem d_M_interrupt_0 : decode b_M_interrupt 0 = .ok (.iload_n 1, 1) := by decide +kernel
theorem d_M_interrupt_1 : decode b_M_interrupt 1 = .ok (.invokestatic 58, 3) := by decide +kernel
theorem d_M_interrupt_4 : decode b_M_interrupt 4 = .ok (.ifCond .eq 12, 3) := by decide +kernel
theorem d_M_interrupt_7 : decode b_M_interrupt 7 = .ok (.aload_n 0, 1) := by decide +kernel
theorem d_M_interrupt_8 : decode b_M_interrupt 8 = .ok (.getfield 19, 3) := by decide +kernel
theorem d_M_interrupt_11 : decode b_M_interrupt 11 = .ok (.iload_n 1, 1) := by decide +kernel
theorem d_M_interrupt_12 : decode b_M_interrupt 12 = .ok (.iaload, 1) := by decide +kernel
theorem d_M_interrupt_13 : decode b_M_interrupt 13 = .ok (.ifCond .ge 5, 3) := by decide +kernel
theorem d_M_interrupt_16 : decode b_M_interrupt 16 = .ok (.iconst (-1), 1) := by decide +kernel
theorem d_M_interrupt_17 : decode b_M_interrupt 17 = .ok (.ireturn, 1) := by decide +kernel
theorem d_M_interrupt_18 : decode b_M_interrupt 18 = .ok (.aload_n 0, 1) := by decide +kernel
theorem d_M_interrupt_19 : decode b_M_interrupt 19 = .ok (.getfield 19, 3) := by decide +kernel
theorem d_M_interrupt_22 : decode b_M_interrupt 22 = .ok (.iload_n 1, 1) := by decide +kernel
theorem d_M_interrupt_23 : decode b_M_interrupt 23 = .ok (.iaload, 1) := by decide +kernel
theorem d_M_interrupt_24 : decode b_M_interrupt 24 = .ok (.istore_n 2, 1) := by decide +kernel
theorem d_M_interrupt_25 : decode b_M_interrupt 25 = .ok (.aload_n 0, 1) := by decide +kernel
theorem d_M_interrupt_26 : decode b_M_interrupt 26 = .ok (.iload_n 1, 1) := by decide +kernel
theorem d_M_interrupt_27 : decode b_M_interrupt 27 = .ok (.iconst 3, 1) := by decide +kernel
theorem d_M_interrupt_28 : decode b_M_interrupt 28 = .ok (.invokevirtual 91, 3) := by decide +kernel
theorem d_M_interrupt_31 : decode b_M_interrupt 31 = .ok (.iload_n 2, 1) := by decide +kernel
theorem d_M_interrupt_32 : decode b_M_interrupt 32 = .ok (.ireturn, 1) := by decide +kernel
theorem d_M_destroy_0 : decode b_M_destroy 0 = .ok (.aload_n 0, 1) := by decide +kernel
theorem d_M_destroy_1 : decode b_M_destroy 1 = .ok (.iload_n 1, 1) := by decide +kernel
theorem d_M_destroy_2 : decode b_M_destroy 2 = .ok (.invokevirtual 66, 3) := by decide +kernel
theorem d_M_destroy_5 : decode b_M_destroy 5 = .ok (.ifCond .eq 5, 3) := by decide +kernel
theorem d_M_destroy_8 : decode b_M_destroy 8 = .ok (.iconst (-1), 1) := by decide +kernel
theorem d_M_destroy_9 : decode b_M_destroy 9 = .ok (.ireturn, 1) := by decide +kernel
theorem d_M_destroy_10 : decode b_M_destroy 10 = .ok (.aload_n 0, 1) := by decide +kernel
theorem d_M_destroy_11 : decode b_M_destroy 11 = .ok (.iload_n 2, 1) := by decide +kernel
theorem d_M_destroy_12 : decode b_M_destroy 12 = .ok (.invokevirtual 88, 3) := by decide +kernel
theorem d_M_destroy_15 : decode b_M_destroy 15 = .ok (.ifCond .ne 6, 3) := by decide +kernel
theorem d_M_destroy_18 : decode b_M_destroy 18 = .ok (.bipush (-2), 2) := by decide +kernel
theorem d_M_destroy_20 : decode b_M_destroy 20 = .ok (.ireturn, 1) := by decide +kernel
theorem d_M_destroy_21 : decode b_M_destroy 21 = .ok (.aload_n 0, 1) := by decide +kernel
theorem d_M_destroy_22 : decode b_M_destroy 22 = .ok (.getfield 22, 3) := by decide +kernel
theorem d_M_destroy_25 : decode b_M_destroy 25 = .ok (.iload_n 2, 1) := by decide +kernel
theorem d_M_destroy_26 : decode b_M_destroy 26 = .ok (.iaload, 1) := by decide +kernel
theorem d_M_destroy_27 : decode b_M_destroy 27 = .ok (.iconst 2, 1) := by decide +kernel
theorem d_M_destroy_28 : decode b_M_destroy 28 = .ok (.if_icmp .ne 6, 3) := by decide +kernel
theorem d_M_destroy_31 : decode b_M_destroy 31 = .ok (.bipush (-3), 2) := by decide +kernel
theorem d_M_destroy_33 : decode b_M_destroy 33 = .ok (.ireturn, 1) := by decide +kernel
theorem d_M_destroy_34 : decode b_M_destroy 34 = .ok (.iconst 0, 1) := by decide +kernel
theorem d_M_destroy_35 : decode b_M_destroy 35 = .ok (.istore_n 3, 1) := by decide +kernel
theorem d_M_destroy_36 : decode b_M_destroy 36 = .ok (.iload_n 3, 1) := by decide +kernel
theorem d_M_destroy_37 : decode b_M_destroy 37 = .ok (.sipush 256, 3) := by decide +kernel
theorem d_M_destroy_40 : decode b_M_destroy 40 = .ok (.if_icmp .ge 40, 3) := by decide +kernel
theorem d_M_destroy_43 : decode b_M_destroy 43 = .ok (.aload_n 0, 1) := by decide +kernel
theorem d_M_destroy_44 : decode b_M_destroy 44 = .ok (.getfield 7, 3) := by decide +kernel
theorem d_M_destroy_47 : decode b_M_destroy 47 = .ok (.iload_n 3, 1) := by decide +kernel
theorem d_M_destroy_48 : decode b_M_destroy 48 = .ok (.aload_n 0, 1) := by decide +kernel
theorem d_M_destroy_49 : decode b_M_destroy 49 = .ok (.getfield 13, 3) := by decide +kernel
theorem d_M_destroy_52 : decode b_M_destroy 52 = .ok (.iload_n 3, 1) := by decide +kernel
theorem d_M_destroy_53 : decode b_M_destroy 53 = .ok (.bipush 16, 2) := by decide +kernel
theorem d_M_destroy_55 : decode b_M_destroy 55 = .ok (.idiv, 1) := by decide +kernel
theorem d_M_destroy_56 : decode b_M_destroy 56 = .ok (.iaload, 1) := by decide +kernel
theorem d_M_destroy_57 : decode b_M_destroy 57 = .ok (.iconst 2, 1) := by decide +kernel
theorem d_M_destroy_58 : decode b_M_destroy 58 = .ok (.iload_n 2, 1) := by decide +kernel
theorem d_M_destroy_59 : decode b_M_destroy 59 = .ok (.iadd, 1) := by decide +kernel
theorem d_M_destroy_60 : decode b_M_destroy 60 = .ok (.if_icmp .ne 7, 3) := by decide +kernel
theorem d_M_destroy_63 : decode b_M_destroy 63 = .ok (.iconst 0, 1) := by decide +kernel
theorem d_M_destroy_64 : decode b_M_destroy 64 = .ok (.goto 9, 3) := by decide +kernel
theorem d_M_destroy_67 : decode b_M_destroy 67 = .ok (.aload_n 0, 1) := by decide +kernel
theorem d_M_destroy_68 : decode b_M_destroy 68 = .ok (.getfield 7, 3) := by decide +kernel
theorem d_M_destroy_71 : decode b_M_destroy 71 = .ok (.iload_n 3, 1) := by decide +kernel
theorem d_M_destroy_72 : decode b_M_destroy 72 = .ok (.iaload, 1) := by decide +kernel
theorem d_M_destroy_73 : decode b_M_destroy 73 = .ok (.iastore, 1) := by decide +kernel
theorem d_M_destroy_74 : decode b_M_destroy 74 = .ok (.iinc 3 1, 3) := by decide +kernel
theorem d_M_destroy_77 : decode b_M_destroy 77 = .ok (.goto (-41), 3) := by decide +kernel
theorem d_M_destroy_80 : decode b_M_destroy 80 = .ok (.iconst 0, 1) := by decide +kernel
theorem d_M_destroy_81 : decode b_M_destroy 81 = .ok (.istore_n 3, 1) := by decide +kernel
theorem d_M_destroy_82 : decode b_M_destroy 82 = .ok (.iload_n 3, 1) := by decide +kernel
theorem d_M_destroy_83 : decode b_M_destroy 83 = .ok (.bipush 16, 2) := by decide +kernel
theorem d_M_destroy_85 : decode b_M_destroy 85 = .ok (.if_icmp .ge 37, 3) := by decide +kernel
theorem d_M_destroy_88 : decode b_M_destroy 88 = .ok (.aload_n 0, 1) := by decide +kernel
theorem d_M_destroy_89 : decode b_M_destroy 89 = .ok (.getfield 13, 3) := by decide +kernel
theorem d_M_destroy_92 : decode b_M_destroy 92 = .ok (.iload_n 3, 1) := by decide +kernel
theorem d_M_destroy_93 : decode b_M_destroy 93 = .ok (.aload_n 0, 1) := by decide +kernel
theorem d_M_destroy_94 : decode b_M_destroy 94 = .ok (.getfield 13, 3) := by decide +kernel
theorem d_M_destroy_97 : decode b_M_destroy 97 = .ok (.iload_n 3, 1) := by decide +kernel
theorem d_M_destroy_98 : decode b_M_destroy 98 = .ok (.iaload, 1) := by decide +kernel
theorem d_M_destroy_99 : decode b_M_destroy 99 = .ok (.iconst 2, 1) := by decide +kernel
theorem d_M_destroy_100 : decode b_M_destroy 100 = .ok (.iload_n 2, 1) := by decide +kernel
theorem d_M_destroy_101 : decode b_M_destroy 101 = .ok (.iadd, 1) := by decide +kernel
theorem d_M_destroy_102 : decode b_M_destroy 102 = .ok (.if_icmp .ne 7, 3) := by decide +kernel
theorem d_M_destroy_105 : decode b_M_destroy 105 = .ok (.iconst 1, 1) := by decide +kernel
theorem d_M_destroy_106 : decode b_M_destroy 106 = .ok (.goto 9, 3) := by decide +kernel
theorem d_M_destroy_109 : decode b_M_destroy 109 = .ok (.aload_n 0, 1) := by decide +kernel
theorem d_M_destroy_110 : decode b_M_destroy 110 = .ok (.getfield 13, 3) := by decide +kernel
theorem d_M_destroy_113 : decode b_M_destroy 113 = .ok (.iload_n 3, 1) := by decide +kernel
theorem d_M_destroy_114 : decode b_M_destroy 114 = .ok (.iaload, 1) := by decide +kernel
theorem d_M_destroy_115 : decode b_M_destroy 115 = .ok (.iastore, 1) := by decide +kernel
theorem d_M_destroy_116 : decode b_M_destroy 116 = .ok (.iinc 3 1, 3) := by decide +kernel
theorem d_M_destroy_119 : decode b_M_destroy 119 = .ok (.goto (-37), 3) := by decide +kernel
theorem d_M_destroy_122 : decode b_M_destroy 122 = .ok (.aload_n 0, 1) := by decide +kernel
theorem d_M_destroy_123 : decode b_M_destroy 123 = .ok (.getfield 22, 3) := by decide +kernel
theorem d_M_destroy_126 : decode b_M_destroy 126 = .ok (.iload_n 2, 1) := by decide +kernel
theorem d_M_destroy_127 : decode b_M_destroy 127 = .ok (.iconst 0, 1) := by decide +kernel
theorem d_M_destroy_128 : decode b_M_destroy 128 = .ok (.iastore, 1) := by decide +kernel
theorem d_M_destroy_129 : decode b_M_destroy 129 = .ok (.iconst 0, 1) := by decide +kernel
theorem d_M_destroy_130 : decode b_M_destroy 130 = .ok (.ireturn, 1) := by decide +kernel
theorem d_M_state_0 : decode b_M_state 0 = .ok (.iload_n 1, 1) := by decide +kernel
theorem d_M_state_1 : decode b_M_state 1 = .ok (.ifCond .lt 8, 3) := by decide +kernel
theorem d_M_state_4 : decode b_M_state 4 = .ok (.iload_n 1, 1) := by decide +kernel
theorem d_M_state_5 : decode b_M_state 5 = .ok (.iconst 3, 1) := by decide +kernel
theorem d_M_state_6 : decode b_M_state 6 = .ok (.if_icmp .le 7, 3) := by decide +kernel
theorem d_M_state_9 : decode b_M_state 9 = .ok (.iconst (-1), 1) := by decide +kernel
theorem d_M_state_10 : decode b_M_state 10 = .ok (.goto 9, 3) := by decide +kernel
theorem d_M_state_13 : decode b_M_state 13 = .ok (.aload_n 0, 1) := by decide +kernel
theorem d_M_state_14 : decode b_M_state 14 = .ok (.getfield 22, 3) := by decide +kernel
theorem d_M_state_17 : decode b_M_state 17 = .ok (.iload_n 1, 1) := by decide +kernel
theorem d_M_state_18 : decode b_M_state 18 = .ok (.iaload, 1) := by decide +kernel
theorem d_M_state_19 : decode b_M_state 19 = .ok (.ireturn, 1) := by decide +kernel
theorem d_M_released_0 : decode b_M_released 0 = .ok (.aload_n 0, 1) := by decide +kernel
theorem d_M_released_1 : decode b_M_released 1 = .ok (.iload_n 1, 1) := by decide +kernel
theorem d_M_released_2 : decode b_M_released 2 = .ok (.invokevirtual 88, 3) := by decide +kernel
theorem d_M_released_5 : decode b_M_released 5 = .ok (.ifCond .eq 23, 3) := by decide +kernel
theorem d_M_released_8 : decode b_M_released 8 = .ok (.aload_n 0, 1) := by decide +kernel
theorem d_M_released_9 : decode b_M_released 9 = .ok (.getfield 22, 3) := by decide +kernel
theorem d_M_released_12 : decode b_M_released 12 = .ok (.iload_n 1, 1) := by decide +kernel
theorem d_M_released_13 : decode b_M_released 13 = .ok (.iaload, 1) := by decide +kernel
theorem d_M_released_14 : decode b_M_released 14 = .ok (.iconst 4, 1) := by decide +kernel
theorem d_M_released_15 : decode b_M_released 15 = .ok (.if_icmp .lt 13, 3) := by decide +kernel
theorem d_M_released_18 : decode b_M_released 18 = .ok (.aload_n 0, 1) := by decide +kernel
theorem d_M_released_19 : decode b_M_released 19 = .ok (.getfield 40, 3) := by decide +kernel
theorem d_M_released_22 : decode b_M_released 22 = .ok (.iload_n 1, 1) := by decide +kernel
theorem d_M_released_23 : decode b_M_released 23 = .ok (.iaload, 1) := by decide +kernel
theorem d_M_released_24 : decode b_M_released 24 = .ok (.i2l, 1) := by decide +kernel
theorem d_M_released_25 : decode b_M_released 25 = .ok (.goto 6, 3) := by decide +kernel
theorem d_M_released_28 : decode b_M_released 28 = .ok (.ldc2_w 69, 3) := by decide +kernel
theorem d_M_released_31 : decode b_M_released 31 = .ok (.lreturn, 1) := by decide +kernel
theorem d_M_measurement_0 : decode b_M_measurement 0 = .ok (.aload_n 0, 1) := by decide +kernel
theorem d_M_measurement_1 : decode b_M_measurement 1 = .ok (.iload_n 1, 1) := by decide +kernel
theorem d_M_measurement_2 : decode b_M_measurement 2 = .ok (.invokevirtual 88, 3) := by decide +kernel
theorem d_M_measurement_5 : decode b_M_measurement 5 = .ok (.ifCond .eq 13, 3) := by decide +kernel
theorem d_M_measurement_8 : decode b_M_measurement 8 = .ok (.aload_n 0, 1) := by decide +kernel
theorem d_M_measurement_9 : decode b_M_measurement 9 = .ok (.getfield 37, 3) := by decide +kernel
theorem d_M_measurement_12 : decode b_M_measurement 12 = .ok (.iload_n 1, 1) := by decide +kernel
theorem d_M_measurement_13 : decode b_M_measurement 13 = .ok (.iaload, 1) := by decide +kernel
theorem d_M_measurement_14 : decode b_M_measurement 14 = .ok (.i2l, 1) := by decide +kernel
theorem d_M_measurement_15 : decode b_M_measurement 15 = .ok (.goto 6, 3) := by decide +kernel
theorem d_M_measurement_18 : decode b_M_measurement 18 = .ok (.ldc2_w 69, 3) := by decide +kernel
theorem d_M_measurement_21 : decode b_M_measurement 21 = .ok (.lreturn, 1) := by decide +kernel
theorem d_M_verify_0 : decode b_M_verify 0 = .ok (.iload_n 3, 1) := by decide +kernel
theorem d_M_verify_1 : decode b_M_verify 1 = .ok (.aload_n 0, 1) := by decide +kernel
theorem d_M_verify_2 : decode b_M_verify 2 = .ok (.iload_n 1, 1) := by decide +kernel
theorem d_M_verify_3 : decode b_M_verify 3 = .ok (.iload_n 2, 1) := by decide +kernel
theorem d_M_verify_4 : decode b_M_verify 4 = .ok (.invokevirtual 103, 3) := by decide +kernel
theorem d_M_verify_7 : decode b_M_verify 7 = .ok (.if_icmp .ne 7, 3) := by decide +kernel
theorem d_M_verify_10 : decode b_M_verify 10 = .ok (.iconst 1, 1) := by decide +kernel
theorem d_M_verify_11 : decode b_M_verify 11 = .ok (.goto 4, 3) := by decide +kernel
theorem d_M_verify_14 : decode b_M_verify 14 = .ok (.iconst 0, 1) := by decide +kernel
theorem d_M_verify_15 : decode b_M_verify 15 = .ok (.ireturn, 1) := by decide +kernel
theorem d_M_running_0 : decode b_M_running 0 = .ok (.iload_n 1, 1) := by decide +kernel
theorem d_M_running_1 : decode b_M_running 1 = .ok (.invokestatic 58, 3) := by decide +kernel
theorem d_M_running_4 : decode b_M_running 4 = .ok (.ifCond .eq 12, 3) := by decide +kernel
theorem d_M_running_7 : decode b_M_running 7 = .ok (.aload_n 0, 1) := by decide +kernel
theorem d_M_running_8 : decode b_M_running 8 = .ok (.getfield 19, 3) := by decide +kernel
theorem d_M_running_11 : decode b_M_running 11 = .ok (.iload_n 1, 1) := by decide +kernel
theorem d_M_running_12 : decode b_M_running 12 = .ok (.iaload, 1) := by decide +kernel
theorem d_M_running_13 : decode b_M_running 13 = .ok (.goto 5, 3) := by decide +kernel
theorem d_M_running_16 : decode b_M_running 16 = .ok (.bipush (-2), 2) := by decide +kernel
theorem d_M_running_18 : decode b_M_running 18 = .ok (.ireturn, 1) := by decide +kernel
theorem d_M_owner_0 : decode b_M_owner 0 = .ok (.iload_n 1, 1) := by decide +kernel
theorem d_M_owner_1 : decode b_M_owner 1 = .ok (.ifCond .lt 9, 3) := by decide +kernel
theorem d_M_owner_4 : decode b_M_owner 4 = .ok (.iload_n 1, 1) := by decide +kernel
theorem d_M_owner_5 : decode b_M_owner 5 = .ok (.bipush 15, 2) := by decide +kernel
theorem d_M_owner_7 : decode b_M_owner 7 = .ok (.if_icmp .le 7, 3) := by decide +kernel
theorem d_M_owner_10 : decode b_M_owner 10 = .ok (.iconst (-1), 1) := by decide +kernel
theorem d_M_owner_11 : decode b_M_owner 11 = .ok (.goto 9, 3) := by decide +kernel
theorem d_M_owner_14 : decode b_M_owner 14 = .ok (.aload_n 0, 1) := by decide +kernel
theorem d_M_owner_15 : decode b_M_owner 15 = .ok (.getfield 13, 3) := by decide +kernel
theorem d_M_owner_18 : decode b_M_owner 18 = .ok (.iload_n 1, 1) := by decide +kernel
theorem d_M_owner_19 : decode b_M_owner 19 = .ok (.iaload, 1) := by decide +kernel
theorem d_M_owner_20 : decode b_M_owner 20 = .ok (.ireturn, 1) := by decide +kernel
theorem d_M_shown_0 : decode b_M_shown 0 = .ok (.iload_n 0, 1) := by decide +kernel
theorem d_M_shown_1 : decode b_M_shown 1 = .ok (.ifCond .ne 7, 3) := by decide +kernel
theorem d_M_shown_4 : decode b_M_shown 4 = .ok (.iload_n 1, 1) := by decide +kernel
theorem d_M_shown_5 : decode b_M_shown 5 = .ok (.goto 13, 3) := by decide +kernel
theorem d_M_shown_8 : decode b_M_shown 8 = .ok (.iload_n 0, 1) := by decide +kernel
theorem d_M_shown_9 : decode b_M_shown 9 = .ok (.iconst 1, 1) := by decide +kernel
theorem d_M_shown_10 : decode b_M_shown 10 = .ok (.if_icmp .ne 7, 3) := by decide +kernel
theorem d_M_shown_13 : decode b_M_shown 13 = .ok (.iload_n 2, 1) := by decide +kernel
theorem d_M_shown_14 : decode b_M_shown 14 = .ok (.goto 4, 3) := by decide +kernel
theorem d_M_shown_17 : decode b_M_shown 17 = .ok (.iload_n 3, 1) := by decide +kernel
theorem d_M_shown_18 : decode b_M_shown 18 = .ok (.ireturn, 1) := by decide +kernel
theorem d_M_guard_0 : decode b_M_guard 0 = .ok (.iload_n 1, 1) := by decide +kernel
theorem d_M_guard_1 : decode b_M_guard 1 = .ok (.invokestatic 58, 3) := by decide +kernel
theorem d_M_guard_4 : decode b_M_guard 4 = .ok (.ifCond .eq 22, 3) := by decide +kernel
theorem d_M_guard_7 : decode b_M_guard 7 = .ok (.iload_n 2, 1) := by decide +kernel
theorem d_M_guard_8 : decode b_M_guard 8 = .ok (.ifCond .lt 18, 3) := by decide +kernel
theorem d_M_guard_11 : decode b_M_guard 11 = .ok (.iload_n 2, 1) := by decide +kernel
theorem d_M_guard_12 : decode b_M_guard 12 = .ok (.bipush 10, 2) := by decide +kernel
theorem d_M_guard_14 : decode b_M_guard 14 = .ok (.if_icmp .gt 12, 3) := by decide +kernel
theorem d_M_guard_17 : decode b_M_guard 17 = .ok (.iload_n 3, 1) := by decide +kernel
theorem d_M_guard_18 : decode b_M_guard 18 = .ok (.ifCond .lt 8, 3) := by decide +kernel
theorem d_M_guard_21 : decode b_M_guard 21 = .ok (.iload_n 3, 1) := by decide +kernel
theorem d_M_guard_22 : decode b_M_guard 22 = .ok (.iconst 2, 1) := by decide +kernel
theorem d_M_guard_23 : decode b_M_guard 23 = .ok (.if_icmp .le 5, 3) := by decide +kernel
theorem d_M_guard_26 : decode b_M_guard 26 = .ok (.iconst (-1), 1) := by decide +kernel
theorem d_M_guard_27 : decode b_M_guard 27 = .ok (.ireturn, 1) := by decide +kernel
theorem d_M_guard_28 : decode b_M_guard 28 = .ok (.aload_n 0, 1) := by decide +kernel
theorem d_M_guard_29 : decode b_M_guard 29 = .ok (.getfield 19, 3) := by decide +kernel
theorem d_M_guard_32 : decode b_M_guard 32 = .ok (.iload_n 1, 1) := by decide +kernel
theorem d_M_guard_33 : decode b_M_guard 33 = .ok (.iaload, 1) := by decide +kernel
theorem d_M_guard_34 : decode b_M_guard 34 = .ok (.istore 4, 2) := by decide +kernel
theorem d_M_guard_36 : decode b_M_guard 36 = .ok (.iload_n 2, 1) := by decide +kernel
theorem d_M_guard_37 : decode b_M_guard 37 = .ok (.ifCond .ne 12, 3) := by decide +kernel
theorem d_M_guard_40 : decode b_M_guard 40 = .ok (.iload_n 3, 1) := by decide +kernel
theorem d_M_guard_41 : decode b_M_guard 41 = .ok (.iconst 3, 1) := by decide +kernel
theorem d_M_guard_42 : decode b_M_guard 42 = .ok (.iconst 0, 1) := by decide +kernel
theorem d_M_guard_43 : decode b_M_guard 43 = .ok (.bipush 7, 2) := by decide +kernel
theorem d_M_guard_45 : decode b_M_guard 45 = .ok (.invokestatic 110, 3) := by decide +kernel
theorem d_M_guard_48 : decode b_M_guard 48 = .ok (.ireturn, 1) := by decide +kernel
theorem d_M_guard_49 : decode b_M_guard 49 = .ok (.iload_n 2, 1) := by decide +kernel
theorem d_M_guard_50 : decode b_M_guard 50 = .ok (.bipush 10, 2) := by decide +kernel
theorem d_M_guard_52 : decode b_M_guard 52 = .ok (.if_icmp .ne 22, 3) := by decide +kernel
theorem d_M_guard_55 : decode b_M_guard 55 = .ok (.iload_n 3, 1) := by decide +kernel
theorem d_M_guard_56 : decode b_M_guard 56 = .ok (.iconst 3, 1) := by decide +kernel
theorem d_M_guard_57 : decode b_M_guard 57 = .ok (.iload 4, 2) := by decide +kernel
theorem d_M_guard_59 : decode b_M_guard 59 = .ok (.ifCond .ge 8, 3) := by decide +kernel
theorem d_M_guard_62 : decode b_M_guard 62 = .ok (.bipush 7, 2) := by decide +kernel
theorem d_M_guard_64 : decode b_M_guard 64 = .ok (.goto 4, 3) := by decide +kernel
theorem d_M_guard_67 : decode b_M_guard 67 = .ok (.iconst 0, 1) := by decide +kernel
theorem d_M_guard_68 : decode b_M_guard 68 = .ok (.bipush 127, 2) := by decide +kernel
theorem d_M_guard_70 : decode b_M_guard 70 = .ok (.invokestatic 110, 3) := by decide +kernel
theorem d_M_guard_73 : decode b_M_guard 73 = .ok (.ireturn, 1) := by decide +kernel
theorem d_M_guard_74 : decode b_M_guard 74 = .ok (.iload_n 2, 1) := by decide +kernel
theorem d_M_guard_75 : decode b_M_guard 75 = .ok (.bipush 9, 2) := by decide +kernel
theorem d_M_guard_77 : decode b_M_guard 77 = .ok (.if_icmp .ne 68, 3) := by decide +kernel
theorem d_M_guard_80 : decode b_M_guard 80 = .ok (.iload 4, 2) := by decide +kernel
theorem d_M_guard_82 : decode b_M_guard 82 = .ok (.ifCond .ge 7, 3) := by decide +kernel
theorem d_M_guard_85 : decode b_M_guard 85 = .ok (.iconst (-1), 1) := by decide +kernel
theorem d_M_guard_86 : decode b_M_guard 86 = .ok (.goto 10, 3) := by decide +kernel
theorem d_M_guard_89 : decode b_M_guard 89 = .ok (.aload_n 0, 1) := by decide +kernel
theorem d_M_guard_90 : decode b_M_guard 90 = .ok (.getfield 34, 3) := by decide +kernel
theorem d_M_guard_93 : decode b_M_guard 93 = .ok (.iload 4, 2) := by decide +kernel
theorem d_M_guard_95 : decode b_M_guard 95 = .ok (.iaload, 1) := by decide +kernel
theorem d_M_guard_96 : decode b_M_guard 96 = .ok (.istore 5, 2) := by decide +kernel
theorem d_M_guard_98 : decode b_M_guard 98 = .ok (.iload 5, 2) := by decide +kernel
theorem d_M_guard_100 : decode b_M_guard 100 = .ok (.ifCond .ge 7, 3) := by decide +kernel
theorem d_M_guard_103 : decode b_M_guard 103 = .ok (.iconst 0, 1) := by decide +kernel
theorem d_M_guard_104 : decode b_M_guard 104 = .ok (.goto 40, 3) := by decide +kernel
theorem d_M_guard_107 : decode b_M_guard 107 = .ok (.iload 5, 2) := by decide +kernel
theorem d_M_guard_109 : decode b_M_guard 109 = .ok (.sipush 256, 3) := by decide +kernel
theorem d_M_guard_112 : decode b_M_guard 112 = .ok (.if_icmp .ge 14, 3) := by decide +kernel
theorem d_M_guard_115 : decode b_M_guard 115 = .ok (.iload_n 3, 1) := by decide +kernel
theorem d_M_guard_116 : decode b_M_guard 116 = .ok (.iconst 2, 1) := by decide +kernel
theorem d_M_guard_117 : decode b_M_guard 117 = .ok (.iconst 3, 1) := by decide +kernel
theorem d_M_guard_118 : decode b_M_guard 118 = .ok (.iload 5, 2) := by decide +kernel
theorem d_M_guard_120 : decode b_M_guard 120 = .ok (.invokestatic 110, 3) := by decide +kernel
theorem d_M_guard_123 : decode b_M_guard 123 = .ok (.goto 21, 3) := by decide +kernel
theorem d_M_guard_126 : decode b_M_guard 126 = .ok (.iload_n 3, 1) := by decide +kernel
theorem d_M_guard_127 : decode b_M_guard 127 = .ok (.iconst 3, 1) := by decide +kernel
theorem d_M_guard_128 : decode b_M_guard 128 = .ok (.iconst 3, 1) := by decide +kernel
theorem d_M_guard_129 : decode b_M_guard 129 = .ok (.bipush 16, 2) := by decide +kernel
theorem d_M_guard_131 : decode b_M_guard 131 = .ok (.iload 5, 2) := by decide +kernel
theorem d_M_guard_133 : decode b_M_guard 133 = .ok (.sipush 256, 3) := by decide +kernel
theorem d_M_guard_136 : decode b_M_guard 136 = .ok (.isub, 1) := by decide +kernel
theorem d_M_guard_137 : decode b_M_guard 137 = .ok (.imul, 1) := by decide +kernel
theorem d_M_guard_138 : decode b_M_guard 138 = .ok (.bipush 7, 2) := by decide +kernel
theorem d_M_guard_140 : decode b_M_guard 140 = .ok (.iadd, 1) := by decide +kernel
theorem d_M_guard_141 : decode b_M_guard 141 = .ok (.invokestatic 110, 3) := by decide +kernel
theorem d_M_guard_144 : decode b_M_guard 144 = .ok (.ireturn, 1) := by decide +kernel
theorem d_M_guard_145 : decode b_M_guard 145 = .ok (.iload_n 2, 1) := by decide +kernel
theorem d_M_guard_146 : decode b_M_guard 146 = .ok (.iconst 1, 1) := by decide +kernel
theorem d_M_guard_147 : decode b_M_guard 147 = .ok (.isub, 1) := by decide +kernel
theorem d_M_guard_148 : decode b_M_guard 148 = .ok (.iconst 2, 1) := by decide +kernel
theorem d_M_guard_149 : decode b_M_guard 149 = .ok (.idiv, 1) := by decide +kernel
theorem d_M_guard_150 : decode b_M_guard 150 = .ok (.istore 5, 2) := by decide +kernel
theorem d_M_guard_152 : decode b_M_guard 152 = .ok (.aload_n 0, 1) := by decide +kernel
theorem d_M_guard_153 : decode b_M_guard 153 = .ok (.getfield 22, 3) := by decide +kernel
theorem d_M_guard_156 : decode b_M_guard 156 = .ok (.iload 5, 2) := by decide +kernel
theorem d_M_guard_158 : decode b_M_guard 158 = .ok (.iaload, 1) := by decide +kernel
theorem d_M_guard_159 : decode b_M_guard 159 = .ok (.ifCond .ne 5, 3) := by decide +kernel
theorem d_M_guard_162 : decode b_M_guard 162 = .ok (.iconst 0, 1) := by decide +kernel
theorem d_M_guard_163 : decode b_M_guard 163 = .ok (.ireturn, 1) := by decide +kernel
theorem d_M_guard_164 : decode b_M_guard 164 = .ok (.aload_n 0, 1) := by decide +kernel
theorem d_M_guard_165 : decode b_M_guard 165 = .ok (.getfield 28, 3) := by decide +kernel
theorem d_M_guard_168 : decode b_M_guard 168 = .ok (.iload 5, 2) := by decide +kernel
theorem d_M_guard_170 : decode b_M_guard 170 = .ok (.iaload, 1) := by decide +kernel
theorem d_M_guard_171 : decode b_M_guard 171 = .ok (.istore 6, 2) := by decide +kernel
theorem d_M_guard_173 : decode b_M_guard 173 = .ok (.bipush 16, 2) := by decide +kernel
theorem d_M_guard_175 : decode b_M_guard 175 = .ok (.aload_n 0, 1) := by decide +kernel
theorem d_M_guard_176 : decode b_M_guard 176 = .ok (.getfield 25, 3) := by decide +kernel
theorem d_M_guard_179 : decode b_M_guard 179 = .ok (.iload 5, 2) := by decide +kernel
theorem d_M_guard_181 : decode b_M_guard 181 = .ok (.iaload, 1) := by decide +kernel
theorem d_M_guard_182 : decode b_M_guard 182 = .ok (.imul, 1) := by decide +kernel
theorem d_M_guard_183 : decode b_M_guard 183 = .ok (.istore 7, 2) := by decide +kernel
theorem d_M_guard_185 : decode b_M_guard 185 = .ok (.iload 6, 2) := by decide +kernel
theorem d_M_guard_187 : decode b_M_guard 187 = .ok (.iconst 1, 1) := by decide +kernel
theorem d_M_guard_188 : decode b_M_guard 188 = .ok (.if_icmp .eq 22, 3) := by decide +kernel
theorem d_M_guard_191 : decode b_M_guard 191 = .ok (.iload 6, 2) := by decide +kernel
theorem d_M_guard_193 : decode b_M_guard 193 = .ok (.iconst 2, 1) := by decide +kernel
theorem d_M_guard_194 : decode b_M_guard 194 = .ok (.if_icmp .eq 16, 3) := by decide +kernel
theorem d_M_guard_197 : decode b_M_guard 197 = .ok (.iload 6, 2) := by decide +kernel
theorem d_M_guard_199 : decode b_M_guard 199 = .ok (.iconst 4, 1) := by decide +kernel
theorem d_M_guard_200 : decode b_M_guard 200 = .ok (.if_icmp .eq 10, 3) := by decide +kernel
theorem d_M_guard_203 : decode b_M_guard 203 = .ok (.iload 6, 2) := by decide +kernel
theorem d_M_guard_205 : decode b_M_guard 205 = .ok (.bipush 8, 2) := by decide +kernel
theorem d_M_guard_207 : decode b_M_guard 207 = .ok (.if_icmp .ne 20, 3) := by decide +kernel
theorem d_M_guard_210 : decode b_M_guard 210 = .ok (.aload_n 0, 1) := by decide +kernel
theorem d_M_guard_211 : decode b_M_guard 211 = .ok (.getfield 25, 3) := by decide +kernel
theorem d_M_guard_214 : decode b_M_guard 214 = .ok (.iload 5, 2) := by decide +kernel
theorem d_M_guard_216 : decode b_M_guard 216 = .ok (.iaload, 1) := by decide +kernel
theorem d_M_guard_217 : decode b_M_guard 217 = .ok (.iload 6, 2) := by decide +kernel
theorem d_M_guard_219 : decode b_M_guard 219 = .ok (.irem, 1) := by decide +kernel
theorem d_M_guard_220 : decode b_M_guard 220 = .ok (.ifCond .ne 7, 3) := by decide +kernel
theorem d_M_guard_223 : decode b_M_guard 223 = .ok (.iconst 1, 1) := by decide +kernel
theorem d_M_guard_224 : decode b_M_guard 224 = .ok (.goto 4, 3) := by decide +kernel
theorem d_M_guard_227 : decode b_M_guard 227 = .ok (.iconst 0, 1) := by decide +kernel
theorem d_M_guard_228 : decode b_M_guard 228 = .ok (.istore 8, 2) := by decide +kernel
theorem d_M_guard_230 : decode b_M_guard 230 = .ok (.iload_n 2, 1) := by decide +kernel
theorem d_M_guard_231 : decode b_M_guard 231 = .ok (.iconst 2, 1) := by decide +kernel
theorem d_M_guard_232 : decode b_M_guard 232 = .ok (.irem, 1) := by decide +kernel
theorem d_M_guard_233 : decode b_M_guard 233 = .ok (.iconst 1, 1) := by decide +kernel
theorem d_M_guard_234 : decode b_M_guard 234 = .ok (.if_icmp .ne 21, 3) := by decide +kernel
theorem d_M_guard_237 : decode b_M_guard 237 = .ok (.iload_n 3, 1) := by decide +kernel
theorem d_M_guard_238 : decode b_M_guard 238 = .ok (.iconst 0, 1) := by decide +kernel
theorem d_M_guard_239 : decode b_M_guard 239 = .ok (.iconst 0, 1) := by decide +kernel
theorem d_M_guard_240 : decode b_M_guard 240 = .ok (.iload 8, 2) := by decide +kernel
theorem d_M_guard_242 : decode b_M_guard 242 = .ok (.ifCond .eq 7, 3) := by decide +kernel
theorem d_M_guard_245 : decode b_M_guard 245 = .ok (.iconst 0, 1) := by decide +kernel
theorem d_M_guard_246 : decode b_M_guard 246 = .ok (.goto 5, 3) := by decide +kernel
theorem d_M_guard_249 : decode b_M_guard 249 = .ok (.iload 7, 2) := by decide +kernel
theorem d_M_guard_251 : decode b_M_guard 251 = .ok (.invokestatic 110, 3) := by decide +kernel
theorem d_M_guard_254 : decode b_M_guard 254 = .ok (.ireturn, 1) := by decide +kernel
theorem d_M_guard_255 : decode b_M_guard 255 = .ok (.iload 5, 2) := by decide +kernel
theorem d_M_guard_257 : decode b_M_guard 257 = .ok (.iload 4, 2) := by decide +kernel
theorem d_M_guard_259 : decode b_M_guard 259 = .ok (.if_icmp .ne 8, 3) := by decide +kernel
theorem d_M_guard_262 : decode b_M_guard 262 = .ok (.bipush 7, 2) := by decide +kernel
theorem d_M_guard_264 : decode b_M_guard 264 = .ok (.goto 4, 3) := by decide +kernel
theorem d_M_guard_267 : decode b_M_guard 267 = .ok (.iconst 0, 1) := by decide +kernel
theorem d_M_guard_268 : decode b_M_guard 268 = .ok (.istore 9, 2) := by decide +kernel
theorem d_M_guard_270 : decode b_M_guard 270 = .ok (.iload 8, 2) := by decide +kernel
theorem d_M_guard_272 : decode b_M_guard 272 = .ok (.ifCond .eq 23, 3) := by decide +kernel
theorem d_M_guard_275 : decode b_M_guard 275 = .ok (.iload_n 3, 1) := by decide +kernel
theorem d_M_guard_276 : decode b_M_guard 276 = .ok (.iconst 3, 1) := by decide +kernel
theorem d_M_guard_277 : decode b_M_guard 277 = .ok (.iload 9, 2) := by decide +kernel
theorem d_M_guard_279 : decode b_M_guard 279 = .ok (.iload 7, 2) := by decide +kernel
theorem d_M_guard_281 : decode b_M_guard 281 = .ok (.bipush 8, 2) := by decide +kernel
theorem d_M_guard_283 : decode b_M_guard 283 = .ok (.iload 6, 2) := by decide +kernel
theorem d_M_guard_285 : decode b_M_guard 285 = .ok (.imul, 1) := by decide +kernel
theorem d_M_guard_286 : decode b_M_guard 286 = .ok (.iadd, 1) := by decide +kernel
theorem d_M_guard_287 : decode b_M_guard 287 = .ok (.iconst 1, 1) := by decide +kernel
theorem d_M_guard_288 : decode b_M_guard 288 = .ok (.isub, 1) := by decide +kernel
theorem d_M_guard_289 : decode b_M_guard 289 = .ok (.invokestatic 110, 3) := by decide +kernel
theorem d_M_guard_292 : decode b_M_guard 292 = .ok (.goto 18, 3) := by decide +kernel
theorem d_M_guard_295 : decode b_M_guard 295 = .ok (.iload_n 3, 1) := by decide +kernel
theorem d_M_guard_296 : decode b_M_guard 296 = .ok (.iconst 1, 1) := by decide +kernel
theorem d_M_guard_297 : decode b_M_guard 297 = .ok (.iload 9, 2) := by decide +kernel
theorem d_M_guard_299 : decode b_M_guard 299 = .ok (.iload 7, 2) := by decide +kernel
theorem d_M_guard_301 : decode b_M_guard 301 = .ok (.bipush 16, 2) := by decide +kernel
theorem d_M_guard_303 : decode b_M_guard 303 = .ok (.iload 6, 2) := by decide +kernel
theorem d_M_guard_305 : decode b_M_guard 305 = .ok (.imul, 1) := by decide +kernel
theorem d_M_guard_306 : decode b_M_guard 306 = .ok (.iadd, 1) := by decide +kernel
theorem d_M_guard_307 : decode b_M_guard 307 = .ok (.invokestatic 110, 3) := by decide +kernel
theorem d_M_guard_310 : decode b_M_guard 310 = .ok (.ireturn, 1) := by decide +kernel
