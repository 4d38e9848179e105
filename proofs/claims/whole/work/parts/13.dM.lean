theorem d_M_init_0 : decode b_M_init 0 = .ok (.aload_n 0, 1) := by decide +kernel
theorem d_M_init_1 : decode b_M_init 1 = .ok (.invokespecial 1, 3) := by decide +kernel
theorem d_M_init_4 : decode b_M_init 4 = .ok (.aload_n 0, 1) := by decide +kernel
theorem d_M_init_5 : decode b_M_init 5 = .ok (.bipush 30, 2) := by decide +kernel
theorem d_M_init_7 : decode b_M_init 7 = .ok (.newarray .long, 2) := by decide +kernel
theorem d_M_init_9 : decode b_M_init 9 = .ok (.putfield 7, 3) := by decide +kernel
theorem d_M_init_12 : decode b_M_init 12 = .ok (.return_, 1) := by decide +kernel
theorem d_M_key_0 : decode b_M_key 0 = .ok (.iload_n 1, 1) := by decide +kernel
theorem d_M_key_1 : decode b_M_key 1 = .ok (.invokestatic 13, 3) := by decide +kernel
theorem d_M_key_4 : decode b_M_key 4 = .ok (.ifCond .eq 31, 3) := by decide +kernel
theorem d_M_key_7 : decode b_M_key 7 = .ok (.iload_n 2, 1) := by decide +kernel
theorem d_M_key_8 : decode b_M_key 8 = .ok (.invokestatic 13, 3) := by decide +kernel
theorem d_M_key_11 : decode b_M_key 11 = .ok (.ifCond .eq 24, 3) := by decide +kernel
theorem d_M_key_14 : decode b_M_key 14 = .ok (.iload_n 1, 1) := by decide +kernel
theorem d_M_key_15 : decode b_M_key 15 = .ok (.iload_n 2, 1) := by decide +kernel
theorem d_M_key_16 : decode b_M_key 16 = .ok (.if_icmp .eq 19, 3) := by decide +kernel
theorem d_M_key_19 : decode b_M_key 19 = .ok (.iload_n 2, 1) := by decide +kernel
theorem d_M_key_20 : decode b_M_key 20 = .ok (.iconst 1, 1) := by decide +kernel
theorem d_M_key_21 : decode b_M_key 21 = .ok (.isub, 1) := by decide +kernel
theorem d_M_key_22 : decode b_M_key 22 = .ok (.iload_n 1, 1) := by decide +kernel
theorem d_M_key_23 : decode b_M_key 23 = .ok (.irem, 1) := by decide +kernel
theorem d_M_key_24 : decode b_M_key 24 = .ok (.ifCond .eq 11, 3) := by decide +kernel
theorem d_M_key_27 : decode b_M_key 27 = .ok (.iload_n 1, 1) := by decide +kernel
theorem d_M_key_28 : decode b_M_key 28 = .ok (.iconst 1, 1) := by decide +kernel
theorem d_M_key_29 : decode b_M_key 29 = .ok (.isub, 1) := by decide +kernel
theorem d_M_key_30 : decode b_M_key 30 = .ok (.iload_n 2, 1) := by decide +kernel
theorem d_M_key_31 : decode b_M_key 31 = .ok (.irem, 1) := by decide +kernel
theorem d_M_key_32 : decode b_M_key 32 = .ok (.ifCond .ne 6, 3) := by decide +kernel
theorem d_M_key_35 : decode b_M_key 35 = .ok (.bipush (-4), 2) := by decide +kernel
theorem d_M_key_37 : decode b_M_key 37 = .ok (.ireturn, 1) := by decide +kernel
theorem d_M_key_38 : decode b_M_key 38 = .ok (.aload_n 0, 1) := by decide +kernel
theorem d_M_key_39 : decode b_M_key 39 = .ok (.iload_n 1, 1) := by decide +kernel
theorem d_M_key_40 : decode b_M_key 40 = .ok (.i2l, 1) := by decide +kernel
theorem d_M_key_41 : decode b_M_key 41 = .ok (.iload_n 2, 1) := by decide +kernel
theorem d_M_key_42 : decode b_M_key 42 = .ok (.i2l, 1) := by decide +kernel
theorem d_M_key_43 : decode b_M_key 43 = .ok (.lmul, 1) := by decide +kernel
theorem d_M_key_44 : decode b_M_key 44 = .ok (.putfield 17, 3) := by decide +kernel
theorem d_M_key_47 : decode b_M_key 47 = .ok (.aload_n 0, 1) := by decide +kernel
theorem d_M_key_48 : decode b_M_key 48 = .ok (.aload_n 0, 1) := by decide +kernel
theorem d_M_key_49 : decode b_M_key 49 = .ok (.getfield 17, 3) := by decide +kernel
theorem d_M_key_52 : decode b_M_key 52 = .ok (.aload_n 0, 1) := by decide +kernel
theorem d_M_key_53 : decode b_M_key 53 = .ok (.getfield 17, 3) := by decide +kernel
theorem d_M_key_56 : decode b_M_key 56 = .ok (.lmul, 1) := by decide +kernel
theorem d_M_key_57 : decode b_M_key 57 = .ok (.putfield 21, 3) := by decide +kernel
theorem d_M_key_60 : decode b_M_key 60 = .ok (.aload_n 0, 1) := by decide +kernel
theorem d_M_key_61 : decode b_M_key 61 = .ok (.iload_n 1, 1) := by decide +kernel
theorem d_M_key_62 : decode b_M_key 62 = .ok (.i2l, 1) := by decide +kernel
theorem d_M_key_63 : decode b_M_key 63 = .ok (.lconst 1, 1) := by decide +kernel
theorem d_M_key_64 : decode b_M_key 64 = .ok (.lsub, 1) := by decide +kernel
theorem d_M_key_65 : decode b_M_key 65 = .ok (.iload_n 2, 1) := by decide +kernel
theorem d_M_key_66 : decode b_M_key 66 = .ok (.i2l, 1) := by decide +kernel
theorem d_M_key_67 : decode b_M_key 67 = .ok (.lconst 1, 1) := by decide +kernel
theorem d_M_key_68 : decode b_M_key 68 = .ok (.lsub, 1) := by decide +kernel
theorem d_M_key_69 : decode b_M_key 69 = .ok (.lmul, 1) := by decide +kernel
theorem d_M_key_70 : decode b_M_key 70 = .ok (.putfield 24, 3) := by decide +kernel
theorem d_M_key_73 : decode b_M_key 73 = .ok (.aload_n 0, 1) := by decide +kernel
theorem d_M_key_74 : decode b_M_key 74 = .ok (.lconst 1, 1) := by decide +kernel
theorem d_M_key_75 : decode b_M_key 75 = .ok (.putfield 27, 3) := by decide +kernel
theorem d_M_key_78 : decode b_M_key 78 = .ok (.aload_n 0, 1) := by decide +kernel
theorem d_M_key_79 : decode b_M_key 79 = .ok (.getfield 17, 3) := by decide +kernel
theorem d_M_key_82 : decode b_M_key 82 = .ok (.aload_n 0, 1) := by decide +kernel
theorem d_M_key_83 : decode b_M_key 83 = .ok (.getfield 24, 3) := by decide +kernel
theorem d_M_key_86 : decode b_M_key 86 = .ok (.lrem, 1) := by decide +kernel
theorem d_M_key_87 : decode b_M_key 87 = .ok (.lstore_n 3, 1) := by decide +kernel
theorem d_M_key_88 : decode b_M_key 88 = .ok (.lload_n 3, 1) := by decide +kernel
theorem d_M_key_89 : decode b_M_key 89 = .ok (.lconst 1, 1) := by decide +kernel
theorem d_M_key_90 : decode b_M_key 90 = .ok (.lcmp, 1) := by decide +kernel
theorem d_M_key_91 : decode b_M_key 91 = .ok (.ifCond .eq 40, 3) := by decide +kernel
theorem d_M_key_94 : decode b_M_key 94 = .ok (.aload_n 0, 1) := by decide +kernel
theorem d_M_key_95 : decode b_M_key 95 = .ok (.getfield 27, 3) := by decide +kernel
theorem d_M_key_98 : decode b_M_key 98 = .ok (.aload_n 0, 1) := by decide +kernel
theorem d_M_key_99 : decode b_M_key 99 = .ok (.getfield 24, 3) := by decide +kernel
theorem d_M_key_102 : decode b_M_key 102 = .ok (.lcmp, 1) := by decide +kernel
theorem d_M_key_103 : decode b_M_key 103 = .ok (.ifCond .ge 28, 3) := by decide +kernel
theorem d_M_key_106 : decode b_M_key 106 = .ok (.lload_n 3, 1) := by decide +kernel
theorem d_M_key_107 : decode b_M_key 107 = .ok (.aload_n 0, 1) := by decide +kernel
theorem d_M_key_108 : decode b_M_key 108 = .ok (.getfield 17, 3) := by decide +kernel
theorem d_M_key_111 : decode b_M_key 111 = .ok (.ladd, 1) := by decide +kernel
theorem d_M_key_112 : decode b_M_key 112 = .ok (.aload_n 0, 1) := by decide +kernel
theorem d_M_key_113 : decode b_M_key 113 = .ok (.getfield 24, 3) := by decide +kernel
theorem d_M_key_116 : decode b_M_key 116 = .ok (.lrem, 1) := by decide +kernel
theorem d_M_key_117 : decode b_M_key 117 = .ok (.lstore_n 3, 1) := by decide +kernel
theorem d_M_key_118 : decode b_M_key 118 = .ok (.aload_n 0, 1) := by decide +kernel
theorem d_M_key_119 : decode b_M_key 119 = .ok (.dup, 1) := by decide +kernel
theorem d_M_key_120 : decode b_M_key 120 = .ok (.getfield 27, 3) := by decide +kernel
theorem d_M_key_123 : decode b_M_key 123 = .ok (.lconst 1, 1) := by decide +kernel
theorem d_M_key_124 : decode b_M_key 124 = .ok (.ladd, 1) := by decide +kernel
theorem d_M_key_125 : decode b_M_key 125 = .ok (.putfield 27, 3) := by decide +kernel
theorem d_M_key_128 : decode b_M_key 128 = .ok (.goto (-40), 3) := by decide +kernel
theorem d_M_key_131 : decode b_M_key 131 = .ok (.aload_n 0, 1) := by decide +kernel
theorem d_M_key_132 : decode b_M_key 132 = .ok (.iconst 0, 1) := by decide +kernel
theorem d_M_key_133 : decode b_M_key 133 = .ok (.putfield 30, 3) := by decide +kernel
theorem d_M_key_136 : decode b_M_key 136 = .ok (.aload_n 0, 1) := by decide +kernel
theorem d_M_key_137 : decode b_M_key 137 = .ok (.getfield 17, 3) := by decide +kernel
theorem d_M_key_140 : decode b_M_key 140 = .ok (.l2i, 1) := by decide +kernel
theorem d_M_key_141 : decode b_M_key 141 = .ok (.ireturn, 1) := by decide +kernel
theorem d_M_prime_0 : decode b_M_prime 0 = .ok (.iload_n 0, 1) := by decide +kernel
theorem d_M_prime_1 : decode b_M_prime 1 = .ok (.iconst 3, 1) := by decide +kernel
theorem d_M_prime_2 : decode b_M_prime 2 = .ok (.if_icmp .lt 10, 3) := by decide +kernel
theorem d_M_prime_5 : decode b_M_prime 5 = .ok (.iload_n 0, 1) := by decide +kernel
theorem d_M_prime_6 : decode b_M_prime 6 = .ok (.sipush 229, 3) := by decide +kernel
theorem d_M_prime_9 : decode b_M_prime 9 = .ok (.if_icmp .le 5, 3) := by decide +kernel
theorem d_M_prime_12 : decode b_M_prime 12 = .ok (.iconst 0, 1) := by decide +kernel
theorem d_M_prime_13 : decode b_M_prime 13 = .ok (.ireturn, 1) := by decide +kernel
theorem d_M_prime_14 : decode b_M_prime 14 = .ok (.iconst 0, 1) := by decide +kernel
theorem d_M_prime_15 : decode b_M_prime 15 = .ok (.istore_n 1, 1) := by decide +kernel
theorem d_M_prime_16 : decode b_M_prime 16 = .ok (.iconst 1, 1) := by decide +kernel
theorem d_M_prime_17 : decode b_M_prime 17 = .ok (.istore_n 2, 1) := by decide +kernel
theorem d_M_prime_18 : decode b_M_prime 18 = .ok (.iload_n 2, 1) := by decide +kernel
theorem d_M_prime_19 : decode b_M_prime 19 = .ok (.iload_n 0, 1) := by decide +kernel
theorem d_M_prime_20 : decode b_M_prime 20 = .ok (.if_icmp .gt 23, 3) := by decide +kernel
theorem d_M_prime_23 : decode b_M_prime 23 = .ok (.iload_n 1, 1) := by decide +kernel
theorem d_M_prime_24 : decode b_M_prime 24 = .ok (.iload_n 0, 1) := by decide +kernel
theorem d_M_prime_25 : decode b_M_prime 25 = .ok (.iload_n 2, 1) := by decide +kernel
theorem d_M_prime_26 : decode b_M_prime 26 = .ok (.irem, 1) := by decide +kernel
theorem d_M_prime_27 : decode b_M_prime 27 = .ok (.ifCond .ne 7, 3) := by decide +kernel
theorem d_M_prime_30 : decode b_M_prime 30 = .ok (.iconst 1, 1) := by decide +kernel
theorem d_M_prime_31 : decode b_M_prime 31 = .ok (.goto 4, 3) := by decide +kernel
theorem d_M_prime_34 : decode b_M_prime 34 = .ok (.iconst 0, 1) := by decide +kernel
theorem d_M_prime_35 : decode b_M_prime 35 = .ok (.iadd, 1) := by decide +kernel
theorem d_M_prime_36 : decode b_M_prime 36 = .ok (.istore_n 1, 1) := by decide +kernel
theorem d_M_prime_37 : decode b_M_prime 37 = .ok (.iinc 2 1, 3) := by decide +kernel
theorem d_M_prime_40 : decode b_M_prime 40 = .ok (.goto (-22), 3) := by decide +kernel
theorem d_M_prime_43 : decode b_M_prime 43 = .ok (.iload_n 1, 1) := by decide +kernel
theorem d_M_prime_44 : decode b_M_prime 44 = .ok (.iconst 2, 1) := by decide +kernel
theorem d_M_prime_45 : decode b_M_prime 45 = .ok (.if_icmp .ne 7, 3) := by decide +kernel
theorem d_M_prime_48 : decode b_M_prime 48 = .ok (.iconst 1, 1) := by decide +kernel
theorem d_M_prime_49 : decode b_M_prime 49 = .ok (.goto 4, 3) := by decide +kernel
theorem d_M_prime_52 : decode b_M_prime 52 = .ok (.iconst 0, 1) := by decide +kernel
theorem d_M_prime_53 : decode b_M_prime 53 = .ok (.ireturn, 1) := by decide +kernel
theorem d_M_modulus_0 : decode b_M_modulus 0 = .ok (.aload_n 0, 1) := by decide +kernel
theorem d_M_modulus_1 : decode b_M_modulus 1 = .ok (.getfield 17, 3) := by decide +kernel
theorem d_M_modulus_4 : decode b_M_modulus 4 = .ok (.l2i, 1) := by decide +kernel
theorem d_M_modulus_5 : decode b_M_modulus 5 = .ok (.ireturn, 1) := by decide +kernel
theorem d_M_seal_0 : decode b_M_seal 0 = .ok (.aload_n 0, 1) := by decide +kernel
theorem d_M_seal_1 : decode b_M_seal 1 = .ok (.getfield 17, 3) := by decide +kernel
theorem d_M_seal_4 : decode b_M_seal 4 = .ok (.lconst 0, 1) := by decide +kernel
theorem d_M_seal_5 : decode b_M_seal 5 = .ok (.lcmp, 1) := by decide +kernel
theorem d_M_seal_6 : decode b_M_seal 6 = .ok (.ifCond .ne 7, 3) := by decide +kernel
theorem d_M_seal_9 : decode b_M_seal 9 = .ok (.ldc2_w 48, 3) := by decide +kernel
theorem d_M_seal_12 : decode b_M_seal 12 = .ok (.lreturn, 1) := by decide +kernel
theorem d_M_seal_13 : decode b_M_seal 13 = .ok (.aload_n 0, 1) := by decide +kernel
theorem d_M_seal_14 : decode b_M_seal 14 = .ok (.lload_n 1, 1) := by decide +kernel
theorem d_M_seal_15 : decode b_M_seal 15 = .ok (.invokevirtual 50, 3) := by decide +kernel
theorem d_M_seal_18 : decode b_M_seal 18 = .ok (.ifCond .eq 20, 3) := by decide +kernel
theorem d_M_seal_21 : decode b_M_seal 21 = .ok (.aload_n 0, 1) := by decide +kernel
theorem d_M_seal_22 : decode b_M_seal 22 = .ok (.lload_n 3, 1) := by decide +kernel
theorem d_M_seal_23 : decode b_M_seal 23 = .ok (.invokevirtual 54, 3) := by decide +kernel
theorem d_M_seal_26 : decode b_M_seal 26 = .ok (.ifCond .eq 12, 3) := by decide +kernel
theorem d_M_seal_29 : decode b_M_seal 29 = .ok (.aload_n 0, 1) := by decide +kernel
theorem d_M_seal_30 : decode b_M_seal 30 = .ok (.lload_n 1, 1) := by decide +kernel
theorem d_M_seal_31 : decode b_M_seal 31 = .ok (.lload_n 3, 1) := by decide +kernel
theorem d_M_seal_32 : decode b_M_seal 32 = .ok (.invokevirtual 57, 3) := by decide +kernel
theorem d_M_seal_35 : decode b_M_seal 35 = .ok (.goto 6, 3) := by decide +kernel
theorem d_M_seal_38 : decode b_M_seal 38 = .ok (.ldc2_w 60, 3) := by decide +kernel
theorem d_M_seal_41 : decode b_M_seal 41 = .ok (.lreturn, 1) := by decide +kernel
theorem d_M_isMessage_0 : decode b_M_isMessage 0 = .ok (.lload_n 1, 1) := by decide +kernel
theorem d_M_isMessage_1 : decode b_M_isMessage 1 = .ok (.lconst 0, 1) := by decide +kernel
theorem d_M_isMessage_2 : decode b_M_isMessage 2 = .ok (.lcmp, 1) := by decide +kernel
theorem d_M_isMessage_3 : decode b_M_isMessage 3 = .ok (.ifCond .lt 16, 3) := by decide +kernel
theorem d_M_isMessage_6 : decode b_M_isMessage 6 = .ok (.lload_n 1, 1) := by decide +kernel
theorem d_M_isMessage_7 : decode b_M_isMessage 7 = .ok (.aload_n 0, 1) := by decide +kernel
theorem d_M_isMessage_8 : decode b_M_isMessage 8 = .ok (.getfield 17, 3) := by decide +kernel
theorem d_M_isMessage_11 : decode b_M_isMessage 11 = .ok (.lcmp, 1) := by decide +kernel
theorem d_M_isMessage_12 : decode b_M_isMessage 12 = .ok (.ifCond .ge 7, 3) := by decide +kernel
theorem d_M_isMessage_15 : decode b_M_isMessage 15 = .ok (.iconst 1, 1) := by decide +kernel
theorem d_M_isMessage_16 : decode b_M_isMessage 16 = .ok (.goto 4, 3) := by decide +kernel
theorem d_M_isMessage_19 : decode b_M_isMessage 19 = .ok (.iconst 0, 1) := by decide +kernel
theorem d_M_isMessage_20 : decode b_M_isMessage 20 = .ok (.ireturn, 1) := by decide +kernel
theorem d_M_isCoin_0 : decode b_M_isCoin 0 = .ok (.lload_n 1, 1) := by decide +kernel
theorem d_M_isCoin_1 : decode b_M_isCoin 1 = .ok (.lconst 1, 1) := by decide +kernel
theorem d_M_isCoin_2 : decode b_M_isCoin 2 = .ok (.lcmp, 1) := by decide +kernel
theorem d_M_isCoin_3 : decode b_M_isCoin 3 = .ok (.ifCond .lt 29, 3) := by decide +kernel
theorem d_M_isCoin_6 : decode b_M_isCoin 6 = .ok (.lload_n 1, 1) := by decide +kernel
theorem d_M_isCoin_7 : decode b_M_isCoin 7 = .ok (.aload_n 0, 1) := by decide +kernel
theorem d_M_isCoin_8 : decode b_M_isCoin 8 = .ok (.getfield 17, 3) := by decide +kernel
theorem d_M_isCoin_11 : decode b_M_isCoin 11 = .ok (.lcmp, 1) := by decide +kernel
theorem d_M_isCoin_12 : decode b_M_isCoin 12 = .ok (.ifCond .ge 20, 3) := by decide +kernel
theorem d_M_isCoin_15 : decode b_M_isCoin 15 = .ok (.aload_n 0, 1) := by decide +kernel
theorem d_M_isCoin_16 : decode b_M_isCoin 16 = .ok (.getfield 17, 3) := by decide +kernel
theorem d_M_isCoin_19 : decode b_M_isCoin 19 = .ok (.lload_n 1, 1) := by decide +kernel
theorem d_M_isCoin_20 : decode b_M_isCoin 20 = .ok (.invokestatic 34, 3) := by decide +kernel
theorem d_M_isCoin_23 : decode b_M_isCoin 23 = .ok (.lconst 1, 1) := by decide +kernel
theorem d_M_isCoin_24 : decode b_M_isCoin 24 = .ok (.lcmp, 1) := by decide +kernel
theorem d_M_isCoin_25 : decode b_M_isCoin 25 = .ok (.ifCond .ne 7, 3) := by decide +kernel
theorem d_M_isCoin_28 : decode b_M_isCoin 28 = .ok (.iconst 1, 1) := by decide +kernel
theorem d_M_isCoin_29 : decode b_M_isCoin 29 = .ok (.goto 4, 3) := by decide +kernel
theorem d_M_isCoin_32 : decode b_M_isCoin 32 = .ok (.iconst 0, 1) := by decide +kernel
theorem d_M_isCoin_33 : decode b_M_isCoin 33 = .ok (.ireturn, 1) := by decide +kernel
theorem d_M_factor_0 : decode b_M_factor 0 = .ok (.lload_n 0, 1) := by decide +kernel
theorem d_M_factor_1 : decode b_M_factor 1 = .ok (.lstore 4, 2) := by decide +kernel
theorem d_M_factor_3 : decode b_M_factor 3 = .ok (.lload_n 2, 1) := by decide +kernel
theorem d_M_factor_4 : decode b_M_factor 4 = .ok (.lstore 6, 2) := by decide +kernel
theorem d_M_factor_6 : decode b_M_factor 6 = .ok (.lload 6, 2) := by decide +kernel
theorem d_M_factor_8 : decode b_M_factor 8 = .ok (.lconst 0, 1) := by decide +kernel
theorem d_M_factor_9 : decode b_M_factor 9 = .ok (.lcmp, 1) := by decide +kernel
theorem d_M_factor_10 : decode b_M_factor 10 = .ok (.ifCond .eq 21, 3) := by decide +kernel
theorem d_M_factor_13 : decode b_M_factor 13 = .ok (.lload 4, 2) := by decide +kernel
theorem d_M_factor_15 : decode b_M_factor 15 = .ok (.lload 6, 2) := by decide +kernel
theorem d_M_factor_17 : decode b_M_factor 17 = .ok (.lrem, 1) := by decide +kernel
theorem d_M_factor_18 : decode b_M_factor 18 = .ok (.lstore 8, 2) := by decide +kernel
theorem d_M_factor_20 : decode b_M_factor 20 = .ok (.lload 6, 2) := by decide +kernel
theorem d_M_factor_22 : decode b_M_factor 22 = .ok (.lstore 4, 2) := by decide +kernel
theorem d_M_factor_24 : decode b_M_factor 24 = .ok (.lload 8, 2) := by decide +kernel
theorem d_M_factor_26 : decode b_M_factor 26 = .ok (.lstore 6, 2) := by decide +kernel
theorem d_M_factor_28 : decode b_M_factor 28 = .ok (.goto (-22), 3) := by decide +kernel
theorem d_M_factor_31 : decode b_M_factor 31 = .ok (.lload 4, 2) := by decide +kernel
theorem d_M_factor_33 : decode b_M_factor 33 = .ok (.lreturn, 1) := by decide +kernel
theorem d_M_sealing_0 : decode b_M_sealing 0 = .ok (.lconst 1, 1) := by decide +kernel
theorem d_M_sealing_1 : decode b_M_sealing 1 = .ok (.aload_n 0, 1) := by decide +kernel
theorem d_M_sealing_2 : decode b_M_sealing 2 = .ok (.getfield 17, 3) := by decide +kernel
theorem d_M_sealing_5 : decode b_M_sealing 5 = .ok (.ladd, 1) := by decide +kernel
theorem d_M_sealing_6 : decode b_M_sealing 6 = .ok (.lload_n 1, 1) := by decide +kernel
theorem d_M_sealing_7 : decode b_M_sealing 7 = .ok (.aload_n 0, 1) := by decide +kernel
theorem d_M_sealing_8 : decode b_M_sealing 8 = .ok (.getfield 21, 3) := by decide +kernel
theorem d_M_sealing_11 : decode b_M_sealing 11 = .ok (.invokestatic 40, 3) := by decide +kernel
theorem d_M_sealing_14 : decode b_M_sealing 14 = .ok (.lstore 5, 2) := by decide +kernel
theorem d_M_sealing_16 : decode b_M_sealing 16 = .ok (.lload 5, 2) := by decide +kernel
theorem d_M_sealing_18 : decode b_M_sealing 18 = .ok (.lload_n 3, 1) := by decide +kernel
theorem d_M_sealing_19 : decode b_M_sealing 19 = .ok (.aload_n 0, 1) := by decide +kernel
theorem d_M_sealing_20 : decode b_M_sealing 20 = .ok (.getfield 17, 3) := by decide +kernel
theorem d_M_sealing_23 : decode b_M_sealing 23 = .ok (.aload_n 0, 1) := by decide +kernel
theorem d_M_sealing_24 : decode b_M_sealing 24 = .ok (.getfield 21, 3) := by decide +kernel
theorem d_M_sealing_27 : decode b_M_sealing 27 = .ok (.invokestatic 40, 3) := by decide +kernel
theorem d_M_sealing_30 : decode b_M_sealing 30 = .ok (.lmul, 1) := by decide +kernel
theorem d_M_sealing_31 : decode b_M_sealing 31 = .ok (.aload_n 0, 1) := by decide +kernel
theorem d_M_sealing_32 : decode b_M_sealing 32 = .ok (.getfield 21, 3) := by decide +kernel
theorem d_M_sealing_35 : decode b_M_sealing 35 = .ok (.lrem, 1) := by decide +kernel
theorem d_M_sealing_36 : decode b_M_sealing 36 = .ok (.lreturn, 1) := by decide +kernel
theorem d_M_raise_0 : decode b_M_raise 0 = .ok (.lconst 1, 1) := by decide +kernel
theorem d_M_raise_1 : decode b_M_raise 1 = .ok (.lstore 6, 2) := by decide +kernel
theorem d_M_raise_3 : decode b_M_raise 3 = .ok (.lload_n 0, 1) := by decide +kernel
theorem d_M_raise_4 : decode b_M_raise 4 = .ok (.lload 4, 2) := by decide +kernel
theorem d_M_raise_6 : decode b_M_raise 6 = .ok (.lrem, 1) := by decide +kernel
theorem d_M_raise_7 : decode b_M_raise 7 = .ok (.lstore 8, 2) := by decide +kernel
theorem d_M_raise_9 : decode b_M_raise 9 = .ok (.lload_n 2, 1) := by decide +kernel
theorem d_M_raise_10 : decode b_M_raise 10 = .ok (.lstore 10, 2) := by decide +kernel
theorem d_M_raise_12 : decode b_M_raise 12 = .ok (.lload 10, 2) := by decide +kernel
theorem d_M_raise_14 : decode b_M_raise 14 = .ok (.lconst 0, 1) := by decide +kernel
theorem d_M_raise_15 : decode b_M_raise 15 = .ok (.lcmp, 1) := by decide +kernel
theorem d_M_raise_16 : decode b_M_raise 16 = .ok (.ifCond .le 50, 3) := by decide +kernel
theorem d_M_raise_19 : decode b_M_raise 19 = .ok (.lload 10, 2) := by decide +kernel
theorem d_M_raise_21 : decode b_M_raise 21 = .ok (.ldc2_w 38, 3) := by decide +kernel
theorem d_M_raise_24 : decode b_M_raise 24 = .ok (.lrem, 1) := by decide +kernel
theorem d_M_raise_25 : decode b_M_raise 25 = .ok (.lconst 1, 1) := by decide +kernel
theorem d_M_raise_26 : decode b_M_raise 26 = .ok (.lcmp, 1) := by decide +kernel
theorem d_M_raise_27 : decode b_M_raise 27 = .ok (.ifCond .ne 14, 3) := by decide +kernel
theorem d_M_raise_30 : decode b_M_raise 30 = .ok (.lload 6, 2) := by decide +kernel
theorem d_M_raise_32 : decode b_M_raise 32 = .ok (.lload 8, 2) := by decide +kernel
theorem d_M_raise_34 : decode b_M_raise 34 = .ok (.lmul, 1) := by decide +kernel
theorem d_M_raise_35 : decode b_M_raise 35 = .ok (.lload 4, 2) := by decide +kernel
theorem d_M_raise_37 : decode b_M_raise 37 = .ok (.lrem, 1) := by decide +kernel
theorem d_M_raise_38 : decode b_M_raise 38 = .ok (.goto 5, 3) := by decide +kernel
theorem d_M_raise_41 : decode b_M_raise 41 = .ok (.lload 6, 2) := by decide +kernel
theorem d_M_raise_43 : decode b_M_raise 43 = .ok (.lstore 6, 2) := by decide +kernel
theorem d_M_raise_45 : decode b_M_raise 45 = .ok (.lload 8, 2) := by decide +kernel
theorem d_M_raise_47 : decode b_M_raise 47 = .ok (.lload 8, 2) := by decide +kernel
theorem d_M_raise_49 : decode b_M_raise 49 = .ok (.lmul, 1) := by decide +kernel
theorem d_M_raise_50 : decode b_M_raise 50 = .ok (.lload 4, 2) := by decide +kernel
theorem d_M_raise_52 : decode b_M_raise 52 = .ok (.lrem, 1) := by decide +kernel
theorem d_M_raise_53 : decode b_M_raise 53 = .ok (.lstore 8, 2) := by decide +kernel
theorem d_M_raise_55 : decode b_M_raise 55 = .ok (.lload 10, 2) := by decide +kernel
theorem d_M_raise_57 : decode b_M_raise 57 = .ok (.ldc2_w 38, 3) := by decide +kernel
theorem d_M_raise_60 : decode b_M_raise 60 = .ok (.ldiv, 1) := by decide +kernel
theorem d_M_raise_61 : decode b_M_raise 61 = .ok (.lstore 10, 2) := by decide +kernel
theorem d_M_raise_63 : decode b_M_raise 63 = .ok (.goto (-51), 3) := by decide +kernel
theorem d_M_raise_66 : decode b_M_raise 66 = .ok (.lload 6, 2) := by decide +kernel
theorem d_M_raise_68 : decode b_M_raise 68 = .ok (.lreturn, 1) := by decide +kernel
theorem d_M_message_0 : decode b_M_message 0 = .ok (.aload_n 0, 1) := by decide +kernel
theorem d_M_message_1 : decode b_M_message 1 = .ok (.getfield 17, 3) := by decide +kernel
theorem d_M_message_4 : decode b_M_message 4 = .ok (.lconst 0, 1) := by decide +kernel
theorem d_M_message_5 : decode b_M_message 5 = .ok (.lcmp, 1) := by decide +kernel
theorem d_M_message_6 : decode b_M_message 6 = .ok (.ifCond .ne 7, 3) := by decide +kernel
theorem d_M_message_9 : decode b_M_message 9 = .ok (.ldc2_w 48, 3) := by decide +kernel
theorem d_M_message_12 : decode b_M_message 12 = .ok (.lreturn, 1) := by decide +kernel
theorem d_M_message_13 : decode b_M_message 13 = .ok (.aload_n 0, 1) := by decide +kernel
theorem d_M_message_14 : decode b_M_message 14 = .ok (.lload_n 1, 1) := by decide +kernel
theorem d_M_message_15 : decode b_M_message 15 = .ok (.invokevirtual 62, 3) := by decide +kernel
theorem d_M_message_18 : decode b_M_message 18 = .ok (.ifCond .eq 11, 3) := by decide +kernel
theorem d_M_message_21 : decode b_M_message 21 = .ok (.aload_n 0, 1) := by decide +kernel
theorem d_M_message_22 : decode b_M_message 22 = .ok (.lload_n 1, 1) := by decide +kernel
theorem d_M_message_23 : decode b_M_message 23 = .ok (.invokevirtual 65, 3) := by decide +kernel
theorem d_M_message_26 : decode b_M_message 26 = .ok (.goto 6, 3) := by decide +kernel
theorem d_M_message_29 : decode b_M_message 29 = .ok (.ldc2_w 60, 3) := by decide +kernel
theorem d_M_message_32 : decode b_M_message 32 = .ok (.lreturn, 1) := by decide +kernel
theorem d_M_isSeal_0 : decode b_M_isSeal 0 = .ok (.lload_n 1, 1) := by decide +kernel
theorem d_M_isSeal_1 : decode b_M_isSeal 1 = .ok (.lconst 1, 1) := by decide +kernel
theorem d_M_isSeal_2 : decode b_M_isSeal 2 = .ok (.lcmp, 1) := by decide +kernel
theorem d_M_isSeal_3 : decode b_M_isSeal 3 = .ok (.ifCond .lt 29, 3) := by decide +kernel
theorem d_M_isSeal_6 : decode b_M_isSeal 6 = .ok (.lload_n 1, 1) := by decide +kernel
theorem d_M_isSeal_7 : decode b_M_isSeal 7 = .ok (.aload_n 0, 1) := by decide +kernel
theorem d_M_isSeal_8 : decode b_M_isSeal 8 = .ok (.getfield 21, 3) := by decide +kernel
theorem d_M_isSeal_11 : decode b_M_isSeal 11 = .ok (.lcmp, 1) := by decide +kernel
theorem d_M_isSeal_12 : decode b_M_isSeal 12 = .ok (.ifCond .ge 20, 3) := by decide +kernel
theorem d_M_isSeal_15 : decode b_M_isSeal 15 = .ok (.aload_n 0, 1) := by decide +kernel
theorem d_M_isSeal_16 : decode b_M_isSeal 16 = .ok (.getfield 17, 3) := by decide +kernel
theorem d_M_isSeal_19 : decode b_M_isSeal 19 = .ok (.lload_n 1, 1) := by decide +kernel
theorem d_M_isSeal_20 : decode b_M_isSeal 20 = .ok (.invokestatic 34, 3) := by decide +kernel
theorem d_M_isSeal_23 : decode b_M_isSeal 23 = .ok (.lconst 1, 1) := by decide +kernel
theorem d_M_isSeal_24 : decode b_M_isSeal 24 = .ok (.lcmp, 1) := by decide +kernel
theorem d_M_isSeal_25 : decode b_M_isSeal 25 = .ok (.ifCond .ne 7, 3) := by decide +kernel
theorem d_M_isSeal_28 : decode b_M_isSeal 28 = .ok (.iconst 1, 1) := by decide +kernel
theorem d_M_isSeal_29 : decode b_M_isSeal 29 = .ok (.goto 4, 3) := by decide +kernel
theorem d_M_isSeal_32 : decode b_M_isSeal 32 = .ok (.iconst 0, 1) := by decide +kernel
theorem d_M_isSeal_33 : decode b_M_isSeal 33 = .ok (.ireturn, 1) := by decide +kernel
theorem d_M_messageIn_0 : decode b_M_messageIn 0 = .ok (.aload_n 0, 1) := by decide +kernel
theorem d_M_messageIn_1 : decode b_M_messageIn 1 = .ok (.lload_n 1, 1) := by decide +kernel
theorem d_M_messageIn_2 : decode b_M_messageIn 2 = .ok (.invokevirtual 44, 3) := by decide +kernel
theorem d_M_messageIn_5 : decode b_M_messageIn 5 = .ok (.lstore_n 3, 1) := by decide +kernel
theorem d_M_messageIn_6 : decode b_M_messageIn 6 = .ok (.lload_n 3, 1) := by decide +kernel
theorem d_M_messageIn_7 : decode b_M_messageIn 7 = .ok (.aload_n 0, 1) := by decide +kernel
theorem d_M_messageIn_8 : decode b_M_messageIn 8 = .ok (.getfield 17, 3) := by decide +kernel
theorem d_M_messageIn_11 : decode b_M_messageIn 11 = .ok (.aload_n 0, 1) := by decide +kernel
theorem d_M_messageIn_12 : decode b_M_messageIn 12 = .ok (.getfield 21, 3) := by decide +kernel
theorem d_M_messageIn_15 : decode b_M_messageIn 15 = .ok (.invokestatic 40, 3) := by decide +kernel
theorem d_M_messageIn_18 : decode b_M_messageIn 18 = .ok (.lstore 5, 2) := by decide +kernel
theorem d_M_messageIn_20 : decode b_M_messageIn 20 = .ok (.lload 5, 2) := by decide +kernel
theorem d_M_messageIn_22 : decode b_M_messageIn 22 = .ok (.aload_n 0, 1) := by decide +kernel
theorem d_M_messageIn_23 : decode b_M_messageIn 23 = .ok (.getfield 17, 3) := by decide +kernel
theorem d_M_messageIn_26 : decode b_M_messageIn 26 = .ok (.lmul, 1) := by decide +kernel
theorem d_M_messageIn_27 : decode b_M_messageIn 27 = .ok (.aload_n 0, 1) := by decide +kernel
theorem d_M_messageIn_28 : decode b_M_messageIn 28 = .ok (.getfield 21, 3) := by decide +kernel
theorem d_M_messageIn_31 : decode b_M_messageIn 31 = .ok (.lrem, 1) := by decide +kernel
theorem d_M_messageIn_32 : decode b_M_messageIn 32 = .ok (.lstore 7, 2) := by decide +kernel
theorem d_M_messageIn_34 : decode b_M_messageIn 34 = .ok (.lconst 0, 1) := by decide +kernel
theorem d_M_messageIn_35 : decode b_M_messageIn 35 = .ok (.lstore 9, 2) := by decide +kernel
theorem d_M_messageIn_37 : decode b_M_messageIn 37 = .ok (.lload 5, 2) := by decide +kernel
theorem d_M_messageIn_39 : decode b_M_messageIn 39 = .ok (.lload_n 1, 1) := by decide +kernel
theorem d_M_messageIn_40 : decode b_M_messageIn 40 = .ok (.lcmp, 1) := by decide +kernel
theorem d_M_messageIn_41 : decode b_M_messageIn 41 = .ok (.ifCond .eq 34, 3) := by decide +kernel
theorem d_M_messageIn_44 : decode b_M_messageIn 44 = .ok (.lload 9, 2) := by decide +kernel
theorem d_M_messageIn_46 : decode b_M_messageIn 46 = .ok (.aload_n 0, 1) := by decide +kernel
theorem d_M_messageIn_47 : decode b_M_messageIn 47 = .ok (.getfield 17, 3) := by decide +kernel
theorem d_M_messageIn_50 : decode b_M_messageIn 50 = .ok (.lcmp, 1) := by decide +kernel
theorem d_M_messageIn_51 : decode b_M_messageIn 51 = .ok (.ifCond .ge 24, 3) := by decide +kernel
theorem d_M_messageIn_54 : decode b_M_messageIn 54 = .ok (.lload 5, 2) := by decide +kernel
theorem d_M_messageIn_56 : decode b_M_messageIn 56 = .ok (.lload 7, 2) := by decide +kernel
theorem d_M_messageIn_58 : decode b_M_messageIn 58 = .ok (.ladd, 1) := by decide +kernel
theorem d_M_messageIn_59 : decode b_M_messageIn 59 = .ok (.aload_n 0, 1) := by decide +kernel
theorem d_M_messageIn_60 : decode b_M_messageIn 60 = .ok (.getfield 21, 3) := by decide +kernel
theorem d_M_messageIn_63 : decode b_M_messageIn 63 = .ok (.lrem, 1) := by decide +kernel
theorem d_M_messageIn_64 : decode b_M_messageIn 64 = .ok (.lstore 5, 2) := by decide +kernel
theorem d_M_messageIn_66 : decode b_M_messageIn 66 = .ok (.lload 9, 2) := by decide +kernel
theorem d_M_messageIn_68 : decode b_M_messageIn 68 = .ok (.lconst 1, 1) := by decide +kernel
theorem d_M_messageIn_69 : decode b_M_messageIn 69 = .ok (.ladd, 1) := by decide +kernel
theorem d_M_messageIn_70 : decode b_M_messageIn 70 = .ok (.lstore 9, 2) := by decide +kernel
theorem d_M_messageIn_72 : decode b_M_messageIn 72 = .ok (.goto (-35), 3) := by decide +kernel
theorem d_M_messageIn_75 : decode b_M_messageIn 75 = .ok (.lload 9, 2) := by decide +kernel
theorem d_M_messageIn_77 : decode b_M_messageIn 77 = .ok (.lreturn, 1) := by decide +kernel
theorem d_M_coinIn_0 : decode b_M_coinIn 0 = .ok (.lload_n 1, 1) := by decide +kernel
theorem d_M_coinIn_1 : decode b_M_coinIn 1 = .ok (.aload_n 0, 1) := by decide +kernel
theorem d_M_coinIn_2 : decode b_M_coinIn 2 = .ok (.getfield 17, 3) := by decide +kernel
theorem d_M_coinIn_5 : decode b_M_coinIn 5 = .ok (.lrem, 1) := by decide +kernel
theorem d_M_coinIn_6 : decode b_M_coinIn 6 = .ok (.aload_n 0, 1) := by decide +kernel
theorem d_M_coinIn_7 : decode b_M_coinIn 7 = .ok (.getfield 27, 3) := by decide +kernel
theorem d_M_coinIn_10 : decode b_M_coinIn 10 = .ok (.aload_n 0, 1) := by decide +kernel
theorem d_M_coinIn_11 : decode b_M_coinIn 11 = .ok (.getfield 17, 3) := by decide +kernel
theorem d_M_coinIn_14 : decode b_M_coinIn 14 = .ok (.invokestatic 40, 3) := by decide +kernel
theorem d_M_coinIn_17 : decode b_M_coinIn 17 = .ok (.lreturn, 1) := by decide +kernel
theorem d_M_coin_0 : decode b_M_coin 0 = .ok (.aload_n 0, 1) := by decide +kernel
theorem d_M_coin_1 : decode b_M_coin 1 = .ok (.getfield 17, 3) := by decide +kernel
theorem d_M_coin_4 : decode b_M_coin 4 = .ok (.lconst 0, 1) := by decide +kernel
theorem d_M_coin_5 : decode b_M_coin 5 = .ok (.lcmp, 1) := by decide +kernel
theorem d_M_coin_6 : decode b_M_coin 6 = .ok (.ifCond .ne 7, 3) := by decide +kernel
theorem d_M_coin_9 : decode b_M_coin 9 = .ok (.ldc2_w 48, 3) := by decide +kernel
theorem d_M_coin_12 : decode b_M_coin 12 = .ok (.lreturn, 1) := by decide +kernel
theorem d_M_coin_13 : decode b_M_coin 13 = .ok (.aload_n 0, 1) := by decide +kernel
theorem d_M_coin_14 : decode b_M_coin 14 = .ok (.lload_n 1, 1) := by decide +kernel
theorem d_M_coin_15 : decode b_M_coin 15 = .ok (.invokevirtual 62, 3) := by decide +kernel
theorem d_M_coin_18 : decode b_M_coin 18 = .ok (.ifCond .eq 11, 3) := by decide +kernel
theorem d_M_coin_21 : decode b_M_coin 21 = .ok (.aload_n 0, 1) := by decide +kernel
theorem d_M_coin_22 : decode b_M_coin 22 = .ok (.lload_n 1, 1) := by decide +kernel
theorem d_M_coin_23 : decode b_M_coin 23 = .ok (.invokevirtual 44, 3) := by decide +kernel
theorem d_M_coin_26 : decode b_M_coin 26 = .ok (.goto 6, 3) := by decide +kernel
theorem d_M_coin_29 : decode b_M_coin 29 = .ok (.ldc2_w 60, 3) := by decide +kernel
theorem d_M_coin_32 : decode b_M_coin 32 = .ok (.lreturn, 1) := by decide +kernel
theorem d_M_join_0 : decode b_M_join 0 = .ok (.aload_n 0, 1) := by decide +kernel
theorem d_M_join_1 : decode b_M_join 1 = .ok (.getfield 17, 3) := by decide +kernel
theorem d_M_join_4 : decode b_M_join 4 = .ok (.lconst 0, 1) := by decide +kernel
theorem d_M_join_5 : decode b_M_join 5 = .ok (.lcmp, 1) := by decide +kernel
theorem d_M_join_6 : decode b_M_join 6 = .ok (.ifCond .ne 7, 3) := by decide +kernel
theorem d_M_join_9 : decode b_M_join 9 = .ok (.ldc2_w 48, 3) := by decide +kernel
theorem d_M_join_12 : decode b_M_join 12 = .ok (.lreturn, 1) := by decide +kernel
theorem d_M_join_13 : decode b_M_join 13 = .ok (.aload_n 0, 1) := by decide +kernel
theorem d_M_join_14 : decode b_M_join 14 = .ok (.lload_n 1, 1) := by decide +kernel
theorem d_M_join_15 : decode b_M_join 15 = .ok (.invokevirtual 62, 3) := by decide +kernel
theorem d_M_join_18 : decode b_M_join 18 = .ok (.ifCond .eq 22, 3) := by decide +kernel
theorem d_M_join_21 : decode b_M_join 21 = .ok (.aload_n 0, 1) := by decide +kernel
theorem d_M_join_22 : decode b_M_join 22 = .ok (.lload_n 3, 1) := by decide +kernel
theorem d_M_join_23 : decode b_M_join 23 = .ok (.invokevirtual 62, 3) := by decide +kernel
theorem d_M_join_26 : decode b_M_join 26 = .ok (.ifCond .eq 14, 3) := by decide +kernel
theorem d_M_join_29 : decode b_M_join 29 = .ok (.lload_n 1, 1) := by decide +kernel
theorem d_M_join_30 : decode b_M_join 30 = .ok (.lload_n 3, 1) := by decide +kernel
theorem d_M_join_31 : decode b_M_join 31 = .ok (.lmul, 1) := by decide +kernel
theorem d_M_join_32 : decode b_M_join 32 = .ok (.aload_n 0, 1) := by decide +kernel
theorem d_M_join_33 : decode b_M_join 33 = .ok (.getfield 21, 3) := by decide +kernel
theorem d_M_join_36 : decode b_M_join 36 = .ok (.lrem, 1) := by decide +kernel
theorem d_M_join_37 : decode b_M_join 37 = .ok (.goto 6, 3) := by decide +kernel
theorem d_M_join_40 : decode b_M_join 40 = .ok (.ldc2_w 60, 3) := by decide +kernel
theorem d_M_join_43 : decode b_M_join 43 = .ok (.lreturn, 1) := by decide +kernel
theorem d_M_power_0 : decode b_M_power 0 = .ok (.aload_n 0, 1) := by decide +kernel
theorem d_M_power_1 : decode b_M_power 1 = .ok (.getfield 17, 3) := by decide +kernel
theorem d_M_power_4 : decode b_M_power 4 = .ok (.lconst 0, 1) := by decide +kernel
theorem d_M_power_5 : decode b_M_power 5 = .ok (.lcmp, 1) := by decide +kernel
theorem d_M_power_6 : decode b_M_power 6 = .ok (.ifCond .ne 7, 3) := by decide +kernel
theorem d_M_power_9 : decode b_M_power 9 = .ok (.ldc2_w 48, 3) := by decide +kernel
theorem d_M_power_12 : decode b_M_power 12 = .ok (.lreturn, 1) := by decide +kernel
theorem d_M_power_13 : decode b_M_power 13 = .ok (.aload_n 0, 1) := by decide +kernel
theorem d_M_power_14 : decode b_M_power 14 = .ok (.lload_n 1, 1) := by decide +kernel
theorem d_M_power_15 : decode b_M_power 15 = .ok (.invokevirtual 62, 3) := by decide +kernel
theorem d_M_power_18 : decode b_M_power 18 = .ok (.ifCond .ne 7, 3) := by decide +kernel
theorem d_M_power_21 : decode b_M_power 21 = .ok (.ldc2_w 60, 3) := by decide +kernel
theorem d_M_power_24 : decode b_M_power 24 = .ok (.lreturn, 1) := by decide +kernel
theorem d_M_power_25 : decode b_M_power 25 = .ok (.aload_n 0, 1) := by decide +kernel
theorem d_M_power_26 : decode b_M_power 26 = .ok (.getfield 17, 3) := by decide +kernel
theorem d_M_power_29 : decode b_M_power 29 = .ok (.aload_n 0, 1) := by decide +kernel
theorem d_M_power_30 : decode b_M_power 30 = .ok (.getfield 24, 3) := by decide +kernel
theorem d_M_power_33 : decode b_M_power 33 = .ok (.lmul, 1) := by decide +kernel
theorem d_M_power_34 : decode b_M_power 34 = .ok (.lstore 4, 2) := by decide +kernel
theorem d_M_power_36 : decode b_M_power 36 = .ok (.iload_n 3, 1) := by decide +kernel
theorem d_M_power_37 : decode b_M_power 37 = .ok (.i2l, 1) := by decide +kernel
theorem d_M_power_38 : decode b_M_power 38 = .ok (.lload 4, 2) := by decide +kernel
theorem d_M_power_40 : decode b_M_power 40 = .ok (.lrem, 1) := by decide +kernel
theorem d_M_power_41 : decode b_M_power 41 = .ok (.lstore 6, 2) := by decide +kernel
theorem d_M_power_43 : decode b_M_power 43 = .ok (.lload_n 1, 1) := by decide +kernel
theorem d_M_power_44 : decode b_M_power 44 = .ok (.lload 6, 2) := by decide +kernel
theorem d_M_power_46 : decode b_M_power 46 = .ok (.lconst 0, 1) := by decide +kernel
theorem d_M_power_47 : decode b_M_power 47 = .ok (.lcmp, 1) := by decide +kernel
theorem d_M_power_48 : decode b_M_power 48 = .ok (.ifCond .ge 11, 3) := by decide +kernel
theorem d_M_power_51 : decode b_M_power 51 = .ok (.lload 6, 2) := by decide +kernel
theorem d_M_power_53 : decode b_M_power 53 = .ok (.lload 4, 2) := by decide +kernel
theorem d_M_power_55 : decode b_M_power 55 = .ok (.ladd, 1) := by decide +kernel
theorem d_M_power_56 : decode b_M_power 56 = .ok (.goto 5, 3) := by decide +kernel
theorem d_M_power_59 : decode b_M_power 59 = .ok (.lload 6, 2) := by decide +kernel
theorem d_M_power_61 : decode b_M_power 61 = .ok (.aload_n 0, 1) := by decide +kernel
theorem d_M_power_62 : decode b_M_power 62 = .ok (.getfield 21, 3) := by decide +kernel
theorem d_M_power_65 : decode b_M_power 65 = .ok (.invokestatic 40, 3) := by decide +kernel
theorem d_M_power_68 : decode b_M_power 68 = .ok (.lreturn, 1) := by decide +kernel
theorem d_M_open_0 : decode b_M_open 0 = .ok (.aload_n 0, 1) := by decide +kernel
theorem d_M_open_1 : decode b_M_open 1 = .ok (.getfield 17, 3) := by decide +kernel
theorem d_M_open_4 : decode b_M_open 4 = .ok (.lconst 0, 1) := by decide +kernel
theorem d_M_open_5 : decode b_M_open 5 = .ok (.lcmp, 1) := by decide +kernel
theorem d_M_open_6 : decode b_M_open 6 = .ok (.ifCond .eq 19, 3) := by decide +kernel
theorem d_M_open_9 : decode b_M_open 9 = .ok (.iload_n 1, 1) := by decide +kernel
theorem d_M_open_10 : decode b_M_open 10 = .ok (.iconst 1, 1) := by decide +kernel
theorem d_M_open_11 : decode b_M_open 11 = .ok (.if_icmp .lt 14, 3) := by decide +kernel
theorem d_M_open_14 : decode b_M_open 14 = .ok (.iload_n 1, 1) := by decide +kernel
theorem d_M_open_15 : decode b_M_open 15 = .ok (.bipush 6, 2) := by decide +kernel
theorem d_M_open_17 : decode b_M_open 17 = .ok (.if_icmp .gt 8, 3) := by decide +kernel
theorem d_M_open_20 : decode b_M_open 20 = .ok (.iload_n 2, 1) := by decide +kernel
theorem d_M_open_21 : decode b_M_open 21 = .ok (.iconst 2, 1) := by decide +kernel
theorem d_M_open_22 : decode b_M_open 22 = .ok (.if_icmp .ge 5, 3) := by decide +kernel
theorem d_M_open_25 : decode b_M_open 25 = .ok (.iconst 0, 1) := by decide +kernel
theorem d_M_open_26 : decode b_M_open 26 = .ok (.ireturn, 1) := by decide +kernel
theorem d_M_open_27 : decode b_M_open 27 = .ok (.lconst 1, 1) := by decide +kernel
theorem d_M_open_28 : decode b_M_open 28 = .ok (.lstore_n 3, 1) := by decide +kernel
theorem d_M_open_29 : decode b_M_open 29 = .ok (.iconst 0, 1) := by decide +kernel
theorem d_M_open_30 : decode b_M_open 30 = .ok (.istore 5, 2) := by decide +kernel
theorem d_M_open_32 : decode b_M_open 32 = .ok (.iload 5, 2) := by decide +kernel
theorem d_M_open_34 : decode b_M_open 34 = .ok (.iload_n 1, 1) := by decide +kernel
theorem d_M_open_35 : decode b_M_open 35 = .ok (.if_icmp .ge 27, 3) := by decide +kernel
theorem d_M_open_38 : decode b_M_open 38 = .ok (.lload_n 3, 1) := by decide +kernel
theorem d_M_open_39 : decode b_M_open 39 = .ok (.aload_n 0, 1) := by decide +kernel
theorem d_M_open_40 : decode b_M_open 40 = .ok (.getfield 17, 3) := by decide +kernel
theorem d_M_open_43 : decode b_M_open 43 = .ok (.lcmp, 1) := by decide +kernel
theorem d_M_open_44 : decode b_M_open 44 = .ok (.ifCond .le 7, 3) := by decide +kernel
theorem d_M_open_47 : decode b_M_open 47 = .ok (.lload_n 3, 1) := by decide +kernel
theorem d_M_open_48 : decode b_M_open 48 = .ok (.goto 7, 3) := by decide +kernel
theorem d_M_open_51 : decode b_M_open 51 = .ok (.lload_n 3, 1) := by decide +kernel
theorem d_M_open_52 : decode b_M_open 52 = .ok (.iload_n 2, 1) := by decide +kernel
theorem d_M_open_53 : decode b_M_open 53 = .ok (.i2l, 1) := by decide +kernel
theorem d_M_open_54 : decode b_M_open 54 = .ok (.lmul, 1) := by decide +kernel
theorem d_M_open_55 : decode b_M_open 55 = .ok (.lstore_n 3, 1) := by decide +kernel
theorem d_M_open_56 : decode b_M_open 56 = .ok (.iinc 5 1, 3) := by decide +kernel
theorem d_M_open_59 : decode b_M_open 59 = .ok (.goto (-27), 3) := by decide +kernel
theorem d_M_open_62 : decode b_M_open 62 = .ok (.lload_n 3, 1) := by decide +kernel
theorem d_M_open_63 : decode b_M_open 63 = .ok (.aload_n 0, 1) := by decide +kernel
theorem d_M_open_64 : decode b_M_open 64 = .ok (.getfield 17, 3) := by decide +kernel
theorem d_M_open_67 : decode b_M_open 67 = .ok (.lcmp, 1) := by decide +kernel
theorem d_M_open_68 : decode b_M_open 68 = .ok (.ifCond .le 5, 3) := by decide +kernel
theorem d_M_open_71 : decode b_M_open 71 = .ok (.iconst 0, 1) := by decide +kernel
theorem d_M_open_72 : decode b_M_open 72 = .ok (.ireturn, 1) := by decide +kernel
theorem d_M_open_73 : decode b_M_open 73 = .ok (.aload_n 0, 1) := by decide +kernel
theorem d_M_open_74 : decode b_M_open 74 = .ok (.iconst 1, 1) := by decide +kernel
theorem d_M_open_75 : decode b_M_open 75 = .ok (.putfield 30, 3) := by decide +kernel
theorem d_M_open_78 : decode b_M_open 78 = .ok (.aload_n 0, 1) := by decide +kernel
theorem d_M_open_79 : decode b_M_open 79 = .ok (.iconst 0, 1) := by decide +kernel
theorem d_M_open_80 : decode b_M_open 80 = .ok (.putfield 68, 3) := by decide +kernel
theorem d_M_open_83 : decode b_M_open 83 = .ok (.aload_n 0, 1) := by decide +kernel
theorem d_M_open_84 : decode b_M_open 84 = .ok (.iload_n 1, 1) := by decide +kernel
theorem d_M_open_85 : decode b_M_open 85 = .ok (.putfield 71, 3) := by decide +kernel
theorem d_M_open_88 : decode b_M_open 88 = .ok (.aload_n 0, 1) := by decide +kernel
theorem d_M_open_89 : decode b_M_open 89 = .ok (.iload_n 2, 1) := by decide +kernel
theorem d_M_open_90 : decode b_M_open 90 = .ok (.putfield 75, 3) := by decide +kernel
theorem d_M_open_93 : decode b_M_open 93 = .ok (.iconst 0, 1) := by decide +kernel
theorem d_M_open_94 : decode b_M_open 94 = .ok (.istore 5, 2) := by decide +kernel
theorem d_M_open_96 : decode b_M_open 96 = .ok (.iload 5, 2) := by decide +kernel
theorem d_M_open_98 : decode b_M_open 98 = .ok (.bipush 30, 2) := by decide +kernel
theorem d_M_open_100 : decode b_M_open 100 = .ok (.if_icmp .ge 17, 3) := by decide +kernel
theorem d_M_open_103 : decode b_M_open 103 = .ok (.aload_n 0, 1) := by decide +kernel
theorem d_M_open_104 : decode b_M_open 104 = .ok (.getfield 7, 3) := by decide +kernel
theorem d_M_open_107 : decode b_M_open 107 = .ok (.iload 5, 2) := by decide +kernel
theorem d_M_open_109 : decode b_M_open 109 = .ok (.lconst 0, 1) := by decide +kernel
theorem d_M_open_110 : decode b_M_open 110 = .ok (.lastore, 1) := by decide +kernel
theorem d_M_open_111 : decode b_M_open 111 = .ok (.iinc 5 1, 3) := by decide +kernel
theorem d_M_open_114 : decode b_M_open 114 = .ok (.goto (-18), 3) := by decide +kernel
theorem d_M_open_117 : decode b_M_open 117 = .ok (.iconst 1, 1) := by decide +kernel
theorem d_M_open_118 : decode b_M_open 118 = .ok (.ireturn, 1) := by decide +kernel
theorem d_M_choice_0 : decode b_M_choice 0 = .ok (.aload_n 0, 1) := by decide +kernel
theorem d_M_choice_1 : decode b_M_choice 1 = .ok (.getfield 30, 3) := by decide +kernel
theorem d_M_choice_4 : decode b_M_choice 4 = .ok (.ifCond .ne 7, 3) := by decide +kernel
theorem d_M_choice_7 : decode b_M_choice 7 = .ok (.ldc2_w 78, 3) := by decide +kernel
theorem d_M_choice_10 : decode b_M_choice 10 = .ok (.lreturn, 1) := by decide +kernel
theorem d_M_choice_11 : decode b_M_choice 11 = .ok (.iload_n 1, 1) := by decide +kernel
theorem d_M_choice_12 : decode b_M_choice 12 = .ok (.ifCond .lt 19, 3) := by decide +kernel
theorem d_M_choice_15 : decode b_M_choice 15 = .ok (.iload_n 1, 1) := by decide +kernel
theorem d_M_choice_16 : decode b_M_choice 16 = .ok (.aload_n 0, 1) := by decide +kernel
theorem d_M_choice_17 : decode b_M_choice 17 = .ok (.getfield 71, 3) := by decide +kernel
theorem d_M_choice_20 : decode b_M_choice 20 = .ok (.if_icmp .ge 11, 3) := by decide +kernel
theorem d_M_choice_23 : decode b_M_choice 23 = .ok (.aload_n 0, 1) := by decide +kernel
theorem d_M_choice_24 : decode b_M_choice 24 = .ok (.lload_n 2, 1) := by decide +kernel
theorem d_M_choice_25 : decode b_M_choice 25 = .ok (.invokevirtual 54, 3) := by decide +kernel
theorem d_M_choice_28 : decode b_M_choice 28 = .ok (.ifCond .ne 7, 3) := by decide +kernel
theorem d_M_choice_31 : decode b_M_choice 31 = .ok (.ldc2_w 60, 3) := by decide +kernel
theorem d_M_choice_34 : decode b_M_choice 34 = .ok (.lreturn, 1) := by decide +kernel
theorem d_M_choice_35 : decode b_M_choice 35 = .ok (.aload_n 0, 1) := by decide +kernel
theorem d_M_choice_36 : decode b_M_choice 36 = .ok (.aload_n 0, 1) := by decide +kernel
theorem d_M_choice_37 : decode b_M_choice 37 = .ok (.iload_n 1, 1) := by decide +kernel
theorem d_M_choice_38 : decode b_M_choice 38 = .ok (.invokevirtual 80, 3) := by decide +kernel
theorem d_M_choice_41 : decode b_M_choice 41 = .ok (.lload_n 2, 1) := by decide +kernel
theorem d_M_choice_42 : decode b_M_choice 42 = .ok (.invokevirtual 57, 3) := by decide +kernel
theorem d_M_choice_45 : decode b_M_choice 45 = .ok (.lreturn, 1) := by decide +kernel
theorem d_M_place_0 : decode b_M_place 0 = .ok (.lconst 1, 1) := by decide +kernel
theorem d_M_place_1 : decode b_M_place 1 = .ok (.lstore_n 2, 1) := by decide +kernel
theorem d_M_place_2 : decode b_M_place 2 = .ok (.iconst 0, 1) := by decide +kernel
theorem d_M_place_3 : decode b_M_place 3 = .ok (.istore 4, 2) := by decide +kernel
theorem d_M_place_5 : decode b_M_place 5 = .ok (.iload 4, 2) := by decide +kernel
theorem d_M_place_7 : decode b_M_place 7 = .ok (.iload_n 1, 1) := by decide +kernel
theorem d_M_place_8 : decode b_M_place 8 = .ok (.if_icmp .ge 17, 3) := by decide +kernel
theorem d_M_place_11 : decode b_M_place 11 = .ok (.lload_n 2, 1) := by decide +kernel
theorem d_M_place_12 : decode b_M_place 12 = .ok (.aload_n 0, 1) := by decide +kernel
theorem d_M_place_13 : decode b_M_place 13 = .ok (.getfield 75, 3) := by decide +kernel
theorem d_M_place_16 : decode b_M_place 16 = .ok (.i2l, 1) := by decide +kernel
theorem d_M_place_17 : decode b_M_place 17 = .ok (.lmul, 1) := by decide +kernel
theorem d_M_place_18 : decode b_M_place 18 = .ok (.lstore_n 2, 1) := by decide +kernel
theorem d_M_place_19 : decode b_M_place 19 = .ok (.iinc 4 1, 3) := by decide +kernel
theorem d_M_place_22 : decode b_M_place 22 = .ok (.goto (-17), 3) := by decide +kernel
theorem d_M_place_25 : decode b_M_place 25 = .ok (.lload_n 2, 1) := by decide +kernel
theorem d_M_place_26 : decode b_M_place 26 = .ok (.lreturn, 1) := by decide +kernel
theorem d_M_cast_0 : decode b_M_cast 0 = .ok (.aload_n 0, 1) := by decide +kernel
theorem d_M_cast_1 : decode b_M_cast 1 = .ok (.getfield 30, 3) := by decide +kernel
theorem d_M_cast_4 : decode b_M_cast 4 = .ok (.ifCond .eq 10, 3) := by decide +kernel
theorem d_M_cast_7 : decode b_M_cast 7 = .ok (.aload_n 0, 1) := by decide +kernel
theorem d_M_cast_8 : decode b_M_cast 8 = .ok (.getfield 68, 3) := by decide +kernel
theorem d_M_cast_11 : decode b_M_cast 11 = .ok (.ifCond .eq 18, 3) := by decide +kernel
theorem d_M_cast_14 : decode b_M_cast 14 = .ok (.aload_n 0, 1) := by decide +kernel
theorem d_M_cast_15 : decode b_M_cast 15 = .ok (.getfield 30, 3) := by decide +kernel
theorem d_M_cast_18 : decode b_M_cast 18 = .ok (.ifCond .eq 8, 3) := by decide +kernel
theorem d_M_cast_21 : decode b_M_cast 21 = .ok (.bipush (-3), 2) := by decide +kernel
theorem d_M_cast_23 : decode b_M_cast 23 = .ok (.goto 5, 3) := by decide +kernel
theorem d_M_cast_26 : decode b_M_cast 26 = .ok (.bipush (-2), 2) := by decide +kernel
theorem d_M_cast_28 : decode b_M_cast 28 = .ok (.ireturn, 1) := by decide +kernel
theorem d_M_cast_29 : decode b_M_cast 29 = .ok (.iload_n 1, 1) := by decide +kernel
theorem d_M_cast_30 : decode b_M_cast 30 = .ok (.ifCond .lt 17, 3) := by decide +kernel
theorem d_M_cast_33 : decode b_M_cast 33 = .ok (.iload_n 1, 1) := by decide +kernel
theorem d_M_cast_34 : decode b_M_cast 34 = .ok (.bipush 29, 2) := by decide +kernel
theorem d_M_cast_36 : decode b_M_cast 36 = .ok (.if_icmp .gt 11, 3) := by decide +kernel
theorem d_M_cast_39 : decode b_M_cast 39 = .ok (.aload_n 0, 1) := by decide +kernel
theorem d_M_cast_40 : decode b_M_cast 40 = .ok (.lload_n 2, 1) := by decide +kernel
theorem d_M_cast_41 : decode b_M_cast 41 = .ok (.invokevirtual 62, 3) := by decide +kernel
theorem d_M_cast_44 : decode b_M_cast 44 = .ok (.ifCond .ne 6, 3) := by decide +kernel
theorem d_M_cast_47 : decode b_M_cast 47 = .ok (.bipush (-4), 2) := by decide +kernel
theorem d_M_cast_49 : decode b_M_cast 49 = .ok (.ireturn, 1) := by decide +kernel
theorem d_M_cast_50 : decode b_M_cast 50 = .ok (.aload_n 0, 1) := by decide +kernel
theorem d_M_cast_51 : decode b_M_cast 51 = .ok (.getfield 7, 3) := by decide +kernel
theorem d_M_cast_54 : decode b_M_cast 54 = .ok (.iload_n 1, 1) := by decide +kernel
theorem d_M_cast_55 : decode b_M_cast 55 = .ok (.laload, 1) := by decide +kernel
theorem d_M_cast_56 : decode b_M_cast 56 = .ok (.lconst 0, 1) := by decide +kernel
theorem d_M_cast_57 : decode b_M_cast 57 = .ok (.lcmp, 1) := by decide +kernel
theorem d_M_cast_58 : decode b_M_cast 58 = .ok (.ifCond .ne 7, 3) := by decide +kernel
theorem d_M_cast_61 : decode b_M_cast 61 = .ok (.iconst 1, 1) := by decide +kernel
theorem d_M_cast_62 : decode b_M_cast 62 = .ok (.goto 4, 3) := by decide +kernel
theorem d_M_cast_65 : decode b_M_cast 65 = .ok (.iconst 0, 1) := by decide +kernel
theorem d_M_cast_66 : decode b_M_cast 66 = .ok (.istore 4, 2) := by decide +kernel
theorem d_M_cast_68 : decode b_M_cast 68 = .ok (.iload 4, 2) := by decide +kernel
theorem d_M_cast_70 : decode b_M_cast 70 = .ok (.ifCond .eq 19, 3) := by decide +kernel
theorem d_M_cast_73 : decode b_M_cast 73 = .ok (.aload_n 0, 1) := by decide +kernel
theorem d_M_cast_74 : decode b_M_cast 74 = .ok (.invokevirtual 84, 3) := by decide +kernel
theorem d_M_cast_77 : decode b_M_cast 77 = .ok (.aload_n 0, 1) := by decide +kernel
theorem d_M_cast_78 : decode b_M_cast 78 = .ok (.getfield 75, 3) := by decide +kernel
theorem d_M_cast_81 : decode b_M_cast 81 = .ok (.iconst 1, 1) := by decide +kernel
theorem d_M_cast_82 : decode b_M_cast 82 = .ok (.isub, 1) := by decide +kernel
theorem d_M_cast_83 : decode b_M_cast 83 = .ok (.if_icmp .lt 6, 3) := by decide +kernel
theorem d_M_cast_86 : decode b_M_cast 86 = .ok (.bipush (-5), 2) := by decide +kernel
theorem d_M_cast_88 : decode b_M_cast 88 = .ok (.ireturn, 1) := by decide +kernel
theorem d_M_cast_89 : decode b_M_cast 89 = .ok (.aload_n 0, 1) := by decide +kernel
theorem d_M_cast_90 : decode b_M_cast 90 = .ok (.getfield 7, 3) := by decide +kernel
theorem d_M_cast_93 : decode b_M_cast 93 = .ok (.iload_n 1, 1) := by decide +kernel
theorem d_M_cast_94 : decode b_M_cast 94 = .ok (.lload_n 2, 1) := by decide +kernel
theorem d_M_cast_95 : decode b_M_cast 95 = .ok (.lastore, 1) := by decide +kernel
theorem d_M_cast_96 : decode b_M_cast 96 = .ok (.iload 4, 2) := by decide +kernel
theorem d_M_cast_98 : decode b_M_cast 98 = .ok (.ifCond .eq 7, 3) := by decide +kernel
theorem d_M_cast_101 : decode b_M_cast 101 = .ok (.iconst 1, 1) := by decide +kernel
theorem d_M_cast_102 : decode b_M_cast 102 = .ok (.goto 4, 3) := by decide +kernel
theorem d_M_cast_105 : decode b_M_cast 105 = .ok (.iconst 0, 1) := by decide +kernel
theorem d_M_cast_106 : decode b_M_cast 106 = .ok (.ireturn, 1) := by decide +kernel
theorem d_M_count_0 : decode b_M_count 0 = .ok (.iconst 0, 1) := by decide +kernel
theorem d_M_count_1 : decode b_M_count 1 = .ok (.istore_n 1, 1) := by decide +kernel
theorem d_M_count_2 : decode b_M_count 2 = .ok (.iconst 0, 1) := by decide +kernel
theorem d_M_count_3 : decode b_M_count 3 = .ok (.istore_n 2, 1) := by decide +kernel
theorem d_M_count_4 : decode b_M_count 4 = .ok (.iload_n 2, 1) := by decide +kernel
theorem d_M_count_5 : decode b_M_count 5 = .ok (.bipush 30, 2) := by decide +kernel
theorem d_M_count_7 : decode b_M_count 7 = .ok (.if_icmp .ge 28, 3) := by decide +kernel
theorem d_M_count_10 : decode b_M_count 10 = .ok (.iload_n 1, 1) := by decide +kernel
theorem d_M_count_11 : decode b_M_count 11 = .ok (.aload_n 0, 1) := by decide +kernel
theorem d_M_count_12 : decode b_M_count 12 = .ok (.getfield 7, 3) := by decide +kernel
theorem d_M_count_15 : decode b_M_count 15 = .ok (.iload_n 2, 1) := by decide +kernel
theorem d_M_count_16 : decode b_M_count 16 = .ok (.laload, 1) := by decide +kernel
theorem d_M_count_17 : decode b_M_count 17 = .ok (.lconst 0, 1) := by decide +kernel
theorem d_M_count_18 : decode b_M_count 18 = .ok (.lcmp, 1) := by decide +kernel
theorem d_M_count_19 : decode b_M_count 19 = .ok (.ifCond .eq 7, 3) := by decide +kernel
theorem d_M_count_22 : decode b_M_count 22 = .ok (.iconst 1, 1) := by decide +kernel
theorem d_M_count_23 : decode b_M_count 23 = .ok (.goto 4, 3) := by decide +kernel
theorem d_M_count_26 : decode b_M_count 26 = .ok (.iconst 0, 1) := by decide +kernel
theorem d_M_count_27 : decode b_M_count 27 = .ok (.iadd, 1) := by decide +kernel
theorem d_M_count_28 : decode b_M_count 28 = .ok (.istore_n 1, 1) := by decide +kernel
theorem d_M_count_29 : decode b_M_count 29 = .ok (.iinc 2 1, 3) := by decide +kernel
theorem d_M_count_32 : decode b_M_count 32 = .ok (.goto (-28), 3) := by decide +kernel
theorem d_M_count_35 : decode b_M_count 35 = .ok (.iload_n 1, 1) := by decide +kernel
theorem d_M_count_36 : decode b_M_count 36 = .ok (.ireturn, 1) := by decide +kernel
theorem d_M_withdraw_0 : decode b_M_withdraw 0 = .ok (.aload_n 0, 1) := by decide +kernel
theorem d_M_withdraw_1 : decode b_M_withdraw 1 = .ok (.getfield 30, 3) := by decide +kernel
theorem d_M_withdraw_4 : decode b_M_withdraw 4 = .ok (.ifCond .eq 10, 3) := by decide +kernel
theorem d_M_withdraw_7 : decode b_M_withdraw 7 = .ok (.aload_n 0, 1) := by decide +kernel
theorem d_M_withdraw_8 : decode b_M_withdraw 8 = .ok (.getfield 68, 3) := by decide +kernel
theorem d_M_withdraw_11 : decode b_M_withdraw 11 = .ok (.ifCond .eq 20, 3) := by decide +kernel
theorem d_M_withdraw_14 : decode b_M_withdraw 14 = .ok (.aload_n 0, 1) := by decide +kernel
theorem d_M_withdraw_15 : decode b_M_withdraw 15 = .ok (.getfield 30, 3) := by decide +kernel
theorem d_M_withdraw_18 : decode b_M_withdraw 18 = .ok (.ifCond .eq 9, 3) := by decide +kernel
theorem d_M_withdraw_21 : decode b_M_withdraw 21 = .ok (.ldc2_w 88, 3) := by decide +kernel
theorem d_M_withdraw_24 : decode b_M_withdraw 24 = .ok (.goto 6, 3) := by decide +kernel
theorem d_M_withdraw_27 : decode b_M_withdraw 27 = .ok (.ldc2_w 78, 3) := by decide +kernel
theorem d_M_withdraw_30 : decode b_M_withdraw 30 = .ok (.lreturn, 1) := by decide +kernel
theorem d_M_withdraw_31 : decode b_M_withdraw 31 = .ok (.iload_n 1, 1) := by decide +kernel
theorem d_M_withdraw_32 : decode b_M_withdraw 32 = .ok (.ifCond .lt 9, 3) := by decide +kernel
theorem d_M_withdraw_35 : decode b_M_withdraw 35 = .ok (.iload_n 1, 1) := by decide +kernel
theorem d_M_withdraw_36 : decode b_M_withdraw 36 = .ok (.bipush 29, 2) := by decide +kernel
theorem d_M_withdraw_38 : decode b_M_withdraw 38 = .ok (.if_icmp .le 7, 3) := by decide +kernel
theorem d_M_withdraw_41 : decode b_M_withdraw 41 = .ok (.ldc2_w 60, 3) := by decide +kernel
theorem d_M_withdraw_44 : decode b_M_withdraw 44 = .ok (.lreturn, 1) := by decide +kernel
theorem d_M_withdraw_45 : decode b_M_withdraw 45 = .ok (.aload_n 0, 1) := by decide +kernel
theorem d_M_withdraw_46 : decode b_M_withdraw 46 = .ok (.getfield 7, 3) := by decide +kernel
theorem d_M_withdraw_49 : decode b_M_withdraw 49 = .ok (.iload_n 1, 1) := by decide +kernel
theorem d_M_withdraw_50 : decode b_M_withdraw 50 = .ok (.laload, 1) := by decide +kernel
theorem d_M_withdraw_51 : decode b_M_withdraw 51 = .ok (.lstore_n 2, 1) := by decide +kernel
theorem d_M_withdraw_52 : decode b_M_withdraw 52 = .ok (.aload_n 0, 1) := by decide +kernel
theorem d_M_withdraw_53 : decode b_M_withdraw 53 = .ok (.getfield 7, 3) := by decide +kernel
theorem d_M_withdraw_56 : decode b_M_withdraw 56 = .ok (.iload_n 1, 1) := by decide +kernel
theorem d_M_withdraw_57 : decode b_M_withdraw 57 = .ok (.lconst 0, 1) := by decide +kernel
theorem d_M_withdraw_58 : decode b_M_withdraw 58 = .ok (.lastore, 1) := by decide +kernel
theorem d_M_withdraw_59 : decode b_M_withdraw 59 = .ok (.lload_n 2, 1) := by decide +kernel
theorem d_M_withdraw_60 : decode b_M_withdraw 60 = .ok (.lconst 0, 1) := by decide +kernel
theorem d_M_withdraw_61 : decode b_M_withdraw 61 = .ok (.lcmp, 1) := by decide +kernel
theorem d_M_withdraw_62 : decode b_M_withdraw 62 = .ok (.ifCond .ne 9, 3) := by decide +kernel
theorem d_M_withdraw_65 : decode b_M_withdraw 65 = .ok (.ldc2_w 90, 3) := by decide +kernel
theorem d_M_withdraw_68 : decode b_M_withdraw 68 = .ok (.goto 4, 3) := by decide +kernel
theorem d_M_withdraw_71 : decode b_M_withdraw 71 = .ok (.lload_n 2, 1) := by decide +kernel
theorem d_M_withdraw_72 : decode b_M_withdraw 72 = .ok (.lreturn, 1) := by decide +kernel
theorem d_M_ballot_0 : decode b_M_ballot 0 = .ok (.aload_n 0, 1) := by decide +kernel
theorem d_M_ballot_1 : decode b_M_ballot 1 = .ok (.getfield 30, 3) := by decide +kernel
theorem d_M_ballot_4 : decode b_M_ballot 4 = .ok (.ifCond .ne 7, 3) := by decide +kernel
theorem d_M_ballot_7 : decode b_M_ballot 7 = .ok (.ldc2_w 78, 3) := by decide +kernel
theorem d_M_ballot_10 : decode b_M_ballot 10 = .ok (.lreturn, 1) := by decide +kernel
theorem d_M_ballot_11 : decode b_M_ballot 11 = .ok (.iload_n 1, 1) := by decide +kernel
theorem d_M_ballot_12 : decode b_M_ballot 12 = .ok (.ifCond .lt 9, 3) := by decide +kernel
theorem d_M_ballot_15 : decode b_M_ballot 15 = .ok (.iload_n 1, 1) := by decide +kernel
theorem d_M_ballot_16 : decode b_M_ballot 16 = .ok (.bipush 29, 2) := by decide +kernel
theorem d_M_ballot_18 : decode b_M_ballot 18 = .ok (.if_icmp .le 7, 3) := by decide +kernel
theorem d_M_ballot_21 : decode b_M_ballot 21 = .ok (.ldc2_w 60, 3) := by decide +kernel
theorem d_M_ballot_24 : decode b_M_ballot 24 = .ok (.lreturn, 1) := by decide +kernel
theorem d_M_ballot_25 : decode b_M_ballot 25 = .ok (.aload_n 0, 1) := by decide +kernel
theorem d_M_ballot_26 : decode b_M_ballot 26 = .ok (.getfield 7, 3) := by decide +kernel
theorem d_M_ballot_29 : decode b_M_ballot 29 = .ok (.iload_n 1, 1) := by decide +kernel
theorem d_M_ballot_30 : decode b_M_ballot 30 = .ok (.laload, 1) := by decide +kernel
theorem d_M_ballot_31 : decode b_M_ballot 31 = .ok (.lconst 0, 1) := by decide +kernel
theorem d_M_ballot_32 : decode b_M_ballot 32 = .ok (.lcmp, 1) := by decide +kernel
theorem d_M_ballot_33 : decode b_M_ballot 33 = .ok (.ifCond .ne 9, 3) := by decide +kernel
theorem d_M_ballot_36 : decode b_M_ballot 36 = .ok (.ldc2_w 90, 3) := by decide +kernel
theorem d_M_ballot_39 : decode b_M_ballot 39 = .ok (.goto 9, 3) := by decide +kernel
theorem d_M_ballot_42 : decode b_M_ballot 42 = .ok (.aload_n 0, 1) := by decide +kernel
theorem d_M_ballot_43 : decode b_M_ballot 43 = .ok (.getfield 7, 3) := by decide +kernel
theorem d_M_ballot_46 : decode b_M_ballot 46 = .ok (.iload_n 1, 1) := by decide +kernel
theorem d_M_ballot_47 : decode b_M_ballot 47 = .ok (.laload, 1) := by decide +kernel
theorem d_M_ballot_48 : decode b_M_ballot 48 = .ok (.lreturn, 1) := by decide +kernel
theorem d_M_ballots_0 : decode b_M_ballots 0 = .ok (.aload_n 0, 1) := by decide +kernel
theorem d_M_ballots_1 : decode b_M_ballots 1 = .ok (.getfield 30, 3) := by decide +kernel
theorem d_M_ballots_4 : decode b_M_ballots 4 = .ok (.ifCond .eq 10, 3) := by decide +kernel
theorem d_M_ballots_7 : decode b_M_ballots 7 = .ok (.aload_n 0, 1) := by decide +kernel
theorem d_M_ballots_8 : decode b_M_ballots 8 = .ok (.invokevirtual 84, 3) := by decide +kernel
theorem d_M_ballots_11 : decode b_M_ballots 11 = .ok (.goto 5, 3) := by decide +kernel
theorem d_M_ballots_14 : decode b_M_ballots 14 = .ok (.bipush (-2), 2) := by decide +kernel
theorem d_M_ballots_16 : decode b_M_ballots 16 = .ok (.ireturn, 1) := by decide +kernel
theorem d_M_sum_0 : decode b_M_sum 0 = .ok (.aload_n 0, 1) := by decide +kernel
theorem d_M_sum_1 : decode b_M_sum 1 = .ok (.getfield 30, 3) := by decide +kernel
theorem d_M_sum_4 : decode b_M_sum 4 = .ok (.ifCond .eq 10, 3) := by decide +kernel
theorem d_M_sum_7 : decode b_M_sum 7 = .ok (.aload_n 0, 1) := by decide +kernel
theorem d_M_sum_8 : decode b_M_sum 8 = .ok (.invokevirtual 92, 3) := by decide +kernel
theorem d_M_sum_11 : decode b_M_sum 11 = .ok (.goto 6, 3) := by decide +kernel
theorem d_M_sum_14 : decode b_M_sum 14 = .ok (.ldc2_w 78, 3) := by decide +kernel
theorem d_M_sum_17 : decode b_M_sum 17 = .ok (.lreturn, 1) := by decide +kernel
theorem d_M_product_0 : decode b_M_product 0 = .ok (.lconst 1, 1) := by decide +kernel
theorem d_M_product_1 : decode b_M_product 1 = .ok (.lstore_n 1, 1) := by decide +kernel
theorem d_M_product_2 : decode b_M_product 2 = .ok (.bipush 29, 2) := by decide +kernel
theorem d_M_product_4 : decode b_M_product 4 = .ok (.istore_n 3, 1) := by decide +kernel
theorem d_M_product_5 : decode b_M_product 5 = .ok (.iload_n 3, 1) := by decide +kernel
theorem d_M_product_6 : decode b_M_product 6 = .ok (.ifCond .lt 38, 3) := by decide +kernel
theorem d_M_product_9 : decode b_M_product 9 = .ok (.aload_n 0, 1) := by decide +kernel
theorem d_M_product_10 : decode b_M_product 10 = .ok (.getfield 7, 3) := by decide +kernel
theorem d_M_product_13 : decode b_M_product 13 = .ok (.iload_n 3, 1) := by decide +kernel
theorem d_M_product_14 : decode b_M_product 14 = .ok (.laload, 1) := by decide +kernel
theorem d_M_product_15 : decode b_M_product 15 = .ok (.lconst 0, 1) := by decide +kernel
theorem d_M_product_16 : decode b_M_product 16 = .ok (.lcmp, 1) := by decide +kernel
theorem d_M_product_17 : decode b_M_product 17 = .ok (.ifCond .eq 19, 3) := by decide +kernel
theorem d_M_product_20 : decode b_M_product 20 = .ok (.lload_n 1, 1) := by decide +kernel
theorem d_M_product_21 : decode b_M_product 21 = .ok (.aload_n 0, 1) := by decide +kernel
theorem d_M_product_22 : decode b_M_product 22 = .ok (.getfield 7, 3) := by decide +kernel
theorem d_M_product_25 : decode b_M_product 25 = .ok (.iload_n 3, 1) := by decide +kernel
theorem d_M_product_26 : decode b_M_product 26 = .ok (.laload, 1) := by decide +kernel
theorem d_M_product_27 : decode b_M_product 27 = .ok (.lmul, 1) := by decide +kernel
theorem d_M_product_28 : decode b_M_product 28 = .ok (.aload_n 0, 1) := by decide +kernel
theorem d_M_product_29 : decode b_M_product 29 = .ok (.getfield 21, 3) := by decide +kernel
theorem d_M_product_32 : decode b_M_product 32 = .ok (.lrem, 1) := by decide +kernel
theorem d_M_product_33 : decode b_M_product 33 = .ok (.goto 4, 3) := by decide +kernel
theorem d_M_product_36 : decode b_M_product 36 = .ok (.lload_n 1, 1) := by decide +kernel
theorem d_M_product_37 : decode b_M_product 37 = .ok (.lstore_n 1, 1) := by decide +kernel
theorem d_M_product_38 : decode b_M_product 38 = .ok (.iinc 3 (-1), 3) := by decide +kernel
theorem d_M_product_41 : decode b_M_product 41 = .ok (.goto (-36), 3) := by decide +kernel
theorem d_M_product_44 : decode b_M_product 44 = .ok (.lload_n 1, 1) := by decide +kernel
theorem d_M_product_45 : decode b_M_product 45 = .ok (.lreturn, 1) := by decide +kernel
theorem d_M_close_0 : decode b_M_close 0 = .ok (.aload_n 0, 1) := by decide +kernel
theorem d_M_close_1 : decode b_M_close 1 = .ok (.getfield 30, 3) := by decide +kernel
theorem d_M_close_4 : decode b_M_close 4 = .ok (.ifCond .eq 10, 3) := by decide +kernel
theorem d_M_close_7 : decode b_M_close 7 = .ok (.aload_n 0, 1) := by decide +kernel
theorem d_M_close_8 : decode b_M_close 8 = .ok (.getfield 68, 3) := by decide +kernel
theorem d_M_close_11 : decode b_M_close 11 = .ok (.ifCond .eq 20, 3) := by decide +kernel
theorem d_M_close_14 : decode b_M_close 14 = .ok (.aload_n 0, 1) := by decide +kernel
theorem d_M_close_15 : decode b_M_close 15 = .ok (.getfield 30, 3) := by decide +kernel
theorem d_M_close_18 : decode b_M_close 18 = .ok (.ifCond .eq 9, 3) := by decide +kernel
theorem d_M_close_21 : decode b_M_close 21 = .ok (.ldc2_w 88, 3) := by decide +kernel
theorem d_M_close_24 : decode b_M_close 24 = .ok (.goto 6, 3) := by decide +kernel
theorem d_M_close_27 : decode b_M_close 27 = .ok (.ldc2_w 78, 3) := by decide +kernel
theorem d_M_close_30 : decode b_M_close 30 = .ok (.lreturn, 1) := by decide +kernel
theorem d_M_close_31 : decode b_M_close 31 = .ok (.aload_n 0, 1) := by decide +kernel
theorem d_M_close_32 : decode b_M_close 32 = .ok (.iconst 1, 1) := by decide +kernel
theorem d_M_close_33 : decode b_M_close 33 = .ok (.putfield 68, 3) := by decide +kernel
theorem d_M_close_36 : decode b_M_close 36 = .ok (.aload_n 0, 1) := by decide +kernel
theorem d_M_close_37 : decode b_M_close 37 = .ok (.aload_n 0, 1) := by decide +kernel
theorem d_M_close_38 : decode b_M_close 38 = .ok (.invokevirtual 92, 3) := by decide +kernel
theorem d_M_close_41 : decode b_M_close 41 = .ok (.invokevirtual 65, 3) := by decide +kernel
theorem d_M_close_44 : decode b_M_close 44 = .ok (.lreturn, 1) := by decide +kernel
theorem d_M_votes_0 : decode b_M_votes 0 = .ok (.aload_n 0, 1) := by decide +kernel
theorem d_M_votes_1 : decode b_M_votes 1 = .ok (.getfield 30, 3) := by decide +kernel
theorem d_M_votes_4 : decode b_M_votes 4 = .ok (.ifCond .ne 6, 3) := by decide +kernel
theorem d_M_votes_7 : decode b_M_votes 7 = .ok (.bipush (-2), 2) := by decide +kernel
theorem d_M_votes_9 : decode b_M_votes 9 = .ok (.ireturn, 1) := by decide +kernel
theorem d_M_votes_10 : decode b_M_votes 10 = .ok (.iload_n 1, 1) := by decide +kernel
theorem d_M_votes_11 : decode b_M_votes 11 = .ok (.ifCond .lt 11, 3) := by decide +kernel
theorem d_M_votes_14 : decode b_M_votes 14 = .ok (.iload_n 1, 1) := by decide +kernel
theorem d_M_votes_15 : decode b_M_votes 15 = .ok (.aload_n 0, 1) := by decide +kernel
theorem d_M_votes_16 : decode b_M_votes 16 = .ok (.getfield 71, 3) := by decide +kernel
theorem d_M_votes_19 : decode b_M_votes 19 = .ok (.if_icmp .lt 6, 3) := by decide +kernel
theorem d_M_votes_22 : decode b_M_votes 22 = .ok (.bipush (-4), 2) := by decide +kernel
theorem d_M_votes_24 : decode b_M_votes 24 = .ok (.ireturn, 1) := by decide +kernel
theorem d_M_votes_25 : decode b_M_votes 25 = .ok (.aload_n 0, 1) := by decide +kernel
theorem d_M_votes_26 : decode b_M_votes 26 = .ok (.getfield 68, 3) := by decide +kernel
theorem d_M_votes_29 : decode b_M_votes 29 = .ok (.ifCond .ne 6, 3) := by decide +kernel
theorem d_M_votes_32 : decode b_M_votes 32 = .ok (.bipush (-6), 2) := by decide +kernel
theorem d_M_votes_34 : decode b_M_votes 34 = .ok (.ireturn, 1) := by decide +kernel
theorem d_M_votes_35 : decode b_M_votes 35 = .ok (.aload_n 0, 1) := by decide +kernel
theorem d_M_votes_36 : decode b_M_votes 36 = .ok (.aload_n 0, 1) := by decide +kernel
theorem d_M_votes_37 : decode b_M_votes 37 = .ok (.invokevirtual 92, 3) := by decide +kernel
theorem d_M_votes_40 : decode b_M_votes 40 = .ok (.invokevirtual 65, 3) := by decide +kernel
theorem d_M_votes_43 : decode b_M_votes 43 = .ok (.lstore_n 2, 1) := by decide +kernel
theorem d_M_votes_44 : decode b_M_votes 44 = .ok (.lload_n 2, 1) := by decide +kernel
theorem d_M_votes_45 : decode b_M_votes 45 = .ok (.aload_n 0, 1) := by decide +kernel
theorem d_M_votes_46 : decode b_M_votes 46 = .ok (.iload_n 1, 1) := by decide +kernel
theorem d_M_votes_47 : decode b_M_votes 47 = .ok (.invokevirtual 80, 3) := by decide +kernel
theorem d_M_votes_50 : decode b_M_votes 50 = .ok (.ldiv, 1) := by decide +kernel
theorem d_M_votes_51 : decode b_M_votes 51 = .ok (.aload_n 0, 1) := by decide +kernel
theorem d_M_votes_52 : decode b_M_votes 52 = .ok (.getfield 75, 3) := by decide +kernel
theorem d_M_votes_55 : decode b_M_votes 55 = .ok (.i2l, 1) := by decide +kernel
theorem d_M_votes_56 : decode b_M_votes 56 = .ok (.lrem, 1) := by decide +kernel
theorem d_M_votes_57 : decode b_M_votes 57 = .ok (.l2i, 1) := by decide +kernel
theorem d_M_votes_58 : decode b_M_votes 58 = .ok (.ireturn, 1) := by decide +kernel
theorem d_M_witness_0 : decode b_M_witness 0 = .ok (.aload_n 0, 1) := by decide +kernel
theorem d_M_witness_1 : decode b_M_witness 1 = .ok (.getfield 30, 3) := by decide +kernel
theorem d_M_witness_4 : decode b_M_witness 4 = .ok (.ifCond .ne 7, 3) := by decide +kernel
theorem d_M_witness_7 : decode b_M_witness 7 = .ok (.ldc2_w 78, 3) := by decide +kernel
theorem d_M_witness_10 : decode b_M_witness 10 = .ok (.lreturn, 1) := by decide +kernel
theorem d_M_witness_11 : decode b_M_witness 11 = .ok (.aload_n 0, 1) := by decide +kernel
theorem d_M_witness_12 : decode b_M_witness 12 = .ok (.getfield 68, 3) := by decide +kernel
theorem d_M_witness_15 : decode b_M_witness 15 = .ok (.ifCond .eq 14, 3) := by decide +kernel
theorem d_M_witness_18 : decode b_M_witness 18 = .ok (.aload_n 0, 1) := by decide +kernel
theorem d_M_witness_19 : decode b_M_witness 19 = .ok (.aload_n 0, 1) := by decide +kernel
theorem d_M_witness_20 : decode b_M_witness 20 = .ok (.invokevirtual 92, 3) := by decide +kernel
theorem d_M_witness_23 : decode b_M_witness 23 = .ok (.invokevirtual 44, 3) := by decide +kernel
theorem d_M_witness_26 : decode b_M_witness 26 = .ok (.goto 6, 3) := by decide +kernel
theorem d_M_witness_29 : decode b_M_witness 29 = .ok (.ldc2_w 90, 3) := by decide +kernel
theorem d_M_witness_32 : decode b_M_witness 32 = .ok (.lreturn, 1) := by decide +kernel
theorem d_M_check_0 : decode b_M_check 0 = .ok (.aload_n 0, 1) := by decide +kernel
theorem d_M_check_1 : decode b_M_check 1 = .ok (.getfield 30, 3) := by decide +kernel
theorem d_M_check_4 : decode b_M_check 4 = .ok (.ifCond .eq 37, 3) := by decide +kernel
theorem d_M_check_7 : decode b_M_check 7 = .ok (.aload_n 0, 1) := by decide +kernel
theorem d_M_check_8 : decode b_M_check 8 = .ok (.lload_n 1, 1) := by decide +kernel
theorem d_M_check_9 : decode b_M_check 9 = .ok (.invokevirtual 50, 3) := by decide +kernel
theorem d_M_check_12 : decode b_M_check 12 = .ok (.ifCond .eq 29, 3) := by decide +kernel
theorem d_M_check_15 : decode b_M_check 15 = .ok (.aload_n 0, 1) := by decide +kernel
theorem d_M_check_16 : decode b_M_check 16 = .ok (.lload_n 3, 1) := by decide +kernel
theorem d_M_check_17 : decode b_M_check 17 = .ok (.invokevirtual 54, 3) := by decide +kernel
theorem d_M_check_20 : decode b_M_check 20 = .ok (.ifCond .eq 21, 3) := by decide +kernel
theorem d_M_check_23 : decode b_M_check 23 = .ok (.aload_n 0, 1) := by decide +kernel
theorem d_M_check_24 : decode b_M_check 24 = .ok (.lload_n 1, 1) := by decide +kernel
theorem d_M_check_25 : decode b_M_check 25 = .ok (.lload_n 3, 1) := by decide +kernel
theorem d_M_check_26 : decode b_M_check 26 = .ok (.invokevirtual 57, 3) := by decide +kernel
theorem d_M_check_29 : decode b_M_check 29 = .ok (.aload_n 0, 1) := by decide +kernel
theorem d_M_check_30 : decode b_M_check 30 = .ok (.invokevirtual 92, 3) := by decide +kernel
theorem d_M_check_33 : decode b_M_check 33 = .ok (.lcmp, 1) := by decide +kernel
theorem d_M_check_34 : decode b_M_check 34 = .ok (.ifCond .ne 7, 3) := by decide +kernel
theorem d_M_check_37 : decode b_M_check 37 = .ok (.iconst 1, 1) := by decide +kernel
theorem d_M_check_38 : decode b_M_check 38 = .ok (.goto 4, 3) := by decide +kernel
theorem d_M_check_41 : decode b_M_check 41 = .ok (.iconst 0, 1) := by decide +kernel
theorem d_M_check_42 : decode b_M_check 42 = .ok (.ireturn, 1) := by decide +kernel
