theorem d_X_init_0 : decode b_X_init 0 = .ok (.aload_n 0, 1) := by decide +kernel
theorem d_X_init_1 : decode b_X_init 1 = .ok (.invokespecial 1, 3) := by decide +kernel
theorem d_X_init_4 : decode b_X_init 4 = .ok (.aload_n 0, 1) := by decide +kernel
theorem d_X_init_5 : decode b_X_init 5 = .ok (.bipush 30, 2) := by decide +kernel
theorem d_X_init_7 : decode b_X_init 7 = .ok (.newarray .long, 2) := by decide +kernel
theorem d_X_init_9 : decode b_X_init 9 = .ok (.putfield 9, 3) := by decide +kernel
theorem d_X_init_12 : decode b_X_init 12 = .ok (.return_, 1) := by decide +kernel
theorem d_X_key_0 : decode b_X_key 0 = .ok (.iload_n 1, 1) := by decide +kernel
theorem d_X_key_1 : decode b_X_key 1 = .ok (.iload_n 2, 1) := by decide +kernel
theorem d_X_key_2 : decode b_X_key 2 = .ok (.invokestatic 13, 3) := by decide +kernel
theorem d_X_key_5 : decode b_X_key 5 = .ok (.ifCond .ne 6, 3) := by decide +kernel
theorem d_X_key_8 : decode b_X_key 8 = .ok (.bipush (-4), 2) := by decide +kernel
theorem d_X_key_10 : decode b_X_key 10 = .ok (.ireturn, 1) := by decide +kernel
theorem d_X_key_11 : decode b_X_key 11 = .ok (.aload_n 0, 1) := by decide +kernel
theorem d_X_key_12 : decode b_X_key 12 = .ok (.iload_n 1, 1) := by decide +kernel
theorem d_X_key_13 : decode b_X_key 13 = .ok (.putfield 17, 3) := by decide +kernel
theorem d_X_key_16 : decode b_X_key 16 = .ok (.aload_n 0, 1) := by decide +kernel
theorem d_X_key_17 : decode b_X_key 17 = .ok (.iload_n 2, 1) := by decide +kernel
theorem d_X_key_18 : decode b_X_key 18 = .ok (.putfield 21, 3) := by decide +kernel
theorem d_X_key_21 : decode b_X_key 21 = .ok (.aload_n 0, 1) := by decide +kernel
theorem d_X_key_22 : decode b_X_key 22 = .ok (.iload_n 1, 1) := by decide +kernel
theorem d_X_key_23 : decode b_X_key 23 = .ok (.iload_n 2, 1) := by decide +kernel
theorem d_X_key_24 : decode b_X_key 24 = .ok (.imul, 1) := by decide +kernel
theorem d_X_key_25 : decode b_X_key 25 = .ok (.putfield 24, 3) := by decide +kernel
theorem d_X_key_28 : decode b_X_key 28 = .ok (.aload_n 0, 1) := by decide +kernel
theorem d_X_key_29 : decode b_X_key 29 = .ok (.aload_n 0, 1) := by decide +kernel
theorem d_X_key_30 : decode b_X_key 30 = .ok (.getfield 24, 3) := by decide +kernel
theorem d_X_key_33 : decode b_X_key 33 = .ok (.i2l, 1) := by decide +kernel
theorem d_X_key_34 : decode b_X_key 34 = .ok (.aload_n 0, 1) := by decide +kernel
theorem d_X_key_35 : decode b_X_key 35 = .ok (.getfield 24, 3) := by decide +kernel
theorem d_X_key_38 : decode b_X_key 38 = .ok (.i2l, 1) := by decide +kernel
theorem d_X_key_39 : decode b_X_key 39 = .ok (.lmul, 1) := by decide +kernel
theorem d_X_key_40 : decode b_X_key 40 = .ok (.putfield 27, 3) := by decide +kernel
theorem d_X_key_43 : decode b_X_key 43 = .ok (.aload_n 0, 1) := by decide +kernel
theorem d_X_key_44 : decode b_X_key 44 = .ok (.iload_n 1, 1) := by decide +kernel
theorem d_X_key_45 : decode b_X_key 45 = .ok (.iconst 1, 1) := by decide +kernel
theorem d_X_key_46 : decode b_X_key 46 = .ok (.isub, 1) := by decide +kernel
theorem d_X_key_47 : decode b_X_key 47 = .ok (.i2l, 1) := by decide +kernel
theorem d_X_key_48 : decode b_X_key 48 = .ok (.iload_n 2, 1) := by decide +kernel
theorem d_X_key_49 : decode b_X_key 49 = .ok (.iconst 1, 1) := by decide +kernel
theorem d_X_key_50 : decode b_X_key 50 = .ok (.isub, 1) := by decide +kernel
theorem d_X_key_51 : decode b_X_key 51 = .ok (.i2l, 1) := by decide +kernel
theorem d_X_key_52 : decode b_X_key 52 = .ok (.lmul, 1) := by decide +kernel
theorem d_X_key_53 : decode b_X_key 53 = .ok (.putfield 31, 3) := by decide +kernel
theorem d_X_key_56 : decode b_X_key 56 = .ok (.aload_n 0, 1) := by decide +kernel
theorem d_X_key_57 : decode b_X_key 57 = .ok (.aload_n 0, 1) := by decide +kernel
theorem d_X_key_58 : decode b_X_key 58 = .ok (.getfield 31, 3) := by decide +kernel
theorem d_X_key_61 : decode b_X_key 61 = .ok (.aload_n 0, 1) := by decide +kernel
theorem d_X_key_62 : decode b_X_key 62 = .ok (.getfield 31, 3) := by decide +kernel
theorem d_X_key_65 : decode b_X_key 65 = .ok (.lconst 1, 1) := by decide +kernel
theorem d_X_key_66 : decode b_X_key 66 = .ok (.lsub, 1) := by decide +kernel
theorem d_X_key_67 : decode b_X_key 67 = .ok (.aload_n 0, 1) := by decide +kernel
theorem d_X_key_68 : decode b_X_key 68 = .ok (.getfield 24, 3) := by decide +kernel
theorem d_X_key_71 : decode b_X_key 71 = .ok (.i2l, 1) := by decide +kernel
theorem d_X_key_72 : decode b_X_key 72 = .ok (.invokestatic 34, 3) := by decide +kernel
theorem d_X_key_75 : decode b_X_key 75 = .ok (.putfield 38, 3) := by decide +kernel
theorem d_X_key_78 : decode b_X_key 78 = .ok (.aload_n 0, 1) := by decide +kernel
theorem d_X_key_79 : decode b_X_key 79 = .ok (.aload_n 0, 1) := by decide +kernel
theorem d_X_key_80 : decode b_X_key 80 = .ok (.getfield 31, 3) := by decide +kernel
theorem d_X_key_83 : decode b_X_key 83 = .ok (.aload_n 0, 1) := by decide +kernel
theorem d_X_key_84 : decode b_X_key 84 = .ok (.getfield 31, 3) := by decide +kernel
theorem d_X_key_87 : decode b_X_key 87 = .ok (.aload_n 0, 1) := by decide +kernel
theorem d_X_key_88 : decode b_X_key 88 = .ok (.getfield 38, 3) := by decide +kernel
theorem d_X_key_91 : decode b_X_key 91 = .ok (.lmul, 1) := by decide +kernel
theorem d_X_key_92 : decode b_X_key 92 = .ok (.lconst 1, 1) := by decide +kernel
theorem d_X_key_93 : decode b_X_key 93 = .ok (.lsub, 1) := by decide +kernel
theorem d_X_key_94 : decode b_X_key 94 = .ok (.aload_n 0, 1) := by decide +kernel
theorem d_X_key_95 : decode b_X_key 95 = .ok (.getfield 24, 3) := by decide +kernel
theorem d_X_key_98 : decode b_X_key 98 = .ok (.i2l, 1) := by decide +kernel
theorem d_X_key_99 : decode b_X_key 99 = .ok (.ldiv, 1) := by decide +kernel
theorem d_X_key_100 : decode b_X_key 100 = .ok (.lsub, 1) := by decide +kernel
theorem d_X_key_101 : decode b_X_key 101 = .ok (.putfield 41, 3) := by decide +kernel
theorem d_X_key_104 : decode b_X_key 104 = .ok (.aload_n 0, 1) := by decide +kernel
theorem d_X_key_105 : decode b_X_key 105 = .ok (.iconst 0, 1) := by decide +kernel
theorem d_X_key_106 : decode b_X_key 106 = .ok (.putfield 44, 3) := by decide +kernel
theorem d_X_key_109 : decode b_X_key 109 = .ok (.aload_n 0, 1) := by decide +kernel
theorem d_X_key_110 : decode b_X_key 110 = .ok (.getfield 24, 3) := by decide +kernel
theorem d_X_key_113 : decode b_X_key 113 = .ok (.ireturn, 1) := by decide +kernel
theorem d_X_isKey_0 : decode b_X_isKey 0 = .ok (.iload_n 0, 1) := by decide +kernel
theorem d_X_isKey_1 : decode b_X_isKey 1 = .ok (.invokestatic 127, 3) := by decide +kernel
theorem d_X_isKey_4 : decode b_X_isKey 4 = .ok (.ifCond .eq 35, 3) := by decide +kernel
theorem d_X_isKey_7 : decode b_X_isKey 7 = .ok (.iload_n 1, 1) := by decide +kernel
theorem d_X_isKey_8 : decode b_X_isKey 8 = .ok (.invokestatic 127, 3) := by decide +kernel
theorem d_X_isKey_11 : decode b_X_isKey 11 = .ok (.ifCond .eq 28, 3) := by decide +kernel
theorem d_X_isKey_14 : decode b_X_isKey 14 = .ok (.iload_n 0, 1) := by decide +kernel
theorem d_X_isKey_15 : decode b_X_isKey 15 = .ok (.iload_n 1, 1) := by decide +kernel
theorem d_X_isKey_16 : decode b_X_isKey 16 = .ok (.if_icmp .eq 23, 3) := by decide +kernel
theorem d_X_isKey_19 : decode b_X_isKey 19 = .ok (.iload_n 1, 1) := by decide +kernel
theorem d_X_isKey_20 : decode b_X_isKey 20 = .ok (.iconst 1, 1) := by decide +kernel
theorem d_X_isKey_21 : decode b_X_isKey 21 = .ok (.isub, 1) := by decide +kernel
theorem d_X_isKey_22 : decode b_X_isKey 22 = .ok (.iload_n 0, 1) := by decide +kernel
theorem d_X_isKey_23 : decode b_X_isKey 23 = .ok (.irem, 1) := by decide +kernel
theorem d_X_isKey_24 : decode b_X_isKey 24 = .ok (.ifCond .eq 15, 3) := by decide +kernel
theorem d_X_isKey_27 : decode b_X_isKey 27 = .ok (.iload_n 0, 1) := by decide +kernel
theorem d_X_isKey_28 : decode b_X_isKey 28 = .ok (.iconst 1, 1) := by decide +kernel
theorem d_X_isKey_29 : decode b_X_isKey 29 = .ok (.isub, 1) := by decide +kernel
theorem d_X_isKey_30 : decode b_X_isKey 30 = .ok (.iload_n 1, 1) := by decide +kernel
theorem d_X_isKey_31 : decode b_X_isKey 31 = .ok (.irem, 1) := by decide +kernel
theorem d_X_isKey_32 : decode b_X_isKey 32 = .ok (.ifCond .eq 7, 3) := by decide +kernel
theorem d_X_isKey_35 : decode b_X_isKey 35 = .ok (.iconst 1, 1) := by decide +kernel
theorem d_X_isKey_36 : decode b_X_isKey 36 = .ok (.goto 4, 3) := by decide +kernel
theorem d_X_isKey_39 : decode b_X_isKey 39 = .ok (.iconst 0, 1) := by decide +kernel
theorem d_X_isKey_40 : decode b_X_isKey 40 = .ok (.ireturn, 1) := by decide +kernel
theorem d_X_isKeyPrime_0 : decode b_X_isKeyPrime 0 = .ok (.iload_n 0, 1) := by decide +kernel
theorem d_X_isKeyPrime_1 : decode b_X_isKeyPrime 1 = .ok (.iconst 3, 1) := by decide +kernel
theorem d_X_isKeyPrime_2 : decode b_X_isKeyPrime 2 = .ok (.if_icmp .lt 10, 3) := by decide +kernel
theorem d_X_isKeyPrime_5 : decode b_X_isKeyPrime 5 = .ok (.iload_n 0, 1) := by decide +kernel
theorem d_X_isKeyPrime_6 : decode b_X_isKeyPrime 6 = .ok (.sipush 229, 3) := by decide +kernel
theorem d_X_isKeyPrime_9 : decode b_X_isKeyPrime 9 = .ok (.if_icmp .le 5, 3) := by decide +kernel
theorem d_X_isKeyPrime_12 : decode b_X_isKeyPrime 12 = .ok (.iconst 0, 1) := by decide +kernel
theorem d_X_isKeyPrime_13 : decode b_X_isKeyPrime 13 = .ok (.ireturn, 1) := by decide +kernel
theorem d_X_isKeyPrime_14 : decode b_X_isKeyPrime 14 = .ok (.iconst 2, 1) := by decide +kernel
theorem d_X_isKeyPrime_15 : decode b_X_isKeyPrime 15 = .ok (.istore_n 1, 1) := by decide +kernel
theorem d_X_isKeyPrime_16 : decode b_X_isKeyPrime 16 = .ok (.iload_n 1, 1) := by decide +kernel
theorem d_X_isKeyPrime_17 : decode b_X_isKeyPrime 17 = .ok (.iload_n 0, 1) := by decide +kernel
theorem d_X_isKeyPrime_18 : decode b_X_isKeyPrime 18 = .ok (.if_icmp .ge 17, 3) := by decide +kernel
theorem d_X_isKeyPrime_21 : decode b_X_isKeyPrime 21 = .ok (.iload_n 0, 1) := by decide +kernel
theorem d_X_isKeyPrime_22 : decode b_X_isKeyPrime 22 = .ok (.iload_n 1, 1) := by decide +kernel
theorem d_X_isKeyPrime_23 : decode b_X_isKeyPrime 23 = .ok (.irem, 1) := by decide +kernel
theorem d_X_isKeyPrime_24 : decode b_X_isKeyPrime 24 = .ok (.ifCond .ne 5, 3) := by decide +kernel
theorem d_X_isKeyPrime_27 : decode b_X_isKeyPrime 27 = .ok (.iconst 0, 1) := by decide +kernel
theorem d_X_isKeyPrime_28 : decode b_X_isKeyPrime 28 = .ok (.ireturn, 1) := by decide +kernel
theorem d_X_isKeyPrime_29 : decode b_X_isKeyPrime 29 = .ok (.iinc 1 1, 3) := by decide +kernel
theorem d_X_isKeyPrime_32 : decode b_X_isKeyPrime 32 = .ok (.goto (-16), 3) := by decide +kernel
theorem d_X_isKeyPrime_35 : decode b_X_isKeyPrime 35 = .ok (.iconst 1, 1) := by decide +kernel
theorem d_X_isKeyPrime_36 : decode b_X_isKeyPrime 36 = .ok (.ireturn, 1) := by decide +kernel
theorem d_X_raised_0 : decode b_X_raised 0 = .ok (.lconst 1, 1) := by decide +kernel
theorem d_X_raised_1 : decode b_X_raised 1 = .ok (.lstore 6, 2) := by decide +kernel
theorem d_X_raised_3 : decode b_X_raised 3 = .ok (.lload_n 0, 1) := by decide +kernel
theorem d_X_raised_4 : decode b_X_raised 4 = .ok (.lstore 8, 2) := by decide +kernel
theorem d_X_raised_6 : decode b_X_raised 6 = .ok (.iconst 0, 1) := by decide +kernel
theorem d_X_raised_7 : decode b_X_raised 7 = .ok (.istore 10, 2) := by decide +kernel
theorem d_X_raised_9 : decode b_X_raised 9 = .ok (.iload 10, 2) := by decide +kernel
theorem d_X_raised_11 : decode b_X_raised 11 = .ok (.bipush 32, 2) := by decide +kernel
theorem d_X_raised_13 : decode b_X_raised 13 = .ok (.if_icmp .ge 40, 3) := by decide +kernel
theorem d_X_raised_16 : decode b_X_raised 16 = .ok (.lload_n 2, 1) := by decide +kernel
theorem d_X_raised_17 : decode b_X_raised 17 = .ok (.iload 10, 2) := by decide +kernel
theorem d_X_raised_19 : decode b_X_raised 19 = .ok (.lshr, 1) := by decide +kernel
theorem d_X_raised_20 : decode b_X_raised 20 = .ok (.lconst 1, 1) := by decide +kernel
theorem d_X_raised_21 : decode b_X_raised 21 = .ok (.land, 1) := by decide +kernel
theorem d_X_raised_22 : decode b_X_raised 22 = .ok (.lconst 1, 1) := by decide +kernel
theorem d_X_raised_23 : decode b_X_raised 23 = .ok (.lcmp, 1) := by decide +kernel
theorem d_X_raised_24 : decode b_X_raised 24 = .ok (.ifCond .ne 13, 3) := by decide +kernel
theorem d_X_raised_27 : decode b_X_raised 27 = .ok (.lload 6, 2) := by decide +kernel
theorem d_X_raised_29 : decode b_X_raised 29 = .ok (.lload 8, 2) := by decide +kernel
theorem d_X_raised_31 : decode b_X_raised 31 = .ok (.lmul, 1) := by decide +kernel
theorem d_X_raised_32 : decode b_X_raised 32 = .ok (.lload 4, 2) := by decide +kernel
theorem d_X_raised_34 : decode b_X_raised 34 = .ok (.lrem, 1) := by decide +kernel
theorem d_X_raised_35 : decode b_X_raised 35 = .ok (.lstore 6, 2) := by decide +kernel
theorem d_X_raised_37 : decode b_X_raised 37 = .ok (.lload 8, 2) := by decide +kernel
theorem d_X_raised_39 : decode b_X_raised 39 = .ok (.lload 8, 2) := by decide +kernel
theorem d_X_raised_41 : decode b_X_raised 41 = .ok (.lmul, 1) := by decide +kernel
theorem d_X_raised_42 : decode b_X_raised 42 = .ok (.lload 4, 2) := by decide +kernel
theorem d_X_raised_44 : decode b_X_raised 44 = .ok (.lrem, 1) := by decide +kernel
theorem d_X_raised_45 : decode b_X_raised 45 = .ok (.lstore 8, 2) := by decide +kernel
theorem d_X_raised_47 : decode b_X_raised 47 = .ok (.iinc 10 1, 3) := by decide +kernel
theorem d_X_raised_50 : decode b_X_raised 50 = .ok (.goto (-41), 3) := by decide +kernel
theorem d_X_raised_53 : decode b_X_raised 53 = .ok (.lload 6, 2) := by decide +kernel
theorem d_X_raised_55 : decode b_X_raised 55 = .ok (.lreturn, 1) := by decide +kernel
theorem d_X_modulus_0 : decode b_X_modulus 0 = .ok (.aload_n 0, 1) := by decide +kernel
theorem d_X_modulus_1 : decode b_X_modulus 1 = .ok (.getfield 24, 3) := by decide +kernel
theorem d_X_modulus_4 : decode b_X_modulus 4 = .ok (.ireturn, 1) := by decide +kernel
theorem d_X_seal_0 : decode b_X_seal 0 = .ok (.aload_n 0, 1) := by decide +kernel
theorem d_X_seal_1 : decode b_X_seal 1 = .ok (.invokevirtual 47, 3) := by decide +kernel
theorem d_X_seal_4 : decode b_X_seal 4 = .ok (.ifCond .ne 7, 3) := by decide +kernel
theorem d_X_seal_7 : decode b_X_seal 7 = .ok (.ldc2_w 51, 3) := by decide +kernel
theorem d_X_seal_10 : decode b_X_seal 10 = .ok (.lreturn, 1) := by decide +kernel
theorem d_X_seal_11 : decode b_X_seal 11 = .ok (.aload_n 0, 1) := by decide +kernel
theorem d_X_seal_12 : decode b_X_seal 12 = .ok (.lload_n 1, 1) := by decide +kernel
theorem d_X_seal_13 : decode b_X_seal 13 = .ok (.invokevirtual 53, 3) := by decide +kernel
theorem d_X_seal_16 : decode b_X_seal 16 = .ok (.ifCond .eq 11, 3) := by decide +kernel
theorem d_X_seal_19 : decode b_X_seal 19 = .ok (.aload_n 0, 1) := by decide +kernel
theorem d_X_seal_20 : decode b_X_seal 20 = .ok (.lload_n 3, 1) := by decide +kernel
theorem d_X_seal_21 : decode b_X_seal 21 = .ok (.invokevirtual 57, 3) := by decide +kernel
theorem d_X_seal_24 : decode b_X_seal 24 = .ok (.ifCond .ne 7, 3) := by decide +kernel
theorem d_X_seal_27 : decode b_X_seal 27 = .ok (.ldc2_w 60, 3) := by decide +kernel
theorem d_X_seal_30 : decode b_X_seal 30 = .ok (.lreturn, 1) := by decide +kernel
theorem d_X_seal_31 : decode b_X_seal 31 = .ok (.aload_n 0, 1) := by decide +kernel
theorem d_X_seal_32 : decode b_X_seal 32 = .ok (.lload_n 1, 1) := by decide +kernel
theorem d_X_seal_33 : decode b_X_seal 33 = .ok (.lload_n 3, 1) := by decide +kernel
theorem d_X_seal_34 : decode b_X_seal 34 = .ok (.invokevirtual 62, 3) := by decide +kernel
theorem d_X_seal_37 : decode b_X_seal 37 = .ok (.lreturn, 1) := by decide +kernel
theorem d_X_hasKey_0 : decode b_X_hasKey 0 = .ok (.aload_n 0, 1) := by decide +kernel
theorem d_X_hasKey_1 : decode b_X_hasKey 1 = .ok (.getfield 24, 3) := by decide +kernel
theorem d_X_hasKey_4 : decode b_X_hasKey 4 = .ok (.ifCond .le 7, 3) := by decide +kernel
theorem d_X_hasKey_7 : decode b_X_hasKey 7 = .ok (.iconst 1, 1) := by decide +kernel
theorem d_X_hasKey_8 : decode b_X_hasKey 8 = .ok (.goto 4, 3) := by decide +kernel
theorem d_X_hasKey_11 : decode b_X_hasKey 11 = .ok (.iconst 0, 1) := by decide +kernel
theorem d_X_hasKey_12 : decode b_X_hasKey 12 = .ok (.ireturn, 1) := by decide +kernel
theorem d_X_isMessage_0 : decode b_X_isMessage 0 = .ok (.lload_n 1, 1) := by decide +kernel
theorem d_X_isMessage_1 : decode b_X_isMessage 1 = .ok (.lconst 0, 1) := by decide +kernel
theorem d_X_isMessage_2 : decode b_X_isMessage 2 = .ok (.lcmp, 1) := by decide +kernel
theorem d_X_isMessage_3 : decode b_X_isMessage 3 = .ok (.ifCond .lt 17, 3) := by decide +kernel
theorem d_X_isMessage_6 : decode b_X_isMessage 6 = .ok (.lload_n 1, 1) := by decide +kernel
theorem d_X_isMessage_7 : decode b_X_isMessage 7 = .ok (.aload_n 0, 1) := by decide +kernel
theorem d_X_isMessage_8 : decode b_X_isMessage 8 = .ok (.getfield 24, 3) := by decide +kernel
theorem d_X_isMessage_11 : decode b_X_isMessage 11 = .ok (.i2l, 1) := by decide +kernel
theorem d_X_isMessage_12 : decode b_X_isMessage 12 = .ok (.lcmp, 1) := by decide +kernel
theorem d_X_isMessage_13 : decode b_X_isMessage 13 = .ok (.ifCond .ge 7, 3) := by decide +kernel
theorem d_X_isMessage_16 : decode b_X_isMessage 16 = .ok (.iconst 1, 1) := by decide +kernel
theorem d_X_isMessage_17 : decode b_X_isMessage 17 = .ok (.goto 4, 3) := by decide +kernel
theorem d_X_isMessage_20 : decode b_X_isMessage 20 = .ok (.iconst 0, 1) := by decide +kernel
theorem d_X_isMessage_21 : decode b_X_isMessage 21 = .ok (.ireturn, 1) := by decide +kernel
theorem d_X_isCoin_0 : decode b_X_isCoin 0 = .ok (.lload_n 1, 1) := by decide +kernel
theorem d_X_isCoin_1 : decode b_X_isCoin 1 = .ok (.lconst 1, 1) := by decide +kernel
theorem d_X_isCoin_2 : decode b_X_isCoin 2 = .ok (.lcmp, 1) := by decide +kernel
theorem d_X_isCoin_3 : decode b_X_isCoin 3 = .ok (.ifCond .lt 25, 3) := by decide +kernel
theorem d_X_isCoin_6 : decode b_X_isCoin 6 = .ok (.lload_n 1, 1) := by decide +kernel
theorem d_X_isCoin_7 : decode b_X_isCoin 7 = .ok (.aload_n 0, 1) := by decide +kernel
theorem d_X_isCoin_8 : decode b_X_isCoin 8 = .ok (.getfield 24, 3) := by decide +kernel
theorem d_X_isCoin_11 : decode b_X_isCoin 11 = .ok (.i2l, 1) := by decide +kernel
theorem d_X_isCoin_12 : decode b_X_isCoin 12 = .ok (.lcmp, 1) := by decide +kernel
theorem d_X_isCoin_13 : decode b_X_isCoin 13 = .ok (.ifCond .ge 15, 3) := by decide +kernel
theorem d_X_isCoin_16 : decode b_X_isCoin 16 = .ok (.aload_n 0, 1) := by decide +kernel
theorem d_X_isCoin_17 : decode b_X_isCoin 17 = .ok (.lload_n 1, 1) := by decide +kernel
theorem d_X_isCoin_18 : decode b_X_isCoin 18 = .ok (.invokevirtual 130, 3) := by decide +kernel
theorem d_X_isCoin_21 : decode b_X_isCoin 21 = .ok (.ifCond .eq 7, 3) := by decide +kernel
theorem d_X_isCoin_24 : decode b_X_isCoin 24 = .ok (.iconst 1, 1) := by decide +kernel
theorem d_X_isCoin_25 : decode b_X_isCoin 25 = .ok (.goto 4, 3) := by decide +kernel
theorem d_X_isCoin_28 : decode b_X_isCoin 28 = .ok (.iconst 0, 1) := by decide +kernel
theorem d_X_isCoin_29 : decode b_X_isCoin 29 = .ok (.ireturn, 1) := by decide +kernel
theorem d_X_sharesNoFactor_0 : decode b_X_sharesNoFactor 0 = .ok (.aload_n 0, 1) := by decide +kernel
theorem d_X_sharesNoFactor_1 : decode b_X_sharesNoFactor 1 = .ok (.invokevirtual 47, 3) := by decide +kernel
theorem d_X_sharesNoFactor_4 : decode b_X_sharesNoFactor 4 = .ok (.ifCond .eq 31, 3) := by decide +kernel
theorem d_X_sharesNoFactor_7 : decode b_X_sharesNoFactor 7 = .ok (.lload_n 1, 1) := by decide +kernel
theorem d_X_sharesNoFactor_8 : decode b_X_sharesNoFactor 8 = .ok (.aload_n 0, 1) := by decide +kernel
theorem d_X_sharesNoFactor_9 : decode b_X_sharesNoFactor 9 = .ok (.getfield 17, 3) := by decide +kernel
theorem d_X_sharesNoFactor_12 : decode b_X_sharesNoFactor 12 = .ok (.i2l, 1) := by decide +kernel
theorem d_X_sharesNoFactor_13 : decode b_X_sharesNoFactor 13 = .ok (.lrem, 1) := by decide +kernel
theorem d_X_sharesNoFactor_14 : decode b_X_sharesNoFactor 14 = .ok (.lconst 0, 1) := by decide +kernel
theorem d_X_sharesNoFactor_15 : decode b_X_sharesNoFactor 15 = .ok (.lcmp, 1) := by decide +kernel
theorem d_X_sharesNoFactor_16 : decode b_X_sharesNoFactor 16 = .ok (.ifCond .eq 19, 3) := by decide +kernel
theorem d_X_sharesNoFactor_19 : decode b_X_sharesNoFactor 19 = .ok (.lload_n 1, 1) := by decide +kernel
theorem d_X_sharesNoFactor_20 : decode b_X_sharesNoFactor 20 = .ok (.aload_n 0, 1) := by decide +kernel
theorem d_X_sharesNoFactor_21 : decode b_X_sharesNoFactor 21 = .ok (.getfield 21, 3) := by decide +kernel
theorem d_X_sharesNoFactor_24 : decode b_X_sharesNoFactor 24 = .ok (.i2l, 1) := by decide +kernel
theorem d_X_sharesNoFactor_25 : decode b_X_sharesNoFactor 25 = .ok (.lrem, 1) := by decide +kernel
theorem d_X_sharesNoFactor_26 : decode b_X_sharesNoFactor 26 = .ok (.lconst 0, 1) := by decide +kernel
theorem d_X_sharesNoFactor_27 : decode b_X_sharesNoFactor 27 = .ok (.lcmp, 1) := by decide +kernel
theorem d_X_sharesNoFactor_28 : decode b_X_sharesNoFactor 28 = .ok (.ifCond .eq 7, 3) := by decide +kernel
theorem d_X_sharesNoFactor_31 : decode b_X_sharesNoFactor 31 = .ok (.iconst 1, 1) := by decide +kernel
theorem d_X_sharesNoFactor_32 : decode b_X_sharesNoFactor 32 = .ok (.goto 4, 3) := by decide +kernel
theorem d_X_sharesNoFactor_35 : decode b_X_sharesNoFactor 35 = .ok (.iconst 0, 1) := by decide +kernel
theorem d_X_sharesNoFactor_36 : decode b_X_sharesNoFactor 36 = .ok (.ireturn, 1) := by decide +kernel
theorem d_X_sealing_0 : decode b_X_sealing 0 = .ok (.lconst 1, 1) := by decide +kernel
theorem d_X_sealing_1 : decode b_X_sealing 1 = .ok (.lload_n 1, 1) := by decide +kernel
theorem d_X_sealing_2 : decode b_X_sealing 2 = .ok (.aload_n 0, 1) := by decide +kernel
theorem d_X_sealing_3 : decode b_X_sealing 3 = .ok (.getfield 24, 3) := by decide +kernel
theorem d_X_sealing_6 : decode b_X_sealing 6 = .ok (.i2l, 1) := by decide +kernel
theorem d_X_sealing_7 : decode b_X_sealing 7 = .ok (.lmul, 1) := by decide +kernel
theorem d_X_sealing_8 : decode b_X_sealing 8 = .ok (.ladd, 1) := by decide +kernel
theorem d_X_sealing_9 : decode b_X_sealing 9 = .ok (.lload_n 3, 1) := by decide +kernel
theorem d_X_sealing_10 : decode b_X_sealing 10 = .ok (.aload_n 0, 1) := by decide +kernel
theorem d_X_sealing_11 : decode b_X_sealing 11 = .ok (.getfield 24, 3) := by decide +kernel
theorem d_X_sealing_14 : decode b_X_sealing 14 = .ok (.i2l, 1) := by decide +kernel
theorem d_X_sealing_15 : decode b_X_sealing 15 = .ok (.aload_n 0, 1) := by decide +kernel
theorem d_X_sealing_16 : decode b_X_sealing 16 = .ok (.getfield 27, 3) := by decide +kernel
theorem d_X_sealing_19 : decode b_X_sealing 19 = .ok (.invokestatic 34, 3) := by decide +kernel
theorem d_X_sealing_22 : decode b_X_sealing 22 = .ok (.lmul, 1) := by decide +kernel
theorem d_X_sealing_23 : decode b_X_sealing 23 = .ok (.aload_n 0, 1) := by decide +kernel
theorem d_X_sealing_24 : decode b_X_sealing 24 = .ok (.getfield 27, 3) := by decide +kernel
theorem d_X_sealing_27 : decode b_X_sealing 27 = .ok (.lrem, 1) := by decide +kernel
theorem d_X_sealing_28 : decode b_X_sealing 28 = .ok (.lreturn, 1) := by decide +kernel
theorem d_X_message_0 : decode b_X_message 0 = .ok (.aload_n 0, 1) := by decide +kernel
theorem d_X_message_1 : decode b_X_message 1 = .ok (.invokevirtual 47, 3) := by decide +kernel
theorem d_X_message_4 : decode b_X_message 4 = .ok (.ifCond .ne 7, 3) := by decide +kernel
theorem d_X_message_7 : decode b_X_message 7 = .ok (.ldc2_w 51, 3) := by decide +kernel
theorem d_X_message_10 : decode b_X_message 10 = .ok (.lreturn, 1) := by decide +kernel
theorem d_X_message_11 : decode b_X_message 11 = .ok (.aload_n 0, 1) := by decide +kernel
theorem d_X_message_12 : decode b_X_message 12 = .ok (.lload_n 1, 1) := by decide +kernel
theorem d_X_message_13 : decode b_X_message 13 = .ok (.invokevirtual 66, 3) := by decide +kernel
theorem d_X_message_16 : decode b_X_message 16 = .ok (.ifCond .ne 7, 3) := by decide +kernel
theorem d_X_message_19 : decode b_X_message 19 = .ok (.ldc2_w 60, 3) := by decide +kernel
theorem d_X_message_22 : decode b_X_message 22 = .ok (.lreturn, 1) := by decide +kernel
theorem d_X_message_23 : decode b_X_message 23 = .ok (.aload_n 0, 1) := by decide +kernel
theorem d_X_message_24 : decode b_X_message 24 = .ok (.lload_n 1, 1) := by decide +kernel
theorem d_X_message_25 : decode b_X_message 25 = .ok (.invokevirtual 69, 3) := by decide +kernel
theorem d_X_message_28 : decode b_X_message 28 = .ok (.lreturn, 1) := by decide +kernel
theorem d_X_isSeal_0 : decode b_X_isSeal 0 = .ok (.lload_n 1, 1) := by decide +kernel
theorem d_X_isSeal_1 : decode b_X_isSeal 1 = .ok (.lconst 1, 1) := by decide +kernel
theorem d_X_isSeal_2 : decode b_X_isSeal 2 = .ok (.lcmp, 1) := by decide +kernel
theorem d_X_isSeal_3 : decode b_X_isSeal 3 = .ok (.ifCond .lt 24, 3) := by decide +kernel
theorem d_X_isSeal_6 : decode b_X_isSeal 6 = .ok (.lload_n 1, 1) := by decide +kernel
theorem d_X_isSeal_7 : decode b_X_isSeal 7 = .ok (.aload_n 0, 1) := by decide +kernel
theorem d_X_isSeal_8 : decode b_X_isSeal 8 = .ok (.getfield 27, 3) := by decide +kernel
theorem d_X_isSeal_11 : decode b_X_isSeal 11 = .ok (.lcmp, 1) := by decide +kernel
theorem d_X_isSeal_12 : decode b_X_isSeal 12 = .ok (.ifCond .ge 15, 3) := by decide +kernel
theorem d_X_isSeal_15 : decode b_X_isSeal 15 = .ok (.aload_n 0, 1) := by decide +kernel
theorem d_X_isSeal_16 : decode b_X_isSeal 16 = .ok (.lload_n 1, 1) := by decide +kernel
theorem d_X_isSeal_17 : decode b_X_isSeal 17 = .ok (.invokevirtual 130, 3) := by decide +kernel
theorem d_X_isSeal_20 : decode b_X_isSeal 20 = .ok (.ifCond .eq 7, 3) := by decide +kernel
theorem d_X_isSeal_23 : decode b_X_isSeal 23 = .ok (.iconst 1, 1) := by decide +kernel
theorem d_X_isSeal_24 : decode b_X_isSeal 24 = .ok (.goto 4, 3) := by decide +kernel
theorem d_X_isSeal_27 : decode b_X_isSeal 27 = .ok (.iconst 0, 1) := by decide +kernel
theorem d_X_isSeal_28 : decode b_X_isSeal 28 = .ok (.ireturn, 1) := by decide +kernel
theorem d_X_messageIn_0 : decode b_X_messageIn 0 = .ok (.lload_n 1, 1) := by decide +kernel
theorem d_X_messageIn_1 : decode b_X_messageIn 1 = .ok (.aload_n 0, 1) := by decide +kernel
theorem d_X_messageIn_2 : decode b_X_messageIn 2 = .ok (.getfield 31, 3) := by decide +kernel
theorem d_X_messageIn_5 : decode b_X_messageIn 5 = .ok (.aload_n 0, 1) := by decide +kernel
theorem d_X_messageIn_6 : decode b_X_messageIn 6 = .ok (.getfield 27, 3) := by decide +kernel
theorem d_X_messageIn_9 : decode b_X_messageIn 9 = .ok (.invokestatic 34, 3) := by decide +kernel
theorem d_X_messageIn_12 : decode b_X_messageIn 12 = .ok (.lstore_n 3, 1) := by decide +kernel
theorem d_X_messageIn_13 : decode b_X_messageIn 13 = .ok (.lload_n 3, 1) := by decide +kernel
theorem d_X_messageIn_14 : decode b_X_messageIn 14 = .ok (.lconst 1, 1) := by decide +kernel
theorem d_X_messageIn_15 : decode b_X_messageIn 15 = .ok (.lsub, 1) := by decide +kernel
theorem d_X_messageIn_16 : decode b_X_messageIn 16 = .ok (.aload_n 0, 1) := by decide +kernel
theorem d_X_messageIn_17 : decode b_X_messageIn 17 = .ok (.getfield 24, 3) := by decide +kernel
theorem d_X_messageIn_20 : decode b_X_messageIn 20 = .ok (.i2l, 1) := by decide +kernel
theorem d_X_messageIn_21 : decode b_X_messageIn 21 = .ok (.ldiv, 1) := by decide +kernel
theorem d_X_messageIn_22 : decode b_X_messageIn 22 = .ok (.aload_n 0, 1) := by decide +kernel
theorem d_X_messageIn_23 : decode b_X_messageIn 23 = .ok (.getfield 38, 3) := by decide +kernel
theorem d_X_messageIn_26 : decode b_X_messageIn 26 = .ok (.lmul, 1) := by decide +kernel
theorem d_X_messageIn_27 : decode b_X_messageIn 27 = .ok (.aload_n 0, 1) := by decide +kernel
theorem d_X_messageIn_28 : decode b_X_messageIn 28 = .ok (.getfield 24, 3) := by decide +kernel
theorem d_X_messageIn_31 : decode b_X_messageIn 31 = .ok (.i2l, 1) := by decide +kernel
theorem d_X_messageIn_32 : decode b_X_messageIn 32 = .ok (.lrem, 1) := by decide +kernel
theorem d_X_messageIn_33 : decode b_X_messageIn 33 = .ok (.lreturn, 1) := by decide +kernel
theorem d_X_coin_0 : decode b_X_coin 0 = .ok (.aload_n 0, 1) := by decide +kernel
theorem d_X_coin_1 : decode b_X_coin 1 = .ok (.invokevirtual 47, 3) := by decide +kernel
theorem d_X_coin_4 : decode b_X_coin 4 = .ok (.ifCond .ne 7, 3) := by decide +kernel
theorem d_X_coin_7 : decode b_X_coin 7 = .ok (.ldc2_w 51, 3) := by decide +kernel
theorem d_X_coin_10 : decode b_X_coin 10 = .ok (.lreturn, 1) := by decide +kernel
theorem d_X_coin_11 : decode b_X_coin 11 = .ok (.aload_n 0, 1) := by decide +kernel
theorem d_X_coin_12 : decode b_X_coin 12 = .ok (.lload_n 1, 1) := by decide +kernel
theorem d_X_coin_13 : decode b_X_coin 13 = .ok (.invokevirtual 66, 3) := by decide +kernel
theorem d_X_coin_16 : decode b_X_coin 16 = .ok (.ifCond .ne 7, 3) := by decide +kernel
theorem d_X_coin_19 : decode b_X_coin 19 = .ok (.ldc2_w 60, 3) := by decide +kernel
theorem d_X_coin_22 : decode b_X_coin 22 = .ok (.lreturn, 1) := by decide +kernel
theorem d_X_coin_23 : decode b_X_coin 23 = .ok (.aload_n 0, 1) := by decide +kernel
theorem d_X_coin_24 : decode b_X_coin 24 = .ok (.lload_n 1, 1) := by decide +kernel
theorem d_X_coin_25 : decode b_X_coin 25 = .ok (.invokevirtual 73, 3) := by decide +kernel
theorem d_X_coin_28 : decode b_X_coin 28 = .ok (.lreturn, 1) := by decide +kernel
theorem d_X_coinIn_0 : decode b_X_coinIn 0 = .ok (.lload_n 1, 1) := by decide +kernel
theorem d_X_coinIn_1 : decode b_X_coinIn 1 = .ok (.aload_n 0, 1) := by decide +kernel
theorem d_X_coinIn_2 : decode b_X_coinIn 2 = .ok (.getfield 24, 3) := by decide +kernel
theorem d_X_coinIn_5 : decode b_X_coinIn 5 = .ok (.i2l, 1) := by decide +kernel
theorem d_X_coinIn_6 : decode b_X_coinIn 6 = .ok (.lrem, 1) := by decide +kernel
theorem d_X_coinIn_7 : decode b_X_coinIn 7 = .ok (.aload_n 0, 1) := by decide +kernel
theorem d_X_coinIn_8 : decode b_X_coinIn 8 = .ok (.getfield 41, 3) := by decide +kernel
theorem d_X_coinIn_11 : decode b_X_coinIn 11 = .ok (.aload_n 0, 1) := by decide +kernel
theorem d_X_coinIn_12 : decode b_X_coinIn 12 = .ok (.getfield 24, 3) := by decide +kernel
theorem d_X_coinIn_15 : decode b_X_coinIn 15 = .ok (.i2l, 1) := by decide +kernel
theorem d_X_coinIn_16 : decode b_X_coinIn 16 = .ok (.invokestatic 34, 3) := by decide +kernel
theorem d_X_coinIn_19 : decode b_X_coinIn 19 = .ok (.lreturn, 1) := by decide +kernel
theorem d_X_join_0 : decode b_X_join 0 = .ok (.aload_n 0, 1) := by decide +kernel
theorem d_X_join_1 : decode b_X_join 1 = .ok (.invokevirtual 47, 3) := by decide +kernel
theorem d_X_join_4 : decode b_X_join 4 = .ok (.ifCond .ne 7, 3) := by decide +kernel
theorem d_X_join_7 : decode b_X_join 7 = .ok (.ldc2_w 51, 3) := by decide +kernel
theorem d_X_join_10 : decode b_X_join 10 = .ok (.lreturn, 1) := by decide +kernel
theorem d_X_join_11 : decode b_X_join 11 = .ok (.aload_n 0, 1) := by decide +kernel
theorem d_X_join_12 : decode b_X_join 12 = .ok (.lload_n 1, 1) := by decide +kernel
theorem d_X_join_13 : decode b_X_join 13 = .ok (.invokevirtual 66, 3) := by decide +kernel
theorem d_X_join_16 : decode b_X_join 16 = .ok (.ifCond .eq 11, 3) := by decide +kernel
theorem d_X_join_19 : decode b_X_join 19 = .ok (.aload_n 0, 1) := by decide +kernel
theorem d_X_join_20 : decode b_X_join 20 = .ok (.lload_n 3, 1) := by decide +kernel
theorem d_X_join_21 : decode b_X_join 21 = .ok (.invokevirtual 66, 3) := by decide +kernel
theorem d_X_join_24 : decode b_X_join 24 = .ok (.ifCond .ne 7, 3) := by decide +kernel
theorem d_X_join_27 : decode b_X_join 27 = .ok (.ldc2_w 60, 3) := by decide +kernel
theorem d_X_join_30 : decode b_X_join 30 = .ok (.lreturn, 1) := by decide +kernel
theorem d_X_join_31 : decode b_X_join 31 = .ok (.lload_n 1, 1) := by decide +kernel
theorem d_X_join_32 : decode b_X_join 32 = .ok (.lload_n 3, 1) := by decide +kernel
theorem d_X_join_33 : decode b_X_join 33 = .ok (.lmul, 1) := by decide +kernel
theorem d_X_join_34 : decode b_X_join 34 = .ok (.aload_n 0, 1) := by decide +kernel
theorem d_X_join_35 : decode b_X_join 35 = .ok (.getfield 27, 3) := by decide +kernel
theorem d_X_join_38 : decode b_X_join 38 = .ok (.lrem, 1) := by decide +kernel
theorem d_X_join_39 : decode b_X_join 39 = .ok (.lreturn, 1) := by decide +kernel
theorem d_X_power_0 : decode b_X_power 0 = .ok (.aload_n 0, 1) := by decide +kernel
theorem d_X_power_1 : decode b_X_power 1 = .ok (.invokevirtual 47, 3) := by decide +kernel
theorem d_X_power_4 : decode b_X_power 4 = .ok (.ifCond .ne 7, 3) := by decide +kernel
theorem d_X_power_7 : decode b_X_power 7 = .ok (.ldc2_w 51, 3) := by decide +kernel
theorem d_X_power_10 : decode b_X_power 10 = .ok (.lreturn, 1) := by decide +kernel
theorem d_X_power_11 : decode b_X_power 11 = .ok (.aload_n 0, 1) := by decide +kernel
theorem d_X_power_12 : decode b_X_power 12 = .ok (.lload_n 1, 1) := by decide +kernel
theorem d_X_power_13 : decode b_X_power 13 = .ok (.invokevirtual 66, 3) := by decide +kernel
theorem d_X_power_16 : decode b_X_power 16 = .ok (.ifCond .ne 7, 3) := by decide +kernel
theorem d_X_power_19 : decode b_X_power 19 = .ok (.ldc2_w 60, 3) := by decide +kernel
theorem d_X_power_22 : decode b_X_power 22 = .ok (.lreturn, 1) := by decide +kernel
theorem d_X_power_23 : decode b_X_power 23 = .ok (.iload_n 3, 1) := by decide +kernel
theorem d_X_power_24 : decode b_X_power 24 = .ok (.i2l, 1) := by decide +kernel
theorem d_X_power_25 : decode b_X_power 25 = .ok (.aload_n 0, 1) := by decide +kernel
theorem d_X_power_26 : decode b_X_power 26 = .ok (.getfield 24, 3) := by decide +kernel
theorem d_X_power_29 : decode b_X_power 29 = .ok (.i2l, 1) := by decide +kernel
theorem d_X_power_30 : decode b_X_power 30 = .ok (.aload_n 0, 1) := by decide +kernel
theorem d_X_power_31 : decode b_X_power 31 = .ok (.getfield 31, 3) := by decide +kernel
theorem d_X_power_34 : decode b_X_power 34 = .ok (.lmul, 1) := by decide +kernel
theorem d_X_power_35 : decode b_X_power 35 = .ok (.invokestatic 76, 3) := by decide +kernel
theorem d_X_power_38 : decode b_X_power 38 = .ok (.lstore 4, 2) := by decide +kernel
theorem d_X_power_40 : decode b_X_power 40 = .ok (.lload_n 1, 1) := by decide +kernel
theorem d_X_power_41 : decode b_X_power 41 = .ok (.lload 4, 2) := by decide +kernel
theorem d_X_power_43 : decode b_X_power 43 = .ok (.aload_n 0, 1) := by decide +kernel
theorem d_X_power_44 : decode b_X_power 44 = .ok (.getfield 27, 3) := by decide +kernel
theorem d_X_power_47 : decode b_X_power 47 = .ok (.invokestatic 34, 3) := by decide +kernel
theorem d_X_power_50 : decode b_X_power 50 = .ok (.lreturn, 1) := by decide +kernel
theorem d_J_floorMod_0 : decode b_J_floorMod 0 = .ok (.lload_n 0, 1) := by decide +kernel
theorem d_J_floorMod_1 : decode b_J_floorMod 1 = .ok (.lload_n 2, 1) := by decide +kernel
theorem d_J_floorMod_2 : decode b_J_floorMod 2 = .ok (.lrem, 1) := by decide +kernel
theorem d_J_floorMod_3 : decode b_J_floorMod 3 = .ok (.lstore 4, 2) := by decide +kernel
theorem d_J_floorMod_5 : decode b_J_floorMod 5 = .ok (.lload_n 0, 1) := by decide +kernel
theorem d_J_floorMod_6 : decode b_J_floorMod 6 = .ok (.lload_n 2, 1) := by decide +kernel
theorem d_J_floorMod_7 : decode b_J_floorMod 7 = .ok (.lxor, 1) := by decide +kernel
theorem d_J_floorMod_8 : decode b_J_floorMod 8 = .ok (.lconst 0, 1) := by decide +kernel
theorem d_J_floorMod_9 : decode b_J_floorMod 9 = .ok (.lcmp, 1) := by decide +kernel
theorem d_J_floorMod_10 : decode b_J_floorMod 10 = .ok (.ifCond .ge 15, 3) := by decide +kernel
theorem d_J_floorMod_13 : decode b_J_floorMod 13 = .ok (.lload 4, 2) := by decide +kernel
theorem d_J_floorMod_15 : decode b_J_floorMod 15 = .ok (.lconst 0, 1) := by decide +kernel
theorem d_J_floorMod_16 : decode b_J_floorMod 16 = .ok (.lcmp, 1) := by decide +kernel
theorem d_J_floorMod_17 : decode b_J_floorMod 17 = .ok (.ifCond .eq 8, 3) := by decide +kernel
theorem d_J_floorMod_20 : decode b_J_floorMod 20 = .ok (.lload 4, 2) := by decide +kernel
theorem d_J_floorMod_22 : decode b_J_floorMod 22 = .ok (.lload_n 2, 1) := by decide +kernel
theorem d_J_floorMod_23 : decode b_J_floorMod 23 = .ok (.ladd, 1) := by decide +kernel
theorem d_J_floorMod_24 : decode b_J_floorMod 24 = .ok (.lreturn, 1) := by decide +kernel
theorem d_J_floorMod_25 : decode b_J_floorMod 25 = .ok (.lload 4, 2) := by decide +kernel
theorem d_J_floorMod_27 : decode b_J_floorMod 27 = .ok (.lreturn, 1) := by decide +kernel
theorem d_X_open_0 : decode b_X_open 0 = .ok (.aload_n 0, 1) := by decide +kernel
theorem d_X_open_1 : decode b_X_open 1 = .ok (.invokevirtual 47, 3) := by decide +kernel
theorem d_X_open_4 : decode b_X_open 4 = .ok (.ifCond .eq 12, 3) := by decide +kernel
theorem d_X_open_7 : decode b_X_open 7 = .ok (.aload_n 0, 1) := by decide +kernel
theorem d_X_open_8 : decode b_X_open 8 = .ok (.iload_n 1, 1) := by decide +kernel
theorem d_X_open_9 : decode b_X_open 9 = .ok (.iload_n 2, 1) := by decide +kernel
theorem d_X_open_10 : decode b_X_open 10 = .ok (.invokevirtual 81, 3) := by decide +kernel
theorem d_X_open_13 : decode b_X_open 13 = .ok (.ifCond .ne 5, 3) := by decide +kernel
theorem d_X_open_16 : decode b_X_open 16 = .ok (.iconst 0, 1) := by decide +kernel
theorem d_X_open_17 : decode b_X_open 17 = .ok (.ireturn, 1) := by decide +kernel
theorem d_X_open_18 : decode b_X_open 18 = .ok (.aload_n 0, 1) := by decide +kernel
theorem d_X_open_19 : decode b_X_open 19 = .ok (.iload_n 1, 1) := by decide +kernel
theorem d_X_open_20 : decode b_X_open 20 = .ok (.putfield 44, 3) := by decide +kernel
theorem d_X_open_23 : decode b_X_open 23 = .ok (.aload_n 0, 1) := by decide +kernel
theorem d_X_open_24 : decode b_X_open 24 = .ok (.iload_n 2, 1) := by decide +kernel
theorem d_X_open_25 : decode b_X_open 25 = .ok (.putfield 84, 3) := by decide +kernel
theorem d_X_open_28 : decode b_X_open 28 = .ok (.aload_n 0, 1) := by decide +kernel
theorem d_X_open_29 : decode b_X_open 29 = .ok (.iconst 0, 1) := by decide +kernel
theorem d_X_open_30 : decode b_X_open 30 = .ok (.putfield 87, 3) := by decide +kernel
theorem d_X_open_33 : decode b_X_open 33 = .ok (.aload_n 0, 1) := by decide +kernel
theorem d_X_open_34 : decode b_X_open 34 = .ok (.iconst 0, 1) := by decide +kernel
theorem d_X_open_35 : decode b_X_open 35 = .ok (.putfield 91, 3) := by decide +kernel
theorem d_X_open_38 : decode b_X_open 38 = .ok (.aload_n 0, 1) := by decide +kernel
theorem d_X_open_39 : decode b_X_open 39 = .ok (.getfield 9, 3) := by decide +kernel
theorem d_X_open_42 : decode b_X_open 42 = .ok (.lconst 0, 1) := by decide +kernel
theorem d_X_open_43 : decode b_X_open 43 = .ok (.invokestatic 94, 3) := by decide +kernel
theorem d_X_open_46 : decode b_X_open 46 = .ok (.iconst 1, 1) := by decide +kernel
theorem d_X_open_47 : decode b_X_open 47 = .ok (.ireturn, 1) := by decide +kernel
theorem d_X_isBoxSize_0 : decode b_X_isBoxSize 0 = .ok (.iload_n 1, 1) := by decide +kernel
theorem d_X_isBoxSize_1 : decode b_X_isBoxSize 1 = .ok (.iconst 1, 1) := by decide +kernel
theorem d_X_isBoxSize_2 : decode b_X_isBoxSize 2 = .ok (.if_icmp .lt 14, 3) := by decide +kernel
theorem d_X_isBoxSize_5 : decode b_X_isBoxSize 5 = .ok (.iload_n 1, 1) := by decide +kernel
theorem d_X_isBoxSize_6 : decode b_X_isBoxSize 6 = .ok (.bipush 6, 2) := by decide +kernel
theorem d_X_isBoxSize_8 : decode b_X_isBoxSize 8 = .ok (.if_icmp .gt 8, 3) := by decide +kernel
theorem d_X_isBoxSize_11 : decode b_X_isBoxSize 11 = .ok (.iload_n 2, 1) := by decide +kernel
theorem d_X_isBoxSize_12 : decode b_X_isBoxSize 12 = .ok (.iconst 2, 1) := by decide +kernel
theorem d_X_isBoxSize_13 : decode b_X_isBoxSize 13 = .ok (.if_icmp .ge 5, 3) := by decide +kernel
theorem d_X_isBoxSize_16 : decode b_X_isBoxSize 16 = .ok (.iconst 0, 1) := by decide +kernel
theorem d_X_isBoxSize_17 : decode b_X_isBoxSize 17 = .ok (.ireturn, 1) := by decide +kernel
theorem d_X_isBoxSize_18 : decode b_X_isBoxSize 18 = .ok (.lconst 1, 1) := by decide +kernel
theorem d_X_isBoxSize_19 : decode b_X_isBoxSize 19 = .ok (.lstore_n 3, 1) := by decide +kernel
theorem d_X_isBoxSize_20 : decode b_X_isBoxSize 20 = .ok (.iconst 0, 1) := by decide +kernel
theorem d_X_isBoxSize_21 : decode b_X_isBoxSize 21 = .ok (.istore 5, 2) := by decide +kernel
theorem d_X_isBoxSize_23 : decode b_X_isBoxSize 23 = .ok (.iload 5, 2) := by decide +kernel
theorem d_X_isBoxSize_25 : decode b_X_isBoxSize 25 = .ok (.iload_n 1, 1) := by decide +kernel
theorem d_X_isBoxSize_26 : decode b_X_isBoxSize 26 = .ok (.if_icmp .ge 26, 3) := by decide +kernel
theorem d_X_isBoxSize_29 : decode b_X_isBoxSize 29 = .ok (.lload_n 3, 1) := by decide +kernel
theorem d_X_isBoxSize_30 : decode b_X_isBoxSize 30 = .ok (.iload_n 2, 1) := by decide +kernel
theorem d_X_isBoxSize_31 : decode b_X_isBoxSize 31 = .ok (.i2l, 1) := by decide +kernel
theorem d_X_isBoxSize_32 : decode b_X_isBoxSize 32 = .ok (.lmul, 1) := by decide +kernel
theorem d_X_isBoxSize_33 : decode b_X_isBoxSize 33 = .ok (.lstore_n 3, 1) := by decide +kernel
theorem d_X_isBoxSize_34 : decode b_X_isBoxSize 34 = .ok (.lload_n 3, 1) := by decide +kernel
theorem d_X_isBoxSize_35 : decode b_X_isBoxSize 35 = .ok (.aload_n 0, 1) := by decide +kernel
theorem d_X_isBoxSize_36 : decode b_X_isBoxSize 36 = .ok (.getfield 24, 3) := by decide +kernel
theorem d_X_isBoxSize_39 : decode b_X_isBoxSize 39 = .ok (.i2l, 1) := by decide +kernel
theorem d_X_isBoxSize_40 : decode b_X_isBoxSize 40 = .ok (.lcmp, 1) := by decide +kernel
theorem d_X_isBoxSize_41 : decode b_X_isBoxSize 41 = .ok (.ifCond .le 5, 3) := by decide +kernel
theorem d_X_isBoxSize_44 : decode b_X_isBoxSize 44 = .ok (.iconst 0, 1) := by decide +kernel
theorem d_X_isBoxSize_45 : decode b_X_isBoxSize 45 = .ok (.ireturn, 1) := by decide +kernel
theorem d_X_isBoxSize_46 : decode b_X_isBoxSize 46 = .ok (.iinc 5 1, 3) := by decide +kernel
theorem d_X_isBoxSize_49 : decode b_X_isBoxSize 49 = .ok (.goto (-26), 3) := by decide +kernel
theorem d_X_isBoxSize_52 : decode b_X_isBoxSize 52 = .ok (.iconst 1, 1) := by decide +kernel
theorem d_X_isBoxSize_53 : decode b_X_isBoxSize 53 = .ok (.ireturn, 1) := by decide +kernel
theorem d_A_fill_0 : decode b_A_fill 0 = .ok (.iconst 0, 1) := by decide +kernel
theorem d_A_fill_1 : decode b_A_fill 1 = .ok (.istore_n 3, 1) := by decide +kernel
theorem d_A_fill_2 : decode b_A_fill 2 = .ok (.aload_n 0, 1) := by decide +kernel
theorem d_A_fill_3 : decode b_A_fill 3 = .ok (.arraylength, 1) := by decide +kernel
theorem d_A_fill_4 : decode b_A_fill 4 = .ok (.istore 4, 2) := by decide +kernel
theorem d_A_fill_6 : decode b_A_fill 6 = .ok (.iload_n 3, 1) := by decide +kernel
theorem d_A_fill_7 : decode b_A_fill 7 = .ok (.iload 4, 2) := by decide +kernel
theorem d_A_fill_9 : decode b_A_fill 9 = .ok (.if_icmp .ge 13, 3) := by decide +kernel
theorem d_A_fill_12 : decode b_A_fill 12 = .ok (.aload_n 0, 1) := by decide +kernel
theorem d_A_fill_13 : decode b_A_fill 13 = .ok (.iload_n 3, 1) := by decide +kernel
theorem d_A_fill_14 : decode b_A_fill 14 = .ok (.lload_n 1, 1) := by decide +kernel
theorem d_A_fill_15 : decode b_A_fill 15 = .ok (.lastore, 1) := by decide +kernel
theorem d_A_fill_16 : decode b_A_fill 16 = .ok (.iinc 3 1, 3) := by decide +kernel
theorem d_A_fill_19 : decode b_A_fill 19 = .ok (.goto (-13), 3) := by decide +kernel
theorem d_A_fill_22 : decode b_A_fill 22 = .ok (.return_, 1) := by decide +kernel
theorem d_X_choice_0 : decode b_X_choice 0 = .ok (.aload_n 0, 1) := by decide +kernel
theorem d_X_choice_1 : decode b_X_choice 1 = .ok (.invokevirtual 100, 3) := by decide +kernel
theorem d_X_choice_4 : decode b_X_choice 4 = .ok (.ifCond .ne 7, 3) := by decide +kernel
theorem d_X_choice_7 : decode b_X_choice 7 = .ok (.ldc2_w 103, 3) := by decide +kernel
theorem d_X_choice_10 : decode b_X_choice 10 = .ok (.lreturn, 1) := by decide +kernel
theorem d_X_choice_11 : decode b_X_choice 11 = .ok (.aload_n 0, 1) := by decide +kernel
theorem d_X_choice_12 : decode b_X_choice 12 = .ok (.iload_n 1, 1) := by decide +kernel
theorem d_X_choice_13 : decode b_X_choice 13 = .ok (.invokevirtual 105, 3) := by decide +kernel
theorem d_X_choice_16 : decode b_X_choice 16 = .ok (.ifCond .eq 11, 3) := by decide +kernel
theorem d_X_choice_19 : decode b_X_choice 19 = .ok (.aload_n 0, 1) := by decide +kernel
theorem d_X_choice_20 : decode b_X_choice 20 = .ok (.lload_n 2, 1) := by decide +kernel
theorem d_X_choice_21 : decode b_X_choice 21 = .ok (.invokevirtual 57, 3) := by decide +kernel
theorem d_X_choice_24 : decode b_X_choice 24 = .ok (.ifCond .ne 7, 3) := by decide +kernel
theorem d_X_choice_27 : decode b_X_choice 27 = .ok (.ldc2_w 60, 3) := by decide +kernel
theorem d_X_choice_30 : decode b_X_choice 30 = .ok (.lreturn, 1) := by decide +kernel
theorem d_X_choice_31 : decode b_X_choice 31 = .ok (.aload_n 0, 1) := by decide +kernel
theorem d_X_choice_32 : decode b_X_choice 32 = .ok (.aload_n 0, 1) := by decide +kernel
theorem d_X_choice_33 : decode b_X_choice 33 = .ok (.iload_n 1, 1) := by decide +kernel
theorem d_X_choice_34 : decode b_X_choice 34 = .ok (.invokevirtual 109, 3) := by decide +kernel
theorem d_X_choice_37 : decode b_X_choice 37 = .ok (.lload_n 2, 1) := by decide +kernel
theorem d_X_choice_38 : decode b_X_choice 38 = .ok (.invokevirtual 62, 3) := by decide +kernel
theorem d_X_choice_41 : decode b_X_choice 41 = .ok (.lreturn, 1) := by decide +kernel
theorem d_X_hasBox_0 : decode b_X_hasBox 0 = .ok (.aload_n 0, 1) := by decide +kernel
theorem d_X_hasBox_1 : decode b_X_hasBox 1 = .ok (.getfield 44, 3) := by decide +kernel
theorem d_X_hasBox_4 : decode b_X_hasBox 4 = .ok (.ifCond .le 7, 3) := by decide +kernel
theorem d_X_hasBox_7 : decode b_X_hasBox 7 = .ok (.iconst 1, 1) := by decide +kernel
theorem d_X_hasBox_8 : decode b_X_hasBox 8 = .ok (.goto 4, 3) := by decide +kernel
theorem d_X_hasBox_11 : decode b_X_hasBox 11 = .ok (.iconst 0, 1) := by decide +kernel
theorem d_X_hasBox_12 : decode b_X_hasBox 12 = .ok (.ireturn, 1) := by decide +kernel
theorem d_X_isCandidate_0 : decode b_X_isCandidate 0 = .ok (.iload_n 1, 1) := by decide +kernel
theorem d_X_isCandidate_1 : decode b_X_isCandidate 1 = .ok (.ifCond .lt 15, 3) := by decide +kernel
theorem d_X_isCandidate_4 : decode b_X_isCandidate 4 = .ok (.iload_n 1, 1) := by decide +kernel
theorem d_X_isCandidate_5 : decode b_X_isCandidate 5 = .ok (.aload_n 0, 1) := by decide +kernel
theorem d_X_isCandidate_6 : decode b_X_isCandidate 6 = .ok (.getfield 44, 3) := by decide +kernel
theorem d_X_isCandidate_9 : decode b_X_isCandidate 9 = .ok (.if_icmp .ge 7, 3) := by decide +kernel
theorem d_X_isCandidate_12 : decode b_X_isCandidate 12 = .ok (.iconst 1, 1) := by decide +kernel
theorem d_X_isCandidate_13 : decode b_X_isCandidate 13 = .ok (.goto 4, 3) := by decide +kernel
theorem d_X_isCandidate_16 : decode b_X_isCandidate 16 = .ok (.iconst 0, 1) := by decide +kernel
theorem d_X_isCandidate_17 : decode b_X_isCandidate 17 = .ok (.ireturn, 1) := by decide +kernel
theorem d_X_radixPower_0 : decode b_X_radixPower 0 = .ok (.lconst 1, 1) := by decide +kernel
theorem d_X_radixPower_1 : decode b_X_radixPower 1 = .ok (.lstore_n 2, 1) := by decide +kernel
theorem d_X_radixPower_2 : decode b_X_radixPower 2 = .ok (.iconst 0, 1) := by decide +kernel
theorem d_X_radixPower_3 : decode b_X_radixPower 3 = .ok (.istore 4, 2) := by decide +kernel
theorem d_X_radixPower_5 : decode b_X_radixPower 5 = .ok (.iload 4, 2) := by decide +kernel
theorem d_X_radixPower_7 : decode b_X_radixPower 7 = .ok (.iload_n 1, 1) := by decide +kernel
theorem d_X_radixPower_8 : decode b_X_radixPower 8 = .ok (.if_icmp .ge 17, 3) := by decide +kernel
theorem d_X_radixPower_11 : decode b_X_radixPower 11 = .ok (.lload_n 2, 1) := by decide +kernel
theorem d_X_radixPower_12 : decode b_X_radixPower 12 = .ok (.aload_n 0, 1) := by decide +kernel
theorem d_X_radixPower_13 : decode b_X_radixPower 13 = .ok (.getfield 84, 3) := by decide +kernel
theorem d_X_radixPower_16 : decode b_X_radixPower 16 = .ok (.i2l, 1) := by decide +kernel
theorem d_X_radixPower_17 : decode b_X_radixPower 17 = .ok (.lmul, 1) := by decide +kernel
theorem d_X_radixPower_18 : decode b_X_radixPower 18 = .ok (.lstore_n 2, 1) := by decide +kernel
theorem d_X_radixPower_19 : decode b_X_radixPower 19 = .ok (.iinc 4 1, 3) := by decide +kernel
theorem d_X_radixPower_22 : decode b_X_radixPower 22 = .ok (.goto (-17), 3) := by decide +kernel
theorem d_X_radixPower_25 : decode b_X_radixPower 25 = .ok (.lload_n 2, 1) := by decide +kernel
theorem d_X_radixPower_26 : decode b_X_radixPower 26 = .ok (.lreturn, 1) := by decide +kernel
theorem d_X_cast_0 : decode b_X_cast 0 = .ok (.aload_n 0, 1) := by decide +kernel
theorem d_X_cast_1 : decode b_X_cast 1 = .ok (.invokevirtual 100, 3) := by decide +kernel
theorem d_X_cast_4 : decode b_X_cast 4 = .ok (.ifCond .ne 6, 3) := by decide +kernel
theorem d_X_cast_7 : decode b_X_cast 7 = .ok (.bipush (-2), 2) := by decide +kernel
theorem d_X_cast_9 : decode b_X_cast 9 = .ok (.ireturn, 1) := by decide +kernel
theorem d_X_cast_10 : decode b_X_cast 10 = .ok (.aload_n 0, 1) := by decide +kernel
theorem d_X_cast_11 : decode b_X_cast 11 = .ok (.getfield 87, 3) := by decide +kernel
theorem d_X_cast_14 : decode b_X_cast 14 = .ok (.ifCond .eq 6, 3) := by decide +kernel
theorem d_X_cast_17 : decode b_X_cast 17 = .ok (.bipush (-3), 2) := by decide +kernel
theorem d_X_cast_19 : decode b_X_cast 19 = .ok (.ireturn, 1) := by decide +kernel
theorem d_X_cast_20 : decode b_X_cast 20 = .ok (.iload_n 1, 1) := by decide +kernel
theorem d_X_cast_21 : decode b_X_cast 21 = .ok (.invokestatic 113, 3) := by decide +kernel
theorem d_X_cast_24 : decode b_X_cast 24 = .ok (.ifCond .eq 11, 3) := by decide +kernel
theorem d_X_cast_27 : decode b_X_cast 27 = .ok (.aload_n 0, 1) := by decide +kernel
theorem d_X_cast_28 : decode b_X_cast 28 = .ok (.lload_n 2, 1) := by decide +kernel
theorem d_X_cast_29 : decode b_X_cast 29 = .ok (.invokevirtual 66, 3) := by decide +kernel
theorem d_X_cast_32 : decode b_X_cast 32 = .ok (.ifCond .ne 6, 3) := by decide +kernel
theorem d_X_cast_35 : decode b_X_cast 35 = .ok (.bipush (-4), 2) := by decide +kernel
theorem d_X_cast_37 : decode b_X_cast 37 = .ok (.ireturn, 1) := by decide +kernel
theorem d_X_cast_38 : decode b_X_cast 38 = .ok (.aload_n 0, 1) := by decide +kernel
theorem d_X_cast_39 : decode b_X_cast 39 = .ok (.getfield 9, 3) := by decide +kernel
theorem d_X_cast_42 : decode b_X_cast 42 = .ok (.iload_n 1, 1) := by decide +kernel
theorem d_X_cast_43 : decode b_X_cast 43 = .ok (.laload, 1) := by decide +kernel
theorem d_X_cast_44 : decode b_X_cast 44 = .ok (.lconst 0, 1) := by decide +kernel
theorem d_X_cast_45 : decode b_X_cast 45 = .ok (.lcmp, 1) := by decide +kernel
theorem d_X_cast_46 : decode b_X_cast 46 = .ok (.ifCond .ne 7, 3) := by decide +kernel
theorem d_X_cast_49 : decode b_X_cast 49 = .ok (.iconst 1, 1) := by decide +kernel
theorem d_X_cast_50 : decode b_X_cast 50 = .ok (.goto 4, 3) := by decide +kernel
theorem d_X_cast_53 : decode b_X_cast 53 = .ok (.iconst 0, 1) := by decide +kernel
theorem d_X_cast_54 : decode b_X_cast 54 = .ok (.istore 4, 2) := by decide +kernel
theorem d_X_cast_56 : decode b_X_cast 56 = .ok (.iload 4, 2) := by decide +kernel
theorem d_X_cast_58 : decode b_X_cast 58 = .ok (.ifCond .eq 19, 3) := by decide +kernel
theorem d_X_cast_61 : decode b_X_cast 61 = .ok (.aload_n 0, 1) := by decide +kernel
theorem d_X_cast_62 : decode b_X_cast 62 = .ok (.getfield 91, 3) := by decide +kernel
theorem d_X_cast_65 : decode b_X_cast 65 = .ok (.aload_n 0, 1) := by decide +kernel
theorem d_X_cast_66 : decode b_X_cast 66 = .ok (.getfield 84, 3) := by decide +kernel
theorem d_X_cast_69 : decode b_X_cast 69 = .ok (.iconst 1, 1) := by decide +kernel
theorem d_X_cast_70 : decode b_X_cast 70 = .ok (.isub, 1) := by decide +kernel
theorem d_X_cast_71 : decode b_X_cast 71 = .ok (.if_icmp .lt 6, 3) := by decide +kernel
theorem d_X_cast_74 : decode b_X_cast 74 = .ok (.bipush (-5), 2) := by decide +kernel
theorem d_X_cast_76 : decode b_X_cast 76 = .ok (.ireturn, 1) := by decide +kernel
theorem d_X_cast_77 : decode b_X_cast 77 = .ok (.aload_n 0, 1) := by decide +kernel
theorem d_X_cast_78 : decode b_X_cast 78 = .ok (.getfield 9, 3) := by decide +kernel
theorem d_X_cast_81 : decode b_X_cast 81 = .ok (.iload_n 1, 1) := by decide +kernel
theorem d_X_cast_82 : decode b_X_cast 82 = .ok (.lload_n 2, 1) := by decide +kernel
theorem d_X_cast_83 : decode b_X_cast 83 = .ok (.lastore, 1) := by decide +kernel
theorem d_X_cast_84 : decode b_X_cast 84 = .ok (.iload 4, 2) := by decide +kernel
theorem d_X_cast_86 : decode b_X_cast 86 = .ok (.ifCond .ne 5, 3) := by decide +kernel
theorem d_X_cast_89 : decode b_X_cast 89 = .ok (.iconst 0, 1) := by decide +kernel
theorem d_X_cast_90 : decode b_X_cast 90 = .ok (.ireturn, 1) := by decide +kernel
theorem d_X_cast_91 : decode b_X_cast 91 = .ok (.aload_n 0, 1) := by decide +kernel
theorem d_X_cast_92 : decode b_X_cast 92 = .ok (.dup, 1) := by decide +kernel
theorem d_X_cast_93 : decode b_X_cast 93 = .ok (.getfield 91, 3) := by decide +kernel
theorem d_X_cast_96 : decode b_X_cast 96 = .ok (.iconst 1, 1) := by decide +kernel
theorem d_X_cast_97 : decode b_X_cast 97 = .ok (.iadd, 1) := by decide +kernel
theorem d_X_cast_98 : decode b_X_cast 98 = .ok (.putfield 91, 3) := by decide +kernel
theorem d_X_cast_101 : decode b_X_cast 101 = .ok (.iconst 1, 1) := by decide +kernel
theorem d_X_cast_102 : decode b_X_cast 102 = .ok (.ireturn, 1) := by decide +kernel
theorem d_X_isVoter_0 : decode b_X_isVoter 0 = .ok (.iload_n 0, 1) := by decide +kernel
theorem d_X_isVoter_1 : decode b_X_isVoter 1 = .ok (.ifCond .lt 13, 3) := by decide +kernel
theorem d_X_isVoter_4 : decode b_X_isVoter 4 = .ok (.iload_n 0, 1) := by decide +kernel
theorem d_X_isVoter_5 : decode b_X_isVoter 5 = .ok (.bipush 30, 2) := by decide +kernel
theorem d_X_isVoter_7 : decode b_X_isVoter 7 = .ok (.if_icmp .ge 7, 3) := by decide +kernel
theorem d_X_isVoter_10 : decode b_X_isVoter 10 = .ok (.iconst 1, 1) := by decide +kernel
theorem d_X_isVoter_11 : decode b_X_isVoter 11 = .ok (.goto 4, 3) := by decide +kernel
theorem d_X_isVoter_14 : decode b_X_isVoter 14 = .ok (.iconst 0, 1) := by decide +kernel
theorem d_X_isVoter_15 : decode b_X_isVoter 15 = .ok (.ireturn, 1) := by decide +kernel
theorem d_X_withdraw_0 : decode b_X_withdraw 0 = .ok (.aload_n 0, 1) := by decide +kernel
theorem d_X_withdraw_1 : decode b_X_withdraw 1 = .ok (.invokevirtual 100, 3) := by decide +kernel
theorem d_X_withdraw_4 : decode b_X_withdraw 4 = .ok (.ifCond .ne 7, 3) := by decide +kernel
theorem d_X_withdraw_7 : decode b_X_withdraw 7 = .ok (.ldc2_w 103, 3) := by decide +kernel
theorem d_X_withdraw_10 : decode b_X_withdraw 10 = .ok (.lreturn, 1) := by decide +kernel
theorem d_X_withdraw_11 : decode b_X_withdraw 11 = .ok (.aload_n 0, 1) := by decide +kernel
theorem d_X_withdraw_12 : decode b_X_withdraw 12 = .ok (.getfield 87, 3) := by decide +kernel
theorem d_X_withdraw_15 : decode b_X_withdraw 15 = .ok (.ifCond .eq 7, 3) := by decide +kernel
theorem d_X_withdraw_18 : decode b_X_withdraw 18 = .ok (.ldc2_w 116, 3) := by decide +kernel
theorem d_X_withdraw_21 : decode b_X_withdraw 21 = .ok (.lreturn, 1) := by decide +kernel
theorem d_X_withdraw_22 : decode b_X_withdraw 22 = .ok (.iload_n 1, 1) := by decide +kernel
theorem d_X_withdraw_23 : decode b_X_withdraw 23 = .ok (.invokestatic 113, 3) := by decide +kernel
theorem d_X_withdraw_26 : decode b_X_withdraw 26 = .ok (.ifCond .ne 7, 3) := by decide +kernel
theorem d_X_withdraw_29 : decode b_X_withdraw 29 = .ok (.ldc2_w 60, 3) := by decide +kernel
theorem d_X_withdraw_32 : decode b_X_withdraw 32 = .ok (.lreturn, 1) := by decide +kernel
theorem d_X_withdraw_33 : decode b_X_withdraw 33 = .ok (.aload_n 0, 1) := by decide +kernel
theorem d_X_withdraw_34 : decode b_X_withdraw 34 = .ok (.getfield 9, 3) := by decide +kernel
theorem d_X_withdraw_37 : decode b_X_withdraw 37 = .ok (.iload_n 1, 1) := by decide +kernel
theorem d_X_withdraw_38 : decode b_X_withdraw 38 = .ok (.laload, 1) := by decide +kernel
theorem d_X_withdraw_39 : decode b_X_withdraw 39 = .ok (.lstore_n 2, 1) := by decide +kernel
theorem d_X_withdraw_40 : decode b_X_withdraw 40 = .ok (.lload_n 2, 1) := by decide +kernel
theorem d_X_withdraw_41 : decode b_X_withdraw 41 = .ok (.lconst 0, 1) := by decide +kernel
theorem d_X_withdraw_42 : decode b_X_withdraw 42 = .ok (.lcmp, 1) := by decide +kernel
theorem d_X_withdraw_43 : decode b_X_withdraw 43 = .ok (.ifCond .ne 7, 3) := by decide +kernel
theorem d_X_withdraw_46 : decode b_X_withdraw 46 = .ok (.ldc2_w 118, 3) := by decide +kernel
theorem d_X_withdraw_49 : decode b_X_withdraw 49 = .ok (.lreturn, 1) := by decide +kernel
theorem d_X_withdraw_50 : decode b_X_withdraw 50 = .ok (.aload_n 0, 1) := by decide +kernel
theorem d_X_withdraw_51 : decode b_X_withdraw 51 = .ok (.getfield 9, 3) := by decide +kernel
theorem d_X_withdraw_54 : decode b_X_withdraw 54 = .ok (.iload_n 1, 1) := by decide +kernel
theorem d_X_withdraw_55 : decode b_X_withdraw 55 = .ok (.lconst 0, 1) := by decide +kernel
theorem d_X_withdraw_56 : decode b_X_withdraw 56 = .ok (.lastore, 1) := by decide +kernel
theorem d_X_withdraw_57 : decode b_X_withdraw 57 = .ok (.aload_n 0, 1) := by decide +kernel
theorem d_X_withdraw_58 : decode b_X_withdraw 58 = .ok (.dup, 1) := by decide +kernel
theorem d_X_withdraw_59 : decode b_X_withdraw 59 = .ok (.getfield 91, 3) := by decide +kernel
theorem d_X_withdraw_62 : decode b_X_withdraw 62 = .ok (.iconst 1, 1) := by decide +kernel
theorem d_X_withdraw_63 : decode b_X_withdraw 63 = .ok (.isub, 1) := by decide +kernel
theorem d_X_withdraw_64 : decode b_X_withdraw 64 = .ok (.putfield 91, 3) := by decide +kernel
theorem d_X_withdraw_67 : decode b_X_withdraw 67 = .ok (.lload_n 2, 1) := by decide +kernel
theorem d_X_withdraw_68 : decode b_X_withdraw 68 = .ok (.lreturn, 1) := by decide +kernel
theorem d_X_ballot_0 : decode b_X_ballot 0 = .ok (.aload_n 0, 1) := by decide +kernel
theorem d_X_ballot_1 : decode b_X_ballot 1 = .ok (.invokevirtual 100, 3) := by decide +kernel
theorem d_X_ballot_4 : decode b_X_ballot 4 = .ok (.ifCond .ne 7, 3) := by decide +kernel
theorem d_X_ballot_7 : decode b_X_ballot 7 = .ok (.ldc2_w 103, 3) := by decide +kernel
theorem d_X_ballot_10 : decode b_X_ballot 10 = .ok (.lreturn, 1) := by decide +kernel
theorem d_X_ballot_11 : decode b_X_ballot 11 = .ok (.iload_n 1, 1) := by decide +kernel
theorem d_X_ballot_12 : decode b_X_ballot 12 = .ok (.invokestatic 113, 3) := by decide +kernel
theorem d_X_ballot_15 : decode b_X_ballot 15 = .ok (.ifCond .ne 7, 3) := by decide +kernel
theorem d_X_ballot_18 : decode b_X_ballot 18 = .ok (.ldc2_w 60, 3) := by decide +kernel
theorem d_X_ballot_21 : decode b_X_ballot 21 = .ok (.lreturn, 1) := by decide +kernel
theorem d_X_ballot_22 : decode b_X_ballot 22 = .ok (.aload_n 0, 1) := by decide +kernel
theorem d_X_ballot_23 : decode b_X_ballot 23 = .ok (.getfield 9, 3) := by decide +kernel
theorem d_X_ballot_26 : decode b_X_ballot 26 = .ok (.iload_n 1, 1) := by decide +kernel
theorem d_X_ballot_27 : decode b_X_ballot 27 = .ok (.laload, 1) := by decide +kernel
theorem d_X_ballot_28 : decode b_X_ballot 28 = .ok (.lconst 0, 1) := by decide +kernel
theorem d_X_ballot_29 : decode b_X_ballot 29 = .ok (.lcmp, 1) := by decide +kernel
theorem d_X_ballot_30 : decode b_X_ballot 30 = .ok (.ifCond .ne 9, 3) := by decide +kernel
theorem d_X_ballot_33 : decode b_X_ballot 33 = .ok (.ldc2_w 118, 3) := by decide +kernel
theorem d_X_ballot_36 : decode b_X_ballot 36 = .ok (.goto 9, 3) := by decide +kernel
theorem d_X_ballot_39 : decode b_X_ballot 39 = .ok (.aload_n 0, 1) := by decide +kernel
theorem d_X_ballot_40 : decode b_X_ballot 40 = .ok (.getfield 9, 3) := by decide +kernel
theorem d_X_ballot_43 : decode b_X_ballot 43 = .ok (.iload_n 1, 1) := by decide +kernel
theorem d_X_ballot_44 : decode b_X_ballot 44 = .ok (.laload, 1) := by decide +kernel
theorem d_X_ballot_45 : decode b_X_ballot 45 = .ok (.lreturn, 1) := by decide +kernel
theorem d_X_ballots_0 : decode b_X_ballots 0 = .ok (.aload_n 0, 1) := by decide +kernel
theorem d_X_ballots_1 : decode b_X_ballots 1 = .ok (.invokevirtual 100, 3) := by decide +kernel
theorem d_X_ballots_4 : decode b_X_ballots 4 = .ok (.ifCond .eq 10, 3) := by decide +kernel
theorem d_X_ballots_7 : decode b_X_ballots 7 = .ok (.aload_n 0, 1) := by decide +kernel
theorem d_X_ballots_8 : decode b_X_ballots 8 = .ok (.getfield 91, 3) := by decide +kernel
theorem d_X_ballots_11 : decode b_X_ballots 11 = .ok (.goto 5, 3) := by decide +kernel
theorem d_X_ballots_14 : decode b_X_ballots 14 = .ok (.bipush (-2), 2) := by decide +kernel
theorem d_X_ballots_16 : decode b_X_ballots 16 = .ok (.ireturn, 1) := by decide +kernel
theorem d_X_sum_0 : decode b_X_sum 0 = .ok (.aload_n 0, 1) := by decide +kernel
theorem d_X_sum_1 : decode b_X_sum 1 = .ok (.invokevirtual 100, 3) := by decide +kernel
theorem d_X_sum_4 : decode b_X_sum 4 = .ok (.ifCond .eq 10, 3) := by decide +kernel
theorem d_X_sum_7 : decode b_X_sum 7 = .ok (.aload_n 0, 1) := by decide +kernel
theorem d_X_sum_8 : decode b_X_sum 8 = .ok (.invokevirtual 120, 3) := by decide +kernel
theorem d_X_sum_11 : decode b_X_sum 11 = .ok (.goto 6, 3) := by decide +kernel
theorem d_X_sum_14 : decode b_X_sum 14 = .ok (.ldc2_w 103, 3) := by decide +kernel
theorem d_X_sum_17 : decode b_X_sum 17 = .ok (.lreturn, 1) := by decide +kernel
theorem d_X_productOfBallots_0 : decode b_X_productOfBallots 0 = .ok (.lconst 1, 1) := by decide +kernel
theorem d_X_productOfBallots_1 : decode b_X_productOfBallots 1 = .ok (.lstore_n 1, 1) := by decide +kernel
theorem d_X_productOfBallots_2 : decode b_X_productOfBallots 2 = .ok (.iconst 0, 1) := by decide +kernel
theorem d_X_productOfBallots_3 : decode b_X_productOfBallots 3 = .ok (.istore_n 3, 1) := by decide +kernel
theorem d_X_productOfBallots_4 : decode b_X_productOfBallots 4 = .ok (.iload_n 3, 1) := by decide +kernel
theorem d_X_productOfBallots_5 : decode b_X_productOfBallots 5 = .ok (.bipush 30, 2) := by decide +kernel
theorem d_X_productOfBallots_7 : decode b_X_productOfBallots 7 = .ok (.if_icmp .ge 34, 3) := by decide +kernel
theorem d_X_productOfBallots_10 : decode b_X_productOfBallots 10 = .ok (.aload_n 0, 1) := by decide +kernel
theorem d_X_productOfBallots_11 : decode b_X_productOfBallots 11 = .ok (.getfield 9, 3) := by decide +kernel
theorem d_X_productOfBallots_14 : decode b_X_productOfBallots 14 = .ok (.iload_n 3, 1) := by decide +kernel
theorem d_X_productOfBallots_15 : decode b_X_productOfBallots 15 = .ok (.laload, 1) := by decide +kernel
theorem d_X_productOfBallots_16 : decode b_X_productOfBallots 16 = .ok (.lconst 0, 1) := by decide +kernel
theorem d_X_productOfBallots_17 : decode b_X_productOfBallots 17 = .ok (.lcmp, 1) := by decide +kernel
theorem d_X_productOfBallots_18 : decode b_X_productOfBallots 18 = .ok (.ifCond .eq 17, 3) := by decide +kernel
theorem d_X_productOfBallots_21 : decode b_X_productOfBallots 21 = .ok (.lload_n 1, 1) := by decide +kernel
theorem d_X_productOfBallots_22 : decode b_X_productOfBallots 22 = .ok (.aload_n 0, 1) := by decide +kernel
theorem d_X_productOfBallots_23 : decode b_X_productOfBallots 23 = .ok (.getfield 9, 3) := by decide +kernel
theorem d_X_productOfBallots_26 : decode b_X_productOfBallots 26 = .ok (.iload_n 3, 1) := by decide +kernel
theorem d_X_productOfBallots_27 : decode b_X_productOfBallots 27 = .ok (.laload, 1) := by decide +kernel
theorem d_X_productOfBallots_28 : decode b_X_productOfBallots 28 = .ok (.lmul, 1) := by decide +kernel
theorem d_X_productOfBallots_29 : decode b_X_productOfBallots 29 = .ok (.aload_n 0, 1) := by decide +kernel
theorem d_X_productOfBallots_30 : decode b_X_productOfBallots 30 = .ok (.getfield 27, 3) := by decide +kernel
theorem d_X_productOfBallots_33 : decode b_X_productOfBallots 33 = .ok (.lrem, 1) := by decide +kernel
theorem d_X_productOfBallots_34 : decode b_X_productOfBallots 34 = .ok (.lstore_n 1, 1) := by decide +kernel
theorem d_X_productOfBallots_35 : decode b_X_productOfBallots 35 = .ok (.iinc 3 1, 3) := by decide +kernel
theorem d_X_productOfBallots_38 : decode b_X_productOfBallots 38 = .ok (.goto (-34), 3) := by decide +kernel
theorem d_X_productOfBallots_41 : decode b_X_productOfBallots 41 = .ok (.lload_n 1, 1) := by decide +kernel
theorem d_X_productOfBallots_42 : decode b_X_productOfBallots 42 = .ok (.lreturn, 1) := by decide +kernel
theorem d_X_close_0 : decode b_X_close 0 = .ok (.aload_n 0, 1) := by decide +kernel
theorem d_X_close_1 : decode b_X_close 1 = .ok (.invokevirtual 100, 3) := by decide +kernel
theorem d_X_close_4 : decode b_X_close 4 = .ok (.ifCond .ne 7, 3) := by decide +kernel
theorem d_X_close_7 : decode b_X_close 7 = .ok (.ldc2_w 103, 3) := by decide +kernel
theorem d_X_close_10 : decode b_X_close 10 = .ok (.lreturn, 1) := by decide +kernel
theorem d_X_close_11 : decode b_X_close 11 = .ok (.aload_n 0, 1) := by decide +kernel
theorem d_X_close_12 : decode b_X_close 12 = .ok (.getfield 87, 3) := by decide +kernel
theorem d_X_close_15 : decode b_X_close 15 = .ok (.ifCond .eq 7, 3) := by decide +kernel
theorem d_X_close_18 : decode b_X_close 18 = .ok (.ldc2_w 116, 3) := by decide +kernel
theorem d_X_close_21 : decode b_X_close 21 = .ok (.lreturn, 1) := by decide +kernel
theorem d_X_close_22 : decode b_X_close 22 = .ok (.aload_n 0, 1) := by decide +kernel
theorem d_X_close_23 : decode b_X_close 23 = .ok (.iconst 1, 1) := by decide +kernel
theorem d_X_close_24 : decode b_X_close 24 = .ok (.putfield 87, 3) := by decide +kernel
theorem d_X_close_27 : decode b_X_close 27 = .ok (.aload_n 0, 1) := by decide +kernel
theorem d_X_close_28 : decode b_X_close 28 = .ok (.aload_n 0, 1) := by decide +kernel
theorem d_X_close_29 : decode b_X_close 29 = .ok (.aload_n 0, 1) := by decide +kernel
theorem d_X_close_30 : decode b_X_close 30 = .ok (.invokevirtual 120, 3) := by decide +kernel
theorem d_X_close_33 : decode b_X_close 33 = .ok (.invokevirtual 69, 3) := by decide +kernel
theorem d_X_close_36 : decode b_X_close 36 = .ok (.putfield 124, 3) := by decide +kernel
theorem d_X_close_39 : decode b_X_close 39 = .ok (.aload_n 0, 1) := by decide +kernel
theorem d_X_close_40 : decode b_X_close 40 = .ok (.getfield 124, 3) := by decide +kernel
theorem d_X_close_43 : decode b_X_close 43 = .ok (.lreturn, 1) := by decide +kernel
theorem d_X_votes_0 : decode b_X_votes 0 = .ok (.aload_n 0, 1) := by decide +kernel
theorem d_X_votes_1 : decode b_X_votes 1 = .ok (.invokevirtual 100, 3) := by decide +kernel
theorem d_X_votes_4 : decode b_X_votes 4 = .ok (.ifCond .ne 6, 3) := by decide +kernel
theorem d_X_votes_7 : decode b_X_votes 7 = .ok (.bipush (-2), 2) := by decide +kernel
theorem d_X_votes_9 : decode b_X_votes 9 = .ok (.ireturn, 1) := by decide +kernel
theorem d_X_votes_10 : decode b_X_votes 10 = .ok (.aload_n 0, 1) := by decide +kernel
theorem d_X_votes_11 : decode b_X_votes 11 = .ok (.iload_n 1, 1) := by decide +kernel
theorem d_X_votes_12 : decode b_X_votes 12 = .ok (.invokevirtual 105, 3) := by decide +kernel
theorem d_X_votes_15 : decode b_X_votes 15 = .ok (.ifCond .ne 6, 3) := by decide +kernel
theorem d_X_votes_18 : decode b_X_votes 18 = .ok (.bipush (-4), 2) := by decide +kernel
theorem d_X_votes_20 : decode b_X_votes 20 = .ok (.ireturn, 1) := by decide +kernel
theorem d_X_votes_21 : decode b_X_votes 21 = .ok (.aload_n 0, 1) := by decide +kernel
theorem d_X_votes_22 : decode b_X_votes 22 = .ok (.getfield 87, 3) := by decide +kernel
theorem d_X_votes_25 : decode b_X_votes 25 = .ok (.ifCond .ne 6, 3) := by decide +kernel
theorem d_X_votes_28 : decode b_X_votes 28 = .ok (.bipush (-6), 2) := by decide +kernel
theorem d_X_votes_30 : decode b_X_votes 30 = .ok (.ireturn, 1) := by decide +kernel
theorem d_X_votes_31 : decode b_X_votes 31 = .ok (.aload_n 0, 1) := by decide +kernel
theorem d_X_votes_32 : decode b_X_votes 32 = .ok (.getfield 124, 3) := by decide +kernel
theorem d_X_votes_35 : decode b_X_votes 35 = .ok (.aload_n 0, 1) := by decide +kernel
theorem d_X_votes_36 : decode b_X_votes 36 = .ok (.iload_n 1, 1) := by decide +kernel
theorem d_X_votes_37 : decode b_X_votes 37 = .ok (.invokevirtual 109, 3) := by decide +kernel
theorem d_X_votes_40 : decode b_X_votes 40 = .ok (.ldiv, 1) := by decide +kernel
theorem d_X_votes_41 : decode b_X_votes 41 = .ok (.aload_n 0, 1) := by decide +kernel
theorem d_X_votes_42 : decode b_X_votes 42 = .ok (.getfield 84, 3) := by decide +kernel
theorem d_X_votes_45 : decode b_X_votes 45 = .ok (.i2l, 1) := by decide +kernel
theorem d_X_votes_46 : decode b_X_votes 46 = .ok (.lrem, 1) := by decide +kernel
theorem d_X_votes_47 : decode b_X_votes 47 = .ok (.l2i, 1) := by decide +kernel
theorem d_X_votes_48 : decode b_X_votes 48 = .ok (.ireturn, 1) := by decide +kernel
theorem d_X_witness_0 : decode b_X_witness 0 = .ok (.aload_n 0, 1) := by decide +kernel
theorem d_X_witness_1 : decode b_X_witness 1 = .ok (.invokevirtual 100, 3) := by decide +kernel
theorem d_X_witness_4 : decode b_X_witness 4 = .ok (.ifCond .ne 7, 3) := by decide +kernel
theorem d_X_witness_7 : decode b_X_witness 7 = .ok (.ldc2_w 103, 3) := by decide +kernel
theorem d_X_witness_10 : decode b_X_witness 10 = .ok (.lreturn, 1) := by decide +kernel
theorem d_X_witness_11 : decode b_X_witness 11 = .ok (.aload_n 0, 1) := by decide +kernel
theorem d_X_witness_12 : decode b_X_witness 12 = .ok (.getfield 87, 3) := by decide +kernel
theorem d_X_witness_15 : decode b_X_witness 15 = .ok (.ifCond .ne 7, 3) := by decide +kernel
theorem d_X_witness_18 : decode b_X_witness 18 = .ok (.ldc2_w 118, 3) := by decide +kernel
theorem d_X_witness_21 : decode b_X_witness 21 = .ok (.lreturn, 1) := by decide +kernel
theorem d_X_witness_22 : decode b_X_witness 22 = .ok (.aload_n 0, 1) := by decide +kernel
theorem d_X_witness_23 : decode b_X_witness 23 = .ok (.aload_n 0, 1) := by decide +kernel
theorem d_X_witness_24 : decode b_X_witness 24 = .ok (.invokevirtual 120, 3) := by decide +kernel
theorem d_X_witness_27 : decode b_X_witness 27 = .ok (.invokevirtual 73, 3) := by decide +kernel
theorem d_X_witness_30 : decode b_X_witness 30 = .ok (.lreturn, 1) := by decide +kernel
theorem d_X_check_0 : decode b_X_check 0 = .ok (.aload_n 0, 1) := by decide +kernel
theorem d_X_check_1 : decode b_X_check 1 = .ok (.invokevirtual 100, 3) := by decide +kernel
theorem d_X_check_4 : decode b_X_check 4 = .ok (.ifCond .eq 37, 3) := by decide +kernel
theorem d_X_check_7 : decode b_X_check 7 = .ok (.aload_n 0, 1) := by decide +kernel
theorem d_X_check_8 : decode b_X_check 8 = .ok (.lload_n 1, 1) := by decide +kernel
theorem d_X_check_9 : decode b_X_check 9 = .ok (.invokevirtual 53, 3) := by decide +kernel
theorem d_X_check_12 : decode b_X_check 12 = .ok (.ifCond .eq 29, 3) := by decide +kernel
theorem d_X_check_15 : decode b_X_check 15 = .ok (.aload_n 0, 1) := by decide +kernel
theorem d_X_check_16 : decode b_X_check 16 = .ok (.lload_n 3, 1) := by decide +kernel
theorem d_X_check_17 : decode b_X_check 17 = .ok (.invokevirtual 57, 3) := by decide +kernel
theorem d_X_check_20 : decode b_X_check 20 = .ok (.ifCond .eq 21, 3) := by decide +kernel
theorem d_X_check_23 : decode b_X_check 23 = .ok (.aload_n 0, 1) := by decide +kernel
theorem d_X_check_24 : decode b_X_check 24 = .ok (.lload_n 1, 1) := by decide +kernel
theorem d_X_check_25 : decode b_X_check 25 = .ok (.lload_n 3, 1) := by decide +kernel
theorem d_X_check_26 : decode b_X_check 26 = .ok (.invokevirtual 62, 3) := by decide +kernel
theorem d_X_check_29 : decode b_X_check 29 = .ok (.aload_n 0, 1) := by decide +kernel
theorem d_X_check_30 : decode b_X_check 30 = .ok (.invokevirtual 120, 3) := by decide +kernel
theorem d_X_check_33 : decode b_X_check 33 = .ok (.lcmp, 1) := by decide +kernel
theorem d_X_check_34 : decode b_X_check 34 = .ok (.ifCond .ne 7, 3) := by decide +kernel
theorem d_X_check_37 : decode b_X_check 37 = .ok (.iconst 1, 1) := by decide +kernel
theorem d_X_check_38 : decode b_X_check 38 = .ok (.goto 4, 3) := by decide +kernel
theorem d_X_check_41 : decode b_X_check 41 = .ok (.iconst 0, 1) := by decide +kernel
theorem d_X_check_42 : decode b_X_check 42 = .ok (.ireturn, 1) := by decide +kernel
