theorem dn_d_Access_init_0 : decode dn_c_Access_init 0 = .ok (.aload_n 0, 1) := by decide +kernel
theorem dn_d_Access_init_1 : decode dn_c_Access_init 1 = .ok (.invokespecial 1, 3) := by decide +kernel
theorem dn_d_Access_init_4 : decode dn_c_Access_init 4 = .ok (.return_, 1) := by decide +kernel
theorem dn_d_Access_derive_0 : decode dn_c_Access_derive 0 = .ok (.aload_n 0, 1) := by decide +kernel
theorem dn_d_Access_derive_1 : decode dn_c_Access_derive 1 = .ok (.lload_n 1, 1) := by decide +kernel
theorem dn_d_Access_derive_2 : decode dn_c_Access_derive 2 = .ok (.lconst 1, 1) := by decide +kernel
theorem dn_d_Access_derive_3 : decode dn_c_Access_derive 3 = .ok (.invokestatic 7, 3) := by decide +kernel
theorem dn_d_Access_derive_6 : decode dn_c_Access_derive 6 = .ok (.putfield 13, 3) := by decide +kernel
theorem dn_d_Access_derive_9 : decode dn_c_Access_derive 9 = .ok (.aload_n 0, 1) := by decide +kernel
theorem dn_d_Access_derive_10 : decode dn_c_Access_derive 10 = .ok (.lload_n 1, 1) := by decide +kernel
theorem dn_d_Access_derive_11 : decode dn_c_Access_derive 11 = .ok (.ldc2_w 19, 3) := by decide +kernel
theorem dn_d_Access_derive_14 : decode dn_c_Access_derive 14 = .ok (.invokestatic 7, 3) := by decide +kernel
theorem dn_d_Access_derive_17 : decode dn_c_Access_derive 17 = .ok (.putfield 21, 3) := by decide +kernel
theorem dn_d_Access_derive_20 : decode dn_c_Access_derive 20 = .ok (.return_, 1) := by decide +kernel
theorem dn_d_Access_wrap_0 : decode dn_c_Access_wrap 0 = .ok (.aload_n 0, 1) := by decide +kernel
theorem dn_d_Access_wrap_1 : decode dn_c_Access_wrap 1 = .ok (.getfield 13, 3) := by decide +kernel
theorem dn_d_Access_wrap_4 : decode dn_c_Access_wrap 4 = .ok (.lload_n 2, 1) := by decide +kernel
theorem dn_d_Access_wrap_5 : decode dn_c_Access_wrap 5 = .ok (.invokestatic 24, 3) := by decide +kernel
theorem dn_d_Access_wrap_8 : decode dn_c_Access_wrap 8 = .ok (.lstore 8, 2) := by decide +kernel
theorem dn_d_Access_wrap_10 : decode dn_c_Access_wrap 10 = .ok (.aload_n 0, 1) := by decide +kernel
theorem dn_d_Access_wrap_11 : decode dn_c_Access_wrap 11 = .ok (.getfield 13, 3) := by decide +kernel
theorem dn_d_Access_wrap_14 : decode dn_c_Access_wrap 14 = .ok (.lload 4, 2) := by decide +kernel
theorem dn_d_Access_wrap_16 : decode dn_c_Access_wrap 16 = .ok (.lload 8, 2) := by decide +kernel
theorem dn_d_Access_wrap_18 : decode dn_c_Access_wrap 18 = .ok (.lxor, 1) := by decide +kernel
theorem dn_d_Access_wrap_19 : decode dn_c_Access_wrap 19 = .ok (.invokestatic 24, 3) := by decide +kernel
theorem dn_d_Access_wrap_22 : decode dn_c_Access_wrap 22 = .ok (.lstore 10, 2) := by decide +kernel
theorem dn_d_Access_wrap_24 : decode dn_c_Access_wrap 24 = .ok (.aload_n 0, 1) := by decide +kernel
theorem dn_d_Access_wrap_25 : decode dn_c_Access_wrap 25 = .ok (.getfield 13, 3) := by decide +kernel
theorem dn_d_Access_wrap_28 : decode dn_c_Access_wrap 28 = .ok (.lload 6, 2) := by decide +kernel
theorem dn_d_Access_wrap_30 : decode dn_c_Access_wrap 30 = .ok (.lload 10, 2) := by decide +kernel
theorem dn_d_Access_wrap_32 : decode dn_c_Access_wrap 32 = .ok (.lxor, 1) := by decide +kernel
theorem dn_d_Access_wrap_33 : decode dn_c_Access_wrap 33 = .ok (.invokestatic 24, 3) := by decide +kernel
theorem dn_d_Access_wrap_36 : decode dn_c_Access_wrap 36 = .ok (.lstore 12, 2) := by decide +kernel
theorem dn_d_Access_wrap_38 : decode dn_c_Access_wrap 38 = .ok (.aload_n 1, 1) := by decide +kernel
theorem dn_d_Access_wrap_39 : decode dn_c_Access_wrap 39 = .ok (.invokevirtual 27, 3) := by decide +kernel
theorem dn_d_Access_wrap_42 : decode dn_c_Access_wrap 42 = .ok (.aload_n 1, 1) := by decide +kernel
theorem dn_d_Access_wrap_43 : decode dn_c_Access_wrap 43 = .ok (.lload 8, 2) := by decide +kernel
theorem dn_d_Access_wrap_45 : decode dn_c_Access_wrap 45 = .ok (.invokevirtual 32, 3) := by decide +kernel
theorem dn_d_Access_wrap_48 : decode dn_c_Access_wrap 48 = .ok (.aload_n 1, 1) := by decide +kernel
theorem dn_d_Access_wrap_49 : decode dn_c_Access_wrap 49 = .ok (.lload 10, 2) := by decide +kernel
theorem dn_d_Access_wrap_51 : decode dn_c_Access_wrap 51 = .ok (.invokevirtual 32, 3) := by decide +kernel
theorem dn_d_Access_wrap_54 : decode dn_c_Access_wrap 54 = .ok (.aload_n 1, 1) := by decide +kernel
theorem dn_d_Access_wrap_55 : decode dn_c_Access_wrap 55 = .ok (.lload 12, 2) := by decide +kernel
theorem dn_d_Access_wrap_57 : decode dn_c_Access_wrap 57 = .ok (.invokevirtual 32, 3) := by decide +kernel
theorem dn_d_Access_wrap_60 : decode dn_c_Access_wrap 60 = .ok (.aload_n 1, 1) := by decide +kernel
theorem dn_d_Access_wrap_61 : decode dn_c_Access_wrap 61 = .ok (.aload_n 0, 1) := by decide +kernel
theorem dn_d_Access_wrap_62 : decode dn_c_Access_wrap 62 = .ok (.getfield 21, 3) := by decide +kernel
theorem dn_d_Access_wrap_65 : decode dn_c_Access_wrap 65 = .ok (.lload 8, 2) := by decide +kernel
theorem dn_d_Access_wrap_67 : decode dn_c_Access_wrap 67 = .ok (.lload 10, 2) := by decide +kernel
theorem dn_d_Access_wrap_69 : decode dn_c_Access_wrap 69 = .ok (.lload 12, 2) := by decide +kernel
theorem dn_d_Access_wrap_71 : decode dn_c_Access_wrap 71 = .ok (.invokestatic 36, 3) := by decide +kernel
theorem dn_d_Access_wrap_74 : decode dn_c_Access_wrap 74 = .ok (.invokevirtual 32, 3) := by decide +kernel
theorem dn_d_Access_wrap_77 : decode dn_c_Access_wrap 77 = .ok (.return_, 1) := by decide +kernel
theorem dn_d_Access_sealHolds_0 : decode dn_c_Access_sealHolds 0 = .ok (.aload_n 1, 1) := by decide +kernel
theorem dn_d_Access_sealHolds_1 : decode dn_c_Access_sealHolds 1 = .ok (.iconst 3, 1) := by decide +kernel
theorem dn_d_Access_sealHolds_2 : decode dn_c_Access_sealHolds 2 = .ok (.invokevirtual 40, 3) := by decide +kernel
theorem dn_d_Access_sealHolds_5 : decode dn_c_Access_sealHolds 5 = .ok (.aload_n 0, 1) := by decide +kernel
theorem dn_d_Access_sealHolds_6 : decode dn_c_Access_sealHolds 6 = .ok (.getfield 21, 3) := by decide +kernel
theorem dn_d_Access_sealHolds_9 : decode dn_c_Access_sealHolds 9 = .ok (.aload_n 1, 1) := by decide +kernel
theorem dn_d_Access_sealHolds_10 : decode dn_c_Access_sealHolds 10 = .ok (.iconst 0, 1) := by decide +kernel
theorem dn_d_Access_sealHolds_11 : decode dn_c_Access_sealHolds 11 = .ok (.invokevirtual 40, 3) := by decide +kernel
theorem dn_d_Access_sealHolds_14 : decode dn_c_Access_sealHolds 14 = .ok (.aload_n 1, 1) := by decide +kernel
theorem dn_d_Access_sealHolds_15 : decode dn_c_Access_sealHolds 15 = .ok (.iconst 1, 1) := by decide +kernel
theorem dn_d_Access_sealHolds_16 : decode dn_c_Access_sealHolds 16 = .ok (.invokevirtual 40, 3) := by decide +kernel
theorem dn_d_Access_sealHolds_19 : decode dn_c_Access_sealHolds 19 = .ok (.aload_n 1, 1) := by decide +kernel
theorem dn_d_Access_sealHolds_20 : decode dn_c_Access_sealHolds 20 = .ok (.iconst 2, 1) := by decide +kernel
theorem dn_d_Access_sealHolds_21 : decode dn_c_Access_sealHolds 21 = .ok (.invokevirtual 40, 3) := by decide +kernel
theorem dn_d_Access_sealHolds_24 : decode dn_c_Access_sealHolds 24 = .ok (.invokestatic 36, 3) := by decide +kernel
theorem dn_d_Access_sealHolds_27 : decode dn_c_Access_sealHolds 27 = .ok (.lcmp, 1) := by decide +kernel
theorem dn_d_Access_sealHolds_28 : decode dn_c_Access_sealHolds 28 = .ok (.ifCond .ne 7, 3) := by decide +kernel
theorem dn_d_Access_sealHolds_31 : decode dn_c_Access_sealHolds 31 = .ok (.iconst 1, 1) := by decide +kernel
theorem dn_d_Access_sealHolds_32 : decode dn_c_Access_sealHolds 32 = .ok (.goto 4, 3) := by decide +kernel
theorem dn_d_Access_sealHolds_35 : decode dn_c_Access_sealHolds 35 = .ok (.iconst 0, 1) := by decide +kernel
theorem dn_d_Access_sealHolds_36 : decode dn_c_Access_sealHolds 36 = .ok (.ireturn, 1) := by decide +kernel
theorem dn_d_Access_find_0 : decode dn_c_Access_find 0 = .ok (.aload_n 0, 1) := by decide +kernel
theorem dn_d_Access_find_1 : decode dn_c_Access_find 1 = .ok (.getfield 13, 3) := by decide +kernel
theorem dn_d_Access_find_4 : decode dn_c_Access_find 4 = .ok (.aload_n 1, 1) := by decide +kernel
theorem dn_d_Access_find_5 : decode dn_c_Access_find 5 = .ok (.iload_n 2, 1) := by decide +kernel
theorem dn_d_Access_find_6 : decode dn_c_Access_find 6 = .ok (.invokevirtual 40, 3) := by decide +kernel
theorem dn_d_Access_find_9 : decode dn_c_Access_find 9 = .ok (.invokestatic 44, 3) := by decide +kernel
theorem dn_d_Access_find_12 : decode dn_c_Access_find 12 = .ok (.aload_n 1, 1) := by decide +kernel
theorem dn_d_Access_find_13 : decode dn_c_Access_find 13 = .ok (.iload_n 2, 1) := by decide +kernel
theorem dn_d_Access_find_14 : decode dn_c_Access_find 14 = .ok (.iconst 1, 1) := by decide +kernel
theorem dn_d_Access_find_15 : decode dn_c_Access_find 15 = .ok (.isub, 1) := by decide +kernel
theorem dn_d_Access_find_16 : decode dn_c_Access_find 16 = .ok (.invokevirtual 40, 3) := by decide +kernel
theorem dn_d_Access_find_19 : decode dn_c_Access_find 19 = .ok (.lxor, 1) := by decide +kernel
theorem dn_d_Access_find_20 : decode dn_c_Access_find 20 = .ok (.lreturn, 1) := by decide +kernel
theorem dn_d_Codes_digestOfTwo_0 : decode dn_c_Codes_digestOfTwo 0 = .ok (.ldc2_w 9, 3) := by decide +kernel
theorem dn_d_Codes_digestOfTwo_3 : decode dn_c_Codes_digestOfTwo 3 = .ok (.lload_n 0, 1) := by decide +kernel
theorem dn_d_Codes_digestOfTwo_4 : decode dn_c_Codes_digestOfTwo 4 = .ok (.invokestatic 11, 3) := by decide +kernel
theorem dn_d_Codes_digestOfTwo_7 : decode dn_c_Codes_digestOfTwo 7 = .ok (.lload_n 2, 1) := by decide +kernel
theorem dn_d_Codes_digestOfTwo_8 : decode dn_c_Codes_digestOfTwo 8 = .ok (.invokestatic 11, 3) := by decide +kernel
theorem dn_d_Codes_digestOfTwo_11 : decode dn_c_Codes_digestOfTwo 11 = .ok (.lreturn, 1) := by decide +kernel
theorem dn_d_Codes_digestOfThree_0 : decode dn_c_Codes_digestOfThree 0 = .ok (.lload_n 0, 1) := by decide +kernel
theorem dn_d_Codes_digestOfThree_1 : decode dn_c_Codes_digestOfThree 1 = .ok (.lload_n 2, 1) := by decide +kernel
theorem dn_d_Codes_digestOfThree_2 : decode dn_c_Codes_digestOfThree 2 = .ok (.invokestatic 15, 3) := by decide +kernel
theorem dn_d_Codes_digestOfThree_5 : decode dn_c_Codes_digestOfThree 5 = .ok (.lload 4, 2) := by decide +kernel
theorem dn_d_Codes_digestOfThree_7 : decode dn_c_Codes_digestOfThree 7 = .ok (.invokestatic 11, 3) := by decide +kernel
theorem dn_d_Codes_digestOfThree_10 : decode dn_c_Codes_digestOfThree 10 = .ok (.lreturn, 1) := by decide +kernel
theorem dn_d_Codes_digestOfRow_0 : decode dn_c_Codes_digestOfRow 0 = .ok (.ldc2_w 9, 3) := by decide +kernel
theorem dn_d_Codes_digestOfRow_3 : decode dn_c_Codes_digestOfRow 3 = .ok (.lstore_n 1, 1) := by decide +kernel
theorem dn_d_Codes_digestOfRow_4 : decode dn_c_Codes_digestOfRow 4 = .ok (.iconst 0, 1) := by decide +kernel
theorem dn_d_Codes_digestOfRow_5 : decode dn_c_Codes_digestOfRow 5 = .ok (.istore_n 3, 1) := by decide +kernel
theorem dn_d_Codes_digestOfRow_6 : decode dn_c_Codes_digestOfRow 6 = .ok (.iload_n 3, 1) := by decide +kernel
theorem dn_d_Codes_digestOfRow_7 : decode dn_c_Codes_digestOfRow 7 = .ok (.aload_n 0, 1) := by decide +kernel
theorem dn_d_Codes_digestOfRow_8 : decode dn_c_Codes_digestOfRow 8 = .ok (.invokevirtual 18, 3) := by decide +kernel
theorem dn_d_Codes_digestOfRow_11 : decode dn_c_Codes_digestOfRow 11 = .ok (.if_icmp .ge 19, 3) := by decide +kernel
theorem dn_d_Codes_digestOfRow_14 : decode dn_c_Codes_digestOfRow 14 = .ok (.lload_n 1, 1) := by decide +kernel
theorem dn_d_Codes_digestOfRow_15 : decode dn_c_Codes_digestOfRow 15 = .ok (.aload_n 0, 1) := by decide +kernel
theorem dn_d_Codes_digestOfRow_16 : decode dn_c_Codes_digestOfRow 16 = .ok (.iload_n 3, 1) := by decide +kernel
theorem dn_d_Codes_digestOfRow_17 : decode dn_c_Codes_digestOfRow 17 = .ok (.invokevirtual 24, 3) := by decide +kernel
theorem dn_d_Codes_digestOfRow_20 : decode dn_c_Codes_digestOfRow 20 = .ok (.invokestatic 11, 3) := by decide +kernel
theorem dn_d_Codes_digestOfRow_23 : decode dn_c_Codes_digestOfRow 23 = .ok (.lstore_n 1, 1) := by decide +kernel
theorem dn_d_Codes_digestOfRow_24 : decode dn_c_Codes_digestOfRow 24 = .ok (.iinc 3 1, 3) := by decide +kernel
theorem dn_d_Codes_digestOfRow_27 : decode dn_c_Codes_digestOfRow 27 = .ok (.goto (-21), 3) := by decide +kernel
theorem dn_d_Codes_digestOfRow_30 : decode dn_c_Codes_digestOfRow 30 = .ok (.lload_n 1, 1) := by decide +kernel
theorem dn_d_Codes_digestOfRow_31 : decode dn_c_Codes_digestOfRow 31 = .ok (.lreturn, 1) := by decide +kernel
theorem dn_d_Codes_signedNumber_0 : decode dn_c_Codes_signedNumber 0 = .ok (.aload_n 0, 1) := by decide +kernel
theorem dn_d_Codes_signedNumber_1 : decode dn_c_Codes_signedNumber 1 = .ok (.iconst 0, 1) := by decide +kernel
theorem dn_d_Codes_signedNumber_2 : decode dn_c_Codes_signedNumber 2 = .ok (.invokevirtual 24, 3) := by decide +kernel
theorem dn_d_Codes_signedNumber_5 : decode dn_c_Codes_signedNumber 5 = .ok (.aload_n 0, 1) := by decide +kernel
theorem dn_d_Codes_signedNumber_6 : decode dn_c_Codes_signedNumber 6 = .ok (.iconst 1, 1) := by decide +kernel
theorem dn_d_Codes_signedNumber_7 : decode dn_c_Codes_signedNumber 7 = .ok (.invokevirtual 24, 3) := by decide +kernel
theorem dn_d_Codes_signedNumber_10 : decode dn_c_Codes_signedNumber 10 = .ok (.aload_n 0, 1) := by decide +kernel
theorem dn_d_Codes_signedNumber_11 : decode dn_c_Codes_signedNumber 11 = .ok (.iconst 2, 1) := by decide +kernel
theorem dn_d_Codes_signedNumber_12 : decode dn_c_Codes_signedNumber 12 = .ok (.invokevirtual 24, 3) := by decide +kernel
theorem dn_d_Codes_signedNumber_15 : decode dn_c_Codes_signedNumber 15 = .ok (.invokestatic 28, 3) := by decide +kernel
theorem dn_d_Codes_signedNumber_18 : decode dn_c_Codes_signedNumber 18 = .ok (.iconst 1, 1) := by decide +kernel
theorem dn_d_Codes_signedNumber_19 : decode dn_c_Codes_signedNumber 19 = .ok (.lushr, 1) := by decide +kernel
theorem dn_d_Codes_signedNumber_20 : decode dn_c_Codes_signedNumber 20 = .ok (.lreturn, 1) := by decide +kernel
theorem dn_d_Codes_mix_0 : decode dn_c_Codes_mix 0 = .ok (.lload_n 0, 1) := by decide +kernel
theorem dn_d_Codes_mix_1 : decode dn_c_Codes_mix 1 = .ok (.lload_n 2, 1) := by decide +kernel
theorem dn_d_Codes_mix_2 : decode dn_c_Codes_mix 2 = .ok (.lxor, 1) := by decide +kernel
theorem dn_d_Codes_mix_3 : decode dn_c_Codes_mix 3 = .ok (.ldc2_w 32, 3) := by decide +kernel
theorem dn_d_Codes_mix_6 : decode dn_c_Codes_mix 6 = .ok (.lmul, 1) := by decide +kernel
theorem dn_d_Codes_mix_7 : decode dn_c_Codes_mix 7 = .ok (.lstore 4, 2) := by decide +kernel
theorem dn_d_Codes_mix_9 : decode dn_c_Codes_mix 9 = .ok (.lload 4, 2) := by decide +kernel
theorem dn_d_Codes_mix_11 : decode dn_c_Codes_mix 11 = .ok (.lload 4, 2) := by decide +kernel
theorem dn_d_Codes_mix_13 : decode dn_c_Codes_mix 13 = .ok (.bipush 29, 2) := by decide +kernel
theorem dn_d_Codes_mix_15 : decode dn_c_Codes_mix 15 = .ok (.lushr, 1) := by decide +kernel
theorem dn_d_Codes_mix_16 : decode dn_c_Codes_mix 16 = .ok (.lxor, 1) := by decide +kernel
theorem dn_d_Codes_mix_17 : decode dn_c_Codes_mix 17 = .ok (.lreturn, 1) := by decide +kernel
theorem dn_d_Codes_encipher_0 : decode dn_c_Codes_encipher 0 = .ok (.lload_n 2, 1) := by decide +kernel
theorem dn_d_Codes_encipher_1 : decode dn_c_Codes_encipher 1 = .ok (.bipush 32, 2) := by decide +kernel
theorem dn_d_Codes_encipher_3 : decode dn_c_Codes_encipher 3 = .ok (.lushr, 1) := by decide +kernel
theorem dn_d_Codes_encipher_4 : decode dn_c_Codes_encipher 4 = .ok (.l2i, 1) := by decide +kernel
theorem dn_d_Codes_encipher_5 : decode dn_c_Codes_encipher 5 = .ok (.istore 4, 2) := by decide +kernel
theorem dn_d_Codes_encipher_7 : decode dn_c_Codes_encipher 7 = .ok (.lload_n 2, 1) := by decide +kernel
theorem dn_d_Codes_encipher_8 : decode dn_c_Codes_encipher 8 = .ok (.l2i, 1) := by decide +kernel
theorem dn_d_Codes_encipher_9 : decode dn_c_Codes_encipher 9 = .ok (.istore 5, 2) := by decide +kernel
theorem dn_d_Codes_encipher_11 : decode dn_c_Codes_encipher 11 = .ok (.iconst 0, 1) := by decide +kernel
theorem dn_d_Codes_encipher_12 : decode dn_c_Codes_encipher 12 = .ok (.istore 6, 2) := by decide +kernel
theorem dn_d_Codes_encipher_14 : decode dn_c_Codes_encipher 14 = .ok (.iload 6, 2) := by decide +kernel
theorem dn_d_Codes_encipher_16 : decode dn_c_Codes_encipher 16 = .ok (.bipush 8, 2) := by decide +kernel
theorem dn_d_Codes_encipher_18 : decode dn_c_Codes_encipher 18 = .ok (.if_icmp .ge 30, 3) := by decide +kernel
theorem dn_d_Codes_encipher_21 : decode dn_c_Codes_encipher 21 = .ok (.iload 4, 2) := by decide +kernel
theorem dn_d_Codes_encipher_23 : decode dn_c_Codes_encipher 23 = .ok (.lload_n 0, 1) := by decide +kernel
theorem dn_d_Codes_encipher_24 : decode dn_c_Codes_encipher 24 = .ok (.iload 6, 2) := by decide +kernel
theorem dn_d_Codes_encipher_26 : decode dn_c_Codes_encipher 26 = .ok (.iload 5, 2) := by decide +kernel
theorem dn_d_Codes_encipher_28 : decode dn_c_Codes_encipher 28 = .ok (.invokestatic 34, 3) := by decide +kernel
theorem dn_d_Codes_encipher_31 : decode dn_c_Codes_encipher 31 = .ok (.ixor, 1) := by decide +kernel
theorem dn_d_Codes_encipher_32 : decode dn_c_Codes_encipher 32 = .ok (.istore 7, 2) := by decide +kernel
theorem dn_d_Codes_encipher_34 : decode dn_c_Codes_encipher 34 = .ok (.iload 5, 2) := by decide +kernel
theorem dn_d_Codes_encipher_36 : decode dn_c_Codes_encipher 36 = .ok (.istore 4, 2) := by decide +kernel
theorem dn_d_Codes_encipher_38 : decode dn_c_Codes_encipher 38 = .ok (.iload 7, 2) := by decide +kernel
theorem dn_d_Codes_encipher_40 : decode dn_c_Codes_encipher 40 = .ok (.istore 5, 2) := by decide +kernel
theorem dn_d_Codes_encipher_42 : decode dn_c_Codes_encipher 42 = .ok (.iinc 6 1, 3) := by decide +kernel
theorem dn_d_Codes_encipher_45 : decode dn_c_Codes_encipher 45 = .ok (.goto (-31), 3) := by decide +kernel
theorem dn_d_Codes_encipher_48 : decode dn_c_Codes_encipher 48 = .ok (.iload 4, 2) := by decide +kernel
theorem dn_d_Codes_encipher_50 : decode dn_c_Codes_encipher 50 = .ok (.i2l, 1) := by decide +kernel
theorem dn_d_Codes_encipher_51 : decode dn_c_Codes_encipher 51 = .ok (.iload 5, 2) := by decide +kernel
theorem dn_d_Codes_encipher_53 : decode dn_c_Codes_encipher 53 = .ok (.i2l, 1) := by decide +kernel
theorem dn_d_Codes_encipher_54 : decode dn_c_Codes_encipher 54 = .ok (.invokestatic 38, 3) := by decide +kernel
theorem dn_d_Codes_encipher_57 : decode dn_c_Codes_encipher 57 = .ok (.lreturn, 1) := by decide +kernel
theorem dn_d_Codes_decipher_0 : decode dn_c_Codes_decipher 0 = .ok (.lload_n 2, 1) := by decide +kernel
theorem dn_d_Codes_decipher_1 : decode dn_c_Codes_decipher 1 = .ok (.bipush 32, 2) := by decide +kernel
theorem dn_d_Codes_decipher_3 : decode dn_c_Codes_decipher 3 = .ok (.lushr, 1) := by decide +kernel
theorem dn_d_Codes_decipher_4 : decode dn_c_Codes_decipher 4 = .ok (.l2i, 1) := by decide +kernel
theorem dn_d_Codes_decipher_5 : decode dn_c_Codes_decipher 5 = .ok (.istore 4, 2) := by decide +kernel
theorem dn_d_Codes_decipher_7 : decode dn_c_Codes_decipher 7 = .ok (.lload_n 2, 1) := by decide +kernel
theorem dn_d_Codes_decipher_8 : decode dn_c_Codes_decipher 8 = .ok (.l2i, 1) := by decide +kernel
theorem dn_d_Codes_decipher_9 : decode dn_c_Codes_decipher 9 = .ok (.istore 5, 2) := by decide +kernel
theorem dn_d_Codes_decipher_11 : decode dn_c_Codes_decipher 11 = .ok (.bipush 7, 2) := by decide +kernel
theorem dn_d_Codes_decipher_13 : decode dn_c_Codes_decipher 13 = .ok (.istore 6, 2) := by decide +kernel
theorem dn_d_Codes_decipher_15 : decode dn_c_Codes_decipher 15 = .ok (.iload 6, 2) := by decide +kernel
theorem dn_d_Codes_decipher_17 : decode dn_c_Codes_decipher 17 = .ok (.ifCond .lt 30, 3) := by decide +kernel
theorem dn_d_Codes_decipher_20 : decode dn_c_Codes_decipher 20 = .ok (.iload 5, 2) := by decide +kernel
theorem dn_d_Codes_decipher_22 : decode dn_c_Codes_decipher 22 = .ok (.lload_n 0, 1) := by decide +kernel
theorem dn_d_Codes_decipher_23 : decode dn_c_Codes_decipher 23 = .ok (.iload 6, 2) := by decide +kernel
theorem dn_d_Codes_decipher_25 : decode dn_c_Codes_decipher 25 = .ok (.iload 4, 2) := by decide +kernel
theorem dn_d_Codes_decipher_27 : decode dn_c_Codes_decipher 27 = .ok (.invokestatic 34, 3) := by decide +kernel
theorem dn_d_Codes_decipher_30 : decode dn_c_Codes_decipher 30 = .ok (.ixor, 1) := by decide +kernel
theorem dn_d_Codes_decipher_31 : decode dn_c_Codes_decipher 31 = .ok (.istore 7, 2) := by decide +kernel
theorem dn_d_Codes_decipher_33 : decode dn_c_Codes_decipher 33 = .ok (.iload 4, 2) := by decide +kernel
theorem dn_d_Codes_decipher_35 : decode dn_c_Codes_decipher 35 = .ok (.istore 5, 2) := by decide +kernel
theorem dn_d_Codes_decipher_37 : decode dn_c_Codes_decipher 37 = .ok (.iload 7, 2) := by decide +kernel
theorem dn_d_Codes_decipher_39 : decode dn_c_Codes_decipher 39 = .ok (.istore 4, 2) := by decide +kernel
theorem dn_d_Codes_decipher_41 : decode dn_c_Codes_decipher 41 = .ok (.iinc 6 (-1), 3) := by decide +kernel
theorem dn_d_Codes_decipher_44 : decode dn_c_Codes_decipher 44 = .ok (.goto (-29), 3) := by decide +kernel
theorem dn_d_Codes_decipher_47 : decode dn_c_Codes_decipher 47 = .ok (.iload 4, 2) := by decide +kernel
theorem dn_d_Codes_decipher_49 : decode dn_c_Codes_decipher 49 = .ok (.i2l, 1) := by decide +kernel
theorem dn_d_Codes_decipher_50 : decode dn_c_Codes_decipher 50 = .ok (.iload 5, 2) := by decide +kernel
theorem dn_d_Codes_decipher_52 : decode dn_c_Codes_decipher 52 = .ok (.i2l, 1) := by decide +kernel
theorem dn_d_Codes_decipher_53 : decode dn_c_Codes_decipher 53 = .ok (.invokestatic 38, 3) := by decide +kernel
theorem dn_d_Codes_decipher_56 : decode dn_c_Codes_decipher 56 = .ok (.lreturn, 1) := by decide +kernel
theorem dn_d_Codes_scramble_0 : decode dn_c_Codes_scramble 0 = .ok (.iload_n 3, 1) := by decide +kernel
theorem dn_d_Codes_scramble_1 : decode dn_c_Codes_scramble 1 = .ok (.lload_n 0, 1) := by decide +kernel
theorem dn_d_Codes_scramble_2 : decode dn_c_Codes_scramble 2 = .ok (.bipush 8, 2) := by decide +kernel
theorem dn_d_Codes_scramble_4 : decode dn_c_Codes_scramble 4 = .ok (.iload_n 2, 1) := by decide +kernel
theorem dn_d_Codes_scramble_5 : decode dn_c_Codes_scramble 5 = .ok (.imul, 1) := by decide +kernel
theorem dn_d_Codes_scramble_6 : decode dn_c_Codes_scramble 6 = .ok (.lushr, 1) := by decide +kernel
theorem dn_d_Codes_scramble_7 : decode dn_c_Codes_scramble 7 = .ok (.lload_n 0, 1) := by decide +kernel
theorem dn_d_Codes_scramble_8 : decode dn_c_Codes_scramble 8 = .ok (.bipush 64, 2) := by decide +kernel
theorem dn_d_Codes_scramble_10 : decode dn_c_Codes_scramble 10 = .ok (.bipush 8, 2) := by decide +kernel
theorem dn_d_Codes_scramble_12 : decode dn_c_Codes_scramble 12 = .ok (.iload_n 2, 1) := by decide +kernel
theorem dn_d_Codes_scramble_13 : decode dn_c_Codes_scramble 13 = .ok (.imul, 1) := by decide +kernel
theorem dn_d_Codes_scramble_14 : decode dn_c_Codes_scramble 14 = .ok (.isub, 1) := by decide +kernel
theorem dn_d_Codes_scramble_15 : decode dn_c_Codes_scramble 15 = .ok (.lshl, 1) := by decide +kernel
theorem dn_d_Codes_scramble_16 : decode dn_c_Codes_scramble 16 = .ok (.lor, 1) := by decide +kernel
theorem dn_d_Codes_scramble_17 : decode dn_c_Codes_scramble 17 = .ok (.l2i, 1) := by decide +kernel
theorem dn_d_Codes_scramble_18 : decode dn_c_Codes_scramble 18 = .ok (.iadd, 1) := by decide +kernel
theorem dn_d_Codes_scramble_19 : decode dn_c_Codes_scramble 19 = .ok (.istore 4, 2) := by decide +kernel
theorem dn_d_Codes_scramble_21 : decode dn_c_Codes_scramble 21 = .ok (.iload 4, 2) := by decide +kernel
theorem dn_d_Codes_scramble_23 : decode dn_c_Codes_scramble 23 = .ok (.iconst 4, 1) := by decide +kernel
theorem dn_d_Codes_scramble_24 : decode dn_c_Codes_scramble 24 = .ok (.ishl, 1) := by decide +kernel
theorem dn_d_Codes_scramble_25 : decode dn_c_Codes_scramble 25 = .ok (.iload 4, 2) := by decide +kernel
theorem dn_d_Codes_scramble_27 : decode dn_c_Codes_scramble 27 = .ok (.iconst 5, 1) := by decide +kernel
theorem dn_d_Codes_scramble_28 : decode dn_c_Codes_scramble 28 = .ok (.iushr, 1) := by decide +kernel
theorem dn_d_Codes_scramble_29 : decode dn_c_Codes_scramble 29 = .ok (.ixor, 1) := by decide +kernel
theorem dn_d_Codes_scramble_30 : decode dn_c_Codes_scramble 30 = .ok (.iload 4, 2) := by decide +kernel
theorem dn_d_Codes_scramble_32 : decode dn_c_Codes_scramble 32 = .ok (.iadd, 1) := by decide +kernel
theorem dn_d_Codes_scramble_33 : decode dn_c_Codes_scramble 33 = .ok (.iload_n 2, 1) := by decide +kernel
theorem dn_d_Codes_scramble_34 : decode dn_c_Codes_scramble 34 = .ok (.ldc 41, 2) := by decide +kernel
theorem dn_d_Codes_scramble_36 : decode dn_c_Codes_scramble 36 = .ok (.imul, 1) := by decide +kernel
theorem dn_d_Codes_scramble_37 : decode dn_c_Codes_scramble 37 = .ok (.ixor, 1) := by decide +kernel
theorem dn_d_Codes_scramble_38 : decode dn_c_Codes_scramble 38 = .ok (.ireturn, 1) := by decide +kernel
theorem dn_d_Codes_joined_0 : decode dn_c_Codes_joined 0 = .ok (.lload_n 0, 1) := by decide +kernel
theorem dn_d_Codes_joined_1 : decode dn_c_Codes_joined 1 = .ok (.bipush 32, 2) := by decide +kernel
theorem dn_d_Codes_joined_3 : decode dn_c_Codes_joined 3 = .ok (.lshl, 1) := by decide +kernel
theorem dn_d_Codes_joined_4 : decode dn_c_Codes_joined 4 = .ok (.lload_n 2, 1) := by decide +kernel
theorem dn_d_Codes_joined_5 : decode dn_c_Codes_joined 5 = .ok (.ldc2_w 42, 3) := by decide +kernel
theorem dn_d_Codes_joined_8 : decode dn_c_Codes_joined 8 = .ok (.land, 1) := by decide +kernel
theorem dn_d_Codes_joined_9 : decode dn_c_Codes_joined 9 = .ok (.lor, 1) := by decide +kernel
theorem dn_d_Codes_joined_10 : decode dn_c_Codes_joined 10 = .ok (.lreturn, 1) := by decide +kernel
theorem dn_d_Codes_sealOfThree_0 : decode dn_c_Codes_sealOfThree 0 = .ok (.lload_n 0, 1) := by decide +kernel
theorem dn_d_Codes_sealOfThree_1 : decode dn_c_Codes_sealOfThree 1 = .ok (.lload_n 0, 1) := by decide +kernel
theorem dn_d_Codes_sealOfThree_2 : decode dn_c_Codes_sealOfThree 2 = .ok (.lload_n 0, 1) := by decide +kernel
theorem dn_d_Codes_sealOfThree_3 : decode dn_c_Codes_sealOfThree 3 = .ok (.lload_n 2, 1) := by decide +kernel
theorem dn_d_Codes_sealOfThree_4 : decode dn_c_Codes_sealOfThree 4 = .ok (.invokestatic 44, 3) := by decide +kernel
theorem dn_d_Codes_sealOfThree_7 : decode dn_c_Codes_sealOfThree 7 = .ok (.lload 4, 2) := by decide +kernel
theorem dn_d_Codes_sealOfThree_9 : decode dn_c_Codes_sealOfThree 9 = .ok (.lxor, 1) := by decide +kernel
theorem dn_d_Codes_sealOfThree_10 : decode dn_c_Codes_sealOfThree 10 = .ok (.invokestatic 44, 3) := by decide +kernel
theorem dn_d_Codes_sealOfThree_13 : decode dn_c_Codes_sealOfThree 13 = .ok (.lload 6, 2) := by decide +kernel
theorem dn_d_Codes_sealOfThree_15 : decode dn_c_Codes_sealOfThree 15 = .ok (.lxor, 1) := by decide +kernel
theorem dn_d_Codes_sealOfThree_16 : decode dn_c_Codes_sealOfThree 16 = .ok (.invokestatic 44, 3) := by decide +kernel
theorem dn_d_Codes_sealOfThree_19 : decode dn_c_Codes_sealOfThree 19 = .ok (.lreturn, 1) := by decide +kernel
theorem dn_d_Line_init_0 : decode dn_c_Line_init 0 = .ok (.aload_n 0, 1) := by decide +kernel
theorem dn_d_Line_init_1 : decode dn_c_Line_init 1 = .ok (.invokespecial 1, 3) := by decide +kernel
theorem dn_d_Line_init_4 : decode dn_c_Line_init 4 = .ok (.aload_n 0, 1) := by decide +kernel
theorem dn_d_Line_init_5 : decode dn_c_Line_init 5 = .ok (.iconst 3, 1) := by decide +kernel
theorem dn_d_Line_init_6 : decode dn_c_Line_init 6 = .ok (.newarray .int, 2) := by decide +kernel
theorem dn_d_Line_init_8 : decode dn_c_Line_init 8 = .ok (.putfield 9, 3) := by decide +kernel
theorem dn_d_Line_init_11 : decode dn_c_Line_init 11 = .ok (.aload_n 0, 1) := by decide +kernel
theorem dn_d_Line_init_12 : decode dn_c_Line_init 12 = .ok (.iconst 3, 1) := by decide +kernel
theorem dn_d_Line_init_13 : decode dn_c_Line_init 13 = .ok (.newarray .int, 2) := by decide +kernel
theorem dn_d_Line_init_15 : decode dn_c_Line_init 15 = .ok (.putfield 13, 3) := by decide +kernel
theorem dn_d_Line_init_18 : decode dn_c_Line_init 18 = .ok (.return_, 1) := by decide +kernel
theorem dn_d_Line_isField_0 : decode dn_c_Line_isField 0 = .ok (.iload_n 0, 1) := by decide +kernel
theorem dn_d_Line_isField_1 : decode dn_c_Line_isField 1 = .ok (.ifCond .lt 12, 3) := by decide +kernel
theorem dn_d_Line_isField_4 : decode dn_c_Line_isField 4 = .ok (.iload_n 0, 1) := by decide +kernel
theorem dn_d_Line_isField_5 : decode dn_c_Line_isField 5 = .ok (.iconst 3, 1) := by decide +kernel
theorem dn_d_Line_isField_6 : decode dn_c_Line_isField 6 = .ok (.if_icmp .ge 7, 3) := by decide +kernel
theorem dn_d_Line_isField_9 : decode dn_c_Line_isField 9 = .ok (.iconst 1, 1) := by decide +kernel
theorem dn_d_Line_isField_10 : decode dn_c_Line_isField 10 = .ok (.goto 4, 3) := by decide +kernel
theorem dn_d_Line_isField_13 : decode dn_c_Line_isField 13 = .ok (.iconst 0, 1) := by decide +kernel
theorem dn_d_Line_isField_14 : decode dn_c_Line_isField 14 = .ok (.ireturn, 1) := by decide +kernel
theorem dn_d_Line_fits_0 : decode dn_c_Line_fits 0 = .ok (.iload_n 0, 1) := by decide +kernel
theorem dn_d_Line_fits_1 : decode dn_c_Line_fits 1 = .ok (.invokestatic 16, 3) := by decide +kernel
theorem dn_d_Line_fits_4 : decode dn_c_Line_fits 4 = .ok (.ifCond .eq 20, 3) := by decide +kernel
theorem dn_d_Line_fits_7 : decode dn_c_Line_fits 7 = .ok (.iload_n 1, 1) := by decide +kernel
theorem dn_d_Line_fits_8 : decode dn_c_Line_fits 8 = .ok (.ifCond .lt 16, 3) := by decide +kernel
theorem dn_d_Line_fits_11 : decode dn_c_Line_fits 11 = .ok (.iload_n 1, 1) := by decide +kernel
theorem dn_d_Line_fits_12 : decode dn_c_Line_fits 12 = .ok (.getstatic 20, 3) := by decide +kernel
theorem dn_d_Line_fits_15 : decode dn_c_Line_fits 15 = .ok (.iload_n 0, 1) := by decide +kernel
theorem dn_d_Line_fits_16 : decode dn_c_Line_fits 16 = .ok (.iaload, 1) := by decide +kernel
theorem dn_d_Line_fits_17 : decode dn_c_Line_fits 17 = .ok (.if_icmp .ge 7, 3) := by decide +kernel
theorem dn_d_Line_fits_20 : decode dn_c_Line_fits 20 = .ok (.iconst 1, 1) := by decide +kernel
theorem dn_d_Line_fits_21 : decode dn_c_Line_fits 21 = .ok (.goto 4, 3) := by decide +kernel
theorem dn_d_Line_fits_24 : decode dn_c_Line_fits 24 = .ok (.iconst 0, 1) := by decide +kernel
theorem dn_d_Line_fits_25 : decode dn_c_Line_fits 25 = .ok (.ireturn, 1) := by decide +kernel
theorem dn_d_Line_rightDigit_0 : decode dn_c_Line_rightDigit 0 = .ok (.iconst 0, 1) := by decide +kernel
theorem dn_d_Line_rightDigit_1 : decode dn_c_Line_rightDigit 1 = .ok (.istore_n 2, 1) := by decide +kernel
theorem dn_d_Line_rightDigit_2 : decode dn_c_Line_rightDigit 2 = .ok (.iload_n 0, 1) := by decide +kernel
theorem dn_d_Line_rightDigit_3 : decode dn_c_Line_rightDigit 3 = .ok (.istore_n 3, 1) := by decide +kernel
theorem dn_d_Line_rightDigit_4 : decode dn_c_Line_rightDigit 4 = .ok (.iload_n 1, 1) := by decide +kernel
theorem dn_d_Line_rightDigit_5 : decode dn_c_Line_rightDigit 5 = .ok (.iconst 1, 1) := by decide +kernel
theorem dn_d_Line_rightDigit_6 : decode dn_c_Line_rightDigit 6 = .ok (.isub, 1) := by decide +kernel
theorem dn_d_Line_rightDigit_7 : decode dn_c_Line_rightDigit 7 = .ok (.istore 4, 2) := by decide +kernel
theorem dn_d_Line_rightDigit_9 : decode dn_c_Line_rightDigit 9 = .ok (.iload 4, 2) := by decide +kernel
theorem dn_d_Line_rightDigit_11 : decode dn_c_Line_rightDigit 11 = .ok (.ifCond .lt 30, 3) := by decide +kernel
theorem dn_d_Line_rightDigit_14 : decode dn_c_Line_rightDigit 14 = .ok (.iload_n 2, 1) := by decide +kernel
theorem dn_d_Line_rightDigit_15 : decode dn_c_Line_rightDigit 15 = .ok (.iload_n 3, 1) := by decide +kernel
theorem dn_d_Line_rightDigit_16 : decode dn_c_Line_rightDigit 16 = .ok (.bipush 10, 2) := by decide +kernel
theorem dn_d_Line_rightDigit_18 : decode dn_c_Line_rightDigit 18 = .ok (.irem, 1) := by decide +kernel
theorem dn_d_Line_rightDigit_19 : decode dn_c_Line_rightDigit 19 = .ok (.getstatic 23, 3) := by decide +kernel
theorem dn_d_Line_rightDigit_22 : decode dn_c_Line_rightDigit 22 = .ok (.iload 4, 2) := by decide +kernel
theorem dn_d_Line_rightDigit_24 : decode dn_c_Line_rightDigit 24 = .ok (.iconst 3, 1) := by decide +kernel
theorem dn_d_Line_rightDigit_25 : decode dn_c_Line_rightDigit 25 = .ok (.irem, 1) := by decide +kernel
theorem dn_d_Line_rightDigit_26 : decode dn_c_Line_rightDigit 26 = .ok (.iaload, 1) := by decide +kernel
theorem dn_d_Line_rightDigit_27 : decode dn_c_Line_rightDigit 27 = .ok (.imul, 1) := by decide +kernel
theorem dn_d_Line_rightDigit_28 : decode dn_c_Line_rightDigit 28 = .ok (.iadd, 1) := by decide +kernel
theorem dn_d_Line_rightDigit_29 : decode dn_c_Line_rightDigit 29 = .ok (.istore_n 2, 1) := by decide +kernel
theorem dn_d_Line_rightDigit_30 : decode dn_c_Line_rightDigit 30 = .ok (.iload_n 3, 1) := by decide +kernel
theorem dn_d_Line_rightDigit_31 : decode dn_c_Line_rightDigit 31 = .ok (.bipush 10, 2) := by decide +kernel
theorem dn_d_Line_rightDigit_33 : decode dn_c_Line_rightDigit 33 = .ok (.idiv, 1) := by decide +kernel
theorem dn_d_Line_rightDigit_34 : decode dn_c_Line_rightDigit 34 = .ok (.istore_n 3, 1) := by decide +kernel
theorem dn_d_Line_rightDigit_35 : decode dn_c_Line_rightDigit 35 = .ok (.iinc 4 (-1), 3) := by decide +kernel
theorem dn_d_Line_rightDigit_38 : decode dn_c_Line_rightDigit 38 = .ok (.goto (-29), 3) := by decide +kernel
theorem dn_d_Line_rightDigit_41 : decode dn_c_Line_rightDigit 41 = .ok (.iload_n 2, 1) := by decide +kernel
theorem dn_d_Line_rightDigit_42 : decode dn_c_Line_rightDigit 42 = .ok (.bipush 10, 2) := by decide +kernel
theorem dn_d_Line_rightDigit_44 : decode dn_c_Line_rightDigit 44 = .ok (.irem, 1) := by decide +kernel
theorem dn_d_Line_rightDigit_45 : decode dn_c_Line_rightDigit 45 = .ok (.ireturn, 1) := by decide +kernel
theorem dn_d_Line_put_0 : decode dn_c_Line_put 0 = .ok (.iload_n 1, 1) := by decide +kernel
theorem dn_d_Line_put_1 : decode dn_c_Line_put 1 = .ok (.invokestatic 16, 3) := by decide +kernel
theorem dn_d_Line_put_4 : decode dn_c_Line_put 4 = .ok (.ifCond .eq 17, 3) := by decide +kernel
theorem dn_d_Line_put_7 : decode dn_c_Line_put 7 = .ok (.aload_n 0, 1) := by decide +kernel
theorem dn_d_Line_put_8 : decode dn_c_Line_put 8 = .ok (.getfield 9, 3) := by decide +kernel
theorem dn_d_Line_put_11 : decode dn_c_Line_put 11 = .ok (.iload_n 1, 1) := by decide +kernel
theorem dn_d_Line_put_12 : decode dn_c_Line_put 12 = .ok (.iload_n 2, 1) := by decide +kernel
theorem dn_d_Line_put_13 : decode dn_c_Line_put 13 = .ok (.iastore, 1) := by decide +kernel
theorem dn_d_Line_put_14 : decode dn_c_Line_put 14 = .ok (.aload_n 0, 1) := by decide +kernel
theorem dn_d_Line_put_15 : decode dn_c_Line_put 15 = .ok (.getfield 13, 3) := by decide +kernel
theorem dn_d_Line_put_18 : decode dn_c_Line_put 18 = .ok (.iload_n 1, 1) := by decide +kernel
theorem dn_d_Line_put_19 : decode dn_c_Line_put 19 = .ok (.iload_n 3, 1) := by decide +kernel
theorem dn_d_Line_put_20 : decode dn_c_Line_put 20 = .ok (.iastore, 1) := by decide +kernel
theorem dn_d_Line_put_21 : decode dn_c_Line_put 21 = .ok (.return_, 1) := by decide +kernel
theorem dn_d_Line_putFitting_0 : decode dn_c_Line_putFitting 0 = .ok (.iload_n 1, 1) := by decide +kernel
theorem dn_d_Line_putFitting_1 : decode dn_c_Line_putFitting 1 = .ok (.invokestatic 16, 3) := by decide +kernel
theorem dn_d_Line_putFitting_4 : decode dn_c_Line_putFitting 4 = .ok (.ifCond .eq 29, 3) := by decide +kernel
theorem dn_d_Line_putFitting_7 : decode dn_c_Line_putFitting 7 = .ok (.iload_n 2, 1) := by decide +kernel
theorem dn_d_Line_putFitting_8 : decode dn_c_Line_putFitting 8 = .ok (.getstatic 20, 3) := by decide +kernel
theorem dn_d_Line_putFitting_11 : decode dn_c_Line_putFitting 11 = .ok (.iload_n 1, 1) := by decide +kernel
theorem dn_d_Line_putFitting_12 : decode dn_c_Line_putFitting 12 = .ok (.iaload, 1) := by decide +kernel
theorem dn_d_Line_putFitting_13 : decode dn_c_Line_putFitting 13 = .ok (.irem, 1) := by decide +kernel
theorem dn_d_Line_putFitting_14 : decode dn_c_Line_putFitting 14 = .ok (.invokestatic 26, 3) := by decide +kernel
theorem dn_d_Line_putFitting_17 : decode dn_c_Line_putFitting 17 = .ok (.istore_n 3, 1) := by decide +kernel
theorem dn_d_Line_putFitting_18 : decode dn_c_Line_putFitting 18 = .ok (.aload_n 0, 1) := by decide +kernel
theorem dn_d_Line_putFitting_19 : decode dn_c_Line_putFitting 19 = .ok (.iload_n 1, 1) := by decide +kernel
theorem dn_d_Line_putFitting_20 : decode dn_c_Line_putFitting 20 = .ok (.iload_n 3, 1) := by decide +kernel
theorem dn_d_Line_putFitting_21 : decode dn_c_Line_putFitting 21 = .ok (.iload_n 3, 1) := by decide +kernel
theorem dn_d_Line_putFitting_22 : decode dn_c_Line_putFitting 22 = .ok (.getstatic 32, 3) := by decide +kernel
theorem dn_d_Line_putFitting_25 : decode dn_c_Line_putFitting 25 = .ok (.iload_n 1, 1) := by decide +kernel
theorem dn_d_Line_putFitting_26 : decode dn_c_Line_putFitting 26 = .ok (.iaload, 1) := by decide +kernel
theorem dn_d_Line_putFitting_27 : decode dn_c_Line_putFitting 27 = .ok (.invokestatic 35, 3) := by decide +kernel
theorem dn_d_Line_putFitting_30 : decode dn_c_Line_putFitting 30 = .ok (.invokevirtual 39, 3) := by decide +kernel
theorem dn_d_Line_putFitting_33 : decode dn_c_Line_putFitting 33 = .ok (.return_, 1) := by decide +kernel
theorem dn_d_Line_isRight_0 : decode dn_c_Line_isRight 0 = .ok (.iload_n 1, 1) := by decide +kernel
theorem dn_d_Line_isRight_1 : decode dn_c_Line_isRight 1 = .ok (.invokestatic 16, 3) := by decide +kernel
theorem dn_d_Line_isRight_4 : decode dn_c_Line_isRight 4 = .ok (.ifCond .eq 30, 3) := by decide +kernel
theorem dn_d_Line_isRight_7 : decode dn_c_Line_isRight 7 = .ok (.aload_n 0, 1) := by decide +kernel
theorem dn_d_Line_isRight_8 : decode dn_c_Line_isRight 8 = .ok (.getfield 13, 3) := by decide +kernel
theorem dn_d_Line_isRight_11 : decode dn_c_Line_isRight 11 = .ok (.iload_n 1, 1) := by decide +kernel
theorem dn_d_Line_isRight_12 : decode dn_c_Line_isRight 12 = .ok (.iaload, 1) := by decide +kernel
theorem dn_d_Line_isRight_13 : decode dn_c_Line_isRight 13 = .ok (.aload_n 0, 1) := by decide +kernel
theorem dn_d_Line_isRight_14 : decode dn_c_Line_isRight 14 = .ok (.getfield 9, 3) := by decide +kernel
theorem dn_d_Line_isRight_17 : decode dn_c_Line_isRight 17 = .ok (.iload_n 1, 1) := by decide +kernel
theorem dn_d_Line_isRight_18 : decode dn_c_Line_isRight 18 = .ok (.iaload, 1) := by decide +kernel
theorem dn_d_Line_isRight_19 : decode dn_c_Line_isRight 19 = .ok (.getstatic 32, 3) := by decide +kernel
theorem dn_d_Line_isRight_22 : decode dn_c_Line_isRight 22 = .ok (.iload_n 1, 1) := by decide +kernel
theorem dn_d_Line_isRight_23 : decode dn_c_Line_isRight 23 = .ok (.iaload, 1) := by decide +kernel
theorem dn_d_Line_isRight_24 : decode dn_c_Line_isRight 24 = .ok (.invokestatic 35, 3) := by decide +kernel
theorem dn_d_Line_isRight_27 : decode dn_c_Line_isRight 27 = .ok (.if_icmp .ne 7, 3) := by decide +kernel
theorem dn_d_Line_isRight_30 : decode dn_c_Line_isRight 30 = .ok (.iconst 1, 1) := by decide +kernel
theorem dn_d_Line_isRight_31 : decode dn_c_Line_isRight 31 = .ok (.goto 4, 3) := by decide +kernel
theorem dn_d_Line_isRight_34 : decode dn_c_Line_isRight 34 = .ok (.iconst 0, 1) := by decide +kernel
theorem dn_d_Line_isRight_35 : decode dn_c_Line_isRight 35 = .ok (.ireturn, 1) := by decide +kernel
theorem dn_d_Line_isAllRight_0 : decode dn_c_Line_isAllRight 0 = .ok (.aload_n 0, 1) := by decide +kernel
theorem dn_d_Line_isAllRight_1 : decode dn_c_Line_isAllRight 1 = .ok (.iconst 0, 1) := by decide +kernel
theorem dn_d_Line_isAllRight_2 : decode dn_c_Line_isAllRight 2 = .ok (.invokevirtual 43, 3) := by decide +kernel
theorem dn_d_Line_isAllRight_5 : decode dn_c_Line_isAllRight 5 = .ok (.ifCond .eq 23, 3) := by decide +kernel
theorem dn_d_Line_isAllRight_8 : decode dn_c_Line_isAllRight 8 = .ok (.aload_n 0, 1) := by decide +kernel
theorem dn_d_Line_isAllRight_9 : decode dn_c_Line_isAllRight 9 = .ok (.iconst 1, 1) := by decide +kernel
theorem dn_d_Line_isAllRight_10 : decode dn_c_Line_isAllRight 10 = .ok (.invokevirtual 43, 3) := by decide +kernel
theorem dn_d_Line_isAllRight_13 : decode dn_c_Line_isAllRight 13 = .ok (.ifCond .eq 15, 3) := by decide +kernel
theorem dn_d_Line_isAllRight_16 : decode dn_c_Line_isAllRight 16 = .ok (.aload_n 0, 1) := by decide +kernel
theorem dn_d_Line_isAllRight_17 : decode dn_c_Line_isAllRight 17 = .ok (.iconst 2, 1) := by decide +kernel
theorem dn_d_Line_isAllRight_18 : decode dn_c_Line_isAllRight 18 = .ok (.invokevirtual 43, 3) := by decide +kernel
theorem dn_d_Line_isAllRight_21 : decode dn_c_Line_isAllRight 21 = .ok (.ifCond .eq 7, 3) := by decide +kernel
theorem dn_d_Line_isAllRight_24 : decode dn_c_Line_isAllRight 24 = .ok (.iconst 1, 1) := by decide +kernel
theorem dn_d_Line_isAllRight_25 : decode dn_c_Line_isAllRight 25 = .ok (.goto 4, 3) := by decide +kernel
theorem dn_d_Line_isAllRight_28 : decode dn_c_Line_isAllRight 28 = .ok (.iconst 0, 1) := by decide +kernel
theorem dn_d_Line_isAllRight_29 : decode dn_c_Line_isAllRight 29 = .ok (.ireturn, 1) := by decide +kernel
theorem dn_d_Line_word_0 : decode dn_c_Line_word 0 = .ok (.iload_n 1, 1) := by decide +kernel
theorem dn_d_Line_word_1 : decode dn_c_Line_word 1 = .ok (.invokestatic 16, 3) := by decide +kernel
theorem dn_d_Line_word_4 : decode dn_c_Line_word 4 = .ok (.ifCond .eq 25, 3) := by decide +kernel
theorem dn_d_Line_word_7 : decode dn_c_Line_word 7 = .ok (.aload_n 0, 1) := by decide +kernel
theorem dn_d_Line_word_8 : decode dn_c_Line_word 8 = .ok (.getfield 9, 3) := by decide +kernel
theorem dn_d_Line_word_11 : decode dn_c_Line_word 11 = .ok (.iload_n 1, 1) := by decide +kernel
theorem dn_d_Line_word_12 : decode dn_c_Line_word 12 = .ok (.iaload, 1) := by decide +kernel
theorem dn_d_Line_word_13 : decode dn_c_Line_word 13 = .ok (.i2l, 1) := by decide +kernel
theorem dn_d_Line_word_14 : decode dn_c_Line_word 14 = .ok (.ldc2_w 46, 3) := by decide +kernel
theorem dn_d_Line_word_17 : decode dn_c_Line_word 17 = .ok (.lmul, 1) := by decide +kernel
theorem dn_d_Line_word_18 : decode dn_c_Line_word 18 = .ok (.aload_n 0, 1) := by decide +kernel
theorem dn_d_Line_word_19 : decode dn_c_Line_word 19 = .ok (.getfield 13, 3) := by decide +kernel
theorem dn_d_Line_word_22 : decode dn_c_Line_word 22 = .ok (.iload_n 1, 1) := by decide +kernel
theorem dn_d_Line_word_23 : decode dn_c_Line_word 23 = .ok (.iaload, 1) := by decide +kernel
theorem dn_d_Line_word_24 : decode dn_c_Line_word 24 = .ok (.i2l, 1) := by decide +kernel
theorem dn_d_Line_word_25 : decode dn_c_Line_word 25 = .ok (.ladd, 1) := by decide +kernel
theorem dn_d_Line_word_26 : decode dn_c_Line_word 26 = .ok (.goto 4, 3) := by decide +kernel
theorem dn_d_Line_word_29 : decode dn_c_Line_word 29 = .ok (.lconst 0, 1) := by decide +kernel
theorem dn_d_Line_word_30 : decode dn_c_Line_word 30 = .ok (.lreturn, 1) := by decide +kernel
theorem dn_d_Line_seed_0 : decode dn_c_Line_seed 0 = .ok (.aload_n 0, 1) := by decide +kernel
theorem dn_d_Line_seed_1 : decode dn_c_Line_seed 1 = .ok (.iconst 0, 1) := by decide +kernel
theorem dn_d_Line_seed_2 : decode dn_c_Line_seed 2 = .ok (.invokevirtual 48, 3) := by decide +kernel
theorem dn_d_Line_seed_5 : decode dn_c_Line_seed 5 = .ok (.aload_n 0, 1) := by decide +kernel
theorem dn_d_Line_seed_6 : decode dn_c_Line_seed 6 = .ok (.iconst 1, 1) := by decide +kernel
theorem dn_d_Line_seed_7 : decode dn_c_Line_seed 7 = .ok (.invokevirtual 48, 3) := by decide +kernel
theorem dn_d_Line_seed_10 : decode dn_c_Line_seed 10 = .ok (.aload_n 0, 1) := by decide +kernel
theorem dn_d_Line_seed_11 : decode dn_c_Line_seed 11 = .ok (.iconst 2, 1) := by decide +kernel
theorem dn_d_Line_seed_12 : decode dn_c_Line_seed 12 = .ok (.invokevirtual 48, 3) := by decide +kernel
theorem dn_d_Line_seed_15 : decode dn_c_Line_seed 15 = .ok (.invokestatic 52, 3) := by decide +kernel
theorem dn_d_Line_seed_18 : decode dn_c_Line_seed 18 = .ok (.lreturn, 1) := by decide +kernel
theorem dn_d_Line_isIn_0 : decode dn_c_Line_isIn 0 = .ok (.aload_n 1, 1) := by decide +kernel
theorem dn_d_Line_isIn_1 : decode dn_c_Line_isIn 1 = .ok (.invokevirtual 58, 3) := by decide +kernel
theorem dn_d_Line_isIn_4 : decode dn_c_Line_isIn 4 = .ok (.iconst 3, 1) := by decide +kernel
theorem dn_d_Line_isIn_5 : decode dn_c_Line_isIn 5 = .ok (.if_icmp .ne 49, 3) := by decide +kernel
theorem dn_d_Line_isIn_8 : decode dn_c_Line_isIn 8 = .ok (.aload_n 1, 1) := by decide +kernel
theorem dn_d_Line_isIn_9 : decode dn_c_Line_isIn 9 = .ok (.iconst 0, 1) := by decide +kernel
theorem dn_d_Line_isIn_10 : decode dn_c_Line_isIn 10 = .ok (.invokevirtual 64, 3) := by decide +kernel
theorem dn_d_Line_isIn_13 : decode dn_c_Line_isIn 13 = .ok (.aload_n 0, 1) := by decide +kernel
theorem dn_d_Line_isIn_14 : decode dn_c_Line_isIn 14 = .ok (.iconst 0, 1) := by decide +kernel
theorem dn_d_Line_isIn_15 : decode dn_c_Line_isIn 15 = .ok (.invokevirtual 48, 3) := by decide +kernel
theorem dn_d_Line_isIn_18 : decode dn_c_Line_isIn 18 = .ok (.lcmp, 1) := by decide +kernel
theorem dn_d_Line_isIn_19 : decode dn_c_Line_isIn 19 = .ok (.ifCond .ne 35, 3) := by decide +kernel
theorem dn_d_Line_isIn_22 : decode dn_c_Line_isIn 22 = .ok (.aload_n 1, 1) := by decide +kernel
theorem dn_d_Line_isIn_23 : decode dn_c_Line_isIn 23 = .ok (.iconst 1, 1) := by decide +kernel
theorem dn_d_Line_isIn_24 : decode dn_c_Line_isIn 24 = .ok (.invokevirtual 64, 3) := by decide +kernel
theorem dn_d_Line_isIn_27 : decode dn_c_Line_isIn 27 = .ok (.aload_n 0, 1) := by decide +kernel
theorem dn_d_Line_isIn_28 : decode dn_c_Line_isIn 28 = .ok (.iconst 1, 1) := by decide +kernel
theorem dn_d_Line_isIn_29 : decode dn_c_Line_isIn 29 = .ok (.invokevirtual 48, 3) := by decide +kernel
theorem dn_d_Line_isIn_32 : decode dn_c_Line_isIn 32 = .ok (.lcmp, 1) := by decide +kernel
theorem dn_d_Line_isIn_33 : decode dn_c_Line_isIn 33 = .ok (.ifCond .ne 21, 3) := by decide +kernel
theorem dn_d_Line_isIn_36 : decode dn_c_Line_isIn 36 = .ok (.aload_n 1, 1) := by decide +kernel
theorem dn_d_Line_isIn_37 : decode dn_c_Line_isIn 37 = .ok (.iconst 2, 1) := by decide +kernel
theorem dn_d_Line_isIn_38 : decode dn_c_Line_isIn 38 = .ok (.invokevirtual 64, 3) := by decide +kernel
theorem dn_d_Line_isIn_41 : decode dn_c_Line_isIn 41 = .ok (.aload_n 0, 1) := by decide +kernel
theorem dn_d_Line_isIn_42 : decode dn_c_Line_isIn 42 = .ok (.iconst 2, 1) := by decide +kernel
theorem dn_d_Line_isIn_43 : decode dn_c_Line_isIn 43 = .ok (.invokevirtual 48, 3) := by decide +kernel
theorem dn_d_Line_isIn_46 : decode dn_c_Line_isIn 46 = .ok (.lcmp, 1) := by decide +kernel
theorem dn_d_Line_isIn_47 : decode dn_c_Line_isIn 47 = .ok (.ifCond .ne 7, 3) := by decide +kernel
theorem dn_d_Line_isIn_50 : decode dn_c_Line_isIn 50 = .ok (.iconst 1, 1) := by decide +kernel
theorem dn_d_Line_isIn_51 : decode dn_c_Line_isIn 51 = .ok (.goto 4, 3) := by decide +kernel
theorem dn_d_Line_isIn_54 : decode dn_c_Line_isIn 54 = .ok (.iconst 0, 1) := by decide +kernel
theorem dn_d_Line_isIn_55 : decode dn_c_Line_isIn 55 = .ok (.ireturn, 1) := by decide +kernel
theorem dn_d_Row_init_0 : decode dn_c_Row_init 0 = .ok (.aload_n 0, 1) := by decide +kernel
theorem dn_d_Row_init_1 : decode dn_c_Row_init 1 = .ok (.invokespecial 1, 3) := by decide +kernel
theorem dn_d_Row_init_4 : decode dn_c_Row_init 4 = .ok (.aload_n 0, 1) := by decide +kernel
theorem dn_d_Row_init_5 : decode dn_c_Row_init 5 = .ok (.iload_n 1, 1) := by decide +kernel
theorem dn_d_Row_init_6 : decode dn_c_Row_init 6 = .ok (.newarray .long, 2) := by decide +kernel
theorem dn_d_Row_init_8 : decode dn_c_Row_init 8 = .ok (.putfield 7, 3) := by decide +kernel
theorem dn_d_Row_init_11 : decode dn_c_Row_init 11 = .ok (.return_, 1) := by decide +kernel
theorem dn_d_Row_size_0 : decode dn_c_Row_size 0 = .ok (.aload_n 0, 1) := by decide +kernel
theorem dn_d_Row_size_1 : decode dn_c_Row_size 1 = .ok (.getfield 13, 3) := by decide +kernel
theorem dn_d_Row_size_4 : decode dn_c_Row_size 4 = .ok (.ireturn, 1) := by decide +kernel
theorem dn_d_Row_isFull_0 : decode dn_c_Row_isFull 0 = .ok (.aload_n 0, 1) := by decide +kernel
theorem dn_d_Row_isFull_1 : decode dn_c_Row_isFull 1 = .ok (.getfield 13, 3) := by decide +kernel
theorem dn_d_Row_isFull_4 : decode dn_c_Row_isFull 4 = .ok (.aload_n 0, 1) := by decide +kernel
theorem dn_d_Row_isFull_5 : decode dn_c_Row_isFull 5 = .ok (.getfield 7, 3) := by decide +kernel
theorem dn_d_Row_isFull_8 : decode dn_c_Row_isFull 8 = .ok (.arraylength, 1) := by decide +kernel
theorem dn_d_Row_isFull_9 : decode dn_c_Row_isFull 9 = .ok (.if_icmp .lt 7, 3) := by decide +kernel
theorem dn_d_Row_isFull_12 : decode dn_c_Row_isFull 12 = .ok (.iconst 1, 1) := by decide +kernel
theorem dn_d_Row_isFull_13 : decode dn_c_Row_isFull 13 = .ok (.goto 4, 3) := by decide +kernel
theorem dn_d_Row_isFull_16 : decode dn_c_Row_isFull 16 = .ok (.iconst 0, 1) := by decide +kernel
theorem dn_d_Row_isFull_17 : decode dn_c_Row_isFull 17 = .ok (.ireturn, 1) := by decide +kernel
theorem dn_d_Row_has_0 : decode dn_c_Row_has 0 = .ok (.iload_n 1, 1) := by decide +kernel
theorem dn_d_Row_has_1 : decode dn_c_Row_has 1 = .ok (.ifCond .lt 15, 3) := by decide +kernel
theorem dn_d_Row_has_4 : decode dn_c_Row_has 4 = .ok (.iload_n 1, 1) := by decide +kernel
theorem dn_d_Row_has_5 : decode dn_c_Row_has 5 = .ok (.aload_n 0, 1) := by decide +kernel
theorem dn_d_Row_has_6 : decode dn_c_Row_has 6 = .ok (.getfield 13, 3) := by decide +kernel
theorem dn_d_Row_has_9 : decode dn_c_Row_has 9 = .ok (.if_icmp .ge 7, 3) := by decide +kernel
theorem dn_d_Row_has_12 : decode dn_c_Row_has 12 = .ok (.iconst 1, 1) := by decide +kernel
theorem dn_d_Row_has_13 : decode dn_c_Row_has 13 = .ok (.goto 4, 3) := by decide +kernel
theorem dn_d_Row_has_16 : decode dn_c_Row_has 16 = .ok (.iconst 0, 1) := by decide +kernel
theorem dn_d_Row_has_17 : decode dn_c_Row_has 17 = .ok (.ireturn, 1) := by decide +kernel
theorem dn_d_Row_get_0 : decode dn_c_Row_get 0 = .ok (.aload_n 0, 1) := by decide +kernel
theorem dn_d_Row_get_1 : decode dn_c_Row_get 1 = .ok (.iload_n 1, 1) := by decide +kernel
theorem dn_d_Row_get_2 : decode dn_c_Row_get 2 = .ok (.invokevirtual 17, 3) := by decide +kernel
theorem dn_d_Row_get_5 : decode dn_c_Row_get 5 = .ok (.ifCond .eq 12, 3) := by decide +kernel
theorem dn_d_Row_get_8 : decode dn_c_Row_get 8 = .ok (.aload_n 0, 1) := by decide +kernel
theorem dn_d_Row_get_9 : decode dn_c_Row_get 9 = .ok (.getfield 7, 3) := by decide +kernel
theorem dn_d_Row_get_12 : decode dn_c_Row_get 12 = .ok (.iload_n 1, 1) := by decide +kernel
theorem dn_d_Row_get_13 : decode dn_c_Row_get 13 = .ok (.laload, 1) := by decide +kernel
theorem dn_d_Row_get_14 : decode dn_c_Row_get 14 = .ok (.goto 4, 3) := by decide +kernel
theorem dn_d_Row_get_17 : decode dn_c_Row_get 17 = .ok (.lconst 0, 1) := by decide +kernel
theorem dn_d_Row_get_18 : decode dn_c_Row_get 18 = .ok (.lreturn, 1) := by decide +kernel
theorem dn_d_Row_last_0 : decode dn_c_Row_last 0 = .ok (.aload_n 0, 1) := by decide +kernel
theorem dn_d_Row_last_1 : decode dn_c_Row_last 1 = .ok (.aload_n 0, 1) := by decide +kernel
theorem dn_d_Row_last_2 : decode dn_c_Row_last 2 = .ok (.getfield 13, 3) := by decide +kernel
theorem dn_d_Row_last_5 : decode dn_c_Row_last 5 = .ok (.iconst 1, 1) := by decide +kernel
theorem dn_d_Row_last_6 : decode dn_c_Row_last 6 = .ok (.isub, 1) := by decide +kernel
theorem dn_d_Row_last_7 : decode dn_c_Row_last 7 = .ok (.invokevirtual 21, 3) := by decide +kernel
theorem dn_d_Row_last_10 : decode dn_c_Row_last 10 = .ok (.lreturn, 1) := by decide +kernel
theorem dn_d_Row_clear_0 : decode dn_c_Row_clear 0 = .ok (.aload_n 0, 1) := by decide +kernel
theorem dn_d_Row_clear_1 : decode dn_c_Row_clear 1 = .ok (.iconst 0, 1) := by decide +kernel
theorem dn_d_Row_clear_2 : decode dn_c_Row_clear 2 = .ok (.putfield 13, 3) := by decide +kernel
theorem dn_d_Row_clear_5 : decode dn_c_Row_clear 5 = .ok (.return_, 1) := by decide +kernel
theorem dn_d_Row_add_0 : decode dn_c_Row_add 0 = .ok (.aload_n 0, 1) := by decide +kernel
theorem dn_d_Row_add_1 : decode dn_c_Row_add 1 = .ok (.invokevirtual 25, 3) := by decide +kernel
theorem dn_d_Row_add_4 : decode dn_c_Row_add 4 = .ok (.ifCond .ne 23, 3) := by decide +kernel
theorem dn_d_Row_add_7 : decode dn_c_Row_add 7 = .ok (.aload_n 0, 1) := by decide +kernel
theorem dn_d_Row_add_8 : decode dn_c_Row_add 8 = .ok (.getfield 7, 3) := by decide +kernel
theorem dn_d_Row_add_11 : decode dn_c_Row_add 11 = .ok (.aload_n 0, 1) := by decide +kernel
theorem dn_d_Row_add_12 : decode dn_c_Row_add 12 = .ok (.getfield 13, 3) := by decide +kernel
theorem dn_d_Row_add_15 : decode dn_c_Row_add 15 = .ok (.lload_n 1, 1) := by decide +kernel
theorem dn_d_Row_add_16 : decode dn_c_Row_add 16 = .ok (.lastore, 1) := by decide +kernel
theorem dn_d_Row_add_17 : decode dn_c_Row_add 17 = .ok (.aload_n 0, 1) := by decide +kernel
theorem dn_d_Row_add_18 : decode dn_c_Row_add 18 = .ok (.dup, 1) := by decide +kernel
theorem dn_d_Row_add_19 : decode dn_c_Row_add 19 = .ok (.getfield 13, 3) := by decide +kernel
theorem dn_d_Row_add_22 : decode dn_c_Row_add 22 = .ok (.iconst 1, 1) := by decide +kernel
theorem dn_d_Row_add_23 : decode dn_c_Row_add 23 = .ok (.iadd, 1) := by decide +kernel
theorem dn_d_Row_add_24 : decode dn_c_Row_add 24 = .ok (.putfield 13, 3) := by decide +kernel
theorem dn_d_Row_add_27 : decode dn_c_Row_add 27 = .ok (.return_, 1) := by decide +kernel
theorem dn_d_Row_put_0 : decode dn_c_Row_put 0 = .ok (.aload_n 0, 1) := by decide +kernel
theorem dn_d_Row_put_1 : decode dn_c_Row_put 1 = .ok (.iload_n 1, 1) := by decide +kernel
theorem dn_d_Row_put_2 : decode dn_c_Row_put 2 = .ok (.invokevirtual 17, 3) := by decide +kernel
theorem dn_d_Row_put_5 : decode dn_c_Row_put 5 = .ok (.ifCond .eq 10, 3) := by decide +kernel
theorem dn_d_Row_put_8 : decode dn_c_Row_put 8 = .ok (.aload_n 0, 1) := by decide +kernel
theorem dn_d_Row_put_9 : decode dn_c_Row_put 9 = .ok (.getfield 7, 3) := by decide +kernel
theorem dn_d_Row_put_12 : decode dn_c_Row_put 12 = .ok (.iload_n 1, 1) := by decide +kernel
theorem dn_d_Row_put_13 : decode dn_c_Row_put 13 = .ok (.lload_n 2, 1) := by decide +kernel
theorem dn_d_Row_put_14 : decode dn_c_Row_put 14 = .ok (.lastore, 1) := by decide +kernel
theorem dn_d_Row_put_15 : decode dn_c_Row_put 15 = .ok (.return_, 1) := by decide +kernel
theorem dn_d_Session_init_0 : decode dn_c_Session_init 0 = .ok (.aload_n 0, 1) := by decide +kernel
theorem dn_d_Session_init_1 : decode dn_c_Session_init 1 = .ok (.invokespecial 3, 3) := by decide +kernel
theorem dn_d_Session_init_4 : decode dn_c_Session_init 4 = .ok (.return_, 1) := by decide +kernel
theorem dn_d_Session_begin_0 : decode dn_c_Session_begin 0 = .ok (.aload_n 0, 1) := by decide +kernel
theorem dn_d_Session_begin_1 : decode dn_c_Session_begin 1 = .ok (.iconst 1, 1) := by decide +kernel
theorem dn_d_Session_begin_2 : decode dn_c_Session_begin 2 = .ok (.putfield 9, 3) := by decide +kernel
theorem dn_d_Session_begin_5 : decode dn_c_Session_begin 5 = .ok (.aload_n 0, 1) := by decide +kernel
theorem dn_d_Session_begin_6 : decode dn_c_Session_begin 6 = .ok (.lload_n 1, 1) := by decide +kernel
theorem dn_d_Session_begin_7 : decode dn_c_Session_begin 7 = .ok (.lconst 1, 1) := by decide +kernel
theorem dn_d_Session_begin_8 : decode dn_c_Session_begin 8 = .ok (.invokestatic 15, 3) := by decide +kernel
theorem dn_d_Session_begin_11 : decode dn_c_Session_begin 11 = .ok (.putfield 21, 3) := by decide +kernel
theorem dn_d_Session_begin_14 : decode dn_c_Session_begin 14 = .ok (.aload_n 0, 1) := by decide +kernel
theorem dn_d_Session_begin_15 : decode dn_c_Session_begin 15 = .ok (.lload_n 1, 1) := by decide +kernel
theorem dn_d_Session_begin_16 : decode dn_c_Session_begin 16 = .ok (.ldc2_w 25, 3) := by decide +kernel
theorem dn_d_Session_begin_19 : decode dn_c_Session_begin 19 = .ok (.invokestatic 15, 3) := by decide +kernel
theorem dn_d_Session_begin_22 : decode dn_c_Session_begin 22 = .ok (.putfield 27, 3) := by decide +kernel
theorem dn_d_Session_begin_25 : decode dn_c_Session_begin 25 = .ok (.aload_n 0, 1) := by decide +kernel
theorem dn_d_Session_begin_26 : decode dn_c_Session_begin 26 = .ok (.lload_n 3, 1) := by decide +kernel
theorem dn_d_Session_begin_27 : decode dn_c_Session_begin 27 = .ok (.lload 5, 2) := by decide +kernel
theorem dn_d_Session_begin_29 : decode dn_c_Session_begin 29 = .ok (.invokestatic 30, 3) := by decide +kernel
theorem dn_d_Session_begin_32 : decode dn_c_Session_begin 32 = .ok (.putfield 33, 3) := by decide +kernel
theorem dn_d_Session_begin_35 : decode dn_c_Session_begin 35 = .ok (.return_, 1) := by decide +kernel
theorem dn_d_Session_close_0 : decode dn_c_Session_close 0 = .ok (.aload_n 0, 1) := by decide +kernel
theorem dn_d_Session_close_1 : decode dn_c_Session_close 1 = .ok (.iconst 0, 1) := by decide +kernel
theorem dn_d_Session_close_2 : decode dn_c_Session_close 2 = .ok (.putfield 9, 3) := by decide +kernel
theorem dn_d_Session_close_5 : decode dn_c_Session_close 5 = .ok (.return_, 1) := by decide +kernel
theorem dn_d_Session_step_0 : decode dn_c_Session_step 0 = .ok (.aload_n 0, 1) := by decide +kernel
theorem dn_d_Session_step_1 : decode dn_c_Session_step 1 = .ok (.dup, 1) := by decide +kernel
theorem dn_d_Session_step_2 : decode dn_c_Session_step 2 = .ok (.getfield 33, 3) := by decide +kernel
theorem dn_d_Session_step_5 : decode dn_c_Session_step 5 = .ok (.lconst 1, 1) := by decide +kernel
theorem dn_d_Session_step_6 : decode dn_c_Session_step 6 = .ok (.ladd, 1) := by decide +kernel
theorem dn_d_Session_step_7 : decode dn_c_Session_step 7 = .ok (.putfield 33, 3) := by decide +kernel
theorem dn_d_Session_step_10 : decode dn_c_Session_step 10 = .ok (.return_, 1) := by decide +kernel
theorem dn_d_Session_nextSeal_0 : decode dn_c_Session_nextSeal 0 = .ok (.aload_n 0, 1) := by decide +kernel
theorem dn_d_Session_nextSeal_1 : decode dn_c_Session_nextSeal 1 = .ok (.getfield 27, 3) := by decide +kernel
theorem dn_d_Session_nextSeal_4 : decode dn_c_Session_nextSeal 4 = .ok (.aload_n 0, 1) := by decide +kernel
theorem dn_d_Session_nextSeal_5 : decode dn_c_Session_nextSeal 5 = .ok (.getfield 33, 3) := by decide +kernel
theorem dn_d_Session_nextSeal_8 : decode dn_c_Session_nextSeal 8 = .ok (.lconst 1, 1) := by decide +kernel
theorem dn_d_Session_nextSeal_9 : decode dn_c_Session_nextSeal 9 = .ok (.ladd, 1) := by decide +kernel
theorem dn_d_Session_nextSeal_10 : decode dn_c_Session_nextSeal 10 = .ok (.lload_n 1, 1) := by decide +kernel
theorem dn_d_Session_nextSeal_11 : decode dn_c_Session_nextSeal 11 = .ok (.lload_n 3, 1) := by decide +kernel
theorem dn_d_Session_nextSeal_12 : decode dn_c_Session_nextSeal 12 = .ok (.invokestatic 36, 3) := by decide +kernel
theorem dn_d_Session_nextSeal_15 : decode dn_c_Session_nextSeal 15 = .ok (.lreturn, 1) := by decide +kernel
theorem dn_d_Session_nextData_0 : decode dn_c_Session_nextData 0 = .ok (.aload_n 0, 1) := by decide +kernel
theorem dn_d_Session_nextData_1 : decode dn_c_Session_nextData 1 = .ok (.getfield 21, 3) := by decide +kernel
theorem dn_d_Session_nextData_4 : decode dn_c_Session_nextData 4 = .ok (.lload_n 1, 1) := by decide +kernel
theorem dn_d_Session_nextData_5 : decode dn_c_Session_nextData 5 = .ok (.invokestatic 40, 3) := by decide +kernel
theorem dn_d_Session_nextData_8 : decode dn_c_Session_nextData 8 = .ok (.aload_n 0, 1) := by decide +kernel
theorem dn_d_Session_nextData_9 : decode dn_c_Session_nextData 9 = .ok (.getfield 33, 3) := by decide +kernel
theorem dn_d_Session_nextData_12 : decode dn_c_Session_nextData 12 = .ok (.lconst 1, 1) := by decide +kernel
theorem dn_d_Session_nextData_13 : decode dn_c_Session_nextData 13 = .ok (.ladd, 1) := by decide +kernel
theorem dn_d_Session_nextData_14 : decode dn_c_Session_nextData 14 = .ok (.lxor, 1) := by decide +kernel
theorem dn_d_Session_nextData_15 : decode dn_c_Session_nextData 15 = .ok (.lreturn, 1) := by decide +kernel
theorem dn_d_Session_find_0 : decode dn_c_Session_find 0 = .ok (.aload_n 0, 1) := by decide +kernel
theorem dn_d_Session_find_1 : decode dn_c_Session_find 1 = .ok (.getfield 21, 3) := by decide +kernel
theorem dn_d_Session_find_4 : decode dn_c_Session_find 4 = .ok (.lload_n 1, 1) := by decide +kernel
theorem dn_d_Session_find_5 : decode dn_c_Session_find 5 = .ok (.aload_n 0, 1) := by decide +kernel
theorem dn_d_Session_find_6 : decode dn_c_Session_find 6 = .ok (.getfield 33, 3) := by decide +kernel
theorem dn_d_Session_find_9 : decode dn_c_Session_find 9 = .ok (.lxor, 1) := by decide +kernel
theorem dn_d_Session_find_10 : decode dn_c_Session_find 10 = .ok (.invokestatic 43, 3) := by decide +kernel
theorem dn_d_Session_find_13 : decode dn_c_Session_find 13 = .ok (.lreturn, 1) := by decide +kernel
theorem dn_d_Session_wrap_0 : decode dn_c_Session_wrap 0 = .ok (.aload_n 0, 1) := by decide +kernel
theorem dn_d_Session_wrap_1 : decode dn_c_Session_wrap 1 = .ok (.invokevirtual 46, 3) := by decide +kernel
theorem dn_d_Session_wrap_4 : decode dn_c_Session_wrap 4 = .ok (.iconst 0, 1) := by decide +kernel
theorem dn_d_Session_wrap_5 : decode dn_c_Session_wrap 5 = .ok (.istore_n 2, 1) := by decide +kernel
theorem dn_d_Session_wrap_6 : decode dn_c_Session_wrap 6 = .ok (.iload_n 2, 1) := by decide +kernel
theorem dn_d_Session_wrap_7 : decode dn_c_Session_wrap 7 = .ok (.aload_n 1, 1) := by decide +kernel
theorem dn_d_Session_wrap_8 : decode dn_c_Session_wrap 8 = .ok (.invokevirtual 49, 3) := by decide +kernel
theorem dn_d_Session_wrap_11 : decode dn_c_Session_wrap 11 = .ok (.if_icmp .ge 31, 3) := by decide +kernel
theorem dn_d_Session_wrap_14 : decode dn_c_Session_wrap 14 = .ok (.aload_n 1, 1) := by decide +kernel
theorem dn_d_Session_wrap_15 : decode dn_c_Session_wrap 15 = .ok (.iload_n 2, 1) := by decide +kernel
theorem dn_d_Session_wrap_16 : decode dn_c_Session_wrap 16 = .ok (.aload_n 0, 1) := by decide +kernel
theorem dn_d_Session_wrap_17 : decode dn_c_Session_wrap 17 = .ok (.getfield 21, 3) := by decide +kernel
theorem dn_d_Session_wrap_20 : decode dn_c_Session_wrap 20 = .ok (.aload_n 1, 1) := by decide +kernel
theorem dn_d_Session_wrap_21 : decode dn_c_Session_wrap 21 = .ok (.iload_n 2, 1) := by decide +kernel
theorem dn_d_Session_wrap_22 : decode dn_c_Session_wrap 22 = .ok (.invokevirtual 55, 3) := by decide +kernel
theorem dn_d_Session_wrap_25 : decode dn_c_Session_wrap 25 = .ok (.aload_n 0, 1) := by decide +kernel
theorem dn_d_Session_wrap_26 : decode dn_c_Session_wrap 26 = .ok (.getfield 33, 3) := by decide +kernel
theorem dn_d_Session_wrap_29 : decode dn_c_Session_wrap 29 = .ok (.lxor, 1) := by decide +kernel
theorem dn_d_Session_wrap_30 : decode dn_c_Session_wrap 30 = .ok (.invokestatic 40, 3) := by decide +kernel
theorem dn_d_Session_wrap_33 : decode dn_c_Session_wrap 33 = .ok (.invokevirtual 59, 3) := by decide +kernel
theorem dn_d_Session_wrap_36 : decode dn_c_Session_wrap 36 = .ok (.iinc 2 1, 3) := by decide +kernel
theorem dn_d_Session_wrap_39 : decode dn_c_Session_wrap 39 = .ok (.goto (-33), 3) := by decide +kernel
theorem dn_d_Session_wrap_42 : decode dn_c_Session_wrap 42 = .ok (.aload_n 1, 1) := by decide +kernel
theorem dn_d_Session_wrap_43 : decode dn_c_Session_wrap 43 = .ok (.ldc2_w 63, 3) := by decide +kernel
theorem dn_d_Session_wrap_46 : decode dn_c_Session_wrap 46 = .ok (.invokevirtual 65, 3) := by decide +kernel
theorem dn_d_Session_wrap_49 : decode dn_c_Session_wrap 49 = .ok (.aload_n 1, 1) := by decide +kernel
theorem dn_d_Session_wrap_50 : decode dn_c_Session_wrap 50 = .ok (.aload_n 0, 1) := by decide +kernel
theorem dn_d_Session_wrap_51 : decode dn_c_Session_wrap 51 = .ok (.aload_n 1, 1) := by decide +kernel
theorem dn_d_Session_wrap_52 : decode dn_c_Session_wrap 52 = .ok (.aload_n 1, 1) := by decide +kernel
theorem dn_d_Session_wrap_53 : decode dn_c_Session_wrap 53 = .ok (.invokevirtual 49, 3) := by decide +kernel
theorem dn_d_Session_wrap_56 : decode dn_c_Session_wrap 56 = .ok (.invokevirtual 69, 3) := by decide +kernel
theorem dn_d_Session_wrap_59 : decode dn_c_Session_wrap 59 = .ok (.invokevirtual 65, 3) := by decide +kernel
theorem dn_d_Session_wrap_62 : decode dn_c_Session_wrap 62 = .ok (.return_, 1) := by decide +kernel
theorem dn_d_Session_unwrap_0 : decode dn_c_Session_unwrap 0 = .ok (.aload_n 0, 1) := by decide +kernel
theorem dn_d_Session_unwrap_1 : decode dn_c_Session_unwrap 1 = .ok (.invokevirtual 46, 3) := by decide +kernel
theorem dn_d_Session_unwrap_4 : decode dn_c_Session_unwrap 4 = .ok (.iload_n 2, 1) := by decide +kernel
theorem dn_d_Session_unwrap_5 : decode dn_c_Session_unwrap 5 = .ok (.iconst 1, 1) := by decide +kernel
theorem dn_d_Session_unwrap_6 : decode dn_c_Session_unwrap 6 = .ok (.iadd, 1) := by decide +kernel
theorem dn_d_Session_unwrap_7 : decode dn_c_Session_unwrap 7 = .ok (.istore 4, 2) := by decide +kernel
theorem dn_d_Session_unwrap_9 : decode dn_c_Session_unwrap 9 = .ok (.aload_n 1, 1) := by decide +kernel
theorem dn_d_Session_unwrap_10 : decode dn_c_Session_unwrap 10 = .ok (.invokevirtual 49, 3) := by decide +kernel
theorem dn_d_Session_unwrap_13 : decode dn_c_Session_unwrap 13 = .ok (.iload_n 2, 1) := by decide +kernel
theorem dn_d_Session_unwrap_14 : decode dn_c_Session_unwrap 14 = .ok (.iconst 2, 1) := by decide +kernel
theorem dn_d_Session_unwrap_15 : decode dn_c_Session_unwrap 15 = .ok (.iadd, 1) := by decide +kernel
theorem dn_d_Session_unwrap_16 : decode dn_c_Session_unwrap 16 = .ok (.if_icmp .ne 32, 3) := by decide +kernel
theorem dn_d_Session_unwrap_19 : decode dn_c_Session_unwrap 19 = .ok (.aload_n 1, 1) := by decide +kernel
theorem dn_d_Session_unwrap_20 : decode dn_c_Session_unwrap 20 = .ok (.iload_n 2, 1) := by decide +kernel
theorem dn_d_Session_unwrap_21 : decode dn_c_Session_unwrap 21 = .ok (.invokevirtual 55, 3) := by decide +kernel
theorem dn_d_Session_unwrap_24 : decode dn_c_Session_unwrap 24 = .ok (.ldc2_w 63, 3) := by decide +kernel
theorem dn_d_Session_unwrap_27 : decode dn_c_Session_unwrap 27 = .ok (.lcmp, 1) := by decide +kernel
theorem dn_d_Session_unwrap_28 : decode dn_c_Session_unwrap 28 = .ok (.ifCond .ne 20, 3) := by decide +kernel
theorem dn_d_Session_unwrap_31 : decode dn_c_Session_unwrap 31 = .ok (.aload_n 1, 1) := by decide +kernel
theorem dn_d_Session_unwrap_32 : decode dn_c_Session_unwrap 32 = .ok (.iload 4, 2) := by decide +kernel
theorem dn_d_Session_unwrap_34 : decode dn_c_Session_unwrap 34 = .ok (.invokevirtual 55, 3) := by decide +kernel
theorem dn_d_Session_unwrap_37 : decode dn_c_Session_unwrap 37 = .ok (.aload_n 0, 1) := by decide +kernel
theorem dn_d_Session_unwrap_38 : decode dn_c_Session_unwrap 38 = .ok (.aload_n 1, 1) := by decide +kernel
theorem dn_d_Session_unwrap_39 : decode dn_c_Session_unwrap 39 = .ok (.iload 4, 2) := by decide +kernel
theorem dn_d_Session_unwrap_41 : decode dn_c_Session_unwrap 41 = .ok (.invokevirtual 69, 3) := by decide +kernel
theorem dn_d_Session_unwrap_44 : decode dn_c_Session_unwrap 44 = .ok (.lcmp, 1) := by decide +kernel
theorem dn_d_Session_unwrap_45 : decode dn_c_Session_unwrap 45 = .ok (.ifCond .eq 5, 3) := by decide +kernel
theorem dn_d_Session_unwrap_48 : decode dn_c_Session_unwrap 48 = .ok (.iconst 0, 1) := by decide +kernel
theorem dn_d_Session_unwrap_49 : decode dn_c_Session_unwrap 49 = .ok (.ireturn, 1) := by decide +kernel
theorem dn_d_Session_unwrap_50 : decode dn_c_Session_unwrap 50 = .ok (.iconst 0, 1) := by decide +kernel
theorem dn_d_Session_unwrap_51 : decode dn_c_Session_unwrap 51 = .ok (.istore 5, 2) := by decide +kernel
theorem dn_d_Session_unwrap_53 : decode dn_c_Session_unwrap 53 = .ok (.iload 5, 2) := by decide +kernel
theorem dn_d_Session_unwrap_55 : decode dn_c_Session_unwrap 55 = .ok (.iload_n 2, 1) := by decide +kernel
theorem dn_d_Session_unwrap_56 : decode dn_c_Session_unwrap 56 = .ok (.if_icmp .ge 31, 3) := by decide +kernel
theorem dn_d_Session_unwrap_59 : decode dn_c_Session_unwrap 59 = .ok (.aload_n 3, 1) := by decide +kernel
theorem dn_d_Session_unwrap_60 : decode dn_c_Session_unwrap 60 = .ok (.aload_n 0, 1) := by decide +kernel
theorem dn_d_Session_unwrap_61 : decode dn_c_Session_unwrap 61 = .ok (.getfield 21, 3) := by decide +kernel
theorem dn_d_Session_unwrap_64 : decode dn_c_Session_unwrap 64 = .ok (.aload_n 1, 1) := by decide +kernel
theorem dn_d_Session_unwrap_65 : decode dn_c_Session_unwrap 65 = .ok (.iload 5, 2) := by decide +kernel
theorem dn_d_Session_unwrap_67 : decode dn_c_Session_unwrap 67 = .ok (.invokevirtual 55, 3) := by decide +kernel
theorem dn_d_Session_unwrap_70 : decode dn_c_Session_unwrap 70 = .ok (.invokestatic 43, 3) := by decide +kernel
theorem dn_d_Session_unwrap_73 : decode dn_c_Session_unwrap 73 = .ok (.aload_n 0, 1) := by decide +kernel
theorem dn_d_Session_unwrap_74 : decode dn_c_Session_unwrap 74 = .ok (.getfield 33, 3) := by decide +kernel
theorem dn_d_Session_unwrap_77 : decode dn_c_Session_unwrap 77 = .ok (.lxor, 1) := by decide +kernel
theorem dn_d_Session_unwrap_78 : decode dn_c_Session_unwrap 78 = .ok (.invokevirtual 65, 3) := by decide +kernel
theorem dn_d_Session_unwrap_81 : decode dn_c_Session_unwrap 81 = .ok (.iinc 5 1, 3) := by decide +kernel
theorem dn_d_Session_unwrap_84 : decode dn_c_Session_unwrap 84 = .ok (.goto (-31), 3) := by decide +kernel
theorem dn_d_Session_unwrap_87 : decode dn_c_Session_unwrap 87 = .ok (.iconst 1, 1) := by decide +kernel
theorem dn_d_Session_unwrap_88 : decode dn_c_Session_unwrap 88 = .ok (.ireturn, 1) := by decide +kernel
theorem dn_d_Session_sealOf_0 : decode dn_c_Session_sealOf 0 = .ok (.aload_n 0, 1) := by decide +kernel
theorem dn_d_Session_sealOf_1 : decode dn_c_Session_sealOf 1 = .ok (.getfield 27, 3) := by decide +kernel
theorem dn_d_Session_sealOf_4 : decode dn_c_Session_sealOf 4 = .ok (.aload_n 0, 1) := by decide +kernel
theorem dn_d_Session_sealOf_5 : decode dn_c_Session_sealOf 5 = .ok (.getfield 33, 3) := by decide +kernel
theorem dn_d_Session_sealOf_8 : decode dn_c_Session_sealOf 8 = .ok (.invokestatic 40, 3) := by decide +kernel
theorem dn_d_Session_sealOf_11 : decode dn_c_Session_sealOf 11 = .ok (.lstore_n 3, 1) := by decide +kernel
theorem dn_d_Session_sealOf_12 : decode dn_c_Session_sealOf 12 = .ok (.iconst 0, 1) := by decide +kernel
theorem dn_d_Session_sealOf_13 : decode dn_c_Session_sealOf 13 = .ok (.istore 5, 2) := by decide +kernel
theorem dn_d_Session_sealOf_15 : decode dn_c_Session_sealOf 15 = .ok (.iload 5, 2) := by decide +kernel
theorem dn_d_Session_sealOf_17 : decode dn_c_Session_sealOf 17 = .ok (.iload_n 2, 1) := by decide +kernel
theorem dn_d_Session_sealOf_18 : decode dn_c_Session_sealOf 18 = .ok (.if_icmp .ge 25, 3) := by decide +kernel
theorem dn_d_Session_sealOf_21 : decode dn_c_Session_sealOf 21 = .ok (.aload_n 0, 1) := by decide +kernel
theorem dn_d_Session_sealOf_22 : decode dn_c_Session_sealOf 22 = .ok (.getfield 27, 3) := by decide +kernel
theorem dn_d_Session_sealOf_25 : decode dn_c_Session_sealOf 25 = .ok (.lload_n 3, 1) := by decide +kernel
theorem dn_d_Session_sealOf_26 : decode dn_c_Session_sealOf 26 = .ok (.aload_n 1, 1) := by decide +kernel
theorem dn_d_Session_sealOf_27 : decode dn_c_Session_sealOf 27 = .ok (.iload 5, 2) := by decide +kernel
theorem dn_d_Session_sealOf_29 : decode dn_c_Session_sealOf 29 = .ok (.invokevirtual 55, 3) := by decide +kernel
theorem dn_d_Session_sealOf_32 : decode dn_c_Session_sealOf 32 = .ok (.lxor, 1) := by decide +kernel
theorem dn_d_Session_sealOf_33 : decode dn_c_Session_sealOf 33 = .ok (.invokestatic 40, 3) := by decide +kernel
theorem dn_d_Session_sealOf_36 : decode dn_c_Session_sealOf 36 = .ok (.lstore_n 3, 1) := by decide +kernel
theorem dn_d_Session_sealOf_37 : decode dn_c_Session_sealOf 37 = .ok (.iinc 5 1, 3) := by decide +kernel
theorem dn_d_Session_sealOf_40 : decode dn_c_Session_sealOf 40 = .ok (.goto (-25), 3) := by decide +kernel
theorem dn_d_Session_sealOf_43 : decode dn_c_Session_sealOf 43 = .ok (.lload_n 3, 1) := by decide +kernel
theorem dn_d_Session_sealOf_44 : decode dn_c_Session_sealOf 44 = .ok (.lreturn, 1) := by decide +kernel
theorem dn_d_Signers_init_0 : decode dn_c_Signers_init 0 = .ok (.aload_n 0, 1) := by decide +kernel
theorem dn_d_Signers_init_1 : decode dn_c_Signers_init 1 = .ok (.invokespecial 1, 3) := by decide +kernel
theorem dn_d_Signers_init_4 : decode dn_c_Signers_init 4 = .ok (.aload_n 0, 1) := by decide +kernel
theorem dn_d_Signers_init_5 : decode dn_c_Signers_init 5 = .ok (.iconst 4, 1) := by decide +kernel
theorem dn_d_Signers_init_6 : decode dn_c_Signers_init 6 = .ok (.newarray .long, 2) := by decide +kernel
theorem dn_d_Signers_init_8 : decode dn_c_Signers_init 8 = .ok (.putfield 9, 3) := by decide +kernel
theorem dn_d_Signers_init_11 : decode dn_c_Signers_init 11 = .ok (.aload_n 0, 1) := by decide +kernel
theorem dn_d_Signers_init_12 : decode dn_c_Signers_init 12 = .ok (.iconst 4, 1) := by decide +kernel
theorem dn_d_Signers_init_13 : decode dn_c_Signers_init 13 = .ok (.newarray .int, 2) := by decide +kernel
theorem dn_d_Signers_init_15 : decode dn_c_Signers_init 15 = .ok (.putfield 13, 3) := by decide +kernel
theorem dn_d_Signers_init_18 : decode dn_c_Signers_init 18 = .ok (.aload_n 0, 1) := by decide +kernel
theorem dn_d_Signers_init_19 : decode dn_c_Signers_init 19 = .ok (.iconst 4, 1) := by decide +kernel
theorem dn_d_Signers_init_20 : decode dn_c_Signers_init 20 = .ok (.newarray .int, 2) := by decide +kernel
theorem dn_d_Signers_init_22 : decode dn_c_Signers_init 22 = .ok (.putfield 17, 3) := by decide +kernel
theorem dn_d_Signers_init_25 : decode dn_c_Signers_init 25 = .ok (.return_, 1) := by decide +kernel
theorem dn_d_Signers_isFull_0 : decode dn_c_Signers_isFull 0 = .ok (.aload_n 0, 1) := by decide +kernel
theorem dn_d_Signers_isFull_1 : decode dn_c_Signers_isFull 1 = .ok (.getfield 20, 3) := by decide +kernel
theorem dn_d_Signers_isFull_4 : decode dn_c_Signers_isFull 4 = .ok (.iconst 4, 1) := by decide +kernel
theorem dn_d_Signers_isFull_5 : decode dn_c_Signers_isFull 5 = .ok (.if_icmp .lt 7, 3) := by decide +kernel
theorem dn_d_Signers_isFull_8 : decode dn_c_Signers_isFull 8 = .ok (.iconst 1, 1) := by decide +kernel
theorem dn_d_Signers_isFull_9 : decode dn_c_Signers_isFull 9 = .ok (.goto 4, 3) := by decide +kernel
theorem dn_d_Signers_isFull_12 : decode dn_c_Signers_isFull 12 = .ok (.iconst 0, 1) := by decide +kernel
theorem dn_d_Signers_isFull_13 : decode dn_c_Signers_isFull 13 = .ok (.ireturn, 1) := by decide +kernel
theorem dn_d_Signers_add_0 : decode dn_c_Signers_add 0 = .ok (.aload_n 0, 1) := by decide +kernel
theorem dn_d_Signers_add_1 : decode dn_c_Signers_add 1 = .ok (.invokevirtual 24, 3) := by decide +kernel
theorem dn_d_Signers_add_4 : decode dn_c_Signers_add 4 = .ok (.ifCond .ne 44, 3) := by decide +kernel
theorem dn_d_Signers_add_7 : decode dn_c_Signers_add 7 = .ok (.aload_n 0, 1) := by decide +kernel
theorem dn_d_Signers_add_8 : decode dn_c_Signers_add 8 = .ok (.getfield 9, 3) := by decide +kernel
theorem dn_d_Signers_add_11 : decode dn_c_Signers_add 11 = .ok (.aload_n 0, 1) := by decide +kernel
theorem dn_d_Signers_add_12 : decode dn_c_Signers_add 12 = .ok (.getfield 20, 3) := by decide +kernel
theorem dn_d_Signers_add_15 : decode dn_c_Signers_add 15 = .ok (.lload_n 1, 1) := by decide +kernel
theorem dn_d_Signers_add_16 : decode dn_c_Signers_add 16 = .ok (.lastore, 1) := by decide +kernel
theorem dn_d_Signers_add_17 : decode dn_c_Signers_add 17 = .ok (.aload_n 0, 1) := by decide +kernel
theorem dn_d_Signers_add_18 : decode dn_c_Signers_add 18 = .ok (.getfield 13, 3) := by decide +kernel
theorem dn_d_Signers_add_21 : decode dn_c_Signers_add 21 = .ok (.aload_n 0, 1) := by decide +kernel
theorem dn_d_Signers_add_22 : decode dn_c_Signers_add 22 = .ok (.getfield 20, 3) := by decide +kernel
theorem dn_d_Signers_add_25 : decode dn_c_Signers_add 25 = .ok (.iload_n 3, 1) := by decide +kernel
theorem dn_d_Signers_add_26 : decode dn_c_Signers_add 26 = .ok (.iastore, 1) := by decide +kernel
theorem dn_d_Signers_add_27 : decode dn_c_Signers_add 27 = .ok (.aload_n 0, 1) := by decide +kernel
theorem dn_d_Signers_add_28 : decode dn_c_Signers_add 28 = .ok (.getfield 17, 3) := by decide +kernel
theorem dn_d_Signers_add_31 : decode dn_c_Signers_add 31 = .ok (.aload_n 0, 1) := by decide +kernel
theorem dn_d_Signers_add_32 : decode dn_c_Signers_add 32 = .ok (.getfield 20, 3) := by decide +kernel
theorem dn_d_Signers_add_35 : decode dn_c_Signers_add 35 = .ok (.iload 4, 2) := by decide +kernel
theorem dn_d_Signers_add_37 : decode dn_c_Signers_add 37 = .ok (.iastore, 1) := by decide +kernel
theorem dn_d_Signers_add_38 : decode dn_c_Signers_add 38 = .ok (.aload_n 0, 1) := by decide +kernel
theorem dn_d_Signers_add_39 : decode dn_c_Signers_add 39 = .ok (.dup, 1) := by decide +kernel
theorem dn_d_Signers_add_40 : decode dn_c_Signers_add 40 = .ok (.getfield 20, 3) := by decide +kernel
theorem dn_d_Signers_add_43 : decode dn_c_Signers_add 43 = .ok (.iconst 1, 1) := by decide +kernel
theorem dn_d_Signers_add_44 : decode dn_c_Signers_add 44 = .ok (.iadd, 1) := by decide +kernel
theorem dn_d_Signers_add_45 : decode dn_c_Signers_add 45 = .ok (.putfield 20, 3) := by decide +kernel
theorem dn_d_Signers_add_48 : decode dn_c_Signers_add 48 = .ok (.aload_n 0, 1) := by decide +kernel
theorem dn_d_Signers_add_49 : decode dn_c_Signers_add 49 = .ok (.getfield 20, 3) := by decide +kernel
theorem dn_d_Signers_add_52 : decode dn_c_Signers_add 52 = .ok (.ireturn, 1) := by decide +kernel
theorem dn_d_Signers_find_0 : decode dn_c_Signers_find 0 = .ok (.iconst 0, 1) := by decide +kernel
theorem dn_d_Signers_find_1 : decode dn_c_Signers_find 1 = .ok (.istore_n 3, 1) := by decide +kernel
theorem dn_d_Signers_find_2 : decode dn_c_Signers_find 2 = .ok (.iload_n 3, 1) := by decide +kernel
theorem dn_d_Signers_find_3 : decode dn_c_Signers_find 3 = .ok (.aload_n 0, 1) := by decide +kernel
theorem dn_d_Signers_find_4 : decode dn_c_Signers_find 4 = .ok (.getfield 20, 3) := by decide +kernel
theorem dn_d_Signers_find_7 : decode dn_c_Signers_find 7 = .ok (.if_icmp .ge 22, 3) := by decide +kernel
theorem dn_d_Signers_find_10 : decode dn_c_Signers_find 10 = .ok (.aload_n 0, 1) := by decide +kernel
theorem dn_d_Signers_find_11 : decode dn_c_Signers_find 11 = .ok (.getfield 9, 3) := by decide +kernel
theorem dn_d_Signers_find_14 : decode dn_c_Signers_find 14 = .ok (.iload_n 3, 1) := by decide +kernel
theorem dn_d_Signers_find_15 : decode dn_c_Signers_find 15 = .ok (.laload, 1) := by decide +kernel
theorem dn_d_Signers_find_16 : decode dn_c_Signers_find 16 = .ok (.lload_n 1, 1) := by decide +kernel
theorem dn_d_Signers_find_17 : decode dn_c_Signers_find 17 = .ok (.lcmp, 1) := by decide +kernel
theorem dn_d_Signers_find_18 : decode dn_c_Signers_find 18 = .ok (.ifCond .ne 5, 3) := by decide +kernel
theorem dn_d_Signers_find_21 : decode dn_c_Signers_find 21 = .ok (.iload_n 3, 1) := by decide +kernel
theorem dn_d_Signers_find_22 : decode dn_c_Signers_find 22 = .ok (.ireturn, 1) := by decide +kernel
theorem dn_d_Signers_find_23 : decode dn_c_Signers_find 23 = .ok (.iinc 3 1, 3) := by decide +kernel
theorem dn_d_Signers_find_26 : decode dn_c_Signers_find 26 = .ok (.goto (-24), 3) := by decide +kernel
theorem dn_d_Signers_find_29 : decode dn_c_Signers_find 29 = .ok (.iconst (-1), 1) := by decide +kernel
theorem dn_d_Signers_find_30 : decode dn_c_Signers_find 30 = .ok (.ireturn, 1) := by decide +kernel
theorem dn_d_Signers_hasSigned_0 : decode dn_c_Signers_hasSigned 0 = .ok (.iload_n 1, 1) := by decide +kernel
theorem dn_d_Signers_hasSigned_1 : decode dn_c_Signers_hasSigned 1 = .ok (.ifCond .lt 11, 3) := by decide +kernel
theorem dn_d_Signers_hasSigned_4 : decode dn_c_Signers_hasSigned 4 = .ok (.iload_n 1, 1) := by decide +kernel
theorem dn_d_Signers_hasSigned_5 : decode dn_c_Signers_hasSigned 5 = .ok (.aload_n 0, 1) := by decide +kernel
theorem dn_d_Signers_hasSigned_6 : decode dn_c_Signers_hasSigned 6 = .ok (.getfield 20, 3) := by decide +kernel
theorem dn_d_Signers_hasSigned_9 : decode dn_c_Signers_hasSigned 9 = .ok (.if_icmp .lt 5, 3) := by decide +kernel
theorem dn_d_Signers_hasSigned_12 : decode dn_c_Signers_hasSigned 12 = .ok (.iconst 0, 1) := by decide +kernel
theorem dn_d_Signers_hasSigned_13 : decode dn_c_Signers_hasSigned 13 = .ok (.ireturn, 1) := by decide +kernel
theorem dn_d_Signers_hasSigned_14 : decode dn_c_Signers_hasSigned 14 = .ok (.aload_n 0, 1) := by decide +kernel
theorem dn_d_Signers_hasSigned_15 : decode dn_c_Signers_hasSigned 15 = .ok (.getfield 13, 3) := by decide +kernel
theorem dn_d_Signers_hasSigned_18 : decode dn_c_Signers_hasSigned 18 = .ok (.iload_n 1, 1) := by decide +kernel
theorem dn_d_Signers_hasSigned_19 : decode dn_c_Signers_hasSigned 19 = .ok (.iaload, 1) := by decide +kernel
theorem dn_d_Signers_hasSigned_20 : decode dn_c_Signers_hasSigned 20 = .ok (.istore 6, 2) := by decide +kernel
theorem dn_d_Signers_hasSigned_22 : decode dn_c_Signers_hasSigned 22 = .ok (.iload 6, 2) := by decide +kernel
theorem dn_d_Signers_hasSigned_24 : decode dn_c_Signers_hasSigned 24 = .ok (.iconst 2, 1) := by decide +kernel
theorem dn_d_Signers_hasSigned_25 : decode dn_c_Signers_hasSigned 25 = .ok (.if_icmp .lt 19, 3) := by decide +kernel
theorem dn_d_Signers_hasSigned_28 : decode dn_c_Signers_hasSigned 28 = .ok (.lload 4, 2) := by decide +kernel
theorem dn_d_Signers_hasSigned_30 : decode dn_c_Signers_hasSigned 30 = .ok (.lconst 0, 1) := by decide +kernel
theorem dn_d_Signers_hasSigned_31 : decode dn_c_Signers_hasSigned 31 = .ok (.lcmp, 1) := by decide +kernel
theorem dn_d_Signers_hasSigned_32 : decode dn_c_Signers_hasSigned 32 = .ok (.ifCond .lt 12, 3) := by decide +kernel
theorem dn_d_Signers_hasSigned_35 : decode dn_c_Signers_hasSigned 35 = .ok (.lload 4, 2) := by decide +kernel
theorem dn_d_Signers_hasSigned_37 : decode dn_c_Signers_hasSigned 37 = .ok (.iload 6, 2) := by decide +kernel
theorem dn_d_Signers_hasSigned_39 : decode dn_c_Signers_hasSigned 39 = .ok (.i2l, 1) := by decide +kernel
theorem dn_d_Signers_hasSigned_40 : decode dn_c_Signers_hasSigned 40 = .ok (.lcmp, 1) := by decide +kernel
theorem dn_d_Signers_hasSigned_41 : decode dn_c_Signers_hasSigned 41 = .ok (.ifCond .lt 5, 3) := by decide +kernel
theorem dn_d_Signers_hasSigned_44 : decode dn_c_Signers_hasSigned 44 = .ok (.iconst 0, 1) := by decide +kernel
theorem dn_d_Signers_hasSigned_45 : decode dn_c_Signers_hasSigned 45 = .ok (.ireturn, 1) := by decide +kernel
theorem dn_d_Signers_hasSigned_46 : decode dn_c_Signers_hasSigned 46 = .ok (.lload 4, 2) := by decide +kernel
theorem dn_d_Signers_hasSigned_48 : decode dn_c_Signers_hasSigned 48 = .ok (.aload_n 0, 1) := by decide +kernel
theorem dn_d_Signers_hasSigned_49 : decode dn_c_Signers_hasSigned 49 = .ok (.getfield 17, 3) := by decide +kernel
theorem dn_d_Signers_hasSigned_52 : decode dn_c_Signers_hasSigned 52 = .ok (.iload_n 1, 1) := by decide +kernel
theorem dn_d_Signers_hasSigned_53 : decode dn_c_Signers_hasSigned 53 = .ok (.iaload, 1) := by decide +kernel
theorem dn_d_Signers_hasSigned_54 : decode dn_c_Signers_hasSigned 54 = .ok (.iload 6, 2) := by decide +kernel
theorem dn_d_Signers_hasSigned_56 : decode dn_c_Signers_hasSigned 56 = .ok (.invokestatic 28, 3) := by decide +kernel
theorem dn_d_Signers_hasSigned_59 : decode dn_c_Signers_hasSigned 59 = .ok (.lload_n 2, 1) := by decide +kernel
theorem dn_d_Signers_hasSigned_60 : decode dn_c_Signers_hasSigned 60 = .ok (.iload 6, 2) := by decide +kernel
theorem dn_d_Signers_hasSigned_62 : decode dn_c_Signers_hasSigned 62 = .ok (.i2l, 1) := by decide +kernel
theorem dn_d_Signers_hasSigned_63 : decode dn_c_Signers_hasSigned 63 = .ok (.lrem, 1) := by decide +kernel
theorem dn_d_Signers_hasSigned_64 : decode dn_c_Signers_hasSigned 64 = .ok (.lcmp, 1) := by decide +kernel
theorem dn_d_Signers_hasSigned_65 : decode dn_c_Signers_hasSigned 65 = .ok (.ifCond .ne 7, 3) := by decide +kernel
theorem dn_d_Signers_hasSigned_68 : decode dn_c_Signers_hasSigned 68 = .ok (.iconst 1, 1) := by decide +kernel
theorem dn_d_Signers_hasSigned_69 : decode dn_c_Signers_hasSigned 69 = .ok (.goto 4, 3) := by decide +kernel
theorem dn_d_Signers_hasSigned_72 : decode dn_c_Signers_hasSigned 72 = .ok (.iconst 0, 1) := by decide +kernel
theorem dn_d_Signers_hasSigned_73 : decode dn_c_Signers_hasSigned 73 = .ok (.ireturn, 1) := by decide +kernel
theorem dn_d_Signers_power_0 : decode dn_c_Signers_power 0 = .ok (.lconst 1, 1) := by decide +kernel
theorem dn_d_Signers_power_1 : decode dn_c_Signers_power 1 = .ok (.lstore 4, 2) := by decide +kernel
theorem dn_d_Signers_power_3 : decode dn_c_Signers_power 3 = .ok (.bipush 16, 2) := by decide +kernel
theorem dn_d_Signers_power_5 : decode dn_c_Signers_power 5 = .ok (.istore 6, 2) := by decide +kernel
theorem dn_d_Signers_power_7 : decode dn_c_Signers_power 7 = .ok (.iload 6, 2) := by decide +kernel
theorem dn_d_Signers_power_9 : decode dn_c_Signers_power 9 = .ok (.ifCond .lt 38, 3) := by decide +kernel
theorem dn_d_Signers_power_12 : decode dn_c_Signers_power 12 = .ok (.lload 4, 2) := by decide +kernel
theorem dn_d_Signers_power_14 : decode dn_c_Signers_power 14 = .ok (.lload 4, 2) := by decide +kernel
theorem dn_d_Signers_power_16 : decode dn_c_Signers_power 16 = .ok (.lmul, 1) := by decide +kernel
theorem dn_d_Signers_power_17 : decode dn_c_Signers_power 17 = .ok (.iload_n 3, 1) := by decide +kernel
theorem dn_d_Signers_power_18 : decode dn_c_Signers_power 18 = .ok (.i2l, 1) := by decide +kernel
theorem dn_d_Signers_power_19 : decode dn_c_Signers_power 19 = .ok (.lrem, 1) := by decide +kernel
theorem dn_d_Signers_power_20 : decode dn_c_Signers_power 20 = .ok (.lstore 4, 2) := by decide +kernel
theorem dn_d_Signers_power_22 : decode dn_c_Signers_power 22 = .ok (.iload_n 2, 1) := by decide +kernel
theorem dn_d_Signers_power_23 : decode dn_c_Signers_power 23 = .ok (.iload 6, 2) := by decide +kernel
theorem dn_d_Signers_power_25 : decode dn_c_Signers_power 25 = .ok (.ishr, 1) := by decide +kernel
theorem dn_d_Signers_power_26 : decode dn_c_Signers_power 26 = .ok (.iconst 1, 1) := by decide +kernel
theorem dn_d_Signers_power_27 : decode dn_c_Signers_power 27 = .ok (.iand, 1) := by decide +kernel
theorem dn_d_Signers_power_28 : decode dn_c_Signers_power 28 = .ok (.iconst 1, 1) := by decide +kernel
theorem dn_d_Signers_power_29 : decode dn_c_Signers_power 29 = .ok (.if_icmp .ne 12, 3) := by decide +kernel
theorem dn_d_Signers_power_32 : decode dn_c_Signers_power 32 = .ok (.lload 4, 2) := by decide +kernel
theorem dn_d_Signers_power_34 : decode dn_c_Signers_power 34 = .ok (.lload_n 0, 1) := by decide +kernel
theorem dn_d_Signers_power_35 : decode dn_c_Signers_power 35 = .ok (.lmul, 1) := by decide +kernel
theorem dn_d_Signers_power_36 : decode dn_c_Signers_power 36 = .ok (.iload_n 3, 1) := by decide +kernel
theorem dn_d_Signers_power_37 : decode dn_c_Signers_power 37 = .ok (.i2l, 1) := by decide +kernel
theorem dn_d_Signers_power_38 : decode dn_c_Signers_power 38 = .ok (.lrem, 1) := by decide +kernel
theorem dn_d_Signers_power_39 : decode dn_c_Signers_power 39 = .ok (.lstore 4, 2) := by decide +kernel
theorem dn_d_Signers_power_41 : decode dn_c_Signers_power 41 = .ok (.iinc 6 (-1), 3) := by decide +kernel
theorem dn_d_Signers_power_44 : decode dn_c_Signers_power 44 = .ok (.goto (-37), 3) := by decide +kernel
theorem dn_d_Signers_power_47 : decode dn_c_Signers_power 47 = .ok (.lload 4, 2) := by decide +kernel
theorem dn_d_Signers_power_49 : decode dn_c_Signers_power 49 = .ok (.lreturn, 1) := by decide +kernel
theorem dn_d_Way_init_0 : decode dn_c_Way_init 0 = .ok (.aload_n 0, 1) := by decide +kernel
theorem dn_d_Way_init_1 : decode dn_c_Way_init 1 = .ok (.invokespecial 1, 3) := by decide +kernel
theorem dn_d_Way_init_4 : decode dn_c_Way_init 4 = .ok (.aload_n 0, 1) := by decide +kernel
theorem dn_d_Way_init_5 : decode dn_c_Way_init 5 = .ok (.iconst 3, 1) := by decide +kernel
theorem dn_d_Way_init_6 : decode dn_c_Way_init 6 = .ok (.newarray .int, 2) := by decide +kernel
theorem dn_d_Way_init_8 : decode dn_c_Way_init 8 = .ok (.putfield 9, 3) := by decide +kernel
theorem dn_d_Way_init_11 : decode dn_c_Way_init 11 = .ok (.aload_n 0, 1) := by decide +kernel
theorem dn_d_Way_init_12 : decode dn_c_Way_init 12 = .ok (.iconst 3, 1) := by decide +kernel
theorem dn_d_Way_init_13 : decode dn_c_Way_init 13 = .ok (.newarray .int, 2) := by decide +kernel
theorem dn_d_Way_init_15 : decode dn_c_Way_init 15 = .ok (.putfield 13, 3) := by decide +kernel
theorem dn_d_Way_init_18 : decode dn_c_Way_init 18 = .ok (.aload_n 0, 1) := by decide +kernel
theorem dn_d_Way_init_19 : decode dn_c_Way_init 19 = .ok (.iconst 3, 1) := by decide +kernel
theorem dn_d_Way_init_20 : decode dn_c_Way_init 20 = .ok (.newarray .long, 2) := by decide +kernel
theorem dn_d_Way_init_22 : decode dn_c_Way_init 22 = .ok (.putfield 16, 3) := by decide +kernel
theorem dn_d_Way_init_25 : decode dn_c_Way_init 25 = .ok (.return_, 1) := by decide +kernel
theorem dn_d_Way_isFull_0 : decode dn_c_Way_isFull 0 = .ok (.aload_n 0, 1) := by decide +kernel
theorem dn_d_Way_isFull_1 : decode dn_c_Way_isFull 1 = .ok (.getfield 20, 3) := by decide +kernel
theorem dn_d_Way_isFull_4 : decode dn_c_Way_isFull 4 = .ok (.iconst 3, 1) := by decide +kernel
theorem dn_d_Way_isFull_5 : decode dn_c_Way_isFull 5 = .ok (.if_icmp .lt 7, 3) := by decide +kernel
theorem dn_d_Way_isFull_8 : decode dn_c_Way_isFull 8 = .ok (.iconst 1, 1) := by decide +kernel
theorem dn_d_Way_isFull_9 : decode dn_c_Way_isFull 9 = .ok (.goto 4, 3) := by decide +kernel
theorem dn_d_Way_isFull_12 : decode dn_c_Way_isFull 12 = .ok (.iconst 0, 1) := by decide +kernel
theorem dn_d_Way_isFull_13 : decode dn_c_Way_isFull 13 = .ok (.ireturn, 1) := by decide +kernel
theorem dn_d_Way_tell_0 : decode dn_c_Way_tell 0 = .ok (.aload_n 0, 1) := by decide +kernel
theorem dn_d_Way_tell_1 : decode dn_c_Way_tell 1 = .ok (.invokevirtual 24, 3) := by decide +kernel
theorem dn_d_Way_tell_4 : decode dn_c_Way_tell 4 = .ok (.ifCond .ne 43, 3) := by decide +kernel
theorem dn_d_Way_tell_7 : decode dn_c_Way_tell 7 = .ok (.aload_n 0, 1) := by decide +kernel
theorem dn_d_Way_tell_8 : decode dn_c_Way_tell 8 = .ok (.getfield 9, 3) := by decide +kernel
theorem dn_d_Way_tell_11 : decode dn_c_Way_tell 11 = .ok (.aload_n 0, 1) := by decide +kernel
theorem dn_d_Way_tell_12 : decode dn_c_Way_tell 12 = .ok (.getfield 20, 3) := by decide +kernel
theorem dn_d_Way_tell_15 : decode dn_c_Way_tell 15 = .ok (.iload_n 1, 1) := by decide +kernel
theorem dn_d_Way_tell_16 : decode dn_c_Way_tell 16 = .ok (.iastore, 1) := by decide +kernel
theorem dn_d_Way_tell_17 : decode dn_c_Way_tell 17 = .ok (.aload_n 0, 1) := by decide +kernel
theorem dn_d_Way_tell_18 : decode dn_c_Way_tell 18 = .ok (.getfield 13, 3) := by decide +kernel
theorem dn_d_Way_tell_21 : decode dn_c_Way_tell 21 = .ok (.aload_n 0, 1) := by decide +kernel
theorem dn_d_Way_tell_22 : decode dn_c_Way_tell 22 = .ok (.getfield 20, 3) := by decide +kernel
theorem dn_d_Way_tell_25 : decode dn_c_Way_tell 25 = .ok (.iload_n 2, 1) := by decide +kernel
theorem dn_d_Way_tell_26 : decode dn_c_Way_tell 26 = .ok (.iastore, 1) := by decide +kernel
theorem dn_d_Way_tell_27 : decode dn_c_Way_tell 27 = .ok (.aload_n 0, 1) := by decide +kernel
theorem dn_d_Way_tell_28 : decode dn_c_Way_tell 28 = .ok (.getfield 16, 3) := by decide +kernel
theorem dn_d_Way_tell_31 : decode dn_c_Way_tell 31 = .ok (.aload_n 0, 1) := by decide +kernel
theorem dn_d_Way_tell_32 : decode dn_c_Way_tell 32 = .ok (.getfield 20, 3) := by decide +kernel
theorem dn_d_Way_tell_35 : decode dn_c_Way_tell 35 = .ok (.lload_n 3, 1) := by decide +kernel
theorem dn_d_Way_tell_36 : decode dn_c_Way_tell 36 = .ok (.lastore, 1) := by decide +kernel
theorem dn_d_Way_tell_37 : decode dn_c_Way_tell 37 = .ok (.aload_n 0, 1) := by decide +kernel
theorem dn_d_Way_tell_38 : decode dn_c_Way_tell 38 = .ok (.dup, 1) := by decide +kernel
theorem dn_d_Way_tell_39 : decode dn_c_Way_tell 39 = .ok (.getfield 20, 3) := by decide +kernel
theorem dn_d_Way_tell_42 : decode dn_c_Way_tell 42 = .ok (.iconst 1, 1) := by decide +kernel
theorem dn_d_Way_tell_43 : decode dn_c_Way_tell 43 = .ok (.iadd, 1) := by decide +kernel
theorem dn_d_Way_tell_44 : decode dn_c_Way_tell 44 = .ok (.putfield 20, 3) := by decide +kernel
theorem dn_d_Way_tell_47 : decode dn_c_Way_tell 47 = .ok (.aload_n 0, 1) := by decide +kernel
theorem dn_d_Way_tell_48 : decode dn_c_Way_tell 48 = .ok (.getfield 20, 3) := by decide +kernel
theorem dn_d_Way_tell_51 : decode dn_c_Way_tell 51 = .ok (.ireturn, 1) := by decide +kernel
theorem dn_d_Way_begin_0 : decode dn_c_Way_begin 0 = .ok (.aload_n 0, 1) := by decide +kernel
theorem dn_d_Way_begin_1 : decode dn_c_Way_begin 1 = .ok (.iconst 0, 1) := by decide +kernel
theorem dn_d_Way_begin_2 : decode dn_c_Way_begin 2 = .ok (.putfield 28, 3) := by decide +kernel
theorem dn_d_Way_begin_5 : decode dn_c_Way_begin 5 = .ok (.return_, 1) := by decide +kernel
theorem dn_d_Way_forget_0 : decode dn_c_Way_forget 0 = .ok (.aload_n 0, 1) := by decide +kernel
theorem dn_d_Way_forget_1 : decode dn_c_Way_forget 1 = .ok (.iconst 0, 1) := by decide +kernel
theorem dn_d_Way_forget_2 : decode dn_c_Way_forget 2 = .ok (.putfield 20, 3) := by decide +kernel
theorem dn_d_Way_forget_5 : decode dn_c_Way_forget 5 = .ok (.return_, 1) := by decide +kernel
theorem dn_d_Way_count_0 : decode dn_c_Way_count 0 = .ok (.aload_n 0, 1) := by decide +kernel
theorem dn_d_Way_count_1 : decode dn_c_Way_count 1 = .ok (.getfield 28, 3) := by decide +kernel
theorem dn_d_Way_count_4 : decode dn_c_Way_count 4 = .ok (.ireturn, 1) := by decide +kernel
theorem dn_d_Way_carry_0 : decode dn_c_Way_carry 0 = .ok (.iconst 0, 1) := by decide +kernel
theorem dn_d_Way_carry_1 : decode dn_c_Way_carry 1 = .ok (.istore_n 2, 1) := by decide +kernel
theorem dn_d_Way_carry_2 : decode dn_c_Way_carry 2 = .ok (.iload_n 2, 1) := by decide +kernel
theorem dn_d_Way_carry_3 : decode dn_c_Way_carry 3 = .ok (.aload_n 0, 1) := by decide +kernel
theorem dn_d_Way_carry_4 : decode dn_c_Way_carry 4 = .ok (.getfield 20, 3) := by decide +kernel
theorem dn_d_Way_carry_7 : decode dn_c_Way_carry 7 = .ok (.if_icmp .ge 49, 3) := by decide +kernel
theorem dn_d_Way_carry_10 : decode dn_c_Way_carry 10 = .ok (.aload_n 0, 1) := by decide +kernel
theorem dn_d_Way_carry_11 : decode dn_c_Way_carry 11 = .ok (.getfield 9, 3) := by decide +kernel
theorem dn_d_Way_carry_14 : decode dn_c_Way_carry 14 = .ok (.iload_n 2, 1) := by decide +kernel
theorem dn_d_Way_carry_15 : decode dn_c_Way_carry 15 = .ok (.iaload, 1) := by decide +kernel
theorem dn_d_Way_carry_16 : decode dn_c_Way_carry 16 = .ok (.aload_n 0, 1) := by decide +kernel
theorem dn_d_Way_carry_17 : decode dn_c_Way_carry 17 = .ok (.getfield 28, 3) := by decide +kernel
theorem dn_d_Way_carry_20 : decode dn_c_Way_carry 20 = .ok (.if_icmp .ne 30, 3) := by decide +kernel
theorem dn_d_Way_carry_23 : decode dn_c_Way_carry 23 = .ok (.aload_n 1, 1) := by decide +kernel
theorem dn_d_Way_carry_24 : decode dn_c_Way_carry 24 = .ok (.aload_n 0, 1) := by decide +kernel
theorem dn_d_Way_carry_25 : decode dn_c_Way_carry 25 = .ok (.getfield 13, 3) := by decide +kernel
theorem dn_d_Way_carry_28 : decode dn_c_Way_carry 28 = .ok (.iload_n 2, 1) := by decide +kernel
theorem dn_d_Way_carry_29 : decode dn_c_Way_carry 29 = .ok (.iaload, 1) := by decide +kernel
theorem dn_d_Way_carry_30 : decode dn_c_Way_carry 30 = .ok (.aload_n 1, 1) := by decide +kernel
theorem dn_d_Way_carry_31 : decode dn_c_Way_carry 31 = .ok (.aload_n 0, 1) := by decide +kernel
theorem dn_d_Way_carry_32 : decode dn_c_Way_carry 32 = .ok (.getfield 13, 3) := by decide +kernel
theorem dn_d_Way_carry_35 : decode dn_c_Way_carry 35 = .ok (.iload_n 2, 1) := by decide +kernel
theorem dn_d_Way_carry_36 : decode dn_c_Way_carry 36 = .ok (.iaload, 1) := by decide +kernel
theorem dn_d_Way_carry_37 : decode dn_c_Way_carry 37 = .ok (.invokevirtual 31, 3) := by decide +kernel
theorem dn_d_Way_carry_40 : decode dn_c_Way_carry 40 = .ok (.aload_n 0, 1) := by decide +kernel
theorem dn_d_Way_carry_41 : decode dn_c_Way_carry 41 = .ok (.getfield 16, 3) := by decide +kernel
theorem dn_d_Way_carry_44 : decode dn_c_Way_carry 44 = .ok (.iload_n 2, 1) := by decide +kernel
theorem dn_d_Way_carry_45 : decode dn_c_Way_carry 45 = .ok (.laload, 1) := by decide +kernel
theorem dn_d_Way_carry_46 : decode dn_c_Way_carry 46 = .ok (.lxor, 1) := by decide +kernel
theorem dn_d_Way_carry_47 : decode dn_c_Way_carry 47 = .ok (.invokevirtual 37, 3) := by decide +kernel
theorem dn_d_Way_carry_50 : decode dn_c_Way_carry 50 = .ok (.iinc 2 1, 3) := by decide +kernel
theorem dn_d_Way_carry_53 : decode dn_c_Way_carry 53 = .ok (.goto (-51), 3) := by decide +kernel
theorem dn_d_Way_carry_56 : decode dn_c_Way_carry 56 = .ok (.aload_n 0, 1) := by decide +kernel
theorem dn_d_Way_carry_57 : decode dn_c_Way_carry 57 = .ok (.dup, 1) := by decide +kernel
theorem dn_d_Way_carry_58 : decode dn_c_Way_carry 58 = .ok (.getfield 28, 3) := by decide +kernel
theorem dn_d_Way_carry_61 : decode dn_c_Way_carry 61 = .ok (.iconst 1, 1) := by decide +kernel
theorem dn_d_Way_carry_62 : decode dn_c_Way_carry 62 = .ok (.iadd, 1) := by decide +kernel
theorem dn_d_Way_carry_63 : decode dn_c_Way_carry 63 = .ok (.putfield 28, 3) := by decide +kernel
theorem dn_d_Way_carry_66 : decode dn_c_Way_carry 66 = .ok (.return_, 1) := by decide +kernel
