theorem dn_d_Chip_init_0 : decode dn_c_Chip_init 0 = .ok (.aload_n 0, 1) := by decide +kernel
theorem dn_d_Chip_init_1 : decode dn_c_Chip_init 1 = .ok (.invokespecial 3, 3) := by decide +kernel
theorem dn_d_Chip_init_4 : decode dn_c_Chip_init 4 = .ok (.aload_n 0, 1) := by decide +kernel
theorem dn_d_Chip_init_5 : decode dn_c_Chip_init 5 = .ok (.new 9, 3) := by decide +kernel
theorem dn_d_Chip_init_8 : decode dn_c_Chip_init 8 = .ok (.dup, 1) := by decide +kernel
theorem dn_d_Chip_init_9 : decode dn_c_Chip_init 9 = .ok (.invokespecial 11, 3) := by decide +kernel
theorem dn_d_Chip_init_12 : decode dn_c_Chip_init 12 = .ok (.putfield 12, 3) := by decide +kernel
theorem dn_d_Chip_init_15 : decode dn_c_Chip_init 15 = .ok (.aload_n 0, 1) := by decide +kernel
theorem dn_d_Chip_init_16 : decode dn_c_Chip_init 16 = .ok (.new 18, 3) := by decide +kernel
theorem dn_d_Chip_init_19 : decode dn_c_Chip_init 19 = .ok (.dup, 1) := by decide +kernel
theorem dn_d_Chip_init_20 : decode dn_c_Chip_init 20 = .ok (.invokespecial 20, 3) := by decide +kernel
theorem dn_d_Chip_init_23 : decode dn_c_Chip_init 23 = .ok (.putfield 21, 3) := by decide +kernel
theorem dn_d_Chip_init_26 : decode dn_c_Chip_init 26 = .ok (.aload_n 0, 1) := by decide +kernel
theorem dn_d_Chip_init_27 : decode dn_c_Chip_init 27 = .ok (.iconst 4, 1) := by decide +kernel
theorem dn_d_Chip_init_28 : decode dn_c_Chip_init 28 = .ok (.anewarray 25, 3) := by decide +kernel
theorem dn_d_Chip_init_31 : decode dn_c_Chip_init 31 = .ok (.putfield 27, 3) := by decide +kernel
theorem dn_d_Chip_init_34 : decode dn_c_Chip_init 34 = .ok (.aload_n 0, 1) := by decide +kernel
theorem dn_d_Chip_init_35 : decode dn_c_Chip_init 35 = .ok (.iconst (-1), 1) := by decide +kernel
theorem dn_d_Chip_init_36 : decode dn_c_Chip_init 36 = .ok (.putfield 31, 3) := by decide +kernel
theorem dn_d_Chip_init_39 : decode dn_c_Chip_init 39 = .ok (.new 35, 3) := by decide +kernel
theorem dn_d_Chip_init_42 : decode dn_c_Chip_init 42 = .ok (.dup, 1) := by decide +kernel
theorem dn_d_Chip_init_43 : decode dn_c_Chip_init 43 = .ok (.invokespecial 37, 3) := by decide +kernel
theorem dn_d_Chip_init_46 : decode dn_c_Chip_init 46 = .ok (.astore 4, 2) := by decide +kernel
theorem dn_d_Chip_init_48 : decode dn_c_Chip_init 48 = .ok (.aload 4, 2) := by decide +kernel
theorem dn_d_Chip_init_50 : decode dn_c_Chip_init 50 = .ok (.iconst 0, 1) := by decide +kernel
theorem dn_d_Chip_init_51 : decode dn_c_Chip_init 51 = .ok (.iload_n 1, 1) := by decide +kernel
theorem dn_d_Chip_init_52 : decode dn_c_Chip_init 52 = .ok (.invokevirtual 38, 3) := by decide +kernel
theorem dn_d_Chip_init_55 : decode dn_c_Chip_init 55 = .ok (.aload 4, 2) := by decide +kernel
theorem dn_d_Chip_init_57 : decode dn_c_Chip_init 57 = .ok (.iconst 1, 1) := by decide +kernel
theorem dn_d_Chip_init_58 : decode dn_c_Chip_init 58 = .ok (.iload_n 2, 1) := by decide +kernel
theorem dn_d_Chip_init_59 : decode dn_c_Chip_init 59 = .ok (.invokevirtual 38, 3) := by decide +kernel
theorem dn_d_Chip_init_62 : decode dn_c_Chip_init 62 = .ok (.aload 4, 2) := by decide +kernel
theorem dn_d_Chip_init_64 : decode dn_c_Chip_init 64 = .ok (.iconst 2, 1) := by decide +kernel
theorem dn_d_Chip_init_65 : decode dn_c_Chip_init 65 = .ok (.iload_n 3, 1) := by decide +kernel
theorem dn_d_Chip_init_66 : decode dn_c_Chip_init 66 = .ok (.invokevirtual 38, 3) := by decide +kernel
theorem dn_d_Chip_init_69 : decode dn_c_Chip_init 69 = .ok (.aload_n 0, 1) := by decide +kernel
theorem dn_d_Chip_init_70 : decode dn_c_Chip_init 70 = .ok (.getfield 12, 3) := by decide +kernel
theorem dn_d_Chip_init_73 : decode dn_c_Chip_init 73 = .ok (.aload 4, 2) := by decide +kernel
theorem dn_d_Chip_init_75 : decode dn_c_Chip_init 75 = .ok (.invokevirtual 42, 3) := by decide +kernel
theorem dn_d_Chip_init_78 : decode dn_c_Chip_init 78 = .ok (.invokevirtual 46, 3) := by decide +kernel
theorem dn_d_Chip_init_81 : decode dn_c_Chip_init 81 = .ok (.iconst 0, 1) := by decide +kernel
theorem dn_d_Chip_init_82 : decode dn_c_Chip_init 82 = .ok (.istore 5, 2) := by decide +kernel
theorem dn_d_Chip_init_84 : decode dn_c_Chip_init 84 = .ok (.iload 5, 2) := by decide +kernel
theorem dn_d_Chip_init_86 : decode dn_c_Chip_init 86 = .ok (.iconst 4, 1) := by decide +kernel
theorem dn_d_Chip_init_87 : decode dn_c_Chip_init 87 = .ok (.if_icmp .ge 25, 3) := by decide +kernel
theorem dn_d_Chip_init_90 : decode dn_c_Chip_init 90 = .ok (.aload_n 0, 1) := by decide +kernel
theorem dn_d_Chip_init_91 : decode dn_c_Chip_init 91 = .ok (.getfield 27, 3) := by decide +kernel
theorem dn_d_Chip_init_94 : decode dn_c_Chip_init 94 = .ok (.iload 5, 2) := by decide +kernel
theorem dn_d_Chip_init_96 : decode dn_c_Chip_init 96 = .ok (.new 25, 3) := by decide +kernel
theorem dn_d_Chip_init_99 : decode dn_c_Chip_init 99 = .ok (.dup, 1) := by decide +kernel
theorem dn_d_Chip_init_100 : decode dn_c_Chip_init 100 = .ok (.bipush 20, 2) := by decide +kernel
theorem dn_d_Chip_init_102 : decode dn_c_Chip_init 102 = .ok (.invokespecial 50, 3) := by decide +kernel
theorem dn_d_Chip_init_105 : decode dn_c_Chip_init 105 = .ok (.aastore, 1) := by decide +kernel
theorem dn_d_Chip_init_106 : decode dn_c_Chip_init 106 = .ok (.iinc 5 1, 3) := by decide +kernel
theorem dn_d_Chip_init_109 : decode dn_c_Chip_init 109 = .ok (.goto (-25), 3) := by decide +kernel
theorem dn_d_Chip_init_112 : decode dn_c_Chip_init 112 = .ok (.return_, 1) := by decide +kernel
theorem dn_d_Chip_setDrawn_0 : decode dn_c_Chip_setDrawn 0 = .ok (.aload_n 0, 1) := by decide +kernel
theorem dn_d_Chip_setDrawn_1 : decode dn_c_Chip_setDrawn 1 = .ok (.lload_n 1, 1) := by decide +kernel
theorem dn_d_Chip_setDrawn_2 : decode dn_c_Chip_setDrawn 2 = .ok (.putfield 53, 3) := by decide +kernel
theorem dn_d_Chip_setDrawn_5 : decode dn_c_Chip_setDrawn 5 = .ok (.aload_n 0, 1) := by decide +kernel
theorem dn_d_Chip_setDrawn_6 : decode dn_c_Chip_setDrawn 6 = .ok (.lload_n 3, 1) := by decide +kernel
theorem dn_d_Chip_setDrawn_7 : decode dn_c_Chip_setDrawn 7 = .ok (.putfield 57, 3) := by decide +kernel
theorem dn_d_Chip_setDrawn_10 : decode dn_c_Chip_setDrawn 10 = .ok (.return_, 1) := by decide +kernel
theorem dn_d_Chip_putSigned_0 : decode dn_c_Chip_putSigned 0 = .ok (.aload_n 0, 1) := by decide +kernel
theorem dn_d_Chip_putSigned_1 : decode dn_c_Chip_putSigned 1 = .ok (.getfield 27, 3) := by decide +kernel
theorem dn_d_Chip_putSigned_4 : decode dn_c_Chip_putSigned 4 = .ok (.iconst 3, 1) := by decide +kernel
theorem dn_d_Chip_putSigned_5 : decode dn_c_Chip_putSigned 5 = .ok (.aaload, 1) := by decide +kernel
theorem dn_d_Chip_putSigned_6 : decode dn_c_Chip_putSigned 6 = .ok (.astore_n 3, 1) := by decide +kernel
theorem dn_d_Chip_putSigned_7 : decode dn_c_Chip_putSigned 7 = .ok (.aload_n 3, 1) := by decide +kernel
theorem dn_d_Chip_putSigned_8 : decode dn_c_Chip_putSigned 8 = .ok (.invokevirtual 60, 3) := by decide +kernel
theorem dn_d_Chip_putSigned_11 : decode dn_c_Chip_putSigned 11 = .ok (.aload_n 3, 1) := by decide +kernel
theorem dn_d_Chip_putSigned_12 : decode dn_c_Chip_putSigned 12 = .ok (.aload_n 0, 1) := by decide +kernel
theorem dn_d_Chip_putSigned_13 : decode dn_c_Chip_putSigned 13 = .ok (.getfield 27, 3) := by decide +kernel
theorem dn_d_Chip_putSigned_16 : decode dn_c_Chip_putSigned 16 = .ok (.iconst 1, 1) := by decide +kernel
theorem dn_d_Chip_putSigned_17 : decode dn_c_Chip_putSigned 17 = .ok (.aaload, 1) := by decide +kernel
theorem dn_d_Chip_putSigned_18 : decode dn_c_Chip_putSigned 18 = .ok (.invokestatic 63, 3) := by decide +kernel
theorem dn_d_Chip_putSigned_21 : decode dn_c_Chip_putSigned 21 = .ok (.invokevirtual 69, 3) := by decide +kernel
theorem dn_d_Chip_putSigned_24 : decode dn_c_Chip_putSigned 24 = .ok (.aload_n 3, 1) := by decide +kernel
theorem dn_d_Chip_putSigned_25 : decode dn_c_Chip_putSigned 25 = .ok (.aload_n 0, 1) := by decide +kernel
theorem dn_d_Chip_putSigned_26 : decode dn_c_Chip_putSigned 26 = .ok (.getfield 27, 3) := by decide +kernel
theorem dn_d_Chip_putSigned_29 : decode dn_c_Chip_putSigned 29 = .ok (.iconst 2, 1) := by decide +kernel
theorem dn_d_Chip_putSigned_30 : decode dn_c_Chip_putSigned 30 = .ok (.aaload, 1) := by decide +kernel
theorem dn_d_Chip_putSigned_31 : decode dn_c_Chip_putSigned 31 = .ok (.invokestatic 63, 3) := by decide +kernel
theorem dn_d_Chip_putSigned_34 : decode dn_c_Chip_putSigned 34 = .ok (.invokevirtual 69, 3) := by decide +kernel
theorem dn_d_Chip_putSigned_37 : decode dn_c_Chip_putSigned 37 = .ok (.aload_n 3, 1) := by decide +kernel
theorem dn_d_Chip_putSigned_38 : decode dn_c_Chip_putSigned 38 = .ok (.lload_n 1, 1) := by decide +kernel
theorem dn_d_Chip_putSigned_39 : decode dn_c_Chip_putSigned 39 = .ok (.invokevirtual 69, 3) := by decide +kernel
theorem dn_d_Chip_putSigned_42 : decode dn_c_Chip_putSigned 42 = .ok (.aload_n 3, 1) := by decide +kernel
theorem dn_d_Chip_putSigned_43 : decode dn_c_Chip_putSigned 43 = .ok (.invokestatic 72, 3) := by decide +kernel
theorem dn_d_Chip_putSigned_46 : decode dn_c_Chip_putSigned 46 = .ok (.lreturn, 1) := by decide +kernel
theorem dn_d_Chip_drop_0 : decode dn_c_Chip_drop 0 = .ok (.aload_n 0, 1) := by decide +kernel
theorem dn_d_Chip_drop_1 : decode dn_c_Chip_drop 1 = .ok (.getfield 21, 3) := by decide +kernel
theorem dn_d_Chip_drop_4 : decode dn_c_Chip_drop 4 = .ok (.invokevirtual 75, 3) := by decide +kernel
theorem dn_d_Chip_drop_7 : decode dn_c_Chip_drop 7 = .ok (.aload_n 0, 1) := by decide +kernel
theorem dn_d_Chip_drop_8 : decode dn_c_Chip_drop 8 = .ok (.iconst (-1), 1) := by decide +kernel
theorem dn_d_Chip_drop_9 : decode dn_c_Chip_drop 9 = .ok (.putfield 31, 3) := by decide +kernel
theorem dn_d_Chip_drop_12 : decode dn_c_Chip_drop 12 = .ok (.aload_n 0, 1) := by decide +kernel
theorem dn_d_Chip_drop_13 : decode dn_c_Chip_drop 13 = .ok (.iconst 0, 1) := by decide +kernel
theorem dn_d_Chip_drop_14 : decode dn_c_Chip_drop 14 = .ok (.putfield 78, 3) := by decide +kernel
theorem dn_d_Chip_drop_17 : decode dn_c_Chip_drop 17 = .ok (.return_, 1) := by decide +kernel
theorem dn_d_Chip_giveChallenge_0 : decode dn_c_Chip_giveChallenge 0 = .ok (.aload_n 0, 1) := by decide +kernel
theorem dn_d_Chip_giveChallenge_1 : decode dn_c_Chip_giveChallenge 1 = .ok (.invokevirtual 82, 3) := by decide +kernel
theorem dn_d_Chip_giveChallenge_4 : decode dn_c_Chip_giveChallenge 4 = .ok (.aload_n 0, 1) := by decide +kernel
theorem dn_d_Chip_giveChallenge_5 : decode dn_c_Chip_giveChallenge 5 = .ok (.iconst 1, 1) := by decide +kernel
theorem dn_d_Chip_giveChallenge_6 : decode dn_c_Chip_giveChallenge 6 = .ok (.putfield 78, 3) := by decide +kernel
theorem dn_d_Chip_giveChallenge_9 : decode dn_c_Chip_giveChallenge 9 = .ok (.aload_n 0, 1) := by decide +kernel
theorem dn_d_Chip_giveChallenge_10 : decode dn_c_Chip_giveChallenge 10 = .ok (.aload_n 0, 1) := by decide +kernel
theorem dn_d_Chip_giveChallenge_11 : decode dn_c_Chip_giveChallenge 11 = .ok (.getfield 53, 3) := by decide +kernel
theorem dn_d_Chip_giveChallenge_14 : decode dn_c_Chip_giveChallenge 14 = .ok (.putfield 85, 3) := by decide +kernel
theorem dn_d_Chip_giveChallenge_17 : decode dn_c_Chip_giveChallenge 17 = .ok (.aload_n 0, 1) := by decide +kernel
theorem dn_d_Chip_giveChallenge_18 : decode dn_c_Chip_giveChallenge 18 = .ok (.getfield 85, 3) := by decide +kernel
theorem dn_d_Chip_giveChallenge_21 : decode dn_c_Chip_giveChallenge 21 = .ok (.lreturn, 1) := by decide +kernel
theorem dn_d_Chip_meet_0 : decode dn_c_Chip_meet 0 = .ok (.aload_n 0, 1) := by decide +kernel
theorem dn_d_Chip_meet_1 : decode dn_c_Chip_meet 1 = .ok (.getfield 78, 3) := by decide +kernel
theorem dn_d_Chip_meet_4 : decode dn_c_Chip_meet 4 = .ok (.ifCond .eq 35, 3) := by decide +kernel
theorem dn_d_Chip_meet_7 : decode dn_c_Chip_meet 7 = .ok (.aload_n 0, 1) := by decide +kernel
theorem dn_d_Chip_meet_8 : decode dn_c_Chip_meet 8 = .ok (.getfield 12, 3) := by decide +kernel
theorem dn_d_Chip_meet_11 : decode dn_c_Chip_meet 11 = .ok (.aload_n 1, 1) := by decide +kernel
theorem dn_d_Chip_meet_12 : decode dn_c_Chip_meet 12 = .ok (.invokevirtual 88, 3) := by decide +kernel
theorem dn_d_Chip_meet_15 : decode dn_c_Chip_meet 15 = .ok (.ifCond .eq 24, 3) := by decide +kernel
theorem dn_d_Chip_meet_18 : decode dn_c_Chip_meet 18 = .ok (.aload_n 0, 1) := by decide +kernel
theorem dn_d_Chip_meet_19 : decode dn_c_Chip_meet 19 = .ok (.getfield 12, 3) := by decide +kernel
theorem dn_d_Chip_meet_22 : decode dn_c_Chip_meet 22 = .ok (.aload_n 1, 1) := by decide +kernel
theorem dn_d_Chip_meet_23 : decode dn_c_Chip_meet 23 = .ok (.iconst 1, 1) := by decide +kernel
theorem dn_d_Chip_meet_24 : decode dn_c_Chip_meet 24 = .ok (.invokevirtual 92, 3) := by decide +kernel
theorem dn_d_Chip_meet_27 : decode dn_c_Chip_meet 27 = .ok (.aload_n 0, 1) := by decide +kernel
theorem dn_d_Chip_meet_28 : decode dn_c_Chip_meet 28 = .ok (.getfield 85, 3) := by decide +kernel
theorem dn_d_Chip_meet_31 : decode dn_c_Chip_meet 31 = .ok (.lcmp, 1) := by decide +kernel
theorem dn_d_Chip_meet_32 : decode dn_c_Chip_meet 32 = .ok (.ifCond .ne 7, 3) := by decide +kernel
theorem dn_d_Chip_meet_35 : decode dn_c_Chip_meet 35 = .ok (.iconst 1, 1) := by decide +kernel
theorem dn_d_Chip_meet_36 : decode dn_c_Chip_meet 36 = .ok (.goto 4, 3) := by decide +kernel
theorem dn_d_Chip_meet_39 : decode dn_c_Chip_meet 39 = .ok (.iconst 0, 1) := by decide +kernel
theorem dn_d_Chip_meet_40 : decode dn_c_Chip_meet 40 = .ok (.istore_n 3, 1) := by decide +kernel
theorem dn_d_Chip_meet_41 : decode dn_c_Chip_meet 41 = .ok (.aload_n 0, 1) := by decide +kernel
theorem dn_d_Chip_meet_42 : decode dn_c_Chip_meet 42 = .ok (.invokevirtual 82, 3) := by decide +kernel
theorem dn_d_Chip_meet_45 : decode dn_c_Chip_meet 45 = .ok (.aload_n 2, 1) := by decide +kernel
theorem dn_d_Chip_meet_46 : decode dn_c_Chip_meet 46 = .ok (.invokevirtual 60, 3) := by decide +kernel
theorem dn_d_Chip_meet_49 : decode dn_c_Chip_meet 49 = .ok (.iload_n 3, 1) := by decide +kernel
theorem dn_d_Chip_meet_50 : decode dn_c_Chip_meet 50 = .ok (.ifCond .eq 63, 3) := by decide +kernel
theorem dn_d_Chip_meet_53 : decode dn_c_Chip_meet 53 = .ok (.aload_n 0, 1) := by decide +kernel
theorem dn_d_Chip_meet_54 : decode dn_c_Chip_meet 54 = .ok (.getfield 12, 3) := by decide +kernel
theorem dn_d_Chip_meet_57 : decode dn_c_Chip_meet 57 = .ok (.aload_n 1, 1) := by decide +kernel
theorem dn_d_Chip_meet_58 : decode dn_c_Chip_meet 58 = .ok (.iconst 0, 1) := by decide +kernel
theorem dn_d_Chip_meet_59 : decode dn_c_Chip_meet 59 = .ok (.invokevirtual 92, 3) := by decide +kernel
theorem dn_d_Chip_meet_62 : decode dn_c_Chip_meet 62 = .ok (.lstore 4, 2) := by decide +kernel
theorem dn_d_Chip_meet_64 : decode dn_c_Chip_meet 64 = .ok (.aload_n 0, 1) := by decide +kernel
theorem dn_d_Chip_meet_65 : decode dn_c_Chip_meet 65 = .ok (.getfield 12, 3) := by decide +kernel
theorem dn_d_Chip_meet_68 : decode dn_c_Chip_meet 68 = .ok (.aload_n 1, 1) := by decide +kernel
theorem dn_d_Chip_meet_69 : decode dn_c_Chip_meet 69 = .ok (.iconst 2, 1) := by decide +kernel
theorem dn_d_Chip_meet_70 : decode dn_c_Chip_meet 70 = .ok (.invokevirtual 92, 3) := by decide +kernel
theorem dn_d_Chip_meet_73 : decode dn_c_Chip_meet 73 = .ok (.lstore 6, 2) := by decide +kernel
theorem dn_d_Chip_meet_75 : decode dn_c_Chip_meet 75 = .ok (.aload_n 0, 1) := by decide +kernel
theorem dn_d_Chip_meet_76 : decode dn_c_Chip_meet 76 = .ok (.getfield 12, 3) := by decide +kernel
theorem dn_d_Chip_meet_79 : decode dn_c_Chip_meet 79 = .ok (.aload_n 2, 1) := by decide +kernel
theorem dn_d_Chip_meet_80 : decode dn_c_Chip_meet 80 = .ok (.aload_n 0, 1) := by decide +kernel
theorem dn_d_Chip_meet_81 : decode dn_c_Chip_meet 81 = .ok (.getfield 85, 3) := by decide +kernel
theorem dn_d_Chip_meet_84 : decode dn_c_Chip_meet 84 = .ok (.lload 4, 2) := by decide +kernel
theorem dn_d_Chip_meet_86 : decode dn_c_Chip_meet 86 = .ok (.aload_n 0, 1) := by decide +kernel
theorem dn_d_Chip_meet_87 : decode dn_c_Chip_meet 87 = .ok (.getfield 57, 3) := by decide +kernel
theorem dn_d_Chip_meet_90 : decode dn_c_Chip_meet 90 = .ok (.invokevirtual 96, 3) := by decide +kernel
theorem dn_d_Chip_meet_93 : decode dn_c_Chip_meet 93 = .ok (.aload_n 0, 1) := by decide +kernel
theorem dn_d_Chip_meet_94 : decode dn_c_Chip_meet 94 = .ok (.getfield 21, 3) := by decide +kernel
theorem dn_d_Chip_meet_97 : decode dn_c_Chip_meet 97 = .ok (.lload 6, 2) := by decide +kernel
theorem dn_d_Chip_meet_99 : decode dn_c_Chip_meet 99 = .ok (.aload_n 0, 1) := by decide +kernel
theorem dn_d_Chip_meet_100 : decode dn_c_Chip_meet 100 = .ok (.getfield 57, 3) := by decide +kernel
theorem dn_d_Chip_meet_103 : decode dn_c_Chip_meet 103 = .ok (.lxor, 1) := by decide +kernel
theorem dn_d_Chip_meet_104 : decode dn_c_Chip_meet 104 = .ok (.aload_n 0, 1) := by decide +kernel
theorem dn_d_Chip_meet_105 : decode dn_c_Chip_meet 105 = .ok (.getfield 85, 3) := by decide +kernel
theorem dn_d_Chip_meet_108 : decode dn_c_Chip_meet 108 = .ok (.lload 4, 2) := by decide +kernel
theorem dn_d_Chip_meet_110 : decode dn_c_Chip_meet 110 = .ok (.invokevirtual 100, 3) := by decide +kernel
theorem dn_d_Chip_meet_113 : decode dn_c_Chip_meet 113 = .ok (.iload_n 3, 1) := by decide +kernel
theorem dn_d_Chip_meet_114 : decode dn_c_Chip_meet 114 = .ok (.ireturn, 1) := by decide +kernel
theorem dn_d_Chip_obey_0 : decode dn_c_Chip_obey 0 = .ok (.aload 7, 2) := by decide +kernel
theorem dn_d_Chip_obey_2 : decode dn_c_Chip_obey 2 = .ok (.invokevirtual 60, 3) := by decide +kernel
theorem dn_d_Chip_obey_5 : decode dn_c_Chip_obey 5 = .ok (.aload_n 0, 1) := by decide +kernel
theorem dn_d_Chip_obey_6 : decode dn_c_Chip_obey 6 = .ok (.getfield 21, 3) := by decide +kernel
theorem dn_d_Chip_obey_9 : decode dn_c_Chip_obey 9 = .ok (.getfield 104, 3) := by decide +kernel
theorem dn_d_Chip_obey_12 : decode dn_c_Chip_obey 12 = .ok (.ifCond .ne 9, 3) := by decide +kernel
theorem dn_d_Chip_obey_15 : decode dn_c_Chip_obey 15 = .ok (.aload_n 0, 1) := by decide +kernel
theorem dn_d_Chip_obey_16 : decode dn_c_Chip_obey 16 = .ok (.iconst 1, 1) := by decide +kernel
theorem dn_d_Chip_obey_17 : decode dn_c_Chip_obey 17 = .ok (.invokevirtual 107, 3) := by decide +kernel
theorem dn_d_Chip_obey_20 : decode dn_c_Chip_obey 20 = .ok (.ireturn, 1) := by decide +kernel
theorem dn_d_Chip_obey_21 : decode dn_c_Chip_obey 21 = .ok (.lload 5, 2) := by decide +kernel
theorem dn_d_Chip_obey_23 : decode dn_c_Chip_obey 23 = .ok (.aload_n 0, 1) := by decide +kernel
theorem dn_d_Chip_obey_24 : decode dn_c_Chip_obey 24 = .ok (.getfield 21, 3) := by decide +kernel
theorem dn_d_Chip_obey_27 : decode dn_c_Chip_obey 27 = .ok (.lload_n 1, 1) := by decide +kernel
theorem dn_d_Chip_obey_28 : decode dn_c_Chip_obey 28 = .ok (.lload_n 3, 1) := by decide +kernel
theorem dn_d_Chip_obey_29 : decode dn_c_Chip_obey 29 = .ok (.invokevirtual 111, 3) := by decide +kernel
theorem dn_d_Chip_obey_32 : decode dn_c_Chip_obey 32 = .ok (.lcmp, 1) := by decide +kernel
theorem dn_d_Chip_obey_33 : decode dn_c_Chip_obey 33 = .ok (.ifCond .ne 7, 3) := by decide +kernel
theorem dn_d_Chip_obey_36 : decode dn_c_Chip_obey 36 = .ok (.iconst 1, 1) := by decide +kernel
theorem dn_d_Chip_obey_37 : decode dn_c_Chip_obey 37 = .ok (.goto 4, 3) := by decide +kernel
theorem dn_d_Chip_obey_40 : decode dn_c_Chip_obey 40 = .ok (.iconst 0, 1) := by decide +kernel
theorem dn_d_Chip_obey_41 : decode dn_c_Chip_obey 41 = .ok (.istore 8, 2) := by decide +kernel
theorem dn_d_Chip_obey_43 : decode dn_c_Chip_obey 43 = .ok (.aload_n 0, 1) := by decide +kernel
theorem dn_d_Chip_obey_44 : decode dn_c_Chip_obey 44 = .ok (.getfield 21, 3) := by decide +kernel
theorem dn_d_Chip_obey_47 : decode dn_c_Chip_obey 47 = .ok (.invokevirtual 115, 3) := by decide +kernel
theorem dn_d_Chip_obey_50 : decode dn_c_Chip_obey 50 = .ok (.iload 8, 2) := by decide +kernel
theorem dn_d_Chip_obey_52 : decode dn_c_Chip_obey 52 = .ok (.ifCond .ne 9, 3) := by decide +kernel
theorem dn_d_Chip_obey_55 : decode dn_c_Chip_obey 55 = .ok (.aload_n 0, 1) := by decide +kernel
theorem dn_d_Chip_obey_56 : decode dn_c_Chip_obey 56 = .ok (.iconst 2, 1) := by decide +kernel
theorem dn_d_Chip_obey_57 : decode dn_c_Chip_obey 57 = .ok (.invokevirtual 107, 3) := by decide +kernel
theorem dn_d_Chip_obey_60 : decode dn_c_Chip_obey 60 = .ok (.ireturn, 1) := by decide +kernel
theorem dn_d_Chip_obey_61 : decode dn_c_Chip_obey 61 = .ok (.iconst 3, 1) := by decide +kernel
theorem dn_d_Chip_obey_62 : decode dn_c_Chip_obey 62 = .ok (.istore 9, 2) := by decide +kernel
theorem dn_d_Chip_obey_64 : decode dn_c_Chip_obey 64 = .ok (.lload_n 1, 1) := by decide +kernel
theorem dn_d_Chip_obey_65 : decode dn_c_Chip_obey 65 = .ok (.lconst 1, 1) := by decide +kernel
theorem dn_d_Chip_obey_66 : decode dn_c_Chip_obey 66 = .ok (.lcmp, 1) := by decide +kernel
theorem dn_d_Chip_obey_67 : decode dn_c_Chip_obey 67 = .ok (.ifCond .ne 20, 3) := by decide +kernel
theorem dn_d_Chip_obey_70 : decode dn_c_Chip_obey 70 = .ok (.aload_n 0, 1) := by decide +kernel
theorem dn_d_Chip_obey_71 : decode dn_c_Chip_obey 71 = .ok (.aload_n 0, 1) := by decide +kernel
theorem dn_d_Chip_obey_72 : decode dn_c_Chip_obey 72 = .ok (.getfield 21, 3) := by decide +kernel
theorem dn_d_Chip_obey_75 : decode dn_c_Chip_obey 75 = .ok (.lload_n 3, 1) := by decide +kernel
theorem dn_d_Chip_obey_76 : decode dn_c_Chip_obey 76 = .ok (.invokevirtual 118, 3) := by decide +kernel
theorem dn_d_Chip_obey_79 : decode dn_c_Chip_obey 79 = .ok (.invokevirtual 121, 3) := by decide +kernel
theorem dn_d_Chip_obey_82 : decode dn_c_Chip_obey 82 = .ok (.istore 9, 2) := by decide +kernel
theorem dn_d_Chip_obey_84 : decode dn_c_Chip_obey 84 = .ok (.goto 27, 3) := by decide +kernel
theorem dn_d_Chip_obey_87 : decode dn_c_Chip_obey 87 = .ok (.lload_n 1, 1) := by decide +kernel
theorem dn_d_Chip_obey_88 : decode dn_c_Chip_obey 88 = .ok (.ldc2_w 125, 3) := by decide +kernel
theorem dn_d_Chip_obey_91 : decode dn_c_Chip_obey 91 = .ok (.lcmp, 1) := by decide +kernel
theorem dn_d_Chip_obey_92 : decode dn_c_Chip_obey 92 = .ok (.ifCond .ne 19, 3) := by decide +kernel
theorem dn_d_Chip_obey_95 : decode dn_c_Chip_obey 95 = .ok (.aload_n 0, 1) := by decide +kernel
theorem dn_d_Chip_obey_96 : decode dn_c_Chip_obey 96 = .ok (.aload_n 0, 1) := by decide +kernel
theorem dn_d_Chip_obey_97 : decode dn_c_Chip_obey 97 = .ok (.getfield 21, 3) := by decide +kernel
theorem dn_d_Chip_obey_100 : decode dn_c_Chip_obey 100 = .ok (.lload_n 3, 1) := by decide +kernel
theorem dn_d_Chip_obey_101 : decode dn_c_Chip_obey 101 = .ok (.invokevirtual 118, 3) := by decide +kernel
theorem dn_d_Chip_obey_104 : decode dn_c_Chip_obey 104 = .ok (.aload 7, 2) := by decide +kernel
theorem dn_d_Chip_obey_106 : decode dn_c_Chip_obey 106 = .ok (.invokevirtual 127, 3) := by decide +kernel
theorem dn_d_Chip_obey_109 : decode dn_c_Chip_obey 109 = .ok (.istore 9, 2) := by decide +kernel
theorem dn_d_Chip_obey_111 : decode dn_c_Chip_obey 111 = .ok (.iload 9, 2) := by decide +kernel
theorem dn_d_Chip_obey_113 : decode dn_c_Chip_obey 113 = .ok (.ifCond .eq 10, 3) := by decide +kernel
theorem dn_d_Chip_obey_116 : decode dn_c_Chip_obey 116 = .ok (.aload_n 0, 1) := by decide +kernel
theorem dn_d_Chip_obey_117 : decode dn_c_Chip_obey 117 = .ok (.iload 9, 2) := by decide +kernel
theorem dn_d_Chip_obey_119 : decode dn_c_Chip_obey 119 = .ok (.invokevirtual 107, 3) := by decide +kernel
theorem dn_d_Chip_obey_122 : decode dn_c_Chip_obey 122 = .ok (.ireturn, 1) := by decide +kernel
theorem dn_d_Chip_obey_123 : decode dn_c_Chip_obey 123 = .ok (.aload_n 0, 1) := by decide +kernel
theorem dn_d_Chip_obey_124 : decode dn_c_Chip_obey 124 = .ok (.getfield 21, 3) := by decide +kernel
theorem dn_d_Chip_obey_127 : decode dn_c_Chip_obey 127 = .ok (.aload 7, 2) := by decide +kernel
theorem dn_d_Chip_obey_129 : decode dn_c_Chip_obey 129 = .ok (.invokevirtual 131, 3) := by decide +kernel
theorem dn_d_Chip_obey_132 : decode dn_c_Chip_obey 132 = .ok (.aload_n 0, 1) := by decide +kernel
theorem dn_d_Chip_obey_133 : decode dn_c_Chip_obey 133 = .ok (.dup, 1) := by decide +kernel
theorem dn_d_Chip_obey_134 : decode dn_c_Chip_obey 134 = .ok (.getfield 134, 3) := by decide +kernel
theorem dn_d_Chip_obey_137 : decode dn_c_Chip_obey 137 = .ok (.iconst 1, 1) := by decide +kernel
theorem dn_d_Chip_obey_138 : decode dn_c_Chip_obey 138 = .ok (.iadd, 1) := by decide +kernel
theorem dn_d_Chip_obey_139 : decode dn_c_Chip_obey 139 = .ok (.putfield 134, 3) := by decide +kernel
theorem dn_d_Chip_obey_142 : decode dn_c_Chip_obey 142 = .ok (.iconst 0, 1) := by decide +kernel
theorem dn_d_Chip_obey_143 : decode dn_c_Chip_obey 143 = .ok (.ireturn, 1) := by decide +kernel
theorem dn_d_Chip_refuse_0 : decode dn_c_Chip_refuse 0 = .ok (.aload_n 0, 1) := by decide +kernel
theorem dn_d_Chip_refuse_1 : decode dn_c_Chip_refuse 1 = .ok (.invokevirtual 82, 3) := by decide +kernel
theorem dn_d_Chip_refuse_4 : decode dn_c_Chip_refuse 4 = .ok (.iload_n 1, 1) := by decide +kernel
theorem dn_d_Chip_refuse_5 : decode dn_c_Chip_refuse 5 = .ok (.ireturn, 1) := by decide +kernel
theorem dn_d_Chip_select_0 : decode dn_c_Chip_select 0 = .ok (.lload_n 1, 1) := by decide +kernel
theorem dn_d_Chip_select_1 : decode dn_c_Chip_select 1 = .ok (.invokestatic 137, 3) := by decide +kernel
theorem dn_d_Chip_select_4 : decode dn_c_Chip_select 4 = .ok (.ifCond .ne 5, 3) := by decide +kernel
theorem dn_d_Chip_select_7 : decode dn_c_Chip_select 7 = .ok (.iconst 4, 1) := by decide +kernel
theorem dn_d_Chip_select_8 : decode dn_c_Chip_select 8 = .ok (.ireturn, 1) := by decide +kernel
theorem dn_d_Chip_select_9 : decode dn_c_Chip_select 9 = .ok (.aload_n 0, 1) := by decide +kernel
theorem dn_d_Chip_select_10 : decode dn_c_Chip_select 10 = .ok (.lload_n 1, 1) := by decide +kernel
theorem dn_d_Chip_select_11 : decode dn_c_Chip_select 11 = .ok (.l2i, 1) := by decide +kernel
theorem dn_d_Chip_select_12 : decode dn_c_Chip_select 12 = .ok (.putfield 31, 3) := by decide +kernel
theorem dn_d_Chip_select_15 : decode dn_c_Chip_select 15 = .ok (.iconst 0, 1) := by decide +kernel
theorem dn_d_Chip_select_16 : decode dn_c_Chip_select 16 = .ok (.ireturn, 1) := by decide +kernel
theorem dn_d_Chip_read_0 : decode dn_c_Chip_read 0 = .ok (.aload_n 0, 1) := by decide +kernel
theorem dn_d_Chip_read_1 : decode dn_c_Chip_read 1 = .ok (.getfield 31, 3) := by decide +kernel
theorem dn_d_Chip_read_4 : decode dn_c_Chip_read 4 = .ok (.i2l, 1) := by decide +kernel
theorem dn_d_Chip_read_5 : decode dn_c_Chip_read 5 = .ok (.invokestatic 137, 3) := by decide +kernel
theorem dn_d_Chip_read_8 : decode dn_c_Chip_read 8 = .ok (.ifCond .ne 5, 3) := by decide +kernel
theorem dn_d_Chip_read_11 : decode dn_c_Chip_read 11 = .ok (.iconst 4, 1) := by decide +kernel
theorem dn_d_Chip_read_12 : decode dn_c_Chip_read 12 = .ok (.ireturn, 1) := by decide +kernel
theorem dn_d_Chip_read_13 : decode dn_c_Chip_read 13 = .ok (.aload_n 0, 1) := by decide +kernel
theorem dn_d_Chip_read_14 : decode dn_c_Chip_read 14 = .ok (.getfield 27, 3) := by decide +kernel
theorem dn_d_Chip_read_17 : decode dn_c_Chip_read 17 = .ok (.aload_n 0, 1) := by decide +kernel
theorem dn_d_Chip_read_18 : decode dn_c_Chip_read 18 = .ok (.getfield 31, 3) := by decide +kernel
theorem dn_d_Chip_read_21 : decode dn_c_Chip_read 21 = .ok (.aaload, 1) := by decide +kernel
theorem dn_d_Chip_read_22 : decode dn_c_Chip_read 22 = .ok (.astore 4, 2) := by decide +kernel
theorem dn_d_Chip_read_24 : decode dn_c_Chip_read 24 = .ok (.lload_n 1, 1) := by decide +kernel
theorem dn_d_Chip_read_25 : decode dn_c_Chip_read 25 = .ok (.ldc2_w 141, 3) := by decide +kernel
theorem dn_d_Chip_read_28 : decode dn_c_Chip_read 28 = .ok (.land, 1) := by decide +kernel
theorem dn_d_Chip_read_29 : decode dn_c_Chip_read 29 = .ok (.lstore 5, 2) := by decide +kernel
theorem dn_d_Chip_read_31 : decode dn_c_Chip_read 31 = .ok (.lload_n 1, 1) := by decide +kernel
theorem dn_d_Chip_read_32 : decode dn_c_Chip_read 32 = .ok (.iconst 5, 1) := by decide +kernel
theorem dn_d_Chip_read_33 : decode dn_c_Chip_read 33 = .ok (.lshr, 1) := by decide +kernel
theorem dn_d_Chip_read_34 : decode dn_c_Chip_read 34 = .ok (.lstore 7, 2) := by decide +kernel
theorem dn_d_Chip_read_36 : decode dn_c_Chip_read 36 = .ok (.lload 7, 2) := by decide +kernel
theorem dn_d_Chip_read_38 : decode dn_c_Chip_read 38 = .ok (.lconst 1, 1) := by decide +kernel
theorem dn_d_Chip_read_39 : decode dn_c_Chip_read 39 = .ok (.lcmp, 1) := by decide +kernel
theorem dn_d_Chip_read_40 : decode dn_c_Chip_read 40 = .ok (.ifCond .lt 27, 3) := by decide +kernel
theorem dn_d_Chip_read_43 : decode dn_c_Chip_read 43 = .ok (.lload 7, 2) := by decide +kernel
theorem dn_d_Chip_read_45 : decode dn_c_Chip_read 45 = .ok (.ldc2_w 143, 3) := by decide +kernel
theorem dn_d_Chip_read_48 : decode dn_c_Chip_read 48 = .ok (.lcmp, 1) := by decide +kernel
theorem dn_d_Chip_read_49 : decode dn_c_Chip_read 49 = .ok (.ifCond .gt 18, 3) := by decide +kernel
theorem dn_d_Chip_read_52 : decode dn_c_Chip_read 52 = .ok (.lload 5, 2) := by decide +kernel
theorem dn_d_Chip_read_54 : decode dn_c_Chip_read 54 = .ok (.lload 7, 2) := by decide +kernel
theorem dn_d_Chip_read_56 : decode dn_c_Chip_read 56 = .ok (.ladd, 1) := by decide +kernel
theorem dn_d_Chip_read_57 : decode dn_c_Chip_read 57 = .ok (.aload 4, 2) := by decide +kernel
theorem dn_d_Chip_read_59 : decode dn_c_Chip_read 59 = .ok (.invokevirtual 145, 3) := by decide +kernel
theorem dn_d_Chip_read_62 : decode dn_c_Chip_read 62 = .ok (.i2l, 1) := by decide +kernel
theorem dn_d_Chip_read_63 : decode dn_c_Chip_read 63 = .ok (.lcmp, 1) := by decide +kernel
theorem dn_d_Chip_read_64 : decode dn_c_Chip_read 64 = .ok (.ifCond .le 5, 3) := by decide +kernel
theorem dn_d_Chip_read_67 : decode dn_c_Chip_read 67 = .ok (.iconst 5, 1) := by decide +kernel
theorem dn_d_Chip_read_68 : decode dn_c_Chip_read 68 = .ok (.ireturn, 1) := by decide +kernel
theorem dn_d_Chip_read_69 : decode dn_c_Chip_read 69 = .ok (.iconst 0, 1) := by decide +kernel
theorem dn_d_Chip_read_70 : decode dn_c_Chip_read 70 = .ok (.istore 9, 2) := by decide +kernel
theorem dn_d_Chip_read_72 : decode dn_c_Chip_read 72 = .ok (.iload 9, 2) := by decide +kernel
theorem dn_d_Chip_read_74 : decode dn_c_Chip_read 74 = .ok (.i2l, 1) := by decide +kernel
theorem dn_d_Chip_read_75 : decode dn_c_Chip_read 75 = .ok (.lload 7, 2) := by decide +kernel
theorem dn_d_Chip_read_77 : decode dn_c_Chip_read 77 = .ok (.lcmp, 1) := by decide +kernel
theorem dn_d_Chip_read_78 : decode dn_c_Chip_read 78 = .ok (.ifCond .ge 24, 3) := by decide +kernel
theorem dn_d_Chip_read_81 : decode dn_c_Chip_read 81 = .ok (.aload_n 3, 1) := by decide +kernel
theorem dn_d_Chip_read_82 : decode dn_c_Chip_read 82 = .ok (.aload 4, 2) := by decide +kernel
theorem dn_d_Chip_read_84 : decode dn_c_Chip_read 84 = .ok (.lload 5, 2) := by decide +kernel
theorem dn_d_Chip_read_86 : decode dn_c_Chip_read 86 = .ok (.l2i, 1) := by decide +kernel
theorem dn_d_Chip_read_87 : decode dn_c_Chip_read 87 = .ok (.iload 9, 2) := by decide +kernel
theorem dn_d_Chip_read_89 : decode dn_c_Chip_read 89 = .ok (.iadd, 1) := by decide +kernel
theorem dn_d_Chip_read_90 : decode dn_c_Chip_read 90 = .ok (.invokevirtual 149, 3) := by decide +kernel
theorem dn_d_Chip_read_93 : decode dn_c_Chip_read 93 = .ok (.invokevirtual 69, 3) := by decide +kernel
theorem dn_d_Chip_read_96 : decode dn_c_Chip_read 96 = .ok (.iinc 9 1, 3) := by decide +kernel
theorem dn_d_Chip_read_99 : decode dn_c_Chip_read 99 = .ok (.goto (-27), 3) := by decide +kernel
theorem dn_d_Chip_read_102 : decode dn_c_Chip_read 102 = .ok (.iconst 0, 1) := by decide +kernel
theorem dn_d_Chip_read_103 : decode dn_c_Chip_read 103 = .ok (.ireturn, 1) := by decide +kernel
theorem dn_d_Desk_init_0 : decode dn_c_Desk_init 0 = .ok (.aload_n 0, 1) := by decide +kernel
theorem dn_d_Desk_init_1 : decode dn_c_Desk_init 1 = .ok (.invokespecial 3, 3) := by decide +kernel
theorem dn_d_Desk_init_4 : decode dn_c_Desk_init 4 = .ok (.aload_n 0, 1) := by decide +kernel
theorem dn_d_Desk_init_5 : decode dn_c_Desk_init 5 = .ok (.new 9, 3) := by decide +kernel
theorem dn_d_Desk_init_8 : decode dn_c_Desk_init 8 = .ok (.dup, 1) := by decide +kernel
theorem dn_d_Desk_init_9 : decode dn_c_Desk_init 9 = .ok (.invokespecial 11, 3) := by decide +kernel
theorem dn_d_Desk_init_12 : decode dn_c_Desk_init 12 = .ok (.putfield 12, 3) := by decide +kernel
theorem dn_d_Desk_init_15 : decode dn_c_Desk_init 15 = .ok (.aload_n 0, 1) := by decide +kernel
theorem dn_d_Desk_init_16 : decode dn_c_Desk_init 16 = .ok (.new 18, 3) := by decide +kernel
theorem dn_d_Desk_init_19 : decode dn_c_Desk_init 19 = .ok (.dup, 1) := by decide +kernel
theorem dn_d_Desk_init_20 : decode dn_c_Desk_init 20 = .ok (.invokespecial 20, 3) := by decide +kernel
theorem dn_d_Desk_init_23 : decode dn_c_Desk_init 23 = .ok (.putfield 21, 3) := by decide +kernel
theorem dn_d_Desk_init_26 : decode dn_c_Desk_init 26 = .ok (.aload_n 0, 1) := by decide +kernel
theorem dn_d_Desk_init_27 : decode dn_c_Desk_init 27 = .ok (.new 25, 3) := by decide +kernel
theorem dn_d_Desk_init_30 : decode dn_c_Desk_init 30 = .ok (.dup, 1) := by decide +kernel
theorem dn_d_Desk_init_31 : decode dn_c_Desk_init 31 = .ok (.invokespecial 27, 3) := by decide +kernel
theorem dn_d_Desk_init_34 : decode dn_c_Desk_init 34 = .ok (.putfield 28, 3) := by decide +kernel
theorem dn_d_Desk_init_37 : decode dn_c_Desk_init 37 = .ok (.aload_n 0, 1) := by decide +kernel
theorem dn_d_Desk_init_38 : decode dn_c_Desk_init 38 = .ok (.new 32, 3) := by decide +kernel
theorem dn_d_Desk_init_41 : decode dn_c_Desk_init 41 = .ok (.dup, 1) := by decide +kernel
theorem dn_d_Desk_init_42 : decode dn_c_Desk_init 42 = .ok (.invokespecial 34, 3) := by decide +kernel
theorem dn_d_Desk_init_45 : decode dn_c_Desk_init 45 = .ok (.putfield 35, 3) := by decide +kernel
theorem dn_d_Desk_init_48 : decode dn_c_Desk_init 48 = .ok (.aload_n 0, 1) := by decide +kernel
theorem dn_d_Desk_init_49 : decode dn_c_Desk_init 49 = .ok (.new 39, 3) := by decide +kernel
theorem dn_d_Desk_init_52 : decode dn_c_Desk_init 52 = .ok (.dup, 1) := by decide +kernel
theorem dn_d_Desk_init_53 : decode dn_c_Desk_init 53 = .ok (.invokespecial 41, 3) := by decide +kernel
theorem dn_d_Desk_init_56 : decode dn_c_Desk_init 56 = .ok (.putfield 42, 3) := by decide +kernel
theorem dn_d_Desk_init_59 : decode dn_c_Desk_init 59 = .ok (.aload_n 0, 1) := by decide +kernel
theorem dn_d_Desk_init_60 : decode dn_c_Desk_init 60 = .ok (.new 46, 3) := by decide +kernel
theorem dn_d_Desk_init_63 : decode dn_c_Desk_init 63 = .ok (.dup, 1) := by decide +kernel
theorem dn_d_Desk_init_64 : decode dn_c_Desk_init 64 = .ok (.iconst 4, 1) := by decide +kernel
theorem dn_d_Desk_init_65 : decode dn_c_Desk_init 65 = .ok (.invokespecial 48, 3) := by decide +kernel
theorem dn_d_Desk_init_68 : decode dn_c_Desk_init 68 = .ok (.putfield 51, 3) := by decide +kernel
theorem dn_d_Desk_init_71 : decode dn_c_Desk_init 71 = .ok (.aload_n 0, 1) := by decide +kernel
theorem dn_d_Desk_init_72 : decode dn_c_Desk_init 72 = .ok (.new 46, 3) := by decide +kernel
theorem dn_d_Desk_init_75 : decode dn_c_Desk_init 75 = .ok (.dup, 1) := by decide +kernel
theorem dn_d_Desk_init_76 : decode dn_c_Desk_init 76 = .ok (.bipush 6, 2) := by decide +kernel
theorem dn_d_Desk_init_78 : decode dn_c_Desk_init 78 = .ok (.invokespecial 48, 3) := by decide +kernel
theorem dn_d_Desk_init_81 : decode dn_c_Desk_init 81 = .ok (.putfield 55, 3) := by decide +kernel
theorem dn_d_Desk_init_84 : decode dn_c_Desk_init 84 = .ok (.aload_n 0, 1) := by decide +kernel
theorem dn_d_Desk_init_85 : decode dn_c_Desk_init 85 = .ok (.iconst 4, 1) := by decide +kernel
theorem dn_d_Desk_init_86 : decode dn_c_Desk_init 86 = .ok (.anewarray 46, 3) := by decide +kernel
theorem dn_d_Desk_init_89 : decode dn_c_Desk_init 89 = .ok (.putfield 58, 3) := by decide +kernel
theorem dn_d_Desk_init_92 : decode dn_c_Desk_init 92 = .ok (.aload_n 0, 1) := by decide +kernel
theorem dn_d_Desk_init_93 : decode dn_c_Desk_init 93 = .ok (.aload_n 1, 1) := by decide +kernel
theorem dn_d_Desk_init_94 : decode dn_c_Desk_init 94 = .ok (.putfield 62, 3) := by decide +kernel
theorem dn_d_Desk_init_97 : decode dn_c_Desk_init 97 = .ok (.iconst 0, 1) := by decide +kernel
theorem dn_d_Desk_init_98 : decode dn_c_Desk_init 98 = .ok (.istore_n 2, 1) := by decide +kernel
theorem dn_d_Desk_init_99 : decode dn_c_Desk_init 99 = .ok (.iload_n 2, 1) := by decide +kernel
theorem dn_d_Desk_init_100 : decode dn_c_Desk_init 100 = .ok (.iconst 4, 1) := by decide +kernel
theorem dn_d_Desk_init_101 : decode dn_c_Desk_init 101 = .ok (.if_icmp .ge 24, 3) := by decide +kernel
theorem dn_d_Desk_init_104 : decode dn_c_Desk_init 104 = .ok (.aload_n 0, 1) := by decide +kernel
theorem dn_d_Desk_init_105 : decode dn_c_Desk_init 105 = .ok (.getfield 58, 3) := by decide +kernel
theorem dn_d_Desk_init_108 : decode dn_c_Desk_init 108 = .ok (.iload_n 2, 1) := by decide +kernel
theorem dn_d_Desk_init_109 : decode dn_c_Desk_init 109 = .ok (.new 46, 3) := by decide +kernel
theorem dn_d_Desk_init_112 : decode dn_c_Desk_init 112 = .ok (.dup, 1) := by decide +kernel
theorem dn_d_Desk_init_113 : decode dn_c_Desk_init 113 = .ok (.bipush 20, 2) := by decide +kernel
theorem dn_d_Desk_init_115 : decode dn_c_Desk_init 115 = .ok (.invokespecial 48, 3) := by decide +kernel
theorem dn_d_Desk_init_118 : decode dn_c_Desk_init 118 = .ok (.aastore, 1) := by decide +kernel
theorem dn_d_Desk_init_119 : decode dn_c_Desk_init 119 = .ok (.iinc 2 1, 3) := by decide +kernel
theorem dn_d_Desk_init_122 : decode dn_c_Desk_init 122 = .ok (.goto (-23), 3) := by decide +kernel
theorem dn_d_Desk_init_125 : decode dn_c_Desk_init 125 = .ok (.return_, 1) := by decide +kernel
theorem dn_d_Desk_setDrawn_0 : decode dn_c_Desk_setDrawn 0 = .ok (.aload_n 0, 1) := by decide +kernel
theorem dn_d_Desk_setDrawn_1 : decode dn_c_Desk_setDrawn 1 = .ok (.getfield 66, 3) := by decide +kernel
theorem dn_d_Desk_setDrawn_4 : decode dn_c_Desk_setDrawn 4 = .ok (.lload_n 1, 1) := by decide +kernel
theorem dn_d_Desk_setDrawn_5 : decode dn_c_Desk_setDrawn 5 = .ok (.lcmp, 1) := by decide +kernel
theorem dn_d_Desk_setDrawn_6 : decode dn_c_Desk_setDrawn 6 = .ok (.ifCond .ne 12, 3) := by decide +kernel
theorem dn_d_Desk_setDrawn_9 : decode dn_c_Desk_setDrawn 9 = .ok (.aload_n 0, 1) := by decide +kernel
theorem dn_d_Desk_setDrawn_10 : decode dn_c_Desk_setDrawn 10 = .ok (.getfield 70, 3) := by decide +kernel
theorem dn_d_Desk_setDrawn_13 : decode dn_c_Desk_setDrawn 13 = .ok (.lload_n 3, 1) := by decide +kernel
theorem dn_d_Desk_setDrawn_14 : decode dn_c_Desk_setDrawn 14 = .ok (.lcmp, 1) := by decide +kernel
theorem dn_d_Desk_setDrawn_15 : decode dn_c_Desk_setDrawn 15 = .ok (.ifCond .eq 7, 3) := by decide +kernel
theorem dn_d_Desk_setDrawn_18 : decode dn_c_Desk_setDrawn 18 = .ok (.iconst 1, 1) := by decide +kernel
theorem dn_d_Desk_setDrawn_19 : decode dn_c_Desk_setDrawn 19 = .ok (.goto 4, 3) := by decide +kernel
theorem dn_d_Desk_setDrawn_22 : decode dn_c_Desk_setDrawn 22 = .ok (.iconst 0, 1) := by decide +kernel
theorem dn_d_Desk_setDrawn_23 : decode dn_c_Desk_setDrawn 23 = .ok (.istore 5, 2) := by decide +kernel
theorem dn_d_Desk_setDrawn_25 : decode dn_c_Desk_setDrawn 25 = .ok (.aload_n 0, 1) := by decide +kernel
theorem dn_d_Desk_setDrawn_26 : decode dn_c_Desk_setDrawn 26 = .ok (.lload_n 1, 1) := by decide +kernel
theorem dn_d_Desk_setDrawn_27 : decode dn_c_Desk_setDrawn 27 = .ok (.putfield 66, 3) := by decide +kernel
theorem dn_d_Desk_setDrawn_30 : decode dn_c_Desk_setDrawn 30 = .ok (.aload_n 0, 1) := by decide +kernel
theorem dn_d_Desk_setDrawn_31 : decode dn_c_Desk_setDrawn 31 = .ok (.lload_n 3, 1) := by decide +kernel
theorem dn_d_Desk_setDrawn_32 : decode dn_c_Desk_setDrawn 32 = .ok (.putfield 70, 3) := by decide +kernel
theorem dn_d_Desk_setDrawn_35 : decode dn_c_Desk_setDrawn 35 = .ok (.iload 5, 2) := by decide +kernel
theorem dn_d_Desk_setDrawn_37 : decode dn_c_Desk_setDrawn 37 = .ok (.ireturn, 1) := by decide +kernel
theorem dn_d_Desk_begin_0 : decode dn_c_Desk_begin 0 = .ok (.aload_n 0, 1) := by decide +kernel
theorem dn_d_Desk_begin_1 : decode dn_c_Desk_begin 1 = .ok (.getfield 28, 3) := by decide +kernel
theorem dn_d_Desk_begin_4 : decode dn_c_Desk_begin 4 = .ok (.invokevirtual 73, 3) := by decide +kernel
theorem dn_d_Desk_begin_7 : decode dn_c_Desk_begin 7 = .ok (.iconst 0, 1) := by decide +kernel
theorem dn_d_Desk_begin_8 : decode dn_c_Desk_begin 8 = .ok (.istore_n 1, 1) := by decide +kernel
theorem dn_d_Desk_begin_9 : decode dn_c_Desk_begin 9 = .ok (.iload_n 1, 1) := by decide +kernel
theorem dn_d_Desk_begin_10 : decode dn_c_Desk_begin 10 = .ok (.iconst 4, 1) := by decide +kernel
theorem dn_d_Desk_begin_11 : decode dn_c_Desk_begin 11 = .ok (.if_icmp .ge 18, 3) := by decide +kernel
theorem dn_d_Desk_begin_14 : decode dn_c_Desk_begin 14 = .ok (.aload_n 0, 1) := by decide +kernel
theorem dn_d_Desk_begin_15 : decode dn_c_Desk_begin 15 = .ok (.getfield 58, 3) := by decide +kernel
theorem dn_d_Desk_begin_18 : decode dn_c_Desk_begin 18 = .ok (.iload_n 1, 1) := by decide +kernel
theorem dn_d_Desk_begin_19 : decode dn_c_Desk_begin 19 = .ok (.aaload, 1) := by decide +kernel
theorem dn_d_Desk_begin_20 : decode dn_c_Desk_begin 20 = .ok (.invokevirtual 76, 3) := by decide +kernel
theorem dn_d_Desk_begin_23 : decode dn_c_Desk_begin 23 = .ok (.iinc 1 1, 3) := by decide +kernel
theorem dn_d_Desk_begin_26 : decode dn_c_Desk_begin 26 = .ok (.goto (-17), 3) := by decide +kernel
theorem dn_d_Desk_begin_29 : decode dn_c_Desk_begin 29 = .ok (.return_, 1) := by decide +kernel
theorem dn_d_Desk_finish_0 : decode dn_c_Desk_finish 0 = .ok (.aload_n 0, 1) := by decide +kernel
theorem dn_d_Desk_finish_1 : decode dn_c_Desk_finish 1 = .ok (.iload_n 1, 1) := by decide +kernel
theorem dn_d_Desk_finish_2 : decode dn_c_Desk_finish 2 = .ok (.ifCond .ne 7, 3) := by decide +kernel
theorem dn_d_Desk_finish_5 : decode dn_c_Desk_finish 5 = .ok (.iconst 1, 1) := by decide +kernel
theorem dn_d_Desk_finish_6 : decode dn_c_Desk_finish 6 = .ok (.goto 4, 3) := by decide +kernel
theorem dn_d_Desk_finish_9 : decode dn_c_Desk_finish 9 = .ok (.iconst 0, 1) := by decide +kernel
theorem dn_d_Desk_finish_10 : decode dn_c_Desk_finish 10 = .ok (.putfield 79, 3) := by decide +kernel
theorem dn_d_Desk_finish_13 : decode dn_c_Desk_finish 13 = .ok (.aload_n 0, 1) := by decide +kernel
theorem dn_d_Desk_finish_14 : decode dn_c_Desk_finish 14 = .ok (.getfield 28, 3) := by decide +kernel
theorem dn_d_Desk_finish_17 : decode dn_c_Desk_finish 17 = .ok (.invokevirtual 83, 3) := by decide +kernel
theorem dn_d_Desk_finish_20 : decode dn_c_Desk_finish 20 = .ok (.return_, 1) := by decide +kernel
theorem dn_d_Desk_openChip_0 : decode dn_c_Desk_openChip 0 = .ok (.aload_n 0, 1) := by decide +kernel
theorem dn_d_Desk_openChip_1 : decode dn_c_Desk_openChip 1 = .ok (.getfield 35, 3) := by decide +kernel
theorem dn_d_Desk_openChip_4 : decode dn_c_Desk_openChip 4 = .ok (.aload_n 0, 1) := by decide +kernel
theorem dn_d_Desk_openChip_5 : decode dn_c_Desk_openChip 5 = .ok (.getfield 12, 3) := by decide +kernel
theorem dn_d_Desk_openChip_8 : decode dn_c_Desk_openChip 8 = .ok (.invokevirtual 86, 3) := by decide +kernel
theorem dn_d_Desk_openChip_11 : decode dn_c_Desk_openChip 11 = .ok (.invokevirtual 90, 3) := by decide +kernel
theorem dn_d_Desk_openChip_14 : decode dn_c_Desk_openChip 14 = .ok (.aload_n 0, 1) := by decide +kernel
theorem dn_d_Desk_openChip_15 : decode dn_c_Desk_openChip 15 = .ok (.getfield 51, 3) := by decide +kernel
theorem dn_d_Desk_openChip_18 : decode dn_c_Desk_openChip 18 = .ok (.invokevirtual 76, 3) := by decide +kernel
theorem dn_d_Desk_openChip_21 : decode dn_c_Desk_openChip 21 = .ok (.aload_n 0, 1) := by decide +kernel
theorem dn_d_Desk_openChip_22 : decode dn_c_Desk_openChip 22 = .ok (.getfield 28, 3) := by decide +kernel
theorem dn_d_Desk_openChip_25 : decode dn_c_Desk_openChip 25 = .ok (.aload_n 0, 1) := by decide +kernel
theorem dn_d_Desk_openChip_26 : decode dn_c_Desk_openChip 26 = .ok (.getfield 51, 3) := by decide +kernel
theorem dn_d_Desk_openChip_29 : decode dn_c_Desk_openChip 29 = .ok (.invokevirtual 94, 3) := by decide +kernel
theorem dn_d_Desk_openChip_32 : decode dn_c_Desk_openChip 32 = .ok (.aload_n 0, 1) := by decide +kernel
theorem dn_d_Desk_openChip_33 : decode dn_c_Desk_openChip 33 = .ok (.getfield 55, 3) := by decide +kernel
theorem dn_d_Desk_openChip_36 : decode dn_c_Desk_openChip 36 = .ok (.invokevirtual 76, 3) := by decide +kernel
theorem dn_d_Desk_openChip_39 : decode dn_c_Desk_openChip 39 = .ok (.aload_n 0, 1) := by decide +kernel
theorem dn_d_Desk_openChip_40 : decode dn_c_Desk_openChip 40 = .ok (.getfield 55, 3) := by decide +kernel
theorem dn_d_Desk_openChip_43 : decode dn_c_Desk_openChip 43 = .ok (.aload_n 0, 1) := by decide +kernel
theorem dn_d_Desk_openChip_44 : decode dn_c_Desk_openChip 44 = .ok (.getfield 62, 3) := by decide +kernel
theorem dn_d_Desk_openChip_47 : decode dn_c_Desk_openChip 47 = .ok (.invokevirtual 98, 3) := by decide +kernel
theorem dn_d_Desk_openChip_50 : decode dn_c_Desk_openChip 50 = .ok (.invokevirtual 103, 3) := by decide +kernel
theorem dn_d_Desk_openChip_53 : decode dn_c_Desk_openChip 53 = .ok (.aload_n 0, 1) := by decide +kernel
theorem dn_d_Desk_openChip_54 : decode dn_c_Desk_openChip 54 = .ok (.getfield 28, 3) := by decide +kernel
theorem dn_d_Desk_openChip_57 : decode dn_c_Desk_openChip 57 = .ok (.aload_n 0, 1) := by decide +kernel
theorem dn_d_Desk_openChip_58 : decode dn_c_Desk_openChip 58 = .ok (.getfield 55, 3) := by decide +kernel
theorem dn_d_Desk_openChip_61 : decode dn_c_Desk_openChip 61 = .ok (.invokevirtual 94, 3) := by decide +kernel
theorem dn_d_Desk_openChip_64 : decode dn_c_Desk_openChip 64 = .ok (.aload_n 0, 1) := by decide +kernel
theorem dn_d_Desk_openChip_65 : decode dn_c_Desk_openChip 65 = .ok (.getfield 55, 3) := by decide +kernel
theorem dn_d_Desk_openChip_68 : decode dn_c_Desk_openChip 68 = .ok (.iconst 0, 1) := by decide +kernel
theorem dn_d_Desk_openChip_69 : decode dn_c_Desk_openChip 69 = .ok (.invokevirtual 106, 3) := by decide +kernel
theorem dn_d_Desk_openChip_72 : decode dn_c_Desk_openChip 72 = .ok (.lstore_n 1, 1) := by decide +kernel
theorem dn_d_Desk_openChip_73 : decode dn_c_Desk_openChip 73 = .ok (.aload_n 0, 1) := by decide +kernel
theorem dn_d_Desk_openChip_74 : decode dn_c_Desk_openChip 74 = .ok (.getfield 35, 3) := by decide +kernel
theorem dn_d_Desk_openChip_77 : decode dn_c_Desk_openChip 77 = .ok (.aload_n 0, 1) := by decide +kernel
theorem dn_d_Desk_openChip_78 : decode dn_c_Desk_openChip 78 = .ok (.getfield 51, 3) := by decide +kernel
theorem dn_d_Desk_openChip_81 : decode dn_c_Desk_openChip 81 = .ok (.aload_n 0, 1) := by decide +kernel
theorem dn_d_Desk_openChip_82 : decode dn_c_Desk_openChip 82 = .ok (.getfield 66, 3) := by decide +kernel
theorem dn_d_Desk_openChip_85 : decode dn_c_Desk_openChip 85 = .ok (.lload_n 1, 1) := by decide +kernel
theorem dn_d_Desk_openChip_86 : decode dn_c_Desk_openChip 86 = .ok (.aload_n 0, 1) := by decide +kernel
theorem dn_d_Desk_openChip_87 : decode dn_c_Desk_openChip 87 = .ok (.getfield 70, 3) := by decide +kernel
theorem dn_d_Desk_openChip_90 : decode dn_c_Desk_openChip 90 = .ok (.invokevirtual 110, 3) := by decide +kernel
theorem dn_d_Desk_openChip_93 : decode dn_c_Desk_openChip 93 = .ok (.aload_n 0, 1) := by decide +kernel
theorem dn_d_Desk_openChip_94 : decode dn_c_Desk_openChip 94 = .ok (.getfield 28, 3) := by decide +kernel
theorem dn_d_Desk_openChip_97 : decode dn_c_Desk_openChip 97 = .ok (.aload_n 0, 1) := by decide +kernel
theorem dn_d_Desk_openChip_98 : decode dn_c_Desk_openChip 98 = .ok (.getfield 51, 3) := by decide +kernel
theorem dn_d_Desk_openChip_101 : decode dn_c_Desk_openChip 101 = .ok (.invokevirtual 94, 3) := by decide +kernel
theorem dn_d_Desk_openChip_104 : decode dn_c_Desk_openChip 104 = .ok (.aload_n 0, 1) := by decide +kernel
theorem dn_d_Desk_openChip_105 : decode dn_c_Desk_openChip 105 = .ok (.getfield 62, 3) := by decide +kernel
theorem dn_d_Desk_openChip_108 : decode dn_c_Desk_openChip 108 = .ok (.aload_n 0, 1) := by decide +kernel
theorem dn_d_Desk_openChip_109 : decode dn_c_Desk_openChip 109 = .ok (.getfield 51, 3) := by decide +kernel
theorem dn_d_Desk_openChip_112 : decode dn_c_Desk_openChip 112 = .ok (.aload_n 0, 1) := by decide +kernel
theorem dn_d_Desk_openChip_113 : decode dn_c_Desk_openChip 113 = .ok (.getfield 55, 3) := by decide +kernel
theorem dn_d_Desk_openChip_116 : decode dn_c_Desk_openChip 116 = .ok (.invokevirtual 114, 3) := by decide +kernel
theorem dn_d_Desk_openChip_119 : decode dn_c_Desk_openChip 119 = .ok (.istore_n 3, 1) := by decide +kernel
theorem dn_d_Desk_openChip_120 : decode dn_c_Desk_openChip 120 = .ok (.aload_n 0, 1) := by decide +kernel
theorem dn_d_Desk_openChip_121 : decode dn_c_Desk_openChip 121 = .ok (.getfield 28, 3) := by decide +kernel
theorem dn_d_Desk_openChip_124 : decode dn_c_Desk_openChip 124 = .ok (.aload_n 0, 1) := by decide +kernel
theorem dn_d_Desk_openChip_125 : decode dn_c_Desk_openChip 125 = .ok (.getfield 55, 3) := by decide +kernel
theorem dn_d_Desk_openChip_128 : decode dn_c_Desk_openChip 128 = .ok (.invokevirtual 94, 3) := by decide +kernel
theorem dn_d_Desk_openChip_131 : decode dn_c_Desk_openChip 131 = .ok (.iload_n 3, 1) := by decide +kernel
theorem dn_d_Desk_openChip_132 : decode dn_c_Desk_openChip 132 = .ok (.ifCond .ne 5, 3) := by decide +kernel
theorem dn_d_Desk_openChip_135 : decode dn_c_Desk_openChip 135 = .ok (.iconst 2, 1) := by decide +kernel
theorem dn_d_Desk_openChip_136 : decode dn_c_Desk_openChip 136 = .ok (.ireturn, 1) := by decide +kernel
theorem dn_d_Desk_openChip_137 : decode dn_c_Desk_openChip 137 = .ok (.aload_n 0, 1) := by decide +kernel
theorem dn_d_Desk_openChip_138 : decode dn_c_Desk_openChip 138 = .ok (.getfield 35, 3) := by decide +kernel
theorem dn_d_Desk_openChip_141 : decode dn_c_Desk_openChip 141 = .ok (.aload_n 0, 1) := by decide +kernel
theorem dn_d_Desk_openChip_142 : decode dn_c_Desk_openChip 142 = .ok (.getfield 55, 3) := by decide +kernel
theorem dn_d_Desk_openChip_145 : decode dn_c_Desk_openChip 145 = .ok (.invokevirtual 118, 3) := by decide +kernel
theorem dn_d_Desk_openChip_148 : decode dn_c_Desk_openChip 148 = .ok (.ifCond .ne 5, 3) := by decide +kernel
theorem dn_d_Desk_openChip_151 : decode dn_c_Desk_openChip 151 = .ok (.iconst 3, 1) := by decide +kernel
theorem dn_d_Desk_openChip_152 : decode dn_c_Desk_openChip 152 = .ok (.ireturn, 1) := by decide +kernel
theorem dn_d_Desk_openChip_153 : decode dn_c_Desk_openChip 153 = .ok (.aload_n 0, 1) := by decide +kernel
theorem dn_d_Desk_openChip_154 : decode dn_c_Desk_openChip 154 = .ok (.getfield 35, 3) := by decide +kernel
theorem dn_d_Desk_openChip_157 : decode dn_c_Desk_openChip 157 = .ok (.aload_n 0, 1) := by decide +kernel
theorem dn_d_Desk_openChip_158 : decode dn_c_Desk_openChip 158 = .ok (.getfield 55, 3) := by decide +kernel
theorem dn_d_Desk_openChip_161 : decode dn_c_Desk_openChip 161 = .ok (.iconst 0, 1) := by decide +kernel
theorem dn_d_Desk_openChip_162 : decode dn_c_Desk_openChip 162 = .ok (.invokevirtual 122, 3) := by decide +kernel
theorem dn_d_Desk_openChip_165 : decode dn_c_Desk_openChip 165 = .ok (.lload_n 1, 1) := by decide +kernel
theorem dn_d_Desk_openChip_166 : decode dn_c_Desk_openChip 166 = .ok (.lcmp, 1) := by decide +kernel
theorem dn_d_Desk_openChip_167 : decode dn_c_Desk_openChip 167 = .ok (.ifCond .ne 23, 3) := by decide +kernel
theorem dn_d_Desk_openChip_170 : decode dn_c_Desk_openChip 170 = .ok (.aload_n 0, 1) := by decide +kernel
theorem dn_d_Desk_openChip_171 : decode dn_c_Desk_openChip 171 = .ok (.getfield 35, 3) := by decide +kernel
theorem dn_d_Desk_openChip_174 : decode dn_c_Desk_openChip 174 = .ok (.aload_n 0, 1) := by decide +kernel
theorem dn_d_Desk_openChip_175 : decode dn_c_Desk_openChip 175 = .ok (.getfield 55, 3) := by decide +kernel
theorem dn_d_Desk_openChip_178 : decode dn_c_Desk_openChip 178 = .ok (.iconst 1, 1) := by decide +kernel
theorem dn_d_Desk_openChip_179 : decode dn_c_Desk_openChip 179 = .ok (.invokevirtual 122, 3) := by decide +kernel
theorem dn_d_Desk_openChip_182 : decode dn_c_Desk_openChip 182 = .ok (.aload_n 0, 1) := by decide +kernel
theorem dn_d_Desk_openChip_183 : decode dn_c_Desk_openChip 183 = .ok (.getfield 66, 3) := by decide +kernel
theorem dn_d_Desk_openChip_186 : decode dn_c_Desk_openChip 186 = .ok (.lcmp, 1) := by decide +kernel
theorem dn_d_Desk_openChip_187 : decode dn_c_Desk_openChip 187 = .ok (.ifCond .eq 5, 3) := by decide +kernel
theorem dn_d_Desk_openChip_190 : decode dn_c_Desk_openChip 190 = .ok (.iconst 4, 1) := by decide +kernel
theorem dn_d_Desk_openChip_191 : decode dn_c_Desk_openChip 191 = .ok (.ireturn, 1) := by decide +kernel
theorem dn_d_Desk_openChip_192 : decode dn_c_Desk_openChip 192 = .ok (.aload_n 0, 1) := by decide +kernel
theorem dn_d_Desk_openChip_193 : decode dn_c_Desk_openChip 193 = .ok (.getfield 42, 3) := by decide +kernel
theorem dn_d_Desk_openChip_196 : decode dn_c_Desk_openChip 196 = .ok (.aload_n 0, 1) := by decide +kernel
theorem dn_d_Desk_openChip_197 : decode dn_c_Desk_openChip 197 = .ok (.getfield 70, 3) := by decide +kernel
theorem dn_d_Desk_openChip_200 : decode dn_c_Desk_openChip 200 = .ok (.aload_n 0, 1) := by decide +kernel
theorem dn_d_Desk_openChip_201 : decode dn_c_Desk_openChip 201 = .ok (.getfield 35, 3) := by decide +kernel
theorem dn_d_Desk_openChip_204 : decode dn_c_Desk_openChip 204 = .ok (.aload_n 0, 1) := by decide +kernel
theorem dn_d_Desk_openChip_205 : decode dn_c_Desk_openChip 205 = .ok (.getfield 55, 3) := by decide +kernel
theorem dn_d_Desk_openChip_208 : decode dn_c_Desk_openChip 208 = .ok (.iconst 2, 1) := by decide +kernel
theorem dn_d_Desk_openChip_209 : decode dn_c_Desk_openChip 209 = .ok (.invokevirtual 122, 3) := by decide +kernel
theorem dn_d_Desk_openChip_212 : decode dn_c_Desk_openChip 212 = .ok (.lxor, 1) := by decide +kernel
theorem dn_d_Desk_openChip_213 : decode dn_c_Desk_openChip 213 = .ok (.lload_n 1, 1) := by decide +kernel
theorem dn_d_Desk_openChip_214 : decode dn_c_Desk_openChip 214 = .ok (.aload_n 0, 1) := by decide +kernel
theorem dn_d_Desk_openChip_215 : decode dn_c_Desk_openChip 215 = .ok (.getfield 66, 3) := by decide +kernel
theorem dn_d_Desk_openChip_218 : decode dn_c_Desk_openChip 218 = .ok (.invokevirtual 126, 3) := by decide +kernel
theorem dn_d_Desk_openChip_221 : decode dn_c_Desk_openChip 221 = .ok (.iconst 0, 1) := by decide +kernel
theorem dn_d_Desk_openChip_222 : decode dn_c_Desk_openChip 222 = .ok (.ireturn, 1) := by decide +kernel
theorem dn_d_Desk_readFiles_0 : decode dn_c_Desk_readFiles 0 = .ok (.iconst 0, 1) := by decide +kernel
theorem dn_d_Desk_readFiles_1 : decode dn_c_Desk_readFiles 1 = .ok (.istore_n 1, 1) := by decide +kernel
theorem dn_d_Desk_readFiles_2 : decode dn_c_Desk_readFiles 2 = .ok (.iload_n 1, 1) := by decide +kernel
theorem dn_d_Desk_readFiles_3 : decode dn_c_Desk_readFiles 3 = .ok (.iconst 4, 1) := by decide +kernel
theorem dn_d_Desk_readFiles_4 : decode dn_c_Desk_readFiles 4 = .ok (.if_icmp .ge 104, 3) := by decide +kernel
theorem dn_d_Desk_readFiles_7 : decode dn_c_Desk_readFiles 7 = .ok (.getstatic 129, 3) := by decide +kernel
theorem dn_d_Desk_readFiles_10 : decode dn_c_Desk_readFiles 10 = .ok (.iload_n 1, 1) := by decide +kernel
theorem dn_d_Desk_readFiles_11 : decode dn_c_Desk_readFiles 11 = .ok (.iaload, 1) := by decide +kernel
theorem dn_d_Desk_readFiles_12 : decode dn_c_Desk_readFiles 12 = .ok (.istore_n 2, 1) := by decide +kernel
theorem dn_d_Desk_readFiles_13 : decode dn_c_Desk_readFiles 13 = .ok (.aload_n 0, 1) := by decide +kernel
theorem dn_d_Desk_readFiles_14 : decode dn_c_Desk_readFiles 14 = .ok (.getfield 62, 3) := by decide +kernel
theorem dn_d_Desk_readFiles_17 : decode dn_c_Desk_readFiles 17 = .ok (.getfield 133, 3) := by decide +kernel
theorem dn_d_Desk_readFiles_20 : decode dn_c_Desk_readFiles 20 = .ok (.iload_n 2, 1) := by decide +kernel
theorem dn_d_Desk_readFiles_21 : decode dn_c_Desk_readFiles 21 = .ok (.aaload, 1) := by decide +kernel
theorem dn_d_Desk_readFiles_22 : decode dn_c_Desk_readFiles 22 = .ok (.invokevirtual 134, 3) := by decide +kernel
theorem dn_d_Desk_readFiles_25 : decode dn_c_Desk_readFiles 25 = .ok (.istore_n 3, 1) := by decide +kernel
theorem dn_d_Desk_readFiles_26 : decode dn_c_Desk_readFiles 26 = .ok (.aload_n 0, 1) := by decide +kernel
theorem dn_d_Desk_readFiles_27 : decode dn_c_Desk_readFiles 27 = .ok (.iconst 1, 1) := by decide +kernel
theorem dn_d_Desk_readFiles_28 : decode dn_c_Desk_readFiles 28 = .ok (.iload_n 2, 1) := by decide +kernel
theorem dn_d_Desk_readFiles_29 : decode dn_c_Desk_readFiles 29 = .ok (.iconst 0, 1) := by decide +kernel
theorem dn_d_Desk_readFiles_30 : decode dn_c_Desk_readFiles 30 = .ok (.aload_n 0, 1) := by decide +kernel
theorem dn_d_Desk_readFiles_31 : decode dn_c_Desk_readFiles 31 = .ok (.getfield 58, 3) := by decide +kernel
theorem dn_d_Desk_readFiles_34 : decode dn_c_Desk_readFiles 34 = .ok (.iload_n 2, 1) := by decide +kernel
theorem dn_d_Desk_readFiles_35 : decode dn_c_Desk_readFiles 35 = .ok (.aaload, 1) := by decide +kernel
theorem dn_d_Desk_readFiles_36 : decode dn_c_Desk_readFiles 36 = .ok (.invokevirtual 138, 3) := by decide +kernel
theorem dn_d_Desk_readFiles_39 : decode dn_c_Desk_readFiles 39 = .ok (.istore 4, 2) := by decide +kernel
theorem dn_d_Desk_readFiles_41 : decode dn_c_Desk_readFiles 41 = .ok (.iconst 0, 1) := by decide +kernel
theorem dn_d_Desk_readFiles_42 : decode dn_c_Desk_readFiles 42 = .ok (.istore 5, 2) := by decide +kernel
theorem dn_d_Desk_readFiles_44 : decode dn_c_Desk_readFiles 44 = .ok (.iload 5, 2) := by decide +kernel
theorem dn_d_Desk_readFiles_46 : decode dn_c_Desk_readFiles 46 = .ok (.iload_n 3, 1) := by decide +kernel
theorem dn_d_Desk_readFiles_47 : decode dn_c_Desk_readFiles 47 = .ok (.if_icmp .ge 47, 3) := by decide +kernel
theorem dn_d_Desk_readFiles_50 : decode dn_c_Desk_readFiles 50 = .ok (.iload 4, 2) := by decide +kernel
theorem dn_d_Desk_readFiles_52 : decode dn_c_Desk_readFiles 52 = .ok (.ifCond .ne 42, 3) := by decide +kernel
theorem dn_d_Desk_readFiles_55 : decode dn_c_Desk_readFiles 55 = .ok (.iconst 4, 1) := by decide +kernel
theorem dn_d_Desk_readFiles_56 : decode dn_c_Desk_readFiles 56 = .ok (.iload_n 3, 1) := by decide +kernel
theorem dn_d_Desk_readFiles_57 : decode dn_c_Desk_readFiles 57 = .ok (.iload 5, 2) := by decide +kernel
theorem dn_d_Desk_readFiles_59 : decode dn_c_Desk_readFiles 59 = .ok (.isub, 1) := by decide +kernel
theorem dn_d_Desk_readFiles_60 : decode dn_c_Desk_readFiles 60 = .ok (.invokestatic 142, 3) := by decide +kernel
theorem dn_d_Desk_readFiles_63 : decode dn_c_Desk_readFiles 63 = .ok (.istore 6, 2) := by decide +kernel
theorem dn_d_Desk_readFiles_65 : decode dn_c_Desk_readFiles 65 = .ok (.aload_n 0, 1) := by decide +kernel
theorem dn_d_Desk_readFiles_66 : decode dn_c_Desk_readFiles 66 = .ok (.iconst 2, 1) := by decide +kernel
theorem dn_d_Desk_readFiles_67 : decode dn_c_Desk_readFiles 67 = .ok (.iload 5, 2) := by decide +kernel
theorem dn_d_Desk_readFiles_69 : decode dn_c_Desk_readFiles 69 = .ok (.bipush 32, 2) := by decide +kernel
theorem dn_d_Desk_readFiles_71 : decode dn_c_Desk_readFiles 71 = .ok (.iload 6, 2) := by decide +kernel
theorem dn_d_Desk_readFiles_73 : decode dn_c_Desk_readFiles 73 = .ok (.imul, 1) := by decide +kernel
theorem dn_d_Desk_readFiles_74 : decode dn_c_Desk_readFiles 74 = .ok (.iadd, 1) := by decide +kernel
theorem dn_d_Desk_readFiles_75 : decode dn_c_Desk_readFiles 75 = .ok (.iload 6, 2) := by decide +kernel
theorem dn_d_Desk_readFiles_77 : decode dn_c_Desk_readFiles 77 = .ok (.aload_n 0, 1) := by decide +kernel
theorem dn_d_Desk_readFiles_78 : decode dn_c_Desk_readFiles 78 = .ok (.getfield 58, 3) := by decide +kernel
theorem dn_d_Desk_readFiles_81 : decode dn_c_Desk_readFiles 81 = .ok (.iload_n 2, 1) := by decide +kernel
theorem dn_d_Desk_readFiles_82 : decode dn_c_Desk_readFiles 82 = .ok (.aaload, 1) := by decide +kernel
theorem dn_d_Desk_readFiles_83 : decode dn_c_Desk_readFiles 83 = .ok (.invokevirtual 138, 3) := by decide +kernel
theorem dn_d_Desk_readFiles_86 : decode dn_c_Desk_readFiles 86 = .ok (.istore 4, 2) := by decide +kernel
theorem dn_d_Desk_readFiles_88 : decode dn_c_Desk_readFiles 88 = .ok (.iinc 5 4, 3) := by decide +kernel
theorem dn_d_Desk_readFiles_91 : decode dn_c_Desk_readFiles 91 = .ok (.goto (-47), 3) := by decide +kernel
theorem dn_d_Desk_readFiles_94 : decode dn_c_Desk_readFiles 94 = .ok (.iload 4, 2) := by decide +kernel
theorem dn_d_Desk_readFiles_96 : decode dn_c_Desk_readFiles 96 = .ok (.ifCond .eq 6, 3) := by decide +kernel
theorem dn_d_Desk_readFiles_99 : decode dn_c_Desk_readFiles 99 = .ok (.iload 4, 2) := by decide +kernel
theorem dn_d_Desk_readFiles_101 : decode dn_c_Desk_readFiles 101 = .ok (.ireturn, 1) := by decide +kernel
theorem dn_d_Desk_readFiles_102 : decode dn_c_Desk_readFiles 102 = .ok (.iinc 1 1, 3) := by decide +kernel
theorem dn_d_Desk_readFiles_105 : decode dn_c_Desk_readFiles 105 = .ok (.goto (-103), 3) := by decide +kernel
theorem dn_d_Desk_readFiles_108 : decode dn_c_Desk_readFiles 108 = .ok (.iconst 0, 1) := by decide +kernel
theorem dn_d_Desk_readFiles_109 : decode dn_c_Desk_readFiles 109 = .ok (.ireturn, 1) := by decide +kernel
theorem dn_d_Desk_ask_0 : decode dn_c_Desk_ask 0 = .ok (.aload_n 0, 1) := by decide +kernel
theorem dn_d_Desk_ask_1 : decode dn_c_Desk_ask 1 = .ok (.getfield 42, 3) := by decide +kernel
theorem dn_d_Desk_ask_4 : decode dn_c_Desk_ask 4 = .ok (.iload_n 2, 1) := by decide +kernel
theorem dn_d_Desk_ask_5 : decode dn_c_Desk_ask 5 = .ok (.i2l, 1) := by decide +kernel
theorem dn_d_Desk_ask_6 : decode dn_c_Desk_ask 6 = .ok (.invokevirtual 148, 3) := by decide +kernel
theorem dn_d_Desk_ask_9 : decode dn_c_Desk_ask 9 = .ok (.lstore 5, 2) := by decide +kernel
theorem dn_d_Desk_ask_11 : decode dn_c_Desk_ask 11 = .ok (.aload_n 0, 1) := by decide +kernel
theorem dn_d_Desk_ask_12 : decode dn_c_Desk_ask 12 = .ok (.getfield 51, 3) := by decide +kernel
theorem dn_d_Desk_ask_15 : decode dn_c_Desk_ask 15 = .ok (.invokevirtual 76, 3) := by decide +kernel
theorem dn_d_Desk_ask_18 : decode dn_c_Desk_ask 18 = .ok (.aload_n 0, 1) := by decide +kernel
theorem dn_d_Desk_ask_19 : decode dn_c_Desk_ask 19 = .ok (.getfield 51, 3) := by decide +kernel
theorem dn_d_Desk_ask_22 : decode dn_c_Desk_ask 22 = .ok (.iload_n 1, 1) := by decide +kernel
theorem dn_d_Desk_ask_23 : decode dn_c_Desk_ask 23 = .ok (.i2l, 1) := by decide +kernel
theorem dn_d_Desk_ask_24 : decode dn_c_Desk_ask 24 = .ok (.invokevirtual 103, 3) := by decide +kernel
theorem dn_d_Desk_ask_27 : decode dn_c_Desk_ask 27 = .ok (.aload_n 0, 1) := by decide +kernel
theorem dn_d_Desk_ask_28 : decode dn_c_Desk_ask 28 = .ok (.getfield 51, 3) := by decide +kernel
theorem dn_d_Desk_ask_31 : decode dn_c_Desk_ask 31 = .ok (.lload 5, 2) := by decide +kernel
theorem dn_d_Desk_ask_33 : decode dn_c_Desk_ask 33 = .ok (.invokevirtual 103, 3) := by decide +kernel
theorem dn_d_Desk_ask_36 : decode dn_c_Desk_ask 36 = .ok (.aload_n 0, 1) := by decide +kernel
theorem dn_d_Desk_ask_37 : decode dn_c_Desk_ask 37 = .ok (.getfield 51, 3) := by decide +kernel
theorem dn_d_Desk_ask_40 : decode dn_c_Desk_ask 40 = .ok (.aload_n 0, 1) := by decide +kernel
theorem dn_d_Desk_ask_41 : decode dn_c_Desk_ask 41 = .ok (.getfield 42, 3) := by decide +kernel
theorem dn_d_Desk_ask_44 : decode dn_c_Desk_ask 44 = .ok (.iload_n 1, 1) := by decide +kernel
theorem dn_d_Desk_ask_45 : decode dn_c_Desk_ask 45 = .ok (.i2l, 1) := by decide +kernel
theorem dn_d_Desk_ask_46 : decode dn_c_Desk_ask 46 = .ok (.lload 5, 2) := by decide +kernel
theorem dn_d_Desk_ask_48 : decode dn_c_Desk_ask 48 = .ok (.invokevirtual 152, 3) := by decide +kernel
theorem dn_d_Desk_ask_51 : decode dn_c_Desk_ask 51 = .ok (.invokevirtual 103, 3) := by decide +kernel
theorem dn_d_Desk_ask_54 : decode dn_c_Desk_ask 54 = .ok (.aload_n 0, 1) := by decide +kernel
theorem dn_d_Desk_ask_55 : decode dn_c_Desk_ask 55 = .ok (.getfield 42, 3) := by decide +kernel
theorem dn_d_Desk_ask_58 : decode dn_c_Desk_ask 58 = .ok (.invokevirtual 156, 3) := by decide +kernel
theorem dn_d_Desk_ask_61 : decode dn_c_Desk_ask 61 = .ok (.aload_n 0, 1) := by decide +kernel
theorem dn_d_Desk_ask_62 : decode dn_c_Desk_ask 62 = .ok (.getfield 28, 3) := by decide +kernel
theorem dn_d_Desk_ask_65 : decode dn_c_Desk_ask 65 = .ok (.aload_n 0, 1) := by decide +kernel
theorem dn_d_Desk_ask_66 : decode dn_c_Desk_ask 66 = .ok (.getfield 51, 3) := by decide +kernel
theorem dn_d_Desk_ask_69 : decode dn_c_Desk_ask 69 = .ok (.invokevirtual 94, 3) := by decide +kernel
theorem dn_d_Desk_ask_72 : decode dn_c_Desk_ask 72 = .ok (.aload_n 0, 1) := by decide +kernel
theorem dn_d_Desk_ask_73 : decode dn_c_Desk_ask 73 = .ok (.getfield 62, 3) := by decide +kernel
theorem dn_d_Desk_ask_76 : decode dn_c_Desk_ask 76 = .ok (.aload_n 0, 1) := by decide +kernel
theorem dn_d_Desk_ask_77 : decode dn_c_Desk_ask 77 = .ok (.getfield 51, 3) := by decide +kernel
theorem dn_d_Desk_ask_80 : decode dn_c_Desk_ask 80 = .ok (.iconst 0, 1) := by decide +kernel
theorem dn_d_Desk_ask_81 : decode dn_c_Desk_ask 81 = .ok (.invokevirtual 106, 3) := by decide +kernel
theorem dn_d_Desk_ask_84 : decode dn_c_Desk_ask 84 = .ok (.aload_n 0, 1) := by decide +kernel
theorem dn_d_Desk_ask_85 : decode dn_c_Desk_ask 85 = .ok (.getfield 51, 3) := by decide +kernel
theorem dn_d_Desk_ask_88 : decode dn_c_Desk_ask 88 = .ok (.iconst 1, 1) := by decide +kernel
theorem dn_d_Desk_ask_89 : decode dn_c_Desk_ask 89 = .ok (.invokevirtual 106, 3) := by decide +kernel
theorem dn_d_Desk_ask_92 : decode dn_c_Desk_ask 92 = .ok (.aload_n 0, 1) := by decide +kernel
theorem dn_d_Desk_ask_93 : decode dn_c_Desk_ask 93 = .ok (.getfield 51, 3) := by decide +kernel
theorem dn_d_Desk_ask_96 : decode dn_c_Desk_ask 96 = .ok (.iconst 2, 1) := by decide +kernel
theorem dn_d_Desk_ask_97 : decode dn_c_Desk_ask 97 = .ok (.invokevirtual 106, 3) := by decide +kernel
theorem dn_d_Desk_ask_100 : decode dn_c_Desk_ask 100 = .ok (.aload_n 0, 1) := by decide +kernel
theorem dn_d_Desk_ask_101 : decode dn_c_Desk_ask 101 = .ok (.getfield 55, 3) := by decide +kernel
theorem dn_d_Desk_ask_104 : decode dn_c_Desk_ask 104 = .ok (.invokevirtual 159, 3) := by decide +kernel
theorem dn_d_Desk_ask_107 : decode dn_c_Desk_ask 107 = .ok (.istore 7, 2) := by decide +kernel
theorem dn_d_Desk_ask_109 : decode dn_c_Desk_ask 109 = .ok (.aload_n 0, 1) := by decide +kernel
theorem dn_d_Desk_ask_110 : decode dn_c_Desk_ask 110 = .ok (.getfield 28, 3) := by decide +kernel
theorem dn_d_Desk_ask_113 : decode dn_c_Desk_ask 113 = .ok (.aload_n 0, 1) := by decide +kernel
theorem dn_d_Desk_ask_114 : decode dn_c_Desk_ask 114 = .ok (.getfield 55, 3) := by decide +kernel
theorem dn_d_Desk_ask_117 : decode dn_c_Desk_ask 117 = .ok (.invokevirtual 94, 3) := by decide +kernel
theorem dn_d_Desk_ask_120 : decode dn_c_Desk_ask 120 = .ok (.iload 7, 2) := by decide +kernel
theorem dn_d_Desk_ask_122 : decode dn_c_Desk_ask 122 = .ok (.ifCond .eq 5, 3) := by decide +kernel
theorem dn_d_Desk_ask_125 : decode dn_c_Desk_ask 125 = .ok (.iconst 5, 1) := by decide +kernel
theorem dn_d_Desk_ask_126 : decode dn_c_Desk_ask 126 = .ok (.ireturn, 1) := by decide +kernel
theorem dn_d_Desk_ask_127 : decode dn_c_Desk_ask 127 = .ok (.aload_n 0, 1) := by decide +kernel
theorem dn_d_Desk_ask_128 : decode dn_c_Desk_ask 128 = .ok (.getfield 42, 3) := by decide +kernel
theorem dn_d_Desk_ask_131 : decode dn_c_Desk_ask 131 = .ok (.aload_n 0, 1) := by decide +kernel
theorem dn_d_Desk_ask_132 : decode dn_c_Desk_ask 132 = .ok (.getfield 55, 3) := by decide +kernel
theorem dn_d_Desk_ask_135 : decode dn_c_Desk_ask 135 = .ok (.iload_n 3, 1) := by decide +kernel
theorem dn_d_Desk_ask_136 : decode dn_c_Desk_ask 136 = .ok (.aload 4, 2) := by decide +kernel
theorem dn_d_Desk_ask_138 : decode dn_c_Desk_ask 138 = .ok (.invokevirtual 163, 3) := by decide +kernel
theorem dn_d_Desk_ask_141 : decode dn_c_Desk_ask 141 = .ok (.ifCond .eq 7, 3) := by decide +kernel
theorem dn_d_Desk_ask_144 : decode dn_c_Desk_ask 144 = .ok (.iconst 0, 1) := by decide +kernel
theorem dn_d_Desk_ask_145 : decode dn_c_Desk_ask 145 = .ok (.goto 4, 3) := by decide +kernel
theorem dn_d_Desk_ask_148 : decode dn_c_Desk_ask 148 = .ok (.iconst 3, 1) := by decide +kernel
theorem dn_d_Desk_ask_149 : decode dn_c_Desk_ask 149 = .ok (.ireturn, 1) := by decide +kernel
theorem dn_d_Desk_judge_0 : decode dn_c_Desk_judge 0 = .ok (.aload_n 0, 1) := by decide +kernel
theorem dn_d_Desk_judge_1 : decode dn_c_Desk_judge 1 = .ok (.getfield 58, 3) := by decide +kernel
theorem dn_d_Desk_judge_4 : decode dn_c_Desk_judge 4 = .ok (.iconst 0, 1) := by decide +kernel
theorem dn_d_Desk_judge_5 : decode dn_c_Desk_judge 5 = .ok (.aaload, 1) := by decide +kernel
theorem dn_d_Desk_judge_6 : decode dn_c_Desk_judge 6 = .ok (.astore_n 1, 1) := by decide +kernel
theorem dn_d_Desk_judge_7 : decode dn_c_Desk_judge 7 = .ok (.aload_n 0, 1) := by decide +kernel
theorem dn_d_Desk_judge_8 : decode dn_c_Desk_judge 8 = .ok (.getfield 58, 3) := by decide +kernel
theorem dn_d_Desk_judge_11 : decode dn_c_Desk_judge 11 = .ok (.iconst 3, 1) := by decide +kernel
theorem dn_d_Desk_judge_12 : decode dn_c_Desk_judge 12 = .ok (.aaload, 1) := by decide +kernel
theorem dn_d_Desk_judge_13 : decode dn_c_Desk_judge 13 = .ok (.astore_n 2, 1) := by decide +kernel
theorem dn_d_Desk_judge_14 : decode dn_c_Desk_judge 14 = .ok (.aload_n 1, 1) := by decide +kernel
theorem dn_d_Desk_judge_15 : decode dn_c_Desk_judge 15 = .ok (.invokevirtual 134, 3) := by decide +kernel
theorem dn_d_Desk_judge_18 : decode dn_c_Desk_judge 18 = .ok (.iconst 1, 1) := by decide +kernel
theorem dn_d_Desk_judge_19 : decode dn_c_Desk_judge 19 = .ok (.if_icmp .ne 23, 3) := by decide +kernel
theorem dn_d_Desk_judge_22 : decode dn_c_Desk_judge 22 = .ok (.aload_n 1, 1) := by decide +kernel
theorem dn_d_Desk_judge_23 : decode dn_c_Desk_judge 23 = .ok (.iconst 0, 1) := by decide +kernel
theorem dn_d_Desk_judge_24 : decode dn_c_Desk_judge 24 = .ok (.invokevirtual 106, 3) := by decide +kernel
theorem dn_d_Desk_judge_27 : decode dn_c_Desk_judge 27 = .ok (.ldc2_w 167, 3) := by decide +kernel
theorem dn_d_Desk_judge_30 : decode dn_c_Desk_judge 30 = .ok (.lcmp, 1) := by decide +kernel
theorem dn_d_Desk_judge_31 : decode dn_c_Desk_judge 31 = .ok (.ifCond .ne 11, 3) := by decide +kernel
theorem dn_d_Desk_judge_34 : decode dn_c_Desk_judge 34 = .ok (.aload_n 2, 1) := by decide +kernel
theorem dn_d_Desk_judge_35 : decode dn_c_Desk_judge 35 = .ok (.invokevirtual 134, 3) := by decide +kernel
theorem dn_d_Desk_judge_38 : decode dn_c_Desk_judge 38 = .ok (.iconst 4, 1) := by decide +kernel
theorem dn_d_Desk_judge_39 : decode dn_c_Desk_judge 39 = .ok (.if_icmp .eq 6, 3) := by decide +kernel
theorem dn_d_Desk_judge_42 : decode dn_c_Desk_judge 42 = .ok (.bipush 6, 2) := by decide +kernel
theorem dn_d_Desk_judge_44 : decode dn_c_Desk_judge 44 = .ok (.ireturn, 1) := by decide +kernel
theorem dn_d_Desk_judge_45 : decode dn_c_Desk_judge 45 = .ok (.aload_n 2, 1) := by decide +kernel
theorem dn_d_Desk_judge_46 : decode dn_c_Desk_judge 46 = .ok (.iconst 0, 1) := by decide +kernel
theorem dn_d_Desk_judge_47 : decode dn_c_Desk_judge 47 = .ok (.invokevirtual 106, 3) := by decide +kernel
theorem dn_d_Desk_judge_50 : decode dn_c_Desk_judge 50 = .ok (.aload_n 0, 1) := by decide +kernel
theorem dn_d_Desk_judge_51 : decode dn_c_Desk_judge 51 = .ok (.getfield 58, 3) := by decide +kernel
theorem dn_d_Desk_judge_54 : decode dn_c_Desk_judge 54 = .ok (.iconst 1, 1) := by decide +kernel
theorem dn_d_Desk_judge_55 : decode dn_c_Desk_judge 55 = .ok (.aaload, 1) := by decide +kernel
theorem dn_d_Desk_judge_56 : decode dn_c_Desk_judge 56 = .ok (.invokestatic 169, 3) := by decide +kernel
theorem dn_d_Desk_judge_59 : decode dn_c_Desk_judge 59 = .ok (.lcmp, 1) := by decide +kernel
theorem dn_d_Desk_judge_60 : decode dn_c_Desk_judge 60 = .ok (.ifCond .ne 21, 3) := by decide +kernel
theorem dn_d_Desk_judge_63 : decode dn_c_Desk_judge 63 = .ok (.aload_n 2, 1) := by decide +kernel
theorem dn_d_Desk_judge_64 : decode dn_c_Desk_judge 64 = .ok (.iconst 1, 1) := by decide +kernel
theorem dn_d_Desk_judge_65 : decode dn_c_Desk_judge 65 = .ok (.invokevirtual 106, 3) := by decide +kernel
theorem dn_d_Desk_judge_68 : decode dn_c_Desk_judge 68 = .ok (.aload_n 0, 1) := by decide +kernel
theorem dn_d_Desk_judge_69 : decode dn_c_Desk_judge 69 = .ok (.getfield 58, 3) := by decide +kernel
theorem dn_d_Desk_judge_72 : decode dn_c_Desk_judge 72 = .ok (.iconst 2, 1) := by decide +kernel
theorem dn_d_Desk_judge_73 : decode dn_c_Desk_judge 73 = .ok (.aaload, 1) := by decide +kernel
theorem dn_d_Desk_judge_74 : decode dn_c_Desk_judge 74 = .ok (.invokestatic 169, 3) := by decide +kernel
theorem dn_d_Desk_judge_77 : decode dn_c_Desk_judge 77 = .ok (.lcmp, 1) := by decide +kernel
theorem dn_d_Desk_judge_78 : decode dn_c_Desk_judge 78 = .ok (.ifCond .eq 6, 3) := by decide +kernel
theorem dn_d_Desk_judge_81 : decode dn_c_Desk_judge 81 = .ok (.bipush 7, 2) := by decide +kernel
theorem dn_d_Desk_judge_83 : decode dn_c_Desk_judge 83 = .ok (.ireturn, 1) := by decide +kernel
theorem dn_d_Desk_judge_84 : decode dn_c_Desk_judge 84 = .ok (.aload_n 0, 1) := by decide +kernel
theorem dn_d_Desk_judge_85 : decode dn_c_Desk_judge 85 = .ok (.getfield 21, 3) := by decide +kernel
theorem dn_d_Desk_judge_88 : decode dn_c_Desk_judge 88 = .ok (.aload_n 2, 1) := by decide +kernel
theorem dn_d_Desk_judge_89 : decode dn_c_Desk_judge 89 = .ok (.iconst 2, 1) := by decide +kernel
theorem dn_d_Desk_judge_90 : decode dn_c_Desk_judge 90 = .ok (.invokevirtual 106, 3) := by decide +kernel
theorem dn_d_Desk_judge_93 : decode dn_c_Desk_judge 93 = .ok (.invokevirtual 175, 3) := by decide +kernel
theorem dn_d_Desk_judge_96 : decode dn_c_Desk_judge 96 = .ok (.istore_n 3, 1) := by decide +kernel
theorem dn_d_Desk_judge_97 : decode dn_c_Desk_judge 97 = .ok (.iload_n 3, 1) := by decide +kernel
theorem dn_d_Desk_judge_98 : decode dn_c_Desk_judge 98 = .ok (.ifCond .ge 6, 3) := by decide +kernel
theorem dn_d_Desk_judge_101 : decode dn_c_Desk_judge 101 = .ok (.bipush 8, 2) := by decide +kernel
theorem dn_d_Desk_judge_103 : decode dn_c_Desk_judge 103 = .ok (.ireturn, 1) := by decide +kernel
theorem dn_d_Desk_judge_104 : decode dn_c_Desk_judge 104 = .ok (.aload_n 0, 1) := by decide +kernel
theorem dn_d_Desk_judge_105 : decode dn_c_Desk_judge 105 = .ok (.getfield 21, 3) := by decide +kernel
theorem dn_d_Desk_judge_108 : decode dn_c_Desk_judge 108 = .ok (.iload_n 3, 1) := by decide +kernel
theorem dn_d_Desk_judge_109 : decode dn_c_Desk_judge 109 = .ok (.aload_n 2, 1) := by decide +kernel
theorem dn_d_Desk_judge_110 : decode dn_c_Desk_judge 110 = .ok (.invokestatic 178, 3) := by decide +kernel
theorem dn_d_Desk_judge_113 : decode dn_c_Desk_judge 113 = .ok (.aload_n 2, 1) := by decide +kernel
theorem dn_d_Desk_judge_114 : decode dn_c_Desk_judge 114 = .ok (.iconst 3, 1) := by decide +kernel
theorem dn_d_Desk_judge_115 : decode dn_c_Desk_judge 115 = .ok (.invokevirtual 106, 3) := by decide +kernel
theorem dn_d_Desk_judge_118 : decode dn_c_Desk_judge 118 = .ok (.invokevirtual 181, 3) := by decide +kernel
theorem dn_d_Desk_judge_121 : decode dn_c_Desk_judge 121 = .ok (.ifCond .ne 6, 3) := by decide +kernel
theorem dn_d_Desk_judge_124 : decode dn_c_Desk_judge 124 = .ok (.bipush 9, 2) := by decide +kernel
theorem dn_d_Desk_judge_126 : decode dn_c_Desk_judge 126 = .ok (.ireturn, 1) := by decide +kernel
theorem dn_d_Desk_judge_127 : decode dn_c_Desk_judge 127 = .ok (.aload_n 0, 1) := by decide +kernel
theorem dn_d_Desk_judge_128 : decode dn_c_Desk_judge 128 = .ok (.getfield 12, 3) := by decide +kernel
theorem dn_d_Desk_judge_131 : decode dn_c_Desk_judge 131 = .ok (.aload_n 0, 1) := by decide +kernel
theorem dn_d_Desk_judge_132 : decode dn_c_Desk_judge 132 = .ok (.getfield 58, 3) := by decide +kernel
theorem dn_d_Desk_judge_135 : decode dn_c_Desk_judge 135 = .ok (.iconst 1, 1) := by decide +kernel
theorem dn_d_Desk_judge_136 : decode dn_c_Desk_judge 136 = .ok (.aaload, 1) := by decide +kernel
theorem dn_d_Desk_judge_137 : decode dn_c_Desk_judge 137 = .ok (.invokevirtual 185, 3) := by decide +kernel
theorem dn_d_Desk_judge_140 : decode dn_c_Desk_judge 140 = .ok (.ifCond .eq 7, 3) := by decide +kernel
theorem dn_d_Desk_judge_143 : decode dn_c_Desk_judge 143 = .ok (.iconst 0, 1) := by decide +kernel
theorem dn_d_Desk_judge_144 : decode dn_c_Desk_judge 144 = .ok (.goto 5, 3) := by decide +kernel
theorem dn_d_Desk_judge_147 : decode dn_c_Desk_judge 147 = .ok (.bipush 10, 2) := by decide +kernel
theorem dn_d_Desk_judge_149 : decode dn_c_Desk_judge 149 = .ok (.ireturn, 1) := by decide +kernel
theorem dn_d_Doc_init_0 : decode dn_c_Doc_init 0 = .ok (.aload_n 0, 1) := by decide +kernel
theorem dn_d_Doc_init_1 : decode dn_c_Doc_init 1 = .ok (.invokespecial 1, 3) := by decide +kernel
theorem dn_d_Doc_init_4 : decode dn_c_Doc_init 4 = .ok (.aload_n 0, 1) := by decide +kernel
theorem dn_d_Doc_init_5 : decode dn_c_Doc_init 5 = .ok (.new 7, 3) := by decide +kernel
theorem dn_d_Doc_init_8 : decode dn_c_Doc_init 8 = .ok (.dup, 1) := by decide +kernel
theorem dn_d_Doc_init_9 : decode dn_c_Doc_init 9 = .ok (.iconst 4, 1) := by decide +kernel
theorem dn_d_Doc_init_10 : decode dn_c_Doc_init 10 = .ok (.invokespecial 11, 3) := by decide +kernel
theorem dn_d_Doc_init_13 : decode dn_c_Doc_init 13 = .ok (.putfield 14, 3) := by decide +kernel
theorem dn_d_Doc_init_16 : decode dn_c_Doc_init 16 = .ok (.aload_n 0, 1) := by decide +kernel
theorem dn_d_Doc_init_17 : decode dn_c_Doc_init 17 = .ok (.new 7, 3) := by decide +kernel
theorem dn_d_Doc_init_20 : decode dn_c_Doc_init 20 = .ok (.dup, 1) := by decide +kernel
theorem dn_d_Doc_init_21 : decode dn_c_Doc_init 21 = .ok (.iconst 4, 1) := by decide +kernel
theorem dn_d_Doc_init_22 : decode dn_c_Doc_init 22 = .ok (.invokespecial 11, 3) := by decide +kernel
theorem dn_d_Doc_init_25 : decode dn_c_Doc_init 25 = .ok (.putfield 20, 3) := by decide +kernel
theorem dn_d_Doc_init_28 : decode dn_c_Doc_init 28 = .ok (.aload_n 0, 1) := by decide +kernel
theorem dn_d_Doc_init_29 : decode dn_c_Doc_init 29 = .ok (.new 7, 3) := by decide +kernel
theorem dn_d_Doc_init_32 : decode dn_c_Doc_init 32 = .ok (.dup, 1) := by decide +kernel
theorem dn_d_Doc_init_33 : decode dn_c_Doc_init 33 = .ok (.bipush 6, 2) := by decide +kernel
theorem dn_d_Doc_init_35 : decode dn_c_Doc_init 35 = .ok (.invokespecial 11, 3) := by decide +kernel
theorem dn_d_Doc_init_38 : decode dn_c_Doc_init 38 = .ok (.putfield 23, 3) := by decide +kernel
theorem dn_d_Doc_init_41 : decode dn_c_Doc_init 41 = .ok (.aload_n 0, 1) := by decide +kernel
theorem dn_d_Doc_init_42 : decode dn_c_Doc_init 42 = .ok (.new 26, 3) := by decide +kernel
theorem dn_d_Doc_init_45 : decode dn_c_Doc_init 45 = .ok (.dup, 1) := by decide +kernel
theorem dn_d_Doc_init_46 : decode dn_c_Doc_init 46 = .ok (.iload_n 1, 1) := by decide +kernel
theorem dn_d_Doc_init_47 : decode dn_c_Doc_init 47 = .ok (.iload_n 2, 1) := by decide +kernel
theorem dn_d_Doc_init_48 : decode dn_c_Doc_init 48 = .ok (.iload_n 3, 1) := by decide +kernel
theorem dn_d_Doc_init_49 : decode dn_c_Doc_init 49 = .ok (.invokespecial 28, 3) := by decide +kernel
theorem dn_d_Doc_init_52 : decode dn_c_Doc_init 52 = .ok (.putfield 31, 3) := by decide +kernel
theorem dn_d_Doc_init_55 : decode dn_c_Doc_init 55 = .ok (.aload_n 0, 1) := by decide +kernel
theorem dn_d_Doc_init_56 : decode dn_c_Doc_init 56 = .ok (.new 35, 3) := by decide +kernel
theorem dn_d_Doc_init_59 : decode dn_c_Doc_init 59 = .ok (.dup, 1) := by decide +kernel
theorem dn_d_Doc_init_60 : decode dn_c_Doc_init 60 = .ok (.aload_n 0, 1) := by decide +kernel
theorem dn_d_Doc_init_61 : decode dn_c_Doc_init 61 = .ok (.getfield 31, 3) := by decide +kernel
theorem dn_d_Doc_init_64 : decode dn_c_Doc_init 64 = .ok (.invokespecial 37, 3) := by decide +kernel
theorem dn_d_Doc_init_67 : decode dn_c_Doc_init 67 = .ok (.putfield 40, 3) := by decide +kernel
theorem dn_d_Doc_init_70 : decode dn_c_Doc_init 70 = .ok (.return_, 1) := by decide +kernel
theorem dn_d_Doc_digest_0 : decode dn_c_Doc_digest 0 = .ok (.lload_n 1, 1) := by decide +kernel
theorem dn_d_Doc_digest_1 : decode dn_c_Doc_digest 1 = .ok (.lload_n 3, 1) := by decide +kernel
theorem dn_d_Doc_digest_2 : decode dn_c_Doc_digest 2 = .ok (.invokestatic 44, 3) := by decide +kernel
theorem dn_d_Doc_digest_5 : decode dn_c_Doc_digest 5 = .ok (.lreturn, 1) := by decide +kernel
theorem dn_d_Doc_cipher_0 : decode dn_c_Doc_cipher 0 = .ok (.lload_n 1, 1) := by decide +kernel
theorem dn_d_Doc_cipher_1 : decode dn_c_Doc_cipher 1 = .ok (.lload_n 3, 1) := by decide +kernel
theorem dn_d_Doc_cipher_2 : decode dn_c_Doc_cipher 2 = .ok (.invokestatic 50, 3) := by decide +kernel
theorem dn_d_Doc_cipher_5 : decode dn_c_Doc_cipher 5 = .ok (.lreturn, 1) := by decide +kernel
theorem dn_d_Doc_load_0 : decode dn_c_Doc_load 0 = .ok (.iload_n 1, 1) := by decide +kernel
theorem dn_d_Doc_load_1 : decode dn_c_Doc_load 1 = .ok (.i2l, 1) := by decide +kernel
theorem dn_d_Doc_load_2 : decode dn_c_Doc_load 2 = .ok (.invokestatic 53, 3) := by decide +kernel
theorem dn_d_Doc_load_5 : decode dn_c_Doc_load 5 = .ok (.ifCond .ne 13, 3) := by decide +kernel
theorem dn_d_Doc_load_8 : decode dn_c_Doc_load 8 = .ok (.new 57, 3) := by decide +kernel
theorem dn_d_Doc_load_11 : decode dn_c_Doc_load 11 = .ok (.dup, 1) := by decide +kernel
theorem dn_d_Doc_load_12 : decode dn_c_Doc_load 12 = .ok (.ldc 59, 2) := by decide +kernel
theorem dn_d_Doc_load_14 : decode dn_c_Doc_load 14 = .ok (.invokespecial 61, 3) := by decide +kernel
theorem dn_d_Doc_load_17 : decode dn_c_Doc_load 17 = .ok (.athrow, 1) := by decide +kernel
theorem dn_d_Doc_load_18 : decode dn_c_Doc_load 18 = .ok (.aload_n 0, 1) := by decide +kernel
theorem dn_d_Doc_load_19 : decode dn_c_Doc_load 19 = .ok (.getfield 31, 3) := by decide +kernel
theorem dn_d_Doc_load_22 : decode dn_c_Doc_load 22 = .ok (.getfield 64, 3) := by decide +kernel
theorem dn_d_Doc_load_25 : decode dn_c_Doc_load 25 = .ok (.iload_n 1, 1) := by decide +kernel
theorem dn_d_Doc_load_26 : decode dn_c_Doc_load 26 = .ok (.aaload, 1) := by decide +kernel
theorem dn_d_Doc_load_27 : decode dn_c_Doc_load 27 = .ok (.astore 4, 2) := by decide +kernel
theorem dn_d_Doc_load_29 : decode dn_c_Doc_load 29 = .ok (.aload 4, 2) := by decide +kernel
theorem dn_d_Doc_load_31 : decode dn_c_Doc_load 31 = .ok (.invokevirtual 68, 3) := by decide +kernel
theorem dn_d_Doc_load_34 : decode dn_c_Doc_load 34 = .ok (.ifCond .eq 13, 3) := by decide +kernel
theorem dn_d_Doc_load_37 : decode dn_c_Doc_load 37 = .ok (.new 72, 3) := by decide +kernel
theorem dn_d_Doc_load_40 : decode dn_c_Doc_load 40 = .ok (.dup, 1) := by decide +kernel
theorem dn_d_Doc_load_41 : decode dn_c_Doc_load 41 = .ok (.ldc 74, 2) := by decide +kernel
theorem dn_d_Doc_load_43 : decode dn_c_Doc_load 43 = .ok (.invokespecial 76, 3) := by decide +kernel
theorem dn_d_Doc_load_46 : decode dn_c_Doc_load 46 = .ok (.athrow, 1) := by decide +kernel
theorem dn_d_Doc_load_47 : decode dn_c_Doc_load 47 = .ok (.aload 4, 2) := by decide +kernel
theorem dn_d_Doc_load_49 : decode dn_c_Doc_load 49 = .ok (.lload_n 2, 1) := by decide +kernel
theorem dn_d_Doc_load_50 : decode dn_c_Doc_load 50 = .ok (.invokevirtual 77, 3) := by decide +kernel
theorem dn_d_Doc_load_53 : decode dn_c_Doc_load 53 = .ok (.aload 4, 2) := by decide +kernel
theorem dn_d_Doc_load_55 : decode dn_c_Doc_load 55 = .ok (.invokevirtual 81, 3) := by decide +kernel
theorem dn_d_Doc_load_58 : decode dn_c_Doc_load 58 = .ok (.ireturn, 1) := by decide +kernel
theorem dn_d_Doc_sign_0 : decode dn_c_Doc_sign 0 = .ok (.aload_n 0, 1) := by decide +kernel
theorem dn_d_Doc_sign_1 : decode dn_c_Doc_sign 1 = .ok (.getfield 31, 3) := by decide +kernel
theorem dn_d_Doc_sign_4 : decode dn_c_Doc_sign 4 = .ok (.lload_n 1, 1) := by decide +kernel
theorem dn_d_Doc_sign_5 : decode dn_c_Doc_sign 5 = .ok (.invokevirtual 85, 3) := by decide +kernel
theorem dn_d_Doc_sign_8 : decode dn_c_Doc_sign 8 = .ok (.lreturn, 1) := by decide +kernel
theorem dn_d_Doc_print_0 : decode dn_c_Doc_print 0 = .ok (.iload_n 1, 1) := by decide +kernel
theorem dn_d_Doc_print_1 : decode dn_c_Doc_print 1 = .ok (.invokestatic 89, 3) := by decide +kernel
theorem dn_d_Doc_print_4 : decode dn_c_Doc_print 4 = .ok (.ifCond .ne 13, 3) := by decide +kernel
theorem dn_d_Doc_print_7 : decode dn_c_Doc_print 7 = .ok (.new 57, 3) := by decide +kernel
theorem dn_d_Doc_print_10 : decode dn_c_Doc_print 10 = .ok (.dup, 1) := by decide +kernel
theorem dn_d_Doc_print_11 : decode dn_c_Doc_print 11 = .ok (.ldc 95, 2) := by decide +kernel
theorem dn_d_Doc_print_13 : decode dn_c_Doc_print 13 = .ok (.invokespecial 61, 3) := by decide +kernel
theorem dn_d_Doc_print_16 : decode dn_c_Doc_print 16 = .ok (.athrow, 1) := by decide +kernel
theorem dn_d_Doc_print_17 : decode dn_c_Doc_print 17 = .ok (.iload_n 1, 1) := by decide +kernel
theorem dn_d_Doc_print_18 : decode dn_c_Doc_print 18 = .ok (.iload_n 2, 1) := by decide +kernel
theorem dn_d_Doc_print_19 : decode dn_c_Doc_print 19 = .ok (.invokestatic 97, 3) := by decide +kernel
theorem dn_d_Doc_print_22 : decode dn_c_Doc_print 22 = .ok (.ifCond .eq 13, 3) := by decide +kernel
theorem dn_d_Doc_print_25 : decode dn_c_Doc_print 25 = .ok (.iload_n 3, 1) := by decide +kernel
theorem dn_d_Doc_print_26 : decode dn_c_Doc_print 26 = .ok (.ifCond .lt 9, 3) := by decide +kernel
theorem dn_d_Doc_print_29 : decode dn_c_Doc_print 29 = .ok (.iload_n 3, 1) := by decide +kernel
theorem dn_d_Doc_print_30 : decode dn_c_Doc_print 30 = .ok (.bipush 9, 2) := by decide +kernel
theorem dn_d_Doc_print_32 : decode dn_c_Doc_print 32 = .ok (.if_icmp .le 13, 3) := by decide +kernel
theorem dn_d_Doc_print_35 : decode dn_c_Doc_print 35 = .ok (.new 101, 3) := by decide +kernel
theorem dn_d_Doc_print_38 : decode dn_c_Doc_print 38 = .ok (.dup, 1) := by decide +kernel
theorem dn_d_Doc_print_39 : decode dn_c_Doc_print 39 = .ok (.ldc 103, 2) := by decide +kernel
theorem dn_d_Doc_print_41 : decode dn_c_Doc_print 41 = .ok (.invokespecial 105, 3) := by decide +kernel
theorem dn_d_Doc_print_44 : decode dn_c_Doc_print 44 = .ok (.athrow, 1) := by decide +kernel
theorem dn_d_Doc_print_45 : decode dn_c_Doc_print 45 = .ok (.aload_n 0, 1) := by decide +kernel
theorem dn_d_Doc_print_46 : decode dn_c_Doc_print 46 = .ok (.getfield 40, 3) := by decide +kernel
theorem dn_d_Doc_print_49 : decode dn_c_Doc_print 49 = .ok (.getfield 106, 3) := by decide +kernel
theorem dn_d_Doc_print_52 : decode dn_c_Doc_print 52 = .ok (.iload_n 1, 1) := by decide +kernel
theorem dn_d_Doc_print_53 : decode dn_c_Doc_print 53 = .ok (.iload_n 2, 1) := by decide +kernel
theorem dn_d_Doc_print_54 : decode dn_c_Doc_print 54 = .ok (.iload_n 3, 1) := by decide +kernel
theorem dn_d_Doc_print_55 : decode dn_c_Doc_print 55 = .ok (.invokevirtual 110, 3) := by decide +kernel
theorem dn_d_Doc_print_58 : decode dn_c_Doc_print 58 = .ok (.aload_n 0, 1) := by decide +kernel
theorem dn_d_Doc_print_59 : decode dn_c_Doc_print 59 = .ok (.getfield 40, 3) := by decide +kernel
theorem dn_d_Doc_print_62 : decode dn_c_Doc_print 62 = .ok (.getfield 106, 3) := by decide +kernel
theorem dn_d_Doc_print_65 : decode dn_c_Doc_print 65 = .ok (.iload_n 1, 1) := by decide +kernel
theorem dn_d_Doc_print_66 : decode dn_c_Doc_print 66 = .ok (.invokevirtual 113, 3) := by decide +kernel
theorem dn_d_Doc_print_69 : decode dn_c_Doc_print 69 = .ok (.ireturn, 1) := by decide +kernel
theorem dn_d_Doc_check_0 : decode dn_c_Doc_check 0 = .ok (.iload_n 2, 1) := by decide +kernel
theorem dn_d_Doc_check_1 : decode dn_c_Doc_check 1 = .ok (.iconst 1, 1) := by decide +kernel
theorem dn_d_Doc_check_2 : decode dn_c_Doc_check 2 = .ok (.if_icmp .lt 13, 3) := by decide +kernel
theorem dn_d_Doc_check_5 : decode dn_c_Doc_check 5 = .ok (.iload_n 2, 1) := by decide +kernel
theorem dn_d_Doc_check_6 : decode dn_c_Doc_check 6 = .ok (.bipush 9, 2) := by decide +kernel
theorem dn_d_Doc_check_8 : decode dn_c_Doc_check 8 = .ok (.if_icmp .gt 7, 3) := by decide +kernel
theorem dn_d_Doc_check_11 : decode dn_c_Doc_check 11 = .ok (.iload_n 1, 1) := by decide +kernel
theorem dn_d_Doc_check_12 : decode dn_c_Doc_check 12 = .ok (.ifCond .ge 5, 3) := by decide +kernel
theorem dn_d_Doc_check_15 : decode dn_c_Doc_check 15 = .ok (.iconst (-1), 1) := by decide +kernel
theorem dn_d_Doc_check_16 : decode dn_c_Doc_check 16 = .ok (.ireturn, 1) := by decide +kernel
theorem dn_d_Doc_check_17 : decode dn_c_Doc_check 17 = .ok (.iload_n 1, 1) := by decide +kernel
theorem dn_d_Doc_check_18 : decode dn_c_Doc_check 18 = .ok (.iload_n 2, 1) := by decide +kernel
theorem dn_d_Doc_check_19 : decode dn_c_Doc_check 19 = .ok (.invokestatic 116, 3) := by decide +kernel
theorem dn_d_Doc_check_22 : decode dn_c_Doc_check 22 = .ok (.ireturn, 1) := by decide +kernel
theorem dn_d_Doc_trust_0 : decode dn_c_Doc_trust 0 = .ok (.iload_n 3, 1) := by decide +kernel
theorem dn_d_Doc_trust_1 : decode dn_c_Doc_trust 1 = .ok (.iconst 2, 1) := by decide +kernel
theorem dn_d_Doc_trust_2 : decode dn_c_Doc_trust 2 = .ok (.if_icmp .lt 16, 3) := by decide +kernel
theorem dn_d_Doc_trust_5 : decode dn_c_Doc_trust 5 = .ok (.iload 4, 2) := by decide +kernel
theorem dn_d_Doc_trust_7 : decode dn_c_Doc_trust 7 = .ok (.iconst 1, 1) := by decide +kernel
theorem dn_d_Doc_trust_8 : decode dn_c_Doc_trust 8 = .ok (.if_icmp .lt 10, 3) := by decide +kernel
theorem dn_d_Doc_trust_11 : decode dn_c_Doc_trust 11 = .ok (.iload 4, 2) := by decide +kernel
theorem dn_d_Doc_trust_13 : decode dn_c_Doc_trust 13 = .ok (.ldc 122, 2) := by decide +kernel
theorem dn_d_Doc_trust_15 : decode dn_c_Doc_trust 15 = .ok (.if_icmp .le 13, 3) := by decide +kernel
theorem dn_d_Doc_trust_18 : decode dn_c_Doc_trust 18 = .ok (.new 101, 3) := by decide +kernel
theorem dn_d_Doc_trust_21 : decode dn_c_Doc_trust 21 = .ok (.dup, 1) := by decide +kernel
theorem dn_d_Doc_trust_22 : decode dn_c_Doc_trust 22 = .ok (.ldc 123, 2) := by decide +kernel
theorem dn_d_Doc_trust_24 : decode dn_c_Doc_trust 24 = .ok (.invokespecial 105, 3) := by decide +kernel
theorem dn_d_Doc_trust_27 : decode dn_c_Doc_trust 27 = .ok (.athrow, 1) := by decide +kernel
theorem dn_d_Doc_trust_28 : decode dn_c_Doc_trust 28 = .ok (.aload_n 0, 1) := by decide +kernel
theorem dn_d_Doc_trust_29 : decode dn_c_Doc_trust 29 = .ok (.getfield 40, 3) := by decide +kernel
theorem dn_d_Doc_trust_32 : decode dn_c_Doc_trust 32 = .ok (.getfield 125, 3) := by decide +kernel
theorem dn_d_Doc_trust_35 : decode dn_c_Doc_trust 35 = .ok (.invokevirtual 129, 3) := by decide +kernel
theorem dn_d_Doc_trust_38 : decode dn_c_Doc_trust 38 = .ok (.ifCond .eq 13, 3) := by decide +kernel
theorem dn_d_Doc_trust_41 : decode dn_c_Doc_trust 41 = .ok (.new 72, 3) := by decide +kernel
theorem dn_d_Doc_trust_44 : decode dn_c_Doc_trust 44 = .ok (.dup, 1) := by decide +kernel
theorem dn_d_Doc_trust_45 : decode dn_c_Doc_trust 45 = .ok (.ldc 130, 2) := by decide +kernel
theorem dn_d_Doc_trust_47 : decode dn_c_Doc_trust 47 = .ok (.invokespecial 76, 3) := by decide +kernel
theorem dn_d_Doc_trust_50 : decode dn_c_Doc_trust 50 = .ok (.athrow, 1) := by decide +kernel
theorem dn_d_Doc_trust_51 : decode dn_c_Doc_trust 51 = .ok (.aload_n 0, 1) := by decide +kernel
theorem dn_d_Doc_trust_52 : decode dn_c_Doc_trust 52 = .ok (.getfield 40, 3) := by decide +kernel
theorem dn_d_Doc_trust_55 : decode dn_c_Doc_trust 55 = .ok (.getfield 125, 3) := by decide +kernel
theorem dn_d_Doc_trust_58 : decode dn_c_Doc_trust 58 = .ok (.lload_n 1, 1) := by decide +kernel
theorem dn_d_Doc_trust_59 : decode dn_c_Doc_trust 59 = .ok (.iload_n 3, 1) := by decide +kernel
theorem dn_d_Doc_trust_60 : decode dn_c_Doc_trust 60 = .ok (.iload 4, 2) := by decide +kernel
theorem dn_d_Doc_trust_62 : decode dn_c_Doc_trust 62 = .ok (.invokevirtual 132, 3) := by decide +kernel
theorem dn_d_Doc_trust_65 : decode dn_c_Doc_trust 65 = .ok (.ireturn, 1) := by decide +kernel
theorem dn_d_Doc_draw_0 : decode dn_c_Doc_draw 0 = .ok (.aload_n 0, 1) := by decide +kernel
theorem dn_d_Doc_draw_1 : decode dn_c_Doc_draw 1 = .ok (.getfield 31, 3) := by decide +kernel
theorem dn_d_Doc_draw_4 : decode dn_c_Doc_draw 4 = .ok (.lload 5, 2) := by decide +kernel
theorem dn_d_Doc_draw_6 : decode dn_c_Doc_draw 6 = .ok (.lload 7, 2) := by decide +kernel
theorem dn_d_Doc_draw_8 : decode dn_c_Doc_draw 8 = .ok (.invokevirtual 135, 3) := by decide +kernel
theorem dn_d_Doc_draw_11 : decode dn_c_Doc_draw 11 = .ok (.aload_n 0, 1) := by decide +kernel
theorem dn_d_Doc_draw_12 : decode dn_c_Doc_draw 12 = .ok (.getfield 40, 3) := by decide +kernel
theorem dn_d_Doc_draw_15 : decode dn_c_Doc_draw 15 = .ok (.lload_n 1, 1) := by decide +kernel
theorem dn_d_Doc_draw_16 : decode dn_c_Doc_draw 16 = .ok (.lload_n 3, 1) := by decide +kernel
theorem dn_d_Doc_draw_17 : decode dn_c_Doc_draw 17 = .ok (.invokevirtual 139, 3) := by decide +kernel
theorem dn_d_Doc_draw_20 : decode dn_c_Doc_draw 20 = .ok (.ireturn, 1) := by decide +kernel
theorem dn_d_Doc_change_0 : decode dn_c_Doc_change 0 = .ok (.iload_n 1, 1) := by decide +kernel
theorem dn_d_Doc_change_1 : decode dn_c_Doc_change 1 = .ok (.ifCond .lt 25, 3) := by decide +kernel
theorem dn_d_Doc_change_4 : decode dn_c_Doc_change 4 = .ok (.iload_n 1, 1) := by decide +kernel
theorem dn_d_Doc_change_5 : decode dn_c_Doc_change 5 = .ok (.bipush 99, 2) := by decide +kernel
theorem dn_d_Doc_change_7 : decode dn_c_Doc_change 7 = .ok (.if_icmp .gt 19, 3) := by decide +kernel
theorem dn_d_Doc_change_10 : decode dn_c_Doc_change 10 = .ok (.iload_n 2, 1) := by decide +kernel
theorem dn_d_Doc_change_11 : decode dn_c_Doc_change 11 = .ok (.ifCond .lt 15, 3) := by decide +kernel
theorem dn_d_Doc_change_14 : decode dn_c_Doc_change 14 = .ok (.iload_n 2, 1) := by decide +kernel
theorem dn_d_Doc_change_15 : decode dn_c_Doc_change 15 = .ok (.bipush 9, 2) := by decide +kernel
theorem dn_d_Doc_change_17 : decode dn_c_Doc_change 17 = .ok (.if_icmp .gt 9, 3) := by decide +kernel
theorem dn_d_Doc_change_20 : decode dn_c_Doc_change 20 = .ok (.lload_n 3, 1) := by decide +kernel
theorem dn_d_Doc_change_21 : decode dn_c_Doc_change 21 = .ok (.lconst 0, 1) := by decide +kernel
theorem dn_d_Doc_change_22 : decode dn_c_Doc_change 22 = .ok (.lcmp, 1) := by decide +kernel
theorem dn_d_Doc_change_23 : decode dn_c_Doc_change 23 = .ok (.ifCond .ne 13, 3) := by decide +kernel
theorem dn_d_Doc_change_26 : decode dn_c_Doc_change 26 = .ok (.new 101, 3) := by decide +kernel
theorem dn_d_Doc_change_29 : decode dn_c_Doc_change 29 = .ok (.dup, 1) := by decide +kernel
theorem dn_d_Doc_change_30 : decode dn_c_Doc_change 30 = .ok (.ldc 142, 2) := by decide +kernel
theorem dn_d_Doc_change_32 : decode dn_c_Doc_change 32 = .ok (.invokespecial 105, 3) := by decide +kernel
theorem dn_d_Doc_change_35 : decode dn_c_Doc_change 35 = .ok (.athrow, 1) := by decide +kernel
theorem dn_d_Doc_change_36 : decode dn_c_Doc_change 36 = .ok (.aload_n 0, 1) := by decide +kernel
theorem dn_d_Doc_change_37 : decode dn_c_Doc_change 37 = .ok (.getfield 40, 3) := by decide +kernel
theorem dn_d_Doc_change_40 : decode dn_c_Doc_change 40 = .ok (.getfield 144, 3) := by decide +kernel
theorem dn_d_Doc_change_43 : decode dn_c_Doc_change 43 = .ok (.invokevirtual 148, 3) := by decide +kernel
theorem dn_d_Doc_change_46 : decode dn_c_Doc_change 46 = .ok (.ifCond .eq 13, 3) := by decide +kernel
theorem dn_d_Doc_change_49 : decode dn_c_Doc_change 49 = .ok (.new 72, 3) := by decide +kernel
theorem dn_d_Doc_change_52 : decode dn_c_Doc_change 52 = .ok (.dup, 1) := by decide +kernel
theorem dn_d_Doc_change_53 : decode dn_c_Doc_change 53 = .ok (.ldc 151, 2) := by decide +kernel
theorem dn_d_Doc_change_55 : decode dn_c_Doc_change 55 = .ok (.invokespecial 76, 3) := by decide +kernel
theorem dn_d_Doc_change_58 : decode dn_c_Doc_change 58 = .ok (.athrow, 1) := by decide +kernel
theorem dn_d_Doc_change_59 : decode dn_c_Doc_change 59 = .ok (.aload_n 0, 1) := by decide +kernel
theorem dn_d_Doc_change_60 : decode dn_c_Doc_change 60 = .ok (.getfield 40, 3) := by decide +kernel
theorem dn_d_Doc_change_63 : decode dn_c_Doc_change 63 = .ok (.getfield 144, 3) := by decide +kernel
theorem dn_d_Doc_change_66 : decode dn_c_Doc_change 66 = .ok (.iload_n 1, 1) := by decide +kernel
theorem dn_d_Doc_change_67 : decode dn_c_Doc_change 67 = .ok (.iload_n 2, 1) := by decide +kernel
theorem dn_d_Doc_change_68 : decode dn_c_Doc_change 68 = .ok (.lload_n 3, 1) := by decide +kernel
theorem dn_d_Doc_change_69 : decode dn_c_Doc_change 69 = .ok (.invokevirtual 153, 3) := by decide +kernel
theorem dn_d_Doc_change_72 : decode dn_c_Doc_change 72 = .ok (.ireturn, 1) := by decide +kernel
theorem dn_d_Doc_inspect_0 : decode dn_c_Doc_inspect 0 = .ok (.aload_n 0, 1) := by decide +kernel
theorem dn_d_Doc_inspect_1 : decode dn_c_Doc_inspect 1 = .ok (.getfield 31, 3) := by decide +kernel
theorem dn_d_Doc_inspect_4 : decode dn_c_Doc_inspect 4 = .ok (.invokevirtual 157, 3) := by decide +kernel
theorem dn_d_Doc_inspect_7 : decode dn_c_Doc_inspect 7 = .ok (.aload_n 0, 1) := by decide +kernel
theorem dn_d_Doc_inspect_8 : decode dn_c_Doc_inspect 8 = .ok (.getfield 23, 3) := by decide +kernel
theorem dn_d_Doc_inspect_11 : decode dn_c_Doc_inspect 11 = .ok (.invokevirtual 160, 3) := by decide +kernel
theorem dn_d_Doc_inspect_14 : decode dn_c_Doc_inspect 14 = .ok (.aload_n 0, 1) := by decide +kernel
theorem dn_d_Doc_inspect_15 : decode dn_c_Doc_inspect 15 = .ok (.getfield 40, 3) := by decide +kernel
theorem dn_d_Doc_inspect_18 : decode dn_c_Doc_inspect 18 = .ok (.invokevirtual 163, 3) := by decide +kernel
theorem dn_d_Doc_inspect_21 : decode dn_c_Doc_inspect 21 = .ok (.aload_n 0, 1) := by decide +kernel
theorem dn_d_Doc_inspect_22 : decode dn_c_Doc_inspect 22 = .ok (.getfield 40, 3) := by decide +kernel
theorem dn_d_Doc_inspect_25 : decode dn_c_Doc_inspect 25 = .ok (.getfield 106, 3) := by decide +kernel
theorem dn_d_Doc_inspect_28 : decode dn_c_Doc_inspect 28 = .ok (.invokevirtual 166, 3) := by decide +kernel
theorem dn_d_Doc_inspect_31 : decode dn_c_Doc_inspect 31 = .ok (.ifCond .eq 7, 3) := by decide +kernel
theorem dn_d_Doc_inspect_34 : decode dn_c_Doc_inspect 34 = .ok (.iconst 0, 1) := by decide +kernel
theorem dn_d_Doc_inspect_35 : decode dn_c_Doc_inspect 35 = .ok (.goto 4, 3) := by decide +kernel
theorem dn_d_Doc_inspect_38 : decode dn_c_Doc_inspect 38 = .ok (.iconst 1, 1) := by decide +kernel
theorem dn_d_Doc_inspect_39 : decode dn_c_Doc_inspect 39 = .ok (.istore_n 1, 1) := by decide +kernel
theorem dn_d_Doc_inspect_40 : decode dn_c_Doc_inspect 40 = .ok (.iload_n 1, 1) := by decide +kernel
theorem dn_d_Doc_inspect_41 : decode dn_c_Doc_inspect 41 = .ok (.ifCond .ne 11, 3) := by decide +kernel
theorem dn_d_Doc_inspect_44 : decode dn_c_Doc_inspect 44 = .ok (.aload_n 0, 1) := by decide +kernel
theorem dn_d_Doc_inspect_45 : decode dn_c_Doc_inspect 45 = .ok (.getfield 40, 3) := by decide +kernel
theorem dn_d_Doc_inspect_48 : decode dn_c_Doc_inspect 48 = .ok (.invokevirtual 169, 3) := by decide +kernel
theorem dn_d_Doc_inspect_51 : decode dn_c_Doc_inspect 51 = .ok (.istore_n 1, 1) := by decide +kernel
theorem dn_d_Doc_inspect_52 : decode dn_c_Doc_inspect 52 = .ok (.iload_n 1, 1) := by decide +kernel
theorem dn_d_Doc_inspect_53 : decode dn_c_Doc_inspect 53 = .ok (.ifCond .ne 11, 3) := by decide +kernel
theorem dn_d_Doc_inspect_56 : decode dn_c_Doc_inspect 56 = .ok (.aload_n 0, 1) := by decide +kernel
theorem dn_d_Doc_inspect_57 : decode dn_c_Doc_inspect 57 = .ok (.getfield 40, 3) := by decide +kernel
theorem dn_d_Doc_inspect_60 : decode dn_c_Doc_inspect 60 = .ok (.invokevirtual 172, 3) := by decide +kernel
theorem dn_d_Doc_inspect_63 : decode dn_c_Doc_inspect 63 = .ok (.istore_n 1, 1) := by decide +kernel
theorem dn_d_Doc_inspect_64 : decode dn_c_Doc_inspect 64 = .ok (.iload_n 1, 1) := by decide +kernel
theorem dn_d_Doc_inspect_65 : decode dn_c_Doc_inspect 65 = .ok (.ifCond .ne 11, 3) := by decide +kernel
theorem dn_d_Doc_inspect_68 : decode dn_c_Doc_inspect 68 = .ok (.aload_n 0, 1) := by decide +kernel
theorem dn_d_Doc_inspect_69 : decode dn_c_Doc_inspect 69 = .ok (.getfield 40, 3) := by decide +kernel
theorem dn_d_Doc_inspect_72 : decode dn_c_Doc_inspect 72 = .ok (.invokevirtual 175, 3) := by decide +kernel
theorem dn_d_Doc_inspect_75 : decode dn_c_Doc_inspect 75 = .ok (.istore_n 1, 1) := by decide +kernel
theorem dn_d_Doc_inspect_76 : decode dn_c_Doc_inspect 76 = .ok (.aload_n 0, 1) := by decide +kernel
theorem dn_d_Doc_inspect_77 : decode dn_c_Doc_inspect 77 = .ok (.getfield 40, 3) := by decide +kernel
theorem dn_d_Doc_inspect_80 : decode dn_c_Doc_inspect 80 = .ok (.iload_n 1, 1) := by decide +kernel
theorem dn_d_Doc_inspect_81 : decode dn_c_Doc_inspect 81 = .ok (.invokevirtual 178, 3) := by decide +kernel
theorem dn_d_Doc_inspect_84 : decode dn_c_Doc_inspect 84 = .ok (.iload_n 1, 1) := by decide +kernel
theorem dn_d_Doc_inspect_85 : decode dn_c_Doc_inspect 85 = .ok (.ireturn, 1) := by decide +kernel
theorem dn_d_Doc_messages_0 : decode dn_c_Doc_messages 0 = .ok (.aload_n 0, 1) := by decide +kernel
theorem dn_d_Doc_messages_1 : decode dn_c_Doc_messages 1 = .ok (.getfield 40, 3) := by decide +kernel
theorem dn_d_Doc_messages_4 : decode dn_c_Doc_messages 4 = .ok (.getfield 144, 3) := by decide +kernel
theorem dn_d_Doc_messages_7 : decode dn_c_Doc_messages 7 = .ok (.invokevirtual 181, 3) := by decide +kernel
theorem dn_d_Doc_messages_10 : decode dn_c_Doc_messages 10 = .ok (.ireturn, 1) := by decide +kernel
theorem dn_d_Doc_held_0 : decode dn_c_Doc_held 0 = .ok (.aload_n 0, 1) := by decide +kernel
theorem dn_d_Doc_held_1 : decode dn_c_Doc_held 1 = .ok (.getfield 40, 3) := by decide +kernel
theorem dn_d_Doc_held_4 : decode dn_c_Doc_held 4 = .ok (.getfield 184, 3) := by decide +kernel
theorem dn_d_Doc_held_7 : decode dn_c_Doc_held 7 = .ok (.ifCond .ne 13, 3) := by decide +kernel
theorem dn_d_Doc_held_10 : decode dn_c_Doc_held 10 = .ok (.new 72, 3) := by decide +kernel
theorem dn_d_Doc_held_13 : decode dn_c_Doc_held 13 = .ok (.dup, 1) := by decide +kernel
theorem dn_d_Doc_held_14 : decode dn_c_Doc_held 14 = .ok (.ldc 188, 2) := by decide +kernel
theorem dn_d_Doc_held_16 : decode dn_c_Doc_held 16 = .ok (.invokespecial 76, 3) := by decide +kernel
theorem dn_d_Doc_held_19 : decode dn_c_Doc_held 19 = .ok (.athrow, 1) := by decide +kernel
theorem dn_d_Doc_held_20 : decode dn_c_Doc_held 20 = .ok (.iload_n 1, 1) := by decide +kernel
theorem dn_d_Doc_held_21 : decode dn_c_Doc_held 21 = .ok (.i2l, 1) := by decide +kernel
theorem dn_d_Doc_held_22 : decode dn_c_Doc_held 22 = .ok (.invokestatic 53, 3) := by decide +kernel
theorem dn_d_Doc_held_25 : decode dn_c_Doc_held 25 = .ok (.ifCond .eq 19, 3) := by decide +kernel
theorem dn_d_Doc_held_28 : decode dn_c_Doc_held 28 = .ok (.aload_n 0, 1) := by decide +kernel
theorem dn_d_Doc_held_29 : decode dn_c_Doc_held 29 = .ok (.getfield 40, 3) := by decide +kernel
theorem dn_d_Doc_held_32 : decode dn_c_Doc_held 32 = .ok (.getfield 190, 3) := by decide +kernel
theorem dn_d_Doc_held_35 : decode dn_c_Doc_held 35 = .ok (.iload_n 1, 1) := by decide +kernel
theorem dn_d_Doc_held_36 : decode dn_c_Doc_held 36 = .ok (.aaload, 1) := by decide +kernel
theorem dn_d_Doc_held_37 : decode dn_c_Doc_held 37 = .ok (.iload_n 2, 1) := by decide +kernel
theorem dn_d_Doc_held_38 : decode dn_c_Doc_held 38 = .ok (.invokevirtual 191, 3) := by decide +kernel
theorem dn_d_Doc_held_41 : decode dn_c_Doc_held 41 = .ok (.ifCond .ne 13, 3) := by decide +kernel
theorem dn_d_Doc_held_44 : decode dn_c_Doc_held 44 = .ok (.new 57, 3) := by decide +kernel
theorem dn_d_Doc_held_47 : decode dn_c_Doc_held 47 = .ok (.dup, 1) := by decide +kernel
theorem dn_d_Doc_held_48 : decode dn_c_Doc_held 48 = .ok (.ldc 194, 2) := by decide +kernel
theorem dn_d_Doc_held_50 : decode dn_c_Doc_held 50 = .ok (.invokespecial 61, 3) := by decide +kernel
theorem dn_d_Doc_held_53 : decode dn_c_Doc_held 53 = .ok (.athrow, 1) := by decide +kernel
theorem dn_d_Doc_held_54 : decode dn_c_Doc_held 54 = .ok (.aload_n 0, 1) := by decide +kernel
theorem dn_d_Doc_held_55 : decode dn_c_Doc_held 55 = .ok (.getfield 40, 3) := by decide +kernel
theorem dn_d_Doc_held_58 : decode dn_c_Doc_held 58 = .ok (.getfield 190, 3) := by decide +kernel
theorem dn_d_Doc_held_61 : decode dn_c_Doc_held 61 = .ok (.iload_n 1, 1) := by decide +kernel
theorem dn_d_Doc_held_62 : decode dn_c_Doc_held 62 = .ok (.aaload, 1) := by decide +kernel
theorem dn_d_Doc_held_63 : decode dn_c_Doc_held 63 = .ok (.iload_n 2, 1) := by decide +kernel
theorem dn_d_Doc_held_64 : decode dn_c_Doc_held 64 = .ok (.invokevirtual 196, 3) := by decide +kernel
theorem dn_d_Doc_held_67 : decode dn_c_Doc_held 67 = .ok (.lreturn, 1) := by decide +kernel
theorem dn_d_Doc_challenge_0 : decode dn_c_Doc_challenge 0 = .ok (.aload_n 0, 1) := by decide +kernel
theorem dn_d_Doc_challenge_1 : decode dn_c_Doc_challenge 1 = .ok (.getfield 23, 3) := by decide +kernel
theorem dn_d_Doc_challenge_4 : decode dn_c_Doc_challenge 4 = .ok (.invokevirtual 160, 3) := by decide +kernel
theorem dn_d_Doc_challenge_7 : decode dn_c_Doc_challenge 7 = .ok (.aload_n 0, 1) := by decide +kernel
theorem dn_d_Doc_challenge_8 : decode dn_c_Doc_challenge 8 = .ok (.getfield 31, 3) := by decide +kernel
theorem dn_d_Doc_challenge_11 : decode dn_c_Doc_challenge 11 = .ok (.invokevirtual 200, 3) := by decide +kernel
theorem dn_d_Doc_challenge_14 : decode dn_c_Doc_challenge 14 = .ok (.lreturn, 1) := by decide +kernel
theorem dn_d_Doc_prove_0 : decode dn_c_Doc_prove 0 = .ok (.aload_n 0, 1) := by decide +kernel
theorem dn_d_Doc_prove_1 : decode dn_c_Doc_prove 1 = .ok (.getfield 31, 3) := by decide +kernel
theorem dn_d_Doc_prove_4 : decode dn_c_Doc_prove 4 = .ok (.getfield 204, 3) := by decide +kernel
theorem dn_d_Doc_prove_7 : decode dn_c_Doc_prove 7 = .ok (.ifCond .ne 13, 3) := by decide +kernel
theorem dn_d_Doc_prove_10 : decode dn_c_Doc_prove 10 = .ok (.new 72, 3) := by decide +kernel
theorem dn_d_Doc_prove_13 : decode dn_c_Doc_prove 13 = .ok (.dup, 1) := by decide +kernel
theorem dn_d_Doc_prove_14 : decode dn_c_Doc_prove 14 = .ok (.ldc 207, 2) := by decide +kernel
theorem dn_d_Doc_prove_16 : decode dn_c_Doc_prove 16 = .ok (.invokespecial 76, 3) := by decide +kernel
theorem dn_d_Doc_prove_19 : decode dn_c_Doc_prove 19 = .ok (.athrow, 1) := by decide +kernel
theorem dn_d_Doc_prove_20 : decode dn_c_Doc_prove 20 = .ok (.aload_n 0, 1) := by decide +kernel
theorem dn_d_Doc_prove_21 : decode dn_c_Doc_prove 21 = .ok (.getfield 14, 3) := by decide +kernel
theorem dn_d_Doc_prove_24 : decode dn_c_Doc_prove 24 = .ok (.invokevirtual 160, 3) := by decide +kernel
theorem dn_d_Doc_prove_27 : decode dn_c_Doc_prove 27 = .ok (.aload_n 0, 1) := by decide +kernel
theorem dn_d_Doc_prove_28 : decode dn_c_Doc_prove 28 = .ok (.getfield 14, 3) := by decide +kernel
theorem dn_d_Doc_prove_31 : decode dn_c_Doc_prove 31 = .ok (.lload_n 1, 1) := by decide +kernel
theorem dn_d_Doc_prove_32 : decode dn_c_Doc_prove 32 = .ok (.invokevirtual 77, 3) := by decide +kernel
theorem dn_d_Doc_prove_35 : decode dn_c_Doc_prove 35 = .ok (.aload_n 0, 1) := by decide +kernel
theorem dn_d_Doc_prove_36 : decode dn_c_Doc_prove 36 = .ok (.getfield 14, 3) := by decide +kernel
theorem dn_d_Doc_prove_39 : decode dn_c_Doc_prove 39 = .ok (.lload_n 3, 1) := by decide +kernel
theorem dn_d_Doc_prove_40 : decode dn_c_Doc_prove 40 = .ok (.invokevirtual 77, 3) := by decide +kernel
theorem dn_d_Doc_prove_43 : decode dn_c_Doc_prove 43 = .ok (.aload_n 0, 1) := by decide +kernel
theorem dn_d_Doc_prove_44 : decode dn_c_Doc_prove 44 = .ok (.getfield 14, 3) := by decide +kernel
theorem dn_d_Doc_prove_47 : decode dn_c_Doc_prove 47 = .ok (.lload 5, 2) := by decide +kernel
theorem dn_d_Doc_prove_49 : decode dn_c_Doc_prove 49 = .ok (.invokevirtual 77, 3) := by decide +kernel
theorem dn_d_Doc_prove_52 : decode dn_c_Doc_prove 52 = .ok (.aload_n 0, 1) := by decide +kernel
theorem dn_d_Doc_prove_53 : decode dn_c_Doc_prove 53 = .ok (.getfield 14, 3) := by decide +kernel
theorem dn_d_Doc_prove_56 : decode dn_c_Doc_prove 56 = .ok (.lload 7, 2) := by decide +kernel
theorem dn_d_Doc_prove_58 : decode dn_c_Doc_prove 58 = .ok (.invokevirtual 77, 3) := by decide +kernel
theorem dn_d_Doc_prove_61 : decode dn_c_Doc_prove 61 = .ok (.aload_n 0, 1) := by decide +kernel
theorem dn_d_Doc_prove_62 : decode dn_c_Doc_prove 62 = .ok (.getfield 31, 3) := by decide +kernel
theorem dn_d_Doc_prove_65 : decode dn_c_Doc_prove 65 = .ok (.aload_n 0, 1) := by decide +kernel
theorem dn_d_Doc_prove_66 : decode dn_c_Doc_prove 66 = .ok (.getfield 14, 3) := by decide +kernel
theorem dn_d_Doc_prove_69 : decode dn_c_Doc_prove 69 = .ok (.aload_n 0, 1) := by decide +kernel
theorem dn_d_Doc_prove_70 : decode dn_c_Doc_prove 70 = .ok (.getfield 20, 3) := by decide +kernel
theorem dn_d_Doc_prove_73 : decode dn_c_Doc_prove 73 = .ok (.invokevirtual 209, 3) := by decide +kernel
theorem dn_d_Doc_prove_76 : decode dn_c_Doc_prove 76 = .ok (.ifCond .ne 13, 3) := by decide +kernel
theorem dn_d_Doc_prove_79 : decode dn_c_Doc_prove 79 = .ok (.new 101, 3) := by decide +kernel
theorem dn_d_Doc_prove_82 : decode dn_c_Doc_prove 82 = .ok (.dup, 1) := by decide +kernel
theorem dn_d_Doc_prove_83 : decode dn_c_Doc_prove 83 = .ok (.ldc 213, 2) := by decide +kernel
theorem dn_d_Doc_prove_85 : decode dn_c_Doc_prove 85 = .ok (.invokespecial 105, 3) := by decide +kernel
theorem dn_d_Doc_prove_88 : decode dn_c_Doc_prove 88 = .ok (.athrow, 1) := by decide +kernel
theorem dn_d_Doc_prove_89 : decode dn_c_Doc_prove 89 = .ok (.aload_n 0, 1) := by decide +kernel
theorem dn_d_Doc_prove_90 : decode dn_c_Doc_prove 90 = .ok (.getfield 20, 3) := by decide +kernel
theorem dn_d_Doc_prove_93 : decode dn_c_Doc_prove 93 = .ok (.invokevirtual 215, 3) := by decide +kernel
theorem dn_d_Doc_prove_96 : decode dn_c_Doc_prove 96 = .ok (.lreturn, 1) := by decide +kernel
theorem dn_d_Doc_command_0 : decode dn_c_Doc_command 0 = .ok (.aload_n 0, 1) := by decide +kernel
theorem dn_d_Doc_command_1 : decode dn_c_Doc_command 1 = .ok (.getfield 31, 3) := by decide +kernel
theorem dn_d_Doc_command_4 : decode dn_c_Doc_command 4 = .ok (.iload_n 1, 1) := by decide +kernel
theorem dn_d_Doc_command_5 : decode dn_c_Doc_command 5 = .ok (.i2l, 1) := by decide +kernel
theorem dn_d_Doc_command_6 : decode dn_c_Doc_command 6 = .ok (.lload_n 2, 1) := by decide +kernel
theorem dn_d_Doc_command_7 : decode dn_c_Doc_command 7 = .ok (.lload 4, 2) := by decide +kernel
theorem dn_d_Doc_command_9 : decode dn_c_Doc_command 9 = .ok (.aload_n 0, 1) := by decide +kernel
theorem dn_d_Doc_command_10 : decode dn_c_Doc_command 10 = .ok (.getfield 23, 3) := by decide +kernel
theorem dn_d_Doc_command_13 : decode dn_c_Doc_command 13 = .ok (.invokevirtual 218, 3) := by decide +kernel
theorem dn_d_Doc_command_16 : decode dn_c_Doc_command 16 = .ok (.tableswitch 86 1 5 #[36, 46, 56, 66, 76], 36) := by decide +kernel
theorem dn_d_Doc_command_52 : decode dn_c_Doc_command 52 = .ok (.new 72, 3) := by decide +kernel
theorem dn_d_Doc_command_55 : decode dn_c_Doc_command 55 = .ok (.dup, 1) := by decide +kernel
theorem dn_d_Doc_command_56 : decode dn_c_Doc_command 56 = .ok (.ldc 222, 2) := by decide +kernel
theorem dn_d_Doc_command_58 : decode dn_c_Doc_command 58 = .ok (.invokespecial 76, 3) := by decide +kernel
theorem dn_d_Doc_command_61 : decode dn_c_Doc_command 61 = .ok (.athrow, 1) := by decide +kernel
theorem dn_d_Doc_command_62 : decode dn_c_Doc_command 62 = .ok (.new 101, 3) := by decide +kernel
theorem dn_d_Doc_command_65 : decode dn_c_Doc_command 65 = .ok (.dup, 1) := by decide +kernel
theorem dn_d_Doc_command_66 : decode dn_c_Doc_command 66 = .ok (.ldc 224, 2) := by decide +kernel
theorem dn_d_Doc_command_68 : decode dn_c_Doc_command 68 = .ok (.invokespecial 105, 3) := by decide +kernel
theorem dn_d_Doc_command_71 : decode dn_c_Doc_command 71 = .ok (.athrow, 1) := by decide +kernel
theorem dn_d_Doc_command_72 : decode dn_c_Doc_command 72 = .ok (.new 226, 3) := by decide +kernel
theorem dn_d_Doc_command_75 : decode dn_c_Doc_command 75 = .ok (.dup, 1) := by decide +kernel
theorem dn_d_Doc_command_76 : decode dn_c_Doc_command 76 = .ok (.ldc 228, 2) := by decide +kernel
theorem dn_d_Doc_command_78 : decode dn_c_Doc_command 78 = .ok (.invokespecial 230, 3) := by decide +kernel
theorem dn_d_Doc_command_81 : decode dn_c_Doc_command 81 = .ok (.athrow, 1) := by decide +kernel
theorem dn_d_Doc_command_82 : decode dn_c_Doc_command 82 = .ok (.new 231, 3) := by decide +kernel
theorem dn_d_Doc_command_85 : decode dn_c_Doc_command 85 = .ok (.dup, 1) := by decide +kernel
theorem dn_d_Doc_command_86 : decode dn_c_Doc_command 86 = .ok (.ldc 233, 2) := by decide +kernel
theorem dn_d_Doc_command_88 : decode dn_c_Doc_command 88 = .ok (.invokespecial 235, 3) := by decide +kernel
theorem dn_d_Doc_command_91 : decode dn_c_Doc_command 91 = .ok (.athrow, 1) := by decide +kernel
theorem dn_d_Doc_command_92 : decode dn_c_Doc_command 92 = .ok (.new 57, 3) := by decide +kernel
theorem dn_d_Doc_command_95 : decode dn_c_Doc_command 95 = .ok (.dup, 1) := by decide +kernel
theorem dn_d_Doc_command_96 : decode dn_c_Doc_command 96 = .ok (.ldc 236, 2) := by decide +kernel
theorem dn_d_Doc_command_98 : decode dn_c_Doc_command 98 = .ok (.invokespecial 61, 3) := by decide +kernel
theorem dn_d_Doc_command_101 : decode dn_c_Doc_command 101 = .ok (.athrow, 1) := by decide +kernel
theorem dn_d_Doc_command_102 : decode dn_c_Doc_command 102 = .ok (.aload_n 0, 1) := by decide +kernel
theorem dn_d_Doc_command_103 : decode dn_c_Doc_command 103 = .ok (.getfield 23, 3) := by decide +kernel
theorem dn_d_Doc_command_106 : decode dn_c_Doc_command 106 = .ok (.invokevirtual 81, 3) := by decide +kernel
theorem dn_d_Doc_command_109 : decode dn_c_Doc_command 109 = .ok (.ireturn, 1) := by decide +kernel
theorem dn_d_Doc_answer_0 : decode dn_c_Doc_answer 0 = .ok (.aload_n 0, 1) := by decide +kernel
theorem dn_d_Doc_answer_1 : decode dn_c_Doc_answer 1 = .ok (.getfield 23, 3) := by decide +kernel
theorem dn_d_Doc_answer_4 : decode dn_c_Doc_answer 4 = .ok (.iload_n 1, 1) := by decide +kernel
theorem dn_d_Doc_answer_5 : decode dn_c_Doc_answer 5 = .ok (.invokevirtual 196, 3) := by decide +kernel
theorem dn_d_Doc_answer_8 : decode dn_c_Doc_answer 8 = .ok (.lreturn, 1) := by decide +kernel
theorem dn_d_Doc_needed_0 : decode dn_c_Doc_needed 0 = .ok (.aload_n 0, 1) := by decide +kernel
theorem dn_d_Doc_needed_1 : decode dn_c_Doc_needed 1 = .ok (.getfield 31, 3) := by decide +kernel
theorem dn_d_Doc_needed_4 : decode dn_c_Doc_needed 4 = .ok (.getfield 238, 3) := by decide +kernel
theorem dn_d_Doc_needed_7 : decode dn_c_Doc_needed 7 = .ok (.getfield 242, 3) := by decide +kernel
theorem dn_d_Doc_needed_10 : decode dn_c_Doc_needed 10 = .ok (.ifCond .ne 13, 3) := by decide +kernel
theorem dn_d_Doc_needed_13 : decode dn_c_Doc_needed 13 = .ok (.new 72, 3) := by decide +kernel
theorem dn_d_Doc_needed_16 : decode dn_c_Doc_needed 16 = .ok (.dup, 1) := by decide +kernel
theorem dn_d_Doc_needed_17 : decode dn_c_Doc_needed 17 = .ok (.ldc 222, 2) := by decide +kernel
theorem dn_d_Doc_needed_19 : decode dn_c_Doc_needed 19 = .ok (.invokespecial 76, 3) := by decide +kernel
theorem dn_d_Doc_needed_22 : decode dn_c_Doc_needed 22 = .ok (.athrow, 1) := by decide +kernel
theorem dn_d_Doc_needed_23 : decode dn_c_Doc_needed 23 = .ok (.aload_n 0, 1) := by decide +kernel
theorem dn_d_Doc_needed_24 : decode dn_c_Doc_needed 24 = .ok (.getfield 31, 3) := by decide +kernel
theorem dn_d_Doc_needed_27 : decode dn_c_Doc_needed 27 = .ok (.getfield 238, 3) := by decide +kernel
theorem dn_d_Doc_needed_30 : decode dn_c_Doc_needed 30 = .ok (.iload_n 1, 1) := by decide +kernel
theorem dn_d_Doc_needed_31 : decode dn_c_Doc_needed 31 = .ok (.i2l, 1) := by decide +kernel
theorem dn_d_Doc_needed_32 : decode dn_c_Doc_needed 32 = .ok (.lload_n 2, 1) := by decide +kernel
theorem dn_d_Doc_needed_33 : decode dn_c_Doc_needed 33 = .ok (.invokevirtual 247, 3) := by decide +kernel
theorem dn_d_Doc_needed_36 : decode dn_c_Doc_needed 36 = .ok (.lreturn, 1) := by decide +kernel
theorem dn_d_Doc_hidden_0 : decode dn_c_Doc_hidden 0 = .ok (.aload_n 0, 1) := by decide +kernel
theorem dn_d_Doc_hidden_1 : decode dn_c_Doc_hidden 1 = .ok (.getfield 31, 3) := by decide +kernel
theorem dn_d_Doc_hidden_4 : decode dn_c_Doc_hidden 4 = .ok (.getfield 238, 3) := by decide +kernel
theorem dn_d_Doc_hidden_7 : decode dn_c_Doc_hidden 7 = .ok (.getfield 242, 3) := by decide +kernel
theorem dn_d_Doc_hidden_10 : decode dn_c_Doc_hidden 10 = .ok (.ifCond .ne 13, 3) := by decide +kernel
theorem dn_d_Doc_hidden_13 : decode dn_c_Doc_hidden 13 = .ok (.new 72, 3) := by decide +kernel
theorem dn_d_Doc_hidden_16 : decode dn_c_Doc_hidden 16 = .ok (.dup, 1) := by decide +kernel
theorem dn_d_Doc_hidden_17 : decode dn_c_Doc_hidden 17 = .ok (.ldc 222, 2) := by decide +kernel
theorem dn_d_Doc_hidden_19 : decode dn_c_Doc_hidden 19 = .ok (.invokespecial 76, 3) := by decide +kernel
theorem dn_d_Doc_hidden_22 : decode dn_c_Doc_hidden 22 = .ok (.athrow, 1) := by decide +kernel
theorem dn_d_Doc_hidden_23 : decode dn_c_Doc_hidden 23 = .ok (.aload_n 0, 1) := by decide +kernel
theorem dn_d_Doc_hidden_24 : decode dn_c_Doc_hidden 24 = .ok (.getfield 31, 3) := by decide +kernel
theorem dn_d_Doc_hidden_27 : decode dn_c_Doc_hidden 27 = .ok (.getfield 238, 3) := by decide +kernel
theorem dn_d_Doc_hidden_30 : decode dn_c_Doc_hidden 30 = .ok (.lload_n 1, 1) := by decide +kernel
theorem dn_d_Doc_hidden_31 : decode dn_c_Doc_hidden 31 = .ok (.invokevirtual 250, 3) := by decide +kernel
theorem dn_d_Doc_hidden_34 : decode dn_c_Doc_hidden 34 = .ok (.lreturn, 1) := by decide +kernel
theorem dn_d_Doc_chip_0 : decode dn_c_Doc_chip 0 = .ok (.iload_n 1, 1) := by decide +kernel
theorem dn_d_Doc_chip_1 : decode dn_c_Doc_chip 1 = .ok (.tableswitch 98 0 7 #[47, 66, 82, 98, 98, 98, 98, 90], 47) := by decide +kernel
theorem dn_d_Doc_chip_48 : decode dn_c_Doc_chip 48 = .ok (.aload_n 0, 1) := by decide +kernel
theorem dn_d_Doc_chip_49 : decode dn_c_Doc_chip 49 = .ok (.getfield 31, 3) := by decide +kernel
theorem dn_d_Doc_chip_52 : decode dn_c_Doc_chip 52 = .ok (.getfield 238, 3) := by decide +kernel
theorem dn_d_Doc_chip_55 : decode dn_c_Doc_chip 55 = .ok (.getfield 242, 3) := by decide +kernel
theorem dn_d_Doc_chip_58 : decode dn_c_Doc_chip 58 = .ok (.ifCond .eq 7, 3) := by decide +kernel
theorem dn_d_Doc_chip_61 : decode dn_c_Doc_chip 61 = .ok (.iconst 1, 1) := by decide +kernel
theorem dn_d_Doc_chip_62 : decode dn_c_Doc_chip 62 = .ok (.goto 4, 3) := by decide +kernel
theorem dn_d_Doc_chip_65 : decode dn_c_Doc_chip 65 = .ok (.iconst 0, 1) := by decide +kernel
theorem dn_d_Doc_chip_66 : decode dn_c_Doc_chip 66 = .ok (.ireturn, 1) := by decide +kernel
theorem dn_d_Doc_chip_67 : decode dn_c_Doc_chip 67 = .ok (.aload_n 0, 1) := by decide +kernel
theorem dn_d_Doc_chip_68 : decode dn_c_Doc_chip 68 = .ok (.getfield 31, 3) := by decide +kernel
theorem dn_d_Doc_chip_71 : decode dn_c_Doc_chip 71 = .ok (.getfield 204, 3) := by decide +kernel
theorem dn_d_Doc_chip_74 : decode dn_c_Doc_chip 74 = .ok (.ifCond .eq 7, 3) := by decide +kernel
theorem dn_d_Doc_chip_77 : decode dn_c_Doc_chip 77 = .ok (.iconst 1, 1) := by decide +kernel
theorem dn_d_Doc_chip_78 : decode dn_c_Doc_chip 78 = .ok (.goto 4, 3) := by decide +kernel
theorem dn_d_Doc_chip_81 : decode dn_c_Doc_chip 81 = .ok (.iconst 0, 1) := by decide +kernel
theorem dn_d_Doc_chip_82 : decode dn_c_Doc_chip 82 = .ok (.ireturn, 1) := by decide +kernel
theorem dn_d_Doc_chip_83 : decode dn_c_Doc_chip 83 = .ok (.aload_n 0, 1) := by decide +kernel
theorem dn_d_Doc_chip_84 : decode dn_c_Doc_chip 84 = .ok (.getfield 31, 3) := by decide +kernel
theorem dn_d_Doc_chip_87 : decode dn_c_Doc_chip 87 = .ok (.getfield 253, 3) := by decide +kernel
theorem dn_d_Doc_chip_90 : decode dn_c_Doc_chip 90 = .ok (.ireturn, 1) := by decide +kernel
theorem dn_d_Doc_chip_91 : decode dn_c_Doc_chip 91 = .ok (.aload_n 0, 1) := by decide +kernel
theorem dn_d_Doc_chip_92 : decode dn_c_Doc_chip 92 = .ok (.getfield 31, 3) := by decide +kernel
theorem dn_d_Doc_chip_95 : decode dn_c_Doc_chip 95 = .ok (.getfield 257, 3) := by decide +kernel
theorem dn_d_Doc_chip_98 : decode dn_c_Doc_chip 98 = .ok (.ireturn, 1) := by decide +kernel
theorem dn_d_Doc_chip_99 : decode dn_c_Doc_chip 99 = .ok (.iload_n 1, 1) := by decide +kernel
theorem dn_d_Doc_chip_100 : decode dn_c_Doc_chip 100 = .ok (.iconst 3, 1) := by decide +kernel
theorem dn_d_Doc_chip_101 : decode dn_c_Doc_chip 101 = .ok (.isub, 1) := by decide +kernel
theorem dn_d_Doc_chip_102 : decode dn_c_Doc_chip 102 = .ok (.i2l, 1) := by decide +kernel
theorem dn_d_Doc_chip_103 : decode dn_c_Doc_chip 103 = .ok (.invokestatic 53, 3) := by decide +kernel
theorem dn_d_Doc_chip_106 : decode dn_c_Doc_chip 106 = .ok (.ifCond .eq 20, 3) := by decide +kernel
theorem dn_d_Doc_chip_109 : decode dn_c_Doc_chip 109 = .ok (.aload_n 0, 1) := by decide +kernel
theorem dn_d_Doc_chip_110 : decode dn_c_Doc_chip 110 = .ok (.getfield 31, 3) := by decide +kernel
theorem dn_d_Doc_chip_113 : decode dn_c_Doc_chip 113 = .ok (.getfield 64, 3) := by decide +kernel
theorem dn_d_Doc_chip_116 : decode dn_c_Doc_chip 116 = .ok (.iload_n 1, 1) := by decide +kernel
theorem dn_d_Doc_chip_117 : decode dn_c_Doc_chip 117 = .ok (.iconst 3, 1) := by decide +kernel
theorem dn_d_Doc_chip_118 : decode dn_c_Doc_chip 118 = .ok (.isub, 1) := by decide +kernel
theorem dn_d_Doc_chip_119 : decode dn_c_Doc_chip 119 = .ok (.aaload, 1) := by decide +kernel
theorem dn_d_Doc_chip_120 : decode dn_c_Doc_chip 120 = .ok (.invokevirtual 81, 3) := by decide +kernel
theorem dn_d_Doc_chip_123 : decode dn_c_Doc_chip 123 = .ok (.goto 5, 3) := by decide +kernel
theorem dn_d_Doc_chip_126 : decode dn_c_Doc_chip 126 = .ok (.bipush (-2), 2) := by decide +kernel
theorem dn_d_Doc_chip_128 : decode dn_c_Doc_chip 128 = .ok (.ireturn, 1) := by decide +kernel
theorem dn_d_Doc_isFile_0 : decode dn_c_Doc_isFile 0 = .ok (.lload_n 0, 1) := by decide +kernel
theorem dn_d_Doc_isFile_1 : decode dn_c_Doc_isFile 1 = .ok (.lconst 0, 1) := by decide +kernel
theorem dn_d_Doc_isFile_2 : decode dn_c_Doc_isFile 2 = .ok (.lcmp, 1) := by decide +kernel
theorem dn_d_Doc_isFile_3 : decode dn_c_Doc_isFile 3 = .ok (.ifCond .lt 15, 3) := by decide +kernel
theorem dn_d_Doc_isFile_6 : decode dn_c_Doc_isFile 6 = .ok (.lload_n 0, 1) := by decide +kernel
theorem dn_d_Doc_isFile_7 : decode dn_c_Doc_isFile 7 = .ok (.ldc2_w 260, 3) := by decide +kernel
theorem dn_d_Doc_isFile_10 : decode dn_c_Doc_isFile 10 = .ok (.lcmp, 1) := by decide +kernel
theorem dn_d_Doc_isFile_11 : decode dn_c_Doc_isFile 11 = .ok (.ifCond .ge 7, 3) := by decide +kernel
theorem dn_d_Doc_isFile_14 : decode dn_c_Doc_isFile 14 = .ok (.iconst 1, 1) := by decide +kernel
theorem dn_d_Doc_isFile_15 : decode dn_c_Doc_isFile 15 = .ok (.goto 4, 3) := by decide +kernel
theorem dn_d_Doc_isFile_18 : decode dn_c_Doc_isFile 18 = .ok (.iconst 0, 1) := by decide +kernel
theorem dn_d_Doc_isFile_19 : decode dn_c_Doc_isFile 19 = .ok (.ireturn, 1) := by decide +kernel
