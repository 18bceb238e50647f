theorem dn_d_Mod_init_0 : decode dn_c_Mod_init 0 = .ok (.aload_n 0, 1) := by decide +kernel
theorem dn_d_Mod_init_1 : decode dn_c_Mod_init 1 = .ok (.invokespecial 1, 3) := by decide +kernel
theorem dn_d_Mod_init_4 : decode dn_c_Mod_init 4 = .ok (.aload_n 0, 1) := by decide +kernel
theorem dn_d_Mod_init_5 : decode dn_c_Mod_init 5 = .ok (.iconst 3, 1) := by decide +kernel
theorem dn_d_Mod_init_6 : decode dn_c_Mod_init 6 = .ok (.newarray .int, 2) := by decide +kernel
theorem dn_d_Mod_init_8 : decode dn_c_Mod_init 8 = .ok (.putfield 7, 3) := by decide +kernel
theorem dn_d_Mod_init_11 : decode dn_c_Mod_init 11 = .ok (.aload_n 0, 1) := by decide +kernel
theorem dn_d_Mod_init_12 : decode dn_c_Mod_init 12 = .ok (.bipush 80, 2) := by decide +kernel
theorem dn_d_Mod_init_14 : decode dn_c_Mod_init 14 = .ok (.newarray .long, 2) := by decide +kernel
theorem dn_d_Mod_init_16 : decode dn_c_Mod_init 16 = .ok (.putfield 13, 3) := by decide +kernel
theorem dn_d_Mod_init_19 : decode dn_c_Mod_init 19 = .ok (.aload_n 0, 1) := by decide +kernel
theorem dn_d_Mod_init_20 : decode dn_c_Mod_init 20 = .ok (.iconst 4, 1) := by decide +kernel
theorem dn_d_Mod_init_21 : decode dn_c_Mod_init 21 = .ok (.newarray .int, 2) := by decide +kernel
theorem dn_d_Mod_init_23 : decode dn_c_Mod_init 23 = .ok (.putfield 17, 3) := by decide +kernel
theorem dn_d_Mod_init_26 : decode dn_c_Mod_init 26 = .ok (.aload_n 0, 1) := by decide +kernel
theorem dn_d_Mod_init_27 : decode dn_c_Mod_init 27 = .ok (.bipush 6, 2) := by decide +kernel
theorem dn_d_Mod_init_29 : decode dn_c_Mod_init 29 = .ok (.newarray .long, 2) := by decide +kernel
theorem dn_d_Mod_init_31 : decode dn_c_Mod_init 31 = .ok (.putfield 20, 3) := by decide +kernel
theorem dn_d_Mod_init_34 : decode dn_c_Mod_init 34 = .ok (.aload_n 0, 1) := by decide +kernel
theorem dn_d_Mod_init_35 : decode dn_c_Mod_init 35 = .ok (.iconst 3, 1) := by decide +kernel
theorem dn_d_Mod_init_36 : decode dn_c_Mod_init 36 = .ok (.newarray .int, 2) := by decide +kernel
theorem dn_d_Mod_init_38 : decode dn_c_Mod_init 38 = .ok (.putfield 23, 3) := by decide +kernel
theorem dn_d_Mod_init_41 : decode dn_c_Mod_init 41 = .ok (.aload_n 0, 1) := by decide +kernel
theorem dn_d_Mod_init_42 : decode dn_c_Mod_init 42 = .ok (.iconst 3, 1) := by decide +kernel
theorem dn_d_Mod_init_43 : decode dn_c_Mod_init 43 = .ok (.newarray .int, 2) := by decide +kernel
theorem dn_d_Mod_init_45 : decode dn_c_Mod_init 45 = .ok (.putfield 26, 3) := by decide +kernel
theorem dn_d_Mod_init_48 : decode dn_c_Mod_init 48 = .ok (.aload_n 0, 1) := by decide +kernel
theorem dn_d_Mod_init_49 : decode dn_c_Mod_init 49 = .ok (.iconst 4, 1) := by decide +kernel
theorem dn_d_Mod_init_50 : decode dn_c_Mod_init 50 = .ok (.newarray .long, 2) := by decide +kernel
theorem dn_d_Mod_init_52 : decode dn_c_Mod_init 52 = .ok (.putfield 29, 3) := by decide +kernel
theorem dn_d_Mod_init_55 : decode dn_c_Mod_init 55 = .ok (.aload_n 0, 1) := by decide +kernel
theorem dn_d_Mod_init_56 : decode dn_c_Mod_init 56 = .ok (.iconst 4, 1) := by decide +kernel
theorem dn_d_Mod_init_57 : decode dn_c_Mod_init 57 = .ok (.newarray .int, 2) := by decide +kernel
theorem dn_d_Mod_init_59 : decode dn_c_Mod_init 59 = .ok (.putfield 32, 3) := by decide +kernel
theorem dn_d_Mod_init_62 : decode dn_c_Mod_init 62 = .ok (.aload_n 0, 1) := by decide +kernel
theorem dn_d_Mod_init_63 : decode dn_c_Mod_init 63 = .ok (.iconst 4, 1) := by decide +kernel
theorem dn_d_Mod_init_64 : decode dn_c_Mod_init 64 = .ok (.newarray .int, 2) := by decide +kernel
theorem dn_d_Mod_init_66 : decode dn_c_Mod_init 66 = .ok (.putfield 35, 3) := by decide +kernel
theorem dn_d_Mod_init_69 : decode dn_c_Mod_init 69 = .ok (.aload_n 0, 1) := by decide +kernel
theorem dn_d_Mod_init_70 : decode dn_c_Mod_init 70 = .ok (.iconst 4, 1) := by decide +kernel
theorem dn_d_Mod_init_71 : decode dn_c_Mod_init 71 = .ok (.newarray .long, 2) := by decide +kernel
theorem dn_d_Mod_init_73 : decode dn_c_Mod_init 73 = .ok (.putfield 38, 3) := by decide +kernel
theorem dn_d_Mod_init_76 : decode dn_c_Mod_init 76 = .ok (.aload_n 0, 1) := by decide +kernel
theorem dn_d_Mod_init_77 : decode dn_c_Mod_init 77 = .ok (.iconst 3, 1) := by decide +kernel
theorem dn_d_Mod_init_78 : decode dn_c_Mod_init 78 = .ok (.newarray .int, 2) := by decide +kernel
theorem dn_d_Mod_init_80 : decode dn_c_Mod_init 80 = .ok (.putfield 41, 3) := by decide +kernel
theorem dn_d_Mod_init_83 : decode dn_c_Mod_init 83 = .ok (.aload_n 0, 1) := by decide +kernel
theorem dn_d_Mod_init_84 : decode dn_c_Mod_init 84 = .ok (.iconst 3, 1) := by decide +kernel
theorem dn_d_Mod_init_85 : decode dn_c_Mod_init 85 = .ok (.newarray .int, 2) := by decide +kernel
theorem dn_d_Mod_init_87 : decode dn_c_Mod_init 87 = .ok (.putfield 44, 3) := by decide +kernel
theorem dn_d_Mod_init_90 : decode dn_c_Mod_init 90 = .ok (.aload_n 0, 1) := by decide +kernel
theorem dn_d_Mod_init_91 : decode dn_c_Mod_init 91 = .ok (.iconst 3, 1) := by decide +kernel
theorem dn_d_Mod_init_92 : decode dn_c_Mod_init 92 = .ok (.newarray .long, 2) := by decide +kernel
theorem dn_d_Mod_init_94 : decode dn_c_Mod_init 94 = .ok (.putfield 47, 3) := by decide +kernel
theorem dn_d_Mod_init_97 : decode dn_c_Mod_init 97 = .ok (.aload_n 0, 1) := by decide +kernel
theorem dn_d_Mod_init_98 : decode dn_c_Mod_init 98 = .ok (.bipush 80, 2) := by decide +kernel
theorem dn_d_Mod_init_100 : decode dn_c_Mod_init 100 = .ok (.newarray .long, 2) := by decide +kernel
theorem dn_d_Mod_init_102 : decode dn_c_Mod_init 102 = .ok (.putfield 50, 3) := by decide +kernel
theorem dn_d_Mod_init_105 : decode dn_c_Mod_init 105 = .ok (.aload_n 0, 1) := by decide +kernel
theorem dn_d_Mod_init_106 : decode dn_c_Mod_init 106 = .ok (.iconst 4, 1) := by decide +kernel
theorem dn_d_Mod_init_107 : decode dn_c_Mod_init 107 = .ok (.newarray .int, 2) := by decide +kernel
theorem dn_d_Mod_init_109 : decode dn_c_Mod_init 109 = .ok (.putfield 53, 3) := by decide +kernel
theorem dn_d_Mod_init_112 : decode dn_c_Mod_init 112 = .ok (.aload_n 0, 1) := by decide +kernel
theorem dn_d_Mod_init_113 : decode dn_c_Mod_init 113 = .ok (.bipush 24, 2) := by decide +kernel
theorem dn_d_Mod_init_115 : decode dn_c_Mod_init 115 = .ok (.newarray .long, 2) := by decide +kernel
theorem dn_d_Mod_init_117 : decode dn_c_Mod_init 117 = .ok (.putfield 56, 3) := by decide +kernel
theorem dn_d_Mod_init_120 : decode dn_c_Mod_init 120 = .ok (.aload_n 0, 1) := by decide +kernel
theorem dn_d_Mod_init_121 : decode dn_c_Mod_init 121 = .ok (.bipush 8, 2) := by decide +kernel
theorem dn_d_Mod_init_123 : decode dn_c_Mod_init 123 = .ok (.newarray .long, 2) := by decide +kernel
theorem dn_d_Mod_init_125 : decode dn_c_Mod_init 125 = .ok (.putfield 59, 3) := by decide +kernel
theorem dn_d_Mod_init_128 : decode dn_c_Mod_init 128 = .ok (.iload_n 1, 1) := by decide +kernel
theorem dn_d_Mod_init_129 : decode dn_c_Mod_init 129 = .ok (.ldc 62, 2) := by decide +kernel
theorem dn_d_Mod_init_131 : decode dn_c_Mod_init 131 = .ok (.irem, 1) := by decide +kernel
theorem dn_d_Mod_init_132 : decode dn_c_Mod_init 132 = .ok (.istore 4, 2) := by decide +kernel
theorem dn_d_Mod_init_134 : decode dn_c_Mod_init 134 = .ok (.iload_n 2, 1) := by decide +kernel
theorem dn_d_Mod_init_135 : decode dn_c_Mod_init 135 = .ok (.ldc 63, 2) := by decide +kernel
theorem dn_d_Mod_init_137 : decode dn_c_Mod_init 137 = .ok (.irem, 1) := by decide +kernel
theorem dn_d_Mod_init_138 : decode dn_c_Mod_init 138 = .ok (.istore 5, 2) := by decide +kernel
theorem dn_d_Mod_init_140 : decode dn_c_Mod_init 140 = .ok (.iload_n 3, 1) := by decide +kernel
theorem dn_d_Mod_init_141 : decode dn_c_Mod_init 141 = .ok (.ldc 63, 2) := by decide +kernel
theorem dn_d_Mod_init_143 : decode dn_c_Mod_init 143 = .ok (.irem, 1) := by decide +kernel
theorem dn_d_Mod_init_144 : decode dn_c_Mod_init 144 = .ok (.istore 6, 2) := by decide +kernel
theorem dn_d_Mod_init_146 : decode dn_c_Mod_init 146 = .ok (.aload_n 0, 1) := by decide +kernel
theorem dn_d_Mod_init_147 : decode dn_c_Mod_init 147 = .ok (.getfield 7, 3) := by decide +kernel
theorem dn_d_Mod_init_150 : decode dn_c_Mod_init 150 = .ok (.iconst 0, 1) := by decide +kernel
theorem dn_d_Mod_init_151 : decode dn_c_Mod_init 151 = .ok (.iload 4, 2) := by decide +kernel
theorem dn_d_Mod_init_153 : decode dn_c_Mod_init 153 = .ok (.ifCond .ge 9, 3) := by decide +kernel
theorem dn_d_Mod_init_156 : decode dn_c_Mod_init 156 = .ok (.iload 4, 2) := by decide +kernel
theorem dn_d_Mod_init_158 : decode dn_c_Mod_init 158 = .ok (.ineg, 1) := by decide +kernel
theorem dn_d_Mod_init_159 : decode dn_c_Mod_init 159 = .ok (.goto 5, 3) := by decide +kernel
theorem dn_d_Mod_init_162 : decode dn_c_Mod_init 162 = .ok (.iload 4, 2) := by decide +kernel
theorem dn_d_Mod_init_164 : decode dn_c_Mod_init 164 = .ok (.iastore, 1) := by decide +kernel
theorem dn_d_Mod_init_165 : decode dn_c_Mod_init 165 = .ok (.aload_n 0, 1) := by decide +kernel
theorem dn_d_Mod_init_166 : decode dn_c_Mod_init 166 = .ok (.getfield 7, 3) := by decide +kernel
theorem dn_d_Mod_init_169 : decode dn_c_Mod_init 169 = .ok (.iconst 1, 1) := by decide +kernel
theorem dn_d_Mod_init_170 : decode dn_c_Mod_init 170 = .ok (.iload 5, 2) := by decide +kernel
theorem dn_d_Mod_init_172 : decode dn_c_Mod_init 172 = .ok (.ifCond .ge 9, 3) := by decide +kernel
theorem dn_d_Mod_init_175 : decode dn_c_Mod_init 175 = .ok (.iload 5, 2) := by decide +kernel
theorem dn_d_Mod_init_177 : decode dn_c_Mod_init 177 = .ok (.ineg, 1) := by decide +kernel
theorem dn_d_Mod_init_178 : decode dn_c_Mod_init 178 = .ok (.goto 5, 3) := by decide +kernel
theorem dn_d_Mod_init_181 : decode dn_c_Mod_init 181 = .ok (.iload 5, 2) := by decide +kernel
theorem dn_d_Mod_init_183 : decode dn_c_Mod_init 183 = .ok (.iastore, 1) := by decide +kernel
theorem dn_d_Mod_init_184 : decode dn_c_Mod_init 184 = .ok (.aload_n 0, 1) := by decide +kernel
theorem dn_d_Mod_init_185 : decode dn_c_Mod_init 185 = .ok (.getfield 7, 3) := by decide +kernel
theorem dn_d_Mod_init_188 : decode dn_c_Mod_init 188 = .ok (.iconst 2, 1) := by decide +kernel
theorem dn_d_Mod_init_189 : decode dn_c_Mod_init 189 = .ok (.iload 6, 2) := by decide +kernel
theorem dn_d_Mod_init_191 : decode dn_c_Mod_init 191 = .ok (.ifCond .ge 9, 3) := by decide +kernel
theorem dn_d_Mod_init_194 : decode dn_c_Mod_init 194 = .ok (.iload 6, 2) := by decide +kernel
theorem dn_d_Mod_init_196 : decode dn_c_Mod_init 196 = .ok (.ineg, 1) := by decide +kernel
theorem dn_d_Mod_init_197 : decode dn_c_Mod_init 197 = .ok (.goto 5, 3) := by decide +kernel
theorem dn_d_Mod_init_200 : decode dn_c_Mod_init 200 = .ok (.iload 6, 2) := by decide +kernel
theorem dn_d_Mod_init_202 : decode dn_c_Mod_init 202 = .ok (.iastore, 1) := by decide +kernel
theorem dn_d_Mod_init_203 : decode dn_c_Mod_init 203 = .ok (.aload_n 0, 1) := by decide +kernel
theorem dn_d_Mod_init_204 : decode dn_c_Mod_init 204 = .ok (.iconst (-1), 1) := by decide +kernel
theorem dn_d_Mod_init_205 : decode dn_c_Mod_init 205 = .ok (.putfield 64, 3) := by decide +kernel
theorem dn_d_Mod_init_208 : decode dn_c_Mod_init 208 = .ok (.return_, 1) := by decide +kernel
theorem dn_d_Mod_thrown_0 : decode dn_c_Mod_thrown 0 = .ok (.aload_n 0, 1) := by decide +kernel
theorem dn_d_Mod_thrown_1 : decode dn_c_Mod_thrown 1 = .ok (.getfield 68, 3) := by decide +kernel
theorem dn_d_Mod_thrown_4 : decode dn_c_Mod_thrown 4 = .ok (.ireturn, 1) := by decide +kernel
theorem dn_d_Mod_digestRow_0 : decode dn_c_Mod_digestRow 0 = .ok (.ldc2_w 71, 3) := by decide +kernel
theorem dn_d_Mod_digestRow_3 : decode dn_c_Mod_digestRow 3 = .ok (.lstore_n 2, 1) := by decide +kernel
theorem dn_d_Mod_digestRow_4 : decode dn_c_Mod_digestRow 4 = .ok (.iconst 0, 1) := by decide +kernel
theorem dn_d_Mod_digestRow_5 : decode dn_c_Mod_digestRow 5 = .ok (.istore 4, 2) := by decide +kernel
theorem dn_d_Mod_digestRow_7 : decode dn_c_Mod_digestRow 7 = .ok (.iload 4, 2) := by decide +kernel
theorem dn_d_Mod_digestRow_9 : decode dn_c_Mod_digestRow 9 = .ok (.iload_n 1, 1) := by decide +kernel
theorem dn_d_Mod_digestRow_10 : decode dn_c_Mod_digestRow 10 = .ok (.if_icmp .ge 30, 3) := by decide +kernel
theorem dn_d_Mod_digestRow_13 : decode dn_c_Mod_digestRow 13 = .ok (.lload_n 2, 1) := by decide +kernel
theorem dn_d_Mod_digestRow_14 : decode dn_c_Mod_digestRow 14 = .ok (.aload_n 0, 1) := by decide +kernel
theorem dn_d_Mod_digestRow_15 : decode dn_c_Mod_digestRow 15 = .ok (.getfield 56, 3) := by decide +kernel
theorem dn_d_Mod_digestRow_18 : decode dn_c_Mod_digestRow 18 = .ok (.iload 4, 2) := by decide +kernel
theorem dn_d_Mod_digestRow_20 : decode dn_c_Mod_digestRow 20 = .ok (.laload, 1) := by decide +kernel
theorem dn_d_Mod_digestRow_21 : decode dn_c_Mod_digestRow 21 = .ok (.lxor, 1) := by decide +kernel
theorem dn_d_Mod_digestRow_22 : decode dn_c_Mod_digestRow 22 = .ok (.ldc2_w 73, 3) := by decide +kernel
theorem dn_d_Mod_digestRow_25 : decode dn_c_Mod_digestRow 25 = .ok (.lmul, 1) := by decide +kernel
theorem dn_d_Mod_digestRow_26 : decode dn_c_Mod_digestRow 26 = .ok (.lstore_n 2, 1) := by decide +kernel
theorem dn_d_Mod_digestRow_27 : decode dn_c_Mod_digestRow 27 = .ok (.lload_n 2, 1) := by decide +kernel
theorem dn_d_Mod_digestRow_28 : decode dn_c_Mod_digestRow 28 = .ok (.lload_n 2, 1) := by decide +kernel
theorem dn_d_Mod_digestRow_29 : decode dn_c_Mod_digestRow 29 = .ok (.bipush 29, 2) := by decide +kernel
theorem dn_d_Mod_digestRow_31 : decode dn_c_Mod_digestRow 31 = .ok (.lushr, 1) := by decide +kernel
theorem dn_d_Mod_digestRow_32 : decode dn_c_Mod_digestRow 32 = .ok (.lxor, 1) := by decide +kernel
theorem dn_d_Mod_digestRow_33 : decode dn_c_Mod_digestRow 33 = .ok (.lstore_n 2, 1) := by decide +kernel
theorem dn_d_Mod_digestRow_34 : decode dn_c_Mod_digestRow 34 = .ok (.iinc 4 1, 3) := by decide +kernel
theorem dn_d_Mod_digestRow_37 : decode dn_c_Mod_digestRow 37 = .ok (.goto (-30), 3) := by decide +kernel
theorem dn_d_Mod_digestRow_40 : decode dn_c_Mod_digestRow 40 = .ok (.lload_n 2, 1) := by decide +kernel
theorem dn_d_Mod_digestRow_41 : decode dn_c_Mod_digestRow 41 = .ok (.lreturn, 1) := by decide +kernel
theorem dn_d_Mod_digest_0 : decode dn_c_Mod_digest 0 = .ok (.aload_n 0, 1) := by decide +kernel
theorem dn_d_Mod_digest_1 : decode dn_c_Mod_digest 1 = .ok (.iconst 0, 1) := by decide +kernel
theorem dn_d_Mod_digest_2 : decode dn_c_Mod_digest 2 = .ok (.putfield 68, 3) := by decide +kernel
theorem dn_d_Mod_digest_5 : decode dn_c_Mod_digest 5 = .ok (.aload_n 0, 1) := by decide +kernel
theorem dn_d_Mod_digest_6 : decode dn_c_Mod_digest 6 = .ok (.lload_n 1, 1) := by decide +kernel
theorem dn_d_Mod_digest_7 : decode dn_c_Mod_digest 7 = .ok (.lload_n 3, 1) := by decide +kernel
theorem dn_d_Mod_digest_8 : decode dn_c_Mod_digest 8 = .ok (.invokevirtual 75, 3) := by decide +kernel
theorem dn_d_Mod_digest_11 : decode dn_c_Mod_digest 11 = .ok (.lreturn, 1) := by decide +kernel
theorem dn_d_Mod_both_0 : decode dn_c_Mod_both 0 = .ok (.aload_n 0, 1) := by decide +kernel
theorem dn_d_Mod_both_1 : decode dn_c_Mod_both 1 = .ok (.getfield 56, 3) := by decide +kernel
theorem dn_d_Mod_both_4 : decode dn_c_Mod_both 4 = .ok (.iconst 0, 1) := by decide +kernel
theorem dn_d_Mod_both_5 : decode dn_c_Mod_both 5 = .ok (.lload_n 1, 1) := by decide +kernel
theorem dn_d_Mod_both_6 : decode dn_c_Mod_both 6 = .ok (.lastore, 1) := by decide +kernel
theorem dn_d_Mod_both_7 : decode dn_c_Mod_both 7 = .ok (.aload_n 0, 1) := by decide +kernel
theorem dn_d_Mod_both_8 : decode dn_c_Mod_both 8 = .ok (.getfield 56, 3) := by decide +kernel
theorem dn_d_Mod_both_11 : decode dn_c_Mod_both 11 = .ok (.iconst 1, 1) := by decide +kernel
theorem dn_d_Mod_both_12 : decode dn_c_Mod_both 12 = .ok (.lload_n 3, 1) := by decide +kernel
theorem dn_d_Mod_both_13 : decode dn_c_Mod_both 13 = .ok (.lastore, 1) := by decide +kernel
theorem dn_d_Mod_both_14 : decode dn_c_Mod_both 14 = .ok (.aload_n 0, 1) := by decide +kernel
theorem dn_d_Mod_both_15 : decode dn_c_Mod_both 15 = .ok (.iconst 2, 1) := by decide +kernel
theorem dn_d_Mod_both_16 : decode dn_c_Mod_both 16 = .ok (.invokevirtual 79, 3) := by decide +kernel
theorem dn_d_Mod_both_19 : decode dn_c_Mod_both 19 = .ok (.lreturn, 1) := by decide +kernel
theorem dn_d_Mod_mixed_0 : decode dn_c_Mod_mixed 0 = .ok (.iload_n 3, 1) := by decide +kernel
theorem dn_d_Mod_mixed_1 : decode dn_c_Mod_mixed 1 = .ok (.ifCond .ne 7, 3) := by decide +kernel
theorem dn_d_Mod_mixed_4 : decode dn_c_Mod_mixed 4 = .ok (.lload_n 0, 1) := by decide +kernel
theorem dn_d_Mod_mixed_5 : decode dn_c_Mod_mixed 5 = .ok (.goto 19, 3) := by decide +kernel
theorem dn_d_Mod_mixed_8 : decode dn_c_Mod_mixed 8 = .ok (.lload_n 0, 1) := by decide +kernel
theorem dn_d_Mod_mixed_9 : decode dn_c_Mod_mixed 9 = .ok (.bipush 8, 2) := by decide +kernel
theorem dn_d_Mod_mixed_11 : decode dn_c_Mod_mixed 11 = .ok (.iload_n 3, 1) := by decide +kernel
theorem dn_d_Mod_mixed_12 : decode dn_c_Mod_mixed 12 = .ok (.imul, 1) := by decide +kernel
theorem dn_d_Mod_mixed_13 : decode dn_c_Mod_mixed 13 = .ok (.lushr, 1) := by decide +kernel
theorem dn_d_Mod_mixed_14 : decode dn_c_Mod_mixed 14 = .ok (.lload_n 0, 1) := by decide +kernel
theorem dn_d_Mod_mixed_15 : decode dn_c_Mod_mixed 15 = .ok (.bipush 64, 2) := by decide +kernel
theorem dn_d_Mod_mixed_17 : decode dn_c_Mod_mixed 17 = .ok (.bipush 8, 2) := by decide +kernel
theorem dn_d_Mod_mixed_19 : decode dn_c_Mod_mixed 19 = .ok (.iload_n 3, 1) := by decide +kernel
theorem dn_d_Mod_mixed_20 : decode dn_c_Mod_mixed 20 = .ok (.imul, 1) := by decide +kernel
theorem dn_d_Mod_mixed_21 : decode dn_c_Mod_mixed 21 = .ok (.isub, 1) := by decide +kernel
theorem dn_d_Mod_mixed_22 : decode dn_c_Mod_mixed 22 = .ok (.lshl, 1) := by decide +kernel
theorem dn_d_Mod_mixed_23 : decode dn_c_Mod_mixed 23 = .ok (.lor, 1) := by decide +kernel
theorem dn_d_Mod_mixed_24 : decode dn_c_Mod_mixed 24 = .ok (.lstore 4, 2) := by decide +kernel
theorem dn_d_Mod_mixed_26 : decode dn_c_Mod_mixed 26 = .ok (.iload_n 2, 1) := by decide +kernel
theorem dn_d_Mod_mixed_27 : decode dn_c_Mod_mixed 27 = .ok (.lload 4, 2) := by decide +kernel
theorem dn_d_Mod_mixed_29 : decode dn_c_Mod_mixed 29 = .ok (.l2i, 1) := by decide +kernel
theorem dn_d_Mod_mixed_30 : decode dn_c_Mod_mixed 30 = .ok (.iadd, 1) := by decide +kernel
theorem dn_d_Mod_mixed_31 : decode dn_c_Mod_mixed 31 = .ok (.istore 6, 2) := by decide +kernel
theorem dn_d_Mod_mixed_33 : decode dn_c_Mod_mixed 33 = .ok (.iload 6, 2) := by decide +kernel
theorem dn_d_Mod_mixed_35 : decode dn_c_Mod_mixed 35 = .ok (.iconst 4, 1) := by decide +kernel
theorem dn_d_Mod_mixed_36 : decode dn_c_Mod_mixed 36 = .ok (.ishl, 1) := by decide +kernel
theorem dn_d_Mod_mixed_37 : decode dn_c_Mod_mixed 37 = .ok (.iload 6, 2) := by decide +kernel
theorem dn_d_Mod_mixed_39 : decode dn_c_Mod_mixed 39 = .ok (.iconst 5, 1) := by decide +kernel
theorem dn_d_Mod_mixed_40 : decode dn_c_Mod_mixed 40 = .ok (.iushr, 1) := by decide +kernel
theorem dn_d_Mod_mixed_41 : decode dn_c_Mod_mixed 41 = .ok (.ixor, 1) := by decide +kernel
theorem dn_d_Mod_mixed_42 : decode dn_c_Mod_mixed 42 = .ok (.iload 6, 2) := by decide +kernel
theorem dn_d_Mod_mixed_44 : decode dn_c_Mod_mixed 44 = .ok (.iadd, 1) := by decide +kernel
theorem dn_d_Mod_mixed_45 : decode dn_c_Mod_mixed 45 = .ok (.iload_n 3, 1) := by decide +kernel
theorem dn_d_Mod_mixed_46 : decode dn_c_Mod_mixed 46 = .ok (.ldc 83, 2) := by decide +kernel
theorem dn_d_Mod_mixed_48 : decode dn_c_Mod_mixed 48 = .ok (.imul, 1) := by decide +kernel
theorem dn_d_Mod_mixed_49 : decode dn_c_Mod_mixed 49 = .ok (.ixor, 1) := by decide +kernel
theorem dn_d_Mod_mixed_50 : decode dn_c_Mod_mixed 50 = .ok (.ireturn, 1) := by decide +kernel
theorem dn_d_Mod_joined_0 : decode dn_c_Mod_joined 0 = .ok (.iload_n 0, 1) := by decide +kernel
theorem dn_d_Mod_joined_1 : decode dn_c_Mod_joined 1 = .ok (.i2l, 1) := by decide +kernel
theorem dn_d_Mod_joined_2 : decode dn_c_Mod_joined 2 = .ok (.bipush 32, 2) := by decide +kernel
theorem dn_d_Mod_joined_4 : decode dn_c_Mod_joined 4 = .ok (.lshl, 1) := by decide +kernel
theorem dn_d_Mod_joined_5 : decode dn_c_Mod_joined 5 = .ok (.iload_n 1, 1) := by decide +kernel
theorem dn_d_Mod_joined_6 : decode dn_c_Mod_joined 6 = .ok (.i2l, 1) := by decide +kernel
theorem dn_d_Mod_joined_7 : decode dn_c_Mod_joined 7 = .ok (.ldc2_w 84, 3) := by decide +kernel
theorem dn_d_Mod_joined_10 : decode dn_c_Mod_joined 10 = .ok (.land, 1) := by decide +kernel
theorem dn_d_Mod_joined_11 : decode dn_c_Mod_joined 11 = .ok (.lor, 1) := by decide +kernel
theorem dn_d_Mod_joined_12 : decode dn_c_Mod_joined 12 = .ok (.lreturn, 1) := by decide +kernel
theorem dn_d_Mod_hide_0 : decode dn_c_Mod_hide 0 = .ok (.lload_n 2, 1) := by decide +kernel
theorem dn_d_Mod_hide_1 : decode dn_c_Mod_hide 1 = .ok (.bipush 32, 2) := by decide +kernel
theorem dn_d_Mod_hide_3 : decode dn_c_Mod_hide 3 = .ok (.lshr, 1) := by decide +kernel
theorem dn_d_Mod_hide_4 : decode dn_c_Mod_hide 4 = .ok (.l2i, 1) := by decide +kernel
theorem dn_d_Mod_hide_5 : decode dn_c_Mod_hide 5 = .ok (.istore 4, 2) := by decide +kernel
theorem dn_d_Mod_hide_7 : decode dn_c_Mod_hide 7 = .ok (.lload_n 2, 1) := by decide +kernel
theorem dn_d_Mod_hide_8 : decode dn_c_Mod_hide 8 = .ok (.l2i, 1) := by decide +kernel
theorem dn_d_Mod_hide_9 : decode dn_c_Mod_hide 9 = .ok (.istore 5, 2) := by decide +kernel
theorem dn_d_Mod_hide_11 : decode dn_c_Mod_hide 11 = .ok (.iconst 0, 1) := by decide +kernel
theorem dn_d_Mod_hide_12 : decode dn_c_Mod_hide 12 = .ok (.istore 6, 2) := by decide +kernel
theorem dn_d_Mod_hide_14 : decode dn_c_Mod_hide 14 = .ok (.iload 6, 2) := by decide +kernel
theorem dn_d_Mod_hide_16 : decode dn_c_Mod_hide 16 = .ok (.bipush 8, 2) := by decide +kernel
theorem dn_d_Mod_hide_18 : decode dn_c_Mod_hide 18 = .ok (.if_icmp .ge 30, 3) := by decide +kernel
theorem dn_d_Mod_hide_21 : decode dn_c_Mod_hide 21 = .ok (.iload 4, 2) := by decide +kernel
theorem dn_d_Mod_hide_23 : decode dn_c_Mod_hide 23 = .ok (.lload_n 0, 1) := by decide +kernel
theorem dn_d_Mod_hide_24 : decode dn_c_Mod_hide 24 = .ok (.iload 5, 2) := by decide +kernel
theorem dn_d_Mod_hide_26 : decode dn_c_Mod_hide 26 = .ok (.iload 6, 2) := by decide +kernel
theorem dn_d_Mod_hide_28 : decode dn_c_Mod_hide 28 = .ok (.invokestatic 86, 3) := by decide +kernel
theorem dn_d_Mod_hide_31 : decode dn_c_Mod_hide 31 = .ok (.ixor, 1) := by decide +kernel
theorem dn_d_Mod_hide_32 : decode dn_c_Mod_hide 32 = .ok (.istore 7, 2) := by decide +kernel
theorem dn_d_Mod_hide_34 : decode dn_c_Mod_hide 34 = .ok (.iload 5, 2) := by decide +kernel
theorem dn_d_Mod_hide_36 : decode dn_c_Mod_hide 36 = .ok (.istore 4, 2) := by decide +kernel
theorem dn_d_Mod_hide_38 : decode dn_c_Mod_hide 38 = .ok (.iload 7, 2) := by decide +kernel
theorem dn_d_Mod_hide_40 : decode dn_c_Mod_hide 40 = .ok (.istore 5, 2) := by decide +kernel
theorem dn_d_Mod_hide_42 : decode dn_c_Mod_hide 42 = .ok (.iinc 6 1, 3) := by decide +kernel
theorem dn_d_Mod_hide_45 : decode dn_c_Mod_hide 45 = .ok (.goto (-31), 3) := by decide +kernel
theorem dn_d_Mod_hide_48 : decode dn_c_Mod_hide 48 = .ok (.iload 4, 2) := by decide +kernel
theorem dn_d_Mod_hide_50 : decode dn_c_Mod_hide 50 = .ok (.iload 5, 2) := by decide +kernel
theorem dn_d_Mod_hide_52 : decode dn_c_Mod_hide 52 = .ok (.invokestatic 90, 3) := by decide +kernel
theorem dn_d_Mod_hide_55 : decode dn_c_Mod_hide 55 = .ok (.lreturn, 1) := by decide +kernel
theorem dn_d_Mod_show_0 : decode dn_c_Mod_show 0 = .ok (.lload_n 2, 1) := by decide +kernel
theorem dn_d_Mod_show_1 : decode dn_c_Mod_show 1 = .ok (.bipush 32, 2) := by decide +kernel
theorem dn_d_Mod_show_3 : decode dn_c_Mod_show 3 = .ok (.lshr, 1) := by decide +kernel
theorem dn_d_Mod_show_4 : decode dn_c_Mod_show 4 = .ok (.l2i, 1) := by decide +kernel
theorem dn_d_Mod_show_5 : decode dn_c_Mod_show 5 = .ok (.istore 4, 2) := by decide +kernel
theorem dn_d_Mod_show_7 : decode dn_c_Mod_show 7 = .ok (.lload_n 2, 1) := by decide +kernel
theorem dn_d_Mod_show_8 : decode dn_c_Mod_show 8 = .ok (.l2i, 1) := by decide +kernel
theorem dn_d_Mod_show_9 : decode dn_c_Mod_show 9 = .ok (.istore 5, 2) := by decide +kernel
theorem dn_d_Mod_show_11 : decode dn_c_Mod_show 11 = .ok (.bipush 7, 2) := by decide +kernel
theorem dn_d_Mod_show_13 : decode dn_c_Mod_show 13 = .ok (.istore 6, 2) := by decide +kernel
theorem dn_d_Mod_show_15 : decode dn_c_Mod_show 15 = .ok (.iload 6, 2) := by decide +kernel
theorem dn_d_Mod_show_17 : decode dn_c_Mod_show 17 = .ok (.ifCond .lt 30, 3) := by decide +kernel
theorem dn_d_Mod_show_20 : decode dn_c_Mod_show 20 = .ok (.iload 5, 2) := by decide +kernel
theorem dn_d_Mod_show_22 : decode dn_c_Mod_show 22 = .ok (.lload_n 0, 1) := by decide +kernel
theorem dn_d_Mod_show_23 : decode dn_c_Mod_show 23 = .ok (.iload 4, 2) := by decide +kernel
theorem dn_d_Mod_show_25 : decode dn_c_Mod_show 25 = .ok (.iload 6, 2) := by decide +kernel
theorem dn_d_Mod_show_27 : decode dn_c_Mod_show 27 = .ok (.invokestatic 86, 3) := by decide +kernel
theorem dn_d_Mod_show_30 : decode dn_c_Mod_show 30 = .ok (.ixor, 1) := by decide +kernel
theorem dn_d_Mod_show_31 : decode dn_c_Mod_show 31 = .ok (.istore 7, 2) := by decide +kernel
theorem dn_d_Mod_show_33 : decode dn_c_Mod_show 33 = .ok (.iload 4, 2) := by decide +kernel
theorem dn_d_Mod_show_35 : decode dn_c_Mod_show 35 = .ok (.istore 5, 2) := by decide +kernel
theorem dn_d_Mod_show_37 : decode dn_c_Mod_show 37 = .ok (.iload 7, 2) := by decide +kernel
theorem dn_d_Mod_show_39 : decode dn_c_Mod_show 39 = .ok (.istore 4, 2) := by decide +kernel
theorem dn_d_Mod_show_41 : decode dn_c_Mod_show 41 = .ok (.iinc 6 (-1), 3) := by decide +kernel
theorem dn_d_Mod_show_44 : decode dn_c_Mod_show 44 = .ok (.goto (-29), 3) := by decide +kernel
theorem dn_d_Mod_show_47 : decode dn_c_Mod_show 47 = .ok (.iload 4, 2) := by decide +kernel
theorem dn_d_Mod_show_49 : decode dn_c_Mod_show 49 = .ok (.iload 5, 2) := by decide +kernel
theorem dn_d_Mod_show_51 : decode dn_c_Mod_show 51 = .ok (.invokestatic 90, 3) := by decide +kernel
theorem dn_d_Mod_show_54 : decode dn_c_Mod_show 54 = .ok (.lreturn, 1) := by decide +kernel
theorem dn_d_Mod_cipher_0 : decode dn_c_Mod_cipher 0 = .ok (.aload_n 0, 1) := by decide +kernel
theorem dn_d_Mod_cipher_1 : decode dn_c_Mod_cipher 1 = .ok (.iconst 0, 1) := by decide +kernel
theorem dn_d_Mod_cipher_2 : decode dn_c_Mod_cipher 2 = .ok (.putfield 68, 3) := by decide +kernel
theorem dn_d_Mod_cipher_5 : decode dn_c_Mod_cipher 5 = .ok (.lload_n 1, 1) := by decide +kernel
theorem dn_d_Mod_cipher_6 : decode dn_c_Mod_cipher 6 = .ok (.lload_n 3, 1) := by decide +kernel
theorem dn_d_Mod_cipher_7 : decode dn_c_Mod_cipher 7 = .ok (.invokestatic 94, 3) := by decide +kernel
theorem dn_d_Mod_cipher_10 : decode dn_c_Mod_cipher 10 = .ok (.lreturn, 1) := by decide +kernel
theorem dn_d_Mod_seal_0 : decode dn_c_Mod_seal 0 = .ok (.lconst 0, 1) := by decide +kernel
theorem dn_d_Mod_seal_1 : decode dn_c_Mod_seal 1 = .ok (.lstore 4, 2) := by decide +kernel
theorem dn_d_Mod_seal_3 : decode dn_c_Mod_seal 3 = .ok (.iconst 0, 1) := by decide +kernel
theorem dn_d_Mod_seal_4 : decode dn_c_Mod_seal 4 = .ok (.istore 6, 2) := by decide +kernel
theorem dn_d_Mod_seal_6 : decode dn_c_Mod_seal 6 = .ok (.iload 6, 2) := by decide +kernel
theorem dn_d_Mod_seal_8 : decode dn_c_Mod_seal 8 = .ok (.iload_n 3, 1) := by decide +kernel
theorem dn_d_Mod_seal_9 : decode dn_c_Mod_seal 9 = .ok (.if_icmp .ge 25, 3) := by decide +kernel
theorem dn_d_Mod_seal_12 : decode dn_c_Mod_seal 12 = .ok (.lload_n 1, 1) := by decide +kernel
theorem dn_d_Mod_seal_13 : decode dn_c_Mod_seal 13 = .ok (.aload_n 0, 1) := by decide +kernel
theorem dn_d_Mod_seal_14 : decode dn_c_Mod_seal 14 = .ok (.getfield 56, 3) := by decide +kernel
theorem dn_d_Mod_seal_17 : decode dn_c_Mod_seal 17 = .ok (.iload 6, 2) := by decide +kernel
theorem dn_d_Mod_seal_19 : decode dn_c_Mod_seal 19 = .ok (.laload, 1) := by decide +kernel
theorem dn_d_Mod_seal_20 : decode dn_c_Mod_seal 20 = .ok (.lload 4, 2) := by decide +kernel
theorem dn_d_Mod_seal_22 : decode dn_c_Mod_seal 22 = .ok (.lxor, 1) := by decide +kernel
theorem dn_d_Mod_seal_23 : decode dn_c_Mod_seal 23 = .ok (.invokestatic 94, 3) := by decide +kernel
theorem dn_d_Mod_seal_26 : decode dn_c_Mod_seal 26 = .ok (.lstore 4, 2) := by decide +kernel
theorem dn_d_Mod_seal_28 : decode dn_c_Mod_seal 28 = .ok (.iinc 6 1, 3) := by decide +kernel
theorem dn_d_Mod_seal_31 : decode dn_c_Mod_seal 31 = .ok (.goto (-25), 3) := by decide +kernel
theorem dn_d_Mod_seal_34 : decode dn_c_Mod_seal 34 = .ok (.lload 4, 2) := by decide +kernel
theorem dn_d_Mod_seal_36 : decode dn_c_Mod_seal 36 = .ok (.lreturn, 1) := by decide +kernel
theorem dn_d_Mod_sealOf_0 : decode dn_c_Mod_sealOf 0 = .ok (.aload_n 0, 1) := by decide +kernel
theorem dn_d_Mod_sealOf_1 : decode dn_c_Mod_sealOf 1 = .ok (.getfield 56, 3) := by decide +kernel
theorem dn_d_Mod_sealOf_4 : decode dn_c_Mod_sealOf 4 = .ok (.iconst 0, 1) := by decide +kernel
theorem dn_d_Mod_sealOf_5 : decode dn_c_Mod_sealOf 5 = .ok (.lload_n 3, 1) := by decide +kernel
theorem dn_d_Mod_sealOf_6 : decode dn_c_Mod_sealOf 6 = .ok (.lastore, 1) := by decide +kernel
theorem dn_d_Mod_sealOf_7 : decode dn_c_Mod_sealOf 7 = .ok (.aload_n 0, 1) := by decide +kernel
theorem dn_d_Mod_sealOf_8 : decode dn_c_Mod_sealOf 8 = .ok (.getfield 56, 3) := by decide +kernel
theorem dn_d_Mod_sealOf_11 : decode dn_c_Mod_sealOf 11 = .ok (.iconst 1, 1) := by decide +kernel
theorem dn_d_Mod_sealOf_12 : decode dn_c_Mod_sealOf 12 = .ok (.lload 5, 2) := by decide +kernel
theorem dn_d_Mod_sealOf_14 : decode dn_c_Mod_sealOf 14 = .ok (.lastore, 1) := by decide +kernel
theorem dn_d_Mod_sealOf_15 : decode dn_c_Mod_sealOf 15 = .ok (.aload_n 0, 1) := by decide +kernel
theorem dn_d_Mod_sealOf_16 : decode dn_c_Mod_sealOf 16 = .ok (.getfield 56, 3) := by decide +kernel
theorem dn_d_Mod_sealOf_19 : decode dn_c_Mod_sealOf 19 = .ok (.iconst 2, 1) := by decide +kernel
theorem dn_d_Mod_sealOf_20 : decode dn_c_Mod_sealOf 20 = .ok (.lload 7, 2) := by decide +kernel
theorem dn_d_Mod_sealOf_22 : decode dn_c_Mod_sealOf 22 = .ok (.lastore, 1) := by decide +kernel
theorem dn_d_Mod_sealOf_23 : decode dn_c_Mod_sealOf 23 = .ok (.aload_n 0, 1) := by decide +kernel
theorem dn_d_Mod_sealOf_24 : decode dn_c_Mod_sealOf 24 = .ok (.lload_n 1, 1) := by decide +kernel
theorem dn_d_Mod_sealOf_25 : decode dn_c_Mod_sealOf 25 = .ok (.iconst 3, 1) := by decide +kernel
theorem dn_d_Mod_sealOf_26 : decode dn_c_Mod_sealOf 26 = .ok (.invokevirtual 97, 3) := by decide +kernel
theorem dn_d_Mod_sealOf_29 : decode dn_c_Mod_sealOf 29 = .ok (.lreturn, 1) := by decide +kernel
theorem dn_d_Mod_digitOf_0 : decode dn_c_Mod_digitOf 0 = .ok (.iconst 1, 1) := by decide +kernel
theorem dn_d_Mod_digitOf_1 : decode dn_c_Mod_digitOf 1 = .ok (.istore_n 2, 1) := by decide +kernel
theorem dn_d_Mod_digitOf_2 : decode dn_c_Mod_digitOf 2 = .ok (.iconst 1, 1) := by decide +kernel
theorem dn_d_Mod_digitOf_3 : decode dn_c_Mod_digitOf 3 = .ok (.istore_n 3, 1) := by decide +kernel
theorem dn_d_Mod_digitOf_4 : decode dn_c_Mod_digitOf 4 = .ok (.iload_n 3, 1) := by decide +kernel
theorem dn_d_Mod_digitOf_5 : decode dn_c_Mod_digitOf 5 = .ok (.iload_n 1, 1) := by decide +kernel
theorem dn_d_Mod_digitOf_6 : decode dn_c_Mod_digitOf 6 = .ok (.if_icmp .ge 14, 3) := by decide +kernel
theorem dn_d_Mod_digitOf_9 : decode dn_c_Mod_digitOf 9 = .ok (.iload_n 2, 1) := by decide +kernel
theorem dn_d_Mod_digitOf_10 : decode dn_c_Mod_digitOf 10 = .ok (.bipush 10, 2) := by decide +kernel
theorem dn_d_Mod_digitOf_12 : decode dn_c_Mod_digitOf 12 = .ok (.imul, 1) := by decide +kernel
theorem dn_d_Mod_digitOf_13 : decode dn_c_Mod_digitOf 13 = .ok (.istore_n 2, 1) := by decide +kernel
theorem dn_d_Mod_digitOf_14 : decode dn_c_Mod_digitOf 14 = .ok (.iinc 3 1, 3) := by decide +kernel
theorem dn_d_Mod_digitOf_17 : decode dn_c_Mod_digitOf 17 = .ok (.goto (-13), 3) := by decide +kernel
theorem dn_d_Mod_digitOf_20 : decode dn_c_Mod_digitOf 20 = .ok (.iconst 0, 1) := by decide +kernel
theorem dn_d_Mod_digitOf_21 : decode dn_c_Mod_digitOf 21 = .ok (.istore_n 3, 1) := by decide +kernel
theorem dn_d_Mod_digitOf_22 : decode dn_c_Mod_digitOf 22 = .ok (.iconst 0, 1) := by decide +kernel
theorem dn_d_Mod_digitOf_23 : decode dn_c_Mod_digitOf 23 = .ok (.istore 4, 2) := by decide +kernel
theorem dn_d_Mod_digitOf_25 : decode dn_c_Mod_digitOf 25 = .ok (.iload 4, 2) := by decide +kernel
theorem dn_d_Mod_digitOf_27 : decode dn_c_Mod_digitOf 27 = .ok (.iload_n 1, 1) := by decide +kernel
theorem dn_d_Mod_digitOf_28 : decode dn_c_Mod_digitOf 28 = .ok (.if_icmp .ge 53, 3) := by decide +kernel
theorem dn_d_Mod_digitOf_31 : decode dn_c_Mod_digitOf 31 = .ok (.iload 4, 2) := by decide +kernel
theorem dn_d_Mod_digitOf_33 : decode dn_c_Mod_digitOf 33 = .ok (.iconst 3, 1) := by decide +kernel
theorem dn_d_Mod_digitOf_34 : decode dn_c_Mod_digitOf 34 = .ok (.irem, 1) := by decide +kernel
theorem dn_d_Mod_digitOf_35 : decode dn_c_Mod_digitOf 35 = .ok (.ifCond .ne 8, 3) := by decide +kernel
theorem dn_d_Mod_digitOf_38 : decode dn_c_Mod_digitOf 38 = .ok (.bipush 7, 2) := by decide +kernel
theorem dn_d_Mod_digitOf_40 : decode dn_c_Mod_digitOf 40 = .ok (.goto 16, 3) := by decide +kernel
theorem dn_d_Mod_digitOf_43 : decode dn_c_Mod_digitOf 43 = .ok (.iload 4, 2) := by decide +kernel
theorem dn_d_Mod_digitOf_45 : decode dn_c_Mod_digitOf 45 = .ok (.iconst 3, 1) := by decide +kernel
theorem dn_d_Mod_digitOf_46 : decode dn_c_Mod_digitOf 46 = .ok (.irem, 1) := by decide +kernel
theorem dn_d_Mod_digitOf_47 : decode dn_c_Mod_digitOf 47 = .ok (.iconst 1, 1) := by decide +kernel
theorem dn_d_Mod_digitOf_48 : decode dn_c_Mod_digitOf 48 = .ok (.if_icmp .ne 7, 3) := by decide +kernel
theorem dn_d_Mod_digitOf_51 : decode dn_c_Mod_digitOf 51 = .ok (.iconst 3, 1) := by decide +kernel
theorem dn_d_Mod_digitOf_52 : decode dn_c_Mod_digitOf 52 = .ok (.goto 4, 3) := by decide +kernel
theorem dn_d_Mod_digitOf_55 : decode dn_c_Mod_digitOf 55 = .ok (.iconst 1, 1) := by decide +kernel
theorem dn_d_Mod_digitOf_56 : decode dn_c_Mod_digitOf 56 = .ok (.istore 5, 2) := by decide +kernel
theorem dn_d_Mod_digitOf_58 : decode dn_c_Mod_digitOf 58 = .ok (.iload_n 3, 1) := by decide +kernel
theorem dn_d_Mod_digitOf_59 : decode dn_c_Mod_digitOf 59 = .ok (.iload_n 0, 1) := by decide +kernel
theorem dn_d_Mod_digitOf_60 : decode dn_c_Mod_digitOf 60 = .ok (.iload_n 2, 1) := by decide +kernel
theorem dn_d_Mod_digitOf_61 : decode dn_c_Mod_digitOf 61 = .ok (.idiv, 1) := by decide +kernel
theorem dn_d_Mod_digitOf_62 : decode dn_c_Mod_digitOf 62 = .ok (.bipush 10, 2) := by decide +kernel
theorem dn_d_Mod_digitOf_64 : decode dn_c_Mod_digitOf 64 = .ok (.irem, 1) := by decide +kernel
theorem dn_d_Mod_digitOf_65 : decode dn_c_Mod_digitOf 65 = .ok (.iload 5, 2) := by decide +kernel
theorem dn_d_Mod_digitOf_67 : decode dn_c_Mod_digitOf 67 = .ok (.imul, 1) := by decide +kernel
theorem dn_d_Mod_digitOf_68 : decode dn_c_Mod_digitOf 68 = .ok (.iadd, 1) := by decide +kernel
theorem dn_d_Mod_digitOf_69 : decode dn_c_Mod_digitOf 69 = .ok (.istore_n 3, 1) := by decide +kernel
theorem dn_d_Mod_digitOf_70 : decode dn_c_Mod_digitOf 70 = .ok (.iload_n 2, 1) := by decide +kernel
theorem dn_d_Mod_digitOf_71 : decode dn_c_Mod_digitOf 71 = .ok (.bipush 10, 2) := by decide +kernel
theorem dn_d_Mod_digitOf_73 : decode dn_c_Mod_digitOf 73 = .ok (.idiv, 1) := by decide +kernel
theorem dn_d_Mod_digitOf_74 : decode dn_c_Mod_digitOf 74 = .ok (.istore_n 2, 1) := by decide +kernel
theorem dn_d_Mod_digitOf_75 : decode dn_c_Mod_digitOf 75 = .ok (.iinc 4 1, 3) := by decide +kernel
theorem dn_d_Mod_digitOf_78 : decode dn_c_Mod_digitOf 78 = .ok (.goto (-53), 3) := by decide +kernel
theorem dn_d_Mod_digitOf_81 : decode dn_c_Mod_digitOf 81 = .ok (.iload_n 3, 1) := by decide +kernel
theorem dn_d_Mod_digitOf_82 : decode dn_c_Mod_digitOf 82 = .ok (.bipush 10, 2) := by decide +kernel
theorem dn_d_Mod_digitOf_84 : decode dn_c_Mod_digitOf 84 = .ok (.irem, 1) := by decide +kernel
theorem dn_d_Mod_digitOf_85 : decode dn_c_Mod_digitOf 85 = .ok (.ireturn, 1) := by decide +kernel
theorem dn_d_Mod_digitsOf_0 : decode dn_c_Mod_digitsOf 0 = .ok (.iload_n 0, 1) := by decide +kernel
theorem dn_d_Mod_digitsOf_1 : decode dn_c_Mod_digitsOf 1 = .ok (.ifCond .ne 8, 3) := by decide +kernel
theorem dn_d_Mod_digitsOf_4 : decode dn_c_Mod_digitsOf 4 = .ok (.bipush 9, 2) := by decide +kernel
theorem dn_d_Mod_digitsOf_6 : decode dn_c_Mod_digitsOf 6 = .ok (.goto 5, 3) := by decide +kernel
theorem dn_d_Mod_digitsOf_9 : decode dn_c_Mod_digitsOf 9 = .ok (.bipush 6, 2) := by decide +kernel
theorem dn_d_Mod_digitsOf_11 : decode dn_c_Mod_digitsOf 11 = .ok (.ireturn, 1) := by decide +kernel
theorem dn_d_Mod_check_0 : decode dn_c_Mod_check 0 = .ok (.aload_n 0, 1) := by decide +kernel
theorem dn_d_Mod_check_1 : decode dn_c_Mod_check 1 = .ok (.iconst 0, 1) := by decide +kernel
theorem dn_d_Mod_check_2 : decode dn_c_Mod_check 2 = .ok (.putfield 68, 3) := by decide +kernel
theorem dn_d_Mod_check_5 : decode dn_c_Mod_check 5 = .ok (.iload_n 2, 1) := by decide +kernel
theorem dn_d_Mod_check_6 : decode dn_c_Mod_check 6 = .ok (.iconst 1, 1) := by decide +kernel
theorem dn_d_Mod_check_7 : decode dn_c_Mod_check 7 = .ok (.if_icmp .lt 13, 3) := by decide +kernel
theorem dn_d_Mod_check_10 : decode dn_c_Mod_check 10 = .ok (.iload_n 2, 1) := by decide +kernel
theorem dn_d_Mod_check_11 : decode dn_c_Mod_check 11 = .ok (.bipush 9, 2) := by decide +kernel
theorem dn_d_Mod_check_13 : decode dn_c_Mod_check 13 = .ok (.if_icmp .gt 7, 3) := by decide +kernel
theorem dn_d_Mod_check_16 : decode dn_c_Mod_check 16 = .ok (.iload_n 1, 1) := by decide +kernel
theorem dn_d_Mod_check_17 : decode dn_c_Mod_check 17 = .ok (.ifCond .ge 7, 3) := by decide +kernel
theorem dn_d_Mod_check_20 : decode dn_c_Mod_check 20 = .ok (.iconst (-1), 1) := by decide +kernel
theorem dn_d_Mod_check_21 : decode dn_c_Mod_check 21 = .ok (.goto 8, 3) := by decide +kernel
theorem dn_d_Mod_check_24 : decode dn_c_Mod_check 24 = .ok (.iload_n 1, 1) := by decide +kernel
theorem dn_d_Mod_check_25 : decode dn_c_Mod_check 25 = .ok (.iload_n 2, 1) := by decide +kernel
theorem dn_d_Mod_check_26 : decode dn_c_Mod_check 26 = .ok (.invokestatic 101, 3) := by decide +kernel
theorem dn_d_Mod_check_29 : decode dn_c_Mod_check 29 = .ok (.ireturn, 1) := by decide +kernel
theorem dn_d_Mod_chipSeed_0 : decode dn_c_Mod_chipSeed 0 = .ok (.iconst 0, 1) := by decide +kernel
theorem dn_d_Mod_chipSeed_1 : decode dn_c_Mod_chipSeed 1 = .ok (.istore_n 1, 1) := by decide +kernel
theorem dn_d_Mod_chipSeed_2 : decode dn_c_Mod_chipSeed 2 = .ok (.iload_n 1, 1) := by decide +kernel
theorem dn_d_Mod_chipSeed_3 : decode dn_c_Mod_chipSeed 3 = .ok (.iconst 3, 1) := by decide +kernel
theorem dn_d_Mod_chipSeed_4 : decode dn_c_Mod_chipSeed 4 = .ok (.if_icmp .ge 41, 3) := by decide +kernel
theorem dn_d_Mod_chipSeed_7 : decode dn_c_Mod_chipSeed 7 = .ok (.aload_n 0, 1) := by decide +kernel
theorem dn_d_Mod_chipSeed_8 : decode dn_c_Mod_chipSeed 8 = .ok (.getfield 56, 3) := by decide +kernel
theorem dn_d_Mod_chipSeed_11 : decode dn_c_Mod_chipSeed 11 = .ok (.iload_n 1, 1) := by decide +kernel
theorem dn_d_Mod_chipSeed_12 : decode dn_c_Mod_chipSeed 12 = .ok (.ldc2_w 105, 3) := by decide +kernel
theorem dn_d_Mod_chipSeed_15 : decode dn_c_Mod_chipSeed 15 = .ok (.aload_n 0, 1) := by decide +kernel
theorem dn_d_Mod_chipSeed_16 : decode dn_c_Mod_chipSeed 16 = .ok (.getfield 7, 3) := by decide +kernel
theorem dn_d_Mod_chipSeed_19 : decode dn_c_Mod_chipSeed 19 = .ok (.iload_n 1, 1) := by decide +kernel
theorem dn_d_Mod_chipSeed_20 : decode dn_c_Mod_chipSeed 20 = .ok (.iaload, 1) := by decide +kernel
theorem dn_d_Mod_chipSeed_21 : decode dn_c_Mod_chipSeed 21 = .ok (.i2l, 1) := by decide +kernel
theorem dn_d_Mod_chipSeed_22 : decode dn_c_Mod_chipSeed 22 = .ok (.lmul, 1) := by decide +kernel
theorem dn_d_Mod_chipSeed_23 : decode dn_c_Mod_chipSeed 23 = .ok (.aload_n 0, 1) := by decide +kernel
theorem dn_d_Mod_chipSeed_24 : decode dn_c_Mod_chipSeed 24 = .ok (.getfield 7, 3) := by decide +kernel
theorem dn_d_Mod_chipSeed_27 : decode dn_c_Mod_chipSeed 27 = .ok (.iload_n 1, 1) := by decide +kernel
theorem dn_d_Mod_chipSeed_28 : decode dn_c_Mod_chipSeed 28 = .ok (.iaload, 1) := by decide +kernel
theorem dn_d_Mod_chipSeed_29 : decode dn_c_Mod_chipSeed 29 = .ok (.iload_n 1, 1) := by decide +kernel
theorem dn_d_Mod_chipSeed_30 : decode dn_c_Mod_chipSeed 30 = .ok (.invokestatic 107, 3) := by decide +kernel
theorem dn_d_Mod_chipSeed_33 : decode dn_c_Mod_chipSeed 33 = .ok (.invokestatic 101, 3) := by decide +kernel
theorem dn_d_Mod_chipSeed_36 : decode dn_c_Mod_chipSeed 36 = .ok (.i2l, 1) := by decide +kernel
theorem dn_d_Mod_chipSeed_37 : decode dn_c_Mod_chipSeed 37 = .ok (.ladd, 1) := by decide +kernel
theorem dn_d_Mod_chipSeed_38 : decode dn_c_Mod_chipSeed 38 = .ok (.lastore, 1) := by decide +kernel
theorem dn_d_Mod_chipSeed_39 : decode dn_c_Mod_chipSeed 39 = .ok (.iinc 1 1, 3) := by decide +kernel
theorem dn_d_Mod_chipSeed_42 : decode dn_c_Mod_chipSeed 42 = .ok (.goto (-40), 3) := by decide +kernel
theorem dn_d_Mod_chipSeed_45 : decode dn_c_Mod_chipSeed 45 = .ok (.aload_n 0, 1) := by decide +kernel
theorem dn_d_Mod_chipSeed_46 : decode dn_c_Mod_chipSeed 46 = .ok (.iconst 3, 1) := by decide +kernel
theorem dn_d_Mod_chipSeed_47 : decode dn_c_Mod_chipSeed 47 = .ok (.invokevirtual 79, 3) := by decide +kernel
theorem dn_d_Mod_chipSeed_50 : decode dn_c_Mod_chipSeed 50 = .ok (.lreturn, 1) := by decide +kernel
theorem dn_d_Mod_printed_0 : decode dn_c_Mod_printed 0 = .ok (.ldc2_w 105, 3) := by decide +kernel
theorem dn_d_Mod_printed_3 : decode dn_c_Mod_printed 3 = .ok (.aload_n 0, 1) := by decide +kernel
theorem dn_d_Mod_printed_4 : decode dn_c_Mod_printed 4 = .ok (.getfield 23, 3) := by decide +kernel
theorem dn_d_Mod_printed_7 : decode dn_c_Mod_printed 7 = .ok (.iload_n 1, 1) := by decide +kernel
theorem dn_d_Mod_printed_8 : decode dn_c_Mod_printed 8 = .ok (.iaload, 1) := by decide +kernel
theorem dn_d_Mod_printed_9 : decode dn_c_Mod_printed 9 = .ok (.i2l, 1) := by decide +kernel
theorem dn_d_Mod_printed_10 : decode dn_c_Mod_printed 10 = .ok (.lmul, 1) := by decide +kernel
theorem dn_d_Mod_printed_11 : decode dn_c_Mod_printed 11 = .ok (.aload_n 0, 1) := by decide +kernel
theorem dn_d_Mod_printed_12 : decode dn_c_Mod_printed 12 = .ok (.getfield 26, 3) := by decide +kernel
theorem dn_d_Mod_printed_15 : decode dn_c_Mod_printed 15 = .ok (.iload_n 1, 1) := by decide +kernel
theorem dn_d_Mod_printed_16 : decode dn_c_Mod_printed 16 = .ok (.iaload, 1) := by decide +kernel
theorem dn_d_Mod_printed_17 : decode dn_c_Mod_printed 17 = .ok (.i2l, 1) := by decide +kernel
theorem dn_d_Mod_printed_18 : decode dn_c_Mod_printed 18 = .ok (.ladd, 1) := by decide +kernel
theorem dn_d_Mod_printed_19 : decode dn_c_Mod_printed 19 = .ok (.lreturn, 1) := by decide +kernel
theorem dn_d_Mod_printSeed_0 : decode dn_c_Mod_printSeed 0 = .ok (.iconst 0, 1) := by decide +kernel
theorem dn_d_Mod_printSeed_1 : decode dn_c_Mod_printSeed 1 = .ok (.istore_n 1, 1) := by decide +kernel
theorem dn_d_Mod_printSeed_2 : decode dn_c_Mod_printSeed 2 = .ok (.iload_n 1, 1) := by decide +kernel
theorem dn_d_Mod_printSeed_3 : decode dn_c_Mod_printSeed 3 = .ok (.iconst 3, 1) := by decide +kernel
theorem dn_d_Mod_printSeed_4 : decode dn_c_Mod_printSeed 4 = .ok (.if_icmp .ge 20, 3) := by decide +kernel
theorem dn_d_Mod_printSeed_7 : decode dn_c_Mod_printSeed 7 = .ok (.aload_n 0, 1) := by decide +kernel
theorem dn_d_Mod_printSeed_8 : decode dn_c_Mod_printSeed 8 = .ok (.getfield 56, 3) := by decide +kernel
theorem dn_d_Mod_printSeed_11 : decode dn_c_Mod_printSeed 11 = .ok (.iload_n 1, 1) := by decide +kernel
theorem dn_d_Mod_printSeed_12 : decode dn_c_Mod_printSeed 12 = .ok (.aload_n 0, 1) := by decide +kernel
theorem dn_d_Mod_printSeed_13 : decode dn_c_Mod_printSeed 13 = .ok (.iload_n 1, 1) := by decide +kernel
theorem dn_d_Mod_printSeed_14 : decode dn_c_Mod_printSeed 14 = .ok (.invokevirtual 111, 3) := by decide +kernel
theorem dn_d_Mod_printSeed_17 : decode dn_c_Mod_printSeed 17 = .ok (.lastore, 1) := by decide +kernel
theorem dn_d_Mod_printSeed_18 : decode dn_c_Mod_printSeed 18 = .ok (.iinc 1 1, 3) := by decide +kernel
theorem dn_d_Mod_printSeed_21 : decode dn_c_Mod_printSeed 21 = .ok (.goto (-19), 3) := by decide +kernel
theorem dn_d_Mod_printSeed_24 : decode dn_c_Mod_printSeed 24 = .ok (.aload_n 0, 1) := by decide +kernel
theorem dn_d_Mod_printSeed_25 : decode dn_c_Mod_printSeed 25 = .ok (.iconst 3, 1) := by decide +kernel
theorem dn_d_Mod_printSeed_26 : decode dn_c_Mod_printSeed 26 = .ok (.invokevirtual 79, 3) := by decide +kernel
theorem dn_d_Mod_printSeed_29 : decode dn_c_Mod_printSeed 29 = .ok (.lreturn, 1) := by decide +kernel
theorem dn_d_Mod_load_0 : decode dn_c_Mod_load 0 = .ok (.aload_n 0, 1) := by decide +kernel
theorem dn_d_Mod_load_1 : decode dn_c_Mod_load 1 = .ok (.iload_n 1, 1) := by decide +kernel
theorem dn_d_Mod_load_2 : decode dn_c_Mod_load 2 = .ok (.ifCond .lt 8, 3) := by decide +kernel
theorem dn_d_Mod_load_5 : decode dn_c_Mod_load 5 = .ok (.iload_n 1, 1) := by decide +kernel
theorem dn_d_Mod_load_6 : decode dn_c_Mod_load 6 = .ok (.iconst 3, 1) := by decide +kernel
theorem dn_d_Mod_load_7 : decode dn_c_Mod_load 7 = .ok (.if_icmp .le 7, 3) := by decide +kernel
theorem dn_d_Mod_load_10 : decode dn_c_Mod_load 10 = .ok (.iconst 1, 1) := by decide +kernel
theorem dn_d_Mod_load_11 : decode dn_c_Mod_load 11 = .ok (.goto 19, 3) := by decide +kernel
theorem dn_d_Mod_load_14 : decode dn_c_Mod_load 14 = .ok (.aload_n 0, 1) := by decide +kernel
theorem dn_d_Mod_load_15 : decode dn_c_Mod_load 15 = .ok (.getfield 17, 3) := by decide +kernel
theorem dn_d_Mod_load_18 : decode dn_c_Mod_load 18 = .ok (.iload_n 1, 1) := by decide +kernel
theorem dn_d_Mod_load_19 : decode dn_c_Mod_load 19 = .ok (.iaload, 1) := by decide +kernel
theorem dn_d_Mod_load_20 : decode dn_c_Mod_load 20 = .ok (.bipush 20, 2) := by decide +kernel
theorem dn_d_Mod_load_22 : decode dn_c_Mod_load 22 = .ok (.if_icmp .ne 7, 3) := by decide +kernel
theorem dn_d_Mod_load_25 : decode dn_c_Mod_load 25 = .ok (.iconst 2, 1) := by decide +kernel
theorem dn_d_Mod_load_26 : decode dn_c_Mod_load 26 = .ok (.goto 4, 3) := by decide +kernel
theorem dn_d_Mod_load_29 : decode dn_c_Mod_load 29 = .ok (.iconst 0, 1) := by decide +kernel
theorem dn_d_Mod_load_30 : decode dn_c_Mod_load 30 = .ok (.putfield 68, 3) := by decide +kernel
theorem dn_d_Mod_load_33 : decode dn_c_Mod_load 33 = .ok (.aload_n 0, 1) := by decide +kernel
theorem dn_d_Mod_load_34 : decode dn_c_Mod_load 34 = .ok (.getfield 68, 3) := by decide +kernel
theorem dn_d_Mod_load_37 : decode dn_c_Mod_load 37 = .ok (.ifCond .eq 5, 3) := by decide +kernel
theorem dn_d_Mod_load_40 : decode dn_c_Mod_load 40 = .ok (.iconst 0, 1) := by decide +kernel
theorem dn_d_Mod_load_41 : decode dn_c_Mod_load 41 = .ok (.ireturn, 1) := by decide +kernel
theorem dn_d_Mod_load_42 : decode dn_c_Mod_load 42 = .ok (.aload_n 0, 1) := by decide +kernel
theorem dn_d_Mod_load_43 : decode dn_c_Mod_load 43 = .ok (.getfield 13, 3) := by decide +kernel
theorem dn_d_Mod_load_46 : decode dn_c_Mod_load 46 = .ok (.bipush 20, 2) := by decide +kernel
theorem dn_d_Mod_load_48 : decode dn_c_Mod_load 48 = .ok (.iload_n 1, 1) := by decide +kernel
theorem dn_d_Mod_load_49 : decode dn_c_Mod_load 49 = .ok (.imul, 1) := by decide +kernel
theorem dn_d_Mod_load_50 : decode dn_c_Mod_load 50 = .ok (.aload_n 0, 1) := by decide +kernel
theorem dn_d_Mod_load_51 : decode dn_c_Mod_load 51 = .ok (.getfield 17, 3) := by decide +kernel
theorem dn_d_Mod_load_54 : decode dn_c_Mod_load 54 = .ok (.iload_n 1, 1) := by decide +kernel
theorem dn_d_Mod_load_55 : decode dn_c_Mod_load 55 = .ok (.iaload, 1) := by decide +kernel
theorem dn_d_Mod_load_56 : decode dn_c_Mod_load 56 = .ok (.iadd, 1) := by decide +kernel
theorem dn_d_Mod_load_57 : decode dn_c_Mod_load 57 = .ok (.lload_n 2, 1) := by decide +kernel
theorem dn_d_Mod_load_58 : decode dn_c_Mod_load 58 = .ok (.lastore, 1) := by decide +kernel
theorem dn_d_Mod_load_59 : decode dn_c_Mod_load 59 = .ok (.aload_n 0, 1) := by decide +kernel
theorem dn_d_Mod_load_60 : decode dn_c_Mod_load 60 = .ok (.getfield 17, 3) := by decide +kernel
theorem dn_d_Mod_load_63 : decode dn_c_Mod_load 63 = .ok (.iload_n 1, 1) := by decide +kernel
theorem dn_d_Mod_load_64 : decode dn_c_Mod_load 64 = .ok (.dup2, 1) := by decide +kernel
theorem dn_d_Mod_load_65 : decode dn_c_Mod_load 65 = .ok (.iaload, 1) := by decide +kernel
theorem dn_d_Mod_load_66 : decode dn_c_Mod_load 66 = .ok (.iconst 1, 1) := by decide +kernel
theorem dn_d_Mod_load_67 : decode dn_c_Mod_load 67 = .ok (.iadd, 1) := by decide +kernel
theorem dn_d_Mod_load_68 : decode dn_c_Mod_load 68 = .ok (.iastore, 1) := by decide +kernel
theorem dn_d_Mod_load_69 : decode dn_c_Mod_load 69 = .ok (.aload_n 0, 1) := by decide +kernel
theorem dn_d_Mod_load_70 : decode dn_c_Mod_load 70 = .ok (.getfield 17, 3) := by decide +kernel
theorem dn_d_Mod_load_73 : decode dn_c_Mod_load 73 = .ok (.iload_n 1, 1) := by decide +kernel
theorem dn_d_Mod_load_74 : decode dn_c_Mod_load 74 = .ok (.iaload, 1) := by decide +kernel
theorem dn_d_Mod_load_75 : decode dn_c_Mod_load 75 = .ok (.ireturn, 1) := by decide +kernel
theorem dn_d_Mod_digestFile_0 : decode dn_c_Mod_digestFile 0 = .ok (.iconst 0, 1) := by decide +kernel
theorem dn_d_Mod_digestFile_1 : decode dn_c_Mod_digestFile 1 = .ok (.istore_n 2, 1) := by decide +kernel
theorem dn_d_Mod_digestFile_2 : decode dn_c_Mod_digestFile 2 = .ok (.iload_n 2, 1) := by decide +kernel
theorem dn_d_Mod_digestFile_3 : decode dn_c_Mod_digestFile 3 = .ok (.aload_n 0, 1) := by decide +kernel
theorem dn_d_Mod_digestFile_4 : decode dn_c_Mod_digestFile 4 = .ok (.getfield 17, 3) := by decide +kernel
theorem dn_d_Mod_digestFile_7 : decode dn_c_Mod_digestFile 7 = .ok (.iload_n 1, 1) := by decide +kernel
theorem dn_d_Mod_digestFile_8 : decode dn_c_Mod_digestFile 8 = .ok (.iaload, 1) := by decide +kernel
theorem dn_d_Mod_digestFile_9 : decode dn_c_Mod_digestFile 9 = .ok (.if_icmp .ge 26, 3) := by decide +kernel
theorem dn_d_Mod_digestFile_12 : decode dn_c_Mod_digestFile 12 = .ok (.aload_n 0, 1) := by decide +kernel
theorem dn_d_Mod_digestFile_13 : decode dn_c_Mod_digestFile 13 = .ok (.getfield 56, 3) := by decide +kernel
theorem dn_d_Mod_digestFile_16 : decode dn_c_Mod_digestFile 16 = .ok (.iload_n 2, 1) := by decide +kernel
theorem dn_d_Mod_digestFile_17 : decode dn_c_Mod_digestFile 17 = .ok (.aload_n 0, 1) := by decide +kernel
theorem dn_d_Mod_digestFile_18 : decode dn_c_Mod_digestFile 18 = .ok (.getfield 13, 3) := by decide +kernel
theorem dn_d_Mod_digestFile_21 : decode dn_c_Mod_digestFile 21 = .ok (.bipush 20, 2) := by decide +kernel
theorem dn_d_Mod_digestFile_23 : decode dn_c_Mod_digestFile 23 = .ok (.iload_n 1, 1) := by decide +kernel
theorem dn_d_Mod_digestFile_24 : decode dn_c_Mod_digestFile 24 = .ok (.imul, 1) := by decide +kernel
theorem dn_d_Mod_digestFile_25 : decode dn_c_Mod_digestFile 25 = .ok (.iload_n 2, 1) := by decide +kernel
theorem dn_d_Mod_digestFile_26 : decode dn_c_Mod_digestFile 26 = .ok (.iadd, 1) := by decide +kernel
theorem dn_d_Mod_digestFile_27 : decode dn_c_Mod_digestFile 27 = .ok (.laload, 1) := by decide +kernel
theorem dn_d_Mod_digestFile_28 : decode dn_c_Mod_digestFile 28 = .ok (.lastore, 1) := by decide +kernel
theorem dn_d_Mod_digestFile_29 : decode dn_c_Mod_digestFile 29 = .ok (.iinc 2 1, 3) := by decide +kernel
theorem dn_d_Mod_digestFile_32 : decode dn_c_Mod_digestFile 32 = .ok (.goto (-30), 3) := by decide +kernel
theorem dn_d_Mod_digestFile_35 : decode dn_c_Mod_digestFile 35 = .ok (.aload_n 0, 1) := by decide +kernel
theorem dn_d_Mod_digestFile_36 : decode dn_c_Mod_digestFile 36 = .ok (.aload_n 0, 1) := by decide +kernel
theorem dn_d_Mod_digestFile_37 : decode dn_c_Mod_digestFile 37 = .ok (.getfield 17, 3) := by decide +kernel
theorem dn_d_Mod_digestFile_40 : decode dn_c_Mod_digestFile 40 = .ok (.iload_n 1, 1) := by decide +kernel
theorem dn_d_Mod_digestFile_41 : decode dn_c_Mod_digestFile 41 = .ok (.iaload, 1) := by decide +kernel
theorem dn_d_Mod_digestFile_42 : decode dn_c_Mod_digestFile 42 = .ok (.invokevirtual 79, 3) := by decide +kernel
theorem dn_d_Mod_digestFile_45 : decode dn_c_Mod_digestFile 45 = .ok (.lreturn, 1) := by decide +kernel
theorem dn_d_Mod_sign_0 : decode dn_c_Mod_sign 0 = .ok (.aload_n 0, 1) := by decide +kernel
theorem dn_d_Mod_sign_1 : decode dn_c_Mod_sign 1 = .ok (.iconst 0, 1) := by decide +kernel
theorem dn_d_Mod_sign_2 : decode dn_c_Mod_sign 2 = .ok (.putfield 68, 3) := by decide +kernel
theorem dn_d_Mod_sign_5 : decode dn_c_Mod_sign 5 = .ok (.aload_n 0, 1) := by decide +kernel
theorem dn_d_Mod_sign_6 : decode dn_c_Mod_sign 6 = .ok (.getfield 13, 3) := by decide +kernel
theorem dn_d_Mod_sign_9 : decode dn_c_Mod_sign 9 = .ok (.bipush 60, 2) := by decide +kernel
theorem dn_d_Mod_sign_11 : decode dn_c_Mod_sign 11 = .ok (.aload_n 0, 1) := by decide +kernel
theorem dn_d_Mod_sign_12 : decode dn_c_Mod_sign 12 = .ok (.iconst 1, 1) := by decide +kernel
theorem dn_d_Mod_sign_13 : decode dn_c_Mod_sign 13 = .ok (.invokevirtual 114, 3) := by decide +kernel
theorem dn_d_Mod_sign_16 : decode dn_c_Mod_sign 16 = .ok (.lastore, 1) := by decide +kernel
theorem dn_d_Mod_sign_17 : decode dn_c_Mod_sign 17 = .ok (.aload_n 0, 1) := by decide +kernel
theorem dn_d_Mod_sign_18 : decode dn_c_Mod_sign 18 = .ok (.getfield 13, 3) := by decide +kernel
theorem dn_d_Mod_sign_21 : decode dn_c_Mod_sign 21 = .ok (.bipush 61, 2) := by decide +kernel
theorem dn_d_Mod_sign_23 : decode dn_c_Mod_sign 23 = .ok (.aload_n 0, 1) := by decide +kernel
theorem dn_d_Mod_sign_24 : decode dn_c_Mod_sign 24 = .ok (.iconst 2, 1) := by decide +kernel
theorem dn_d_Mod_sign_25 : decode dn_c_Mod_sign 25 = .ok (.invokevirtual 114, 3) := by decide +kernel
theorem dn_d_Mod_sign_28 : decode dn_c_Mod_sign 28 = .ok (.lastore, 1) := by decide +kernel
theorem dn_d_Mod_sign_29 : decode dn_c_Mod_sign 29 = .ok (.aload_n 0, 1) := by decide +kernel
theorem dn_d_Mod_sign_30 : decode dn_c_Mod_sign 30 = .ok (.getfield 13, 3) := by decide +kernel
theorem dn_d_Mod_sign_33 : decode dn_c_Mod_sign 33 = .ok (.bipush 62, 2) := by decide +kernel
theorem dn_d_Mod_sign_35 : decode dn_c_Mod_sign 35 = .ok (.lload_n 1, 1) := by decide +kernel
theorem dn_d_Mod_sign_36 : decode dn_c_Mod_sign 36 = .ok (.lastore, 1) := by decide +kernel
theorem dn_d_Mod_sign_37 : decode dn_c_Mod_sign 37 = .ok (.aload_n 0, 1) := by decide +kernel
theorem dn_d_Mod_sign_38 : decode dn_c_Mod_sign 38 = .ok (.getfield 17, 3) := by decide +kernel
theorem dn_d_Mod_sign_41 : decode dn_c_Mod_sign 41 = .ok (.iconst 3, 1) := by decide +kernel
theorem dn_d_Mod_sign_42 : decode dn_c_Mod_sign 42 = .ok (.iconst 3, 1) := by decide +kernel
theorem dn_d_Mod_sign_43 : decode dn_c_Mod_sign 43 = .ok (.iastore, 1) := by decide +kernel
theorem dn_d_Mod_sign_44 : decode dn_c_Mod_sign 44 = .ok (.aload_n 0, 1) := by decide +kernel
theorem dn_d_Mod_sign_45 : decode dn_c_Mod_sign 45 = .ok (.iconst 3, 1) := by decide +kernel
theorem dn_d_Mod_sign_46 : decode dn_c_Mod_sign 46 = .ok (.invokevirtual 114, 3) := by decide +kernel
theorem dn_d_Mod_sign_49 : decode dn_c_Mod_sign 49 = .ok (.iconst 1, 1) := by decide +kernel
theorem dn_d_Mod_sign_50 : decode dn_c_Mod_sign 50 = .ok (.lushr, 1) := by decide +kernel
theorem dn_d_Mod_sign_51 : decode dn_c_Mod_sign 51 = .ok (.lreturn, 1) := by decide +kernel
theorem dn_d_Mod_print_0 : decode dn_c_Mod_print 0 = .ok (.iload_n 1, 1) := by decide +kernel
theorem dn_d_Mod_print_1 : decode dn_c_Mod_print 1 = .ok (.ifCond .lt 12, 3) := by decide +kernel
theorem dn_d_Mod_print_4 : decode dn_c_Mod_print 4 = .ok (.iload_n 1, 1) := by decide +kernel
theorem dn_d_Mod_print_5 : decode dn_c_Mod_print 5 = .ok (.iconst 3, 1) := by decide +kernel
theorem dn_d_Mod_print_6 : decode dn_c_Mod_print 6 = .ok (.if_icmp .ge 7, 3) := by decide +kernel
theorem dn_d_Mod_print_9 : decode dn_c_Mod_print 9 = .ok (.iconst 1, 1) := by decide +kernel
theorem dn_d_Mod_print_10 : decode dn_c_Mod_print 10 = .ok (.goto 4, 3) := by decide +kernel
theorem dn_d_Mod_print_13 : decode dn_c_Mod_print 13 = .ok (.iconst 0, 1) := by decide +kernel
theorem dn_d_Mod_print_14 : decode dn_c_Mod_print 14 = .ok (.istore 4, 2) := by decide +kernel
theorem dn_d_Mod_print_16 : decode dn_c_Mod_print 16 = .ok (.iload_n 1, 1) := by decide +kernel
theorem dn_d_Mod_print_17 : decode dn_c_Mod_print 17 = .ok (.ifCond .ne 8, 3) := by decide +kernel
theorem dn_d_Mod_print_20 : decode dn_c_Mod_print 20 = .ok (.ldc 117, 2) := by decide +kernel
theorem dn_d_Mod_print_22 : decode dn_c_Mod_print 22 = .ok (.goto 5, 3) := by decide +kernel
theorem dn_d_Mod_print_25 : decode dn_c_Mod_print 25 = .ok (.ldc 118, 2) := by decide +kernel
theorem dn_d_Mod_print_27 : decode dn_c_Mod_print 27 = .ok (.istore 5, 2) := by decide +kernel
theorem dn_d_Mod_print_29 : decode dn_c_Mod_print 29 = .ok (.aload_n 0, 1) := by decide +kernel
theorem dn_d_Mod_print_30 : decode dn_c_Mod_print 30 = .ok (.iload 4, 2) := by decide +kernel
theorem dn_d_Mod_print_32 : decode dn_c_Mod_print 32 = .ok (.ifCond .ne 7, 3) := by decide +kernel
theorem dn_d_Mod_print_35 : decode dn_c_Mod_print 35 = .ok (.iconst 1, 1) := by decide +kernel
theorem dn_d_Mod_print_36 : decode dn_c_Mod_print 36 = .ok (.goto 28, 3) := by decide +kernel
theorem dn_d_Mod_print_39 : decode dn_c_Mod_print 39 = .ok (.iload_n 2, 1) := by decide +kernel
theorem dn_d_Mod_print_40 : decode dn_c_Mod_print 40 = .ok (.ifCond .lt 19, 3) := by decide +kernel
theorem dn_d_Mod_print_43 : decode dn_c_Mod_print 43 = .ok (.iload_n 2, 1) := by decide +kernel
theorem dn_d_Mod_print_44 : decode dn_c_Mod_print 44 = .ok (.iload 5, 2) := by decide +kernel
theorem dn_d_Mod_print_46 : decode dn_c_Mod_print 46 = .ok (.if_icmp .gt 13, 3) := by decide +kernel
theorem dn_d_Mod_print_49 : decode dn_c_Mod_print 49 = .ok (.iload_n 3, 1) := by decide +kernel
theorem dn_d_Mod_print_50 : decode dn_c_Mod_print 50 = .ok (.ifCond .lt 9, 3) := by decide +kernel
theorem dn_d_Mod_print_53 : decode dn_c_Mod_print 53 = .ok (.iload_n 3, 1) := by decide +kernel
theorem dn_d_Mod_print_54 : decode dn_c_Mod_print 54 = .ok (.bipush 9, 2) := by decide +kernel
theorem dn_d_Mod_print_56 : decode dn_c_Mod_print 56 = .ok (.if_icmp .le 7, 3) := by decide +kernel
theorem dn_d_Mod_print_59 : decode dn_c_Mod_print 59 = .ok (.iconst 2, 1) := by decide +kernel
theorem dn_d_Mod_print_60 : decode dn_c_Mod_print 60 = .ok (.goto 4, 3) := by decide +kernel
theorem dn_d_Mod_print_63 : decode dn_c_Mod_print 63 = .ok (.iconst 0, 1) := by decide +kernel
theorem dn_d_Mod_print_64 : decode dn_c_Mod_print 64 = .ok (.putfield 68, 3) := by decide +kernel
theorem dn_d_Mod_print_67 : decode dn_c_Mod_print 67 = .ok (.aload_n 0, 1) := by decide +kernel
theorem dn_d_Mod_print_68 : decode dn_c_Mod_print 68 = .ok (.getfield 68, 3) := by decide +kernel
theorem dn_d_Mod_print_71 : decode dn_c_Mod_print 71 = .ok (.ifCond .eq 5, 3) := by decide +kernel
theorem dn_d_Mod_print_74 : decode dn_c_Mod_print 74 = .ok (.iconst 0, 1) := by decide +kernel
theorem dn_d_Mod_print_75 : decode dn_c_Mod_print 75 = .ok (.ireturn, 1) := by decide +kernel
theorem dn_d_Mod_print_76 : decode dn_c_Mod_print 76 = .ok (.aload_n 0, 1) := by decide +kernel
theorem dn_d_Mod_print_77 : decode dn_c_Mod_print 77 = .ok (.getfield 23, 3) := by decide +kernel
theorem dn_d_Mod_print_80 : decode dn_c_Mod_print 80 = .ok (.iload_n 1, 1) := by decide +kernel
theorem dn_d_Mod_print_81 : decode dn_c_Mod_print 81 = .ok (.iload_n 2, 1) := by decide +kernel
theorem dn_d_Mod_print_82 : decode dn_c_Mod_print 82 = .ok (.iastore, 1) := by decide +kernel
theorem dn_d_Mod_print_83 : decode dn_c_Mod_print 83 = .ok (.aload_n 0, 1) := by decide +kernel
theorem dn_d_Mod_print_84 : decode dn_c_Mod_print 84 = .ok (.getfield 26, 3) := by decide +kernel
theorem dn_d_Mod_print_87 : decode dn_c_Mod_print 87 = .ok (.iload_n 1, 1) := by decide +kernel
theorem dn_d_Mod_print_88 : decode dn_c_Mod_print 88 = .ok (.iload_n 3, 1) := by decide +kernel
theorem dn_d_Mod_print_89 : decode dn_c_Mod_print 89 = .ok (.iastore, 1) := by decide +kernel
theorem dn_d_Mod_print_90 : decode dn_c_Mod_print 90 = .ok (.iload_n 2, 1) := by decide +kernel
theorem dn_d_Mod_print_91 : decode dn_c_Mod_print 91 = .ok (.iload_n 1, 1) := by decide +kernel
theorem dn_d_Mod_print_92 : decode dn_c_Mod_print 92 = .ok (.invokestatic 107, 3) := by decide +kernel
theorem dn_d_Mod_print_95 : decode dn_c_Mod_print 95 = .ok (.invokestatic 101, 3) := by decide +kernel
theorem dn_d_Mod_print_98 : decode dn_c_Mod_print 98 = .ok (.iload_n 3, 1) := by decide +kernel
theorem dn_d_Mod_print_99 : decode dn_c_Mod_print 99 = .ok (.if_icmp .ne 7, 3) := by decide +kernel
theorem dn_d_Mod_print_102 : decode dn_c_Mod_print 102 = .ok (.iconst 1, 1) := by decide +kernel
theorem dn_d_Mod_print_103 : decode dn_c_Mod_print 103 = .ok (.goto 4, 3) := by decide +kernel
theorem dn_d_Mod_print_106 : decode dn_c_Mod_print 106 = .ok (.iconst 0, 1) := by decide +kernel
theorem dn_d_Mod_print_107 : decode dn_c_Mod_print 107 = .ok (.ireturn, 1) := by decide +kernel
theorem dn_d_Mod_trust_0 : decode dn_c_Mod_trust 0 = .ok (.aload_n 0, 1) := by decide +kernel
theorem dn_d_Mod_trust_1 : decode dn_c_Mod_trust 1 = .ok (.iload_n 3, 1) := by decide +kernel
theorem dn_d_Mod_trust_2 : decode dn_c_Mod_trust 2 = .ok (.iconst 2, 1) := by decide +kernel
theorem dn_d_Mod_trust_3 : decode dn_c_Mod_trust 3 = .ok (.if_icmp .lt 16, 3) := by decide +kernel
theorem dn_d_Mod_trust_6 : decode dn_c_Mod_trust 6 = .ok (.iload 4, 2) := by decide +kernel
theorem dn_d_Mod_trust_8 : decode dn_c_Mod_trust 8 = .ok (.iconst 1, 1) := by decide +kernel
theorem dn_d_Mod_trust_9 : decode dn_c_Mod_trust 9 = .ok (.if_icmp .lt 10, 3) := by decide +kernel
theorem dn_d_Mod_trust_12 : decode dn_c_Mod_trust 12 = .ok (.iload 4, 2) := by decide +kernel
theorem dn_d_Mod_trust_14 : decode dn_c_Mod_trust 14 = .ok (.ldc 119, 2) := by decide +kernel
theorem dn_d_Mod_trust_16 : decode dn_c_Mod_trust 16 = .ok (.if_icmp .le 7, 3) := by decide +kernel
theorem dn_d_Mod_trust_19 : decode dn_c_Mod_trust 19 = .ok (.iconst 1, 1) := by decide +kernel
theorem dn_d_Mod_trust_20 : decode dn_c_Mod_trust 20 = .ok (.goto 16, 3) := by decide +kernel
theorem dn_d_Mod_trust_23 : decode dn_c_Mod_trust 23 = .ok (.aload_n 0, 1) := by decide +kernel
theorem dn_d_Mod_trust_24 : decode dn_c_Mod_trust 24 = .ok (.getfield 120, 3) := by decide +kernel
theorem dn_d_Mod_trust_27 : decode dn_c_Mod_trust 27 = .ok (.iconst 4, 1) := by decide +kernel
theorem dn_d_Mod_trust_28 : decode dn_c_Mod_trust 28 = .ok (.if_icmp .ne 7, 3) := by decide +kernel
theorem dn_d_Mod_trust_31 : decode dn_c_Mod_trust 31 = .ok (.iconst 2, 1) := by decide +kernel
theorem dn_d_Mod_trust_32 : decode dn_c_Mod_trust 32 = .ok (.goto 4, 3) := by decide +kernel
theorem dn_d_Mod_trust_35 : decode dn_c_Mod_trust 35 = .ok (.iconst 0, 1) := by decide +kernel
theorem dn_d_Mod_trust_36 : decode dn_c_Mod_trust 36 = .ok (.putfield 68, 3) := by decide +kernel
theorem dn_d_Mod_trust_39 : decode dn_c_Mod_trust 39 = .ok (.aload_n 0, 1) := by decide +kernel
theorem dn_d_Mod_trust_40 : decode dn_c_Mod_trust 40 = .ok (.getfield 68, 3) := by decide +kernel
theorem dn_d_Mod_trust_43 : decode dn_c_Mod_trust 43 = .ok (.ifCond .eq 5, 3) := by decide +kernel
theorem dn_d_Mod_trust_46 : decode dn_c_Mod_trust 46 = .ok (.iconst 0, 1) := by decide +kernel
theorem dn_d_Mod_trust_47 : decode dn_c_Mod_trust 47 = .ok (.ireturn, 1) := by decide +kernel
theorem dn_d_Mod_trust_48 : decode dn_c_Mod_trust 48 = .ok (.aload_n 0, 1) := by decide +kernel
theorem dn_d_Mod_trust_49 : decode dn_c_Mod_trust 49 = .ok (.getfield 29, 3) := by decide +kernel
theorem dn_d_Mod_trust_52 : decode dn_c_Mod_trust 52 = .ok (.aload_n 0, 1) := by decide +kernel
theorem dn_d_Mod_trust_53 : decode dn_c_Mod_trust 53 = .ok (.getfield 120, 3) := by decide +kernel
theorem dn_d_Mod_trust_56 : decode dn_c_Mod_trust 56 = .ok (.lload_n 1, 1) := by decide +kernel
theorem dn_d_Mod_trust_57 : decode dn_c_Mod_trust 57 = .ok (.lastore, 1) := by decide +kernel
theorem dn_d_Mod_trust_58 : decode dn_c_Mod_trust 58 = .ok (.aload_n 0, 1) := by decide +kernel
theorem dn_d_Mod_trust_59 : decode dn_c_Mod_trust 59 = .ok (.getfield 32, 3) := by decide +kernel
theorem dn_d_Mod_trust_62 : decode dn_c_Mod_trust 62 = .ok (.aload_n 0, 1) := by decide +kernel
theorem dn_d_Mod_trust_63 : decode dn_c_Mod_trust 63 = .ok (.getfield 120, 3) := by decide +kernel
theorem dn_d_Mod_trust_66 : decode dn_c_Mod_trust 66 = .ok (.iload_n 3, 1) := by decide +kernel
theorem dn_d_Mod_trust_67 : decode dn_c_Mod_trust 67 = .ok (.iastore, 1) := by decide +kernel
theorem dn_d_Mod_trust_68 : decode dn_c_Mod_trust 68 = .ok (.aload_n 0, 1) := by decide +kernel
theorem dn_d_Mod_trust_69 : decode dn_c_Mod_trust 69 = .ok (.getfield 35, 3) := by decide +kernel
theorem dn_d_Mod_trust_72 : decode dn_c_Mod_trust 72 = .ok (.aload_n 0, 1) := by decide +kernel
theorem dn_d_Mod_trust_73 : decode dn_c_Mod_trust 73 = .ok (.getfield 120, 3) := by decide +kernel
theorem dn_d_Mod_trust_76 : decode dn_c_Mod_trust 76 = .ok (.iload 4, 2) := by decide +kernel
theorem dn_d_Mod_trust_78 : decode dn_c_Mod_trust 78 = .ok (.iastore, 1) := by decide +kernel
theorem dn_d_Mod_trust_79 : decode dn_c_Mod_trust 79 = .ok (.aload_n 0, 1) := by decide +kernel
theorem dn_d_Mod_trust_80 : decode dn_c_Mod_trust 80 = .ok (.dup, 1) := by decide +kernel
theorem dn_d_Mod_trust_81 : decode dn_c_Mod_trust 81 = .ok (.getfield 120, 3) := by decide +kernel
theorem dn_d_Mod_trust_84 : decode dn_c_Mod_trust 84 = .ok (.iconst 1, 1) := by decide +kernel
theorem dn_d_Mod_trust_85 : decode dn_c_Mod_trust 85 = .ok (.iadd, 1) := by decide +kernel
theorem dn_d_Mod_trust_86 : decode dn_c_Mod_trust 86 = .ok (.putfield 120, 3) := by decide +kernel
theorem dn_d_Mod_trust_89 : decode dn_c_Mod_trust 89 = .ok (.aload_n 0, 1) := by decide +kernel
theorem dn_d_Mod_trust_90 : decode dn_c_Mod_trust 90 = .ok (.getfield 120, 3) := by decide +kernel
theorem dn_d_Mod_trust_93 : decode dn_c_Mod_trust 93 = .ok (.ireturn, 1) := by decide +kernel
theorem dn_d_Mod_draw_0 : decode dn_c_Mod_draw 0 = .ok (.aload_n 0, 1) := by decide +kernel
theorem dn_d_Mod_draw_1 : decode dn_c_Mod_draw 1 = .ok (.iconst 0, 1) := by decide +kernel
theorem dn_d_Mod_draw_2 : decode dn_c_Mod_draw 2 = .ok (.putfield 68, 3) := by decide +kernel
theorem dn_d_Mod_draw_5 : decode dn_c_Mod_draw 5 = .ok (.lload_n 1, 1) := by decide +kernel
theorem dn_d_Mod_draw_6 : decode dn_c_Mod_draw 6 = .ok (.aload_n 0, 1) := by decide +kernel
theorem dn_d_Mod_draw_7 : decode dn_c_Mod_draw 7 = .ok (.getfield 38, 3) := by decide +kernel
theorem dn_d_Mod_draw_10 : decode dn_c_Mod_draw 10 = .ok (.iconst 0, 1) := by decide +kernel
theorem dn_d_Mod_draw_11 : decode dn_c_Mod_draw 11 = .ok (.laload, 1) := by decide +kernel
theorem dn_d_Mod_draw_12 : decode dn_c_Mod_draw 12 = .ok (.lcmp, 1) := by decide +kernel
theorem dn_d_Mod_draw_13 : decode dn_c_Mod_draw 13 = .ok (.ifCond .ne 14, 3) := by decide +kernel
theorem dn_d_Mod_draw_16 : decode dn_c_Mod_draw 16 = .ok (.lload_n 3, 1) := by decide +kernel
theorem dn_d_Mod_draw_17 : decode dn_c_Mod_draw 17 = .ok (.aload_n 0, 1) := by decide +kernel
theorem dn_d_Mod_draw_18 : decode dn_c_Mod_draw 18 = .ok (.getfield 38, 3) := by decide +kernel
theorem dn_d_Mod_draw_21 : decode dn_c_Mod_draw 21 = .ok (.iconst 1, 1) := by decide +kernel
theorem dn_d_Mod_draw_22 : decode dn_c_Mod_draw 22 = .ok (.laload, 1) := by decide +kernel
theorem dn_d_Mod_draw_23 : decode dn_c_Mod_draw 23 = .ok (.lcmp, 1) := by decide +kernel
theorem dn_d_Mod_draw_24 : decode dn_c_Mod_draw 24 = .ok (.ifCond .eq 7, 3) := by decide +kernel
theorem dn_d_Mod_draw_27 : decode dn_c_Mod_draw 27 = .ok (.iconst 1, 1) := by decide +kernel
theorem dn_d_Mod_draw_28 : decode dn_c_Mod_draw 28 = .ok (.goto 4, 3) := by decide +kernel
theorem dn_d_Mod_draw_31 : decode dn_c_Mod_draw 31 = .ok (.iconst 0, 1) := by decide +kernel
theorem dn_d_Mod_draw_32 : decode dn_c_Mod_draw 32 = .ok (.istore 9, 2) := by decide +kernel
theorem dn_d_Mod_draw_34 : decode dn_c_Mod_draw 34 = .ok (.aload_n 0, 1) := by decide +kernel
theorem dn_d_Mod_draw_35 : decode dn_c_Mod_draw 35 = .ok (.getfield 38, 3) := by decide +kernel
theorem dn_d_Mod_draw_38 : decode dn_c_Mod_draw 38 = .ok (.iconst 0, 1) := by decide +kernel
theorem dn_d_Mod_draw_39 : decode dn_c_Mod_draw 39 = .ok (.lload_n 1, 1) := by decide +kernel
theorem dn_d_Mod_draw_40 : decode dn_c_Mod_draw 40 = .ok (.lastore, 1) := by decide +kernel
theorem dn_d_Mod_draw_41 : decode dn_c_Mod_draw 41 = .ok (.aload_n 0, 1) := by decide +kernel
theorem dn_d_Mod_draw_42 : decode dn_c_Mod_draw 42 = .ok (.getfield 38, 3) := by decide +kernel
theorem dn_d_Mod_draw_45 : decode dn_c_Mod_draw 45 = .ok (.iconst 1, 1) := by decide +kernel
theorem dn_d_Mod_draw_46 : decode dn_c_Mod_draw 46 = .ok (.lload_n 3, 1) := by decide +kernel
theorem dn_d_Mod_draw_47 : decode dn_c_Mod_draw 47 = .ok (.lastore, 1) := by decide +kernel
theorem dn_d_Mod_draw_48 : decode dn_c_Mod_draw 48 = .ok (.aload_n 0, 1) := by decide +kernel
theorem dn_d_Mod_draw_49 : decode dn_c_Mod_draw 49 = .ok (.getfield 38, 3) := by decide +kernel
theorem dn_d_Mod_draw_52 : decode dn_c_Mod_draw 52 = .ok (.iconst 2, 1) := by decide +kernel
theorem dn_d_Mod_draw_53 : decode dn_c_Mod_draw 53 = .ok (.lload 5, 2) := by decide +kernel
theorem dn_d_Mod_draw_55 : decode dn_c_Mod_draw 55 = .ok (.lastore, 1) := by decide +kernel
theorem dn_d_Mod_draw_56 : decode dn_c_Mod_draw 56 = .ok (.aload_n 0, 1) := by decide +kernel
theorem dn_d_Mod_draw_57 : decode dn_c_Mod_draw 57 = .ok (.getfield 38, 3) := by decide +kernel
theorem dn_d_Mod_draw_60 : decode dn_c_Mod_draw 60 = .ok (.iconst 3, 1) := by decide +kernel
theorem dn_d_Mod_draw_61 : decode dn_c_Mod_draw 61 = .ok (.lload 7, 2) := by decide +kernel
theorem dn_d_Mod_draw_63 : decode dn_c_Mod_draw 63 = .ok (.lastore, 1) := by decide +kernel
theorem dn_d_Mod_draw_64 : decode dn_c_Mod_draw 64 = .ok (.iload 9, 2) := by decide +kernel
theorem dn_d_Mod_draw_66 : decode dn_c_Mod_draw 66 = .ok (.ireturn, 1) := by decide +kernel
theorem dn_d_Mod_change_0 : decode dn_c_Mod_change 0 = .ok (.aload_n 0, 1) := by decide +kernel
theorem dn_d_Mod_change_1 : decode dn_c_Mod_change 1 = .ok (.iload_n 1, 1) := by decide +kernel
theorem dn_d_Mod_change_2 : decode dn_c_Mod_change 2 = .ok (.ifCond .lt 25, 3) := by decide +kernel
theorem dn_d_Mod_change_5 : decode dn_c_Mod_change 5 = .ok (.iload_n 1, 1) := by decide +kernel
theorem dn_d_Mod_change_6 : decode dn_c_Mod_change 6 = .ok (.bipush 99, 2) := by decide +kernel
theorem dn_d_Mod_change_8 : decode dn_c_Mod_change 8 = .ok (.if_icmp .gt 19, 3) := by decide +kernel
theorem dn_d_Mod_change_11 : decode dn_c_Mod_change 11 = .ok (.iload_n 2, 1) := by decide +kernel
theorem dn_d_Mod_change_12 : decode dn_c_Mod_change 12 = .ok (.ifCond .lt 15, 3) := by decide +kernel
theorem dn_d_Mod_change_15 : decode dn_c_Mod_change 15 = .ok (.iload_n 2, 1) := by decide +kernel
theorem dn_d_Mod_change_16 : decode dn_c_Mod_change 16 = .ok (.bipush 9, 2) := by decide +kernel
theorem dn_d_Mod_change_18 : decode dn_c_Mod_change 18 = .ok (.if_icmp .gt 9, 3) := by decide +kernel
theorem dn_d_Mod_change_21 : decode dn_c_Mod_change 21 = .ok (.lload_n 3, 1) := by decide +kernel
theorem dn_d_Mod_change_22 : decode dn_c_Mod_change 22 = .ok (.lconst 0, 1) := by decide +kernel
theorem dn_d_Mod_change_23 : decode dn_c_Mod_change 23 = .ok (.lcmp, 1) := by decide +kernel
theorem dn_d_Mod_change_24 : decode dn_c_Mod_change 24 = .ok (.ifCond .ne 7, 3) := by decide +kernel
theorem dn_d_Mod_change_27 : decode dn_c_Mod_change 27 = .ok (.iconst 1, 1) := by decide +kernel
theorem dn_d_Mod_change_28 : decode dn_c_Mod_change 28 = .ok (.goto 16, 3) := by decide +kernel
theorem dn_d_Mod_change_31 : decode dn_c_Mod_change 31 = .ok (.aload_n 0, 1) := by decide +kernel
theorem dn_d_Mod_change_32 : decode dn_c_Mod_change 32 = .ok (.getfield 123, 3) := by decide +kernel
theorem dn_d_Mod_change_35 : decode dn_c_Mod_change 35 = .ok (.iconst 3, 1) := by decide +kernel
theorem dn_d_Mod_change_36 : decode dn_c_Mod_change 36 = .ok (.if_icmp .ne 7, 3) := by decide +kernel
theorem dn_d_Mod_change_39 : decode dn_c_Mod_change 39 = .ok (.iconst 2, 1) := by decide +kernel
theorem dn_d_Mod_change_40 : decode dn_c_Mod_change 40 = .ok (.goto 4, 3) := by decide +kernel
theorem dn_d_Mod_change_43 : decode dn_c_Mod_change 43 = .ok (.iconst 0, 1) := by decide +kernel
theorem dn_d_Mod_change_44 : decode dn_c_Mod_change 44 = .ok (.putfield 68, 3) := by decide +kernel
theorem dn_d_Mod_change_47 : decode dn_c_Mod_change 47 = .ok (.aload_n 0, 1) := by decide +kernel
theorem dn_d_Mod_change_48 : decode dn_c_Mod_change 48 = .ok (.getfield 68, 3) := by decide +kernel
theorem dn_d_Mod_change_51 : decode dn_c_Mod_change 51 = .ok (.ifCond .eq 5, 3) := by decide +kernel
theorem dn_d_Mod_change_54 : decode dn_c_Mod_change 54 = .ok (.iconst 0, 1) := by decide +kernel
theorem dn_d_Mod_change_55 : decode dn_c_Mod_change 55 = .ok (.ireturn, 1) := by decide +kernel
theorem dn_d_Mod_change_56 : decode dn_c_Mod_change 56 = .ok (.aload_n 0, 1) := by decide +kernel
theorem dn_d_Mod_change_57 : decode dn_c_Mod_change 57 = .ok (.getfield 41, 3) := by decide +kernel
theorem dn_d_Mod_change_60 : decode dn_c_Mod_change 60 = .ok (.aload_n 0, 1) := by decide +kernel
theorem dn_d_Mod_change_61 : decode dn_c_Mod_change 61 = .ok (.getfield 123, 3) := by decide +kernel
theorem dn_d_Mod_change_64 : decode dn_c_Mod_change 64 = .ok (.iload_n 1, 1) := by decide +kernel
theorem dn_d_Mod_change_65 : decode dn_c_Mod_change 65 = .ok (.iastore, 1) := by decide +kernel
theorem dn_d_Mod_change_66 : decode dn_c_Mod_change 66 = .ok (.aload_n 0, 1) := by decide +kernel
theorem dn_d_Mod_change_67 : decode dn_c_Mod_change 67 = .ok (.getfield 44, 3) := by decide +kernel
theorem dn_d_Mod_change_70 : decode dn_c_Mod_change 70 = .ok (.aload_n 0, 1) := by decide +kernel
theorem dn_d_Mod_change_71 : decode dn_c_Mod_change 71 = .ok (.getfield 123, 3) := by decide +kernel
theorem dn_d_Mod_change_74 : decode dn_c_Mod_change 74 = .ok (.iload_n 2, 1) := by decide +kernel
theorem dn_d_Mod_change_75 : decode dn_c_Mod_change 75 = .ok (.iastore, 1) := by decide +kernel
theorem dn_d_Mod_change_76 : decode dn_c_Mod_change 76 = .ok (.aload_n 0, 1) := by decide +kernel
theorem dn_d_Mod_change_77 : decode dn_c_Mod_change 77 = .ok (.getfield 47, 3) := by decide +kernel
theorem dn_d_Mod_change_80 : decode dn_c_Mod_change 80 = .ok (.aload_n 0, 1) := by decide +kernel
theorem dn_d_Mod_change_81 : decode dn_c_Mod_change 81 = .ok (.getfield 123, 3) := by decide +kernel
theorem dn_d_Mod_change_84 : decode dn_c_Mod_change 84 = .ok (.lload_n 3, 1) := by decide +kernel
theorem dn_d_Mod_change_85 : decode dn_c_Mod_change 85 = .ok (.lastore, 1) := by decide +kernel
theorem dn_d_Mod_change_86 : decode dn_c_Mod_change 86 = .ok (.aload_n 0, 1) := by decide +kernel
theorem dn_d_Mod_change_87 : decode dn_c_Mod_change 87 = .ok (.dup, 1) := by decide +kernel
theorem dn_d_Mod_change_88 : decode dn_c_Mod_change 88 = .ok (.getfield 123, 3) := by decide +kernel
theorem dn_d_Mod_change_91 : decode dn_c_Mod_change 91 = .ok (.iconst 1, 1) := by decide +kernel
theorem dn_d_Mod_change_92 : decode dn_c_Mod_change 92 = .ok (.iadd, 1) := by decide +kernel
theorem dn_d_Mod_change_93 : decode dn_c_Mod_change 93 = .ok (.putfield 123, 3) := by decide +kernel
theorem dn_d_Mod_change_96 : decode dn_c_Mod_change 96 = .ok (.aload_n 0, 1) := by decide +kernel
theorem dn_d_Mod_change_97 : decode dn_c_Mod_change 97 = .ok (.getfield 123, 3) := by decide +kernel
theorem dn_d_Mod_change_100 : decode dn_c_Mod_change 100 = .ok (.ireturn, 1) := by decide +kernel
theorem dn_d_Mod_noSession_0 : decode dn_c_Mod_noSession 0 = .ok (.aload_n 0, 1) := by decide +kernel
theorem dn_d_Mod_noSession_1 : decode dn_c_Mod_noSession 1 = .ok (.iconst 0, 1) := by decide +kernel
theorem dn_d_Mod_noSession_2 : decode dn_c_Mod_noSession 2 = .ok (.putfield 126, 3) := by decide +kernel
theorem dn_d_Mod_noSession_5 : decode dn_c_Mod_noSession 5 = .ok (.aload_n 0, 1) := by decide +kernel
theorem dn_d_Mod_noSession_6 : decode dn_c_Mod_noSession 6 = .ok (.iconst (-1), 1) := by decide +kernel
theorem dn_d_Mod_noSession_7 : decode dn_c_Mod_noSession 7 = .ok (.putfield 64, 3) := by decide +kernel
theorem dn_d_Mod_noSession_10 : decode dn_c_Mod_noSession 10 = .ok (.return_, 1) := by decide +kernel
theorem dn_d_Mod_give_0 : decode dn_c_Mod_give 0 = .ok (.aload_n 0, 1) := by decide +kernel
theorem dn_d_Mod_give_1 : decode dn_c_Mod_give 1 = .ok (.invokevirtual 130, 3) := by decide +kernel
theorem dn_d_Mod_give_4 : decode dn_c_Mod_give 4 = .ok (.aload_n 0, 1) := by decide +kernel
theorem dn_d_Mod_give_5 : decode dn_c_Mod_give 5 = .ok (.iconst 1, 1) := by decide +kernel
theorem dn_d_Mod_give_6 : decode dn_c_Mod_give 6 = .ok (.putfield 133, 3) := by decide +kernel
theorem dn_d_Mod_give_9 : decode dn_c_Mod_give 9 = .ok (.aload_n 0, 1) := by decide +kernel
theorem dn_d_Mod_give_10 : decode dn_c_Mod_give 10 = .ok (.aload_n 0, 1) := by decide +kernel
theorem dn_d_Mod_give_11 : decode dn_c_Mod_give 11 = .ok (.getfield 38, 3) := by decide +kernel
theorem dn_d_Mod_give_14 : decode dn_c_Mod_give 14 = .ok (.iconst 2, 1) := by decide +kernel
theorem dn_d_Mod_give_15 : decode dn_c_Mod_give 15 = .ok (.laload, 1) := by decide +kernel
theorem dn_d_Mod_give_16 : decode dn_c_Mod_give 16 = .ok (.putfield 136, 3) := by decide +kernel
theorem dn_d_Mod_give_19 : decode dn_c_Mod_give 19 = .ok (.return_, 1) := by decide +kernel
theorem dn_d_Mod_proved_0 : decode dn_c_Mod_proved 0 = .ok (.aload_n 0, 1) := by decide +kernel
theorem dn_d_Mod_proved_1 : decode dn_c_Mod_proved 1 = .ok (.invokevirtual 140, 3) := by decide +kernel
theorem dn_d_Mod_proved_4 : decode dn_c_Mod_proved 4 = .ok (.lstore_n 1, 1) := by decide +kernel
theorem dn_d_Mod_proved_5 : decode dn_c_Mod_proved 5 = .ok (.aload_n 0, 1) := by decide +kernel
theorem dn_d_Mod_proved_6 : decode dn_c_Mod_proved 6 = .ok (.lload_n 1, 1) := by decide +kernel
theorem dn_d_Mod_proved_7 : decode dn_c_Mod_proved 7 = .ok (.lconst 1, 1) := by decide +kernel
theorem dn_d_Mod_proved_8 : decode dn_c_Mod_proved 8 = .ok (.invokevirtual 75, 3) := by decide +kernel
theorem dn_d_Mod_proved_11 : decode dn_c_Mod_proved 11 = .ok (.lstore_n 3, 1) := by decide +kernel
theorem dn_d_Mod_proved_12 : decode dn_c_Mod_proved 12 = .ok (.aload_n 0, 1) := by decide +kernel
theorem dn_d_Mod_proved_13 : decode dn_c_Mod_proved 13 = .ok (.lload_n 1, 1) := by decide +kernel
theorem dn_d_Mod_proved_14 : decode dn_c_Mod_proved 14 = .ok (.ldc2_w 144, 3) := by decide +kernel
theorem dn_d_Mod_proved_17 : decode dn_c_Mod_proved 17 = .ok (.invokevirtual 75, 3) := by decide +kernel
theorem dn_d_Mod_proved_20 : decode dn_c_Mod_proved 20 = .ok (.lstore 5, 2) := by decide +kernel
theorem dn_d_Mod_proved_22 : decode dn_c_Mod_proved 22 = .ok (.aload_n 0, 1) := by decide +kernel
theorem dn_d_Mod_proved_23 : decode dn_c_Mod_proved 23 = .ok (.lload 5, 2) := by decide +kernel
theorem dn_d_Mod_proved_25 : decode dn_c_Mod_proved 25 = .ok (.aload_n 0, 1) := by decide +kernel
theorem dn_d_Mod_proved_26 : decode dn_c_Mod_proved 26 = .ok (.getfield 59, 3) := by decide +kernel
theorem dn_d_Mod_proved_29 : decode dn_c_Mod_proved 29 = .ok (.iconst 0, 1) := by decide +kernel
theorem dn_d_Mod_proved_30 : decode dn_c_Mod_proved 30 = .ok (.laload, 1) := by decide +kernel
theorem dn_d_Mod_proved_31 : decode dn_c_Mod_proved 31 = .ok (.aload_n 0, 1) := by decide +kernel
theorem dn_d_Mod_proved_32 : decode dn_c_Mod_proved 32 = .ok (.getfield 59, 3) := by decide +kernel
theorem dn_d_Mod_proved_35 : decode dn_c_Mod_proved 35 = .ok (.iconst 1, 1) := by decide +kernel
theorem dn_d_Mod_proved_36 : decode dn_c_Mod_proved 36 = .ok (.laload, 1) := by decide +kernel
theorem dn_d_Mod_proved_37 : decode dn_c_Mod_proved 37 = .ok (.aload_n 0, 1) := by decide +kernel
theorem dn_d_Mod_proved_38 : decode dn_c_Mod_proved 38 = .ok (.getfield 59, 3) := by decide +kernel
theorem dn_d_Mod_proved_41 : decode dn_c_Mod_proved 41 = .ok (.iconst 2, 1) := by decide +kernel
theorem dn_d_Mod_proved_42 : decode dn_c_Mod_proved 42 = .ok (.laload, 1) := by decide +kernel
theorem dn_d_Mod_proved_43 : decode dn_c_Mod_proved 43 = .ok (.invokevirtual 146, 3) := by decide +kernel
theorem dn_d_Mod_proved_46 : decode dn_c_Mod_proved 46 = .ok (.aload_n 0, 1) := by decide +kernel
theorem dn_d_Mod_proved_47 : decode dn_c_Mod_proved 47 = .ok (.getfield 59, 3) := by decide +kernel
theorem dn_d_Mod_proved_50 : decode dn_c_Mod_proved 50 = .ok (.iconst 3, 1) := by decide +kernel
theorem dn_d_Mod_proved_51 : decode dn_c_Mod_proved 51 = .ok (.laload, 1) := by decide +kernel
theorem dn_d_Mod_proved_52 : decode dn_c_Mod_proved 52 = .ok (.lcmp, 1) := by decide +kernel
theorem dn_d_Mod_proved_53 : decode dn_c_Mod_proved 53 = .ok (.ifCond .ne 7, 3) := by decide +kernel
theorem dn_d_Mod_proved_56 : decode dn_c_Mod_proved 56 = .ok (.iconst 1, 1) := by decide +kernel
theorem dn_d_Mod_proved_57 : decode dn_c_Mod_proved 57 = .ok (.goto 4, 3) := by decide +kernel
theorem dn_d_Mod_proved_60 : decode dn_c_Mod_proved 60 = .ok (.iconst 0, 1) := by decide +kernel
theorem dn_d_Mod_proved_61 : decode dn_c_Mod_proved 61 = .ok (.istore 7, 2) := by decide +kernel
theorem dn_d_Mod_proved_63 : decode dn_c_Mod_proved 63 = .ok (.lload_n 3, 1) := by decide +kernel
theorem dn_d_Mod_proved_64 : decode dn_c_Mod_proved 64 = .ok (.aload_n 0, 1) := by decide +kernel
theorem dn_d_Mod_proved_65 : decode dn_c_Mod_proved 65 = .ok (.getfield 59, 3) := by decide +kernel
theorem dn_d_Mod_proved_68 : decode dn_c_Mod_proved 68 = .ok (.iconst 0, 1) := by decide +kernel
theorem dn_d_Mod_proved_69 : decode dn_c_Mod_proved 69 = .ok (.laload, 1) := by decide +kernel
theorem dn_d_Mod_proved_70 : decode dn_c_Mod_proved 70 = .ok (.invokestatic 150, 3) := by decide +kernel
theorem dn_d_Mod_proved_73 : decode dn_c_Mod_proved 73 = .ok (.lstore 8, 2) := by decide +kernel
theorem dn_d_Mod_proved_75 : decode dn_c_Mod_proved 75 = .ok (.lload_n 3, 1) := by decide +kernel
theorem dn_d_Mod_proved_76 : decode dn_c_Mod_proved 76 = .ok (.aload_n 0, 1) := by decide +kernel
theorem dn_d_Mod_proved_77 : decode dn_c_Mod_proved 77 = .ok (.getfield 59, 3) := by decide +kernel
theorem dn_d_Mod_proved_80 : decode dn_c_Mod_proved 80 = .ok (.iconst 1, 1) := by decide +kernel
theorem dn_d_Mod_proved_81 : decode dn_c_Mod_proved 81 = .ok (.laload, 1) := by decide +kernel
theorem dn_d_Mod_proved_82 : decode dn_c_Mod_proved 82 = .ok (.invokestatic 150, 3) := by decide +kernel
theorem dn_d_Mod_proved_85 : decode dn_c_Mod_proved 85 = .ok (.aload_n 0, 1) := by decide +kernel
theorem dn_d_Mod_proved_86 : decode dn_c_Mod_proved 86 = .ok (.getfield 59, 3) := by decide +kernel
theorem dn_d_Mod_proved_89 : decode dn_c_Mod_proved 89 = .ok (.iconst 0, 1) := by decide +kernel
theorem dn_d_Mod_proved_90 : decode dn_c_Mod_proved 90 = .ok (.laload, 1) := by decide +kernel
theorem dn_d_Mod_proved_91 : decode dn_c_Mod_proved 91 = .ok (.lxor, 1) := by decide +kernel
theorem dn_d_Mod_proved_92 : decode dn_c_Mod_proved 92 = .ok (.lstore 10, 2) := by decide +kernel
theorem dn_d_Mod_proved_94 : decode dn_c_Mod_proved 94 = .ok (.lload_n 3, 1) := by decide +kernel
theorem dn_d_Mod_proved_95 : decode dn_c_Mod_proved 95 = .ok (.aload_n 0, 1) := by decide +kernel
theorem dn_d_Mod_proved_96 : decode dn_c_Mod_proved 96 = .ok (.getfield 59, 3) := by decide +kernel
theorem dn_d_Mod_proved_99 : decode dn_c_Mod_proved 99 = .ok (.iconst 2, 1) := by decide +kernel
theorem dn_d_Mod_proved_100 : decode dn_c_Mod_proved 100 = .ok (.laload, 1) := by decide +kernel
theorem dn_d_Mod_proved_101 : decode dn_c_Mod_proved 101 = .ok (.invokestatic 150, 3) := by decide +kernel
theorem dn_d_Mod_proved_104 : decode dn_c_Mod_proved 104 = .ok (.aload_n 0, 1) := by decide +kernel
theorem dn_d_Mod_proved_105 : decode dn_c_Mod_proved 105 = .ok (.getfield 59, 3) := by decide +kernel
theorem dn_d_Mod_proved_108 : decode dn_c_Mod_proved 108 = .ok (.iconst 1, 1) := by decide +kernel
theorem dn_d_Mod_proved_109 : decode dn_c_Mod_proved 109 = .ok (.laload, 1) := by decide +kernel
theorem dn_d_Mod_proved_110 : decode dn_c_Mod_proved 110 = .ok (.lxor, 1) := by decide +kernel
theorem dn_d_Mod_proved_111 : decode dn_c_Mod_proved 111 = .ok (.lstore 12, 2) := by decide +kernel
theorem dn_d_Mod_proved_113 : decode dn_c_Mod_proved 113 = .ok (.aload_n 0, 1) := by decide +kernel
theorem dn_d_Mod_proved_114 : decode dn_c_Mod_proved 114 = .ok (.iconst 0, 1) := by decide +kernel
theorem dn_d_Mod_proved_115 : decode dn_c_Mod_proved 115 = .ok (.putfield 133, 3) := by decide +kernel
theorem dn_d_Mod_proved_118 : decode dn_c_Mod_proved 118 = .ok (.iload 7, 2) := by decide +kernel
theorem dn_d_Mod_proved_120 : decode dn_c_Mod_proved 120 = .ok (.ifCond .eq 13, 3) := by decide +kernel
theorem dn_d_Mod_proved_123 : decode dn_c_Mod_proved 123 = .ok (.lload 10, 2) := by decide +kernel
theorem dn_d_Mod_proved_125 : decode dn_c_Mod_proved 125 = .ok (.aload_n 0, 1) := by decide +kernel
theorem dn_d_Mod_proved_126 : decode dn_c_Mod_proved 126 = .ok (.getfield 136, 3) := by decide +kernel
theorem dn_d_Mod_proved_129 : decode dn_c_Mod_proved 129 = .ok (.lcmp, 1) := by decide +kernel
theorem dn_d_Mod_proved_130 : decode dn_c_Mod_proved 130 = .ok (.ifCond .eq 9, 3) := by decide +kernel
theorem dn_d_Mod_proved_133 : decode dn_c_Mod_proved 133 = .ok (.aload_n 0, 1) := by decide +kernel
theorem dn_d_Mod_proved_134 : decode dn_c_Mod_proved 134 = .ok (.invokevirtual 130, 3) := by decide +kernel
theorem dn_d_Mod_proved_137 : decode dn_c_Mod_proved 137 = .ok (.iconst 0, 1) := by decide +kernel
theorem dn_d_Mod_proved_138 : decode dn_c_Mod_proved 138 = .ok (.ireturn, 1) := by decide +kernel
theorem dn_d_Mod_proved_139 : decode dn_c_Mod_proved 139 = .ok (.lload 12, 2) := by decide +kernel
theorem dn_d_Mod_proved_141 : decode dn_c_Mod_proved 141 = .ok (.aload_n 0, 1) := by decide +kernel
theorem dn_d_Mod_proved_142 : decode dn_c_Mod_proved 142 = .ok (.getfield 38, 3) := by decide +kernel
theorem dn_d_Mod_proved_145 : decode dn_c_Mod_proved 145 = .ok (.iconst 3, 1) := by decide +kernel
theorem dn_d_Mod_proved_146 : decode dn_c_Mod_proved 146 = .ok (.laload, 1) := by decide +kernel
theorem dn_d_Mod_proved_147 : decode dn_c_Mod_proved 147 = .ok (.lxor, 1) := by decide +kernel
theorem dn_d_Mod_proved_148 : decode dn_c_Mod_proved 148 = .ok (.lstore 14, 2) := by decide +kernel
theorem dn_d_Mod_proved_150 : decode dn_c_Mod_proved 150 = .ok (.aload_n 0, 1) := by decide +kernel
theorem dn_d_Mod_proved_151 : decode dn_c_Mod_proved 151 = .ok (.iconst 1, 1) := by decide +kernel
theorem dn_d_Mod_proved_152 : decode dn_c_Mod_proved 152 = .ok (.putfield 126, 3) := by decide +kernel
theorem dn_d_Mod_proved_155 : decode dn_c_Mod_proved 155 = .ok (.aload_n 0, 1) := by decide +kernel
theorem dn_d_Mod_proved_156 : decode dn_c_Mod_proved 156 = .ok (.iconst (-1), 1) := by decide +kernel
theorem dn_d_Mod_proved_157 : decode dn_c_Mod_proved 157 = .ok (.putfield 64, 3) := by decide +kernel
theorem dn_d_Mod_proved_160 : decode dn_c_Mod_proved 160 = .ok (.aload_n 0, 1) := by decide +kernel
theorem dn_d_Mod_proved_161 : decode dn_c_Mod_proved 161 = .ok (.aload_n 0, 1) := by decide +kernel
theorem dn_d_Mod_proved_162 : decode dn_c_Mod_proved 162 = .ok (.lload 14, 2) := by decide +kernel
theorem dn_d_Mod_proved_164 : decode dn_c_Mod_proved 164 = .ok (.lconst 1, 1) := by decide +kernel
theorem dn_d_Mod_proved_165 : decode dn_c_Mod_proved 165 = .ok (.invokevirtual 75, 3) := by decide +kernel
theorem dn_d_Mod_proved_168 : decode dn_c_Mod_proved 168 = .ok (.putfield 153, 3) := by decide +kernel
theorem dn_d_Mod_proved_171 : decode dn_c_Mod_proved 171 = .ok (.aload_n 0, 1) := by decide +kernel
theorem dn_d_Mod_proved_172 : decode dn_c_Mod_proved 172 = .ok (.aload_n 0, 1) := by decide +kernel
theorem dn_d_Mod_proved_173 : decode dn_c_Mod_proved 173 = .ok (.lload 14, 2) := by decide +kernel
theorem dn_d_Mod_proved_175 : decode dn_c_Mod_proved 175 = .ok (.ldc2_w 144, 3) := by decide +kernel
theorem dn_d_Mod_proved_178 : decode dn_c_Mod_proved 178 = .ok (.invokevirtual 75, 3) := by decide +kernel
theorem dn_d_Mod_proved_181 : decode dn_c_Mod_proved 181 = .ok (.putfield 156, 3) := by decide +kernel
theorem dn_d_Mod_proved_184 : decode dn_c_Mod_proved 184 = .ok (.aload_n 0, 1) := by decide +kernel
theorem dn_d_Mod_proved_185 : decode dn_c_Mod_proved 185 = .ok (.lload 10, 2) := by decide +kernel
theorem dn_d_Mod_proved_187 : decode dn_c_Mod_proved 187 = .ok (.l2i, 1) := by decide +kernel
theorem dn_d_Mod_proved_188 : decode dn_c_Mod_proved 188 = .ok (.lload 8, 2) := by decide +kernel
theorem dn_d_Mod_proved_190 : decode dn_c_Mod_proved 190 = .ok (.l2i, 1) := by decide +kernel
theorem dn_d_Mod_proved_191 : decode dn_c_Mod_proved 191 = .ok (.invokestatic 90, 3) := by decide +kernel
theorem dn_d_Mod_proved_194 : decode dn_c_Mod_proved 194 = .ok (.putfield 159, 3) := by decide +kernel
theorem dn_d_Mod_proved_197 : decode dn_c_Mod_proved 197 = .ok (.aload_n 0, 1) := by decide +kernel
theorem dn_d_Mod_proved_198 : decode dn_c_Mod_proved 198 = .ok (.getfield 59, 3) := by decide +kernel
theorem dn_d_Mod_proved_201 : decode dn_c_Mod_proved 201 = .ok (.iconst 0, 1) := by decide +kernel
theorem dn_d_Mod_proved_202 : decode dn_c_Mod_proved 202 = .ok (.lload_n 3, 1) := by decide +kernel
theorem dn_d_Mod_proved_203 : decode dn_c_Mod_proved 203 = .ok (.lload 10, 2) := by decide +kernel
theorem dn_d_Mod_proved_205 : decode dn_c_Mod_proved 205 = .ok (.invokestatic 94, 3) := by decide +kernel
theorem dn_d_Mod_proved_208 : decode dn_c_Mod_proved 208 = .ok (.lastore, 1) := by decide +kernel
theorem dn_d_Mod_proved_209 : decode dn_c_Mod_proved 209 = .ok (.aload_n 0, 1) := by decide +kernel
theorem dn_d_Mod_proved_210 : decode dn_c_Mod_proved 210 = .ok (.getfield 59, 3) := by decide +kernel
theorem dn_d_Mod_proved_213 : decode dn_c_Mod_proved 213 = .ok (.iconst 1, 1) := by decide +kernel
theorem dn_d_Mod_proved_214 : decode dn_c_Mod_proved 214 = .ok (.lload_n 3, 1) := by decide +kernel
theorem dn_d_Mod_proved_215 : decode dn_c_Mod_proved 215 = .ok (.lload 8, 2) := by decide +kernel
theorem dn_d_Mod_proved_217 : decode dn_c_Mod_proved 217 = .ok (.aload_n 0, 1) := by decide +kernel
theorem dn_d_Mod_proved_218 : decode dn_c_Mod_proved 218 = .ok (.getfield 59, 3) := by decide +kernel
theorem dn_d_Mod_proved_221 : decode dn_c_Mod_proved 221 = .ok (.iconst 0, 1) := by decide +kernel
theorem dn_d_Mod_proved_222 : decode dn_c_Mod_proved 222 = .ok (.laload, 1) := by decide +kernel
theorem dn_d_Mod_proved_223 : decode dn_c_Mod_proved 223 = .ok (.lxor, 1) := by decide +kernel
theorem dn_d_Mod_proved_224 : decode dn_c_Mod_proved 224 = .ok (.invokestatic 94, 3) := by decide +kernel
theorem dn_d_Mod_proved_227 : decode dn_c_Mod_proved 227 = .ok (.lastore, 1) := by decide +kernel
theorem dn_d_Mod_proved_228 : decode dn_c_Mod_proved 228 = .ok (.aload_n 0, 1) := by decide +kernel
theorem dn_d_Mod_proved_229 : decode dn_c_Mod_proved 229 = .ok (.getfield 59, 3) := by decide +kernel
theorem dn_d_Mod_proved_232 : decode dn_c_Mod_proved 232 = .ok (.iconst 2, 1) := by decide +kernel
theorem dn_d_Mod_proved_233 : decode dn_c_Mod_proved 233 = .ok (.lload_n 3, 1) := by decide +kernel
theorem dn_d_Mod_proved_234 : decode dn_c_Mod_proved 234 = .ok (.aload_n 0, 1) := by decide +kernel
theorem dn_d_Mod_proved_235 : decode dn_c_Mod_proved 235 = .ok (.getfield 38, 3) := by decide +kernel
theorem dn_d_Mod_proved_238 : decode dn_c_Mod_proved 238 = .ok (.iconst 3, 1) := by decide +kernel
theorem dn_d_Mod_proved_239 : decode dn_c_Mod_proved 239 = .ok (.laload, 1) := by decide +kernel
theorem dn_d_Mod_proved_240 : decode dn_c_Mod_proved 240 = .ok (.aload_n 0, 1) := by decide +kernel
theorem dn_d_Mod_proved_241 : decode dn_c_Mod_proved 241 = .ok (.getfield 59, 3) := by decide +kernel
theorem dn_d_Mod_proved_244 : decode dn_c_Mod_proved 244 = .ok (.iconst 1, 1) := by decide +kernel
theorem dn_d_Mod_proved_245 : decode dn_c_Mod_proved 245 = .ok (.laload, 1) := by decide +kernel
theorem dn_d_Mod_proved_246 : decode dn_c_Mod_proved 246 = .ok (.lxor, 1) := by decide +kernel
theorem dn_d_Mod_proved_247 : decode dn_c_Mod_proved 247 = .ok (.invokestatic 94, 3) := by decide +kernel
theorem dn_d_Mod_proved_250 : decode dn_c_Mod_proved 250 = .ok (.lastore, 1) := by decide +kernel
theorem dn_d_Mod_proved_251 : decode dn_c_Mod_proved 251 = .ok (.aload_n 0, 1) := by decide +kernel
theorem dn_d_Mod_proved_252 : decode dn_c_Mod_proved 252 = .ok (.getfield 59, 3) := by decide +kernel
theorem dn_d_Mod_proved_255 : decode dn_c_Mod_proved 255 = .ok (.iconst 3, 1) := by decide +kernel
theorem dn_d_Mod_proved_256 : decode dn_c_Mod_proved 256 = .ok (.aload_n 0, 1) := by decide +kernel
theorem dn_d_Mod_proved_257 : decode dn_c_Mod_proved 257 = .ok (.lload 5, 2) := by decide +kernel
theorem dn_d_Mod_proved_259 : decode dn_c_Mod_proved 259 = .ok (.aload_n 0, 1) := by decide +kernel
theorem dn_d_Mod_proved_260 : decode dn_c_Mod_proved 260 = .ok (.getfield 59, 3) := by decide +kernel
theorem dn_d_Mod_proved_263 : decode dn_c_Mod_proved 263 = .ok (.iconst 0, 1) := by decide +kernel
theorem dn_d_Mod_proved_264 : decode dn_c_Mod_proved 264 = .ok (.laload, 1) := by decide +kernel
theorem dn_d_Mod_proved_265 : decode dn_c_Mod_proved 265 = .ok (.aload_n 0, 1) := by decide +kernel
theorem dn_d_Mod_proved_266 : decode dn_c_Mod_proved 266 = .ok (.getfield 59, 3) := by decide +kernel
theorem dn_d_Mod_proved_269 : decode dn_c_Mod_proved 269 = .ok (.iconst 1, 1) := by decide +kernel
theorem dn_d_Mod_proved_270 : decode dn_c_Mod_proved 270 = .ok (.laload, 1) := by decide +kernel
theorem dn_d_Mod_proved_271 : decode dn_c_Mod_proved 271 = .ok (.aload_n 0, 1) := by decide +kernel
theorem dn_d_Mod_proved_272 : decode dn_c_Mod_proved 272 = .ok (.getfield 59, 3) := by decide +kernel
theorem dn_d_Mod_proved_275 : decode dn_c_Mod_proved 275 = .ok (.iconst 2, 1) := by decide +kernel
theorem dn_d_Mod_proved_276 : decode dn_c_Mod_proved 276 = .ok (.laload, 1) := by decide +kernel
theorem dn_d_Mod_proved_277 : decode dn_c_Mod_proved 277 = .ok (.invokevirtual 146, 3) := by decide +kernel
theorem dn_d_Mod_proved_280 : decode dn_c_Mod_proved 280 = .ok (.lastore, 1) := by decide +kernel
theorem dn_d_Mod_proved_281 : decode dn_c_Mod_proved 281 = .ok (.iconst 1, 1) := by decide +kernel
theorem dn_d_Mod_proved_282 : decode dn_c_Mod_proved 282 = .ok (.ireturn, 1) := by decide +kernel
theorem dn_d_Mod_error_0 : decode dn_c_Mod_error 0 = .ok (.aload_n 0, 1) := by decide +kernel
theorem dn_d_Mod_error_1 : decode dn_c_Mod_error 1 = .ok (.getfield 126, 3) := by decide +kernel
theorem dn_d_Mod_error_4 : decode dn_c_Mod_error 4 = .ok (.ifCond .ne 5, 3) := by decide +kernel
theorem dn_d_Mod_error_7 : decode dn_c_Mod_error 7 = .ok (.iconst 1, 1) := by decide +kernel
theorem dn_d_Mod_error_8 : decode dn_c_Mod_error 8 = .ok (.ireturn, 1) := by decide +kernel
theorem dn_d_Mod_error_9 : decode dn_c_Mod_error 9 = .ok (.aload_n 0, 1) := by decide +kernel
theorem dn_d_Mod_error_10 : decode dn_c_Mod_error 10 = .ok (.dup, 1) := by decide +kernel
theorem dn_d_Mod_error_11 : decode dn_c_Mod_error 11 = .ok (.getfield 159, 3) := by decide +kernel
theorem dn_d_Mod_error_14 : decode dn_c_Mod_error 14 = .ok (.lconst 1, 1) := by decide +kernel
theorem dn_d_Mod_error_15 : decode dn_c_Mod_error 15 = .ok (.ladd, 1) := by decide +kernel
theorem dn_d_Mod_error_16 : decode dn_c_Mod_error 16 = .ok (.putfield 159, 3) := by decide +kernel
theorem dn_d_Mod_error_19 : decode dn_c_Mod_error 19 = .ok (.aload_n 0, 1) := by decide +kernel
theorem dn_d_Mod_error_20 : decode dn_c_Mod_error 20 = .ok (.aload_n 0, 1) := by decide +kernel
theorem dn_d_Mod_error_21 : decode dn_c_Mod_error 21 = .ok (.getfield 156, 3) := by decide +kernel
theorem dn_d_Mod_error_24 : decode dn_c_Mod_error 24 = .ok (.aload_n 0, 1) := by decide +kernel
theorem dn_d_Mod_error_25 : decode dn_c_Mod_error 25 = .ok (.getfield 159, 3) := by decide +kernel
theorem dn_d_Mod_error_28 : decode dn_c_Mod_error 28 = .ok (.lload_n 1, 1) := by decide +kernel
theorem dn_d_Mod_error_29 : decode dn_c_Mod_error 29 = .ok (.lload_n 3, 1) := by decide +kernel
theorem dn_d_Mod_error_30 : decode dn_c_Mod_error 30 = .ok (.invokevirtual 146, 3) := by decide +kernel
theorem dn_d_Mod_error_33 : decode dn_c_Mod_error 33 = .ok (.lload 5, 2) := by decide +kernel
theorem dn_d_Mod_error_35 : decode dn_c_Mod_error 35 = .ok (.lcmp, 1) := by decide +kernel
theorem dn_d_Mod_error_36 : decode dn_c_Mod_error 36 = .ok (.ifCond .eq 5, 3) := by decide +kernel
theorem dn_d_Mod_error_39 : decode dn_c_Mod_error 39 = .ok (.iconst 2, 1) := by decide +kernel
theorem dn_d_Mod_error_40 : decode dn_c_Mod_error 40 = .ok (.ireturn, 1) := by decide +kernel
theorem dn_d_Mod_error_41 : decode dn_c_Mod_error 41 = .ok (.lload_n 1, 1) := by decide +kernel
theorem dn_d_Mod_error_42 : decode dn_c_Mod_error 42 = .ok (.lconst 1, 1) := by decide +kernel
theorem dn_d_Mod_error_43 : decode dn_c_Mod_error 43 = .ok (.lcmp, 1) := by decide +kernel
theorem dn_d_Mod_error_44 : decode dn_c_Mod_error 44 = .ok (.ifCond .eq 13, 3) := by decide +kernel
theorem dn_d_Mod_error_47 : decode dn_c_Mod_error 47 = .ok (.lload_n 1, 1) := by decide +kernel
theorem dn_d_Mod_error_48 : decode dn_c_Mod_error 48 = .ok (.ldc2_w 144, 3) := by decide +kernel
theorem dn_d_Mod_error_51 : decode dn_c_Mod_error 51 = .ok (.lcmp, 1) := by decide +kernel
theorem dn_d_Mod_error_52 : decode dn_c_Mod_error 52 = .ok (.ifCond .eq 5, 3) := by decide +kernel
theorem dn_d_Mod_error_55 : decode dn_c_Mod_error 55 = .ok (.iconst 3, 1) := by decide +kernel
theorem dn_d_Mod_error_56 : decode dn_c_Mod_error 56 = .ok (.ireturn, 1) := by decide +kernel
theorem dn_d_Mod_error_57 : decode dn_c_Mod_error 57 = .ok (.aload_n 0, 1) := by decide +kernel
theorem dn_d_Mod_error_58 : decode dn_c_Mod_error 58 = .ok (.getfield 153, 3) := by decide +kernel
theorem dn_d_Mod_error_61 : decode dn_c_Mod_error 61 = .ok (.lload_n 3, 1) := by decide +kernel
theorem dn_d_Mod_error_62 : decode dn_c_Mod_error 62 = .ok (.aload_n 0, 1) := by decide +kernel
theorem dn_d_Mod_error_63 : decode dn_c_Mod_error 63 = .ok (.getfield 159, 3) := by decide +kernel
theorem dn_d_Mod_error_66 : decode dn_c_Mod_error 66 = .ok (.lxor, 1) := by decide +kernel
theorem dn_d_Mod_error_67 : decode dn_c_Mod_error 67 = .ok (.invokestatic 150, 3) := by decide +kernel
theorem dn_d_Mod_error_70 : decode dn_c_Mod_error 70 = .ok (.lstore 7, 2) := by decide +kernel
theorem dn_d_Mod_error_72 : decode dn_c_Mod_error 72 = .ok (.lload_n 1, 1) := by decide +kernel
theorem dn_d_Mod_error_73 : decode dn_c_Mod_error 73 = .ok (.lconst 1, 1) := by decide +kernel
theorem dn_d_Mod_error_74 : decode dn_c_Mod_error 74 = .ok (.lcmp, 1) := by decide +kernel
theorem dn_d_Mod_error_75 : decode dn_c_Mod_error 75 = .ok (.ifCond .ne 30, 3) := by decide +kernel
theorem dn_d_Mod_error_78 : decode dn_c_Mod_error 78 = .ok (.lload 7, 2) := by decide +kernel
theorem dn_d_Mod_error_80 : decode dn_c_Mod_error 80 = .ok (.lconst 0, 1) := by decide +kernel
theorem dn_d_Mod_error_81 : decode dn_c_Mod_error 81 = .ok (.lcmp, 1) := by decide +kernel
theorem dn_d_Mod_error_82 : decode dn_c_Mod_error 82 = .ok (.ifCond .lt 12, 3) := by decide +kernel
theorem dn_d_Mod_error_85 : decode dn_c_Mod_error 85 = .ok (.lload 7, 2) := by decide +kernel
theorem dn_d_Mod_error_87 : decode dn_c_Mod_error 87 = .ok (.ldc2_w 162, 3) := by decide +kernel
theorem dn_d_Mod_error_90 : decode dn_c_Mod_error 90 = .ok (.lcmp, 1) := by decide +kernel
theorem dn_d_Mod_error_91 : decode dn_c_Mod_error 91 = .ok (.ifCond .le 5, 3) := by decide +kernel
theorem dn_d_Mod_error_94 : decode dn_c_Mod_error 94 = .ok (.iconst 4, 1) := by decide +kernel
theorem dn_d_Mod_error_95 : decode dn_c_Mod_error 95 = .ok (.ireturn, 1) := by decide +kernel
theorem dn_d_Mod_error_96 : decode dn_c_Mod_error 96 = .ok (.aload_n 0, 1) := by decide +kernel
theorem dn_d_Mod_error_97 : decode dn_c_Mod_error 97 = .ok (.lload 7, 2) := by decide +kernel
theorem dn_d_Mod_error_99 : decode dn_c_Mod_error 99 = .ok (.l2i, 1) := by decide +kernel
theorem dn_d_Mod_error_100 : decode dn_c_Mod_error 100 = .ok (.putfield 64, 3) := by decide +kernel
theorem dn_d_Mod_error_103 : decode dn_c_Mod_error 103 = .ok (.iconst 0, 1) := by decide +kernel
theorem dn_d_Mod_error_104 : decode dn_c_Mod_error 104 = .ok (.ireturn, 1) := by decide +kernel
theorem dn_d_Mod_error_105 : decode dn_c_Mod_error 105 = .ok (.aload_n 0, 1) := by decide +kernel
theorem dn_d_Mod_error_106 : decode dn_c_Mod_error 106 = .ok (.getfield 64, 3) := by decide +kernel
theorem dn_d_Mod_error_109 : decode dn_c_Mod_error 109 = .ok (.ifCond .ge 5, 3) := by decide +kernel
theorem dn_d_Mod_error_112 : decode dn_c_Mod_error 112 = .ok (.iconst 4, 1) := by decide +kernel
theorem dn_d_Mod_error_113 : decode dn_c_Mod_error 113 = .ok (.ireturn, 1) := by decide +kernel
theorem dn_d_Mod_error_114 : decode dn_c_Mod_error 114 = .ok (.lload 7, 2) := by decide +kernel
theorem dn_d_Mod_error_116 : decode dn_c_Mod_error 116 = .ok (.ldc2_w 164, 3) := by decide +kernel
theorem dn_d_Mod_error_119 : decode dn_c_Mod_error 119 = .ok (.land, 1) := by decide +kernel
theorem dn_d_Mod_error_120 : decode dn_c_Mod_error 120 = .ok (.l2i, 1) := by decide +kernel
theorem dn_d_Mod_error_121 : decode dn_c_Mod_error 121 = .ok (.istore 9, 2) := by decide +kernel
theorem dn_d_Mod_error_123 : decode dn_c_Mod_error 123 = .ok (.lload 7, 2) := by decide +kernel
theorem dn_d_Mod_error_125 : decode dn_c_Mod_error 125 = .ok (.iconst 5, 1) := by decide +kernel
theorem dn_d_Mod_error_126 : decode dn_c_Mod_error 126 = .ok (.lshr, 1) := by decide +kernel
theorem dn_d_Mod_error_127 : decode dn_c_Mod_error 127 = .ok (.lstore 10, 2) := by decide +kernel
theorem dn_d_Mod_error_129 : decode dn_c_Mod_error 129 = .ok (.lload 10, 2) := by decide +kernel
theorem dn_d_Mod_error_131 : decode dn_c_Mod_error 131 = .ok (.lconst 1, 1) := by decide +kernel
theorem dn_d_Mod_error_132 : decode dn_c_Mod_error 132 = .ok (.lcmp, 1) := by decide +kernel
theorem dn_d_Mod_error_133 : decode dn_c_Mod_error 133 = .ok (.ifCond .lt 32, 3) := by decide +kernel
theorem dn_d_Mod_error_136 : decode dn_c_Mod_error 136 = .ok (.lload 10, 2) := by decide +kernel
theorem dn_d_Mod_error_138 : decode dn_c_Mod_error 138 = .ok (.ldc2_w 166, 3) := by decide +kernel
theorem dn_d_Mod_error_141 : decode dn_c_Mod_error 141 = .ok (.lcmp, 1) := by decide +kernel
theorem dn_d_Mod_error_142 : decode dn_c_Mod_error 142 = .ok (.ifCond .gt 23, 3) := by decide +kernel
theorem dn_d_Mod_error_145 : decode dn_c_Mod_error 145 = .ok (.iload 9, 2) := by decide +kernel
theorem dn_d_Mod_error_147 : decode dn_c_Mod_error 147 = .ok (.i2l, 1) := by decide +kernel
theorem dn_d_Mod_error_148 : decode dn_c_Mod_error 148 = .ok (.lload 10, 2) := by decide +kernel
theorem dn_d_Mod_error_150 : decode dn_c_Mod_error 150 = .ok (.ladd, 1) := by decide +kernel
theorem dn_d_Mod_error_151 : decode dn_c_Mod_error 151 = .ok (.aload_n 0, 1) := by decide +kernel
theorem dn_d_Mod_error_152 : decode dn_c_Mod_error 152 = .ok (.getfield 17, 3) := by decide +kernel
theorem dn_d_Mod_error_155 : decode dn_c_Mod_error 155 = .ok (.aload_n 0, 1) := by decide +kernel
theorem dn_d_Mod_error_156 : decode dn_c_Mod_error 156 = .ok (.getfield 64, 3) := by decide +kernel
theorem dn_d_Mod_error_159 : decode dn_c_Mod_error 159 = .ok (.iaload, 1) := by decide +kernel
theorem dn_d_Mod_error_160 : decode dn_c_Mod_error 160 = .ok (.i2l, 1) := by decide +kernel
theorem dn_d_Mod_error_161 : decode dn_c_Mod_error 161 = .ok (.lcmp, 1) := by decide +kernel
theorem dn_d_Mod_error_162 : decode dn_c_Mod_error 162 = .ok (.ifCond .le 7, 3) := by decide +kernel
theorem dn_d_Mod_error_165 : decode dn_c_Mod_error 165 = .ok (.iconst 5, 1) := by decide +kernel
theorem dn_d_Mod_error_166 : decode dn_c_Mod_error 166 = .ok (.goto 4, 3) := by decide +kernel
theorem dn_d_Mod_error_169 : decode dn_c_Mod_error 169 = .ok (.iconst 0, 1) := by decide +kernel
theorem dn_d_Mod_error_170 : decode dn_c_Mod_error 170 = .ok (.ireturn, 1) := by decide +kernel
theorem dn_d_Mod_commanded_0 : decode dn_c_Mod_commanded 0 = .ok (.aload_n 0, 1) := by decide +kernel
theorem dn_d_Mod_commanded_1 : decode dn_c_Mod_commanded 1 = .ok (.lload_n 1, 1) := by decide +kernel
theorem dn_d_Mod_commanded_2 : decode dn_c_Mod_commanded 2 = .ok (.lload_n 3, 1) := by decide +kernel
theorem dn_d_Mod_commanded_3 : decode dn_c_Mod_commanded 3 = .ok (.lload 5, 2) := by decide +kernel
theorem dn_d_Mod_commanded_5 : decode dn_c_Mod_commanded 5 = .ok (.invokevirtual 168, 3) := by decide +kernel
theorem dn_d_Mod_commanded_8 : decode dn_c_Mod_commanded 8 = .ok (.istore 7, 2) := by decide +kernel
theorem dn_d_Mod_commanded_10 : decode dn_c_Mod_commanded 10 = .ok (.aload_n 0, 1) := by decide +kernel
theorem dn_d_Mod_commanded_11 : decode dn_c_Mod_commanded 11 = .ok (.iconst 0, 1) := by decide +kernel
theorem dn_d_Mod_commanded_12 : decode dn_c_Mod_commanded 12 = .ok (.putfield 172, 3) := by decide +kernel
theorem dn_d_Mod_commanded_15 : decode dn_c_Mod_commanded 15 = .ok (.iload 7, 2) := by decide +kernel
theorem dn_d_Mod_commanded_17 : decode dn_c_Mod_commanded 17 = .ok (.ifCond .eq 15, 3) := by decide +kernel
theorem dn_d_Mod_commanded_20 : decode dn_c_Mod_commanded 20 = .ok (.aload_n 0, 1) := by decide +kernel
theorem dn_d_Mod_commanded_21 : decode dn_c_Mod_commanded 21 = .ok (.invokevirtual 130, 3) := by decide +kernel
theorem dn_d_Mod_commanded_24 : decode dn_c_Mod_commanded 24 = .ok (.aload_n 0, 1) := by decide +kernel
theorem dn_d_Mod_commanded_25 : decode dn_c_Mod_commanded 25 = .ok (.iconst 0, 1) := by decide +kernel
theorem dn_d_Mod_commanded_26 : decode dn_c_Mod_commanded 26 = .ok (.putfield 133, 3) := by decide +kernel
theorem dn_d_Mod_commanded_29 : decode dn_c_Mod_commanded 29 = .ok (.iload 7, 2) := by decide +kernel
theorem dn_d_Mod_commanded_31 : decode dn_c_Mod_commanded 31 = .ok (.ireturn, 1) := by decide +kernel
theorem dn_d_Mod_commanded_32 : decode dn_c_Mod_commanded 32 = .ok (.aload_n 0, 1) := by decide +kernel
theorem dn_d_Mod_commanded_33 : decode dn_c_Mod_commanded 33 = .ok (.dup, 1) := by decide +kernel
theorem dn_d_Mod_commanded_34 : decode dn_c_Mod_commanded 34 = .ok (.getfield 175, 3) := by decide +kernel
theorem dn_d_Mod_commanded_37 : decode dn_c_Mod_commanded 37 = .ok (.iconst 1, 1) := by decide +kernel
theorem dn_d_Mod_commanded_38 : decode dn_c_Mod_commanded 38 = .ok (.iadd, 1) := by decide +kernel
theorem dn_d_Mod_commanded_39 : decode dn_c_Mod_commanded 39 = .ok (.putfield 175, 3) := by decide +kernel
theorem dn_d_Mod_commanded_42 : decode dn_c_Mod_commanded 42 = .ok (.aload_n 0, 1) := by decide +kernel
theorem dn_d_Mod_commanded_43 : decode dn_c_Mod_commanded 43 = .ok (.getfield 153, 3) := by decide +kernel
theorem dn_d_Mod_commanded_46 : decode dn_c_Mod_commanded 46 = .ok (.lload_n 3, 1) := by decide +kernel
theorem dn_d_Mod_commanded_47 : decode dn_c_Mod_commanded 47 = .ok (.aload_n 0, 1) := by decide +kernel
theorem dn_d_Mod_commanded_48 : decode dn_c_Mod_commanded 48 = .ok (.getfield 159, 3) := by decide +kernel
theorem dn_d_Mod_commanded_51 : decode dn_c_Mod_commanded 51 = .ok (.lxor, 1) := by decide +kernel
theorem dn_d_Mod_commanded_52 : decode dn_c_Mod_commanded 52 = .ok (.invokestatic 150, 3) := by decide +kernel
theorem dn_d_Mod_commanded_55 : decode dn_c_Mod_commanded 55 = .ok (.lstore 8, 2) := by decide +kernel
theorem dn_d_Mod_commanded_57 : decode dn_c_Mod_commanded 57 = .ok (.lload_n 1, 1) := by decide +kernel
theorem dn_d_Mod_commanded_58 : decode dn_c_Mod_commanded 58 = .ok (.lconst 1, 1) := by decide +kernel
theorem dn_d_Mod_commanded_59 : decode dn_c_Mod_commanded 59 = .ok (.lcmp, 1) := by decide +kernel
theorem dn_d_Mod_commanded_60 : decode dn_c_Mod_commanded 60 = .ok (.ifCond .ne 7, 3) := by decide +kernel
theorem dn_d_Mod_commanded_63 : decode dn_c_Mod_commanded 63 = .ok (.iconst 0, 1) := by decide +kernel
theorem dn_d_Mod_commanded_64 : decode dn_c_Mod_commanded 64 = .ok (.goto 8, 3) := by decide +kernel
theorem dn_d_Mod_commanded_67 : decode dn_c_Mod_commanded 67 = .ok (.lload 8, 2) := by decide +kernel
theorem dn_d_Mod_commanded_69 : decode dn_c_Mod_commanded 69 = .ok (.iconst 5, 1) := by decide +kernel
theorem dn_d_Mod_commanded_70 : decode dn_c_Mod_commanded 70 = .ok (.lshr, 1) := by decide +kernel
theorem dn_d_Mod_commanded_71 : decode dn_c_Mod_commanded 71 = .ok (.l2i, 1) := by decide +kernel
theorem dn_d_Mod_commanded_72 : decode dn_c_Mod_commanded 72 = .ok (.istore 10, 2) := by decide +kernel
theorem dn_d_Mod_commanded_74 : decode dn_c_Mod_commanded 74 = .ok (.lload 8, 2) := by decide +kernel
theorem dn_d_Mod_commanded_76 : decode dn_c_Mod_commanded 76 = .ok (.ldc2_w 164, 3) := by decide +kernel
theorem dn_d_Mod_commanded_79 : decode dn_c_Mod_commanded 79 = .ok (.land, 1) := by decide +kernel
theorem dn_d_Mod_commanded_80 : decode dn_c_Mod_commanded 80 = .ok (.l2i, 1) := by decide +kernel
theorem dn_d_Mod_commanded_81 : decode dn_c_Mod_commanded 81 = .ok (.istore 11, 2) := by decide +kernel
theorem dn_d_Mod_commanded_83 : decode dn_c_Mod_commanded 83 = .ok (.aload_n 0, 1) := by decide +kernel
theorem dn_d_Mod_commanded_84 : decode dn_c_Mod_commanded 84 = .ok (.dup, 1) := by decide +kernel
theorem dn_d_Mod_commanded_85 : decode dn_c_Mod_commanded 85 = .ok (.getfield 159, 3) := by decide +kernel
theorem dn_d_Mod_commanded_88 : decode dn_c_Mod_commanded 88 = .ok (.lconst 1, 1) := by decide +kernel
theorem dn_d_Mod_commanded_89 : decode dn_c_Mod_commanded 89 = .ok (.ladd, 1) := by decide +kernel
theorem dn_d_Mod_commanded_90 : decode dn_c_Mod_commanded 90 = .ok (.putfield 159, 3) := by decide +kernel
theorem dn_d_Mod_commanded_93 : decode dn_c_Mod_commanded 93 = .ok (.aload_n 0, 1) := by decide +kernel
theorem dn_d_Mod_commanded_94 : decode dn_c_Mod_commanded 94 = .ok (.getfield 56, 3) := by decide +kernel
theorem dn_d_Mod_commanded_97 : decode dn_c_Mod_commanded 97 = .ok (.iconst 0, 1) := by decide +kernel
theorem dn_d_Mod_commanded_98 : decode dn_c_Mod_commanded 98 = .ok (.aload_n 0, 1) := by decide +kernel
theorem dn_d_Mod_commanded_99 : decode dn_c_Mod_commanded 99 = .ok (.getfield 159, 3) := by decide +kernel
theorem dn_d_Mod_commanded_102 : decode dn_c_Mod_commanded 102 = .ok (.lastore, 1) := by decide +kernel
theorem dn_d_Mod_commanded_103 : decode dn_c_Mod_commanded 103 = .ok (.iconst 0, 1) := by decide +kernel
theorem dn_d_Mod_commanded_104 : decode dn_c_Mod_commanded 104 = .ok (.istore 12, 2) := by decide +kernel
theorem dn_d_Mod_commanded_106 : decode dn_c_Mod_commanded 106 = .ok (.iload 12, 2) := by decide +kernel
theorem dn_d_Mod_commanded_108 : decode dn_c_Mod_commanded 108 = .ok (.iload 10, 2) := by decide +kernel
theorem dn_d_Mod_commanded_110 : decode dn_c_Mod_commanded 110 = .ok (.if_icmp .ge 62, 3) := by decide +kernel
theorem dn_d_Mod_commanded_113 : decode dn_c_Mod_commanded 113 = .ok (.aload_n 0, 1) := by decide +kernel
theorem dn_d_Mod_commanded_114 : decode dn_c_Mod_commanded 114 = .ok (.getfield 20, 3) := by decide +kernel
theorem dn_d_Mod_commanded_117 : decode dn_c_Mod_commanded 117 = .ok (.iload 12, 2) := by decide +kernel
theorem dn_d_Mod_commanded_119 : decode dn_c_Mod_commanded 119 = .ok (.aload_n 0, 1) := by decide +kernel
theorem dn_d_Mod_commanded_120 : decode dn_c_Mod_commanded 120 = .ok (.getfield 153, 3) := by decide +kernel
theorem dn_d_Mod_commanded_123 : decode dn_c_Mod_commanded 123 = .ok (.aload_n 0, 1) := by decide +kernel
theorem dn_d_Mod_commanded_124 : decode dn_c_Mod_commanded 124 = .ok (.getfield 13, 3) := by decide +kernel
theorem dn_d_Mod_commanded_127 : decode dn_c_Mod_commanded 127 = .ok (.bipush 20, 2) := by decide +kernel
theorem dn_d_Mod_commanded_129 : decode dn_c_Mod_commanded 129 = .ok (.aload_n 0, 1) := by decide +kernel
theorem dn_d_Mod_commanded_130 : decode dn_c_Mod_commanded 130 = .ok (.getfield 64, 3) := by decide +kernel
theorem dn_d_Mod_commanded_133 : decode dn_c_Mod_commanded 133 = .ok (.imul, 1) := by decide +kernel
theorem dn_d_Mod_commanded_134 : decode dn_c_Mod_commanded 134 = .ok (.iload 11, 2) := by decide +kernel
theorem dn_d_Mod_commanded_136 : decode dn_c_Mod_commanded 136 = .ok (.iadd, 1) := by decide +kernel
theorem dn_d_Mod_commanded_137 : decode dn_c_Mod_commanded 137 = .ok (.iload 12, 2) := by decide +kernel
theorem dn_d_Mod_commanded_139 : decode dn_c_Mod_commanded 139 = .ok (.iadd, 1) := by decide +kernel
theorem dn_d_Mod_commanded_140 : decode dn_c_Mod_commanded 140 = .ok (.laload, 1) := by decide +kernel
theorem dn_d_Mod_commanded_141 : decode dn_c_Mod_commanded 141 = .ok (.aload_n 0, 1) := by decide +kernel
theorem dn_d_Mod_commanded_142 : decode dn_c_Mod_commanded 142 = .ok (.getfield 159, 3) := by decide +kernel
theorem dn_d_Mod_commanded_145 : decode dn_c_Mod_commanded 145 = .ok (.lxor, 1) := by decide +kernel
theorem dn_d_Mod_commanded_146 : decode dn_c_Mod_commanded 146 = .ok (.invokestatic 94, 3) := by decide +kernel
theorem dn_d_Mod_commanded_149 : decode dn_c_Mod_commanded 149 = .ok (.lastore, 1) := by decide +kernel
theorem dn_d_Mod_commanded_150 : decode dn_c_Mod_commanded 150 = .ok (.aload_n 0, 1) := by decide +kernel
theorem dn_d_Mod_commanded_151 : decode dn_c_Mod_commanded 151 = .ok (.getfield 56, 3) := by decide +kernel
theorem dn_d_Mod_commanded_154 : decode dn_c_Mod_commanded 154 = .ok (.iconst 1, 1) := by decide +kernel
theorem dn_d_Mod_commanded_155 : decode dn_c_Mod_commanded 155 = .ok (.iload 12, 2) := by decide +kernel
theorem dn_d_Mod_commanded_157 : decode dn_c_Mod_commanded 157 = .ok (.iadd, 1) := by decide +kernel
theorem dn_d_Mod_commanded_158 : decode dn_c_Mod_commanded 158 = .ok (.aload_n 0, 1) := by decide +kernel
theorem dn_d_Mod_commanded_159 : decode dn_c_Mod_commanded 159 = .ok (.getfield 20, 3) := by decide +kernel
theorem dn_d_Mod_commanded_162 : decode dn_c_Mod_commanded 162 = .ok (.iload 12, 2) := by decide +kernel
theorem dn_d_Mod_commanded_164 : decode dn_c_Mod_commanded 164 = .ok (.laload, 1) := by decide +kernel
theorem dn_d_Mod_commanded_165 : decode dn_c_Mod_commanded 165 = .ok (.lastore, 1) := by decide +kernel
theorem dn_d_Mod_commanded_166 : decode dn_c_Mod_commanded 166 = .ok (.iinc 12 1, 3) := by decide +kernel
theorem dn_d_Mod_commanded_169 : decode dn_c_Mod_commanded 169 = .ok (.goto (-63), 3) := by decide +kernel
theorem dn_d_Mod_commanded_172 : decode dn_c_Mod_commanded 172 = .ok (.aload_n 0, 1) := by decide +kernel
theorem dn_d_Mod_commanded_173 : decode dn_c_Mod_commanded 173 = .ok (.getfield 20, 3) := by decide +kernel
theorem dn_d_Mod_commanded_176 : decode dn_c_Mod_commanded 176 = .ok (.iload 10, 2) := by decide +kernel
theorem dn_d_Mod_commanded_178 : decode dn_c_Mod_commanded 178 = .ok (.ldc2_w 178, 3) := by decide +kernel
theorem dn_d_Mod_commanded_181 : decode dn_c_Mod_commanded 181 = .ok (.lastore, 1) := by decide +kernel
theorem dn_d_Mod_commanded_182 : decode dn_c_Mod_commanded 182 = .ok (.aload_n 0, 1) := by decide +kernel
theorem dn_d_Mod_commanded_183 : decode dn_c_Mod_commanded 183 = .ok (.getfield 56, 3) := by decide +kernel
theorem dn_d_Mod_commanded_186 : decode dn_c_Mod_commanded 186 = .ok (.iconst 1, 1) := by decide +kernel
theorem dn_d_Mod_commanded_187 : decode dn_c_Mod_commanded 187 = .ok (.iload 10, 2) := by decide +kernel
theorem dn_d_Mod_commanded_189 : decode dn_c_Mod_commanded 189 = .ok (.iadd, 1) := by decide +kernel
theorem dn_d_Mod_commanded_190 : decode dn_c_Mod_commanded 190 = .ok (.ldc2_w 178, 3) := by decide +kernel
theorem dn_d_Mod_commanded_193 : decode dn_c_Mod_commanded 193 = .ok (.lastore, 1) := by decide +kernel
theorem dn_d_Mod_commanded_194 : decode dn_c_Mod_commanded 194 = .ok (.aload_n 0, 1) := by decide +kernel
theorem dn_d_Mod_commanded_195 : decode dn_c_Mod_commanded 195 = .ok (.getfield 20, 3) := by decide +kernel
theorem dn_d_Mod_commanded_198 : decode dn_c_Mod_commanded 198 = .ok (.iload 10, 2) := by decide +kernel
theorem dn_d_Mod_commanded_200 : decode dn_c_Mod_commanded 200 = .ok (.iconst 1, 1) := by decide +kernel
theorem dn_d_Mod_commanded_201 : decode dn_c_Mod_commanded 201 = .ok (.iadd, 1) := by decide +kernel
theorem dn_d_Mod_commanded_202 : decode dn_c_Mod_commanded 202 = .ok (.aload_n 0, 1) := by decide +kernel
theorem dn_d_Mod_commanded_203 : decode dn_c_Mod_commanded 203 = .ok (.aload_n 0, 1) := by decide +kernel
theorem dn_d_Mod_commanded_204 : decode dn_c_Mod_commanded 204 = .ok (.getfield 156, 3) := by decide +kernel
theorem dn_d_Mod_commanded_207 : decode dn_c_Mod_commanded 207 = .ok (.iload 10, 2) := by decide +kernel
theorem dn_d_Mod_commanded_209 : decode dn_c_Mod_commanded 209 = .ok (.iconst 2, 1) := by decide +kernel
theorem dn_d_Mod_commanded_210 : decode dn_c_Mod_commanded 210 = .ok (.iadd, 1) := by decide +kernel
theorem dn_d_Mod_commanded_211 : decode dn_c_Mod_commanded 211 = .ok (.invokevirtual 97, 3) := by decide +kernel
theorem dn_d_Mod_commanded_214 : decode dn_c_Mod_commanded 214 = .ok (.lastore, 1) := by decide +kernel
theorem dn_d_Mod_commanded_215 : decode dn_c_Mod_commanded 215 = .ok (.aload_n 0, 1) := by decide +kernel
theorem dn_d_Mod_commanded_216 : decode dn_c_Mod_commanded 216 = .ok (.iload 10, 2) := by decide +kernel
theorem dn_d_Mod_commanded_218 : decode dn_c_Mod_commanded 218 = .ok (.iconst 2, 1) := by decide +kernel
theorem dn_d_Mod_commanded_219 : decode dn_c_Mod_commanded 219 = .ok (.iadd, 1) := by decide +kernel
theorem dn_d_Mod_commanded_220 : decode dn_c_Mod_commanded 220 = .ok (.putfield 172, 3) := by decide +kernel
theorem dn_d_Mod_commanded_223 : decode dn_c_Mod_commanded 223 = .ok (.iconst 0, 1) := by decide +kernel
theorem dn_d_Mod_commanded_224 : decode dn_c_Mod_commanded 224 = .ok (.ireturn, 1) := by decide +kernel
theorem dn_d_Mod_challenge_0 : decode dn_c_Mod_challenge 0 = .ok (.aload_n 0, 1) := by decide +kernel
theorem dn_d_Mod_challenge_1 : decode dn_c_Mod_challenge 1 = .ok (.iconst 0, 1) := by decide +kernel
theorem dn_d_Mod_challenge_2 : decode dn_c_Mod_challenge 2 = .ok (.putfield 68, 3) := by decide +kernel
theorem dn_d_Mod_challenge_5 : decode dn_c_Mod_challenge 5 = .ok (.aload_n 0, 1) := by decide +kernel
theorem dn_d_Mod_challenge_6 : decode dn_c_Mod_challenge 6 = .ok (.iconst 0, 1) := by decide +kernel
theorem dn_d_Mod_challenge_7 : decode dn_c_Mod_challenge 7 = .ok (.putfield 172, 3) := by decide +kernel
theorem dn_d_Mod_challenge_10 : decode dn_c_Mod_challenge 10 = .ok (.aload_n 0, 1) := by decide +kernel
theorem dn_d_Mod_challenge_11 : decode dn_c_Mod_challenge 11 = .ok (.invokevirtual 180, 3) := by decide +kernel
theorem dn_d_Mod_challenge_14 : decode dn_c_Mod_challenge 14 = .ok (.aload_n 0, 1) := by decide +kernel
theorem dn_d_Mod_challenge_15 : decode dn_c_Mod_challenge 15 = .ok (.getfield 136, 3) := by decide +kernel
theorem dn_d_Mod_challenge_18 : decode dn_c_Mod_challenge 18 = .ok (.lreturn, 1) := by decide +kernel
theorem dn_d_Mod_prove_0 : decode dn_c_Mod_prove 0 = .ok (.aload_n 0, 1) := by decide +kernel
theorem dn_d_Mod_prove_1 : decode dn_c_Mod_prove 1 = .ok (.aload_n 0, 1) := by decide +kernel
theorem dn_d_Mod_prove_2 : decode dn_c_Mod_prove 2 = .ok (.getfield 133, 3) := by decide +kernel
theorem dn_d_Mod_prove_5 : decode dn_c_Mod_prove 5 = .ok (.ifCond .eq 7, 3) := by decide +kernel
theorem dn_d_Mod_prove_8 : decode dn_c_Mod_prove 8 = .ok (.iconst 0, 1) := by decide +kernel
theorem dn_d_Mod_prove_9 : decode dn_c_Mod_prove 9 = .ok (.goto 4, 3) := by decide +kernel
theorem dn_d_Mod_prove_12 : decode dn_c_Mod_prove 12 = .ok (.iconst 1, 1) := by decide +kernel
theorem dn_d_Mod_prove_13 : decode dn_c_Mod_prove 13 = .ok (.putfield 68, 3) := by decide +kernel
theorem dn_d_Mod_prove_16 : decode dn_c_Mod_prove 16 = .ok (.aload_n 0, 1) := by decide +kernel
theorem dn_d_Mod_prove_17 : decode dn_c_Mod_prove 17 = .ok (.getfield 68, 3) := by decide +kernel
theorem dn_d_Mod_prove_20 : decode dn_c_Mod_prove 20 = .ok (.ifCond .eq 5, 3) := by decide +kernel
theorem dn_d_Mod_prove_23 : decode dn_c_Mod_prove 23 = .ok (.lconst 0, 1) := by decide +kernel
theorem dn_d_Mod_prove_24 : decode dn_c_Mod_prove 24 = .ok (.lreturn, 1) := by decide +kernel
theorem dn_d_Mod_prove_25 : decode dn_c_Mod_prove 25 = .ok (.aload_n 0, 1) := by decide +kernel
theorem dn_d_Mod_prove_26 : decode dn_c_Mod_prove 26 = .ok (.getfield 59, 3) := by decide +kernel
theorem dn_d_Mod_prove_29 : decode dn_c_Mod_prove 29 = .ok (.iconst 0, 1) := by decide +kernel
theorem dn_d_Mod_prove_30 : decode dn_c_Mod_prove 30 = .ok (.lload_n 1, 1) := by decide +kernel
theorem dn_d_Mod_prove_31 : decode dn_c_Mod_prove 31 = .ok (.lastore, 1) := by decide +kernel
theorem dn_d_Mod_prove_32 : decode dn_c_Mod_prove 32 = .ok (.aload_n 0, 1) := by decide +kernel
theorem dn_d_Mod_prove_33 : decode dn_c_Mod_prove 33 = .ok (.getfield 59, 3) := by decide +kernel
theorem dn_d_Mod_prove_36 : decode dn_c_Mod_prove 36 = .ok (.iconst 1, 1) := by decide +kernel
theorem dn_d_Mod_prove_37 : decode dn_c_Mod_prove 37 = .ok (.lload_n 3, 1) := by decide +kernel
theorem dn_d_Mod_prove_38 : decode dn_c_Mod_prove 38 = .ok (.lastore, 1) := by decide +kernel
theorem dn_d_Mod_prove_39 : decode dn_c_Mod_prove 39 = .ok (.aload_n 0, 1) := by decide +kernel
theorem dn_d_Mod_prove_40 : decode dn_c_Mod_prove 40 = .ok (.getfield 59, 3) := by decide +kernel
theorem dn_d_Mod_prove_43 : decode dn_c_Mod_prove 43 = .ok (.iconst 2, 1) := by decide +kernel
theorem dn_d_Mod_prove_44 : decode dn_c_Mod_prove 44 = .ok (.lload 5, 2) := by decide +kernel
theorem dn_d_Mod_prove_46 : decode dn_c_Mod_prove 46 = .ok (.lastore, 1) := by decide +kernel
theorem dn_d_Mod_prove_47 : decode dn_c_Mod_prove 47 = .ok (.aload_n 0, 1) := by decide +kernel
theorem dn_d_Mod_prove_48 : decode dn_c_Mod_prove 48 = .ok (.getfield 59, 3) := by decide +kernel
theorem dn_d_Mod_prove_51 : decode dn_c_Mod_prove 51 = .ok (.iconst 3, 1) := by decide +kernel
theorem dn_d_Mod_prove_52 : decode dn_c_Mod_prove 52 = .ok (.lload 7, 2) := by decide +kernel
theorem dn_d_Mod_prove_54 : decode dn_c_Mod_prove 54 = .ok (.lastore, 1) := by decide +kernel
theorem dn_d_Mod_prove_55 : decode dn_c_Mod_prove 55 = .ok (.aload_n 0, 1) := by decide +kernel
theorem dn_d_Mod_prove_56 : decode dn_c_Mod_prove 56 = .ok (.invokevirtual 183, 3) := by decide +kernel
theorem dn_d_Mod_prove_59 : decode dn_c_Mod_prove 59 = .ok (.istore 9, 2) := by decide +kernel
theorem dn_d_Mod_prove_61 : decode dn_c_Mod_prove 61 = .ok (.aload_n 0, 1) := by decide +kernel
theorem dn_d_Mod_prove_62 : decode dn_c_Mod_prove 62 = .ok (.iload 9, 2) := by decide +kernel
theorem dn_d_Mod_prove_64 : decode dn_c_Mod_prove 64 = .ok (.ifCond .eq 7, 3) := by decide +kernel
theorem dn_d_Mod_prove_67 : decode dn_c_Mod_prove 67 = .ok (.iconst 0, 1) := by decide +kernel
theorem dn_d_Mod_prove_68 : decode dn_c_Mod_prove 68 = .ok (.goto 4, 3) := by decide +kernel
theorem dn_d_Mod_prove_71 : decode dn_c_Mod_prove 71 = .ok (.iconst 2, 1) := by decide +kernel
theorem dn_d_Mod_prove_72 : decode dn_c_Mod_prove 72 = .ok (.putfield 68, 3) := by decide +kernel
theorem dn_d_Mod_prove_75 : decode dn_c_Mod_prove 75 = .ok (.iload 9, 2) := by decide +kernel
theorem dn_d_Mod_prove_77 : decode dn_c_Mod_prove 77 = .ok (.ifCond .eq 12, 3) := by decide +kernel
theorem dn_d_Mod_prove_80 : decode dn_c_Mod_prove 80 = .ok (.aload_n 0, 1) := by decide +kernel
theorem dn_d_Mod_prove_81 : decode dn_c_Mod_prove 81 = .ok (.getfield 59, 3) := by decide +kernel
theorem dn_d_Mod_prove_84 : decode dn_c_Mod_prove 84 = .ok (.iconst 3, 1) := by decide +kernel
theorem dn_d_Mod_prove_85 : decode dn_c_Mod_prove 85 = .ok (.laload, 1) := by decide +kernel
theorem dn_d_Mod_prove_86 : decode dn_c_Mod_prove 86 = .ok (.goto 4, 3) := by decide +kernel
theorem dn_d_Mod_prove_89 : decode dn_c_Mod_prove 89 = .ok (.lconst 0, 1) := by decide +kernel
theorem dn_d_Mod_prove_90 : decode dn_c_Mod_prove 90 = .ok (.lreturn, 1) := by decide +kernel
theorem dn_d_Mod_command_0 : decode dn_c_Mod_command 0 = .ok (.aload_n 0, 1) := by decide +kernel
theorem dn_d_Mod_command_1 : decode dn_c_Mod_command 1 = .ok (.aload_n 0, 1) := by decide +kernel
theorem dn_d_Mod_command_2 : decode dn_c_Mod_command 2 = .ok (.iload_n 1, 1) := by decide +kernel
theorem dn_d_Mod_command_3 : decode dn_c_Mod_command 3 = .ok (.i2l, 1) := by decide +kernel
theorem dn_d_Mod_command_4 : decode dn_c_Mod_command 4 = .ok (.lload_n 2, 1) := by decide +kernel
theorem dn_d_Mod_command_5 : decode dn_c_Mod_command 5 = .ok (.lload 4, 2) := by decide +kernel
theorem dn_d_Mod_command_7 : decode dn_c_Mod_command 7 = .ok (.invokevirtual 187, 3) := by decide +kernel
theorem dn_d_Mod_command_10 : decode dn_c_Mod_command 10 = .ok (.putfield 68, 3) := by decide +kernel
theorem dn_d_Mod_command_13 : decode dn_c_Mod_command 13 = .ok (.aload_n 0, 1) := by decide +kernel
theorem dn_d_Mod_command_14 : decode dn_c_Mod_command 14 = .ok (.getfield 172, 3) := by decide +kernel
theorem dn_d_Mod_command_17 : decode dn_c_Mod_command 17 = .ok (.ireturn, 1) := by decide +kernel
theorem dn_d_Mod_answer_0 : decode dn_c_Mod_answer 0 = .ok (.aload_n 0, 1) := by decide +kernel
theorem dn_d_Mod_answer_1 : decode dn_c_Mod_answer 1 = .ok (.iconst 0, 1) := by decide +kernel
theorem dn_d_Mod_answer_2 : decode dn_c_Mod_answer 2 = .ok (.putfield 68, 3) := by decide +kernel
theorem dn_d_Mod_answer_5 : decode dn_c_Mod_answer 5 = .ok (.iload_n 1, 1) := by decide +kernel
theorem dn_d_Mod_answer_6 : decode dn_c_Mod_answer 6 = .ok (.ifCond .lt 11, 3) := by decide +kernel
theorem dn_d_Mod_answer_9 : decode dn_c_Mod_answer 9 = .ok (.iload_n 1, 1) := by decide +kernel
theorem dn_d_Mod_answer_10 : decode dn_c_Mod_answer 10 = .ok (.aload_n 0, 1) := by decide +kernel
theorem dn_d_Mod_answer_11 : decode dn_c_Mod_answer 11 = .ok (.getfield 172, 3) := by decide +kernel
theorem dn_d_Mod_answer_14 : decode dn_c_Mod_answer 14 = .ok (.if_icmp .lt 7, 3) := by decide +kernel
theorem dn_d_Mod_answer_17 : decode dn_c_Mod_answer 17 = .ok (.lconst 0, 1) := by decide +kernel
theorem dn_d_Mod_answer_18 : decode dn_c_Mod_answer 18 = .ok (.goto 9, 3) := by decide +kernel
theorem dn_d_Mod_answer_21 : decode dn_c_Mod_answer 21 = .ok (.aload_n 0, 1) := by decide +kernel
theorem dn_d_Mod_answer_22 : decode dn_c_Mod_answer 22 = .ok (.getfield 20, 3) := by decide +kernel
theorem dn_d_Mod_answer_25 : decode dn_c_Mod_answer 25 = .ok (.iload_n 1, 1) := by decide +kernel
theorem dn_d_Mod_answer_26 : decode dn_c_Mod_answer 26 = .ok (.laload, 1) := by decide +kernel
theorem dn_d_Mod_answer_27 : decode dn_c_Mod_answer 27 = .ok (.lreturn, 1) := by decide +kernel
theorem dn_d_Mod_needed_0 : decode dn_c_Mod_needed 0 = .ok (.aload_n 0, 1) := by decide +kernel
theorem dn_d_Mod_needed_1 : decode dn_c_Mod_needed 1 = .ok (.aload_n 0, 1) := by decide +kernel
theorem dn_d_Mod_needed_2 : decode dn_c_Mod_needed 2 = .ok (.getfield 126, 3) := by decide +kernel
theorem dn_d_Mod_needed_5 : decode dn_c_Mod_needed 5 = .ok (.ifCond .eq 7, 3) := by decide +kernel
theorem dn_d_Mod_needed_8 : decode dn_c_Mod_needed 8 = .ok (.iconst 0, 1) := by decide +kernel
theorem dn_d_Mod_needed_9 : decode dn_c_Mod_needed 9 = .ok (.goto 4, 3) := by decide +kernel
theorem dn_d_Mod_needed_12 : decode dn_c_Mod_needed 12 = .ok (.iconst 1, 1) := by decide +kernel
theorem dn_d_Mod_needed_13 : decode dn_c_Mod_needed 13 = .ok (.putfield 68, 3) := by decide +kernel
theorem dn_d_Mod_needed_16 : decode dn_c_Mod_needed 16 = .ok (.aload_n 0, 1) := by decide +kernel
theorem dn_d_Mod_needed_17 : decode dn_c_Mod_needed 17 = .ok (.getfield 126, 3) := by decide +kernel
theorem dn_d_Mod_needed_20 : decode dn_c_Mod_needed 20 = .ok (.ifCond .eq 23, 3) := by decide +kernel
theorem dn_d_Mod_needed_23 : decode dn_c_Mod_needed 23 = .ok (.aload_n 0, 1) := by decide +kernel
theorem dn_d_Mod_needed_24 : decode dn_c_Mod_needed 24 = .ok (.aload_n 0, 1) := by decide +kernel
theorem dn_d_Mod_needed_25 : decode dn_c_Mod_needed 25 = .ok (.getfield 156, 3) := by decide +kernel
theorem dn_d_Mod_needed_28 : decode dn_c_Mod_needed 28 = .ok (.aload_n 0, 1) := by decide +kernel
theorem dn_d_Mod_needed_29 : decode dn_c_Mod_needed 29 = .ok (.getfield 159, 3) := by decide +kernel
theorem dn_d_Mod_needed_32 : decode dn_c_Mod_needed 32 = .ok (.lconst 1, 1) := by decide +kernel
theorem dn_d_Mod_needed_33 : decode dn_c_Mod_needed 33 = .ok (.ladd, 1) := by decide +kernel
theorem dn_d_Mod_needed_34 : decode dn_c_Mod_needed 34 = .ok (.iload_n 1, 1) := by decide +kernel
theorem dn_d_Mod_needed_35 : decode dn_c_Mod_needed 35 = .ok (.i2l, 1) := by decide +kernel
theorem dn_d_Mod_needed_36 : decode dn_c_Mod_needed 36 = .ok (.lload_n 2, 1) := by decide +kernel
theorem dn_d_Mod_needed_37 : decode dn_c_Mod_needed 37 = .ok (.invokevirtual 146, 3) := by decide +kernel
theorem dn_d_Mod_needed_40 : decode dn_c_Mod_needed 40 = .ok (.goto 4, 3) := by decide +kernel
theorem dn_d_Mod_needed_43 : decode dn_c_Mod_needed 43 = .ok (.lconst 0, 1) := by decide +kernel
theorem dn_d_Mod_needed_44 : decode dn_c_Mod_needed 44 = .ok (.lreturn, 1) := by decide +kernel
theorem dn_d_Mod_hidden_0 : decode dn_c_Mod_hidden 0 = .ok (.aload_n 0, 1) := by decide +kernel
theorem dn_d_Mod_hidden_1 : decode dn_c_Mod_hidden 1 = .ok (.aload_n 0, 1) := by decide +kernel
theorem dn_d_Mod_hidden_2 : decode dn_c_Mod_hidden 2 = .ok (.getfield 126, 3) := by decide +kernel
theorem dn_d_Mod_hidden_5 : decode dn_c_Mod_hidden 5 = .ok (.ifCond .eq 7, 3) := by decide +kernel
theorem dn_d_Mod_hidden_8 : decode dn_c_Mod_hidden 8 = .ok (.iconst 0, 1) := by decide +kernel
theorem dn_d_Mod_hidden_9 : decode dn_c_Mod_hidden 9 = .ok (.goto 4, 3) := by decide +kernel
theorem dn_d_Mod_hidden_12 : decode dn_c_Mod_hidden 12 = .ok (.iconst 1, 1) := by decide +kernel
theorem dn_d_Mod_hidden_13 : decode dn_c_Mod_hidden 13 = .ok (.putfield 68, 3) := by decide +kernel
theorem dn_d_Mod_hidden_16 : decode dn_c_Mod_hidden 16 = .ok (.aload_n 0, 1) := by decide +kernel
theorem dn_d_Mod_hidden_17 : decode dn_c_Mod_hidden 17 = .ok (.getfield 126, 3) := by decide +kernel
theorem dn_d_Mod_hidden_20 : decode dn_c_Mod_hidden 20 = .ok (.ifCond .eq 21, 3) := by decide +kernel
theorem dn_d_Mod_hidden_23 : decode dn_c_Mod_hidden 23 = .ok (.aload_n 0, 1) := by decide +kernel
theorem dn_d_Mod_hidden_24 : decode dn_c_Mod_hidden 24 = .ok (.getfield 153, 3) := by decide +kernel
theorem dn_d_Mod_hidden_27 : decode dn_c_Mod_hidden 27 = .ok (.lload_n 1, 1) := by decide +kernel
theorem dn_d_Mod_hidden_28 : decode dn_c_Mod_hidden 28 = .ok (.invokestatic 94, 3) := by decide +kernel
theorem dn_d_Mod_hidden_31 : decode dn_c_Mod_hidden 31 = .ok (.aload_n 0, 1) := by decide +kernel
theorem dn_d_Mod_hidden_32 : decode dn_c_Mod_hidden 32 = .ok (.getfield 159, 3) := by decide +kernel
theorem dn_d_Mod_hidden_35 : decode dn_c_Mod_hidden 35 = .ok (.lconst 1, 1) := by decide +kernel
theorem dn_d_Mod_hidden_36 : decode dn_c_Mod_hidden 36 = .ok (.ladd, 1) := by decide +kernel
theorem dn_d_Mod_hidden_37 : decode dn_c_Mod_hidden 37 = .ok (.lxor, 1) := by decide +kernel
theorem dn_d_Mod_hidden_38 : decode dn_c_Mod_hidden 38 = .ok (.goto 4, 3) := by decide +kernel
theorem dn_d_Mod_hidden_41 : decode dn_c_Mod_hidden 41 = .ok (.lconst 0, 1) := by decide +kernel
theorem dn_d_Mod_hidden_42 : decode dn_c_Mod_hidden 42 = .ok (.lreturn, 1) := by decide +kernel
theorem dn_d_Mod_chip_0 : decode dn_c_Mod_chip 0 = .ok (.aload_n 0, 1) := by decide +kernel
theorem dn_d_Mod_chip_1 : decode dn_c_Mod_chip 1 = .ok (.iconst 0, 1) := by decide +kernel
theorem dn_d_Mod_chip_2 : decode dn_c_Mod_chip 2 = .ok (.putfield 68, 3) := by decide +kernel
theorem dn_d_Mod_chip_5 : decode dn_c_Mod_chip 5 = .ok (.iload_n 1, 1) := by decide +kernel
theorem dn_d_Mod_chip_6 : decode dn_c_Mod_chip 6 = .ok (.tableswitch 82 0 7 #[46, 59, 72, 82, 82, 82, 82, 77], 46) := by decide +kernel
theorem dn_d_Mod_chip_52 : decode dn_c_Mod_chip 52 = .ok (.aload_n 0, 1) := by decide +kernel
theorem dn_d_Mod_chip_53 : decode dn_c_Mod_chip 53 = .ok (.getfield 126, 3) := by decide +kernel
theorem dn_d_Mod_chip_56 : decode dn_c_Mod_chip 56 = .ok (.ifCond .eq 7, 3) := by decide +kernel
theorem dn_d_Mod_chip_59 : decode dn_c_Mod_chip 59 = .ok (.iconst 1, 1) := by decide +kernel
theorem dn_d_Mod_chip_60 : decode dn_c_Mod_chip 60 = .ok (.goto 4, 3) := by decide +kernel
theorem dn_d_Mod_chip_63 : decode dn_c_Mod_chip 63 = .ok (.iconst 0, 1) := by decide +kernel
theorem dn_d_Mod_chip_64 : decode dn_c_Mod_chip 64 = .ok (.ireturn, 1) := by decide +kernel
theorem dn_d_Mod_chip_65 : decode dn_c_Mod_chip 65 = .ok (.aload_n 0, 1) := by decide +kernel
theorem dn_d_Mod_chip_66 : decode dn_c_Mod_chip 66 = .ok (.getfield 133, 3) := by decide +kernel
theorem dn_d_Mod_chip_69 : decode dn_c_Mod_chip 69 = .ok (.ifCond .eq 7, 3) := by decide +kernel
theorem dn_d_Mod_chip_72 : decode dn_c_Mod_chip 72 = .ok (.iconst 1, 1) := by decide +kernel
theorem dn_d_Mod_chip_73 : decode dn_c_Mod_chip 73 = .ok (.goto 4, 3) := by decide +kernel
theorem dn_d_Mod_chip_76 : decode dn_c_Mod_chip 76 = .ok (.iconst 0, 1) := by decide +kernel
theorem dn_d_Mod_chip_77 : decode dn_c_Mod_chip 77 = .ok (.ireturn, 1) := by decide +kernel
theorem dn_d_Mod_chip_78 : decode dn_c_Mod_chip 78 = .ok (.aload_n 0, 1) := by decide +kernel
theorem dn_d_Mod_chip_79 : decode dn_c_Mod_chip 79 = .ok (.getfield 64, 3) := by decide +kernel
theorem dn_d_Mod_chip_82 : decode dn_c_Mod_chip 82 = .ok (.ireturn, 1) := by decide +kernel
theorem dn_d_Mod_chip_83 : decode dn_c_Mod_chip 83 = .ok (.aload_n 0, 1) := by decide +kernel
theorem dn_d_Mod_chip_84 : decode dn_c_Mod_chip 84 = .ok (.getfield 175, 3) := by decide +kernel
theorem dn_d_Mod_chip_87 : decode dn_c_Mod_chip 87 = .ok (.ireturn, 1) := by decide +kernel
theorem dn_d_Mod_chip_88 : decode dn_c_Mod_chip 88 = .ok (.iload_n 1, 1) := by decide +kernel
theorem dn_d_Mod_chip_89 : decode dn_c_Mod_chip 89 = .ok (.iconst 3, 1) := by decide +kernel
theorem dn_d_Mod_chip_90 : decode dn_c_Mod_chip 90 = .ok (.if_icmp .lt 20, 3) := by decide +kernel
theorem dn_d_Mod_chip_93 : decode dn_c_Mod_chip 93 = .ok (.iload_n 1, 1) := by decide +kernel
theorem dn_d_Mod_chip_94 : decode dn_c_Mod_chip 94 = .ok (.bipush 6, 2) := by decide +kernel
theorem dn_d_Mod_chip_96 : decode dn_c_Mod_chip 96 = .ok (.if_icmp .gt 14, 3) := by decide +kernel
theorem dn_d_Mod_chip_99 : decode dn_c_Mod_chip 99 = .ok (.aload_n 0, 1) := by decide +kernel
theorem dn_d_Mod_chip_100 : decode dn_c_Mod_chip 100 = .ok (.getfield 17, 3) := by decide +kernel
theorem dn_d_Mod_chip_103 : decode dn_c_Mod_chip 103 = .ok (.iload_n 1, 1) := by decide +kernel
theorem dn_d_Mod_chip_104 : decode dn_c_Mod_chip 104 = .ok (.iconst 3, 1) := by decide +kernel
theorem dn_d_Mod_chip_105 : decode dn_c_Mod_chip 105 = .ok (.isub, 1) := by decide +kernel
theorem dn_d_Mod_chip_106 : decode dn_c_Mod_chip 106 = .ok (.iaload, 1) := by decide +kernel
theorem dn_d_Mod_chip_107 : decode dn_c_Mod_chip 107 = .ok (.goto 5, 3) := by decide +kernel
theorem dn_d_Mod_chip_110 : decode dn_c_Mod_chip 110 = .ok (.bipush (-2), 2) := by decide +kernel
theorem dn_d_Mod_chip_112 : decode dn_c_Mod_chip 112 = .ok (.ireturn, 1) := by decide +kernel
theorem dn_d_Mod_sendMail_0 : decode dn_c_Mod_sendMail 0 = .ok (.iconst 0, 1) := by decide +kernel
theorem dn_d_Mod_sendMail_1 : decode dn_c_Mod_sendMail 1 = .ok (.istore_n 2, 1) := by decide +kernel
theorem dn_d_Mod_sendMail_2 : decode dn_c_Mod_sendMail 2 = .ok (.iload_n 2, 1) := by decide +kernel
theorem dn_d_Mod_sendMail_3 : decode dn_c_Mod_sendMail 3 = .ok (.aload_n 0, 1) := by decide +kernel
theorem dn_d_Mod_sendMail_4 : decode dn_c_Mod_sendMail 4 = .ok (.getfield 123, 3) := by decide +kernel
theorem dn_d_Mod_sendMail_7 : decode dn_c_Mod_sendMail 7 = .ok (.if_icmp .ge 52, 3) := by decide +kernel
theorem dn_d_Mod_sendMail_10 : decode dn_c_Mod_sendMail 10 = .ok (.aload_n 0, 1) := by decide +kernel
theorem dn_d_Mod_sendMail_11 : decode dn_c_Mod_sendMail 11 = .ok (.getfield 41, 3) := by decide +kernel
theorem dn_d_Mod_sendMail_14 : decode dn_c_Mod_sendMail 14 = .ok (.iload_n 2, 1) := by decide +kernel
theorem dn_d_Mod_sendMail_15 : decode dn_c_Mod_sendMail 15 = .ok (.iaload, 1) := by decide +kernel
theorem dn_d_Mod_sendMail_16 : decode dn_c_Mod_sendMail 16 = .ok (.aload_n 0, 1) := by decide +kernel
theorem dn_d_Mod_sendMail_17 : decode dn_c_Mod_sendMail 17 = .ok (.getfield 190, 3) := by decide +kernel
theorem dn_d_Mod_sendMail_20 : decode dn_c_Mod_sendMail 20 = .ok (.if_icmp .ne 33, 3) := by decide +kernel
theorem dn_d_Mod_sendMail_23 : decode dn_c_Mod_sendMail 23 = .ok (.aload_n 0, 1) := by decide +kernel
theorem dn_d_Mod_sendMail_24 : decode dn_c_Mod_sendMail 24 = .ok (.getfield 44, 3) := by decide +kernel
theorem dn_d_Mod_sendMail_27 : decode dn_c_Mod_sendMail 27 = .ok (.iload_n 2, 1) := by decide +kernel
theorem dn_d_Mod_sendMail_28 : decode dn_c_Mod_sendMail 28 = .ok (.iaload, 1) := by decide +kernel
theorem dn_d_Mod_sendMail_29 : decode dn_c_Mod_sendMail 29 = .ok (.iload_n 1, 1) := by decide +kernel
theorem dn_d_Mod_sendMail_30 : decode dn_c_Mod_sendMail 30 = .ok (.if_icmp .ge 23, 3) := by decide +kernel
theorem dn_d_Mod_sendMail_33 : decode dn_c_Mod_sendMail 33 = .ok (.aload_n 0, 1) := by decide +kernel
theorem dn_d_Mod_sendMail_34 : decode dn_c_Mod_sendMail 34 = .ok (.getfield 59, 3) := by decide +kernel
theorem dn_d_Mod_sendMail_37 : decode dn_c_Mod_sendMail 37 = .ok (.aload_n 0, 1) := by decide +kernel
theorem dn_d_Mod_sendMail_38 : decode dn_c_Mod_sendMail 38 = .ok (.getfield 44, 3) := by decide +kernel
theorem dn_d_Mod_sendMail_41 : decode dn_c_Mod_sendMail 41 = .ok (.iload_n 2, 1) := by decide +kernel
theorem dn_d_Mod_sendMail_42 : decode dn_c_Mod_sendMail 42 = .ok (.iaload, 1) := by decide +kernel
theorem dn_d_Mod_sendMail_43 : decode dn_c_Mod_sendMail 43 = .ok (.dup2, 1) := by decide +kernel
theorem dn_d_Mod_sendMail_44 : decode dn_c_Mod_sendMail 44 = .ok (.laload, 1) := by decide +kernel
theorem dn_d_Mod_sendMail_45 : decode dn_c_Mod_sendMail 45 = .ok (.aload_n 0, 1) := by decide +kernel
theorem dn_d_Mod_sendMail_46 : decode dn_c_Mod_sendMail 46 = .ok (.getfield 47, 3) := by decide +kernel
theorem dn_d_Mod_sendMail_49 : decode dn_c_Mod_sendMail 49 = .ok (.iload_n 2, 1) := by decide +kernel
theorem dn_d_Mod_sendMail_50 : decode dn_c_Mod_sendMail 50 = .ok (.laload, 1) := by decide +kernel
theorem dn_d_Mod_sendMail_51 : decode dn_c_Mod_sendMail 51 = .ok (.lxor, 1) := by decide +kernel
theorem dn_d_Mod_sendMail_52 : decode dn_c_Mod_sendMail 52 = .ok (.lastore, 1) := by decide +kernel
theorem dn_d_Mod_sendMail_53 : decode dn_c_Mod_sendMail 53 = .ok (.iinc 2 1, 3) := by decide +kernel
theorem dn_d_Mod_sendMail_56 : decode dn_c_Mod_sendMail 56 = .ok (.goto (-54), 3) := by decide +kernel
theorem dn_d_Mod_sendMail_59 : decode dn_c_Mod_sendMail 59 = .ok (.aload_n 0, 1) := by decide +kernel
theorem dn_d_Mod_sendMail_60 : decode dn_c_Mod_sendMail 60 = .ok (.dup, 1) := by decide +kernel
theorem dn_d_Mod_sendMail_61 : decode dn_c_Mod_sendMail 61 = .ok (.getfield 190, 3) := by decide +kernel
theorem dn_d_Mod_sendMail_64 : decode dn_c_Mod_sendMail 64 = .ok (.iconst 1, 1) := by decide +kernel
theorem dn_d_Mod_sendMail_65 : decode dn_c_Mod_sendMail 65 = .ok (.iadd, 1) := by decide +kernel
theorem dn_d_Mod_sendMail_66 : decode dn_c_Mod_sendMail 66 = .ok (.putfield 190, 3) := by decide +kernel
theorem dn_d_Mod_sendMail_69 : decode dn_c_Mod_sendMail 69 = .ok (.return_, 1) := by decide +kernel
theorem dn_d_Mod_proving_0 : decode dn_c_Mod_proving 0 = .ok (.aload_n 0, 1) := by decide +kernel
theorem dn_d_Mod_proving_1 : decode dn_c_Mod_proving 1 = .ok (.invokevirtual 193, 3) := by decide +kernel
theorem dn_d_Mod_proving_4 : decode dn_c_Mod_proving 4 = .ok (.lstore_n 1, 1) := by decide +kernel
theorem dn_d_Mod_proving_5 : decode dn_c_Mod_proving 5 = .ok (.aload_n 0, 1) := by decide +kernel
theorem dn_d_Mod_proving_6 : decode dn_c_Mod_proving 6 = .ok (.lload_n 1, 1) := by decide +kernel
theorem dn_d_Mod_proving_7 : decode dn_c_Mod_proving 7 = .ok (.lconst 1, 1) := by decide +kernel
theorem dn_d_Mod_proving_8 : decode dn_c_Mod_proving 8 = .ok (.invokevirtual 75, 3) := by decide +kernel
theorem dn_d_Mod_proving_11 : decode dn_c_Mod_proving 11 = .ok (.lstore_n 3, 1) := by decide +kernel
theorem dn_d_Mod_proving_12 : decode dn_c_Mod_proving 12 = .ok (.aload_n 0, 1) := by decide +kernel
theorem dn_d_Mod_proving_13 : decode dn_c_Mod_proving 13 = .ok (.lload_n 1, 1) := by decide +kernel
theorem dn_d_Mod_proving_14 : decode dn_c_Mod_proving 14 = .ok (.ldc2_w 144, 3) := by decide +kernel
theorem dn_d_Mod_proving_17 : decode dn_c_Mod_proving 17 = .ok (.invokevirtual 75, 3) := by decide +kernel
theorem dn_d_Mod_proving_20 : decode dn_c_Mod_proving 20 = .ok (.lstore 5, 2) := by decide +kernel
theorem dn_d_Mod_proving_22 : decode dn_c_Mod_proving 22 = .ok (.aload_n 0, 1) := by decide +kernel
theorem dn_d_Mod_proving_23 : decode dn_c_Mod_proving 23 = .ok (.invokevirtual 180, 3) := by decide +kernel
theorem dn_d_Mod_proving_26 : decode dn_c_Mod_proving 26 = .ok (.aload_n 0, 1) := by decide +kernel
theorem dn_d_Mod_proving_27 : decode dn_c_Mod_proving 27 = .ok (.iconst 0, 1) := by decide +kernel
theorem dn_d_Mod_proving_28 : decode dn_c_Mod_proving 28 = .ok (.invokevirtual 196, 3) := by decide +kernel
theorem dn_d_Mod_proving_31 : decode dn_c_Mod_proving 31 = .ok (.aload_n 0, 1) := by decide +kernel
theorem dn_d_Mod_proving_32 : decode dn_c_Mod_proving 32 = .ok (.getfield 59, 3) := by decide +kernel
theorem dn_d_Mod_proving_35 : decode dn_c_Mod_proving 35 = .ok (.iconst 0, 1) := by decide +kernel
theorem dn_d_Mod_proving_36 : decode dn_c_Mod_proving 36 = .ok (.aload_n 0, 1) := by decide +kernel
theorem dn_d_Mod_proving_37 : decode dn_c_Mod_proving 37 = .ok (.getfield 136, 3) := by decide +kernel
theorem dn_d_Mod_proving_40 : decode dn_c_Mod_proving 40 = .ok (.lastore, 1) := by decide +kernel
theorem dn_d_Mod_proving_41 : decode dn_c_Mod_proving 41 = .ok (.aload_n 0, 1) := by decide +kernel
theorem dn_d_Mod_proving_42 : decode dn_c_Mod_proving 42 = .ok (.iconst 1, 1) := by decide +kernel
theorem dn_d_Mod_proving_43 : decode dn_c_Mod_proving 43 = .ok (.invokevirtual 196, 3) := by decide +kernel
theorem dn_d_Mod_proving_46 : decode dn_c_Mod_proving 46 = .ok (.aload_n 0, 1) := by decide +kernel
theorem dn_d_Mod_proving_47 : decode dn_c_Mod_proving 47 = .ok (.getfield 59, 3) := by decide +kernel
theorem dn_d_Mod_proving_50 : decode dn_c_Mod_proving 50 = .ok (.iconst 0, 1) := by decide +kernel
theorem dn_d_Mod_proving_51 : decode dn_c_Mod_proving 51 = .ok (.laload, 1) := by decide +kernel
theorem dn_d_Mod_proving_52 : decode dn_c_Mod_proving 52 = .ok (.lstore 7, 2) := by decide +kernel
theorem dn_d_Mod_proving_54 : decode dn_c_Mod_proving 54 = .ok (.aload_n 0, 1) := by decide +kernel
theorem dn_d_Mod_proving_55 : decode dn_c_Mod_proving 55 = .ok (.getfield 38, 3) := by decide +kernel
theorem dn_d_Mod_proving_58 : decode dn_c_Mod_proving 58 = .ok (.iconst 0, 1) := by decide +kernel
theorem dn_d_Mod_proving_59 : decode dn_c_Mod_proving 59 = .ok (.laload, 1) := by decide +kernel
theorem dn_d_Mod_proving_60 : decode dn_c_Mod_proving 60 = .ok (.lstore 9, 2) := by decide +kernel
theorem dn_d_Mod_proving_62 : decode dn_c_Mod_proving 62 = .ok (.aload_n 0, 1) := by decide +kernel
theorem dn_d_Mod_proving_63 : decode dn_c_Mod_proving 63 = .ok (.getfield 59, 3) := by decide +kernel
theorem dn_d_Mod_proving_66 : decode dn_c_Mod_proving 66 = .ok (.iconst 0, 1) := by decide +kernel
theorem dn_d_Mod_proving_67 : decode dn_c_Mod_proving 67 = .ok (.lload_n 3, 1) := by decide +kernel
theorem dn_d_Mod_proving_68 : decode dn_c_Mod_proving 68 = .ok (.lload 9, 2) := by decide +kernel
theorem dn_d_Mod_proving_70 : decode dn_c_Mod_proving 70 = .ok (.invokestatic 94, 3) := by decide +kernel
theorem dn_d_Mod_proving_73 : decode dn_c_Mod_proving 73 = .ok (.lastore, 1) := by decide +kernel
theorem dn_d_Mod_proving_74 : decode dn_c_Mod_proving 74 = .ok (.aload_n 0, 1) := by decide +kernel
theorem dn_d_Mod_proving_75 : decode dn_c_Mod_proving 75 = .ok (.getfield 59, 3) := by decide +kernel
theorem dn_d_Mod_proving_78 : decode dn_c_Mod_proving 78 = .ok (.iconst 1, 1) := by decide +kernel
theorem dn_d_Mod_proving_79 : decode dn_c_Mod_proving 79 = .ok (.lload_n 3, 1) := by decide +kernel
theorem dn_d_Mod_proving_80 : decode dn_c_Mod_proving 80 = .ok (.lload 7, 2) := by decide +kernel
theorem dn_d_Mod_proving_82 : decode dn_c_Mod_proving 82 = .ok (.aload_n 0, 1) := by decide +kernel
theorem dn_d_Mod_proving_83 : decode dn_c_Mod_proving 83 = .ok (.getfield 59, 3) := by decide +kernel
theorem dn_d_Mod_proving_86 : decode dn_c_Mod_proving 86 = .ok (.iconst 0, 1) := by decide +kernel
theorem dn_d_Mod_proving_87 : decode dn_c_Mod_proving 87 = .ok (.laload, 1) := by decide +kernel
theorem dn_d_Mod_proving_88 : decode dn_c_Mod_proving 88 = .ok (.lxor, 1) := by decide +kernel
theorem dn_d_Mod_proving_89 : decode dn_c_Mod_proving 89 = .ok (.invokestatic 94, 3) := by decide +kernel
theorem dn_d_Mod_proving_92 : decode dn_c_Mod_proving 92 = .ok (.lastore, 1) := by decide +kernel
theorem dn_d_Mod_proving_93 : decode dn_c_Mod_proving 93 = .ok (.aload_n 0, 1) := by decide +kernel
theorem dn_d_Mod_proving_94 : decode dn_c_Mod_proving 94 = .ok (.getfield 59, 3) := by decide +kernel
theorem dn_d_Mod_proving_97 : decode dn_c_Mod_proving 97 = .ok (.iconst 2, 1) := by decide +kernel
theorem dn_d_Mod_proving_98 : decode dn_c_Mod_proving 98 = .ok (.lload_n 3, 1) := by decide +kernel
theorem dn_d_Mod_proving_99 : decode dn_c_Mod_proving 99 = .ok (.aload_n 0, 1) := by decide +kernel
theorem dn_d_Mod_proving_100 : decode dn_c_Mod_proving 100 = .ok (.getfield 38, 3) := by decide +kernel
theorem dn_d_Mod_proving_103 : decode dn_c_Mod_proving 103 = .ok (.iconst 1, 1) := by decide +kernel
theorem dn_d_Mod_proving_104 : decode dn_c_Mod_proving 104 = .ok (.laload, 1) := by decide +kernel
theorem dn_d_Mod_proving_105 : decode dn_c_Mod_proving 105 = .ok (.aload_n 0, 1) := by decide +kernel
theorem dn_d_Mod_proving_106 : decode dn_c_Mod_proving 106 = .ok (.getfield 59, 3) := by decide +kernel
theorem dn_d_Mod_proving_109 : decode dn_c_Mod_proving 109 = .ok (.iconst 1, 1) := by decide +kernel
theorem dn_d_Mod_proving_110 : decode dn_c_Mod_proving 110 = .ok (.laload, 1) := by decide +kernel
theorem dn_d_Mod_proving_111 : decode dn_c_Mod_proving 111 = .ok (.lxor, 1) := by decide +kernel
theorem dn_d_Mod_proving_112 : decode dn_c_Mod_proving 112 = .ok (.invokestatic 94, 3) := by decide +kernel
theorem dn_d_Mod_proving_115 : decode dn_c_Mod_proving 115 = .ok (.lastore, 1) := by decide +kernel
theorem dn_d_Mod_proving_116 : decode dn_c_Mod_proving 116 = .ok (.aload_n 0, 1) := by decide +kernel
theorem dn_d_Mod_proving_117 : decode dn_c_Mod_proving 117 = .ok (.getfield 59, 3) := by decide +kernel
theorem dn_d_Mod_proving_120 : decode dn_c_Mod_proving 120 = .ok (.iconst 3, 1) := by decide +kernel
theorem dn_d_Mod_proving_121 : decode dn_c_Mod_proving 121 = .ok (.aload_n 0, 1) := by decide +kernel
theorem dn_d_Mod_proving_122 : decode dn_c_Mod_proving 122 = .ok (.lload 5, 2) := by decide +kernel
theorem dn_d_Mod_proving_124 : decode dn_c_Mod_proving 124 = .ok (.aload_n 0, 1) := by decide +kernel
theorem dn_d_Mod_proving_125 : decode dn_c_Mod_proving 125 = .ok (.getfield 59, 3) := by decide +kernel
theorem dn_d_Mod_proving_128 : decode dn_c_Mod_proving 128 = .ok (.iconst 0, 1) := by decide +kernel
theorem dn_d_Mod_proving_129 : decode dn_c_Mod_proving 129 = .ok (.laload, 1) := by decide +kernel
theorem dn_d_Mod_proving_130 : decode dn_c_Mod_proving 130 = .ok (.aload_n 0, 1) := by decide +kernel
theorem dn_d_Mod_proving_131 : decode dn_c_Mod_proving 131 = .ok (.getfield 59, 3) := by decide +kernel
theorem dn_d_Mod_proving_134 : decode dn_c_Mod_proving 134 = .ok (.iconst 1, 1) := by decide +kernel
theorem dn_d_Mod_proving_135 : decode dn_c_Mod_proving 135 = .ok (.laload, 1) := by decide +kernel
theorem dn_d_Mod_proving_136 : decode dn_c_Mod_proving 136 = .ok (.aload_n 0, 1) := by decide +kernel
theorem dn_d_Mod_proving_137 : decode dn_c_Mod_proving 137 = .ok (.getfield 59, 3) := by decide +kernel
theorem dn_d_Mod_proving_140 : decode dn_c_Mod_proving 140 = .ok (.iconst 2, 1) := by decide +kernel
theorem dn_d_Mod_proving_141 : decode dn_c_Mod_proving 141 = .ok (.laload, 1) := by decide +kernel
theorem dn_d_Mod_proving_142 : decode dn_c_Mod_proving 142 = .ok (.invokevirtual 146, 3) := by decide +kernel
theorem dn_d_Mod_proving_145 : decode dn_c_Mod_proving 145 = .ok (.lastore, 1) := by decide +kernel
theorem dn_d_Mod_proving_146 : decode dn_c_Mod_proving 146 = .ok (.aload_n 0, 1) := by decide +kernel
theorem dn_d_Mod_proving_147 : decode dn_c_Mod_proving 147 = .ok (.iconst 4, 1) := by decide +kernel
theorem dn_d_Mod_proving_148 : decode dn_c_Mod_proving 148 = .ok (.invokevirtual 196, 3) := by decide +kernel
theorem dn_d_Mod_proving_151 : decode dn_c_Mod_proving 151 = .ok (.aload_n 0, 1) := by decide +kernel
theorem dn_d_Mod_proving_152 : decode dn_c_Mod_proving 152 = .ok (.invokevirtual 183, 3) := by decide +kernel
theorem dn_d_Mod_proving_155 : decode dn_c_Mod_proving 155 = .ok (.istore 11, 2) := by decide +kernel
theorem dn_d_Mod_proving_157 : decode dn_c_Mod_proving 157 = .ok (.aload_n 0, 1) := by decide +kernel
theorem dn_d_Mod_proving_158 : decode dn_c_Mod_proving 158 = .ok (.iload 11, 2) := by decide +kernel
theorem dn_d_Mod_proving_160 : decode dn_c_Mod_proving 160 = .ok (.ifCond .eq 7, 3) := by decide +kernel
theorem dn_d_Mod_proving_163 : decode dn_c_Mod_proving 163 = .ok (.iconst 4, 1) := by decide +kernel
theorem dn_d_Mod_proving_164 : decode dn_c_Mod_proving 164 = .ok (.goto 4, 3) := by decide +kernel
theorem dn_d_Mod_proving_167 : decode dn_c_Mod_proving 167 = .ok (.iconst 0, 1) := by decide +kernel
theorem dn_d_Mod_proving_168 : decode dn_c_Mod_proving 168 = .ok (.invokevirtual 196, 3) := by decide +kernel
theorem dn_d_Mod_proving_171 : decode dn_c_Mod_proving 171 = .ok (.iload 11, 2) := by decide +kernel
theorem dn_d_Mod_proving_173 : decode dn_c_Mod_proving 173 = .ok (.ifCond .ne 5, 3) := by decide +kernel
theorem dn_d_Mod_proving_176 : decode dn_c_Mod_proving 176 = .ok (.iconst 2, 1) := by decide +kernel
theorem dn_d_Mod_proving_177 : decode dn_c_Mod_proving 177 = .ok (.ireturn, 1) := by decide +kernel
theorem dn_d_Mod_proving_178 : decode dn_c_Mod_proving 178 = .ok (.aload_n 0, 1) := by decide +kernel
theorem dn_d_Mod_proving_179 : decode dn_c_Mod_proving 179 = .ok (.lload 5, 2) := by decide +kernel
theorem dn_d_Mod_proving_181 : decode dn_c_Mod_proving 181 = .ok (.aload_n 0, 1) := by decide +kernel
theorem dn_d_Mod_proving_182 : decode dn_c_Mod_proving 182 = .ok (.getfield 59, 3) := by decide +kernel
theorem dn_d_Mod_proving_185 : decode dn_c_Mod_proving 185 = .ok (.iconst 0, 1) := by decide +kernel
theorem dn_d_Mod_proving_186 : decode dn_c_Mod_proving 186 = .ok (.laload, 1) := by decide +kernel
theorem dn_d_Mod_proving_187 : decode dn_c_Mod_proving 187 = .ok (.aload_n 0, 1) := by decide +kernel
theorem dn_d_Mod_proving_188 : decode dn_c_Mod_proving 188 = .ok (.getfield 59, 3) := by decide +kernel
theorem dn_d_Mod_proving_191 : decode dn_c_Mod_proving 191 = .ok (.iconst 1, 1) := by decide +kernel
theorem dn_d_Mod_proving_192 : decode dn_c_Mod_proving 192 = .ok (.laload, 1) := by decide +kernel
theorem dn_d_Mod_proving_193 : decode dn_c_Mod_proving 193 = .ok (.aload_n 0, 1) := by decide +kernel
theorem dn_d_Mod_proving_194 : decode dn_c_Mod_proving 194 = .ok (.getfield 59, 3) := by decide +kernel
theorem dn_d_Mod_proving_197 : decode dn_c_Mod_proving 197 = .ok (.iconst 2, 1) := by decide +kernel
theorem dn_d_Mod_proving_198 : decode dn_c_Mod_proving 198 = .ok (.laload, 1) := by decide +kernel
theorem dn_d_Mod_proving_199 : decode dn_c_Mod_proving 199 = .ok (.invokevirtual 146, 3) := by decide +kernel
theorem dn_d_Mod_proving_202 : decode dn_c_Mod_proving 202 = .ok (.aload_n 0, 1) := by decide +kernel
theorem dn_d_Mod_proving_203 : decode dn_c_Mod_proving 203 = .ok (.getfield 59, 3) := by decide +kernel
theorem dn_d_Mod_proving_206 : decode dn_c_Mod_proving 206 = .ok (.iconst 3, 1) := by decide +kernel
theorem dn_d_Mod_proving_207 : decode dn_c_Mod_proving 207 = .ok (.laload, 1) := by decide +kernel
theorem dn_d_Mod_proving_208 : decode dn_c_Mod_proving 208 = .ok (.lcmp, 1) := by decide +kernel
theorem dn_d_Mod_proving_209 : decode dn_c_Mod_proving 209 = .ok (.ifCond .eq 5, 3) := by decide +kernel
theorem dn_d_Mod_proving_212 : decode dn_c_Mod_proving 212 = .ok (.iconst 3, 1) := by decide +kernel
theorem dn_d_Mod_proving_213 : decode dn_c_Mod_proving 213 = .ok (.ireturn, 1) := by decide +kernel
theorem dn_d_Mod_proving_214 : decode dn_c_Mod_proving 214 = .ok (.lload_n 3, 1) := by decide +kernel
theorem dn_d_Mod_proving_215 : decode dn_c_Mod_proving 215 = .ok (.aload_n 0, 1) := by decide +kernel
theorem dn_d_Mod_proving_216 : decode dn_c_Mod_proving 216 = .ok (.getfield 59, 3) := by decide +kernel
theorem dn_d_Mod_proving_219 : decode dn_c_Mod_proving 219 = .ok (.iconst 0, 1) := by decide +kernel
theorem dn_d_Mod_proving_220 : decode dn_c_Mod_proving 220 = .ok (.laload, 1) := by decide +kernel
theorem dn_d_Mod_proving_221 : decode dn_c_Mod_proving 221 = .ok (.invokestatic 150, 3) := by decide +kernel
theorem dn_d_Mod_proving_224 : decode dn_c_Mod_proving 224 = .ok (.lstore 12, 2) := by decide +kernel
theorem dn_d_Mod_proving_226 : decode dn_c_Mod_proving 226 = .ok (.lload_n 3, 1) := by decide +kernel
theorem dn_d_Mod_proving_227 : decode dn_c_Mod_proving 227 = .ok (.aload_n 0, 1) := by decide +kernel
theorem dn_d_Mod_proving_228 : decode dn_c_Mod_proving 228 = .ok (.getfield 59, 3) := by decide +kernel
theorem dn_d_Mod_proving_231 : decode dn_c_Mod_proving 231 = .ok (.iconst 1, 1) := by decide +kernel
theorem dn_d_Mod_proving_232 : decode dn_c_Mod_proving 232 = .ok (.laload, 1) := by decide +kernel
theorem dn_d_Mod_proving_233 : decode dn_c_Mod_proving 233 = .ok (.invokestatic 150, 3) := by decide +kernel
theorem dn_d_Mod_proving_236 : decode dn_c_Mod_proving 236 = .ok (.aload_n 0, 1) := by decide +kernel
theorem dn_d_Mod_proving_237 : decode dn_c_Mod_proving 237 = .ok (.getfield 59, 3) := by decide +kernel
theorem dn_d_Mod_proving_240 : decode dn_c_Mod_proving 240 = .ok (.iconst 0, 1) := by decide +kernel
theorem dn_d_Mod_proving_241 : decode dn_c_Mod_proving 241 = .ok (.laload, 1) := by decide +kernel
theorem dn_d_Mod_proving_242 : decode dn_c_Mod_proving 242 = .ok (.lxor, 1) := by decide +kernel
theorem dn_d_Mod_proving_243 : decode dn_c_Mod_proving 243 = .ok (.lstore 14, 2) := by decide +kernel
theorem dn_d_Mod_proving_245 : decode dn_c_Mod_proving 245 = .ok (.lload_n 3, 1) := by decide +kernel
theorem dn_d_Mod_proving_246 : decode dn_c_Mod_proving 246 = .ok (.aload_n 0, 1) := by decide +kernel
theorem dn_d_Mod_proving_247 : decode dn_c_Mod_proving 247 = .ok (.getfield 59, 3) := by decide +kernel
theorem dn_d_Mod_proving_250 : decode dn_c_Mod_proving 250 = .ok (.iconst 2, 1) := by decide +kernel
theorem dn_d_Mod_proving_251 : decode dn_c_Mod_proving 251 = .ok (.laload, 1) := by decide +kernel
theorem dn_d_Mod_proving_252 : decode dn_c_Mod_proving 252 = .ok (.invokestatic 150, 3) := by decide +kernel
theorem dn_d_Mod_proving_255 : decode dn_c_Mod_proving 255 = .ok (.aload_n 0, 1) := by decide +kernel
theorem dn_d_Mod_proving_256 : decode dn_c_Mod_proving 256 = .ok (.getfield 59, 3) := by decide +kernel
theorem dn_d_Mod_proving_259 : decode dn_c_Mod_proving 259 = .ok (.iconst 1, 1) := by decide +kernel
theorem dn_d_Mod_proving_260 : decode dn_c_Mod_proving 260 = .ok (.laload, 1) := by decide +kernel
theorem dn_d_Mod_proving_261 : decode dn_c_Mod_proving 261 = .ok (.lxor, 1) := by decide +kernel
theorem dn_d_Mod_proving_262 : decode dn_c_Mod_proving 262 = .ok (.lstore 16, 2) := by decide +kernel
theorem dn_d_Mod_proving_264 : decode dn_c_Mod_proving 264 = .ok (.lload 12, 2) := by decide +kernel
theorem dn_d_Mod_proving_266 : decode dn_c_Mod_proving 266 = .ok (.lload 7, 2) := by decide +kernel
theorem dn_d_Mod_proving_268 : decode dn_c_Mod_proving 268 = .ok (.lcmp, 1) := by decide +kernel
theorem dn_d_Mod_proving_269 : decode dn_c_Mod_proving 269 = .ok (.ifCond .ne 11, 3) := by decide +kernel
theorem dn_d_Mod_proving_272 : decode dn_c_Mod_proving 272 = .ok (.lload 14, 2) := by decide +kernel
theorem dn_d_Mod_proving_274 : decode dn_c_Mod_proving 274 = .ok (.lload 9, 2) := by decide +kernel
theorem dn_d_Mod_proving_276 : decode dn_c_Mod_proving 276 = .ok (.lcmp, 1) := by decide +kernel
theorem dn_d_Mod_proving_277 : decode dn_c_Mod_proving 277 = .ok (.ifCond .eq 5, 3) := by decide +kernel
theorem dn_d_Mod_proving_280 : decode dn_c_Mod_proving 280 = .ok (.iconst 4, 1) := by decide +kernel
theorem dn_d_Mod_proving_281 : decode dn_c_Mod_proving 281 = .ok (.ireturn, 1) := by decide +kernel
theorem dn_d_Mod_proving_282 : decode dn_c_Mod_proving 282 = .ok (.aload_n 0, 1) := by decide +kernel
theorem dn_d_Mod_proving_283 : decode dn_c_Mod_proving 283 = .ok (.getfield 38, 3) := by decide +kernel
theorem dn_d_Mod_proving_286 : decode dn_c_Mod_proving 286 = .ok (.iconst 1, 1) := by decide +kernel
theorem dn_d_Mod_proving_287 : decode dn_c_Mod_proving 287 = .ok (.laload, 1) := by decide +kernel
theorem dn_d_Mod_proving_288 : decode dn_c_Mod_proving 288 = .ok (.lload 16, 2) := by decide +kernel
theorem dn_d_Mod_proving_290 : decode dn_c_Mod_proving 290 = .ok (.lxor, 1) := by decide +kernel
theorem dn_d_Mod_proving_291 : decode dn_c_Mod_proving 291 = .ok (.lstore 18, 2) := by decide +kernel
theorem dn_d_Mod_proving_293 : decode dn_c_Mod_proving 293 = .ok (.aload_n 0, 1) := by decide +kernel
theorem dn_d_Mod_proving_294 : decode dn_c_Mod_proving 294 = .ok (.aload_n 0, 1) := by decide +kernel
theorem dn_d_Mod_proving_295 : decode dn_c_Mod_proving 295 = .ok (.lload 18, 2) := by decide +kernel
theorem dn_d_Mod_proving_297 : decode dn_c_Mod_proving 297 = .ok (.lconst 1, 1) := by decide +kernel
theorem dn_d_Mod_proving_298 : decode dn_c_Mod_proving 298 = .ok (.invokevirtual 75, 3) := by decide +kernel
theorem dn_d_Mod_proving_301 : decode dn_c_Mod_proving 301 = .ok (.putfield 200, 3) := by decide +kernel
theorem dn_d_Mod_proving_304 : decode dn_c_Mod_proving 304 = .ok (.aload_n 0, 1) := by decide +kernel
theorem dn_d_Mod_proving_305 : decode dn_c_Mod_proving 305 = .ok (.aload_n 0, 1) := by decide +kernel
theorem dn_d_Mod_proving_306 : decode dn_c_Mod_proving 306 = .ok (.lload 18, 2) := by decide +kernel
theorem dn_d_Mod_proving_308 : decode dn_c_Mod_proving 308 = .ok (.ldc2_w 144, 3) := by decide +kernel
theorem dn_d_Mod_proving_311 : decode dn_c_Mod_proving 311 = .ok (.invokevirtual 75, 3) := by decide +kernel
theorem dn_d_Mod_proving_314 : decode dn_c_Mod_proving 314 = .ok (.putfield 203, 3) := by decide +kernel
theorem dn_d_Mod_proving_317 : decode dn_c_Mod_proving 317 = .ok (.aload_n 0, 1) := by decide +kernel
theorem dn_d_Mod_proving_318 : decode dn_c_Mod_proving 318 = .ok (.lload 7, 2) := by decide +kernel
theorem dn_d_Mod_proving_320 : decode dn_c_Mod_proving 320 = .ok (.l2i, 1) := by decide +kernel
theorem dn_d_Mod_proving_321 : decode dn_c_Mod_proving 321 = .ok (.lload 9, 2) := by decide +kernel
theorem dn_d_Mod_proving_323 : decode dn_c_Mod_proving 323 = .ok (.l2i, 1) := by decide +kernel
theorem dn_d_Mod_proving_324 : decode dn_c_Mod_proving 324 = .ok (.invokestatic 90, 3) := by decide +kernel
theorem dn_d_Mod_proving_327 : decode dn_c_Mod_proving 327 = .ok (.putfield 206, 3) := by decide +kernel
theorem dn_d_Mod_proving_330 : decode dn_c_Mod_proving 330 = .ok (.iconst 0, 1) := by decide +kernel
theorem dn_d_Mod_proving_331 : decode dn_c_Mod_proving 331 = .ok (.ireturn, 1) := by decide +kernel
theorem dn_d_Mod_asked_0 : decode dn_c_Mod_asked 0 = .ok (.aload_n 0, 1) := by decide +kernel
theorem dn_d_Mod_asked_1 : decode dn_c_Mod_asked 1 = .ok (.dup, 1) := by decide +kernel
theorem dn_d_Mod_asked_2 : decode dn_c_Mod_asked 2 = .ok (.getfield 206, 3) := by decide +kernel
theorem dn_d_Mod_asked_5 : decode dn_c_Mod_asked 5 = .ok (.lconst 1, 1) := by decide +kernel
theorem dn_d_Mod_asked_6 : decode dn_c_Mod_asked 6 = .ok (.ladd, 1) := by decide +kernel
theorem dn_d_Mod_asked_7 : decode dn_c_Mod_asked 7 = .ok (.putfield 206, 3) := by decide +kernel
theorem dn_d_Mod_asked_10 : decode dn_c_Mod_asked 10 = .ok (.aload_n 0, 1) := by decide +kernel
theorem dn_d_Mod_asked_11 : decode dn_c_Mod_asked 11 = .ok (.getfield 59, 3) := by decide +kernel
theorem dn_d_Mod_asked_14 : decode dn_c_Mod_asked 14 = .ok (.iconst 0, 1) := by decide +kernel
theorem dn_d_Mod_asked_15 : decode dn_c_Mod_asked 15 = .ok (.iload_n 1, 1) := by decide +kernel
theorem dn_d_Mod_asked_16 : decode dn_c_Mod_asked 16 = .ok (.i2l, 1) := by decide +kernel
theorem dn_d_Mod_asked_17 : decode dn_c_Mod_asked 17 = .ok (.lastore, 1) := by decide +kernel
theorem dn_d_Mod_asked_18 : decode dn_c_Mod_asked 18 = .ok (.aload_n 0, 1) := by decide +kernel
theorem dn_d_Mod_asked_19 : decode dn_c_Mod_asked 19 = .ok (.getfield 59, 3) := by decide +kernel
theorem dn_d_Mod_asked_22 : decode dn_c_Mod_asked 22 = .ok (.iconst 1, 1) := by decide +kernel
theorem dn_d_Mod_asked_23 : decode dn_c_Mod_asked 23 = .ok (.aload_n 0, 1) := by decide +kernel
theorem dn_d_Mod_asked_24 : decode dn_c_Mod_asked 24 = .ok (.getfield 200, 3) := by decide +kernel
theorem dn_d_Mod_asked_27 : decode dn_c_Mod_asked 27 = .ok (.lload_n 2, 1) := by decide +kernel
theorem dn_d_Mod_asked_28 : decode dn_c_Mod_asked 28 = .ok (.invokestatic 94, 3) := by decide +kernel
theorem dn_d_Mod_asked_31 : decode dn_c_Mod_asked 31 = .ok (.aload_n 0, 1) := by decide +kernel
theorem dn_d_Mod_asked_32 : decode dn_c_Mod_asked 32 = .ok (.getfield 206, 3) := by decide +kernel
theorem dn_d_Mod_asked_35 : decode dn_c_Mod_asked 35 = .ok (.lxor, 1) := by decide +kernel
theorem dn_d_Mod_asked_36 : decode dn_c_Mod_asked 36 = .ok (.lastore, 1) := by decide +kernel
theorem dn_d_Mod_asked_37 : decode dn_c_Mod_asked 37 = .ok (.aload_n 0, 1) := by decide +kernel
theorem dn_d_Mod_asked_38 : decode dn_c_Mod_asked 38 = .ok (.getfield 59, 3) := by decide +kernel
theorem dn_d_Mod_asked_41 : decode dn_c_Mod_asked 41 = .ok (.iconst 2, 1) := by decide +kernel
theorem dn_d_Mod_asked_42 : decode dn_c_Mod_asked 42 = .ok (.aload_n 0, 1) := by decide +kernel
theorem dn_d_Mod_asked_43 : decode dn_c_Mod_asked 43 = .ok (.aload_n 0, 1) := by decide +kernel
theorem dn_d_Mod_asked_44 : decode dn_c_Mod_asked 44 = .ok (.getfield 203, 3) := by decide +kernel
theorem dn_d_Mod_asked_47 : decode dn_c_Mod_asked 47 = .ok (.aload_n 0, 1) := by decide +kernel
theorem dn_d_Mod_asked_48 : decode dn_c_Mod_asked 48 = .ok (.getfield 206, 3) := by decide +kernel
theorem dn_d_Mod_asked_51 : decode dn_c_Mod_asked 51 = .ok (.aload_n 0, 1) := by decide +kernel
theorem dn_d_Mod_asked_52 : decode dn_c_Mod_asked 52 = .ok (.getfield 59, 3) := by decide +kernel
theorem dn_d_Mod_asked_55 : decode dn_c_Mod_asked 55 = .ok (.iconst 0, 1) := by decide +kernel
theorem dn_d_Mod_asked_56 : decode dn_c_Mod_asked 56 = .ok (.laload, 1) := by decide +kernel
theorem dn_d_Mod_asked_57 : decode dn_c_Mod_asked 57 = .ok (.aload_n 0, 1) := by decide +kernel
theorem dn_d_Mod_asked_58 : decode dn_c_Mod_asked 58 = .ok (.getfield 59, 3) := by decide +kernel
theorem dn_d_Mod_asked_61 : decode dn_c_Mod_asked 61 = .ok (.iconst 1, 1) := by decide +kernel
theorem dn_d_Mod_asked_62 : decode dn_c_Mod_asked 62 = .ok (.laload, 1) := by decide +kernel
theorem dn_d_Mod_asked_63 : decode dn_c_Mod_asked 63 = .ok (.invokevirtual 146, 3) := by decide +kernel
theorem dn_d_Mod_asked_66 : decode dn_c_Mod_asked 66 = .ok (.lastore, 1) := by decide +kernel
theorem dn_d_Mod_asked_67 : decode dn_c_Mod_asked 67 = .ok (.aload_n 0, 1) := by decide +kernel
theorem dn_d_Mod_asked_68 : decode dn_c_Mod_asked 68 = .ok (.iconst 3, 1) := by decide +kernel
theorem dn_d_Mod_asked_69 : decode dn_c_Mod_asked 69 = .ok (.invokevirtual 196, 3) := by decide +kernel
theorem dn_d_Mod_asked_72 : decode dn_c_Mod_asked 72 = .ok (.aload_n 0, 1) := by decide +kernel
theorem dn_d_Mod_asked_73 : decode dn_c_Mod_asked 73 = .ok (.aload_n 0, 1) := by decide +kernel
theorem dn_d_Mod_asked_74 : decode dn_c_Mod_asked 74 = .ok (.getfield 59, 3) := by decide +kernel
theorem dn_d_Mod_asked_77 : decode dn_c_Mod_asked 77 = .ok (.iconst 0, 1) := by decide +kernel
theorem dn_d_Mod_asked_78 : decode dn_c_Mod_asked 78 = .ok (.laload, 1) := by decide +kernel
theorem dn_d_Mod_asked_79 : decode dn_c_Mod_asked 79 = .ok (.aload_n 0, 1) := by decide +kernel
theorem dn_d_Mod_asked_80 : decode dn_c_Mod_asked 80 = .ok (.getfield 59, 3) := by decide +kernel
theorem dn_d_Mod_asked_83 : decode dn_c_Mod_asked 83 = .ok (.iconst 1, 1) := by decide +kernel
theorem dn_d_Mod_asked_84 : decode dn_c_Mod_asked 84 = .ok (.laload, 1) := by decide +kernel
theorem dn_d_Mod_asked_85 : decode dn_c_Mod_asked 85 = .ok (.aload_n 0, 1) := by decide +kernel
theorem dn_d_Mod_asked_86 : decode dn_c_Mod_asked 86 = .ok (.getfield 59, 3) := by decide +kernel
theorem dn_d_Mod_asked_89 : decode dn_c_Mod_asked 89 = .ok (.iconst 2, 1) := by decide +kernel
theorem dn_d_Mod_asked_90 : decode dn_c_Mod_asked 90 = .ok (.laload, 1) := by decide +kernel
theorem dn_d_Mod_asked_91 : decode dn_c_Mod_asked 91 = .ok (.invokevirtual 187, 3) := by decide +kernel
theorem dn_d_Mod_asked_94 : decode dn_c_Mod_asked 94 = .ok (.istore 5, 2) := by decide +kernel
theorem dn_d_Mod_asked_96 : decode dn_c_Mod_asked 96 = .ok (.iconst 0, 1) := by decide +kernel
theorem dn_d_Mod_asked_97 : decode dn_c_Mod_asked 97 = .ok (.istore 6, 2) := by decide +kernel
theorem dn_d_Mod_asked_99 : decode dn_c_Mod_asked 99 = .ok (.iload 6, 2) := by decide +kernel
theorem dn_d_Mod_asked_101 : decode dn_c_Mod_asked 101 = .ok (.aload_n 0, 1) := by decide +kernel
theorem dn_d_Mod_asked_102 : decode dn_c_Mod_asked 102 = .ok (.getfield 172, 3) := by decide +kernel
theorem dn_d_Mod_asked_105 : decode dn_c_Mod_asked 105 = .ok (.if_icmp .ge 23, 3) := by decide +kernel
theorem dn_d_Mod_asked_108 : decode dn_c_Mod_asked 108 = .ok (.aload_n 0, 1) := by decide +kernel
theorem dn_d_Mod_asked_109 : decode dn_c_Mod_asked 109 = .ok (.getfield 59, 3) := by decide +kernel
theorem dn_d_Mod_asked_112 : decode dn_c_Mod_asked 112 = .ok (.iload 6, 2) := by decide +kernel
theorem dn_d_Mod_asked_114 : decode dn_c_Mod_asked 114 = .ok (.aload_n 0, 1) := by decide +kernel
theorem dn_d_Mod_asked_115 : decode dn_c_Mod_asked 115 = .ok (.getfield 20, 3) := by decide +kernel
theorem dn_d_Mod_asked_118 : decode dn_c_Mod_asked 118 = .ok (.iload 6, 2) := by decide +kernel
theorem dn_d_Mod_asked_120 : decode dn_c_Mod_asked 120 = .ok (.laload, 1) := by decide +kernel
theorem dn_d_Mod_asked_121 : decode dn_c_Mod_asked 121 = .ok (.lastore, 1) := by decide +kernel
theorem dn_d_Mod_asked_122 : decode dn_c_Mod_asked 122 = .ok (.iinc 6 1, 3) := by decide +kernel
theorem dn_d_Mod_asked_125 : decode dn_c_Mod_asked 125 = .ok (.goto (-26), 3) := by decide +kernel
theorem dn_d_Mod_asked_128 : decode dn_c_Mod_asked 128 = .ok (.aload_n 0, 1) := by decide +kernel
theorem dn_d_Mod_asked_129 : decode dn_c_Mod_asked 129 = .ok (.iload 5, 2) := by decide +kernel
theorem dn_d_Mod_asked_131 : decode dn_c_Mod_asked 131 = .ok (.ifCond .ne 10, 3) := by decide +kernel
theorem dn_d_Mod_asked_134 : decode dn_c_Mod_asked 134 = .ok (.aload_n 0, 1) := by decide +kernel
theorem dn_d_Mod_asked_135 : decode dn_c_Mod_asked 135 = .ok (.getfield 172, 3) := by decide +kernel
theorem dn_d_Mod_asked_138 : decode dn_c_Mod_asked 138 = .ok (.goto 4, 3) := by decide +kernel
theorem dn_d_Mod_asked_141 : decode dn_c_Mod_asked 141 = .ok (.iconst 0, 1) := by decide +kernel
theorem dn_d_Mod_asked_142 : decode dn_c_Mod_asked 142 = .ok (.invokevirtual 196, 3) := by decide +kernel
theorem dn_d_Mod_asked_145 : decode dn_c_Mod_asked 145 = .ok (.iload 5, 2) := by decide +kernel
theorem dn_d_Mod_asked_147 : decode dn_c_Mod_asked 147 = .ok (.ifCond .eq 5, 3) := by decide +kernel
theorem dn_d_Mod_asked_150 : decode dn_c_Mod_asked 150 = .ok (.iconst 5, 1) := by decide +kernel
theorem dn_d_Mod_asked_151 : decode dn_c_Mod_asked 151 = .ok (.ireturn, 1) := by decide +kernel
theorem dn_d_Mod_asked_152 : decode dn_c_Mod_asked 152 = .ok (.aload_n 0, 1) := by decide +kernel
theorem dn_d_Mod_asked_153 : decode dn_c_Mod_asked 153 = .ok (.dup, 1) := by decide +kernel
theorem dn_d_Mod_asked_154 : decode dn_c_Mod_asked 154 = .ok (.getfield 206, 3) := by decide +kernel
theorem dn_d_Mod_asked_157 : decode dn_c_Mod_asked 157 = .ok (.lconst 1, 1) := by decide +kernel
theorem dn_d_Mod_asked_158 : decode dn_c_Mod_asked 158 = .ok (.ladd, 1) := by decide +kernel
theorem dn_d_Mod_asked_159 : decode dn_c_Mod_asked 159 = .ok (.putfield 206, 3) := by decide +kernel
theorem dn_d_Mod_asked_162 : decode dn_c_Mod_asked 162 = .ok (.aload_n 0, 1) := by decide +kernel
theorem dn_d_Mod_asked_163 : decode dn_c_Mod_asked 163 = .ok (.getfield 172, 3) := by decide +kernel
theorem dn_d_Mod_asked_166 : decode dn_c_Mod_asked 166 = .ok (.iload 4, 2) := by decide +kernel
theorem dn_d_Mod_asked_168 : decode dn_c_Mod_asked 168 = .ok (.iconst 2, 1) := by decide +kernel
theorem dn_d_Mod_asked_169 : decode dn_c_Mod_asked 169 = .ok (.iadd, 1) := by decide +kernel
theorem dn_d_Mod_asked_170 : decode dn_c_Mod_asked 170 = .ok (.if_icmp .eq 5, 3) := by decide +kernel
theorem dn_d_Mod_asked_173 : decode dn_c_Mod_asked 173 = .ok (.iconst 3, 1) := by decide +kernel
theorem dn_d_Mod_asked_174 : decode dn_c_Mod_asked 174 = .ok (.ireturn, 1) := by decide +kernel
theorem dn_d_Mod_asked_175 : decode dn_c_Mod_asked 175 = .ok (.aload_n 0, 1) := by decide +kernel
theorem dn_d_Mod_asked_176 : decode dn_c_Mod_asked 176 = .ok (.getfield 56, 3) := by decide +kernel
theorem dn_d_Mod_asked_179 : decode dn_c_Mod_asked 179 = .ok (.iconst 0, 1) := by decide +kernel
theorem dn_d_Mod_asked_180 : decode dn_c_Mod_asked 180 = .ok (.aload_n 0, 1) := by decide +kernel
theorem dn_d_Mod_asked_181 : decode dn_c_Mod_asked 181 = .ok (.getfield 206, 3) := by decide +kernel
theorem dn_d_Mod_asked_184 : decode dn_c_Mod_asked 184 = .ok (.lastore, 1) := by decide +kernel
theorem dn_d_Mod_asked_185 : decode dn_c_Mod_asked 185 = .ok (.iconst 0, 1) := by decide +kernel
theorem dn_d_Mod_asked_186 : decode dn_c_Mod_asked 186 = .ok (.istore 6, 2) := by decide +kernel
theorem dn_d_Mod_asked_188 : decode dn_c_Mod_asked 188 = .ok (.iload 6, 2) := by decide +kernel
theorem dn_d_Mod_asked_190 : decode dn_c_Mod_asked 190 = .ok (.iload 4, 2) := by decide +kernel
theorem dn_d_Mod_asked_192 : decode dn_c_Mod_asked 192 = .ok (.if_icmp .gt 25, 3) := by decide +kernel
theorem dn_d_Mod_asked_195 : decode dn_c_Mod_asked 195 = .ok (.aload_n 0, 1) := by decide +kernel
theorem dn_d_Mod_asked_196 : decode dn_c_Mod_asked 196 = .ok (.getfield 56, 3) := by decide +kernel
theorem dn_d_Mod_asked_199 : decode dn_c_Mod_asked 199 = .ok (.iconst 1, 1) := by decide +kernel
theorem dn_d_Mod_asked_200 : decode dn_c_Mod_asked 200 = .ok (.iload 6, 2) := by decide +kernel
theorem dn_d_Mod_asked_202 : decode dn_c_Mod_asked 202 = .ok (.iadd, 1) := by decide +kernel
theorem dn_d_Mod_asked_203 : decode dn_c_Mod_asked 203 = .ok (.aload_n 0, 1) := by decide +kernel
theorem dn_d_Mod_asked_204 : decode dn_c_Mod_asked 204 = .ok (.getfield 59, 3) := by decide +kernel
theorem dn_d_Mod_asked_207 : decode dn_c_Mod_asked 207 = .ok (.iload 6, 2) := by decide +kernel
theorem dn_d_Mod_asked_209 : decode dn_c_Mod_asked 209 = .ok (.laload, 1) := by decide +kernel
theorem dn_d_Mod_asked_210 : decode dn_c_Mod_asked 210 = .ok (.lastore, 1) := by decide +kernel
theorem dn_d_Mod_asked_211 : decode dn_c_Mod_asked 211 = .ok (.iinc 6 1, 3) := by decide +kernel
theorem dn_d_Mod_asked_214 : decode dn_c_Mod_asked 214 = .ok (.goto (-26), 3) := by decide +kernel
theorem dn_d_Mod_asked_217 : decode dn_c_Mod_asked 217 = .ok (.aload_n 0, 1) := by decide +kernel
theorem dn_d_Mod_asked_218 : decode dn_c_Mod_asked 218 = .ok (.aload_n 0, 1) := by decide +kernel
theorem dn_d_Mod_asked_219 : decode dn_c_Mod_asked 219 = .ok (.getfield 203, 3) := by decide +kernel
theorem dn_d_Mod_asked_222 : decode dn_c_Mod_asked 222 = .ok (.iload 4, 2) := by decide +kernel
theorem dn_d_Mod_asked_224 : decode dn_c_Mod_asked 224 = .ok (.iconst 2, 1) := by decide +kernel
theorem dn_d_Mod_asked_225 : decode dn_c_Mod_asked 225 = .ok (.iadd, 1) := by decide +kernel
theorem dn_d_Mod_asked_226 : decode dn_c_Mod_asked 226 = .ok (.invokevirtual 97, 3) := by decide +kernel
theorem dn_d_Mod_asked_229 : decode dn_c_Mod_asked 229 = .ok (.aload_n 0, 1) := by decide +kernel
theorem dn_d_Mod_asked_230 : decode dn_c_Mod_asked 230 = .ok (.getfield 59, 3) := by decide +kernel
theorem dn_d_Mod_asked_233 : decode dn_c_Mod_asked 233 = .ok (.iload 4, 2) := by decide +kernel
theorem dn_d_Mod_asked_235 : decode dn_c_Mod_asked 235 = .ok (.iconst 1, 1) := by decide +kernel
theorem dn_d_Mod_asked_236 : decode dn_c_Mod_asked 236 = .ok (.iadd, 1) := by decide +kernel
theorem dn_d_Mod_asked_237 : decode dn_c_Mod_asked 237 = .ok (.laload, 1) := by decide +kernel
theorem dn_d_Mod_asked_238 : decode dn_c_Mod_asked 238 = .ok (.lcmp, 1) := by decide +kernel
theorem dn_d_Mod_asked_239 : decode dn_c_Mod_asked 239 = .ok (.ifCond .ne 17, 3) := by decide +kernel
theorem dn_d_Mod_asked_242 : decode dn_c_Mod_asked 242 = .ok (.aload_n 0, 1) := by decide +kernel
theorem dn_d_Mod_asked_243 : decode dn_c_Mod_asked 243 = .ok (.getfield 59, 3) := by decide +kernel
theorem dn_d_Mod_asked_246 : decode dn_c_Mod_asked 246 = .ok (.iload 4, 2) := by decide +kernel
theorem dn_d_Mod_asked_248 : decode dn_c_Mod_asked 248 = .ok (.laload, 1) := by decide +kernel
theorem dn_d_Mod_asked_249 : decode dn_c_Mod_asked 249 = .ok (.ldc2_w 178, 3) := by decide +kernel
theorem dn_d_Mod_asked_252 : decode dn_c_Mod_asked 252 = .ok (.lcmp, 1) := by decide +kernel
theorem dn_d_Mod_asked_253 : decode dn_c_Mod_asked 253 = .ok (.ifCond .eq 7, 3) := by decide +kernel
theorem dn_d_Mod_asked_256 : decode dn_c_Mod_asked 256 = .ok (.iconst 3, 1) := by decide +kernel
theorem dn_d_Mod_asked_257 : decode dn_c_Mod_asked 257 = .ok (.goto 4, 3) := by decide +kernel
theorem dn_d_Mod_asked_260 : decode dn_c_Mod_asked 260 = .ok (.iconst 0, 1) := by decide +kernel
theorem dn_d_Mod_asked_261 : decode dn_c_Mod_asked 261 = .ok (.ireturn, 1) := by decide +kernel
theorem dn_d_Mod_fetched_0 : decode dn_c_Mod_fetched 0 = .ok (.aload_n 0, 1) := by decide +kernel
theorem dn_d_Mod_fetched_1 : decode dn_c_Mod_fetched 1 = .ok (.iconst 1, 1) := by decide +kernel
theorem dn_d_Mod_fetched_2 : decode dn_c_Mod_fetched 2 = .ok (.iload_n 1, 1) := by decide +kernel
theorem dn_d_Mod_fetched_3 : decode dn_c_Mod_fetched 3 = .ok (.i2l, 1) := by decide +kernel
theorem dn_d_Mod_fetched_4 : decode dn_c_Mod_fetched 4 = .ok (.iconst 0, 1) := by decide +kernel
theorem dn_d_Mod_fetched_5 : decode dn_c_Mod_fetched 5 = .ok (.invokevirtual 209, 3) := by decide +kernel
theorem dn_d_Mod_fetched_8 : decode dn_c_Mod_fetched 8 = .ok (.istore_n 2, 1) := by decide +kernel
theorem dn_d_Mod_fetched_9 : decode dn_c_Mod_fetched 9 = .ok (.aload_n 0, 1) := by decide +kernel
theorem dn_d_Mod_fetched_10 : decode dn_c_Mod_fetched 10 = .ok (.getfield 53, 3) := by decide +kernel
theorem dn_d_Mod_fetched_13 : decode dn_c_Mod_fetched 13 = .ok (.iload_n 1, 1) := by decide +kernel
theorem dn_d_Mod_fetched_14 : decode dn_c_Mod_fetched 14 = .ok (.aload_n 0, 1) := by decide +kernel
theorem dn_d_Mod_fetched_15 : decode dn_c_Mod_fetched 15 = .ok (.getfield 17, 3) := by decide +kernel
theorem dn_d_Mod_fetched_18 : decode dn_c_Mod_fetched 18 = .ok (.iload_n 1, 1) := by decide +kernel
theorem dn_d_Mod_fetched_19 : decode dn_c_Mod_fetched 19 = .ok (.iaload, 1) := by decide +kernel
theorem dn_d_Mod_fetched_20 : decode dn_c_Mod_fetched 20 = .ok (.iastore, 1) := by decide +kernel
theorem dn_d_Mod_fetched_21 : decode dn_c_Mod_fetched 21 = .ok (.iconst 0, 1) := by decide +kernel
theorem dn_d_Mod_fetched_22 : decode dn_c_Mod_fetched 22 = .ok (.istore_n 3, 1) := by decide +kernel
theorem dn_d_Mod_fetched_23 : decode dn_c_Mod_fetched 23 = .ok (.iload_n 3, 1) := by decide +kernel
theorem dn_d_Mod_fetched_24 : decode dn_c_Mod_fetched 24 = .ok (.aload_n 0, 1) := by decide +kernel
theorem dn_d_Mod_fetched_25 : decode dn_c_Mod_fetched 25 = .ok (.getfield 17, 3) := by decide +kernel
theorem dn_d_Mod_fetched_28 : decode dn_c_Mod_fetched 28 = .ok (.iload_n 1, 1) := by decide +kernel
theorem dn_d_Mod_fetched_29 : decode dn_c_Mod_fetched 29 = .ok (.iaload, 1) := by decide +kernel
theorem dn_d_Mod_fetched_30 : decode dn_c_Mod_fetched 30 = .ok (.if_icmp .ge 104, 3) := by decide +kernel
theorem dn_d_Mod_fetched_33 : decode dn_c_Mod_fetched 33 = .ok (.iload_n 2, 1) := by decide +kernel
theorem dn_d_Mod_fetched_34 : decode dn_c_Mod_fetched 34 = .ok (.ifCond .ne 100, 3) := by decide +kernel
theorem dn_d_Mod_fetched_37 : decode dn_c_Mod_fetched 37 = .ok (.aload_n 0, 1) := by decide +kernel
theorem dn_d_Mod_fetched_38 : decode dn_c_Mod_fetched 38 = .ok (.getfield 17, 3) := by decide +kernel
theorem dn_d_Mod_fetched_41 : decode dn_c_Mod_fetched 41 = .ok (.iload_n 1, 1) := by decide +kernel
theorem dn_d_Mod_fetched_42 : decode dn_c_Mod_fetched 42 = .ok (.iaload, 1) := by decide +kernel
theorem dn_d_Mod_fetched_43 : decode dn_c_Mod_fetched 43 = .ok (.iload_n 3, 1) := by decide +kernel
theorem dn_d_Mod_fetched_44 : decode dn_c_Mod_fetched 44 = .ok (.isub, 1) := by decide +kernel
theorem dn_d_Mod_fetched_45 : decode dn_c_Mod_fetched 45 = .ok (.iconst 4, 1) := by decide +kernel
theorem dn_d_Mod_fetched_46 : decode dn_c_Mod_fetched 46 = .ok (.if_icmp .ge 14, 3) := by decide +kernel
theorem dn_d_Mod_fetched_49 : decode dn_c_Mod_fetched 49 = .ok (.aload_n 0, 1) := by decide +kernel
theorem dn_d_Mod_fetched_50 : decode dn_c_Mod_fetched 50 = .ok (.getfield 17, 3) := by decide +kernel
theorem dn_d_Mod_fetched_53 : decode dn_c_Mod_fetched 53 = .ok (.iload_n 1, 1) := by decide +kernel
theorem dn_d_Mod_fetched_54 : decode dn_c_Mod_fetched 54 = .ok (.iaload, 1) := by decide +kernel
theorem dn_d_Mod_fetched_55 : decode dn_c_Mod_fetched 55 = .ok (.iload_n 3, 1) := by decide +kernel
theorem dn_d_Mod_fetched_56 : decode dn_c_Mod_fetched 56 = .ok (.isub, 1) := by decide +kernel
theorem dn_d_Mod_fetched_57 : decode dn_c_Mod_fetched 57 = .ok (.goto 4, 3) := by decide +kernel
theorem dn_d_Mod_fetched_60 : decode dn_c_Mod_fetched 60 = .ok (.iconst 4, 1) := by decide +kernel
theorem dn_d_Mod_fetched_61 : decode dn_c_Mod_fetched 61 = .ok (.istore 4, 2) := by decide +kernel
theorem dn_d_Mod_fetched_63 : decode dn_c_Mod_fetched 63 = .ok (.aload_n 0, 1) := by decide +kernel
theorem dn_d_Mod_fetched_64 : decode dn_c_Mod_fetched 64 = .ok (.iconst 2, 1) := by decide +kernel
theorem dn_d_Mod_fetched_65 : decode dn_c_Mod_fetched 65 = .ok (.iload_n 3, 1) := by decide +kernel
theorem dn_d_Mod_fetched_66 : decode dn_c_Mod_fetched 66 = .ok (.bipush 32, 2) := by decide +kernel
theorem dn_d_Mod_fetched_68 : decode dn_c_Mod_fetched 68 = .ok (.iload 4, 2) := by decide +kernel
theorem dn_d_Mod_fetched_70 : decode dn_c_Mod_fetched 70 = .ok (.imul, 1) := by decide +kernel
theorem dn_d_Mod_fetched_71 : decode dn_c_Mod_fetched 71 = .ok (.iadd, 1) := by decide +kernel
theorem dn_d_Mod_fetched_72 : decode dn_c_Mod_fetched 72 = .ok (.i2l, 1) := by decide +kernel
theorem dn_d_Mod_fetched_73 : decode dn_c_Mod_fetched 73 = .ok (.iload 4, 2) := by decide +kernel
theorem dn_d_Mod_fetched_75 : decode dn_c_Mod_fetched 75 = .ok (.invokevirtual 209, 3) := by decide +kernel
theorem dn_d_Mod_fetched_78 : decode dn_c_Mod_fetched 78 = .ok (.istore_n 2, 1) := by decide +kernel
theorem dn_d_Mod_fetched_79 : decode dn_c_Mod_fetched 79 = .ok (.iconst 0, 1) := by decide +kernel
theorem dn_d_Mod_fetched_80 : decode dn_c_Mod_fetched 80 = .ok (.istore 5, 2) := by decide +kernel
theorem dn_d_Mod_fetched_82 : decode dn_c_Mod_fetched 82 = .ok (.iload 5, 2) := by decide +kernel
theorem dn_d_Mod_fetched_84 : decode dn_c_Mod_fetched 84 = .ok (.iload 4, 2) := by decide +kernel
theorem dn_d_Mod_fetched_86 : decode dn_c_Mod_fetched 86 = .ok (.if_icmp .ge 42, 3) := by decide +kernel
theorem dn_d_Mod_fetched_89 : decode dn_c_Mod_fetched 89 = .ok (.aload_n 0, 1) := by decide +kernel
theorem dn_d_Mod_fetched_90 : decode dn_c_Mod_fetched 90 = .ok (.getfield 50, 3) := by decide +kernel
theorem dn_d_Mod_fetched_93 : decode dn_c_Mod_fetched 93 = .ok (.bipush 20, 2) := by decide +kernel
theorem dn_d_Mod_fetched_95 : decode dn_c_Mod_fetched 95 = .ok (.iload_n 1, 1) := by decide +kernel
theorem dn_d_Mod_fetched_96 : decode dn_c_Mod_fetched 96 = .ok (.imul, 1) := by decide +kernel
theorem dn_d_Mod_fetched_97 : decode dn_c_Mod_fetched 97 = .ok (.iload_n 3, 1) := by decide +kernel
theorem dn_d_Mod_fetched_98 : decode dn_c_Mod_fetched 98 = .ok (.iadd, 1) := by decide +kernel
theorem dn_d_Mod_fetched_99 : decode dn_c_Mod_fetched 99 = .ok (.iload 5, 2) := by decide +kernel
theorem dn_d_Mod_fetched_101 : decode dn_c_Mod_fetched 101 = .ok (.iadd, 1) := by decide +kernel
theorem dn_d_Mod_fetched_102 : decode dn_c_Mod_fetched 102 = .ok (.aload_n 0, 1) := by decide +kernel
theorem dn_d_Mod_fetched_103 : decode dn_c_Mod_fetched 103 = .ok (.getfield 200, 3) := by decide +kernel
theorem dn_d_Mod_fetched_106 : decode dn_c_Mod_fetched 106 = .ok (.aload_n 0, 1) := by decide +kernel
theorem dn_d_Mod_fetched_107 : decode dn_c_Mod_fetched 107 = .ok (.getfield 59, 3) := by decide +kernel
theorem dn_d_Mod_fetched_110 : decode dn_c_Mod_fetched 110 = .ok (.iload 5, 2) := by decide +kernel
theorem dn_d_Mod_fetched_112 : decode dn_c_Mod_fetched 112 = .ok (.laload, 1) := by decide +kernel
theorem dn_d_Mod_fetched_113 : decode dn_c_Mod_fetched 113 = .ok (.invokestatic 150, 3) := by decide +kernel
theorem dn_d_Mod_fetched_116 : decode dn_c_Mod_fetched 116 = .ok (.aload_n 0, 1) := by decide +kernel
theorem dn_d_Mod_fetched_117 : decode dn_c_Mod_fetched 117 = .ok (.getfield 206, 3) := by decide +kernel
theorem dn_d_Mod_fetched_120 : decode dn_c_Mod_fetched 120 = .ok (.lxor, 1) := by decide +kernel
theorem dn_d_Mod_fetched_121 : decode dn_c_Mod_fetched 121 = .ok (.lastore, 1) := by decide +kernel
theorem dn_d_Mod_fetched_122 : decode dn_c_Mod_fetched 122 = .ok (.iinc 5 1, 3) := by decide +kernel
theorem dn_d_Mod_fetched_125 : decode dn_c_Mod_fetched 125 = .ok (.goto (-43), 3) := by decide +kernel
theorem dn_d_Mod_fetched_128 : decode dn_c_Mod_fetched 128 = .ok (.iinc 3 4, 3) := by decide +kernel
theorem dn_d_Mod_fetched_131 : decode dn_c_Mod_fetched 131 = .ok (.goto (-108), 3) := by decide +kernel
theorem dn_d_Mod_fetched_134 : decode dn_c_Mod_fetched 134 = .ok (.iload_n 2, 1) := by decide +kernel
theorem dn_d_Mod_fetched_135 : decode dn_c_Mod_fetched 135 = .ok (.ireturn, 1) := by decide +kernel
theorem dn_d_Mod_digestGot_0 : decode dn_c_Mod_digestGot 0 = .ok (.iconst 0, 1) := by decide +kernel
theorem dn_d_Mod_digestGot_1 : decode dn_c_Mod_digestGot 1 = .ok (.istore_n 3, 1) := by decide +kernel
theorem dn_d_Mod_digestGot_2 : decode dn_c_Mod_digestGot 2 = .ok (.iload_n 3, 1) := by decide +kernel
theorem dn_d_Mod_digestGot_3 : decode dn_c_Mod_digestGot 3 = .ok (.iload_n 2, 1) := by decide +kernel
theorem dn_d_Mod_digestGot_4 : decode dn_c_Mod_digestGot 4 = .ok (.if_icmp .ge 26, 3) := by decide +kernel
theorem dn_d_Mod_digestGot_7 : decode dn_c_Mod_digestGot 7 = .ok (.aload_n 0, 1) := by decide +kernel
theorem dn_d_Mod_digestGot_8 : decode dn_c_Mod_digestGot 8 = .ok (.getfield 56, 3) := by decide +kernel
theorem dn_d_Mod_digestGot_11 : decode dn_c_Mod_digestGot 11 = .ok (.iload_n 3, 1) := by decide +kernel
theorem dn_d_Mod_digestGot_12 : decode dn_c_Mod_digestGot 12 = .ok (.aload_n 0, 1) := by decide +kernel
theorem dn_d_Mod_digestGot_13 : decode dn_c_Mod_digestGot 13 = .ok (.getfield 50, 3) := by decide +kernel
theorem dn_d_Mod_digestGot_16 : decode dn_c_Mod_digestGot 16 = .ok (.bipush 20, 2) := by decide +kernel
theorem dn_d_Mod_digestGot_18 : decode dn_c_Mod_digestGot 18 = .ok (.iload_n 1, 1) := by decide +kernel
theorem dn_d_Mod_digestGot_19 : decode dn_c_Mod_digestGot 19 = .ok (.imul, 1) := by decide +kernel
theorem dn_d_Mod_digestGot_20 : decode dn_c_Mod_digestGot 20 = .ok (.iload_n 3, 1) := by decide +kernel
theorem dn_d_Mod_digestGot_21 : decode dn_c_Mod_digestGot 21 = .ok (.iadd, 1) := by decide +kernel
theorem dn_d_Mod_digestGot_22 : decode dn_c_Mod_digestGot 22 = .ok (.laload, 1) := by decide +kernel
theorem dn_d_Mod_digestGot_23 : decode dn_c_Mod_digestGot 23 = .ok (.lastore, 1) := by decide +kernel
theorem dn_d_Mod_digestGot_24 : decode dn_c_Mod_digestGot 24 = .ok (.iinc 3 1, 3) := by decide +kernel
theorem dn_d_Mod_digestGot_27 : decode dn_c_Mod_digestGot 27 = .ok (.goto (-25), 3) := by decide +kernel
theorem dn_d_Mod_digestGot_30 : decode dn_c_Mod_digestGot 30 = .ok (.aload_n 0, 1) := by decide +kernel
theorem dn_d_Mod_digestGot_31 : decode dn_c_Mod_digestGot 31 = .ok (.iload_n 2, 1) := by decide +kernel
theorem dn_d_Mod_digestGot_32 : decode dn_c_Mod_digestGot 32 = .ok (.invokevirtual 79, 3) := by decide +kernel
theorem dn_d_Mod_digestGot_35 : decode dn_c_Mod_digestGot 35 = .ok (.lreturn, 1) := by decide +kernel
theorem dn_d_Mod_power_0 : decode dn_c_Mod_power 0 = .ok (.lconst 1, 1) := by decide +kernel
theorem dn_d_Mod_power_1 : decode dn_c_Mod_power 1 = .ok (.iload_n 3, 1) := by decide +kernel
theorem dn_d_Mod_power_2 : decode dn_c_Mod_power 2 = .ok (.i2l, 1) := by decide +kernel
theorem dn_d_Mod_power_3 : decode dn_c_Mod_power 3 = .ok (.lrem, 1) := by decide +kernel
theorem dn_d_Mod_power_4 : decode dn_c_Mod_power 4 = .ok (.lstore 4, 2) := by decide +kernel
theorem dn_d_Mod_power_6 : decode dn_c_Mod_power 6 = .ok (.bipush 16, 2) := by decide +kernel
theorem dn_d_Mod_power_8 : decode dn_c_Mod_power 8 = .ok (.istore 6, 2) := by decide +kernel
theorem dn_d_Mod_power_10 : decode dn_c_Mod_power 10 = .ok (.iload 6, 2) := by decide +kernel
theorem dn_d_Mod_power_12 : decode dn_c_Mod_power 12 = .ok (.ifCond .lt 43, 3) := by decide +kernel
theorem dn_d_Mod_power_15 : decode dn_c_Mod_power 15 = .ok (.lload 4, 2) := by decide +kernel
theorem dn_d_Mod_power_17 : decode dn_c_Mod_power 17 = .ok (.lload 4, 2) := by decide +kernel
theorem dn_d_Mod_power_19 : decode dn_c_Mod_power 19 = .ok (.lmul, 1) := by decide +kernel
theorem dn_d_Mod_power_20 : decode dn_c_Mod_power 20 = .ok (.iload_n 3, 1) := by decide +kernel
theorem dn_d_Mod_power_21 : decode dn_c_Mod_power 21 = .ok (.i2l, 1) := by decide +kernel
theorem dn_d_Mod_power_22 : decode dn_c_Mod_power 22 = .ok (.lrem, 1) := by decide +kernel
theorem dn_d_Mod_power_23 : decode dn_c_Mod_power 23 = .ok (.lstore 4, 2) := by decide +kernel
theorem dn_d_Mod_power_25 : decode dn_c_Mod_power 25 = .ok (.iload_n 2, 1) := by decide +kernel
theorem dn_d_Mod_power_26 : decode dn_c_Mod_power 26 = .ok (.iload 6, 2) := by decide +kernel
theorem dn_d_Mod_power_28 : decode dn_c_Mod_power 28 = .ok (.ishr, 1) := by decide +kernel
theorem dn_d_Mod_power_29 : decode dn_c_Mod_power 29 = .ok (.iconst 1, 1) := by decide +kernel
theorem dn_d_Mod_power_30 : decode dn_c_Mod_power 30 = .ok (.iand, 1) := by decide +kernel
theorem dn_d_Mod_power_31 : decode dn_c_Mod_power 31 = .ok (.iconst 1, 1) := by decide +kernel
theorem dn_d_Mod_power_32 : decode dn_c_Mod_power 32 = .ok (.if_icmp .ne 13, 3) := by decide +kernel
theorem dn_d_Mod_power_35 : decode dn_c_Mod_power 35 = .ok (.lload 4, 2) := by decide +kernel
theorem dn_d_Mod_power_37 : decode dn_c_Mod_power 37 = .ok (.lload_n 0, 1) := by decide +kernel
theorem dn_d_Mod_power_38 : decode dn_c_Mod_power 38 = .ok (.lmul, 1) := by decide +kernel
theorem dn_d_Mod_power_39 : decode dn_c_Mod_power 39 = .ok (.iload_n 3, 1) := by decide +kernel
theorem dn_d_Mod_power_40 : decode dn_c_Mod_power 40 = .ok (.i2l, 1) := by decide +kernel
theorem dn_d_Mod_power_41 : decode dn_c_Mod_power 41 = .ok (.lrem, 1) := by decide +kernel
theorem dn_d_Mod_power_42 : decode dn_c_Mod_power 42 = .ok (.goto 5, 3) := by decide +kernel
theorem dn_d_Mod_power_45 : decode dn_c_Mod_power 45 = .ok (.lload 4, 2) := by decide +kernel
theorem dn_d_Mod_power_47 : decode dn_c_Mod_power 47 = .ok (.lstore 4, 2) := by decide +kernel
theorem dn_d_Mod_power_49 : decode dn_c_Mod_power 49 = .ok (.iinc 6 (-1), 3) := by decide +kernel
theorem dn_d_Mod_power_52 : decode dn_c_Mod_power 52 = .ok (.goto (-42), 3) := by decide +kernel
theorem dn_d_Mod_power_55 : decode dn_c_Mod_power 55 = .ok (.lload 4, 2) := by decide +kernel
theorem dn_d_Mod_power_57 : decode dn_c_Mod_power 57 = .ok (.lreturn, 1) := by decide +kernel
theorem dn_d_Mod_signature_0 : decode dn_c_Mod_signature 0 = .ok (.iconst 0, 1) := by decide +kernel
theorem dn_d_Mod_signature_1 : decode dn_c_Mod_signature 1 = .ok (.istore_n 1, 1) := by decide +kernel
theorem dn_d_Mod_signature_2 : decode dn_c_Mod_signature 2 = .ok (.iload_n 1, 1) := by decide +kernel
theorem dn_d_Mod_signature_3 : decode dn_c_Mod_signature 3 = .ok (.aload_n 0, 1) := by decide +kernel
theorem dn_d_Mod_signature_4 : decode dn_c_Mod_signature 4 = .ok (.getfield 120, 3) := by decide +kernel
theorem dn_d_Mod_signature_7 : decode dn_c_Mod_signature 7 = .ok (.if_icmp .ge 26, 3) := by decide +kernel
theorem dn_d_Mod_signature_10 : decode dn_c_Mod_signature 10 = .ok (.aload_n 0, 1) := by decide +kernel
theorem dn_d_Mod_signature_11 : decode dn_c_Mod_signature 11 = .ok (.getfield 29, 3) := by decide +kernel
theorem dn_d_Mod_signature_14 : decode dn_c_Mod_signature 14 = .ok (.iload_n 1, 1) := by decide +kernel
theorem dn_d_Mod_signature_15 : decode dn_c_Mod_signature 15 = .ok (.laload, 1) := by decide +kernel
theorem dn_d_Mod_signature_16 : decode dn_c_Mod_signature 16 = .ok (.aload_n 0, 1) := by decide +kernel
theorem dn_d_Mod_signature_17 : decode dn_c_Mod_signature 17 = .ok (.getfield 50, 3) := by decide +kernel
theorem dn_d_Mod_signature_20 : decode dn_c_Mod_signature 20 = .ok (.bipush 62, 2) := by decide +kernel
theorem dn_d_Mod_signature_22 : decode dn_c_Mod_signature 22 = .ok (.laload, 1) := by decide +kernel
theorem dn_d_Mod_signature_23 : decode dn_c_Mod_signature 23 = .ok (.lcmp, 1) := by decide +kernel
theorem dn_d_Mod_signature_24 : decode dn_c_Mod_signature 24 = .ok (.ifCond .eq 9, 3) := by decide +kernel
theorem dn_d_Mod_signature_27 : decode dn_c_Mod_signature 27 = .ok (.iinc 1 1, 3) := by decide +kernel
theorem dn_d_Mod_signature_30 : decode dn_c_Mod_signature 30 = .ok (.goto (-28), 3) := by decide +kernel
theorem dn_d_Mod_signature_33 : decode dn_c_Mod_signature 33 = .ok (.iload_n 1, 1) := by decide +kernel
theorem dn_d_Mod_signature_34 : decode dn_c_Mod_signature 34 = .ok (.aload_n 0, 1) := by decide +kernel
theorem dn_d_Mod_signature_35 : decode dn_c_Mod_signature 35 = .ok (.getfield 120, 3) := by decide +kernel
theorem dn_d_Mod_signature_38 : decode dn_c_Mod_signature 38 = .ok (.if_icmp .ne 6, 3) := by decide +kernel
theorem dn_d_Mod_signature_41 : decode dn_c_Mod_signature 41 = .ok (.bipush 8, 2) := by decide +kernel
theorem dn_d_Mod_signature_43 : decode dn_c_Mod_signature 43 = .ok (.ireturn, 1) := by decide +kernel
theorem dn_d_Mod_signature_44 : decode dn_c_Mod_signature 44 = .ok (.aload_n 0, 1) := by decide +kernel
theorem dn_d_Mod_signature_45 : decode dn_c_Mod_signature 45 = .ok (.getfield 50, 3) := by decide +kernel
theorem dn_d_Mod_signature_48 : decode dn_c_Mod_signature 48 = .ok (.bipush 63, 2) := by decide +kernel
theorem dn_d_Mod_signature_50 : decode dn_c_Mod_signature 50 = .ok (.laload, 1) := by decide +kernel
theorem dn_d_Mod_signature_51 : decode dn_c_Mod_signature 51 = .ok (.lstore_n 2, 1) := by decide +kernel
theorem dn_d_Mod_signature_52 : decode dn_c_Mod_signature 52 = .ok (.aload_n 0, 1) := by decide +kernel
theorem dn_d_Mod_signature_53 : decode dn_c_Mod_signature 53 = .ok (.iconst 3, 1) := by decide +kernel
theorem dn_d_Mod_signature_54 : decode dn_c_Mod_signature 54 = .ok (.iconst 3, 1) := by decide +kernel
theorem dn_d_Mod_signature_55 : decode dn_c_Mod_signature 55 = .ok (.invokevirtual 213, 3) := by decide +kernel
theorem dn_d_Mod_signature_58 : decode dn_c_Mod_signature 58 = .ok (.iconst 1, 1) := by decide +kernel
theorem dn_d_Mod_signature_59 : decode dn_c_Mod_signature 59 = .ok (.lushr, 1) := by decide +kernel
theorem dn_d_Mod_signature_60 : decode dn_c_Mod_signature 60 = .ok (.lstore 4, 2) := by decide +kernel
theorem dn_d_Mod_signature_62 : decode dn_c_Mod_signature 62 = .ok (.lload_n 2, 1) := by decide +kernel
theorem dn_d_Mod_signature_63 : decode dn_c_Mod_signature 63 = .ok (.lconst 0, 1) := by decide +kernel
theorem dn_d_Mod_signature_64 : decode dn_c_Mod_signature 64 = .ok (.lcmp, 1) := by decide +kernel
theorem dn_d_Mod_signature_65 : decode dn_c_Mod_signature 65 = .ok (.ifCond .lt 45, 3) := by decide +kernel
theorem dn_d_Mod_signature_68 : decode dn_c_Mod_signature 68 = .ok (.lload_n 2, 1) := by decide +kernel
theorem dn_d_Mod_signature_69 : decode dn_c_Mod_signature 69 = .ok (.aload_n 0, 1) := by decide +kernel
theorem dn_d_Mod_signature_70 : decode dn_c_Mod_signature 70 = .ok (.getfield 32, 3) := by decide +kernel
theorem dn_d_Mod_signature_73 : decode dn_c_Mod_signature 73 = .ok (.iload_n 1, 1) := by decide +kernel
theorem dn_d_Mod_signature_74 : decode dn_c_Mod_signature 74 = .ok (.iaload, 1) := by decide +kernel
theorem dn_d_Mod_signature_75 : decode dn_c_Mod_signature 75 = .ok (.i2l, 1) := by decide +kernel
theorem dn_d_Mod_signature_76 : decode dn_c_Mod_signature 76 = .ok (.lcmp, 1) := by decide +kernel
theorem dn_d_Mod_signature_77 : decode dn_c_Mod_signature 77 = .ok (.ifCond .ge 33, 3) := by decide +kernel
theorem dn_d_Mod_signature_80 : decode dn_c_Mod_signature 80 = .ok (.lload_n 2, 1) := by decide +kernel
theorem dn_d_Mod_signature_81 : decode dn_c_Mod_signature 81 = .ok (.aload_n 0, 1) := by decide +kernel
theorem dn_d_Mod_signature_82 : decode dn_c_Mod_signature 82 = .ok (.getfield 35, 3) := by decide +kernel
theorem dn_d_Mod_signature_85 : decode dn_c_Mod_signature 85 = .ok (.iload_n 1, 1) := by decide +kernel
theorem dn_d_Mod_signature_86 : decode dn_c_Mod_signature 86 = .ok (.iaload, 1) := by decide +kernel
theorem dn_d_Mod_signature_87 : decode dn_c_Mod_signature 87 = .ok (.aload_n 0, 1) := by decide +kernel
theorem dn_d_Mod_signature_88 : decode dn_c_Mod_signature 88 = .ok (.getfield 32, 3) := by decide +kernel
theorem dn_d_Mod_signature_91 : decode dn_c_Mod_signature 91 = .ok (.iload_n 1, 1) := by decide +kernel
theorem dn_d_Mod_signature_92 : decode dn_c_Mod_signature 92 = .ok (.iaload, 1) := by decide +kernel
theorem dn_d_Mod_signature_93 : decode dn_c_Mod_signature 93 = .ok (.invokestatic 216, 3) := by decide +kernel
theorem dn_d_Mod_signature_96 : decode dn_c_Mod_signature 96 = .ok (.lload 4, 2) := by decide +kernel
theorem dn_d_Mod_signature_98 : decode dn_c_Mod_signature 98 = .ok (.aload_n 0, 1) := by decide +kernel
theorem dn_d_Mod_signature_99 : decode dn_c_Mod_signature 99 = .ok (.getfield 32, 3) := by decide +kernel
theorem dn_d_Mod_signature_102 : decode dn_c_Mod_signature 102 = .ok (.iload_n 1, 1) := by decide +kernel
theorem dn_d_Mod_signature_103 : decode dn_c_Mod_signature 103 = .ok (.iaload, 1) := by decide +kernel
theorem dn_d_Mod_signature_104 : decode dn_c_Mod_signature 104 = .ok (.i2l, 1) := by decide +kernel
theorem dn_d_Mod_signature_105 : decode dn_c_Mod_signature 105 = .ok (.lrem, 1) := by decide +kernel
theorem dn_d_Mod_signature_106 : decode dn_c_Mod_signature 106 = .ok (.lcmp, 1) := by decide +kernel
theorem dn_d_Mod_signature_107 : decode dn_c_Mod_signature 107 = .ok (.ifCond .eq 8, 3) := by decide +kernel
theorem dn_d_Mod_signature_110 : decode dn_c_Mod_signature 110 = .ok (.bipush 9, 2) := by decide +kernel
theorem dn_d_Mod_signature_112 : decode dn_c_Mod_signature 112 = .ok (.goto 4, 3) := by decide +kernel
theorem dn_d_Mod_signature_115 : decode dn_c_Mod_signature 115 = .ok (.iconst 0, 1) := by decide +kernel
theorem dn_d_Mod_signature_116 : decode dn_c_Mod_signature 116 = .ok (.ireturn, 1) := by decide +kernel
theorem dn_d_Mod_judged_0 : decode dn_c_Mod_judged 0 = .ok (.aload_n 0, 1) := by decide +kernel
theorem dn_d_Mod_judged_1 : decode dn_c_Mod_judged 1 = .ok (.getfield 53, 3) := by decide +kernel
theorem dn_d_Mod_judged_4 : decode dn_c_Mod_judged 4 = .ok (.iconst 0, 1) := by decide +kernel
theorem dn_d_Mod_judged_5 : decode dn_c_Mod_judged 5 = .ok (.iaload, 1) := by decide +kernel
theorem dn_d_Mod_judged_6 : decode dn_c_Mod_judged 6 = .ok (.iconst 1, 1) := by decide +kernel
theorem dn_d_Mod_judged_7 : decode dn_c_Mod_judged 7 = .ok (.if_icmp .ne 26, 3) := by decide +kernel
theorem dn_d_Mod_judged_10 : decode dn_c_Mod_judged 10 = .ok (.aload_n 0, 1) := by decide +kernel
theorem dn_d_Mod_judged_11 : decode dn_c_Mod_judged 11 = .ok (.getfield 50, 3) := by decide +kernel
theorem dn_d_Mod_judged_14 : decode dn_c_Mod_judged 14 = .ok (.iconst 0, 1) := by decide +kernel
theorem dn_d_Mod_judged_15 : decode dn_c_Mod_judged 15 = .ok (.laload, 1) := by decide +kernel
theorem dn_d_Mod_judged_16 : decode dn_c_Mod_judged 16 = .ok (.ldc2_w 220, 3) := by decide +kernel
theorem dn_d_Mod_judged_19 : decode dn_c_Mod_judged 19 = .ok (.lcmp, 1) := by decide +kernel
theorem dn_d_Mod_judged_20 : decode dn_c_Mod_judged 20 = .ok (.ifCond .ne 13, 3) := by decide +kernel
theorem dn_d_Mod_judged_23 : decode dn_c_Mod_judged 23 = .ok (.aload_n 0, 1) := by decide +kernel
theorem dn_d_Mod_judged_24 : decode dn_c_Mod_judged 24 = .ok (.getfield 53, 3) := by decide +kernel
theorem dn_d_Mod_judged_27 : decode dn_c_Mod_judged 27 = .ok (.iconst 3, 1) := by decide +kernel
theorem dn_d_Mod_judged_28 : decode dn_c_Mod_judged 28 = .ok (.iaload, 1) := by decide +kernel
theorem dn_d_Mod_judged_29 : decode dn_c_Mod_judged 29 = .ok (.iconst 4, 1) := by decide +kernel
theorem dn_d_Mod_judged_30 : decode dn_c_Mod_judged 30 = .ok (.if_icmp .eq 6, 3) := by decide +kernel
theorem dn_d_Mod_judged_33 : decode dn_c_Mod_judged 33 = .ok (.bipush 6, 2) := by decide +kernel
theorem dn_d_Mod_judged_35 : decode dn_c_Mod_judged 35 = .ok (.ireturn, 1) := by decide +kernel
theorem dn_d_Mod_judged_36 : decode dn_c_Mod_judged 36 = .ok (.aload_n 0, 1) := by decide +kernel
theorem dn_d_Mod_judged_37 : decode dn_c_Mod_judged 37 = .ok (.iconst 1, 1) := by decide +kernel
theorem dn_d_Mod_judged_38 : decode dn_c_Mod_judged 38 = .ok (.aload_n 0, 1) := by decide +kernel
theorem dn_d_Mod_judged_39 : decode dn_c_Mod_judged 39 = .ok (.getfield 53, 3) := by decide +kernel
theorem dn_d_Mod_judged_42 : decode dn_c_Mod_judged 42 = .ok (.iconst 1, 1) := by decide +kernel
theorem dn_d_Mod_judged_43 : decode dn_c_Mod_judged 43 = .ok (.iaload, 1) := by decide +kernel
theorem dn_d_Mod_judged_44 : decode dn_c_Mod_judged 44 = .ok (.invokevirtual 213, 3) := by decide +kernel
theorem dn_d_Mod_judged_47 : decode dn_c_Mod_judged 47 = .ok (.aload_n 0, 1) := by decide +kernel
theorem dn_d_Mod_judged_48 : decode dn_c_Mod_judged 48 = .ok (.getfield 50, 3) := by decide +kernel
theorem dn_d_Mod_judged_51 : decode dn_c_Mod_judged 51 = .ok (.bipush 60, 2) := by decide +kernel
theorem dn_d_Mod_judged_53 : decode dn_c_Mod_judged 53 = .ok (.laload, 1) := by decide +kernel
theorem dn_d_Mod_judged_54 : decode dn_c_Mod_judged 54 = .ok (.lcmp, 1) := by decide +kernel
theorem dn_d_Mod_judged_55 : decode dn_c_Mod_judged 55 = .ok (.ifCond .ne 25, 3) := by decide +kernel
theorem dn_d_Mod_judged_58 : decode dn_c_Mod_judged 58 = .ok (.aload_n 0, 1) := by decide +kernel
theorem dn_d_Mod_judged_59 : decode dn_c_Mod_judged 59 = .ok (.iconst 2, 1) := by decide +kernel
theorem dn_d_Mod_judged_60 : decode dn_c_Mod_judged 60 = .ok (.aload_n 0, 1) := by decide +kernel
theorem dn_d_Mod_judged_61 : decode dn_c_Mod_judged 61 = .ok (.getfield 53, 3) := by decide +kernel
theorem dn_d_Mod_judged_64 : decode dn_c_Mod_judged 64 = .ok (.iconst 2, 1) := by decide +kernel
theorem dn_d_Mod_judged_65 : decode dn_c_Mod_judged 65 = .ok (.iaload, 1) := by decide +kernel
theorem dn_d_Mod_judged_66 : decode dn_c_Mod_judged 66 = .ok (.invokevirtual 213, 3) := by decide +kernel
theorem dn_d_Mod_judged_69 : decode dn_c_Mod_judged 69 = .ok (.aload_n 0, 1) := by decide +kernel
theorem dn_d_Mod_judged_70 : decode dn_c_Mod_judged 70 = .ok (.getfield 50, 3) := by decide +kernel
theorem dn_d_Mod_judged_73 : decode dn_c_Mod_judged 73 = .ok (.bipush 61, 2) := by decide +kernel
theorem dn_d_Mod_judged_75 : decode dn_c_Mod_judged 75 = .ok (.laload, 1) := by decide +kernel
theorem dn_d_Mod_judged_76 : decode dn_c_Mod_judged 76 = .ok (.lcmp, 1) := by decide +kernel
theorem dn_d_Mod_judged_77 : decode dn_c_Mod_judged 77 = .ok (.ifCond .eq 6, 3) := by decide +kernel
theorem dn_d_Mod_judged_80 : decode dn_c_Mod_judged 80 = .ok (.bipush 7, 2) := by decide +kernel
theorem dn_d_Mod_judged_82 : decode dn_c_Mod_judged 82 = .ok (.ireturn, 1) := by decide +kernel
theorem dn_d_Mod_judged_83 : decode dn_c_Mod_judged 83 = .ok (.aload_n 0, 1) := by decide +kernel
theorem dn_d_Mod_judged_84 : decode dn_c_Mod_judged 84 = .ok (.invokevirtual 222, 3) := by decide +kernel
theorem dn_d_Mod_judged_87 : decode dn_c_Mod_judged 87 = .ok (.istore_n 1, 1) := by decide +kernel
theorem dn_d_Mod_judged_88 : decode dn_c_Mod_judged 88 = .ok (.iload_n 1, 1) := by decide +kernel
theorem dn_d_Mod_judged_89 : decode dn_c_Mod_judged 89 = .ok (.ifCond .eq 5, 3) := by decide +kernel
theorem dn_d_Mod_judged_92 : decode dn_c_Mod_judged 92 = .ok (.iload_n 1, 1) := by decide +kernel
theorem dn_d_Mod_judged_93 : decode dn_c_Mod_judged 93 = .ok (.ireturn, 1) := by decide +kernel
theorem dn_d_Mod_judged_94 : decode dn_c_Mod_judged 94 = .ok (.aload_n 0, 1) := by decide +kernel
theorem dn_d_Mod_judged_95 : decode dn_c_Mod_judged 95 = .ok (.getfield 53, 3) := by decide +kernel
theorem dn_d_Mod_judged_98 : decode dn_c_Mod_judged 98 = .ok (.iconst 1, 1) := by decide +kernel
theorem dn_d_Mod_judged_99 : decode dn_c_Mod_judged 99 = .ok (.iaload, 1) := by decide +kernel
theorem dn_d_Mod_judged_100 : decode dn_c_Mod_judged 100 = .ok (.iconst 3, 1) := by decide +kernel
theorem dn_d_Mod_judged_101 : decode dn_c_Mod_judged 101 = .ok (.if_icmp .ne 7, 3) := by decide +kernel
theorem dn_d_Mod_judged_104 : decode dn_c_Mod_judged 104 = .ok (.iconst 1, 1) := by decide +kernel
theorem dn_d_Mod_judged_105 : decode dn_c_Mod_judged 105 = .ok (.goto 4, 3) := by decide +kernel
theorem dn_d_Mod_judged_108 : decode dn_c_Mod_judged 108 = .ok (.iconst 0, 1) := by decide +kernel
theorem dn_d_Mod_judged_109 : decode dn_c_Mod_judged 109 = .ok (.istore_n 2, 1) := by decide +kernel
theorem dn_d_Mod_judged_110 : decode dn_c_Mod_judged 110 = .ok (.iconst 0, 1) := by decide +kernel
theorem dn_d_Mod_judged_111 : decode dn_c_Mod_judged 111 = .ok (.istore_n 3, 1) := by decide +kernel
theorem dn_d_Mod_judged_112 : decode dn_c_Mod_judged 112 = .ok (.iload_n 3, 1) := by decide +kernel
theorem dn_d_Mod_judged_113 : decode dn_c_Mod_judged 113 = .ok (.iconst 3, 1) := by decide +kernel
theorem dn_d_Mod_judged_114 : decode dn_c_Mod_judged 114 = .ok (.if_icmp .ge 37, 3) := by decide +kernel
theorem dn_d_Mod_judged_117 : decode dn_c_Mod_judged 117 = .ok (.iload_n 2, 1) := by decide +kernel
theorem dn_d_Mod_judged_118 : decode dn_c_Mod_judged 118 = .ok (.ifCond .eq 25, 3) := by decide +kernel
theorem dn_d_Mod_judged_121 : decode dn_c_Mod_judged 121 = .ok (.aload_n 0, 1) := by decide +kernel
theorem dn_d_Mod_judged_122 : decode dn_c_Mod_judged 122 = .ok (.getfield 50, 3) := by decide +kernel
theorem dn_d_Mod_judged_125 : decode dn_c_Mod_judged 125 = .ok (.bipush 20, 2) := by decide +kernel
theorem dn_d_Mod_judged_127 : decode dn_c_Mod_judged 127 = .ok (.iload_n 3, 1) := by decide +kernel
theorem dn_d_Mod_judged_128 : decode dn_c_Mod_judged 128 = .ok (.iadd, 1) := by decide +kernel
theorem dn_d_Mod_judged_129 : decode dn_c_Mod_judged 129 = .ok (.laload, 1) := by decide +kernel
theorem dn_d_Mod_judged_130 : decode dn_c_Mod_judged 130 = .ok (.aload_n 0, 1) := by decide +kernel
theorem dn_d_Mod_judged_131 : decode dn_c_Mod_judged 131 = .ok (.iload_n 3, 1) := by decide +kernel
theorem dn_d_Mod_judged_132 : decode dn_c_Mod_judged 132 = .ok (.invokevirtual 111, 3) := by decide +kernel
theorem dn_d_Mod_judged_135 : decode dn_c_Mod_judged 135 = .ok (.lcmp, 1) := by decide +kernel
theorem dn_d_Mod_judged_136 : decode dn_c_Mod_judged 136 = .ok (.ifCond .ne 7, 3) := by decide +kernel
theorem dn_d_Mod_judged_139 : decode dn_c_Mod_judged 139 = .ok (.iconst 1, 1) := by decide +kernel
theorem dn_d_Mod_judged_140 : decode dn_c_Mod_judged 140 = .ok (.goto 4, 3) := by decide +kernel
theorem dn_d_Mod_judged_143 : decode dn_c_Mod_judged 143 = .ok (.iconst 0, 1) := by decide +kernel
theorem dn_d_Mod_judged_144 : decode dn_c_Mod_judged 144 = .ok (.istore_n 2, 1) := by decide +kernel
theorem dn_d_Mod_judged_145 : decode dn_c_Mod_judged 145 = .ok (.iinc 3 1, 3) := by decide +kernel
theorem dn_d_Mod_judged_148 : decode dn_c_Mod_judged 148 = .ok (.goto (-36), 3) := by decide +kernel
theorem dn_d_Mod_judged_151 : decode dn_c_Mod_judged 151 = .ok (.iload_n 2, 1) := by decide +kernel
theorem dn_d_Mod_judged_152 : decode dn_c_Mod_judged 152 = .ok (.ifCond .eq 7, 3) := by decide +kernel
theorem dn_d_Mod_judged_155 : decode dn_c_Mod_judged 155 = .ok (.iconst 0, 1) := by decide +kernel
theorem dn_d_Mod_judged_156 : decode dn_c_Mod_judged 156 = .ok (.goto 5, 3) := by decide +kernel
theorem dn_d_Mod_judged_159 : decode dn_c_Mod_judged 159 = .ok (.bipush 10, 2) := by decide +kernel
theorem dn_d_Mod_judged_161 : decode dn_c_Mod_judged 161 = .ok (.ireturn, 1) := by decide +kernel
theorem dn_d_Mod_result_0 : decode dn_c_Mod_result 0 = .ok (.iconst 0, 1) := by decide +kernel
theorem dn_d_Mod_result_1 : decode dn_c_Mod_result 1 = .ok (.istore_n 1, 1) := by decide +kernel
theorem dn_d_Mod_result_2 : decode dn_c_Mod_result 2 = .ok (.iload_n 1, 1) := by decide +kernel
theorem dn_d_Mod_result_3 : decode dn_c_Mod_result 3 = .ok (.iconst 3, 1) := by decide +kernel
theorem dn_d_Mod_result_4 : decode dn_c_Mod_result 4 = .ok (.if_icmp .ge 33, 3) := by decide +kernel
theorem dn_d_Mod_result_7 : decode dn_c_Mod_result 7 = .ok (.aload_n 0, 1) := by decide +kernel
theorem dn_d_Mod_result_8 : decode dn_c_Mod_result 8 = .ok (.getfield 23, 3) := by decide +kernel
theorem dn_d_Mod_result_11 : decode dn_c_Mod_result 11 = .ok (.iload_n 1, 1) := by decide +kernel
theorem dn_d_Mod_result_12 : decode dn_c_Mod_result 12 = .ok (.iaload, 1) := by decide +kernel
theorem dn_d_Mod_result_13 : decode dn_c_Mod_result 13 = .ok (.iload_n 1, 1) := by decide +kernel
theorem dn_d_Mod_result_14 : decode dn_c_Mod_result 14 = .ok (.invokestatic 107, 3) := by decide +kernel
theorem dn_d_Mod_result_17 : decode dn_c_Mod_result 17 = .ok (.invokestatic 101, 3) := by decide +kernel
theorem dn_d_Mod_result_20 : decode dn_c_Mod_result 20 = .ok (.aload_n 0, 1) := by decide +kernel
theorem dn_d_Mod_result_21 : decode dn_c_Mod_result 21 = .ok (.getfield 26, 3) := by decide +kernel
theorem dn_d_Mod_result_24 : decode dn_c_Mod_result 24 = .ok (.iload_n 1, 1) := by decide +kernel
theorem dn_d_Mod_result_25 : decode dn_c_Mod_result 25 = .ok (.iaload, 1) := by decide +kernel
theorem dn_d_Mod_result_26 : decode dn_c_Mod_result 26 = .ok (.if_icmp .eq 5, 3) := by decide +kernel
theorem dn_d_Mod_result_29 : decode dn_c_Mod_result 29 = .ok (.iconst 1, 1) := by decide +kernel
theorem dn_d_Mod_result_30 : decode dn_c_Mod_result 30 = .ok (.ireturn, 1) := by decide +kernel
theorem dn_d_Mod_result_31 : decode dn_c_Mod_result 31 = .ok (.iinc 1 1, 3) := by decide +kernel
theorem dn_d_Mod_result_34 : decode dn_c_Mod_result 34 = .ok (.goto (-32), 3) := by decide +kernel
theorem dn_d_Mod_result_37 : decode dn_c_Mod_result 37 = .ok (.aload_n 0, 1) := by decide +kernel
theorem dn_d_Mod_result_38 : decode dn_c_Mod_result 38 = .ok (.invokevirtual 226, 3) := by decide +kernel
theorem dn_d_Mod_result_41 : decode dn_c_Mod_result 41 = .ok (.istore_n 1, 1) := by decide +kernel
theorem dn_d_Mod_result_42 : decode dn_c_Mod_result 42 = .ok (.iload_n 1, 1) := by decide +kernel
theorem dn_d_Mod_result_43 : decode dn_c_Mod_result 43 = .ok (.ifCond .ne 11, 3) := by decide +kernel
theorem dn_d_Mod_result_46 : decode dn_c_Mod_result 46 = .ok (.aload_n 0, 1) := by decide +kernel
theorem dn_d_Mod_result_47 : decode dn_c_Mod_result 47 = .ok (.iconst 3, 1) := by decide +kernel
theorem dn_d_Mod_result_48 : decode dn_c_Mod_result 48 = .ok (.invokevirtual 229, 3) := by decide +kernel
theorem dn_d_Mod_result_51 : decode dn_c_Mod_result 51 = .ok (.goto 4, 3) := by decide +kernel
theorem dn_d_Mod_result_54 : decode dn_c_Mod_result 54 = .ok (.iload_n 1, 1) := by decide +kernel
theorem dn_d_Mod_result_55 : decode dn_c_Mod_result 55 = .ok (.istore_n 1, 1) := by decide +kernel
theorem dn_d_Mod_result_56 : decode dn_c_Mod_result 56 = .ok (.iconst 0, 1) := by decide +kernel
theorem dn_d_Mod_result_57 : decode dn_c_Mod_result 57 = .ok (.istore_n 2, 1) := by decide +kernel
theorem dn_d_Mod_result_58 : decode dn_c_Mod_result 58 = .ok (.iload_n 2, 1) := by decide +kernel
theorem dn_d_Mod_result_59 : decode dn_c_Mod_result 59 = .ok (.iconst 3, 1) := by decide +kernel
theorem dn_d_Mod_result_60 : decode dn_c_Mod_result 60 = .ok (.if_icmp .ge 19, 3) := by decide +kernel
theorem dn_d_Mod_result_63 : decode dn_c_Mod_result 63 = .ok (.iload_n 1, 1) := by decide +kernel
theorem dn_d_Mod_result_64 : decode dn_c_Mod_result 64 = .ok (.ifCond .ne 15, 3) := by decide +kernel
theorem dn_d_Mod_result_67 : decode dn_c_Mod_result 67 = .ok (.aload_n 0, 1) := by decide +kernel
theorem dn_d_Mod_result_68 : decode dn_c_Mod_result 68 = .ok (.iload_n 2, 1) := by decide +kernel
theorem dn_d_Mod_result_69 : decode dn_c_Mod_result 69 = .ok (.invokevirtual 229, 3) := by decide +kernel
theorem dn_d_Mod_result_72 : decode dn_c_Mod_result 72 = .ok (.istore_n 1, 1) := by decide +kernel
theorem dn_d_Mod_result_73 : decode dn_c_Mod_result 73 = .ok (.iinc 2 1, 3) := by decide +kernel
theorem dn_d_Mod_result_76 : decode dn_c_Mod_result 76 = .ok (.goto (-18), 3) := by decide +kernel
theorem dn_d_Mod_result_79 : decode dn_c_Mod_result 79 = .ok (.iload_n 1, 1) := by decide +kernel
theorem dn_d_Mod_result_80 : decode dn_c_Mod_result 80 = .ok (.ifCond .ne 10, 3) := by decide +kernel
theorem dn_d_Mod_result_83 : decode dn_c_Mod_result 83 = .ok (.aload_n 0, 1) := by decide +kernel
theorem dn_d_Mod_result_84 : decode dn_c_Mod_result 84 = .ok (.invokevirtual 232, 3) := by decide +kernel
theorem dn_d_Mod_result_87 : decode dn_c_Mod_result 87 = .ok (.goto 4, 3) := by decide +kernel
theorem dn_d_Mod_result_90 : decode dn_c_Mod_result 90 = .ok (.iload_n 1, 1) := by decide +kernel
theorem dn_d_Mod_result_91 : decode dn_c_Mod_result 91 = .ok (.ireturn, 1) := by decide +kernel
theorem dn_d_Mod_inspect_0 : decode dn_c_Mod_inspect 0 = .ok (.aload_n 0, 1) := by decide +kernel
theorem dn_d_Mod_inspect_1 : decode dn_c_Mod_inspect 1 = .ok (.iconst 0, 1) := by decide +kernel
theorem dn_d_Mod_inspect_2 : decode dn_c_Mod_inspect 2 = .ok (.putfield 68, 3) := by decide +kernel
theorem dn_d_Mod_inspect_5 : decode dn_c_Mod_inspect 5 = .ok (.aload_n 0, 1) := by decide +kernel
theorem dn_d_Mod_inspect_6 : decode dn_c_Mod_inspect 6 = .ok (.invokevirtual 130, 3) := by decide +kernel
theorem dn_d_Mod_inspect_9 : decode dn_c_Mod_inspect 9 = .ok (.aload_n 0, 1) := by decide +kernel
theorem dn_d_Mod_inspect_10 : decode dn_c_Mod_inspect 10 = .ok (.iconst 0, 1) := by decide +kernel
theorem dn_d_Mod_inspect_11 : decode dn_c_Mod_inspect 11 = .ok (.putfield 133, 3) := by decide +kernel
theorem dn_d_Mod_inspect_14 : decode dn_c_Mod_inspect 14 = .ok (.aload_n 0, 1) := by decide +kernel
theorem dn_d_Mod_inspect_15 : decode dn_c_Mod_inspect 15 = .ok (.iconst 0, 1) := by decide +kernel
theorem dn_d_Mod_inspect_16 : decode dn_c_Mod_inspect 16 = .ok (.putfield 172, 3) := by decide +kernel
theorem dn_d_Mod_inspect_19 : decode dn_c_Mod_inspect 19 = .ok (.aload_n 0, 1) := by decide +kernel
theorem dn_d_Mod_inspect_20 : decode dn_c_Mod_inspect 20 = .ok (.iconst 0, 1) := by decide +kernel
theorem dn_d_Mod_inspect_21 : decode dn_c_Mod_inspect 21 = .ok (.putfield 190, 3) := by decide +kernel
theorem dn_d_Mod_inspect_24 : decode dn_c_Mod_inspect 24 = .ok (.aload_n 0, 1) := by decide +kernel
theorem dn_d_Mod_inspect_25 : decode dn_c_Mod_inspect 25 = .ok (.invokevirtual 235, 3) := by decide +kernel
theorem dn_d_Mod_inspect_28 : decode dn_c_Mod_inspect 28 = .ok (.istore_n 1, 1) := by decide +kernel
theorem dn_d_Mod_inspect_29 : decode dn_c_Mod_inspect 29 = .ok (.aload_n 0, 1) := by decide +kernel
theorem dn_d_Mod_inspect_30 : decode dn_c_Mod_inspect 30 = .ok (.iload_n 1, 1) := by decide +kernel
theorem dn_d_Mod_inspect_31 : decode dn_c_Mod_inspect 31 = .ok (.ifCond .ne 7, 3) := by decide +kernel
theorem dn_d_Mod_inspect_34 : decode dn_c_Mod_inspect 34 = .ok (.iconst 1, 1) := by decide +kernel
theorem dn_d_Mod_inspect_35 : decode dn_c_Mod_inspect 35 = .ok (.goto 4, 3) := by decide +kernel
theorem dn_d_Mod_inspect_38 : decode dn_c_Mod_inspect 38 = .ok (.iconst 0, 1) := by decide +kernel
theorem dn_d_Mod_inspect_39 : decode dn_c_Mod_inspect 39 = .ok (.putfield 238, 3) := by decide +kernel
theorem dn_d_Mod_inspect_42 : decode dn_c_Mod_inspect 42 = .ok (.aload_n 0, 1) := by decide +kernel
theorem dn_d_Mod_inspect_43 : decode dn_c_Mod_inspect 43 = .ok (.iconst 0, 1) := by decide +kernel
theorem dn_d_Mod_inspect_44 : decode dn_c_Mod_inspect 44 = .ok (.putfield 172, 3) := by decide +kernel
theorem dn_d_Mod_inspect_47 : decode dn_c_Mod_inspect 47 = .ok (.aload_n 0, 1) := by decide +kernel
theorem dn_d_Mod_inspect_48 : decode dn_c_Mod_inspect 48 = .ok (.iconst 0, 1) := by decide +kernel
theorem dn_d_Mod_inspect_49 : decode dn_c_Mod_inspect 49 = .ok (.putfield 123, 3) := by decide +kernel
theorem dn_d_Mod_inspect_52 : decode dn_c_Mod_inspect 52 = .ok (.iload_n 1, 1) := by decide +kernel
theorem dn_d_Mod_inspect_53 : decode dn_c_Mod_inspect 53 = .ok (.ireturn, 1) := by decide +kernel
theorem dn_d_Mod_messages_0 : decode dn_c_Mod_messages 0 = .ok (.aload_n 0, 1) := by decide +kernel
theorem dn_d_Mod_messages_1 : decode dn_c_Mod_messages 1 = .ok (.iconst 0, 1) := by decide +kernel
theorem dn_d_Mod_messages_2 : decode dn_c_Mod_messages 2 = .ok (.putfield 68, 3) := by decide +kernel
theorem dn_d_Mod_messages_5 : decode dn_c_Mod_messages 5 = .ok (.aload_n 0, 1) := by decide +kernel
theorem dn_d_Mod_messages_6 : decode dn_c_Mod_messages 6 = .ok (.getfield 190, 3) := by decide +kernel
theorem dn_d_Mod_messages_9 : decode dn_c_Mod_messages 9 = .ok (.ireturn, 1) := by decide +kernel
theorem dn_d_Mod_held_0 : decode dn_c_Mod_held 0 = .ok (.aload_n 0, 1) := by decide +kernel
theorem dn_d_Mod_held_1 : decode dn_c_Mod_held 1 = .ok (.aload_n 0, 1) := by decide +kernel
theorem dn_d_Mod_held_2 : decode dn_c_Mod_held 2 = .ok (.getfield 238, 3) := by decide +kernel
theorem dn_d_Mod_held_5 : decode dn_c_Mod_held 5 = .ok (.ifCond .ne 7, 3) := by decide +kernel
theorem dn_d_Mod_held_8 : decode dn_c_Mod_held 8 = .ok (.iconst 1, 1) := by decide +kernel
theorem dn_d_Mod_held_9 : decode dn_c_Mod_held 9 = .ok (.goto 35, 3) := by decide +kernel
theorem dn_d_Mod_held_12 : decode dn_c_Mod_held 12 = .ok (.iload_n 1, 1) := by decide +kernel
theorem dn_d_Mod_held_13 : decode dn_c_Mod_held 13 = .ok (.ifCond .lt 8, 3) := by decide +kernel
theorem dn_d_Mod_held_16 : decode dn_c_Mod_held 16 = .ok (.iload_n 1, 1) := by decide +kernel
theorem dn_d_Mod_held_17 : decode dn_c_Mod_held 17 = .ok (.iconst 3, 1) := by decide +kernel
theorem dn_d_Mod_held_18 : decode dn_c_Mod_held 18 = .ok (.if_icmp .le 7, 3) := by decide +kernel
theorem dn_d_Mod_held_21 : decode dn_c_Mod_held 21 = .ok (.iconst 2, 1) := by decide +kernel
theorem dn_d_Mod_held_22 : decode dn_c_Mod_held 22 = .ok (.goto 22, 3) := by decide +kernel
theorem dn_d_Mod_held_25 : decode dn_c_Mod_held 25 = .ok (.iload_n 2, 1) := by decide +kernel
theorem dn_d_Mod_held_26 : decode dn_c_Mod_held 26 = .ok (.ifCond .lt 13, 3) := by decide +kernel
theorem dn_d_Mod_held_29 : decode dn_c_Mod_held 29 = .ok (.iload_n 2, 1) := by decide +kernel
theorem dn_d_Mod_held_30 : decode dn_c_Mod_held 30 = .ok (.aload_n 0, 1) := by decide +kernel
theorem dn_d_Mod_held_31 : decode dn_c_Mod_held 31 = .ok (.getfield 53, 3) := by decide +kernel
theorem dn_d_Mod_held_34 : decode dn_c_Mod_held 34 = .ok (.iload_n 1, 1) := by decide +kernel
theorem dn_d_Mod_held_35 : decode dn_c_Mod_held 35 = .ok (.iaload, 1) := by decide +kernel
theorem dn_d_Mod_held_36 : decode dn_c_Mod_held 36 = .ok (.if_icmp .lt 7, 3) := by decide +kernel
theorem dn_d_Mod_held_39 : decode dn_c_Mod_held 39 = .ok (.iconst 2, 1) := by decide +kernel
theorem dn_d_Mod_held_40 : decode dn_c_Mod_held 40 = .ok (.goto 4, 3) := by decide +kernel
theorem dn_d_Mod_held_43 : decode dn_c_Mod_held 43 = .ok (.iconst 0, 1) := by decide +kernel
theorem dn_d_Mod_held_44 : decode dn_c_Mod_held 44 = .ok (.putfield 68, 3) := by decide +kernel
theorem dn_d_Mod_held_47 : decode dn_c_Mod_held 47 = .ok (.aload_n 0, 1) := by decide +kernel
theorem dn_d_Mod_held_48 : decode dn_c_Mod_held 48 = .ok (.getfield 68, 3) := by decide +kernel
theorem dn_d_Mod_held_51 : decode dn_c_Mod_held 51 = .ok (.ifCond .ne 17, 3) := by decide +kernel
theorem dn_d_Mod_held_54 : decode dn_c_Mod_held 54 = .ok (.aload_n 0, 1) := by decide +kernel
theorem dn_d_Mod_held_55 : decode dn_c_Mod_held 55 = .ok (.getfield 50, 3) := by decide +kernel
theorem dn_d_Mod_held_58 : decode dn_c_Mod_held 58 = .ok (.bipush 20, 2) := by decide +kernel
theorem dn_d_Mod_held_60 : decode dn_c_Mod_held 60 = .ok (.iload_n 1, 1) := by decide +kernel
theorem dn_d_Mod_held_61 : decode dn_c_Mod_held 61 = .ok (.imul, 1) := by decide +kernel
theorem dn_d_Mod_held_62 : decode dn_c_Mod_held 62 = .ok (.iload_n 2, 1) := by decide +kernel
theorem dn_d_Mod_held_63 : decode dn_c_Mod_held 63 = .ok (.iadd, 1) := by decide +kernel
theorem dn_d_Mod_held_64 : decode dn_c_Mod_held 64 = .ok (.laload, 1) := by decide +kernel
theorem dn_d_Mod_held_65 : decode dn_c_Mod_held 65 = .ok (.goto 4, 3) := by decide +kernel
theorem dn_d_Mod_held_68 : decode dn_c_Mod_held 68 = .ok (.lconst 0, 1) := by decide +kernel
theorem dn_d_Mod_held_69 : decode dn_c_Mod_held 69 = .ok (.lreturn, 1) := by decide +kernel
