theorem dn_d_Law_law_0 : decode dn_c_Law_law 0 = .ok (.new 8, 3) := by decide +kernel
theorem dn_d_Law_law_3 : decode dn_c_Law_law 3 = .ok (.dup, 1) := by decide +kernel
theorem dn_d_Law_law_4 : decode dn_c_Law_law 4 = .ok (.aload_n 0, 1) := by decide +kernel
theorem dn_d_Law_law_5 : decode dn_c_Law_law 5 = .ok (.iconst 0, 1) := by decide +kernel
theorem dn_d_Law_law_6 : decode dn_c_Law_law 6 = .ok (.invokestatic 55, 3) := by decide +kernel
theorem dn_d_Law_law_9 : decode dn_c_Law_law 9 = .ok (.aload_n 0, 1) := by decide +kernel
theorem dn_d_Law_law_10 : decode dn_c_Law_law 10 = .ok (.iconst 1, 1) := by decide +kernel
theorem dn_d_Law_law_11 : decode dn_c_Law_law 11 = .ok (.invokestatic 55, 3) := by decide +kernel
theorem dn_d_Law_law_14 : decode dn_c_Law_law 14 = .ok (.aload_n 0, 1) := by decide +kernel
theorem dn_d_Law_law_15 : decode dn_c_Law_law 15 = .ok (.iconst 2, 1) := by decide +kernel
theorem dn_d_Law_law_16 : decode dn_c_Law_law 16 = .ok (.invokestatic 55, 3) := by decide +kernel
theorem dn_d_Law_law_19 : decode dn_c_Law_law 19 = .ok (.invokespecial 61, 3) := by decide +kernel
theorem dn_d_Law_law_22 : decode dn_c_Law_law 22 = .ok (.astore_n 1, 1) := by decide +kernel
theorem dn_d_Law_law_23 : decode dn_c_Law_law 23 = .ok (.new 64, 3) := by decide +kernel
theorem dn_d_Law_law_26 : decode dn_c_Law_law 26 = .ok (.dup, 1) := by decide +kernel
theorem dn_d_Law_law_27 : decode dn_c_Law_law 27 = .ok (.aload_n 0, 1) := by decide +kernel
theorem dn_d_Law_law_28 : decode dn_c_Law_law 28 = .ok (.iconst 0, 1) := by decide +kernel
theorem dn_d_Law_law_29 : decode dn_c_Law_law 29 = .ok (.invokestatic 55, 3) := by decide +kernel
theorem dn_d_Law_law_32 : decode dn_c_Law_law 32 = .ok (.aload_n 0, 1) := by decide +kernel
theorem dn_d_Law_law_33 : decode dn_c_Law_law 33 = .ok (.iconst 1, 1) := by decide +kernel
theorem dn_d_Law_law_34 : decode dn_c_Law_law 34 = .ok (.invokestatic 55, 3) := by decide +kernel
theorem dn_d_Law_law_37 : decode dn_c_Law_law 37 = .ok (.aload_n 0, 1) := by decide +kernel
theorem dn_d_Law_law_38 : decode dn_c_Law_law 38 = .ok (.iconst 2, 1) := by decide +kernel
theorem dn_d_Law_law_39 : decode dn_c_Law_law 39 = .ok (.invokestatic 55, 3) := by decide +kernel
theorem dn_d_Law_law_42 : decode dn_c_Law_law 42 = .ok (.invokespecial 66, 3) := by decide +kernel
theorem dn_d_Law_law_45 : decode dn_c_Law_law 45 = .ok (.astore_n 2, 1) := by decide +kernel
theorem dn_d_Law_law_46 : decode dn_c_Law_law 46 = .ok (.iconst 1, 1) := by decide +kernel
theorem dn_d_Law_law_47 : decode dn_c_Law_law 47 = .ok (.newarray .long, 2) := by decide +kernel
theorem dn_d_Law_law_49 : decode dn_c_Law_law 49 = .ok (.astore_n 3, 1) := by decide +kernel
theorem dn_d_Law_law_50 : decode dn_c_Law_law 50 = .ok (.iconst 3, 1) := by decide +kernel
theorem dn_d_Law_law_51 : decode dn_c_Law_law 51 = .ok (.istore 4, 2) := by decide +kernel
theorem dn_d_Law_law_53 : decode dn_c_Law_law 53 = .ok (.iload 4, 2) := by decide +kernel
theorem dn_d_Law_law_55 : decode dn_c_Law_law 55 = .ok (.aload_n 0, 1) := by decide +kernel
theorem dn_d_Law_law_56 : decode dn_c_Law_law 56 = .ok (.arraylength, 1) := by decide +kernel
theorem dn_d_Law_law_57 : decode dn_c_Law_law 57 = .ok (.bipush 9, 2) := by decide +kernel
theorem dn_d_Law_law_59 : decode dn_c_Law_law 59 = .ok (.isub, 1) := by decide +kernel
theorem dn_d_Law_law_60 : decode dn_c_Law_law 60 = .ok (.if_icmp .gt 1724, 3) := by decide +kernel
theorem dn_d_Law_law_63 : decode dn_c_Law_law 63 = .ok (.aload_n 0, 1) := by decide +kernel
theorem dn_d_Law_law_64 : decode dn_c_Law_law 64 = .ok (.iload 4, 2) := by decide +kernel
theorem dn_d_Law_law_66 : decode dn_c_Law_law 66 = .ok (.iaload, 1) := by decide +kernel
theorem dn_d_Law_law_67 : decode dn_c_Law_law 67 = .ok (.bipush 31, 2) := by decide +kernel
theorem dn_d_Law_law_69 : decode dn_c_Law_law 69 = .ok (.iand, 1) := by decide +kernel
theorem dn_d_Law_law_70 : decode dn_c_Law_law 70 = .ok (.tableswitch 1708 0 18 #[90, 192, 294, 394, 452, 539, 576, 688, 883, 995, 1008, 1021, 1088, 1102, 1327, 1471, 1497, 1596, 1683], 90) := by decide +kernel
theorem dn_d_Law_law_160 : decode dn_c_Law_law 160 = .ok (.aload_n 1, 1) := by decide +kernel
theorem dn_d_Law_law_161 : decode dn_c_Law_law 161 = .ok (.aload_n 0, 1) := by decide +kernel
theorem dn_d_Law_law_162 : decode dn_c_Law_law 162 = .ok (.iload 4, 2) := by decide +kernel
theorem dn_d_Law_law_164 : decode dn_c_Law_law 164 = .ok (.iconst 1, 1) := by decide +kernel
theorem dn_d_Law_law_165 : decode dn_c_Law_law 165 = .ok (.iadd, 1) := by decide +kernel
theorem dn_d_Law_law_166 : decode dn_c_Law_law 166 = .ok (.iaload, 1) := by decide +kernel
theorem dn_d_Law_law_167 : decode dn_c_Law_law 167 = .ok (.i2l, 1) := by decide +kernel
theorem dn_d_Law_law_168 : decode dn_c_Law_law 168 = .ok (.bipush 32, 2) := by decide +kernel
theorem dn_d_Law_law_170 : decode dn_c_Law_law 170 = .ok (.lshl, 1) := by decide +kernel
theorem dn_d_Law_law_171 : decode dn_c_Law_law 171 = .ok (.aload_n 0, 1) := by decide +kernel
theorem dn_d_Law_law_172 : decode dn_c_Law_law 172 = .ok (.iload 4, 2) := by decide +kernel
theorem dn_d_Law_law_174 : decode dn_c_Law_law 174 = .ok (.iconst 2, 1) := by decide +kernel
theorem dn_d_Law_law_175 : decode dn_c_Law_law 175 = .ok (.iadd, 1) := by decide +kernel
theorem dn_d_Law_law_176 : decode dn_c_Law_law 176 = .ok (.iaload, 1) := by decide +kernel
theorem dn_d_Law_law_177 : decode dn_c_Law_law 177 = .ok (.i2l, 1) := by decide +kernel
theorem dn_d_Law_law_178 : decode dn_c_Law_law 178 = .ok (.ldc2_w 67, 3) := by decide +kernel
theorem dn_d_Law_law_181 : decode dn_c_Law_law 181 = .ok (.land, 1) := by decide +kernel
theorem dn_d_Law_law_182 : decode dn_c_Law_law 182 = .ok (.lor, 1) := by decide +kernel
theorem dn_d_Law_law_183 : decode dn_c_Law_law 183 = .ok (.aload_n 0, 1) := by decide +kernel
theorem dn_d_Law_law_184 : decode dn_c_Law_law 184 = .ok (.iload 4, 2) := by decide +kernel
theorem dn_d_Law_law_186 : decode dn_c_Law_law 186 = .ok (.iconst 3, 1) := by decide +kernel
theorem dn_d_Law_law_187 : decode dn_c_Law_law 187 = .ok (.iadd, 1) := by decide +kernel
theorem dn_d_Law_law_188 : decode dn_c_Law_law 188 = .ok (.iaload, 1) := by decide +kernel
theorem dn_d_Law_law_189 : decode dn_c_Law_law 189 = .ok (.i2l, 1) := by decide +kernel
theorem dn_d_Law_law_190 : decode dn_c_Law_law 190 = .ok (.bipush 32, 2) := by decide +kernel
theorem dn_d_Law_law_192 : decode dn_c_Law_law 192 = .ok (.lshl, 1) := by decide +kernel
theorem dn_d_Law_law_193 : decode dn_c_Law_law 193 = .ok (.aload_n 0, 1) := by decide +kernel
theorem dn_d_Law_law_194 : decode dn_c_Law_law 194 = .ok (.iload 4, 2) := by decide +kernel
theorem dn_d_Law_law_196 : decode dn_c_Law_law 196 = .ok (.iconst 4, 1) := by decide +kernel
theorem dn_d_Law_law_197 : decode dn_c_Law_law 197 = .ok (.iadd, 1) := by decide +kernel
theorem dn_d_Law_law_198 : decode dn_c_Law_law 198 = .ok (.iaload, 1) := by decide +kernel
theorem dn_d_Law_law_199 : decode dn_c_Law_law 199 = .ok (.i2l, 1) := by decide +kernel
theorem dn_d_Law_law_200 : decode dn_c_Law_law 200 = .ok (.ldc2_w 67, 3) := by decide +kernel
theorem dn_d_Law_law_203 : decode dn_c_Law_law 203 = .ok (.land, 1) := by decide +kernel
theorem dn_d_Law_law_204 : decode dn_c_Law_law 204 = .ok (.lor, 1) := by decide +kernel
theorem dn_d_Law_law_205 : decode dn_c_Law_law 205 = .ok (.invokevirtual 69, 3) := by decide +kernel
theorem dn_d_Law_law_208 : decode dn_c_Law_law 208 = .ok (.aload_n 2, 1) := by decide +kernel
theorem dn_d_Law_law_209 : decode dn_c_Law_law 209 = .ok (.aload_n 0, 1) := by decide +kernel
theorem dn_d_Law_law_210 : decode dn_c_Law_law 210 = .ok (.iload 4, 2) := by decide +kernel
theorem dn_d_Law_law_212 : decode dn_c_Law_law 212 = .ok (.iconst 1, 1) := by decide +kernel
theorem dn_d_Law_law_213 : decode dn_c_Law_law 213 = .ok (.iadd, 1) := by decide +kernel
theorem dn_d_Law_law_214 : decode dn_c_Law_law 214 = .ok (.iaload, 1) := by decide +kernel
theorem dn_d_Law_law_215 : decode dn_c_Law_law 215 = .ok (.i2l, 1) := by decide +kernel
theorem dn_d_Law_law_216 : decode dn_c_Law_law 216 = .ok (.bipush 32, 2) := by decide +kernel
theorem dn_d_Law_law_218 : decode dn_c_Law_law 218 = .ok (.lshl, 1) := by decide +kernel
theorem dn_d_Law_law_219 : decode dn_c_Law_law 219 = .ok (.aload_n 0, 1) := by decide +kernel
theorem dn_d_Law_law_220 : decode dn_c_Law_law 220 = .ok (.iload 4, 2) := by decide +kernel
theorem dn_d_Law_law_222 : decode dn_c_Law_law 222 = .ok (.iconst 2, 1) := by decide +kernel
theorem dn_d_Law_law_223 : decode dn_c_Law_law 223 = .ok (.iadd, 1) := by decide +kernel
theorem dn_d_Law_law_224 : decode dn_c_Law_law 224 = .ok (.iaload, 1) := by decide +kernel
theorem dn_d_Law_law_225 : decode dn_c_Law_law 225 = .ok (.i2l, 1) := by decide +kernel
theorem dn_d_Law_law_226 : decode dn_c_Law_law 226 = .ok (.ldc2_w 67, 3) := by decide +kernel
theorem dn_d_Law_law_229 : decode dn_c_Law_law 229 = .ok (.land, 1) := by decide +kernel
theorem dn_d_Law_law_230 : decode dn_c_Law_law 230 = .ok (.lor, 1) := by decide +kernel
theorem dn_d_Law_law_231 : decode dn_c_Law_law 231 = .ok (.aload_n 0, 1) := by decide +kernel
theorem dn_d_Law_law_232 : decode dn_c_Law_law 232 = .ok (.iload 4, 2) := by decide +kernel
theorem dn_d_Law_law_234 : decode dn_c_Law_law 234 = .ok (.iconst 3, 1) := by decide +kernel
theorem dn_d_Law_law_235 : decode dn_c_Law_law 235 = .ok (.iadd, 1) := by decide +kernel
theorem dn_d_Law_law_236 : decode dn_c_Law_law 236 = .ok (.iaload, 1) := by decide +kernel
theorem dn_d_Law_law_237 : decode dn_c_Law_law 237 = .ok (.i2l, 1) := by decide +kernel
theorem dn_d_Law_law_238 : decode dn_c_Law_law 238 = .ok (.bipush 32, 2) := by decide +kernel
theorem dn_d_Law_law_240 : decode dn_c_Law_law 240 = .ok (.lshl, 1) := by decide +kernel
theorem dn_d_Law_law_241 : decode dn_c_Law_law 241 = .ok (.aload_n 0, 1) := by decide +kernel
theorem dn_d_Law_law_242 : decode dn_c_Law_law 242 = .ok (.iload 4, 2) := by decide +kernel
theorem dn_d_Law_law_244 : decode dn_c_Law_law 244 = .ok (.iconst 4, 1) := by decide +kernel
theorem dn_d_Law_law_245 : decode dn_c_Law_law 245 = .ok (.iadd, 1) := by decide +kernel
theorem dn_d_Law_law_246 : decode dn_c_Law_law 246 = .ok (.iaload, 1) := by decide +kernel
theorem dn_d_Law_law_247 : decode dn_c_Law_law 247 = .ok (.i2l, 1) := by decide +kernel
theorem dn_d_Law_law_248 : decode dn_c_Law_law 248 = .ok (.ldc2_w 67, 3) := by decide +kernel
theorem dn_d_Law_law_251 : decode dn_c_Law_law 251 = .ok (.land, 1) := by decide +kernel
theorem dn_d_Law_law_252 : decode dn_c_Law_law 252 = .ok (.lor, 1) := by decide +kernel
theorem dn_d_Law_law_253 : decode dn_c_Law_law 253 = .ok (.invokevirtual 73, 3) := by decide +kernel
theorem dn_d_Law_law_256 : decode dn_c_Law_law 256 = .ok (.lcmp, 1) := by decide +kernel
theorem dn_d_Law_law_257 : decode dn_c_Law_law 257 = .ok (.ifCond .eq 1521, 3) := by decide +kernel
theorem dn_d_Law_law_260 : decode dn_c_Law_law 260 = .ok (.iconst 0, 1) := by decide +kernel
theorem dn_d_Law_law_261 : decode dn_c_Law_law 261 = .ok (.ireturn, 1) := by decide +kernel
theorem dn_d_Law_law_262 : decode dn_c_Law_law 262 = .ok (.aload_n 1, 1) := by decide +kernel
theorem dn_d_Law_law_263 : decode dn_c_Law_law 263 = .ok (.aload_n 0, 1) := by decide +kernel
theorem dn_d_Law_law_264 : decode dn_c_Law_law 264 = .ok (.iload 4, 2) := by decide +kernel
theorem dn_d_Law_law_266 : decode dn_c_Law_law 266 = .ok (.iconst 1, 1) := by decide +kernel
theorem dn_d_Law_law_267 : decode dn_c_Law_law 267 = .ok (.iadd, 1) := by decide +kernel
theorem dn_d_Law_law_268 : decode dn_c_Law_law 268 = .ok (.iaload, 1) := by decide +kernel
theorem dn_d_Law_law_269 : decode dn_c_Law_law 269 = .ok (.i2l, 1) := by decide +kernel
theorem dn_d_Law_law_270 : decode dn_c_Law_law 270 = .ok (.bipush 32, 2) := by decide +kernel
theorem dn_d_Law_law_272 : decode dn_c_Law_law 272 = .ok (.lshl, 1) := by decide +kernel
theorem dn_d_Law_law_273 : decode dn_c_Law_law 273 = .ok (.aload_n 0, 1) := by decide +kernel
theorem dn_d_Law_law_274 : decode dn_c_Law_law 274 = .ok (.iload 4, 2) := by decide +kernel
theorem dn_d_Law_law_276 : decode dn_c_Law_law 276 = .ok (.iconst 2, 1) := by decide +kernel
theorem dn_d_Law_law_277 : decode dn_c_Law_law 277 = .ok (.iadd, 1) := by decide +kernel
theorem dn_d_Law_law_278 : decode dn_c_Law_law 278 = .ok (.iaload, 1) := by decide +kernel
theorem dn_d_Law_law_279 : decode dn_c_Law_law 279 = .ok (.i2l, 1) := by decide +kernel
theorem dn_d_Law_law_280 : decode dn_c_Law_law 280 = .ok (.ldc2_w 67, 3) := by decide +kernel
theorem dn_d_Law_law_283 : decode dn_c_Law_law 283 = .ok (.land, 1) := by decide +kernel
theorem dn_d_Law_law_284 : decode dn_c_Law_law 284 = .ok (.lor, 1) := by decide +kernel
theorem dn_d_Law_law_285 : decode dn_c_Law_law 285 = .ok (.aload_n 0, 1) := by decide +kernel
theorem dn_d_Law_law_286 : decode dn_c_Law_law 286 = .ok (.iload 4, 2) := by decide +kernel
theorem dn_d_Law_law_288 : decode dn_c_Law_law 288 = .ok (.iconst 3, 1) := by decide +kernel
theorem dn_d_Law_law_289 : decode dn_c_Law_law 289 = .ok (.iadd, 1) := by decide +kernel
theorem dn_d_Law_law_290 : decode dn_c_Law_law 290 = .ok (.iaload, 1) := by decide +kernel
theorem dn_d_Law_law_291 : decode dn_c_Law_law 291 = .ok (.i2l, 1) := by decide +kernel
theorem dn_d_Law_law_292 : decode dn_c_Law_law 292 = .ok (.bipush 32, 2) := by decide +kernel
theorem dn_d_Law_law_294 : decode dn_c_Law_law 294 = .ok (.lshl, 1) := by decide +kernel
theorem dn_d_Law_law_295 : decode dn_c_Law_law 295 = .ok (.aload_n 0, 1) := by decide +kernel
theorem dn_d_Law_law_296 : decode dn_c_Law_law 296 = .ok (.iload 4, 2) := by decide +kernel
theorem dn_d_Law_law_298 : decode dn_c_Law_law 298 = .ok (.iconst 4, 1) := by decide +kernel
theorem dn_d_Law_law_299 : decode dn_c_Law_law 299 = .ok (.iadd, 1) := by decide +kernel
