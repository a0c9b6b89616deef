theorem dX7_read_152 : decode cX7_read 152 = .ok (.iload 7, 2) := by decide +kernel
theorem dX7_read_154 : decode cX7_read 154 = .ok (.if_icmp .le 69, 3) := by decide +kernel
theorem dX7_read_157 : decode cX7_read 157 = .ok (.iload 6, 2) := by decide +kernel
theorem dX7_read_159 : decode cX7_read 159 = .ok (.bipush 20, 2) := by decide +kernel
theorem dX7_read_161 : decode cX7_read 161 = .ok (.if_icmp .gt 62, 3) := by decide +kernel
theorem dX7_read_164 : decode cX7_read 164 = .ok (.aload_n 0, 1) := by decide +kernel
theorem dX7_read_165 : decode cX7_read 165 = .ok (.getfield 32, 3) := by decide +kernel
theorem dX7_read_168 : decode cX7_read 168 = .ok (.iload 4, 2) := by decide +kernel
theorem dX7_read_170 : decode cX7_read 170 = .ok (.iconst 4, 1) := by decide +kernel
theorem dX7_read_171 : decode cX7_read 171 = .ok (.iload 5, 2) := by decide +kernel
theorem dX7_read_173 : decode cX7_read 173 = .ok (.imul, 1) := by decide +kernel
theorem dX7_read_174 : decode cX7_read 174 = .ok (.iadd, 1) := by decide +kernel
theorem dX7_read_175 : decode cX7_read 175 = .ok (.iconst 1, 1) := by decide +kernel
theorem dX7_read_176 : decode cX7_read 176 = .ok (.iadd, 1) := by decide +kernel
theorem dX7_read_177 : decode cX7_read 177 = .ok (.iaload, 1) := by decide +kernel
theorem dX7_read_178 : decode cX7_read 178 = .ok (.i2l, 1) := by decide +kernel
theorem dX7_read_179 : decode cX7_read 179 = .ok (.ldc2_w 65, 3) := by decide +kernel
theorem dX7_read_182 : decode cX7_read 182 = .ok (.iload 8, 2) := by decide +kernel
theorem dX7_read_184 : decode cX7_read 184 = .ok (.i2l, 1) := by decide +kernel
theorem dX7_read_185 : decode cX7_read 185 = .ok (.invokestatic 59, 3) := by decide +kernel
theorem dX7_read_188 : decode cX7_read 188 = .ok (.ifCond .eq 35, 3) := by decide +kernel
theorem dX7_read_191 : decode cX7_read 191 = .ok (.iload 8, 2) := by decide +kernel
theorem dX7_read_193 : decode cX7_read 193 = .ok (.bipush 20, 2) := by decide +kernel
theorem dX7_read_195 : decode cX7_read 195 = .ok (.if_icmp .gt 28, 3) := by decide +kernel
theorem dX7_read_198 : decode cX7_read 198 = .ok (.aload_n 0, 1) := by decide +kernel
theorem dX7_read_199 : decode cX7_read 199 = .ok (.getfield 32, 3) := by decide +kernel
theorem dX7_read_202 : decode cX7_read 202 = .ok (.iload 4, 2) := by decide +kernel
theorem dX7_read_204 : decode cX7_read 204 = .ok (.iconst 4, 1) := by decide +kernel
theorem dX7_read_205 : decode cX7_read 205 = .ok (.iload 5, 2) := by decide +kernel
theorem dX7_read_207 : decode cX7_read 207 = .ok (.imul, 1) := by decide +kernel
theorem dX7_read_208 : decode cX7_read 208 = .ok (.iadd, 1) := by decide +kernel
theorem dX7_read_209 : decode cX7_read 209 = .ok (.iconst 3, 1) := by decide +kernel
theorem dX7_read_210 : decode cX7_read 210 = .ok (.iadd, 1) := by decide +kernel
theorem dX7_read_211 : decode cX7_read 211 = .ok (.iaload, 1) := by decide +kernel
theorem dX7_read_212 : decode cX7_read 212 = .ok (.i2l, 1) := by decide +kernel
theorem dX7_read_213 : decode cX7_read 213 = .ok (.lconst 0, 1) := by decide +kernel
theorem dX7_read_214 : decode cX7_read 214 = .ok (.ldc2_w 67, 3) := by decide +kernel
theorem dX7_read_217 : decode cX7_read 217 = .ok (.invokestatic 59, 3) := by decide +kernel
theorem dX7_read_220 : decode cX7_read 220 = .ok (.ifCond .ne 6, 3) := by decide +kernel
theorem dX7_read_223 : decode cX7_read 223 = .ok (.bipush (-2), 2) := by decide +kernel
theorem dX7_read_225 : decode cX7_read 225 = .ok (.ireturn, 1) := by decide +kernel
theorem dX7_read_226 : decode cX7_read 226 = .ok (.iinc 5 1, 3) := by decide +kernel
theorem dX7_read_229 : decode cX7_read 229 = .ok (.goto (-153), 3) := by decide +kernel
theorem dX7_read_232 : decode cX7_read 232 = .ok (.iconst 0, 1) := by decide +kernel
theorem dX7_read_233 : decode cX7_read 233 = .ok (.istore 5, 2) := by decide +kernel
theorem dX7_read_235 : decode cX7_read 235 = .ok (.iload 5, 2) := by decide +kernel
theorem dX7_read_237 : decode cX7_read 237 = .ok (.aload_n 0, 1) := by decide +kernel
theorem dX7_read_238 : decode cX7_read 238 = .ok (.getfield 7, 3) := by decide +kernel
theorem dX7_read_241 : decode cX7_read 241 = .ok (.if_icmp .gt 109, 3) := by decide +kernel
theorem dX7_read_244 : decode cX7_read 244 = .ok (.aload_n 0, 1) := by decide +kernel
theorem dX7_read_245 : decode cX7_read 245 = .ok (.getfield 13, 3) := by decide +kernel
theorem dX7_read_248 : decode cX7_read 248 = .ok (.iload 5, 2) := by decide +kernel
theorem dX7_read_250 : decode cX7_read 250 = .ok (.aload_n 0, 1) := by decide +kernel
theorem dX7_read_251 : decode cX7_read 251 = .ok (.getfield 32, 3) := by decide +kernel
theorem dX7_read_254 : decode cX7_read 254 = .ok (.iload 4, 2) := by decide +kernel
theorem dX7_read_256 : decode cX7_read 256 = .ok (.iconst 4, 1) := by decide +kernel
theorem dX7_read_257 : decode cX7_read 257 = .ok (.iload 5, 2) := by decide +kernel
theorem dX7_read_259 : decode cX7_read 259 = .ok (.imul, 1) := by decide +kernel
theorem dX7_read_260 : decode cX7_read 260 = .ok (.iadd, 1) := by decide +kernel
theorem dX7_read_261 : decode cX7_read 261 = .ok (.iaload, 1) := by decide +kernel
theorem dX7_read_262 : decode cX7_read 262 = .ok (.iastore, 1) := by decide +kernel
theorem dX7_read_263 : decode cX7_read 263 = .ok (.aload_n 0, 1) := by decide +kernel
theorem dX7_read_264 : decode cX7_read 264 = .ok (.getfield 17, 3) := by decide +kernel
theorem dX7_read_267 : decode cX7_read 267 = .ok (.iload 5, 2) := by decide +kernel
theorem dX7_read_269 : decode cX7_read 269 = .ok (.aload_n 0, 1) := by decide +kernel
theorem dX7_read_270 : decode cX7_read 270 = .ok (.getfield 32, 3) := by decide +kernel
theorem dX7_read_273 : decode cX7_read 273 = .ok (.iload 4, 2) := by decide +kernel
theorem dX7_read_275 : decode cX7_read 275 = .ok (.iconst 4, 1) := by decide +kernel
theorem dX7_read_276 : decode cX7_read 276 = .ok (.iload 5, 2) := by decide +kernel
theorem dX7_read_278 : decode cX7_read 278 = .ok (.imul, 1) := by decide +kernel
theorem dX7_read_279 : decode cX7_read 279 = .ok (.iadd, 1) := by decide +kernel
theorem dX7_read_280 : decode cX7_read 280 = .ok (.iconst 1, 1) := by decide +kernel
theorem dX7_read_281 : decode cX7_read 281 = .ok (.iadd, 1) := by decide +kernel
theorem dX7_read_282 : decode cX7_read 282 = .ok (.iaload, 1) := by decide +kernel
theorem dX7_read_283 : decode cX7_read 283 = .ok (.iastore, 1) := by decide +kernel
theorem dX7_read_284 : decode cX7_read 284 = .ok (.aload_n 0, 1) := by decide +kernel
theorem dX7_read_285 : decode cX7_read 285 = .ok (.getfield 20, 3) := by decide +kernel
theorem dX7_read_288 : decode cX7_read 288 = .ok (.iload 5, 2) := by decide +kernel
theorem dX7_read_290 : decode cX7_read 290 = .ok (.aload_n 0, 1) := by decide +kernel
theorem dX7_read_291 : decode cX7_read 291 = .ok (.getfield 32, 3) := by decide +kernel
theorem dX7_read_294 : decode cX7_read 294 = .ok (.iload 4, 2) := by decide +kernel
theorem dX7_read_296 : decode cX7_read 296 = .ok (.iconst 4, 1) := by decide +kernel
theorem dX7_read_297 : decode cX7_read 297 = .ok (.iload 5, 2) := by decide +kernel
theorem dX7_read_299 : decode cX7_read 299 = .ok (.imul, 1) := by decide +kernel
theorem dX7_read_300 : decode cX7_read 300 = .ok (.iadd, 1) := by decide +kernel
theorem dX7_read_301 : decode cX7_read 301 = .ok (.iconst 2, 1) := by decide +kernel
theorem dX7_read_302 : decode cX7_read 302 = .ok (.iadd, 1) := by decide +kernel
theorem dX7_read_303 : decode cX7_read 303 = .ok (.iaload, 1) := by decide +kernel
theorem dX7_read_304 : decode cX7_read 304 = .ok (.iastore, 1) := by decide +kernel
theorem dX7_read_305 : decode cX7_read 305 = .ok (.aload_n 0, 1) := by decide +kernel
theorem dX7_read_306 : decode cX7_read 306 = .ok (.getfield 23, 3) := by decide +kernel
theorem dX7_read_309 : decode cX7_read 309 = .ok (.iload 5, 2) := by decide +kernel
theorem dX7_read_311 : decode cX7_read 311 = .ok (.iload 5, 2) := by decide +kernel
theorem dX7_read_313 : decode cX7_read 313 = .ok (.ifCond .eq 12, 3) := by decide +kernel
theorem dX7_read_316 : decode cX7_read 316 = .ok (.iload 5, 2) := by decide +kernel
theorem dX7_read_318 : decode cX7_read 318 = .ok (.aload_n 0, 1) := by decide +kernel
theorem dX7_read_319 : decode cX7_read 319 = .ok (.getfield 7, 3) := by decide +kernel
theorem dX7_read_322 : decode cX7_read 322 = .ok (.if_icmp .ne 7, 3) := by decide +kernel
theorem dX7_read_325 : decode cX7_read 325 = .ok (.iconst 0, 1) := by decide +kernel
theorem dX7_read_326 : decode cX7_read 326 = .ok (.goto 17, 3) := by decide +kernel
theorem dX7_read_329 : decode cX7_read 329 = .ok (.aload_n 0, 1) := by decide +kernel
theorem dX7_read_330 : decode cX7_read 330 = .ok (.getfield 32, 3) := by decide +kernel
theorem dX7_read_333 : decode cX7_read 333 = .ok (.iload 4, 2) := by decide +kernel
theorem dX7_read_335 : decode cX7_read 335 = .ok (.iconst 4, 1) := by decide +kernel
theorem dX7_read_336 : decode cX7_read 336 = .ok (.iload 5, 2) := by decide +kernel
theorem dX7_read_338 : decode cX7_read 338 = .ok (.imul, 1) := by decide +kernel
theorem dX7_read_339 : decode cX7_read 339 = .ok (.iadd, 1) := by decide +kernel
theorem dX7_read_340 : decode cX7_read 340 = .ok (.iconst 3, 1) := by decide +kernel
theorem dX7_read_341 : decode cX7_read 341 = .ok (.iadd, 1) := by decide +kernel
theorem dX7_read_342 : decode cX7_read 342 = .ok (.iaload, 1) := by decide +kernel
theorem dX7_read_343 : decode cX7_read 343 = .ok (.iastore, 1) := by decide +kernel
theorem dX7_read_344 : decode cX7_read 344 = .ok (.iinc 5 1, 3) := by decide +kernel
theorem dX7_read_347 : decode cX7_read 347 = .ok (.goto (-112), 3) := by decide +kernel
theorem dX7_read_350 : decode cX7_read 350 = .ok (.iconst 1, 1) := by decide +kernel
theorem dX7_read_351 : decode cX7_read 351 = .ok (.ireturn, 1) := by decide +kernel
theorem dX7_momentAt_0 : decode cX7_momentAt 0 = .ok (.iconst 0, 1) := by decide +kernel
theorem dX7_momentAt_1 : decode cX7_momentAt 1 = .ok (.istore_n 2, 1) := by decide +kernel
theorem dX7_momentAt_2 : decode cX7_momentAt 2 = .ok (.iconst 1, 1) := by decide +kernel
theorem dX7_momentAt_3 : decode cX7_momentAt 3 = .ok (.istore_n 3, 1) := by decide +kernel
theorem dX7_momentAt_4 : decode cX7_momentAt 4 = .ok (.iload_n 3, 1) := by decide +kernel
theorem dX7_momentAt_5 : decode cX7_momentAt 5 = .ok (.aload_n 0, 1) := by decide +kernel
theorem dX7_momentAt_6 : decode cX7_momentAt 6 = .ok (.getfield 7, 3) := by decide +kernel
theorem dX7_momentAt_9 : decode cX7_momentAt 9 = .ok (.if_icmp .ge 84, 3) := by decide +kernel
theorem dX7_momentAt_12 : decode cX7_momentAt 12 = .ok (.iload_n 2, 1) := by decide +kernel
theorem dX7_momentAt_13 : decode cX7_momentAt 13 = .ok (.aload_n 0, 1) := by decide +kernel
theorem dX7_momentAt_14 : decode cX7_momentAt 14 = .ok (.getfield 13, 3) := by decide +kernel
theorem dX7_momentAt_17 : decode cX7_momentAt 17 = .ok (.iload_n 1, 1) := by decide +kernel
theorem dX7_momentAt_18 : decode cX7_momentAt 18 = .ok (.iaload, 1) := by decide +kernel
theorem dX7_momentAt_19 : decode cX7_momentAt 19 = .ok (.aload_n 0, 1) := by decide +kernel
theorem dX7_momentAt_20 : decode cX7_momentAt 20 = .ok (.getfield 23, 3) := by decide +kernel
theorem dX7_momentAt_23 : decode cX7_momentAt 23 = .ok (.iload_n 3, 1) := by decide +kernel
theorem dX7_momentAt_24 : decode cX7_momentAt 24 = .ok (.iaload, 1) := by decide +kernel
theorem dX7_momentAt_25 : decode cX7_momentAt 25 = .ok (.imul, 1) := by decide +kernel
theorem dX7_momentAt_26 : decode cX7_momentAt 26 = .ok (.aload_n 0, 1) := by decide +kernel
theorem dX7_momentAt_27 : decode cX7_momentAt 27 = .ok (.getfield 13, 3) := by decide +kernel
theorem dX7_momentAt_30 : decode cX7_momentAt 30 = .ok (.aload_n 0, 1) := by decide +kernel
theorem dX7_momentAt_31 : decode cX7_momentAt 31 = .ok (.getfield 7, 3) := by decide +kernel
theorem dX7_momentAt_34 : decode cX7_momentAt 34 = .ok (.iaload, 1) := by decide +kernel
theorem dX7_momentAt_35 : decode cX7_momentAt 35 = .ok (.aload_n 0, 1) := by decide +kernel
theorem dX7_momentAt_36 : decode cX7_momentAt 36 = .ok (.getfield 13, 3) := by decide +kernel
theorem dX7_momentAt_39 : decode cX7_momentAt 39 = .ok (.iload_n 3, 1) := by decide +kernel
theorem dX7_momentAt_40 : decode cX7_momentAt 40 = .ok (.iaload, 1) := by decide +kernel
theorem dX7_momentAt_41 : decode cX7_momentAt 41 = .ok (.isub, 1) := by decide +kernel
theorem dX7_momentAt_42 : decode cX7_momentAt 42 = .ok (.imul, 1) := by decide +kernel
theorem dX7_momentAt_43 : decode cX7_momentAt 43 = .ok (.iadd, 1) := by decide +kernel
theorem dX7_momentAt_44 : decode cX7_momentAt 44 = .ok (.istore_n 2, 1) := by decide +kernel
theorem dX7_momentAt_45 : decode cX7_momentAt 45 = .ok (.iload_n 2, 1) := by decide +kernel
theorem dX7_momentAt_46 : decode cX7_momentAt 46 = .ok (.iload_n 3, 1) := by decide +kernel
theorem dX7_momentAt_47 : decode cX7_momentAt 47 = .ok (.iload_n 1, 1) := by decide +kernel
theorem dX7_momentAt_48 : decode cX7_momentAt 48 = .ok (.if_icmp .ge 36, 3) := by decide +kernel
theorem dX7_momentAt_51 : decode cX7_momentAt 51 = .ok (.aload_n 0, 1) := by decide +kernel
theorem dX7_momentAt_52 : decode cX7_momentAt 52 = .ok (.getfield 13, 3) := by decide +kernel
theorem dX7_momentAt_55 : decode cX7_momentAt 55 = .ok (.aload_n 0, 1) := by decide +kernel
theorem dX7_momentAt_56 : decode cX7_momentAt 56 = .ok (.getfield 7, 3) := by decide +kernel
theorem dX7_momentAt_59 : decode cX7_momentAt 59 = .ok (.iaload, 1) := by decide +kernel
theorem dX7_momentAt_60 : decode cX7_momentAt 60 = .ok (.aload_n 0, 1) := by decide +kernel
theorem dX7_momentAt_61 : decode cX7_momentAt 61 = .ok (.getfield 23, 3) := by decide +kernel
theorem dX7_momentAt_64 : decode cX7_momentAt 64 = .ok (.iload_n 3, 1) := by decide +kernel
theorem dX7_momentAt_65 : decode cX7_momentAt 65 = .ok (.iaload, 1) := by decide +kernel
theorem dX7_momentAt_66 : decode cX7_momentAt 66 = .ok (.imul, 1) := by decide +kernel
theorem dX7_momentAt_67 : decode cX7_momentAt 67 = .ok (.aload_n 0, 1) := by decide +kernel
theorem dX7_momentAt_68 : decode cX7_momentAt 68 = .ok (.getfield 13, 3) := by decide +kernel
theorem dX7_momentAt_71 : decode cX7_momentAt 71 = .ok (.iload_n 1, 1) := by decide +kernel
theorem dX7_momentAt_72 : decode cX7_momentAt 72 = .ok (.iaload, 1) := by decide +kernel
theorem dX7_momentAt_73 : decode cX7_momentAt 73 = .ok (.aload_n 0, 1) := by decide +kernel
theorem dX7_momentAt_74 : decode cX7_momentAt 74 = .ok (.getfield 13, 3) := by decide +kernel
theorem dX7_momentAt_77 : decode cX7_momentAt 77 = .ok (.iload_n 3, 1) := by decide +kernel
theorem dX7_momentAt_78 : decode cX7_momentAt 78 = .ok (.iaload, 1) := by decide +kernel
theorem dX7_momentAt_79 : decode cX7_momentAt 79 = .ok (.isub, 1) := by decide +kernel
theorem dX7_momentAt_80 : decode cX7_momentAt 80 = .ok (.imul, 1) := by decide +kernel
theorem dX7_momentAt_81 : decode cX7_momentAt 81 = .ok (.goto 4, 3) := by decide +kernel
theorem dX7_momentAt_84 : decode cX7_momentAt 84 = .ok (.iconst 0, 1) := by decide +kernel
theorem dX7_momentAt_85 : decode cX7_momentAt 85 = .ok (.isub, 1) := by decide +kernel
theorem dX7_momentAt_86 : decode cX7_momentAt 86 = .ok (.istore_n 2, 1) := by decide +kernel
theorem dX7_momentAt_87 : decode cX7_momentAt 87 = .ok (.iinc 3 1, 3) := by decide +kernel
theorem dX7_momentAt_90 : decode cX7_momentAt 90 = .ok (.goto (-86), 3) := by decide +kernel
theorem dX7_momentAt_93 : decode cX7_momentAt 93 = .ok (.iload_n 2, 1) := by decide +kernel
theorem dX7_momentAt_94 : decode cX7_momentAt 94 = .ok (.ireturn, 1) := by decide +kernel
theorem dX7_told_0 : decode cX7_told 0 = .ok (.iload_n 1, 1) := by decide +kernel
theorem dX7_told_1 : decode cX7_told 1 = .ok (.i2l, 1) := by decide +kernel
theorem dX7_told_2 : decode cX7_told 2 = .ok (.lconst 0, 1) := by decide +kernel
theorem dX7_told_3 : decode cX7_told 3 = .ok (.aload_n 0, 1) := by decide +kernel
theorem dX7_told_4 : decode cX7_told 4 = .ok (.getfield 7, 3) := by decide +kernel
theorem dX7_told_7 : decode cX7_told 7 = .ok (.i2l, 1) := by decide +kernel
theorem dX7_told_8 : decode cX7_told 8 = .ok (.invokestatic 59, 3) := by decide +kernel
theorem dX7_told_11 : decode cX7_told 11 = .ok (.ifCond .eq 15, 3) := by decide +kernel
theorem dX7_told_14 : decode cX7_told 14 = .ok (.iload_n 2, 1) := by decide +kernel
theorem dX7_told_15 : decode cX7_told 15 = .ok (.i2l, 1) := by decide +kernel
theorem dX7_told_16 : decode cX7_told 16 = .ok (.lconst 0, 1) := by decide +kernel
theorem dX7_told_17 : decode cX7_told 17 = .ok (.ldc2_w 75, 3) := by decide +kernel
theorem dX7_told_20 : decode cX7_told 20 = .ok (.invokestatic 59, 3) := by decide +kernel
theorem dX7_told_23 : decode cX7_told 23 = .ok (.ifCond .ne 6, 3) := by decide +kernel
theorem dX7_told_26 : decode cX7_told 26 = .ok (.ldc 77, 2) := by decide +kernel
theorem dX7_told_28 : decode cX7_told 28 = .ok (.ireturn, 1) := by decide +kernel
theorem dX7_told_29 : decode cX7_told 29 = .ok (.iload_n 2, 1) := by decide +kernel
theorem dX7_told_30 : decode cX7_told 30 = .ok (.ifCond .ne 12, 3) := by decide +kernel
theorem dX7_told_33 : decode cX7_told 33 = .ok (.aload_n 0, 1) := by decide +kernel
theorem dX7_told_34 : decode cX7_told 34 = .ok (.getfield 13, 3) := by decide +kernel
theorem dX7_told_37 : decode cX7_told 37 = .ok (.iload_n 1, 1) := by decide +kernel
theorem dX7_told_38 : decode cX7_told 38 = .ok (.iaload, 1) := by decide +kernel
theorem dX7_told_39 : decode cX7_told 39 = .ok (.goto 50, 3) := by decide +kernel
theorem dX7_told_42 : decode cX7_told 42 = .ok (.iload_n 2, 1) := by decide +kernel
theorem dX7_told_43 : decode cX7_told 43 = .ok (.iconst 1, 1) := by decide +kernel
theorem dX7_told_44 : decode cX7_told 44 = .ok (.if_icmp .ne 12, 3) := by decide +kernel
theorem dX7_told_47 : decode cX7_told 47 = .ok (.aload_n 0, 1) := by decide +kernel
theorem dX7_told_48 : decode cX7_told 48 = .ok (.getfield 17, 3) := by decide +kernel
theorem dX7_told_51 : decode cX7_told 51 = .ok (.iload_n 1, 1) := by decide +kernel
theorem dX7_told_52 : decode cX7_told 52 = .ok (.iaload, 1) := by decide +kernel
theorem dX7_told_53 : decode cX7_told 53 = .ok (.goto 36, 3) := by decide +kernel
theorem dX7_told_56 : decode cX7_told 56 = .ok (.iload_n 2, 1) := by decide +kernel
theorem dX7_told_57 : decode cX7_told 57 = .ok (.iconst 2, 1) := by decide +kernel
theorem dX7_told_58 : decode cX7_told 58 = .ok (.if_icmp .ne 12, 3) := by decide +kernel
theorem dX7_told_61 : decode cX7_told 61 = .ok (.aload_n 0, 1) := by decide +kernel
theorem dX7_told_62 : decode cX7_told 62 = .ok (.getfield 20, 3) := by decide +kernel
theorem dX7_told_65 : decode cX7_told 65 = .ok (.iload_n 1, 1) := by decide +kernel
theorem dX7_told_66 : decode cX7_told 66 = .ok (.iaload, 1) := by decide +kernel
theorem dX7_told_67 : decode cX7_told 67 = .ok (.goto 22, 3) := by decide +kernel
theorem dX7_told_70 : decode cX7_told 70 = .ok (.iload_n 2, 1) := by decide +kernel
theorem dX7_told_71 : decode cX7_told 71 = .ok (.iconst 3, 1) := by decide +kernel
theorem dX7_told_72 : decode cX7_told 72 = .ok (.if_icmp .ne 12, 3) := by decide +kernel
theorem dX7_told_75 : decode cX7_told 75 = .ok (.aload_n 0, 1) := by decide +kernel
theorem dX7_told_76 : decode cX7_told 76 = .ok (.getfield 23, 3) := by decide +kernel
theorem dX7_told_79 : decode cX7_told 79 = .ok (.iload_n 1, 1) := by decide +kernel
theorem dX7_told_80 : decode cX7_told 80 = .ok (.iaload, 1) := by decide +kernel
theorem dX7_told_81 : decode cX7_told 81 = .ok (.goto 8, 3) := by decide +kernel
theorem dX7_told_84 : decode cX7_told 84 = .ok (.aload_n 0, 1) := by decide +kernel
theorem dX7_told_85 : decode cX7_told 85 = .ok (.iload_n 1, 1) := by decide +kernel
theorem dX7_told_86 : decode cX7_told 86 = .ok (.invokevirtual 78, 3) := by decide +kernel
theorem dX7_told_89 : decode cX7_told 89 = .ok (.ireturn, 1) := by decide +kernel
theorem dX7_setRow_0 : decode cX7_setRow 0 = .ok (.aload_n 0, 1) := by decide +kernel
theorem dX7_setRow_1 : decode cX7_setRow 1 = .ok (.getfield 35, 3) := by decide +kernel
theorem dX7_setRow_4 : decode cX7_setRow 4 = .ok (.iconst 5, 1) := by decide +kernel
theorem dX7_setRow_5 : decode cX7_setRow 5 = .ok (.iload_n 1, 1) := by decide +kernel
theorem dX7_setRow_6 : decode cX7_setRow 6 = .ok (.imul, 1) := by decide +kernel
theorem dX7_setRow_7 : decode cX7_setRow 7 = .ok (.lload_n 2, 1) := by decide +kernel
theorem dX7_setRow_8 : decode cX7_setRow 8 = .ok (.lastore, 1) := by decide +kernel
theorem dX7_setRow_9 : decode cX7_setRow 9 = .ok (.aload_n 0, 1) := by decide +kernel
theorem dX7_setRow_10 : decode cX7_setRow 10 = .ok (.getfield 35, 3) := by decide +kernel
theorem dX7_setRow_13 : decode cX7_setRow 13 = .ok (.iconst 5, 1) := by decide +kernel
theorem dX7_setRow_14 : decode cX7_setRow 14 = .ok (.iload_n 1, 1) := by decide +kernel
theorem dX7_setRow_15 : decode cX7_setRow 15 = .ok (.imul, 1) := by decide +kernel
theorem dX7_setRow_16 : decode cX7_setRow 16 = .ok (.iconst 1, 1) := by decide +kernel
theorem dX7_setRow_17 : decode cX7_setRow 17 = .ok (.iadd, 1) := by decide +kernel
theorem dX7_setRow_18 : decode cX7_setRow 18 = .ok (.lload 4, 2) := by decide +kernel
theorem dX7_setRow_20 : decode cX7_setRow 20 = .ok (.lastore, 1) := by decide +kernel
theorem dX7_setRow_21 : decode cX7_setRow 21 = .ok (.aload_n 0, 1) := by decide +kernel
theorem dX7_setRow_22 : decode cX7_setRow 22 = .ok (.getfield 35, 3) := by decide +kernel
theorem dX7_setRow_25 : decode cX7_setRow 25 = .ok (.iconst 5, 1) := by decide +kernel
theorem dX7_setRow_26 : decode cX7_setRow 26 = .ok (.iload_n 1, 1) := by decide +kernel
theorem dX7_setRow_27 : decode cX7_setRow 27 = .ok (.imul, 1) := by decide +kernel
theorem dX7_setRow_28 : decode cX7_setRow 28 = .ok (.iconst 2, 1) := by decide +kernel
theorem dX7_setRow_29 : decode cX7_setRow 29 = .ok (.iadd, 1) := by decide +kernel
theorem dX7_setRow_30 : decode cX7_setRow 30 = .ok (.lload 6, 2) := by decide +kernel
theorem dX7_setRow_32 : decode cX7_setRow 32 = .ok (.lastore, 1) := by decide +kernel
theorem dX7_setRow_33 : decode cX7_setRow 33 = .ok (.aload_n 0, 1) := by decide +kernel
theorem dX7_setRow_34 : decode cX7_setRow 34 = .ok (.getfield 35, 3) := by decide +kernel
theorem dX7_setRow_37 : decode cX7_setRow 37 = .ok (.iconst 5, 1) := by decide +kernel
theorem dX7_setRow_38 : decode cX7_setRow 38 = .ok (.iload_n 1, 1) := by decide +kernel
theorem dX7_setRow_39 : decode cX7_setRow 39 = .ok (.imul, 1) := by decide +kernel
theorem dX7_setRow_40 : decode cX7_setRow 40 = .ok (.iconst 3, 1) := by decide +kernel
theorem dX7_setRow_41 : decode cX7_setRow 41 = .ok (.iadd, 1) := by decide +kernel
theorem dX7_setRow_42 : decode cX7_setRow 42 = .ok (.lload 8, 2) := by decide +kernel
theorem dX7_setRow_44 : decode cX7_setRow 44 = .ok (.lastore, 1) := by decide +kernel
theorem dX7_setRow_45 : decode cX7_setRow 45 = .ok (.aload_n 0, 1) := by decide +kernel
theorem dX7_setRow_46 : decode cX7_setRow 46 = .ok (.getfield 35, 3) := by decide +kernel
theorem dX7_setRow_49 : decode cX7_setRow 49 = .ok (.iconst 5, 1) := by decide +kernel
theorem dX7_setRow_50 : decode cX7_setRow 50 = .ok (.iload_n 1, 1) := by decide +kernel
theorem dX7_setRow_51 : decode cX7_setRow 51 = .ok (.imul, 1) := by decide +kernel
theorem dX7_setRow_52 : decode cX7_setRow 52 = .ok (.iconst 4, 1) := by decide +kernel
theorem dX7_setRow_53 : decode cX7_setRow 53 = .ok (.iadd, 1) := by decide +kernel
theorem dX7_setRow_54 : decode cX7_setRow 54 = .ok (.lload 10, 2) := by decide +kernel
theorem dX7_setRow_56 : decode cX7_setRow 56 = .ok (.lastore, 1) := by decide +kernel
theorem dX7_setRow_57 : decode cX7_setRow 57 = .ok (.return_, 1) := by decide +kernel
theorem dX7_findRows_0 : decode cX7_findRows 0 = .ok (.aload_n 0, 1) := by decide +kernel
theorem dX7_findRows_1 : decode cX7_findRows 1 = .ok (.getfield 13, 3) := by decide +kernel
theorem dX7_findRows_4 : decode cX7_findRows 4 = .ok (.aload_n 0, 1) := by decide +kernel
theorem dX7_findRows_5 : decode cX7_findRows 5 = .ok (.getfield 7, 3) := by decide +kernel
theorem dX7_findRows_8 : decode cX7_findRows 8 = .ok (.iaload, 1) := by decide +kernel
theorem dX7_findRows_9 : decode cX7_findRows 9 = .ok (.i2l, 1) := by decide +kernel
theorem dX7_findRows_10 : decode cX7_findRows 10 = .ok (.lstore_n 2, 1) := by decide +kernel
theorem dX7_findRows_11 : decode cX7_findRows 11 = .ok (.iconst 0, 1) := by decide +kernel
theorem dX7_findRows_12 : decode cX7_findRows 12 = .ok (.istore 4, 2) := by decide +kernel
theorem dX7_findRows_14 : decode cX7_findRows 14 = .ok (.iload 4, 2) := by decide +kernel
theorem dX7_findRows_16 : decode cX7_findRows 16 = .ok (.aload_n 0, 1) := by decide +kernel
theorem dX7_findRows_17 : decode cX7_findRows 17 = .ok (.getfield 7, 3) := by decide +kernel
theorem dX7_findRows_20 : decode cX7_findRows 20 = .ok (.if_icmp .gt 206, 3) := by decide +kernel
theorem dX7_findRows_23 : decode cX7_findRows 23 = .ok (.lload_n 2, 1) := by decide +kernel
theorem dX7_findRows_24 : decode cX7_findRows 24 = .ok (.aload_n 0, 1) := by decide +kernel
theorem dX7_findRows_25 : decode cX7_findRows 25 = .ok (.getfield 13, 3) := by decide +kernel
theorem dX7_findRows_28 : decode cX7_findRows 28 = .ok (.iload 4, 2) := by decide +kernel
theorem dX7_findRows_30 : decode cX7_findRows 30 = .ok (.iaload, 1) := by decide +kernel
theorem dX7_findRows_31 : decode cX7_findRows 31 = .ok (.i2l, 1) := by decide +kernel
theorem dX7_findRows_32 : decode cX7_findRows 32 = .ok (.lsub, 1) := by decide +kernel
theorem dX7_findRows_33 : decode cX7_findRows 33 = .ok (.lstore 5, 2) := by decide +kernel
theorem dX7_findRows_35 : decode cX7_findRows 35 = .ok (.aload_n 0, 1) := by decide +kernel
theorem dX7_findRows_36 : decode cX7_findRows 36 = .ok (.getfield 13, 3) := by decide +kernel
theorem dX7_findRows_39 : decode cX7_findRows 39 = .ok (.iload 4, 2) := by decide +kernel
theorem dX7_findRows_41 : decode cX7_findRows 41 = .ok (.iaload, 1) := by decide +kernel
theorem dX7_findRows_42 : decode cX7_findRows 42 = .ok (.i2l, 1) := by decide +kernel
theorem dX7_findRows_43 : decode cX7_findRows 43 = .ok (.lstore 7, 2) := by decide +kernel
theorem dX7_findRows_45 : decode cX7_findRows 45 = .ok (.aload_n 0, 1) := by decide +kernel
theorem dX7_findRows_46 : decode cX7_findRows 46 = .ok (.iload 4, 2) := by decide +kernel
theorem dX7_findRows_48 : decode cX7_findRows 48 = .ok (.invokevirtual 78, 3) := by decide +kernel
theorem dX7_findRows_51 : decode cX7_findRows 51 = .ok (.i2l, 1) := by decide +kernel
theorem dX7_findRows_52 : decode cX7_findRows 52 = .ok (.lstore 9, 2) := by decide +kernel
theorem dX7_findRows_54 : decode cX7_findRows 54 = .ok (.iload_n 1, 1) := by decide +kernel
theorem dX7_findRows_55 : decode cX7_findRows 55 = .ok (.ifCond .eq 109, 3) := by decide +kernel
theorem dX7_findRows_58 : decode cX7_findRows 58 = .ok (.lload_n 2, 1) := by decide +kernel
theorem dX7_findRows_59 : decode cX7_findRows 59 = .ok (.aload_n 0, 1) := by decide +kernel
theorem dX7_findRows_60 : decode cX7_findRows 60 = .ok (.getfield 20, 3) := by decide +kernel
theorem dX7_findRows_63 : decode cX7_findRows 63 = .ok (.iload 4, 2) := by decide +kernel
theorem dX7_findRows_65 : decode cX7_findRows 65 = .ok (.iaload, 1) := by decide +kernel
theorem dX7_findRows_66 : decode cX7_findRows 66 = .ok (.aload_n 0, 1) := by decide +kernel
theorem dX7_findRows_67 : decode cX7_findRows 67 = .ok (.getfield 17, 3) := by decide +kernel
theorem dX7_findRows_70 : decode cX7_findRows 70 = .ok (.iload 4, 2) := by decide +kernel
theorem dX7_findRows_72 : decode cX7_findRows 72 = .ok (.iaload, 1) := by decide +kernel
theorem dX7_findRows_73 : decode cX7_findRows 73 = .ok (.isub, 1) := by decide +kernel
theorem dX7_findRows_74 : decode cX7_findRows 74 = .ok (.i2l, 1) := by decide +kernel
theorem dX7_findRows_75 : decode cX7_findRows 75 = .ok (.lmul, 1) := by decide +kernel
theorem dX7_findRows_76 : decode cX7_findRows 76 = .ok (.lstore 11, 2) := by decide +kernel
theorem dX7_findRows_78 : decode cX7_findRows 78 = .ok (.lload_n 2, 1) := by decide +kernel
theorem dX7_findRows_79 : decode cX7_findRows 79 = .ok (.aload_n 0, 1) := by decide +kernel
theorem dX7_findRows_80 : decode cX7_findRows 80 = .ok (.getfield 20, 3) := by decide +kernel
theorem dX7_findRows_83 : decode cX7_findRows 83 = .ok (.iload 4, 2) := by decide +kernel
theorem dX7_findRows_85 : decode cX7_findRows 85 = .ok (.iaload, 1) := by decide +kernel
theorem dX7_findRows_86 : decode cX7_findRows 86 = .ok (.aload_n 0, 1) := by decide +kernel
theorem dX7_findRows_87 : decode cX7_findRows 87 = .ok (.getfield 17, 3) := by decide +kernel
theorem dX7_findRows_90 : decode cX7_findRows 90 = .ok (.iload 4, 2) := by decide +kernel
theorem dX7_findRows_92 : decode cX7_findRows 92 = .ok (.iaload, 1) := by decide +kernel
theorem dX7_findRows_93 : decode cX7_findRows 93 = .ok (.iadd, 1) := by decide +kernel
theorem dX7_findRows_94 : decode cX7_findRows 94 = .ok (.i2l, 1) := by decide +kernel
theorem dX7_findRows_95 : decode cX7_findRows 95 = .ok (.lmul, 1) := by decide +kernel
theorem dX7_findRows_96 : decode cX7_findRows 96 = .ok (.lstore 13, 2) := by decide +kernel
theorem dX7_findRows_98 : decode cX7_findRows 98 = .ok (.aload_n 0, 1) := by decide +kernel
theorem dX7_findRows_99 : decode cX7_findRows 99 = .ok (.iconst 2, 1) := by decide +kernel
theorem dX7_findRows_100 : decode cX7_findRows 100 = .ok (.iload 4, 2) := by decide +kernel
theorem dX7_findRows_102 : decode cX7_findRows 102 = .ok (.imul, 1) := by decide +kernel
theorem dX7_findRows_103 : decode cX7_findRows 103 = .ok (.ldc2_w 55, 3) := by decide +kernel
theorem dX7_findRows_106 : decode cX7_findRows 106 = .ok (.lload 5, 2) := by decide +kernel
theorem dX7_findRows_108 : decode cX7_findRows 108 = .ok (.lmul, 1) := by decide +kernel
theorem dX7_findRows_109 : decode cX7_findRows 109 = .ok (.ldc2_w 55, 3) := by decide +kernel
theorem dX7_findRows_112 : decode cX7_findRows 112 = .ok (.lload 7, 2) := by decide +kernel
theorem dX7_findRows_114 : decode cX7_findRows 114 = .ok (.lmul, 1) := by decide +kernel
theorem dX7_findRows_115 : decode cX7_findRows 115 = .ok (.ldc2_w 55, 3) := by decide +kernel
theorem dX7_findRows_118 : decode cX7_findRows 118 = .ok (.lload 9, 2) := by decide +kernel
theorem dX7_findRows_120 : decode cX7_findRows 120 = .ok (.lmul, 1) := by decide +kernel
theorem dX7_findRows_121 : decode cX7_findRows 121 = .ok (.lload 11, 2) := by decide +kernel
theorem dX7_findRows_123 : decode cX7_findRows 123 = .ok (.lload 13, 2) := by decide +kernel
theorem dX7_findRows_125 : decode cX7_findRows 125 = .ok (.invokevirtual 82, 3) := by decide +kernel
theorem dX7_findRows_128 : decode cX7_findRows 128 = .ok (.aload_n 0, 1) := by decide +kernel
theorem dX7_findRows_129 : decode cX7_findRows 129 = .ok (.iconst 2, 1) := by decide +kernel
theorem dX7_findRows_130 : decode cX7_findRows 130 = .ok (.iload 4, 2) := by decide +kernel
theorem dX7_findRows_132 : decode cX7_findRows 132 = .ok (.imul, 1) := by decide +kernel
theorem dX7_findRows_133 : decode cX7_findRows 133 = .ok (.iconst 1, 1) := by decide +kernel
theorem dX7_findRows_134 : decode cX7_findRows 134 = .ok (.iadd, 1) := by decide +kernel
theorem dX7_findRows_135 : decode cX7_findRows 135 = .ok (.ldc2_w 86, 3) := by decide +kernel
theorem dX7_findRows_138 : decode cX7_findRows 138 = .ok (.lload 5, 2) := by decide +kernel
theorem dX7_findRows_140 : decode cX7_findRows 140 = .ok (.lmul, 1) := by decide +kernel
theorem dX7_findRows_141 : decode cX7_findRows 141 = .ok (.ldc2_w 86, 3) := by decide +kernel
theorem dX7_findRows_144 : decode cX7_findRows 144 = .ok (.lload 7, 2) := by decide +kernel
theorem dX7_findRows_146 : decode cX7_findRows 146 = .ok (.lmul, 1) := by decide +kernel
theorem dX7_findRows_147 : decode cX7_findRows 147 = .ok (.ldc2_w 86, 3) := by decide +kernel
theorem dX7_findRows_150 : decode cX7_findRows 150 = .ok (.lload 9, 2) := by decide +kernel
theorem dX7_findRows_152 : decode cX7_findRows 152 = .ok (.lmul, 1) := by decide +kernel
theorem dX7_findRows_153 : decode cX7_findRows 153 = .ok (.lload 11, 2) := by decide +kernel
theorem dX7_findRows_155 : decode cX7_findRows 155 = .ok (.lload 13, 2) := by decide +kernel
theorem dX7_findRows_157 : decode cX7_findRows 157 = .ok (.lneg, 1) := by decide +kernel
theorem dX7_findRows_158 : decode cX7_findRows 158 = .ok (.invokevirtual 82, 3) := by decide +kernel
theorem dX7_findRows_161 : decode cX7_findRows 161 = .ok (.goto 59, 3) := by decide +kernel
theorem dX7_findRows_164 : decode cX7_findRows 164 = .ok (.aload_n 0, 1) := by decide +kernel
theorem dX7_findRows_165 : decode cX7_findRows 165 = .ok (.iconst 2, 1) := by decide +kernel
theorem dX7_findRows_166 : decode cX7_findRows 166 = .ok (.iload 4, 2) := by decide +kernel
theorem dX7_findRows_168 : decode cX7_findRows 168 = .ok (.imul, 1) := by decide +kernel
theorem dX7_findRows_169 : decode cX7_findRows 169 = .ok (.lload 5, 2) := by decide +kernel
theorem dX7_findRows_171 : decode cX7_findRows 171 = .ok (.lload 7, 2) := by decide +kernel
theorem dX7_findRows_173 : decode cX7_findRows 173 = .ok (.lload 9, 2) := by decide +kernel
theorem dX7_findRows_175 : decode cX7_findRows 175 = .ok (.lconst 0, 1) := by decide +kernel
theorem dX7_findRows_176 : decode cX7_findRows 176 = .ok (.lload_n 2, 1) := by decide +kernel
theorem dX7_findRows_177 : decode cX7_findRows 177 = .ok (.aload_n 0, 1) := by decide +kernel
theorem dX7_findRows_178 : decode cX7_findRows 178 = .ok (.getfield 17, 3) := by decide +kernel
theorem dX7_findRows_181 : decode cX7_findRows 181 = .ok (.iload 4, 2) := by decide +kernel
theorem dX7_findRows_183 : decode cX7_findRows 183 = .ok (.iaload, 1) := by decide +kernel
theorem dX7_findRows_184 : decode cX7_findRows 184 = .ok (.i2l, 1) := by decide +kernel
theorem dX7_findRows_185 : decode cX7_findRows 185 = .ok (.lmul, 1) := by decide +kernel
theorem dX7_findRows_186 : decode cX7_findRows 186 = .ok (.invokevirtual 82, 3) := by decide +kernel
theorem dX7_findRows_189 : decode cX7_findRows 189 = .ok (.aload_n 0, 1) := by decide +kernel
theorem dX7_findRows_190 : decode cX7_findRows 190 = .ok (.iconst 2, 1) := by decide +kernel
theorem dX7_findRows_191 : decode cX7_findRows 191 = .ok (.iload 4, 2) := by decide +kernel
theorem dX7_findRows_193 : decode cX7_findRows 193 = .ok (.imul, 1) := by decide +kernel
theorem dX7_findRows_194 : decode cX7_findRows 194 = .ok (.iconst 1, 1) := by decide +kernel
theorem dX7_findRows_195 : decode cX7_findRows 195 = .ok (.iadd, 1) := by decide +kernel
theorem dX7_findRows_196 : decode cX7_findRows 196 = .ok (.lload 5, 2) := by decide +kernel
theorem dX7_findRows_198 : decode cX7_findRows 198 = .ok (.lneg, 1) := by decide +kernel
theorem dX7_findRows_199 : decode cX7_findRows 199 = .ok (.lload 7, 2) := by decide +kernel
theorem dX7_findRows_201 : decode cX7_findRows 201 = .ok (.lneg, 1) := by decide +kernel
theorem dX7_findRows_202 : decode cX7_findRows 202 = .ok (.lload 9, 2) := by decide +kernel
theorem dX7_findRows_204 : decode cX7_findRows 204 = .ok (.lneg, 1) := by decide +kernel
theorem dX7_findRows_205 : decode cX7_findRows 205 = .ok (.lconst 0, 1) := by decide +kernel
theorem dX7_findRows_206 : decode cX7_findRows 206 = .ok (.lload_n 2, 1) := by decide +kernel
theorem dX7_findRows_207 : decode cX7_findRows 207 = .ok (.lneg, 1) := by decide +kernel
theorem dX7_findRows_208 : decode cX7_findRows 208 = .ok (.aload_n 0, 1) := by decide +kernel
theorem dX7_findRows_209 : decode cX7_findRows 209 = .ok (.getfield 20, 3) := by decide +kernel
theorem dX7_findRows_212 : decode cX7_findRows 212 = .ok (.iload 4, 2) := by decide +kernel
theorem dX7_findRows_214 : decode cX7_findRows 214 = .ok (.iaload, 1) := by decide +kernel
theorem dX7_findRows_215 : decode cX7_findRows 215 = .ok (.i2l, 1) := by decide +kernel
theorem dX7_findRows_216 : decode cX7_findRows 216 = .ok (.lmul, 1) := by decide +kernel
theorem dX7_findRows_217 : decode cX7_findRows 217 = .ok (.invokevirtual 82, 3) := by decide +kernel
theorem dX7_findRows_220 : decode cX7_findRows 220 = .ok (.iinc 4 1, 3) := by decide +kernel
theorem dX7_findRows_223 : decode cX7_findRows 223 = .ok (.goto (-209), 3) := by decide +kernel
theorem dX7_findRows_226 : decode cX7_findRows 226 = .ok (.aload_n 0, 1) := by decide +kernel
theorem dX7_findRows_227 : decode cX7_findRows 227 = .ok (.iconst 2, 1) := by decide +kernel
theorem dX7_findRows_228 : decode cX7_findRows 228 = .ok (.aload_n 0, 1) := by decide +kernel
theorem dX7_findRows_229 : decode cX7_findRows 229 = .ok (.getfield 7, 3) := by decide +kernel
theorem dX7_findRows_232 : decode cX7_findRows 232 = .ok (.imul, 1) := by decide +kernel
theorem dX7_findRows_233 : decode cX7_findRows 233 = .ok (.iconst 2, 1) := by decide +kernel
theorem dX7_findRows_234 : decode cX7_findRows 234 = .ok (.iadd, 1) := by decide +kernel
theorem dX7_findRows_235 : decode cX7_findRows 235 = .ok (.putfield 88, 3) := by decide +kernel
theorem dX7_findRows_238 : decode cX7_findRows 238 = .ok (.aload_n 0, 1) := by decide +kernel
theorem dX7_findRows_239 : decode cX7_findRows 239 = .ok (.aload_n 0, 1) := by decide +kernel
theorem dX7_findRows_240 : decode cX7_findRows 240 = .ok (.getfield 88, 3) := by decide +kernel
theorem dX7_findRows_243 : decode cX7_findRows 243 = .ok (.lconst 0, 1) := by decide +kernel
theorem dX7_findRows_244 : decode cX7_findRows 244 = .ok (.lconst 0, 1) := by decide +kernel
theorem dX7_findRows_245 : decode cX7_findRows 245 = .ok (.lconst 1, 1) := by decide +kernel
theorem dX7_findRows_246 : decode cX7_findRows 246 = .ok (.lconst 0, 1) := by decide +kernel
theorem dX7_findRows_247 : decode cX7_findRows 247 = .ok (.lconst 0, 1) := by decide +kernel
theorem dX7_findRows_248 : decode cX7_findRows 248 = .ok (.invokevirtual 82, 3) := by decide +kernel
theorem dX7_findRows_251 : decode cX7_findRows 251 = .ok (.aload_n 0, 1) := by decide +kernel
theorem dX7_findRows_252 : decode cX7_findRows 252 = .ok (.dup, 1) := by decide +kernel
theorem dX7_findRows_253 : decode cX7_findRows 253 = .ok (.getfield 88, 3) := by decide +kernel
theorem dX7_findRows_256 : decode cX7_findRows 256 = .ok (.iconst 1, 1) := by decide +kernel
theorem dX7_findRows_257 : decode cX7_findRows 257 = .ok (.iadd, 1) := by decide +kernel
theorem dX7_findRows_258 : decode cX7_findRows 258 = .ok (.putfield 88, 3) := by decide +kernel
theorem dX7_findRows_261 : decode cX7_findRows 261 = .ok (.iload_n 1, 1) := by decide +kernel
theorem dX7_findRows_262 : decode cX7_findRows 262 = .ok (.ifCond .eq 26, 3) := by decide +kernel
theorem dX7_findRows_265 : decode cX7_findRows 265 = .ok (.aload_n 0, 1) := by decide +kernel
theorem dX7_findRows_266 : decode cX7_findRows 266 = .ok (.aload_n 0, 1) := by decide +kernel
theorem dX7_findRows_267 : decode cX7_findRows 267 = .ok (.getfield 88, 3) := by decide +kernel
theorem dX7_findRows_270 : decode cX7_findRows 270 = .ok (.lconst 0, 1) := by decide +kernel
theorem dX7_findRows_271 : decode cX7_findRows 271 = .ok (.lconst 0, 1) := by decide +kernel
theorem dX7_findRows_272 : decode cX7_findRows 272 = .ok (.lconst 0, 1) := by decide +kernel
theorem dX7_findRows_273 : decode cX7_findRows 273 = .ok (.lconst 1, 1) := by decide +kernel
theorem dX7_findRows_274 : decode cX7_findRows 274 = .ok (.lconst 0, 1) := by decide +kernel
theorem dX7_findRows_275 : decode cX7_findRows 275 = .ok (.invokevirtual 82, 3) := by decide +kernel
theorem dX7_findRows_278 : decode cX7_findRows 278 = .ok (.aload_n 0, 1) := by decide +kernel
theorem dX7_findRows_279 : decode cX7_findRows 279 = .ok (.dup, 1) := by decide +kernel
theorem dX7_findRows_280 : decode cX7_findRows 280 = .ok (.getfield 88, 3) := by decide +kernel
theorem dX7_findRows_283 : decode cX7_findRows 283 = .ok (.iconst 1, 1) := by decide +kernel
theorem dX7_findRows_284 : decode cX7_findRows 284 = .ok (.iadd, 1) := by decide +kernel
theorem dX7_findRows_285 : decode cX7_findRows 285 = .ok (.putfield 88, 3) := by decide +kernel
theorem dX7_findRows_288 : decode cX7_findRows 288 = .ok (.return_, 1) := by decide +kernel
theorem dX7_three_0 : decode cX7_three 0 = .ok (.aload_n 0, 1) := by decide +kernel
theorem dX7_three_1 : decode cX7_three 1 = .ok (.getfield 35, 3) := by decide +kernel
theorem dX7_three_4 : decode cX7_three 4 = .ok (.iconst 5, 1) := by decide +kernel
theorem dX7_three_5 : decode cX7_three 5 = .ok (.iload_n 2, 1) := by decide +kernel
theorem dX7_three_6 : decode cX7_three 6 = .ok (.imul, 1) := by decide +kernel
theorem dX7_three_7 : decode cX7_three 7 = .ok (.iload 5, 2) := by decide +kernel
theorem dX7_three_9 : decode cX7_three 9 = .ok (.iadd, 1) := by decide +kernel
theorem dX7_three_10 : decode cX7_three 10 = .ok (.laload, 1) := by decide +kernel
theorem dX7_three_11 : decode cX7_three 11 = .ok (.aload_n 0, 1) := by decide +kernel
theorem dX7_three_12 : decode cX7_three 12 = .ok (.getfield 35, 3) := by decide +kernel
theorem dX7_three_15 : decode cX7_three 15 = .ok (.iconst 5, 1) := by decide +kernel
theorem dX7_three_16 : decode cX7_three 16 = .ok (.iload_n 3, 1) := by decide +kernel
theorem dX7_three_17 : decode cX7_three 17 = .ok (.imul, 1) := by decide +kernel
theorem dX7_three_18 : decode cX7_three 18 = .ok (.iload 6, 2) := by decide +kernel
theorem dX7_three_20 : decode cX7_three 20 = .ok (.iadd, 1) := by decide +kernel
theorem dX7_three_21 : decode cX7_three 21 = .ok (.laload, 1) := by decide +kernel
theorem dX7_three_22 : decode cX7_three 22 = .ok (.lmul, 1) := by decide +kernel
theorem dX7_three_23 : decode cX7_three 23 = .ok (.aload_n 0, 1) := by decide +kernel
theorem dX7_three_24 : decode cX7_three 24 = .ok (.getfield 35, 3) := by decide +kernel
theorem dX7_three_27 : decode cX7_three 27 = .ok (.iconst 5, 1) := by decide +kernel
theorem dX7_three_28 : decode cX7_three 28 = .ok (.iload_n 2, 1) := by decide +kernel
theorem dX7_three_29 : decode cX7_three 29 = .ok (.imul, 1) := by decide +kernel
theorem dX7_three_30 : decode cX7_three 30 = .ok (.iload 6, 2) := by decide +kernel
theorem dX7_three_32 : decode cX7_three 32 = .ok (.iadd, 1) := by decide +kernel
theorem dX7_three_33 : decode cX7_three 33 = .ok (.laload, 1) := by decide +kernel
theorem dX7_three_34 : decode cX7_three 34 = .ok (.aload_n 0, 1) := by decide +kernel
theorem dX7_three_35 : decode cX7_three 35 = .ok (.getfield 35, 3) := by decide +kernel
theorem dX7_three_38 : decode cX7_three 38 = .ok (.iconst 5, 1) := by decide +kernel
theorem dX7_three_39 : decode cX7_three 39 = .ok (.iload_n 3, 1) := by decide +kernel
theorem dX7_three_40 : decode cX7_three 40 = .ok (.imul, 1) := by decide +kernel
theorem dX7_three_41 : decode cX7_three 41 = .ok (.iload 5, 2) := by decide +kernel
theorem dX7_three_43 : decode cX7_three 43 = .ok (.iadd, 1) := by decide +kernel
theorem dX7_three_44 : decode cX7_three 44 = .ok (.laload, 1) := by decide +kernel
theorem dX7_three_45 : decode cX7_three 45 = .ok (.lmul, 1) := by decide +kernel
theorem dX7_three_46 : decode cX7_three 46 = .ok (.lsub, 1) := by decide +kernel
theorem dX7_three_47 : decode cX7_three 47 = .ok (.lstore 7, 2) := by decide +kernel
theorem dX7_three_49 : decode cX7_three 49 = .ok (.aload_n 0, 1) := by decide +kernel
theorem dX7_three_50 : decode cX7_three 50 = .ok (.getfield 35, 3) := by decide +kernel
theorem dX7_three_53 : decode cX7_three 53 = .ok (.iconst 5, 1) := by decide +kernel
theorem dX7_three_54 : decode cX7_three 54 = .ok (.iload_n 2, 1) := by decide +kernel
theorem dX7_three_55 : decode cX7_three 55 = .ok (.imul, 1) := by decide +kernel
theorem dX7_three_56 : decode cX7_three 56 = .ok (.iload 4, 2) := by decide +kernel
theorem dX7_three_58 : decode cX7_three 58 = .ok (.iadd, 1) := by decide +kernel
theorem dX7_three_59 : decode cX7_three 59 = .ok (.laload, 1) := by decide +kernel
theorem dX7_three_60 : decode cX7_three 60 = .ok (.aload_n 0, 1) := by decide +kernel
theorem dX7_three_61 : decode cX7_three 61 = .ok (.getfield 35, 3) := by decide +kernel
theorem dX7_three_64 : decode cX7_three 64 = .ok (.iconst 5, 1) := by decide +kernel
theorem dX7_three_65 : decode cX7_three 65 = .ok (.iload_n 3, 1) := by decide +kernel
theorem dX7_three_66 : decode cX7_three 66 = .ok (.imul, 1) := by decide +kernel
theorem dX7_three_67 : decode cX7_three 67 = .ok (.iload 6, 2) := by decide +kernel
theorem dX7_three_69 : decode cX7_three 69 = .ok (.iadd, 1) := by decide +kernel
theorem dX7_three_70 : decode cX7_three 70 = .ok (.laload, 1) := by decide +kernel
theorem dX7_three_71 : decode cX7_three 71 = .ok (.lmul, 1) := by decide +kernel
theorem dX7_three_72 : decode cX7_three 72 = .ok (.aload_n 0, 1) := by decide +kernel
theorem dX7_three_73 : decode cX7_three 73 = .ok (.getfield 35, 3) := by decide +kernel
theorem dX7_three_76 : decode cX7_three 76 = .ok (.iconst 5, 1) := by decide +kernel
theorem dX7_three_77 : decode cX7_three 77 = .ok (.iload_n 2, 1) := by decide +kernel
theorem dX7_three_78 : decode cX7_three 78 = .ok (.imul, 1) := by decide +kernel
theorem dX7_three_79 : decode cX7_three 79 = .ok (.iload 6, 2) := by decide +kernel
theorem dX7_three_81 : decode cX7_three 81 = .ok (.iadd, 1) := by decide +kernel
theorem dX7_three_82 : decode cX7_three 82 = .ok (.laload, 1) := by decide +kernel
theorem dX7_three_83 : decode cX7_three 83 = .ok (.aload_n 0, 1) := by decide +kernel
theorem dX7_three_84 : decode cX7_three 84 = .ok (.getfield 35, 3) := by decide +kernel
theorem dX7_three_87 : decode cX7_three 87 = .ok (.iconst 5, 1) := by decide +kernel
theorem dX7_three_88 : decode cX7_three 88 = .ok (.iload_n 3, 1) := by decide +kernel
theorem dX7_three_89 : decode cX7_three 89 = .ok (.imul, 1) := by decide +kernel
theorem dX7_three_90 : decode cX7_three 90 = .ok (.iload 4, 2) := by decide +kernel
theorem dX7_three_92 : decode cX7_three 92 = .ok (.iadd, 1) := by decide +kernel
theorem dX7_three_93 : decode cX7_three 93 = .ok (.laload, 1) := by decide +kernel
theorem dX7_three_94 : decode cX7_three 94 = .ok (.lmul, 1) := by decide +kernel
theorem dX7_three_95 : decode cX7_three 95 = .ok (.lsub, 1) := by decide +kernel
theorem dX7_three_96 : decode cX7_three 96 = .ok (.lstore 9, 2) := by decide +kernel
theorem dX7_three_98 : decode cX7_three 98 = .ok (.aload_n 0, 1) := by decide +kernel
theorem dX7_three_99 : decode cX7_three 99 = .ok (.getfield 35, 3) := by decide +kernel
theorem dX7_three_102 : decode cX7_three 102 = .ok (.iconst 5, 1) := by decide +kernel
theorem dX7_three_103 : decode cX7_three 103 = .ok (.iload_n 2, 1) := by decide +kernel
theorem dX7_three_104 : decode cX7_three 104 = .ok (.imul, 1) := by decide +kernel
theorem dX7_three_105 : decode cX7_three 105 = .ok (.iload 4, 2) := by decide +kernel
theorem dX7_three_107 : decode cX7_three 107 = .ok (.iadd, 1) := by decide +kernel
theorem dX7_three_108 : decode cX7_three 108 = .ok (.laload, 1) := by decide +kernel
theorem dX7_three_109 : decode cX7_three 109 = .ok (.aload_n 0, 1) := by decide +kernel
theorem dX7_three_110 : decode cX7_three 110 = .ok (.getfield 35, 3) := by decide +kernel
theorem dX7_three_113 : decode cX7_three 113 = .ok (.iconst 5, 1) := by decide +kernel
theorem dX7_three_114 : decode cX7_three 114 = .ok (.iload_n 3, 1) := by decide +kernel
theorem dX7_three_115 : decode cX7_three 115 = .ok (.imul, 1) := by decide +kernel
theorem dX7_three_116 : decode cX7_three 116 = .ok (.iload 5, 2) := by decide +kernel
theorem dX7_three_118 : decode cX7_three 118 = .ok (.iadd, 1) := by decide +kernel
theorem dX7_three_119 : decode cX7_three 119 = .ok (.laload, 1) := by decide +kernel
theorem dX7_three_120 : decode cX7_three 120 = .ok (.lmul, 1) := by decide +kernel
theorem dX7_three_121 : decode cX7_three 121 = .ok (.aload_n 0, 1) := by decide +kernel
theorem dX7_three_122 : decode cX7_three 122 = .ok (.getfield 35, 3) := by decide +kernel
theorem dX7_three_125 : decode cX7_three 125 = .ok (.iconst 5, 1) := by decide +kernel
theorem dX7_three_126 : decode cX7_three 126 = .ok (.iload_n 2, 1) := by decide +kernel
theorem dX7_three_127 : decode cX7_three 127 = .ok (.imul, 1) := by decide +kernel
theorem dX7_three_128 : decode cX7_three 128 = .ok (.iload 5, 2) := by decide +kernel
theorem dX7_three_130 : decode cX7_three 130 = .ok (.iadd, 1) := by decide +kernel
theorem dX7_three_131 : decode cX7_three 131 = .ok (.laload, 1) := by decide +kernel
theorem dX7_three_132 : decode cX7_three 132 = .ok (.aload_n 0, 1) := by decide +kernel
theorem dX7_three_133 : decode cX7_three 133 = .ok (.getfield 35, 3) := by decide +kernel
theorem dX7_three_136 : decode cX7_three 136 = .ok (.iconst 5, 1) := by decide +kernel
theorem dX7_three_137 : decode cX7_three 137 = .ok (.iload_n 3, 1) := by decide +kernel
theorem dX7_three_138 : decode cX7_three 138 = .ok (.imul, 1) := by decide +kernel
theorem dX7_three_139 : decode cX7_three 139 = .ok (.iload 4, 2) := by decide +kernel
theorem dX7_three_141 : decode cX7_three 141 = .ok (.iadd, 1) := by decide +kernel
theorem dX7_three_142 : decode cX7_three 142 = .ok (.laload, 1) := by decide +kernel
theorem dX7_three_143 : decode cX7_three 143 = .ok (.lmul, 1) := by decide +kernel
theorem dX7_three_144 : decode cX7_three 144 = .ok (.lsub, 1) := by decide +kernel
theorem dX7_three_145 : decode cX7_three 145 = .ok (.lstore 11, 2) := by decide +kernel
theorem dX7_three_147 : decode cX7_three 147 = .ok (.aload_n 0, 1) := by decide +kernel
theorem dX7_three_148 : decode cX7_three 148 = .ok (.getfield 35, 3) := by decide +kernel
theorem dX7_three_151 : decode cX7_three 151 = .ok (.iconst 5, 1) := by decide +kernel
theorem dX7_three_152 : decode cX7_three 152 = .ok (.iload_n 1, 1) := by decide +kernel
theorem dX7_three_153 : decode cX7_three 153 = .ok (.imul, 1) := by decide +kernel
theorem dX7_three_154 : decode cX7_three 154 = .ok (.iload 4, 2) := by decide +kernel
theorem dX7_three_156 : decode cX7_three 156 = .ok (.iadd, 1) := by decide +kernel
theorem dX7_three_157 : decode cX7_three 157 = .ok (.laload, 1) := by decide +kernel
theorem dX7_three_158 : decode cX7_three 158 = .ok (.lload 7, 2) := by decide +kernel
theorem dX7_three_160 : decode cX7_three 160 = .ok (.lmul, 1) := by decide +kernel
theorem dX7_three_161 : decode cX7_three 161 = .ok (.aload_n 0, 1) := by decide +kernel
theorem dX7_three_162 : decode cX7_three 162 = .ok (.getfield 35, 3) := by decide +kernel
theorem dX7_three_165 : decode cX7_three 165 = .ok (.iconst 5, 1) := by decide +kernel
theorem dX7_three_166 : decode cX7_three 166 = .ok (.iload_n 1, 1) := by decide +kernel
theorem dX7_three_167 : decode cX7_three 167 = .ok (.imul, 1) := by decide +kernel
theorem dX7_three_168 : decode cX7_three 168 = .ok (.iload 5, 2) := by decide +kernel
theorem dX7_three_170 : decode cX7_three 170 = .ok (.iadd, 1) := by decide +kernel
theorem dX7_three_171 : decode cX7_three 171 = .ok (.laload, 1) := by decide +kernel
theorem dX7_three_172 : decode cX7_three 172 = .ok (.lload 9, 2) := by decide +kernel
theorem dX7_three_174 : decode cX7_three 174 = .ok (.lmul, 1) := by decide +kernel
theorem dX7_three_175 : decode cX7_three 175 = .ok (.lsub, 1) := by decide +kernel
theorem dX7_three_176 : decode cX7_three 176 = .ok (.aload_n 0, 1) := by decide +kernel
theorem dX7_three_177 : decode cX7_three 177 = .ok (.getfield 35, 3) := by decide +kernel
theorem dX7_three_180 : decode cX7_three 180 = .ok (.iconst 5, 1) := by decide +kernel
theorem dX7_three_181 : decode cX7_three 181 = .ok (.iload_n 1, 1) := by decide +kernel
theorem dX7_three_182 : decode cX7_three 182 = .ok (.imul, 1) := by decide +kernel
theorem dX7_three_183 : decode cX7_three 183 = .ok (.iload 6, 2) := by decide +kernel
theorem dX7_three_185 : decode cX7_three 185 = .ok (.iadd, 1) := by decide +kernel
theorem dX7_three_186 : decode cX7_three 186 = .ok (.laload, 1) := by decide +kernel
theorem dX7_three_187 : decode cX7_three 187 = .ok (.lload 11, 2) := by decide +kernel
theorem dX7_three_189 : decode cX7_three 189 = .ok (.lmul, 1) := by decide +kernel
theorem dX7_three_190 : decode cX7_three 190 = .ok (.ladd, 1) := by decide +kernel
theorem dX7_three_191 : decode cX7_three 191 = .ok (.lreturn, 1) := by decide +kernel
theorem dX7_keepsAll_0 : decode cX7_keepsAll 0 = .ok (.iconst 0, 1) := by decide +kernel
theorem dX7_keepsAll_1 : decode cX7_keepsAll 1 = .ok (.istore_n 1, 1) := by decide +kernel
theorem dX7_keepsAll_2 : decode cX7_keepsAll 2 = .ok (.iload_n 1, 1) := by decide +kernel
theorem dX7_keepsAll_3 : decode cX7_keepsAll 3 = .ok (.aload_n 0, 1) := by decide +kernel
theorem dX7_keepsAll_4 : decode cX7_keepsAll 4 = .ok (.getfield 88, 3) := by decide +kernel
theorem dX7_keepsAll_7 : decode cX7_keepsAll 7 = .ok (.if_icmp .ge 101, 3) := by decide +kernel
theorem dX7_keepsAll_10 : decode cX7_keepsAll 10 = .ok (.aload_n 0, 1) := by decide +kernel
theorem dX7_keepsAll_11 : decode cX7_keepsAll 11 = .ok (.getfield 35, 3) := by decide +kernel
theorem dX7_keepsAll_14 : decode cX7_keepsAll 14 = .ok (.iconst 5, 1) := by decide +kernel
theorem dX7_keepsAll_15 : decode cX7_keepsAll 15 = .ok (.iload_n 1, 1) := by decide +kernel
theorem dX7_keepsAll_16 : decode cX7_keepsAll 16 = .ok (.imul, 1) := by decide +kernel
theorem dX7_keepsAll_17 : decode cX7_keepsAll 17 = .ok (.laload, 1) := by decide +kernel
theorem dX7_keepsAll_18 : decode cX7_keepsAll 18 = .ok (.aload_n 0, 1) := by decide +kernel
theorem dX7_keepsAll_19 : decode cX7_keepsAll 19 = .ok (.getfield 39, 3) := by decide +kernel
theorem dX7_keepsAll_22 : decode cX7_keepsAll 22 = .ok (.iconst 0, 1) := by decide +kernel
theorem dX7_keepsAll_23 : decode cX7_keepsAll 23 = .ok (.laload, 1) := by decide +kernel
theorem dX7_keepsAll_24 : decode cX7_keepsAll 24 = .ok (.lmul, 1) := by decide +kernel
theorem dX7_keepsAll_25 : decode cX7_keepsAll 25 = .ok (.aload_n 0, 1) := by decide +kernel
theorem dX7_keepsAll_26 : decode cX7_keepsAll 26 = .ok (.getfield 35, 3) := by decide +kernel
theorem dX7_keepsAll_29 : decode cX7_keepsAll 29 = .ok (.iconst 5, 1) := by decide +kernel
theorem dX7_keepsAll_30 : decode cX7_keepsAll 30 = .ok (.iload_n 1, 1) := by decide +kernel
theorem dX7_keepsAll_31 : decode cX7_keepsAll 31 = .ok (.imul, 1) := by decide +kernel
theorem dX7_keepsAll_32 : decode cX7_keepsAll 32 = .ok (.iconst 1, 1) := by decide +kernel
theorem dX7_keepsAll_33 : decode cX7_keepsAll 33 = .ok (.iadd, 1) := by decide +kernel
theorem dX7_keepsAll_34 : decode cX7_keepsAll 34 = .ok (.laload, 1) := by decide +kernel
theorem dX7_keepsAll_35 : decode cX7_keepsAll 35 = .ok (.aload_n 0, 1) := by decide +kernel
theorem dX7_keepsAll_36 : decode cX7_keepsAll 36 = .ok (.getfield 39, 3) := by decide +kernel
theorem dX7_keepsAll_39 : decode cX7_keepsAll 39 = .ok (.iconst 1, 1) := by decide +kernel
theorem dX7_keepsAll_40 : decode cX7_keepsAll 40 = .ok (.laload, 1) := by decide +kernel
theorem dX7_keepsAll_41 : decode cX7_keepsAll 41 = .ok (.lmul, 1) := by decide +kernel
theorem dX7_keepsAll_42 : decode cX7_keepsAll 42 = .ok (.ladd, 1) := by decide +kernel
theorem dX7_keepsAll_43 : decode cX7_keepsAll 43 = .ok (.aload_n 0, 1) := by decide +kernel
theorem dX7_keepsAll_44 : decode cX7_keepsAll 44 = .ok (.getfield 35, 3) := by decide +kernel
theorem dX7_keepsAll_47 : decode cX7_keepsAll 47 = .ok (.iconst 5, 1) := by decide +kernel
theorem dX7_keepsAll_48 : decode cX7_keepsAll 48 = .ok (.iload_n 1, 1) := by decide +kernel
theorem dX7_keepsAll_49 : decode cX7_keepsAll 49 = .ok (.imul, 1) := by decide +kernel
theorem dX7_keepsAll_50 : decode cX7_keepsAll 50 = .ok (.iconst 2, 1) := by decide +kernel
theorem dX7_keepsAll_51 : decode cX7_keepsAll 51 = .ok (.iadd, 1) := by decide +kernel
theorem dX7_keepsAll_52 : decode cX7_keepsAll 52 = .ok (.laload, 1) := by decide +kernel
theorem dX7_keepsAll_53 : decode cX7_keepsAll 53 = .ok (.aload_n 0, 1) := by decide +kernel
theorem dX7_keepsAll_54 : decode cX7_keepsAll 54 = .ok (.getfield 39, 3) := by decide +kernel
theorem dX7_keepsAll_57 : decode cX7_keepsAll 57 = .ok (.iconst 2, 1) := by decide +kernel
theorem dX7_keepsAll_58 : decode cX7_keepsAll 58 = .ok (.laload, 1) := by decide +kernel
theorem dX7_keepsAll_59 : decode cX7_keepsAll 59 = .ok (.lmul, 1) := by decide +kernel
theorem dX7_keepsAll_60 : decode cX7_keepsAll 60 = .ok (.ladd, 1) := by decide +kernel
theorem dX7_keepsAll_61 : decode cX7_keepsAll 61 = .ok (.aload_n 0, 1) := by decide +kernel
theorem dX7_keepsAll_62 : decode cX7_keepsAll 62 = .ok (.getfield 35, 3) := by decide +kernel
theorem dX7_keepsAll_65 : decode cX7_keepsAll 65 = .ok (.iconst 5, 1) := by decide +kernel
theorem dX7_keepsAll_66 : decode cX7_keepsAll 66 = .ok (.iload_n 1, 1) := by decide +kernel
theorem dX7_keepsAll_67 : decode cX7_keepsAll 67 = .ok (.imul, 1) := by decide +kernel
theorem dX7_keepsAll_68 : decode cX7_keepsAll 68 = .ok (.iconst 3, 1) := by decide +kernel
theorem dX7_keepsAll_69 : decode cX7_keepsAll 69 = .ok (.iadd, 1) := by decide +kernel
theorem dX7_keepsAll_70 : decode cX7_keepsAll 70 = .ok (.laload, 1) := by decide +kernel
theorem dX7_keepsAll_71 : decode cX7_keepsAll 71 = .ok (.aload_n 0, 1) := by decide +kernel
theorem dX7_keepsAll_72 : decode cX7_keepsAll 72 = .ok (.getfield 39, 3) := by decide +kernel
theorem dX7_keepsAll_75 : decode cX7_keepsAll 75 = .ok (.iconst 3, 1) := by decide +kernel
theorem dX7_keepsAll_76 : decode cX7_keepsAll 76 = .ok (.laload, 1) := by decide +kernel
theorem dX7_keepsAll_77 : decode cX7_keepsAll 77 = .ok (.lmul, 1) := by decide +kernel
theorem dX7_keepsAll_78 : decode cX7_keepsAll 78 = .ok (.ladd, 1) := by decide +kernel
theorem dX7_keepsAll_79 : decode cX7_keepsAll 79 = .ok (.lstore_n 2, 1) := by decide +kernel
theorem dX7_keepsAll_80 : decode cX7_keepsAll 80 = .ok (.lload_n 2, 1) := by decide +kernel
theorem dX7_keepsAll_81 : decode cX7_keepsAll 81 = .ok (.aload_n 0, 1) := by decide +kernel
theorem dX7_keepsAll_82 : decode cX7_keepsAll 82 = .ok (.getfield 35, 3) := by decide +kernel
theorem dX7_keepsAll_85 : decode cX7_keepsAll 85 = .ok (.iconst 5, 1) := by decide +kernel
theorem dX7_keepsAll_86 : decode cX7_keepsAll 86 = .ok (.iload_n 1, 1) := by decide +kernel
theorem dX7_keepsAll_87 : decode cX7_keepsAll 87 = .ok (.imul, 1) := by decide +kernel
theorem dX7_keepsAll_88 : decode cX7_keepsAll 88 = .ok (.iconst 4, 1) := by decide +kernel
theorem dX7_keepsAll_89 : decode cX7_keepsAll 89 = .ok (.iadd, 1) := by decide +kernel
theorem dX7_keepsAll_90 : decode cX7_keepsAll 90 = .ok (.laload, 1) := by decide +kernel
theorem dX7_keepsAll_91 : decode cX7_keepsAll 91 = .ok (.aload_n 0, 1) := by decide +kernel
theorem dX7_keepsAll_92 : decode cX7_keepsAll 92 = .ok (.getfield 91, 3) := by decide +kernel
theorem dX7_keepsAll_95 : decode cX7_keepsAll 95 = .ok (.lmul, 1) := by decide +kernel
theorem dX7_keepsAll_96 : decode cX7_keepsAll 96 = .ok (.lcmp, 1) := by decide +kernel
theorem dX7_keepsAll_97 : decode cX7_keepsAll 97 = .ok (.ifCond .ge 5, 3) := by decide +kernel
theorem dX7_keepsAll_100 : decode cX7_keepsAll 100 = .ok (.iconst 0, 1) := by decide +kernel
theorem dX7_keepsAll_101 : decode cX7_keepsAll 101 = .ok (.ireturn, 1) := by decide +kernel
theorem dX7_keepsAll_102 : decode cX7_keepsAll 102 = .ok (.iinc 1 1, 3) := by decide +kernel
theorem dX7_keepsAll_105 : decode cX7_keepsAll 105 = .ok (.goto (-103), 3) := by decide +kernel
theorem dX7_keepsAll_108 : decode cX7_keepsAll 108 = .ok (.iconst 1, 1) := by decide +kernel
theorem dX7_keepsAll_109 : decode cX7_keepsAll 109 = .ok (.ireturn, 1) := by decide +kernel
theorem dX7_turnSpot_0 : decode cX7_turnSpot 0 = .ok (.aload_n 0, 1) := by decide +kernel
theorem dX7_turnSpot_1 : decode cX7_turnSpot 1 = .ok (.getfield 91, 3) := by decide +kernel
theorem dX7_turnSpot_4 : decode cX7_turnSpot 4 = .ok (.lconst 0, 1) := by decide +kernel
theorem dX7_turnSpot_5 : decode cX7_turnSpot 5 = .ok (.lcmp, 1) := by decide +kernel
theorem dX7_turnSpot_6 : decode cX7_turnSpot 6 = .ok (.ifCond .ge 38, 3) := by decide +kernel
theorem dX7_turnSpot_9 : decode cX7_turnSpot 9 = .ok (.aload_n 0, 1) := by decide +kernel
theorem dX7_turnSpot_10 : decode cX7_turnSpot 10 = .ok (.aload_n 0, 1) := by decide +kernel
theorem dX7_turnSpot_11 : decode cX7_turnSpot 11 = .ok (.getfield 91, 3) := by decide +kernel
theorem dX7_turnSpot_14 : decode cX7_turnSpot 14 = .ok (.lneg, 1) := by decide +kernel
theorem dX7_turnSpot_15 : decode cX7_turnSpot 15 = .ok (.putfield 91, 3) := by decide +kernel
theorem dX7_turnSpot_18 : decode cX7_turnSpot 18 = .ok (.iconst 0, 1) := by decide +kernel
theorem dX7_turnSpot_19 : decode cX7_turnSpot 19 = .ok (.istore_n 1, 1) := by decide +kernel
theorem dX7_turnSpot_20 : decode cX7_turnSpot 20 = .ok (.iload_n 1, 1) := by decide +kernel
theorem dX7_turnSpot_21 : decode cX7_turnSpot 21 = .ok (.iconst 4, 1) := by decide +kernel
theorem dX7_turnSpot_22 : decode cX7_turnSpot 22 = .ok (.if_icmp .ge 22, 3) := by decide +kernel
theorem dX7_turnSpot_25 : decode cX7_turnSpot 25 = .ok (.aload_n 0, 1) := by decide +kernel
theorem dX7_turnSpot_26 : decode cX7_turnSpot 26 = .ok (.getfield 39, 3) := by decide +kernel
theorem dX7_turnSpot_29 : decode cX7_turnSpot 29 = .ok (.iload_n 1, 1) := by decide +kernel
theorem dX7_turnSpot_30 : decode cX7_turnSpot 30 = .ok (.aload_n 0, 1) := by decide +kernel
theorem dX7_turnSpot_31 : decode cX7_turnSpot 31 = .ok (.getfield 39, 3) := by decide +kernel
theorem dX7_turnSpot_34 : decode cX7_turnSpot 34 = .ok (.iload_n 1, 1) := by decide +kernel
theorem dX7_turnSpot_35 : decode cX7_turnSpot 35 = .ok (.laload, 1) := by decide +kernel
theorem dX7_turnSpot_36 : decode cX7_turnSpot 36 = .ok (.lneg, 1) := by decide +kernel
theorem dX7_turnSpot_37 : decode cX7_turnSpot 37 = .ok (.lastore, 1) := by decide +kernel
theorem dX7_turnSpot_38 : decode cX7_turnSpot 38 = .ok (.iinc 1 1, 3) := by decide +kernel
theorem dX7_turnSpot_41 : decode cX7_turnSpot 41 = .ok (.goto (-21), 3) := by decide +kernel
theorem dX7_turnSpot_44 : decode cX7_turnSpot 44 = .ok (.return_, 1) := by decide +kernel
theorem dX7_meetThree_0 : decode cX7_meetThree 0 = .ok (.aload_n 0, 1) := by decide +kernel
theorem dX7_meetThree_1 : decode cX7_meetThree 1 = .ok (.aload_n 0, 1) := by decide +kernel
theorem dX7_meetThree_2 : decode cX7_meetThree 2 = .ok (.iload_n 1, 1) := by decide +kernel
theorem dX7_meetThree_3 : decode cX7_meetThree 3 = .ok (.iload_n 2, 1) := by decide +kernel
theorem dX7_meetThree_4 : decode cX7_meetThree 4 = .ok (.iload_n 3, 1) := by decide +kernel
theorem dX7_meetThree_5 : decode cX7_meetThree 5 = .ok (.iconst 0, 1) := by decide +kernel
theorem dX7_meetThree_6 : decode cX7_meetThree 6 = .ok (.iconst 1, 1) := by decide +kernel
theorem dX7_meetThree_7 : decode cX7_meetThree 7 = .ok (.iconst 2, 1) := by decide +kernel
theorem dX7_meetThree_8 : decode cX7_meetThree 8 = .ok (.invokevirtual 95, 3) := by decide +kernel
theorem dX7_meetThree_11 : decode cX7_meetThree 11 = .ok (.putfield 91, 3) := by decide +kernel
theorem dX7_meetThree_14 : decode cX7_meetThree 14 = .ok (.aload_n 0, 1) := by decide +kernel
theorem dX7_meetThree_15 : decode cX7_meetThree 15 = .ok (.getfield 91, 3) := by decide +kernel
theorem dX7_meetThree_18 : decode cX7_meetThree 18 = .ok (.lconst 0, 1) := by decide +kernel
theorem dX7_meetThree_19 : decode cX7_meetThree 19 = .ok (.lcmp, 1) := by decide +kernel
theorem dX7_meetThree_20 : decode cX7_meetThree 20 = .ok (.ifCond .ne 5, 3) := by decide +kernel
theorem dX7_meetThree_23 : decode cX7_meetThree 23 = .ok (.iconst 0, 1) := by decide +kernel
theorem dX7_meetThree_24 : decode cX7_meetThree 24 = .ok (.ireturn, 1) := by decide +kernel
theorem dX7_meetThree_25 : decode cX7_meetThree 25 = .ok (.aload_n 0, 1) := by decide +kernel
theorem dX7_meetThree_26 : decode cX7_meetThree 26 = .ok (.getfield 39, 3) := by decide +kernel
theorem dX7_meetThree_29 : decode cX7_meetThree 29 = .ok (.iconst 0, 1) := by decide +kernel
theorem dX7_meetThree_30 : decode cX7_meetThree 30 = .ok (.aload_n 0, 1) := by decide +kernel
theorem dX7_meetThree_31 : decode cX7_meetThree 31 = .ok (.iload_n 1, 1) := by decide +kernel
theorem dX7_meetThree_32 : decode cX7_meetThree 32 = .ok (.iload_n 2, 1) := by decide +kernel
theorem dX7_meetThree_33 : decode cX7_meetThree 33 = .ok (.iload_n 3, 1) := by decide +kernel
theorem dX7_meetThree_34 : decode cX7_meetThree 34 = .ok (.iconst 4, 1) := by decide +kernel
theorem dX7_meetThree_35 : decode cX7_meetThree 35 = .ok (.iconst 1, 1) := by decide +kernel
theorem dX7_meetThree_36 : decode cX7_meetThree 36 = .ok (.iconst 2, 1) := by decide +kernel
theorem dX7_meetThree_37 : decode cX7_meetThree 37 = .ok (.invokevirtual 95, 3) := by decide +kernel
theorem dX7_meetThree_40 : decode cX7_meetThree 40 = .ok (.lastore, 1) := by decide +kernel
theorem dX7_meetThree_41 : decode cX7_meetThree 41 = .ok (.aload_n 0, 1) := by decide +kernel
theorem dX7_meetThree_42 : decode cX7_meetThree 42 = .ok (.getfield 39, 3) := by decide +kernel
theorem dX7_meetThree_45 : decode cX7_meetThree 45 = .ok (.iconst 1, 1) := by decide +kernel
theorem dX7_meetThree_46 : decode cX7_meetThree 46 = .ok (.aload_n 0, 1) := by decide +kernel
theorem dX7_meetThree_47 : decode cX7_meetThree 47 = .ok (.iload_n 1, 1) := by decide +kernel
theorem dX7_meetThree_48 : decode cX7_meetThree 48 = .ok (.iload_n 2, 1) := by decide +kernel
theorem dX7_meetThree_49 : decode cX7_meetThree 49 = .ok (.iload_n 3, 1) := by decide +kernel
theorem dX7_meetThree_50 : decode cX7_meetThree 50 = .ok (.iconst 0, 1) := by decide +kernel
theorem dX7_meetThree_51 : decode cX7_meetThree 51 = .ok (.iconst 4, 1) := by decide +kernel
theorem dX7_meetThree_52 : decode cX7_meetThree 52 = .ok (.iconst 2, 1) := by decide +kernel
theorem dX7_meetThree_53 : decode cX7_meetThree 53 = .ok (.invokevirtual 95, 3) := by decide +kernel
theorem dX7_meetThree_56 : decode cX7_meetThree 56 = .ok (.lastore, 1) := by decide +kernel
theorem dX7_meetThree_57 : decode cX7_meetThree 57 = .ok (.aload_n 0, 1) := by decide +kernel
