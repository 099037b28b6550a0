theorem dX0_init_0 : decode cX0_init 0 = .ok (.aload_n 0, 1) := by decide +kernel
theorem dX0_init_1 : decode cX0_init 1 = .ok (.invokespecial 3, 3) := by decide +kernel
theorem dX0_init_4 : decode cX0_init 4 = .ok (.aload_n 0, 1) := by decide +kernel
theorem dX0_init_5 : decode cX0_init 5 = .ok (.new 9, 3) := by decide +kernel
theorem dX0_init_8 : decode cX0_init 8 = .ok (.dup, 1) := by decide +kernel
theorem dX0_init_9 : decode cX0_init 9 = .ok (.bipush 20, 2) := by decide +kernel
theorem dX0_init_11 : decode cX0_init 11 = .ok (.invokespecial 13, 3) := by decide +kernel
theorem dX0_init_14 : decode cX0_init 14 = .ok (.putfield 16, 3) := by decide +kernel
theorem dX0_init_17 : decode cX0_init 17 = .ok (.aload_n 0, 1) := by decide +kernel
theorem dX0_init_18 : decode cX0_init 18 = .ok (.iconst 0, 1) := by decide +kernel
theorem dX0_init_19 : decode cX0_init 19 = .ok (.putfield 20, 3) := by decide +kernel
theorem dX0_init_22 : decode cX0_init 22 = .ok (.aload_n 0, 1) := by decide +kernel
theorem dX0_init_23 : decode cX0_init 23 = .ok (.iconst 0, 1) := by decide +kernel
theorem dX0_init_24 : decode cX0_init 24 = .ok (.putfield 24, 3) := by decide +kernel
theorem dX0_init_27 : decode cX0_init 27 = .ok (.aload_n 0, 1) := by decide +kernel
theorem dX0_init_28 : decode cX0_init 28 = .ok (.iconst 0, 1) := by decide +kernel
theorem dX0_init_29 : decode cX0_init 29 = .ok (.putfield 27, 3) := by decide +kernel
theorem dX0_init_32 : decode cX0_init 32 = .ok (.aload_n 0, 1) := by decide +kernel
theorem dX0_init_33 : decode cX0_init 33 = .ok (.iconst 0, 1) := by decide +kernel
theorem dX0_init_34 : decode cX0_init 34 = .ok (.putfield 30, 3) := by decide +kernel
theorem dX0_init_37 : decode cX0_init 37 = .ok (.return_, 1) := by decide +kernel
theorem dX0_forget_0 : decode cX0_forget 0 = .ok (.aload_n 0, 1) := by decide +kernel
theorem dX0_forget_1 : decode cX0_forget 1 = .ok (.getfield 16, 3) := by decide +kernel
theorem dX0_forget_4 : decode cX0_forget 4 = .ok (.invokevirtual 33, 3) := by decide +kernel
theorem dX0_forget_7 : decode cX0_forget 7 = .ok (.aload_n 0, 1) := by decide +kernel
theorem dX0_forget_8 : decode cX0_forget 8 = .ok (.iconst 0, 1) := by decide +kernel
theorem dX0_forget_9 : decode cX0_forget 9 = .ok (.putfield 20, 3) := by decide +kernel
theorem dX0_forget_12 : decode cX0_forget 12 = .ok (.return_, 1) := by decide +kernel
theorem dX0_run_0 : decode cX0_run 0 = .ok (.iload 4, 2) := by decide +kernel
theorem dX0_run_2 : decode cX0_run 2 = .ok (.bipush 20, 2) := by decide +kernel
theorem dX0_run_4 : decode cX0_run 4 = .ok (.if_icmp .le 5, 3) := by decide +kernel
theorem dX0_run_7 : decode cX0_run 7 = .ok (.iconst 0, 1) := by decide +kernel
theorem dX0_run_8 : decode cX0_run 8 = .ok (.ireturn, 1) := by decide +kernel
theorem dX0_run_9 : decode cX0_run 9 = .ok (.iload_n 2, 1) := by decide +kernel
theorem dX0_run_10 : decode cX0_run 10 = .ok (.istore 5, 2) := by decide +kernel
theorem dX0_run_12 : decode cX0_run 12 = .ok (.iconst 0, 1) := by decide +kernel
theorem dX0_run_13 : decode cX0_run 13 = .ok (.istore 6, 2) := by decide +kernel
theorem dX0_run_15 : decode cX0_run 15 = .ok (.iload 6, 2) := by decide +kernel
theorem dX0_run_17 : decode cX0_run 17 = .ok (.bipush 7, 2) := by decide +kernel
theorem dX0_run_19 : decode cX0_run 19 = .ok (.if_icmp .ge 26, 3) := by decide +kernel
theorem dX0_run_22 : decode cX0_run 22 = .ok (.iload 5, 2) := by decide +kernel
theorem dX0_run_24 : decode cX0_run 24 = .ok (.iload_n 1, 1) := by decide +kernel
theorem dX0_run_25 : decode cX0_run 25 = .ok (.invokestatic 36, 3) := by decide +kernel
theorem dX0_run_28 : decode cX0_run 28 = .ok (.iconst (-1), 1) := by decide +kernel
theorem dX0_run_29 : decode cX0_run 29 = .ok (.if_icmp .ne 16, 3) := by decide +kernel
theorem dX0_run_32 : decode cX0_run 32 = .ok (.iload 5, 2) := by decide +kernel
theorem dX0_run_34 : decode cX0_run 34 = .ok (.invokestatic 40, 3) := by decide +kernel
theorem dX0_run_37 : decode cX0_run 37 = .ok (.istore 5, 2) := by decide +kernel
theorem dX0_run_39 : decode cX0_run 39 = .ok (.iinc 6 1, 3) := by decide +kernel
theorem dX0_run_42 : decode cX0_run 42 = .ok (.goto (-27), 3) := by decide +kernel
theorem dX0_run_45 : decode cX0_run 45 = .ok (.iload 5, 2) := by decide +kernel
theorem dX0_run_47 : decode cX0_run 47 = .ok (.iload_n 1, 1) := by decide +kernel
theorem dX0_run_48 : decode cX0_run 48 = .ok (.invokestatic 36, 3) := by decide +kernel
theorem dX0_run_51 : decode cX0_run 51 = .ok (.istore 6, 2) := by decide +kernel
theorem dX0_run_53 : decode cX0_run 53 = .ok (.iload 6, 2) := by decide +kernel
theorem dX0_run_55 : decode cX0_run 55 = .ok (.iconst (-1), 1) := by decide +kernel
theorem dX0_run_56 : decode cX0_run 56 = .ok (.if_icmp .ne 5, 3) := by decide +kernel
theorem dX0_run_59 : decode cX0_run 59 = .ok (.iconst 0, 1) := by decide +kernel
theorem dX0_run_60 : decode cX0_run 60 = .ok (.ireturn, 1) := by decide +kernel
theorem dX0_run_61 : decode cX0_run 61 = .ok (.iload 5, 2) := by decide +kernel
theorem dX0_run_63 : decode cX0_run 63 = .ok (.invokestatic 40, 3) := by decide +kernel
theorem dX0_run_66 : decode cX0_run 66 = .ok (.istore 7, 2) := by decide +kernel
theorem dX0_run_68 : decode cX0_run 68 = .ok (.iload 4, 2) := by decide +kernel
theorem dX0_run_70 : decode cX0_run 70 = .ok (.iconst 1, 1) := by decide +kernel
theorem dX0_run_71 : decode cX0_run 71 = .ok (.iadd, 1) := by decide +kernel
theorem dX0_run_72 : decode cX0_run 72 = .ok (.istore 8, 2) := by decide +kernel
theorem dX0_run_74 : decode cX0_run 74 = .ok (.aload_n 0, 1) := by decide +kernel
theorem dX0_run_75 : decode cX0_run 75 = .ok (.dup, 1) := by decide +kernel
theorem dX0_run_76 : decode cX0_run 76 = .ok (.getfield 20, 3) := by decide +kernel
theorem dX0_run_79 : decode cX0_run 79 = .ok (.iconst 1, 1) := by decide +kernel
theorem dX0_run_80 : decode cX0_run 80 = .ok (.iadd, 1) := by decide +kernel
theorem dX0_run_81 : decode cX0_run 81 = .ok (.putfield 20, 3) := by decide +kernel
theorem dX0_run_84 : decode cX0_run 84 = .ok (.aload_n 0, 1) := by decide +kernel
theorem dX0_run_85 : decode cX0_run 85 = .ok (.getfield 16, 3) := by decide +kernel
theorem dX0_run_88 : decode cX0_run 88 = .ok (.iload 6, 2) := by decide +kernel
theorem dX0_run_90 : decode cX0_run 90 = .ok (.invokevirtual 44, 3) := by decide +kernel
theorem dX0_run_93 : decode cX0_run 93 = .ok (.iload 6, 2) := by decide +kernel
theorem dX0_run_95 : decode cX0_run 95 = .ok (.lookupswitch 267 #[(10, 97), (11, 104), (12, 122), (20, 137), (30, 151), (40, 164), (50, 188), (51, 200), (60, 213), (70, 229), (71, 251)], 97) := by decide +kernel
theorem dX0_run_192 : decode cX0_run 192 = .ok (.iload_n 3, 1) := by decide +kernel
theorem dX0_run_193 : decode cX0_run 193 = .ok (.aload_n 0, 1) := by decide +kernel
theorem dX0_run_194 : decode cX0_run 194 = .ok (.getfield 30, 3) := by decide +kernel
theorem dX0_run_197 : decode cX0_run 197 = .ok (.iadd, 1) := by decide +kernel
theorem dX0_run_198 : decode cX0_run 198 = .ok (.ireturn, 1) := by decide +kernel
theorem dX0_run_199 : decode cX0_run 199 = .ok (.aload_n 0, 1) := by decide +kernel
theorem dX0_run_200 : decode cX0_run 200 = .ok (.iconst 0, 1) := by decide +kernel
theorem dX0_run_201 : decode cX0_run 201 = .ok (.aload_n 0, 1) := by decide +kernel
theorem dX0_run_202 : decode cX0_run 202 = .ok (.getfield 24, 3) := by decide +kernel
theorem dX0_run_205 : decode cX0_run 205 = .ok (.iload_n 3, 1) := by decide +kernel
theorem dX0_run_206 : decode cX0_run 206 = .ok (.iload 8, 2) := by decide +kernel
theorem dX0_run_208 : decode cX0_run 208 = .ok (.invokestatic 47, 3) := by decide +kernel
theorem dX0_run_211 : decode cX0_run 211 = .ok (.aload_n 0, 1) := by decide +kernel
theorem dX0_run_212 : decode cX0_run 212 = .ok (.getfield 27, 3) := by decide +kernel
theorem dX0_run_215 : decode cX0_run 215 = .ok (.isub, 1) := by decide +kernel
theorem dX0_run_216 : decode cX0_run 216 = .ok (.ireturn, 1) := by decide +kernel
theorem dX0_run_217 : decode cX0_run 217 = .ok (.aload_n 0, 1) := by decide +kernel
theorem dX0_run_218 : decode cX0_run 218 = .ok (.iconst 1, 1) := by decide +kernel
theorem dX0_run_219 : decode cX0_run 219 = .ok (.aload_n 0, 1) := by decide +kernel
theorem dX0_run_220 : decode cX0_run 220 = .ok (.getfield 24, 3) := by decide +kernel
theorem dX0_run_223 : decode cX0_run 223 = .ok (.iload_n 3, 1) := by decide +kernel
theorem dX0_run_224 : decode cX0_run 224 = .ok (.iload 8, 2) := by decide +kernel
theorem dX0_run_226 : decode cX0_run 226 = .ok (.invokestatic 47, 3) := by decide +kernel
theorem dX0_run_229 : decode cX0_run 229 = .ok (.iconst 2, 1) := by decide +kernel
theorem dX0_run_230 : decode cX0_run 230 = .ok (.imul, 1) := by decide +kernel
theorem dX0_run_231 : decode cX0_run 231 = .ok (.ireturn, 1) := by decide +kernel
theorem dX0_run_232 : decode cX0_run 232 = .ok (.aload_n 0, 1) := by decide +kernel
theorem dX0_run_233 : decode cX0_run 233 = .ok (.iconst 1, 1) := by decide +kernel
theorem dX0_run_234 : decode cX0_run 234 = .ok (.iload 7, 2) := by decide +kernel
theorem dX0_run_236 : decode cX0_run 236 = .ok (.iload_n 3, 1) := by decide +kernel
theorem dX0_run_237 : decode cX0_run 237 = .ok (.iload 8, 2) := by decide +kernel
theorem dX0_run_239 : decode cX0_run 239 = .ok (.invokestatic 47, 3) := by decide +kernel
theorem dX0_run_242 : decode cX0_run 242 = .ok (.bipush 6, 2) := by decide +kernel
theorem dX0_run_244 : decode cX0_run 244 = .ok (.ixor, 1) := by decide +kernel
theorem dX0_run_245 : decode cX0_run 245 = .ok (.ireturn, 1) := by decide +kernel
theorem dX0_run_246 : decode cX0_run 246 = .ok (.aload_n 0, 1) := by decide +kernel
theorem dX0_run_247 : decode cX0_run 247 = .ok (.iconst 0, 1) := by decide +kernel
theorem dX0_run_248 : decode cX0_run 248 = .ok (.iload 7, 2) := by decide +kernel
theorem dX0_run_250 : decode cX0_run 250 = .ok (.iload_n 3, 1) := by decide +kernel
theorem dX0_run_251 : decode cX0_run 251 = .ok (.iconst 3, 1) := by decide +kernel
theorem dX0_run_252 : decode cX0_run 252 = .ok (.imul, 1) := by decide +kernel
theorem dX0_run_253 : decode cX0_run 253 = .ok (.iload 8, 2) := by decide +kernel
theorem dX0_run_255 : decode cX0_run 255 = .ok (.invokestatic 47, 3) := by decide +kernel
theorem dX0_run_258 : decode cX0_run 258 = .ok (.ireturn, 1) := by decide +kernel
theorem dX0_run_259 : decode cX0_run 259 = .ok (.aload_n 0, 1) := by decide +kernel
theorem dX0_run_260 : decode cX0_run 260 = .ok (.iconst 2, 1) := by decide +kernel
theorem dX0_run_261 : decode cX0_run 261 = .ok (.iload 7, 2) := by decide +kernel
theorem dX0_run_263 : decode cX0_run 263 = .ok (.iload_n 3, 1) := by decide +kernel
theorem dX0_run_264 : decode cX0_run 264 = .ok (.iload 8, 2) := by decide +kernel
theorem dX0_run_266 : decode cX0_run 266 = .ok (.invokestatic 47, 3) := by decide +kernel
theorem dX0_run_269 : decode cX0_run 269 = .ok (.aload_n 0, 1) := by decide +kernel
theorem dX0_run_270 : decode cX0_run 270 = .ok (.iconst 1, 1) := by decide +kernel
theorem dX0_run_271 : decode cX0_run 271 = .ok (.aload_n 0, 1) := by decide +kernel
theorem dX0_run_272 : decode cX0_run 272 = .ok (.getfield 24, 3) := by decide +kernel
theorem dX0_run_275 : decode cX0_run 275 = .ok (.iconst 1, 1) := by decide +kernel
theorem dX0_run_276 : decode cX0_run 276 = .ok (.iload 8, 2) := by decide +kernel
theorem dX0_run_278 : decode cX0_run 278 = .ok (.invokestatic 47, 3) := by decide +kernel
theorem dX0_run_281 : decode cX0_run 281 = .ok (.iadd, 1) := by decide +kernel
theorem dX0_run_282 : decode cX0_run 282 = .ok (.ireturn, 1) := by decide +kernel
theorem dX0_run_283 : decode cX0_run 283 = .ok (.aload_n 0, 1) := by decide +kernel
theorem dX0_run_284 : decode cX0_run 284 = .ok (.iconst 0, 1) := by decide +kernel
theorem dX0_run_285 : decode cX0_run 285 = .ok (.iload 7, 2) := by decide +kernel
theorem dX0_run_287 : decode cX0_run 287 = .ok (.iload_n 3, 1) := by decide +kernel
theorem dX0_run_288 : decode cX0_run 288 = .ok (.iload 8, 2) := by decide +kernel
theorem dX0_run_290 : decode cX0_run 290 = .ok (.invokestatic 47, 3) := by decide +kernel
theorem dX0_run_293 : decode cX0_run 293 = .ok (.ineg, 1) := by decide +kernel
theorem dX0_run_294 : decode cX0_run 294 = .ok (.ireturn, 1) := by decide +kernel
theorem dX0_run_295 : decode cX0_run 295 = .ok (.aload_n 0, 1) := by decide +kernel
theorem dX0_run_296 : decode cX0_run 296 = .ok (.iconst 1, 1) := by decide +kernel
theorem dX0_run_297 : decode cX0_run 297 = .ok (.iload 7, 2) := by decide +kernel
theorem dX0_run_299 : decode cX0_run 299 = .ok (.iload_n 3, 1) := by decide +kernel
theorem dX0_run_300 : decode cX0_run 300 = .ok (.iconst 1, 1) := by decide +kernel
theorem dX0_run_301 : decode cX0_run 301 = .ok (.iadd, 1) := by decide +kernel
theorem dX0_run_302 : decode cX0_run 302 = .ok (.iload 8, 2) := by decide +kernel
theorem dX0_run_304 : decode cX0_run 304 = .ok (.invokestatic 47, 3) := by decide +kernel
theorem dX0_run_307 : decode cX0_run 307 = .ok (.ireturn, 1) := by decide +kernel
theorem dX0_run_308 : decode cX0_run 308 = .ok (.aload_n 0, 1) := by decide +kernel
theorem dX0_run_309 : decode cX0_run 309 = .ok (.iconst 2, 1) := by decide +kernel
theorem dX0_run_310 : decode cX0_run 310 = .ok (.iload 7, 2) := by decide +kernel
theorem dX0_run_312 : decode cX0_run 312 = .ok (.iload_n 3, 1) := by decide +kernel
theorem dX0_run_313 : decode cX0_run 313 = .ok (.aload_n 0, 1) := by decide +kernel
theorem dX0_run_314 : decode cX0_run 314 = .ok (.getfield 30, 3) := by decide +kernel
theorem dX0_run_317 : decode cX0_run 317 = .ok (.isub, 1) := by decide +kernel
theorem dX0_run_318 : decode cX0_run 318 = .ok (.iload 8, 2) := by decide +kernel
theorem dX0_run_320 : decode cX0_run 320 = .ok (.invokestatic 47, 3) := by decide +kernel
theorem dX0_run_323 : decode cX0_run 323 = .ok (.ireturn, 1) := by decide +kernel
theorem dX0_run_324 : decode cX0_run 324 = .ok (.aload_n 0, 1) := by decide +kernel
theorem dX0_run_325 : decode cX0_run 325 = .ok (.iconst 1, 1) := by decide +kernel
theorem dX0_run_326 : decode cX0_run 326 = .ok (.iload 7, 2) := by decide +kernel
theorem dX0_run_328 : decode cX0_run 328 = .ok (.iload_n 3, 1) := by decide +kernel
theorem dX0_run_329 : decode cX0_run 329 = .ok (.iload 8, 2) := by decide +kernel
theorem dX0_run_331 : decode cX0_run 331 = .ok (.invokestatic 47, 3) := by decide +kernel
theorem dX0_run_334 : decode cX0_run 334 = .ok (.aload_n 0, 1) := by decide +kernel
theorem dX0_run_335 : decode cX0_run 335 = .ok (.iconst 0, 1) := by decide +kernel
theorem dX0_run_336 : decode cX0_run 336 = .ok (.iload 7, 2) := by decide +kernel
theorem dX0_run_338 : decode cX0_run 338 = .ok (.iconst 2, 1) := by decide +kernel
theorem dX0_run_339 : decode cX0_run 339 = .ok (.iload 8, 2) := by decide +kernel
theorem dX0_run_341 : decode cX0_run 341 = .ok (.invokestatic 47, 3) := by decide +kernel
theorem dX0_run_344 : decode cX0_run 344 = .ok (.iadd, 1) := by decide +kernel
theorem dX0_run_345 : decode cX0_run 345 = .ok (.ireturn, 1) := by decide +kernel
theorem dX0_run_346 : decode cX0_run 346 = .ok (.aload_n 0, 1) := by decide +kernel
theorem dX0_run_347 : decode cX0_run 347 = .ok (.iconst 0, 1) := by decide +kernel
theorem dX0_run_348 : decode cX0_run 348 = .ok (.iload 7, 2) := by decide +kernel
theorem dX0_run_350 : decode cX0_run 350 = .ok (.iload_n 3, 1) := by decide +kernel
theorem dX0_run_351 : decode cX0_run 351 = .ok (.iload 8, 2) := by decide +kernel
theorem dX0_run_353 : decode cX0_run 353 = .ok (.invokestatic 47, 3) := by decide +kernel
theorem dX0_run_356 : decode cX0_run 356 = .ok (.aload_n 0, 1) := by decide +kernel
theorem dX0_run_357 : decode cX0_run 357 = .ok (.getfield 27, 3) := by decide +kernel
theorem dX0_run_360 : decode cX0_run 360 = .ok (.ixor, 1) := by decide +kernel
theorem dX0_run_361 : decode cX0_run 361 = .ok (.ireturn, 1) := by decide +kernel
theorem dX0_run_362 : decode cX0_run 362 = .ok (.iconst 0, 1) := by decide +kernel
theorem dX0_run_363 : decode cX0_run 363 = .ok (.ireturn, 1) := by decide +kernel
theorem dX0_bodyOf_0 : decode cX0_bodyOf 0 = .ok (.iload_n 0, 1) := by decide +kernel
theorem dX0_bodyOf_1 : decode cX0_bodyOf 1 = .ok (.tableswitch 154 0 6 #[43, 65, 77, 88, 100, 121, 133], 43) := by decide +kernel
theorem dX0_bodyOf_44 : decode cX0_bodyOf 44 = .ok (.iload_n 1, 1) := by decide +kernel
theorem dX0_bodyOf_45 : decode cX0_bodyOf 45 = .ok (.ifCond .ne 8, 3) := by decide +kernel
theorem dX0_bodyOf_48 : decode cX0_bodyOf 48 = .ok (.bipush 10, 2) := by decide +kernel
theorem dX0_bodyOf_50 : decode cX0_bodyOf 50 = .ok (.goto 15, 3) := by decide +kernel
theorem dX0_bodyOf_53 : decode cX0_bodyOf 53 = .ok (.iload_n 1, 1) := by decide +kernel
theorem dX0_bodyOf_54 : decode cX0_bodyOf 54 = .ok (.iconst 1, 1) := by decide +kernel
theorem dX0_bodyOf_55 : decode cX0_bodyOf 55 = .ok (.if_icmp .ne 8, 3) := by decide +kernel
theorem dX0_bodyOf_58 : decode cX0_bodyOf 58 = .ok (.bipush 11, 2) := by decide +kernel
theorem dX0_bodyOf_60 : decode cX0_bodyOf 60 = .ok (.goto 5, 3) := by decide +kernel
theorem dX0_bodyOf_63 : decode cX0_bodyOf 63 = .ok (.bipush 12, 2) := by decide +kernel
theorem dX0_bodyOf_65 : decode cX0_bodyOf 65 = .ok (.ireturn, 1) := by decide +kernel
theorem dX0_bodyOf_66 : decode cX0_bodyOf 66 = .ok (.iload_n 1, 1) := by decide +kernel
theorem dX0_bodyOf_67 : decode cX0_bodyOf 67 = .ok (.iconst 1, 1) := by decide +kernel
theorem dX0_bodyOf_68 : decode cX0_bodyOf 68 = .ok (.if_icmp .ne 8, 3) := by decide +kernel
theorem dX0_bodyOf_71 : decode cX0_bodyOf 71 = .ok (.bipush 20, 2) := by decide +kernel
theorem dX0_bodyOf_73 : decode cX0_bodyOf 73 = .ok (.goto 4, 3) := by decide +kernel
theorem dX0_bodyOf_76 : decode cX0_bodyOf 76 = .ok (.iconst (-1), 1) := by decide +kernel
theorem dX0_bodyOf_77 : decode cX0_bodyOf 77 = .ok (.ireturn, 1) := by decide +kernel
theorem dX0_bodyOf_78 : decode cX0_bodyOf 78 = .ok (.iload_n 1, 1) := by decide +kernel
theorem dX0_bodyOf_79 : decode cX0_bodyOf 79 = .ok (.ifCond .ne 8, 3) := by decide +kernel
theorem dX0_bodyOf_82 : decode cX0_bodyOf 82 = .ok (.bipush 30, 2) := by decide +kernel
theorem dX0_bodyOf_84 : decode cX0_bodyOf 84 = .ok (.goto 4, 3) := by decide +kernel
theorem dX0_bodyOf_87 : decode cX0_bodyOf 87 = .ok (.iconst (-1), 1) := by decide +kernel
theorem dX0_bodyOf_88 : decode cX0_bodyOf 88 = .ok (.ireturn, 1) := by decide +kernel
theorem dX0_bodyOf_89 : decode cX0_bodyOf 89 = .ok (.iload_n 1, 1) := by decide +kernel
theorem dX0_bodyOf_90 : decode cX0_bodyOf 90 = .ok (.iconst 2, 1) := by decide +kernel
theorem dX0_bodyOf_91 : decode cX0_bodyOf 91 = .ok (.if_icmp .ne 8, 3) := by decide +kernel
theorem dX0_bodyOf_94 : decode cX0_bodyOf 94 = .ok (.bipush 40, 2) := by decide +kernel
theorem dX0_bodyOf_96 : decode cX0_bodyOf 96 = .ok (.goto 4, 3) := by decide +kernel
theorem dX0_bodyOf_99 : decode cX0_bodyOf 99 = .ok (.iconst (-1), 1) := by decide +kernel
theorem dX0_bodyOf_100 : decode cX0_bodyOf 100 = .ok (.ireturn, 1) := by decide +kernel
theorem dX0_bodyOf_101 : decode cX0_bodyOf 101 = .ok (.iload_n 1, 1) := by decide +kernel
theorem dX0_bodyOf_102 : decode cX0_bodyOf 102 = .ok (.ifCond .ne 8, 3) := by decide +kernel
theorem dX0_bodyOf_105 : decode cX0_bodyOf 105 = .ok (.bipush 50, 2) := by decide +kernel
theorem dX0_bodyOf_107 : decode cX0_bodyOf 107 = .ok (.goto 14, 3) := by decide +kernel
theorem dX0_bodyOf_110 : decode cX0_bodyOf 110 = .ok (.iload_n 1, 1) := by decide +kernel
theorem dX0_bodyOf_111 : decode cX0_bodyOf 111 = .ok (.iconst 1, 1) := by decide +kernel
theorem dX0_bodyOf_112 : decode cX0_bodyOf 112 = .ok (.if_icmp .ne 8, 3) := by decide +kernel
theorem dX0_bodyOf_115 : decode cX0_bodyOf 115 = .ok (.bipush 51, 2) := by decide +kernel
theorem dX0_bodyOf_117 : decode cX0_bodyOf 117 = .ok (.goto 4, 3) := by decide +kernel
theorem dX0_bodyOf_120 : decode cX0_bodyOf 120 = .ok (.iconst (-1), 1) := by decide +kernel
theorem dX0_bodyOf_121 : decode cX0_bodyOf 121 = .ok (.ireturn, 1) := by decide +kernel
theorem dX0_bodyOf_122 : decode cX0_bodyOf 122 = .ok (.iload_n 1, 1) := by decide +kernel
theorem dX0_bodyOf_123 : decode cX0_bodyOf 123 = .ok (.iconst 2, 1) := by decide +kernel
theorem dX0_bodyOf_124 : decode cX0_bodyOf 124 = .ok (.if_icmp .ne 8, 3) := by decide +kernel
theorem dX0_bodyOf_127 : decode cX0_bodyOf 127 = .ok (.bipush 60, 2) := by decide +kernel
theorem dX0_bodyOf_129 : decode cX0_bodyOf 129 = .ok (.goto 4, 3) := by decide +kernel
theorem dX0_bodyOf_132 : decode cX0_bodyOf 132 = .ok (.iconst (-1), 1) := by decide +kernel
theorem dX0_bodyOf_133 : decode cX0_bodyOf 133 = .ok (.ireturn, 1) := by decide +kernel
theorem dX0_bodyOf_134 : decode cX0_bodyOf 134 = .ok (.iload_n 1, 1) := by decide +kernel
theorem dX0_bodyOf_135 : decode cX0_bodyOf 135 = .ok (.iconst 1, 1) := by decide +kernel
theorem dX0_bodyOf_136 : decode cX0_bodyOf 136 = .ok (.if_icmp .ne 8, 3) := by decide +kernel
theorem dX0_bodyOf_139 : decode cX0_bodyOf 139 = .ok (.bipush 70, 2) := by decide +kernel
theorem dX0_bodyOf_141 : decode cX0_bodyOf 141 = .ok (.goto 13, 3) := by decide +kernel
theorem dX0_bodyOf_144 : decode cX0_bodyOf 144 = .ok (.iload_n 1, 1) := by decide +kernel
theorem dX0_bodyOf_145 : decode cX0_bodyOf 145 = .ok (.ifCond .ne 8, 3) := by decide +kernel
theorem dX0_bodyOf_148 : decode cX0_bodyOf 148 = .ok (.bipush 71, 2) := by decide +kernel
theorem dX0_bodyOf_150 : decode cX0_bodyOf 150 = .ok (.goto 4, 3) := by decide +kernel
theorem dX0_bodyOf_153 : decode cX0_bodyOf 153 = .ok (.iconst (-1), 1) := by decide +kernel
theorem dX0_bodyOf_154 : decode cX0_bodyOf 154 = .ok (.ireturn, 1) := by decide +kernel
theorem dX0_bodyOf_155 : decode cX0_bodyOf 155 = .ok (.iconst (-1), 1) := by decide +kernel
theorem dX0_bodyOf_156 : decode cX0_bodyOf 156 = .ok (.ireturn, 1) := by decide +kernel
theorem dX1_init_0 : decode cX1_init 0 = .ok (.aload_n 0, 1) := by decide +kernel
theorem dX1_init_1 : decode cX1_init 1 = .ok (.invokespecial 3, 3) := by decide +kernel
theorem dX1_init_4 : decode cX1_init 4 = .ok (.aload_n 0, 1) := by decide +kernel
theorem dX1_init_5 : decode cX1_init 5 = .ok (.sipush 781, 3) := by decide +kernel
theorem dX1_init_8 : decode cX1_init 8 = .ok (.newarray .long, 2) := by decide +kernel
theorem dX1_init_10 : decode cX1_init 10 = .ok (.putfield 11, 3) := by decide +kernel
theorem dX1_init_13 : decode cX1_init 13 = .ok (.aload_n 0, 1) := by decide +kernel
theorem dX1_init_14 : decode cX1_init 14 = .ok (.new 15, 3) := by decide +kernel
theorem dX1_init_17 : decode cX1_init 17 = .ok (.dup, 1) := by decide +kernel
theorem dX1_init_18 : decode cX1_init 18 = .ok (.sipush 781, 3) := by decide +kernel
theorem dX1_init_21 : decode cX1_init 21 = .ok (.invokespecial 17, 3) := by decide +kernel
theorem dX1_init_24 : decode cX1_init 24 = .ok (.putfield 20, 3) := by decide +kernel
theorem dX1_init_27 : decode cX1_init 27 = .ok (.aload_n 0, 1) := by decide +kernel
theorem dX1_init_28 : decode cX1_init 28 = .ok (.new 15, 3) := by decide +kernel
theorem dX1_init_31 : decode cX1_init 31 = .ok (.dup, 1) := by decide +kernel
theorem dX1_init_32 : decode cX1_init 32 = .ok (.sipush 781, 3) := by decide +kernel
theorem dX1_init_35 : decode cX1_init 35 = .ok (.invokespecial 17, 3) := by decide +kernel
theorem dX1_init_38 : decode cX1_init 38 = .ok (.putfield 24, 3) := by decide +kernel
theorem dX1_init_41 : decode cX1_init 41 = .ok (.aload_n 0, 1) := by decide +kernel
theorem dX1_init_42 : decode cX1_init 42 = .ok (.bipush (-5), 2) := by decide +kernel
theorem dX1_init_44 : decode cX1_init 44 = .ok (.putfield 27, 3) := by decide +kernel
theorem dX1_init_47 : decode cX1_init 47 = .ok (.aload_n 0, 1) := by decide +kernel
theorem dX1_init_48 : decode cX1_init 48 = .ok (.iconst 0, 1) := by decide +kernel
theorem dX1_init_49 : decode cX1_init 49 = .ok (.putfield 31, 3) := by decide +kernel
theorem dX1_init_52 : decode cX1_init 52 = .ok (.return_, 1) := by decide +kernel
theorem dX1_search_0 : decode cX1_search 0 = .ok (.aload_n 1, 1) := by decide +kernel
theorem dX1_search_1 : decode cX1_search 1 = .ok (.getfield 34, 3) := by decide +kernel
theorem dX1_search_4 : decode cX1_search 4 = .ok (.istore_n 3, 1) := by decide +kernel
theorem dX1_search_5 : decode cX1_search 5 = .ok (.aload_n 0, 1) := by decide +kernel
theorem dX1_search_6 : decode cX1_search 6 = .ok (.getfield 20, 3) := by decide +kernel
theorem dX1_search_9 : decode cX1_search 9 = .ok (.invokevirtual 39, 3) := by decide +kernel
theorem dX1_search_12 : decode cX1_search 12 = .ok (.aload_n 0, 1) := by decide +kernel
theorem dX1_search_13 : decode cX1_search 13 = .ok (.getfield 24, 3) := by decide +kernel
theorem dX1_search_16 : decode cX1_search 16 = .ok (.invokevirtual 39, 3) := by decide +kernel
theorem dX1_search_19 : decode cX1_search 19 = .ok (.aload_n 0, 1) := by decide +kernel
theorem dX1_search_20 : decode cX1_search 20 = .ok (.aload_n 1, 1) := by decide +kernel
theorem dX1_search_21 : decode cX1_search 21 = .ok (.iload_n 2, 1) := by decide +kernel
theorem dX1_search_22 : decode cX1_search 22 = .ok (.invokevirtual 42, 3) := by decide +kernel
theorem dX1_search_25 : decode cX1_search 25 = .ok (.ifCond .eq 7, 3) := by decide +kernel
theorem dX1_search_28 : decode cX1_search 28 = .ok (.iconst 0, 1) := by decide +kernel
theorem dX1_search_29 : decode cX1_search 29 = .ok (.goto 5, 3) := by decide +kernel
theorem dX1_search_32 : decode cX1_search 32 = .ok (.bipush (-5), 2) := by decide +kernel
theorem dX1_search_34 : decode cX1_search 34 = .ok (.putfield 27, 3) := by decide +kernel
theorem dX1_search_37 : decode cX1_search 37 = .ok (.aload_n 0, 1) := by decide +kernel
theorem dX1_search_38 : decode cX1_search 38 = .ok (.aload_n 1, 1) := by decide +kernel
theorem dX1_search_39 : decode cX1_search 39 = .ok (.iload_n 2, 1) := by decide +kernel
theorem dX1_search_40 : decode cX1_search 40 = .ok (.iconst 0, 1) := by decide +kernel
theorem dX1_search_41 : decode cX1_search 41 = .ok (.iconst 0, 1) := by decide +kernel
theorem dX1_search_42 : decode cX1_search 42 = .ok (.invokevirtual 46, 3) := by decide +kernel
theorem dX1_search_45 : decode cX1_search 45 = .ok (.iconst 0, 1) := by decide +kernel
theorem dX1_search_46 : decode cX1_search 46 = .ok (.istore 4, 2) := by decide +kernel
theorem dX1_search_48 : decode cX1_search 48 = .ok (.iload 4, 2) := by decide +kernel
theorem dX1_search_50 : decode cX1_search 50 = .ok (.aload_n 0, 1) := by decide +kernel
theorem dX1_search_51 : decode cX1_search 51 = .ok (.getfield 20, 3) := by decide +kernel
theorem dX1_search_54 : decode cX1_search 54 = .ok (.getfield 50, 3) := by decide +kernel
theorem dX1_search_57 : decode cX1_search 57 = .ok (.if_icmp .ge 178, 3) := by decide +kernel
theorem dX1_search_60 : decode cX1_search 60 = .ok (.iload 4, 2) := by decide +kernel
theorem dX1_search_62 : decode cX1_search 62 = .ok (.sipush 781, 3) := by decide +kernel
theorem dX1_search_65 : decode cX1_search 65 = .ok (.if_icmp .ge 170, 3) := by decide +kernel
theorem dX1_search_68 : decode cX1_search 68 = .ok (.iload 4, 2) := by decide +kernel
theorem dX1_search_70 : decode cX1_search 70 = .ok (.aload_n 0, 1) := by decide +kernel
theorem dX1_search_71 : decode cX1_search 71 = .ok (.getfield 11, 3) := by decide +kernel
theorem dX1_search_74 : decode cX1_search 74 = .ok (.arraylength, 1) := by decide +kernel
theorem dX1_search_75 : decode cX1_search 75 = .ok (.if_icmp .ge 160, 3) := by decide +kernel
theorem dX1_search_78 : decode cX1_search 78 = .ok (.aload_n 0, 1) := by decide +kernel
theorem dX1_search_79 : decode cX1_search 79 = .ok (.getfield 24, 3) := by decide +kernel
theorem dX1_search_82 : decode cX1_search 82 = .ok (.iload 4, 2) := by decide +kernel
theorem dX1_search_84 : decode cX1_search 84 = .ok (.invokevirtual 53, 3) := by decide +kernel
theorem dX1_search_87 : decode cX1_search 87 = .ok (.iconst 1, 1) := by decide +kernel
theorem dX1_search_88 : decode cX1_search 88 = .ok (.iadd, 1) := by decide +kernel
theorem dX1_search_89 : decode cX1_search 89 = .ok (.istore 5, 2) := by decide +kernel
theorem dX1_search_91 : decode cX1_search 91 = .ok (.iconst 0, 1) := by decide +kernel
theorem dX1_search_92 : decode cX1_search 92 = .ok (.istore 6, 2) := by decide +kernel
theorem dX1_search_94 : decode cX1_search 94 = .ok (.iload 6, 2) := by decide +kernel
theorem dX1_search_96 : decode cX1_search 96 = .ok (.iconst 5, 1) := by decide +kernel
theorem dX1_search_97 : decode cX1_search 97 = .ok (.if_icmp .ge 132, 3) := by decide +kernel
theorem dX1_search_100 : decode cX1_search 100 = .ok (.aload_n 0, 1) := by decide +kernel
theorem dX1_search_101 : decode cX1_search 101 = .ok (.getfield 27, 3) := by decide +kernel
theorem dX1_search_104 : decode cX1_search 104 = .ok (.bipush (-5), 2) := by decide +kernel
theorem dX1_search_106 : decode cX1_search 106 = .ok (.if_icmp .ne 123, 3) := by decide +kernel
theorem dX1_search_109 : decode cX1_search 109 = .ok (.aload_n 1, 1) := by decide +kernel
theorem dX1_search_110 : decode cX1_search 110 = .ok (.aload_n 0, 1) := by decide +kernel
theorem dX1_search_111 : decode cX1_search 111 = .ok (.getfield 11, 3) := by decide +kernel
theorem dX1_search_114 : decode cX1_search 114 = .ok (.iload 4, 2) := by decide +kernel
theorem dX1_search_116 : decode cX1_search 116 = .ok (.laload, 1) := by decide +kernel
theorem dX1_search_117 : decode cX1_search 117 = .ok (.invokevirtual 57, 3) := by decide +kernel
theorem dX1_search_120 : decode cX1_search 120 = .ok (.aload_n 1, 1) := by decide +kernel
theorem dX1_search_121 : decode cX1_search 121 = .ok (.iload_n 3, 1) := by decide +kernel
theorem dX1_search_122 : decode cX1_search 122 = .ok (.iload 5, 2) := by decide +kernel
theorem dX1_search_124 : decode cX1_search 124 = .ok (.iadd, 1) := by decide +kernel
theorem dX1_search_125 : decode cX1_search 125 = .ok (.iconst 1, 1) := by decide +kernel
theorem dX1_search_126 : decode cX1_search 126 = .ok (.isub, 1) := by decide +kernel
theorem dX1_search_127 : decode cX1_search 127 = .ok (.putfield 34, 3) := by decide +kernel
theorem dX1_search_130 : decode cX1_search 130 = .ok (.aload_n 1, 1) := by decide +kernel
theorem dX1_search_131 : decode cX1_search 131 = .ok (.getfield 61, 3) := by decide +kernel
theorem dX1_search_134 : decode cX1_search 134 = .ok (.iload 6, 2) := by decide +kernel
theorem dX1_search_136 : decode cX1_search 136 = .ok (.invokestatic 64, 3) := by decide +kernel
theorem dX1_search_139 : decode cX1_search 139 = .ok (.istore 7, 2) := by decide +kernel
theorem dX1_search_141 : decode cX1_search 141 = .ok (.iload 7, 2) := by decide +kernel
theorem dX1_search_143 : decode cX1_search 143 = .ok (.iconst (-1), 1) := by decide +kernel
theorem dX1_search_144 : decode cX1_search 144 = .ok (.if_icmp .eq 79, 3) := by decide +kernel
theorem dX1_search_147 : decode cX1_search 147 = .ok (.aload_n 1, 1) := by decide +kernel
theorem dX1_search_148 : decode cX1_search 148 = .ok (.iload 7, 2) := by decide +kernel
theorem dX1_search_150 : decode cX1_search 150 = .ok (.invokevirtual 68, 3) := by decide +kernel
theorem dX1_search_153 : decode cX1_search 153 = .ok (.ifCond .ne 6, 3) := by decide +kernel
theorem dX1_search_156 : decode cX1_search 156 = .ok (.goto 67, 3) := by decide +kernel
theorem dX1_search_159 : decode cX1_search 159 = .ok (.aload_n 1, 1) := by decide +kernel
theorem dX1_search_160 : decode cX1_search 160 = .ok (.invokevirtual 71, 3) := by decide +kernel
theorem dX1_search_163 : decode cX1_search 163 = .ok (.aload_n 1, 1) := by decide +kernel
theorem dX1_search_164 : decode cX1_search 164 = .ok (.invokevirtual 74, 3) := by decide +kernel
theorem dX1_search_167 : decode cX1_search 167 = .ok (.ifCond .eq 6, 3) := by decide +kernel
theorem dX1_search_170 : decode cX1_search 170 = .ok (.goto 53, 3) := by decide +kernel
theorem dX1_search_173 : decode cX1_search 173 = .ok (.aload_n 0, 1) := by decide +kernel
theorem dX1_search_174 : decode cX1_search 174 = .ok (.getfield 20, 3) := by decide +kernel
theorem dX1_search_177 : decode cX1_search 177 = .ok (.iload 4, 2) := by decide +kernel
theorem dX1_search_179 : decode cX1_search 179 = .ok (.invokevirtual 53, 3) := by decide +kernel
theorem dX1_search_182 : decode cX1_search 182 = .ok (.bipush 6, 2) := by decide +kernel
theorem dX1_search_184 : decode cX1_search 184 = .ok (.ishl, 1) := by decide +kernel
theorem dX1_search_185 : decode cX1_search 185 = .ok (.iload 7, 2) := by decide +kernel
theorem dX1_search_187 : decode cX1_search 187 = .ok (.ior, 1) := by decide +kernel
theorem dX1_search_188 : decode cX1_search 188 = .ok (.istore 8, 2) := by decide +kernel
theorem dX1_search_190 : decode cX1_search 190 = .ok (.aload_n 1, 1) := by decide +kernel
theorem dX1_search_191 : decode cX1_search 191 = .ok (.iload_n 2, 1) := by decide +kernel
theorem dX1_search_192 : decode cX1_search 192 = .ok (.invokevirtual 42, 3) := by decide +kernel
theorem dX1_search_195 : decode cX1_search 195 = .ok (.ifCond .eq 18, 3) := by decide +kernel
theorem dX1_search_198 : decode cX1_search 198 = .ok (.aload_n 0, 1) := by decide +kernel
theorem dX1_search_199 : decode cX1_search 199 = .ok (.iload 5, 2) := by decide +kernel
theorem dX1_search_201 : decode cX1_search 201 = .ok (.putfield 27, 3) := by decide +kernel
theorem dX1_search_204 : decode cX1_search 204 = .ok (.aload_n 0, 1) := by decide +kernel
theorem dX1_search_205 : decode cX1_search 205 = .ok (.iload 8, 2) := by decide +kernel
theorem dX1_search_207 : decode cX1_search 207 = .ok (.putfield 31, 3) := by decide +kernel
theorem dX1_search_210 : decode cX1_search 210 = .ok (.goto 13, 3) := by decide +kernel
theorem dX1_search_213 : decode cX1_search 213 = .ok (.aload_n 0, 1) := by decide +kernel
theorem dX1_search_214 : decode cX1_search 214 = .ok (.aload_n 1, 1) := by decide +kernel
theorem dX1_search_215 : decode cX1_search 215 = .ok (.iload_n 2, 1) := by decide +kernel
theorem dX1_search_216 : decode cX1_search 216 = .ok (.iload 8, 2) := by decide +kernel
theorem dX1_search_218 : decode cX1_search 218 = .ok (.iload 5, 2) := by decide +kernel
theorem dX1_search_220 : decode cX1_search 220 = .ok (.invokevirtual 46, 3) := by decide +kernel
theorem dX1_search_223 : decode cX1_search 223 = .ok (.iinc 6 1, 3) := by decide +kernel
theorem dX1_search_226 : decode cX1_search 226 = .ok (.goto (-132), 3) := by decide +kernel
theorem dX1_search_229 : decode cX1_search 229 = .ok (.iinc 4 1, 3) := by decide +kernel
theorem dX1_search_232 : decode cX1_search 232 = .ok (.goto (-184), 3) := by decide +kernel
theorem dX1_search_235 : decode cX1_search 235 = .ok (.return_, 1) := by decide +kernel
theorem dX1_keep_0 : decode cX1_keep 0 = .ok (.aload_n 0, 1) := by decide +kernel
theorem dX1_keep_1 : decode cX1_keep 1 = .ok (.getfield 20, 3) := by decide +kernel
theorem dX1_keep_4 : decode cX1_keep 4 = .ok (.getfield 50, 3) := by decide +kernel
theorem dX1_keep_7 : decode cX1_keep 7 = .ok (.istore 5, 2) := by decide +kernel
theorem dX1_keep_9 : decode cX1_keep 9 = .ok (.aload_n 1, 1) := by decide +kernel
theorem dX1_keep_10 : decode cX1_keep 10 = .ok (.getfield 78, 3) := by decide +kernel
theorem dX1_keep_13 : decode cX1_keep 13 = .ok (.iload_n 2, 1) := by decide +kernel
theorem dX1_keep_14 : decode cX1_keep 14 = .ok (.invokevirtual 53, 3) := by decide +kernel
theorem dX1_keep_17 : decode cX1_keep 17 = .ok (.aload_n 1, 1) := by decide +kernel
theorem dX1_keep_18 : decode cX1_keep 18 = .ok (.getfield 81, 3) := by decide +kernel
theorem dX1_keep_21 : decode cX1_keep 21 = .ok (.iload_n 2, 1) := by decide +kernel
theorem dX1_keep_22 : decode cX1_keep 22 = .ok (.invokevirtual 53, 3) := by decide +kernel
theorem dX1_keep_25 : decode cX1_keep 25 = .ok (.invokestatic 84, 3) := by decide +kernel
theorem dX1_keep_28 : decode cX1_keep 28 = .ok (.istore 6, 2) := by decide +kernel
theorem dX1_keep_30 : decode cX1_keep 30 = .ok (.aload_n 1, 1) := by decide +kernel
theorem dX1_keep_31 : decode cX1_keep 31 = .ok (.invokevirtual 87, 3) := by decide +kernel
theorem dX1_keep_34 : decode cX1_keep 34 = .ok (.lstore 7, 2) := by decide +kernel
theorem dX1_keep_36 : decode cX1_keep 36 = .ok (.iload 6, 2) := by decide +kernel
theorem dX1_keep_38 : decode cX1_keep 38 = .ok (.iconst 5, 1) := by decide +kernel
theorem dX1_keep_39 : decode cX1_keep 39 = .ok (.iload 4, 2) := by decide +kernel
theorem dX1_keep_41 : decode cX1_keep 41 = .ok (.isub, 1) := by decide +kernel
theorem dX1_keep_42 : decode cX1_keep 42 = .ok (.if_icmp .gt 14, 3) := by decide +kernel
theorem dX1_keep_45 : decode cX1_keep 45 = .ok (.aload_n 0, 1) := by decide +kernel
theorem dX1_keep_46 : decode cX1_keep 46 = .ok (.lload 7, 2) := by decide +kernel
theorem dX1_keep_48 : decode cX1_keep 48 = .ok (.iload 4, 2) := by decide +kernel
theorem dX1_keep_50 : decode cX1_keep 50 = .ok (.invokevirtual 91, 3) := by decide +kernel
theorem dX1_keep_53 : decode cX1_keep 53 = .ok (.ifCond .eq 4, 3) := by decide +kernel
theorem dX1_keep_56 : decode cX1_keep 56 = .ok (.return_, 1) := by decide +kernel
theorem dX1_keep_57 : decode cX1_keep 57 = .ok (.iload 5, 2) := by decide +kernel
theorem dX1_keep_59 : decode cX1_keep 59 = .ok (.ifCond .lt 47, 3) := by decide +kernel
theorem dX1_keep_62 : decode cX1_keep 62 = .ok (.iload 5, 2) := by decide +kernel
theorem dX1_keep_64 : decode cX1_keep 64 = .ok (.sipush 781, 3) := by decide +kernel
theorem dX1_keep_67 : decode cX1_keep 67 = .ok (.if_icmp .ge 39, 3) := by decide +kernel
theorem dX1_keep_70 : decode cX1_keep 70 = .ok (.iload 5, 2) := by decide +kernel
theorem dX1_keep_72 : decode cX1_keep 72 = .ok (.aload_n 0, 1) := by decide +kernel
theorem dX1_keep_73 : decode cX1_keep 73 = .ok (.getfield 11, 3) := by decide +kernel
theorem dX1_keep_76 : decode cX1_keep 76 = .ok (.arraylength, 1) := by decide +kernel
theorem dX1_keep_77 : decode cX1_keep 77 = .ok (.if_icmp .ge 29, 3) := by decide +kernel
theorem dX1_keep_80 : decode cX1_keep 80 = .ok (.aload_n 0, 1) := by decide +kernel
theorem dX1_keep_81 : decode cX1_keep 81 = .ok (.getfield 11, 3) := by decide +kernel
theorem dX1_keep_84 : decode cX1_keep 84 = .ok (.iload 5, 2) := by decide +kernel
theorem dX1_keep_86 : decode cX1_keep 86 = .ok (.lload 7, 2) := by decide +kernel
theorem dX1_keep_88 : decode cX1_keep 88 = .ok (.lastore, 1) := by decide +kernel
theorem dX1_keep_89 : decode cX1_keep 89 = .ok (.aload_n 0, 1) := by decide +kernel
theorem dX1_keep_90 : decode cX1_keep 90 = .ok (.getfield 20, 3) := by decide +kernel
theorem dX1_keep_93 : decode cX1_keep 93 = .ok (.iload_n 3, 1) := by decide +kernel
theorem dX1_keep_94 : decode cX1_keep 94 = .ok (.invokevirtual 95, 3) := by decide +kernel
theorem dX1_keep_97 : decode cX1_keep 97 = .ok (.aload_n 0, 1) := by decide +kernel
theorem dX1_keep_98 : decode cX1_keep 98 = .ok (.getfield 24, 3) := by decide +kernel
theorem dX1_keep_101 : decode cX1_keep 101 = .ok (.iload 4, 2) := by decide +kernel
theorem dX1_keep_103 : decode cX1_keep 103 = .ok (.invokevirtual 95, 3) := by decide +kernel
theorem dX1_keep_106 : decode cX1_keep 106 = .ok (.return_, 1) := by decide +kernel
theorem dX1_isKept_0 : decode cX1_isKept 0 = .ok (.aload_n 0, 1) := by decide +kernel
theorem dX1_isKept_1 : decode cX1_isKept 1 = .ok (.getfield 20, 3) := by decide +kernel
theorem dX1_isKept_4 : decode cX1_isKept 4 = .ok (.getfield 50, 3) := by decide +kernel
theorem dX1_isKept_7 : decode cX1_isKept 7 = .ok (.iconst 1, 1) := by decide +kernel
theorem dX1_isKept_8 : decode cX1_isKept 8 = .ok (.isub, 1) := by decide +kernel
theorem dX1_isKept_9 : decode cX1_isKept 9 = .ok (.istore 4, 2) := by decide +kernel
theorem dX1_isKept_11 : decode cX1_isKept 11 = .ok (.iload 4, 2) := by decide +kernel
theorem dX1_isKept_13 : decode cX1_isKept 13 = .ok (.ifCond .lt 46, 3) := by decide +kernel
theorem dX1_isKept_16 : decode cX1_isKept 16 = .ok (.iload 4, 2) := by decide +kernel
theorem dX1_isKept_18 : decode cX1_isKept 18 = .ok (.aload_n 0, 1) := by decide +kernel
theorem dX1_isKept_19 : decode cX1_isKept 19 = .ok (.getfield 11, 3) := by decide +kernel
theorem dX1_isKept_22 : decode cX1_isKept 22 = .ok (.arraylength, 1) := by decide +kernel
theorem dX1_isKept_23 : decode cX1_isKept 23 = .ok (.if_icmp .ge 36, 3) := by decide +kernel
theorem dX1_isKept_26 : decode cX1_isKept 26 = .ok (.aload_n 0, 1) := by decide +kernel
theorem dX1_isKept_27 : decode cX1_isKept 27 = .ok (.getfield 24, 3) := by decide +kernel
theorem dX1_isKept_30 : decode cX1_isKept 30 = .ok (.iload 4, 2) := by decide +kernel
theorem dX1_isKept_32 : decode cX1_isKept 32 = .ok (.invokevirtual 53, 3) := by decide +kernel
theorem dX1_isKept_35 : decode cX1_isKept 35 = .ok (.iload_n 3, 1) := by decide +kernel
theorem dX1_isKept_36 : decode cX1_isKept 36 = .ok (.if_icmp .ne 23, 3) := by decide +kernel
theorem dX1_isKept_39 : decode cX1_isKept 39 = .ok (.aload_n 0, 1) := by decide +kernel
theorem dX1_isKept_40 : decode cX1_isKept 40 = .ok (.getfield 11, 3) := by decide +kernel
theorem dX1_isKept_43 : decode cX1_isKept 43 = .ok (.iload 4, 2) := by decide +kernel
theorem dX1_isKept_45 : decode cX1_isKept 45 = .ok (.laload, 1) := by decide +kernel
theorem dX1_isKept_46 : decode cX1_isKept 46 = .ok (.lload_n 1, 1) := by decide +kernel
theorem dX1_isKept_47 : decode cX1_isKept 47 = .ok (.lcmp, 1) := by decide +kernel
theorem dX1_isKept_48 : decode cX1_isKept 48 = .ok (.ifCond .ne 5, 3) := by decide +kernel
theorem dX1_isKept_51 : decode cX1_isKept 51 = .ok (.iconst 1, 1) := by decide +kernel
theorem dX1_isKept_52 : decode cX1_isKept 52 = .ok (.ireturn, 1) := by decide +kernel
theorem dX1_isKept_53 : decode cX1_isKept 53 = .ok (.iinc 4 (-1), 3) := by decide +kernel
theorem dX1_isKept_56 : decode cX1_isKept 56 = .ok (.goto (-45), 3) := by decide +kernel
theorem dX1_isKept_59 : decode cX1_isKept 59 = .ok (.iconst 0, 1) := by decide +kernel
theorem dX1_isKept_60 : decode cX1_isKept 60 = .ok (.ireturn, 1) := by decide +kernel
theorem dX1_cellOfWay_0 : decode cX1_cellOfWay 0 = .ok (.iload_n 1, 1) := by decide +kernel
theorem dX1_cellOfWay_1 : decode cX1_cellOfWay 1 = .ok (.iconst 2, 1) := by decide +kernel
theorem dX1_cellOfWay_2 : decode cX1_cellOfWay 2 = .ok (.if_icmp .ne 5, 3) := by decide +kernel
theorem dX1_cellOfWay_5 : decode cX1_cellOfWay 5 = .ok (.iload_n 0, 1) := by decide +kernel
theorem dX1_cellOfWay_6 : decode cX1_cellOfWay 6 = .ok (.ireturn, 1) := by decide +kernel
theorem dX1_cellOfWay_7 : decode cX1_cellOfWay 7 = .ok (.iload_n 0, 1) := by decide +kernel
theorem dX1_cellOfWay_8 : decode cX1_cellOfWay 8 = .ok (.iload_n 1, 1) := by decide +kernel
theorem dX1_cellOfWay_9 : decode cX1_cellOfWay 9 = .ok (.iconst 2, 1) := by decide +kernel
theorem dX1_cellOfWay_10 : decode cX1_cellOfWay 10 = .ok (.if_icmp .ge 7, 3) := by decide +kernel
theorem dX1_cellOfWay_13 : decode cX1_cellOfWay 13 = .ok (.iload_n 1, 1) := by decide +kernel
theorem dX1_cellOfWay_14 : decode cX1_cellOfWay 14 = .ok (.goto 6, 3) := by decide +kernel
theorem dX1_cellOfWay_17 : decode cX1_cellOfWay 17 = .ok (.iload_n 1, 1) := by decide +kernel
theorem dX1_cellOfWay_18 : decode cX1_cellOfWay 18 = .ok (.iconst 1, 1) := by decide +kernel
theorem dX1_cellOfWay_19 : decode cX1_cellOfWay 19 = .ok (.isub, 1) := by decide +kernel
theorem dX1_cellOfWay_20 : decode cX1_cellOfWay 20 = .ok (.invokestatic 98, 3) := by decide +kernel
theorem dX1_cellOfWay_23 : decode cX1_cellOfWay 23 = .ok (.ireturn, 1) := by decide +kernel
theorem dX1_cellOf_0 : decode cX1_cellOf 0 = .ok (.iload_n 1, 1) := by decide +kernel
theorem dX1_cellOf_1 : decode cX1_cellOf 1 = .ok (.ifCond .lt 11, 3) := by decide +kernel
theorem dX1_cellOf_4 : decode cX1_cellOf 4 = .ok (.iload_n 1, 1) := by decide +kernel
theorem dX1_cellOf_5 : decode cX1_cellOf 5 = .ok (.aload_n 0, 1) := by decide +kernel
theorem dX1_cellOf_6 : decode cX1_cellOf 6 = .ok (.getfield 27, 3) := by decide +kernel
theorem dX1_cellOf_9 : decode cX1_cellOf 9 = .ok (.if_icmp .lt 6, 3) := by decide +kernel
theorem dX1_cellOf_12 : decode cX1_cellOf 12 = .ok (.bipush (-5), 2) := by decide +kernel
theorem dX1_cellOf_14 : decode cX1_cellOf 14 = .ok (.ireturn, 1) := by decide +kernel
theorem dX1_cellOf_15 : decode cX1_cellOf 15 = .ok (.aload_n 0, 1) := by decide +kernel
theorem dX1_cellOf_16 : decode cX1_cellOf 16 = .ok (.getfield 31, 3) := by decide +kernel
theorem dX1_cellOf_19 : decode cX1_cellOf 19 = .ok (.bipush 6, 2) := by decide +kernel
theorem dX1_cellOf_21 : decode cX1_cellOf 21 = .ok (.aload_n 0, 1) := by decide +kernel
theorem dX1_cellOf_22 : decode cX1_cellOf 22 = .ok (.getfield 27, 3) := by decide +kernel
theorem dX1_cellOf_25 : decode cX1_cellOf 25 = .ok (.iconst 1, 1) := by decide +kernel
theorem dX1_cellOf_26 : decode cX1_cellOf 26 = .ok (.isub, 1) := by decide +kernel
theorem dX1_cellOf_27 : decode cX1_cellOf 27 = .ok (.iload_n 1, 1) := by decide +kernel
theorem dX1_cellOf_28 : decode cX1_cellOf 28 = .ok (.isub, 1) := by decide +kernel
theorem dX1_cellOf_29 : decode cX1_cellOf 29 = .ok (.imul, 1) := by decide +kernel
theorem dX1_cellOf_30 : decode cX1_cellOf 30 = .ok (.iushr, 1) := by decide +kernel
theorem dX1_cellOf_31 : decode cX1_cellOf 31 = .ok (.bipush 63, 2) := by decide +kernel
theorem dX1_cellOf_33 : decode cX1_cellOf 33 = .ok (.iand, 1) := by decide +kernel
theorem dX1_cellOf_34 : decode cX1_cellOf 34 = .ok (.ireturn, 1) := by decide +kernel
theorem dX2_init_0 : decode cX2_init 0 = .ok (.aload_n 0, 1) := by decide +kernel
theorem dX2_init_1 : decode cX2_init 1 = .ok (.invokespecial 1, 3) := by decide +kernel
theorem dX2_init_4 : decode cX2_init 4 = .ok (.return_, 1) := by decide +kernel
theorem dX2_passes_0 : decode cX2_passes 0 = .ok (.iload_n 1, 1) := by decide +kernel
theorem dX2_passes_1 : decode cX2_passes 1 = .ok (.lookupswitch 79 #[(98, 61), (99, 70), (104, 52), (110, 43)], 43) := by decide +kernel
theorem dX2_passes_44 : decode cX2_passes 44 = .ok (.aload_n 0, 1) := by decide +kernel
theorem dX2_passes_45 : decode cX2_passes 45 = .ok (.getfield 7, 3) := by decide +kernel
theorem dX2_passes_48 : decode cX2_passes 48 = .ok (.istore 4, 2) := by decide +kernel
theorem dX2_passes_50 : decode cX2_passes 50 = .ok (.goto 36, 3) := by decide +kernel
theorem dX2_passes_53 : decode cX2_passes 53 = .ok (.aload_n 0, 1) := by decide +kernel
theorem dX2_passes_54 : decode cX2_passes 54 = .ok (.getfield 13, 3) := by decide +kernel
theorem dX2_passes_57 : decode cX2_passes 57 = .ok (.istore 4, 2) := by decide +kernel
theorem dX2_passes_59 : decode cX2_passes 59 = .ok (.goto 27, 3) := by decide +kernel
theorem dX2_passes_62 : decode cX2_passes 62 = .ok (.aload_n 0, 1) := by decide +kernel
theorem dX2_passes_63 : decode cX2_passes 63 = .ok (.getfield 16, 3) := by decide +kernel
theorem dX2_passes_66 : decode cX2_passes 66 = .ok (.istore 4, 2) := by decide +kernel
theorem dX2_passes_68 : decode cX2_passes 68 = .ok (.goto 18, 3) := by decide +kernel
theorem dX2_passes_71 : decode cX2_passes 71 = .ok (.aload_n 0, 1) := by decide +kernel
theorem dX2_passes_72 : decode cX2_passes 72 = .ok (.getfield 19, 3) := by decide +kernel
theorem dX2_passes_75 : decode cX2_passes 75 = .ok (.istore 4, 2) := by decide +kernel
theorem dX2_passes_77 : decode cX2_passes 77 = .ok (.goto 9, 3) := by decide +kernel
theorem dX2_passes_80 : decode cX2_passes 80 = .ok (.aload_n 0, 1) := by decide +kernel
theorem dX2_passes_81 : decode cX2_passes 81 = .ok (.getfield 22, 3) := by decide +kernel
theorem dX2_passes_84 : decode cX2_passes 84 = .ok (.istore 4, 2) := by decide +kernel
theorem dX2_passes_86 : decode cX2_passes 86 = .ok (.iload_n 2, 1) := by decide +kernel
theorem dX2_passes_87 : decode cX2_passes 87 = .ok (.lookupswitch 49 #[(60, 25), (62, 37)], 25) := by decide +kernel
theorem dX2_passes_112 : decode cX2_passes 112 = .ok (.iload 4, 2) := by decide +kernel
theorem dX2_passes_114 : decode cX2_passes 114 = .ok (.iload_n 3, 1) := by decide +kernel
theorem dX2_passes_115 : decode cX2_passes 115 = .ok (.if_icmp .ge 7, 3) := by decide +kernel
theorem dX2_passes_118 : decode cX2_passes 118 = .ok (.iconst 1, 1) := by decide +kernel
theorem dX2_passes_119 : decode cX2_passes 119 = .ok (.goto 4, 3) := by decide +kernel
theorem dX2_passes_122 : decode cX2_passes 122 = .ok (.iconst 0, 1) := by decide +kernel
theorem dX2_passes_123 : decode cX2_passes 123 = .ok (.ireturn, 1) := by decide +kernel
theorem dX2_passes_124 : decode cX2_passes 124 = .ok (.iload 4, 2) := by decide +kernel
theorem dX2_passes_126 : decode cX2_passes 126 = .ok (.iload_n 3, 1) := by decide +kernel
theorem dX2_passes_127 : decode cX2_passes 127 = .ok (.if_icmp .le 7, 3) := by decide +kernel
theorem dX2_passes_130 : decode cX2_passes 130 = .ok (.iconst 1, 1) := by decide +kernel
theorem dX2_passes_131 : decode cX2_passes 131 = .ok (.goto 4, 3) := by decide +kernel
theorem dX2_passes_134 : decode cX2_passes 134 = .ok (.iconst 0, 1) := by decide +kernel
theorem dX2_passes_135 : decode cX2_passes 135 = .ok (.ireturn, 1) := by decide +kernel
theorem dX2_passes_136 : decode cX2_passes 136 = .ok (.iload 4, 2) := by decide +kernel
theorem dX2_passes_138 : decode cX2_passes 138 = .ok (.iload_n 3, 1) := by decide +kernel
theorem dX2_passes_139 : decode cX2_passes 139 = .ok (.if_icmp .ne 7, 3) := by decide +kernel
theorem dX2_passes_142 : decode cX2_passes 142 = .ok (.iconst 1, 1) := by decide +kernel
theorem dX2_passes_143 : decode cX2_passes 143 = .ok (.goto 4, 3) := by decide +kernel
theorem dX2_passes_146 : decode cX2_passes 146 = .ok (.iconst 0, 1) := by decide +kernel
theorem dX2_passes_147 : decode cX2_passes 147 = .ok (.ireturn, 1) := by decide +kernel
theorem dX3_init_0 : decode cX3_init 0 = .ok (.aload_n 0, 1) := by decide +kernel
theorem dX3_init_1 : decode cX3_init 1 = .ok (.invokespecial 3, 3) := by decide +kernel
theorem dX3_init_4 : decode cX3_init 4 = .ok (.aload_n 0, 1) := by decide +kernel
theorem dX3_init_5 : decode cX3_init 5 = .ok (.new 9, 3) := by decide +kernel
theorem dX3_init_8 : decode cX3_init 8 = .ok (.dup, 1) := by decide +kernel
theorem dX3_init_9 : decode cX3_init 9 = .ok (.bipush 100, 2) := by decide +kernel
theorem dX3_init_11 : decode cX3_init 11 = .ok (.invokespecial 11, 3) := by decide +kernel
theorem dX3_init_14 : decode cX3_init 14 = .ok (.putfield 14, 3) := by decide +kernel
theorem dX3_init_17 : decode cX3_init 17 = .ok (.aload_n 0, 1) := by decide +kernel
theorem dX3_init_18 : decode cX3_init 18 = .ok (.new 20, 3) := by decide +kernel
theorem dX3_init_21 : decode cX3_init 21 = .ok (.dup, 1) := by decide +kernel
theorem dX3_init_22 : decode cX3_init 22 = .ok (.invokespecial 22, 3) := by decide +kernel
theorem dX3_init_25 : decode cX3_init 25 = .ok (.putfield 23, 3) := by decide +kernel
theorem dX3_init_28 : decode cX3_init 28 = .ok (.aload_n 0, 1) := by decide +kernel
theorem dX3_init_29 : decode cX3_init 29 = .ok (.iconst 0, 1) := by decide +kernel
theorem dX3_init_30 : decode cX3_init 30 = .ok (.putfield 27, 3) := by decide +kernel
theorem dX3_init_33 : decode cX3_init 33 = .ok (.return_, 1) := by decide +kernel
theorem dX3_faultOfText_0 : decode cX3_faultOfText 0 = .ok (.aload_n 0, 1) := by decide +kernel
theorem dX3_faultOfText_1 : decode cX3_faultOfText 1 = .ok (.iconst 0, 1) := by decide +kernel
theorem dX3_faultOfText_2 : decode cX3_faultOfText 2 = .ok (.putfield 27, 3) := by decide +kernel
theorem dX3_faultOfText_5 : decode cX3_faultOfText 5 = .ok (.aload_n 0, 1) := by decide +kernel
theorem dX3_faultOfText_6 : decode cX3_faultOfText 6 = .ok (.getfield 23, 3) := by decide +kernel
theorem dX3_faultOfText_9 : decode cX3_faultOfText 9 = .ok (.invokevirtual 31, 3) := by decide +kernel
theorem dX3_faultOfText_12 : decode cX3_faultOfText 12 = .ok (.iconst 0, 1) := by decide +kernel
theorem dX3_faultOfText_13 : decode cX3_faultOfText 13 = .ok (.istore_n 1, 1) := by decide +kernel
theorem dX3_faultOfText_14 : decode cX3_faultOfText 14 = .ok (.iload_n 1, 1) := by decide +kernel
theorem dX3_faultOfText_15 : decode cX3_faultOfText 15 = .ok (.bipush 8, 2) := by decide +kernel
theorem dX3_faultOfText_17 : decode cX3_faultOfText 17 = .ok (.if_icmp .ge 37, 3) := by decide +kernel
theorem dX3_faultOfText_20 : decode cX3_faultOfText 20 = .ok (.iload_n 1, 1) := by decide +kernel
theorem dX3_faultOfText_21 : decode cX3_faultOfText 21 = .ok (.ifCond .le 15, 3) := by decide +kernel
theorem dX3_faultOfText_24 : decode cX3_faultOfText 24 = .ok (.aload_n 0, 1) := by decide +kernel
theorem dX3_faultOfText_25 : decode cX3_faultOfText 25 = .ok (.bipush 59, 2) := by decide +kernel
theorem dX3_faultOfText_27 : decode cX3_faultOfText 27 = .ok (.invokevirtual 34, 3) := by decide +kernel
theorem dX3_faultOfText_30 : decode cX3_faultOfText 30 = .ok (.ifCond .ne 6, 3) := by decide +kernel
theorem dX3_faultOfText_33 : decode cX3_faultOfText 33 = .ok (.goto 21, 3) := by decide +kernel
theorem dX3_faultOfText_36 : decode cX3_faultOfText 36 = .ok (.aload_n 0, 1) := by decide +kernel
theorem dX3_faultOfText_37 : decode cX3_faultOfText 37 = .ok (.invokevirtual 38, 3) := by decide +kernel
theorem dX3_faultOfText_40 : decode cX3_faultOfText 40 = .ok (.ifCond .ne 8, 3) := by decide +kernel
theorem dX3_faultOfText_43 : decode cX3_faultOfText 43 = .ok (.aload_n 0, 1) := by decide +kernel
theorem dX3_faultOfText_44 : decode cX3_faultOfText 44 = .ok (.getfield 27, 3) := by decide +kernel
theorem dX3_faultOfText_47 : decode cX3_faultOfText 47 = .ok (.ireturn, 1) := by decide +kernel
theorem dX3_faultOfText_48 : decode cX3_faultOfText 48 = .ok (.iinc 1 1, 3) := by decide +kernel
theorem dX3_faultOfText_51 : decode cX3_faultOfText 51 = .ok (.goto (-37), 3) := by decide +kernel
theorem dX3_faultOfText_54 : decode cX3_faultOfText 54 = .ok (.aload_n 0, 1) := by decide +kernel
theorem dX3_faultOfText_55 : decode cX3_faultOfText 55 = .ok (.getfield 27, 3) := by decide +kernel
theorem dX3_faultOfText_58 : decode cX3_faultOfText 58 = .ok (.aload_n 0, 1) := by decide +kernel
theorem dX3_faultOfText_59 : decode cX3_faultOfText 59 = .ok (.getfield 14, 3) := by decide +kernel
theorem dX3_faultOfText_62 : decode cX3_faultOfText 62 = .ok (.getfield 42, 3) := by decide +kernel
theorem dX3_faultOfText_65 : decode cX3_faultOfText 65 = .ok (.if_icmp .ne 7, 3) := by decide +kernel
theorem dX3_faultOfText_68 : decode cX3_faultOfText 68 = .ok (.iconst (-1), 1) := by decide +kernel
theorem dX3_faultOfText_69 : decode cX3_faultOfText 69 = .ok (.goto 7, 3) := by decide +kernel
theorem dX3_faultOfText_72 : decode cX3_faultOfText 72 = .ok (.aload_n 0, 1) := by decide +kernel
theorem dX3_faultOfText_73 : decode cX3_faultOfText 73 = .ok (.getfield 27, 3) := by decide +kernel
theorem dX3_faultOfText_76 : decode cX3_faultOfText 76 = .ok (.ireturn, 1) := by decide +kernel
theorem dX3_readClause_0 : decode cX3_readClause 0 = .ok (.aload_n 0, 1) := by decide +kernel
theorem dX3_readClause_1 : decode cX3_readClause 1 = .ok (.getfield 14, 3) := by decide +kernel
theorem dX3_readClause_4 : decode cX3_readClause 4 = .ok (.aload_n 0, 1) := by decide +kernel
theorem dX3_readClause_5 : decode cX3_readClause 5 = .ok (.getfield 27, 3) := by decide +kernel
theorem dX3_readClause_8 : decode cX3_readClause 8 = .ok (.invokevirtual 45, 3) := by decide +kernel
theorem dX3_readClause_11 : decode cX3_readClause 11 = .ok (.istore_n 1, 1) := by decide +kernel
theorem dX3_readClause_12 : decode cX3_readClause 12 = .ok (.iload_n 1, 1) := by decide +kernel
theorem dX3_readClause_13 : decode cX3_readClause 13 = .ok (.bipush 108, 2) := by decide +kernel
theorem dX3_readClause_15 : decode cX3_readClause 15 = .ok (.if_icmp .ne 7, 3) := by decide +kernel
theorem dX3_readClause_18 : decode cX3_readClause 18 = .ok (.iconst 1, 1) := by decide +kernel
theorem dX3_readClause_19 : decode cX3_readClause 19 = .ok (.goto 4, 3) := by decide +kernel
theorem dX3_readClause_22 : decode cX3_readClause 22 = .ok (.iconst 0, 1) := by decide +kernel
theorem dX3_readClause_23 : decode cX3_readClause 23 = .ok (.istore_n 2, 1) := by decide +kernel
theorem dX3_readClause_24 : decode cX3_readClause 24 = .ok (.iload_n 2, 1) := by decide +kernel
theorem dX3_readClause_25 : decode cX3_readClause 25 = .ok (.ifCond .eq 8, 3) := by decide +kernel
theorem dX3_readClause_28 : decode cX3_readClause 28 = .ok (.ldc 49, 2) := by decide +kernel
theorem dX3_readClause_30 : decode cX3_readClause 30 = .ok (.goto 16, 3) := by decide +kernel
theorem dX3_readClause_33 : decode cX3_readClause 33 = .ok (.iload_n 1, 1) := by decide +kernel
theorem dX3_readClause_34 : decode cX3_readClause 34 = .ok (.bipush 99, 2) := by decide +kernel
theorem dX3_readClause_36 : decode cX3_readClause 36 = .ok (.if_icmp .ne 8, 3) := by decide +kernel
theorem dX3_readClause_39 : decode cX3_readClause 39 = .ok (.ldc 51, 2) := by decide +kernel
theorem dX3_readClause_41 : decode cX3_readClause 41 = .ok (.goto 5, 3) := by decide +kernel
theorem dX3_readClause_44 : decode cX3_readClause 44 = .ok (.ldc 53, 2) := by decide +kernel
theorem dX3_readClause_46 : decode cX3_readClause 46 = .ok (.astore_n 3, 1) := by decide +kernel
theorem dX3_readClause_47 : decode cX3_readClause 47 = .ok (.aload_n 0, 1) := by decide +kernel
theorem dX3_readClause_48 : decode cX3_readClause 48 = .ok (.aload_n 3, 1) := by decide +kernel
theorem dX3_readClause_49 : decode cX3_readClause 49 = .ok (.invokevirtual 55, 3) := by decide +kernel
theorem dX3_readClause_52 : decode cX3_readClause 52 = .ok (.ifCond .ne 5, 3) := by decide +kernel
theorem dX3_readClause_55 : decode cX3_readClause 55 = .ok (.iconst 0, 1) := by decide +kernel
theorem dX3_readClause_56 : decode cX3_readClause 56 = .ok (.ireturn, 1) := by decide +kernel
theorem dX3_readClause_57 : decode cX3_readClause 57 = .ok (.aload_n 0, 1) := by decide +kernel
theorem dX3_readClause_58 : decode cX3_readClause 58 = .ok (.invokevirtual 59, 3) := by decide +kernel
theorem dX3_readClause_61 : decode cX3_readClause 61 = .ok (.istore 4, 2) := by decide +kernel
theorem dX3_readClause_63 : decode cX3_readClause 63 = .ok (.iload 4, 2) := by decide +kernel
theorem dX3_readClause_65 : decode cX3_readClause 65 = .ok (.iconst (-1), 1) := by decide +kernel
theorem dX3_readClause_66 : decode cX3_readClause 66 = .ok (.if_icmp .ne 5, 3) := by decide +kernel
theorem dX3_readClause_69 : decode cX3_readClause 69 = .ok (.iconst 0, 1) := by decide +kernel
theorem dX3_readClause_70 : decode cX3_readClause 70 = .ok (.ireturn, 1) := by decide +kernel
theorem dX3_readClause_71 : decode cX3_readClause 71 = .ok (.iload_n 2, 1) := by decide +kernel
theorem dX3_readClause_72 : decode cX3_readClause 72 = .ok (.ifCond .eq 14, 3) := by decide +kernel
theorem dX3_readClause_75 : decode cX3_readClause 75 = .ok (.aload_n 0, 1) := by decide +kernel
theorem dX3_readClause_76 : decode cX3_readClause 76 = .ok (.getfield 23, 3) := by decide +kernel
theorem dX3_readClause_79 : decode cX3_readClause 79 = .ok (.iload 4, 2) := by decide +kernel
theorem dX3_readClause_81 : decode cX3_readClause 81 = .ok (.putfield 63, 3) := by decide +kernel
theorem dX3_readClause_84 : decode cX3_readClause 84 = .ok (.iconst 1, 1) := by decide +kernel
theorem dX3_readClause_85 : decode cX3_readClause 85 = .ok (.ireturn, 1) := by decide +kernel
theorem dX3_readClause_86 : decode cX3_readClause 86 = .ok (.aload_n 0, 1) := by decide +kernel
theorem dX3_readClause_87 : decode cX3_readClause 87 = .ok (.bipush 32, 2) := by decide +kernel
theorem dX3_readClause_89 : decode cX3_readClause 89 = .ok (.invokevirtual 34, 3) := by decide +kernel
theorem dX3_readClause_92 : decode cX3_readClause 92 = .ok (.ifCond .eq 11, 3) := by decide +kernel
theorem dX3_readClause_95 : decode cX3_readClause 95 = .ok (.aload_n 0, 1) := by decide +kernel
theorem dX3_readClause_96 : decode cX3_readClause 96 = .ok (.iconst 0, 1) := by decide +kernel
theorem dX3_readClause_97 : decode cX3_readClause 97 = .ok (.invokevirtual 66, 3) := by decide +kernel
theorem dX3_readClause_100 : decode cX3_readClause 100 = .ok (.ifCond .ne 5, 3) := by decide +kernel
theorem dX3_readClause_103 : decode cX3_readClause 103 = .ok (.iconst 0, 1) := by decide +kernel
theorem dX3_readClause_104 : decode cX3_readClause 104 = .ok (.ireturn, 1) := by decide +kernel
theorem dX3_readClause_105 : decode cX3_readClause 105 = .ok (.aload_n 0, 1) := by decide +kernel
theorem dX3_readClause_106 : decode cX3_readClause 106 = .ok (.getfield 23, 3) := by decide +kernel
theorem dX3_readClause_109 : decode cX3_readClause 109 = .ok (.iload_n 1, 1) := by decide +kernel
theorem dX3_readClause_110 : decode cX3_readClause 110 = .ok (.bipush 99, 2) := by decide +kernel
theorem dX3_readClause_112 : decode cX3_readClause 112 = .ok (.if_icmp .ne 8, 3) := by decide +kernel
theorem dX3_readClause_115 : decode cX3_readClause 115 = .ok (.bipush 67, 2) := by decide +kernel
theorem dX3_readClause_117 : decode cX3_readClause 117 = .ok (.goto 5, 3) := by decide +kernel
theorem dX3_readClause_120 : decode cX3_readClause 120 = .ok (.bipush 89, 2) := by decide +kernel
theorem dX3_readClause_122 : decode cX3_readClause 122 = .ok (.iconst 0, 1) := by decide +kernel
theorem dX3_readClause_123 : decode cX3_readClause 123 = .ok (.iload 4, 2) := by decide +kernel
theorem dX3_readClause_125 : decode cX3_readClause 125 = .ok (.invokevirtual 69, 3) := by decide +kernel
theorem dX3_readClause_128 : decode cX3_readClause 128 = .ok (.iconst 1, 1) := by decide +kernel
theorem dX3_readClause_129 : decode cX3_readClause 129 = .ok (.ireturn, 1) := by decide +kernel
theorem dX3_readEither_0 : decode cX3_readEither 0 = .ok (.aload_n 0, 1) := by decide +kernel
theorem dX3_readEither_1 : decode cX3_readEither 1 = .ok (.iload_n 1, 1) := by decide +kernel
theorem dX3_readEither_2 : decode cX3_readEither 2 = .ok (.invokevirtual 73, 3) := by decide +kernel
theorem dX3_readEither_5 : decode cX3_readEither 5 = .ok (.istore_n 2, 1) := by decide +kernel
theorem dX3_readEither_6 : decode cX3_readEither 6 = .ok (.iconst 0, 1) := by decide +kernel
theorem dX3_readEither_7 : decode cX3_readEither 7 = .ok (.istore_n 3, 1) := by decide +kernel
theorem dX3_readEither_8 : decode cX3_readEither 8 = .ok (.iload_n 3, 1) := by decide +kernel
theorem dX3_readEither_9 : decode cX3_readEither 9 = .ok (.bipush 100, 2) := by decide +kernel
theorem dX3_readEither_11 : decode cX3_readEither 11 = .ok (.if_icmp .ge 39, 3) := by decide +kernel
theorem dX3_readEither_14 : decode cX3_readEither 14 = .ok (.iload_n 2, 1) := by decide +kernel
theorem dX3_readEither_15 : decode cX3_readEither 15 = .ok (.ifCond .eq 35, 3) := by decide +kernel
theorem dX3_readEither_18 : decode cX3_readEither 18 = .ok (.aload_n 0, 1) := by decide +kernel
theorem dX3_readEither_19 : decode cX3_readEither 19 = .ok (.bipush 124, 2) := by decide +kernel
theorem dX3_readEither_21 : decode cX3_readEither 21 = .ok (.invokevirtual 34, 3) := by decide +kernel
theorem dX3_readEither_24 : decode cX3_readEither 24 = .ok (.ifCond .eq 26, 3) := by decide +kernel
theorem dX3_readEither_27 : decode cX3_readEither 27 = .ok (.aload_n 0, 1) := by decide +kernel
theorem dX3_readEither_28 : decode cX3_readEither 28 = .ok (.iload_n 1, 1) := by decide +kernel
theorem dX3_readEither_29 : decode cX3_readEither 29 = .ok (.invokevirtual 73, 3) := by decide +kernel
theorem dX3_readEither_32 : decode cX3_readEither 32 = .ok (.istore_n 2, 1) := by decide +kernel
theorem dX3_readEither_33 : decode cX3_readEither 33 = .ok (.aload_n 0, 1) := by decide +kernel
theorem dX3_readEither_34 : decode cX3_readEither 34 = .ok (.getfield 23, 3) := by decide +kernel
theorem dX3_readEither_37 : decode cX3_readEither 37 = .ok (.bipush 124, 2) := by decide +kernel
theorem dX3_readEither_39 : decode cX3_readEither 39 = .ok (.iconst 0, 1) := by decide +kernel
theorem dX3_readEither_40 : decode cX3_readEither 40 = .ok (.iconst 0, 1) := by decide +kernel
theorem dX3_readEither_41 : decode cX3_readEither 41 = .ok (.invokevirtual 69, 3) := by decide +kernel
theorem dX3_readEither_44 : decode cX3_readEither 44 = .ok (.iinc 3 1, 3) := by decide +kernel
theorem dX3_readEither_47 : decode cX3_readEither 47 = .ok (.goto (-39), 3) := by decide +kernel
theorem dX3_readEither_50 : decode cX3_readEither 50 = .ok (.iload_n 2, 1) := by decide +kernel
theorem dX3_readEither_51 : decode cX3_readEither 51 = .ok (.ireturn, 1) := by decide +kernel
theorem dX3_readBoth_0 : decode cX3_readBoth 0 = .ok (.aload_n 0, 1) := by decide +kernel
theorem dX3_readBoth_1 : decode cX3_readBoth 1 = .ok (.iload_n 1, 1) := by decide +kernel
theorem dX3_readBoth_2 : decode cX3_readBoth 2 = .ok (.invokevirtual 76, 3) := by decide +kernel
theorem dX3_readBoth_5 : decode cX3_readBoth 5 = .ok (.istore_n 2, 1) := by decide +kernel
theorem dX3_readBoth_6 : decode cX3_readBoth 6 = .ok (.iconst 0, 1) := by decide +kernel
theorem dX3_readBoth_7 : decode cX3_readBoth 7 = .ok (.istore_n 3, 1) := by decide +kernel
theorem dX3_readBoth_8 : decode cX3_readBoth 8 = .ok (.iload_n 3, 1) := by decide +kernel
theorem dX3_readBoth_9 : decode cX3_readBoth 9 = .ok (.bipush 100, 2) := by decide +kernel
theorem dX3_readBoth_11 : decode cX3_readBoth 11 = .ok (.if_icmp .ge 39, 3) := by decide +kernel
theorem dX3_readBoth_14 : decode cX3_readBoth 14 = .ok (.iload_n 2, 1) := by decide +kernel
theorem dX3_readBoth_15 : decode cX3_readBoth 15 = .ok (.ifCond .eq 35, 3) := by decide +kernel
theorem dX3_readBoth_18 : decode cX3_readBoth 18 = .ok (.aload_n 0, 1) := by decide +kernel
theorem dX3_readBoth_19 : decode cX3_readBoth 19 = .ok (.bipush 38, 2) := by decide +kernel
theorem dX3_readBoth_21 : decode cX3_readBoth 21 = .ok (.invokevirtual 34, 3) := by decide +kernel
theorem dX3_readBoth_24 : decode cX3_readBoth 24 = .ok (.ifCond .eq 26, 3) := by decide +kernel
theorem dX3_readBoth_27 : decode cX3_readBoth 27 = .ok (.aload_n 0, 1) := by decide +kernel
theorem dX3_readBoth_28 : decode cX3_readBoth 28 = .ok (.iload_n 1, 1) := by decide +kernel
theorem dX3_readBoth_29 : decode cX3_readBoth 29 = .ok (.invokevirtual 76, 3) := by decide +kernel
theorem dX3_readBoth_32 : decode cX3_readBoth 32 = .ok (.istore_n 2, 1) := by decide +kernel
theorem dX3_readBoth_33 : decode cX3_readBoth 33 = .ok (.aload_n 0, 1) := by decide +kernel
theorem dX3_readBoth_34 : decode cX3_readBoth 34 = .ok (.getfield 23, 3) := by decide +kernel
theorem dX3_readBoth_37 : decode cX3_readBoth 37 = .ok (.bipush 38, 2) := by decide +kernel
theorem dX3_readBoth_39 : decode cX3_readBoth 39 = .ok (.iconst 0, 1) := by decide +kernel
theorem dX3_readBoth_40 : decode cX3_readBoth 40 = .ok (.iconst 0, 1) := by decide +kernel
theorem dX3_readBoth_41 : decode cX3_readBoth 41 = .ok (.invokevirtual 69, 3) := by decide +kernel
theorem dX3_readBoth_44 : decode cX3_readBoth 44 = .ok (.iinc 3 1, 3) := by decide +kernel
theorem dX3_readBoth_47 : decode cX3_readBoth 47 = .ok (.goto (-39), 3) := by decide +kernel
theorem dX3_readBoth_50 : decode cX3_readBoth 50 = .ok (.iload_n 2, 1) := by decide +kernel
theorem dX3_readBoth_51 : decode cX3_readBoth 51 = .ok (.ireturn, 1) := by decide +kernel
theorem dX3_readOne_0 : decode cX3_readOne 0 = .ok (.iload_n 1, 1) := by decide +kernel
theorem dX3_readOne_1 : decode cX3_readOne 1 = .ok (.istore_n 2, 1) := by decide +kernel
theorem dX3_readOne_2 : decode cX3_readOne 2 = .ok (.iload_n 2, 1) := by decide +kernel
theorem dX3_readOne_3 : decode cX3_readOne 3 = .ok (.iconst 4, 1) := by decide +kernel
theorem dX3_readOne_4 : decode cX3_readOne 4 = .ok (.if_icmp .ge 18, 3) := by decide +kernel
theorem dX3_readOne_7 : decode cX3_readOne 7 = .ok (.aload_n 0, 1) := by decide +kernel
theorem dX3_readOne_8 : decode cX3_readOne 8 = .ok (.bipush 33, 2) := by decide +kernel
theorem dX3_readOne_10 : decode cX3_readOne 10 = .ok (.invokevirtual 34, 3) := by decide +kernel
theorem dX3_readOne_13 : decode cX3_readOne 13 = .ok (.ifCond .eq 9, 3) := by decide +kernel
theorem dX3_readOne_16 : decode cX3_readOne 16 = .ok (.iinc 2 1, 3) := by decide +kernel
theorem dX3_readOne_19 : decode cX3_readOne 19 = .ok (.goto (-17), 3) := by decide +kernel
theorem dX3_readOne_22 : decode cX3_readOne 22 = .ok (.iload_n 2, 1) := by decide +kernel
theorem dX3_readOne_23 : decode cX3_readOne 23 = .ok (.iconst 4, 1) := by decide +kernel
theorem dX3_readOne_24 : decode cX3_readOne 24 = .ok (.if_icmp .ge 33, 3) := by decide +kernel
theorem dX3_readOne_27 : decode cX3_readOne 27 = .ok (.aload_n 0, 1) := by decide +kernel
theorem dX3_readOne_28 : decode cX3_readOne 28 = .ok (.bipush 40, 2) := by decide +kernel
theorem dX3_readOne_30 : decode cX3_readOne 30 = .ok (.invokevirtual 34, 3) := by decide +kernel
theorem dX3_readOne_33 : decode cX3_readOne 33 = .ok (.ifCond .eq 24, 3) := by decide +kernel
theorem dX3_readOne_36 : decode cX3_readOne 36 = .ok (.aload_n 0, 1) := by decide +kernel
theorem dX3_readOne_37 : decode cX3_readOne 37 = .ok (.iload_n 2, 1) := by decide +kernel
theorem dX3_readOne_38 : decode cX3_readOne 38 = .ok (.iconst 1, 1) := by decide +kernel
theorem dX3_readOne_39 : decode cX3_readOne 39 = .ok (.iadd, 1) := by decide +kernel
theorem dX3_readOne_40 : decode cX3_readOne 40 = .ok (.invokevirtual 66, 3) := by decide +kernel
theorem dX3_readOne_43 : decode cX3_readOne 43 = .ok (.ifCond .eq 12, 3) := by decide +kernel
theorem dX3_readOne_46 : decode cX3_readOne 46 = .ok (.aload_n 0, 1) := by decide +kernel
theorem dX3_readOne_47 : decode cX3_readOne 47 = .ok (.bipush 41, 2) := by decide +kernel
theorem dX3_readOne_49 : decode cX3_readOne 49 = .ok (.invokevirtual 34, 3) := by decide +kernel
theorem dX3_readOne_52 : decode cX3_readOne 52 = .ok (.ifCond .ne 131, 3) := by decide +kernel
theorem dX3_readOne_55 : decode cX3_readOne 55 = .ok (.iconst 0, 1) := by decide +kernel
theorem dX3_readOne_56 : decode cX3_readOne 56 = .ok (.ireturn, 1) := by decide +kernel
theorem dX3_readOne_57 : decode cX3_readOne 57 = .ok (.aload_n 0, 1) := by decide +kernel
theorem dX3_readOne_58 : decode cX3_readOne 58 = .ok (.getfield 14, 3) := by decide +kernel
theorem dX3_readOne_61 : decode cX3_readOne 61 = .ok (.aload_n 0, 1) := by decide +kernel
theorem dX3_readOne_62 : decode cX3_readOne 62 = .ok (.getfield 27, 3) := by decide +kernel
theorem dX3_readOne_65 : decode cX3_readOne 65 = .ok (.invokevirtual 45, 3) := by decide +kernel
theorem dX3_readOne_68 : decode cX3_readOne 68 = .ok (.istore_n 3, 1) := by decide +kernel
theorem dX3_readOne_69 : decode cX3_readOne 69 = .ok (.iload_n 3, 1) := by decide +kernel
theorem dX3_readOne_70 : decode cX3_readOne 70 = .ok (.bipush 110, 2) := by decide +kernel
theorem dX3_readOne_72 : decode cX3_readOne 72 = .ok (.if_icmp .eq 29, 3) := by decide +kernel
theorem dX3_readOne_75 : decode cX3_readOne 75 = .ok (.iload_n 3, 1) := by decide +kernel
theorem dX3_readOne_76 : decode cX3_readOne 76 = .ok (.bipush 104, 2) := by decide +kernel
theorem dX3_readOne_78 : decode cX3_readOne 78 = .ok (.if_icmp .eq 23, 3) := by decide +kernel
theorem dX3_readOne_81 : decode cX3_readOne 81 = .ok (.iload_n 3, 1) := by decide +kernel
theorem dX3_readOne_82 : decode cX3_readOne 82 = .ok (.bipush 98, 2) := by decide +kernel
theorem dX3_readOne_84 : decode cX3_readOne 84 = .ok (.if_icmp .eq 17, 3) := by decide +kernel
theorem dX3_readOne_87 : decode cX3_readOne 87 = .ok (.iload_n 3, 1) := by decide +kernel
theorem dX3_readOne_88 : decode cX3_readOne 88 = .ok (.bipush 99, 2) := by decide +kernel
theorem dX3_readOne_90 : decode cX3_readOne 90 = .ok (.if_icmp .eq 11, 3) := by decide +kernel
theorem dX3_readOne_93 : decode cX3_readOne 93 = .ok (.iload_n 3, 1) := by decide +kernel
theorem dX3_readOne_94 : decode cX3_readOne 94 = .ok (.bipush 116, 2) := by decide +kernel
theorem dX3_readOne_96 : decode cX3_readOne 96 = .ok (.if_icmp .eq 5, 3) := by decide +kernel
theorem dX3_readOne_99 : decode cX3_readOne 99 = .ok (.iconst 0, 1) := by decide +kernel
theorem dX3_readOne_100 : decode cX3_readOne 100 = .ok (.ireturn, 1) := by decide +kernel
theorem dX3_readOne_101 : decode cX3_readOne 101 = .ok (.aload_n 0, 1) := by decide +kernel
theorem dX3_readOne_102 : decode cX3_readOne 102 = .ok (.dup, 1) := by decide +kernel
theorem dX3_readOne_103 : decode cX3_readOne 103 = .ok (.getfield 27, 3) := by decide +kernel
theorem dX3_readOne_106 : decode cX3_readOne 106 = .ok (.iconst 1, 1) := by decide +kernel
theorem dX3_readOne_107 : decode cX3_readOne 107 = .ok (.iadd, 1) := by decide +kernel
theorem dX3_readOne_108 : decode cX3_readOne 108 = .ok (.putfield 27, 3) := by decide +kernel
theorem dX3_readOne_111 : decode cX3_readOne 111 = .ok (.aload_n 0, 1) := by decide +kernel
theorem dX3_readOne_112 : decode cX3_readOne 112 = .ok (.getfield 14, 3) := by decide +kernel
theorem dX3_readOne_115 : decode cX3_readOne 115 = .ok (.aload_n 0, 1) := by decide +kernel
theorem dX3_readOne_116 : decode cX3_readOne 116 = .ok (.getfield 27, 3) := by decide +kernel
theorem dX3_readOne_119 : decode cX3_readOne 119 = .ok (.invokevirtual 45, 3) := by decide +kernel
theorem dX3_readOne_122 : decode cX3_readOne 122 = .ok (.istore 4, 2) := by decide +kernel
theorem dX3_readOne_124 : decode cX3_readOne 124 = .ok (.iload 4, 2) := by decide +kernel
theorem dX3_readOne_126 : decode cX3_readOne 126 = .ok (.bipush 60, 2) := by decide +kernel
theorem dX3_readOne_128 : decode cX3_readOne 128 = .ok (.if_icmp .eq 19, 3) := by decide +kernel
theorem dX3_readOne_131 : decode cX3_readOne 131 = .ok (.iload 4, 2) := by decide +kernel
theorem dX3_readOne_133 : decode cX3_readOne 133 = .ok (.bipush 61, 2) := by decide +kernel
theorem dX3_readOne_135 : decode cX3_readOne 135 = .ok (.if_icmp .eq 12, 3) := by decide +kernel
theorem dX3_readOne_138 : decode cX3_readOne 138 = .ok (.iload 4, 2) := by decide +kernel
theorem dX3_readOne_140 : decode cX3_readOne 140 = .ok (.bipush 62, 2) := by decide +kernel
theorem dX3_readOne_142 : decode cX3_readOne 142 = .ok (.if_icmp .eq 5, 3) := by decide +kernel
theorem dX3_readOne_145 : decode cX3_readOne 145 = .ok (.iconst 0, 1) := by decide +kernel
theorem dX3_readOne_146 : decode cX3_readOne 146 = .ok (.ireturn, 1) := by decide +kernel
theorem dX3_readOne_147 : decode cX3_readOne 147 = .ok (.aload_n 0, 1) := by decide +kernel
theorem dX3_readOne_148 : decode cX3_readOne 148 = .ok (.dup, 1) := by decide +kernel
theorem dX3_readOne_149 : decode cX3_readOne 149 = .ok (.getfield 27, 3) := by decide +kernel
theorem dX3_readOne_152 : decode cX3_readOne 152 = .ok (.iconst 1, 1) := by decide +kernel
theorem dX3_readOne_153 : decode cX3_readOne 153 = .ok (.iadd, 1) := by decide +kernel
theorem dX3_readOne_154 : decode cX3_readOne 154 = .ok (.putfield 27, 3) := by decide +kernel
theorem dX3_readOne_157 : decode cX3_readOne 157 = .ok (.aload_n 0, 1) := by decide +kernel
theorem dX3_readOne_158 : decode cX3_readOne 158 = .ok (.invokevirtual 59, 3) := by decide +kernel
theorem dX3_readOne_161 : decode cX3_readOne 161 = .ok (.istore 5, 2) := by decide +kernel
theorem dX3_readOne_163 : decode cX3_readOne 163 = .ok (.iload 5, 2) := by decide +kernel
theorem dX3_readOne_165 : decode cX3_readOne 165 = .ok (.iconst (-1), 1) := by decide +kernel
theorem dX3_readOne_166 : decode cX3_readOne 166 = .ok (.if_icmp .ne 5, 3) := by decide +kernel
theorem dX3_readOne_169 : decode cX3_readOne 169 = .ok (.iconst 0, 1) := by decide +kernel
theorem dX3_readOne_170 : decode cX3_readOne 170 = .ok (.ireturn, 1) := by decide +kernel
theorem dX3_readOne_171 : decode cX3_readOne 171 = .ok (.aload_n 0, 1) := by decide +kernel
theorem dX3_readOne_172 : decode cX3_readOne 172 = .ok (.getfield 23, 3) := by decide +kernel
theorem dX3_readOne_175 : decode cX3_readOne 175 = .ok (.iload_n 3, 1) := by decide +kernel
theorem dX3_readOne_176 : decode cX3_readOne 176 = .ok (.iload 4, 2) := by decide +kernel
theorem dX3_readOne_178 : decode cX3_readOne 178 = .ok (.iload 5, 2) := by decide +kernel
theorem dX3_readOne_180 : decode cX3_readOne 180 = .ok (.invokevirtual 69, 3) := by decide +kernel
theorem dX3_readOne_183 : decode cX3_readOne 183 = .ok (.iload_n 2, 1) := by decide +kernel
theorem dX3_readOne_184 : decode cX3_readOne 184 = .ok (.iload_n 1, 1) := by decide +kernel
theorem dX3_readOne_185 : decode cX3_readOne 185 = .ok (.isub, 1) := by decide +kernel
theorem dX3_readOne_186 : decode cX3_readOne 186 = .ok (.iconst 2, 1) := by decide +kernel
theorem dX3_readOne_187 : decode cX3_readOne 187 = .ok (.irem, 1) := by decide +kernel
theorem dX3_readOne_188 : decode cX3_readOne 188 = .ok (.ifCond .eq 14, 3) := by decide +kernel
theorem dX3_readOne_191 : decode cX3_readOne 191 = .ok (.aload_n 0, 1) := by decide +kernel
theorem dX3_readOne_192 : decode cX3_readOne 192 = .ok (.getfield 23, 3) := by decide +kernel
theorem dX3_readOne_195 : decode cX3_readOne 195 = .ok (.bipush 33, 2) := by decide +kernel
theorem dX3_readOne_197 : decode cX3_readOne 197 = .ok (.iconst 0, 1) := by decide +kernel
theorem dX3_readOne_198 : decode cX3_readOne 198 = .ok (.iconst 0, 1) := by decide +kernel
theorem dX3_readOne_199 : decode cX3_readOne 199 = .ok (.invokevirtual 69, 3) := by decide +kernel
theorem dX3_readOne_202 : decode cX3_readOne 202 = .ok (.iconst 1, 1) := by decide +kernel
theorem dX3_readOne_203 : decode cX3_readOne 203 = .ok (.ireturn, 1) := by decide +kernel
theorem dX3_readNumber_0 : decode cX3_readNumber 0 = .ok (.aload_n 0, 1) := by decide +kernel
theorem dX3_readNumber_1 : decode cX3_readNumber 1 = .ok (.getfield 14, 3) := by decide +kernel
theorem dX3_readNumber_4 : decode cX3_readNumber 4 = .ok (.aload_n 0, 1) := by decide +kernel
theorem dX3_readNumber_5 : decode cX3_readNumber 5 = .ok (.getfield 27, 3) := by decide +kernel
theorem dX3_readNumber_8 : decode cX3_readNumber 8 = .ok (.invokevirtual 45, 3) := by decide +kernel
theorem dX3_readNumber_11 : decode cX3_readNumber 11 = .ok (.bipush 48, 2) := by decide +kernel
theorem dX3_readNumber_13 : decode cX3_readNumber 13 = .ok (.isub, 1) := by decide +kernel
theorem dX3_readNumber_14 : decode cX3_readNumber 14 = .ok (.istore_n 1, 1) := by decide +kernel
theorem dX3_readNumber_15 : decode cX3_readNumber 15 = .ok (.iload_n 1, 1) := by decide +kernel
theorem dX3_readNumber_16 : decode cX3_readNumber 16 = .ok (.ifCond .lt 9, 3) := by decide +kernel
theorem dX3_readNumber_19 : decode cX3_readNumber 19 = .ok (.iload_n 1, 1) := by decide +kernel
theorem dX3_readNumber_20 : decode cX3_readNumber 20 = .ok (.bipush 9, 2) := by decide +kernel
theorem dX3_readNumber_22 : decode cX3_readNumber 22 = .ok (.if_icmp .le 5, 3) := by decide +kernel
theorem dX3_readNumber_25 : decode cX3_readNumber 25 = .ok (.iconst (-1), 1) := by decide +kernel
theorem dX3_readNumber_26 : decode cX3_readNumber 26 = .ok (.ireturn, 1) := by decide +kernel
theorem dX3_readNumber_27 : decode cX3_readNumber 27 = .ok (.aload_n 0, 1) := by decide +kernel
theorem dX3_readNumber_28 : decode cX3_readNumber 28 = .ok (.dup, 1) := by decide +kernel
theorem dX3_readNumber_29 : decode cX3_readNumber 29 = .ok (.getfield 27, 3) := by decide +kernel
theorem dX3_readNumber_32 : decode cX3_readNumber 32 = .ok (.iconst 1, 1) := by decide +kernel
theorem dX3_readNumber_33 : decode cX3_readNumber 33 = .ok (.iadd, 1) := by decide +kernel
theorem dX3_readNumber_34 : decode cX3_readNumber 34 = .ok (.putfield 27, 3) := by decide +kernel
theorem dX3_readNumber_37 : decode cX3_readNumber 37 = .ok (.aload_n 0, 1) := by decide +kernel
theorem dX3_readNumber_38 : decode cX3_readNumber 38 = .ok (.getfield 14, 3) := by decide +kernel
theorem dX3_readNumber_41 : decode cX3_readNumber 41 = .ok (.aload_n 0, 1) := by decide +kernel
theorem dX3_readNumber_42 : decode cX3_readNumber 42 = .ok (.getfield 27, 3) := by decide +kernel
theorem dX3_readNumber_45 : decode cX3_readNumber 45 = .ok (.invokevirtual 45, 3) := by decide +kernel
theorem dX3_readNumber_48 : decode cX3_readNumber 48 = .ok (.bipush 48, 2) := by decide +kernel
theorem dX3_readNumber_50 : decode cX3_readNumber 50 = .ok (.isub, 1) := by decide +kernel
theorem dX3_readNumber_51 : decode cX3_readNumber 51 = .ok (.istore_n 2, 1) := by decide +kernel
theorem dX3_readNumber_52 : decode cX3_readNumber 52 = .ok (.iload_n 2, 1) := by decide +kernel
theorem dX3_readNumber_53 : decode cX3_readNumber 53 = .ok (.ifCond .lt 9, 3) := by decide +kernel
theorem dX3_readNumber_56 : decode cX3_readNumber 56 = .ok (.iload_n 2, 1) := by decide +kernel
theorem dX3_readNumber_57 : decode cX3_readNumber 57 = .ok (.bipush 9, 2) := by decide +kernel
theorem dX3_readNumber_59 : decode cX3_readNumber 59 = .ok (.if_icmp .le 5, 3) := by decide +kernel
theorem dX3_readNumber_62 : decode cX3_readNumber 62 = .ok (.iload_n 1, 1) := by decide +kernel
theorem dX3_readNumber_63 : decode cX3_readNumber 63 = .ok (.ireturn, 1) := by decide +kernel
theorem dX3_readNumber_64 : decode cX3_readNumber 64 = .ok (.aload_n 0, 1) := by decide +kernel
theorem dX3_readNumber_65 : decode cX3_readNumber 65 = .ok (.dup, 1) := by decide +kernel
theorem dX3_readNumber_66 : decode cX3_readNumber 66 = .ok (.getfield 27, 3) := by decide +kernel
theorem dX3_readNumber_69 : decode cX3_readNumber 69 = .ok (.iconst 1, 1) := by decide +kernel
theorem dX3_readNumber_70 : decode cX3_readNumber 70 = .ok (.iadd, 1) := by decide +kernel
theorem dX3_readNumber_71 : decode cX3_readNumber 71 = .ok (.putfield 27, 3) := by decide +kernel
theorem dX3_readNumber_74 : decode cX3_readNumber 74 = .ok (.bipush 10, 2) := by decide +kernel
theorem dX3_readNumber_76 : decode cX3_readNumber 76 = .ok (.iload_n 1, 1) := by decide +kernel
theorem dX3_readNumber_77 : decode cX3_readNumber 77 = .ok (.imul, 1) := by decide +kernel
theorem dX3_readNumber_78 : decode cX3_readNumber 78 = .ok (.iload_n 2, 1) := by decide +kernel
theorem dX3_readNumber_79 : decode cX3_readNumber 79 = .ok (.iadd, 1) := by decide +kernel
theorem dX3_readNumber_80 : decode cX3_readNumber 80 = .ok (.ireturn, 1) := by decide +kernel
theorem dX3_readWord_0 : decode cX3_readWord 0 = .ok (.iconst 0, 1) := by decide +kernel
theorem dX3_readWord_1 : decode cX3_readWord 1 = .ok (.istore_n 2, 1) := by decide +kernel
theorem dX3_readWord_2 : decode cX3_readWord 2 = .ok (.iload_n 2, 1) := by decide +kernel
theorem dX3_readWord_3 : decode cX3_readWord 3 = .ok (.aload_n 1, 1) := by decide +kernel
theorem dX3_readWord_4 : decode cX3_readWord 4 = .ok (.invokevirtual 79, 3) := by decide +kernel
theorem dX3_readWord_7 : decode cX3_readWord 7 = .ok (.if_icmp .ge 23, 3) := by decide +kernel
theorem dX3_readWord_10 : decode cX3_readWord 10 = .ok (.aload_n 0, 1) := by decide +kernel
theorem dX3_readWord_11 : decode cX3_readWord 11 = .ok (.aload_n 1, 1) := by decide +kernel
theorem dX3_readWord_12 : decode cX3_readWord 12 = .ok (.iload_n 2, 1) := by decide +kernel
theorem dX3_readWord_13 : decode cX3_readWord 13 = .ok (.invokevirtual 84, 3) := by decide +kernel
theorem dX3_readWord_16 : decode cX3_readWord 16 = .ok (.invokevirtual 34, 3) := by decide +kernel
theorem dX3_readWord_19 : decode cX3_readWord 19 = .ok (.ifCond .ne 5, 3) := by decide +kernel
theorem dX3_readWord_22 : decode cX3_readWord 22 = .ok (.iconst 0, 1) := by decide +kernel
theorem dX3_readWord_23 : decode cX3_readWord 23 = .ok (.ireturn, 1) := by decide +kernel
theorem dX3_readWord_24 : decode cX3_readWord 24 = .ok (.iinc 2 1, 3) := by decide +kernel
theorem dX3_readWord_27 : decode cX3_readWord 27 = .ok (.goto (-25), 3) := by decide +kernel
theorem dX3_readWord_30 : decode cX3_readWord 30 = .ok (.iconst 1, 1) := by decide +kernel
theorem dX3_readWord_31 : decode cX3_readWord 31 = .ok (.ireturn, 1) := by decide +kernel
theorem dX3_accept_0 : decode cX3_accept 0 = .ok (.aload_n 0, 1) := by decide +kernel
theorem dX3_accept_1 : decode cX3_accept 1 = .ok (.getfield 14, 3) := by decide +kernel
theorem dX3_accept_4 : decode cX3_accept 4 = .ok (.aload_n 0, 1) := by decide +kernel
theorem dX3_accept_5 : decode cX3_accept 5 = .ok (.getfield 27, 3) := by decide +kernel
theorem dX3_accept_8 : decode cX3_accept 8 = .ok (.invokevirtual 45, 3) := by decide +kernel
theorem dX3_accept_11 : decode cX3_accept 11 = .ok (.iload_n 1, 1) := by decide +kernel
theorem dX3_accept_12 : decode cX3_accept 12 = .ok (.if_icmp .eq 5, 3) := by decide +kernel
theorem dX3_accept_15 : decode cX3_accept 15 = .ok (.iconst 0, 1) := by decide +kernel
theorem dX3_accept_16 : decode cX3_accept 16 = .ok (.ireturn, 1) := by decide +kernel
theorem dX3_accept_17 : decode cX3_accept 17 = .ok (.aload_n 0, 1) := by decide +kernel
theorem dX3_accept_18 : decode cX3_accept 18 = .ok (.dup, 1) := by decide +kernel
theorem dX3_accept_19 : decode cX3_accept 19 = .ok (.getfield 27, 3) := by decide +kernel
theorem dX3_accept_22 : decode cX3_accept 22 = .ok (.iconst 1, 1) := by decide +kernel
theorem dX3_accept_23 : decode cX3_accept 23 = .ok (.iadd, 1) := by decide +kernel
theorem dX3_accept_24 : decode cX3_accept 24 = .ok (.putfield 27, 3) := by decide +kernel
theorem dX3_accept_27 : decode cX3_accept 27 = .ok (.iconst 1, 1) := by decide +kernel
theorem dX3_accept_28 : decode cX3_accept 28 = .ok (.ireturn, 1) := by decide +kernel
theorem dX4_init_0 : decode cX4_init 0 = .ok (.aload_n 0, 1) := by decide +kernel
theorem dX4_init_1 : decode cX4_init 1 = .ok (.invokespecial 3, 3) := by decide +kernel
theorem dX4_init_4 : decode cX4_init 4 = .ok (.aload_n 0, 1) := by decide +kernel
theorem dX4_init_5 : decode cX4_init 5 = .ok (.new 9, 3) := by decide +kernel
theorem dX4_init_8 : decode cX4_init 8 = .ok (.dup, 1) := by decide +kernel
theorem dX4_init_9 : decode cX4_init 9 = .ok (.bipush 100, 2) := by decide +kernel
theorem dX4_init_11 : decode cX4_init 11 = .ok (.invokespecial 11, 3) := by decide +kernel
theorem dX4_init_14 : decode cX4_init 14 = .ok (.putfield 14, 3) := by decide +kernel
theorem dX4_init_17 : decode cX4_init 17 = .ok (.aload_n 0, 1) := by decide +kernel
theorem dX4_init_18 : decode cX4_init 18 = .ok (.new 9, 3) := by decide +kernel
theorem dX4_init_21 : decode cX4_init 21 = .ok (.dup, 1) := by decide +kernel
theorem dX4_init_22 : decode cX4_init 22 = .ok (.bipush 100, 2) := by decide +kernel
theorem dX4_init_24 : decode cX4_init 24 = .ok (.invokespecial 11, 3) := by decide +kernel
theorem dX4_init_27 : decode cX4_init 27 = .ok (.putfield 20, 3) := by decide +kernel
theorem dX4_init_30 : decode cX4_init 30 = .ok (.aload_n 0, 1) := by decide +kernel
theorem dX4_init_31 : decode cX4_init 31 = .ok (.new 9, 3) := by decide +kernel
theorem dX4_init_34 : decode cX4_init 34 = .ok (.dup, 1) := by decide +kernel
theorem dX4_init_35 : decode cX4_init 35 = .ok (.bipush 100, 2) := by decide +kernel
theorem dX4_init_37 : decode cX4_init 37 = .ok (.invokespecial 11, 3) := by decide +kernel
theorem dX4_init_40 : decode cX4_init 40 = .ok (.putfield 23, 3) := by decide +kernel
theorem dX4_init_43 : decode cX4_init 43 = .ok (.aload_n 0, 1) := by decide +kernel
theorem dX4_init_44 : decode cX4_init 44 = .ok (.iconst 1, 1) := by decide +kernel
theorem dX4_init_45 : decode cX4_init 45 = .ok (.putfield 26, 3) := by decide +kernel
theorem dX4_init_48 : decode cX4_init 48 = .ok (.return_, 1) := by decide +kernel
theorem dX4_clear_0 : decode cX4_clear 0 = .ok (.aload_n 0, 1) := by decide +kernel
theorem dX4_clear_1 : decode cX4_clear 1 = .ok (.getfield 14, 3) := by decide +kernel
theorem dX4_clear_4 : decode cX4_clear 4 = .ok (.invokevirtual 30, 3) := by decide +kernel
theorem dX4_clear_7 : decode cX4_clear 7 = .ok (.aload_n 0, 1) := by decide +kernel
theorem dX4_clear_8 : decode cX4_clear 8 = .ok (.getfield 20, 3) := by decide +kernel
theorem dX4_clear_11 : decode cX4_clear 11 = .ok (.invokevirtual 30, 3) := by decide +kernel
theorem dX4_clear_14 : decode cX4_clear 14 = .ok (.aload_n 0, 1) := by decide +kernel
theorem dX4_clear_15 : decode cX4_clear 15 = .ok (.getfield 23, 3) := by decide +kernel
theorem dX4_clear_18 : decode cX4_clear 18 = .ok (.invokevirtual 30, 3) := by decide +kernel
theorem dX4_clear_21 : decode cX4_clear 21 = .ok (.aload_n 0, 1) := by decide +kernel
theorem dX4_clear_22 : decode cX4_clear 22 = .ok (.iconst 1, 1) := by decide +kernel
theorem dX4_clear_23 : decode cX4_clear 23 = .ok (.putfield 26, 3) := by decide +kernel
theorem dX4_clear_26 : decode cX4_clear 26 = .ok (.return_, 1) := by decide +kernel
theorem dX4_add_0 : decode cX4_add 0 = .ok (.aload_n 0, 1) := by decide +kernel
theorem dX4_add_1 : decode cX4_add 1 = .ok (.getfield 14, 3) := by decide +kernel
theorem dX4_add_4 : decode cX4_add 4 = .ok (.iload_n 1, 1) := by decide +kernel
theorem dX4_add_5 : decode cX4_add 5 = .ok (.invokevirtual 33, 3) := by decide +kernel
theorem dX4_add_8 : decode cX4_add 8 = .ok (.aload_n 0, 1) := by decide +kernel
theorem dX4_add_9 : decode cX4_add 9 = .ok (.getfield 20, 3) := by decide +kernel
theorem dX4_add_12 : decode cX4_add 12 = .ok (.iload_n 2, 1) := by decide +kernel
theorem dX4_add_13 : decode cX4_add 13 = .ok (.invokevirtual 33, 3) := by decide +kernel
theorem dX4_add_16 : decode cX4_add 16 = .ok (.aload_n 0, 1) := by decide +kernel
theorem dX4_add_17 : decode cX4_add 17 = .ok (.getfield 23, 3) := by decide +kernel
theorem dX4_add_20 : decode cX4_add 20 = .ok (.iload_n 3, 1) := by decide +kernel
theorem dX4_add_21 : decode cX4_add 21 = .ok (.invokevirtual 33, 3) := by decide +kernel
theorem dX4_add_24 : decode cX4_add 24 = .ok (.return_, 1) := by decide +kernel
theorem dX4_copyFrom_0 : decode cX4_copyFrom 0 = .ok (.aload_n 0, 1) := by decide +kernel
theorem dX4_copyFrom_1 : decode cX4_copyFrom 1 = .ok (.getfield 14, 3) := by decide +kernel
theorem dX4_copyFrom_4 : decode cX4_copyFrom 4 = .ok (.aload_n 1, 1) := by decide +kernel
theorem dX4_copyFrom_5 : decode cX4_copyFrom 5 = .ok (.getfield 14, 3) := by decide +kernel
theorem dX4_copyFrom_8 : decode cX4_copyFrom 8 = .ok (.invokevirtual 36, 3) := by decide +kernel
theorem dX4_copyFrom_11 : decode cX4_copyFrom 11 = .ok (.aload_n 0, 1) := by decide +kernel
theorem dX4_copyFrom_12 : decode cX4_copyFrom 12 = .ok (.getfield 20, 3) := by decide +kernel
theorem dX4_copyFrom_15 : decode cX4_copyFrom 15 = .ok (.aload_n 1, 1) := by decide +kernel
theorem dX4_copyFrom_16 : decode cX4_copyFrom 16 = .ok (.getfield 20, 3) := by decide +kernel
theorem dX4_copyFrom_19 : decode cX4_copyFrom 19 = .ok (.invokevirtual 36, 3) := by decide +kernel
theorem dX4_copyFrom_22 : decode cX4_copyFrom 22 = .ok (.aload_n 0, 1) := by decide +kernel
theorem dX4_copyFrom_23 : decode cX4_copyFrom 23 = .ok (.getfield 23, 3) := by decide +kernel
theorem dX4_copyFrom_26 : decode cX4_copyFrom 26 = .ok (.aload_n 1, 1) := by decide +kernel
theorem dX4_copyFrom_27 : decode cX4_copyFrom 27 = .ok (.getfield 23, 3) := by decide +kernel
theorem dX4_copyFrom_30 : decode cX4_copyFrom 30 = .ok (.invokevirtual 36, 3) := by decide +kernel
theorem dX4_copyFrom_33 : decode cX4_copyFrom 33 = .ok (.aload_n 0, 1) := by decide +kernel
theorem dX4_copyFrom_34 : decode cX4_copyFrom 34 = .ok (.aload_n 1, 1) := by decide +kernel
theorem dX4_copyFrom_35 : decode cX4_copyFrom 35 = .ok (.getfield 26, 3) := by decide +kernel
theorem dX4_copyFrom_38 : decode cX4_copyFrom 38 = .ok (.putfield 26, 3) := by decide +kernel
theorem dX4_copyFrom_41 : decode cX4_copyFrom 41 = .ok (.return_, 1) := by decide +kernel
theorem dX4_addTo_0 : decode cX4_addTo 0 = .ok (.lconst 0, 1) := by decide +kernel
theorem dX4_addTo_1 : decode cX4_addTo 1 = .ok (.lstore_n 2, 1) := by decide +kernel
theorem dX4_addTo_2 : decode cX4_addTo 2 = .ok (.iconst 0, 1) := by decide +kernel
theorem dX4_addTo_3 : decode cX4_addTo 3 = .ok (.istore 4, 2) := by decide +kernel
theorem dX4_addTo_5 : decode cX4_addTo 5 = .ok (.iload 4, 2) := by decide +kernel
theorem dX4_addTo_7 : decode cX4_addTo 7 = .ok (.aload_n 0, 1) := by decide +kernel
theorem dX4_addTo_8 : decode cX4_addTo 8 = .ok (.getfield 14, 3) := by decide +kernel
theorem dX4_addTo_11 : decode cX4_addTo 11 = .ok (.getfield 40, 3) := by decide +kernel
theorem dX4_addTo_14 : decode cX4_addTo 14 = .ok (.if_icmp .ge 221, 3) := by decide +kernel
theorem dX4_addTo_17 : decode cX4_addTo 17 = .ok (.aload_n 0, 1) := by decide +kernel
theorem dX4_addTo_18 : decode cX4_addTo 18 = .ok (.getfield 14, 3) := by decide +kernel
theorem dX4_addTo_21 : decode cX4_addTo 21 = .ok (.iload 4, 2) := by decide +kernel
theorem dX4_addTo_23 : decode cX4_addTo 23 = .ok (.invokevirtual 43, 3) := by decide +kernel
theorem dX4_addTo_26 : decode cX4_addTo 26 = .ok (.istore 5, 2) := by decide +kernel
theorem dX4_addTo_28 : decode cX4_addTo 28 = .ok (.aload_n 0, 1) := by decide +kernel
theorem dX4_addTo_29 : decode cX4_addTo 29 = .ok (.getfield 23, 3) := by decide +kernel
theorem dX4_addTo_32 : decode cX4_addTo 32 = .ok (.iload 4, 2) := by decide +kernel
theorem dX4_addTo_34 : decode cX4_addTo 34 = .ok (.invokevirtual 43, 3) := by decide +kernel
theorem dX4_addTo_37 : decode cX4_addTo 37 = .ok (.istore 6, 2) := by decide +kernel
theorem dX4_addTo_39 : decode cX4_addTo 39 = .ok (.lload_n 2, 1) := by decide +kernel
theorem dX4_addTo_40 : decode cX4_addTo 40 = .ok (.lconst 1, 1) := by decide +kernel
theorem dX4_addTo_41 : decode cX4_addTo 41 = .ok (.land, 1) := by decide +kernel
theorem dX4_addTo_42 : decode cX4_addTo 42 = .ok (.lconst 0, 1) := by decide +kernel
theorem dX4_addTo_43 : decode cX4_addTo 43 = .ok (.lcmp, 1) := by decide +kernel
theorem dX4_addTo_44 : decode cX4_addTo 44 = .ok (.ifCond .eq 7, 3) := by decide +kernel
theorem dX4_addTo_47 : decode cX4_addTo 47 = .ok (.iconst 1, 1) := by decide +kernel
theorem dX4_addTo_48 : decode cX4_addTo 48 = .ok (.goto 4, 3) := by decide +kernel
theorem dX4_addTo_51 : decode cX4_addTo 51 = .ok (.iconst 0, 1) := by decide +kernel
theorem dX4_addTo_52 : decode cX4_addTo 52 = .ok (.istore 7, 2) := by decide +kernel
theorem dX4_addTo_54 : decode cX4_addTo 54 = .ok (.iload 5, 2) := by decide +kernel
theorem dX4_addTo_56 : decode cX4_addTo 56 = .ok (.lookupswitch 142 #[(33, 52), (38, 59), (67, 117), (89, 92), (124, 81)], 52) := by decide +kernel
theorem dX4_addTo_108 : decode cX4_addTo 108 = .ok (.lload_n 2, 1) := by decide +kernel
theorem dX4_addTo_109 : decode cX4_addTo 109 = .ok (.lconst 1, 1) := by decide +kernel
theorem dX4_addTo_110 : decode cX4_addTo 110 = .ok (.lxor, 1) := by decide +kernel
theorem dX4_addTo_111 : decode cX4_addTo 111 = .ok (.lstore_n 2, 1) := by decide +kernel
theorem dX4_addTo_112 : decode cX4_addTo 112 = .ok (.goto 117, 3) := by decide +kernel
theorem dX4_addTo_115 : decode cX4_addTo 115 = .ok (.iload 7, 2) := by decide +kernel
theorem dX4_addTo_117 : decode cX4_addTo 117 = .ok (.ifCond .eq 9, 3) := by decide +kernel
theorem dX4_addTo_120 : decode cX4_addTo 120 = .ok (.lload_n 2, 1) := by decide +kernel
theorem dX4_addTo_121 : decode cX4_addTo 121 = .ok (.iconst 1, 1) := by decide +kernel
theorem dX4_addTo_122 : decode cX4_addTo 122 = .ok (.lushr, 1) := by decide +kernel
theorem dX4_addTo_123 : decode cX4_addTo 123 = .ok (.goto 10, 3) := by decide +kernel
theorem dX4_addTo_126 : decode cX4_addTo 126 = .ok (.lload_n 2, 1) := by decide +kernel
theorem dX4_addTo_127 : decode cX4_addTo 127 = .ok (.iconst 1, 1) := by decide +kernel
theorem dX4_addTo_128 : decode cX4_addTo 128 = .ok (.lushr, 1) := by decide +kernel
theorem dX4_addTo_129 : decode cX4_addTo 129 = .ok (.ldc2_w 47, 3) := by decide +kernel
theorem dX4_addTo_132 : decode cX4_addTo 132 = .ok (.land, 1) := by decide +kernel
theorem dX4_addTo_133 : decode cX4_addTo 133 = .ok (.lstore_n 2, 1) := by decide +kernel
theorem dX4_addTo_134 : decode cX4_addTo 134 = .ok (.goto 95, 3) := by decide +kernel
theorem dX4_addTo_137 : decode cX4_addTo 137 = .ok (.lload_n 2, 1) := by decide +kernel
theorem dX4_addTo_138 : decode cX4_addTo 138 = .ok (.iconst 1, 1) := by decide +kernel
theorem dX4_addTo_139 : decode cX4_addTo 139 = .ok (.lushr, 1) := by decide +kernel
theorem dX4_addTo_140 : decode cX4_addTo 140 = .ok (.lload_n 2, 1) := by decide +kernel
theorem dX4_addTo_141 : decode cX4_addTo 141 = .ok (.lconst 1, 1) := by decide +kernel
theorem dX4_addTo_142 : decode cX4_addTo 142 = .ok (.land, 1) := by decide +kernel
theorem dX4_addTo_143 : decode cX4_addTo 143 = .ok (.lor, 1) := by decide +kernel
theorem dX4_addTo_144 : decode cX4_addTo 144 = .ok (.lstore_n 2, 1) := by decide +kernel
theorem dX4_addTo_145 : decode cX4_addTo 145 = .ok (.goto 84, 3) := by decide +kernel
theorem dX4_addTo_148 : decode cX4_addTo 148 = .ok (.aload_n 1, 1) := by decide +kernel
theorem dX4_addTo_149 : decode cX4_addTo 149 = .ok (.dup, 1) := by decide +kernel
theorem dX4_addTo_150 : decode cX4_addTo 150 = .ok (.getfield 49, 3) := by decide +kernel
theorem dX4_addTo_153 : decode cX4_addTo 153 = .ok (.iload 7, 2) := by decide +kernel
theorem dX4_addTo_155 : decode cX4_addTo 155 = .ok (.ifCond .eq 8, 3) := by decide +kernel
theorem dX4_addTo_158 : decode cX4_addTo 158 = .ok (.iload 6, 2) := by decide +kernel
theorem dX4_addTo_160 : decode cX4_addTo 160 = .ok (.goto 4, 3) := by decide +kernel
theorem dX4_addTo_163 : decode cX4_addTo 163 = .ok (.iconst 0, 1) := by decide +kernel
theorem dX4_addTo_164 : decode cX4_addTo 164 = .ok (.iadd, 1) := by decide +kernel
theorem dX4_addTo_165 : decode cX4_addTo 165 = .ok (.putfield 49, 3) := by decide +kernel
theorem dX4_addTo_168 : decode cX4_addTo 168 = .ok (.lconst 0, 1) := by decide +kernel
theorem dX4_addTo_169 : decode cX4_addTo 169 = .ok (.lstore_n 2, 1) := by decide +kernel
theorem dX4_addTo_170 : decode cX4_addTo 170 = .ok (.goto 59, 3) := by decide +kernel
theorem dX4_addTo_173 : decode cX4_addTo 173 = .ok (.aload_n 1, 1) := by decide +kernel
theorem dX4_addTo_174 : decode cX4_addTo 174 = .ok (.dup, 1) := by decide +kernel
theorem dX4_addTo_175 : decode cX4_addTo 175 = .ok (.getfield 54, 3) := by decide +kernel
theorem dX4_addTo_178 : decode cX4_addTo 178 = .ok (.iload 7, 2) := by decide +kernel
theorem dX4_addTo_180 : decode cX4_addTo 180 = .ok (.ifCond .eq 8, 3) := by decide +kernel
theorem dX4_addTo_183 : decode cX4_addTo 183 = .ok (.iload 6, 2) := by decide +kernel
theorem dX4_addTo_185 : decode cX4_addTo 185 = .ok (.goto 4, 3) := by decide +kernel
theorem dX4_addTo_188 : decode cX4_addTo 188 = .ok (.iconst 0, 1) := by decide +kernel
theorem dX4_addTo_189 : decode cX4_addTo 189 = .ok (.iadd, 1) := by decide +kernel
theorem dX4_addTo_190 : decode cX4_addTo 190 = .ok (.putfield 54, 3) := by decide +kernel
theorem dX4_addTo_193 : decode cX4_addTo 193 = .ok (.lconst 0, 1) := by decide +kernel
theorem dX4_addTo_194 : decode cX4_addTo 194 = .ok (.lstore_n 2, 1) := by decide +kernel
theorem dX4_addTo_195 : decode cX4_addTo 195 = .ok (.goto 34, 3) := by decide +kernel
theorem dX4_addTo_198 : decode cX4_addTo 198 = .ok (.lload_n 2, 1) := by decide +kernel
theorem dX4_addTo_199 : decode cX4_addTo 199 = .ok (.iconst 1, 1) := by decide +kernel
theorem dX4_addTo_200 : decode cX4_addTo 200 = .ok (.lshl, 1) := by decide +kernel
theorem dX4_addTo_201 : decode cX4_addTo 201 = .ok (.aload_n 1, 1) := by decide +kernel
theorem dX4_addTo_202 : decode cX4_addTo 202 = .ok (.iload 5, 2) := by decide +kernel
theorem dX4_addTo_204 : decode cX4_addTo 204 = .ok (.aload_n 0, 1) := by decide +kernel
theorem dX4_addTo_205 : decode cX4_addTo 205 = .ok (.getfield 20, 3) := by decide +kernel
theorem dX4_addTo_208 : decode cX4_addTo 208 = .ok (.iload 4, 2) := by decide +kernel
theorem dX4_addTo_210 : decode cX4_addTo 210 = .ok (.invokevirtual 43, 3) := by decide +kernel
theorem dX4_addTo_213 : decode cX4_addTo 213 = .ok (.iload 6, 2) := by decide +kernel
theorem dX4_addTo_215 : decode cX4_addTo 215 = .ok (.invokevirtual 57, 3) := by decide +kernel
theorem dX4_addTo_218 : decode cX4_addTo 218 = .ok (.ifCond .eq 7, 3) := by decide +kernel
theorem dX4_addTo_221 : decode cX4_addTo 221 = .ok (.iconst 1, 1) := by decide +kernel
theorem dX4_addTo_222 : decode cX4_addTo 222 = .ok (.goto 4, 3) := by decide +kernel
theorem dX4_addTo_225 : decode cX4_addTo 225 = .ok (.iconst 0, 1) := by decide +kernel
theorem dX4_addTo_226 : decode cX4_addTo 226 = .ok (.i2l, 1) := by decide +kernel
theorem dX4_addTo_227 : decode cX4_addTo 227 = .ok (.lor, 1) := by decide +kernel
theorem dX4_addTo_228 : decode cX4_addTo 228 = .ok (.lstore_n 2, 1) := by decide +kernel
theorem dX4_addTo_229 : decode cX4_addTo 229 = .ok (.iinc 4 1, 3) := by decide +kernel
theorem dX4_addTo_232 : decode cX4_addTo 232 = .ok (.goto (-227), 3) := by decide +kernel
theorem dX4_addTo_235 : decode cX4_addTo 235 = .ok (.return_, 1) := by decide +kernel
theorem dX5_init_0 : decode cX5_init 0 = .ok (.aload_n 0, 1) := by decide +kernel
theorem dX5_init_1 : decode cX5_init 1 = .ok (.invokespecial 3, 3) := by decide +kernel
theorem dX5_init_4 : decode cX5_init 4 = .ok (.aload_n 0, 1) := by decide +kernel
theorem dX5_init_5 : decode cX5_init 5 = .ok (.iconst 0, 1) := by decide +kernel
theorem dX5_init_6 : decode cX5_init 6 = .ok (.putfield 9, 3) := by decide +kernel
theorem dX5_init_9 : decode cX5_init 9 = .ok (.aload_n 0, 1) := by decide +kernel
theorem dX5_init_10 : decode cX5_init 10 = .ok (.iconst 0, 1) := by decide +kernel
theorem dX5_init_11 : decode cX5_init 11 = .ok (.iload_n 1, 1) := by decide +kernel
theorem dX5_init_12 : decode cX5_init 12 = .ok (.invokestatic 15, 3) := by decide +kernel
theorem dX5_init_15 : decode cX5_init 15 = .ok (.newarray .int, 2) := by decide +kernel
theorem dX5_init_17 : decode cX5_init 17 = .ok (.putfield 21, 3) := by decide +kernel
theorem dX5_init_20 : decode cX5_init 20 = .ok (.return_, 1) := by decide +kernel
theorem dX5_at_0 : decode cX5_at 0 = .ok (.iload_n 1, 1) := by decide +kernel
theorem dX5_at_1 : decode cX5_at 1 = .ok (.ifCond .lt 29, 3) := by decide +kernel
theorem dX5_at_4 : decode cX5_at 4 = .ok (.iload_n 1, 1) := by decide +kernel
theorem dX5_at_5 : decode cX5_at 5 = .ok (.aload_n 0, 1) := by decide +kernel
theorem dX5_at_6 : decode cX5_at 6 = .ok (.getfield 9, 3) := by decide +kernel
theorem dX5_at_9 : decode cX5_at 9 = .ok (.if_icmp .ge 21, 3) := by decide +kernel
theorem dX5_at_12 : decode cX5_at 12 = .ok (.iload_n 1, 1) := by decide +kernel
theorem dX5_at_13 : decode cX5_at 13 = .ok (.aload_n 0, 1) := by decide +kernel
theorem dX5_at_14 : decode cX5_at 14 = .ok (.getfield 21, 3) := by decide +kernel
theorem dX5_at_17 : decode cX5_at 17 = .ok (.arraylength, 1) := by decide +kernel
theorem dX5_at_18 : decode cX5_at 18 = .ok (.if_icmp .ge 12, 3) := by decide +kernel
theorem dX5_at_21 : decode cX5_at 21 = .ok (.aload_n 0, 1) := by decide +kernel
theorem dX5_at_22 : decode cX5_at 22 = .ok (.getfield 21, 3) := by decide +kernel
theorem dX5_at_25 : decode cX5_at 25 = .ok (.iload_n 1, 1) := by decide +kernel
theorem dX5_at_26 : decode cX5_at 26 = .ok (.iaload, 1) := by decide +kernel
theorem dX5_at_27 : decode cX5_at 27 = .ok (.goto 4, 3) := by decide +kernel
theorem dX5_at_30 : decode cX5_at 30 = .ok (.iconst (-1), 1) := by decide +kernel
theorem dX5_at_31 : decode cX5_at 31 = .ok (.ireturn, 1) := by decide +kernel
theorem dX5_put_0 : decode cX5_put 0 = .ok (.iload_n 1, 1) := by decide +kernel
theorem dX5_put_1 : decode cX5_put 1 = .ok (.ifCond .lt 27, 3) := by decide +kernel
theorem dX5_put_4 : decode cX5_put 4 = .ok (.iload_n 1, 1) := by decide +kernel
theorem dX5_put_5 : decode cX5_put 5 = .ok (.aload_n 0, 1) := by decide +kernel
theorem dX5_put_6 : decode cX5_put 6 = .ok (.getfield 9, 3) := by decide +kernel
theorem dX5_put_9 : decode cX5_put 9 = .ok (.if_icmp .ge 19, 3) := by decide +kernel
theorem dX5_put_12 : decode cX5_put 12 = .ok (.iload_n 1, 1) := by decide +kernel
theorem dX5_put_13 : decode cX5_put 13 = .ok (.aload_n 0, 1) := by decide +kernel
theorem dX5_put_14 : decode cX5_put 14 = .ok (.getfield 21, 3) := by decide +kernel
theorem dX5_put_17 : decode cX5_put 17 = .ok (.arraylength, 1) := by decide +kernel
theorem dX5_put_18 : decode cX5_put 18 = .ok (.if_icmp .ge 10, 3) := by decide +kernel
theorem dX5_put_21 : decode cX5_put 21 = .ok (.aload_n 0, 1) := by decide +kernel
theorem dX5_put_22 : decode cX5_put 22 = .ok (.getfield 21, 3) := by decide +kernel
theorem dX5_put_25 : decode cX5_put 25 = .ok (.iload_n 1, 1) := by decide +kernel
theorem dX5_put_26 : decode cX5_put 26 = .ok (.iload_n 2, 1) := by decide +kernel
theorem dX5_put_27 : decode cX5_put 27 = .ok (.iastore, 1) := by decide +kernel
theorem dX5_put_28 : decode cX5_put 28 = .ok (.return_, 1) := by decide +kernel
theorem dX5_add_0 : decode cX5_add 0 = .ok (.aload_n 0, 1) := by decide +kernel
theorem dX5_add_1 : decode cX5_add 1 = .ok (.getfield 9, 3) := by decide +kernel
theorem dX5_add_4 : decode cX5_add 4 = .ok (.ifCond .lt 35, 3) := by decide +kernel
theorem dX5_add_7 : decode cX5_add 7 = .ok (.aload_n 0, 1) := by decide +kernel
theorem dX5_add_8 : decode cX5_add 8 = .ok (.getfield 9, 3) := by decide +kernel
theorem dX5_add_11 : decode cX5_add 11 = .ok (.aload_n 0, 1) := by decide +kernel
theorem dX5_add_12 : decode cX5_add 12 = .ok (.getfield 21, 3) := by decide +kernel
theorem dX5_add_15 : decode cX5_add 15 = .ok (.arraylength, 1) := by decide +kernel
theorem dX5_add_16 : decode cX5_add 16 = .ok (.if_icmp .ge 23, 3) := by decide +kernel
theorem dX5_add_19 : decode cX5_add 19 = .ok (.aload_n 0, 1) := by decide +kernel
theorem dX5_add_20 : decode cX5_add 20 = .ok (.getfield 21, 3) := by decide +kernel
theorem dX5_add_23 : decode cX5_add 23 = .ok (.aload_n 0, 1) := by decide +kernel
theorem dX5_add_24 : decode cX5_add 24 = .ok (.getfield 9, 3) := by decide +kernel
theorem dX5_add_27 : decode cX5_add 27 = .ok (.iload_n 1, 1) := by decide +kernel
theorem dX5_add_28 : decode cX5_add 28 = .ok (.iastore, 1) := by decide +kernel
theorem dX5_add_29 : decode cX5_add 29 = .ok (.aload_n 0, 1) := by decide +kernel
theorem dX5_add_30 : decode cX5_add 30 = .ok (.dup, 1) := by decide +kernel
theorem dX5_add_31 : decode cX5_add 31 = .ok (.getfield 9, 3) := by decide +kernel
theorem dX5_add_34 : decode cX5_add 34 = .ok (.iconst 1, 1) := by decide +kernel
theorem dX5_add_35 : decode cX5_add 35 = .ok (.iadd, 1) := by decide +kernel
theorem dX5_add_36 : decode cX5_add 36 = .ok (.putfield 9, 3) := by decide +kernel
theorem dX5_add_39 : decode cX5_add 39 = .ok (.return_, 1) := by decide +kernel
theorem dX5_clear_0 : decode cX5_clear 0 = .ok (.aload_n 0, 1) := by decide +kernel
theorem dX5_clear_1 : decode cX5_clear 1 = .ok (.iconst 0, 1) := by decide +kernel
theorem dX5_clear_2 : decode cX5_clear 2 = .ok (.putfield 9, 3) := by decide +kernel
theorem dX5_clear_5 : decode cX5_clear 5 = .ok (.return_, 1) := by decide +kernel
theorem dX5_placeOf_0 : decode cX5_placeOf 0 = .ok (.iconst 0, 1) := by decide +kernel
theorem dX5_placeOf_1 : decode cX5_placeOf 1 = .ok (.istore_n 2, 1) := by decide +kernel
theorem dX5_placeOf_2 : decode cX5_placeOf 2 = .ok (.iload_n 2, 1) := by decide +kernel
theorem dX5_placeOf_3 : decode cX5_placeOf 3 = .ok (.aload_n 0, 1) := by decide +kernel
theorem dX5_placeOf_4 : decode cX5_placeOf 4 = .ok (.getfield 9, 3) := by decide +kernel
theorem dX5_placeOf_7 : decode cX5_placeOf 7 = .ok (.if_icmp .ge 30, 3) := by decide +kernel
theorem dX5_placeOf_10 : decode cX5_placeOf 10 = .ok (.iload_n 2, 1) := by decide +kernel
theorem dX5_placeOf_11 : decode cX5_placeOf 11 = .ok (.aload_n 0, 1) := by decide +kernel
theorem dX5_placeOf_12 : decode cX5_placeOf 12 = .ok (.getfield 21, 3) := by decide +kernel
theorem dX5_placeOf_15 : decode cX5_placeOf 15 = .ok (.arraylength, 1) := by decide +kernel
theorem dX5_placeOf_16 : decode cX5_placeOf 16 = .ok (.if_icmp .ge 21, 3) := by decide +kernel
theorem dX5_placeOf_19 : decode cX5_placeOf 19 = .ok (.aload_n 0, 1) := by decide +kernel
theorem dX5_placeOf_20 : decode cX5_placeOf 20 = .ok (.getfield 21, 3) := by decide +kernel
theorem dX5_placeOf_23 : decode cX5_placeOf 23 = .ok (.iload_n 2, 1) := by decide +kernel
theorem dX5_placeOf_24 : decode cX5_placeOf 24 = .ok (.iaload, 1) := by decide +kernel
theorem dX5_placeOf_25 : decode cX5_placeOf 25 = .ok (.iload_n 1, 1) := by decide +kernel
theorem dX5_placeOf_26 : decode cX5_placeOf 26 = .ok (.if_icmp .ne 5, 3) := by decide +kernel
theorem dX5_placeOf_29 : decode cX5_placeOf 29 = .ok (.iload_n 2, 1) := by decide +kernel
theorem dX5_placeOf_30 : decode cX5_placeOf 30 = .ok (.ireturn, 1) := by decide +kernel
theorem dX5_placeOf_31 : decode cX5_placeOf 31 = .ok (.iinc 2 1, 3) := by decide +kernel
theorem dX5_placeOf_34 : decode cX5_placeOf 34 = .ok (.goto (-32), 3) := by decide +kernel
theorem dX5_placeOf_37 : decode cX5_placeOf 37 = .ok (.iconst (-1), 1) := by decide +kernel
theorem dX5_placeOf_38 : decode cX5_placeOf 38 = .ok (.ireturn, 1) := by decide +kernel
theorem dX5_copyFrom_0 : decode cX5_copyFrom 0 = .ok (.aload_n 0, 1) := by decide +kernel
theorem dX5_copyFrom_1 : decode cX5_copyFrom 1 = .ok (.invokevirtual 25, 3) := by decide +kernel
theorem dX5_copyFrom_4 : decode cX5_copyFrom 4 = .ok (.iconst 0, 1) := by decide +kernel
theorem dX5_copyFrom_5 : decode cX5_copyFrom 5 = .ok (.istore_n 2, 1) := by decide +kernel
theorem dX5_copyFrom_6 : decode cX5_copyFrom 6 = .ok (.iload_n 2, 1) := by decide +kernel
theorem dX5_copyFrom_7 : decode cX5_copyFrom 7 = .ok (.aload_n 1, 1) := by decide +kernel
theorem dX5_copyFrom_8 : decode cX5_copyFrom 8 = .ok (.getfield 9, 3) := by decide +kernel
theorem dX5_copyFrom_11 : decode cX5_copyFrom 11 = .ok (.if_icmp .ge 18, 3) := by decide +kernel
theorem dX5_copyFrom_14 : decode cX5_copyFrom 14 = .ok (.aload_n 0, 1) := by decide +kernel
theorem dX5_copyFrom_15 : decode cX5_copyFrom 15 = .ok (.aload_n 1, 1) := by decide +kernel
theorem dX5_copyFrom_16 : decode cX5_copyFrom 16 = .ok (.iload_n 2, 1) := by decide +kernel
theorem dX5_copyFrom_17 : decode cX5_copyFrom 17 = .ok (.invokevirtual 28, 3) := by decide +kernel
theorem dX5_copyFrom_20 : decode cX5_copyFrom 20 = .ok (.invokevirtual 32, 3) := by decide +kernel
theorem dX5_copyFrom_23 : decode cX5_copyFrom 23 = .ok (.iinc 2 1, 3) := by decide +kernel
theorem dX5_copyFrom_26 : decode cX5_copyFrom 26 = .ok (.goto (-20), 3) := by decide +kernel
theorem dX5_copyFrom_29 : decode cX5_copyFrom 29 = .ok (.return_, 1) := by decide +kernel
theorem dX6_init_0 : decode cX6_init 0 = .ok (.aload_n 0, 1) := by decide +kernel
theorem dX6_init_1 : decode cX6_init 1 = .ok (.invokespecial 3, 3) := by decide +kernel
theorem dX6_init_4 : decode cX6_init 4 = .ok (.aload_n 0, 1) := by decide +kernel
theorem dX6_init_5 : decode cX6_init 5 = .ok (.new 9, 3) := by decide +kernel
theorem dX6_init_8 : decode cX6_init 8 = .ok (.dup, 1) := by decide +kernel
theorem dX6_init_9 : decode cX6_init 9 = .ok (.bipush 6, 2) := by decide +kernel
theorem dX6_init_11 : decode cX6_init 11 = .ok (.invokespecial 11, 3) := by decide +kernel
theorem dX6_init_14 : decode cX6_init 14 = .ok (.putfield 14, 3) := by decide +kernel
theorem dX6_init_17 : decode cX6_init 17 = .ok (.aload_n 0, 1) := by decide +kernel
theorem dX6_init_18 : decode cX6_init 18 = .ok (.new 9, 3) := by decide +kernel
theorem dX6_init_21 : decode cX6_init 21 = .ok (.dup, 1) := by decide +kernel
theorem dX6_init_22 : decode cX6_init 22 = .ok (.bipush 6, 2) := by decide +kernel
theorem dX6_init_24 : decode cX6_init 24 = .ok (.invokespecial 11, 3) := by decide +kernel
theorem dX6_init_27 : decode cX6_init 27 = .ok (.putfield 20, 3) := by decide +kernel
theorem dX6_init_30 : decode cX6_init 30 = .ok (.aload_n 0, 1) := by decide +kernel
theorem dX6_init_31 : decode cX6_init 31 = .ok (.new 9, 3) := by decide +kernel
theorem dX6_init_34 : decode cX6_init 34 = .ok (.dup, 1) := by decide +kernel
theorem dX6_init_35 : decode cX6_init 35 = .ok (.bipush 6, 2) := by decide +kernel
theorem dX6_init_37 : decode cX6_init 37 = .ok (.invokespecial 11, 3) := by decide +kernel
theorem dX6_init_40 : decode cX6_init 40 = .ok (.putfield 23, 3) := by decide +kernel
theorem dX6_init_43 : decode cX6_init 43 = .ok (.aload_n 0, 1) := by decide +kernel
theorem dX6_init_44 : decode cX6_init 44 = .ok (.new 9, 3) := by decide +kernel
theorem dX6_init_47 : decode cX6_init 47 = .ok (.dup, 1) := by decide +kernel
theorem dX6_init_48 : decode cX6_init 48 = .ok (.bipush 6, 2) := by decide +kernel
theorem dX6_init_50 : decode cX6_init 50 = .ok (.invokespecial 11, 3) := by decide +kernel
theorem dX6_init_53 : decode cX6_init 53 = .ok (.putfield 26, 3) := by decide +kernel
theorem dX6_init_56 : decode cX6_init 56 = .ok (.aload_n 0, 1) := by decide +kernel
theorem dX6_init_57 : decode cX6_init 57 = .ok (.new 9, 3) := by decide +kernel
theorem dX6_init_60 : decode cX6_init 60 = .ok (.dup, 1) := by decide +kernel
theorem dX6_init_61 : decode cX6_init 61 = .ok (.bipush 6, 2) := by decide +kernel
theorem dX6_init_63 : decode cX6_init 63 = .ok (.invokespecial 11, 3) := by decide +kernel
theorem dX6_init_66 : decode cX6_init 66 = .ok (.putfield 29, 3) := by decide +kernel
theorem dX6_init_69 : decode cX6_init 69 = .ok (.aload_n 0, 1) := by decide +kernel
theorem dX6_init_70 : decode cX6_init 70 = .ok (.new 9, 3) := by decide +kernel
theorem dX6_init_73 : decode cX6_init 73 = .ok (.dup, 1) := by decide +kernel
theorem dX6_init_74 : decode cX6_init 74 = .ok (.bipush 6, 2) := by decide +kernel
theorem dX6_init_76 : decode cX6_init 76 = .ok (.invokespecial 11, 3) := by decide +kernel
theorem dX6_init_79 : decode cX6_init 79 = .ok (.putfield 32, 3) := by decide +kernel
theorem dX6_init_82 : decode cX6_init 82 = .ok (.aload_n 0, 1) := by decide +kernel
theorem dX6_init_83 : decode cX6_init 83 = .ok (.new 9, 3) := by decide +kernel
theorem dX6_init_86 : decode cX6_init 86 = .ok (.dup, 1) := by decide +kernel
theorem dX6_init_87 : decode cX6_init 87 = .ok (.bipush 12, 2) := by decide +kernel
theorem dX6_init_89 : decode cX6_init 89 = .ok (.invokespecial 11, 3) := by decide +kernel
theorem dX6_init_92 : decode cX6_init 92 = .ok (.putfield 35, 3) := by decide +kernel
theorem dX6_init_95 : decode cX6_init 95 = .ok (.aload_n 0, 1) := by decide +kernel
theorem dX6_init_96 : decode cX6_init 96 = .ok (.new 9, 3) := by decide +kernel
theorem dX6_init_99 : decode cX6_init 99 = .ok (.dup, 1) := by decide +kernel
theorem dX6_init_100 : decode cX6_init 100 = .ok (.bipush 10, 2) := by decide +kernel
theorem dX6_init_102 : decode cX6_init 102 = .ok (.invokespecial 11, 3) := by decide +kernel
theorem dX6_init_105 : decode cX6_init 105 = .ok (.putfield 38, 3) := by decide +kernel
theorem dX6_init_108 : decode cX6_init 108 = .ok (.aload_n 0, 1) := by decide +kernel
theorem dX6_init_109 : decode cX6_init 109 = .ok (.bipush 35, 2) := by decide +kernel
theorem dX6_init_111 : decode cX6_init 111 = .ok (.putfield 41, 3) := by decide +kernel
theorem dX6_init_114 : decode cX6_init 114 = .ok (.aload_n 0, 1) := by decide +kernel
theorem dX6_init_115 : decode cX6_init 115 = .ok (.iconst 0, 1) := by decide +kernel
theorem dX6_init_116 : decode cX6_init 116 = .ok (.putfield 45, 3) := by decide +kernel
theorem dX6_init_119 : decode cX6_init 119 = .ok (.aload_n 0, 1) := by decide +kernel
theorem dX6_init_120 : decode cX6_init 120 = .ok (.iconst 0, 1) := by decide +kernel
theorem dX6_init_121 : decode cX6_init 121 = .ok (.putfield 48, 3) := by decide +kernel
theorem dX6_init_124 : decode cX6_init 124 = .ok (.aload_n 0, 1) := by decide +kernel
theorem dX6_init_125 : decode cX6_init 125 = .ok (.aconst_null, 1) := by decide +kernel
theorem dX6_init_126 : decode cX6_init 126 = .ok (.putfield 51, 3) := by decide +kernel
theorem dX6_init_129 : decode cX6_init 129 = .ok (.aload_n 0, 1) := by decide +kernel
theorem dX6_init_130 : decode cX6_init 130 = .ok (.iconst 0, 1) := by decide +kernel
theorem dX6_init_131 : decode cX6_init 131 = .ok (.putfield 55, 3) := by decide +kernel
theorem dX6_init_134 : decode cX6_init 134 = .ok (.aload_n 0, 1) := by decide +kernel
theorem dX6_init_135 : decode cX6_init 135 = .ok (.new 58, 3) := by decide +kernel
theorem dX6_init_138 : decode cX6_init 138 = .ok (.dup, 1) := by decide +kernel
theorem dX6_init_139 : decode cX6_init 139 = .ok (.invokespecial 60, 3) := by decide +kernel
theorem dX6_init_142 : decode cX6_init 142 = .ok (.putfield 61, 3) := by decide +kernel
theorem dX6_init_145 : decode cX6_init 145 = .ok (.aload_n 0, 1) := by decide +kernel
theorem dX6_init_146 : decode cX6_init 146 = .ok (.iconst 0, 1) := by decide +kernel
theorem dX6_init_147 : decode cX6_init 147 = .ok (.putfield 65, 3) := by decide +kernel
theorem dX6_init_150 : decode cX6_init 150 = .ok (.return_, 1) := by decide +kernel
theorem dX6_size_0 : decode cX6_size 0 = .ok (.aload_n 0, 1) := by decide +kernel
theorem dX6_size_1 : decode cX6_size 1 = .ok (.getfield 23, 3) := by decide +kernel
theorem dX6_size_4 : decode cX6_size 4 = .ok (.getfield 68, 3) := by decide +kernel
theorem dX6_size_7 : decode cX6_size 7 = .ok (.ireturn, 1) := by decide +kernel
theorem dX6_isBeast_0 : decode cX6_isBeast 0 = .ok (.iload_n 1, 1) := by decide +kernel
theorem dX6_isBeast_1 : decode cX6_isBeast 1 = .ok (.ifCond .lt 15, 3) := by decide +kernel
theorem dX6_isBeast_4 : decode cX6_isBeast 4 = .ok (.iload_n 1, 1) := by decide +kernel
theorem dX6_isBeast_5 : decode cX6_isBeast 5 = .ok (.aload_n 0, 1) := by decide +kernel
theorem dX6_isBeast_6 : decode cX6_isBeast 6 = .ok (.invokevirtual 71, 3) := by decide +kernel
theorem dX6_isBeast_9 : decode cX6_isBeast 9 = .ok (.if_icmp .ge 7, 3) := by decide +kernel
theorem dX6_isBeast_12 : decode cX6_isBeast 12 = .ok (.iconst 1, 1) := by decide +kernel
theorem dX6_isBeast_13 : decode cX6_isBeast 13 = .ok (.goto 4, 3) := by decide +kernel
theorem dX6_isBeast_16 : decode cX6_isBeast 16 = .ok (.iconst 0, 1) := by decide +kernel
theorem dX6_isBeast_17 : decode cX6_isBeast 17 = .ok (.ireturn, 1) := by decide +kernel
theorem dX6_addBeast_0 : decode cX6_addBeast 0 = .ok (.aload_n 0, 1) := by decide +kernel
theorem dX6_addBeast_1 : decode cX6_addBeast 1 = .ok (.getfield 14, 3) := by decide +kernel
theorem dX6_addBeast_4 : decode cX6_addBeast 4 = .ok (.iload_n 1, 1) := by decide +kernel
theorem dX6_addBeast_5 : decode cX6_addBeast 5 = .ok (.invokevirtual 74, 3) := by decide +kernel
theorem dX6_addBeast_8 : decode cX6_addBeast 8 = .ok (.aload_n 0, 1) := by decide +kernel
theorem dX6_addBeast_9 : decode cX6_addBeast 9 = .ok (.getfield 20, 3) := by decide +kernel
theorem dX6_addBeast_12 : decode cX6_addBeast 12 = .ok (.iload_n 2, 1) := by decide +kernel
theorem dX6_addBeast_13 : decode cX6_addBeast 13 = .ok (.invokevirtual 74, 3) := by decide +kernel
theorem dX6_addBeast_16 : decode cX6_addBeast 16 = .ok (.aload_n 0, 1) := by decide +kernel
theorem dX6_addBeast_17 : decode cX6_addBeast 17 = .ok (.getfield 23, 3) := by decide +kernel
theorem dX6_addBeast_20 : decode cX6_addBeast 20 = .ok (.iload_n 3, 1) := by decide +kernel
theorem dX6_addBeast_21 : decode cX6_addBeast 21 = .ok (.invokevirtual 74, 3) := by decide +kernel
theorem dX6_addBeast_24 : decode cX6_addBeast 24 = .ok (.aload_n 0, 1) := by decide +kernel
theorem dX6_addBeast_25 : decode cX6_addBeast 25 = .ok (.getfield 26, 3) := by decide +kernel
theorem dX6_addBeast_28 : decode cX6_addBeast 28 = .ok (.iload_n 3, 1) := by decide +kernel
theorem dX6_addBeast_29 : decode cX6_addBeast 29 = .ok (.invokevirtual 74, 3) := by decide +kernel
theorem dX6_addBeast_32 : decode cX6_addBeast 32 = .ok (.aload_n 0, 1) := by decide +kernel
theorem dX6_addBeast_33 : decode cX6_addBeast 33 = .ok (.getfield 29, 3) := by decide +kernel
theorem dX6_addBeast_36 : decode cX6_addBeast 36 = .ok (.iload 4, 2) := by decide +kernel
theorem dX6_addBeast_38 : decode cX6_addBeast 38 = .ok (.invokevirtual 74, 3) := by decide +kernel
theorem dX6_addBeast_41 : decode cX6_addBeast 41 = .ok (.aload_n 0, 1) := by decide +kernel
theorem dX6_addBeast_42 : decode cX6_addBeast 42 = .ok (.getfield 32, 3) := by decide +kernel
theorem dX6_addBeast_45 : decode cX6_addBeast 45 = .ok (.iconst 0, 1) := by decide +kernel
theorem dX6_addBeast_46 : decode cX6_addBeast 46 = .ok (.invokevirtual 74, 3) := by decide +kernel
theorem dX6_addBeast_49 : decode cX6_addBeast 49 = .ok (.aload_n 0, 1) := by decide +kernel
theorem dX6_addBeast_50 : decode cX6_addBeast 50 = .ok (.invokevirtual 71, 3) := by decide +kernel
theorem dX6_addBeast_53 : decode cX6_addBeast 53 = .ok (.iconst 1, 1) := by decide +kernel
theorem dX6_addBeast_54 : decode cX6_addBeast 54 = .ok (.isub, 1) := by decide +kernel
theorem dX6_addBeast_55 : decode cX6_addBeast 55 = .ok (.ireturn, 1) := by decide +kernel
theorem dX6_copyFrom_0 : decode cX6_copyFrom 0 = .ok (.aload_n 0, 1) := by decide +kernel
theorem dX6_copyFrom_1 : decode cX6_copyFrom 1 = .ok (.getfield 14, 3) := by decide +kernel
theorem dX6_copyFrom_4 : decode cX6_copyFrom 4 = .ok (.aload_n 1, 1) := by decide +kernel
theorem dX6_copyFrom_5 : decode cX6_copyFrom 5 = .ok (.getfield 14, 3) := by decide +kernel
theorem dX6_copyFrom_8 : decode cX6_copyFrom 8 = .ok (.invokevirtual 77, 3) := by decide +kernel
theorem dX6_copyFrom_11 : decode cX6_copyFrom 11 = .ok (.aload_n 0, 1) := by decide +kernel
theorem dX6_copyFrom_12 : decode cX6_copyFrom 12 = .ok (.getfield 20, 3) := by decide +kernel
theorem dX6_copyFrom_15 : decode cX6_copyFrom 15 = .ok (.aload_n 1, 1) := by decide +kernel
theorem dX6_copyFrom_16 : decode cX6_copyFrom 16 = .ok (.getfield 20, 3) := by decide +kernel
theorem dX6_copyFrom_19 : decode cX6_copyFrom 19 = .ok (.invokevirtual 77, 3) := by decide +kernel
theorem dX6_copyFrom_22 : decode cX6_copyFrom 22 = .ok (.aload_n 0, 1) := by decide +kernel
theorem dX6_copyFrom_23 : decode cX6_copyFrom 23 = .ok (.getfield 23, 3) := by decide +kernel
theorem dX6_copyFrom_26 : decode cX6_copyFrom 26 = .ok (.aload_n 1, 1) := by decide +kernel
theorem dX6_copyFrom_27 : decode cX6_copyFrom 27 = .ok (.getfield 23, 3) := by decide +kernel
theorem dX6_copyFrom_30 : decode cX6_copyFrom 30 = .ok (.invokevirtual 77, 3) := by decide +kernel
theorem dX6_copyFrom_33 : decode cX6_copyFrom 33 = .ok (.aload_n 0, 1) := by decide +kernel
theorem dX6_copyFrom_34 : decode cX6_copyFrom 34 = .ok (.getfield 26, 3) := by decide +kernel
theorem dX6_copyFrom_37 : decode cX6_copyFrom 37 = .ok (.aload_n 1, 1) := by decide +kernel
theorem dX6_copyFrom_38 : decode cX6_copyFrom 38 = .ok (.getfield 26, 3) := by decide +kernel
theorem dX6_copyFrom_41 : decode cX6_copyFrom 41 = .ok (.invokevirtual 77, 3) := by decide +kernel
theorem dX6_copyFrom_44 : decode cX6_copyFrom 44 = .ok (.aload_n 0, 1) := by decide +kernel
theorem dX6_copyFrom_45 : decode cX6_copyFrom 45 = .ok (.getfield 29, 3) := by decide +kernel
theorem dX6_copyFrom_48 : decode cX6_copyFrom 48 = .ok (.aload_n 1, 1) := by decide +kernel
theorem dX6_copyFrom_49 : decode cX6_copyFrom 49 = .ok (.getfield 29, 3) := by decide +kernel
theorem dX6_copyFrom_52 : decode cX6_copyFrom 52 = .ok (.invokevirtual 77, 3) := by decide +kernel
theorem dX6_copyFrom_55 : decode cX6_copyFrom 55 = .ok (.aload_n 0, 1) := by decide +kernel
theorem dX6_copyFrom_56 : decode cX6_copyFrom 56 = .ok (.getfield 32, 3) := by decide +kernel
theorem dX6_copyFrom_59 : decode cX6_copyFrom 59 = .ok (.aload_n 1, 1) := by decide +kernel
theorem dX6_copyFrom_60 : decode cX6_copyFrom 60 = .ok (.getfield 32, 3) := by decide +kernel
theorem dX6_copyFrom_63 : decode cX6_copyFrom 63 = .ok (.invokevirtual 77, 3) := by decide +kernel
theorem dX6_copyFrom_66 : decode cX6_copyFrom 66 = .ok (.aload_n 0, 1) := by decide +kernel
theorem dX6_copyFrom_67 : decode cX6_copyFrom 67 = .ok (.getfield 35, 3) := by decide +kernel
theorem dX6_copyFrom_70 : decode cX6_copyFrom 70 = .ok (.aload_n 1, 1) := by decide +kernel
theorem dX6_copyFrom_71 : decode cX6_copyFrom 71 = .ok (.getfield 35, 3) := by decide +kernel
theorem dX6_copyFrom_74 : decode cX6_copyFrom 74 = .ok (.invokevirtual 77, 3) := by decide +kernel
theorem dX6_copyFrom_77 : decode cX6_copyFrom 77 = .ok (.aload_n 0, 1) := by decide +kernel
theorem dX6_copyFrom_78 : decode cX6_copyFrom 78 = .ok (.getfield 38, 3) := by decide +kernel
theorem dX6_copyFrom_81 : decode cX6_copyFrom 81 = .ok (.aload_n 1, 1) := by decide +kernel
theorem dX6_copyFrom_82 : decode cX6_copyFrom 82 = .ok (.getfield 38, 3) := by decide +kernel
theorem dX6_copyFrom_85 : decode cX6_copyFrom 85 = .ok (.invokevirtual 77, 3) := by decide +kernel
theorem dX6_copyFrom_88 : decode cX6_copyFrom 88 = .ok (.aload_n 0, 1) := by decide +kernel
theorem dX6_copyFrom_89 : decode cX6_copyFrom 89 = .ok (.aload_n 1, 1) := by decide +kernel
theorem dX6_copyFrom_90 : decode cX6_copyFrom 90 = .ok (.getfield 41, 3) := by decide +kernel
theorem dX6_copyFrom_93 : decode cX6_copyFrom 93 = .ok (.putfield 41, 3) := by decide +kernel
theorem dX6_copyFrom_96 : decode cX6_copyFrom 96 = .ok (.aload_n 0, 1) := by decide +kernel
theorem dX6_copyFrom_97 : decode cX6_copyFrom 97 = .ok (.aload_n 1, 1) := by decide +kernel
theorem dX6_copyFrom_98 : decode cX6_copyFrom 98 = .ok (.getfield 45, 3) := by decide +kernel
theorem dX6_copyFrom_101 : decode cX6_copyFrom 101 = .ok (.putfield 45, 3) := by decide +kernel
theorem dX6_copyFrom_104 : decode cX6_copyFrom 104 = .ok (.aload_n 0, 1) := by decide +kernel
theorem dX6_copyFrom_105 : decode cX6_copyFrom 105 = .ok (.aload_n 1, 1) := by decide +kernel
theorem dX6_copyFrom_106 : decode cX6_copyFrom 106 = .ok (.getfield 48, 3) := by decide +kernel
theorem dX6_copyFrom_109 : decode cX6_copyFrom 109 = .ok (.putfield 48, 3) := by decide +kernel
theorem dX6_copyFrom_112 : decode cX6_copyFrom 112 = .ok (.aload_n 0, 1) := by decide +kernel
theorem dX6_copyFrom_113 : decode cX6_copyFrom 113 = .ok (.aload_n 1, 1) := by decide +kernel
theorem dX6_copyFrom_114 : decode cX6_copyFrom 114 = .ok (.getfield 51, 3) := by decide +kernel
theorem dX6_copyFrom_117 : decode cX6_copyFrom 117 = .ok (.putfield 51, 3) := by decide +kernel
theorem dX6_copyFrom_120 : decode cX6_copyFrom 120 = .ok (.aload_n 0, 1) := by decide +kernel
theorem dX6_copyFrom_121 : decode cX6_copyFrom 121 = .ok (.aload_n 1, 1) := by decide +kernel
theorem dX6_copyFrom_122 : decode cX6_copyFrom 122 = .ok (.getfield 55, 3) := by decide +kernel
theorem dX6_copyFrom_125 : decode cX6_copyFrom 125 = .ok (.putfield 55, 3) := by decide +kernel
theorem dX6_copyFrom_128 : decode cX6_copyFrom 128 = .ok (.return_, 1) := by decide +kernel
theorem dX6_holdsBeast_0 : decode cX6_holdsBeast 0 = .ok (.aload_n 0, 1) := by decide +kernel
theorem dX6_holdsBeast_1 : decode cX6_holdsBeast 1 = .ok (.getfield 23, 3) := by decide +kernel
theorem dX6_holdsBeast_4 : decode cX6_holdsBeast 4 = .ok (.iload_n 1, 1) := by decide +kernel
theorem dX6_holdsBeast_5 : decode cX6_holdsBeast 5 = .ok (.invokevirtual 81, 3) := by decide +kernel
theorem dX6_holdsBeast_8 : decode cX6_holdsBeast 8 = .ok (.iconst (-1), 1) := by decide +kernel
theorem dX6_holdsBeast_9 : decode cX6_holdsBeast 9 = .ok (.if_icmp .eq 7, 3) := by decide +kernel
theorem dX6_holdsBeast_12 : decode cX6_holdsBeast 12 = .ok (.iconst 1, 1) := by decide +kernel
theorem dX6_holdsBeast_13 : decode cX6_holdsBeast 13 = .ok (.goto 4, 3) := by decide +kernel
theorem dX6_holdsBeast_16 : decode cX6_holdsBeast 16 = .ok (.iconst 0, 1) := by decide +kernel
theorem dX6_holdsBeast_17 : decode cX6_holdsBeast 17 = .ok (.ireturn, 1) := by decide +kernel
theorem dX6_isCaught_0 : decode cX6_isCaught 0 = .ok (.aload_n 0, 1) := by decide +kernel
theorem dX6_isCaught_1 : decode cX6_isCaught 1 = .ok (.aload_n 0, 1) := by decide +kernel
theorem dX6_isCaught_2 : decode cX6_isCaught 2 = .ok (.getfield 41, 3) := by decide +kernel
theorem dX6_isCaught_5 : decode cX6_isCaught 5 = .ok (.invokevirtual 85, 3) := by decide +kernel
theorem dX6_isCaught_8 : decode cX6_isCaught 8 = .ok (.ireturn, 1) := by decide +kernel
theorem dX6_isStool_0 : decode cX6_isStool 0 = .ok (.aload_n 0, 1) := by decide +kernel
theorem dX6_isStool_1 : decode cX6_isStool 1 = .ok (.getfield 26, 3) := by decide +kernel
theorem dX6_isStool_4 : decode cX6_isStool 4 = .ok (.iload_n 1, 1) := by decide +kernel
theorem dX6_isStool_5 : decode cX6_isStool 5 = .ok (.invokevirtual 81, 3) := by decide +kernel
theorem dX6_isStool_8 : decode cX6_isStool 8 = .ok (.iconst (-1), 1) := by decide +kernel
theorem dX6_isStool_9 : decode cX6_isStool 9 = .ok (.if_icmp .eq 7, 3) := by decide +kernel
theorem dX6_isStool_12 : decode cX6_isStool 12 = .ok (.iconst 1, 1) := by decide +kernel
theorem dX6_isStool_13 : decode cX6_isStool 13 = .ok (.goto 4, 3) := by decide +kernel
theorem dX6_isStool_16 : decode cX6_isStool 16 = .ok (.iconst 0, 1) := by decide +kernel
theorem dX6_isStool_17 : decode cX6_isStool 17 = .ok (.ireturn, 1) := by decide +kernel
theorem dX6_areEnemies_0 : decode cX6_areEnemies 0 = .ok (.aload_n 0, 1) := by decide +kernel
theorem dX6_areEnemies_1 : decode cX6_areEnemies 1 = .ok (.getfield 32, 3) := by decide +kernel
theorem dX6_areEnemies_4 : decode cX6_areEnemies 4 = .ok (.iload_n 1, 1) := by decide +kernel
theorem dX6_areEnemies_5 : decode cX6_areEnemies 5 = .ok (.invokevirtual 89, 3) := by decide +kernel
theorem dX6_areEnemies_8 : decode cX6_areEnemies 8 = .ok (.iload_n 2, 1) := by decide +kernel
theorem dX6_areEnemies_9 : decode cX6_areEnemies 9 = .ok (.iushr, 1) := by decide +kernel
theorem dX6_areEnemies_10 : decode cX6_areEnemies 10 = .ok (.iconst 1, 1) := by decide +kernel
theorem dX6_areEnemies_11 : decode cX6_areEnemies 11 = .ok (.iand, 1) := by decide +kernel
theorem dX6_areEnemies_12 : decode cX6_areEnemies 12 = .ok (.ifCond .eq 7, 3) := by decide +kernel
theorem dX6_areEnemies_15 : decode cX6_areEnemies 15 = .ok (.iconst 1, 1) := by decide +kernel
theorem dX6_areEnemies_16 : decode cX6_areEnemies 16 = .ok (.goto 4, 3) := by decide +kernel
theorem dX6_areEnemies_19 : decode cX6_areEnemies 19 = .ok (.iconst 0, 1) := by decide +kernel
theorem dX6_areEnemies_20 : decode cX6_areEnemies 20 = .ok (.ireturn, 1) := by decide +kernel
theorem dX6_setEnemy_0 : decode cX6_setEnemy 0 = .ok (.aload_n 0, 1) := by decide +kernel
theorem dX6_setEnemy_1 : decode cX6_setEnemy 1 = .ok (.getfield 32, 3) := by decide +kernel
theorem dX6_setEnemy_4 : decode cX6_setEnemy 4 = .ok (.iload_n 1, 1) := by decide +kernel
theorem dX6_setEnemy_5 : decode cX6_setEnemy 5 = .ok (.invokevirtual 89, 3) := by decide +kernel
theorem dX6_setEnemy_8 : decode cX6_setEnemy 8 = .ok (.iconst 1, 1) := by decide +kernel
theorem dX6_setEnemy_9 : decode cX6_setEnemy 9 = .ok (.iload_n 2, 1) := by decide +kernel
theorem dX6_setEnemy_10 : decode cX6_setEnemy 10 = .ok (.ishl, 1) := by decide +kernel
theorem dX6_setEnemy_11 : decode cX6_setEnemy 11 = .ok (.iconst (-1), 1) := by decide +kernel
theorem dX6_setEnemy_12 : decode cX6_setEnemy 12 = .ok (.ixor, 1) := by decide +kernel
theorem dX6_setEnemy_13 : decode cX6_setEnemy 13 = .ok (.iand, 1) := by decide +kernel
theorem dX6_setEnemy_14 : decode cX6_setEnemy 14 = .ok (.istore 4, 2) := by decide +kernel
theorem dX6_setEnemy_16 : decode cX6_setEnemy 16 = .ok (.aload_n 0, 1) := by decide +kernel
theorem dX6_setEnemy_17 : decode cX6_setEnemy 17 = .ok (.getfield 32, 3) := by decide +kernel
theorem dX6_setEnemy_20 : decode cX6_setEnemy 20 = .ok (.iload_n 1, 1) := by decide +kernel
theorem dX6_setEnemy_21 : decode cX6_setEnemy 21 = .ok (.iload_n 3, 1) := by decide +kernel
theorem dX6_setEnemy_22 : decode cX6_setEnemy 22 = .ok (.ifCond .eq 12, 3) := by decide +kernel
theorem dX6_setEnemy_25 : decode cX6_setEnemy 25 = .ok (.iload 4, 2) := by decide +kernel
theorem dX6_setEnemy_27 : decode cX6_setEnemy 27 = .ok (.iconst 1, 1) := by decide +kernel
theorem dX6_setEnemy_28 : decode cX6_setEnemy 28 = .ok (.iload_n 2, 1) := by decide +kernel
theorem dX6_setEnemy_29 : decode cX6_setEnemy 29 = .ok (.ishl, 1) := by decide +kernel
theorem dX6_setEnemy_30 : decode cX6_setEnemy 30 = .ok (.ior, 1) := by decide +kernel
theorem dX6_setEnemy_31 : decode cX6_setEnemy 31 = .ok (.goto 5, 3) := by decide +kernel
theorem dX6_setEnemy_34 : decode cX6_setEnemy 34 = .ok (.iload 4, 2) := by decide +kernel
theorem dX6_setEnemy_36 : decode cX6_setEnemy 36 = .ok (.invokevirtual 92, 3) := by decide +kernel
theorem dX6_setEnemy_39 : decode cX6_setEnemy 39 = .ok (.return_, 1) := by decide +kernel
theorem dX6_isSeated_0 : decode cX6_isSeated 0 = .ok (.aload_n 0, 1) := by decide +kernel
theorem dX6_isSeated_1 : decode cX6_isSeated 1 = .ok (.getfield 23, 3) := by decide +kernel
theorem dX6_isSeated_4 : decode cX6_isSeated 4 = .ok (.iload_n 1, 1) := by decide +kernel
theorem dX6_isSeated_5 : decode cX6_isSeated 5 = .ok (.invokevirtual 89, 3) := by decide +kernel
theorem dX6_isSeated_8 : decode cX6_isSeated 8 = .ok (.aload_n 0, 1) := by decide +kernel
theorem dX6_isSeated_9 : decode cX6_isSeated 9 = .ok (.getfield 26, 3) := by decide +kernel
theorem dX6_isSeated_12 : decode cX6_isSeated 12 = .ok (.iload_n 1, 1) := by decide +kernel
theorem dX6_isSeated_13 : decode cX6_isSeated 13 = .ok (.invokevirtual 89, 3) := by decide +kernel
theorem dX6_isSeated_16 : decode cX6_isSeated 16 = .ok (.if_icmp .ne 7, 3) := by decide +kernel
theorem dX6_isSeated_19 : decode cX6_isSeated 19 = .ok (.iconst 1, 1) := by decide +kernel
theorem dX6_isSeated_20 : decode cX6_isSeated 20 = .ok (.goto 4, 3) := by decide +kernel
theorem dX6_isSeated_23 : decode cX6_isSeated 23 = .ok (.iconst 0, 1) := by decide +kernel
theorem dX6_isSeated_24 : decode cX6_isSeated 24 = .ok (.ireturn, 1) := by decide +kernel
theorem dX6_allSit_0 : decode cX6_allSit 0 = .ok (.iconst 0, 1) := by decide +kernel
theorem dX6_allSit_1 : decode cX6_allSit 1 = .ok (.istore_n 1, 1) := by decide +kernel
theorem dX6_allSit_2 : decode cX6_allSit 2 = .ok (.iload_n 1, 1) := by decide +kernel
theorem dX6_allSit_3 : decode cX6_allSit 3 = .ok (.aload_n 0, 1) := by decide +kernel
theorem dX6_allSit_4 : decode cX6_allSit 4 = .ok (.invokevirtual 71, 3) := by decide +kernel
theorem dX6_allSit_7 : decode cX6_allSit 7 = .ok (.if_icmp .ge 19, 3) := by decide +kernel
theorem dX6_allSit_10 : decode cX6_allSit 10 = .ok (.aload_n 0, 1) := by decide +kernel
theorem dX6_allSit_11 : decode cX6_allSit 11 = .ok (.iload_n 1, 1) := by decide +kernel
theorem dX6_allSit_12 : decode cX6_allSit 12 = .ok (.invokevirtual 96, 3) := by decide +kernel
theorem dX6_allSit_15 : decode cX6_allSit 15 = .ok (.ifCond .ne 5, 3) := by decide +kernel
theorem dX6_allSit_18 : decode cX6_allSit 18 = .ok (.iconst 0, 1) := by decide +kernel
theorem dX6_allSit_19 : decode cX6_allSit 19 = .ok (.ireturn, 1) := by decide +kernel
theorem dX6_allSit_20 : decode cX6_allSit 20 = .ok (.iinc 1 1, 3) := by decide +kernel
theorem dX6_allSit_23 : decode cX6_allSit 23 = .ok (.goto (-21), 3) := by decide +kernel
theorem dX6_allSit_26 : decode cX6_allSit 26 = .ok (.iconst 1, 1) := by decide +kernel
theorem dX6_allSit_27 : decode cX6_allSit 27 = .ok (.ireturn, 1) := by decide +kernel
theorem dX6_goTo_0 : decode cX6_goTo 0 = .ok (.iload_n 1, 1) := by decide +kernel
theorem dX6_goTo_1 : decode cX6_goTo 1 = .ok (.aload_n 0, 1) := by decide +kernel
theorem dX6_goTo_2 : decode cX6_goTo 2 = .ok (.getfield 41, 3) := by decide +kernel
