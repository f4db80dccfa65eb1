theorem d_L_law_0 : decode code 0 = .ok (.new 8, 3) := by decide +kernel
theorem d_L_law_3 : decode code 3 = .ok (.dup, 1) := by decide +kernel
theorem d_L_law_4 : decode code 4 = .ok (.invokespecial 47, 3) := by decide +kernel
theorem d_L_law_7 : decode code 7 = .ok (.astore_n 1, 1) := by decide +kernel
theorem d_L_law_8 : decode code 8 = .ok (.new 48, 3) := by decide +kernel
theorem d_L_law_11 : decode code 11 = .ok (.dup, 1) := by decide +kernel
theorem d_L_law_12 : decode code 12 = .ok (.invokespecial 50, 3) := by decide +kernel
theorem d_L_law_15 : decode code 15 = .ok (.astore_n 2, 1) := by decide +kernel
theorem d_L_law_16 : decode code 16 = .ok (.iconst 1, 1) := by decide +kernel
theorem d_L_law_17 : decode code 17 = .ok (.newarray .long, 2) := by decide +kernel
theorem d_L_law_19 : decode code 19 = .ok (.astore_n 3, 1) := by decide +kernel
theorem d_L_law_20 : decode code 20 = .ok (.iconst 0, 1) := by decide +kernel
theorem d_L_law_21 : decode code 21 = .ok (.istore 4, 2) := by decide +kernel
theorem d_L_law_23 : decode code 23 = .ok (.iload 4, 2) := by decide +kernel
theorem d_L_law_25 : decode code 25 = .ok (.aload_n 0, 1) := by decide +kernel
theorem d_L_law_26 : decode code 26 = .ok (.arraylength, 1) := by decide +kernel
theorem d_L_law_27 : decode code 27 = .ok (.iconst 4, 1) := by decide +kernel
theorem d_L_law_28 : decode code 28 = .ok (.isub, 1) := by decide +kernel
theorem d_L_law_29 : decode code 29 = .ok (.if_icmp .gt 722, 3) := by decide +kernel
theorem d_L_law_32 : decode code 32 = .ok (.aload_n 0, 1) := by decide +kernel
theorem d_L_law_33 : decode code 33 = .ok (.iload 4, 2) := by decide +kernel
theorem d_L_law_35 : decode code 35 = .ok (.iaload, 1) := by decide +kernel
theorem d_L_law_36 : decode code 36 = .ok (.bipush 15, 2) := by decide +kernel
theorem d_L_law_38 : decode code 38 = .ok (.iand, 1) := by decide +kernel
theorem d_L_law_39 : decode code 39 = .ok (.tableswitch 706 0 9 #[53, 133, 213, 276, 332, 388, 451, 507, 575, 638], 53) := by decide +kernel
theorem d_L_law_92 : decode code 92 = .ok (.aload_n 1, 1) := by decide +kernel
theorem d_L_law_93 : decode code 93 = .ok (.aload_n 0, 1) := by decide +kernel
theorem d_L_law_94 : decode code 94 = .ok (.iload 4, 2) := by decide +kernel
theorem d_L_law_96 : decode code 96 = .ok (.iconst 1, 1) := by decide +kernel
theorem d_L_law_97 : decode code 97 = .ok (.iadd, 1) := by decide +kernel
theorem d_L_law_98 : decode code 98 = .ok (.iaload, 1) := by decide +kernel
theorem d_L_law_99 : decode code 99 = .ok (.aload_n 0, 1) := by decide +kernel
theorem d_L_law_100 : decode code 100 = .ok (.iload 4, 2) := by decide +kernel
theorem d_L_law_102 : decode code 102 = .ok (.iconst 2, 1) := by decide +kernel
theorem d_L_law_103 : decode code 103 = .ok (.iadd, 1) := by decide +kernel
theorem d_L_law_104 : decode code 104 = .ok (.iaload, 1) := by decide +kernel
theorem d_L_law_105 : decode code 105 = .ok (.aload_n 0, 1) := by decide +kernel
theorem d_L_law_106 : decode code 106 = .ok (.iload 4, 2) := by decide +kernel
theorem d_L_law_108 : decode code 108 = .ok (.iconst 3, 1) := by decide +kernel
theorem d_L_law_109 : decode code 109 = .ok (.iadd, 1) := by decide +kernel
theorem d_L_law_110 : decode code 110 = .ok (.iaload, 1) := by decide +kernel
theorem d_L_law_111 : decode code 111 = .ok (.aload_n 3, 1) := by decide +kernel
theorem d_L_law_112 : decode code 112 = .ok (.invokestatic 51, 3) := by decide +kernel
theorem d_L_law_115 : decode code 115 = .ok (.istore 5, 2) := by decide +kernel
theorem d_L_law_117 : decode code 117 = .ok (.aload_n 2, 1) := by decide +kernel
theorem d_L_law_118 : decode code 118 = .ok (.aload_n 0, 1) := by decide +kernel
theorem d_L_law_119 : decode code 119 = .ok (.iload 4, 2) := by decide +kernel
theorem d_L_law_121 : decode code 121 = .ok (.iconst 1, 1) := by decide +kernel
theorem d_L_law_122 : decode code 122 = .ok (.iadd, 1) := by decide +kernel
theorem d_L_law_123 : decode code 123 = .ok (.iaload, 1) := by decide +kernel
theorem d_L_law_124 : decode code 124 = .ok (.aload_n 0, 1) := by decide +kernel
theorem d_L_law_125 : decode code 125 = .ok (.iload 4, 2) := by decide +kernel
theorem d_L_law_127 : decode code 127 = .ok (.iconst 2, 1) := by decide +kernel
theorem d_L_law_128 : decode code 128 = .ok (.iadd, 1) := by decide +kernel
theorem d_L_law_129 : decode code 129 = .ok (.iaload, 1) := by decide +kernel
theorem d_L_law_130 : decode code 130 = .ok (.aload_n 0, 1) := by decide +kernel
theorem d_L_law_131 : decode code 131 = .ok (.iload 4, 2) := by decide +kernel
theorem d_L_law_133 : decode code 133 = .ok (.iconst 3, 1) := by decide +kernel
theorem d_L_law_134 : decode code 134 = .ok (.iadd, 1) := by decide +kernel
theorem d_L_law_135 : decode code 135 = .ok (.iaload, 1) := by decide +kernel
theorem d_L_law_136 : decode code 136 = .ok (.invokevirtual 56, 3) := by decide +kernel
theorem d_L_law_139 : decode code 139 = .ok (.istore 6, 2) := by decide +kernel
theorem d_L_law_141 : decode code 141 = .ok (.aload_n 2, 1) := by decide +kernel
theorem d_L_law_142 : decode code 142 = .ok (.invokevirtual 57, 3) := by decide +kernel
theorem d_L_law_145 : decode code 145 = .ok (.iload 5, 2) := by decide +kernel
theorem d_L_law_147 : decode code 147 = .ok (.if_icmp .eq 5, 3) := by decide +kernel
theorem d_L_law_150 : decode code 150 = .ok (.iconst 0, 1) := by decide +kernel
theorem d_L_law_151 : decode code 151 = .ok (.ireturn, 1) := by decide +kernel
theorem d_L_law_152 : decode code 152 = .ok (.iload 5, 2) := by decide +kernel
theorem d_L_law_154 : decode code 154 = .ok (.ifCond .ne 15, 3) := by decide +kernel
theorem d_L_law_157 : decode code 157 = .ok (.aload_n 3, 1) := by decide +kernel
theorem d_L_law_158 : decode code 158 = .ok (.iconst 0, 1) := by decide +kernel
theorem d_L_law_159 : decode code 159 = .ok (.laload, 1) := by decide +kernel
theorem d_L_law_160 : decode code 160 = .ok (.iload 6, 2) := by decide +kernel
theorem d_L_law_162 : decode code 162 = .ok (.i2l, 1) := by decide +kernel
theorem d_L_law_163 : decode code 163 = .ok (.lcmp, 1) := by decide +kernel
theorem d_L_law_164 : decode code 164 = .ok (.ifCond .eq 5, 3) := by decide +kernel
theorem d_L_law_167 : decode code 167 = .ok (.iconst 0, 1) := by decide +kernel
theorem d_L_law_168 : decode code 168 = .ok (.ireturn, 1) := by decide +kernel
theorem d_L_law_169 : decode code 169 = .ok (.goto 576, 3) := by decide +kernel
theorem d_L_law_172 : decode code 172 = .ok (.aload_n 1, 1) := by decide +kernel
theorem d_L_law_173 : decode code 173 = .ok (.aload_n 0, 1) := by decide +kernel
theorem d_L_law_174 : decode code 174 = .ok (.iload 4, 2) := by decide +kernel
theorem d_L_law_176 : decode code 176 = .ok (.iconst 1, 1) := by decide +kernel
theorem d_L_law_177 : decode code 177 = .ok (.iadd, 1) := by decide +kernel
theorem d_L_law_178 : decode code 178 = .ok (.iaload, 1) := by decide +kernel
theorem d_L_law_179 : decode code 179 = .ok (.aload_n 0, 1) := by decide +kernel
theorem d_L_law_180 : decode code 180 = .ok (.iload 4, 2) := by decide +kernel
theorem d_L_law_182 : decode code 182 = .ok (.iconst 2, 1) := by decide +kernel
theorem d_L_law_183 : decode code 183 = .ok (.iadd, 1) := by decide +kernel
theorem d_L_law_184 : decode code 184 = .ok (.iaload, 1) := by decide +kernel
theorem d_L_law_185 : decode code 185 = .ok (.aload_n 0, 1) := by decide +kernel
theorem d_L_law_186 : decode code 186 = .ok (.iload 4, 2) := by decide +kernel
theorem d_L_law_188 : decode code 188 = .ok (.iconst 3, 1) := by decide +kernel
theorem d_L_law_189 : decode code 189 = .ok (.iadd, 1) := by decide +kernel
theorem d_L_law_190 : decode code 190 = .ok (.iaload, 1) := by decide +kernel
theorem d_L_law_191 : decode code 191 = .ok (.aload_n 3, 1) := by decide +kernel
theorem d_L_law_192 : decode code 192 = .ok (.invokestatic 61, 3) := by decide +kernel
theorem d_L_law_195 : decode code 195 = .ok (.istore 5, 2) := by decide +kernel
theorem d_L_law_197 : decode code 197 = .ok (.aload_n 2, 1) := by decide +kernel
theorem d_L_law_198 : decode code 198 = .ok (.aload_n 0, 1) := by decide +kernel
theorem d_L_law_199 : decode code 199 = .ok (.iload 4, 2) := by decide +kernel
theorem d_L_law_201 : decode code 201 = .ok (.iconst 1, 1) := by decide +kernel
theorem d_L_law_202 : decode code 202 = .ok (.iadd, 1) := by decide +kernel
theorem d_L_law_203 : decode code 203 = .ok (.iaload, 1) := by decide +kernel
theorem d_L_law_204 : decode code 204 = .ok (.aload_n 0, 1) := by decide +kernel
theorem d_L_law_205 : decode code 205 = .ok (.iload 4, 2) := by decide +kernel
theorem d_L_law_207 : decode code 207 = .ok (.iconst 2, 1) := by decide +kernel
theorem d_L_law_208 : decode code 208 = .ok (.iadd, 1) := by decide +kernel
theorem d_L_law_209 : decode code 209 = .ok (.iaload, 1) := by decide +kernel
theorem d_L_law_210 : decode code 210 = .ok (.aload_n 0, 1) := by decide +kernel
theorem d_L_law_211 : decode code 211 = .ok (.iload 4, 2) := by decide +kernel
theorem d_L_law_213 : decode code 213 = .ok (.iconst 3, 1) := by decide +kernel
theorem d_L_law_214 : decode code 214 = .ok (.iadd, 1) := by decide +kernel
theorem d_L_law_215 : decode code 215 = .ok (.iaload, 1) := by decide +kernel
theorem d_L_law_216 : decode code 216 = .ok (.invokevirtual 63, 3) := by decide +kernel
theorem d_L_law_219 : decode code 219 = .ok (.istore 6, 2) := by decide +kernel
theorem d_L_law_221 : decode code 221 = .ok (.aload_n 2, 1) := by decide +kernel
theorem d_L_law_222 : decode code 222 = .ok (.invokevirtual 57, 3) := by decide +kernel
theorem d_L_law_225 : decode code 225 = .ok (.iload 5, 2) := by decide +kernel
theorem d_L_law_227 : decode code 227 = .ok (.if_icmp .eq 5, 3) := by decide +kernel
theorem d_L_law_230 : decode code 230 = .ok (.iconst 0, 1) := by decide +kernel
theorem d_L_law_231 : decode code 231 = .ok (.ireturn, 1) := by decide +kernel
theorem d_L_law_232 : decode code 232 = .ok (.iload 5, 2) := by decide +kernel
theorem d_L_law_234 : decode code 234 = .ok (.ifCond .ne 15, 3) := by decide +kernel
theorem d_L_law_237 : decode code 237 = .ok (.aload_n 3, 1) := by decide +kernel
theorem d_L_law_238 : decode code 238 = .ok (.iconst 0, 1) := by decide +kernel
theorem d_L_law_239 : decode code 239 = .ok (.laload, 1) := by decide +kernel
theorem d_L_law_240 : decode code 240 = .ok (.iload 6, 2) := by decide +kernel
theorem d_L_law_242 : decode code 242 = .ok (.i2l, 1) := by decide +kernel
theorem d_L_law_243 : decode code 243 = .ok (.lcmp, 1) := by decide +kernel
theorem d_L_law_244 : decode code 244 = .ok (.ifCond .eq 5, 3) := by decide +kernel
theorem d_L_law_247 : decode code 247 = .ok (.iconst 0, 1) := by decide +kernel
theorem d_L_law_248 : decode code 248 = .ok (.ireturn, 1) := by decide +kernel
theorem d_L_law_249 : decode code 249 = .ok (.goto 496, 3) := by decide +kernel
theorem d_L_law_252 : decode code 252 = .ok (.aload_n 1, 1) := by decide +kernel
theorem d_L_law_253 : decode code 253 = .ok (.aload_n 0, 1) := by decide +kernel
theorem d_L_law_254 : decode code 254 = .ok (.iload 4, 2) := by decide +kernel
theorem d_L_law_256 : decode code 256 = .ok (.iconst 1, 1) := by decide +kernel
theorem d_L_law_257 : decode code 257 = .ok (.iadd, 1) := by decide +kernel
theorem d_L_law_258 : decode code 258 = .ok (.iaload, 1) := by decide +kernel
theorem d_L_law_259 : decode code 259 = .ok (.aload_n 3, 1) := by decide +kernel
theorem d_L_law_260 : decode code 260 = .ok (.invokestatic 64, 3) := by decide +kernel
theorem d_L_law_263 : decode code 263 = .ok (.istore 5, 2) := by decide +kernel
theorem d_L_law_265 : decode code 265 = .ok (.aload_n 2, 1) := by decide +kernel
theorem d_L_law_266 : decode code 266 = .ok (.aload_n 0, 1) := by decide +kernel
theorem d_L_law_267 : decode code 267 = .ok (.iload 4, 2) := by decide +kernel
theorem d_L_law_269 : decode code 269 = .ok (.iconst 1, 1) := by decide +kernel
theorem d_L_law_270 : decode code 270 = .ok (.iadd, 1) := by decide +kernel
theorem d_L_law_271 : decode code 271 = .ok (.iaload, 1) := by decide +kernel
theorem d_L_law_272 : decode code 272 = .ok (.invokevirtual 67, 3) := by decide +kernel
theorem d_L_law_275 : decode code 275 = .ok (.istore 6, 2) := by decide +kernel
theorem d_L_law_277 : decode code 277 = .ok (.aload_n 2, 1) := by decide +kernel
theorem d_L_law_278 : decode code 278 = .ok (.invokevirtual 57, 3) := by decide +kernel
theorem d_L_law_281 : decode code 281 = .ok (.iload 5, 2) := by decide +kernel
theorem d_L_law_283 : decode code 283 = .ok (.if_icmp .eq 5, 3) := by decide +kernel
theorem d_L_law_286 : decode code 286 = .ok (.iconst 0, 1) := by decide +kernel
theorem d_L_law_287 : decode code 287 = .ok (.ireturn, 1) := by decide +kernel
theorem d_L_law_288 : decode code 288 = .ok (.iload 5, 2) := by decide +kernel
theorem d_L_law_290 : decode code 290 = .ok (.ifCond .ne 22, 3) := by decide +kernel
theorem d_L_law_293 : decode code 293 = .ok (.aload_n 3, 1) := by decide +kernel
theorem d_L_law_294 : decode code 294 = .ok (.iconst 0, 1) := by decide +kernel
theorem d_L_law_295 : decode code 295 = .ok (.laload, 1) := by decide +kernel
theorem d_L_law_296 : decode code 296 = .ok (.iload 6, 2) := by decide +kernel
theorem d_L_law_298 : decode code 298 = .ok (.ifCond .eq 7, 3) := by decide +kernel
theorem d_L_law_301 : decode code 301 = .ok (.lconst 1, 1) := by decide +kernel
theorem d_L_law_302 : decode code 302 = .ok (.goto 4, 3) := by decide +kernel
theorem d_L_law_305 : decode code 305 = .ok (.lconst 0, 1) := by decide +kernel
theorem d_L_law_306 : decode code 306 = .ok (.lcmp, 1) := by decide +kernel
theorem d_L_law_307 : decode code 307 = .ok (.ifCond .eq 5, 3) := by decide +kernel
theorem d_L_law_310 : decode code 310 = .ok (.iconst 0, 1) := by decide +kernel
theorem d_L_law_311 : decode code 311 = .ok (.ireturn, 1) := by decide +kernel
theorem d_L_law_312 : decode code 312 = .ok (.goto 433, 3) := by decide +kernel
theorem d_L_law_315 : decode code 315 = .ok (.aload_n 1, 1) := by decide +kernel
theorem d_L_law_316 : decode code 316 = .ok (.aload_n 0, 1) := by decide +kernel
theorem d_L_law_317 : decode code 317 = .ok (.iload 4, 2) := by decide +kernel
theorem d_L_law_319 : decode code 319 = .ok (.iconst 1, 1) := by decide +kernel
theorem d_L_law_320 : decode code 320 = .ok (.iadd, 1) := by decide +kernel
theorem d_L_law_321 : decode code 321 = .ok (.iaload, 1) := by decide +kernel
theorem d_L_law_322 : decode code 322 = .ok (.aload_n 3, 1) := by decide +kernel
theorem d_L_law_323 : decode code 323 = .ok (.invokestatic 68, 3) := by decide +kernel
theorem d_L_law_326 : decode code 326 = .ok (.istore 5, 2) := by decide +kernel
theorem d_L_law_328 : decode code 328 = .ok (.aload_n 2, 1) := by decide +kernel
theorem d_L_law_329 : decode code 329 = .ok (.aload_n 0, 1) := by decide +kernel
theorem d_L_law_330 : decode code 330 = .ok (.iload 4, 2) := by decide +kernel
theorem d_L_law_332 : decode code 332 = .ok (.iconst 1, 1) := by decide +kernel
theorem d_L_law_333 : decode code 333 = .ok (.iadd, 1) := by decide +kernel
theorem d_L_law_334 : decode code 334 = .ok (.iaload, 1) := by decide +kernel
theorem d_L_law_335 : decode code 335 = .ok (.invokevirtual 70, 3) := by decide +kernel
theorem d_L_law_338 : decode code 338 = .ok (.istore 6, 2) := by decide +kernel
theorem d_L_law_340 : decode code 340 = .ok (.aload_n 2, 1) := by decide +kernel
theorem d_L_law_341 : decode code 341 = .ok (.invokevirtual 57, 3) := by decide +kernel
theorem d_L_law_344 : decode code 344 = .ok (.iload 5, 2) := by decide +kernel
theorem d_L_law_346 : decode code 346 = .ok (.if_icmp .eq 5, 3) := by decide +kernel
theorem d_L_law_349 : decode code 349 = .ok (.iconst 0, 1) := by decide +kernel
theorem d_L_law_350 : decode code 350 = .ok (.ireturn, 1) := by decide +kernel
theorem d_L_law_351 : decode code 351 = .ok (.iload 5, 2) := by decide +kernel
theorem d_L_law_353 : decode code 353 = .ok (.ifCond .ne 15, 3) := by decide +kernel
theorem d_L_law_356 : decode code 356 = .ok (.aload_n 3, 1) := by decide +kernel
theorem d_L_law_357 : decode code 357 = .ok (.iconst 0, 1) := by decide +kernel
theorem d_L_law_358 : decode code 358 = .ok (.laload, 1) := by decide +kernel
theorem d_L_law_359 : decode code 359 = .ok (.iload 6, 2) := by decide +kernel
theorem d_L_law_361 : decode code 361 = .ok (.i2l, 1) := by decide +kernel
theorem d_L_law_362 : decode code 362 = .ok (.lcmp, 1) := by decide +kernel
theorem d_L_law_363 : decode code 363 = .ok (.ifCond .eq 5, 3) := by decide +kernel
theorem d_L_law_366 : decode code 366 = .ok (.iconst 0, 1) := by decide +kernel
theorem d_L_law_367 : decode code 367 = .ok (.ireturn, 1) := by decide +kernel
theorem d_L_law_368 : decode code 368 = .ok (.goto 377, 3) := by decide +kernel
theorem d_L_law_371 : decode code 371 = .ok (.aload_n 1, 1) := by decide +kernel
theorem d_L_law_372 : decode code 372 = .ok (.aload_n 0, 1) := by decide +kernel
theorem d_L_law_373 : decode code 373 = .ok (.iload 4, 2) := by decide +kernel
theorem d_L_law_375 : decode code 375 = .ok (.iconst 1, 1) := by decide +kernel
theorem d_L_law_376 : decode code 376 = .ok (.iadd, 1) := by decide +kernel
theorem d_L_law_377 : decode code 377 = .ok (.iaload, 1) := by decide +kernel
theorem d_L_law_378 : decode code 378 = .ok (.aload_n 3, 1) := by decide +kernel
theorem d_L_law_379 : decode code 379 = .ok (.invokestatic 71, 3) := by decide +kernel
theorem d_L_law_382 : decode code 382 = .ok (.istore 5, 2) := by decide +kernel
theorem d_L_law_384 : decode code 384 = .ok (.aload_n 2, 1) := by decide +kernel
theorem d_L_law_385 : decode code 385 = .ok (.aload_n 0, 1) := by decide +kernel
theorem d_L_law_386 : decode code 386 = .ok (.iload 4, 2) := by decide +kernel
theorem d_L_law_388 : decode code 388 = .ok (.iconst 1, 1) := by decide +kernel
theorem d_L_law_389 : decode code 389 = .ok (.iadd, 1) := by decide +kernel
theorem d_L_law_390 : decode code 390 = .ok (.iaload, 1) := by decide +kernel
theorem d_L_law_391 : decode code 391 = .ok (.invokevirtual 73, 3) := by decide +kernel
theorem d_L_law_394 : decode code 394 = .ok (.istore 6, 2) := by decide +kernel
theorem d_L_law_396 : decode code 396 = .ok (.aload_n 2, 1) := by decide +kernel
theorem d_L_law_397 : decode code 397 = .ok (.invokevirtual 57, 3) := by decide +kernel
theorem d_L_law_400 : decode code 400 = .ok (.iload 5, 2) := by decide +kernel
theorem d_L_law_402 : decode code 402 = .ok (.if_icmp .eq 5, 3) := by decide +kernel
theorem d_L_law_405 : decode code 405 = .ok (.iconst 0, 1) := by decide +kernel
theorem d_L_law_406 : decode code 406 = .ok (.ireturn, 1) := by decide +kernel
theorem d_L_law_407 : decode code 407 = .ok (.iload 5, 2) := by decide +kernel
theorem d_L_law_409 : decode code 409 = .ok (.ifCond .ne 15, 3) := by decide +kernel
theorem d_L_law_412 : decode code 412 = .ok (.aload_n 3, 1) := by decide +kernel
theorem d_L_law_413 : decode code 413 = .ok (.iconst 0, 1) := by decide +kernel
theorem d_L_law_414 : decode code 414 = .ok (.laload, 1) := by decide +kernel
theorem d_L_law_415 : decode code 415 = .ok (.iload 6, 2) := by decide +kernel
theorem d_L_law_417 : decode code 417 = .ok (.i2l, 1) := by decide +kernel
theorem d_L_law_418 : decode code 418 = .ok (.lcmp, 1) := by decide +kernel
theorem d_L_law_419 : decode code 419 = .ok (.ifCond .eq 5, 3) := by decide +kernel
theorem d_L_law_422 : decode code 422 = .ok (.iconst 0, 1) := by decide +kernel
theorem d_L_law_423 : decode code 423 = .ok (.ireturn, 1) := by decide +kernel
theorem d_L_law_424 : decode code 424 = .ok (.goto 321, 3) := by decide +kernel
theorem d_L_law_427 : decode code 427 = .ok (.aload_n 1, 1) := by decide +kernel
theorem d_L_law_428 : decode code 428 = .ok (.aload_n 0, 1) := by decide +kernel
theorem d_L_law_429 : decode code 429 = .ok (.iload 4, 2) := by decide +kernel
theorem d_L_law_431 : decode code 431 = .ok (.iconst 1, 1) := by decide +kernel
theorem d_L_law_432 : decode code 432 = .ok (.iadd, 1) := by decide +kernel
theorem d_L_law_433 : decode code 433 = .ok (.iaload, 1) := by decide +kernel
theorem d_L_law_434 : decode code 434 = .ok (.aload_n 3, 1) := by decide +kernel
theorem d_L_law_435 : decode code 435 = .ok (.invokestatic 74, 3) := by decide +kernel
theorem d_L_law_438 : decode code 438 = .ok (.istore 5, 2) := by decide +kernel
theorem d_L_law_440 : decode code 440 = .ok (.aload_n 2, 1) := by decide +kernel
theorem d_L_law_441 : decode code 441 = .ok (.aload_n 0, 1) := by decide +kernel
theorem d_L_law_442 : decode code 442 = .ok (.iload 4, 2) := by decide +kernel
theorem d_L_law_444 : decode code 444 = .ok (.iconst 1, 1) := by decide +kernel
theorem d_L_law_445 : decode code 445 = .ok (.iadd, 1) := by decide +kernel
theorem d_L_law_446 : decode code 446 = .ok (.iaload, 1) := by decide +kernel
theorem d_L_law_447 : decode code 447 = .ok (.invokevirtual 76, 3) := by decide +kernel
theorem d_L_law_450 : decode code 450 = .ok (.istore 6, 2) := by decide +kernel
theorem d_L_law_452 : decode code 452 = .ok (.aload_n 2, 1) := by decide +kernel
theorem d_L_law_453 : decode code 453 = .ok (.invokevirtual 57, 3) := by decide +kernel
theorem d_L_law_456 : decode code 456 = .ok (.iload 5, 2) := by decide +kernel
theorem d_L_law_458 : decode code 458 = .ok (.if_icmp .eq 5, 3) := by decide +kernel
theorem d_L_law_461 : decode code 461 = .ok (.iconst 0, 1) := by decide +kernel
theorem d_L_law_462 : decode code 462 = .ok (.ireturn, 1) := by decide +kernel
theorem d_L_law_463 : decode code 463 = .ok (.iload 5, 2) := by decide +kernel
theorem d_L_law_465 : decode code 465 = .ok (.ifCond .ne 22, 3) := by decide +kernel
theorem d_L_law_468 : decode code 468 = .ok (.aload_n 3, 1) := by decide +kernel
theorem d_L_law_469 : decode code 469 = .ok (.iconst 0, 1) := by decide +kernel
theorem d_L_law_470 : decode code 470 = .ok (.laload, 1) := by decide +kernel
theorem d_L_law_471 : decode code 471 = .ok (.iload 6, 2) := by decide +kernel
theorem d_L_law_473 : decode code 473 = .ok (.ifCond .eq 7, 3) := by decide +kernel
theorem d_L_law_476 : decode code 476 = .ok (.lconst 1, 1) := by decide +kernel
theorem d_L_law_477 : decode code 477 = .ok (.goto 4, 3) := by decide +kernel
theorem d_L_law_480 : decode code 480 = .ok (.lconst 0, 1) := by decide +kernel
theorem d_L_law_481 : decode code 481 = .ok (.lcmp, 1) := by decide +kernel
theorem d_L_law_482 : decode code 482 = .ok (.ifCond .eq 5, 3) := by decide +kernel
theorem d_L_law_485 : decode code 485 = .ok (.iconst 0, 1) := by decide +kernel
theorem d_L_law_486 : decode code 486 = .ok (.ireturn, 1) := by decide +kernel
theorem d_L_law_487 : decode code 487 = .ok (.goto 258, 3) := by decide +kernel
theorem d_L_law_490 : decode code 490 = .ok (.aload_n 1, 1) := by decide +kernel
theorem d_L_law_491 : decode code 491 = .ok (.aload_n 0, 1) := by decide +kernel
theorem d_L_law_492 : decode code 492 = .ok (.iload 4, 2) := by decide +kernel
theorem d_L_law_494 : decode code 494 = .ok (.iconst 1, 1) := by decide +kernel
theorem d_L_law_495 : decode code 495 = .ok (.iadd, 1) := by decide +kernel
theorem d_L_law_496 : decode code 496 = .ok (.iaload, 1) := by decide +kernel
theorem d_L_law_497 : decode code 497 = .ok (.aload_n 3, 1) := by decide +kernel
theorem d_L_law_498 : decode code 498 = .ok (.invokestatic 77, 3) := by decide +kernel
theorem d_L_law_501 : decode code 501 = .ok (.istore 5, 2) := by decide +kernel
theorem d_L_law_503 : decode code 503 = .ok (.aload_n 2, 1) := by decide +kernel
theorem d_L_law_504 : decode code 504 = .ok (.aload_n 0, 1) := by decide +kernel
theorem d_L_law_505 : decode code 505 = .ok (.iload 4, 2) := by decide +kernel
theorem d_L_law_507 : decode code 507 = .ok (.iconst 1, 1) := by decide +kernel
theorem d_L_law_508 : decode code 508 = .ok (.iadd, 1) := by decide +kernel
theorem d_L_law_509 : decode code 509 = .ok (.iaload, 1) := by decide +kernel
theorem d_L_law_510 : decode code 510 = .ok (.invokevirtual 79, 3) := by decide +kernel
theorem d_L_law_513 : decode code 513 = .ok (.istore 6, 2) := by decide +kernel
theorem d_L_law_515 : decode code 515 = .ok (.aload_n 2, 1) := by decide +kernel
theorem d_L_law_516 : decode code 516 = .ok (.invokevirtual 57, 3) := by decide +kernel
theorem d_L_law_519 : decode code 519 = .ok (.iload 5, 2) := by decide +kernel
theorem d_L_law_521 : decode code 521 = .ok (.if_icmp .eq 5, 3) := by decide +kernel
theorem d_L_law_524 : decode code 524 = .ok (.iconst 0, 1) := by decide +kernel
theorem d_L_law_525 : decode code 525 = .ok (.ireturn, 1) := by decide +kernel
theorem d_L_law_526 : decode code 526 = .ok (.iload 5, 2) := by decide +kernel
theorem d_L_law_528 : decode code 528 = .ok (.ifCond .ne 15, 3) := by decide +kernel
theorem d_L_law_531 : decode code 531 = .ok (.aload_n 3, 1) := by decide +kernel
theorem d_L_law_532 : decode code 532 = .ok (.iconst 0, 1) := by decide +kernel
theorem d_L_law_533 : decode code 533 = .ok (.laload, 1) := by decide +kernel
theorem d_L_law_534 : decode code 534 = .ok (.iload 6, 2) := by decide +kernel
theorem d_L_law_536 : decode code 536 = .ok (.i2l, 1) := by decide +kernel
theorem d_L_law_537 : decode code 537 = .ok (.lcmp, 1) := by decide +kernel
theorem d_L_law_538 : decode code 538 = .ok (.ifCond .eq 5, 3) := by decide +kernel
theorem d_L_law_541 : decode code 541 = .ok (.iconst 0, 1) := by decide +kernel
theorem d_L_law_542 : decode code 542 = .ok (.ireturn, 1) := by decide +kernel
theorem d_L_law_543 : decode code 543 = .ok (.goto 202, 3) := by decide +kernel
theorem d_L_law_546 : decode code 546 = .ok (.aload_n 1, 1) := by decide +kernel
theorem d_L_law_547 : decode code 547 = .ok (.aload_n 0, 1) := by decide +kernel
theorem d_L_law_548 : decode code 548 = .ok (.iload 4, 2) := by decide +kernel
theorem d_L_law_550 : decode code 550 = .ok (.iconst 1, 1) := by decide +kernel
theorem d_L_law_551 : decode code 551 = .ok (.iadd, 1) := by decide +kernel
theorem d_L_law_552 : decode code 552 = .ok (.iaload, 1) := by decide +kernel
theorem d_L_law_553 : decode code 553 = .ok (.aload_n 0, 1) := by decide +kernel
theorem d_L_law_554 : decode code 554 = .ok (.iload 4, 2) := by decide +kernel
theorem d_L_law_556 : decode code 556 = .ok (.iconst 2, 1) := by decide +kernel
theorem d_L_law_557 : decode code 557 = .ok (.iadd, 1) := by decide +kernel
theorem d_L_law_558 : decode code 558 = .ok (.iaload, 1) := by decide +kernel
theorem d_L_law_559 : decode code 559 = .ok (.aload_n 3, 1) := by decide +kernel
theorem d_L_law_560 : decode code 560 = .ok (.invokestatic 80, 3) := by decide +kernel
theorem d_L_law_563 : decode code 563 = .ok (.istore 5, 2) := by decide +kernel
theorem d_L_law_565 : decode code 565 = .ok (.aload_n 2, 1) := by decide +kernel
theorem d_L_law_566 : decode code 566 = .ok (.aload_n 0, 1) := by decide +kernel
theorem d_L_law_567 : decode code 567 = .ok (.iload 4, 2) := by decide +kernel
theorem d_L_law_569 : decode code 569 = .ok (.iconst 1, 1) := by decide +kernel
theorem d_L_law_570 : decode code 570 = .ok (.iadd, 1) := by decide +kernel
theorem d_L_law_571 : decode code 571 = .ok (.iaload, 1) := by decide +kernel
theorem d_L_law_572 : decode code 572 = .ok (.aload_n 0, 1) := by decide +kernel
theorem d_L_law_573 : decode code 573 = .ok (.iload 4, 2) := by decide +kernel
theorem d_L_law_575 : decode code 575 = .ok (.iconst 2, 1) := by decide +kernel
theorem d_L_law_576 : decode code 576 = .ok (.iadd, 1) := by decide +kernel
theorem d_L_law_577 : decode code 577 = .ok (.iaload, 1) := by decide +kernel
theorem d_L_law_578 : decode code 578 = .ok (.invokevirtual 83, 3) := by decide +kernel
theorem d_L_law_581 : decode code 581 = .ok (.istore 6, 2) := by decide +kernel
theorem d_L_law_583 : decode code 583 = .ok (.aload_n 2, 1) := by decide +kernel
theorem d_L_law_584 : decode code 584 = .ok (.invokevirtual 57, 3) := by decide +kernel
theorem d_L_law_587 : decode code 587 = .ok (.iload 5, 2) := by decide +kernel
theorem d_L_law_589 : decode code 589 = .ok (.if_icmp .eq 5, 3) := by decide +kernel
theorem d_L_law_592 : decode code 592 = .ok (.iconst 0, 1) := by decide +kernel
theorem d_L_law_593 : decode code 593 = .ok (.ireturn, 1) := by decide +kernel
theorem d_L_law_594 : decode code 594 = .ok (.iload 5, 2) := by decide +kernel
theorem d_L_law_596 : decode code 596 = .ok (.ifCond .ne 15, 3) := by decide +kernel
theorem d_L_law_599 : decode code 599 = .ok (.aload_n 3, 1) := by decide +kernel
theorem d_L_law_600 : decode code 600 = .ok (.iconst 0, 1) := by decide +kernel
theorem d_L_law_601 : decode code 601 = .ok (.laload, 1) := by decide +kernel
theorem d_L_law_602 : decode code 602 = .ok (.iload 6, 2) := by decide +kernel
theorem d_L_law_604 : decode code 604 = .ok (.i2l, 1) := by decide +kernel
theorem d_L_law_605 : decode code 605 = .ok (.lcmp, 1) := by decide +kernel
theorem d_L_law_606 : decode code 606 = .ok (.ifCond .eq 5, 3) := by decide +kernel
theorem d_L_law_609 : decode code 609 = .ok (.iconst 0, 1) := by decide +kernel
theorem d_L_law_610 : decode code 610 = .ok (.ireturn, 1) := by decide +kernel
theorem d_L_law_611 : decode code 611 = .ok (.goto 134, 3) := by decide +kernel
theorem d_L_law_614 : decode code 614 = .ok (.aload_n 1, 1) := by decide +kernel
theorem d_L_law_615 : decode code 615 = .ok (.aload_n 0, 1) := by decide +kernel
theorem d_L_law_616 : decode code 616 = .ok (.iload 4, 2) := by decide +kernel
theorem d_L_law_618 : decode code 618 = .ok (.iconst 1, 1) := by decide +kernel
theorem d_L_law_619 : decode code 619 = .ok (.iadd, 1) := by decide +kernel
theorem d_L_law_620 : decode code 620 = .ok (.iaload, 1) := by decide +kernel
theorem d_L_law_621 : decode code 621 = .ok (.aload_n 3, 1) := by decide +kernel
theorem d_L_law_622 : decode code 622 = .ok (.invokestatic 84, 3) := by decide +kernel
theorem d_L_law_625 : decode code 625 = .ok (.istore 5, 2) := by decide +kernel
theorem d_L_law_627 : decode code 627 = .ok (.aload_n 2, 1) := by decide +kernel
theorem d_L_law_628 : decode code 628 = .ok (.aload_n 0, 1) := by decide +kernel
theorem d_L_law_629 : decode code 629 = .ok (.iload 4, 2) := by decide +kernel
theorem d_L_law_631 : decode code 631 = .ok (.iconst 1, 1) := by decide +kernel
theorem d_L_law_632 : decode code 632 = .ok (.iadd, 1) := by decide +kernel
theorem d_L_law_633 : decode code 633 = .ok (.iaload, 1) := by decide +kernel
theorem d_L_law_634 : decode code 634 = .ok (.invokevirtual 86, 3) := by decide +kernel
theorem d_L_law_637 : decode code 637 = .ok (.istore 6, 2) := by decide +kernel
theorem d_L_law_639 : decode code 639 = .ok (.aload_n 2, 1) := by decide +kernel
theorem d_L_law_640 : decode code 640 = .ok (.invokevirtual 57, 3) := by decide +kernel
theorem d_L_law_643 : decode code 643 = .ok (.iload 5, 2) := by decide +kernel
theorem d_L_law_645 : decode code 645 = .ok (.if_icmp .eq 5, 3) := by decide +kernel
theorem d_L_law_648 : decode code 648 = .ok (.iconst 0, 1) := by decide +kernel
theorem d_L_law_649 : decode code 649 = .ok (.ireturn, 1) := by decide +kernel
theorem d_L_law_650 : decode code 650 = .ok (.iload 5, 2) := by decide +kernel
theorem d_L_law_652 : decode code 652 = .ok (.ifCond .ne 22, 3) := by decide +kernel
theorem d_L_law_655 : decode code 655 = .ok (.aload_n 3, 1) := by decide +kernel
theorem d_L_law_656 : decode code 656 = .ok (.iconst 0, 1) := by decide +kernel
theorem d_L_law_657 : decode code 657 = .ok (.laload, 1) := by decide +kernel
theorem d_L_law_658 : decode code 658 = .ok (.iload 6, 2) := by decide +kernel
theorem d_L_law_660 : decode code 660 = .ok (.ifCond .eq 7, 3) := by decide +kernel
theorem d_L_law_663 : decode code 663 = .ok (.lconst 1, 1) := by decide +kernel
theorem d_L_law_664 : decode code 664 = .ok (.goto 4, 3) := by decide +kernel
theorem d_L_law_667 : decode code 667 = .ok (.lconst 0, 1) := by decide +kernel
theorem d_L_law_668 : decode code 668 = .ok (.lcmp, 1) := by decide +kernel
theorem d_L_law_669 : decode code 669 = .ok (.ifCond .eq 5, 3) := by decide +kernel
theorem d_L_law_672 : decode code 672 = .ok (.iconst 0, 1) := by decide +kernel
theorem d_L_law_673 : decode code 673 = .ok (.ireturn, 1) := by decide +kernel
theorem d_L_law_674 : decode code 674 = .ok (.goto 71, 3) := by decide +kernel
theorem d_L_law_677 : decode code 677 = .ok (.aload_n 1, 1) := by decide +kernel
theorem d_L_law_678 : decode code 678 = .ok (.aload_n 0, 1) := by decide +kernel
theorem d_L_law_679 : decode code 679 = .ok (.iload 4, 2) := by decide +kernel
theorem d_L_law_681 : decode code 681 = .ok (.iconst 1, 1) := by decide +kernel
theorem d_L_law_682 : decode code 682 = .ok (.iadd, 1) := by decide +kernel
theorem d_L_law_683 : decode code 683 = .ok (.iaload, 1) := by decide +kernel
theorem d_L_law_684 : decode code 684 = .ok (.aload_n 0, 1) := by decide +kernel
theorem d_L_law_685 : decode code 685 = .ok (.iload 4, 2) := by decide +kernel
theorem d_L_law_687 : decode code 687 = .ok (.iconst 2, 1) := by decide +kernel
theorem d_L_law_688 : decode code 688 = .ok (.iadd, 1) := by decide +kernel
theorem d_L_law_689 : decode code 689 = .ok (.iaload, 1) := by decide +kernel
theorem d_L_law_690 : decode code 690 = .ok (.aload_n 3, 1) := by decide +kernel
theorem d_L_law_691 : decode code 691 = .ok (.invokestatic 87, 3) := by decide +kernel
theorem d_L_law_694 : decode code 694 = .ok (.istore 5, 2) := by decide +kernel
theorem d_L_law_696 : decode code 696 = .ok (.aload_n 2, 1) := by decide +kernel
theorem d_L_law_697 : decode code 697 = .ok (.aload_n 0, 1) := by decide +kernel
theorem d_L_law_698 : decode code 698 = .ok (.iload 4, 2) := by decide +kernel
theorem d_L_law_700 : decode code 700 = .ok (.iconst 1, 1) := by decide +kernel
theorem d_L_law_701 : decode code 701 = .ok (.iadd, 1) := by decide +kernel
theorem d_L_law_702 : decode code 702 = .ok (.iaload, 1) := by decide +kernel
theorem d_L_law_703 : decode code 703 = .ok (.aload_n 0, 1) := by decide +kernel
theorem d_L_law_704 : decode code 704 = .ok (.iload 4, 2) := by decide +kernel
theorem d_L_law_706 : decode code 706 = .ok (.iconst 2, 1) := by decide +kernel
theorem d_L_law_707 : decode code 707 = .ok (.iadd, 1) := by decide +kernel
theorem d_L_law_708 : decode code 708 = .ok (.iaload, 1) := by decide +kernel
theorem d_L_law_709 : decode code 709 = .ok (.invokevirtual 89, 3) := by decide +kernel
theorem d_L_law_712 : decode code 712 = .ok (.istore 6, 2) := by decide +kernel
theorem d_L_law_714 : decode code 714 = .ok (.aload_n 2, 1) := by decide +kernel
theorem d_L_law_715 : decode code 715 = .ok (.invokevirtual 57, 3) := by decide +kernel
theorem d_L_law_718 : decode code 718 = .ok (.iload 5, 2) := by decide +kernel
theorem d_L_law_720 : decode code 720 = .ok (.if_icmp .eq 5, 3) := by decide +kernel
theorem d_L_law_723 : decode code 723 = .ok (.iconst 0, 1) := by decide +kernel
theorem d_L_law_724 : decode code 724 = .ok (.ireturn, 1) := by decide +kernel
theorem d_L_law_725 : decode code 725 = .ok (.iload 5, 2) := by decide +kernel
theorem d_L_law_727 : decode code 727 = .ok (.ifCond .ne 15, 3) := by decide +kernel
theorem d_L_law_730 : decode code 730 = .ok (.aload_n 3, 1) := by decide +kernel
theorem d_L_law_731 : decode code 731 = .ok (.iconst 0, 1) := by decide +kernel
theorem d_L_law_732 : decode code 732 = .ok (.laload, 1) := by decide +kernel
theorem d_L_law_733 : decode code 733 = .ok (.iload 6, 2) := by decide +kernel
theorem d_L_law_735 : decode code 735 = .ok (.i2l, 1) := by decide +kernel
theorem d_L_law_736 : decode code 736 = .ok (.lcmp, 1) := by decide +kernel
theorem d_L_law_737 : decode code 737 = .ok (.ifCond .eq 5, 3) := by decide +kernel
theorem d_L_law_740 : decode code 740 = .ok (.iconst 0, 1) := by decide +kernel
theorem d_L_law_741 : decode code 741 = .ok (.ireturn, 1) := by decide +kernel
theorem d_L_law_742 : decode code 742 = .ok (.goto 3, 3) := by decide +kernel
theorem d_L_law_745 : decode code 745 = .ok (.iinc 4 4, 3) := by decide +kernel
theorem d_L_law_748 : decode code 748 = .ok (.goto (-725), 3) := by decide +kernel
theorem d_L_law_751 : decode code 751 = .ok (.iconst 1, 1) := by decide +kernel
theorem d_L_law_752 : decode code 752 = .ok (.ireturn, 1) := by decide +kernel
theorem mc_M_load : Cond.code y_M_load b_M_load 5 (some .int) ∈ GW ∧ Cond.initialized (y_M_load).cls ∈ GW ∧ ((y_M_load).cls ≠ "java/lang/invoke/MethodHandle" ∧ (y_M_load).cls ≠ "java/lang/invoke/VarHandle" ∧ (parseMethodDescriptor (y_M_load).desc).map (fun d => d.parameters.length) = some 3) := ⟨GW_at 775 (by decide +kernel) (by decide +kernel), GW_at 51 (by decide +kernel) (by decide +kernel), by decide +kernel⟩
theorem lm_L_56 : gLV "FramedLineLaw" "FramedLineModel" 56 y_M_load b_M_load 5 (some .int) 3 := ⟨mc_M_load, GW_at 772 (by decide +kernel) (by decide +kernel), GW_at 773 (by decide +kernel) (by decide +kernel), GW_at 774 (by decide +kernel) (by decide +kernel)⟩
theorem mc_M_thrown : Cond.code y_M_thrown b_M_thrown 1 (some .int) ∈ GW ∧ Cond.initialized (y_M_thrown).cls ∈ GW ∧ ((y_M_thrown).cls ≠ "java/lang/invoke/MethodHandle" ∧ (y_M_thrown).cls ≠ "java/lang/invoke/VarHandle" ∧ (parseMethodDescriptor (y_M_thrown).desc).map (fun d => d.parameters.length) = some 0) := ⟨GW_at 771 (by decide +kernel) (by decide +kernel), GW_at 51 (by decide +kernel) (by decide +kernel), by decide +kernel⟩
theorem lm_L_57 : gLV "FramedLineLaw" "FramedLineModel" 57 y_M_thrown b_M_thrown 1 (some .int) 0 := ⟨mc_M_thrown, GW_at 768 (by decide +kernel) (by decide +kernel), GW_at 769 (by decide +kernel) (by decide +kernel), GW_at 770 (by decide +kernel) (by decide +kernel)⟩
theorem mc_M_disturb : Cond.code y_M_disturb b_M_disturb 5 (some .int) ∈ GW ∧ Cond.initialized (y_M_disturb).cls ∈ GW ∧ ((y_M_disturb).cls ≠ "java/lang/invoke/MethodHandle" ∧ (y_M_disturb).cls ≠ "java/lang/invoke/VarHandle" ∧ (parseMethodDescriptor (y_M_disturb).desc).map (fun d => d.parameters.length) = some 3) := ⟨GW_at 785 (by decide +kernel) (by decide +kernel), GW_at 51 (by decide +kernel) (by decide +kernel), by decide +kernel⟩
theorem lm_L_63 : gLV "FramedLineLaw" "FramedLineModel" 63 y_M_disturb b_M_disturb 5 (some .int) 3 := ⟨mc_M_disturb, GW_at 782 (by decide +kernel) (by decide +kernel), GW_at 783 (by decide +kernel) (by decide +kernel), GW_at 784 (by decide +kernel) (by decide +kernel)⟩
theorem mc_M_slip : Cond.code y_M_slip b_M_slip 3 (some .boolean) ∈ GW ∧ Cond.initialized (y_M_slip).cls ∈ GW ∧ ((y_M_slip).cls ≠ "java/lang/invoke/MethodHandle" ∧ (y_M_slip).cls ≠ "java/lang/invoke/VarHandle" ∧ (parseMethodDescriptor (y_M_slip).desc).map (fun d => d.parameters.length) = some 1) := ⟨GW_at 793 (by decide +kernel) (by decide +kernel), GW_at 51 (by decide +kernel) (by decide +kernel), by decide +kernel⟩
theorem lm_L_67 : gLV "FramedLineLaw" "FramedLineModel" 67 y_M_slip b_M_slip 3 (some .boolean) 1 := ⟨mc_M_slip, GW_at 790 (by decide +kernel) (by decide +kernel), GW_at 791 (by decide +kernel) (by decide +kernel), GW_at 792 (by decide +kernel) (by decide +kernel)⟩
theorem mc_M_pass : Cond.code y_M_pass b_M_pass 5 (some .int) ∈ GW ∧ Cond.initialized (y_M_pass).cls ∈ GW ∧ ((y_M_pass).cls ≠ "java/lang/invoke/MethodHandle" ∧ (y_M_pass).cls ≠ "java/lang/invoke/VarHandle" ∧ (parseMethodDescriptor (y_M_pass).desc).map (fun d => d.parameters.length) = some 1) := ⟨GW_at 797 (by decide +kernel) (by decide +kernel), GW_at 51 (by decide +kernel) (by decide +kernel), by decide +kernel⟩
theorem lm_L_70 : gLV "FramedLineLaw" "FramedLineModel" 70 y_M_pass b_M_pass 5 (some .int) 1 := ⟨mc_M_pass, GW_at 794 (by decide +kernel) (by decide +kernel), GW_at 795 (by decide +kernel) (by decide +kernel), GW_at 796 (by decide +kernel) (by decide +kernel)⟩
theorem mc_M_symbol : Cond.code y_M_symbol b_M_symbol 2 (some .int) ∈ GW ∧ Cond.initialized (y_M_symbol).cls ∈ GW ∧ ((y_M_symbol).cls ≠ "java/lang/invoke/MethodHandle" ∧ (y_M_symbol).cls ≠ "java/lang/invoke/VarHandle" ∧ (parseMethodDescriptor (y_M_symbol).desc).map (fun d => d.parameters.length) = some 1) := ⟨GW_at 868 (by decide +kernel) (by decide +kernel), GW_at 51 (by decide +kernel) (by decide +kernel), by decide +kernel⟩
theorem lm_L_73 : gLV "FramedLineLaw" "FramedLineModel" 73 y_M_symbol b_M_symbol 2 (some .int) 1 := ⟨mc_M_symbol, GW_at 865 (by decide +kernel) (by decide +kernel), GW_at 866 (by decide +kernel) (by decide +kernel), GW_at 867 (by decide +kernel) (by decide +kernel)⟩
theorem mc_M_aligned : Cond.code y_M_aligned b_M_aligned 2 (some .boolean) ∈ GW ∧ Cond.initialized (y_M_aligned).cls ∈ GW ∧ ((y_M_aligned).cls ≠ "java/lang/invoke/MethodHandle" ∧ (y_M_aligned).cls ≠ "java/lang/invoke/VarHandle" ∧ (parseMethodDescriptor (y_M_aligned).desc).map (fun d => d.parameters.length) = some 1) := ⟨GW_at 872 (by decide +kernel) (by decide +kernel), GW_at 51 (by decide +kernel) (by decide +kernel), by decide +kernel⟩
theorem lm_L_76 : gLV "FramedLineLaw" "FramedLineModel" 76 y_M_aligned b_M_aligned 2 (some .boolean) 1 := ⟨mc_M_aligned, GW_at 869 (by decide +kernel) (by decide +kernel), GW_at 870 (by decide +kernel) (by decide +kernel), GW_at 871 (by decide +kernel) (by decide +kernel)⟩
theorem mc_M_frame : Cond.code y_M_frame b_M_frame 2 (some .int) ∈ GW ∧ Cond.initialized (y_M_frame).cls ∈ GW ∧ ((y_M_frame).cls ≠ "java/lang/invoke/MethodHandle" ∧ (y_M_frame).cls ≠ "java/lang/invoke/VarHandle" ∧ (parseMethodDescriptor (y_M_frame).desc).map (fun d => d.parameters.length) = some 1) := ⟨GW_at 876 (by decide +kernel) (by decide +kernel), GW_at 51 (by decide +kernel) (by decide +kernel), by decide +kernel⟩
theorem lm_L_79 : gLV "FramedLineLaw" "FramedLineModel" 79 y_M_frame b_M_frame 2 (some .int) 1 := ⟨mc_M_frame, GW_at 873 (by decide +kernel) (by decide +kernel), GW_at 874 (by decide +kernel) (by decide +kernel), GW_at 875 (by decide +kernel) (by decide +kernel)⟩
theorem mc_M_slot : Cond.code y_M_slot b_M_slot 3 (some .int) ∈ GW ∧ Cond.initialized (y_M_slot).cls ∈ GW ∧ ((y_M_slot).cls ≠ "java/lang/invoke/MethodHandle" ∧ (y_M_slot).cls ≠ "java/lang/invoke/VarHandle" ∧ (parseMethodDescriptor (y_M_slot).desc).map (fun d => d.parameters.length) = some 2) := ⟨GW_at 880 (by decide +kernel) (by decide +kernel), GW_at 51 (by decide +kernel) (by decide +kernel), by decide +kernel⟩
theorem lm_L_83 : gLV "FramedLineLaw" "FramedLineModel" 83 y_M_slot b_M_slot 3 (some .int) 2 := ⟨mc_M_slot, GW_at 877 (by decide +kernel) (by decide +kernel), GW_at 878 (by decide +kernel) (by decide +kernel), GW_at 879 (by decide +kernel) (by decide +kernel)⟩
theorem mc_M_alarm : Cond.code y_M_alarm b_M_alarm 2 (some .boolean) ∈ GW ∧ Cond.initialized (y_M_alarm).cls ∈ GW ∧ ((y_M_alarm).cls ≠ "java/lang/invoke/MethodHandle" ∧ (y_M_alarm).cls ≠ "java/lang/invoke/VarHandle" ∧ (parseMethodDescriptor (y_M_alarm).desc).map (fun d => d.parameters.length) = some 1) := ⟨GW_at 884 (by decide +kernel) (by decide +kernel), GW_at 51 (by decide +kernel) (by decide +kernel), by decide +kernel⟩
theorem lm_L_86 : gLV "FramedLineLaw" "FramedLineModel" 86 y_M_alarm b_M_alarm 2 (some .boolean) 1 := ⟨mc_M_alarm, GW_at 881 (by decide +kernel) (by decide +kernel), GW_at 882 (by decide +kernel) (by decide +kernel), GW_at 883 (by decide +kernel) (by decide +kernel)⟩
theorem mc_M_count : Cond.code y_M_count b_M_count 3 (some .int) ∈ GW ∧ Cond.initialized (y_M_count).cls ∈ GW ∧ ((y_M_count).cls ≠ "java/lang/invoke/MethodHandle" ∧ (y_M_count).cls ≠ "java/lang/invoke/VarHandle" ∧ (parseMethodDescriptor (y_M_count).desc).map (fun d => d.parameters.length) = some 2) := ⟨GW_at 888 (by decide +kernel) (by decide +kernel), GW_at 51 (by decide +kernel) (by decide +kernel), by decide +kernel⟩
theorem lm_L_89 : gLV "FramedLineLaw" "FramedLineModel" 89 y_M_count b_M_count 3 (some .int) 2 := ⟨mc_M_count, GW_at 885 (by decide +kernel) (by decide +kernel), GW_at 886 (by decide +kernel) (by decide +kernel), GW_at 887 (by decide +kernel) (by decide +kernel)⟩
theorem lkj_L_8 : Cond.classLink "FramedLineLaw" 8 "FramedLine" ∈ GW := GW_at 57 (by decide +kernel) (by decide +kernel)
theorem lmj_L_47 : gLI "FramedLineLaw" 47 y_F_init b_F_init := ⟨⟨GW_at 61 (by decide +kernel) (by decide +kernel), GW_at 41 (by decide +kernel) (by decide +kernel), by decide +kernel⟩, GW_at 59 (by decide +kernel) (by decide +kernel), GW_at 60 (by decide +kernel) (by decide +kernel), rfl⟩
theorem lkj_L_48 : Cond.classLink "FramedLineLaw" 48 "FramedLineModel" ∈ GW := GW_at 628 (by decide +kernel) (by decide +kernel)
theorem lmj_L_50 : gLI "FramedLineLaw" 50 y_M_init b_M_init := ⟨⟨GW_at 632 (by decide +kernel) (by decide +kernel), GW_at 51 (by decide +kernel) (by decide +kernel), by decide +kernel⟩, GW_at 630 (by decide +kernel) (by decide +kernel), GW_at 631 (by decide +kernel) (by decide +kernel), rfl⟩
theorem la_long : Cond.arrayClass (newarray.typeOf .long) ∈ GW := GW_at 889 (by decide +kernel) (by decide +kernel)
