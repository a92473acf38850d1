theorem dX11_part_149 : decode cX11_part 149 = .ok (.aload_n 0, 1) := by decide +kernel
theorem dX11_part_150 : decode cX11_part 150 = .ok (.getfield 189, 3) := by decide +kernel
theorem dX11_part_153 : decode cX11_part 153 = .ok (.if_icmp .ne 7, 3) := by decide +kernel
theorem dX11_part_156 : decode cX11_part 156 = .ok (.iconst 0, 1) := by decide +kernel
theorem dX11_part_157 : decode cX11_part 157 = .ok (.goto 5, 3) := by decide +kernel
theorem dX11_part_160 : decode cX11_part 160 = .ok (.iload 5, 2) := by decide +kernel
theorem dX11_part_162 : decode cX11_part 162 = .ok (.istore 10, 2) := by decide +kernel
theorem dX11_part_164 : decode cX11_part 164 = .ok (.aload_n 0, 1) := by decide +kernel
theorem dX11_part_165 : decode cX11_part 165 = .ok (.getfield 74, 3) := by decide +kernel
theorem dX11_part_168 : decode cX11_part 168 = .ok (.iload 9, 2) := by decide +kernel
theorem dX11_part_170 : decode cX11_part 170 = .ok (.iconst 1, 1) := by decide +kernel
theorem dX11_part_171 : decode cX11_part 171 = .ok (.iadd, 1) := by decide +kernel
theorem dX11_part_172 : decode cX11_part 172 = .ok (.laload, 1) := by decide +kernel
theorem dX11_part_173 : decode cX11_part 173 = .ok (.lstore 11, 2) := by decide +kernel
theorem dX11_part_175 : decode cX11_part 175 = .ok (.aload_n 0, 1) := by decide +kernel
theorem dX11_part_176 : decode cX11_part 176 = .ok (.getfield 78, 3) := by decide +kernel
theorem dX11_part_179 : decode cX11_part 179 = .ok (.iload 9, 2) := by decide +kernel
theorem dX11_part_181 : decode cX11_part 181 = .ok (.iconst 1, 1) := by decide +kernel
theorem dX11_part_182 : decode cX11_part 182 = .ok (.iadd, 1) := by decide +kernel
theorem dX11_part_183 : decode cX11_part 183 = .ok (.laload, 1) := by decide +kernel
theorem dX11_part_184 : decode cX11_part 184 = .ok (.lstore 13, 2) := by decide +kernel
theorem dX11_part_186 : decode cX11_part 186 = .ok (.aload_n 0, 1) := by decide +kernel
theorem dX11_part_187 : decode cX11_part 187 = .ok (.getfield 74, 3) := by decide +kernel
theorem dX11_part_190 : decode cX11_part 190 = .ok (.iload 9, 2) := by decide +kernel
theorem dX11_part_192 : decode cX11_part 192 = .ok (.aload_n 0, 1) := by decide +kernel
theorem dX11_part_193 : decode cX11_part 193 = .ok (.iload_n 1, 1) := by decide +kernel
theorem dX11_part_194 : decode cX11_part 194 = .ok (.iload_n 2, 1) := by decide +kernel
theorem dX11_part_195 : decode cX11_part 195 = .ok (.iload 9, 2) := by decide +kernel
theorem dX11_part_197 : decode cX11_part 197 = .ok (.imul, 1) := by decide +kernel
theorem dX11_part_198 : decode cX11_part 198 = .ok (.iload_n 2, 1) := by decide +kernel
theorem dX11_part_199 : decode cX11_part 199 = .ok (.iload 9, 2) := by decide +kernel
theorem dX11_part_201 : decode cX11_part 201 = .ok (.imul, 1) := by decide +kernel
theorem dX11_part_202 : decode cX11_part 202 = .ok (.iload_n 2, 1) := by decide +kernel
theorem dX11_part_203 : decode cX11_part 203 = .ok (.iadd, 1) := by decide +kernel
theorem dX11_part_204 : decode cX11_part 204 = .ok (.iload 7, 2) := by decide +kernel
theorem dX11_part_206 : decode cX11_part 206 = .ok (.invokevirtual 192, 3) := by decide +kernel
theorem dX11_part_209 : decode cX11_part 209 = .ok (.i2l, 1) := by decide +kernel
theorem dX11_part_210 : decode cX11_part 210 = .ok (.lload 11, 2) := by decide +kernel
theorem dX11_part_212 : decode cX11_part 212 = .ok (.lload 13, 2) := by decide +kernel
theorem dX11_part_214 : decode cX11_part 214 = .ok (.iload 10, 2) := by decide +kernel
theorem dX11_part_216 : decode cX11_part 216 = .ok (.i2l, 1) := by decide +kernel
theorem dX11_part_217 : decode cX11_part 217 = .ok (.ladd, 1) := by decide +kernel
theorem dX11_part_218 : decode cX11_part 218 = .ok (.lcmp, 1) := by decide +kernel
theorem dX11_part_219 : decode cX11_part 219 = .ok (.ifCond .gt 8, 3) := by decide +kernel
theorem dX11_part_222 : decode cX11_part 222 = .ok (.lload 11, 2) := by decide +kernel
theorem dX11_part_224 : decode cX11_part 224 = .ok (.goto 9, 3) := by decide +kernel
theorem dX11_part_227 : decode cX11_part 227 = .ok (.lload 13, 2) := by decide +kernel
theorem dX11_part_229 : decode cX11_part 229 = .ok (.iload 10, 2) := by decide +kernel
theorem dX11_part_231 : decode cX11_part 231 = .ok (.i2l, 1) := by decide +kernel
theorem dX11_part_232 : decode cX11_part 232 = .ok (.ladd, 1) := by decide +kernel
theorem dX11_part_233 : decode cX11_part 233 = .ok (.ladd, 1) := by decide +kernel
theorem dX11_part_234 : decode cX11_part 234 = .ok (.lastore, 1) := by decide +kernel
theorem dX11_part_235 : decode cX11_part 235 = .ok (.aload_n 0, 1) := by decide +kernel
theorem dX11_part_236 : decode cX11_part 236 = .ok (.getfield 78, 3) := by decide +kernel
theorem dX11_part_239 : decode cX11_part 239 = .ok (.iload 9, 2) := by decide +kernel
theorem dX11_part_241 : decode cX11_part 241 = .ok (.aload_n 0, 1) := by decide +kernel
theorem dX11_part_242 : decode cX11_part 242 = .ok (.iload_n 1, 1) := by decide +kernel
theorem dX11_part_243 : decode cX11_part 243 = .ok (.iload_n 2, 1) := by decide +kernel
theorem dX11_part_244 : decode cX11_part 244 = .ok (.iload 9, 2) := by decide +kernel
theorem dX11_part_246 : decode cX11_part 246 = .ok (.imul, 1) := by decide +kernel
theorem dX11_part_247 : decode cX11_part 247 = .ok (.iload_n 2, 1) := by decide +kernel
theorem dX11_part_248 : decode cX11_part 248 = .ok (.iload 9, 2) := by decide +kernel
theorem dX11_part_250 : decode cX11_part 250 = .ok (.imul, 1) := by decide +kernel
theorem dX11_part_251 : decode cX11_part 251 = .ok (.iload_n 2, 1) := by decide +kernel
theorem dX11_part_252 : decode cX11_part 252 = .ok (.iadd, 1) := by decide +kernel
theorem dX11_part_253 : decode cX11_part 253 = .ok (.iload 8, 2) := by decide +kernel
theorem dX11_part_255 : decode cX11_part 255 = .ok (.invokevirtual 192, 3) := by decide +kernel
theorem dX11_part_258 : decode cX11_part 258 = .ok (.i2l, 1) := by decide +kernel
theorem dX11_part_259 : decode cX11_part 259 = .ok (.lload 11, 2) := by decide +kernel
theorem dX11_part_261 : decode cX11_part 261 = .ok (.iload 10, 2) := by decide +kernel
theorem dX11_part_263 : decode cX11_part 263 = .ok (.i2l, 1) := by decide +kernel
theorem dX11_part_264 : decode cX11_part 264 = .ok (.ladd, 1) := by decide +kernel
theorem dX11_part_265 : decode cX11_part 265 = .ok (.lload 13, 2) := by decide +kernel
theorem dX11_part_267 : decode cX11_part 267 = .ok (.lcmp, 1) := by decide +kernel
theorem dX11_part_268 : decode cX11_part 268 = .ok (.ifCond .gt 12, 3) := by decide +kernel
theorem dX11_part_271 : decode cX11_part 271 = .ok (.lload 11, 2) := by decide +kernel
theorem dX11_part_273 : decode cX11_part 273 = .ok (.iload 10, 2) := by decide +kernel
theorem dX11_part_275 : decode cX11_part 275 = .ok (.i2l, 1) := by decide +kernel
theorem dX11_part_276 : decode cX11_part 276 = .ok (.ladd, 1) := by decide +kernel
theorem dX11_part_277 : decode cX11_part 277 = .ok (.goto 5, 3) := by decide +kernel
theorem dX11_part_280 : decode cX11_part 280 = .ok (.lload 13, 2) := by decide +kernel
theorem dX11_part_282 : decode cX11_part 282 = .ok (.ladd, 1) := by decide +kernel
theorem dX11_part_283 : decode cX11_part 283 = .ok (.lastore, 1) := by decide +kernel
theorem dX11_part_284 : decode cX11_part 284 = .ok (.iinc 9 (-1), 3) := by decide +kernel
theorem dX11_part_287 : decode cX11_part 287 = .ok (.goto (-147), 3) := by decide +kernel
theorem dX11_part_290 : decode cX11_part 290 = .ok (.aload_n 0, 1) := by decide +kernel
theorem dX11_part_291 : decode cX11_part 291 = .ok (.aload_n 0, 1) := by decide +kernel
theorem dX11_part_292 : decode cX11_part 292 = .ok (.getfield 74, 3) := by decide +kernel
theorem dX11_part_295 : decode cX11_part 295 = .ok (.iconst 0, 1) := by decide +kernel
theorem dX11_part_296 : decode cX11_part 296 = .ok (.laload, 1) := by decide +kernel
theorem dX11_part_297 : decode cX11_part 297 = .ok (.aload_n 0, 1) := by decide +kernel
theorem dX11_part_298 : decode cX11_part 298 = .ok (.getfield 78, 3) := by decide +kernel
theorem dX11_part_301 : decode cX11_part 301 = .ok (.iconst 0, 1) := by decide +kernel
theorem dX11_part_302 : decode cX11_part 302 = .ok (.laload, 1) := by decide +kernel
theorem dX11_part_303 : decode cX11_part 303 = .ok (.lcmp, 1) := by decide +kernel
theorem dX11_part_304 : decode cX11_part 304 = .ok (.ifCond .gt 12, 3) := by decide +kernel
theorem dX11_part_307 : decode cX11_part 307 = .ok (.aload_n 0, 1) := by decide +kernel
theorem dX11_part_308 : decode cX11_part 308 = .ok (.getfield 74, 3) := by decide +kernel
theorem dX11_part_311 : decode cX11_part 311 = .ok (.iconst 0, 1) := by decide +kernel
theorem dX11_part_312 : decode cX11_part 312 = .ok (.laload, 1) := by decide +kernel
theorem dX11_part_313 : decode cX11_part 313 = .ok (.goto 9, 3) := by decide +kernel
theorem dX11_part_316 : decode cX11_part 316 = .ok (.aload_n 0, 1) := by decide +kernel
theorem dX11_part_317 : decode cX11_part 317 = .ok (.getfield 78, 3) := by decide +kernel
theorem dX11_part_320 : decode cX11_part 320 = .ok (.iconst 0, 1) := by decide +kernel
theorem dX11_part_321 : decode cX11_part 321 = .ok (.laload, 1) := by decide +kernel
theorem dX11_part_322 : decode cX11_part 322 = .ok (.putfield 195, 3) := by decide +kernel
theorem dX11_part_325 : decode cX11_part 325 = .ok (.iconst 0, 1) := by decide +kernel
theorem dX11_part_326 : decode cX11_part 326 = .ok (.istore 9, 2) := by decide +kernel
theorem dX11_part_328 : decode cX11_part 328 = .ok (.iconst 0, 1) := by decide +kernel
theorem dX11_part_329 : decode cX11_part 329 = .ok (.istore 10, 2) := by decide +kernel
theorem dX11_part_331 : decode cX11_part 331 = .ok (.iload 10, 2) := by decide +kernel
theorem dX11_part_333 : decode cX11_part 333 = .ok (.aload_n 0, 1) := by decide +kernel
theorem dX11_part_334 : decode cX11_part 334 = .ok (.getfield 189, 3) := by decide +kernel
theorem dX11_part_337 : decode cX11_part 337 = .ok (.if_icmp .ge 125, 3) := by decide +kernel
theorem dX11_part_340 : decode cX11_part 340 = .ok (.iload 10, 2) := by decide +kernel
theorem dX11_part_342 : decode cX11_part 342 = .ok (.ifCond .ne 8, 3) := by decide +kernel
theorem dX11_part_345 : decode cX11_part 345 = .ok (.bipush (-9), 2) := by decide +kernel
theorem dX11_part_347 : decode cX11_part 347 = .ok (.goto 12, 3) := by decide +kernel
theorem dX11_part_350 : decode cX11_part 350 = .ok (.aload_n 0, 1) := by decide +kernel
theorem dX11_part_351 : decode cX11_part 351 = .ok (.getfield 71, 3) := by decide +kernel
theorem dX11_part_354 : decode cX11_part 354 = .ok (.iload 10, 2) := by decide +kernel
theorem dX11_part_356 : decode cX11_part 356 = .ok (.iconst 1, 1) := by decide +kernel
theorem dX11_part_357 : decode cX11_part 357 = .ok (.isub, 1) := by decide +kernel
theorem dX11_part_358 : decode cX11_part 358 = .ok (.iaload, 1) := by decide +kernel
theorem dX11_part_359 : decode cX11_part 359 = .ok (.istore 11, 2) := by decide +kernel
theorem dX11_part_361 : decode cX11_part 361 = .ok (.aload_n 0, 1) := by decide +kernel
theorem dX11_part_362 : decode cX11_part 362 = .ok (.getfield 74, 3) := by decide +kernel
theorem dX11_part_365 : decode cX11_part 365 = .ok (.iload 10, 2) := by decide +kernel
theorem dX11_part_367 : decode cX11_part 367 = .ok (.laload, 1) := by decide +kernel
theorem dX11_part_368 : decode cX11_part 368 = .ok (.iload 11, 2) := by decide +kernel
theorem dX11_part_370 : decode cX11_part 370 = .ok (.iload 4, 2) := by decide +kernel
theorem dX11_part_372 : decode cX11_part 372 = .ok (.if_icmp .ne 8, 3) := by decide +kernel
theorem dX11_part_375 : decode cX11_part 375 = .ok (.iload 5, 2) := by decide +kernel
theorem dX11_part_377 : decode cX11_part 377 = .ok (.goto 4, 3) := by decide +kernel
theorem dX11_part_380 : decode cX11_part 380 = .ok (.iconst 0, 1) := by decide +kernel
theorem dX11_part_381 : decode cX11_part 381 = .ok (.i2l, 1) := by decide +kernel
theorem dX11_part_382 : decode cX11_part 382 = .ok (.ladd, 1) := by decide +kernel
theorem dX11_part_383 : decode cX11_part 383 = .ok (.lstore 12, 2) := by decide +kernel
theorem dX11_part_385 : decode cX11_part 385 = .ok (.aload_n 0, 1) := by decide +kernel
theorem dX11_part_386 : decode cX11_part 386 = .ok (.getfield 78, 3) := by decide +kernel
theorem dX11_part_389 : decode cX11_part 389 = .ok (.iload 10, 2) := by decide +kernel
theorem dX11_part_391 : decode cX11_part 391 = .ok (.laload, 1) := by decide +kernel
theorem dX11_part_392 : decode cX11_part 392 = .ok (.iload 11, 2) := by decide +kernel
theorem dX11_part_394 : decode cX11_part 394 = .ok (.iload_n 3, 1) := by decide +kernel
theorem dX11_part_395 : decode cX11_part 395 = .ok (.if_icmp .ne 8, 3) := by decide +kernel
theorem dX11_part_398 : decode cX11_part 398 = .ok (.iload 5, 2) := by decide +kernel
theorem dX11_part_400 : decode cX11_part 400 = .ok (.goto 4, 3) := by decide +kernel
theorem dX11_part_403 : decode cX11_part 403 = .ok (.iconst 0, 1) := by decide +kernel
theorem dX11_part_404 : decode cX11_part 404 = .ok (.i2l, 1) := by decide +kernel
theorem dX11_part_405 : decode cX11_part 405 = .ok (.ladd, 1) := by decide +kernel
theorem dX11_part_406 : decode cX11_part 406 = .ok (.lstore 14, 2) := by decide +kernel
theorem dX11_part_408 : decode cX11_part 408 = .ok (.aload_n 0, 1) := by decide +kernel
theorem dX11_part_409 : decode cX11_part 409 = .ok (.getfield 71, 3) := by decide +kernel
theorem dX11_part_412 : decode cX11_part 412 = .ok (.iload 10, 2) := by decide +kernel
theorem dX11_part_414 : decode cX11_part 414 = .ok (.lload 12, 2) := by decide +kernel
theorem dX11_part_416 : decode cX11_part 416 = .ok (.lload 14, 2) := by decide +kernel
theorem dX11_part_418 : decode cX11_part 418 = .ok (.lcmp, 1) := by decide +kernel
theorem dX11_part_419 : decode cX11_part 419 = .ok (.ifCond .gt 7, 3) := by decide +kernel
theorem dX11_part_422 : decode cX11_part 422 = .ok (.iload_n 3, 1) := by decide +kernel
theorem dX11_part_423 : decode cX11_part 423 = .ok (.goto 5, 3) := by decide +kernel
theorem dX11_part_426 : decode cX11_part 426 = .ok (.iload 4, 2) := by decide +kernel
theorem dX11_part_428 : decode cX11_part 428 = .ok (.iastore, 1) := by decide +kernel
theorem dX11_part_429 : decode cX11_part 429 = .ok (.iload 9, 2) := by decide +kernel
theorem dX11_part_431 : decode cX11_part 431 = .ok (.iload 10, 2) := by decide +kernel
theorem dX11_part_433 : decode cX11_part 433 = .ok (.ifCond .le 19, 3) := by decide +kernel
theorem dX11_part_436 : decode cX11_part 436 = .ok (.aload_n 0, 1) := by decide +kernel
theorem dX11_part_437 : decode cX11_part 437 = .ok (.getfield 71, 3) := by decide +kernel
theorem dX11_part_440 : decode cX11_part 440 = .ok (.iload 10, 2) := by decide +kernel
theorem dX11_part_442 : decode cX11_part 442 = .ok (.iaload, 1) := by decide +kernel
theorem dX11_part_443 : decode cX11_part 443 = .ok (.iload 11, 2) := by decide +kernel
theorem dX11_part_445 : decode cX11_part 445 = .ok (.if_icmp .eq 7, 3) := by decide +kernel
theorem dX11_part_448 : decode cX11_part 448 = .ok (.iconst 1, 1) := by decide +kernel
theorem dX11_part_449 : decode cX11_part 449 = .ok (.goto 4, 3) := by decide +kernel
theorem dX11_part_452 : decode cX11_part 452 = .ok (.iconst 0, 1) := by decide +kernel
theorem dX11_part_453 : decode cX11_part 453 = .ok (.iadd, 1) := by decide +kernel
theorem dX11_part_454 : decode cX11_part 454 = .ok (.istore 9, 2) := by decide +kernel
theorem dX11_part_456 : decode cX11_part 456 = .ok (.iinc 10 1, 3) := by decide +kernel
theorem dX11_part_459 : decode cX11_part 459 = .ok (.goto (-128), 3) := by decide +kernel
theorem dX11_part_462 : decode cX11_part 462 = .ok (.iload 9, 2) := by decide +kernel
theorem dX11_part_464 : decode cX11_part 464 = .ok (.ireturn, 1) := by decide +kernel
theorem dX11_window_0 : decode cX11_window 0 = .ok (.iload_n 1, 1) := by decide +kernel
theorem dX11_window_1 : decode cX11_window 1 = .ok (.iconst 0, 1) := by decide +kernel
theorem dX11_window_2 : decode cX11_window 2 = .ok (.aload_n 0, 1) := by decide +kernel
theorem dX11_window_3 : decode cX11_window 3 = .ok (.getfield 189, 3) := by decide +kernel
theorem dX11_window_6 : decode cX11_window 6 = .ok (.iconst 1, 1) := by decide +kernel
theorem dX11_window_7 : decode cX11_window 7 = .ok (.isub, 1) := by decide +kernel
theorem dX11_window_8 : decode cX11_window 8 = .ok (.invokestatic 91, 3) := by decide +kernel
theorem dX11_window_11 : decode cX11_window 11 = .ok (.ifCond .eq 12, 3) := by decide +kernel
theorem dX11_window_14 : decode cX11_window 14 = .ok (.aload_n 0, 1) := by decide +kernel
theorem dX11_window_15 : decode cX11_window 15 = .ok (.getfield 71, 3) := by decide +kernel
theorem dX11_window_18 : decode cX11_window 18 = .ok (.iload_n 1, 1) := by decide +kernel
theorem dX11_window_19 : decode cX11_window 19 = .ok (.iaload, 1) := by decide +kernel
theorem dX11_window_20 : decode cX11_window 20 = .ok (.goto 5, 3) := by decide +kernel
theorem dX11_window_23 : decode cX11_window 23 = .ok (.bipush (-9), 2) := by decide +kernel
theorem dX11_window_25 : decode cX11_window 25 = .ok (.ireturn, 1) := by decide +kernel
theorem dX11_tree_0 : decode cX11_tree 0 = .ok (.aload_n 0, 1) := by decide +kernel
theorem dX11_tree_1 : decode cX11_tree 1 = .ok (.invokevirtual 155, 3) := by decide +kernel
theorem dX11_tree_4 : decode cX11_tree 4 = .ok (.aload_n 0, 1) := by decide +kernel
theorem dX11_tree_5 : decode cX11_tree 5 = .ok (.iconst 0, 1) := by decide +kernel
theorem dX11_tree_6 : decode cX11_tree 6 = .ok (.putfield 199, 3) := by decide +kernel
theorem dX11_tree_9 : decode cX11_tree 9 = .ok (.iconst 0, 1) := by decide +kernel
theorem dX11_tree_10 : decode cX11_tree 10 = .ok (.istore_n 1, 1) := by decide +kernel
theorem dX11_tree_11 : decode cX11_tree 11 = .ok (.iconst 0, 1) := by decide +kernel
theorem dX11_tree_12 : decode cX11_tree 12 = .ok (.istore_n 2, 1) := by decide +kernel
theorem dX11_tree_13 : decode cX11_tree 13 = .ok (.iload_n 2, 1) := by decide +kernel
theorem dX11_tree_14 : decode cX11_tree 14 = .ok (.aload_n 0, 1) := by decide +kernel
theorem dX11_tree_15 : decode cX11_tree 15 = .ok (.getfield 115, 3) := by decide +kernel
theorem dX11_tree_18 : decode cX11_tree 18 = .ok (.if_icmp .ge 48, 3) := by decide +kernel
theorem dX11_tree_21 : decode cX11_tree 21 = .ok (.aload_n 0, 1) := by decide +kernel
theorem dX11_tree_22 : decode cX11_tree 22 = .ok (.getfield 84, 3) := by decide +kernel
theorem dX11_tree_25 : decode cX11_tree 25 = .ok (.iload_n 2, 1) := by decide +kernel
theorem dX11_tree_26 : decode cX11_tree 26 = .ok (.aload_n 0, 1) := by decide +kernel
theorem dX11_tree_27 : decode cX11_tree 27 = .ok (.getfield 31, 3) := by decide +kernel
theorem dX11_tree_30 : decode cX11_tree 30 = .ok (.iload_n 2, 1) := by decide +kernel
theorem dX11_tree_31 : decode cX11_tree 31 = .ok (.baload, 1) := by decide +kernel
theorem dX11_tree_32 : decode cX11_tree 32 = .ok (.ifCond .eq 7, 3) := by decide +kernel
theorem dX11_tree_35 : decode cX11_tree 35 = .ok (.iconst 0, 1) := by decide +kernel
theorem dX11_tree_36 : decode cX11_tree 36 = .ok (.goto 6, 3) := by decide +kernel
theorem dX11_tree_39 : decode cX11_tree 39 = .ok (.iconst 1, 1) := by decide +kernel
theorem dX11_tree_40 : decode cX11_tree 40 = .ok (.iload_n 2, 1) := by decide +kernel
theorem dX11_tree_41 : decode cX11_tree 41 = .ok (.ishl, 1) := by decide +kernel
theorem dX11_tree_42 : decode cX11_tree 42 = .ok (.iastore, 1) := by decide +kernel
theorem dX11_tree_43 : decode cX11_tree 43 = .ok (.iload_n 1, 1) := by decide +kernel
theorem dX11_tree_44 : decode cX11_tree 44 = .ok (.aload_n 0, 1) := by decide +kernel
theorem dX11_tree_45 : decode cX11_tree 45 = .ok (.getfield 31, 3) := by decide +kernel
theorem dX11_tree_48 : decode cX11_tree 48 = .ok (.iload_n 2, 1) := by decide +kernel
theorem dX11_tree_49 : decode cX11_tree 49 = .ok (.baload, 1) := by decide +kernel
theorem dX11_tree_50 : decode cX11_tree 50 = .ok (.ifCond .eq 7, 3) := by decide +kernel
theorem dX11_tree_53 : decode cX11_tree 53 = .ok (.iconst 0, 1) := by decide +kernel
theorem dX11_tree_54 : decode cX11_tree 54 = .ok (.goto 4, 3) := by decide +kernel
theorem dX11_tree_57 : decode cX11_tree 57 = .ok (.iconst 1, 1) := by decide +kernel
theorem dX11_tree_58 : decode cX11_tree 58 = .ok (.iadd, 1) := by decide +kernel
theorem dX11_tree_59 : decode cX11_tree 59 = .ok (.istore_n 1, 1) := by decide +kernel
theorem dX11_tree_60 : decode cX11_tree 60 = .ok (.iinc 2 1, 3) := by decide +kernel
theorem dX11_tree_63 : decode cX11_tree 63 = .ok (.goto (-50), 3) := by decide +kernel
theorem dX11_tree_66 : decode cX11_tree 66 = .ok (.iconst 1, 1) := by decide +kernel
theorem dX11_tree_67 : decode cX11_tree 67 = .ok (.istore_n 2, 1) := by decide +kernel
theorem dX11_tree_68 : decode cX11_tree 68 = .ok (.iload_n 2, 1) := by decide +kernel
theorem dX11_tree_69 : decode cX11_tree 69 = .ok (.iload_n 1, 1) := by decide +kernel
theorem dX11_tree_70 : decode cX11_tree 70 = .ok (.if_icmp .ge 13, 3) := by decide +kernel
theorem dX11_tree_73 : decode cX11_tree 73 = .ok (.aload_n 0, 1) := by decide +kernel
theorem dX11_tree_74 : decode cX11_tree 74 = .ok (.invokevirtual 202, 3) := by decide +kernel
theorem dX11_tree_77 : decode cX11_tree 77 = .ok (.iinc 2 1, 3) := by decide +kernel
theorem dX11_tree_80 : decode cX11_tree 80 = .ok (.goto (-12), 3) := by decide +kernel
theorem dX11_tree_83 : decode cX11_tree 83 = .ok (.aload_n 0, 1) := by decide +kernel
theorem dX11_tree_84 : decode cX11_tree 84 = .ok (.getfield 199, 3) := by decide +kernel
theorem dX11_tree_87 : decode cX11_tree 87 = .ok (.ireturn, 1) := by decide +kernel
theorem dX11_joinTwo_0 : decode cX11_joinTwo 0 = .ok (.bipush (-9), 2) := by decide +kernel
theorem dX11_joinTwo_2 : decode cX11_joinTwo 2 = .ok (.istore_n 1, 1) := by decide +kernel
theorem dX11_joinTwo_3 : decode cX11_joinTwo 3 = .ok (.bipush (-9), 2) := by decide +kernel
theorem dX11_joinTwo_5 : decode cX11_joinTwo 5 = .ok (.istore_n 2, 1) := by decide +kernel
theorem dX11_joinTwo_6 : decode cX11_joinTwo 6 = .ok (.iconst 0, 1) := by decide +kernel
theorem dX11_joinTwo_7 : decode cX11_joinTwo 7 = .ok (.istore_n 3, 1) := by decide +kernel
theorem dX11_joinTwo_8 : decode cX11_joinTwo 8 = .ok (.iconst 0, 1) := by decide +kernel
theorem dX11_joinTwo_9 : decode cX11_joinTwo 9 = .ok (.istore 4, 2) := by decide +kernel
theorem dX11_joinTwo_11 : decode cX11_joinTwo 11 = .ok (.iload 4, 2) := by decide +kernel
theorem dX11_joinTwo_13 : decode cX11_joinTwo 13 = .ok (.aload_n 0, 1) := by decide +kernel
theorem dX11_joinTwo_14 : decode cX11_joinTwo 14 = .ok (.getfield 115, 3) := by decide +kernel
theorem dX11_joinTwo_17 : decode cX11_joinTwo 17 = .ok (.if_icmp .ge 93, 3) := by decide +kernel
theorem dX11_joinTwo_20 : decode cX11_joinTwo 20 = .ok (.iload 4, 2) := by decide +kernel
theorem dX11_joinTwo_22 : decode cX11_joinTwo 22 = .ok (.iconst 1, 1) := by decide +kernel
theorem dX11_joinTwo_23 : decode cX11_joinTwo 23 = .ok (.iadd, 1) := by decide +kernel
theorem dX11_joinTwo_24 : decode cX11_joinTwo 24 = .ok (.istore 5, 2) := by decide +kernel
theorem dX11_joinTwo_26 : decode cX11_joinTwo 26 = .ok (.iload 5, 2) := by decide +kernel
theorem dX11_joinTwo_28 : decode cX11_joinTwo 28 = .ok (.aload_n 0, 1) := by decide +kernel
theorem dX11_joinTwo_29 : decode cX11_joinTwo 29 = .ok (.getfield 115, 3) := by decide +kernel
theorem dX11_joinTwo_32 : decode cX11_joinTwo 32 = .ok (.if_icmp .ge 72, 3) := by decide +kernel
theorem dX11_joinTwo_35 : decode cX11_joinTwo 35 = .ok (.aload_n 0, 1) := by decide +kernel
theorem dX11_joinTwo_36 : decode cX11_joinTwo 36 = .ok (.getfield 84, 3) := by decide +kernel
theorem dX11_joinTwo_39 : decode cX11_joinTwo 39 = .ok (.iload 4, 2) := by decide +kernel
theorem dX11_joinTwo_41 : decode cX11_joinTwo 41 = .ok (.iaload, 1) := by decide +kernel
theorem dX11_joinTwo_42 : decode cX11_joinTwo 42 = .ok (.ifCond .eq 56, 3) := by decide +kernel
theorem dX11_joinTwo_45 : decode cX11_joinTwo 45 = .ok (.aload_n 0, 1) := by decide +kernel
theorem dX11_joinTwo_46 : decode cX11_joinTwo 46 = .ok (.getfield 84, 3) := by decide +kernel
theorem dX11_joinTwo_49 : decode cX11_joinTwo 49 = .ok (.iload 5, 2) := by decide +kernel
theorem dX11_joinTwo_51 : decode cX11_joinTwo 51 = .ok (.iaload, 1) := by decide +kernel
theorem dX11_joinTwo_52 : decode cX11_joinTwo 52 = .ok (.ifCond .eq 46, 3) := by decide +kernel
theorem dX11_joinTwo_55 : decode cX11_joinTwo 55 = .ok (.aload_n 0, 1) := by decide +kernel
theorem dX11_joinTwo_56 : decode cX11_joinTwo 56 = .ok (.aload_n 0, 1) := by decide +kernel
theorem dX11_joinTwo_57 : decode cX11_joinTwo 57 = .ok (.getfield 84, 3) := by decide +kernel
theorem dX11_joinTwo_60 : decode cX11_joinTwo 60 = .ok (.iload 4, 2) := by decide +kernel
theorem dX11_joinTwo_62 : decode cX11_joinTwo 62 = .ok (.iaload, 1) := by decide +kernel
theorem dX11_joinTwo_63 : decode cX11_joinTwo 63 = .ok (.aload_n 0, 1) := by decide +kernel
theorem dX11_joinTwo_64 : decode cX11_joinTwo 64 = .ok (.getfield 84, 3) := by decide +kernel
theorem dX11_joinTwo_67 : decode cX11_joinTwo 67 = .ok (.iload 5, 2) := by decide +kernel
theorem dX11_joinTwo_69 : decode cX11_joinTwo 69 = .ok (.iaload, 1) := by decide +kernel
theorem dX11_joinTwo_70 : decode cX11_joinTwo 70 = .ok (.aload_n 0, 1) := by decide +kernel
theorem dX11_joinTwo_71 : decode cX11_joinTwo 71 = .ok (.invokevirtual 173, 3) := by decide +kernel
theorem dX11_joinTwo_74 : decode cX11_joinTwo 74 = .ok (.invokevirtual 177, 3) := by decide +kernel
theorem dX11_joinTwo_77 : decode cX11_joinTwo 77 = .ok (.istore 6, 2) := by decide +kernel
theorem dX11_joinTwo_79 : decode cX11_joinTwo 79 = .ok (.iload_n 1, 1) := by decide +kernel
theorem dX11_joinTwo_80 : decode cX11_joinTwo 80 = .ok (.ifCond .lt 9, 3) := by decide +kernel
theorem dX11_joinTwo_83 : decode cX11_joinTwo 83 = .ok (.iload 6, 2) := by decide +kernel
theorem dX11_joinTwo_85 : decode cX11_joinTwo 85 = .ok (.iload_n 3, 1) := by decide +kernel
theorem dX11_joinTwo_86 : decode cX11_joinTwo 86 = .ok (.if_icmp .ge 12, 3) := by decide +kernel
theorem dX11_joinTwo_89 : decode cX11_joinTwo 89 = .ok (.iload 4, 2) := by decide +kernel
theorem dX11_joinTwo_91 : decode cX11_joinTwo 91 = .ok (.istore_n 1, 1) := by decide +kernel
theorem dX11_joinTwo_92 : decode cX11_joinTwo 92 = .ok (.iload 5, 2) := by decide +kernel
theorem dX11_joinTwo_94 : decode cX11_joinTwo 94 = .ok (.istore_n 2, 1) := by decide +kernel
theorem dX11_joinTwo_95 : decode cX11_joinTwo 95 = .ok (.iload 6, 2) := by decide +kernel
theorem dX11_joinTwo_97 : decode cX11_joinTwo 97 = .ok (.istore_n 3, 1) := by decide +kernel
theorem dX11_joinTwo_98 : decode cX11_joinTwo 98 = .ok (.iinc 5 1, 3) := by decide +kernel
theorem dX11_joinTwo_101 : decode cX11_joinTwo 101 = .ok (.goto (-75), 3) := by decide +kernel
theorem dX11_joinTwo_104 : decode cX11_joinTwo 104 = .ok (.iinc 4 1, 3) := by decide +kernel
theorem dX11_joinTwo_107 : decode cX11_joinTwo 107 = .ok (.goto (-96), 3) := by decide +kernel
theorem dX11_joinTwo_110 : decode cX11_joinTwo 110 = .ok (.aload_n 0, 1) := by decide +kernel
theorem dX11_joinTwo_111 : decode cX11_joinTwo 111 = .ok (.getfield 81, 3) := by decide +kernel
theorem dX11_joinTwo_114 : decode cX11_joinTwo 114 = .ok (.iconst 3, 1) := by decide +kernel
theorem dX11_joinTwo_115 : decode cX11_joinTwo 115 = .ok (.aload_n 0, 1) := by decide +kernel
theorem dX11_joinTwo_116 : decode cX11_joinTwo 116 = .ok (.getfield 199, 3) := by decide +kernel
theorem dX11_joinTwo_119 : decode cX11_joinTwo 119 = .ok (.imul, 1) := by decide +kernel
theorem dX11_joinTwo_120 : decode cX11_joinTwo 120 = .ok (.iload_n 1, 1) := by decide +kernel
theorem dX11_joinTwo_121 : decode cX11_joinTwo 121 = .ok (.iastore, 1) := by decide +kernel
theorem dX11_joinTwo_122 : decode cX11_joinTwo 122 = .ok (.aload_n 0, 1) := by decide +kernel
theorem dX11_joinTwo_123 : decode cX11_joinTwo 123 = .ok (.getfield 81, 3) := by decide +kernel
theorem dX11_joinTwo_126 : decode cX11_joinTwo 126 = .ok (.iconst 3, 1) := by decide +kernel
theorem dX11_joinTwo_127 : decode cX11_joinTwo 127 = .ok (.aload_n 0, 1) := by decide +kernel
theorem dX11_joinTwo_128 : decode cX11_joinTwo 128 = .ok (.getfield 199, 3) := by decide +kernel
theorem dX11_joinTwo_131 : decode cX11_joinTwo 131 = .ok (.imul, 1) := by decide +kernel
theorem dX11_joinTwo_132 : decode cX11_joinTwo 132 = .ok (.iconst 1, 1) := by decide +kernel
theorem dX11_joinTwo_133 : decode cX11_joinTwo 133 = .ok (.iadd, 1) := by decide +kernel
theorem dX11_joinTwo_134 : decode cX11_joinTwo 134 = .ok (.iload_n 2, 1) := by decide +kernel
theorem dX11_joinTwo_135 : decode cX11_joinTwo 135 = .ok (.iastore, 1) := by decide +kernel
theorem dX11_joinTwo_136 : decode cX11_joinTwo 136 = .ok (.aload_n 0, 1) := by decide +kernel
theorem dX11_joinTwo_137 : decode cX11_joinTwo 137 = .ok (.getfield 81, 3) := by decide +kernel
theorem dX11_joinTwo_140 : decode cX11_joinTwo 140 = .ok (.iconst 3, 1) := by decide +kernel
theorem dX11_joinTwo_141 : decode cX11_joinTwo 141 = .ok (.aload_n 0, 1) := by decide +kernel
theorem dX11_joinTwo_142 : decode cX11_joinTwo 142 = .ok (.getfield 199, 3) := by decide +kernel
theorem dX11_joinTwo_145 : decode cX11_joinTwo 145 = .ok (.imul, 1) := by decide +kernel
theorem dX11_joinTwo_146 : decode cX11_joinTwo 146 = .ok (.iconst 2, 1) := by decide +kernel
theorem dX11_joinTwo_147 : decode cX11_joinTwo 147 = .ok (.iadd, 1) := by decide +kernel
theorem dX11_joinTwo_148 : decode cX11_joinTwo 148 = .ok (.iload_n 3, 1) := by decide +kernel
theorem dX11_joinTwo_149 : decode cX11_joinTwo 149 = .ok (.iastore, 1) := by decide +kernel
theorem dX11_joinTwo_150 : decode cX11_joinTwo 150 = .ok (.aload_n 0, 1) := by decide +kernel
theorem dX11_joinTwo_151 : decode cX11_joinTwo 151 = .ok (.dup, 1) := by decide +kernel
theorem dX11_joinTwo_152 : decode cX11_joinTwo 152 = .ok (.getfield 199, 3) := by decide +kernel
theorem dX11_joinTwo_155 : decode cX11_joinTwo 155 = .ok (.iconst 1, 1) := by decide +kernel
theorem dX11_joinTwo_156 : decode cX11_joinTwo 156 = .ok (.iadd, 1) := by decide +kernel
theorem dX11_joinTwo_157 : decode cX11_joinTwo 157 = .ok (.putfield 199, 3) := by decide +kernel
theorem dX11_joinTwo_160 : decode cX11_joinTwo 160 = .ok (.aload_n 0, 1) := by decide +kernel
theorem dX11_joinTwo_161 : decode cX11_joinTwo 161 = .ok (.getfield 84, 3) := by decide +kernel
theorem dX11_joinTwo_164 : decode cX11_joinTwo 164 = .ok (.iload_n 1, 1) := by decide +kernel
theorem dX11_joinTwo_165 : decode cX11_joinTwo 165 = .ok (.dup2, 1) := by decide +kernel
theorem dX11_joinTwo_166 : decode cX11_joinTwo 166 = .ok (.iaload, 1) := by decide +kernel
theorem dX11_joinTwo_167 : decode cX11_joinTwo 167 = .ok (.aload_n 0, 1) := by decide +kernel
theorem dX11_joinTwo_168 : decode cX11_joinTwo 168 = .ok (.getfield 84, 3) := by decide +kernel
theorem dX11_joinTwo_171 : decode cX11_joinTwo 171 = .ok (.iload_n 2, 1) := by decide +kernel
theorem dX11_joinTwo_172 : decode cX11_joinTwo 172 = .ok (.iaload, 1) := by decide +kernel
theorem dX11_joinTwo_173 : decode cX11_joinTwo 173 = .ok (.ior, 1) := by decide +kernel
theorem dX11_joinTwo_174 : decode cX11_joinTwo 174 = .ok (.iastore, 1) := by decide +kernel
theorem dX11_joinTwo_175 : decode cX11_joinTwo 175 = .ok (.aload_n 0, 1) := by decide +kernel
theorem dX11_joinTwo_176 : decode cX11_joinTwo 176 = .ok (.getfield 84, 3) := by decide +kernel
theorem dX11_joinTwo_179 : decode cX11_joinTwo 179 = .ok (.iload_n 2, 1) := by decide +kernel
theorem dX11_joinTwo_180 : decode cX11_joinTwo 180 = .ok (.iconst 0, 1) := by decide +kernel
theorem dX11_joinTwo_181 : decode cX11_joinTwo 181 = .ok (.iastore, 1) := by decide +kernel
theorem dX11_joinTwo_182 : decode cX11_joinTwo 182 = .ok (.return_, 1) := by decide +kernel
theorem dX11_join_0 : decode cX11_join 0 = .ok (.iload_n 2, 1) := by decide +kernel
theorem dX11_join_1 : decode cX11_join 1 = .ok (.iconst 0, 1) := by decide +kernel
theorem dX11_join_2 : decode cX11_join 2 = .ok (.iconst 2, 1) := by decide +kernel
theorem dX11_join_3 : decode cX11_join 3 = .ok (.invokestatic 91, 3) := by decide +kernel
theorem dX11_join_6 : decode cX11_join 6 = .ok (.ifCond .ne 7, 3) := by decide +kernel
theorem dX11_join_9 : decode cX11_join 9 = .ok (.iconst (-1), 1) := by decide +kernel
theorem dX11_join_10 : decode cX11_join 10 = .ok (.goto 32, 3) := by decide +kernel
theorem dX11_join_13 : decode cX11_join 13 = .ok (.iload_n 1, 1) := by decide +kernel
theorem dX11_join_14 : decode cX11_join 14 = .ok (.iconst 0, 1) := by decide +kernel
theorem dX11_join_15 : decode cX11_join 15 = .ok (.aload_n 0, 1) := by decide +kernel
theorem dX11_join_16 : decode cX11_join 16 = .ok (.getfield 199, 3) := by decide +kernel
theorem dX11_join_19 : decode cX11_join 19 = .ok (.iconst 1, 1) := by decide +kernel
theorem dX11_join_20 : decode cX11_join 20 = .ok (.isub, 1) := by decide +kernel
theorem dX11_join_21 : decode cX11_join 21 = .ok (.invokestatic 91, 3) := by decide +kernel
theorem dX11_join_24 : decode cX11_join 24 = .ok (.ifCond .eq 16, 3) := by decide +kernel
theorem dX11_join_27 : decode cX11_join 27 = .ok (.aload_n 0, 1) := by decide +kernel
theorem dX11_join_28 : decode cX11_join 28 = .ok (.getfield 81, 3) := by decide +kernel
theorem dX11_join_31 : decode cX11_join 31 = .ok (.iconst 3, 1) := by decide +kernel
theorem dX11_join_32 : decode cX11_join 32 = .ok (.iload_n 1, 1) := by decide +kernel
theorem dX11_join_33 : decode cX11_join 33 = .ok (.imul, 1) := by decide +kernel
theorem dX11_join_34 : decode cX11_join 34 = .ok (.iload_n 2, 1) := by decide +kernel
theorem dX11_join_35 : decode cX11_join 35 = .ok (.iadd, 1) := by decide +kernel
theorem dX11_join_36 : decode cX11_join 36 = .ok (.iaload, 1) := by decide +kernel
theorem dX11_join_37 : decode cX11_join 37 = .ok (.goto 5, 3) := by decide +kernel
theorem dX11_join_40 : decode cX11_join 40 = .ok (.bipush (-9), 2) := by decide +kernel
theorem dX11_join_42 : decode cX11_join 42 = .ok (.ireturn, 1) := by decide +kernel
theorem dX11_bits_0 : decode cX11_bits 0 = .ok (.iconst 0, 1) := by decide +kernel
theorem dX11_bits_1 : decode cX11_bits 1 = .ok (.istore_n 1, 1) := by decide +kernel
theorem dX11_bits_2 : decode cX11_bits 2 = .ok (.iconst 0, 1) := by decide +kernel
theorem dX11_bits_3 : decode cX11_bits 3 = .ok (.istore_n 2, 1) := by decide +kernel
theorem dX11_bits_4 : decode cX11_bits 4 = .ok (.iload_n 2, 1) := by decide +kernel
theorem dX11_bits_5 : decode cX11_bits 5 = .ok (.bipush 14, 2) := by decide +kernel
theorem dX11_bits_7 : decode cX11_bits 7 = .ok (.if_icmp .ge 17, 3) := by decide +kernel
theorem dX11_bits_10 : decode cX11_bits 10 = .ok (.iload_n 1, 1) := by decide +kernel
theorem dX11_bits_11 : decode cX11_bits 11 = .ok (.iload_n 0, 1) := by decide +kernel
theorem dX11_bits_12 : decode cX11_bits 12 = .ok (.iload_n 2, 1) := by decide +kernel
theorem dX11_bits_13 : decode cX11_bits 13 = .ok (.ishr, 1) := by decide +kernel
theorem dX11_bits_14 : decode cX11_bits 14 = .ok (.iconst 1, 1) := by decide +kernel
theorem dX11_bits_15 : decode cX11_bits 15 = .ok (.iand, 1) := by decide +kernel
theorem dX11_bits_16 : decode cX11_bits 16 = .ok (.iadd, 1) := by decide +kernel
theorem dX11_bits_17 : decode cX11_bits 17 = .ok (.istore_n 1, 1) := by decide +kernel
theorem dX11_bits_18 : decode cX11_bits 18 = .ok (.iinc 2 1, 3) := by decide +kernel
theorem dX11_bits_21 : decode cX11_bits 21 = .ok (.goto (-17), 3) := by decide +kernel
theorem dX11_bits_24 : decode cX11_bits 24 = .ok (.iload_n 1, 1) := by decide +kernel
theorem dX11_bits_25 : decode cX11_bits 25 = .ok (.ireturn, 1) := by decide +kernel
theorem dX11_apart_0 : decode cX11_apart 0 = .ok (.aload_n 0, 1) := by decide +kernel
theorem dX11_apart_1 : decode cX11_apart 1 = .ok (.iload_n 1, 1) := by decide +kernel
theorem dX11_apart_2 : decode cX11_apart 2 = .ok (.iload_n 2, 1) := by decide +kernel
theorem dX11_apart_3 : decode cX11_apart 3 = .ok (.invokevirtual 158, 3) := by decide +kernel
theorem dX11_apart_6 : decode cX11_apart 6 = .ok (.istore 4, 2) := by decide +kernel
theorem dX11_apart_8 : decode cX11_apart 8 = .ok (.aload_n 0, 1) := by decide +kernel
theorem dX11_apart_9 : decode cX11_apart 9 = .ok (.iload_n 1, 1) := by decide +kernel
theorem dX11_apart_10 : decode cX11_apart 10 = .ok (.iload_n 3, 1) := by decide +kernel
theorem dX11_apart_11 : decode cX11_apart 11 = .ok (.invokevirtual 158, 3) := by decide +kernel
theorem dX11_apart_14 : decode cX11_apart 14 = .ok (.istore 5, 2) := by decide +kernel
theorem dX11_apart_16 : decode cX11_apart 16 = .ok (.iload 4, 2) := by decide +kernel
theorem dX11_apart_18 : decode cX11_apart 18 = .ok (.iload 5, 2) := by decide +kernel
theorem dX11_apart_20 : decode cX11_apart 20 = .ok (.if_icmp .le 11, 3) := by decide +kernel
theorem dX11_apart_23 : decode cX11_apart 23 = .ok (.iload 4, 2) := by decide +kernel
theorem dX11_apart_25 : decode cX11_apart 25 = .ok (.iload 5, 2) := by decide +kernel
theorem dX11_apart_27 : decode cX11_apart 27 = .ok (.isub, 1) := by decide +kernel
theorem dX11_apart_28 : decode cX11_apart 28 = .ok (.goto 8, 3) := by decide +kernel
theorem dX11_apart_31 : decode cX11_apart 31 = .ok (.iload 5, 2) := by decide +kernel
theorem dX11_apart_33 : decode cX11_apart 33 = .ok (.iload 4, 2) := by decide +kernel
theorem dX11_apart_35 : decode cX11_apart 35 = .ok (.isub, 1) := by decide +kernel
theorem dX11_apart_36 : decode cX11_apart 36 = .ok (.ireturn, 1) := by decide +kernel
theorem dX11_shuffle_0 : decode cX11_shuffle 0 = .ok (.aload_n 0, 1) := by decide +kernel
theorem dX11_shuffle_1 : decode cX11_shuffle 1 = .ok (.iload_n 1, 1) := by decide +kernel
theorem dX11_shuffle_2 : decode cX11_shuffle 2 = .ok (.invokevirtual 149, 3) := by decide +kernel
theorem dX11_shuffle_5 : decode cX11_shuffle 5 = .ok (.ifCond .eq 22, 3) := by decide +kernel
theorem dX11_shuffle_8 : decode cX11_shuffle 8 = .ok (.iload_n 2, 1) := by decide +kernel
theorem dX11_shuffle_9 : decode cX11_shuffle 9 = .ok (.invokestatic 161, 3) := by decide +kernel
theorem dX11_shuffle_12 : decode cX11_shuffle 12 = .ok (.ifCond .eq 15, 3) := by decide +kernel
theorem dX11_shuffle_15 : decode cX11_shuffle 15 = .ok (.iload_n 3, 1) := by decide +kernel
theorem dX11_shuffle_16 : decode cX11_shuffle 16 = .ok (.invokestatic 161, 3) := by decide +kernel
theorem dX11_shuffle_19 : decode cX11_shuffle 19 = .ok (.ifCond .eq 8, 3) := by decide +kernel
theorem dX11_shuffle_22 : decode cX11_shuffle 22 = .ok (.iload_n 2, 1) := by decide +kernel
theorem dX11_shuffle_23 : decode cX11_shuffle 23 = .ok (.iload_n 3, 1) := by decide +kernel
theorem dX11_shuffle_24 : decode cX11_shuffle 24 = .ok (.if_icmp .ne 5, 3) := by decide +kernel
theorem dX11_shuffle_27 : decode cX11_shuffle 27 = .ok (.iconst (-1), 1) := by decide +kernel
theorem dX11_shuffle_28 : decode cX11_shuffle 28 = .ok (.ireturn, 1) := by decide +kernel
theorem dX11_shuffle_29 : decode cX11_shuffle 29 = .ok (.aload_n 0, 1) := by decide +kernel
theorem dX11_shuffle_30 : decode cX11_shuffle 30 = .ok (.iload_n 2, 1) := by decide +kernel
theorem dX11_shuffle_31 : decode cX11_shuffle 31 = .ok (.bipush (-9), 2) := by decide +kernel
theorem dX11_shuffle_33 : decode cX11_shuffle 33 = .ok (.invokevirtual 164, 3) := by decide +kernel
theorem dX11_shuffle_36 : decode cX11_shuffle 36 = .ok (.istore 4, 2) := by decide +kernel
theorem dX11_shuffle_38 : decode cX11_shuffle 38 = .ok (.aload_n 0, 1) := by decide +kernel
theorem dX11_shuffle_39 : decode cX11_shuffle 39 = .ok (.iload_n 3, 1) := by decide +kernel
theorem dX11_shuffle_40 : decode cX11_shuffle 40 = .ok (.bipush (-9), 2) := by decide +kernel
theorem dX11_shuffle_42 : decode cX11_shuffle 42 = .ok (.invokevirtual 164, 3) := by decide +kernel
theorem dX11_shuffle_45 : decode cX11_shuffle 45 = .ok (.istore 5, 2) := by decide +kernel
theorem dX11_shuffle_47 : decode cX11_shuffle 47 = .ok (.iload 4, 2) := by decide +kernel
theorem dX11_shuffle_49 : decode cX11_shuffle 49 = .ok (.ifCond .eq 8, 3) := by decide +kernel
theorem dX11_shuffle_52 : decode cX11_shuffle 52 = .ok (.iload 5, 2) := by decide +kernel
theorem dX11_shuffle_54 : decode cX11_shuffle 54 = .ok (.ifCond .ne 9, 3) := by decide +kernel
theorem dX11_shuffle_57 : decode cX11_shuffle 57 = .ok (.aload_n 0, 1) := by decide +kernel
theorem dX11_shuffle_58 : decode cX11_shuffle 58 = .ok (.iconst 4, 1) := by decide +kernel
theorem dX11_shuffle_59 : decode cX11_shuffle 59 = .ok (.invokevirtual 99, 3) := by decide +kernel
theorem dX11_shuffle_62 : decode cX11_shuffle 62 = .ok (.ireturn, 1) := by decide +kernel
theorem dX11_shuffle_63 : decode cX11_shuffle 63 = .ok (.aload_n 0, 1) := by decide +kernel
theorem dX11_shuffle_64 : decode cX11_shuffle 64 = .ok (.invokevirtual 155, 3) := by decide +kernel
theorem dX11_shuffle_67 : decode cX11_shuffle 67 = .ok (.iload 4, 2) := by decide +kernel
theorem dX11_shuffle_69 : decode cX11_shuffle 69 = .ok (.iload 5, 2) := by decide +kernel
theorem dX11_shuffle_71 : decode cX11_shuffle 71 = .ok (.ior, 1) := by decide +kernel
theorem dX11_shuffle_72 : decode cX11_shuffle 72 = .ok (.istore 6, 2) := by decide +kernel
theorem dX11_shuffle_74 : decode cX11_shuffle 74 = .ok (.iload 4, 2) := by decide +kernel
theorem dX11_shuffle_76 : decode cX11_shuffle 76 = .ok (.invokestatic 205, 3) := by decide +kernel
theorem dX11_shuffle_79 : decode cX11_shuffle 79 = .ok (.istore 7, 2) := by decide +kernel
theorem dX11_shuffle_81 : decode cX11_shuffle 81 = .ok (.aload_n 0, 1) := by decide +kernel
theorem dX11_shuffle_82 : decode cX11_shuffle 82 = .ok (.iload_n 1, 1) := by decide +kernel
theorem dX11_shuffle_83 : decode cX11_shuffle 83 = .ok (.iload 4, 2) := by decide +kernel
theorem dX11_shuffle_85 : decode cX11_shuffle 85 = .ok (.iload 5, 2) := by decide +kernel
theorem dX11_shuffle_87 : decode cX11_shuffle 87 = .ok (.invokevirtual 208, 3) := by decide +kernel
theorem dX11_shuffle_90 : decode cX11_shuffle 90 = .ok (.istore 8, 2) := by decide +kernel
theorem dX11_shuffle_92 : decode cX11_shuffle 92 = .ok (.iconst 0, 1) := by decide +kernel
theorem dX11_shuffle_93 : decode cX11_shuffle 93 = .ok (.istore 9, 2) := by decide +kernel
theorem dX11_shuffle_95 : decode cX11_shuffle 95 = .ok (.iconst 0, 1) := by decide +kernel
theorem dX11_shuffle_96 : decode cX11_shuffle 96 = .ok (.istore 10, 2) := by decide +kernel
theorem dX11_shuffle_98 : decode cX11_shuffle 98 = .ok (.iconst 0, 1) := by decide +kernel
theorem dX11_shuffle_99 : decode cX11_shuffle 99 = .ok (.istore 11, 2) := by decide +kernel
theorem dX11_shuffle_101 : decode cX11_shuffle 101 = .ok (.iload 11, 2) := by decide +kernel
theorem dX11_shuffle_103 : decode cX11_shuffle 103 = .ok (.iconst 1, 1) := by decide +kernel
theorem dX11_shuffle_104 : decode cX11_shuffle 104 = .ok (.aload_n 0, 1) := by decide +kernel
theorem dX11_shuffle_105 : decode cX11_shuffle 105 = .ok (.getfield 115, 3) := by decide +kernel
theorem dX11_shuffle_108 : decode cX11_shuffle 108 = .ok (.ishl, 1) := by decide +kernel
theorem dX11_shuffle_109 : decode cX11_shuffle 109 = .ok (.if_icmp .ge 61, 3) := by decide +kernel
theorem dX11_shuffle_112 : decode cX11_shuffle 112 = .ok (.iload 11, 2) := by decide +kernel
theorem dX11_shuffle_114 : decode cX11_shuffle 114 = .ok (.iload 6, 2) := by decide +kernel
theorem dX11_shuffle_116 : decode cX11_shuffle 116 = .ok (.iconst (-1), 1) := by decide +kernel
theorem dX11_shuffle_117 : decode cX11_shuffle 117 = .ok (.ixor, 1) := by decide +kernel
theorem dX11_shuffle_118 : decode cX11_shuffle 118 = .ok (.iand, 1) := by decide +kernel
theorem dX11_shuffle_119 : decode cX11_shuffle 119 = .ok (.ifCond .ne 45, 3) := by decide +kernel
theorem dX11_shuffle_122 : decode cX11_shuffle 122 = .ok (.iload 11, 2) := by decide +kernel
theorem dX11_shuffle_124 : decode cX11_shuffle 124 = .ok (.invokestatic 205, 3) := by decide +kernel
theorem dX11_shuffle_127 : decode cX11_shuffle 127 = .ok (.iload 7, 2) := by decide +kernel
theorem dX11_shuffle_129 : decode cX11_shuffle 129 = .ok (.if_icmp .ne 35, 3) := by decide +kernel
theorem dX11_shuffle_132 : decode cX11_shuffle 132 = .ok (.iinc 10 1, 3) := by decide +kernel
theorem dX11_shuffle_135 : decode cX11_shuffle 135 = .ok (.iload 9, 2) := by decide +kernel
theorem dX11_shuffle_137 : decode cX11_shuffle 137 = .ok (.aload_n 0, 1) := by decide +kernel
theorem dX11_shuffle_138 : decode cX11_shuffle 138 = .ok (.iload_n 1, 1) := by decide +kernel
theorem dX11_shuffle_139 : decode cX11_shuffle 139 = .ok (.iload 11, 2) := by decide +kernel
theorem dX11_shuffle_141 : decode cX11_shuffle 141 = .ok (.iload 6, 2) := by decide +kernel
theorem dX11_shuffle_143 : decode cX11_shuffle 143 = .ok (.iload 11, 2) := by decide +kernel
theorem dX11_shuffle_145 : decode cX11_shuffle 145 = .ok (.iconst (-1), 1) := by decide +kernel
theorem dX11_shuffle_146 : decode cX11_shuffle 146 = .ok (.ixor, 1) := by decide +kernel
theorem dX11_shuffle_147 : decode cX11_shuffle 147 = .ok (.iand, 1) := by decide +kernel
theorem dX11_shuffle_148 : decode cX11_shuffle 148 = .ok (.invokevirtual 208, 3) := by decide +kernel
theorem dX11_shuffle_151 : decode cX11_shuffle 151 = .ok (.iload 8, 2) := by decide +kernel
theorem dX11_shuffle_153 : decode cX11_shuffle 153 = .ok (.if_icmp .lt 7, 3) := by decide +kernel
theorem dX11_shuffle_156 : decode cX11_shuffle 156 = .ok (.iconst 1, 1) := by decide +kernel
theorem dX11_shuffle_157 : decode cX11_shuffle 157 = .ok (.goto 4, 3) := by decide +kernel
theorem dX11_shuffle_160 : decode cX11_shuffle 160 = .ok (.iconst 0, 1) := by decide +kernel
theorem dX11_shuffle_161 : decode cX11_shuffle 161 = .ok (.iadd, 1) := by decide +kernel
theorem dX11_shuffle_162 : decode cX11_shuffle 162 = .ok (.istore 9, 2) := by decide +kernel
theorem dX11_shuffle_164 : decode cX11_shuffle 164 = .ok (.iinc 11 1, 3) := by decide +kernel
theorem dX11_shuffle_167 : decode cX11_shuffle 167 = .ok (.goto (-66), 3) := by decide +kernel
theorem dX11_shuffle_170 : decode cX11_shuffle 170 = .ok (.aload_n 0, 1) := by decide +kernel
theorem dX11_shuffle_171 : decode cX11_shuffle 171 = .ok (.iload 10, 2) := by decide +kernel
theorem dX11_shuffle_173 : decode cX11_shuffle 173 = .ok (.i2l, 1) := by decide +kernel
theorem dX11_shuffle_174 : decode cX11_shuffle 174 = .ok (.putfield 195, 3) := by decide +kernel
theorem dX11_shuffle_177 : decode cX11_shuffle 177 = .ok (.iload 9, 2) := by decide +kernel
theorem dX11_shuffle_179 : decode cX11_shuffle 179 = .ok (.ireturn, 1) := by decide +kernel
theorem dX11_asked_0 : decode cX11_asked 0 = .ok (.aload_n 0, 1) := by decide +kernel
theorem dX11_asked_1 : decode cX11_asked 1 = .ok (.getfield 195, 3) := by decide +kernel
theorem dX11_asked_4 : decode cX11_asked 4 = .ok (.lreturn, 1) := by decide +kernel
theorem dX11_tellsCount_0 : decode cX11_tellsCount 0 = .ok (.iconst 0, 1) := by decide +kernel
theorem dX11_tellsCount_1 : decode cX11_tellsCount 1 = .ok (.istore_n 2, 1) := by decide +kernel
theorem dX11_tellsCount_2 : decode cX11_tellsCount 2 = .ok (.iconst 0, 1) := by decide +kernel
theorem dX11_tellsCount_3 : decode cX11_tellsCount 3 = .ok (.istore_n 3, 1) := by decide +kernel
theorem dX11_tellsCount_4 : decode cX11_tellsCount 4 = .ok (.iload_n 3, 1) := by decide +kernel
theorem dX11_tellsCount_5 : decode cX11_tellsCount 5 = .ok (.aload_n 0, 1) := by decide +kernel
theorem dX11_tellsCount_6 : decode cX11_tellsCount 6 = .ok (.getfield 115, 3) := by decide +kernel
theorem dX11_tellsCount_9 : decode cX11_tellsCount 9 = .ok (.if_icmp .ge 26, 3) := by decide +kernel
theorem dX11_tellsCount_12 : decode cX11_tellsCount 12 = .ok (.iload_n 2, 1) := by decide +kernel
theorem dX11_tellsCount_13 : decode cX11_tellsCount 13 = .ok (.aload_n 0, 1) := by decide +kernel
theorem dX11_tellsCount_14 : decode cX11_tellsCount 14 = .ok (.getfield 31, 3) := by decide +kernel
theorem dX11_tellsCount_17 : decode cX11_tellsCount 17 = .ok (.iload_n 3, 1) := by decide +kernel
theorem dX11_tellsCount_18 : decode cX11_tellsCount 18 = .ok (.baload, 1) := by decide +kernel
theorem dX11_tellsCount_19 : decode cX11_tellsCount 19 = .ok (.ifCond .eq 7, 3) := by decide +kernel
theorem dX11_tellsCount_22 : decode cX11_tellsCount 22 = .ok (.iconst 0, 1) := by decide +kernel
theorem dX11_tellsCount_23 : decode cX11_tellsCount 23 = .ok (.goto 4, 3) := by decide +kernel
theorem dX11_tellsCount_26 : decode cX11_tellsCount 26 = .ok (.iconst 1, 1) := by decide +kernel
theorem dX11_tellsCount_27 : decode cX11_tellsCount 27 = .ok (.iadd, 1) := by decide +kernel
theorem dX11_tellsCount_28 : decode cX11_tellsCount 28 = .ok (.istore_n 2, 1) := by decide +kernel
theorem dX11_tellsCount_29 : decode cX11_tellsCount 29 = .ok (.iinc 3 1, 3) := by decide +kernel
theorem dX11_tellsCount_32 : decode cX11_tellsCount 32 = .ok (.goto (-28), 3) := by decide +kernel
theorem dX11_tellsCount_35 : decode cX11_tellsCount 35 = .ok (.iload_n 1, 1) := by decide +kernel
theorem dX11_tellsCount_36 : decode cX11_tellsCount 36 = .ok (.ifCond .ne 10, 3) := by decide +kernel
theorem dX11_tellsCount_39 : decode cX11_tellsCount 39 = .ok (.aload_n 0, 1) := by decide +kernel
theorem dX11_tellsCount_40 : decode cX11_tellsCount 40 = .ok (.getfield 115, 3) := by decide +kernel
theorem dX11_tellsCount_43 : decode cX11_tellsCount 43 = .ok (.goto 28, 3) := by decide +kernel
theorem dX11_tellsCount_46 : decode cX11_tellsCount 46 = .ok (.iload_n 1, 1) := by decide +kernel
theorem dX11_tellsCount_47 : decode cX11_tellsCount 47 = .ok (.iconst 1, 1) := by decide +kernel
theorem dX11_tellsCount_48 : decode cX11_tellsCount 48 = .ok (.if_icmp .ne 7, 3) := by decide +kernel
theorem dX11_tellsCount_51 : decode cX11_tellsCount 51 = .ok (.iload_n 2, 1) := by decide +kernel
theorem dX11_tellsCount_52 : decode cX11_tellsCount 52 = .ok (.goto 19, 3) := by decide +kernel
theorem dX11_tellsCount_55 : decode cX11_tellsCount 55 = .ok (.iload_n 1, 1) := by decide +kernel
theorem dX11_tellsCount_56 : decode cX11_tellsCount 56 = .ok (.iconst 2, 1) := by decide +kernel
theorem dX11_tellsCount_57 : decode cX11_tellsCount 57 = .ok (.if_icmp .ne 10, 3) := by decide +kernel
theorem dX11_tellsCount_60 : decode cX11_tellsCount 60 = .ok (.aload_n 0, 1) := by decide +kernel
theorem dX11_tellsCount_61 : decode cX11_tellsCount 61 = .ok (.getfield 133, 3) := by decide +kernel
theorem dX11_tellsCount_64 : decode cX11_tellsCount 64 = .ok (.goto 7, 3) := by decide +kernel
theorem dX11_tellsCount_67 : decode cX11_tellsCount 67 = .ok (.aload_n 0, 1) := by decide +kernel
theorem dX11_tellsCount_68 : decode cX11_tellsCount 68 = .ok (.getfield 167, 3) := by decide +kernel
theorem dX11_tellsCount_71 : decode cX11_tellsCount 71 = .ok (.ireturn, 1) := by decide +kernel
theorem dX11_count_0 : decode cX11_count 0 = .ok (.iload_n 1, 1) := by decide +kernel
theorem dX11_count_1 : decode cX11_count 1 = .ok (.iconst 0, 1) := by decide +kernel
theorem dX11_count_2 : decode cX11_count 2 = .ok (.iconst 3, 1) := by decide +kernel
theorem dX11_count_3 : decode cX11_count 3 = .ok (.invokestatic 91, 3) := by decide +kernel
theorem dX11_count_6 : decode cX11_count 6 = .ok (.ifCond .eq 11, 3) := by decide +kernel
theorem dX11_count_9 : decode cX11_count 9 = .ok (.aload_n 0, 1) := by decide +kernel
theorem dX11_count_10 : decode cX11_count 10 = .ok (.iload_n 1, 1) := by decide +kernel
theorem dX11_count_11 : decode cX11_count 11 = .ok (.invokevirtual 211, 3) := by decide +kernel
theorem dX11_count_14 : decode cX11_count 14 = .ok (.goto 4, 3) := by decide +kernel
theorem dX11_count_17 : decode cX11_count 17 = .ok (.iconst (-1), 1) := by decide +kernel
theorem dX11_count_18 : decode cX11_count 18 = .ok (.ireturn, 1) := by decide +kernel
theorem dX11_finding_0 : decode cX11_finding 0 = .ok (.aload_n 0, 1) := by decide +kernel
theorem dX11_finding_1 : decode cX11_finding 1 = .ok (.getfield 87, 3) := by decide +kernel
theorem dX11_finding_4 : decode cX11_finding 4 = .ok (.ireturn, 1) := by decide +kernel
theorem dX11_findings_0 : decode cX11_findings 0 = .ok (.iload_n 1, 1) := by decide +kernel
theorem dX11_findings_1 : decode cX11_findings 1 = .ok (.iconst 1, 1) := by decide +kernel
theorem dX11_findings_2 : decode cX11_findings 2 = .ok (.iconst 5, 1) := by decide +kernel
theorem dX11_findings_3 : decode cX11_findings 3 = .ok (.invokestatic 91, 3) := by decide +kernel
theorem dX11_findings_6 : decode cX11_findings 6 = .ok (.ifCond .eq 12, 3) := by decide +kernel
theorem dX11_findings_9 : decode cX11_findings 9 = .ok (.aload_n 0, 1) := by decide +kernel
theorem dX11_findings_10 : decode cX11_findings 10 = .ok (.getfield 7, 3) := by decide +kernel
theorem dX11_findings_13 : decode cX11_findings 13 = .ok (.iload_n 1, 1) := by decide +kernel
theorem dX11_findings_14 : decode cX11_findings 14 = .ok (.iaload, 1) := by decide +kernel
theorem dX11_findings_15 : decode cX11_findings 15 = .ok (.goto 4, 3) := by decide +kernel
theorem dX11_findings_18 : decode cX11_findings 18 = .ok (.iconst (-1), 1) := by decide +kernel
theorem dX11_findings_19 : decode cX11_findings 19 = .ok (.ireturn, 1) := by decide +kernel
theorem dX11_digest_0 : decode cX11_digest 0 = .ok (.ldc2_w 214, 3) := by decide +kernel
theorem dX11_digest_3 : decode cX11_digest 3 = .ok (.lstore_n 1, 1) := by decide +kernel
theorem dX11_digest_4 : decode cX11_digest 4 = .ok (.iconst 0, 1) := by decide +kernel
theorem dX11_digest_5 : decode cX11_digest 5 = .ok (.istore_n 3, 1) := by decide +kernel
theorem dX11_digest_6 : decode cX11_digest 6 = .ok (.iload_n 3, 1) := by decide +kernel
theorem dX11_digest_7 : decode cX11_digest 7 = .ok (.iconst 3, 1) := by decide +kernel
theorem dX11_digest_8 : decode cX11_digest 8 = .ok (.if_icmp .gt 22, 3) := by decide +kernel
theorem dX11_digest_11 : decode cX11_digest 11 = .ok (.ldc2_w 216, 3) := by decide +kernel
theorem dX11_digest_14 : decode cX11_digest 14 = .ok (.lload_n 1, 1) := by decide +kernel
theorem dX11_digest_15 : decode cX11_digest 15 = .ok (.lmul, 1) := by decide +kernel
theorem dX11_digest_16 : decode cX11_digest 16 = .ok (.aload_n 0, 1) := by decide +kernel
theorem dX11_digest_17 : decode cX11_digest 17 = .ok (.iload_n 3, 1) := by decide +kernel
theorem dX11_digest_18 : decode cX11_digest 18 = .ok (.invokevirtual 211, 3) := by decide +kernel
theorem dX11_digest_21 : decode cX11_digest 21 = .ok (.i2l, 1) := by decide +kernel
theorem dX11_digest_22 : decode cX11_digest 22 = .ok (.ladd, 1) := by decide +kernel
theorem dX11_digest_23 : decode cX11_digest 23 = .ok (.lstore_n 1, 1) := by decide +kernel
theorem dX11_digest_24 : decode cX11_digest 24 = .ok (.iinc 3 1, 3) := by decide +kernel
theorem dX11_digest_27 : decode cX11_digest 27 = .ok (.goto (-21), 3) := by decide +kernel
theorem dX11_digest_30 : decode cX11_digest 30 = .ok (.iconst 0, 1) := by decide +kernel
theorem dX11_digest_31 : decode cX11_digest 31 = .ok (.istore_n 3, 1) := by decide +kernel
theorem dX11_digest_32 : decode cX11_digest 32 = .ok (.iload_n 3, 1) := by decide +kernel
theorem dX11_digest_33 : decode cX11_digest 33 = .ok (.aload_n 0, 1) := by decide +kernel
theorem dX11_digest_34 : decode cX11_digest 34 = .ok (.getfield 115, 3) := by decide +kernel
theorem dX11_digest_37 : decode cX11_digest 37 = .ok (.if_icmp .ge 107, 3) := by decide +kernel
theorem dX11_digest_40 : decode cX11_digest 40 = .ok (.aload_n 0, 1) := by decide +kernel
theorem dX11_digest_41 : decode cX11_digest 41 = .ok (.getfield 31, 3) := by decide +kernel
theorem dX11_digest_44 : decode cX11_digest 44 = .ok (.iload_n 3, 1) := by decide +kernel
theorem dX11_digest_45 : decode cX11_digest 45 = .ok (.baload, 1) := by decide +kernel
theorem dX11_digest_46 : decode cX11_digest 46 = .ok (.ifCond .eq 11, 3) := by decide +kernel
theorem dX11_digest_49 : decode cX11_digest 49 = .ok (.ldc2_w 216, 3) := by decide +kernel
theorem dX11_digest_52 : decode cX11_digest 52 = .ok (.lload_n 1, 1) := by decide +kernel
theorem dX11_digest_53 : decode cX11_digest 53 = .ok (.lmul, 1) := by decide +kernel
theorem dX11_digest_54 : decode cX11_digest 54 = .ok (.lconst 1, 1) := by decide +kernel
theorem dX11_digest_55 : decode cX11_digest 55 = .ok (.lsub, 1) := by decide +kernel
theorem dX11_digest_56 : decode cX11_digest 56 = .ok (.lstore_n 1, 1) := by decide +kernel
theorem dX11_digest_57 : decode cX11_digest 57 = .ok (.iconst 0, 1) := by decide +kernel
theorem dX11_digest_58 : decode cX11_digest 58 = .ok (.istore 4, 2) := by decide +kernel
theorem dX11_digest_60 : decode cX11_digest 60 = .ok (.iload 4, 2) := by decide +kernel
theorem dX11_digest_62 : decode cX11_digest 62 = .ok (.iconst 4, 1) := by decide +kernel
theorem dX11_digest_63 : decode cX11_digest 63 = .ok (.if_icmp .gt 33, 3) := by decide +kernel
theorem dX11_digest_66 : decode cX11_digest 66 = .ok (.aload_n 0, 1) := by decide +kernel
theorem dX11_digest_67 : decode cX11_digest 67 = .ok (.getfield 31, 3) := by decide +kernel
theorem dX11_digest_70 : decode cX11_digest 70 = .ok (.iload_n 3, 1) := by decide +kernel
theorem dX11_digest_71 : decode cX11_digest 71 = .ok (.baload, 1) := by decide +kernel
theorem dX11_digest_72 : decode cX11_digest 72 = .ok (.ifCond .ne 24, 3) := by decide +kernel
theorem dX11_digest_75 : decode cX11_digest 75 = .ok (.ldc2_w 216, 3) := by decide +kernel
theorem dX11_digest_78 : decode cX11_digest 78 = .ok (.lload_n 1, 1) := by decide +kernel
theorem dX11_digest_79 : decode cX11_digest 79 = .ok (.lmul, 1) := by decide +kernel
theorem dX11_digest_80 : decode cX11_digest 80 = .ok (.aload_n 0, 1) := by decide +kernel
theorem dX11_digest_81 : decode cX11_digest 81 = .ok (.iload_n 3, 1) := by decide +kernel
theorem dX11_digest_82 : decode cX11_digest 82 = .ok (.iload 4, 2) := by decide +kernel
theorem dX11_digest_84 : decode cX11_digest 84 = .ok (.invokevirtual 125, 3) := by decide +kernel
theorem dX11_digest_87 : decode cX11_digest 87 = .ok (.i2l, 1) := by decide +kernel
theorem dX11_digest_88 : decode cX11_digest 88 = .ok (.ladd, 1) := by decide +kernel
theorem dX11_digest_89 : decode cX11_digest 89 = .ok (.lstore_n 1, 1) := by decide +kernel
theorem dX11_digest_90 : decode cX11_digest 90 = .ok (.iinc 4 1, 3) := by decide +kernel
theorem dX11_digest_93 : decode cX11_digest 93 = .ok (.goto (-33), 3) := by decide +kernel
theorem dX11_digest_96 : decode cX11_digest 96 = .ok (.iconst 0, 1) := by decide +kernel
theorem dX11_digest_97 : decode cX11_digest 97 = .ok (.istore 4, 2) := by decide +kernel
theorem dX11_digest_99 : decode cX11_digest 99 = .ok (.iload 4, 2) := by decide +kernel
theorem dX11_digest_101 : decode cX11_digest 101 = .ok (.aload_n 0, 1) := by decide +kernel
theorem dX11_digest_102 : decode cX11_digest 102 = .ok (.getfield 133, 3) := by decide +kernel
theorem dX11_digest_105 : decode cX11_digest 105 = .ok (.if_icmp .ge 33, 3) := by decide +kernel
theorem dX11_digest_108 : decode cX11_digest 108 = .ok (.aload_n 0, 1) := by decide +kernel
theorem dX11_digest_109 : decode cX11_digest 109 = .ok (.getfield 31, 3) := by decide +kernel
theorem dX11_digest_112 : decode cX11_digest 112 = .ok (.iload_n 3, 1) := by decide +kernel
theorem dX11_digest_113 : decode cX11_digest 113 = .ok (.baload, 1) := by decide +kernel
theorem dX11_digest_114 : decode cX11_digest 114 = .ok (.ifCond .ne 24, 3) := by decide +kernel
theorem dX11_digest_117 : decode cX11_digest 117 = .ok (.ldc2_w 216, 3) := by decide +kernel
theorem dX11_digest_120 : decode cX11_digest 120 = .ok (.lload_n 1, 1) := by decide +kernel
theorem dX11_digest_121 : decode cX11_digest 121 = .ok (.lmul, 1) := by decide +kernel
theorem dX11_digest_122 : decode cX11_digest 122 = .ok (.aload_n 0, 1) := by decide +kernel
theorem dX11_digest_123 : decode cX11_digest 123 = .ok (.iload 4, 2) := by decide +kernel
theorem dX11_digest_125 : decode cX11_digest 125 = .ok (.iload_n 3, 1) := by decide +kernel
theorem dX11_digest_126 : decode cX11_digest 126 = .ok (.invokevirtual 143, 3) := by decide +kernel
theorem dX11_digest_129 : decode cX11_digest 129 = .ok (.i2l, 1) := by decide +kernel
theorem dX11_digest_130 : decode cX11_digest 130 = .ok (.ladd, 1) := by decide +kernel
theorem dX11_digest_131 : decode cX11_digest 131 = .ok (.lstore_n 1, 1) := by decide +kernel
theorem dX11_digest_132 : decode cX11_digest 132 = .ok (.iinc 4 1, 3) := by decide +kernel
theorem dX11_digest_135 : decode cX11_digest 135 = .ok (.goto (-36), 3) := by decide +kernel
theorem dX11_digest_138 : decode cX11_digest 138 = .ok (.iinc 3 1, 3) := by decide +kernel
theorem dX11_digest_141 : decode cX11_digest 141 = .ok (.goto (-109), 3) := by decide +kernel
theorem dX11_digest_144 : decode cX11_digest 144 = .ok (.iconst 0, 1) := by decide +kernel
theorem dX11_digest_145 : decode cX11_digest 145 = .ok (.istore_n 3, 1) := by decide +kernel
theorem dX11_digest_146 : decode cX11_digest 146 = .ok (.iload_n 3, 1) := by decide +kernel
theorem dX11_digest_147 : decode cX11_digest 147 = .ok (.iconst 4, 1) := by decide +kernel
theorem dX11_digest_148 : decode cX11_digest 148 = .ok (.if_icmp .ge 77, 3) := by decide +kernel
theorem dX11_digest_151 : decode cX11_digest 151 = .ok (.ldc2_w 216, 3) := by decide +kernel
theorem dX11_digest_154 : decode cX11_digest 154 = .ok (.lload_n 1, 1) := by decide +kernel
theorem dX11_digest_155 : decode cX11_digest 155 = .ok (.lmul, 1) := by decide +kernel
theorem dX11_digest_156 : decode cX11_digest 156 = .ok (.aload_n 0, 1) := by decide +kernel
theorem dX11_digest_157 : decode cX11_digest 157 = .ok (.getfield 13, 3) := by decide +kernel
theorem dX11_digest_160 : decode cX11_digest 160 = .ok (.iload_n 3, 1) := by decide +kernel
theorem dX11_digest_161 : decode cX11_digest 161 = .ok (.iaload, 1) := by decide +kernel
theorem dX11_digest_162 : decode cX11_digest 162 = .ok (.ifCond .ge 7, 3) := by decide +kernel
theorem dX11_digest_165 : decode cX11_digest 165 = .ok (.iconst (-1), 1) := by decide +kernel
theorem dX11_digest_166 : decode cX11_digest 166 = .ok (.goto 9, 3) := by decide +kernel
theorem dX11_digest_169 : decode cX11_digest 169 = .ok (.aload_n 0, 1) := by decide +kernel
theorem dX11_digest_170 : decode cX11_digest 170 = .ok (.getfield 13, 3) := by decide +kernel
theorem dX11_digest_173 : decode cX11_digest 173 = .ok (.iload_n 3, 1) := by decide +kernel
theorem dX11_digest_174 : decode cX11_digest 174 = .ok (.iaload, 1) := by decide +kernel
theorem dX11_digest_175 : decode cX11_digest 175 = .ok (.i2l, 1) := by decide +kernel
theorem dX11_digest_176 : decode cX11_digest 176 = .ok (.ladd, 1) := by decide +kernel
theorem dX11_digest_177 : decode cX11_digest 177 = .ok (.lstore_n 1, 1) := by decide +kernel
theorem dX11_digest_178 : decode cX11_digest 178 = .ok (.iconst 0, 1) := by decide +kernel
theorem dX11_digest_179 : decode cX11_digest 179 = .ok (.istore 4, 2) := by decide +kernel
theorem dX11_digest_181 : decode cX11_digest 181 = .ok (.iload 4, 2) := by decide +kernel
theorem dX11_digest_183 : decode cX11_digest 183 = .ok (.aload_n 0, 1) := by decide +kernel
theorem dX11_digest_184 : decode cX11_digest 184 = .ok (.getfield 13, 3) := by decide +kernel
theorem dX11_digest_187 : decode cX11_digest 187 = .ok (.iload_n 3, 1) := by decide +kernel
theorem dX11_digest_188 : decode cX11_digest 188 = .ok (.iaload, 1) := by decide +kernel
theorem dX11_digest_189 : decode cX11_digest 189 = .ok (.if_icmp .ge 30, 3) := by decide +kernel
theorem dX11_digest_192 : decode cX11_digest 192 = .ok (.ldc2_w 216, 3) := by decide +kernel
theorem dX11_digest_195 : decode cX11_digest 195 = .ok (.lload_n 1, 1) := by decide +kernel
theorem dX11_digest_196 : decode cX11_digest 196 = .ok (.lmul, 1) := by decide +kernel
theorem dX11_digest_197 : decode cX11_digest 197 = .ok (.aload_n 0, 1) := by decide +kernel
theorem dX11_digest_198 : decode cX11_digest 198 = .ok (.getfield 16, 3) := by decide +kernel
theorem dX11_digest_201 : decode cX11_digest 201 = .ok (.sipush 200, 3) := by decide +kernel
theorem dX11_digest_204 : decode cX11_digest 204 = .ok (.iload_n 3, 1) := by decide +kernel
theorem dX11_digest_205 : decode cX11_digest 205 = .ok (.imul, 1) := by decide +kernel
theorem dX11_digest_206 : decode cX11_digest 206 = .ok (.iload 4, 2) := by decide +kernel
theorem dX11_digest_208 : decode cX11_digest 208 = .ok (.iadd, 1) := by decide +kernel
theorem dX11_digest_209 : decode cX11_digest 209 = .ok (.iaload, 1) := by decide +kernel
theorem dX11_digest_210 : decode cX11_digest 210 = .ok (.i2l, 1) := by decide +kernel
theorem dX11_digest_211 : decode cX11_digest 211 = .ok (.ladd, 1) := by decide +kernel
theorem dX11_digest_212 : decode cX11_digest 212 = .ok (.lstore_n 1, 1) := by decide +kernel
theorem dX11_digest_213 : decode cX11_digest 213 = .ok (.iinc 4 1, 3) := by decide +kernel
theorem dX11_digest_216 : decode cX11_digest 216 = .ok (.goto (-35), 3) := by decide +kernel
theorem dX11_digest_219 : decode cX11_digest 219 = .ok (.iinc 3 1, 3) := by decide +kernel
theorem dX11_digest_222 : decode cX11_digest 222 = .ok (.goto (-76), 3) := by decide +kernel
theorem dX11_digest_225 : decode cX11_digest 225 = .ok (.lload_n 1, 1) := by decide +kernel
theorem dX11_digest_226 : decode cX11_digest 226 = .ok (.lreturn, 1) := by decide +kernel
theorem dL_law_0 : decode cL_law 0 = .ok (.new 7, 3) := by decide +kernel
theorem dL_law_3 : decode cL_law 3 = .ok (.dup, 1) := by decide +kernel
theorem dL_law_4 : decode cL_law 4 = .ok (.invokespecial 9, 3) := by decide +kernel
theorem dL_law_7 : decode cL_law 7 = .ok (.astore_n 1, 1) := by decide +kernel
theorem dL_law_8 : decode cL_law 8 = .ok (.new 10, 3) := by decide +kernel
theorem dL_law_11 : decode cL_law 11 = .ok (.dup, 1) := by decide +kernel
theorem dL_law_12 : decode cL_law 12 = .ok (.invokespecial 12, 3) := by decide +kernel
theorem dL_law_15 : decode cL_law 15 = .ok (.astore_n 2, 1) := by decide +kernel
theorem dL_law_16 : decode cL_law 16 = .ok (.iconst 0, 1) := by decide +kernel
theorem dL_law_17 : decode cL_law 17 = .ok (.istore_n 3, 1) := by decide +kernel
theorem dL_law_18 : decode cL_law 18 = .ok (.iload_n 3, 1) := by decide +kernel
theorem dL_law_19 : decode cL_law 19 = .ok (.aload_n 0, 1) := by decide +kernel
theorem dL_law_20 : decode cL_law 20 = .ok (.arraylength, 1) := by decide +kernel
theorem dL_law_21 : decode cL_law 21 = .ok (.bipush 6, 2) := by decide +kernel
theorem dL_law_23 : decode cL_law 23 = .ok (.isub, 1) := by decide +kernel
theorem dL_law_24 : decode cL_law 24 = .ok (.if_icmp .gt 1159, 3) := by decide +kernel
theorem dL_law_27 : decode cL_law 27 = .ok (.aload_n 0, 1) := by decide +kernel
theorem dL_law_28 : decode cL_law 28 = .ok (.iload_n 3, 1) := by decide +kernel
theorem dL_law_29 : decode cL_law 29 = .ok (.iaload, 1) := by decide +kernel
theorem dL_law_30 : decode cL_law 30 = .ok (.bipush 31, 2) := by decide +kernel
theorem dL_law_32 : decode cL_law 32 = .ok (.iand, 1) := by decide +kernel
theorem dL_law_33 : decode cL_law 33 = .ok (.tableswitch 1144 0 30 #[139, 172, 215, 238, 301, 354, 387, 420, 443, 476, 509, 542, 575, 598, 621, 654, 687, 710, 743, 766, 799, 882, 945, 968, 981, 1014, 1057, 1071, 1094, 1107, 1130], 139) := by decide +kernel
theorem dL_law_172 : decode cL_law 172 = .ok (.aload_n 1, 1) := by decide +kernel
theorem dL_law_173 : decode cL_law 173 = .ok (.aload_n 0, 1) := by decide +kernel
theorem dL_law_174 : decode cL_law 174 = .ok (.iload_n 3, 1) := by decide +kernel
theorem dL_law_175 : decode cL_law 175 = .ok (.iconst 1, 1) := by decide +kernel
theorem dL_law_176 : decode cL_law 176 = .ok (.iadd, 1) := by decide +kernel
theorem dL_law_177 : decode cL_law 177 = .ok (.iaload, 1) := by decide +kernel
theorem dL_law_178 : decode cL_law 178 = .ok (.aload_n 0, 1) := by decide +kernel
theorem dL_law_179 : decode cL_law 179 = .ok (.iload_n 3, 1) := by decide +kernel
theorem dL_law_180 : decode cL_law 180 = .ok (.iconst 2, 1) := by decide +kernel
theorem dL_law_181 : decode cL_law 181 = .ok (.iadd, 1) := by decide +kernel
theorem dL_law_182 : decode cL_law 182 = .ok (.iaload, 1) := by decide +kernel
theorem dL_law_183 : decode cL_law 183 = .ok (.invokevirtual 13, 3) := by decide +kernel
theorem dL_law_186 : decode cL_law 186 = .ok (.aload_n 2, 1) := by decide +kernel
theorem dL_law_187 : decode cL_law 187 = .ok (.aload_n 0, 1) := by decide +kernel
theorem dL_law_188 : decode cL_law 188 = .ok (.iload_n 3, 1) := by decide +kernel
theorem dL_law_189 : decode cL_law 189 = .ok (.iconst 1, 1) := by decide +kernel
theorem dL_law_190 : decode cL_law 190 = .ok (.iadd, 1) := by decide +kernel
theorem dL_law_191 : decode cL_law 191 = .ok (.iaload, 1) := by decide +kernel
theorem dL_law_192 : decode cL_law 192 = .ok (.aload_n 0, 1) := by decide +kernel
theorem dL_law_193 : decode cL_law 193 = .ok (.iload_n 3, 1) := by decide +kernel
theorem dL_law_194 : decode cL_law 194 = .ok (.iconst 2, 1) := by decide +kernel
theorem dL_law_195 : decode cL_law 195 = .ok (.iadd, 1) := by decide +kernel
theorem dL_law_196 : decode cL_law 196 = .ok (.iaload, 1) := by decide +kernel
theorem dL_law_197 : decode cL_law 197 = .ok (.invokevirtual 17, 3) := by decide +kernel
theorem dL_law_200 : decode cL_law 200 = .ok (.if_icmp .eq 977, 3) := by decide +kernel
theorem dL_law_203 : decode cL_law 203 = .ok (.iconst 0, 1) := by decide +kernel
theorem dL_law_204 : decode cL_law 204 = .ok (.ireturn, 1) := by decide +kernel
theorem dL_law_205 : decode cL_law 205 = .ok (.aload_n 1, 1) := by decide +kernel
theorem dL_law_206 : decode cL_law 206 = .ok (.aload_n 0, 1) := by decide +kernel
theorem dL_law_207 : decode cL_law 207 = .ok (.iload_n 3, 1) := by decide +kernel
theorem dL_law_208 : decode cL_law 208 = .ok (.iconst 1, 1) := by decide +kernel
theorem dL_law_209 : decode cL_law 209 = .ok (.iadd, 1) := by decide +kernel
theorem dL_law_210 : decode cL_law 210 = .ok (.iaload, 1) := by decide +kernel
theorem dL_law_211 : decode cL_law 211 = .ok (.aload_n 0, 1) := by decide +kernel
theorem dL_law_212 : decode cL_law 212 = .ok (.iload_n 3, 1) := by decide +kernel
theorem dL_law_213 : decode cL_law 213 = .ok (.iconst 2, 1) := by decide +kernel
theorem dL_law_214 : decode cL_law 214 = .ok (.iadd, 1) := by decide +kernel
theorem dL_law_215 : decode cL_law 215 = .ok (.iaload, 1) := by decide +kernel
theorem dL_law_216 : decode cL_law 216 = .ok (.aload_n 0, 1) := by decide +kernel
theorem dL_law_217 : decode cL_law 217 = .ok (.iload_n 3, 1) := by decide +kernel
theorem dL_law_218 : decode cL_law 218 = .ok (.iconst 3, 1) := by decide +kernel
theorem dL_law_219 : decode cL_law 219 = .ok (.iadd, 1) := by decide +kernel
theorem dL_law_220 : decode cL_law 220 = .ok (.iaload, 1) := by decide +kernel
theorem dL_law_221 : decode cL_law 221 = .ok (.invokevirtual 18, 3) := by decide +kernel
theorem dL_law_224 : decode cL_law 224 = .ok (.aload_n 2, 1) := by decide +kernel
theorem dL_law_225 : decode cL_law 225 = .ok (.aload_n 0, 1) := by decide +kernel
theorem dL_law_226 : decode cL_law 226 = .ok (.iload_n 3, 1) := by decide +kernel
theorem dL_law_227 : decode cL_law 227 = .ok (.iconst 1, 1) := by decide +kernel
theorem dL_law_228 : decode cL_law 228 = .ok (.iadd, 1) := by decide +kernel
theorem dL_law_229 : decode cL_law 229 = .ok (.iaload, 1) := by decide +kernel
theorem dL_law_230 : decode cL_law 230 = .ok (.aload_n 0, 1) := by decide +kernel
theorem dL_law_231 : decode cL_law 231 = .ok (.iload_n 3, 1) := by decide +kernel
theorem dL_law_232 : decode cL_law 232 = .ok (.iconst 2, 1) := by decide +kernel
theorem dL_law_233 : decode cL_law 233 = .ok (.iadd, 1) := by decide +kernel
theorem dL_law_234 : decode cL_law 234 = .ok (.iaload, 1) := by decide +kernel
theorem dL_law_235 : decode cL_law 235 = .ok (.aload_n 0, 1) := by decide +kernel
theorem dL_law_236 : decode cL_law 236 = .ok (.iload_n 3, 1) := by decide +kernel
theorem dL_law_237 : decode cL_law 237 = .ok (.iconst 3, 1) := by decide +kernel
theorem dL_law_238 : decode cL_law 238 = .ok (.iadd, 1) := by decide +kernel
theorem dL_law_239 : decode cL_law 239 = .ok (.iaload, 1) := by decide +kernel
theorem dL_law_240 : decode cL_law 240 = .ok (.invokevirtual 22, 3) := by decide +kernel
theorem dL_law_243 : decode cL_law 243 = .ok (.if_icmp .eq 934, 3) := by decide +kernel
theorem dL_law_246 : decode cL_law 246 = .ok (.iconst 0, 1) := by decide +kernel
theorem dL_law_247 : decode cL_law 247 = .ok (.ireturn, 1) := by decide +kernel
theorem dL_law_248 : decode cL_law 248 = .ok (.aload_n 1, 1) := by decide +kernel
theorem dL_law_249 : decode cL_law 249 = .ok (.aload_n 0, 1) := by decide +kernel
theorem dL_law_250 : decode cL_law 250 = .ok (.iload_n 3, 1) := by decide +kernel
theorem dL_law_251 : decode cL_law 251 = .ok (.iconst 1, 1) := by decide +kernel
theorem dL_law_252 : decode cL_law 252 = .ok (.iadd, 1) := by decide +kernel
theorem dL_law_253 : decode cL_law 253 = .ok (.iaload, 1) := by decide +kernel
theorem dL_law_254 : decode cL_law 254 = .ok (.invokevirtual 23, 3) := by decide +kernel
theorem dL_law_257 : decode cL_law 257 = .ok (.aload_n 2, 1) := by decide +kernel
theorem dL_law_258 : decode cL_law 258 = .ok (.aload_n 0, 1) := by decide +kernel
theorem dL_law_259 : decode cL_law 259 = .ok (.iload_n 3, 1) := by decide +kernel
theorem dL_law_260 : decode cL_law 260 = .ok (.iconst 1, 1) := by decide +kernel
theorem dL_law_261 : decode cL_law 261 = .ok (.iadd, 1) := by decide +kernel
theorem dL_law_262 : decode cL_law 262 = .ok (.iaload, 1) := by decide +kernel
theorem dL_law_263 : decode cL_law 263 = .ok (.invokevirtual 27, 3) := by decide +kernel
theorem dL_law_266 : decode cL_law 266 = .ok (.if_icmp .eq 911, 3) := by decide +kernel
theorem dL_law_269 : decode cL_law 269 = .ok (.iconst 0, 1) := by decide +kernel
theorem dL_law_270 : decode cL_law 270 = .ok (.ireturn, 1) := by decide +kernel
theorem dL_law_271 : decode cL_law 271 = .ok (.aload_n 1, 1) := by decide +kernel
theorem dL_law_272 : decode cL_law 272 = .ok (.aload_n 0, 1) := by decide +kernel
theorem dL_law_273 : decode cL_law 273 = .ok (.iload_n 3, 1) := by decide +kernel
theorem dL_law_274 : decode cL_law 274 = .ok (.iconst 1, 1) := by decide +kernel
theorem dL_law_275 : decode cL_law 275 = .ok (.iadd, 1) := by decide +kernel
theorem dL_law_276 : decode cL_law 276 = .ok (.iaload, 1) := by decide +kernel
theorem dL_law_277 : decode cL_law 277 = .ok (.aload_n 0, 1) := by decide +kernel
theorem dL_law_278 : decode cL_law 278 = .ok (.iload_n 3, 1) := by decide +kernel
theorem dL_law_279 : decode cL_law 279 = .ok (.iconst 2, 1) := by decide +kernel
theorem dL_law_280 : decode cL_law 280 = .ok (.iadd, 1) := by decide +kernel
theorem dL_law_281 : decode cL_law 281 = .ok (.iaload, 1) := by decide +kernel
theorem dL_law_282 : decode cL_law 282 = .ok (.aload_n 0, 1) := by decide +kernel
theorem dL_law_283 : decode cL_law 283 = .ok (.iload_n 3, 1) := by decide +kernel
theorem dL_law_284 : decode cL_law 284 = .ok (.iconst 3, 1) := by decide +kernel
theorem dL_law_285 : decode cL_law 285 = .ok (.iadd, 1) := by decide +kernel
theorem dL_law_286 : decode cL_law 286 = .ok (.iaload, 1) := by decide +kernel
theorem dL_law_287 : decode cL_law 287 = .ok (.aload_n 0, 1) := by decide +kernel
theorem dL_law_288 : decode cL_law 288 = .ok (.iload_n 3, 1) := by decide +kernel
theorem dL_law_289 : decode cL_law 289 = .ok (.iconst 4, 1) := by decide +kernel
theorem dL_law_290 : decode cL_law 290 = .ok (.iadd, 1) := by decide +kernel
theorem dL_law_291 : decode cL_law 291 = .ok (.iaload, 1) := by decide +kernel
theorem dL_law_292 : decode cL_law 292 = .ok (.aload_n 0, 1) := by decide +kernel
theorem dL_law_293 : decode cL_law 293 = .ok (.iload_n 3, 1) := by decide +kernel
theorem dL_law_294 : decode cL_law 294 = .ok (.iconst 5, 1) := by decide +kernel
theorem dL_law_295 : decode cL_law 295 = .ok (.iadd, 1) := by decide +kernel
theorem dL_law_296 : decode cL_law 296 = .ok (.iaload, 1) := by decide +kernel
theorem dL_law_297 : decode cL_law 297 = .ok (.invokevirtual 28, 3) := by decide +kernel
theorem dL_law_300 : decode cL_law 300 = .ok (.aload_n 2, 1) := by decide +kernel
theorem dL_law_301 : decode cL_law 301 = .ok (.aload_n 0, 1) := by decide +kernel
theorem dL_law_302 : decode cL_law 302 = .ok (.iload_n 3, 1) := by decide +kernel
theorem dL_law_303 : decode cL_law 303 = .ok (.iconst 1, 1) := by decide +kernel
theorem dL_law_304 : decode cL_law 304 = .ok (.iadd, 1) := by decide +kernel
theorem dL_law_305 : decode cL_law 305 = .ok (.iaload, 1) := by decide +kernel
theorem dL_law_306 : decode cL_law 306 = .ok (.aload_n 0, 1) := by decide +kernel
theorem dL_law_307 : decode cL_law 307 = .ok (.iload_n 3, 1) := by decide +kernel
theorem dL_law_308 : decode cL_law 308 = .ok (.iconst 2, 1) := by decide +kernel
theorem dL_law_309 : decode cL_law 309 = .ok (.iadd, 1) := by decide +kernel
theorem dL_law_310 : decode cL_law 310 = .ok (.iaload, 1) := by decide +kernel
theorem dL_law_311 : decode cL_law 311 = .ok (.aload_n 0, 1) := by decide +kernel
theorem dL_law_312 : decode cL_law 312 = .ok (.iload_n 3, 1) := by decide +kernel
theorem dL_law_313 : decode cL_law 313 = .ok (.iconst 3, 1) := by decide +kernel
theorem dL_law_314 : decode cL_law 314 = .ok (.iadd, 1) := by decide +kernel
theorem dL_law_315 : decode cL_law 315 = .ok (.iaload, 1) := by decide +kernel
theorem dL_law_316 : decode cL_law 316 = .ok (.aload_n 0, 1) := by decide +kernel
theorem dL_law_317 : decode cL_law 317 = .ok (.iload_n 3, 1) := by decide +kernel
theorem dL_law_318 : decode cL_law 318 = .ok (.iconst 4, 1) := by decide +kernel
theorem dL_law_319 : decode cL_law 319 = .ok (.iadd, 1) := by decide +kernel
theorem dL_law_320 : decode cL_law 320 = .ok (.iaload, 1) := by decide +kernel
theorem dL_law_321 : decode cL_law 321 = .ok (.aload_n 0, 1) := by decide +kernel
theorem dL_law_322 : decode cL_law 322 = .ok (.iload_n 3, 1) := by decide +kernel
theorem dL_law_323 : decode cL_law 323 = .ok (.iconst 5, 1) := by decide +kernel
theorem dL_law_324 : decode cL_law 324 = .ok (.iadd, 1) := by decide +kernel
theorem dL_law_325 : decode cL_law 325 = .ok (.iaload, 1) := by decide +kernel
theorem dL_law_326 : decode cL_law 326 = .ok (.invokevirtual 32, 3) := by decide +kernel
theorem dL_law_329 : decode cL_law 329 = .ok (.if_icmp .eq 848, 3) := by decide +kernel
theorem dL_law_332 : decode cL_law 332 = .ok (.iconst 0, 1) := by decide +kernel
theorem dL_law_333 : decode cL_law 333 = .ok (.ireturn, 1) := by decide +kernel
theorem dL_law_334 : decode cL_law 334 = .ok (.aload_n 1, 1) := by decide +kernel
theorem dL_law_335 : decode cL_law 335 = .ok (.aload_n 0, 1) := by decide +kernel
theorem dL_law_336 : decode cL_law 336 = .ok (.iload_n 3, 1) := by decide +kernel
theorem dL_law_337 : decode cL_law 337 = .ok (.iconst 1, 1) := by decide +kernel
theorem dL_law_338 : decode cL_law 338 = .ok (.iadd, 1) := by decide +kernel
theorem dL_law_339 : decode cL_law 339 = .ok (.iaload, 1) := by decide +kernel
theorem dL_law_340 : decode cL_law 340 = .ok (.aload_n 0, 1) := by decide +kernel
theorem dL_law_341 : decode cL_law 341 = .ok (.iload_n 3, 1) := by decide +kernel
theorem dL_law_342 : decode cL_law 342 = .ok (.iconst 2, 1) := by decide +kernel
theorem dL_law_343 : decode cL_law 343 = .ok (.iadd, 1) := by decide +kernel
theorem dL_law_344 : decode cL_law 344 = .ok (.iaload, 1) := by decide +kernel
theorem dL_law_345 : decode cL_law 345 = .ok (.aload_n 0, 1) := by decide +kernel
theorem dL_law_346 : decode cL_law 346 = .ok (.iload_n 3, 1) := by decide +kernel
theorem dL_law_347 : decode cL_law 347 = .ok (.iconst 3, 1) := by decide +kernel
theorem dL_law_348 : decode cL_law 348 = .ok (.iadd, 1) := by decide +kernel
theorem dL_law_349 : decode cL_law 349 = .ok (.iaload, 1) := by decide +kernel
theorem dL_law_350 : decode cL_law 350 = .ok (.aload_n 0, 1) := by decide +kernel
theorem dL_law_351 : decode cL_law 351 = .ok (.iload_n 3, 1) := by decide +kernel
theorem dL_law_352 : decode cL_law 352 = .ok (.iconst 4, 1) := by decide +kernel
theorem dL_law_353 : decode cL_law 353 = .ok (.iadd, 1) := by decide +kernel
theorem dL_law_354 : decode cL_law 354 = .ok (.iaload, 1) := by decide +kernel
theorem dL_law_355 : decode cL_law 355 = .ok (.invokevirtual 33, 3) := by decide +kernel
theorem dL_law_358 : decode cL_law 358 = .ok (.aload_n 2, 1) := by decide +kernel
theorem dL_law_359 : decode cL_law 359 = .ok (.aload_n 0, 1) := by decide +kernel
theorem dL_law_360 : decode cL_law 360 = .ok (.iload_n 3, 1) := by decide +kernel
theorem dL_law_361 : decode cL_law 361 = .ok (.iconst 1, 1) := by decide +kernel
theorem dL_law_362 : decode cL_law 362 = .ok (.iadd, 1) := by decide +kernel
theorem dL_law_363 : decode cL_law 363 = .ok (.iaload, 1) := by decide +kernel
theorem dL_law_364 : decode cL_law 364 = .ok (.aload_n 0, 1) := by decide +kernel
theorem dL_law_365 : decode cL_law 365 = .ok (.iload_n 3, 1) := by decide +kernel
theorem dL_law_366 : decode cL_law 366 = .ok (.iconst 2, 1) := by decide +kernel
theorem dL_law_367 : decode cL_law 367 = .ok (.iadd, 1) := by decide +kernel
theorem dL_law_368 : decode cL_law 368 = .ok (.iaload, 1) := by decide +kernel
theorem dL_law_369 : decode cL_law 369 = .ok (.aload_n 0, 1) := by decide +kernel
theorem dL_law_370 : decode cL_law 370 = .ok (.iload_n 3, 1) := by decide +kernel
theorem dL_law_371 : decode cL_law 371 = .ok (.iconst 3, 1) := by decide +kernel
theorem dL_law_372 : decode cL_law 372 = .ok (.iadd, 1) := by decide +kernel
theorem dL_law_373 : decode cL_law 373 = .ok (.iaload, 1) := by decide +kernel
theorem dL_law_374 : decode cL_law 374 = .ok (.aload_n 0, 1) := by decide +kernel
theorem dL_law_375 : decode cL_law 375 = .ok (.iload_n 3, 1) := by decide +kernel
theorem dL_law_376 : decode cL_law 376 = .ok (.iconst 4, 1) := by decide +kernel
theorem dL_law_377 : decode cL_law 377 = .ok (.iadd, 1) := by decide +kernel
theorem dL_law_378 : decode cL_law 378 = .ok (.iaload, 1) := by decide +kernel
theorem dL_law_379 : decode cL_law 379 = .ok (.invokevirtual 37, 3) := by decide +kernel
theorem dL_law_382 : decode cL_law 382 = .ok (.if_icmp .eq 795, 3) := by decide +kernel
theorem dL_law_385 : decode cL_law 385 = .ok (.iconst 0, 1) := by decide +kernel
theorem dL_law_386 : decode cL_law 386 = .ok (.ireturn, 1) := by decide +kernel
theorem dL_law_387 : decode cL_law 387 = .ok (.aload_n 1, 1) := by decide +kernel
theorem dL_law_388 : decode cL_law 388 = .ok (.aload_n 0, 1) := by decide +kernel
theorem dL_law_389 : decode cL_law 389 = .ok (.iload_n 3, 1) := by decide +kernel
theorem dL_law_390 : decode cL_law 390 = .ok (.iconst 1, 1) := by decide +kernel
theorem dL_law_391 : decode cL_law 391 = .ok (.iadd, 1) := by decide +kernel
theorem dL_law_392 : decode cL_law 392 = .ok (.iaload, 1) := by decide +kernel
theorem dL_law_393 : decode cL_law 393 = .ok (.aload_n 0, 1) := by decide +kernel
theorem dL_law_394 : decode cL_law 394 = .ok (.iload_n 3, 1) := by decide +kernel
theorem dL_law_395 : decode cL_law 395 = .ok (.iconst 2, 1) := by decide +kernel
theorem dL_law_396 : decode cL_law 396 = .ok (.iadd, 1) := by decide +kernel
theorem dL_law_397 : decode cL_law 397 = .ok (.iaload, 1) := by decide +kernel
theorem dL_law_398 : decode cL_law 398 = .ok (.invokevirtual 38, 3) := by decide +kernel
theorem dL_law_401 : decode cL_law 401 = .ok (.aload_n 2, 1) := by decide +kernel
theorem dL_law_402 : decode cL_law 402 = .ok (.aload_n 0, 1) := by decide +kernel
theorem dL_law_403 : decode cL_law 403 = .ok (.iload_n 3, 1) := by decide +kernel
theorem dL_law_404 : decode cL_law 404 = .ok (.iconst 1, 1) := by decide +kernel
theorem dL_law_405 : decode cL_law 405 = .ok (.iadd, 1) := by decide +kernel
theorem dL_law_406 : decode cL_law 406 = .ok (.iaload, 1) := by decide +kernel
theorem dL_law_407 : decode cL_law 407 = .ok (.aload_n 0, 1) := by decide +kernel
theorem dL_law_408 : decode cL_law 408 = .ok (.iload_n 3, 1) := by decide +kernel
theorem dL_law_409 : decode cL_law 409 = .ok (.iconst 2, 1) := by decide +kernel
theorem dL_law_410 : decode cL_law 410 = .ok (.iadd, 1) := by decide +kernel
theorem dL_law_411 : decode cL_law 411 = .ok (.iaload, 1) := by decide +kernel
theorem dL_law_412 : decode cL_law 412 = .ok (.invokevirtual 41, 3) := by decide +kernel
theorem dL_law_415 : decode cL_law 415 = .ok (.if_icmp .eq 762, 3) := by decide +kernel
theorem dL_law_418 : decode cL_law 418 = .ok (.iconst 0, 1) := by decide +kernel
theorem dL_law_419 : decode cL_law 419 = .ok (.ireturn, 1) := by decide +kernel
theorem dL_law_420 : decode cL_law 420 = .ok (.aload_n 1, 1) := by decide +kernel
theorem dL_law_421 : decode cL_law 421 = .ok (.aload_n 0, 1) := by decide +kernel
theorem dL_law_422 : decode cL_law 422 = .ok (.iload_n 3, 1) := by decide +kernel
theorem dL_law_423 : decode cL_law 423 = .ok (.iconst 1, 1) := by decide +kernel
theorem dL_law_424 : decode cL_law 424 = .ok (.iadd, 1) := by decide +kernel
theorem dL_law_425 : decode cL_law 425 = .ok (.iaload, 1) := by decide +kernel
theorem dL_law_426 : decode cL_law 426 = .ok (.aload_n 0, 1) := by decide +kernel
theorem dL_law_427 : decode cL_law 427 = .ok (.iload_n 3, 1) := by decide +kernel
theorem dL_law_428 : decode cL_law 428 = .ok (.iconst 2, 1) := by decide +kernel
theorem dL_law_429 : decode cL_law 429 = .ok (.iadd, 1) := by decide +kernel
theorem dL_law_430 : decode cL_law 430 = .ok (.iaload, 1) := by decide +kernel
theorem dL_law_431 : decode cL_law 431 = .ok (.invokevirtual 42, 3) := by decide +kernel
theorem dL_law_434 : decode cL_law 434 = .ok (.aload_n 2, 1) := by decide +kernel
theorem dL_law_435 : decode cL_law 435 = .ok (.aload_n 0, 1) := by decide +kernel
theorem dL_law_436 : decode cL_law 436 = .ok (.iload_n 3, 1) := by decide +kernel
theorem dL_law_437 : decode cL_law 437 = .ok (.iconst 1, 1) := by decide +kernel
theorem dL_law_438 : decode cL_law 438 = .ok (.iadd, 1) := by decide +kernel
theorem dL_law_439 : decode cL_law 439 = .ok (.iaload, 1) := by decide +kernel
theorem dL_law_440 : decode cL_law 440 = .ok (.aload_n 0, 1) := by decide +kernel
theorem dL_law_441 : decode cL_law 441 = .ok (.iload_n 3, 1) := by decide +kernel
theorem dL_law_442 : decode cL_law 442 = .ok (.iconst 2, 1) := by decide +kernel
theorem dL_law_443 : decode cL_law 443 = .ok (.iadd, 1) := by decide +kernel
theorem dL_law_444 : decode cL_law 444 = .ok (.iaload, 1) := by decide +kernel
theorem dL_law_445 : decode cL_law 445 = .ok (.invokevirtual 45, 3) := by decide +kernel
theorem dL_law_448 : decode cL_law 448 = .ok (.if_icmp .eq 729, 3) := by decide +kernel
theorem dL_law_451 : decode cL_law 451 = .ok (.iconst 0, 1) := by decide +kernel
theorem dL_law_452 : decode cL_law 452 = .ok (.ireturn, 1) := by decide +kernel
theorem dL_law_453 : decode cL_law 453 = .ok (.aload_n 1, 1) := by decide +kernel
theorem dL_law_454 : decode cL_law 454 = .ok (.aload_n 0, 1) := by decide +kernel
theorem dL_law_455 : decode cL_law 455 = .ok (.iload_n 3, 1) := by decide +kernel
theorem dL_law_456 : decode cL_law 456 = .ok (.iconst 1, 1) := by decide +kernel
theorem dL_law_457 : decode cL_law 457 = .ok (.iadd, 1) := by decide +kernel
theorem dL_law_458 : decode cL_law 458 = .ok (.iaload, 1) := by decide +kernel
theorem dL_law_459 : decode cL_law 459 = .ok (.invokevirtual 46, 3) := by decide +kernel
theorem dL_law_462 : decode cL_law 462 = .ok (.aload_n 2, 1) := by decide +kernel
theorem dL_law_463 : decode cL_law 463 = .ok (.aload_n 0, 1) := by decide +kernel
theorem dL_law_464 : decode cL_law 464 = .ok (.iload_n 3, 1) := by decide +kernel
theorem dL_law_465 : decode cL_law 465 = .ok (.iconst 1, 1) := by decide +kernel
theorem dL_law_466 : decode cL_law 466 = .ok (.iadd, 1) := by decide +kernel
theorem dL_law_467 : decode cL_law 467 = .ok (.iaload, 1) := by decide +kernel
theorem dL_law_468 : decode cL_law 468 = .ok (.invokevirtual 49, 3) := by decide +kernel
theorem dL_law_471 : decode cL_law 471 = .ok (.if_icmp .eq 706, 3) := by decide +kernel
theorem dL_law_474 : decode cL_law 474 = .ok (.iconst 0, 1) := by decide +kernel
theorem dL_law_475 : decode cL_law 475 = .ok (.ireturn, 1) := by decide +kernel
theorem dL_law_476 : decode cL_law 476 = .ok (.aload_n 1, 1) := by decide +kernel
theorem dL_law_477 : decode cL_law 477 = .ok (.aload_n 0, 1) := by decide +kernel
theorem dL_law_478 : decode cL_law 478 = .ok (.iload_n 3, 1) := by decide +kernel
theorem dL_law_479 : decode cL_law 479 = .ok (.iconst 1, 1) := by decide +kernel
theorem dL_law_480 : decode cL_law 480 = .ok (.iadd, 1) := by decide +kernel
theorem dL_law_481 : decode cL_law 481 = .ok (.iaload, 1) := by decide +kernel
theorem dL_law_482 : decode cL_law 482 = .ok (.aload_n 0, 1) := by decide +kernel
theorem dL_law_483 : decode cL_law 483 = .ok (.iload_n 3, 1) := by decide +kernel
theorem dL_law_484 : decode cL_law 484 = .ok (.iconst 2, 1) := by decide +kernel
theorem dL_law_485 : decode cL_law 485 = .ok (.iadd, 1) := by decide +kernel
theorem dL_law_486 : decode cL_law 486 = .ok (.iaload, 1) := by decide +kernel
theorem dL_law_487 : decode cL_law 487 = .ok (.invokevirtual 50, 3) := by decide +kernel
theorem dL_law_490 : decode cL_law 490 = .ok (.aload_n 2, 1) := by decide +kernel
theorem dL_law_491 : decode cL_law 491 = .ok (.aload_n 0, 1) := by decide +kernel
theorem dL_law_492 : decode cL_law 492 = .ok (.iload_n 3, 1) := by decide +kernel
theorem dL_law_493 : decode cL_law 493 = .ok (.iconst 1, 1) := by decide +kernel
theorem dL_law_494 : decode cL_law 494 = .ok (.iadd, 1) := by decide +kernel
theorem dL_law_495 : decode cL_law 495 = .ok (.iaload, 1) := by decide +kernel
theorem dL_law_496 : decode cL_law 496 = .ok (.aload_n 0, 1) := by decide +kernel
theorem dL_law_497 : decode cL_law 497 = .ok (.iload_n 3, 1) := by decide +kernel
theorem dL_law_498 : decode cL_law 498 = .ok (.iconst 2, 1) := by decide +kernel
theorem dL_law_499 : decode cL_law 499 = .ok (.iadd, 1) := by decide +kernel
theorem dL_law_500 : decode cL_law 500 = .ok (.iaload, 1) := by decide +kernel
theorem dL_law_501 : decode cL_law 501 = .ok (.invokevirtual 53, 3) := by decide +kernel
theorem dL_law_504 : decode cL_law 504 = .ok (.if_icmp .eq 673, 3) := by decide +kernel
theorem dL_law_507 : decode cL_law 507 = .ok (.iconst 0, 1) := by decide +kernel
theorem dL_law_508 : decode cL_law 508 = .ok (.ireturn, 1) := by decide +kernel
theorem dL_law_509 : decode cL_law 509 = .ok (.aload_n 1, 1) := by decide +kernel
theorem dL_law_510 : decode cL_law 510 = .ok (.aload_n 0, 1) := by decide +kernel
theorem dL_law_511 : decode cL_law 511 = .ok (.iload_n 3, 1) := by decide +kernel
theorem dL_law_512 : decode cL_law 512 = .ok (.iconst 1, 1) := by decide +kernel
theorem dL_law_513 : decode cL_law 513 = .ok (.iadd, 1) := by decide +kernel
theorem dL_law_514 : decode cL_law 514 = .ok (.iaload, 1) := by decide +kernel
theorem dL_law_515 : decode cL_law 515 = .ok (.aload_n 0, 1) := by decide +kernel
theorem dL_law_516 : decode cL_law 516 = .ok (.iload_n 3, 1) := by decide +kernel
theorem dL_law_517 : decode cL_law 517 = .ok (.iconst 2, 1) := by decide +kernel
theorem dL_law_518 : decode cL_law 518 = .ok (.iadd, 1) := by decide +kernel
theorem dL_law_519 : decode cL_law 519 = .ok (.iaload, 1) := by decide +kernel
theorem dL_law_520 : decode cL_law 520 = .ok (.invokevirtual 54, 3) := by decide +kernel
theorem dL_law_523 : decode cL_law 523 = .ok (.aload_n 2, 1) := by decide +kernel
theorem dL_law_524 : decode cL_law 524 = .ok (.aload_n 0, 1) := by decide +kernel
theorem dL_law_525 : decode cL_law 525 = .ok (.iload_n 3, 1) := by decide +kernel
theorem dL_law_526 : decode cL_law 526 = .ok (.iconst 1, 1) := by decide +kernel
theorem dL_law_527 : decode cL_law 527 = .ok (.iadd, 1) := by decide +kernel
theorem dL_law_528 : decode cL_law 528 = .ok (.iaload, 1) := by decide +kernel
theorem dL_law_529 : decode cL_law 529 = .ok (.aload_n 0, 1) := by decide +kernel
theorem dL_law_530 : decode cL_law 530 = .ok (.iload_n 3, 1) := by decide +kernel
theorem dL_law_531 : decode cL_law 531 = .ok (.iconst 2, 1) := by decide +kernel
theorem dL_law_532 : decode cL_law 532 = .ok (.iadd, 1) := by decide +kernel
theorem dL_law_533 : decode cL_law 533 = .ok (.iaload, 1) := by decide +kernel
theorem dL_law_534 : decode cL_law 534 = .ok (.invokevirtual 57, 3) := by decide +kernel
theorem dL_law_537 : decode cL_law 537 = .ok (.if_icmp .eq 640, 3) := by decide +kernel
theorem dL_law_540 : decode cL_law 540 = .ok (.iconst 0, 1) := by decide +kernel
theorem dL_law_541 : decode cL_law 541 = .ok (.ireturn, 1) := by decide +kernel
theorem dL_law_542 : decode cL_law 542 = .ok (.aload_n 1, 1) := by decide +kernel
theorem dL_law_543 : decode cL_law 543 = .ok (.aload_n 0, 1) := by decide +kernel
theorem dL_law_544 : decode cL_law 544 = .ok (.iload_n 3, 1) := by decide +kernel
theorem dL_law_545 : decode cL_law 545 = .ok (.iconst 1, 1) := by decide +kernel
theorem dL_law_546 : decode cL_law 546 = .ok (.iadd, 1) := by decide +kernel
theorem dL_law_547 : decode cL_law 547 = .ok (.iaload, 1) := by decide +kernel
theorem dL_law_548 : decode cL_law 548 = .ok (.aload_n 0, 1) := by decide +kernel
theorem dL_law_549 : decode cL_law 549 = .ok (.iload_n 3, 1) := by decide +kernel
theorem dL_law_550 : decode cL_law 550 = .ok (.iconst 2, 1) := by decide +kernel
theorem dL_law_551 : decode cL_law 551 = .ok (.iadd, 1) := by decide +kernel
theorem dL_law_552 : decode cL_law 552 = .ok (.iaload, 1) := by decide +kernel
theorem dL_law_553 : decode cL_law 553 = .ok (.invokevirtual 58, 3) := by decide +kernel
theorem dL_law_556 : decode cL_law 556 = .ok (.aload_n 2, 1) := by decide +kernel
theorem dL_law_557 : decode cL_law 557 = .ok (.aload_n 0, 1) := by decide +kernel
theorem dL_law_558 : decode cL_law 558 = .ok (.iload_n 3, 1) := by decide +kernel
theorem dL_law_559 : decode cL_law 559 = .ok (.iconst 1, 1) := by decide +kernel
theorem dL_law_560 : decode cL_law 560 = .ok (.iadd, 1) := by decide +kernel
theorem dL_law_561 : decode cL_law 561 = .ok (.iaload, 1) := by decide +kernel
theorem dL_law_562 : decode cL_law 562 = .ok (.aload_n 0, 1) := by decide +kernel
theorem dL_law_563 : decode cL_law 563 = .ok (.iload_n 3, 1) := by decide +kernel
theorem dL_law_564 : decode cL_law 564 = .ok (.iconst 2, 1) := by decide +kernel
theorem dL_law_565 : decode cL_law 565 = .ok (.iadd, 1) := by decide +kernel
theorem dL_law_566 : decode cL_law 566 = .ok (.iaload, 1) := by decide +kernel
theorem dL_law_567 : decode cL_law 567 = .ok (.invokevirtual 61, 3) := by decide +kernel
theorem dL_law_570 : decode cL_law 570 = .ok (.if_icmp .eq 607, 3) := by decide +kernel
theorem dL_law_573 : decode cL_law 573 = .ok (.iconst 0, 1) := by decide +kernel
theorem dL_law_574 : decode cL_law 574 = .ok (.ireturn, 1) := by decide +kernel
theorem dL_law_575 : decode cL_law 575 = .ok (.aload_n 1, 1) := by decide +kernel
theorem dL_law_576 : decode cL_law 576 = .ok (.aload_n 0, 1) := by decide +kernel
theorem dL_law_577 : decode cL_law 577 = .ok (.iload_n 3, 1) := by decide +kernel
theorem dL_law_578 : decode cL_law 578 = .ok (.iconst 1, 1) := by decide +kernel
theorem dL_law_579 : decode cL_law 579 = .ok (.iadd, 1) := by decide +kernel
theorem dL_law_580 : decode cL_law 580 = .ok (.iaload, 1) := by decide +kernel
theorem dL_law_581 : decode cL_law 581 = .ok (.aload_n 0, 1) := by decide +kernel
theorem dL_law_582 : decode cL_law 582 = .ok (.iload_n 3, 1) := by decide +kernel
theorem dL_law_583 : decode cL_law 583 = .ok (.iconst 2, 1) := by decide +kernel
theorem dL_law_584 : decode cL_law 584 = .ok (.iadd, 1) := by decide +kernel
theorem dL_law_585 : decode cL_law 585 = .ok (.iaload, 1) := by decide +kernel
theorem dL_law_586 : decode cL_law 586 = .ok (.invokevirtual 62, 3) := by decide +kernel
theorem dL_law_589 : decode cL_law 589 = .ok (.aload_n 2, 1) := by decide +kernel
theorem dL_law_590 : decode cL_law 590 = .ok (.aload_n 0, 1) := by decide +kernel
theorem dL_law_591 : decode cL_law 591 = .ok (.iload_n 3, 1) := by decide +kernel
theorem dL_law_592 : decode cL_law 592 = .ok (.iconst 1, 1) := by decide +kernel
theorem dL_law_593 : decode cL_law 593 = .ok (.iadd, 1) := by decide +kernel
theorem dL_law_594 : decode cL_law 594 = .ok (.iaload, 1) := by decide +kernel
theorem dL_law_595 : decode cL_law 595 = .ok (.aload_n 0, 1) := by decide +kernel
theorem dL_law_596 : decode cL_law 596 = .ok (.iload_n 3, 1) := by decide +kernel
theorem dL_law_597 : decode cL_law 597 = .ok (.iconst 2, 1) := by decide +kernel
theorem dL_law_598 : decode cL_law 598 = .ok (.iadd, 1) := by decide +kernel
