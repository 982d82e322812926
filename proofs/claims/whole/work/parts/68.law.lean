/-! THE CLAIM OUT OF ONE WALK OF THE LAW'S BODY. Your part is whole_start (and what it stands on); all else here is the same for every law, but numbers. -/
def R_law : String := "LeakCupsLaw"
def lw_P (b : Addr) (xs : List Int32) (args : Array Value) (s : State) : Prop := args = #[.ref b] ∧ s.IntsAt b xs ∧ xs.length ≤ 384 ∧ (Jvm.Cond.and given_1 narrow_1).before args s = true
def lw_Q (_ : Array Value) (s : State) (o : Outcome) (t : State) : Prop := o = .returned (some (.int 1)) ∧ Framed s o t [] 600000 7302250
def lw_Z (below : List Frame) (a : Array Value) (s : State) : State → Prop := fun t => ∃ o, t.status = .running ∧ Ended t below o ∧ lw_Q a s o t
/-- the law's own end, with 1 on the stack, nothing written that was there before, its room as the claim has it -/
theorem lw_ret {p : Program} {l : Launch} {e : Env} {s : State} {m : MethodId} {below : List Frame} {meth : Method} {c : Code} {b : Nat} (hx : p.tables.exec = Jvm.exec) (hb : c.code = code) (hr : meth.sig.returnType = ret) (hlocks : meth.locks = false) {pc : Nat} {H : Heap} {ls : Array Slot} (hdg : decode code pc = .ok (.ireturn, 1)) : W p l e room_1 s m #[Value.ref b] below meth c H [] 600000 7302250 (lw_Z below #[Value.ref b] s) (F0 m pc ls [.int 1]) := by
  intro T hT X
  obtain ⟨fs, hret, hrun, hended, hW, hframe⟩ := X.leave (v := some (.int 1)) (hlocks := hlocks) (fun h => by rw [hr] at h; cases h)
  have hmeth' : T.vm.method? m = some meth := X.method'
  refine ⟨T.setFrames fs, ?_, .returned (some (.int 1)), hrun, hended, rfl, ⟨_, rfl⟩, hW, hframe⟩
  jvm_step X.here [X.here.top, hx, hb, hdg, hmeth', hr, ret, narrow_b1]
  (try refine ⟨rfl, ?_⟩); (try refine ⟨rfl, ?_⟩)
  first | (intro acts; rw [hret _ acts rfl rfl rfl]) | rw [hret _ _ rfl rfl rfl]
  exact Steps.refl _
/-- what holds at the law's entry: the machine, the code, the tables' words (any of lw_tbl by 'hts w (by decide +kernel)'), the script of L ints xs at the cell b, what the Statement gives of the start (any of its parts by flat_of_before) -/
def lw_At (p : Program) (s : State) (m : MethodId) (meth : Method) (c : Code) (b L : Nat) (xs : Nat → Int32) : Prop :=
  p.tables.exec = Jvm.exec ∧ c.code = code ∧ meth.sig.returnType = ret ∧ c.maxLocals = 4 ∧ s.vm.findClass R_law = some m.cls ∧ (∀ w ∈ lw_tbl, w.before #[Value.ref b] s = true) ∧ va_X b L xs s s.heap ∧ b < s.heap.size ∧ meth.locks = false ∧ (Jvm.Cond.and given_1 narrow_1).before #[Value.ref b] s = true

theorem dL_0 : decode code 0 = .ok (.new 7, 3) := by decide +kernel
theorem dL_3 : decode code 3 = .ok (.dup, 1) := by decide +kernel
theorem dL_4 : decode code 4 = .ok (.invokespecial 9, 3) := by decide +kernel
theorem dL_7 : decode code 7 = .ok (.astore_n 1, 1) := by decide +kernel
theorem dL_8 : decode code 8 = .ok (.new 10, 3) := by decide +kernel
theorem dL_11 : decode code 11 = .ok (.dup, 1) := by decide +kernel
theorem dL_12 : decode code 12 = .ok (.invokespecial 12, 3) := by decide +kernel
theorem dL_15 : decode code 15 = .ok (.astore_n 2, 1) := by decide +kernel
theorem dL_16 : decode code 16 = .ok (.iconst 0, 1) := by decide +kernel
theorem dL_17 : decode code 17 = .ok (.istore_n 3, 1) := by decide +kernel
theorem dL_18 : decode code 18 = .ok (.iload_n 3, 1) := by decide +kernel
theorem dL_19 : decode code 19 = .ok (.aload_n 0, 1) := by decide +kernel
theorem dL_20 : decode code 20 = .ok (.arraylength, 1) := by decide +kernel
theorem dL_21 : decode code 21 = .ok (.bipush 6, 2) := by decide +kernel
theorem dL_23 : decode code 23 = .ok (.isub, 1) := by decide +kernel
theorem dL_24 : decode code 24 = .ok (.if_icmp .gt 1391, 3) := by decide +kernel
theorem dL_27 : decode code 27 = .ok (.aload_n 0, 1) := by decide +kernel
theorem dL_28 : decode code 28 = .ok (.iload_n 3, 1) := by decide +kernel
theorem dL_29 : decode code 29 = .ok (.iaload, 1) := by decide +kernel
theorem dL_30 : decode code 30 = .ok (.bipush 63, 2) := by decide +kernel
theorem dL_32 : decode code 32 = .ok (.iand, 1) := by decide +kernel
theorem dL_33 : decode code 33 = .ok (.tableswitch 1376 0 42 #[187, 220, 253, 286, 319, 342, 365, 388, 411, 434, 447, 480, 503, 516, 529, 562, 575, 588, 621, 644, 677, 710, 743, 766, 799, 832, 855, 878, 911, 964, 1007, 1030, 1063, 1096, 1139, 1182, 1245, 1268, 1291, 1304, 1317, 1330, 1353], 187) := by decide +kernel
theorem dL_220 : decode code 220 = .ok (.aload_n 1, 1) := by decide +kernel
theorem dL_221 : decode code 221 = .ok (.aload_n 0, 1) := by decide +kernel
theorem dL_222 : decode code 222 = .ok (.iload_n 3, 1) := by decide +kernel
theorem dL_223 : decode code 223 = .ok (.iconst 1, 1) := by decide +kernel
theorem dL_224 : decode code 224 = .ok (.iadd, 1) := by decide +kernel
theorem dL_225 : decode code 225 = .ok (.iaload, 1) := by decide +kernel
theorem dL_226 : decode code 226 = .ok (.aload_n 0, 1) := by decide +kernel
theorem dL_227 : decode code 227 = .ok (.iload_n 3, 1) := by decide +kernel
theorem dL_228 : decode code 228 = .ok (.iconst 2, 1) := by decide +kernel
theorem dL_229 : decode code 229 = .ok (.iadd, 1) := by decide +kernel
theorem dL_230 : decode code 230 = .ok (.iaload, 1) := by decide +kernel
theorem dL_231 : decode code 231 = .ok (.invokevirtual 13, 3) := by decide +kernel
theorem dL_234 : decode code 234 = .ok (.aload_n 2, 1) := by decide +kernel
theorem dL_235 : decode code 235 = .ok (.aload_n 0, 1) := by decide +kernel
theorem dL_236 : decode code 236 = .ok (.iload_n 3, 1) := by decide +kernel
theorem dL_237 : decode code 237 = .ok (.iconst 1, 1) := by decide +kernel
theorem dL_238 : decode code 238 = .ok (.iadd, 1) := by decide +kernel
theorem dL_239 : decode code 239 = .ok (.iaload, 1) := by decide +kernel
theorem dL_240 : decode code 240 = .ok (.aload_n 0, 1) := by decide +kernel
theorem dL_241 : decode code 241 = .ok (.iload_n 3, 1) := by decide +kernel
theorem dL_242 : decode code 242 = .ok (.iconst 2, 1) := by decide +kernel
theorem dL_243 : decode code 243 = .ok (.iadd, 1) := by decide +kernel
theorem dL_244 : decode code 244 = .ok (.iaload, 1) := by decide +kernel
theorem dL_245 : decode code 245 = .ok (.invokevirtual 17, 3) := by decide +kernel
theorem dL_248 : decode code 248 = .ok (.if_icmp .eq 1161, 3) := by decide +kernel
theorem dL_251 : decode code 251 = .ok (.iconst 0, 1) := by decide +kernel
theorem dL_252 : decode code 252 = .ok (.ireturn, 1) := by decide +kernel
theorem dL_253 : decode code 253 = .ok (.aload_n 1, 1) := by decide +kernel
theorem dL_254 : decode code 254 = .ok (.aload_n 0, 1) := by decide +kernel
theorem dL_255 : decode code 255 = .ok (.iload_n 3, 1) := by decide +kernel
theorem dL_256 : decode code 256 = .ok (.iconst 1, 1) := by decide +kernel
theorem dL_257 : decode code 257 = .ok (.iadd, 1) := by decide +kernel
theorem dL_258 : decode code 258 = .ok (.iaload, 1) := by decide +kernel
theorem dL_259 : decode code 259 = .ok (.aload_n 0, 1) := by decide +kernel
theorem dL_260 : decode code 260 = .ok (.iload_n 3, 1) := by decide +kernel
theorem dL_261 : decode code 261 = .ok (.iconst 2, 1) := by decide +kernel
theorem dL_262 : decode code 262 = .ok (.iadd, 1) := by decide +kernel
theorem dL_263 : decode code 263 = .ok (.iaload, 1) := by decide +kernel
theorem dL_264 : decode code 264 = .ok (.invokevirtual 18, 3) := by decide +kernel
theorem dL_267 : decode code 267 = .ok (.aload_n 2, 1) := by decide +kernel
theorem dL_268 : decode code 268 = .ok (.aload_n 0, 1) := by decide +kernel
theorem dL_269 : decode code 269 = .ok (.iload_n 3, 1) := by decide +kernel
theorem dL_270 : decode code 270 = .ok (.iconst 1, 1) := by decide +kernel
theorem dL_271 : decode code 271 = .ok (.iadd, 1) := by decide +kernel
theorem dL_272 : decode code 272 = .ok (.iaload, 1) := by decide +kernel
theorem dL_273 : decode code 273 = .ok (.aload_n 0, 1) := by decide +kernel
theorem dL_274 : decode code 274 = .ok (.iload_n 3, 1) := by decide +kernel
theorem dL_275 : decode code 275 = .ok (.iconst 2, 1) := by decide +kernel
theorem dL_276 : decode code 276 = .ok (.iadd, 1) := by decide +kernel
theorem dL_277 : decode code 277 = .ok (.iaload, 1) := by decide +kernel
theorem dL_278 : decode code 278 = .ok (.invokevirtual 21, 3) := by decide +kernel
theorem dL_281 : decode code 281 = .ok (.if_icmp .eq 1128, 3) := by decide +kernel
theorem dL_284 : decode code 284 = .ok (.iconst 0, 1) := by decide +kernel
theorem dL_285 : decode code 285 = .ok (.ireturn, 1) := by decide +kernel
theorem dL_286 : decode code 286 = .ok (.aload_n 1, 1) := by decide +kernel
theorem dL_287 : decode code 287 = .ok (.aload_n 0, 1) := by decide +kernel
theorem dL_288 : decode code 288 = .ok (.iload_n 3, 1) := by decide +kernel
theorem dL_289 : decode code 289 = .ok (.iconst 1, 1) := by decide +kernel
theorem dL_290 : decode code 290 = .ok (.iadd, 1) := by decide +kernel
theorem dL_291 : decode code 291 = .ok (.iaload, 1) := by decide +kernel
theorem dL_292 : decode code 292 = .ok (.aload_n 0, 1) := by decide +kernel
theorem dL_293 : decode code 293 = .ok (.iload_n 3, 1) := by decide +kernel
theorem dL_294 : decode code 294 = .ok (.iconst 2, 1) := by decide +kernel
theorem dL_295 : decode code 295 = .ok (.iadd, 1) := by decide +kernel
theorem dL_296 : decode code 296 = .ok (.iaload, 1) := by decide +kernel
theorem dL_297 : decode code 297 = .ok (.invokevirtual 22, 3) := by decide +kernel
theorem dL_300 : decode code 300 = .ok (.aload_n 2, 1) := by decide +kernel
theorem dL_301 : decode code 301 = .ok (.aload_n 0, 1) := by decide +kernel
theorem dL_302 : decode code 302 = .ok (.iload_n 3, 1) := by decide +kernel
theorem dL_303 : decode code 303 = .ok (.iconst 1, 1) := by decide +kernel
theorem dL_304 : decode code 304 = .ok (.iadd, 1) := by decide +kernel
theorem dL_305 : decode code 305 = .ok (.iaload, 1) := by decide +kernel
theorem dL_306 : decode code 306 = .ok (.aload_n 0, 1) := by decide +kernel
theorem dL_307 : decode code 307 = .ok (.iload_n 3, 1) := by decide +kernel
theorem dL_308 : decode code 308 = .ok (.iconst 2, 1) := by decide +kernel
theorem dL_309 : decode code 309 = .ok (.iadd, 1) := by decide +kernel
theorem dL_310 : decode code 310 = .ok (.iaload, 1) := by decide +kernel
theorem dL_311 : decode code 311 = .ok (.invokevirtual 25, 3) := by decide +kernel
theorem dL_314 : decode code 314 = .ok (.if_icmp .eq 1095, 3) := by decide +kernel
theorem dL_317 : decode code 317 = .ok (.iconst 0, 1) := by decide +kernel
theorem dL_318 : decode code 318 = .ok (.ireturn, 1) := by decide +kernel
theorem dL_319 : decode code 319 = .ok (.aload_n 1, 1) := by decide +kernel
theorem dL_320 : decode code 320 = .ok (.aload_n 0, 1) := by decide +kernel
theorem dL_321 : decode code 321 = .ok (.iload_n 3, 1) := by decide +kernel
theorem dL_322 : decode code 322 = .ok (.iconst 1, 1) := by decide +kernel
theorem dL_323 : decode code 323 = .ok (.iadd, 1) := by decide +kernel
theorem dL_324 : decode code 324 = .ok (.iaload, 1) := by decide +kernel
theorem dL_325 : decode code 325 = .ok (.aload_n 0, 1) := by decide +kernel
theorem dL_326 : decode code 326 = .ok (.iload_n 3, 1) := by decide +kernel
theorem dL_327 : decode code 327 = .ok (.iconst 2, 1) := by decide +kernel
theorem dL_328 : decode code 328 = .ok (.iadd, 1) := by decide +kernel
theorem dL_329 : decode code 329 = .ok (.iaload, 1) := by decide +kernel
theorem dL_330 : decode code 330 = .ok (.invokevirtual 26, 3) := by decide +kernel
theorem dL_333 : decode code 333 = .ok (.aload_n 2, 1) := by decide +kernel
theorem dL_334 : decode code 334 = .ok (.aload_n 0, 1) := by decide +kernel
theorem dL_335 : decode code 335 = .ok (.iload_n 3, 1) := by decide +kernel
theorem dL_336 : decode code 336 = .ok (.iconst 1, 1) := by decide +kernel
theorem dL_337 : decode code 337 = .ok (.iadd, 1) := by decide +kernel
theorem dL_338 : decode code 338 = .ok (.iaload, 1) := by decide +kernel
theorem dL_339 : decode code 339 = .ok (.aload_n 0, 1) := by decide +kernel
theorem dL_340 : decode code 340 = .ok (.iload_n 3, 1) := by decide +kernel
theorem dL_341 : decode code 341 = .ok (.iconst 2, 1) := by decide +kernel
theorem dL_342 : decode code 342 = .ok (.iadd, 1) := by decide +kernel
theorem dL_343 : decode code 343 = .ok (.iaload, 1) := by decide +kernel
theorem dL_344 : decode code 344 = .ok (.invokevirtual 29, 3) := by decide +kernel
theorem dL_347 : decode code 347 = .ok (.if_icmp .eq 1062, 3) := by decide +kernel
theorem dL_350 : decode code 350 = .ok (.iconst 0, 1) := by decide +kernel
theorem dL_351 : decode code 351 = .ok (.ireturn, 1) := by decide +kernel
theorem dL_352 : decode code 352 = .ok (.aload_n 1, 1) := by decide +kernel
theorem dL_353 : decode code 353 = .ok (.aload_n 0, 1) := by decide +kernel
theorem dL_354 : decode code 354 = .ok (.iload_n 3, 1) := by decide +kernel
theorem dL_355 : decode code 355 = .ok (.iconst 1, 1) := by decide +kernel
theorem dL_356 : decode code 356 = .ok (.iadd, 1) := by decide +kernel
theorem dL_357 : decode code 357 = .ok (.iaload, 1) := by decide +kernel
theorem dL_358 : decode code 358 = .ok (.invokevirtual 30, 3) := by decide +kernel
theorem dL_361 : decode code 361 = .ok (.aload_n 2, 1) := by decide +kernel
theorem dL_362 : decode code 362 = .ok (.aload_n 0, 1) := by decide +kernel
theorem dL_363 : decode code 363 = .ok (.iload_n 3, 1) := by decide +kernel
theorem dL_364 : decode code 364 = .ok (.iconst 1, 1) := by decide +kernel
theorem dL_365 : decode code 365 = .ok (.iadd, 1) := by decide +kernel
theorem dL_366 : decode code 366 = .ok (.iaload, 1) := by decide +kernel
theorem dL_367 : decode code 367 = .ok (.invokevirtual 34, 3) := by decide +kernel
theorem dL_370 : decode code 370 = .ok (.if_icmp .eq 1039, 3) := by decide +kernel
theorem dL_373 : decode code 373 = .ok (.iconst 0, 1) := by decide +kernel
theorem dL_374 : decode code 374 = .ok (.ireturn, 1) := by decide +kernel
theorem dL_375 : decode code 375 = .ok (.aload_n 1, 1) := by decide +kernel
theorem dL_376 : decode code 376 = .ok (.aload_n 0, 1) := by decide +kernel
theorem dL_377 : decode code 377 = .ok (.iload_n 3, 1) := by decide +kernel
theorem dL_378 : decode code 378 = .ok (.iconst 1, 1) := by decide +kernel
theorem dL_379 : decode code 379 = .ok (.iadd, 1) := by decide +kernel
theorem dL_380 : decode code 380 = .ok (.iaload, 1) := by decide +kernel
theorem dL_381 : decode code 381 = .ok (.invokevirtual 35, 3) := by decide +kernel
theorem dL_384 : decode code 384 = .ok (.aload_n 2, 1) := by decide +kernel
theorem dL_385 : decode code 385 = .ok (.aload_n 0, 1) := by decide +kernel
theorem dL_386 : decode code 386 = .ok (.iload_n 3, 1) := by decide +kernel
theorem dL_387 : decode code 387 = .ok (.iconst 1, 1) := by decide +kernel
theorem dL_388 : decode code 388 = .ok (.iadd, 1) := by decide +kernel
theorem dL_389 : decode code 389 = .ok (.iaload, 1) := by decide +kernel
theorem dL_390 : decode code 390 = .ok (.invokevirtual 38, 3) := by decide +kernel
theorem dL_393 : decode code 393 = .ok (.if_icmp .eq 1016, 3) := by decide +kernel
theorem dL_396 : decode code 396 = .ok (.iconst 0, 1) := by decide +kernel
theorem dL_397 : decode code 397 = .ok (.ireturn, 1) := by decide +kernel
theorem dL_398 : decode code 398 = .ok (.aload_n 1, 1) := by decide +kernel
theorem dL_399 : decode code 399 = .ok (.aload_n 0, 1) := by decide +kernel
theorem dL_400 : decode code 400 = .ok (.iload_n 3, 1) := by decide +kernel
theorem dL_401 : decode code 401 = .ok (.iconst 1, 1) := by decide +kernel
theorem dL_402 : decode code 402 = .ok (.iadd, 1) := by decide +kernel
theorem dL_403 : decode code 403 = .ok (.iaload, 1) := by decide +kernel
theorem dL_404 : decode code 404 = .ok (.invokevirtual 39, 3) := by decide +kernel
theorem dL_407 : decode code 407 = .ok (.aload_n 2, 1) := by decide +kernel
theorem dL_408 : decode code 408 = .ok (.aload_n 0, 1) := by decide +kernel
theorem dL_409 : decode code 409 = .ok (.iload_n 3, 1) := by decide +kernel
theorem dL_410 : decode code 410 = .ok (.iconst 1, 1) := by decide +kernel
theorem dL_411 : decode code 411 = .ok (.iadd, 1) := by decide +kernel
theorem dL_412 : decode code 412 = .ok (.iaload, 1) := by decide +kernel
theorem dL_413 : decode code 413 = .ok (.invokevirtual 42, 3) := by decide +kernel
theorem dL_416 : decode code 416 = .ok (.if_icmp .eq 993, 3) := by decide +kernel
theorem dL_419 : decode code 419 = .ok (.iconst 0, 1) := by decide +kernel
theorem dL_420 : decode code 420 = .ok (.ireturn, 1) := by decide +kernel
theorem dL_421 : decode code 421 = .ok (.aload_n 1, 1) := by decide +kernel
theorem dL_422 : decode code 422 = .ok (.aload_n 0, 1) := by decide +kernel
theorem dL_423 : decode code 423 = .ok (.iload_n 3, 1) := by decide +kernel
theorem dL_424 : decode code 424 = .ok (.iconst 1, 1) := by decide +kernel
theorem dL_425 : decode code 425 = .ok (.iadd, 1) := by decide +kernel
theorem dL_426 : decode code 426 = .ok (.iaload, 1) := by decide +kernel
theorem dL_427 : decode code 427 = .ok (.invokevirtual 43, 3) := by decide +kernel
theorem dL_430 : decode code 430 = .ok (.aload_n 2, 1) := by decide +kernel
theorem dL_431 : decode code 431 = .ok (.aload_n 0, 1) := by decide +kernel
theorem dL_432 : decode code 432 = .ok (.iload_n 3, 1) := by decide +kernel
theorem dL_433 : decode code 433 = .ok (.iconst 1, 1) := by decide +kernel
theorem dL_434 : decode code 434 = .ok (.iadd, 1) := by decide +kernel
theorem dL_435 : decode code 435 = .ok (.iaload, 1) := by decide +kernel
theorem dL_436 : decode code 436 = .ok (.invokevirtual 46, 3) := by decide +kernel
theorem dL_439 : decode code 439 = .ok (.if_icmp .eq 970, 3) := by decide +kernel
theorem dL_442 : decode code 442 = .ok (.iconst 0, 1) := by decide +kernel
theorem dL_443 : decode code 443 = .ok (.ireturn, 1) := by decide +kernel
theorem dL_444 : decode code 444 = .ok (.aload_n 1, 1) := by decide +kernel
theorem dL_445 : decode code 445 = .ok (.aload_n 0, 1) := by decide +kernel
theorem dL_446 : decode code 446 = .ok (.iload_n 3, 1) := by decide +kernel
theorem dL_447 : decode code 447 = .ok (.iconst 1, 1) := by decide +kernel
theorem dL_448 : decode code 448 = .ok (.iadd, 1) := by decide +kernel
theorem dL_449 : decode code 449 = .ok (.iaload, 1) := by decide +kernel
theorem dL_450 : decode code 450 = .ok (.invokevirtual 47, 3) := by decide +kernel
theorem dL_453 : decode code 453 = .ok (.aload_n 2, 1) := by decide +kernel
theorem dL_454 : decode code 454 = .ok (.aload_n 0, 1) := by decide +kernel
theorem dL_455 : decode code 455 = .ok (.iload_n 3, 1) := by decide +kernel
theorem dL_456 : decode code 456 = .ok (.iconst 1, 1) := by decide +kernel
theorem dL_457 : decode code 457 = .ok (.iadd, 1) := by decide +kernel
theorem dL_458 : decode code 458 = .ok (.iaload, 1) := by decide +kernel
theorem dL_459 : decode code 459 = .ok (.invokevirtual 50, 3) := by decide +kernel
theorem dL_462 : decode code 462 = .ok (.if_icmp .eq 947, 3) := by decide +kernel
theorem dL_465 : decode code 465 = .ok (.iconst 0, 1) := by decide +kernel
theorem dL_466 : decode code 466 = .ok (.ireturn, 1) := by decide +kernel
theorem dL_467 : decode code 467 = .ok (.aload_n 1, 1) := by decide +kernel
theorem dL_468 : decode code 468 = .ok (.invokevirtual 51, 3) := by decide +kernel
theorem dL_471 : decode code 471 = .ok (.aload_n 2, 1) := by decide +kernel
theorem dL_472 : decode code 472 = .ok (.invokevirtual 55, 3) := by decide +kernel
theorem dL_475 : decode code 475 = .ok (.if_icmp .eq 934, 3) := by decide +kernel
theorem dL_478 : decode code 478 = .ok (.iconst 0, 1) := by decide +kernel
theorem dL_479 : decode code 479 = .ok (.ireturn, 1) := by decide +kernel
theorem dL_480 : decode code 480 = .ok (.aload_n 1, 1) := by decide +kernel
theorem dL_481 : decode code 481 = .ok (.aload_n 0, 1) := by decide +kernel
theorem dL_482 : decode code 482 = .ok (.iload_n 3, 1) := by decide +kernel
theorem dL_483 : decode code 483 = .ok (.iconst 1, 1) := by decide +kernel
theorem dL_484 : decode code 484 = .ok (.iadd, 1) := by decide +kernel
theorem dL_485 : decode code 485 = .ok (.iaload, 1) := by decide +kernel
theorem dL_486 : decode code 486 = .ok (.aload_n 0, 1) := by decide +kernel
theorem dL_487 : decode code 487 = .ok (.iload_n 3, 1) := by decide +kernel
theorem dL_488 : decode code 488 = .ok (.iconst 2, 1) := by decide +kernel
theorem dL_489 : decode code 489 = .ok (.iadd, 1) := by decide +kernel
theorem dL_490 : decode code 490 = .ok (.iaload, 1) := by decide +kernel
theorem dL_491 : decode code 491 = .ok (.invokevirtual 56, 3) := by decide +kernel
theorem dL_494 : decode code 494 = .ok (.aload_n 2, 1) := by decide +kernel
theorem dL_495 : decode code 495 = .ok (.aload_n 0, 1) := by decide +kernel
theorem dL_496 : decode code 496 = .ok (.iload_n 3, 1) := by decide +kernel
theorem dL_497 : decode code 497 = .ok (.iconst 1, 1) := by decide +kernel
theorem dL_498 : decode code 498 = .ok (.iadd, 1) := by decide +kernel
theorem dL_499 : decode code 499 = .ok (.iaload, 1) := by decide +kernel
theorem dL_500 : decode code 500 = .ok (.aload_n 0, 1) := by decide +kernel
theorem dL_501 : decode code 501 = .ok (.iload_n 3, 1) := by decide +kernel
theorem dL_502 : decode code 502 = .ok (.iconst 2, 1) := by decide +kernel
theorem dL_503 : decode code 503 = .ok (.iadd, 1) := by decide +kernel
theorem dL_504 : decode code 504 = .ok (.iaload, 1) := by decide +kernel
theorem dL_505 : decode code 505 = .ok (.invokevirtual 59, 3) := by decide +kernel
theorem dL_508 : decode code 508 = .ok (.if_icmp .eq 901, 3) := by decide +kernel
theorem dL_511 : decode code 511 = .ok (.iconst 0, 1) := by decide +kernel
theorem dL_512 : decode code 512 = .ok (.ireturn, 1) := by decide +kernel
theorem dL_513 : decode code 513 = .ok (.aload_n 1, 1) := by decide +kernel
theorem dL_514 : decode code 514 = .ok (.aload_n 0, 1) := by decide +kernel
theorem dL_515 : decode code 515 = .ok (.iload_n 3, 1) := by decide +kernel
theorem dL_516 : decode code 516 = .ok (.iconst 1, 1) := by decide +kernel
theorem dL_517 : decode code 517 = .ok (.iadd, 1) := by decide +kernel
theorem dL_518 : decode code 518 = .ok (.iaload, 1) := by decide +kernel
theorem dL_519 : decode code 519 = .ok (.invokevirtual 60, 3) := by decide +kernel
theorem dL_522 : decode code 522 = .ok (.aload_n 2, 1) := by decide +kernel
theorem dL_523 : decode code 523 = .ok (.aload_n 0, 1) := by decide +kernel
theorem dL_524 : decode code 524 = .ok (.iload_n 3, 1) := by decide +kernel
theorem dL_525 : decode code 525 = .ok (.iconst 1, 1) := by decide +kernel
theorem dL_526 : decode code 526 = .ok (.iadd, 1) := by decide +kernel
theorem dL_527 : decode code 527 = .ok (.iaload, 1) := by decide +kernel
theorem dL_528 : decode code 528 = .ok (.invokevirtual 63, 3) := by decide +kernel
theorem dL_531 : decode code 531 = .ok (.if_icmp .eq 878, 3) := by decide +kernel
theorem dL_534 : decode code 534 = .ok (.iconst 0, 1) := by decide +kernel
theorem dL_535 : decode code 535 = .ok (.ireturn, 1) := by decide +kernel
theorem dL_536 : decode code 536 = .ok (.aload_n 1, 1) := by decide +kernel
theorem dL_537 : decode code 537 = .ok (.invokevirtual 64, 3) := by decide +kernel
theorem dL_540 : decode code 540 = .ok (.aload_n 2, 1) := by decide +kernel
theorem dL_541 : decode code 541 = .ok (.invokevirtual 67, 3) := by decide +kernel
theorem dL_544 : decode code 544 = .ok (.if_icmp .eq 865, 3) := by decide +kernel
theorem dL_547 : decode code 547 = .ok (.iconst 0, 1) := by decide +kernel
theorem dL_548 : decode code 548 = .ok (.ireturn, 1) := by decide +kernel
theorem dL_549 : decode code 549 = .ok (.aload_n 1, 1) := by decide +kernel
theorem dL_550 : decode code 550 = .ok (.invokevirtual 68, 3) := by decide +kernel
theorem dL_553 : decode code 553 = .ok (.aload_n 2, 1) := by decide +kernel
theorem dL_554 : decode code 554 = .ok (.invokevirtual 71, 3) := by decide +kernel
theorem dL_557 : decode code 557 = .ok (.if_icmp .eq 852, 3) := by decide +kernel
theorem dL_560 : decode code 560 = .ok (.iconst 0, 1) := by decide +kernel
theorem dL_561 : decode code 561 = .ok (.ireturn, 1) := by decide +kernel
theorem dL_562 : decode code 562 = .ok (.aload_n 1, 1) := by decide +kernel
theorem dL_563 : decode code 563 = .ok (.aload_n 0, 1) := by decide +kernel
theorem dL_564 : decode code 564 = .ok (.iload_n 3, 1) := by decide +kernel
theorem dL_565 : decode code 565 = .ok (.iconst 1, 1) := by decide +kernel
theorem dL_566 : decode code 566 = .ok (.iadd, 1) := by decide +kernel
theorem dL_567 : decode code 567 = .ok (.iaload, 1) := by decide +kernel
theorem dL_568 : decode code 568 = .ok (.aload_n 0, 1) := by decide +kernel
theorem dL_569 : decode code 569 = .ok (.iload_n 3, 1) := by decide +kernel
theorem dL_570 : decode code 570 = .ok (.iconst 2, 1) := by decide +kernel
theorem dL_571 : decode code 571 = .ok (.iadd, 1) := by decide +kernel
theorem dL_572 : decode code 572 = .ok (.iaload, 1) := by decide +kernel
theorem dL_573 : decode code 573 = .ok (.invokevirtual 72, 3) := by decide +kernel
theorem dL_576 : decode code 576 = .ok (.aload_n 2, 1) := by decide +kernel
theorem dL_577 : decode code 577 = .ok (.aload_n 0, 1) := by decide +kernel
theorem dL_578 : decode code 578 = .ok (.iload_n 3, 1) := by decide +kernel
theorem dL_579 : decode code 579 = .ok (.iconst 1, 1) := by decide +kernel
theorem dL_580 : decode code 580 = .ok (.iadd, 1) := by decide +kernel
theorem dL_581 : decode code 581 = .ok (.iaload, 1) := by decide +kernel
theorem dL_582 : decode code 582 = .ok (.aload_n 0, 1) := by decide +kernel
theorem dL_583 : decode code 583 = .ok (.iload_n 3, 1) := by decide +kernel
theorem dL_584 : decode code 584 = .ok (.iconst 2, 1) := by decide +kernel
theorem dL_585 : decode code 585 = .ok (.iadd, 1) := by decide +kernel
theorem dL_586 : decode code 586 = .ok (.iaload, 1) := by decide +kernel
theorem dL_587 : decode code 587 = .ok (.invokevirtual 75, 3) := by decide +kernel
theorem dL_590 : decode code 590 = .ok (.if_icmp .eq 819, 3) := by decide +kernel
theorem dL_593 : decode code 593 = .ok (.iconst 0, 1) := by decide +kernel
theorem dL_594 : decode code 594 = .ok (.ireturn, 1) := by decide +kernel
theorem dL_595 : decode code 595 = .ok (.aload_n 1, 1) := by decide +kernel
theorem dL_596 : decode code 596 = .ok (.invokevirtual 76, 3) := by decide +kernel
theorem dL_599 : decode code 599 = .ok (.aload_n 2, 1) := by decide +kernel
theorem dL_600 : decode code 600 = .ok (.invokevirtual 79, 3) := by decide +kernel
theorem dL_603 : decode code 603 = .ok (.if_icmp .eq 806, 3) := by decide +kernel
theorem dL_606 : decode code 606 = .ok (.iconst 0, 1) := by decide +kernel
theorem dL_607 : decode code 607 = .ok (.ireturn, 1) := by decide +kernel
theorem dL_608 : decode code 608 = .ok (.aload_n 1, 1) := by decide +kernel
theorem dL_609 : decode code 609 = .ok (.invokevirtual 80, 3) := by decide +kernel
theorem dL_612 : decode code 612 = .ok (.aload_n 2, 1) := by decide +kernel
theorem dL_613 : decode code 613 = .ok (.invokevirtual 83, 3) := by decide +kernel
theorem dL_616 : decode code 616 = .ok (.if_icmp .eq 793, 3) := by decide +kernel
theorem dL_619 : decode code 619 = .ok (.iconst 0, 1) := by decide +kernel
theorem dL_620 : decode code 620 = .ok (.ireturn, 1) := by decide +kernel
theorem dL_621 : decode code 621 = .ok (.aload_n 1, 1) := by decide +kernel
theorem dL_622 : decode code 622 = .ok (.aload_n 0, 1) := by decide +kernel
theorem dL_623 : decode code 623 = .ok (.iload_n 3, 1) := by decide +kernel
theorem dL_624 : decode code 624 = .ok (.iconst 1, 1) := by decide +kernel
theorem dL_625 : decode code 625 = .ok (.iadd, 1) := by decide +kernel
theorem dL_626 : decode code 626 = .ok (.iaload, 1) := by decide +kernel
theorem dL_627 : decode code 627 = .ok (.aload_n 0, 1) := by decide +kernel
theorem dL_628 : decode code 628 = .ok (.iload_n 3, 1) := by decide +kernel
theorem dL_629 : decode code 629 = .ok (.iconst 2, 1) := by decide +kernel
theorem dL_630 : decode code 630 = .ok (.iadd, 1) := by decide +kernel
theorem dL_631 : decode code 631 = .ok (.iaload, 1) := by decide +kernel
theorem dL_632 : decode code 632 = .ok (.invokevirtual 84, 3) := by decide +kernel
theorem dL_635 : decode code 635 = .ok (.aload_n 2, 1) := by decide +kernel
theorem dL_636 : decode code 636 = .ok (.aload_n 0, 1) := by decide +kernel
theorem dL_637 : decode code 637 = .ok (.iload_n 3, 1) := by decide +kernel
theorem dL_638 : decode code 638 = .ok (.iconst 1, 1) := by decide +kernel
theorem dL_639 : decode code 639 = .ok (.iadd, 1) := by decide +kernel
theorem dL_640 : decode code 640 = .ok (.iaload, 1) := by decide +kernel
theorem dL_641 : decode code 641 = .ok (.aload_n 0, 1) := by decide +kernel
theorem dL_642 : decode code 642 = .ok (.iload_n 3, 1) := by decide +kernel
theorem dL_643 : decode code 643 = .ok (.iconst 2, 1) := by decide +kernel
theorem dL_644 : decode code 644 = .ok (.iadd, 1) := by decide +kernel
theorem dL_645 : decode code 645 = .ok (.iaload, 1) := by decide +kernel
theorem dL_646 : decode code 646 = .ok (.invokevirtual 87, 3) := by decide +kernel
theorem dL_649 : decode code 649 = .ok (.if_icmp .eq 760, 3) := by decide +kernel
theorem dL_652 : decode code 652 = .ok (.iconst 0, 1) := by decide +kernel
theorem dL_653 : decode code 653 = .ok (.ireturn, 1) := by decide +kernel
theorem dL_654 : decode code 654 = .ok (.aload_n 1, 1) := by decide +kernel
theorem dL_655 : decode code 655 = .ok (.aload_n 0, 1) := by decide +kernel
theorem dL_656 : decode code 656 = .ok (.iload_n 3, 1) := by decide +kernel
theorem dL_657 : decode code 657 = .ok (.iconst 1, 1) := by decide +kernel
theorem dL_658 : decode code 658 = .ok (.iadd, 1) := by decide +kernel
theorem dL_659 : decode code 659 = .ok (.iaload, 1) := by decide +kernel
theorem dL_660 : decode code 660 = .ok (.invokevirtual 88, 3) := by decide +kernel
theorem dL_663 : decode code 663 = .ok (.aload_n 2, 1) := by decide +kernel
theorem dL_664 : decode code 664 = .ok (.aload_n 0, 1) := by decide +kernel
theorem dL_665 : decode code 665 = .ok (.iload_n 3, 1) := by decide +kernel
theorem dL_666 : decode code 666 = .ok (.iconst 1, 1) := by decide +kernel
theorem dL_667 : decode code 667 = .ok (.iadd, 1) := by decide +kernel
theorem dL_668 : decode code 668 = .ok (.iaload, 1) := by decide +kernel
theorem dL_669 : decode code 669 = .ok (.invokevirtual 91, 3) := by decide +kernel
theorem dL_672 : decode code 672 = .ok (.if_icmp .eq 737, 3) := by decide +kernel
theorem dL_675 : decode code 675 = .ok (.iconst 0, 1) := by decide +kernel
theorem dL_676 : decode code 676 = .ok (.ireturn, 1) := by decide +kernel
theorem dL_677 : decode code 677 = .ok (.aload_n 1, 1) := by decide +kernel
theorem dL_678 : decode code 678 = .ok (.aload_n 0, 1) := by decide +kernel
theorem dL_679 : decode code 679 = .ok (.iload_n 3, 1) := by decide +kernel
theorem dL_680 : decode code 680 = .ok (.iconst 1, 1) := by decide +kernel
theorem dL_681 : decode code 681 = .ok (.iadd, 1) := by decide +kernel
theorem dL_682 : decode code 682 = .ok (.iaload, 1) := by decide +kernel
theorem dL_683 : decode code 683 = .ok (.aload_n 0, 1) := by decide +kernel
theorem dL_684 : decode code 684 = .ok (.iload_n 3, 1) := by decide +kernel
theorem dL_685 : decode code 685 = .ok (.iconst 2, 1) := by decide +kernel
theorem dL_686 : decode code 686 = .ok (.iadd, 1) := by decide +kernel
theorem dL_687 : decode code 687 = .ok (.iaload, 1) := by decide +kernel
theorem dL_688 : decode code 688 = .ok (.invokevirtual 92, 3) := by decide +kernel
theorem dL_691 : decode code 691 = .ok (.aload_n 2, 1) := by decide +kernel
theorem dL_692 : decode code 692 = .ok (.aload_n 0, 1) := by decide +kernel
theorem dL_693 : decode code 693 = .ok (.iload_n 3, 1) := by decide +kernel
theorem dL_694 : decode code 694 = .ok (.iconst 1, 1) := by decide +kernel
theorem dL_695 : decode code 695 = .ok (.iadd, 1) := by decide +kernel
theorem dL_696 : decode code 696 = .ok (.iaload, 1) := by decide +kernel
theorem dL_697 : decode code 697 = .ok (.aload_n 0, 1) := by decide +kernel
theorem dL_698 : decode code 698 = .ok (.iload_n 3, 1) := by decide +kernel
theorem dL_699 : decode code 699 = .ok (.iconst 2, 1) := by decide +kernel
theorem dL_700 : decode code 700 = .ok (.iadd, 1) := by decide +kernel
theorem dL_701 : decode code 701 = .ok (.iaload, 1) := by decide +kernel
theorem dL_702 : decode code 702 = .ok (.invokevirtual 95, 3) := by decide +kernel
theorem dL_705 : decode code 705 = .ok (.if_icmp .eq 704, 3) := by decide +kernel
theorem dL_708 : decode code 708 = .ok (.iconst 0, 1) := by decide +kernel
theorem dL_709 : decode code 709 = .ok (.ireturn, 1) := by decide +kernel
theorem dL_710 : decode code 710 = .ok (.aload_n 1, 1) := by decide +kernel
theorem dL_711 : decode code 711 = .ok (.aload_n 0, 1) := by decide +kernel
theorem dL_712 : decode code 712 = .ok (.iload_n 3, 1) := by decide +kernel
theorem dL_713 : decode code 713 = .ok (.iconst 1, 1) := by decide +kernel
theorem dL_714 : decode code 714 = .ok (.iadd, 1) := by decide +kernel
theorem dL_715 : decode code 715 = .ok (.iaload, 1) := by decide +kernel
theorem dL_716 : decode code 716 = .ok (.aload_n 0, 1) := by decide +kernel
theorem dL_717 : decode code 717 = .ok (.iload_n 3, 1) := by decide +kernel
theorem dL_718 : decode code 718 = .ok (.iconst 2, 1) := by decide +kernel
theorem dL_719 : decode code 719 = .ok (.iadd, 1) := by decide +kernel
theorem dL_720 : decode code 720 = .ok (.iaload, 1) := by decide +kernel
theorem dL_721 : decode code 721 = .ok (.invokevirtual 96, 3) := by decide +kernel
theorem dL_724 : decode code 724 = .ok (.aload_n 2, 1) := by decide +kernel
theorem dL_725 : decode code 725 = .ok (.aload_n 0, 1) := by decide +kernel
theorem dL_726 : decode code 726 = .ok (.iload_n 3, 1) := by decide +kernel
theorem dL_727 : decode code 727 = .ok (.iconst 1, 1) := by decide +kernel
theorem dL_728 : decode code 728 = .ok (.iadd, 1) := by decide +kernel
theorem dL_729 : decode code 729 = .ok (.iaload, 1) := by decide +kernel
theorem dL_730 : decode code 730 = .ok (.aload_n 0, 1) := by decide +kernel
theorem dL_731 : decode code 731 = .ok (.iload_n 3, 1) := by decide +kernel
theorem dL_732 : decode code 732 = .ok (.iconst 2, 1) := by decide +kernel
theorem dL_733 : decode code 733 = .ok (.iadd, 1) := by decide +kernel
theorem dL_734 : decode code 734 = .ok (.iaload, 1) := by decide +kernel
theorem dL_735 : decode code 735 = .ok (.invokevirtual 99, 3) := by decide +kernel
theorem dL_738 : decode code 738 = .ok (.if_icmp .eq 671, 3) := by decide +kernel
theorem dL_741 : decode code 741 = .ok (.iconst 0, 1) := by decide +kernel
theorem dL_742 : decode code 742 = .ok (.ireturn, 1) := by decide +kernel
theorem dL_743 : decode code 743 = .ok (.aload_n 1, 1) := by decide +kernel
theorem dL_744 : decode code 744 = .ok (.aload_n 0, 1) := by decide +kernel
theorem dL_745 : decode code 745 = .ok (.iload_n 3, 1) := by decide +kernel
theorem dL_746 : decode code 746 = .ok (.iconst 1, 1) := by decide +kernel
theorem dL_747 : decode code 747 = .ok (.iadd, 1) := by decide +kernel
theorem dL_748 : decode code 748 = .ok (.iaload, 1) := by decide +kernel
theorem dL_749 : decode code 749 = .ok (.aload_n 0, 1) := by decide +kernel
theorem dL_750 : decode code 750 = .ok (.iload_n 3, 1) := by decide +kernel
theorem dL_751 : decode code 751 = .ok (.iconst 2, 1) := by decide +kernel
theorem dL_752 : decode code 752 = .ok (.iadd, 1) := by decide +kernel
theorem dL_753 : decode code 753 = .ok (.iaload, 1) := by decide +kernel
theorem dL_754 : decode code 754 = .ok (.invokevirtual 100, 3) := by decide +kernel
theorem dL_757 : decode code 757 = .ok (.aload_n 2, 1) := by decide +kernel
theorem dL_758 : decode code 758 = .ok (.aload_n 0, 1) := by decide +kernel
theorem dL_759 : decode code 759 = .ok (.iload_n 3, 1) := by decide +kernel
theorem dL_760 : decode code 760 = .ok (.iconst 1, 1) := by decide +kernel
theorem dL_761 : decode code 761 = .ok (.iadd, 1) := by decide +kernel
theorem dL_762 : decode code 762 = .ok (.iaload, 1) := by decide +kernel
theorem dL_763 : decode code 763 = .ok (.aload_n 0, 1) := by decide +kernel
theorem dL_764 : decode code 764 = .ok (.iload_n 3, 1) := by decide +kernel
theorem dL_765 : decode code 765 = .ok (.iconst 2, 1) := by decide +kernel
theorem dL_766 : decode code 766 = .ok (.iadd, 1) := by decide +kernel
theorem dL_767 : decode code 767 = .ok (.iaload, 1) := by decide +kernel
theorem dL_768 : decode code 768 = .ok (.invokevirtual 103, 3) := by decide +kernel
theorem dL_771 : decode code 771 = .ok (.if_icmp .eq 638, 3) := by decide +kernel
theorem dL_774 : decode code 774 = .ok (.iconst 0, 1) := by decide +kernel
theorem dL_775 : decode code 775 = .ok (.ireturn, 1) := by decide +kernel
theorem dL_776 : decode code 776 = .ok (.aload_n 1, 1) := by decide +kernel
theorem dL_777 : decode code 777 = .ok (.aload_n 0, 1) := by decide +kernel
theorem dL_778 : decode code 778 = .ok (.iload_n 3, 1) := by decide +kernel
theorem dL_779 : decode code 779 = .ok (.iconst 1, 1) := by decide +kernel
theorem dL_780 : decode code 780 = .ok (.iadd, 1) := by decide +kernel
theorem dL_781 : decode code 781 = .ok (.iaload, 1) := by decide +kernel
theorem dL_782 : decode code 782 = .ok (.invokevirtual 104, 3) := by decide +kernel
theorem dL_785 : decode code 785 = .ok (.aload_n 2, 1) := by decide +kernel
theorem dL_786 : decode code 786 = .ok (.aload_n 0, 1) := by decide +kernel
theorem dL_787 : decode code 787 = .ok (.iload_n 3, 1) := by decide +kernel
theorem dL_788 : decode code 788 = .ok (.iconst 1, 1) := by decide +kernel
theorem dL_789 : decode code 789 = .ok (.iadd, 1) := by decide +kernel
theorem dL_790 : decode code 790 = .ok (.iaload, 1) := by decide +kernel
theorem dL_791 : decode code 791 = .ok (.invokevirtual 107, 3) := by decide +kernel
theorem dL_794 : decode code 794 = .ok (.if_icmp .eq 615, 3) := by decide +kernel
theorem dL_797 : decode code 797 = .ok (.iconst 0, 1) := by decide +kernel
theorem dL_798 : decode code 798 = .ok (.ireturn, 1) := by decide +kernel
theorem dL_799 : decode code 799 = .ok (.aload_n 1, 1) := by decide +kernel
theorem dL_800 : decode code 800 = .ok (.aload_n 0, 1) := by decide +kernel
theorem dL_801 : decode code 801 = .ok (.iload_n 3, 1) := by decide +kernel
theorem dL_802 : decode code 802 = .ok (.iconst 1, 1) := by decide +kernel
theorem dL_803 : decode code 803 = .ok (.iadd, 1) := by decide +kernel
theorem dL_804 : decode code 804 = .ok (.iaload, 1) := by decide +kernel
theorem dL_805 : decode code 805 = .ok (.aload_n 0, 1) := by decide +kernel
theorem dL_806 : decode code 806 = .ok (.iload_n 3, 1) := by decide +kernel
theorem dL_807 : decode code 807 = .ok (.iconst 2, 1) := by decide +kernel
theorem dL_808 : decode code 808 = .ok (.iadd, 1) := by decide +kernel
theorem dL_809 : decode code 809 = .ok (.iaload, 1) := by decide +kernel
theorem dL_810 : decode code 810 = .ok (.invokevirtual 108, 3) := by decide +kernel
theorem dL_813 : decode code 813 = .ok (.aload_n 2, 1) := by decide +kernel
theorem dL_814 : decode code 814 = .ok (.aload_n 0, 1) := by decide +kernel
theorem dL_815 : decode code 815 = .ok (.iload_n 3, 1) := by decide +kernel
theorem dL_816 : decode code 816 = .ok (.iconst 1, 1) := by decide +kernel
theorem dL_817 : decode code 817 = .ok (.iadd, 1) := by decide +kernel
theorem dL_818 : decode code 818 = .ok (.iaload, 1) := by decide +kernel
theorem dL_819 : decode code 819 = .ok (.aload_n 0, 1) := by decide +kernel
theorem dL_820 : decode code 820 = .ok (.iload_n 3, 1) := by decide +kernel
theorem dL_821 : decode code 821 = .ok (.iconst 2, 1) := by decide +kernel
theorem dL_822 : decode code 822 = .ok (.iadd, 1) := by decide +kernel
theorem dL_823 : decode code 823 = .ok (.iaload, 1) := by decide +kernel
theorem dL_824 : decode code 824 = .ok (.invokevirtual 111, 3) := by decide +kernel
theorem dL_827 : decode code 827 = .ok (.if_icmp .eq 582, 3) := by decide +kernel
theorem dL_830 : decode code 830 = .ok (.iconst 0, 1) := by decide +kernel
theorem dL_831 : decode code 831 = .ok (.ireturn, 1) := by decide +kernel
theorem dL_832 : decode code 832 = .ok (.aload_n 1, 1) := by decide +kernel
theorem dL_833 : decode code 833 = .ok (.aload_n 0, 1) := by decide +kernel
theorem dL_834 : decode code 834 = .ok (.iload_n 3, 1) := by decide +kernel
theorem dL_835 : decode code 835 = .ok (.iconst 1, 1) := by decide +kernel
theorem dL_836 : decode code 836 = .ok (.iadd, 1) := by decide +kernel
theorem dL_837 : decode code 837 = .ok (.iaload, 1) := by decide +kernel
theorem dL_838 : decode code 838 = .ok (.aload_n 0, 1) := by decide +kernel
theorem dL_839 : decode code 839 = .ok (.iload_n 3, 1) := by decide +kernel
theorem dL_840 : decode code 840 = .ok (.iconst 2, 1) := by decide +kernel
theorem dL_841 : decode code 841 = .ok (.iadd, 1) := by decide +kernel
theorem dL_842 : decode code 842 = .ok (.iaload, 1) := by decide +kernel
theorem dL_843 : decode code 843 = .ok (.invokevirtual 112, 3) := by decide +kernel
theorem dL_846 : decode code 846 = .ok (.aload_n 2, 1) := by decide +kernel
theorem dL_847 : decode code 847 = .ok (.aload_n 0, 1) := by decide +kernel
theorem dL_848 : decode code 848 = .ok (.iload_n 3, 1) := by decide +kernel
theorem dL_849 : decode code 849 = .ok (.iconst 1, 1) := by decide +kernel
theorem dL_850 : decode code 850 = .ok (.iadd, 1) := by decide +kernel
theorem dL_851 : decode code 851 = .ok (.iaload, 1) := by decide +kernel
theorem dL_852 : decode code 852 = .ok (.aload_n 0, 1) := by decide +kernel
theorem dL_853 : decode code 853 = .ok (.iload_n 3, 1) := by decide +kernel
theorem dL_854 : decode code 854 = .ok (.iconst 2, 1) := by decide +kernel
theorem dL_855 : decode code 855 = .ok (.iadd, 1) := by decide +kernel
theorem dL_856 : decode code 856 = .ok (.iaload, 1) := by decide +kernel
theorem dL_857 : decode code 857 = .ok (.invokevirtual 115, 3) := by decide +kernel
theorem dL_860 : decode code 860 = .ok (.if_icmp .eq 549, 3) := by decide +kernel
theorem dL_863 : decode code 863 = .ok (.iconst 0, 1) := by decide +kernel
theorem dL_864 : decode code 864 = .ok (.ireturn, 1) := by decide +kernel
theorem dL_865 : decode code 865 = .ok (.aload_n 1, 1) := by decide +kernel
theorem dL_866 : decode code 866 = .ok (.aload_n 0, 1) := by decide +kernel
theorem dL_867 : decode code 867 = .ok (.iload_n 3, 1) := by decide +kernel
theorem dL_868 : decode code 868 = .ok (.iconst 1, 1) := by decide +kernel
theorem dL_869 : decode code 869 = .ok (.iadd, 1) := by decide +kernel
theorem dL_870 : decode code 870 = .ok (.iaload, 1) := by decide +kernel
theorem dL_871 : decode code 871 = .ok (.invokevirtual 116, 3) := by decide +kernel
theorem dL_874 : decode code 874 = .ok (.aload_n 2, 1) := by decide +kernel
theorem dL_875 : decode code 875 = .ok (.aload_n 0, 1) := by decide +kernel
theorem dL_876 : decode code 876 = .ok (.iload_n 3, 1) := by decide +kernel
theorem dL_877 : decode code 877 = .ok (.iconst 1, 1) := by decide +kernel
theorem dL_878 : decode code 878 = .ok (.iadd, 1) := by decide +kernel
theorem dL_879 : decode code 879 = .ok (.iaload, 1) := by decide +kernel
theorem dL_880 : decode code 880 = .ok (.invokevirtual 119, 3) := by decide +kernel
theorem dL_883 : decode code 883 = .ok (.if_icmp .eq 526, 3) := by decide +kernel
theorem dL_886 : decode code 886 = .ok (.iconst 0, 1) := by decide +kernel
theorem dL_887 : decode code 887 = .ok (.ireturn, 1) := by decide +kernel
theorem dL_888 : decode code 888 = .ok (.aload_n 1, 1) := by decide +kernel
theorem dL_889 : decode code 889 = .ok (.aload_n 0, 1) := by decide +kernel
theorem dL_890 : decode code 890 = .ok (.iload_n 3, 1) := by decide +kernel
theorem dL_891 : decode code 891 = .ok (.iconst 1, 1) := by decide +kernel
theorem dL_892 : decode code 892 = .ok (.iadd, 1) := by decide +kernel
theorem dL_893 : decode code 893 = .ok (.iaload, 1) := by decide +kernel
theorem dL_894 : decode code 894 = .ok (.invokevirtual 120, 3) := by decide +kernel
theorem dL_897 : decode code 897 = .ok (.aload_n 2, 1) := by decide +kernel
theorem dL_898 : decode code 898 = .ok (.aload_n 0, 1) := by decide +kernel
theorem dL_899 : decode code 899 = .ok (.iload_n 3, 1) := by decide +kernel
theorem dL_900 : decode code 900 = .ok (.iconst 1, 1) := by decide +kernel
theorem dL_901 : decode code 901 = .ok (.iadd, 1) := by decide +kernel
theorem dL_902 : decode code 902 = .ok (.iaload, 1) := by decide +kernel
theorem dL_903 : decode code 903 = .ok (.invokevirtual 123, 3) := by decide +kernel
theorem dL_906 : decode code 906 = .ok (.if_icmp .eq 503, 3) := by decide +kernel
theorem dL_909 : decode code 909 = .ok (.iconst 0, 1) := by decide +kernel
theorem dL_910 : decode code 910 = .ok (.ireturn, 1) := by decide +kernel
theorem dL_911 : decode code 911 = .ok (.aload_n 1, 1) := by decide +kernel
theorem dL_912 : decode code 912 = .ok (.aload_n 0, 1) := by decide +kernel
theorem dL_913 : decode code 913 = .ok (.iload_n 3, 1) := by decide +kernel
theorem dL_914 : decode code 914 = .ok (.iconst 1, 1) := by decide +kernel
theorem dL_915 : decode code 915 = .ok (.iadd, 1) := by decide +kernel
theorem dL_916 : decode code 916 = .ok (.iaload, 1) := by decide +kernel
theorem dL_917 : decode code 917 = .ok (.aload_n 0, 1) := by decide +kernel
theorem dL_918 : decode code 918 = .ok (.iload_n 3, 1) := by decide +kernel
theorem dL_919 : decode code 919 = .ok (.iconst 2, 1) := by decide +kernel
theorem dL_920 : decode code 920 = .ok (.iadd, 1) := by decide +kernel
theorem dL_921 : decode code 921 = .ok (.iaload, 1) := by decide +kernel
theorem dL_922 : decode code 922 = .ok (.invokevirtual 124, 3) := by decide +kernel
theorem dL_925 : decode code 925 = .ok (.aload_n 2, 1) := by decide +kernel
theorem dL_926 : decode code 926 = .ok (.aload_n 0, 1) := by decide +kernel
theorem dL_927 : decode code 927 = .ok (.iload_n 3, 1) := by decide +kernel
theorem dL_928 : decode code 928 = .ok (.iconst 1, 1) := by decide +kernel
theorem dL_929 : decode code 929 = .ok (.iadd, 1) := by decide +kernel
theorem dL_930 : decode code 930 = .ok (.iaload, 1) := by decide +kernel
theorem dL_931 : decode code 931 = .ok (.aload_n 0, 1) := by decide +kernel
theorem dL_932 : decode code 932 = .ok (.iload_n 3, 1) := by decide +kernel
theorem dL_933 : decode code 933 = .ok (.iconst 2, 1) := by decide +kernel
theorem dL_934 : decode code 934 = .ok (.iadd, 1) := by decide +kernel
theorem dL_935 : decode code 935 = .ok (.iaload, 1) := by decide +kernel
theorem dL_936 : decode code 936 = .ok (.invokevirtual 127, 3) := by decide +kernel
theorem dL_939 : decode code 939 = .ok (.if_icmp .eq 470, 3) := by decide +kernel
theorem dL_942 : decode code 942 = .ok (.iconst 0, 1) := by decide +kernel
theorem dL_943 : decode code 943 = .ok (.ireturn, 1) := by decide +kernel
theorem dL_944 : decode code 944 = .ok (.aload_n 1, 1) := by decide +kernel
theorem dL_945 : decode code 945 = .ok (.aload_n 0, 1) := by decide +kernel
theorem dL_946 : decode code 946 = .ok (.iload_n 3, 1) := by decide +kernel
theorem dL_947 : decode code 947 = .ok (.iconst 1, 1) := by decide +kernel
theorem dL_948 : decode code 948 = .ok (.iadd, 1) := by decide +kernel
theorem dL_949 : decode code 949 = .ok (.iaload, 1) := by decide +kernel
theorem dL_950 : decode code 950 = .ok (.aload_n 0, 1) := by decide +kernel
theorem dL_951 : decode code 951 = .ok (.iload_n 3, 1) := by decide +kernel
theorem dL_952 : decode code 952 = .ok (.iconst 2, 1) := by decide +kernel
theorem dL_953 : decode code 953 = .ok (.iadd, 1) := by decide +kernel
theorem dL_954 : decode code 954 = .ok (.iaload, 1) := by decide +kernel
theorem dL_955 : decode code 955 = .ok (.aload_n 0, 1) := by decide +kernel
theorem dL_956 : decode code 956 = .ok (.iload_n 3, 1) := by decide +kernel
theorem dL_957 : decode code 957 = .ok (.iconst 3, 1) := by decide +kernel
theorem dL_958 : decode code 958 = .ok (.iadd, 1) := by decide +kernel
theorem dL_959 : decode code 959 = .ok (.iaload, 1) := by decide +kernel
theorem dL_960 : decode code 960 = .ok (.aload_n 0, 1) := by decide +kernel
theorem dL_961 : decode code 961 = .ok (.iload_n 3, 1) := by decide +kernel
theorem dL_962 : decode code 962 = .ok (.iconst 4, 1) := by decide +kernel
theorem dL_963 : decode code 963 = .ok (.iadd, 1) := by decide +kernel
theorem dL_964 : decode code 964 = .ok (.iaload, 1) := by decide +kernel
theorem dL_965 : decode code 965 = .ok (.invokevirtual 128, 3) := by decide +kernel
theorem dL_968 : decode code 968 = .ok (.aload_n 2, 1) := by decide +kernel
theorem dL_969 : decode code 969 = .ok (.aload_n 0, 1) := by decide +kernel
theorem dL_970 : decode code 970 = .ok (.iload_n 3, 1) := by decide +kernel
theorem dL_971 : decode code 971 = .ok (.iconst 1, 1) := by decide +kernel
theorem dL_972 : decode code 972 = .ok (.iadd, 1) := by decide +kernel
theorem dL_973 : decode code 973 = .ok (.iaload, 1) := by decide +kernel
theorem dL_974 : decode code 974 = .ok (.aload_n 0, 1) := by decide +kernel
theorem dL_975 : decode code 975 = .ok (.iload_n 3, 1) := by decide +kernel
theorem dL_976 : decode code 976 = .ok (.iconst 2, 1) := by decide +kernel
theorem dL_977 : decode code 977 = .ok (.iadd, 1) := by decide +kernel
theorem dL_978 : decode code 978 = .ok (.iaload, 1) := by decide +kernel
theorem dL_979 : decode code 979 = .ok (.aload_n 0, 1) := by decide +kernel
theorem dL_980 : decode code 980 = .ok (.iload_n 3, 1) := by decide +kernel
theorem dL_981 : decode code 981 = .ok (.iconst 3, 1) := by decide +kernel
theorem dL_982 : decode code 982 = .ok (.iadd, 1) := by decide +kernel
theorem dL_983 : decode code 983 = .ok (.iaload, 1) := by decide +kernel
theorem dL_984 : decode code 984 = .ok (.aload_n 0, 1) := by decide +kernel
theorem dL_985 : decode code 985 = .ok (.iload_n 3, 1) := by decide +kernel
theorem dL_986 : decode code 986 = .ok (.iconst 4, 1) := by decide +kernel
theorem dL_987 : decode code 987 = .ok (.iadd, 1) := by decide +kernel
theorem dL_988 : decode code 988 = .ok (.iaload, 1) := by decide +kernel
theorem dL_989 : decode code 989 = .ok (.invokevirtual 132, 3) := by decide +kernel
theorem dL_992 : decode code 992 = .ok (.if_icmp .eq 417, 3) := by decide +kernel
theorem dL_995 : decode code 995 = .ok (.iconst 0, 1) := by decide +kernel
theorem dL_996 : decode code 996 = .ok (.ireturn, 1) := by decide +kernel
theorem dL_997 : decode code 997 = .ok (.aload_n 1, 1) := by decide +kernel
theorem dL_998 : decode code 998 = .ok (.aload_n 0, 1) := by decide +kernel
theorem dL_999 : decode code 999 = .ok (.iload_n 3, 1) := by decide +kernel
theorem dL_1000 : decode code 1000 = .ok (.iconst 1, 1) := by decide +kernel
theorem dL_1001 : decode code 1001 = .ok (.iadd, 1) := by decide +kernel
theorem dL_1002 : decode code 1002 = .ok (.iaload, 1) := by decide +kernel
theorem dL_1003 : decode code 1003 = .ok (.aload_n 0, 1) := by decide +kernel
theorem dL_1004 : decode code 1004 = .ok (.iload_n 3, 1) := by decide +kernel
theorem dL_1005 : decode code 1005 = .ok (.iconst 2, 1) := by decide +kernel
theorem dL_1006 : decode code 1006 = .ok (.iadd, 1) := by decide +kernel
theorem dL_1007 : decode code 1007 = .ok (.iaload, 1) := by decide +kernel
theorem dL_1008 : decode code 1008 = .ok (.aload_n 0, 1) := by decide +kernel
theorem dL_1009 : decode code 1009 = .ok (.iload_n 3, 1) := by decide +kernel
theorem dL_1010 : decode code 1010 = .ok (.iconst 3, 1) := by decide +kernel
theorem dL_1011 : decode code 1011 = .ok (.iadd, 1) := by decide +kernel
theorem dL_1012 : decode code 1012 = .ok (.iaload, 1) := by decide +kernel
theorem dL_1013 : decode code 1013 = .ok (.invokevirtual 133, 3) := by decide +kernel
theorem dL_1016 : decode code 1016 = .ok (.aload_n 2, 1) := by decide +kernel
theorem dL_1017 : decode code 1017 = .ok (.aload_n 0, 1) := by decide +kernel
theorem dL_1018 : decode code 1018 = .ok (.iload_n 3, 1) := by decide +kernel
theorem dL_1019 : decode code 1019 = .ok (.iconst 1, 1) := by decide +kernel
theorem dL_1020 : decode code 1020 = .ok (.iadd, 1) := by decide +kernel
theorem dL_1021 : decode code 1021 = .ok (.iaload, 1) := by decide +kernel
theorem dL_1022 : decode code 1022 = .ok (.aload_n 0, 1) := by decide +kernel
theorem dL_1023 : decode code 1023 = .ok (.iload_n 3, 1) := by decide +kernel
theorem dL_1024 : decode code 1024 = .ok (.iconst 2, 1) := by decide +kernel
theorem dL_1025 : decode code 1025 = .ok (.iadd, 1) := by decide +kernel
theorem dL_1026 : decode code 1026 = .ok (.iaload, 1) := by decide +kernel
theorem dL_1027 : decode code 1027 = .ok (.aload_n 0, 1) := by decide +kernel
theorem dL_1028 : decode code 1028 = .ok (.iload_n 3, 1) := by decide +kernel
theorem dL_1029 : decode code 1029 = .ok (.iconst 3, 1) := by decide +kernel
theorem dL_1030 : decode code 1030 = .ok (.iadd, 1) := by decide +kernel
theorem dL_1031 : decode code 1031 = .ok (.iaload, 1) := by decide +kernel
theorem dL_1032 : decode code 1032 = .ok (.invokevirtual 137, 3) := by decide +kernel
theorem dL_1035 : decode code 1035 = .ok (.if_icmp .eq 374, 3) := by decide +kernel
theorem dL_1038 : decode code 1038 = .ok (.iconst 0, 1) := by decide +kernel
theorem dL_1039 : decode code 1039 = .ok (.ireturn, 1) := by decide +kernel
theorem dL_1040 : decode code 1040 = .ok (.aload_n 1, 1) := by decide +kernel
theorem dL_1041 : decode code 1041 = .ok (.aload_n 0, 1) := by decide +kernel
theorem dL_1042 : decode code 1042 = .ok (.iload_n 3, 1) := by decide +kernel
theorem dL_1043 : decode code 1043 = .ok (.iconst 1, 1) := by decide +kernel
theorem dL_1044 : decode code 1044 = .ok (.iadd, 1) := by decide +kernel
theorem dL_1045 : decode code 1045 = .ok (.iaload, 1) := by decide +kernel
theorem dL_1046 : decode code 1046 = .ok (.invokevirtual 138, 3) := by decide +kernel
theorem dL_1049 : decode code 1049 = .ok (.aload_n 2, 1) := by decide +kernel
theorem dL_1050 : decode code 1050 = .ok (.aload_n 0, 1) := by decide +kernel
theorem dL_1051 : decode code 1051 = .ok (.iload_n 3, 1) := by decide +kernel
theorem dL_1052 : decode code 1052 = .ok (.iconst 1, 1) := by decide +kernel
theorem dL_1053 : decode code 1053 = .ok (.iadd, 1) := by decide +kernel
theorem dL_1054 : decode code 1054 = .ok (.iaload, 1) := by decide +kernel
theorem dL_1055 : decode code 1055 = .ok (.invokevirtual 141, 3) := by decide +kernel
theorem dL_1058 : decode code 1058 = .ok (.if_icmp .eq 351, 3) := by decide +kernel
theorem dL_1061 : decode code 1061 = .ok (.iconst 0, 1) := by decide +kernel
theorem dL_1062 : decode code 1062 = .ok (.ireturn, 1) := by decide +kernel
theorem dL_1063 : decode code 1063 = .ok (.aload_n 1, 1) := by decide +kernel
theorem dL_1064 : decode code 1064 = .ok (.aload_n 0, 1) := by decide +kernel
theorem dL_1065 : decode code 1065 = .ok (.iload_n 3, 1) := by decide +kernel
theorem dL_1066 : decode code 1066 = .ok (.iconst 1, 1) := by decide +kernel
theorem dL_1067 : decode code 1067 = .ok (.iadd, 1) := by decide +kernel
theorem dL_1068 : decode code 1068 = .ok (.iaload, 1) := by decide +kernel
theorem dL_1069 : decode code 1069 = .ok (.aload_n 0, 1) := by decide +kernel
theorem dL_1070 : decode code 1070 = .ok (.iload_n 3, 1) := by decide +kernel
theorem dL_1071 : decode code 1071 = .ok (.iconst 2, 1) := by decide +kernel
theorem dL_1072 : decode code 1072 = .ok (.iadd, 1) := by decide +kernel
theorem dL_1073 : decode code 1073 = .ok (.iaload, 1) := by decide +kernel
theorem dL_1074 : decode code 1074 = .ok (.invokevirtual 142, 3) := by decide +kernel
theorem dL_1077 : decode code 1077 = .ok (.aload_n 2, 1) := by decide +kernel
theorem dL_1078 : decode code 1078 = .ok (.aload_n 0, 1) := by decide +kernel
theorem dL_1079 : decode code 1079 = .ok (.iload_n 3, 1) := by decide +kernel
theorem dL_1080 : decode code 1080 = .ok (.iconst 1, 1) := by decide +kernel
theorem dL_1081 : decode code 1081 = .ok (.iadd, 1) := by decide +kernel
theorem dL_1082 : decode code 1082 = .ok (.iaload, 1) := by decide +kernel
theorem dL_1083 : decode code 1083 = .ok (.aload_n 0, 1) := by decide +kernel
theorem dL_1084 : decode code 1084 = .ok (.iload_n 3, 1) := by decide +kernel
theorem dL_1085 : decode code 1085 = .ok (.iconst 2, 1) := by decide +kernel
theorem dL_1086 : decode code 1086 = .ok (.iadd, 1) := by decide +kernel
theorem dL_1087 : decode code 1087 = .ok (.iaload, 1) := by decide +kernel
theorem dL_1088 : decode code 1088 = .ok (.invokevirtual 145, 3) := by decide +kernel
theorem dL_1091 : decode code 1091 = .ok (.if_icmp .eq 318, 3) := by decide +kernel
theorem dL_1094 : decode code 1094 = .ok (.iconst 0, 1) := by decide +kernel
theorem dL_1095 : decode code 1095 = .ok (.ireturn, 1) := by decide +kernel
theorem dL_1096 : decode code 1096 = .ok (.aload_n 1, 1) := by decide +kernel
theorem dL_1097 : decode code 1097 = .ok (.aload_n 0, 1) := by decide +kernel
theorem dL_1098 : decode code 1098 = .ok (.iload_n 3, 1) := by decide +kernel
theorem dL_1099 : decode code 1099 = .ok (.iconst 1, 1) := by decide +kernel
theorem dL_1100 : decode code 1100 = .ok (.iadd, 1) := by decide +kernel
theorem dL_1101 : decode code 1101 = .ok (.iaload, 1) := by decide +kernel
theorem dL_1102 : decode code 1102 = .ok (.aload_n 0, 1) := by decide +kernel
theorem dL_1103 : decode code 1103 = .ok (.iload_n 3, 1) := by decide +kernel
theorem dL_1104 : decode code 1104 = .ok (.iconst 2, 1) := by decide +kernel
theorem dL_1105 : decode code 1105 = .ok (.iadd, 1) := by decide +kernel
theorem dL_1106 : decode code 1106 = .ok (.iaload, 1) := by decide +kernel
theorem dL_1107 : decode code 1107 = .ok (.invokevirtual 146, 3) := by decide +kernel
theorem dL_1110 : decode code 1110 = .ok (.aload_n 2, 1) := by decide +kernel
theorem dL_1111 : decode code 1111 = .ok (.aload_n 0, 1) := by decide +kernel
theorem dL_1112 : decode code 1112 = .ok (.iload_n 3, 1) := by decide +kernel
theorem dL_1113 : decode code 1113 = .ok (.iconst 1, 1) := by decide +kernel
theorem dL_1114 : decode code 1114 = .ok (.iadd, 1) := by decide +kernel
theorem dL_1115 : decode code 1115 = .ok (.iaload, 1) := by decide +kernel
theorem dL_1116 : decode code 1116 = .ok (.aload_n 0, 1) := by decide +kernel
theorem dL_1117 : decode code 1117 = .ok (.iload_n 3, 1) := by decide +kernel
theorem dL_1118 : decode code 1118 = .ok (.iconst 2, 1) := by decide +kernel
theorem dL_1119 : decode code 1119 = .ok (.iadd, 1) := by decide +kernel
theorem dL_1120 : decode code 1120 = .ok (.iaload, 1) := by decide +kernel
theorem dL_1121 : decode code 1121 = .ok (.invokevirtual 149, 3) := by decide +kernel
theorem dL_1124 : decode code 1124 = .ok (.if_icmp .eq 285, 3) := by decide +kernel
theorem dL_1127 : decode code 1127 = .ok (.iconst 0, 1) := by decide +kernel
theorem dL_1128 : decode code 1128 = .ok (.ireturn, 1) := by decide +kernel
theorem dL_1129 : decode code 1129 = .ok (.aload_n 1, 1) := by decide +kernel
theorem dL_1130 : decode code 1130 = .ok (.aload_n 0, 1) := by decide +kernel
theorem dL_1131 : decode code 1131 = .ok (.iload_n 3, 1) := by decide +kernel
theorem dL_1132 : decode code 1132 = .ok (.iconst 1, 1) := by decide +kernel
theorem dL_1133 : decode code 1133 = .ok (.iadd, 1) := by decide +kernel
theorem dL_1134 : decode code 1134 = .ok (.iaload, 1) := by decide +kernel
theorem dL_1135 : decode code 1135 = .ok (.aload_n 0, 1) := by decide +kernel
theorem dL_1136 : decode code 1136 = .ok (.iload_n 3, 1) := by decide +kernel
theorem dL_1137 : decode code 1137 = .ok (.iconst 2, 1) := by decide +kernel
theorem dL_1138 : decode code 1138 = .ok (.iadd, 1) := by decide +kernel
theorem dL_1139 : decode code 1139 = .ok (.iaload, 1) := by decide +kernel
theorem dL_1140 : decode code 1140 = .ok (.aload_n 0, 1) := by decide +kernel
theorem dL_1141 : decode code 1141 = .ok (.iload_n 3, 1) := by decide +kernel
theorem dL_1142 : decode code 1142 = .ok (.iconst 3, 1) := by decide +kernel
theorem dL_1143 : decode code 1143 = .ok (.iadd, 1) := by decide +kernel
theorem dL_1144 : decode code 1144 = .ok (.iaload, 1) := by decide +kernel
theorem dL_1145 : decode code 1145 = .ok (.invokevirtual 150, 3) := by decide +kernel
theorem dL_1148 : decode code 1148 = .ok (.aload_n 2, 1) := by decide +kernel
theorem dL_1149 : decode code 1149 = .ok (.aload_n 0, 1) := by decide +kernel
theorem dL_1150 : decode code 1150 = .ok (.iload_n 3, 1) := by decide +kernel
theorem dL_1151 : decode code 1151 = .ok (.iconst 1, 1) := by decide +kernel
theorem dL_1152 : decode code 1152 = .ok (.iadd, 1) := by decide +kernel
theorem dL_1153 : decode code 1153 = .ok (.iaload, 1) := by decide +kernel
theorem dL_1154 : decode code 1154 = .ok (.aload_n 0, 1) := by decide +kernel
theorem dL_1155 : decode code 1155 = .ok (.iload_n 3, 1) := by decide +kernel
theorem dL_1156 : decode code 1156 = .ok (.iconst 2, 1) := by decide +kernel
theorem dL_1157 : decode code 1157 = .ok (.iadd, 1) := by decide +kernel
theorem dL_1158 : decode code 1158 = .ok (.iaload, 1) := by decide +kernel
theorem dL_1159 : decode code 1159 = .ok (.aload_n 0, 1) := by decide +kernel
theorem dL_1160 : decode code 1160 = .ok (.iload_n 3, 1) := by decide +kernel
theorem dL_1161 : decode code 1161 = .ok (.iconst 3, 1) := by decide +kernel
theorem dL_1162 : decode code 1162 = .ok (.iadd, 1) := by decide +kernel
theorem dL_1163 : decode code 1163 = .ok (.iaload, 1) := by decide +kernel
theorem dL_1164 : decode code 1164 = .ok (.invokevirtual 153, 3) := by decide +kernel
theorem dL_1167 : decode code 1167 = .ok (.if_icmp .eq 242, 3) := by decide +kernel
theorem dL_1170 : decode code 1170 = .ok (.iconst 0, 1) := by decide +kernel
theorem dL_1171 : decode code 1171 = .ok (.ireturn, 1) := by decide +kernel
theorem dL_1172 : decode code 1172 = .ok (.aload_n 1, 1) := by decide +kernel
theorem dL_1173 : decode code 1173 = .ok (.aload_n 0, 1) := by decide +kernel
theorem dL_1174 : decode code 1174 = .ok (.iload_n 3, 1) := by decide +kernel
theorem dL_1175 : decode code 1175 = .ok (.iconst 1, 1) := by decide +kernel
theorem dL_1176 : decode code 1176 = .ok (.iadd, 1) := by decide +kernel
theorem dL_1177 : decode code 1177 = .ok (.iaload, 1) := by decide +kernel
theorem dL_1178 : decode code 1178 = .ok (.aload_n 0, 1) := by decide +kernel
theorem dL_1179 : decode code 1179 = .ok (.iload_n 3, 1) := by decide +kernel
theorem dL_1180 : decode code 1180 = .ok (.iconst 2, 1) := by decide +kernel
theorem dL_1181 : decode code 1181 = .ok (.iadd, 1) := by decide +kernel
theorem dL_1182 : decode code 1182 = .ok (.iaload, 1) := by decide +kernel
theorem dL_1183 : decode code 1183 = .ok (.aload_n 0, 1) := by decide +kernel
theorem dL_1184 : decode code 1184 = .ok (.iload_n 3, 1) := by decide +kernel
theorem dL_1185 : decode code 1185 = .ok (.iconst 3, 1) := by decide +kernel
theorem dL_1186 : decode code 1186 = .ok (.iadd, 1) := by decide +kernel
theorem dL_1187 : decode code 1187 = .ok (.iaload, 1) := by decide +kernel
theorem dL_1188 : decode code 1188 = .ok (.invokevirtual 154, 3) := by decide +kernel
theorem dL_1191 : decode code 1191 = .ok (.aload_n 2, 1) := by decide +kernel
theorem dL_1192 : decode code 1192 = .ok (.aload_n 0, 1) := by decide +kernel
theorem dL_1193 : decode code 1193 = .ok (.iload_n 3, 1) := by decide +kernel
theorem dL_1194 : decode code 1194 = .ok (.iconst 1, 1) := by decide +kernel
theorem dL_1195 : decode code 1195 = .ok (.iadd, 1) := by decide +kernel
theorem dL_1196 : decode code 1196 = .ok (.iaload, 1) := by decide +kernel
theorem dL_1197 : decode code 1197 = .ok (.aload_n 0, 1) := by decide +kernel
theorem dL_1198 : decode code 1198 = .ok (.iload_n 3, 1) := by decide +kernel
theorem dL_1199 : decode code 1199 = .ok (.iconst 2, 1) := by decide +kernel
theorem dL_1200 : decode code 1200 = .ok (.iadd, 1) := by decide +kernel
theorem dL_1201 : decode code 1201 = .ok (.iaload, 1) := by decide +kernel
theorem dL_1202 : decode code 1202 = .ok (.aload_n 0, 1) := by decide +kernel
theorem dL_1203 : decode code 1203 = .ok (.iload_n 3, 1) := by decide +kernel
theorem dL_1204 : decode code 1204 = .ok (.iconst 3, 1) := by decide +kernel
theorem dL_1205 : decode code 1205 = .ok (.iadd, 1) := by decide +kernel
theorem dL_1206 : decode code 1206 = .ok (.iaload, 1) := by decide +kernel
theorem dL_1207 : decode code 1207 = .ok (.invokevirtual 157, 3) := by decide +kernel
theorem dL_1210 : decode code 1210 = .ok (.if_icmp .eq 199, 3) := by decide +kernel
theorem dL_1213 : decode code 1213 = .ok (.iconst 0, 1) := by decide +kernel
theorem dL_1214 : decode code 1214 = .ok (.ireturn, 1) := by decide +kernel
theorem dL_1215 : decode code 1215 = .ok (.aload_n 1, 1) := by decide +kernel
theorem dL_1216 : decode code 1216 = .ok (.aload_n 0, 1) := by decide +kernel
theorem dL_1217 : decode code 1217 = .ok (.iload_n 3, 1) := by decide +kernel
theorem dL_1218 : decode code 1218 = .ok (.iconst 1, 1) := by decide +kernel
theorem dL_1219 : decode code 1219 = .ok (.iadd, 1) := by decide +kernel
theorem dL_1220 : decode code 1220 = .ok (.iaload, 1) := by decide +kernel
theorem dL_1221 : decode code 1221 = .ok (.aload_n 0, 1) := by decide +kernel
theorem dL_1222 : decode code 1222 = .ok (.iload_n 3, 1) := by decide +kernel
theorem dL_1223 : decode code 1223 = .ok (.iconst 2, 1) := by decide +kernel
theorem dL_1224 : decode code 1224 = .ok (.iadd, 1) := by decide +kernel
theorem dL_1225 : decode code 1225 = .ok (.iaload, 1) := by decide +kernel
theorem dL_1226 : decode code 1226 = .ok (.aload_n 0, 1) := by decide +kernel
theorem dL_1227 : decode code 1227 = .ok (.iload_n 3, 1) := by decide +kernel
theorem dL_1228 : decode code 1228 = .ok (.iconst 3, 1) := by decide +kernel
theorem dL_1229 : decode code 1229 = .ok (.iadd, 1) := by decide +kernel
theorem dL_1230 : decode code 1230 = .ok (.iaload, 1) := by decide +kernel
theorem dL_1231 : decode code 1231 = .ok (.aload_n 0, 1) := by decide +kernel
theorem dL_1232 : decode code 1232 = .ok (.iload_n 3, 1) := by decide +kernel
theorem dL_1233 : decode code 1233 = .ok (.iconst 4, 1) := by decide +kernel
theorem dL_1234 : decode code 1234 = .ok (.iadd, 1) := by decide +kernel
theorem dL_1235 : decode code 1235 = .ok (.iaload, 1) := by decide +kernel
theorem dL_1236 : decode code 1236 = .ok (.aload_n 0, 1) := by decide +kernel
theorem dL_1237 : decode code 1237 = .ok (.iload_n 3, 1) := by decide +kernel
theorem dL_1238 : decode code 1238 = .ok (.iconst 5, 1) := by decide +kernel
theorem dL_1239 : decode code 1239 = .ok (.iadd, 1) := by decide +kernel
theorem dL_1240 : decode code 1240 = .ok (.iaload, 1) := by decide +kernel
theorem dL_1241 : decode code 1241 = .ok (.invokevirtual 158, 3) := by decide +kernel
theorem dL_1244 : decode code 1244 = .ok (.aload_n 2, 1) := by decide +kernel
theorem dL_1245 : decode code 1245 = .ok (.aload_n 0, 1) := by decide +kernel
theorem dL_1246 : decode code 1246 = .ok (.iload_n 3, 1) := by decide +kernel
theorem dL_1247 : decode code 1247 = .ok (.iconst 1, 1) := by decide +kernel
theorem dL_1248 : decode code 1248 = .ok (.iadd, 1) := by decide +kernel
theorem dL_1249 : decode code 1249 = .ok (.iaload, 1) := by decide +kernel
theorem dL_1250 : decode code 1250 = .ok (.aload_n 0, 1) := by decide +kernel
theorem dL_1251 : decode code 1251 = .ok (.iload_n 3, 1) := by decide +kernel
theorem dL_1252 : decode code 1252 = .ok (.iconst 2, 1) := by decide +kernel
theorem dL_1253 : decode code 1253 = .ok (.iadd, 1) := by decide +kernel
theorem dL_1254 : decode code 1254 = .ok (.iaload, 1) := by decide +kernel
theorem dL_1255 : decode code 1255 = .ok (.aload_n 0, 1) := by decide +kernel
theorem dL_1256 : decode code 1256 = .ok (.iload_n 3, 1) := by decide +kernel
theorem dL_1257 : decode code 1257 = .ok (.iconst 3, 1) := by decide +kernel
theorem dL_1258 : decode code 1258 = .ok (.iadd, 1) := by decide +kernel
theorem dL_1259 : decode code 1259 = .ok (.iaload, 1) := by decide +kernel
theorem dL_1260 : decode code 1260 = .ok (.aload_n 0, 1) := by decide +kernel
theorem dL_1261 : decode code 1261 = .ok (.iload_n 3, 1) := by decide +kernel
theorem dL_1262 : decode code 1262 = .ok (.iconst 4, 1) := by decide +kernel
theorem dL_1263 : decode code 1263 = .ok (.iadd, 1) := by decide +kernel
theorem dL_1264 : decode code 1264 = .ok (.iaload, 1) := by decide +kernel
theorem dL_1265 : decode code 1265 = .ok (.aload_n 0, 1) := by decide +kernel
theorem dL_1266 : decode code 1266 = .ok (.iload_n 3, 1) := by decide +kernel
theorem dL_1267 : decode code 1267 = .ok (.iconst 5, 1) := by decide +kernel
theorem dL_1268 : decode code 1268 = .ok (.iadd, 1) := by decide +kernel
theorem dL_1269 : decode code 1269 = .ok (.iaload, 1) := by decide +kernel
theorem dL_1270 : decode code 1270 = .ok (.invokevirtual 162, 3) := by decide +kernel
theorem dL_1273 : decode code 1273 = .ok (.if_icmp .eq 136, 3) := by decide +kernel
theorem dL_1276 : decode code 1276 = .ok (.iconst 0, 1) := by decide +kernel
theorem dL_1277 : decode code 1277 = .ok (.ireturn, 1) := by decide +kernel
theorem dL_1278 : decode code 1278 = .ok (.aload_n 1, 1) := by decide +kernel
theorem dL_1279 : decode code 1279 = .ok (.aload_n 0, 1) := by decide +kernel
theorem dL_1280 : decode code 1280 = .ok (.iload_n 3, 1) := by decide +kernel
theorem dL_1281 : decode code 1281 = .ok (.iconst 1, 1) := by decide +kernel
theorem dL_1282 : decode code 1282 = .ok (.iadd, 1) := by decide +kernel
theorem dL_1283 : decode code 1283 = .ok (.iaload, 1) := by decide +kernel
theorem dL_1284 : decode code 1284 = .ok (.invokevirtual 163, 3) := by decide +kernel
theorem dL_1287 : decode code 1287 = .ok (.aload_n 2, 1) := by decide +kernel
theorem dL_1288 : decode code 1288 = .ok (.aload_n 0, 1) := by decide +kernel
theorem dL_1289 : decode code 1289 = .ok (.iload_n 3, 1) := by decide +kernel
theorem dL_1290 : decode code 1290 = .ok (.iconst 1, 1) := by decide +kernel
theorem dL_1291 : decode code 1291 = .ok (.iadd, 1) := by decide +kernel
theorem dL_1292 : decode code 1292 = .ok (.iaload, 1) := by decide +kernel
theorem dL_1293 : decode code 1293 = .ok (.invokevirtual 166, 3) := by decide +kernel
theorem dL_1296 : decode code 1296 = .ok (.if_icmp .eq 113, 3) := by decide +kernel
theorem dL_1299 : decode code 1299 = .ok (.iconst 0, 1) := by decide +kernel
theorem dL_1300 : decode code 1300 = .ok (.ireturn, 1) := by decide +kernel
theorem dL_1301 : decode code 1301 = .ok (.aload_n 1, 1) := by decide +kernel
theorem dL_1302 : decode code 1302 = .ok (.aload_n 0, 1) := by decide +kernel
theorem dL_1303 : decode code 1303 = .ok (.iload_n 3, 1) := by decide +kernel
theorem dL_1304 : decode code 1304 = .ok (.iconst 1, 1) := by decide +kernel
theorem dL_1305 : decode code 1305 = .ok (.iadd, 1) := by decide +kernel
theorem dL_1306 : decode code 1306 = .ok (.iaload, 1) := by decide +kernel
theorem dL_1307 : decode code 1307 = .ok (.invokevirtual 167, 3) := by decide +kernel
theorem dL_1310 : decode code 1310 = .ok (.aload_n 2, 1) := by decide +kernel
theorem dL_1311 : decode code 1311 = .ok (.aload_n 0, 1) := by decide +kernel
theorem dL_1312 : decode code 1312 = .ok (.iload_n 3, 1) := by decide +kernel
theorem dL_1313 : decode code 1313 = .ok (.iconst 1, 1) := by decide +kernel
theorem dL_1314 : decode code 1314 = .ok (.iadd, 1) := by decide +kernel
theorem dL_1315 : decode code 1315 = .ok (.iaload, 1) := by decide +kernel
theorem dL_1316 : decode code 1316 = .ok (.invokevirtual 170, 3) := by decide +kernel
theorem dL_1319 : decode code 1319 = .ok (.if_icmp .eq 90, 3) := by decide +kernel
theorem dL_1322 : decode code 1322 = .ok (.iconst 0, 1) := by decide +kernel
theorem dL_1323 : decode code 1323 = .ok (.ireturn, 1) := by decide +kernel
theorem dL_1324 : decode code 1324 = .ok (.aload_n 1, 1) := by decide +kernel
theorem dL_1325 : decode code 1325 = .ok (.invokevirtual 171, 3) := by decide +kernel
theorem dL_1328 : decode code 1328 = .ok (.aload_n 2, 1) := by decide +kernel
theorem dL_1329 : decode code 1329 = .ok (.invokevirtual 174, 3) := by decide +kernel
theorem dL_1332 : decode code 1332 = .ok (.if_icmp .eq 77, 3) := by decide +kernel
theorem dL_1335 : decode code 1335 = .ok (.iconst 0, 1) := by decide +kernel
theorem dL_1336 : decode code 1336 = .ok (.ireturn, 1) := by decide +kernel
theorem dL_1337 : decode code 1337 = .ok (.aload_n 1, 1) := by decide +kernel
theorem dL_1338 : decode code 1338 = .ok (.invokevirtual 175, 3) := by decide +kernel
theorem dL_1341 : decode code 1341 = .ok (.aload_n 2, 1) := by decide +kernel
theorem dL_1342 : decode code 1342 = .ok (.invokevirtual 178, 3) := by decide +kernel
theorem dL_1345 : decode code 1345 = .ok (.if_icmp .eq 64, 3) := by decide +kernel
theorem dL_1348 : decode code 1348 = .ok (.iconst 0, 1) := by decide +kernel
theorem dL_1349 : decode code 1349 = .ok (.ireturn, 1) := by decide +kernel
theorem dL_1350 : decode code 1350 = .ok (.aload_n 1, 1) := by decide +kernel
theorem dL_1351 : decode code 1351 = .ok (.invokevirtual 179, 3) := by decide +kernel
theorem dL_1354 : decode code 1354 = .ok (.aload_n 2, 1) := by decide +kernel
theorem dL_1355 : decode code 1355 = .ok (.invokevirtual 182, 3) := by decide +kernel
theorem dL_1358 : decode code 1358 = .ok (.if_icmp .eq 51, 3) := by decide +kernel
theorem dL_1361 : decode code 1361 = .ok (.iconst 0, 1) := by decide +kernel
theorem dL_1362 : decode code 1362 = .ok (.ireturn, 1) := by decide +kernel
theorem dL_1363 : decode code 1363 = .ok (.aload_n 1, 1) := by decide +kernel
theorem dL_1364 : decode code 1364 = .ok (.aload_n 0, 1) := by decide +kernel
theorem dL_1365 : decode code 1365 = .ok (.iload_n 3, 1) := by decide +kernel
theorem dL_1366 : decode code 1366 = .ok (.iconst 1, 1) := by decide +kernel
theorem dL_1367 : decode code 1367 = .ok (.iadd, 1) := by decide +kernel
theorem dL_1368 : decode code 1368 = .ok (.iaload, 1) := by decide +kernel
theorem dL_1369 : decode code 1369 = .ok (.invokevirtual 183, 3) := by decide +kernel
theorem dL_1372 : decode code 1372 = .ok (.aload_n 2, 1) := by decide +kernel
theorem dL_1373 : decode code 1373 = .ok (.aload_n 0, 1) := by decide +kernel
theorem dL_1374 : decode code 1374 = .ok (.iload_n 3, 1) := by decide +kernel
theorem dL_1375 : decode code 1375 = .ok (.iconst 1, 1) := by decide +kernel
theorem dL_1376 : decode code 1376 = .ok (.iadd, 1) := by decide +kernel
theorem dL_1377 : decode code 1377 = .ok (.iaload, 1) := by decide +kernel
theorem dL_1378 : decode code 1378 = .ok (.invokevirtual 186, 3) := by decide +kernel
theorem dL_1381 : decode code 1381 = .ok (.if_icmp .eq 28, 3) := by decide +kernel
theorem dL_1384 : decode code 1384 = .ok (.iconst 0, 1) := by decide +kernel
theorem dL_1385 : decode code 1385 = .ok (.ireturn, 1) := by decide +kernel
theorem dL_1386 : decode code 1386 = .ok (.aload_n 1, 1) := by decide +kernel
theorem dL_1387 : decode code 1387 = .ok (.aload_n 0, 1) := by decide +kernel
theorem dL_1388 : decode code 1388 = .ok (.iload_n 3, 1) := by decide +kernel
theorem dL_1389 : decode code 1389 = .ok (.iconst 1, 1) := by decide +kernel
theorem dL_1390 : decode code 1390 = .ok (.iadd, 1) := by decide +kernel
theorem dL_1391 : decode code 1391 = .ok (.iaload, 1) := by decide +kernel
theorem dL_1392 : decode code 1392 = .ok (.invokevirtual 187, 3) := by decide +kernel
theorem dL_1395 : decode code 1395 = .ok (.aload_n 2, 1) := by decide +kernel
theorem dL_1396 : decode code 1396 = .ok (.aload_n 0, 1) := by decide +kernel
theorem dL_1397 : decode code 1397 = .ok (.iload_n 3, 1) := by decide +kernel
theorem dL_1398 : decode code 1398 = .ok (.iconst 1, 1) := by decide +kernel
theorem dL_1399 : decode code 1399 = .ok (.iadd, 1) := by decide +kernel
theorem dL_1400 : decode code 1400 = .ok (.iaload, 1) := by decide +kernel
theorem dL_1401 : decode code 1401 = .ok (.invokevirtual 190, 3) := by decide +kernel
theorem dL_1404 : decode code 1404 = .ok (.if_icmp .eq 5, 3) := by decide +kernel
theorem dL_1407 : decode code 1407 = .ok (.iconst 0, 1) := by decide +kernel
theorem dL_1408 : decode code 1408 = .ok (.ireturn, 1) := by decide +kernel
theorem dL_1409 : decode code 1409 = .ok (.iinc 3 6, 3) := by decide +kernel
theorem dL_1412 : decode code 1412 = .ok (.goto (-1394), 3) := by decide +kernel
theorem dL_1415 : decode code 1415 = .ok (.iconst 1, 1) := by decide +kernel
theorem dL_1416 : decode code 1416 = .ok (.ireturn, 1) := by decide +kernel
section XLAW
variable {p : Program} {l : Launch} {e : Env} {R : Room} {s : State} {m : MethodId} {args : Array Value} {below : List Frame} {meth : Method} {c : Code} {cells slots : Nat} {Q : State → Prop} {E : xE} {A : Nat → Prop} {nL : Nat} {σ σ' : Nat → Nat → Int32} {τ τ' : Nat → Int64} {pc : Nat} {lv : List (Nat × Value)} {rest : List Value} {cc : ByteArray} {own : String} {ret : Option FieldType}
theorem x_sld (C : xC p s m args meth c cc nL own ret E A R cells slots) {b L : Nat} {xs : Nat → Int32} (hX : va_X b L xs s s.heap) (hbl : b < s.heap.size) (hbA : ¬ A b) (j : Nat) {i : Int32} (hi : i = nI j) (hj : j < L) (hL : L ≤ 384) (hdg : decode cc pc = .ok (.iaload, 1)) (k : WM p l e R s m args below meth c cells slots Q E A nL σ τ (pc + 1) lv (.int (xs j) :: rest)) : WM p l e R s m args below meth c cells slots Q E A nL σ τ pc lv (.int i :: .ref b :: rest) := fun H locs ls hP hS hl => by
  subst hi
  refine va_sld C.hx C.hb hX hbl hbA hS (vp_in_nI hj (by omega)) hdg ?_
  rw [nI_clamp (by omega)]
  exact k H locs ls hP hS hl
theorem x_slen (C : xC p s m args meth c cc nL own ret E A R cells slots) {b L : Nat} {xs : Nat → Int32} (hX : va_X b L xs s s.heap) (hbl : b < s.heap.size) (hbA : ¬ A b) (hdg : decode cc pc = .ok (.arraylength, 1)) (k : WM p l e R s m args below meth c cells slots Q E A nL σ τ (pc + 1) lv (.int (nI L) :: rest)) : WM p l e R s m args below meth c cells slots Q E A nL σ τ pc lv (.ref b :: rest) := fun H locs ls hP hS hl => va_slen C.hx C.hb hX hbl hbA hS hdg (k H locs ls hP hS hl)
end XLAW
def Lkeep (σ : Nat → Nat → Int32) : Prop := ∀ j, j < 12 → σ 15 j = (xzl 1).getD j 0
set_option maxHeartbeats 1000000 in
theorem law_0 {p : Program} {l : Launch} {e : Env} {s : State} {m : MethodId} {below : List Frame} {meth : Method} {c : Code} {cells slots : Nat} {Q : State → Prop} {E : xE} {A : Nat → Prop} {b L : Nat} {xs : Nat → Int32} {σ : Nat → Nat → Int32} {τ : Nat → Int64} {k T : Nat} (C : xC p s m #[Value.ref b] meth c code 4 "LeakCupsLaw" ret E A room_1 cells slots) (hX : va_X b L xs s s.heap) (hbl : b < s.heap.size) (hbA : ¬ A b) (hL : L ≤ 384) (hk : 6 * k + 6 ≤ L) (hT : T < 1073741824) (hR : cv σ = mv σ) (hI : Inv (cv σ) T) (hlv : Lkeep σ) (kk : ∀ (σ' : Nat → Nat → Int32) (τ' : Nat → Int64), cv σ' = mv σ' → Inv (cv σ') (T + 600) → Lkeep σ' → WM p l e room_1 s m #[Value.ref b] below meth c cells slots Q E A 4 σ' τ' 1409 [(3, .int (nI (6 * k))), (2, .ref (xad E 81)), (1, .ref (xad E 0)), (0, .ref b)] []) : WM p l e room_1 s m #[Value.ref b] below meth c cells slots Q E A 4 σ τ 220 [(3, .int (nI (6 * k))), (2, .ref (xad E 81)), (1, .ref (xad E 0)), (0, .ref b)] [] := by
  refine x_aload_n C 2 dL_220 rfl rfl ?_
  refine x_aload_n C 3 dL_221 rfl rfl ?_
  refine x_iload_n C 0 dL_222 rfl rfl ?_
  refine x_iconst C (v := 1) dL_223 (by decide) ?_
  refine x_iadd C dL_224 ?_
  refine x_sld C hX hbl hbA (6 * k + 1) (nI_add (6 * k) 1) (by omega) hL dL_225 ?_
  refine x_aload_n C 3 dL_226 rfl rfl ?_
  refine x_iload_n C 0 dL_227 rfl rfl ?_
  refine x_iconst C (v := 2) dL_228 (by decide) ?_
  refine x_iadd C dL_229 ?_
  refine x_sld C hX hbl hbA (6 * k + 2) (nI_add (6 * k) 2) (by omega) hL dL_230 ?_
  refine x_callVo C (As := [.int (xs (6 * k + 1)), .int (xs (6 * k + 2))]) (rest := []) (k_set l E σ τ T hT (xs (6 * k + 1)) (xs (6 * k + 2)) hI) kv_JLeakCupsLaw_13 (x_recv C (Nat.le_of_ble_eq_true rfl) xd_0 rfl) ⟨Nat.le_of_ble_eq_true rfl, Nat.le_of_ble_eq_true rfl⟩ rfl rfl (Nat.le_of_ble_eq_true rfl) dL_231 (fun r1 σ1 τ1 hp1 => ?_)
  obtain ⟨hr1, hc1, hm1, hv1⟩ := hp1
  have hI1 : Inv (mv σ1) T := by rw [hm1, ← hR]; exact hI
  have hlv1 : ∀ j, j < 12 → σ1 15 j = (xzl 1).getD j 0 := fun j hj => (congrFun hv1 j).trans (hlv j hj)
  refine x_aload_n C 1 dL_234 rfl rfl ?_
  refine x_aload_n C 3 dL_235 rfl rfl ?_
  refine x_iload_n C 0 dL_236 rfl rfl ?_
  refine x_iconst C (v := 1) dL_237 (by decide) ?_
  refine x_iadd C dL_238 ?_
  refine x_sld C hX hbl hbA (6 * k + 1) (nI_add (6 * k) 1) (by omega) hL dL_239 ?_
  refine x_aload_n C 3 dL_240 rfl rfl ?_
  refine x_iload_n C 0 dL_241 rfl rfl ?_
  refine x_iconst C (v := 2) dL_242 (by decide) ?_
  refine x_iadd C dL_243 ?_
  refine x_sld C hX hbl hbA (6 * k + 2) (nI_add (6 * k) 2) (by omega) hL dL_244 ?_
  refine x_callVo C (As := [.int (xs (6 * k + 1)), .int (xs (6 * k + 2))]) (rest := [.int r1]) (m_set l E σ1 τ1 T hT (xs (6 * k + 1)) (xs (6 * k + 2)) hI1 hlv1) kv_JLeakCupsLaw_17 (x_recv C (Nat.le_of_ble_eq_true rfl) xd_81 rfl) ⟨Nat.le_of_ble_eq_true rfl, Nat.le_of_ble_eq_true rfl⟩ rfl rfl (Nat.le_of_ble_eq_true rfl) dL_245 (fun r2 σ2 τ2 hp2 => ?_)
  obtain ⟨hr2, hm2, hc2, hv2⟩ := hp2
  have e : mv σ1 = cv σ := hm1.trans hR.symm
  rw [e] at hr2 hm2
  refine x_icmp_eq C (tgt := 1409) dL_248 (by decide) (fun _ => ?_) (fun h => absurd (hr1.trans hr2.symm) h)
  exact kk σ2 τ2 (by rw [hc2, hc1, hm2]) (by rw [hc2, hc1]; exact (Inv.up (inv_set hI (xs (6 * k + 1)) (xs (6 * k + 2))) (by omega))) (fun j hj => (congrFun hv2 j).trans (hlv1 j hj))
set_option maxHeartbeats 1000000 in
theorem law_1 {p : Program} {l : Launch} {e : Env} {s : State} {m : MethodId} {below : List Frame} {meth : Method} {c : Code} {cells slots : Nat} {Q : State → Prop} {E : xE} {A : Nat → Prop} {b L : Nat} {xs : Nat → Int32} {σ : Nat → Nat → Int32} {τ : Nat → Int64} {k T : Nat} (C : xC p s m #[Value.ref b] meth c code 4 "LeakCupsLaw" ret E A room_1 cells slots) (hX : va_X b L xs s s.heap) (hbl : b < s.heap.size) (hbA : ¬ A b) (hL : L ≤ 384) (hk : 6 * k + 6 ≤ L) (hT : T < 1073741824) (hR : cv σ = mv σ) (hI : Inv (cv σ) T) (hlv : Lkeep σ) (kk : ∀ (σ' : Nat → Nat → Int32) (τ' : Nat → Int64), cv σ' = mv σ' → Inv (cv σ') (T + 600) → Lkeep σ' → WM p l e room_1 s m #[Value.ref b] below meth c cells slots Q E A 4 σ' τ' 1409 [(3, .int (nI (6 * k))), (2, .ref (xad E 81)), (1, .ref (xad E 0)), (0, .ref b)] []) : WM p l e room_1 s m #[Value.ref b] below meth c cells slots Q E A 4 σ τ 253 [(3, .int (nI (6 * k))), (2, .ref (xad E 81)), (1, .ref (xad E 0)), (0, .ref b)] [] := by
  refine x_aload_n C 2 dL_253 rfl rfl ?_
  refine x_aload_n C 3 dL_254 rfl rfl ?_
  refine x_iload_n C 0 dL_255 rfl rfl ?_
  refine x_iconst C (v := 1) dL_256 (by decide) ?_
  refine x_iadd C dL_257 ?_
  refine x_sld C hX hbl hbA (6 * k + 1) (nI_add (6 * k) 1) (by omega) hL dL_258 ?_
  refine x_aload_n C 3 dL_259 rfl rfl ?_
  refine x_iload_n C 0 dL_260 rfl rfl ?_
  refine x_iconst C (v := 2) dL_261 (by decide) ?_
  refine x_iadd C dL_262 ?_
  refine x_sld C hX hbl hbA (6 * k + 2) (nI_add (6 * k) 2) (by omega) hL dL_263 ?_
  refine x_callVo C (As := [.int (xs (6 * k + 1)), .int (xs (6 * k + 2))]) (rest := []) (k_kind l E σ τ T hT (xs (6 * k + 1)) (xs (6 * k + 2)) hI) kv_JLeakCupsLaw_18 (x_recv C (Nat.le_of_ble_eq_true rfl) xd_0 rfl) ⟨Nat.le_of_ble_eq_true rfl, Nat.le_of_ble_eq_true rfl⟩ rfl rfl (Nat.le_of_ble_eq_true rfl) dL_264 (fun r1 σ1 τ1 hp1 => ?_)
  obtain ⟨hr1, hc1, hm1, hv1⟩ := hp1
  have hI1 : Inv (mv σ1) T := by rw [hm1, ← hR]; exact hI
  have hlv1 : ∀ j, j < 12 → σ1 15 j = (xzl 1).getD j 0 := fun j hj => (congrFun hv1 j).trans (hlv j hj)
  refine x_aload_n C 1 dL_267 rfl rfl ?_
  refine x_aload_n C 3 dL_268 rfl rfl ?_
  refine x_iload_n C 0 dL_269 rfl rfl ?_
  refine x_iconst C (v := 1) dL_270 (by decide) ?_
  refine x_iadd C dL_271 ?_
  refine x_sld C hX hbl hbA (6 * k + 1) (nI_add (6 * k) 1) (by omega) hL dL_272 ?_
  refine x_aload_n C 3 dL_273 rfl rfl ?_
  refine x_iload_n C 0 dL_274 rfl rfl ?_
  refine x_iconst C (v := 2) dL_275 (by decide) ?_
  refine x_iadd C dL_276 ?_
  refine x_sld C hX hbl hbA (6 * k + 2) (nI_add (6 * k) 2) (by omega) hL dL_277 ?_
  refine x_callVo C (As := [.int (xs (6 * k + 1)), .int (xs (6 * k + 2))]) (rest := [.int r1]) (m_kind l E σ1 τ1 T hT (xs (6 * k + 1)) (xs (6 * k + 2)) hI1 hlv1) kv_JLeakCupsLaw_21 (x_recv C (Nat.le_of_ble_eq_true rfl) xd_81 rfl) ⟨Nat.le_of_ble_eq_true rfl, Nat.le_of_ble_eq_true rfl⟩ rfl rfl (Nat.le_of_ble_eq_true rfl) dL_278 (fun r2 σ2 τ2 hp2 => ?_)
  obtain ⟨hr2, hm2, hc2, hv2⟩ := hp2
  have e : mv σ1 = cv σ := hm1.trans hR.symm
  rw [e] at hr2 hm2
  refine x_icmp_eq C (tgt := 1409) dL_281 (by decide) (fun _ => ?_) (fun h => absurd (hr1.trans hr2.symm) h)
  exact kk σ2 τ2 (by rw [hc2, hc1, hm2]) (by rw [hc2, hc1]; exact (Inv.up (inv_kind hI (xs (6 * k + 1)) (xs (6 * k + 2))) (by omega))) (fun j hj => (congrFun hv2 j).trans (hlv1 j hj))
set_option maxHeartbeats 1000000 in
theorem law_2 {p : Program} {l : Launch} {e : Env} {s : State} {m : MethodId} {below : List Frame} {meth : Method} {c : Code} {cells slots : Nat} {Q : State → Prop} {E : xE} {A : Nat → Prop} {b L : Nat} {xs : Nat → Int32} {σ : Nat → Nat → Int32} {τ : Nat → Int64} {k T : Nat} (C : xC p s m #[Value.ref b] meth c code 4 "LeakCupsLaw" ret E A room_1 cells slots) (hX : va_X b L xs s s.heap) (hbl : b < s.heap.size) (hbA : ¬ A b) (hL : L ≤ 384) (hk : 6 * k + 6 ≤ L) (hT : T < 1073741824) (hR : cv σ = mv σ) (hI : Inv (cv σ) T) (hlv : Lkeep σ) (kk : ∀ (σ' : Nat → Nat → Int32) (τ' : Nat → Int64), cv σ' = mv σ' → Inv (cv σ') (T + 600) → Lkeep σ' → WM p l e room_1 s m #[Value.ref b] below meth c cells slots Q E A 4 σ' τ' 1409 [(3, .int (nI (6 * k))), (2, .ref (xad E 81)), (1, .ref (xad E 0)), (0, .ref b)] []) : WM p l e room_1 s m #[Value.ref b] below meth c cells slots Q E A 4 σ τ 286 [(3, .int (nI (6 * k))), (2, .ref (xad E 81)), (1, .ref (xad E 0)), (0, .ref b)] [] := by
  refine x_aload_n C 2 dL_286 rfl rfl ?_
  refine x_aload_n C 3 dL_287 rfl rfl ?_
  refine x_iload_n C 0 dL_288 rfl rfl ?_
  refine x_iconst C (v := 1) dL_289 (by decide) ?_
  refine x_iadd C dL_290 ?_
  refine x_sld C hX hbl hbA (6 * k + 1) (nI_add (6 * k) 1) (by omega) hL dL_291 ?_
  refine x_aload_n C 3 dL_292 rfl rfl ?_
  refine x_iload_n C 0 dL_293 rfl rfl ?_
  refine x_iconst C (v := 2) dL_294 (by decide) ?_
  refine x_iadd C dL_295 ?_
  refine x_sld C hX hbl hbA (6 * k + 2) (nI_add (6 * k) 2) (by omega) hL dL_296 ?_
  refine x_callVo C (As := [.int (xs (6 * k + 1)), .int (xs (6 * k + 2))]) (rest := []) (k_cupOf l E σ τ T hT (xs (6 * k + 1)) (xs (6 * k + 2)) hI) kv_JLeakCupsLaw_22 (x_recv C (Nat.le_of_ble_eq_true rfl) xd_0 rfl) ⟨Nat.le_of_ble_eq_true rfl, Nat.le_of_ble_eq_true rfl⟩ rfl rfl (Nat.le_of_ble_eq_true rfl) dL_297 (fun r1 σ1 τ1 hp1 => ?_)
  obtain ⟨hr1, hc1, hm1, hv1⟩ := hp1
  have hI1 : Inv (mv σ1) T := by rw [hm1, ← hR]; exact hI
  have hlv1 : ∀ j, j < 12 → σ1 15 j = (xzl 1).getD j 0 := fun j hj => (congrFun hv1 j).trans (hlv j hj)
  refine x_aload_n C 1 dL_300 rfl rfl ?_
  refine x_aload_n C 3 dL_301 rfl rfl ?_
  refine x_iload_n C 0 dL_302 rfl rfl ?_
  refine x_iconst C (v := 1) dL_303 (by decide) ?_
  refine x_iadd C dL_304 ?_
  refine x_sld C hX hbl hbA (6 * k + 1) (nI_add (6 * k) 1) (by omega) hL dL_305 ?_
  refine x_aload_n C 3 dL_306 rfl rfl ?_
  refine x_iload_n C 0 dL_307 rfl rfl ?_
  refine x_iconst C (v := 2) dL_308 (by decide) ?_
  refine x_iadd C dL_309 ?_
  refine x_sld C hX hbl hbA (6 * k + 2) (nI_add (6 * k) 2) (by omega) hL dL_310 ?_
  refine x_callVo C (As := [.int (xs (6 * k + 1)), .int (xs (6 * k + 2))]) (rest := [.int r1]) (m_cupOf l E σ1 τ1 T hT (xs (6 * k + 1)) (xs (6 * k + 2)) hI1 hlv1) kv_JLeakCupsLaw_25 (x_recv C (Nat.le_of_ble_eq_true rfl) xd_81 rfl) ⟨Nat.le_of_ble_eq_true rfl, Nat.le_of_ble_eq_true rfl⟩ rfl rfl (Nat.le_of_ble_eq_true rfl) dL_311 (fun r2 σ2 τ2 hp2 => ?_)
  obtain ⟨hr2, hm2, hc2, hv2⟩ := hp2
  have e : mv σ1 = cv σ := hm1.trans hR.symm
  rw [e] at hr2 hm2
  refine x_icmp_eq C (tgt := 1409) dL_314 (by decide) (fun _ => ?_) (fun h => absurd (hr1.trans hr2.symm) h)
  exact kk σ2 τ2 (by rw [hc2, hc1, hm2]) (by rw [hc2, hc1]; exact (Inv.up (inv_cupOf hI (xs (6 * k + 1)) (xs (6 * k + 2))) (by omega))) (fun j hj => (congrFun hv2 j).trans (hlv1 j hj))
set_option maxHeartbeats 1000000 in
theorem law_3 {p : Program} {l : Launch} {e : Env} {s : State} {m : MethodId} {below : List Frame} {meth : Method} {c : Code} {cells slots : Nat} {Q : State → Prop} {E : xE} {A : Nat → Prop} {b L : Nat} {xs : Nat → Int32} {σ : Nat → Nat → Int32} {τ : Nat → Int64} {k T : Nat} (C : xC p s m #[Value.ref b] meth c code 4 "LeakCupsLaw" ret E A room_1 cells slots) (hX : va_X b L xs s s.heap) (hbl : b < s.heap.size) (hbA : ¬ A b) (hL : L ≤ 384) (hk : 6 * k + 6 ≤ L) (hT : T < 1073741824) (hR : cv σ = mv σ) (hI : Inv (cv σ) T) (hlv : Lkeep σ) (kk : ∀ (σ' : Nat → Nat → Int32) (τ' : Nat → Int64), cv σ' = mv σ' → Inv (cv σ') (T + 600) → Lkeep σ' → WM p l e room_1 s m #[Value.ref b] below meth c cells slots Q E A 4 σ' τ' 1409 [(3, .int (nI (6 * k))), (2, .ref (xad E 81)), (1, .ref (xad E 0)), (0, .ref b)] []) : WM p l e room_1 s m #[Value.ref b] below meth c cells slots Q E A 4 σ τ 319 [(3, .int (nI (6 * k))), (2, .ref (xad E 81)), (1, .ref (xad E 0)), (0, .ref b)] [] := by
  refine x_aload_n C 2 dL_319 rfl rfl ?_
  refine x_aload_n C 3 dL_320 rfl rfl ?_
  refine x_iload_n C 0 dL_321 rfl rfl ?_
  refine x_iconst C (v := 1) dL_322 (by decide) ?_
  refine x_iadd C dL_323 ?_
  refine x_sld C hX hbl hbA (6 * k + 1) (nI_add (6 * k) 1) (by omega) hL dL_324 ?_
  refine x_aload_n C 3 dL_325 rfl rfl ?_
  refine x_iload_n C 0 dL_326 rfl rfl ?_
  refine x_iconst C (v := 2) dL_327 (by decide) ?_
  refine x_iadd C dL_328 ?_
  refine x_sld C hX hbl hbA (6 * k + 2) (nI_add (6 * k) 2) (by omega) hL dL_329 ?_
  refine x_callVo C (As := [.int (xs (6 * k + 1)), .int (xs (6 * k + 2))]) (rest := []) (k_fill l E σ τ T hT (xs (6 * k + 1)) (xs (6 * k + 2)) hI) kv_JLeakCupsLaw_26 (x_recv C (Nat.le_of_ble_eq_true rfl) xd_0 rfl) ⟨Nat.le_of_ble_eq_true rfl, Nat.le_of_ble_eq_true rfl⟩ rfl rfl (Nat.le_of_ble_eq_true rfl) dL_330 (fun r1 σ1 τ1 hp1 => ?_)
  obtain ⟨hr1, hc1, hm1, hv1⟩ := hp1
  have hI1 : Inv (mv σ1) T := by rw [hm1, ← hR]; exact hI
  have hlv1 : ∀ j, j < 12 → σ1 15 j = (xzl 1).getD j 0 := fun j hj => (congrFun hv1 j).trans (hlv j hj)
  refine x_aload_n C 1 dL_333 rfl rfl ?_
  refine x_aload_n C 3 dL_334 rfl rfl ?_
  refine x_iload_n C 0 dL_335 rfl rfl ?_
  refine x_iconst C (v := 1) dL_336 (by decide) ?_
  refine x_iadd C dL_337 ?_
  refine x_sld C hX hbl hbA (6 * k + 1) (nI_add (6 * k) 1) (by omega) hL dL_338 ?_
  refine x_aload_n C 3 dL_339 rfl rfl ?_
  refine x_iload_n C 0 dL_340 rfl rfl ?_
  refine x_iconst C (v := 2) dL_341 (by decide) ?_
  refine x_iadd C dL_342 ?_
  refine x_sld C hX hbl hbA (6 * k + 2) (nI_add (6 * k) 2) (by omega) hL dL_343 ?_
  refine x_callVo C (As := [.int (xs (6 * k + 1)), .int (xs (6 * k + 2))]) (rest := [.int r1]) (m_fill l E σ1 τ1 T hT (xs (6 * k + 1)) (xs (6 * k + 2)) hI1 hlv1) kv_JLeakCupsLaw_29 (x_recv C (Nat.le_of_ble_eq_true rfl) xd_81 rfl) ⟨Nat.le_of_ble_eq_true rfl, Nat.le_of_ble_eq_true rfl⟩ rfl rfl (Nat.le_of_ble_eq_true rfl) dL_344 (fun r2 σ2 τ2 hp2 => ?_)
  obtain ⟨hr2, hm2, hc2, hv2⟩ := hp2
  have e : mv σ1 = cv σ := hm1.trans hR.symm
  rw [e] at hr2 hm2
  refine x_icmp_eq C (tgt := 1409) dL_347 (by decide) (fun _ => ?_) (fun h => absurd (hr1.trans hr2.symm) h)
  exact kk σ2 τ2 (by rw [hc2, hc1, hm2]) (by rw [hc2, hc1]; exact (Inv.up (inv_fill hI (xs (6 * k + 1)) (xs (6 * k + 2))) (by omega))) (fun j hj => (congrFun hv2 j).trans (hlv1 j hj))
set_option maxHeartbeats 1000000 in
theorem law_4 {p : Program} {l : Launch} {e : Env} {s : State} {m : MethodId} {below : List Frame} {meth : Method} {c : Code} {cells slots : Nat} {Q : State → Prop} {E : xE} {A : Nat → Prop} {b L : Nat} {xs : Nat → Int32} {σ : Nat → Nat → Int32} {τ : Nat → Int64} {k T : Nat} (C : xC p s m #[Value.ref b] meth c code 4 "LeakCupsLaw" ret E A room_1 cells slots) (hX : va_X b L xs s s.heap) (hbl : b < s.heap.size) (hbA : ¬ A b) (hL : L ≤ 384) (hk : 6 * k + 6 ≤ L) (hT : T < 1073741824) (hR : cv σ = mv σ) (hI : Inv (cv σ) T) (hlv : Lkeep σ) (kk : ∀ (σ' : Nat → Nat → Int32) (τ' : Nat → Int64), cv σ' = mv σ' → Inv (cv σ') (T + 600) → Lkeep σ' → WM p l e room_1 s m #[Value.ref b] below meth c cells slots Q E A 4 σ' τ' 1409 [(3, .int (nI (6 * k))), (2, .ref (xad E 81)), (1, .ref (xad E 0)), (0, .ref b)] []) : WM p l e room_1 s m #[Value.ref b] below meth c cells slots Q E A 4 σ τ 352 [(3, .int (nI (6 * k))), (2, .ref (xad E 81)), (1, .ref (xad E 0)), (0, .ref b)] [] := by
  refine x_aload_n C 2 dL_352 rfl rfl ?_
  refine x_aload_n C 3 dL_353 rfl rfl ?_
  refine x_iload_n C 0 dL_354 rfl rfl ?_
  refine x_iconst C (v := 1) dL_355 (by decide) ?_
  refine x_iadd C dL_356 ?_
  refine x_sld C hX hbl hbA (6 * k + 1) (nI_add (6 * k) 1) (by omega) hL dL_357 ?_
  refine x_callVo C (As := [.int (xs (6 * k + 1))]) (rest := []) (k_empty l E σ τ T hT (xs (6 * k + 1)) hI) kv_JLeakCupsLaw_30 (x_recv C (Nat.le_of_ble_eq_true rfl) xd_0 rfl) ⟨Nat.le_of_ble_eq_true rfl, Nat.le_of_ble_eq_true rfl⟩ rfl rfl (Nat.le_of_ble_eq_true rfl) dL_358 (fun r1 σ1 τ1 hp1 => ?_)
  obtain ⟨hr1, hc1, hm1, hv1⟩ := hp1
  have hI1 : Inv (mv σ1) T := by rw [hm1, ← hR]; exact hI
  have hlv1 : ∀ j, j < 12 → σ1 15 j = (xzl 1).getD j 0 := fun j hj => (congrFun hv1 j).trans (hlv j hj)
  refine x_aload_n C 1 dL_361 rfl rfl ?_
  refine x_aload_n C 3 dL_362 rfl rfl ?_
  refine x_iload_n C 0 dL_363 rfl rfl ?_
  refine x_iconst C (v := 1) dL_364 (by decide) ?_
  refine x_iadd C dL_365 ?_
  refine x_sld C hX hbl hbA (6 * k + 1) (nI_add (6 * k) 1) (by omega) hL dL_366 ?_
  refine x_callVo C (As := [.int (xs (6 * k + 1))]) (rest := [.int r1]) (m_empty l E σ1 τ1 T hT (xs (6 * k + 1)) hI1 hlv1) kv_JLeakCupsLaw_34 (x_recv C (Nat.le_of_ble_eq_true rfl) xd_81 rfl) ⟨Nat.le_of_ble_eq_true rfl, Nat.le_of_ble_eq_true rfl⟩ rfl rfl (Nat.le_of_ble_eq_true rfl) dL_367 (fun r2 σ2 τ2 hp2 => ?_)
  obtain ⟨hr2, hm2, hc2, hv2⟩ := hp2
  have e : mv σ1 = cv σ := hm1.trans hR.symm
  rw [e] at hr2 hm2
  refine x_icmp_eq C (tgt := 1409) dL_370 (by decide) (fun _ => ?_) (fun h => absurd (hr1.trans hr2.symm) h)
  exact kk σ2 τ2 (by rw [hc2, hc1, hm2]) (by rw [hc2, hc1]; exact (Inv.up (inv_empty hI (xs (6 * k + 1))) (by omega))) (fun j hj => (congrFun hv2 j).trans (hlv1 j hj))
set_option maxHeartbeats 1000000 in
theorem law_5 {p : Program} {l : Launch} {e : Env} {s : State} {m : MethodId} {below : List Frame} {meth : Method} {c : Code} {cells slots : Nat} {Q : State → Prop} {E : xE} {A : Nat → Prop} {b L : Nat} {xs : Nat → Int32} {σ : Nat → Nat → Int32} {τ : Nat → Int64} {k T : Nat} (C : xC p s m #[Value.ref b] meth c code 4 "LeakCupsLaw" ret E A room_1 cells slots) (hX : va_X b L xs s s.heap) (hbl : b < s.heap.size) (hbA : ¬ A b) (hL : L ≤ 384) (hk : 6 * k + 6 ≤ L) (hT : T < 1073741824) (hR : cv σ = mv σ) (hI : Inv (cv σ) T) (hlv : Lkeep σ) (kk : ∀ (σ' : Nat → Nat → Int32) (τ' : Nat → Int64), cv σ' = mv σ' → Inv (cv σ') (T + 600) → Lkeep σ' → WM p l e room_1 s m #[Value.ref b] below meth c cells slots Q E A 4 σ' τ' 1409 [(3, .int (nI (6 * k))), (2, .ref (xad E 81)), (1, .ref (xad E 0)), (0, .ref b)] []) : WM p l e room_1 s m #[Value.ref b] below meth c cells slots Q E A 4 σ τ 375 [(3, .int (nI (6 * k))), (2, .ref (xad E 81)), (1, .ref (xad E 0)), (0, .ref b)] [] := by
  refine x_aload_n C 2 dL_375 rfl rfl ?_
  refine x_aload_n C 3 dL_376 rfl rfl ?_
  refine x_iload_n C 0 dL_377 rfl rfl ?_
  refine x_iconst C (v := 1) dL_378 (by decide) ?_
  refine x_iadd C dL_379 ?_
  refine x_sld C hX hbl hbA (6 * k + 1) (nI_add (6 * k) 1) (by omega) hL dL_380 ?_
  refine x_callVo C (As := [.int (xs (6 * k + 1))]) (rest := []) (k_touch l E σ τ T hT (xs (6 * k + 1)) hI) kv_JLeakCupsLaw_35 (x_recv C (Nat.le_of_ble_eq_true rfl) xd_0 rfl) ⟨Nat.le_of_ble_eq_true rfl, Nat.le_of_ble_eq_true rfl⟩ rfl rfl (Nat.le_of_ble_eq_true rfl) dL_381 (fun r1 σ1 τ1 hp1 => ?_)
  obtain ⟨hr1, hc1, hm1, hv1⟩ := hp1
  have hI1 : Inv (mv σ1) T := by rw [hm1, ← hR]; exact hI
  have hlv1 : ∀ j, j < 12 → σ1 15 j = (xzl 1).getD j 0 := fun j hj => (congrFun hv1 j).trans (hlv j hj)
  refine x_aload_n C 1 dL_384 rfl rfl ?_
  refine x_aload_n C 3 dL_385 rfl rfl ?_
  refine x_iload_n C 0 dL_386 rfl rfl ?_
  refine x_iconst C (v := 1) dL_387 (by decide) ?_
  refine x_iadd C dL_388 ?_
  refine x_sld C hX hbl hbA (6 * k + 1) (nI_add (6 * k) 1) (by omega) hL dL_389 ?_
  refine x_callVo C (As := [.int (xs (6 * k + 1))]) (rest := [.int r1]) (m_touch l E σ1 τ1 T hT (xs (6 * k + 1)) hI1 hlv1) kv_JLeakCupsLaw_38 (x_recv C (Nat.le_of_ble_eq_true rfl) xd_81 rfl) ⟨Nat.le_of_ble_eq_true rfl, Nat.le_of_ble_eq_true rfl⟩ rfl rfl (Nat.le_of_ble_eq_true rfl) dL_390 (fun r2 σ2 τ2 hp2 => ?_)
  obtain ⟨hr2, hm2, hc2, hv2⟩ := hp2
  have e : mv σ1 = cv σ := hm1.trans hR.symm
  rw [e] at hr2 hm2
  refine x_icmp_eq C (tgt := 1409) dL_393 (by decide) (fun _ => ?_) (fun h => absurd (hr1.trans hr2.symm) h)
  exact kk σ2 τ2 (by rw [hc2, hc1, hm2]) (by rw [hc2, hc1]; exact (Inv.up (inv_touch hI (xs (6 * k + 1))) (by omega))) (fun j hj => (congrFun hv2 j).trans (hlv1 j hj))
set_option maxHeartbeats 1000000 in
theorem law_6 {p : Program} {l : Launch} {e : Env} {s : State} {m : MethodId} {below : List Frame} {meth : Method} {c : Code} {cells slots : Nat} {Q : State → Prop} {E : xE} {A : Nat → Prop} {b L : Nat} {xs : Nat → Int32} {σ : Nat → Nat → Int32} {τ : Nat → Int64} {k T : Nat} (C : xC p s m #[Value.ref b] meth c code 4 "LeakCupsLaw" ret E A room_1 cells slots) (hX : va_X b L xs s s.heap) (hbl : b < s.heap.size) (hbA : ¬ A b) (hL : L ≤ 384) (hk : 6 * k + 6 ≤ L) (hT : T < 1073741824) (hR : cv σ = mv σ) (hI : Inv (cv σ) T) (hlv : Lkeep σ) (kk : ∀ (σ' : Nat → Nat → Int32) (τ' : Nat → Int64), cv σ' = mv σ' → Inv (cv σ') (T + 600) → Lkeep σ' → WM p l e room_1 s m #[Value.ref b] below meth c cells slots Q E A 4 σ' τ' 1409 [(3, .int (nI (6 * k))), (2, .ref (xad E 81)), (1, .ref (xad E 0)), (0, .ref b)] []) : WM p l e room_1 s m #[Value.ref b] below meth c cells slots Q E A 4 σ τ 398 [(3, .int (nI (6 * k))), (2, .ref (xad E 81)), (1, .ref (xad E 0)), (0, .ref b)] [] := by
  refine x_aload_n C 2 dL_398 rfl rfl ?_
  refine x_aload_n C 3 dL_399 rfl rfl ?_
  refine x_iload_n C 0 dL_400 rfl rfl ?_
  refine x_iconst C (v := 1) dL_401 (by decide) ?_
  refine x_iadd C dL_402 ?_
  refine x_sld C hX hbl hbA (6 * k + 1) (nI_add (6 * k) 1) (by omega) hL dL_403 ?_
  refine x_callVo C (As := [.int (xs (6 * k + 1))]) (rest := []) (k_stop l E σ τ T hT (xs (6 * k + 1)) hI) kv_JLeakCupsLaw_39 (x_recv C (Nat.le_of_ble_eq_true rfl) xd_0 rfl) ⟨Nat.le_of_ble_eq_true rfl, Nat.le_of_ble_eq_true rfl⟩ rfl rfl (Nat.le_of_ble_eq_true rfl) dL_404 (fun r1 σ1 τ1 hp1 => ?_)
  obtain ⟨hr1, hc1, hm1, hv1⟩ := hp1
  have hI1 : Inv (mv σ1) T := by rw [hm1, ← hR]; exact hI
  have hlv1 : ∀ j, j < 12 → σ1 15 j = (xzl 1).getD j 0 := fun j hj => (congrFun hv1 j).trans (hlv j hj)
  refine x_aload_n C 1 dL_407 rfl rfl ?_
  refine x_aload_n C 3 dL_408 rfl rfl ?_
  refine x_iload_n C 0 dL_409 rfl rfl ?_
  refine x_iconst C (v := 1) dL_410 (by decide) ?_
  refine x_iadd C dL_411 ?_
  refine x_sld C hX hbl hbA (6 * k + 1) (nI_add (6 * k) 1) (by omega) hL dL_412 ?_
  refine x_callVo C (As := [.int (xs (6 * k + 1))]) (rest := [.int r1]) (m_stop l E σ1 τ1 T hT (xs (6 * k + 1)) hI1 hlv1) kv_JLeakCupsLaw_42 (x_recv C (Nat.le_of_ble_eq_true rfl) xd_81 rfl) ⟨Nat.le_of_ble_eq_true rfl, Nat.le_of_ble_eq_true rfl⟩ rfl rfl (Nat.le_of_ble_eq_true rfl) dL_413 (fun r2 σ2 τ2 hp2 => ?_)
  obtain ⟨hr2, hm2, hc2, hv2⟩ := hp2
  have e : mv σ1 = cv σ := hm1.trans hR.symm
  rw [e] at hr2 hm2
  refine x_icmp_eq C (tgt := 1409) dL_416 (by decide) (fun _ => ?_) (fun h => absurd (hr1.trans hr2.symm) h)
  exact kk σ2 τ2 (by rw [hc2, hc1, hm2]) (by rw [hc2, hc1]; exact (Inv.up (inv_stop hI (xs (6 * k + 1))) (by omega))) (fun j hj => (congrFun hv2 j).trans (hlv1 j hj))
set_option maxHeartbeats 1000000 in
theorem law_7 {p : Program} {l : Launch} {e : Env} {s : State} {m : MethodId} {below : List Frame} {meth : Method} {c : Code} {cells slots : Nat} {Q : State → Prop} {E : xE} {A : Nat → Prop} {b L : Nat} {xs : Nat → Int32} {σ : Nat → Nat → Int32} {τ : Nat → Int64} {k T : Nat} (C : xC p s m #[Value.ref b] meth c code 4 "LeakCupsLaw" ret E A room_1 cells slots) (hX : va_X b L xs s s.heap) (hbl : b < s.heap.size) (hbA : ¬ A b) (hL : L ≤ 384) (hk : 6 * k + 6 ≤ L) (hT : T < 1073741824) (hR : cv σ = mv σ) (hI : Inv (cv σ) T) (hlv : Lkeep σ) (kk : ∀ (σ' : Nat → Nat → Int32) (τ' : Nat → Int64), cv σ' = mv σ' → Inv (cv σ') (T + 600) → Lkeep σ' → WM p l e room_1 s m #[Value.ref b] below meth c cells slots Q E A 4 σ' τ' 1409 [(3, .int (nI (6 * k))), (2, .ref (xad E 81)), (1, .ref (xad E 0)), (0, .ref b)] []) : WM p l e room_1 s m #[Value.ref b] below meth c cells slots Q E A 4 σ τ 421 [(3, .int (nI (6 * k))), (2, .ref (xad E 81)), (1, .ref (xad E 0)), (0, .ref b)] [] := by
  refine x_aload_n C 2 dL_421 rfl rfl ?_
  refine x_aload_n C 3 dL_422 rfl rfl ?_
  refine x_iload_n C 0 dL_423 rfl rfl ?_
  refine x_iconst C (v := 1) dL_424 (by decide) ?_
  refine x_iadd C dL_425 ?_
  refine x_sld C hX hbl hbA (6 * k + 1) (nI_add (6 * k) 1) (by omega) hL dL_426 ?_
  refine x_callVo C (As := [.int (xs (6 * k + 1))]) (rest := []) (k_tick l E σ τ T hT (xs (6 * k + 1)) hI) kv_JLeakCupsLaw_43 (x_recv C (Nat.le_of_ble_eq_true rfl) xd_0 rfl) ⟨Nat.le_of_ble_eq_true rfl, Nat.le_of_ble_eq_true rfl⟩ rfl rfl (Nat.le_of_ble_eq_true rfl) dL_427 (fun r1 σ1 τ1 hp1 => ?_)
  obtain ⟨hr1, hc1, hm1, hv1⟩ := hp1
  have hI1 : Inv (mv σ1) T := by rw [hm1, ← hR]; exact hI
  have hlv1 : ∀ j, j < 12 → σ1 15 j = (xzl 1).getD j 0 := fun j hj => (congrFun hv1 j).trans (hlv j hj)
  refine x_aload_n C 1 dL_430 rfl rfl ?_
  refine x_aload_n C 3 dL_431 rfl rfl ?_
  refine x_iload_n C 0 dL_432 rfl rfl ?_
  refine x_iconst C (v := 1) dL_433 (by decide) ?_
  refine x_iadd C dL_434 ?_
  refine x_sld C hX hbl hbA (6 * k + 1) (nI_add (6 * k) 1) (by omega) hL dL_435 ?_
  refine x_callVo C (As := [.int (xs (6 * k + 1))]) (rest := [.int r1]) (m_tick l E σ1 τ1 T hT (xs (6 * k + 1)) hI1 hlv1) kv_JLeakCupsLaw_46 (x_recv C (Nat.le_of_ble_eq_true rfl) xd_81 rfl) ⟨Nat.le_of_ble_eq_true rfl, Nat.le_of_ble_eq_true rfl⟩ rfl rfl (Nat.le_of_ble_eq_true rfl) dL_436 (fun r2 σ2 τ2 hp2 => ?_)
  obtain ⟨hr2, hm2, hc2, hv2⟩ := hp2
  have e : mv σ1 = cv σ := hm1.trans hR.symm
  rw [e] at hr2 hm2
  refine x_icmp_eq C (tgt := 1409) dL_439 (by decide) (fun _ => ?_) (fun h => absurd (hr1.trans hr2.symm) h)
  exact kk σ2 τ2 (by rw [hc2, hc1, hm2]) (by rw [hc2, hc1]; exact (inv_tick hI hT (xs (6 * k + 1)))) (fun j hj => (congrFun hv2 j).trans (hlv1 j hj))
set_option maxHeartbeats 1000000 in
theorem law_8 {p : Program} {l : Launch} {e : Env} {s : State} {m : MethodId} {below : List Frame} {meth : Method} {c : Code} {cells slots : Nat} {Q : State → Prop} {E : xE} {A : Nat → Prop} {b L : Nat} {xs : Nat → Int32} {σ : Nat → Nat → Int32} {τ : Nat → Int64} {k T : Nat} (C : xC p s m #[Value.ref b] meth c code 4 "LeakCupsLaw" ret E A room_1 cells slots) (hX : va_X b L xs s s.heap) (hbl : b < s.heap.size) (hbA : ¬ A b) (hL : L ≤ 384) (hk : 6 * k + 6 ≤ L) (hT : T < 1073741824) (hR : cv σ = mv σ) (hI : Inv (cv σ) T) (hlv : Lkeep σ) (kk : ∀ (σ' : Nat → Nat → Int32) (τ' : Nat → Int64), cv σ' = mv σ' → Inv (cv σ') (T + 600) → Lkeep σ' → WM p l e room_1 s m #[Value.ref b] below meth c cells slots Q E A 4 σ' τ' 1409 [(3, .int (nI (6 * k))), (2, .ref (xad E 81)), (1, .ref (xad E 0)), (0, .ref b)] []) : WM p l e room_1 s m #[Value.ref b] below meth c cells slots Q E A 4 σ τ 444 [(3, .int (nI (6 * k))), (2, .ref (xad E 81)), (1, .ref (xad E 0)), (0, .ref b)] [] := by
  refine x_aload_n C 2 dL_444 rfl rfl ?_
  refine x_aload_n C 3 dL_445 rfl rfl ?_
  refine x_iload_n C 0 dL_446 rfl rfl ?_
  refine x_iconst C (v := 1) dL_447 (by decide) ?_
  refine x_iadd C dL_448 ?_
  refine x_sld C hX hbl hbA (6 * k + 1) (nI_add (6 * k) 1) (by omega) hL dL_449 ?_
  refine x_callVo C (As := [.int (xs (6 * k + 1))]) (rest := []) (k_now l E σ τ T hT (xs (6 * k + 1)) hI) kv_JLeakCupsLaw_47 (x_recv C (Nat.le_of_ble_eq_true rfl) xd_0 rfl) ⟨Nat.le_of_ble_eq_true rfl, Nat.le_of_ble_eq_true rfl⟩ rfl rfl (Nat.le_of_ble_eq_true rfl) dL_450 (fun r1 σ1 τ1 hp1 => ?_)
  obtain ⟨hr1, hc1, hm1, hv1⟩ := hp1
  have hI1 : Inv (mv σ1) T := by rw [hm1, ← hR]; exact hI
  have hlv1 : ∀ j, j < 12 → σ1 15 j = (xzl 1).getD j 0 := fun j hj => (congrFun hv1 j).trans (hlv j hj)
  refine x_aload_n C 1 dL_453 rfl rfl ?_
  refine x_aload_n C 3 dL_454 rfl rfl ?_
  refine x_iload_n C 0 dL_455 rfl rfl ?_
  refine x_iconst C (v := 1) dL_456 (by decide) ?_
  refine x_iadd C dL_457 ?_
  refine x_sld C hX hbl hbA (6 * k + 1) (nI_add (6 * k) 1) (by omega) hL dL_458 ?_
  refine x_callVo C (As := [.int (xs (6 * k + 1))]) (rest := [.int r1]) (m_now l E σ1 τ1 T hT (xs (6 * k + 1)) hI1 hlv1) kv_JLeakCupsLaw_50 (x_recv C (Nat.le_of_ble_eq_true rfl) xd_81 rfl) ⟨Nat.le_of_ble_eq_true rfl, Nat.le_of_ble_eq_true rfl⟩ rfl rfl (Nat.le_of_ble_eq_true rfl) dL_459 (fun r2 σ2 τ2 hp2 => ?_)
  obtain ⟨hr2, hm2, hc2, hv2⟩ := hp2
  have e : mv σ1 = cv σ := hm1.trans hR.symm
  rw [e] at hr2 hm2
  refine x_icmp_eq C (tgt := 1409) dL_462 (by decide) (fun _ => ?_) (fun h => absurd (hr1.trans hr2.symm) h)
  exact kk σ2 τ2 (by rw [hc2, hc1, hm2]) (by rw [hc2, hc1]; exact (Inv.up (inv_now hI (xs (6 * k + 1))) (by omega))) (fun j hj => (congrFun hv2 j).trans (hlv1 j hj))
set_option maxHeartbeats 1000000 in
theorem law_9 {p : Program} {l : Launch} {e : Env} {s : State} {m : MethodId} {below : List Frame} {meth : Method} {c : Code} {cells slots : Nat} {Q : State → Prop} {E : xE} {A : Nat → Prop} {b L : Nat} {xs : Nat → Int32} {σ : Nat → Nat → Int32} {τ : Nat → Int64} {k T : Nat} (C : xC p s m #[Value.ref b] meth c code 4 "LeakCupsLaw" ret E A room_1 cells slots) (hX : va_X b L xs s s.heap) (hbl : b < s.heap.size) (hbA : ¬ A b) (hL : L ≤ 384) (hk : 6 * k + 6 ≤ L) (hT : T < 1073741824) (hR : cv σ = mv σ) (hI : Inv (cv σ) T) (hlv : Lkeep σ) (kk : ∀ (σ' : Nat → Nat → Int32) (τ' : Nat → Int64), cv σ' = mv σ' → Inv (cv σ') (T + 600) → Lkeep σ' → WM p l e room_1 s m #[Value.ref b] below meth c cells slots Q E A 4 σ' τ' 1409 [(3, .int (nI (6 * k))), (2, .ref (xad E 81)), (1, .ref (xad E 0)), (0, .ref b)] []) : WM p l e room_1 s m #[Value.ref b] below meth c cells slots Q E A 4 σ τ 467 [(3, .int (nI (6 * k))), (2, .ref (xad E 81)), (1, .ref (xad E 0)), (0, .ref b)] [] := by
  refine x_aload_n C 2 dL_467 rfl rfl ?_
  refine x_callVo C (As := []) (rest := []) (k_torque l E σ τ T hT hI) kv_JLeakCupsLaw_51 (x_recv C (Nat.le_of_ble_eq_true rfl) xd_0 rfl) ⟨Nat.le_of_ble_eq_true rfl, Nat.le_of_ble_eq_true rfl⟩ rfl rfl (Nat.le_of_ble_eq_true rfl) dL_468 (fun r1 σ1 τ1 hp1 => ?_)
  obtain ⟨hr1, hc1, hm1, hv1⟩ := hp1
  have hI1 : Inv (mv σ1) T := by rw [hm1, ← hR]; exact hI
  have hlv1 : ∀ j, j < 12 → σ1 15 j = (xzl 1).getD j 0 := fun j hj => (congrFun hv1 j).trans (hlv j hj)
  refine x_aload_n C 1 dL_471 rfl rfl ?_
  refine x_callVo C (As := []) (rest := [.int r1]) (m_torque l E σ1 τ1 T hT hI1 hlv1) kv_JLeakCupsLaw_55 (x_recv C (Nat.le_of_ble_eq_true rfl) xd_81 rfl) ⟨Nat.le_of_ble_eq_true rfl, Nat.le_of_ble_eq_true rfl⟩ rfl rfl (Nat.le_of_ble_eq_true rfl) dL_472 (fun r2 σ2 τ2 hp2 => ?_)
  obtain ⟨hr2, hm2, hc2, hv2⟩ := hp2
  have e : mv σ1 = cv σ := hm1.trans hR.symm
  rw [e] at hr2 hm2
  refine x_icmp_eq C (tgt := 1409) dL_475 (by decide) (fun _ => ?_) (fun h => absurd (hr1.trans hr2.symm) h)
  exact kk σ2 τ2 (by rw [hc2, hc1, hm2]) (by rw [hc2, hc1]; exact (Inv.up (inv_torque hI) (by omega))) (fun j hj => (congrFun hv2 j).trans (hlv1 j hj))
set_option maxHeartbeats 1000000 in
theorem law_10 {p : Program} {l : Launch} {e : Env} {s : State} {m : MethodId} {below : List Frame} {meth : Method} {c : Code} {cells slots : Nat} {Q : State → Prop} {E : xE} {A : Nat → Prop} {b L : Nat} {xs : Nat → Int32} {σ : Nat → Nat → Int32} {τ : Nat → Int64} {k T : Nat} (C : xC p s m #[Value.ref b] meth c code 4 "LeakCupsLaw" ret E A room_1 cells slots) (hX : va_X b L xs s s.heap) (hbl : b < s.heap.size) (hbA : ¬ A b) (hL : L ≤ 384) (hk : 6 * k + 6 ≤ L) (hT : T < 1073741824) (hR : cv σ = mv σ) (hI : Inv (cv σ) T) (hlv : Lkeep σ) (kk : ∀ (σ' : Nat → Nat → Int32) (τ' : Nat → Int64), cv σ' = mv σ' → Inv (cv σ') (T + 600) → Lkeep σ' → WM p l e room_1 s m #[Value.ref b] below meth c cells slots Q E A 4 σ' τ' 1409 [(3, .int (nI (6 * k))), (2, .ref (xad E 81)), (1, .ref (xad E 0)), (0, .ref b)] []) : WM p l e room_1 s m #[Value.ref b] below meth c cells slots Q E A 4 σ τ 480 [(3, .int (nI (6 * k))), (2, .ref (xad E 81)), (1, .ref (xad E 0)), (0, .ref b)] [] := by
  refine x_aload_n C 2 dL_480 rfl rfl ?_
  refine x_aload_n C 3 dL_481 rfl rfl ?_
  refine x_iload_n C 0 dL_482 rfl rfl ?_
  refine x_iconst C (v := 1) dL_483 (by decide) ?_
  refine x_iadd C dL_484 ?_
  refine x_sld C hX hbl hbA (6 * k + 1) (nI_add (6 * k) 1) (by omega) hL dL_485 ?_
  refine x_aload_n C 3 dL_486 rfl rfl ?_
  refine x_iload_n C 0 dL_487 rfl rfl ?_
  refine x_iconst C (v := 2) dL_488 (by decide) ?_
  refine x_iadd C dL_489 ?_
  refine x_sld C hX hbl hbA (6 * k + 2) (nI_add (6 * k) 2) (by omega) hL dL_490 ?_
  refine x_callVo C (As := [.int (xs (6 * k + 1)), .int (xs (6 * k + 2))]) (rest := []) (k_turn l E σ τ T hT (xs (6 * k + 1)) (xs (6 * k + 2)) hI) kv_JLeakCupsLaw_56 (x_recv C (Nat.le_of_ble_eq_true rfl) xd_0 rfl) ⟨Nat.le_of_ble_eq_true rfl, Nat.le_of_ble_eq_true rfl⟩ rfl rfl (Nat.le_of_ble_eq_true rfl) dL_491 (fun r1 σ1 τ1 hp1 => ?_)
  obtain ⟨hr1, hc1, hm1, hv1⟩ := hp1
  have hI1 : Inv (mv σ1) T := by rw [hm1, ← hR]; exact hI
  have hlv1 : ∀ j, j < 12 → σ1 15 j = (xzl 1).getD j 0 := fun j hj => (congrFun hv1 j).trans (hlv j hj)
  refine x_aload_n C 1 dL_494 rfl rfl ?_
  refine x_aload_n C 3 dL_495 rfl rfl ?_
  refine x_iload_n C 0 dL_496 rfl rfl ?_
  refine x_iconst C (v := 1) dL_497 (by decide) ?_
  refine x_iadd C dL_498 ?_
  refine x_sld C hX hbl hbA (6 * k + 1) (nI_add (6 * k) 1) (by omega) hL dL_499 ?_
  refine x_aload_n C 3 dL_500 rfl rfl ?_
  refine x_iload_n C 0 dL_501 rfl rfl ?_
  refine x_iconst C (v := 2) dL_502 (by decide) ?_
  refine x_iadd C dL_503 ?_
  refine x_sld C hX hbl hbA (6 * k + 2) (nI_add (6 * k) 2) (by omega) hL dL_504 ?_
  refine x_callVo C (As := [.int (xs (6 * k + 1)), .int (xs (6 * k + 2))]) (rest := [.int r1]) (m_turn l E σ1 τ1 T hT (xs (6 * k + 1)) (xs (6 * k + 2)) hI1 hlv1) kv_JLeakCupsLaw_59 (x_recv C (Nat.le_of_ble_eq_true rfl) xd_81 rfl) ⟨Nat.le_of_ble_eq_true rfl, Nat.le_of_ble_eq_true rfl⟩ rfl rfl (Nat.le_of_ble_eq_true rfl) dL_505 (fun r2 σ2 τ2 hp2 => ?_)
  obtain ⟨hr2, hm2, hc2, hv2⟩ := hp2
  have e : mv σ1 = cv σ := hm1.trans hR.symm
  rw [e] at hr2 hm2
  refine x_icmp_eq C (tgt := 1409) dL_508 (by decide) (fun _ => ?_) (fun h => absurd (hr1.trans hr2.symm) h)
  exact kk σ2 τ2 (by rw [hc2, hc1, hm2]) (by rw [hc2, hc1]; exact (Inv.up (inv_turn hI (xs (6 * k + 1)) (xs (6 * k + 2))) (by omega))) (fun j hj => (congrFun hv2 j).trans (hlv1 j hj))
set_option maxHeartbeats 1000000 in
theorem law_11 {p : Program} {l : Launch} {e : Env} {s : State} {m : MethodId} {below : List Frame} {meth : Method} {c : Code} {cells slots : Nat} {Q : State → Prop} {E : xE} {A : Nat → Prop} {b L : Nat} {xs : Nat → Int32} {σ : Nat → Nat → Int32} {τ : Nat → Int64} {k T : Nat} (C : xC p s m #[Value.ref b] meth c code 4 "LeakCupsLaw" ret E A room_1 cells slots) (hX : va_X b L xs s s.heap) (hbl : b < s.heap.size) (hbA : ¬ A b) (hL : L ≤ 384) (hk : 6 * k + 6 ≤ L) (hT : T < 1073741824) (hR : cv σ = mv σ) (hI : Inv (cv σ) T) (hlv : Lkeep σ) (kk : ∀ (σ' : Nat → Nat → Int32) (τ' : Nat → Int64), cv σ' = mv σ' → Inv (cv σ') (T + 600) → Lkeep σ' → WM p l e room_1 s m #[Value.ref b] below meth c cells slots Q E A 4 σ' τ' 1409 [(3, .int (nI (6 * k))), (2, .ref (xad E 81)), (1, .ref (xad E 0)), (0, .ref b)] []) : WM p l e room_1 s m #[Value.ref b] below meth c cells slots Q E A 4 σ τ 513 [(3, .int (nI (6 * k))), (2, .ref (xad E 81)), (1, .ref (xad E 0)), (0, .ref b)] [] := by
  refine x_aload_n C 2 dL_513 rfl rfl ?_
  refine x_aload_n C 3 dL_514 rfl rfl ?_
  refine x_iload_n C 0 dL_515 rfl rfl ?_
  refine x_iconst C (v := 1) dL_516 (by decide) ?_
  refine x_iadd C dL_517 ?_
  refine x_sld C hX hbl hbA (6 * k + 1) (nI_add (6 * k) 1) (by omega) hL dL_518 ?_
  refine x_callVo C (As := [.int (xs (6 * k + 1))]) (rest := []) (k_nextPeak l E σ τ T hT (xs (6 * k + 1)) hI) kv_JLeakCupsLaw_60 (x_recv C (Nat.le_of_ble_eq_true rfl) xd_0 rfl) ⟨Nat.le_of_ble_eq_true rfl, Nat.le_of_ble_eq_true rfl⟩ rfl rfl (Nat.le_of_ble_eq_true rfl) dL_519 (fun r1 σ1 τ1 hp1 => ?_)
  obtain ⟨hr1, hc1, hm1, hv1⟩ := hp1
  have hI1 : Inv (mv σ1) T := by rw [hm1, ← hR]; exact hI
  have hlv1 : ∀ j, j < 12 → σ1 15 j = (xzl 1).getD j 0 := fun j hj => (congrFun hv1 j).trans (hlv j hj)
  refine x_aload_n C 1 dL_522 rfl rfl ?_
  refine x_aload_n C 3 dL_523 rfl rfl ?_
  refine x_iload_n C 0 dL_524 rfl rfl ?_
  refine x_iconst C (v := 1) dL_525 (by decide) ?_
  refine x_iadd C dL_526 ?_
  refine x_sld C hX hbl hbA (6 * k + 1) (nI_add (6 * k) 1) (by omega) hL dL_527 ?_
  refine x_callVo C (As := [.int (xs (6 * k + 1))]) (rest := [.int r1]) (m_nextPeak l E σ1 τ1 T hT (xs (6 * k + 1)) hI1 hlv1) kv_JLeakCupsLaw_63 (x_recv C (Nat.le_of_ble_eq_true rfl) xd_81 rfl) ⟨Nat.le_of_ble_eq_true rfl, Nat.le_of_ble_eq_true rfl⟩ rfl rfl (Nat.le_of_ble_eq_true rfl) dL_528 (fun r2 σ2 τ2 hp2 => ?_)
  obtain ⟨hr2, hm2, hc2, hv2⟩ := hp2
  have e : mv σ1 = cv σ := hm1.trans hR.symm
  rw [e] at hr2 hm2
  refine x_icmp_eq C (tgt := 1409) dL_531 (by decide) (fun _ => ?_) (fun h => absurd (hr1.trans hr2.symm) h)
  exact kk σ2 τ2 (by rw [hc2, hc1, hm2]) (by rw [hc2, hc1]; exact (Inv.up (inv_nextPeak hI (xs (6 * k + 1))) (by omega))) (fun j hj => (congrFun hv2 j).trans (hlv1 j hj))
set_option maxHeartbeats 1000000 in
theorem law_12 {p : Program} {l : Launch} {e : Env} {s : State} {m : MethodId} {below : List Frame} {meth : Method} {c : Code} {cells slots : Nat} {Q : State → Prop} {E : xE} {A : Nat → Prop} {b L : Nat} {xs : Nat → Int32} {σ : Nat → Nat → Int32} {τ : Nat → Int64} {k T : Nat} (C : xC p s m #[Value.ref b] meth c code 4 "LeakCupsLaw" ret E A room_1 cells slots) (hX : va_X b L xs s s.heap) (hbl : b < s.heap.size) (hbA : ¬ A b) (hL : L ≤ 384) (hk : 6 * k + 6 ≤ L) (hT : T < 1073741824) (hR : cv σ = mv σ) (hI : Inv (cv σ) T) (hlv : Lkeep σ) (kk : ∀ (σ' : Nat → Nat → Int32) (τ' : Nat → Int64), cv σ' = mv σ' → Inv (cv σ') (T + 600) → Lkeep σ' → WM p l e room_1 s m #[Value.ref b] below meth c cells slots Q E A 4 σ' τ' 1409 [(3, .int (nI (6 * k))), (2, .ref (xad E 81)), (1, .ref (xad E 0)), (0, .ref b)] []) : WM p l e room_1 s m #[Value.ref b] below meth c cells slots Q E A 4 σ τ 536 [(3, .int (nI (6 * k))), (2, .ref (xad E 81)), (1, .ref (xad E 0)), (0, .ref b)] [] := by
  refine x_aload_n C 2 dL_536 rfl rfl ?_
  refine x_callVo C (As := []) (rest := []) (k_rising l E σ τ T hT hI) kv_JLeakCupsLaw_64 (x_recv C (Nat.le_of_ble_eq_true rfl) xd_0 rfl) ⟨Nat.le_of_ble_eq_true rfl, Nat.le_of_ble_eq_true rfl⟩ rfl rfl (Nat.le_of_ble_eq_true rfl) dL_537 (fun r1 σ1 τ1 hp1 => ?_)
  obtain ⟨hr1, hc1, hm1, hv1⟩ := hp1
  have hI1 : Inv (mv σ1) T := by rw [hm1, ← hR]; exact hI
  have hlv1 : ∀ j, j < 12 → σ1 15 j = (xzl 1).getD j 0 := fun j hj => (congrFun hv1 j).trans (hlv j hj)
  refine x_aload_n C 1 dL_540 rfl rfl ?_
  refine x_callVo C (As := []) (rest := [.int r1]) (m_rising l E σ1 τ1 T hT hI1 hlv1) kv_JLeakCupsLaw_67 (x_recv C (Nat.le_of_ble_eq_true rfl) xd_81 rfl) ⟨Nat.le_of_ble_eq_true rfl, Nat.le_of_ble_eq_true rfl⟩ rfl rfl (Nat.le_of_ble_eq_true rfl) dL_541 (fun r2 σ2 τ2 hp2 => ?_)
  obtain ⟨hr2, hm2, hc2, hv2⟩ := hp2
  have e : mv σ1 = cv σ := hm1.trans hR.symm
  rw [e] at hr2 hm2
  refine x_icmp_eq C (tgt := 1409) dL_544 (by decide) (fun _ => ?_) (fun h => absurd (hr1.trans hr2.symm) h)
  exact kk σ2 τ2 (by rw [hc2, hc1, hm2]) (by rw [hc2, hc1]; exact (Inv.up (inv_rising hI) (by omega))) (fun j hj => (congrFun hv2 j).trans (hlv1 j hj))
set_option maxHeartbeats 1000000 in
theorem law_13 {p : Program} {l : Launch} {e : Env} {s : State} {m : MethodId} {below : List Frame} {meth : Method} {c : Code} {cells slots : Nat} {Q : State → Prop} {E : xE} {A : Nat → Prop} {b L : Nat} {xs : Nat → Int32} {σ : Nat → Nat → Int32} {τ : Nat → Int64} {k T : Nat} (C : xC p s m #[Value.ref b] meth c code 4 "LeakCupsLaw" ret E A room_1 cells slots) (hX : va_X b L xs s s.heap) (hbl : b < s.heap.size) (hbA : ¬ A b) (hL : L ≤ 384) (hk : 6 * k + 6 ≤ L) (hT : T < 1073741824) (hR : cv σ = mv σ) (hI : Inv (cv σ) T) (hlv : Lkeep σ) (kk : ∀ (σ' : Nat → Nat → Int32) (τ' : Nat → Int64), cv σ' = mv σ' → Inv (cv σ') (T + 600) → Lkeep σ' → WM p l e room_1 s m #[Value.ref b] below meth c cells slots Q E A 4 σ' τ' 1409 [(3, .int (nI (6 * k))), (2, .ref (xad E 81)), (1, .ref (xad E 0)), (0, .ref b)] []) : WM p l e room_1 s m #[Value.ref b] below meth c cells slots Q E A 4 σ τ 549 [(3, .int (nI (6 * k))), (2, .ref (xad E 81)), (1, .ref (xad E 0)), (0, .ref b)] [] := by
  refine x_aload_n C 2 dL_549 rfl rfl ?_
  refine x_callVo C (As := []) (rest := []) (k_quickest l E σ τ T hT hI) kv_JLeakCupsLaw_68 (x_recv C (Nat.le_of_ble_eq_true rfl) xd_0 rfl) ⟨Nat.le_of_ble_eq_true rfl, Nat.le_of_ble_eq_true rfl⟩ rfl rfl (Nat.le_of_ble_eq_true rfl) dL_550 (fun r1 σ1 τ1 hp1 => ?_)
  obtain ⟨hr1, hc1, hm1, hv1⟩ := hp1
  have hI1 : Inv (mv σ1) T := by rw [hm1, ← hR]; exact hI
  have hlv1 : ∀ j, j < 12 → σ1 15 j = (xzl 1).getD j 0 := fun j hj => (congrFun hv1 j).trans (hlv j hj)
  refine x_aload_n C 1 dL_553 rfl rfl ?_
  refine x_callVo C (As := []) (rest := [.int r1]) (m_quickest l E σ1 τ1 T hT hI1 hlv1) kv_JLeakCupsLaw_71 (x_recv C (Nat.le_of_ble_eq_true rfl) xd_81 rfl) ⟨Nat.le_of_ble_eq_true rfl, Nat.le_of_ble_eq_true rfl⟩ rfl rfl (Nat.le_of_ble_eq_true rfl) dL_554 (fun r2 σ2 τ2 hp2 => ?_)
  obtain ⟨hr2, hm2, hc2, hv2⟩ := hp2
  have e : mv σ1 = cv σ := hm1.trans hR.symm
  rw [e] at hr2 hm2
  refine x_icmp_eq C (tgt := 1409) dL_557 (by decide) (fun _ => ?_) (fun h => absurd (hr1.trans hr2.symm) h)
  exact kk σ2 τ2 (by rw [hc2, hc1, hm2]) (by rw [hc2, hc1]; exact (Inv.up (inv_quickest hI) (by omega))) (fun j hj => (congrFun hv2 j).trans (hlv1 j hj))
set_option maxHeartbeats 1000000 in
theorem law_14 {p : Program} {l : Launch} {e : Env} {s : State} {m : MethodId} {below : List Frame} {meth : Method} {c : Code} {cells slots : Nat} {Q : State → Prop} {E : xE} {A : Nat → Prop} {b L : Nat} {xs : Nat → Int32} {σ : Nat → Nat → Int32} {τ : Nat → Int64} {k T : Nat} (C : xC p s m #[Value.ref b] meth c code 4 "LeakCupsLaw" ret E A room_1 cells slots) (hX : va_X b L xs s s.heap) (hbl : b < s.heap.size) (hbA : ¬ A b) (hL : L ≤ 384) (hk : 6 * k + 6 ≤ L) (hT : T < 1073741824) (hR : cv σ = mv σ) (hI : Inv (cv σ) T) (hlv : Lkeep σ) (kk : ∀ (σ' : Nat → Nat → Int32) (τ' : Nat → Int64), cv σ' = mv σ' → Inv (cv σ') (T + 600) → Lkeep σ' → WM p l e room_1 s m #[Value.ref b] below meth c cells slots Q E A 4 σ' τ' 1409 [(3, .int (nI (6 * k))), (2, .ref (xad E 81)), (1, .ref (xad E 0)), (0, .ref b)] []) : WM p l e room_1 s m #[Value.ref b] below meth c cells slots Q E A 4 σ τ 562 [(3, .int (nI (6 * k))), (2, .ref (xad E 81)), (1, .ref (xad E 0)), (0, .ref b)] [] := by
  refine x_aload_n C 2 dL_562 rfl rfl ?_
  refine x_aload_n C 3 dL_563 rfl rfl ?_
  refine x_iload_n C 0 dL_564 rfl rfl ?_
  refine x_iconst C (v := 1) dL_565 (by decide) ?_
  refine x_iadd C dL_566 ?_
  refine x_sld C hX hbl hbA (6 * k + 1) (nI_add (6 * k) 1) (by omega) hL dL_567 ?_
  refine x_aload_n C 3 dL_568 rfl rfl ?_
  refine x_iload_n C 0 dL_569 rfl rfl ?_
  refine x_iconst C (v := 2) dL_570 (by decide) ?_
  refine x_iadd C dL_571 ?_
  refine x_sld C hX hbl hbA (6 * k + 2) (nI_add (6 * k) 2) (by omega) hL dL_572 ?_
  refine x_callVo C (As := [.int (xs (6 * k + 1)), .int (xs (6 * k + 2))]) (rest := []) (k_feed l E σ τ T hT (xs (6 * k + 1)) (xs (6 * k + 2)) hI) kv_JLeakCupsLaw_72 (x_recv C (Nat.le_of_ble_eq_true rfl) xd_0 rfl) ⟨Nat.le_of_ble_eq_true rfl, Nat.le_of_ble_eq_true rfl⟩ rfl rfl (Nat.le_of_ble_eq_true rfl) dL_573 (fun r1 σ1 τ1 hp1 => ?_)
  obtain ⟨hr1, hc1, hm1, hv1⟩ := hp1
  have hI1 : Inv (mv σ1) T := by rw [hm1, ← hR]; exact hI
  have hlv1 : ∀ j, j < 12 → σ1 15 j = (xzl 1).getD j 0 := fun j hj => (congrFun hv1 j).trans (hlv j hj)
  refine x_aload_n C 1 dL_576 rfl rfl ?_
  refine x_aload_n C 3 dL_577 rfl rfl ?_
  refine x_iload_n C 0 dL_578 rfl rfl ?_
  refine x_iconst C (v := 1) dL_579 (by decide) ?_
  refine x_iadd C dL_580 ?_
  refine x_sld C hX hbl hbA (6 * k + 1) (nI_add (6 * k) 1) (by omega) hL dL_581 ?_
  refine x_aload_n C 3 dL_582 rfl rfl ?_
  refine x_iload_n C 0 dL_583 rfl rfl ?_
  refine x_iconst C (v := 2) dL_584 (by decide) ?_
  refine x_iadd C dL_585 ?_
  refine x_sld C hX hbl hbA (6 * k + 2) (nI_add (6 * k) 2) (by omega) hL dL_586 ?_
  refine x_callVo C (As := [.int (xs (6 * k + 1)), .int (xs (6 * k + 2))]) (rest := [.int r1]) (m_feed l E σ1 τ1 T hT (xs (6 * k + 1)) (xs (6 * k + 2)) hI1 hlv1) kv_JLeakCupsLaw_75 (x_recv C (Nat.le_of_ble_eq_true rfl) xd_81 rfl) ⟨Nat.le_of_ble_eq_true rfl, Nat.le_of_ble_eq_true rfl⟩ rfl rfl (Nat.le_of_ble_eq_true rfl) dL_587 (fun r2 σ2 τ2 hp2 => ?_)
  obtain ⟨hr2, hm2, hc2, hv2⟩ := hp2
  have e : mv σ1 = cv σ := hm1.trans hR.symm
  rw [e] at hr2 hm2
  refine x_icmp_eq C (tgt := 1409) dL_590 (by decide) (fun _ => ?_) (fun h => absurd (hr1.trans hr2.symm) h)
  exact kk σ2 τ2 (by rw [hc2, hc1, hm2]) (by rw [hc2, hc1]; exact (Inv.up (inv_feed hI (xs (6 * k + 1)) (xs (6 * k + 2))) (by omega))) (fun j hj => (congrFun hv2 j).trans (hlv1 j hj))
set_option maxHeartbeats 1000000 in
theorem law_15 {p : Program} {l : Launch} {e : Env} {s : State} {m : MethodId} {below : List Frame} {meth : Method} {c : Code} {cells slots : Nat} {Q : State → Prop} {E : xE} {A : Nat → Prop} {b L : Nat} {xs : Nat → Int32} {σ : Nat → Nat → Int32} {τ : Nat → Int64} {k T : Nat} (C : xC p s m #[Value.ref b] meth c code 4 "LeakCupsLaw" ret E A room_1 cells slots) (hX : va_X b L xs s s.heap) (hbl : b < s.heap.size) (hbA : ¬ A b) (hL : L ≤ 384) (hk : 6 * k + 6 ≤ L) (hT : T < 1073741824) (hR : cv σ = mv σ) (hI : Inv (cv σ) T) (hlv : Lkeep σ) (kk : ∀ (σ' : Nat → Nat → Int32) (τ' : Nat → Int64), cv σ' = mv σ' → Inv (cv σ') (T + 600) → Lkeep σ' → WM p l e room_1 s m #[Value.ref b] below meth c cells slots Q E A 4 σ' τ' 1409 [(3, .int (nI (6 * k))), (2, .ref (xad E 81)), (1, .ref (xad E 0)), (0, .ref b)] []) : WM p l e room_1 s m #[Value.ref b] below meth c cells slots Q E A 4 σ τ 595 [(3, .int (nI (6 * k))), (2, .ref (xad E 81)), (1, .ref (xad E 0)), (0, .ref b)] [] := by
  refine x_aload_n C 2 dL_595 rfl rfl ?_
  refine x_callVo C (As := []) (rest := []) (k_wipe l E σ τ T hT hI) kv_JLeakCupsLaw_76 (x_recv C (Nat.le_of_ble_eq_true rfl) xd_0 rfl) ⟨Nat.le_of_ble_eq_true rfl, Nat.le_of_ble_eq_true rfl⟩ rfl rfl (Nat.le_of_ble_eq_true rfl) dL_596 (fun r1 σ1 τ1 hp1 => ?_)
  obtain ⟨hr1, hc1, hm1, hv1⟩ := hp1
  have hI1 : Inv (mv σ1) T := by rw [hm1, ← hR]; exact hI
  have hlv1 : ∀ j, j < 12 → σ1 15 j = (xzl 1).getD j 0 := fun j hj => (congrFun hv1 j).trans (hlv j hj)
  refine x_aload_n C 1 dL_599 rfl rfl ?_
  refine x_callVo C (As := []) (rest := [.int r1]) (m_wipe l E σ1 τ1 T hT hI1 hlv1) kv_JLeakCupsLaw_79 (x_recv C (Nat.le_of_ble_eq_true rfl) xd_81 rfl) ⟨Nat.le_of_ble_eq_true rfl, Nat.le_of_ble_eq_true rfl⟩ rfl rfl (Nat.le_of_ble_eq_true rfl) dL_600 (fun r2 σ2 τ2 hp2 => ?_)
  obtain ⟨hr2, hm2, hc2, hv2⟩ := hp2
  have e : mv σ1 = cv σ := hm1.trans hR.symm
  rw [e] at hr2 hm2
  refine x_icmp_eq C (tgt := 1409) dL_603 (by decide) (fun _ => ?_) (fun h => absurd (hr1.trans hr2.symm) h)
  exact kk σ2 τ2 (by rw [hc2, hc1, hm2]) (by rw [hc2, hc1]; exact (Inv.up (inv_wipe hI) (by omega))) (fun j hj => (congrFun hv2 j).trans (hlv1 j hj))
set_option maxHeartbeats 1000000 in
theorem law_16 {p : Program} {l : Launch} {e : Env} {s : State} {m : MethodId} {below : List Frame} {meth : Method} {c : Code} {cells slots : Nat} {Q : State → Prop} {E : xE} {A : Nat → Prop} {b L : Nat} {xs : Nat → Int32} {σ : Nat → Nat → Int32} {τ : Nat → Int64} {k T : Nat} (C : xC p s m #[Value.ref b] meth c code 4 "LeakCupsLaw" ret E A room_1 cells slots) (hX : va_X b L xs s s.heap) (hbl : b < s.heap.size) (hbA : ¬ A b) (hL : L ≤ 384) (hk : 6 * k + 6 ≤ L) (hT : T < 1073741824) (hR : cv σ = mv σ) (hI : Inv (cv σ) T) (hlv : Lkeep σ) (kk : ∀ (σ' : Nat → Nat → Int32) (τ' : Nat → Int64), cv σ' = mv σ' → Inv (cv σ') (T + 600) → Lkeep σ' → WM p l e room_1 s m #[Value.ref b] below meth c cells slots Q E A 4 σ' τ' 1409 [(3, .int (nI (6 * k))), (2, .ref (xad E 81)), (1, .ref (xad E 0)), (0, .ref b)] []) : WM p l e room_1 s m #[Value.ref b] below meth c cells slots Q E A 4 σ τ 608 [(3, .int (nI (6 * k))), (2, .ref (xad E 81)), (1, .ref (xad E 0)), (0, .ref b)] [] := by
  refine x_aload_n C 2 dL_608 rfl rfl ?_
  refine x_callVo C (As := []) (rest := []) (k_program l E σ τ T hT hI) kv_JLeakCupsLaw_80 (x_recv C (Nat.le_of_ble_eq_true rfl) xd_0 rfl) ⟨Nat.le_of_ble_eq_true rfl, Nat.le_of_ble_eq_true rfl⟩ rfl rfl (Nat.le_of_ble_eq_true rfl) dL_609 (fun r1 σ1 τ1 hp1 => ?_)
  obtain ⟨hr1, hc1, hm1, hv1⟩ := hp1
  have hI1 : Inv (mv σ1) T := by rw [hm1, ← hR]; exact hI
  have hlv1 : ∀ j, j < 12 → σ1 15 j = (xzl 1).getD j 0 := fun j hj => (congrFun hv1 j).trans (hlv j hj)
  refine x_aload_n C 1 dL_612 rfl rfl ?_
  refine x_callVo C (As := []) (rest := [.int r1]) (m_program l E σ1 τ1 T hT hI1 hlv1) kv_JLeakCupsLaw_83 (x_recv C (Nat.le_of_ble_eq_true rfl) xd_81 rfl) ⟨Nat.le_of_ble_eq_true rfl, Nat.le_of_ble_eq_true rfl⟩ rfl rfl (Nat.le_of_ble_eq_true rfl) dL_613 (fun r2 σ2 τ2 hp2 => ?_)
  obtain ⟨hr2, hm2, hc2, hv2⟩ := hp2
  have e : mv σ1 = cv σ := hm1.trans hR.symm
  rw [e] at hr2 hm2
  refine x_icmp_eq C (tgt := 1409) dL_616 (by decide) (fun _ => ?_) (fun h => absurd (hr1.trans hr2.symm) h)
  exact kk σ2 τ2 (by rw [hc2, hc1, hm2]) (by rw [hc2, hc1]; exact (Inv.up (inv_program hI) (by omega))) (fun j hj => (congrFun hv2 j).trans (hlv1 j hj))
set_option maxHeartbeats 1000000 in
theorem law_17 {p : Program} {l : Launch} {e : Env} {s : State} {m : MethodId} {below : List Frame} {meth : Method} {c : Code} {cells slots : Nat} {Q : State → Prop} {E : xE} {A : Nat → Prop} {b L : Nat} {xs : Nat → Int32} {σ : Nat → Nat → Int32} {τ : Nat → Int64} {k T : Nat} (C : xC p s m #[Value.ref b] meth c code 4 "LeakCupsLaw" ret E A room_1 cells slots) (hX : va_X b L xs s s.heap) (hbl : b < s.heap.size) (hbA : ¬ A b) (hL : L ≤ 384) (hk : 6 * k + 6 ≤ L) (hT : T < 1073741824) (hR : cv σ = mv σ) (hI : Inv (cv σ) T) (hlv : Lkeep σ) (kk : ∀ (σ' : Nat → Nat → Int32) (τ' : Nat → Int64), cv σ' = mv σ' → Inv (cv σ') (T + 600) → Lkeep σ' → WM p l e room_1 s m #[Value.ref b] below meth c cells slots Q E A 4 σ' τ' 1409 [(3, .int (nI (6 * k))), (2, .ref (xad E 81)), (1, .ref (xad E 0)), (0, .ref b)] []) : WM p l e room_1 s m #[Value.ref b] below meth c cells slots Q E A 4 σ τ 621 [(3, .int (nI (6 * k))), (2, .ref (xad E 81)), (1, .ref (xad E 0)), (0, .ref b)] [] := by
  refine x_aload_n C 2 dL_621 rfl rfl ?_
  refine x_aload_n C 3 dL_622 rfl rfl ?_
  refine x_iload_n C 0 dL_623 rfl rfl ?_
  refine x_iconst C (v := 1) dL_624 (by decide) ?_
  refine x_iadd C dL_625 ?_
  refine x_sld C hX hbl hbA (6 * k + 1) (nI_add (6 * k) 1) (by omega) hL dL_626 ?_
  refine x_aload_n C 3 dL_627 rfl rfl ?_
  refine x_iload_n C 0 dL_628 rfl rfl ?_
  refine x_iconst C (v := 2) dL_629 (by decide) ?_
  refine x_iadd C dL_630 ?_
  refine x_sld C hX hbl hbA (6 * k + 2) (nI_add (6 * k) 2) (by omega) hL dL_631 ?_
  refine x_callVo C (As := [.int (xs (6 * k + 1)), .int (xs (6 * k + 2))]) (rest := []) (k_programOf l E σ τ T hT (xs (6 * k + 1)) (xs (6 * k + 2)) hI) kv_JLeakCupsLaw_84 (x_recv C (Nat.le_of_ble_eq_true rfl) xd_0 rfl) ⟨Nat.le_of_ble_eq_true rfl, Nat.le_of_ble_eq_true rfl⟩ rfl rfl (Nat.le_of_ble_eq_true rfl) dL_632 (fun r1 σ1 τ1 hp1 => ?_)
  obtain ⟨hr1, hc1, hm1, hv1⟩ := hp1
  have hI1 : Inv (mv σ1) T := by rw [hm1, ← hR]; exact hI
  have hlv1 : ∀ j, j < 12 → σ1 15 j = (xzl 1).getD j 0 := fun j hj => (congrFun hv1 j).trans (hlv j hj)
  refine x_aload_n C 1 dL_635 rfl rfl ?_
  refine x_aload_n C 3 dL_636 rfl rfl ?_
  refine x_iload_n C 0 dL_637 rfl rfl ?_
  refine x_iconst C (v := 1) dL_638 (by decide) ?_
  refine x_iadd C dL_639 ?_
  refine x_sld C hX hbl hbA (6 * k + 1) (nI_add (6 * k) 1) (by omega) hL dL_640 ?_
  refine x_aload_n C 3 dL_641 rfl rfl ?_
  refine x_iload_n C 0 dL_642 rfl rfl ?_
  refine x_iconst C (v := 2) dL_643 (by decide) ?_
  refine x_iadd C dL_644 ?_
  refine x_sld C hX hbl hbA (6 * k + 2) (nI_add (6 * k) 2) (by omega) hL dL_645 ?_
  refine x_callVo C (As := [.int (xs (6 * k + 1)), .int (xs (6 * k + 2))]) (rest := [.int r1]) (m_programOf l E σ1 τ1 T hT (xs (6 * k + 1)) (xs (6 * k + 2)) hI1 hlv1) kv_JLeakCupsLaw_87 (x_recv C (Nat.le_of_ble_eq_true rfl) xd_81 rfl) ⟨Nat.le_of_ble_eq_true rfl, Nat.le_of_ble_eq_true rfl⟩ rfl rfl (Nat.le_of_ble_eq_true rfl) dL_646 (fun r2 σ2 τ2 hp2 => ?_)
  obtain ⟨hr2, hm2, hc2, hv2⟩ := hp2
  have e : mv σ1 = cv σ := hm1.trans hR.symm
  rw [e] at hr2 hm2
  refine x_icmp_eq C (tgt := 1409) dL_649 (by decide) (fun _ => ?_) (fun h => absurd (hr1.trans hr2.symm) h)
  exact kk σ2 τ2 (by rw [hc2, hc1, hm2]) (by rw [hc2, hc1]; exact (Inv.up (inv_programOf hI (xs (6 * k + 1)) (xs (6 * k + 2))) (by omega))) (fun j hj => (congrFun hv2 j).trans (hlv1 j hj))
set_option maxHeartbeats 1000000 in
theorem law_18 {p : Program} {l : Launch} {e : Env} {s : State} {m : MethodId} {below : List Frame} {meth : Method} {c : Code} {cells slots : Nat} {Q : State → Prop} {E : xE} {A : Nat → Prop} {b L : Nat} {xs : Nat → Int32} {σ : Nat → Nat → Int32} {τ : Nat → Int64} {k T : Nat} (C : xC p s m #[Value.ref b] meth c code 4 "LeakCupsLaw" ret E A room_1 cells slots) (hX : va_X b L xs s s.heap) (hbl : b < s.heap.size) (hbA : ¬ A b) (hL : L ≤ 384) (hk : 6 * k + 6 ≤ L) (hT : T < 1073741824) (hR : cv σ = mv σ) (hI : Inv (cv σ) T) (hlv : Lkeep σ) (kk : ∀ (σ' : Nat → Nat → Int32) (τ' : Nat → Int64), cv σ' = mv σ' → Inv (cv σ') (T + 600) → Lkeep σ' → WM p l e room_1 s m #[Value.ref b] below meth c cells slots Q E A 4 σ' τ' 1409 [(3, .int (nI (6 * k))), (2, .ref (xad E 81)), (1, .ref (xad E 0)), (0, .ref b)] []) : WM p l e room_1 s m #[Value.ref b] below meth c cells slots Q E A 4 σ τ 654 [(3, .int (nI (6 * k))), (2, .ref (xad E 81)), (1, .ref (xad E 0)), (0, .ref b)] [] := by
  refine x_aload_n C 2 dL_654 rfl rfl ?_
  refine x_aload_n C 3 dL_655 rfl rfl ?_
  refine x_iload_n C 0 dL_656 rfl rfl ?_
  refine x_iconst C (v := 1) dL_657 (by decide) ?_
  refine x_iadd C dL_658 ?_
  refine x_sld C hX hbl hbA (6 * k + 1) (nI_add (6 * k) 1) (by omega) hL dL_659 ?_
  refine x_callVo C (As := [.int (xs (6 * k + 1))]) (rest := []) (k_play l E σ τ T hT (xs (6 * k + 1)) hI) kv_JLeakCupsLaw_88 (x_recv C (Nat.le_of_ble_eq_true rfl) xd_0 rfl) ⟨Nat.le_of_ble_eq_true rfl, Nat.le_of_ble_eq_true rfl⟩ rfl rfl (Nat.le_of_ble_eq_true rfl) dL_660 (fun r1 σ1 τ1 hp1 => ?_)
  obtain ⟨hr1, hc1, hm1, hv1⟩ := hp1
  have hI1 : Inv (mv σ1) T := by rw [hm1, ← hR]; exact hI
  have hlv1 : ∀ j, j < 12 → σ1 15 j = (xzl 1).getD j 0 := fun j hj => (congrFun hv1 j).trans (hlv j hj)
  refine x_aload_n C 1 dL_663 rfl rfl ?_
  refine x_aload_n C 3 dL_664 rfl rfl ?_
  refine x_iload_n C 0 dL_665 rfl rfl ?_
  refine x_iconst C (v := 1) dL_666 (by decide) ?_
  refine x_iadd C dL_667 ?_
  refine x_sld C hX hbl hbA (6 * k + 1) (nI_add (6 * k) 1) (by omega) hL dL_668 ?_
  refine x_callVo C (As := [.int (xs (6 * k + 1))]) (rest := [.int r1]) (m_play l E σ1 τ1 T hT (xs (6 * k + 1)) hI1 hlv1) kv_JLeakCupsLaw_91 (x_recv C (Nat.le_of_ble_eq_true rfl) xd_81 rfl) ⟨Nat.le_of_ble_eq_true rfl, Nat.le_of_ble_eq_true rfl⟩ rfl rfl (Nat.le_of_ble_eq_true rfl) dL_669 (fun r2 σ2 τ2 hp2 => ?_)
  obtain ⟨hr2, hm2, hc2, hv2⟩ := hp2
  have e : mv σ1 = cv σ := hm1.trans hR.symm
  rw [e] at hr2 hm2
  refine x_icmp_eq C (tgt := 1409) dL_672 (by decide) (fun _ => ?_) (fun h => absurd (hr1.trans hr2.symm) h)
  exact kk σ2 τ2 (by rw [hc2, hc1, hm2]) (by rw [hc2, hc1]; exact (inv_play hI hT (xs (6 * k + 1)))) (fun j hj => (congrFun hv2 j).trans (hlv1 j hj))
set_option maxHeartbeats 1000000 in
theorem law_19 {p : Program} {l : Launch} {e : Env} {s : State} {m : MethodId} {below : List Frame} {meth : Method} {c : Code} {cells slots : Nat} {Q : State → Prop} {E : xE} {A : Nat → Prop} {b L : Nat} {xs : Nat → Int32} {σ : Nat → Nat → Int32} {τ : Nat → Int64} {k T : Nat} (C : xC p s m #[Value.ref b] meth c code 4 "LeakCupsLaw" ret E A room_1 cells slots) (hX : va_X b L xs s s.heap) (hbl : b < s.heap.size) (hbA : ¬ A b) (hL : L ≤ 384) (hk : 6 * k + 6 ≤ L) (hT : T < 1073741824) (hR : cv σ = mv σ) (hI : Inv (cv σ) T) (hlv : Lkeep σ) (kk : ∀ (σ' : Nat → Nat → Int32) (τ' : Nat → Int64), cv σ' = mv σ' → Inv (cv σ') (T + 600) → Lkeep σ' → WM p l e room_1 s m #[Value.ref b] below meth c cells slots Q E A 4 σ' τ' 1409 [(3, .int (nI (6 * k))), (2, .ref (xad E 81)), (1, .ref (xad E 0)), (0, .ref b)] []) : WM p l e room_1 s m #[Value.ref b] below meth c cells slots Q E A 4 σ τ 677 [(3, .int (nI (6 * k))), (2, .ref (xad E 81)), (1, .ref (xad E 0)), (0, .ref b)] [] := by
  refine x_aload_n C 2 dL_677 rfl rfl ?_
  refine x_aload_n C 3 dL_678 rfl rfl ?_
  refine x_iload_n C 0 dL_679 rfl rfl ?_
  refine x_iconst C (v := 1) dL_680 (by decide) ?_
  refine x_iadd C dL_681 ?_
  refine x_sld C hX hbl hbA (6 * k + 1) (nI_add (6 * k) 1) (by omega) hL dL_682 ?_
  refine x_aload_n C 3 dL_683 rfl rfl ?_
  refine x_iload_n C 0 dL_684 rfl rfl ?_
  refine x_iconst C (v := 2) dL_685 (by decide) ?_
  refine x_iadd C dL_686 ?_
  refine x_sld C hX hbl hbA (6 * k + 2) (nI_add (6 * k) 2) (by omega) hL dL_687 ?_
  refine x_callVo C (As := [.int (xs (6 * k + 1)), .int (xs (6 * k + 2))]) (rest := []) (k_ahead l E σ τ T hT (xs (6 * k + 1)) (xs (6 * k + 2)) hI) kv_JLeakCupsLaw_92 (x_recv C (Nat.le_of_ble_eq_true rfl) xd_0 rfl) ⟨Nat.le_of_ble_eq_true rfl, Nat.le_of_ble_eq_true rfl⟩ rfl rfl (Nat.le_of_ble_eq_true rfl) dL_688 (fun r1 σ1 τ1 hp1 => ?_)
  obtain ⟨hr1, hc1, hm1, hv1⟩ := hp1
  have hI1 : Inv (mv σ1) T := by rw [hm1, ← hR]; exact hI
  have hlv1 : ∀ j, j < 12 → σ1 15 j = (xzl 1).getD j 0 := fun j hj => (congrFun hv1 j).trans (hlv j hj)
  refine x_aload_n C 1 dL_691 rfl rfl ?_
  refine x_aload_n C 3 dL_692 rfl rfl ?_
  refine x_iload_n C 0 dL_693 rfl rfl ?_
  refine x_iconst C (v := 1) dL_694 (by decide) ?_
  refine x_iadd C dL_695 ?_
  refine x_sld C hX hbl hbA (6 * k + 1) (nI_add (6 * k) 1) (by omega) hL dL_696 ?_
  refine x_aload_n C 3 dL_697 rfl rfl ?_
  refine x_iload_n C 0 dL_698 rfl rfl ?_
  refine x_iconst C (v := 2) dL_699 (by decide) ?_
  refine x_iadd C dL_700 ?_
  refine x_sld C hX hbl hbA (6 * k + 2) (nI_add (6 * k) 2) (by omega) hL dL_701 ?_
  refine x_callVo C (As := [.int (xs (6 * k + 1)), .int (xs (6 * k + 2))]) (rest := [.int r1]) (m_ahead l E σ1 τ1 T hT (xs (6 * k + 1)) (xs (6 * k + 2)) hI1 hlv1) kv_JLeakCupsLaw_95 (x_recv C (Nat.le_of_ble_eq_true rfl) xd_81 rfl) ⟨Nat.le_of_ble_eq_true rfl, Nat.le_of_ble_eq_true rfl⟩ rfl rfl (Nat.le_of_ble_eq_true rfl) dL_702 (fun r2 σ2 τ2 hp2 => ?_)
  obtain ⟨hr2, hm2, hc2, hv2⟩ := hp2
  have e : mv σ1 = cv σ := hm1.trans hR.symm
  rw [e] at hr2 hm2
  refine x_icmp_eq C (tgt := 1409) dL_705 (by decide) (fun _ => ?_) (fun h => absurd (hr1.trans hr2.symm) h)
  exact kk σ2 τ2 (by rw [hc2, hc1, hm2]) (by rw [hc2, hc1]; exact (Inv.up (inv_ahead hI (xs (6 * k + 1)) (xs (6 * k + 2))) (by omega))) (fun j hj => (congrFun hv2 j).trans (hlv1 j hj))
set_option maxHeartbeats 1000000 in
theorem law_20 {p : Program} {l : Launch} {e : Env} {s : State} {m : MethodId} {below : List Frame} {meth : Method} {c : Code} {cells slots : Nat} {Q : State → Prop} {E : xE} {A : Nat → Prop} {b L : Nat} {xs : Nat → Int32} {σ : Nat → Nat → Int32} {τ : Nat → Int64} {k T : Nat} (C : xC p s m #[Value.ref b] meth c code 4 "LeakCupsLaw" ret E A room_1 cells slots) (hX : va_X b L xs s s.heap) (hbl : b < s.heap.size) (hbA : ¬ A b) (hL : L ≤ 384) (hk : 6 * k + 6 ≤ L) (hT : T < 1073741824) (hR : cv σ = mv σ) (hI : Inv (cv σ) T) (hlv : Lkeep σ) (kk : ∀ (σ' : Nat → Nat → Int32) (τ' : Nat → Int64), cv σ' = mv σ' → Inv (cv σ') (T + 600) → Lkeep σ' → WM p l e room_1 s m #[Value.ref b] below meth c cells slots Q E A 4 σ' τ' 1409 [(3, .int (nI (6 * k))), (2, .ref (xad E 81)), (1, .ref (xad E 0)), (0, .ref b)] []) : WM p l e room_1 s m #[Value.ref b] below meth c cells slots Q E A 4 σ τ 710 [(3, .int (nI (6 * k))), (2, .ref (xad E 81)), (1, .ref (xad E 0)), (0, .ref b)] [] := by
  refine x_aload_n C 2 dL_710 rfl rfl ?_
  refine x_aload_n C 3 dL_711 rfl rfl ?_
  refine x_iload_n C 0 dL_712 rfl rfl ?_
  refine x_iconst C (v := 1) dL_713 (by decide) ?_
  refine x_iadd C dL_714 ?_
  refine x_sld C hX hbl hbA (6 * k + 1) (nI_add (6 * k) 1) (by omega) hL dL_715 ?_
  refine x_aload_n C 3 dL_716 rfl rfl ?_
  refine x_iload_n C 0 dL_717 rfl rfl ?_
  refine x_iconst C (v := 2) dL_718 (by decide) ?_
  refine x_iadd C dL_719 ?_
  refine x_sld C hX hbl hbA (6 * k + 2) (nI_add (6 * k) 2) (by omega) hL dL_720 ?_
  refine x_callVo C (As := [.int (xs (6 * k + 1)), .int (xs (6 * k + 2))]) (rest := []) (k_apart l E σ τ T hT (xs (6 * k + 1)) (xs (6 * k + 2)) hI) kv_JLeakCupsLaw_96 (x_recv C (Nat.le_of_ble_eq_true rfl) xd_0 rfl) ⟨Nat.le_of_ble_eq_true rfl, Nat.le_of_ble_eq_true rfl⟩ rfl rfl (Nat.le_of_ble_eq_true rfl) dL_721 (fun r1 σ1 τ1 hp1 => ?_)
  obtain ⟨hr1, hc1, hm1, hv1⟩ := hp1
  have hI1 : Inv (mv σ1) T := by rw [hm1, ← hR]; exact hI
  have hlv1 : ∀ j, j < 12 → σ1 15 j = (xzl 1).getD j 0 := fun j hj => (congrFun hv1 j).trans (hlv j hj)
  refine x_aload_n C 1 dL_724 rfl rfl ?_
  refine x_aload_n C 3 dL_725 rfl rfl ?_
  refine x_iload_n C 0 dL_726 rfl rfl ?_
  refine x_iconst C (v := 1) dL_727 (by decide) ?_
  refine x_iadd C dL_728 ?_
  refine x_sld C hX hbl hbA (6 * k + 1) (nI_add (6 * k) 1) (by omega) hL dL_729 ?_
  refine x_aload_n C 3 dL_730 rfl rfl ?_
  refine x_iload_n C 0 dL_731 rfl rfl ?_
  refine x_iconst C (v := 2) dL_732 (by decide) ?_
  refine x_iadd C dL_733 ?_
  refine x_sld C hX hbl hbA (6 * k + 2) (nI_add (6 * k) 2) (by omega) hL dL_734 ?_
  refine x_callVo C (As := [.int (xs (6 * k + 1)), .int (xs (6 * k + 2))]) (rest := [.int r1]) (m_apart l E σ1 τ1 T hT (xs (6 * k + 1)) (xs (6 * k + 2)) hI1 hlv1) kv_JLeakCupsLaw_99 (x_recv C (Nat.le_of_ble_eq_true rfl) xd_81 rfl) ⟨Nat.le_of_ble_eq_true rfl, Nat.le_of_ble_eq_true rfl⟩ rfl rfl (Nat.le_of_ble_eq_true rfl) dL_735 (fun r2 σ2 τ2 hp2 => ?_)
  obtain ⟨hr2, hm2, hc2, hv2⟩ := hp2
  have e : mv σ1 = cv σ := hm1.trans hR.symm
  rw [e] at hr2 hm2
  refine x_icmp_eq C (tgt := 1409) dL_738 (by decide) (fun _ => ?_) (fun h => absurd (hr1.trans hr2.symm) h)
  exact kk σ2 τ2 (by rw [hc2, hc1, hm2]) (by rw [hc2, hc1]; exact (Inv.up (inv_apart hI (xs (6 * k + 1)) (xs (6 * k + 2))) (by omega))) (fun j hj => (congrFun hv2 j).trans (hlv1 j hj))
set_option maxHeartbeats 1000000 in
theorem law_21 {p : Program} {l : Launch} {e : Env} {s : State} {m : MethodId} {below : List Frame} {meth : Method} {c : Code} {cells slots : Nat} {Q : State → Prop} {E : xE} {A : Nat → Prop} {b L : Nat} {xs : Nat → Int32} {σ : Nat → Nat → Int32} {τ : Nat → Int64} {k T : Nat} (C : xC p s m #[Value.ref b] meth c code 4 "LeakCupsLaw" ret E A room_1 cells slots) (hX : va_X b L xs s s.heap) (hbl : b < s.heap.size) (hbA : ¬ A b) (hL : L ≤ 384) (hk : 6 * k + 6 ≤ L) (hT : T < 1073741824) (hR : cv σ = mv σ) (hI : Inv (cv σ) T) (hlv : Lkeep σ) (kk : ∀ (σ' : Nat → Nat → Int32) (τ' : Nat → Int64), cv σ' = mv σ' → Inv (cv σ') (T + 600) → Lkeep σ' → WM p l e room_1 s m #[Value.ref b] below meth c cells slots Q E A 4 σ' τ' 1409 [(3, .int (nI (6 * k))), (2, .ref (xad E 81)), (1, .ref (xad E 0)), (0, .ref b)] []) : WM p l e room_1 s m #[Value.ref b] below meth c cells slots Q E A 4 σ τ 743 [(3, .int (nI (6 * k))), (2, .ref (xad E 81)), (1, .ref (xad E 0)), (0, .ref b)] [] := by
  refine x_aload_n C 2 dL_743 rfl rfl ?_
  refine x_aload_n C 3 dL_744 rfl rfl ?_
  refine x_iload_n C 0 dL_745 rfl rfl ?_
  refine x_iconst C (v := 1) dL_746 (by decide) ?_
  refine x_iadd C dL_747 ?_
  refine x_sld C hX hbl hbA (6 * k + 1) (nI_add (6 * k) 1) (by omega) hL dL_748 ?_
  refine x_aload_n C 3 dL_749 rfl rfl ?_
  refine x_iload_n C 0 dL_750 rfl rfl ?_
  refine x_iconst C (v := 2) dL_751 (by decide) ?_
  refine x_iadd C dL_752 ?_
  refine x_sld C hX hbl hbA (6 * k + 2) (nI_add (6 * k) 2) (by omega) hL dL_753 ?_
  refine x_callVo C (As := [.int (xs (6 * k + 1)), .int (xs (6 * k + 2))]) (rest := []) (k_parts l E σ τ T hT (xs (6 * k + 1)) (xs (6 * k + 2)) hI) kv_JLeakCupsLaw_100 (x_recv C (Nat.le_of_ble_eq_true rfl) xd_0 rfl) ⟨Nat.le_of_ble_eq_true rfl, Nat.le_of_ble_eq_true rfl⟩ rfl rfl (Nat.le_of_ble_eq_true rfl) dL_754 (fun r1 σ1 τ1 hp1 => ?_)
  obtain ⟨hr1, hc1, hm1, hv1⟩ := hp1
  have hI1 : Inv (mv σ1) T := by rw [hm1, ← hR]; exact hI
  have hlv1 : ∀ j, j < 12 → σ1 15 j = (xzl 1).getD j 0 := fun j hj => (congrFun hv1 j).trans (hlv j hj)
  refine x_aload_n C 1 dL_757 rfl rfl ?_
  refine x_aload_n C 3 dL_758 rfl rfl ?_
  refine x_iload_n C 0 dL_759 rfl rfl ?_
  refine x_iconst C (v := 1) dL_760 (by decide) ?_
  refine x_iadd C dL_761 ?_
  refine x_sld C hX hbl hbA (6 * k + 1) (nI_add (6 * k) 1) (by omega) hL dL_762 ?_
  refine x_aload_n C 3 dL_763 rfl rfl ?_
  refine x_iload_n C 0 dL_764 rfl rfl ?_
  refine x_iconst C (v := 2) dL_765 (by decide) ?_
  refine x_iadd C dL_766 ?_
  refine x_sld C hX hbl hbA (6 * k + 2) (nI_add (6 * k) 2) (by omega) hL dL_767 ?_
  refine x_callVo C (As := [.int (xs (6 * k + 1)), .int (xs (6 * k + 2))]) (rest := [.int r1]) (m_parts l E σ1 τ1 T hT (xs (6 * k + 1)) (xs (6 * k + 2)) hI1 hlv1) kv_JLeakCupsLaw_103 (x_recv C (Nat.le_of_ble_eq_true rfl) xd_81 rfl) ⟨Nat.le_of_ble_eq_true rfl, Nat.le_of_ble_eq_true rfl⟩ rfl rfl (Nat.le_of_ble_eq_true rfl) dL_768 (fun r2 σ2 τ2 hp2 => ?_)
  obtain ⟨hr2, hm2, hc2, hv2⟩ := hp2
  have e : mv σ1 = cv σ := hm1.trans hR.symm
  rw [e] at hr2 hm2
  refine x_icmp_eq C (tgt := 1409) dL_771 (by decide) (fun _ => ?_) (fun h => absurd (hr1.trans hr2.symm) h)
  exact kk σ2 τ2 (by rw [hc2, hc1, hm2]) (by rw [hc2, hc1]; exact (Inv.up (inv_parts hI (xs (6 * k + 1)) (xs (6 * k + 2))) (by omega))) (fun j hj => (congrFun hv2 j).trans (hlv1 j hj))
set_option maxHeartbeats 1000000 in
theorem law_22 {p : Program} {l : Launch} {e : Env} {s : State} {m : MethodId} {below : List Frame} {meth : Method} {c : Code} {cells slots : Nat} {Q : State → Prop} {E : xE} {A : Nat → Prop} {b L : Nat} {xs : Nat → Int32} {σ : Nat → Nat → Int32} {τ : Nat → Int64} {k T : Nat} (C : xC p s m #[Value.ref b] meth c code 4 "LeakCupsLaw" ret E A room_1 cells slots) (hX : va_X b L xs s s.heap) (hbl : b < s.heap.size) (hbA : ¬ A b) (hL : L ≤ 384) (hk : 6 * k + 6 ≤ L) (hT : T < 1073741824) (hR : cv σ = mv σ) (hI : Inv (cv σ) T) (hlv : Lkeep σ) (kk : ∀ (σ' : Nat → Nat → Int32) (τ' : Nat → Int64), cv σ' = mv σ' → Inv (cv σ') (T + 600) → Lkeep σ' → WM p l e room_1 s m #[Value.ref b] below meth c cells slots Q E A 4 σ' τ' 1409 [(3, .int (nI (6 * k))), (2, .ref (xad E 81)), (1, .ref (xad E 0)), (0, .ref b)] []) : WM p l e room_1 s m #[Value.ref b] below meth c cells slots Q E A 4 σ τ 776 [(3, .int (nI (6 * k))), (2, .ref (xad E 81)), (1, .ref (xad E 0)), (0, .ref b)] [] := by
  refine x_aload_n C 2 dL_776 rfl rfl ?_
  refine x_aload_n C 3 dL_777 rfl rfl ?_
  refine x_iload_n C 0 dL_778 rfl rfl ?_
  refine x_iconst C (v := 1) dL_779 (by decide) ?_
  refine x_iadd C dL_780 ?_
  refine x_sld C hX hbl hbA (6 * k + 1) (nI_add (6 * k) 1) (by omega) hL dL_781 ?_
  refine x_callVo C (As := [.int (xs (6 * k + 1))]) (rest := []) (k_going l E σ τ T hT (xs (6 * k + 1)) hI) kv_JLeakCupsLaw_104 (x_recv C (Nat.le_of_ble_eq_true rfl) xd_0 rfl) ⟨Nat.le_of_ble_eq_true rfl, Nat.le_of_ble_eq_true rfl⟩ rfl rfl (Nat.le_of_ble_eq_true rfl) dL_782 (fun r1 σ1 τ1 hp1 => ?_)
  obtain ⟨hr1, hc1, hm1, hv1⟩ := hp1
  have hI1 : Inv (mv σ1) T := by rw [hm1, ← hR]; exact hI
  have hlv1 : ∀ j, j < 12 → σ1 15 j = (xzl 1).getD j 0 := fun j hj => (congrFun hv1 j).trans (hlv j hj)
  refine x_aload_n C 1 dL_785 rfl rfl ?_
  refine x_aload_n C 3 dL_786 rfl rfl ?_
  refine x_iload_n C 0 dL_787 rfl rfl ?_
  refine x_iconst C (v := 1) dL_788 (by decide) ?_
  refine x_iadd C dL_789 ?_
  refine x_sld C hX hbl hbA (6 * k + 1) (nI_add (6 * k) 1) (by omega) hL dL_790 ?_
  refine x_callVo C (As := [.int (xs (6 * k + 1))]) (rest := [.int r1]) (m_going l E σ1 τ1 T hT (xs (6 * k + 1)) hI1 hlv1) kv_JLeakCupsLaw_107 (x_recv C (Nat.le_of_ble_eq_true rfl) xd_81 rfl) ⟨Nat.le_of_ble_eq_true rfl, Nat.le_of_ble_eq_true rfl⟩ rfl rfl (Nat.le_of_ble_eq_true rfl) dL_791 (fun r2 σ2 τ2 hp2 => ?_)
  obtain ⟨hr2, hm2, hc2, hv2⟩ := hp2
  have e : mv σ1 = cv σ := hm1.trans hR.symm
  rw [e] at hr2 hm2
  refine x_icmp_eq C (tgt := 1409) dL_794 (by decide) (fun _ => ?_) (fun h => absurd (hr1.trans hr2.symm) h)
  exact kk σ2 τ2 (by rw [hc2, hc1, hm2]) (by rw [hc2, hc1]; exact (Inv.up (inv_going hI (xs (6 * k + 1))) (by omega))) (fun j hj => (congrFun hv2 j).trans (hlv1 j hj))
set_option maxHeartbeats 1000000 in
theorem law_23 {p : Program} {l : Launch} {e : Env} {s : State} {m : MethodId} {below : List Frame} {meth : Method} {c : Code} {cells slots : Nat} {Q : State → Prop} {E : xE} {A : Nat → Prop} {b L : Nat} {xs : Nat → Int32} {σ : Nat → Nat → Int32} {τ : Nat → Int64} {k T : Nat} (C : xC p s m #[Value.ref b] meth c code 4 "LeakCupsLaw" ret E A room_1 cells slots) (hX : va_X b L xs s s.heap) (hbl : b < s.heap.size) (hbA : ¬ A b) (hL : L ≤ 384) (hk : 6 * k + 6 ≤ L) (hT : T < 1073741824) (hR : cv σ = mv σ) (hI : Inv (cv σ) T) (hlv : Lkeep σ) (kk : ∀ (σ' : Nat → Nat → Int32) (τ' : Nat → Int64), cv σ' = mv σ' → Inv (cv σ') (T + 600) → Lkeep σ' → WM p l e room_1 s m #[Value.ref b] below meth c cells slots Q E A 4 σ' τ' 1409 [(3, .int (nI (6 * k))), (2, .ref (xad E 81)), (1, .ref (xad E 0)), (0, .ref b)] []) : WM p l e room_1 s m #[Value.ref b] below meth c cells slots Q E A 4 σ τ 799 [(3, .int (nI (6 * k))), (2, .ref (xad E 81)), (1, .ref (xad E 0)), (0, .ref b)] [] := by
  refine x_aload_n C 2 dL_799 rfl rfl ?_
  refine x_aload_n C 3 dL_800 rfl rfl ?_
  refine x_iload_n C 0 dL_801 rfl rfl ?_
  refine x_iconst C (v := 1) dL_802 (by decide) ?_
  refine x_iadd C dL_803 ?_
  refine x_sld C hX hbl hbA (6 * k + 1) (nI_add (6 * k) 1) (by omega) hL dL_804 ?_
  refine x_aload_n C 3 dL_805 rfl rfl ?_
  refine x_iload_n C 0 dL_806 rfl rfl ?_
  refine x_iconst C (v := 2) dL_807 (by decide) ?_
  refine x_iadd C dL_808 ?_
  refine x_sld C hX hbl hbA (6 * k + 2) (nI_add (6 * k) 2) (by omega) hL dL_809 ?_
  refine x_callVo C (As := [.int (xs (6 * k + 1)), .int (xs (6 * k + 2))]) (rest := []) (k_tapFor l E σ τ T hT (xs (6 * k + 1)) (xs (6 * k + 2)) hI) kv_JLeakCupsLaw_108 (x_recv C (Nat.le_of_ble_eq_true rfl) xd_0 rfl) ⟨Nat.le_of_ble_eq_true rfl, Nat.le_of_ble_eq_true rfl⟩ rfl rfl (Nat.le_of_ble_eq_true rfl) dL_810 (fun r1 σ1 τ1 hp1 => ?_)
  obtain ⟨hr1, hc1, hm1, hv1⟩ := hp1
  have hI1 : Inv (mv σ1) T := by rw [hm1, ← hR]; exact hI
  have hlv1 : ∀ j, j < 12 → σ1 15 j = (xzl 1).getD j 0 := fun j hj => (congrFun hv1 j).trans (hlv j hj)
  refine x_aload_n C 1 dL_813 rfl rfl ?_
  refine x_aload_n C 3 dL_814 rfl rfl ?_
  refine x_iload_n C 0 dL_815 rfl rfl ?_
  refine x_iconst C (v := 1) dL_816 (by decide) ?_
  refine x_iadd C dL_817 ?_
  refine x_sld C hX hbl hbA (6 * k + 1) (nI_add (6 * k) 1) (by omega) hL dL_818 ?_
  refine x_aload_n C 3 dL_819 rfl rfl ?_
  refine x_iload_n C 0 dL_820 rfl rfl ?_
  refine x_iconst C (v := 2) dL_821 (by decide) ?_
  refine x_iadd C dL_822 ?_
  refine x_sld C hX hbl hbA (6 * k + 2) (nI_add (6 * k) 2) (by omega) hL dL_823 ?_
  refine x_callVo C (As := [.int (xs (6 * k + 1)), .int (xs (6 * k + 2))]) (rest := [.int r1]) (m_tapFor l E σ1 τ1 T hT (xs (6 * k + 1)) (xs (6 * k + 2)) hI1 hlv1) kv_JLeakCupsLaw_111 (x_recv C (Nat.le_of_ble_eq_true rfl) xd_81 rfl) ⟨Nat.le_of_ble_eq_true rfl, Nat.le_of_ble_eq_true rfl⟩ rfl rfl (Nat.le_of_ble_eq_true rfl) dL_824 (fun r2 σ2 τ2 hp2 => ?_)
  obtain ⟨hr2, hm2, hc2, hv2⟩ := hp2
  have e : mv σ1 = cv σ := hm1.trans hR.symm
  rw [e] at hr2 hm2
  refine x_icmp_eq C (tgt := 1409) dL_827 (by decide) (fun _ => ?_) (fun h => absurd (hr1.trans hr2.symm) h)
  exact kk σ2 τ2 (by rw [hc2, hc1, hm2]) (by rw [hc2, hc1]; exact (Inv.up (inv_tapFor hI (xs (6 * k + 1)) (xs (6 * k + 2))) (by omega))) (fun j hj => (congrFun hv2 j).trans (hlv1 j hj))
set_option maxHeartbeats 1000000 in
theorem law_24 {p : Program} {l : Launch} {e : Env} {s : State} {m : MethodId} {below : List Frame} {meth : Method} {c : Code} {cells slots : Nat} {Q : State → Prop} {E : xE} {A : Nat → Prop} {b L : Nat} {xs : Nat → Int32} {σ : Nat → Nat → Int32} {τ : Nat → Int64} {k T : Nat} (C : xC p s m #[Value.ref b] meth c code 4 "LeakCupsLaw" ret E A room_1 cells slots) (hX : va_X b L xs s s.heap) (hbl : b < s.heap.size) (hbA : ¬ A b) (hL : L ≤ 384) (hk : 6 * k + 6 ≤ L) (hT : T < 1073741824) (hR : cv σ = mv σ) (hI : Inv (cv σ) T) (hlv : Lkeep σ) (kk : ∀ (σ' : Nat → Nat → Int32) (τ' : Nat → Int64), cv σ' = mv σ' → Inv (cv σ') (T + 600) → Lkeep σ' → WM p l e room_1 s m #[Value.ref b] below meth c cells slots Q E A 4 σ' τ' 1409 [(3, .int (nI (6 * k))), (2, .ref (xad E 81)), (1, .ref (xad E 0)), (0, .ref b)] []) : WM p l e room_1 s m #[Value.ref b] below meth c cells slots Q E A 4 σ τ 832 [(3, .int (nI (6 * k))), (2, .ref (xad E 81)), (1, .ref (xad E 0)), (0, .ref b)] [] := by
  refine x_aload_n C 2 dL_832 rfl rfl ?_
  refine x_aload_n C 3 dL_833 rfl rfl ?_
  refine x_iload_n C 0 dL_834 rfl rfl ?_
  refine x_iconst C (v := 1) dL_835 (by decide) ?_
  refine x_iadd C dL_836 ?_
  refine x_sld C hX hbl hbA (6 * k + 1) (nI_add (6 * k) 1) (by omega) hL dL_837 ?_
  refine x_aload_n C 3 dL_838 rfl rfl ?_
  refine x_iload_n C 0 dL_839 rfl rfl ?_
  refine x_iconst C (v := 2) dL_840 (by decide) ?_
  refine x_iadd C dL_841 ?_
  refine x_sld C hX hbl hbA (6 * k + 2) (nI_add (6 * k) 2) (by omega) hL dL_842 ?_
  refine x_callVo C (As := [.int (xs (6 * k + 1)), .int (xs (6 * k + 2))]) (rest := []) (k_bounds l E σ τ T hT (xs (6 * k + 1)) (xs (6 * k + 2)) hI) kv_JLeakCupsLaw_112 (x_recv C (Nat.le_of_ble_eq_true rfl) xd_0 rfl) ⟨Nat.le_of_ble_eq_true rfl, Nat.le_of_ble_eq_true rfl⟩ rfl rfl (Nat.le_of_ble_eq_true rfl) dL_843 (fun r1 σ1 τ1 hp1 => ?_)
  obtain ⟨hr1, hc1, hm1, hv1⟩ := hp1
  have hI1 : Inv (mv σ1) T := by rw [hm1, ← hR]; exact hI
  have hlv1 : ∀ j, j < 12 → σ1 15 j = (xzl 1).getD j 0 := fun j hj => (congrFun hv1 j).trans (hlv j hj)
  refine x_aload_n C 1 dL_846 rfl rfl ?_
  refine x_aload_n C 3 dL_847 rfl rfl ?_
  refine x_iload_n C 0 dL_848 rfl rfl ?_
  refine x_iconst C (v := 1) dL_849 (by decide) ?_
  refine x_iadd C dL_850 ?_
  refine x_sld C hX hbl hbA (6 * k + 1) (nI_add (6 * k) 1) (by omega) hL dL_851 ?_
  refine x_aload_n C 3 dL_852 rfl rfl ?_
  refine x_iload_n C 0 dL_853 rfl rfl ?_
  refine x_iconst C (v := 2) dL_854 (by decide) ?_
  refine x_iadd C dL_855 ?_
  refine x_sld C hX hbl hbA (6 * k + 2) (nI_add (6 * k) 2) (by omega) hL dL_856 ?_
  refine x_callVo C (As := [.int (xs (6 * k + 1)), .int (xs (6 * k + 2))]) (rest := [.int r1]) (m_bounds l E σ1 τ1 T hT (xs (6 * k + 1)) (xs (6 * k + 2)) hI1 hlv1) kv_JLeakCupsLaw_115 (x_recv C (Nat.le_of_ble_eq_true rfl) xd_81 rfl) ⟨Nat.le_of_ble_eq_true rfl, Nat.le_of_ble_eq_true rfl⟩ rfl rfl (Nat.le_of_ble_eq_true rfl) dL_857 (fun r2 σ2 τ2 hp2 => ?_)
  obtain ⟨hr2, hm2, hc2, hv2⟩ := hp2
  have e : mv σ1 = cv σ := hm1.trans hR.symm
  rw [e] at hr2 hm2
  refine x_icmp_eq C (tgt := 1409) dL_860 (by decide) (fun _ => ?_) (fun h => absurd (hr1.trans hr2.symm) h)
  exact kk σ2 τ2 (by rw [hc2, hc1, hm2]) (by rw [hc2, hc1]; exact (Inv.up (inv_bounds hI (xs (6 * k + 1)) (xs (6 * k + 2))) (by omega))) (fun j hj => (congrFun hv2 j).trans (hlv1 j hj))
set_option maxHeartbeats 1000000 in
theorem law_25 {p : Program} {l : Launch} {e : Env} {s : State} {m : MethodId} {below : List Frame} {meth : Method} {c : Code} {cells slots : Nat} {Q : State → Prop} {E : xE} {A : Nat → Prop} {b L : Nat} {xs : Nat → Int32} {σ : Nat → Nat → Int32} {τ : Nat → Int64} {k T : Nat} (C : xC p s m #[Value.ref b] meth c code 4 "LeakCupsLaw" ret E A room_1 cells slots) (hX : va_X b L xs s s.heap) (hbl : b < s.heap.size) (hbA : ¬ A b) (hL : L ≤ 384) (hk : 6 * k + 6 ≤ L) (hT : T < 1073741824) (hR : cv σ = mv σ) (hI : Inv (cv σ) T) (hlv : Lkeep σ) (kk : ∀ (σ' : Nat → Nat → Int32) (τ' : Nat → Int64), cv σ' = mv σ' → Inv (cv σ') (T + 600) → Lkeep σ' → WM p l e room_1 s m #[Value.ref b] below meth c cells slots Q E A 4 σ' τ' 1409 [(3, .int (nI (6 * k))), (2, .ref (xad E 81)), (1, .ref (xad E 0)), (0, .ref b)] []) : WM p l e room_1 s m #[Value.ref b] below meth c cells slots Q E A 4 σ τ 865 [(3, .int (nI (6 * k))), (2, .ref (xad E 81)), (1, .ref (xad E 0)), (0, .ref b)] [] := by
  refine x_aload_n C 2 dL_865 rfl rfl ?_
  refine x_aload_n C 3 dL_866 rfl rfl ?_
  refine x_iload_n C 0 dL_867 rfl rfl ?_
  refine x_iconst C (v := 1) dL_868 (by decide) ?_
  refine x_iadd C dL_869 ?_
  refine x_sld C hX hbl hbA (6 * k + 1) (nI_add (6 * k) 1) (by omega) hL dL_870 ?_
  refine x_callVo C (As := [.int (xs (6 * k + 1))]) (rest := []) (k_often l E σ τ T hT (xs (6 * k + 1)) hI) kv_JLeakCupsLaw_116 (x_recv C (Nat.le_of_ble_eq_true rfl) xd_0 rfl) ⟨Nat.le_of_ble_eq_true rfl, Nat.le_of_ble_eq_true rfl⟩ rfl rfl (Nat.le_of_ble_eq_true rfl) dL_871 (fun r1 σ1 τ1 hp1 => ?_)
  obtain ⟨hr1, hc1, hm1, hv1⟩ := hp1
  have hI1 : Inv (mv σ1) T := by rw [hm1, ← hR]; exact hI
  have hlv1 : ∀ j, j < 12 → σ1 15 j = (xzl 1).getD j 0 := fun j hj => (congrFun hv1 j).trans (hlv j hj)
  refine x_aload_n C 1 dL_874 rfl rfl ?_
  refine x_aload_n C 3 dL_875 rfl rfl ?_
  refine x_iload_n C 0 dL_876 rfl rfl ?_
  refine x_iconst C (v := 1) dL_877 (by decide) ?_
  refine x_iadd C dL_878 ?_
  refine x_sld C hX hbl hbA (6 * k + 1) (nI_add (6 * k) 1) (by omega) hL dL_879 ?_
  refine x_callVo C (As := [.int (xs (6 * k + 1))]) (rest := [.int r1]) (m_often l E σ1 τ1 T hT (xs (6 * k + 1)) hI1 hlv1) kv_JLeakCupsLaw_119 (x_recv C (Nat.le_of_ble_eq_true rfl) xd_81 rfl) ⟨Nat.le_of_ble_eq_true rfl, Nat.le_of_ble_eq_true rfl⟩ rfl rfl (Nat.le_of_ble_eq_true rfl) dL_880 (fun r2 σ2 τ2 hp2 => ?_)
  obtain ⟨hr2, hm2, hc2, hv2⟩ := hp2
  have e : mv σ1 = cv σ := hm1.trans hR.symm
  rw [e] at hr2 hm2
  refine x_icmp_eq C (tgt := 1409) dL_883 (by decide) (fun _ => ?_) (fun h => absurd (hr1.trans hr2.symm) h)
  exact kk σ2 τ2 (by rw [hc2, hc1, hm2]) (by rw [hc2, hc1]; exact (Inv.up (inv_often hI (xs (6 * k + 1))) (by omega))) (fun j hj => (congrFun hv2 j).trans (hlv1 j hj))
set_option maxHeartbeats 1000000 in
theorem law_26 {p : Program} {l : Launch} {e : Env} {s : State} {m : MethodId} {below : List Frame} {meth : Method} {c : Code} {cells slots : Nat} {Q : State → Prop} {E : xE} {A : Nat → Prop} {b L : Nat} {xs : Nat → Int32} {σ : Nat → Nat → Int32} {τ : Nat → Int64} {k T : Nat} (C : xC p s m #[Value.ref b] meth c code 4 "LeakCupsLaw" ret E A room_1 cells slots) (hX : va_X b L xs s s.heap) (hbl : b < s.heap.size) (hbA : ¬ A b) (hL : L ≤ 384) (hk : 6 * k + 6 ≤ L) (hT : T < 1073741824) (hR : cv σ = mv σ) (hI : Inv (cv σ) T) (hlv : Lkeep σ) (kk : ∀ (σ' : Nat → Nat → Int32) (τ' : Nat → Int64), cv σ' = mv σ' → Inv (cv σ') (T + 600) → Lkeep σ' → WM p l e room_1 s m #[Value.ref b] below meth c cells slots Q E A 4 σ' τ' 1409 [(3, .int (nI (6 * k))), (2, .ref (xad E 81)), (1, .ref (xad E 0)), (0, .ref b)] []) : WM p l e room_1 s m #[Value.ref b] below meth c cells slots Q E A 4 σ τ 888 [(3, .int (nI (6 * k))), (2, .ref (xad E 81)), (1, .ref (xad E 0)), (0, .ref b)] [] := by
  refine x_aload_n C 2 dL_888 rfl rfl ?_
  refine x_aload_n C 3 dL_889 rfl rfl ?_
  refine x_iload_n C 0 dL_890 rfl rfl ?_
  refine x_iconst C (v := 1) dL_891 (by decide) ?_
  refine x_iadd C dL_892 ?_
  refine x_sld C hX hbl hbA (6 * k + 1) (nI_add (6 * k) 1) (by omega) hL dL_893 ?_
  refine x_callVo C (As := [.int (xs (6 * k + 1))]) (rest := []) (k_holds l E σ τ T hT (xs (6 * k + 1)) hI) kv_JLeakCupsLaw_120 (x_recv C (Nat.le_of_ble_eq_true rfl) xd_0 rfl) ⟨Nat.le_of_ble_eq_true rfl, Nat.le_of_ble_eq_true rfl⟩ rfl rfl (Nat.le_of_ble_eq_true rfl) dL_894 (fun r1 σ1 τ1 hp1 => ?_)
  obtain ⟨hr1, hc1, hm1, hv1⟩ := hp1
  have hI1 : Inv (mv σ1) T := by rw [hm1, ← hR]; exact hI
  have hlv1 : ∀ j, j < 12 → σ1 15 j = (xzl 1).getD j 0 := fun j hj => (congrFun hv1 j).trans (hlv j hj)
  refine x_aload_n C 1 dL_897 rfl rfl ?_
  refine x_aload_n C 3 dL_898 rfl rfl ?_
  refine x_iload_n C 0 dL_899 rfl rfl ?_
  refine x_iconst C (v := 1) dL_900 (by decide) ?_
  refine x_iadd C dL_901 ?_
  refine x_sld C hX hbl hbA (6 * k + 1) (nI_add (6 * k) 1) (by omega) hL dL_902 ?_
  refine x_callVo C (As := [.int (xs (6 * k + 1))]) (rest := [.int r1]) (m_holds l E σ1 τ1 T hT (xs (6 * k + 1)) hI1 hlv1) kv_JLeakCupsLaw_123 (x_recv C (Nat.le_of_ble_eq_true rfl) xd_81 rfl) ⟨Nat.le_of_ble_eq_true rfl, Nat.le_of_ble_eq_true rfl⟩ rfl rfl (Nat.le_of_ble_eq_true rfl) dL_903 (fun r2 σ2 τ2 hp2 => ?_)
  obtain ⟨hr2, hm2, hc2, hv2⟩ := hp2
  have e : mv σ1 = cv σ := hm1.trans hR.symm
  rw [e] at hr2 hm2
  refine x_icmp_eq C (tgt := 1409) dL_906 (by decide) (fun _ => ?_) (fun h => absurd (hr1.trans hr2.symm) h)
  exact kk σ2 τ2 (by rw [hc2, hc1, hm2]) (by rw [hc2, hc1]; exact (Inv.up (inv_holds hI (xs (6 * k + 1))) (by omega))) (fun j hj => (congrFun hv2 j).trans (hlv1 j hj))
set_option maxHeartbeats 1000000 in
theorem law_27 {p : Program} {l : Launch} {e : Env} {s : State} {m : MethodId} {below : List Frame} {meth : Method} {c : Code} {cells slots : Nat} {Q : State → Prop} {E : xE} {A : Nat → Prop} {b L : Nat} {xs : Nat → Int32} {σ : Nat → Nat → Int32} {τ : Nat → Int64} {k T : Nat} (C : xC p s m #[Value.ref b] meth c code 4 "LeakCupsLaw" ret E A room_1 cells slots) (hX : va_X b L xs s s.heap) (hbl : b < s.heap.size) (hbA : ¬ A b) (hL : L ≤ 384) (hk : 6 * k + 6 ≤ L) (hT : T < 1073741824) (hR : cv σ = mv σ) (hI : Inv (cv σ) T) (hlv : Lkeep σ) (kk : ∀ (σ' : Nat → Nat → Int32) (τ' : Nat → Int64), cv σ' = mv σ' → Inv (cv σ') (T + 600) → Lkeep σ' → WM p l e room_1 s m #[Value.ref b] below meth c cells slots Q E A 4 σ' τ' 1409 [(3, .int (nI (6 * k))), (2, .ref (xad E 81)), (1, .ref (xad E 0)), (0, .ref b)] []) : WM p l e room_1 s m #[Value.ref b] below meth c cells slots Q E A 4 σ τ 911 [(3, .int (nI (6 * k))), (2, .ref (xad E 81)), (1, .ref (xad E 0)), (0, .ref b)] [] := by
  refine x_aload_n C 2 dL_911 rfl rfl ?_
  refine x_aload_n C 3 dL_912 rfl rfl ?_
  refine x_iload_n C 0 dL_913 rfl rfl ?_
  refine x_iconst C (v := 1) dL_914 (by decide) ?_
  refine x_iadd C dL_915 ?_
  refine x_sld C hX hbl hbA (6 * k + 1) (nI_add (6 * k) 1) (by omega) hL dL_916 ?_
  refine x_aload_n C 3 dL_917 rfl rfl ?_
  refine x_iload_n C 0 dL_918 rfl rfl ?_
  refine x_iconst C (v := 2) dL_919 (by decide) ?_
  refine x_iadd C dL_920 ?_
  refine x_sld C hX hbl hbA (6 * k + 2) (nI_add (6 * k) 2) (by omega) hL dL_921 ?_
  refine x_callVo C (As := [.int (xs (6 * k + 1)), .int (xs (6 * k + 2))]) (rest := []) (k_chance l E σ τ T hT (xs (6 * k + 1)) (xs (6 * k + 2)) hI) kv_JLeakCupsLaw_124 (x_recv C (Nat.le_of_ble_eq_true rfl) xd_0 rfl) ⟨Nat.le_of_ble_eq_true rfl, Nat.le_of_ble_eq_true rfl⟩ rfl rfl (Nat.le_of_ble_eq_true rfl) dL_922 (fun r1 σ1 τ1 hp1 => ?_)
  obtain ⟨hr1, hc1, hm1, hv1⟩ := hp1
  have hI1 : Inv (mv σ1) T := by rw [hm1, ← hR]; exact hI
  have hlv1 : ∀ j, j < 12 → σ1 15 j = (xzl 1).getD j 0 := fun j hj => (congrFun hv1 j).trans (hlv j hj)
  refine x_aload_n C 1 dL_925 rfl rfl ?_
  refine x_aload_n C 3 dL_926 rfl rfl ?_
  refine x_iload_n C 0 dL_927 rfl rfl ?_
  refine x_iconst C (v := 1) dL_928 (by decide) ?_
  refine x_iadd C dL_929 ?_
  refine x_sld C hX hbl hbA (6 * k + 1) (nI_add (6 * k) 1) (by omega) hL dL_930 ?_
  refine x_aload_n C 3 dL_931 rfl rfl ?_
  refine x_iload_n C 0 dL_932 rfl rfl ?_
  refine x_iconst C (v := 2) dL_933 (by decide) ?_
  refine x_iadd C dL_934 ?_
  refine x_sld C hX hbl hbA (6 * k + 2) (nI_add (6 * k) 2) (by omega) hL dL_935 ?_
  refine x_callVo C (As := [.int (xs (6 * k + 1)), .int (xs (6 * k + 2))]) (rest := [.int r1]) (m_chance l E σ1 τ1 T hT (xs (6 * k + 1)) (xs (6 * k + 2)) hI1 hlv1) kv_JLeakCupsLaw_127 (x_recv C (Nat.le_of_ble_eq_true rfl) xd_81 rfl) ⟨Nat.le_of_ble_eq_true rfl, Nat.le_of_ble_eq_true rfl⟩ rfl rfl (Nat.le_of_ble_eq_true rfl) dL_936 (fun r2 σ2 τ2 hp2 => ?_)
  obtain ⟨hr2, hm2, hc2, hv2⟩ := hp2
  have e : mv σ1 = cv σ := hm1.trans hR.symm
  rw [e] at hr2 hm2
  refine x_icmp_eq C (tgt := 1409) dL_939 (by decide) (fun _ => ?_) (fun h => absurd (hr1.trans hr2.symm) h)
  exact kk σ2 τ2 (by rw [hc2, hc1, hm2]) (by rw [hc2, hc1]; exact (Inv.up (inv_chance hI (xs (6 * k + 1)) (xs (6 * k + 2))) (by omega))) (fun j hj => (congrFun hv2 j).trans (hlv1 j hj))
set_option maxHeartbeats 1000000 in
theorem law_28 {p : Program} {l : Launch} {e : Env} {s : State} {m : MethodId} {below : List Frame} {meth : Method} {c : Code} {cells slots : Nat} {Q : State → Prop} {E : xE} {A : Nat → Prop} {b L : Nat} {xs : Nat → Int32} {σ : Nat → Nat → Int32} {τ : Nat → Int64} {k T : Nat} (C : xC p s m #[Value.ref b] meth c code 4 "LeakCupsLaw" ret E A room_1 cells slots) (hX : va_X b L xs s s.heap) (hbl : b < s.heap.size) (hbA : ¬ A b) (hL : L ≤ 384) (hk : 6 * k + 6 ≤ L) (hT : T < 1073741824) (hR : cv σ = mv σ) (hI : Inv (cv σ) T) (hlv : Lkeep σ) (kk : ∀ (σ' : Nat → Nat → Int32) (τ' : Nat → Int64), cv σ' = mv σ' → Inv (cv σ') (T + 600) → Lkeep σ' → WM p l e room_1 s m #[Value.ref b] below meth c cells slots Q E A 4 σ' τ' 1409 [(3, .int (nI (6 * k))), (2, .ref (xad E 81)), (1, .ref (xad E 0)), (0, .ref b)] []) : WM p l e room_1 s m #[Value.ref b] below meth c cells slots Q E A 4 σ τ 944 [(3, .int (nI (6 * k))), (2, .ref (xad E 81)), (1, .ref (xad E 0)), (0, .ref b)] [] := by
  refine x_aload_n C 2 dL_944 rfl rfl ?_
  refine x_aload_n C 3 dL_945 rfl rfl ?_
  refine x_iload_n C 0 dL_946 rfl rfl ?_
  refine x_iconst C (v := 1) dL_947 (by decide) ?_
  refine x_iadd C dL_948 ?_
  refine x_sld C hX hbl hbA (6 * k + 1) (nI_add (6 * k) 1) (by omega) hL dL_949 ?_
  refine x_aload_n C 3 dL_950 rfl rfl ?_
  refine x_iload_n C 0 dL_951 rfl rfl ?_
  refine x_iconst C (v := 2) dL_952 (by decide) ?_
  refine x_iadd C dL_953 ?_
  refine x_sld C hX hbl hbA (6 * k + 2) (nI_add (6 * k) 2) (by omega) hL dL_954 ?_
  refine x_aload_n C 3 dL_955 rfl rfl ?_
  refine x_iload_n C 0 dL_956 rfl rfl ?_
  refine x_iconst C (v := 3) dL_957 (by decide) ?_
  refine x_iadd C dL_958 ?_
  refine x_sld C hX hbl hbA (6 * k + 3) (nI_add (6 * k) 3) (by omega) hL dL_959 ?_
  refine x_aload_n C 3 dL_960 rfl rfl ?_
  refine x_iload_n C 0 dL_961 rfl rfl ?_
  refine x_iconst C (v := 4) dL_962 (by decide) ?_
  refine x_iadd C dL_963 ?_
  refine x_sld C hX hbl hbA (6 * k + 4) (nI_add (6 * k) 4) (by omega) hL dL_964 ?_
  refine x_callVo C (As := [.int (xs (6 * k + 1)), .int (xs (6 * k + 2)), .int (xs (6 * k + 3)), .int (xs (6 * k + 4))]) (rest := []) (k_brief l E σ τ T hT (xs (6 * k + 1)) (xs (6 * k + 2)) (xs (6 * k + 3)) (xs (6 * k + 4)) hI) kv_JLeakCupsLaw_128 (x_recv C (Nat.le_of_ble_eq_true rfl) xd_0 rfl) ⟨Nat.le_of_ble_eq_true rfl, Nat.le_of_ble_eq_true rfl⟩ rfl rfl (Nat.le_of_ble_eq_true rfl) dL_965 (fun r1 σ1 τ1 hp1 => ?_)
  obtain ⟨hr1, hc1, hm1, hv1⟩ := hp1
  have hI1 : Inv (mv σ1) T := by rw [hm1, ← hR]; exact hI
  have hlv1 : ∀ j, j < 12 → σ1 15 j = (xzl 1).getD j 0 := fun j hj => (congrFun hv1 j).trans (hlv j hj)
  refine x_aload_n C 1 dL_968 rfl rfl ?_
  refine x_aload_n C 3 dL_969 rfl rfl ?_
  refine x_iload_n C 0 dL_970 rfl rfl ?_
  refine x_iconst C (v := 1) dL_971 (by decide) ?_
  refine x_iadd C dL_972 ?_
  refine x_sld C hX hbl hbA (6 * k + 1) (nI_add (6 * k) 1) (by omega) hL dL_973 ?_
  refine x_aload_n C 3 dL_974 rfl rfl ?_
  refine x_iload_n C 0 dL_975 rfl rfl ?_
  refine x_iconst C (v := 2) dL_976 (by decide) ?_
  refine x_iadd C dL_977 ?_
  refine x_sld C hX hbl hbA (6 * k + 2) (nI_add (6 * k) 2) (by omega) hL dL_978 ?_
  refine x_aload_n C 3 dL_979 rfl rfl ?_
  refine x_iload_n C 0 dL_980 rfl rfl ?_
  refine x_iconst C (v := 3) dL_981 (by decide) ?_
  refine x_iadd C dL_982 ?_
  refine x_sld C hX hbl hbA (6 * k + 3) (nI_add (6 * k) 3) (by omega) hL dL_983 ?_
  refine x_aload_n C 3 dL_984 rfl rfl ?_
  refine x_iload_n C 0 dL_985 rfl rfl ?_
  refine x_iconst C (v := 4) dL_986 (by decide) ?_
  refine x_iadd C dL_987 ?_
  refine x_sld C hX hbl hbA (6 * k + 4) (nI_add (6 * k) 4) (by omega) hL dL_988 ?_
  refine x_callVo C (As := [.int (xs (6 * k + 1)), .int (xs (6 * k + 2)), .int (xs (6 * k + 3)), .int (xs (6 * k + 4))]) (rest := [.int r1]) (m_brief l E σ1 τ1 T hT (xs (6 * k + 1)) (xs (6 * k + 2)) (xs (6 * k + 3)) (xs (6 * k + 4)) hI1 hlv1) kv_JLeakCupsLaw_132 (x_recv C (Nat.le_of_ble_eq_true rfl) xd_81 rfl) ⟨Nat.le_of_ble_eq_true rfl, Nat.le_of_ble_eq_true rfl⟩ rfl rfl (Nat.le_of_ble_eq_true rfl) dL_989 (fun r2 σ2 τ2 hp2 => ?_)
  obtain ⟨hr2, hm2, hc2, hv2⟩ := hp2
  have e : mv σ1 = cv σ := hm1.trans hR.symm
  rw [e] at hr2 hm2
  refine x_icmp_eq C (tgt := 1409) dL_992 (by decide) (fun _ => ?_) (fun h => absurd (hr1.trans hr2.symm) h)
  exact kk σ2 τ2 (by rw [hc2, hc1, hm2]) (by rw [hc2, hc1]; exact (Inv.up (inv_brief hI (xs (6 * k + 1)) (xs (6 * k + 2)) (xs (6 * k + 3)) (xs (6 * k + 4))) (by omega))) (fun j hj => (congrFun hv2 j).trans (hlv1 j hj))
set_option maxHeartbeats 1000000 in
theorem law_29 {p : Program} {l : Launch} {e : Env} {s : State} {m : MethodId} {below : List Frame} {meth : Method} {c : Code} {cells slots : Nat} {Q : State → Prop} {E : xE} {A : Nat → Prop} {b L : Nat} {xs : Nat → Int32} {σ : Nat → Nat → Int32} {τ : Nat → Int64} {k T : Nat} (C : xC p s m #[Value.ref b] meth c code 4 "LeakCupsLaw" ret E A room_1 cells slots) (hX : va_X b L xs s s.heap) (hbl : b < s.heap.size) (hbA : ¬ A b) (hL : L ≤ 384) (hk : 6 * k + 6 ≤ L) (hT : T < 1073741824) (hR : cv σ = mv σ) (hI : Inv (cv σ) T) (hlv : Lkeep σ) (kk : ∀ (σ' : Nat → Nat → Int32) (τ' : Nat → Int64), cv σ' = mv σ' → Inv (cv σ') (T + 600) → Lkeep σ' → WM p l e room_1 s m #[Value.ref b] below meth c cells slots Q E A 4 σ' τ' 1409 [(3, .int (nI (6 * k))), (2, .ref (xad E 81)), (1, .ref (xad E 0)), (0, .ref b)] []) : WM p l e room_1 s m #[Value.ref b] below meth c cells slots Q E A 4 σ τ 997 [(3, .int (nI (6 * k))), (2, .ref (xad E 81)), (1, .ref (xad E 0)), (0, .ref b)] [] := by
  refine x_aload_n C 2 dL_997 rfl rfl ?_
  refine x_aload_n C 3 dL_998 rfl rfl ?_
  refine x_iload_n C 0 dL_999 rfl rfl ?_
  refine x_iconst C (v := 1) dL_1000 (by decide) ?_
  refine x_iadd C dL_1001 ?_
  refine x_sld C hX hbl hbA (6 * k + 1) (nI_add (6 * k) 1) (by omega) hL dL_1002 ?_
  refine x_aload_n C 3 dL_1003 rfl rfl ?_
  refine x_iload_n C 0 dL_1004 rfl rfl ?_
  refine x_iconst C (v := 2) dL_1005 (by decide) ?_
  refine x_iadd C dL_1006 ?_
  refine x_sld C hX hbl hbA (6 * k + 2) (nI_add (6 * k) 2) (by omega) hL dL_1007 ?_
  refine x_aload_n C 3 dL_1008 rfl rfl ?_
  refine x_iload_n C 0 dL_1009 rfl rfl ?_
  refine x_iconst C (v := 3) dL_1010 (by decide) ?_
  refine x_iadd C dL_1011 ?_
  refine x_sld C hX hbl hbA (6 * k + 3) (nI_add (6 * k) 3) (by omega) hL dL_1012 ?_
  refine x_callVo C (As := [.int (xs (6 * k + 1)), .int (xs (6 * k + 2)), .int (xs (6 * k + 3))]) (rest := []) (k_flips l E σ τ T hT (xs (6 * k + 1)) (xs (6 * k + 2)) (xs (6 * k + 3)) hI) kv_JLeakCupsLaw_133 (x_recv C (Nat.le_of_ble_eq_true rfl) xd_0 rfl) ⟨Nat.le_of_ble_eq_true rfl, Nat.le_of_ble_eq_true rfl⟩ rfl rfl (Nat.le_of_ble_eq_true rfl) dL_1013 (fun r1 σ1 τ1 hp1 => ?_)
  obtain ⟨hr1, hc1, hm1, hv1⟩ := hp1
  have hI1 : Inv (mv σ1) T := by rw [hm1, ← hR]; exact hI
  have hlv1 : ∀ j, j < 12 → σ1 15 j = (xzl 1).getD j 0 := fun j hj => (congrFun hv1 j).trans (hlv j hj)
  refine x_aload_n C 1 dL_1016 rfl rfl ?_
  refine x_aload_n C 3 dL_1017 rfl rfl ?_
  refine x_iload_n C 0 dL_1018 rfl rfl ?_
  refine x_iconst C (v := 1) dL_1019 (by decide) ?_
  refine x_iadd C dL_1020 ?_
  refine x_sld C hX hbl hbA (6 * k + 1) (nI_add (6 * k) 1) (by omega) hL dL_1021 ?_
  refine x_aload_n C 3 dL_1022 rfl rfl ?_
  refine x_iload_n C 0 dL_1023 rfl rfl ?_
  refine x_iconst C (v := 2) dL_1024 (by decide) ?_
  refine x_iadd C dL_1025 ?_
  refine x_sld C hX hbl hbA (6 * k + 2) (nI_add (6 * k) 2) (by omega) hL dL_1026 ?_
  refine x_aload_n C 3 dL_1027 rfl rfl ?_
  refine x_iload_n C 0 dL_1028 rfl rfl ?_
  refine x_iconst C (v := 3) dL_1029 (by decide) ?_
  refine x_iadd C dL_1030 ?_
  refine x_sld C hX hbl hbA (6 * k + 3) (nI_add (6 * k) 3) (by omega) hL dL_1031 ?_
  refine x_callVo C (As := [.int (xs (6 * k + 1)), .int (xs (6 * k + 2)), .int (xs (6 * k + 3))]) (rest := [.int r1]) (m_flips l E σ1 τ1 T hT (xs (6 * k + 1)) (xs (6 * k + 2)) (xs (6 * k + 3)) hI1 hlv1) kv_JLeakCupsLaw_137 (x_recv C (Nat.le_of_ble_eq_true rfl) xd_81 rfl) ⟨Nat.le_of_ble_eq_true rfl, Nat.le_of_ble_eq_true rfl⟩ rfl rfl (Nat.le_of_ble_eq_true rfl) dL_1032 (fun r2 σ2 τ2 hp2 => ?_)
  obtain ⟨hr2, hm2, hc2, hv2⟩ := hp2
  have e : mv σ1 = cv σ := hm1.trans hR.symm
  rw [e] at hr2 hm2
  refine x_icmp_eq C (tgt := 1409) dL_1035 (by decide) (fun _ => ?_) (fun h => absurd (hr1.trans hr2.symm) h)
  exact kk σ2 τ2 (by rw [hc2, hc1, hm2]) (by rw [hc2, hc1]; exact (Inv.up (inv_flips hI (xs (6 * k + 1)) (xs (6 * k + 2)) (xs (6 * k + 3))) (by omega))) (fun j hj => (congrFun hv2 j).trans (hlv1 j hj))
set_option maxHeartbeats 1000000 in
theorem law_30 {p : Program} {l : Launch} {e : Env} {s : State} {m : MethodId} {below : List Frame} {meth : Method} {c : Code} {cells slots : Nat} {Q : State → Prop} {E : xE} {A : Nat → Prop} {b L : Nat} {xs : Nat → Int32} {σ : Nat → Nat → Int32} {τ : Nat → Int64} {k T : Nat} (C : xC p s m #[Value.ref b] meth c code 4 "LeakCupsLaw" ret E A room_1 cells slots) (hX : va_X b L xs s s.heap) (hbl : b < s.heap.size) (hbA : ¬ A b) (hL : L ≤ 384) (hk : 6 * k + 6 ≤ L) (hT : T < 1073741824) (hR : cv σ = mv σ) (hI : Inv (cv σ) T) (hlv : Lkeep σ) (kk : ∀ (σ' : Nat → Nat → Int32) (τ' : Nat → Int64), cv σ' = mv σ' → Inv (cv σ') (T + 600) → Lkeep σ' → WM p l e room_1 s m #[Value.ref b] below meth c cells slots Q E A 4 σ' τ' 1409 [(3, .int (nI (6 * k))), (2, .ref (xad E 81)), (1, .ref (xad E 0)), (0, .ref b)] []) : WM p l e room_1 s m #[Value.ref b] below meth c cells slots Q E A 4 σ τ 1040 [(3, .int (nI (6 * k))), (2, .ref (xad E 81)), (1, .ref (xad E 0)), (0, .ref b)] [] := by
  refine x_aload_n C 2 dL_1040 rfl rfl ?_
  refine x_aload_n C 3 dL_1041 rfl rfl ?_
  refine x_iload_n C 0 dL_1042 rfl rfl ?_
  refine x_iconst C (v := 1) dL_1043 (by decide) ?_
  refine x_iadd C dL_1044 ?_
  refine x_sld C hX hbl hbA (6 * k + 1) (nI_add (6 * k) 1) (by omega) hL dL_1045 ?_
  refine x_callVo C (As := [.int (xs (6 * k + 1))]) (rest := []) (k_seed l E σ τ T hT (xs (6 * k + 1)) hI) kv_JLeakCupsLaw_138 (x_recv C (Nat.le_of_ble_eq_true rfl) xd_0 rfl) ⟨Nat.le_of_ble_eq_true rfl, Nat.le_of_ble_eq_true rfl⟩ rfl rfl (Nat.le_of_ble_eq_true rfl) dL_1046 (fun r1 σ1 τ1 hp1 => ?_)
  obtain ⟨hr1, hc1, hm1, hv1⟩ := hp1
  have hI1 : Inv (mv σ1) T := by rw [hm1, ← hR]; exact hI
  have hlv1 : ∀ j, j < 12 → σ1 15 j = (xzl 1).getD j 0 := fun j hj => (congrFun hv1 j).trans (hlv j hj)
  refine x_aload_n C 1 dL_1049 rfl rfl ?_
  refine x_aload_n C 3 dL_1050 rfl rfl ?_
  refine x_iload_n C 0 dL_1051 rfl rfl ?_
  refine x_iconst C (v := 1) dL_1052 (by decide) ?_
  refine x_iadd C dL_1053 ?_
  refine x_sld C hX hbl hbA (6 * k + 1) (nI_add (6 * k) 1) (by omega) hL dL_1054 ?_
  refine x_callVo C (As := [.int (xs (6 * k + 1))]) (rest := [.int r1]) (m_seed l E σ1 τ1 T hT (xs (6 * k + 1)) hI1 hlv1) kv_JLeakCupsLaw_141 (x_recv C (Nat.le_of_ble_eq_true rfl) xd_81 rfl) ⟨Nat.le_of_ble_eq_true rfl, Nat.le_of_ble_eq_true rfl⟩ rfl rfl (Nat.le_of_ble_eq_true rfl) dL_1055 (fun r2 σ2 τ2 hp2 => ?_)
  obtain ⟨hr2, hm2, hc2, hv2⟩ := hp2
  have e : mv σ1 = cv σ := hm1.trans hR.symm
  rw [e] at hr2 hm2
  refine x_icmp_eq C (tgt := 1409) dL_1058 (by decide) (fun _ => ?_) (fun h => absurd (hr1.trans hr2.symm) h)
  exact kk σ2 τ2 (by rw [hc2, hc1, hm2]) (by rw [hc2, hc1]; exact (Inv.up (inv_seed hI (xs (6 * k + 1))) (by omega))) (fun j hj => (congrFun hv2 j).trans (hlv1 j hj))
set_option maxHeartbeats 1000000 in
theorem law_31 {p : Program} {l : Launch} {e : Env} {s : State} {m : MethodId} {below : List Frame} {meth : Method} {c : Code} {cells slots : Nat} {Q : State → Prop} {E : xE} {A : Nat → Prop} {b L : Nat} {xs : Nat → Int32} {σ : Nat → Nat → Int32} {τ : Nat → Int64} {k T : Nat} (C : xC p s m #[Value.ref b] meth c code 4 "LeakCupsLaw" ret E A room_1 cells slots) (hX : va_X b L xs s s.heap) (hbl : b < s.heap.size) (hbA : ¬ A b) (hL : L ≤ 384) (hk : 6 * k + 6 ≤ L) (hT : T < 1073741824) (hR : cv σ = mv σ) (hI : Inv (cv σ) T) (hlv : Lkeep σ) (kk : ∀ (σ' : Nat → Nat → Int32) (τ' : Nat → Int64), cv σ' = mv σ' → Inv (cv σ') (T + 600) → Lkeep σ' → WM p l e room_1 s m #[Value.ref b] below meth c cells slots Q E A 4 σ' τ' 1409 [(3, .int (nI (6 * k))), (2, .ref (xad E 81)), (1, .ref (xad E 0)), (0, .ref b)] []) : WM p l e room_1 s m #[Value.ref b] below meth c cells slots Q E A 4 σ τ 1063 [(3, .int (nI (6 * k))), (2, .ref (xad E 81)), (1, .ref (xad E 0)), (0, .ref b)] [] := by
  refine x_aload_n C 2 dL_1063 rfl rfl ?_
  refine x_aload_n C 3 dL_1064 rfl rfl ?_
  refine x_iload_n C 0 dL_1065 rfl rfl ?_
  refine x_iconst C (v := 1) dL_1066 (by decide) ?_
  refine x_iadd C dL_1067 ?_
  refine x_sld C hX hbl hbA (6 * k + 1) (nI_add (6 * k) 1) (by omega) hL dL_1068 ?_
  refine x_aload_n C 3 dL_1069 rfl rfl ?_
  refine x_iload_n C 0 dL_1070 rfl rfl ?_
  refine x_iconst C (v := 2) dL_1071 (by decide) ?_
  refine x_iadd C dL_1072 ?_
  refine x_sld C hX hbl hbA (6 * k + 2) (nI_add (6 * k) 2) (by omega) hL dL_1073 ?_
  refine x_callVo C (As := [.int (xs (6 * k + 1)), .int (xs (6 * k + 2))]) (rest := []) (k_hold l E σ τ T hT (xs (6 * k + 1)) (xs (6 * k + 2)) hI) kv_JLeakCupsLaw_142 (x_recv C (Nat.le_of_ble_eq_true rfl) xd_0 rfl) ⟨Nat.le_of_ble_eq_true rfl, Nat.le_of_ble_eq_true rfl⟩ rfl rfl (Nat.le_of_ble_eq_true rfl) dL_1074 (fun r1 σ1 τ1 hp1 => ?_)
  obtain ⟨hr1, hc1, hm1, hv1⟩ := hp1
  have hI1 : Inv (mv σ1) T := by rw [hm1, ← hR]; exact hI
  have hlv1 : ∀ j, j < 12 → σ1 15 j = (xzl 1).getD j 0 := fun j hj => (congrFun hv1 j).trans (hlv j hj)
  refine x_aload_n C 1 dL_1077 rfl rfl ?_
  refine x_aload_n C 3 dL_1078 rfl rfl ?_
  refine x_iload_n C 0 dL_1079 rfl rfl ?_
  refine x_iconst C (v := 1) dL_1080 (by decide) ?_
  refine x_iadd C dL_1081 ?_
  refine x_sld C hX hbl hbA (6 * k + 1) (nI_add (6 * k) 1) (by omega) hL dL_1082 ?_
  refine x_aload_n C 3 dL_1083 rfl rfl ?_
  refine x_iload_n C 0 dL_1084 rfl rfl ?_
  refine x_iconst C (v := 2) dL_1085 (by decide) ?_
  refine x_iadd C dL_1086 ?_
  refine x_sld C hX hbl hbA (6 * k + 2) (nI_add (6 * k) 2) (by omega) hL dL_1087 ?_
  refine x_callVo C (As := [.int (xs (6 * k + 1)), .int (xs (6 * k + 2))]) (rest := [.int r1]) (m_hold l E σ1 τ1 T hT (xs (6 * k + 1)) (xs (6 * k + 2)) hI1 hlv1) kv_JLeakCupsLaw_145 (x_recv C (Nat.le_of_ble_eq_true rfl) xd_81 rfl) ⟨Nat.le_of_ble_eq_true rfl, Nat.le_of_ble_eq_true rfl⟩ rfl rfl (Nat.le_of_ble_eq_true rfl) dL_1088 (fun r2 σ2 τ2 hp2 => ?_)
  obtain ⟨hr2, hm2, hc2, hv2⟩ := hp2
  have e : mv σ1 = cv σ := hm1.trans hR.symm
  rw [e] at hr2 hm2
  refine x_icmp_eq C (tgt := 1409) dL_1091 (by decide) (fun _ => ?_) (fun h => absurd (hr1.trans hr2.symm) h)
  exact kk σ2 τ2 (by rw [hc2, hc1, hm2]) (by rw [hc2, hc1]; exact (Inv.up (inv_hold hI (xs (6 * k + 1)) (xs (6 * k + 2))) (by omega))) (fun j hj => (congrFun hv2 j).trans (hlv1 j hj))
set_option maxHeartbeats 1000000 in
theorem law_32 {p : Program} {l : Launch} {e : Env} {s : State} {m : MethodId} {below : List Frame} {meth : Method} {c : Code} {cells slots : Nat} {Q : State → Prop} {E : xE} {A : Nat → Prop} {b L : Nat} {xs : Nat → Int32} {σ : Nat → Nat → Int32} {τ : Nat → Int64} {k T : Nat} (C : xC p s m #[Value.ref b] meth c code 4 "LeakCupsLaw" ret E A room_1 cells slots) (hX : va_X b L xs s s.heap) (hbl : b < s.heap.size) (hbA : ¬ A b) (hL : L ≤ 384) (hk : 6 * k + 6 ≤ L) (hT : T < 1073741824) (hR : cv σ = mv σ) (hI : Inv (cv σ) T) (hlv : Lkeep σ) (kk : ∀ (σ' : Nat → Nat → Int32) (τ' : Nat → Int64), cv σ' = mv σ' → Inv (cv σ') (T + 600) → Lkeep σ' → WM p l e room_1 s m #[Value.ref b] below meth c cells slots Q E A 4 σ' τ' 1409 [(3, .int (nI (6 * k))), (2, .ref (xad E 81)), (1, .ref (xad E 0)), (0, .ref b)] []) : WM p l e room_1 s m #[Value.ref b] below meth c cells slots Q E A 4 σ τ 1096 [(3, .int (nI (6 * k))), (2, .ref (xad E 81)), (1, .ref (xad E 0)), (0, .ref b)] [] := by
  refine x_aload_n C 2 dL_1096 rfl rfl ?_
  refine x_aload_n C 3 dL_1097 rfl rfl ?_
  refine x_iload_n C 0 dL_1098 rfl rfl ?_
  refine x_iconst C (v := 1) dL_1099 (by decide) ?_
  refine x_iadd C dL_1100 ?_
  refine x_sld C hX hbl hbA (6 * k + 1) (nI_add (6 * k) 1) (by omega) hL dL_1101 ?_
  refine x_aload_n C 3 dL_1102 rfl rfl ?_
  refine x_iload_n C 0 dL_1103 rfl rfl ?_
  refine x_iconst C (v := 2) dL_1104 (by decide) ?_
  refine x_iadd C dL_1105 ?_
  refine x_sld C hX hbl hbA (6 * k + 2) (nI_add (6 * k) 2) (by omega) hL dL_1106 ?_
  refine x_callVo C (As := [.int (xs (6 * k + 1)), .int (xs (6 * k + 2))]) (rest := []) (k_as l E σ τ T hT (xs (6 * k + 1)) (xs (6 * k + 2)) hI) kv_JLeakCupsLaw_146 (x_recv C (Nat.le_of_ble_eq_true rfl) xd_0 rfl) ⟨Nat.le_of_ble_eq_true rfl, Nat.le_of_ble_eq_true rfl⟩ rfl rfl (Nat.le_of_ble_eq_true rfl) dL_1107 (fun r1 σ1 τ1 hp1 => ?_)
  obtain ⟨hr1, hc1, hm1, hv1⟩ := hp1
  have hI1 : Inv (mv σ1) T := by rw [hm1, ← hR]; exact hI
  have hlv1 : ∀ j, j < 12 → σ1 15 j = (xzl 1).getD j 0 := fun j hj => (congrFun hv1 j).trans (hlv j hj)
  refine x_aload_n C 1 dL_1110 rfl rfl ?_
  refine x_aload_n C 3 dL_1111 rfl rfl ?_
  refine x_iload_n C 0 dL_1112 rfl rfl ?_
  refine x_iconst C (v := 1) dL_1113 (by decide) ?_
  refine x_iadd C dL_1114 ?_
  refine x_sld C hX hbl hbA (6 * k + 1) (nI_add (6 * k) 1) (by omega) hL dL_1115 ?_
  refine x_aload_n C 3 dL_1116 rfl rfl ?_
  refine x_iload_n C 0 dL_1117 rfl rfl ?_
  refine x_iconst C (v := 2) dL_1118 (by decide) ?_
  refine x_iadd C dL_1119 ?_
  refine x_sld C hX hbl hbA (6 * k + 2) (nI_add (6 * k) 2) (by omega) hL dL_1120 ?_
  refine x_callVo C (As := [.int (xs (6 * k + 1)), .int (xs (6 * k + 2))]) (rest := [.int r1]) (m_as l E σ1 τ1 T hT (xs (6 * k + 1)) (xs (6 * k + 2)) hI1 hlv1) kv_JLeakCupsLaw_149 (x_recv C (Nat.le_of_ble_eq_true rfl) xd_81 rfl) ⟨Nat.le_of_ble_eq_true rfl, Nat.le_of_ble_eq_true rfl⟩ rfl rfl (Nat.le_of_ble_eq_true rfl) dL_1121 (fun r2 σ2 τ2 hp2 => ?_)
  obtain ⟨hr2, hm2, hc2, hv2⟩ := hp2
  have e : mv σ1 = cv σ := hm1.trans hR.symm
  rw [e] at hr2 hm2
  refine x_icmp_eq C (tgt := 1409) dL_1124 (by decide) (fun _ => ?_) (fun h => absurd (hr1.trans hr2.symm) h)
  exact kk σ2 τ2 (by rw [hc2, hc1, hm2]) (by rw [hc2, hc1]; exact (Inv.up (inv_as hI (xs (6 * k + 1)) (xs (6 * k + 2))) (by omega))) (fun j hj => (congrFun hv2 j).trans (hlv1 j hj))
set_option maxHeartbeats 1000000 in
theorem law_33 {p : Program} {l : Launch} {e : Env} {s : State} {m : MethodId} {below : List Frame} {meth : Method} {c : Code} {cells slots : Nat} {Q : State → Prop} {E : xE} {A : Nat → Prop} {b L : Nat} {xs : Nat → Int32} {σ : Nat → Nat → Int32} {τ : Nat → Int64} {k T : Nat} (C : xC p s m #[Value.ref b] meth c code 4 "LeakCupsLaw" ret E A room_1 cells slots) (hX : va_X b L xs s s.heap) (hbl : b < s.heap.size) (hbA : ¬ A b) (hL : L ≤ 384) (hk : 6 * k + 6 ≤ L) (hT : T < 1073741824) (hR : cv σ = mv σ) (hI : Inv (cv σ) T) (hlv : Lkeep σ) (kk : ∀ (σ' : Nat → Nat → Int32) (τ' : Nat → Int64), cv σ' = mv σ' → Inv (cv σ') (T + 600) → Lkeep σ' → WM p l e room_1 s m #[Value.ref b] below meth c cells slots Q E A 4 σ' τ' 1409 [(3, .int (nI (6 * k))), (2, .ref (xad E 81)), (1, .ref (xad E 0)), (0, .ref b)] []) : WM p l e room_1 s m #[Value.ref b] below meth c cells slots Q E A 4 σ τ 1129 [(3, .int (nI (6 * k))), (2, .ref (xad E 81)), (1, .ref (xad E 0)), (0, .ref b)] [] := by
  refine x_aload_n C 2 dL_1129 rfl rfl ?_
  refine x_aload_n C 3 dL_1130 rfl rfl ?_
  refine x_iload_n C 0 dL_1131 rfl rfl ?_
  refine x_iconst C (v := 1) dL_1132 (by decide) ?_
  refine x_iadd C dL_1133 ?_
  refine x_sld C hX hbl hbA (6 * k + 1) (nI_add (6 * k) 1) (by omega) hL dL_1134 ?_
  refine x_aload_n C 3 dL_1135 rfl rfl ?_
  refine x_iload_n C 0 dL_1136 rfl rfl ?_
  refine x_iconst C (v := 2) dL_1137 (by decide) ?_
  refine x_iadd C dL_1138 ?_
  refine x_sld C hX hbl hbA (6 * k + 2) (nI_add (6 * k) 2) (by omega) hL dL_1139 ?_
  refine x_aload_n C 3 dL_1140 rfl rfl ?_
  refine x_iload_n C 0 dL_1141 rfl rfl ?_
  refine x_iconst C (v := 3) dL_1142 (by decide) ?_
  refine x_iadd C dL_1143 ?_
  refine x_sld C hX hbl hbA (6 * k + 3) (nI_add (6 * k) 3) (by omega) hL dL_1144 ?_
  refine x_callVo C (As := [.int (xs (6 * k + 1)), .int (xs (6 * k + 2)), .int (xs (6 * k + 3))]) (rest := []) (k_sheet l E σ τ T hT (xs (6 * k + 1)) (xs (6 * k + 2)) (xs (6 * k + 3)) hI) kv_JLeakCupsLaw_150 (x_recv C (Nat.le_of_ble_eq_true rfl) xd_0 rfl) ⟨Nat.le_of_ble_eq_true rfl, Nat.le_of_ble_eq_true rfl⟩ rfl rfl (Nat.le_of_ble_eq_true rfl) dL_1145 (fun r1 σ1 τ1 hp1 => ?_)
  obtain ⟨hr1, hc1, hm1, hv1⟩ := hp1
  have hI1 : Inv (mv σ1) T := by rw [hm1, ← hR]; exact hI
  have hlv1 : ∀ j, j < 12 → σ1 15 j = (xzl 1).getD j 0 := fun j hj => (congrFun hv1 j).trans (hlv j hj)
  refine x_aload_n C 1 dL_1148 rfl rfl ?_
  refine x_aload_n C 3 dL_1149 rfl rfl ?_
  refine x_iload_n C 0 dL_1150 rfl rfl ?_
  refine x_iconst C (v := 1) dL_1151 (by decide) ?_
  refine x_iadd C dL_1152 ?_
  refine x_sld C hX hbl hbA (6 * k + 1) (nI_add (6 * k) 1) (by omega) hL dL_1153 ?_
  refine x_aload_n C 3 dL_1154 rfl rfl ?_
  refine x_iload_n C 0 dL_1155 rfl rfl ?_
  refine x_iconst C (v := 2) dL_1156 (by decide) ?_
  refine x_iadd C dL_1157 ?_
  refine x_sld C hX hbl hbA (6 * k + 2) (nI_add (6 * k) 2) (by omega) hL dL_1158 ?_
  refine x_aload_n C 3 dL_1159 rfl rfl ?_
  refine x_iload_n C 0 dL_1160 rfl rfl ?_
  refine x_iconst C (v := 3) dL_1161 (by decide) ?_
  refine x_iadd C dL_1162 ?_
  refine x_sld C hX hbl hbA (6 * k + 3) (nI_add (6 * k) 3) (by omega) hL dL_1163 ?_
  refine x_callVo C (As := [.int (xs (6 * k + 1)), .int (xs (6 * k + 2)), .int (xs (6 * k + 3))]) (rest := [.int r1]) (m_sheet l E σ1 τ1 T hT (xs (6 * k + 1)) (xs (6 * k + 2)) (xs (6 * k + 3)) hI1 hlv1) kv_JLeakCupsLaw_153 (x_recv C (Nat.le_of_ble_eq_true rfl) xd_81 rfl) ⟨Nat.le_of_ble_eq_true rfl, Nat.le_of_ble_eq_true rfl⟩ rfl rfl (Nat.le_of_ble_eq_true rfl) dL_1164 (fun r2 σ2 τ2 hp2 => ?_)
  obtain ⟨hr2, hm2, hc2, hv2⟩ := hp2
  have e : mv σ1 = cv σ := hm1.trans hR.symm
  rw [e] at hr2 hm2
  refine x_icmp_eq C (tgt := 1409) dL_1167 (by decide) (fun _ => ?_) (fun h => absurd (hr1.trans hr2.symm) h)
  exact kk σ2 τ2 (by rw [hc2, hc1, hm2]) (by rw [hc2, hc1]; exact (Inv.up (inv_sheet hI (xs (6 * k + 1)) (xs (6 * k + 2)) (xs (6 * k + 3))) (by omega))) (fun j hj => (congrFun hv2 j).trans (hlv1 j hj))
set_option maxHeartbeats 1000000 in
theorem law_34 {p : Program} {l : Launch} {e : Env} {s : State} {m : MethodId} {below : List Frame} {meth : Method} {c : Code} {cells slots : Nat} {Q : State → Prop} {E : xE} {A : Nat → Prop} {b L : Nat} {xs : Nat → Int32} {σ : Nat → Nat → Int32} {τ : Nat → Int64} {k T : Nat} (C : xC p s m #[Value.ref b] meth c code 4 "LeakCupsLaw" ret E A room_1 cells slots) (hX : va_X b L xs s s.heap) (hbl : b < s.heap.size) (hbA : ¬ A b) (hL : L ≤ 384) (hk : 6 * k + 6 ≤ L) (hT : T < 1073741824) (hR : cv σ = mv σ) (hI : Inv (cv σ) T) (hlv : Lkeep σ) (kk : ∀ (σ' : Nat → Nat → Int32) (τ' : Nat → Int64), cv σ' = mv σ' → Inv (cv σ') (T + 600) → Lkeep σ' → WM p l e room_1 s m #[Value.ref b] below meth c cells slots Q E A 4 σ' τ' 1409 [(3, .int (nI (6 * k))), (2, .ref (xad E 81)), (1, .ref (xad E 0)), (0, .ref b)] []) : WM p l e room_1 s m #[Value.ref b] below meth c cells slots Q E A 4 σ τ 1172 [(3, .int (nI (6 * k))), (2, .ref (xad E 81)), (1, .ref (xad E 0)), (0, .ref b)] [] := by
  refine x_aload_n C 2 dL_1172 rfl rfl ?_
  refine x_aload_n C 3 dL_1173 rfl rfl ?_
  refine x_iload_n C 0 dL_1174 rfl rfl ?_
  refine x_iconst C (v := 1) dL_1175 (by decide) ?_
  refine x_iadd C dL_1176 ?_
  refine x_sld C hX hbl hbA (6 * k + 1) (nI_add (6 * k) 1) (by omega) hL dL_1177 ?_
  refine x_aload_n C 3 dL_1178 rfl rfl ?_
  refine x_iload_n C 0 dL_1179 rfl rfl ?_
  refine x_iconst C (v := 2) dL_1180 (by decide) ?_
  refine x_iadd C dL_1181 ?_
  refine x_sld C hX hbl hbA (6 * k + 2) (nI_add (6 * k) 2) (by omega) hL dL_1182 ?_
  refine x_aload_n C 3 dL_1183 rfl rfl ?_
  refine x_iload_n C 0 dL_1184 rfl rfl ?_
  refine x_iconst C (v := 3) dL_1185 (by decide) ?_
  refine x_iadd C dL_1186 ?_
  refine x_sld C hX hbl hbA (6 * k + 3) (nI_add (6 * k) 3) (by omega) hL dL_1187 ?_
  refine x_callVo C (As := [.int (xs (6 * k + 1)), .int (xs (6 * k + 2)), .int (xs (6 * k + 3))]) (rest := []) (k_write l E σ τ T hT (xs (6 * k + 1)) (xs (6 * k + 2)) (xs (6 * k + 3)) hI) kv_JLeakCupsLaw_154 (x_recv C (Nat.le_of_ble_eq_true rfl) xd_0 rfl) ⟨Nat.le_of_ble_eq_true rfl, Nat.le_of_ble_eq_true rfl⟩ rfl rfl (Nat.le_of_ble_eq_true rfl) dL_1188 (fun r1 σ1 τ1 hp1 => ?_)
  obtain ⟨hr1, hc1, hm1, hv1⟩ := hp1
  have hI1 : Inv (mv σ1) T := by rw [hm1, ← hR]; exact hI
  have hlv1 : ∀ j, j < 12 → σ1 15 j = (xzl 1).getD j 0 := fun j hj => (congrFun hv1 j).trans (hlv j hj)
  refine x_aload_n C 1 dL_1191 rfl rfl ?_
  refine x_aload_n C 3 dL_1192 rfl rfl ?_
  refine x_iload_n C 0 dL_1193 rfl rfl ?_
  refine x_iconst C (v := 1) dL_1194 (by decide) ?_
  refine x_iadd C dL_1195 ?_
  refine x_sld C hX hbl hbA (6 * k + 1) (nI_add (6 * k) 1) (by omega) hL dL_1196 ?_
  refine x_aload_n C 3 dL_1197 rfl rfl ?_
  refine x_iload_n C 0 dL_1198 rfl rfl ?_
  refine x_iconst C (v := 2) dL_1199 (by decide) ?_
  refine x_iadd C dL_1200 ?_
  refine x_sld C hX hbl hbA (6 * k + 2) (nI_add (6 * k) 2) (by omega) hL dL_1201 ?_
  refine x_aload_n C 3 dL_1202 rfl rfl ?_
  refine x_iload_n C 0 dL_1203 rfl rfl ?_
  refine x_iconst C (v := 3) dL_1204 (by decide) ?_
  refine x_iadd C dL_1205 ?_
  refine x_sld C hX hbl hbA (6 * k + 3) (nI_add (6 * k) 3) (by omega) hL dL_1206 ?_
  refine x_callVo C (As := [.int (xs (6 * k + 1)), .int (xs (6 * k + 2)), .int (xs (6 * k + 3))]) (rest := [.int r1]) (m_write l E σ1 τ1 T hT (xs (6 * k + 1)) (xs (6 * k + 2)) (xs (6 * k + 3)) hI1 hlv1) kv_JLeakCupsLaw_157 (x_recv C (Nat.le_of_ble_eq_true rfl) xd_81 rfl) ⟨Nat.le_of_ble_eq_true rfl, Nat.le_of_ble_eq_true rfl⟩ rfl rfl (Nat.le_of_ble_eq_true rfl) dL_1207 (fun r2 σ2 τ2 hp2 => ?_)
  obtain ⟨hr2, hm2, hc2, hv2⟩ := hp2
  have e : mv σ1 = cv σ := hm1.trans hR.symm
  rw [e] at hr2 hm2
  refine x_icmp_eq C (tgt := 1409) dL_1210 (by decide) (fun _ => ?_) (fun h => absurd (hr1.trans hr2.symm) h)
  exact kk σ2 τ2 (by rw [hc2, hc1, hm2]) (by rw [hc2, hc1]; exact (Inv.up (inv_write hI (xs (6 * k + 1)) (xs (6 * k + 2)) (xs (6 * k + 3))) (by omega))) (fun j hj => (congrFun hv2 j).trans (hlv1 j hj))
set_option maxHeartbeats 1000000 in
theorem law_35 {p : Program} {l : Launch} {e : Env} {s : State} {m : MethodId} {below : List Frame} {meth : Method} {c : Code} {cells slots : Nat} {Q : State → Prop} {E : xE} {A : Nat → Prop} {b L : Nat} {xs : Nat → Int32} {σ : Nat → Nat → Int32} {τ : Nat → Int64} {k T : Nat} (C : xC p s m #[Value.ref b] meth c code 4 "LeakCupsLaw" ret E A room_1 cells slots) (hX : va_X b L xs s s.heap) (hbl : b < s.heap.size) (hbA : ¬ A b) (hL : L ≤ 384) (hk : 6 * k + 6 ≤ L) (hT : T < 1073741824) (hR : cv σ = mv σ) (hI : Inv (cv σ) T) (hlv : Lkeep σ) (kk : ∀ (σ' : Nat → Nat → Int32) (τ' : Nat → Int64), cv σ' = mv σ' → Inv (cv σ') (T + 600) → Lkeep σ' → WM p l e room_1 s m #[Value.ref b] below meth c cells slots Q E A 4 σ' τ' 1409 [(3, .int (nI (6 * k))), (2, .ref (xad E 81)), (1, .ref (xad E 0)), (0, .ref b)] []) : WM p l e room_1 s m #[Value.ref b] below meth c cells slots Q E A 4 σ τ 1215 [(3, .int (nI (6 * k))), (2, .ref (xad E 81)), (1, .ref (xad E 0)), (0, .ref b)] [] := by
  refine x_aload_n C 2 dL_1215 rfl rfl ?_
  refine x_aload_n C 3 dL_1216 rfl rfl ?_
  refine x_iload_n C 0 dL_1217 rfl rfl ?_
  refine x_iconst C (v := 1) dL_1218 (by decide) ?_
  refine x_iadd C dL_1219 ?_
  refine x_sld C hX hbl hbA (6 * k + 1) (nI_add (6 * k) 1) (by omega) hL dL_1220 ?_
  refine x_aload_n C 3 dL_1221 rfl rfl ?_
  refine x_iload_n C 0 dL_1222 rfl rfl ?_
  refine x_iconst C (v := 2) dL_1223 (by decide) ?_
  refine x_iadd C dL_1224 ?_
  refine x_sld C hX hbl hbA (6 * k + 2) (nI_add (6 * k) 2) (by omega) hL dL_1225 ?_
  refine x_aload_n C 3 dL_1226 rfl rfl ?_
  refine x_iload_n C 0 dL_1227 rfl rfl ?_
  refine x_iconst C (v := 3) dL_1228 (by decide) ?_
  refine x_iadd C dL_1229 ?_
  refine x_sld C hX hbl hbA (6 * k + 3) (nI_add (6 * k) 3) (by omega) hL dL_1230 ?_
  refine x_aload_n C 3 dL_1231 rfl rfl ?_
  refine x_iload_n C 0 dL_1232 rfl rfl ?_
  refine x_iconst C (v := 4) dL_1233 (by decide) ?_
  refine x_iadd C dL_1234 ?_
  refine x_sld C hX hbl hbA (6 * k + 4) (nI_add (6 * k) 4) (by omega) hL dL_1235 ?_
  refine x_aload_n C 3 dL_1236 rfl rfl ?_
  refine x_iload_n C 0 dL_1237 rfl rfl ?_
  refine x_iconst C (v := 5) dL_1238 (by decide) ?_
  refine x_iadd C dL_1239 ?_
  refine x_sld C hX hbl hbA (6 * k + 5) (nI_add (6 * k) 5) (by omega) hL dL_1240 ?_
  refine x_callVo C (As := [.int (xs (6 * k + 1)), .int (xs (6 * k + 2)), .int (xs (6 * k + 3)), .int (xs (6 * k + 4)), .int (xs (6 * k + 5))]) (rest := []) (k_copy l E σ τ T hT (xs (6 * k + 1)) (xs (6 * k + 2)) (xs (6 * k + 3)) (xs (6 * k + 4)) (xs (6 * k + 5)) hI) kv_JLeakCupsLaw_158 (x_recv C (Nat.le_of_ble_eq_true rfl) xd_0 rfl) ⟨Nat.le_of_ble_eq_true rfl, Nat.le_of_ble_eq_true rfl⟩ rfl rfl (Nat.le_of_ble_eq_true rfl) dL_1241 (fun r1 σ1 τ1 hp1 => ?_)
  obtain ⟨hr1, hc1, hm1, hv1⟩ := hp1
  have hI1 : Inv (mv σ1) T := by rw [hm1, ← hR]; exact hI
  have hlv1 : ∀ j, j < 12 → σ1 15 j = (xzl 1).getD j 0 := fun j hj => (congrFun hv1 j).trans (hlv j hj)
  refine x_aload_n C 1 dL_1244 rfl rfl ?_
  refine x_aload_n C 3 dL_1245 rfl rfl ?_
  refine x_iload_n C 0 dL_1246 rfl rfl ?_
  refine x_iconst C (v := 1) dL_1247 (by decide) ?_
  refine x_iadd C dL_1248 ?_
  refine x_sld C hX hbl hbA (6 * k + 1) (nI_add (6 * k) 1) (by omega) hL dL_1249 ?_
  refine x_aload_n C 3 dL_1250 rfl rfl ?_
  refine x_iload_n C 0 dL_1251 rfl rfl ?_
  refine x_iconst C (v := 2) dL_1252 (by decide) ?_
  refine x_iadd C dL_1253 ?_
  refine x_sld C hX hbl hbA (6 * k + 2) (nI_add (6 * k) 2) (by omega) hL dL_1254 ?_
  refine x_aload_n C 3 dL_1255 rfl rfl ?_
  refine x_iload_n C 0 dL_1256 rfl rfl ?_
  refine x_iconst C (v := 3) dL_1257 (by decide) ?_
  refine x_iadd C dL_1258 ?_
  refine x_sld C hX hbl hbA (6 * k + 3) (nI_add (6 * k) 3) (by omega) hL dL_1259 ?_
  refine x_aload_n C 3 dL_1260 rfl rfl ?_
  refine x_iload_n C 0 dL_1261 rfl rfl ?_
  refine x_iconst C (v := 4) dL_1262 (by decide) ?_
  refine x_iadd C dL_1263 ?_
  refine x_sld C hX hbl hbA (6 * k + 4) (nI_add (6 * k) 4) (by omega) hL dL_1264 ?_
  refine x_aload_n C 3 dL_1265 rfl rfl ?_
  refine x_iload_n C 0 dL_1266 rfl rfl ?_
  refine x_iconst C (v := 5) dL_1267 (by decide) ?_
  refine x_iadd C dL_1268 ?_
  refine x_sld C hX hbl hbA (6 * k + 5) (nI_add (6 * k) 5) (by omega) hL dL_1269 ?_
  refine x_callVo C (As := [.int (xs (6 * k + 1)), .int (xs (6 * k + 2)), .int (xs (6 * k + 3)), .int (xs (6 * k + 4)), .int (xs (6 * k + 5))]) (rest := [.int r1]) (m_copy l E σ1 τ1 T hT (xs (6 * k + 1)) (xs (6 * k + 2)) (xs (6 * k + 3)) (xs (6 * k + 4)) (xs (6 * k + 5)) hI1 hlv1) kv_JLeakCupsLaw_162 (x_recv C (Nat.le_of_ble_eq_true rfl) xd_81 rfl) ⟨Nat.le_of_ble_eq_true rfl, Nat.le_of_ble_eq_true rfl⟩ rfl rfl (Nat.le_of_ble_eq_true rfl) dL_1270 (fun r2 σ2 τ2 hp2 => ?_)
  obtain ⟨hr2, hm2, hc2, hv2⟩ := hp2
  have e : mv σ1 = cv σ := hm1.trans hR.symm
  rw [e] at hr2 hm2
  refine x_icmp_eq C (tgt := 1409) dL_1273 (by decide) (fun _ => ?_) (fun h => absurd (hr1.trans hr2.symm) h)
  exact kk σ2 τ2 (by rw [hc2, hc1, hm2]) (by rw [hc2, hc1]; exact (Inv.up (inv_copy hI (xs (6 * k + 1)) (xs (6 * k + 2)) (xs (6 * k + 3)) (xs (6 * k + 4)) (xs (6 * k + 5))) (by omega))) (fun j hj => (congrFun hv2 j).trans (hlv1 j hj))
set_option maxHeartbeats 1000000 in
theorem law_36 {p : Program} {l : Launch} {e : Env} {s : State} {m : MethodId} {below : List Frame} {meth : Method} {c : Code} {cells slots : Nat} {Q : State → Prop} {E : xE} {A : Nat → Prop} {b L : Nat} {xs : Nat → Int32} {σ : Nat → Nat → Int32} {τ : Nat → Int64} {k T : Nat} (C : xC p s m #[Value.ref b] meth c code 4 "LeakCupsLaw" ret E A room_1 cells slots) (hX : va_X b L xs s s.heap) (hbl : b < s.heap.size) (hbA : ¬ A b) (hL : L ≤ 384) (hk : 6 * k + 6 ≤ L) (hT : T < 1073741824) (hR : cv σ = mv σ) (hI : Inv (cv σ) T) (hlv : Lkeep σ) (kk : ∀ (σ' : Nat → Nat → Int32) (τ' : Nat → Int64), cv σ' = mv σ' → Inv (cv σ') (T + 600) → Lkeep σ' → WM p l e room_1 s m #[Value.ref b] below meth c cells slots Q E A 4 σ' τ' 1409 [(3, .int (nI (6 * k))), (2, .ref (xad E 81)), (1, .ref (xad E 0)), (0, .ref b)] []) : WM p l e room_1 s m #[Value.ref b] below meth c cells slots Q E A 4 σ τ 1278 [(3, .int (nI (6 * k))), (2, .ref (xad E 81)), (1, .ref (xad E 0)), (0, .ref b)] [] := by
  refine x_aload_n C 2 dL_1278 rfl rfl ?_
  refine x_aload_n C 3 dL_1279 rfl rfl ?_
  refine x_iload_n C 0 dL_1280 rfl rfl ?_
  refine x_iconst C (v := 1) dL_1281 (by decide) ?_
  refine x_iadd C dL_1282 ?_
  refine x_sld C hX hbl hbA (6 * k + 1) (nI_add (6 * k) 1) (by omega) hL dL_1283 ?_
  refine x_callVo C (As := [.int (xs (6 * k + 1))]) (rest := []) (k_load l E σ τ T hT (xs (6 * k + 1)) hI) kv_JLeakCupsLaw_163 (x_recv C (Nat.le_of_ble_eq_true rfl) xd_0 rfl) ⟨Nat.le_of_ble_eq_true rfl, Nat.le_of_ble_eq_true rfl⟩ rfl rfl (Nat.le_of_ble_eq_true rfl) dL_1284 (fun r1 σ1 τ1 hp1 => ?_)
  obtain ⟨hr1, hc1, hm1, hv1⟩ := hp1
  have hI1 : Inv (mv σ1) T := by rw [hm1, ← hR]; exact hI
  have hlv1 : ∀ j, j < 12 → σ1 15 j = (xzl 1).getD j 0 := fun j hj => (congrFun hv1 j).trans (hlv j hj)
  refine x_aload_n C 1 dL_1287 rfl rfl ?_
  refine x_aload_n C 3 dL_1288 rfl rfl ?_
  refine x_iload_n C 0 dL_1289 rfl rfl ?_
  refine x_iconst C (v := 1) dL_1290 (by decide) ?_
  refine x_iadd C dL_1291 ?_
  refine x_sld C hX hbl hbA (6 * k + 1) (nI_add (6 * k) 1) (by omega) hL dL_1292 ?_
  refine x_callVo C (As := [.int (xs (6 * k + 1))]) (rest := [.int r1]) (m_load l E σ1 τ1 T hT (xs (6 * k + 1)) hI1 hlv1) kv_JLeakCupsLaw_166 (x_recv C (Nat.le_of_ble_eq_true rfl) xd_81 rfl) ⟨Nat.le_of_ble_eq_true rfl, Nat.le_of_ble_eq_true rfl⟩ rfl rfl (Nat.le_of_ble_eq_true rfl) dL_1293 (fun r2 σ2 τ2 hp2 => ?_)
  obtain ⟨hr2, hm2, hc2, hv2⟩ := hp2
  have e : mv σ1 = cv σ := hm1.trans hR.symm
  rw [e] at hr2 hm2
  refine x_icmp_eq C (tgt := 1409) dL_1296 (by decide) (fun _ => ?_) (fun h => absurd (hr1.trans hr2.symm) h)
  exact kk σ2 τ2 (by rw [hc2, hc1, hm2]) (by rw [hc2, hc1]; exact (Inv.up (inv_load hI (xs (6 * k + 1))) (by omega))) (fun j hj => (congrFun hv2 j).trans (hlv1 j hj))
set_option maxHeartbeats 1000000 in
theorem law_37 {p : Program} {l : Launch} {e : Env} {s : State} {m : MethodId} {below : List Frame} {meth : Method} {c : Code} {cells slots : Nat} {Q : State → Prop} {E : xE} {A : Nat → Prop} {b L : Nat} {xs : Nat → Int32} {σ : Nat → Nat → Int32} {τ : Nat → Int64} {k T : Nat} (C : xC p s m #[Value.ref b] meth c code 4 "LeakCupsLaw" ret E A room_1 cells slots) (hX : va_X b L xs s s.heap) (hbl : b < s.heap.size) (hbA : ¬ A b) (hL : L ≤ 384) (hk : 6 * k + 6 ≤ L) (hT : T < 1073741824) (hR : cv σ = mv σ) (hI : Inv (cv σ) T) (hlv : Lkeep σ) (kk : ∀ (σ' : Nat → Nat → Int32) (τ' : Nat → Int64), cv σ' = mv σ' → Inv (cv σ') (T + 600) → Lkeep σ' → WM p l e room_1 s m #[Value.ref b] below meth c cells slots Q E A 4 σ' τ' 1409 [(3, .int (nI (6 * k))), (2, .ref (xad E 81)), (1, .ref (xad E 0)), (0, .ref b)] []) : WM p l e room_1 s m #[Value.ref b] below meth c cells slots Q E A 4 σ τ 1301 [(3, .int (nI (6 * k))), (2, .ref (xad E 81)), (1, .ref (xad E 0)), (0, .ref b)] [] := by
  refine x_aload_n C 2 dL_1301 rfl rfl ?_
  refine x_aload_n C 3 dL_1302 rfl rfl ?_
  refine x_iload_n C 0 dL_1303 rfl rfl ?_
  refine x_iconst C (v := 1) dL_1304 (by decide) ?_
  refine x_iadd C dL_1305 ?_
  refine x_sld C hX hbl hbA (6 * k + 1) (nI_add (6 * k) 1) (by omega) hL dL_1306 ?_
  refine x_callVo C (As := [.int (xs (6 * k + 1))]) (rest := []) (k_judge l E σ τ T hT (xs (6 * k + 1)) hI) kv_JLeakCupsLaw_167 (x_recv C (Nat.le_of_ble_eq_true rfl) xd_0 rfl) ⟨Nat.le_of_ble_eq_true rfl, Nat.le_of_ble_eq_true rfl⟩ rfl rfl (Nat.le_of_ble_eq_true rfl) dL_1307 (fun r1 σ1 τ1 hp1 => ?_)
  obtain ⟨hr1, hc1, hm1, hv1⟩ := hp1
  have hI1 : Inv (mv σ1) T := by rw [hm1, ← hR]; exact hI
  have hlv1 : ∀ j, j < 12 → σ1 15 j = (xzl 1).getD j 0 := fun j hj => (congrFun hv1 j).trans (hlv j hj)
  refine x_aload_n C 1 dL_1310 rfl rfl ?_
  refine x_aload_n C 3 dL_1311 rfl rfl ?_
  refine x_iload_n C 0 dL_1312 rfl rfl ?_
  refine x_iconst C (v := 1) dL_1313 (by decide) ?_
  refine x_iadd C dL_1314 ?_
  refine x_sld C hX hbl hbA (6 * k + 1) (nI_add (6 * k) 1) (by omega) hL dL_1315 ?_
  refine x_callVo C (As := [.int (xs (6 * k + 1))]) (rest := [.int r1]) (m_judge l E σ1 τ1 T hT (xs (6 * k + 1)) hI1 hlv1) kv_JLeakCupsLaw_170 (x_recv C (Nat.le_of_ble_eq_true rfl) xd_81 rfl) ⟨Nat.le_of_ble_eq_true rfl, Nat.le_of_ble_eq_true rfl⟩ rfl rfl (Nat.le_of_ble_eq_true rfl) dL_1316 (fun r2 σ2 τ2 hp2 => ?_)
  obtain ⟨hr2, hm2, hc2, hv2⟩ := hp2
  have e : mv σ1 = cv σ := hm1.trans hR.symm
  rw [e] at hr2 hm2
  refine x_icmp_eq C (tgt := 1409) dL_1319 (by decide) (fun _ => ?_) (fun h => absurd (hr1.trans hr2.symm) h)
  exact kk σ2 τ2 (by rw [hc2, hc1, hm2]) (by rw [hc2, hc1]; exact (Inv.up (inv_judge hI (xs (6 * k + 1))) (by omega))) (fun j hj => (congrFun hv2 j).trans (hlv1 j hj))
set_option maxHeartbeats 1000000 in
theorem law_38 {p : Program} {l : Launch} {e : Env} {s : State} {m : MethodId} {below : List Frame} {meth : Method} {c : Code} {cells slots : Nat} {Q : State → Prop} {E : xE} {A : Nat → Prop} {b L : Nat} {xs : Nat → Int32} {σ : Nat → Nat → Int32} {τ : Nat → Int64} {k T : Nat} (C : xC p s m #[Value.ref b] meth c code 4 "LeakCupsLaw" ret E A room_1 cells slots) (hX : va_X b L xs s s.heap) (hbl : b < s.heap.size) (hbA : ¬ A b) (hL : L ≤ 384) (hk : 6 * k + 6 ≤ L) (hT : T < 1073741824) (hR : cv σ = mv σ) (hI : Inv (cv σ) T) (hlv : Lkeep σ) (kk : ∀ (σ' : Nat → Nat → Int32) (τ' : Nat → Int64), cv σ' = mv σ' → Inv (cv σ') (T + 600) → Lkeep σ' → WM p l e room_1 s m #[Value.ref b] below meth c cells slots Q E A 4 σ' τ' 1409 [(3, .int (nI (6 * k))), (2, .ref (xad E 81)), (1, .ref (xad E 0)), (0, .ref b)] []) : WM p l e room_1 s m #[Value.ref b] below meth c cells slots Q E A 4 σ τ 1324 [(3, .int (nI (6 * k))), (2, .ref (xad E 81)), (1, .ref (xad E 0)), (0, .ref b)] [] := by
  refine x_aload_n C 2 dL_1324 rfl rfl ?_
  refine x_callVo C (As := []) (rest := []) (k_image l E σ τ T hT hI) kv_JLeakCupsLaw_171 (x_recv C (Nat.le_of_ble_eq_true rfl) xd_0 rfl) ⟨Nat.le_of_ble_eq_true rfl, Nat.le_of_ble_eq_true rfl⟩ rfl rfl (Nat.le_of_ble_eq_true rfl) dL_1325 (fun r1 σ1 τ1 hp1 => ?_)
  obtain ⟨hr1, hc1, hm1, hv1⟩ := hp1
  have hI1 : Inv (mv σ1) T := by rw [hm1, ← hR]; exact hI
  have hlv1 : ∀ j, j < 12 → σ1 15 j = (xzl 1).getD j 0 := fun j hj => (congrFun hv1 j).trans (hlv j hj)
  refine x_aload_n C 1 dL_1328 rfl rfl ?_
  refine x_callVo C (As := []) (rest := [.int r1]) (m_image l E σ1 τ1 T hT hI1 hlv1) kv_JLeakCupsLaw_174 (x_recv C (Nat.le_of_ble_eq_true rfl) xd_81 rfl) ⟨Nat.le_of_ble_eq_true rfl, Nat.le_of_ble_eq_true rfl⟩ rfl rfl (Nat.le_of_ble_eq_true rfl) dL_1329 (fun r2 σ2 τ2 hp2 => ?_)
  obtain ⟨hr2, hm2, hc2, hv2⟩ := hp2
  have e : mv σ1 = cv σ := hm1.trans hR.symm
  rw [e] at hr2 hm2
  refine x_icmp_eq C (tgt := 1409) dL_1332 (by decide) (fun _ => ?_) (fun h => absurd (hr1.trans hr2.symm) h)
  exact kk σ2 τ2 (by rw [hc2, hc1, hm2]) (by rw [hc2, hc1]; exact (Inv.up (inv_image hI) (by omega))) (fun j hj => (congrFun hv2 j).trans (hlv1 j hj))
set_option maxHeartbeats 1000000 in
theorem law_39 {p : Program} {l : Launch} {e : Env} {s : State} {m : MethodId} {below : List Frame} {meth : Method} {c : Code} {cells slots : Nat} {Q : State → Prop} {E : xE} {A : Nat → Prop} {b L : Nat} {xs : Nat → Int32} {σ : Nat → Nat → Int32} {τ : Nat → Int64} {k T : Nat} (C : xC p s m #[Value.ref b] meth c code 4 "LeakCupsLaw" ret E A room_1 cells slots) (hX : va_X b L xs s s.heap) (hbl : b < s.heap.size) (hbA : ¬ A b) (hL : L ≤ 384) (hk : 6 * k + 6 ≤ L) (hT : T < 1073741824) (hR : cv σ = mv σ) (hI : Inv (cv σ) T) (hlv : Lkeep σ) (kk : ∀ (σ' : Nat → Nat → Int32) (τ' : Nat → Int64), cv σ' = mv σ' → Inv (cv σ') (T + 600) → Lkeep σ' → WM p l e room_1 s m #[Value.ref b] below meth c cells slots Q E A 4 σ' τ' 1409 [(3, .int (nI (6 * k))), (2, .ref (xad E 81)), (1, .ref (xad E 0)), (0, .ref b)] []) : WM p l e room_1 s m #[Value.ref b] below meth c cells slots Q E A 4 σ τ 1337 [(3, .int (nI (6 * k))), (2, .ref (xad E 81)), (1, .ref (xad E 0)), (0, .ref b)] [] := by
  refine x_aload_n C 2 dL_1337 rfl rfl ?_
  refine x_callVo C (As := []) (rest := []) (k_undo l E σ τ T hT hI) kv_JLeakCupsLaw_175 (x_recv C (Nat.le_of_ble_eq_true rfl) xd_0 rfl) ⟨Nat.le_of_ble_eq_true rfl, Nat.le_of_ble_eq_true rfl⟩ rfl rfl (Nat.le_of_ble_eq_true rfl) dL_1338 (fun r1 σ1 τ1 hp1 => ?_)
  obtain ⟨hr1, hc1, hm1, hv1⟩ := hp1
  have hI1 : Inv (mv σ1) T := by rw [hm1, ← hR]; exact hI
  have hlv1 : ∀ j, j < 12 → σ1 15 j = (xzl 1).getD j 0 := fun j hj => (congrFun hv1 j).trans (hlv j hj)
  refine x_aload_n C 1 dL_1341 rfl rfl ?_
  refine x_callVo C (As := []) (rest := [.int r1]) (m_undo l E σ1 τ1 T hT hI1 hlv1) kv_JLeakCupsLaw_178 (x_recv C (Nat.le_of_ble_eq_true rfl) xd_81 rfl) ⟨Nat.le_of_ble_eq_true rfl, Nat.le_of_ble_eq_true rfl⟩ rfl rfl (Nat.le_of_ble_eq_true rfl) dL_1342 (fun r2 σ2 τ2 hp2 => ?_)
  obtain ⟨hr2, hm2, hc2, hv2⟩ := hp2
  have e : mv σ1 = cv σ := hm1.trans hR.symm
  rw [e] at hr2 hm2
  refine x_icmp_eq C (tgt := 1409) dL_1345 (by decide) (fun _ => ?_) (fun h => absurd (hr1.trans hr2.symm) h)
  exact kk σ2 τ2 (by rw [hc2, hc1, hm2]) (by rw [hc2, hc1]; exact (Inv.up (inv_undo hI) (by omega))) (fun j hj => (congrFun hv2 j).trans (hlv1 j hj))
set_option maxHeartbeats 1000000 in
theorem law_40 {p : Program} {l : Launch} {e : Env} {s : State} {m : MethodId} {below : List Frame} {meth : Method} {c : Code} {cells slots : Nat} {Q : State → Prop} {E : xE} {A : Nat → Prop} {b L : Nat} {xs : Nat → Int32} {σ : Nat → Nat → Int32} {τ : Nat → Int64} {k T : Nat} (C : xC p s m #[Value.ref b] meth c code 4 "LeakCupsLaw" ret E A room_1 cells slots) (hX : va_X b L xs s s.heap) (hbl : b < s.heap.size) (hbA : ¬ A b) (hL : L ≤ 384) (hk : 6 * k + 6 ≤ L) (hT : T < 1073741824) (hR : cv σ = mv σ) (hI : Inv (cv σ) T) (hlv : Lkeep σ) (kk : ∀ (σ' : Nat → Nat → Int32) (τ' : Nat → Int64), cv σ' = mv σ' → Inv (cv σ') (T + 600) → Lkeep σ' → WM p l e room_1 s m #[Value.ref b] below meth c cells slots Q E A 4 σ' τ' 1409 [(3, .int (nI (6 * k))), (2, .ref (xad E 81)), (1, .ref (xad E 0)), (0, .ref b)] []) : WM p l e room_1 s m #[Value.ref b] below meth c cells slots Q E A 4 σ τ 1350 [(3, .int (nI (6 * k))), (2, .ref (xad E 81)), (1, .ref (xad E 0)), (0, .ref b)] [] := by
  refine x_aload_n C 2 dL_1350 rfl rfl ?_
  refine x_callVo C (As := []) (rest := []) (k_tear l E σ τ T hT hI) kv_JLeakCupsLaw_179 (x_recv C (Nat.le_of_ble_eq_true rfl) xd_0 rfl) ⟨Nat.le_of_ble_eq_true rfl, Nat.le_of_ble_eq_true rfl⟩ rfl rfl (Nat.le_of_ble_eq_true rfl) dL_1351 (fun r1 σ1 τ1 hp1 => ?_)
  obtain ⟨hr1, hc1, hm1, hv1⟩ := hp1
  have hI1 : Inv (mv σ1) T := by rw [hm1, ← hR]; exact hI
  have hlv1 : ∀ j, j < 12 → σ1 15 j = (xzl 1).getD j 0 := fun j hj => (congrFun hv1 j).trans (hlv j hj)
  refine x_aload_n C 1 dL_1354 rfl rfl ?_
  refine x_callVo C (As := []) (rest := [.int r1]) (m_tear l E σ1 τ1 T hT hI1 hlv1) kv_JLeakCupsLaw_182 (x_recv C (Nat.le_of_ble_eq_true rfl) xd_81 rfl) ⟨Nat.le_of_ble_eq_true rfl, Nat.le_of_ble_eq_true rfl⟩ rfl rfl (Nat.le_of_ble_eq_true rfl) dL_1355 (fun r2 σ2 τ2 hp2 => ?_)
  obtain ⟨hr2, hm2, hc2, hv2⟩ := hp2
  have e : mv σ1 = cv σ := hm1.trans hR.symm
  rw [e] at hr2 hm2
  refine x_icmp_eq C (tgt := 1409) dL_1358 (by decide) (fun _ => ?_) (fun h => absurd (hr1.trans hr2.symm) h)
  exact kk σ2 τ2 (by rw [hc2, hc1, hm2]) (by rw [hc2, hc1]; exact (Inv.up (inv_tear hI) (by omega))) (fun j hj => (congrFun hv2 j).trans (hlv1 j hj))
set_option maxHeartbeats 1000000 in
theorem law_41 {p : Program} {l : Launch} {e : Env} {s : State} {m : MethodId} {below : List Frame} {meth : Method} {c : Code} {cells slots : Nat} {Q : State → Prop} {E : xE} {A : Nat → Prop} {b L : Nat} {xs : Nat → Int32} {σ : Nat → Nat → Int32} {τ : Nat → Int64} {k T : Nat} (C : xC p s m #[Value.ref b] meth c code 4 "LeakCupsLaw" ret E A room_1 cells slots) (hX : va_X b L xs s s.heap) (hbl : b < s.heap.size) (hbA : ¬ A b) (hL : L ≤ 384) (hk : 6 * k + 6 ≤ L) (hT : T < 1073741824) (hR : cv σ = mv σ) (hI : Inv (cv σ) T) (hlv : Lkeep σ) (kk : ∀ (σ' : Nat → Nat → Int32) (τ' : Nat → Int64), cv σ' = mv σ' → Inv (cv σ') (T + 600) → Lkeep σ' → WM p l e room_1 s m #[Value.ref b] below meth c cells slots Q E A 4 σ' τ' 1409 [(3, .int (nI (6 * k))), (2, .ref (xad E 81)), (1, .ref (xad E 0)), (0, .ref b)] []) : WM p l e room_1 s m #[Value.ref b] below meth c cells slots Q E A 4 σ τ 1363 [(3, .int (nI (6 * k))), (2, .ref (xad E 81)), (1, .ref (xad E 0)), (0, .ref b)] [] := by
  refine x_aload_n C 2 dL_1363 rfl rfl ?_
  refine x_aload_n C 3 dL_1364 rfl rfl ?_
  refine x_iload_n C 0 dL_1365 rfl rfl ?_
  refine x_iconst C (v := 1) dL_1366 (by decide) ?_
  refine x_iadd C dL_1367 ?_
  refine x_sld C hX hbl hbA (6 * k + 1) (nI_add (6 * k) 1) (by omega) hL dL_1368 ?_
  refine x_callVo C (As := [.int (xs (6 * k + 1))]) (rest := []) (k_count l E σ τ T hT (xs (6 * k + 1)) hI) kv_JLeakCupsLaw_183 (x_recv C (Nat.le_of_ble_eq_true rfl) xd_0 rfl) ⟨Nat.le_of_ble_eq_true rfl, Nat.le_of_ble_eq_true rfl⟩ rfl rfl (Nat.le_of_ble_eq_true rfl) dL_1369 (fun r1 σ1 τ1 hp1 => ?_)
  obtain ⟨hr1, hc1, hm1, hv1⟩ := hp1
  have hI1 : Inv (mv σ1) T := by rw [hm1, ← hR]; exact hI
  have hlv1 : ∀ j, j < 12 → σ1 15 j = (xzl 1).getD j 0 := fun j hj => (congrFun hv1 j).trans (hlv j hj)
  refine x_aload_n C 1 dL_1372 rfl rfl ?_
  refine x_aload_n C 3 dL_1373 rfl rfl ?_
  refine x_iload_n C 0 dL_1374 rfl rfl ?_
  refine x_iconst C (v := 1) dL_1375 (by decide) ?_
  refine x_iadd C dL_1376 ?_
  refine x_sld C hX hbl hbA (6 * k + 1) (nI_add (6 * k) 1) (by omega) hL dL_1377 ?_
  refine x_callVo C (As := [.int (xs (6 * k + 1))]) (rest := [.int r1]) (m_count l E σ1 τ1 T hT (xs (6 * k + 1)) hI1 hlv1) kv_JLeakCupsLaw_186 (x_recv C (Nat.le_of_ble_eq_true rfl) xd_81 rfl) ⟨Nat.le_of_ble_eq_true rfl, Nat.le_of_ble_eq_true rfl⟩ rfl rfl (Nat.le_of_ble_eq_true rfl) dL_1378 (fun r2 σ2 τ2 hp2 => ?_)
  obtain ⟨hr2, hm2, hc2, hv2⟩ := hp2
  have e : mv σ1 = cv σ := hm1.trans hR.symm
  rw [e] at hr2 hm2
  refine x_icmp_eq C (tgt := 1409) dL_1381 (by decide) (fun _ => ?_) (fun h => absurd (hr1.trans hr2.symm) h)
  exact kk σ2 τ2 (by rw [hc2, hc1, hm2]) (by rw [hc2, hc1]; exact (Inv.up (inv_count hI (xs (6 * k + 1))) (by omega))) (fun j hj => (congrFun hv2 j).trans (hlv1 j hj))
set_option maxHeartbeats 1000000 in
theorem law_42 {p : Program} {l : Launch} {e : Env} {s : State} {m : MethodId} {below : List Frame} {meth : Method} {c : Code} {cells slots : Nat} {Q : State → Prop} {E : xE} {A : Nat → Prop} {b L : Nat} {xs : Nat → Int32} {σ : Nat → Nat → Int32} {τ : Nat → Int64} {k T : Nat} (C : xC p s m #[Value.ref b] meth c code 4 "LeakCupsLaw" ret E A room_1 cells slots) (hX : va_X b L xs s s.heap) (hbl : b < s.heap.size) (hbA : ¬ A b) (hL : L ≤ 384) (hk : 6 * k + 6 ≤ L) (hT : T < 1073741824) (hR : cv σ = mv σ) (hI : Inv (cv σ) T) (hlv : Lkeep σ) (kk : ∀ (σ' : Nat → Nat → Int32) (τ' : Nat → Int64), cv σ' = mv σ' → Inv (cv σ') (T + 600) → Lkeep σ' → WM p l e room_1 s m #[Value.ref b] below meth c cells slots Q E A 4 σ' τ' 1409 [(3, .int (nI (6 * k))), (2, .ref (xad E 81)), (1, .ref (xad E 0)), (0, .ref b)] []) : WM p l e room_1 s m #[Value.ref b] below meth c cells slots Q E A 4 σ τ 1386 [(3, .int (nI (6 * k))), (2, .ref (xad E 81)), (1, .ref (xad E 0)), (0, .ref b)] [] := by
  refine x_aload_n C 2 dL_1386 rfl rfl ?_
  refine x_aload_n C 3 dL_1387 rfl rfl ?_
  refine x_iload_n C 0 dL_1388 rfl rfl ?_
  refine x_iconst C (v := 1) dL_1389 (by decide) ?_
  refine x_iadd C dL_1390 ?_
  refine x_sld C hX hbl hbA (6 * k + 1) (nI_add (6 * k) 1) (by omega) hL dL_1391 ?_
  refine x_callVo C (As := [.int (xs (6 * k + 1))]) (rest := []) (k_status l E σ τ T hT (xs (6 * k + 1)) hI) kv_JLeakCupsLaw_187 (x_recv C (Nat.le_of_ble_eq_true rfl) xd_0 rfl) ⟨Nat.le_of_ble_eq_true rfl, Nat.le_of_ble_eq_true rfl⟩ rfl rfl (Nat.le_of_ble_eq_true rfl) dL_1392 (fun r1 σ1 τ1 hp1 => ?_)
  obtain ⟨hr1, hc1, hm1, hv1⟩ := hp1
  have hI1 : Inv (mv σ1) T := by rw [hm1, ← hR]; exact hI
  have hlv1 : ∀ j, j < 12 → σ1 15 j = (xzl 1).getD j 0 := fun j hj => (congrFun hv1 j).trans (hlv j hj)
  refine x_aload_n C 1 dL_1395 rfl rfl ?_
  refine x_aload_n C 3 dL_1396 rfl rfl ?_
  refine x_iload_n C 0 dL_1397 rfl rfl ?_
  refine x_iconst C (v := 1) dL_1398 (by decide) ?_
  refine x_iadd C dL_1399 ?_
  refine x_sld C hX hbl hbA (6 * k + 1) (nI_add (6 * k) 1) (by omega) hL dL_1400 ?_
  refine x_callVo C (As := [.int (xs (6 * k + 1))]) (rest := [.int r1]) (m_status l E σ1 τ1 T hT (xs (6 * k + 1)) hI1 hlv1) kv_JLeakCupsLaw_190 (x_recv C (Nat.le_of_ble_eq_true rfl) xd_81 rfl) ⟨Nat.le_of_ble_eq_true rfl, Nat.le_of_ble_eq_true rfl⟩ rfl rfl (Nat.le_of_ble_eq_true rfl) dL_1401 (fun r2 σ2 τ2 hp2 => ?_)
  obtain ⟨hr2, hm2, hc2, hv2⟩ := hp2
  have e : mv σ1 = cv σ := hm1.trans hR.symm
  rw [e] at hr2 hm2
  refine x_icmp_eq C (tgt := 1409) dL_1404 (by decide) (fun _ => ?_) (fun h => absurd (hr1.trans hr2.symm) h)
  exact kk σ2 τ2 (by rw [hc2, hc1, hm2]) (by rw [hc2, hc1]; exact (Inv.up (inv_status hI (xs (6 * k + 1))) (by omega))) (fun j hj => (congrFun hv2 j).trans (hlv1 j hj))
