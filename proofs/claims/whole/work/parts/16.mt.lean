/-! What the tables say of calls, classes and constants. Written by prog/gen_tables.py. -/
def xt_mtq (e : (Nat × Nat) × (Nat × Nat)) : Prop :=
  (e.2.1 = 0 → e.2.2 < xt_N ∧ Jvm.Cond.methodLink (xt_cn e.1.1) e.1.2 (xt_nm e.2.2) ∈ xt_G ∧ Jvm.Cond.instanceMethod (xt_nm e.2.2) ∈ xt_G ∧ Jvm.Cond.selects (xt_nm e.2.2).cls (xt_nm e.2.2) (xt_nm e.2.2) ∈ xt_G ∧ Jvm.Cond.initialized (xt_nm e.2.2).cls ∈ xt_G ∧ ∃ row : vw_C, xt_cs[xt_oc e.2.2]? = some row ∧ row.1 = (xt_nm e.2.2).cls) ∧
  (e.2.1 = 1 → Jvm.Cond.methodLink (xt_cn e.1.1) e.1.2 objectInit ∈ xt_G ∧ Jvm.Cond.instanceMethod objectInit ∈ xt_G ∧ Jvm.Cond.code objectInit ⟨#[0xb1]⟩ 1 none ∈ xt_G) ∧
  (e.2.1 = 2 → Jvm.Cond.methodLink (xt_cn e.1.1) e.1.2 Lib.Math.max.name ∈ xt_G ∧ Jvm.Cond.static Lib.Math.max.name ∈ xt_G ∧ Jvm.Cond.initialized "java/lang/Math" ∈ xt_G ∧ Jvm.Cond.code Lib.Math.max.name Lib.Math.max.code 2 (some .int) ∈ xt_G) ∧
  (e.2.1 = 3 → Jvm.Cond.methodLink (xt_cn e.1.1) e.1.2 Lib.Math.min.name ∈ xt_G ∧ Jvm.Cond.static Lib.Math.min.name ∈ xt_G ∧ Jvm.Cond.initialized "java/lang/Math" ∈ xt_G ∧ Jvm.Cond.code Lib.Math.min.name Lib.Math.min.code 2 (some .int) ∈ xt_G) ∧
  (e.2.1 = 4 → Jvm.Cond.methodLink (xt_cn e.1.1) e.1.2 arraycopyName ∈ xt_G ∧ Jvm.Cond.native arraycopyName ∈ xt_G ∧ Jvm.Cond.static arraycopyName ∈ xt_G ∧ Jvm.Cond.initialized "java/lang/System" ∈ xt_G) ∧
  (e.2.1 = 6 → e.2.2 < xt_N ∧ Jvm.Cond.methodLink (xt_cn e.1.1) e.1.2 (xt_nm e.2.2) ∈ xt_G ∧ Jvm.Cond.static (xt_nm e.2.2) ∈ xt_G ∧ Jvm.Cond.initialized (xt_nm e.2.2).cls ∈ xt_G) ∧
  (e.2.1 = 5 ∨ e.2.1 = 7 → e.2.2 < xt_N ∧ xt_rt e.2.2 = none ∧ (xt_nm e.2.2).name = "<init>" ∧ Jvm.Cond.instanceMethod (xt_nm e.2.2) ∈ xt_G ∧ Jvm.Cond.initialized (xt_nm e.2.2).cls ∈ xt_G ∧ (Jvm.Cond.methodLink (xt_cn e.1.1) e.1.2 (xt_nm e.2.2) ∈ xt_G ∨ ∃ host : String, Jvm.Cond.methodLinkNest (xt_cn e.1.1) e.1.2 (xt_nm e.2.2) host ∈ xt_nw))
theorem xt_mt0 {o i b : Nat} (h1 : b < xt_N) (w1 : Jvm.Cond.methodLink (xt_cn o) i (xt_nm b) ∈ xt_G) (w2 : Jvm.Cond.instanceMethod (xt_nm b) ∈ xt_G) (w3 : Jvm.Cond.selects (xt_nm b).cls (xt_nm b) (xt_nm b) ∈ xt_G) (w4 : Jvm.Cond.initialized (xt_nm b).cls ∈ xt_G) (w5 : ∃ row : vw_C, xt_cs[xt_oc b]? = some row ∧ row.1 = (xt_nm b).cls) : xt_mtq ((o, i), (0, b)) :=
  ⟨fun _ => ⟨h1, w1, w2, w3, w4, w5⟩, fun h => (by cases h), fun h => (by cases h), fun h => (by cases h), fun h => (by cases h), fun h => (by cases h), fun h => (by rcases h with h | h <;> cases h)⟩
theorem xt_mt1 {o i b : Nat} (w1 : Jvm.Cond.methodLink (xt_cn o) i objectInit ∈ xt_G) (w2 : Jvm.Cond.instanceMethod objectInit ∈ xt_G) (w3 : Jvm.Cond.code objectInit ⟨#[0xb1]⟩ 1 none ∈ xt_G) : xt_mtq ((o, i), (1, b)) :=
  ⟨fun h => (by cases h), fun _ => ⟨w1, w2, w3⟩, fun h => (by cases h), fun h => (by cases h), fun h => (by cases h), fun h => (by cases h), fun h => (by rcases h with h | h <;> cases h)⟩
theorem xt_mt2 {o i b : Nat} (w1 : Jvm.Cond.methodLink (xt_cn o) i Lib.Math.max.name ∈ xt_G) (w2 : Jvm.Cond.static Lib.Math.max.name ∈ xt_G) (w3 : Jvm.Cond.initialized "java/lang/Math" ∈ xt_G) (w4 : Jvm.Cond.code Lib.Math.max.name Lib.Math.max.code 2 (some .int) ∈ xt_G) : xt_mtq ((o, i), (2, b)) :=
  ⟨fun h => (by cases h), fun h => (by cases h), fun _ => ⟨w1, w2, w3, w4⟩, fun h => (by cases h), fun h => (by cases h), fun h => (by cases h), fun h => (by rcases h with h | h <;> cases h)⟩
theorem xt_mt3 {o i b : Nat} (w1 : Jvm.Cond.methodLink (xt_cn o) i Lib.Math.min.name ∈ xt_G) (w2 : Jvm.Cond.static Lib.Math.min.name ∈ xt_G) (w3 : Jvm.Cond.initialized "java/lang/Math" ∈ xt_G) (w4 : Jvm.Cond.code Lib.Math.min.name Lib.Math.min.code 2 (some .int) ∈ xt_G) : xt_mtq ((o, i), (3, b)) :=
  ⟨fun h => (by cases h), fun h => (by cases h), fun h => (by cases h), fun _ => ⟨w1, w2, w3, w4⟩, fun h => (by cases h), fun h => (by cases h), fun h => (by rcases h with h | h <;> cases h)⟩
theorem xt_mt4 {o i b : Nat} (w1 : Jvm.Cond.methodLink (xt_cn o) i arraycopyName ∈ xt_G) (w2 : Jvm.Cond.native arraycopyName ∈ xt_G) (w3 : Jvm.Cond.static arraycopyName ∈ xt_G) (w4 : Jvm.Cond.initialized "java/lang/System" ∈ xt_G) : xt_mtq ((o, i), (4, b)) :=
  ⟨fun h => (by cases h), fun h => (by cases h), fun h => (by cases h), fun h => (by cases h), fun _ => ⟨w1, w2, w3, w4⟩, fun h => (by cases h), fun h => (by rcases h with h | h <;> cases h)⟩
theorem xt_mt6 {o i b : Nat} (h1 : b < xt_N) (w1 : Jvm.Cond.methodLink (xt_cn o) i (xt_nm b) ∈ xt_G) (w2 : Jvm.Cond.static (xt_nm b) ∈ xt_G) (w4 : Jvm.Cond.initialized (xt_nm b).cls ∈ xt_G) : xt_mtq ((o, i), (6, b)) :=
  ⟨fun h => (by cases h), fun h => (by cases h), fun h => (by cases h), fun h => (by cases h), fun h => (by cases h), fun _ => ⟨h1, w1, w2, w4⟩, fun h => (by rcases h with h | h <;> cases h)⟩
theorem xt_mt7 {o i a b : Nat} (ha : a = 5 ∨ a = 7) (h1 : b < xt_N) (h2 : xt_rt b = none) (h3 : (xt_nm b).name = "<init>") (w2 : Jvm.Cond.instanceMethod (xt_nm b) ∈ xt_G) (w4 : Jvm.Cond.initialized (xt_nm b).cls ∈ xt_G) (w1 : Jvm.Cond.methodLink (xt_cn o) i (xt_nm b) ∈ xt_G ∨ ∃ host : String, Jvm.Cond.methodLinkNest (xt_cn o) i (xt_nm b) host ∈ xt_nw) : xt_mtq ((o, i), (a, b)) := by
  refine ⟨fun h => ?_, fun h => ?_, fun h => ?_, fun h => ?_, fun h => ?_, fun h => ?_, fun _ => ⟨h1, h2, h3, w2, w4, w1⟩⟩ <;> (exfalso; have h : a = _ := h; omega)
set_option maxRecDepth 100000 in
theorem xt_me0 : xt_mtq ((0, 1), (1, 0)) := xt_mt1 (xt_gm 337 (by rfl)) (xt_gm 338 (by rfl)) (xt_gx 0 (by rfl))
set_option maxRecDepth 100000 in
theorem xt_me1 : xt_mtq ((0, 9), (7, 32)) := xt_mt7 (Or.inr rfl) (by decide) rfl rfl (xt_gm 339 (by rfl)) (xt_gm 340 (by rfl)) (Or.inl (xt_gm 341 (by rfl)))
set_option maxRecDepth 100000 in
theorem xt_me2 : xt_mtq ((0, 20), (7, 115)) := xt_mt7 (Or.inr rfl) (by decide) rfl rfl (xt_gm 342 (by rfl)) (xt_gm 343 (by rfl)) (Or.inl (xt_gm 344 (by rfl)))
set_option maxRecDepth 100000 in
theorem xt_me3 : xt_mtq ((0, 27), (7, 35)) := xt_mt7 (Or.inr rfl) (by decide) rfl rfl (xt_gm 345 (by rfl)) (xt_gm 346 (by rfl)) (Or.inl (xt_gm 347 (by rfl)))
set_option maxRecDepth 100000 in
theorem xt_me4 : xt_mtq ((0, 34), (5, 50)) := xt_mt7 (Or.inl rfl) (by decide) rfl rfl (xt_gm 348 (by rfl)) (xt_gm 349 (by rfl)) (Or.inr ⟨_, List.mem_of_getElem? (i := 0) (by rfl)⟩)
set_option maxRecDepth 100000 in
theorem xt_me5 : xt_mtq ((0, 41), (7, 81)) := xt_mt7 (Or.inr rfl) (by decide) rfl rfl (xt_gm 350 (by rfl)) (xt_gm 351 (by rfl)) (Or.inl (xt_gm 352 (by rfl)))
set_option maxRecDepth 100000 in
theorem xt_me6 : xt_mtq ((0, 54), (7, 97)) := xt_mt7 (Or.inr rfl) (by decide) rfl rfl (xt_gm 353 (by rfl)) (xt_gm 354 (by rfl)) (Or.inl (xt_gm 355 (by rfl)))
set_option maxRecDepth 100000 in
theorem xt_me7 : xt_mtq ((0, 57), (0, 39)) := xt_mt0 (by decide) (xt_gm 356 (by rfl)) (xt_gm 357 (by rfl)) (xt_gm 358 (by rfl)) (xt_gm 346 (by rfl)) ⟨_, rfl, rfl⟩
set_option maxRecDepth 100000 in
theorem xt_me8 : xt_mtq ((0, 61), (0, 40)) := xt_mt0 (by decide) (xt_gm 359 (by rfl)) (xt_gm 360 (by rfl)) (xt_gm 361 (by rfl)) (xt_gm 346 (by rfl)) ⟨_, rfl, rfl⟩
set_option maxRecDepth 100000 in
theorem xt_me9 : xt_mtq ((0, 65), (0, 41)) := xt_mt0 (by decide) (xt_gm 362 (by rfl)) (xt_gm 363 (by rfl)) (xt_gm 364 (by rfl)) (xt_gm 346 (by rfl)) ⟨_, rfl, rfl⟩
set_option maxRecDepth 100000 in
theorem xt_me10 : xt_mtq ((0, 69), (0, 44)) := xt_mt0 (by decide) (xt_gm 365 (by rfl)) (xt_gm 366 (by rfl)) (xt_gm 367 (by rfl)) (xt_gm 346 (by rfl)) ⟨_, rfl, rfl⟩
set_option maxRecDepth 100000 in
theorem xt_me11 : xt_mtq ((0, 73), (0, 53)) := xt_mt0 (by decide) (xt_gm 368 (by rfl)) (xt_gm 369 (by rfl)) (xt_gm 370 (by rfl)) (xt_gm 349 (by rfl)) ⟨_, rfl, rfl⟩
set_option maxRecDepth 100000 in
theorem xt_me12 : xt_mtq ((0, 76), (0, 57)) := xt_mt0 (by decide) (xt_gm 371 (by rfl)) (xt_gm 372 (by rfl)) (xt_gm 373 (by rfl)) (xt_gm 349 (by rfl)) ⟨_, rfl, rfl⟩
set_option maxRecDepth 100000 in
theorem xt_me13 : xt_mtq ((0, 79), (0, 54)) := xt_mt0 (by decide) (xt_gm 374 (by rfl)) (xt_gm 375 (by rfl)) (xt_gm 376 (by rfl)) (xt_gm 349 (by rfl)) ⟨_, rfl, rfl⟩
set_option maxRecDepth 100000 in
theorem xt_me14 : xt_mtq ((0, 82), (0, 38)) := xt_mt0 (by decide) (xt_gm 377 (by rfl)) (xt_gm 378 (by rfl)) (xt_gm 379 (by rfl)) (xt_gm 346 (by rfl)) ⟨_, rfl, rfl⟩
set_option maxRecDepth 100000 in
theorem xt_me15 : xt_mtq ((0, 86), (0, 99)) := xt_mt0 (by decide) (xt_gm 380 (by rfl)) (xt_gm 381 (by rfl)) (xt_gm 382 (by rfl)) (xt_gm 354 (by rfl)) ⟨_, rfl, rfl⟩
set_option maxRecDepth 100000 in
theorem xt_me16 : xt_mtq ((0, 89), (0, 116)) := xt_mt0 (by decide) (xt_gm 383 (by rfl)) (xt_gm 384 (by rfl)) (xt_gm 385 (by rfl)) (xt_gm 343 (by rfl)) ⟨_, rfl, rfl⟩
set_option maxRecDepth 100000 in
theorem xt_me17 : xt_mtq ((0, 92), (0, 118)) := xt_mt0 (by decide) (xt_gm 386 (by rfl)) (xt_gm 387 (by rfl)) (xt_gm 388 (by rfl)) (xt_gm 343 (by rfl)) ⟨_, rfl, rfl⟩
set_option maxRecDepth 100000 in
theorem xt_me18 : xt_mtq ((0, 96), (0, 18)) := xt_mt0 (by decide) (xt_gm 389 (by rfl)) (xt_gm 390 (by rfl)) (xt_gm 391 (by rfl)) (xt_gm 392 (by rfl)) ⟨_, rfl, rfl⟩
set_option maxRecDepth 100000 in
theorem xt_me19 : xt_mtq ((0, 106), (0, 120)) := xt_mt0 (by decide) (xt_gm 393 (by rfl)) (xt_gm 394 (by rfl)) (xt_gm 395 (by rfl)) (xt_gm 343 (by rfl)) ⟨_, rfl, rfl⟩
set_option maxRecDepth 100000 in
theorem xt_me20 : xt_mtq ((0, 115), (0, 101)) := xt_mt0 (by decide) (xt_gm 396 (by rfl)) (xt_gm 397 (by rfl)) (xt_gm 398 (by rfl)) (xt_gm 354 (by rfl)) ⟨_, rfl, rfl⟩
set_option maxRecDepth 100000 in
theorem xt_me21 : xt_mtq ((0, 118), (0, 84)) := xt_mt0 (by decide) (xt_gm 399 (by rfl)) (xt_gm 400 (by rfl)) (xt_gm 401 (by rfl)) (xt_gm 351 (by rfl)) ⟨_, rfl, rfl⟩
set_option maxRecDepth 100000 in
theorem xt_me22 : xt_mtq ((0, 124), (0, 83)) := xt_mt0 (by decide) (xt_gm 402 (by rfl)) (xt_gm 403 (by rfl)) (xt_gm 404 (by rfl)) (xt_gm 351 (by rfl)) ⟨_, rfl, rfl⟩
set_option maxRecDepth 100000 in
theorem xt_me23 : xt_mtq ((0, 132), (0, 76)) := xt_mt0 (by decide) (xt_gm 405 (by rfl)) (xt_gm 406 (by rfl)) (xt_gm 407 (by rfl)) (xt_gm 408 (by rfl)) ⟨_, rfl, rfl⟩
set_option maxRecDepth 100000 in
theorem xt_me24 : xt_mtq ((0, 135), (0, 102)) := xt_mt0 (by decide) (xt_gm 409 (by rfl)) (xt_gm 410 (by rfl)) (xt_gm 411 (by rfl)) (xt_gm 354 (by rfl)) ⟨_, rfl, rfl⟩
set_option maxRecDepth 100000 in
theorem xt_me25 : xt_mtq ((0, 140), (0, 68)) := xt_mt0 (by decide) (xt_gm 412 (by rfl)) (xt_gm 413 (by rfl)) (xt_gm 414 (by rfl)) (xt_gm 415 (by rfl)) ⟨_, rfl, rfl⟩
set_option maxRecDepth 100000 in
theorem xt_me26 : xt_mtq ((0, 145), (6, 36)) := xt_mt6 (by decide) (xt_gm 416 (by rfl)) (xt_gm 417 (by rfl)) (xt_gm 346 (by rfl))
set_option maxRecDepth 100000 in
theorem xt_me27 : xt_mtq ((0, 152), (0, 31)) := xt_mt0 (by decide) (xt_gm 418 (by rfl)) (xt_gm 419 (by rfl)) (xt_gm 420 (by rfl)) (xt_gm 421 (by rfl)) ⟨_, rfl, rfl⟩
set_option maxRecDepth 100000 in
theorem xt_me28 : xt_mtq ((0, 164), (0, 75)) := xt_mt0 (by decide) (xt_gm 422 (by rfl)) (xt_gm 423 (by rfl)) (xt_gm 424 (by rfl)) (xt_gm 408 (by rfl)) ⟨_, rfl, rfl⟩
set_option maxRecDepth 100000 in
theorem xt_me29 : xt_mtq ((0, 174), (0, 46)) := xt_mt0 (by decide) (xt_gm 425 (by rfl)) (xt_gm 426 (by rfl)) (xt_gm 427 (by rfl)) (xt_gm 346 (by rfl)) ⟨_, rfl, rfl⟩
set_option maxRecDepth 100000 in
theorem xt_me30 : xt_mtq ((0, 177), (0, 119)) := xt_mt0 (by decide) (xt_gm 428 (by rfl)) (xt_gm 429 (by rfl)) (xt_gm 430 (by rfl)) (xt_gm 343 (by rfl)) ⟨_, rfl, rfl⟩
set_option maxRecDepth 100000 in
theorem xt_me31 : xt_mtq ((0, 181), (0, 82)) := xt_mt0 (by decide) (xt_gm 431 (by rfl)) (xt_gm 432 (by rfl)) (xt_gm 433 (by rfl)) (xt_gm 351 (by rfl)) ⟨_, rfl, rfl⟩
set_option maxRecDepth 100000 in
theorem xt_me32 : xt_mtq ((0, 184), (0, 19)) := xt_mt0 (by decide) (xt_gm 434 (by rfl)) (xt_gm 435 (by rfl)) (xt_gm 436 (by rfl)) (xt_gm 392 (by rfl)) ⟨_, rfl, rfl⟩
set_option maxRecDepth 100000 in
theorem xt_me33 : xt_mtq ((0, 187), (0, 100)) := xt_mt0 (by decide) (xt_gm 437 (by rfl)) (xt_gm 438 (by rfl)) (xt_gm 439 (by rfl)) (xt_gm 354 (by rfl)) ⟨_, rfl, rfl⟩
set_option maxRecDepth 100000 in
theorem xt_me34 : xt_mtq ((0, 191), (0, 45)) := xt_mt0 (by decide) (xt_gm 440 (by rfl)) (xt_gm 441 (by rfl)) (xt_gm 442 (by rfl)) (xt_gm 346 (by rfl)) ⟨_, rfl, rfl⟩
set_option maxRecDepth 100000 in
theorem xt_me35 : xt_mtq ((0, 194), (0, 20)) := xt_mt0 (by decide) (xt_gm 443 (by rfl)) (xt_gm 444 (by rfl)) (xt_gm 445 (by rfl)) (xt_gm 392 (by rfl)) ⟨_, rfl, rfl⟩
set_option maxRecDepth 100000 in
theorem xt_me36 : xt_mtq ((0, 197), (0, 117)) := xt_mt0 (by decide) (xt_gm 446 (by rfl)) (xt_gm 447 (by rfl)) (xt_gm 448 (by rfl)) (xt_gm 343 (by rfl)) ⟨_, rfl, rfl⟩
set_option maxRecDepth 100000 in
theorem xt_me37 : xt_mtq ((0, 201), (0, 98)) := xt_mt0 (by decide) (xt_gm 449 (by rfl)) (xt_gm 450 (by rfl)) (xt_gm 451 (by rfl)) (xt_gm 354 (by rfl)) ⟨_, rfl, rfl⟩
set_option maxRecDepth 100000 in
theorem xt_me38 : xt_mtq ((1, 3), (1, 0)) := xt_mt1 (xt_gm 452 (by rfl)) (xt_gm 338 (by rfl)) (xt_gx 0 (by rfl))
set_option maxRecDepth 100000 in
theorem xt_me39 : xt_mtq ((1, 37), (6, 174)) := xt_mt6 (by decide) (xt_gm 453 (by rfl)) (xt_gm 454 (by rfl)) (xt_gm 455 (by rfl))
set_option maxRecDepth 100000 in
theorem xt_me40 : xt_mtq ((1, 49), (0, 23)) := xt_mt0 (by decide) (xt_gm 456 (by rfl)) (xt_gm 457 (by rfl)) (xt_gm 458 (by rfl)) (xt_gm 421 (by rfl)) ⟨_, rfl, rfl⟩
set_option maxRecDepth 100000 in
theorem xt_me41 : xt_mtq ((1, 53), (0, 24)) := xt_mt0 (by decide) (xt_gm 459 (by rfl)) (xt_gm 460 (by rfl)) (xt_gm 461 (by rfl)) (xt_gm 421 (by rfl)) ⟨_, rfl, rfl⟩
set_option maxRecDepth 100000 in
theorem xt_me42 : xt_mtq ((1, 56), (0, 25)) := xt_mt0 (by decide) (xt_gm 462 (by rfl)) (xt_gm 463 (by rfl)) (xt_gm 464 (by rfl)) (xt_gm 421 (by rfl)) ⟨_, rfl, rfl⟩
set_option maxRecDepth 100000 in
theorem xt_me43 : xt_mtq ((1, 60), (0, 43)) := xt_mt0 (by decide) (xt_gm 465 (by rfl)) (xt_gm 466 (by rfl)) (xt_gm 467 (by rfl)) (xt_gm 346 (by rfl)) ⟨_, rfl, rfl⟩
set_option maxRecDepth 100000 in
theorem xt_me44 : xt_mtq ((2, 1), (1, 0)) := xt_mt1 (xt_gm 468 (by rfl)) (xt_gm 338 (by rfl)) (xt_gx 0 (by rfl))
set_option maxRecDepth 100000 in
theorem xt_me45 : xt_mtq ((2, 7), (6, 33)) := xt_mt6 (by decide) (xt_gm 469 (by rfl)) (xt_gm 470 (by rfl)) (xt_gm 340 (by rfl))
set_option maxRecDepth 100000 in
theorem xt_me46 : xt_mtq ((2, 25), (3, 0)) := xt_mt3 (xt_gm 471 (by rfl)) (xt_gm 472 (by rfl)) (xt_gm 473 (by rfl)) (xt_gx 2 (by rfl))
set_option maxRecDepth 100000 in
theorem xt_me47 : xt_mtq ((2, 31), (2, 0)) := xt_mt2 (xt_gm 474 (by rfl)) (xt_gm 475 (by rfl)) (xt_gm 473 (by rfl)) (xt_gx 1 (by rfl))
set_option maxRecDepth 100000 in
theorem xt_me48 : xt_mtq ((3, 5), (1, 0)) := xt_mt1 (xt_gm 476 (by rfl)) (xt_gm 338 (by rfl)) (xt_gx 0 (by rfl))
set_option maxRecDepth 100000 in
theorem xt_me49 : xt_mtq ((3, 28), (6, 174)) := xt_mt6 (by decide) (xt_gm 477 (by rfl)) (xt_gm 454 (by rfl)) (xt_gm 455 (by rfl))
set_option maxRecDepth 100000 in
theorem xt_me50 : xt_mtq ((3, 38), (6, 37)) := xt_mt6 (by decide) (xt_gm 478 (by rfl)) (xt_gm 479 (by rfl)) (xt_gm 346 (by rfl))
set_option maxRecDepth 100000 in
theorem xt_me51 : xt_mtq ((3, 42), (0, 38)) := xt_mt0 (by decide) (xt_gm 480 (by rfl)) (xt_gm 378 (by rfl)) (xt_gm 379 (by rfl)) (xt_gm 346 (by rfl)) ⟨_, rfl, rfl⟩
set_option maxRecDepth 100000 in
theorem xt_me52 : xt_mtq ((3, 45), (0, 43)) := xt_mt0 (by decide) (xt_gm 481 (by rfl)) (xt_gm 466 (by rfl)) (xt_gm 467 (by rfl)) (xt_gm 346 (by rfl)) ⟨_, rfl, rfl⟩
set_option maxRecDepth 100000 in
theorem xt_me53 : xt_mtq ((3, 49), (0, 42)) := xt_mt0 (by decide) (xt_gm 482 (by rfl)) (xt_gm 483 (by rfl)) (xt_gm 484 (by rfl)) (xt_gm 346 (by rfl)) ⟨_, rfl, rfl⟩
set_option maxRecDepth 100000 in
theorem xt_me54 : xt_mtq ((3, 53), (6, 36)) := xt_mt6 (by decide) (xt_gm 485 (by rfl)) (xt_gm 417 (by rfl)) (xt_gm 346 (by rfl))
set_option maxRecDepth 100000 in
theorem xt_me55 : xt_mtq ((4, 1), (1, 0)) := xt_mt1 (xt_gm 486 (by rfl)) (xt_gm 338 (by rfl)) (xt_gx 0 (by rfl))
set_option maxRecDepth 100000 in
theorem xt_me56 : xt_mtq ((4, 28), (6, 51)) := xt_mt6 (by decide) (xt_gm 487 (by rfl)) (xt_gm 488 (by rfl)) (xt_gm 349 (by rfl))
set_option maxRecDepth 100000 in
theorem xt_me57 : xt_mtq ((4, 32), (6, 52)) := xt_mt6 (by decide) (xt_gm 489 (by rfl)) (xt_gm 490 (by rfl)) (xt_gm 349 (by rfl))
set_option maxRecDepth 100000 in
theorem xt_me58 : xt_mtq ((4, 36), (3, 0)) := xt_mt3 (xt_gm 491 (by rfl)) (xt_gm 472 (by rfl)) (xt_gm 473 (by rfl)) (xt_gx 2 (by rfl))
set_option maxRecDepth 100000 in
theorem xt_me59 : xt_mtq ((4, 42), (0, 74)) := xt_mt0 (by decide) (xt_gm 492 (by rfl)) (xt_gm 493 (by rfl)) (xt_gm 494 (by rfl)) (xt_gm 408 (by rfl)) ⟨_, rfl, rfl⟩
set_option maxRecDepth 100000 in
theorem xt_me60 : xt_mtq ((5, 7), (1, 0)) := xt_mt1 (xt_gm 495 (by rfl)) (xt_gm 338 (by rfl)) (xt_gx 0 (by rfl))
set_option maxRecDepth 100000 in
theorem xt_me61 : xt_mtq ((5, 50), (0, 58)) := xt_mt0 (by decide) (xt_gm 496 (by rfl)) (xt_gm 497 (by rfl)) (xt_gm 498 (by rfl)) (xt_gm 349 (by rfl)) ⟨_, rfl, rfl⟩
set_option maxRecDepth 100000 in
theorem xt_me62 : xt_mtq ((5, 57), (0, 71)) := xt_mt0 (by decide) (xt_gm 499 (by rfl)) (xt_gm 500 (by rfl)) (xt_gm 501 (by rfl)) (xt_gm 415 (by rfl)) ⟨_, rfl, rfl⟩
set_option maxRecDepth 100000 in
theorem xt_me63 : xt_mtq ((5, 60), (0, 72)) := xt_mt0 (by decide) (xt_gm 502 (by rfl)) (xt_gm 503 (by rfl)) (xt_gm 504 (by rfl)) (xt_gm 415 (by rfl)) ⟨_, rfl, rfl⟩
set_option maxRecDepth 100000 in
theorem xt_me64 : xt_mtq ((5, 70), (0, 70)) := xt_mt0 (by decide) (xt_gm 505 (by rfl)) (xt_gm 506 (by rfl)) (xt_gm 507 (by rfl)) (xt_gm 415 (by rfl)) ⟨_, rfl, rfl⟩
set_option maxRecDepth 100000 in
theorem xt_me65 : xt_mtq ((5, 74), (0, 117)) := xt_mt0 (by decide) (xt_gm 508 (by rfl)) (xt_gm 447 (by rfl)) (xt_gm 448 (by rfl)) (xt_gm 343 (by rfl)) ⟨_, rfl, rfl⟩
set_option maxRecDepth 100000 in
theorem xt_me66 : xt_mtq ((5, 86), (0, 67)) := xt_mt0 (by decide) (xt_gm 509 (by rfl)) (xt_gm 510 (by rfl)) (xt_gm 511 (by rfl)) (xt_gm 415 (by rfl)) ⟨_, rfl, rfl⟩
set_option maxRecDepth 100000 in
theorem xt_me67 : xt_mtq ((5, 90), (0, 69)) := xt_mt0 (by decide) (xt_gm 512 (by rfl)) (xt_gm 513 (by rfl)) (xt_gm 514 (by rfl)) (xt_gm 415 (by rfl)) ⟨_, rfl, rfl⟩
set_option maxRecDepth 100000 in
theorem xt_me68 : xt_mtq ((5, 93), (0, 61)) := xt_mt0 (by decide) (xt_gm 515 (by rfl)) (xt_gm 516 (by rfl)) (xt_gm 517 (by rfl)) (xt_gm 415 (by rfl)) ⟨_, rfl, rfl⟩
set_option maxRecDepth 100000 in
theorem xt_me69 : xt_mtq ((5, 112), (6, 52)) := xt_mt6 (by decide) (xt_gm 518 (by rfl)) (xt_gm 490 (by rfl)) (xt_gm 349 (by rfl))
set_option maxRecDepth 100000 in
theorem xt_me70 : xt_mtq ((6, 3), (1, 0)) := xt_mt1 (xt_gm 519 (by rfl)) (xt_gm 338 (by rfl)) (xt_gx 0 (by rfl))
set_option maxRecDepth 100000 in
theorem xt_me71 : xt_mtq ((6, 15), (4, 0)) := xt_mt4 (xt_gm 520 (by rfl)) (xt_gm 521 (by rfl)) (xt_gm 522 (by rfl)) (xt_gm 523 (by rfl))
set_option maxRecDepth 100000 in
theorem xt_me72 : xt_mtq ((7, 1), (1, 0)) := xt_mt1 (xt_gm 524 (by rfl)) (xt_gm 338 (by rfl)) (xt_gx 0 (by rfl))
set_option maxRecDepth 100000 in
theorem xt_me73 : xt_mtq ((7, 23), (0, 79)) := xt_mt0 (by decide) (xt_gm 525 (by rfl)) (xt_gm 526 (by rfl)) (xt_gm 527 (by rfl)) (xt_gm 528 (by rfl)) ⟨_, rfl, rfl⟩
set_option maxRecDepth 100000 in
theorem xt_me74 : xt_mtq ((7, 27), (0, 80)) := xt_mt0 (by decide) (xt_gm 529 (by rfl)) (xt_gm 530 (by rfl)) (xt_gm 531 (by rfl)) (xt_gm 528 (by rfl)) ⟨_, rfl, rfl⟩
set_option maxRecDepth 100000 in
theorem xt_me75 : xt_mtq ((8, 3), (1, 0)) := xt_mt1 (xt_gm 532 (by rfl)) (xt_gm 338 (by rfl)) (xt_gx 0 (by rfl))
set_option maxRecDepth 100000 in
theorem xt_me76 : xt_mtq ((8, 21), (5, 77)) := xt_mt7 (Or.inl rfl) (by decide) rfl rfl (xt_gm 533 (by rfl)) (xt_gm 528 (by rfl)) (Or.inr ⟨_, List.mem_of_getElem? (i := 1) (by rfl)⟩)
set_option maxRecDepth 100000 in
theorem xt_me77 : xt_mtq ((8, 44), (7, 21)) := xt_mt7 (Or.inr rfl) (by decide) rfl rfl (xt_gm 534 (by rfl)) (xt_gm 421 (by rfl)) (Or.inl (xt_gm 535 (by rfl)))
set_option maxRecDepth 100000 in
theorem xt_me78 : xt_mtq ((8, 51), (5, 114)) := xt_mt7 (Or.inl rfl) (by decide) rfl rfl (xt_gm 536 (by rfl)) (xt_gm 537 (by rfl)) (Or.inr ⟨_, List.mem_of_getElem? (i := 2) (by rfl)⟩)
set_option maxRecDepth 100000 in
theorem xt_me79 : xt_mtq ((8, 58), (0, 85)) := xt_mt0 (by decide) (xt_gm 538 (by rfl)) (xt_gm 539 (by rfl)) (xt_gm 540 (by rfl)) (xt_gm 351 (by rfl)) ⟨_, rfl, rfl⟩
set_option maxRecDepth 100000 in
theorem xt_me80 : xt_mtq ((8, 62), (0, 89)) := xt_mt0 (by decide) (xt_gm 541 (by rfl)) (xt_gm 542 (by rfl)) (xt_gm 543 (by rfl)) (xt_gm 351 (by rfl)) ⟨_, rfl, rfl⟩
set_option maxRecDepth 100000 in
theorem xt_me81 : xt_mtq ((8, 65), (0, 92)) := xt_mt0 (by decide) (xt_gm 544 (by rfl)) (xt_gm 545 (by rfl)) (xt_gm 546 (by rfl)) (xt_gm 351 (by rfl)) ⟨_, rfl, rfl⟩
set_option maxRecDepth 100000 in
theorem xt_me82 : xt_mtq ((8, 68), (0, 93)) := xt_mt0 (by decide) (xt_gm 547 (by rfl)) (xt_gm 548 (by rfl)) (xt_gm 549 (by rfl)) (xt_gm 351 (by rfl)) ⟨_, rfl, rfl⟩
set_option maxRecDepth 100000 in
theorem xt_me83 : xt_mtq ((8, 71), (0, 94)) := xt_mt0 (by decide) (xt_gm 550 (by rfl)) (xt_gm 551 (by rfl)) (xt_gm 552 (by rfl)) (xt_gm 351 (by rfl)) ⟨_, rfl, rfl⟩
set_option maxRecDepth 100000 in
theorem xt_me84 : xt_mtq ((8, 74), (0, 22)) := xt_mt0 (by decide) (xt_gm 553 (by rfl)) (xt_gm 554 (by rfl)) (xt_gm 555 (by rfl)) (xt_gm 421 (by rfl)) ⟨_, rfl, rfl⟩
set_option maxRecDepth 100000 in
theorem xt_me85 : xt_mtq ((8, 94), (0, 27)) := xt_mt0 (by decide) (xt_gm 556 (by rfl)) (xt_gm 557 (by rfl)) (xt_gm 558 (by rfl)) (xt_gm 421 (by rfl)) ⟨_, rfl, rfl⟩
set_option maxRecDepth 100000 in
theorem xt_me86 : xt_mtq ((8, 115), (0, 95)) := xt_mt0 (by decide) (xt_gm 559 (by rfl)) (xt_gm 560 (by rfl)) (xt_gm 561 (by rfl)) (xt_gm 351 (by rfl)) ⟨_, rfl, rfl⟩
set_option maxRecDepth 100000 in
theorem xt_me87 : xt_mtq ((8, 122), (0, 86)) := xt_mt0 (by decide) (xt_gm 562 (by rfl)) (xt_gm 563 (by rfl)) (xt_gm 564 (by rfl)) (xt_gm 351 (by rfl)) ⟨_, rfl, rfl⟩
set_option maxRecDepth 100000 in
theorem xt_me88 : xt_mtq ((8, 126), (0, 87)) := xt_mt0 (by decide) (xt_gm 565 (by rfl)) (xt_gm 566 (by rfl)) (xt_gm 567 (by rfl)) (xt_gm 351 (by rfl)) ⟨_, rfl, rfl⟩
set_option maxRecDepth 100000 in
theorem xt_me89 : xt_mtq ((8, 129), (0, 88)) := xt_mt0 (by decide) (xt_gm 568 (by rfl)) (xt_gm 569 (by rfl)) (xt_gm 570 (by rfl)) (xt_gm 351 (by rfl)) ⟨_, rfl, rfl⟩
set_option maxRecDepth 100000 in
theorem xt_me90 : xt_mtq ((8, 132), (0, 28)) := xt_mt0 (by decide) (xt_gm 571 (by rfl)) (xt_gm 572 (by rfl)) (xt_gm 573 (by rfl)) (xt_gm 421 (by rfl)) ⟨_, rfl, rfl⟩
set_option maxRecDepth 100000 in
theorem xt_me91 : xt_mtq ((8, 138), (0, 96)) := xt_mt0 (by decide) (xt_gm 574 (by rfl)) (xt_gm 575 (by rfl)) (xt_gm 576 (by rfl)) (xt_gm 351 (by rfl)) ⟨_, rfl, rfl⟩
set_option maxRecDepth 100000 in
theorem xt_me92 : xt_mtq ((8, 142), (0, 23)) := xt_mt0 (by decide) (xt_gm 577 (by rfl)) (xt_gm 457 (by rfl)) (xt_gm 458 (by rfl)) (xt_gm 421 (by rfl)) ⟨_, rfl, rfl⟩
set_option maxRecDepth 100000 in
theorem xt_me93 : xt_mtq ((8, 145), (0, 26)) := xt_mt0 (by decide) (xt_gm 578 (by rfl)) (xt_gm 579 (by rfl)) (xt_gm 580 (by rfl)) (xt_gm 421 (by rfl)) ⟨_, rfl, rfl⟩
set_option maxRecDepth 100000 in
theorem xt_me94 : xt_mtq ((8, 149), (0, 42)) := xt_mt0 (by decide) (xt_gm 581 (by rfl)) (xt_gm 483 (by rfl)) (xt_gm 484 (by rfl)) (xt_gm 346 (by rfl)) ⟨_, rfl, rfl⟩
set_option maxRecDepth 100000 in
theorem xt_me95 : xt_mtq ((8, 152), (0, 47)) := xt_mt0 (by decide) (xt_gm 582 (by rfl)) (xt_gm 583 (by rfl)) (xt_gm 584 (by rfl)) (xt_gm 346 (by rfl)) ⟨_, rfl, rfl⟩
set_option maxRecDepth 100000 in
theorem xt_me96 : xt_mtq ((8, 156), (0, 49)) := xt_mt0 (by decide) (xt_gm 585 (by rfl)) (xt_gm 586 (by rfl)) (xt_gm 587 (by rfl)) (xt_gm 346 (by rfl)) ⟨_, rfl, rfl⟩
set_option maxRecDepth 100000 in
theorem xt_me97 : xt_mtq ((8, 159), (0, 48)) := xt_mt0 (by decide) (xt_gm 588 (by rfl)) (xt_gm 589 (by rfl)) (xt_gm 590 (by rfl)) (xt_gm 346 (by rfl)) ⟨_, rfl, rfl⟩
set_option maxRecDepth 100000 in
theorem xt_me98 : xt_mtq ((8, 165), (0, 90)) := xt_mt0 (by decide) (xt_gm 591 (by rfl)) (xt_gm 592 (by rfl)) (xt_gm 593 (by rfl)) (xt_gm 351 (by rfl)) ⟨_, rfl, rfl⟩
set_option maxRecDepth 100000 in
theorem xt_me99 : xt_mtq ((8, 168), (0, 91)) := xt_mt0 (by decide) (xt_gm 594 (by rfl)) (xt_gm 595 (by rfl)) (xt_gm 596 (by rfl)) (xt_gm 351 (by rfl)) ⟨_, rfl, rfl⟩
set_option maxRecDepth 100000 in
theorem xt_me100 : xt_mtq ((8, 171), (0, 29)) := xt_mt0 (by decide) (xt_gm 597 (by rfl)) (xt_gm 598 (by rfl)) (xt_gm 599 (by rfl)) (xt_gm 421 (by rfl)) ⟨_, rfl, rfl⟩
set_option maxRecDepth 100000 in
theorem xt_me101 : xt_mtq ((8, 175), (6, 36)) := xt_mt6 (by decide) (xt_gm 600 (by rfl)) (xt_gm 417 (by rfl)) (xt_gm 346 (by rfl))
set_option maxRecDepth 100000 in
theorem xt_me102 : xt_mtq ((8, 178), (0, 25)) := xt_mt0 (by decide) (xt_gm 601 (by rfl)) (xt_gm 463 (by rfl)) (xt_gm 464 (by rfl)) (xt_gm 421 (by rfl)) ⟨_, rfl, rfl⟩
set_option maxRecDepth 100000 in
theorem xt_me103 : xt_mtq ((8, 181), (0, 24)) := xt_mt0 (by decide) (xt_gm 602 (by rfl)) (xt_gm 460 (by rfl)) (xt_gm 461 (by rfl)) (xt_gm 421 (by rfl)) ⟨_, rfl, rfl⟩
set_option maxRecDepth 100000 in
theorem xt_me104 : xt_mtq ((8, 187), (0, 78)) := xt_mt0 (by decide) (xt_gm 603 (by rfl)) (xt_gm 604 (by rfl)) (xt_gm 605 (by rfl)) (xt_gm 528 (by rfl)) ⟨_, rfl, rfl⟩
set_option maxRecDepth 100000 in
theorem xt_me105 : xt_mtq ((8, 191), (0, 30)) := xt_mt0 (by decide) (xt_gm 606 (by rfl)) (xt_gm 607 (by rfl)) (xt_gm 608 (by rfl)) (xt_gm 421 (by rfl)) ⟨_, rfl, rfl⟩
set_option maxRecDepth 100000 in
theorem xt_me106 : xt_mtq ((8, 195), (0, 55)) := xt_mt0 (by decide) (xt_gm 609 (by rfl)) (xt_gm 610 (by rfl)) (xt_gm 611 (by rfl)) (xt_gm 349 (by rfl)) ⟨_, rfl, rfl⟩
set_option maxRecDepth 100000 in
theorem xt_me107 : xt_mtq ((8, 213), (0, 56)) := xt_mt0 (by decide) (xt_gm 612 (by rfl)) (xt_gm 613 (by rfl)) (xt_gm 614 (by rfl)) (xt_gm 349 (by rfl)) ⟨_, rfl, rfl⟩
set_option maxRecDepth 100000 in
theorem xt_me108 : xt_mtq ((8, 220), (0, 46)) := xt_mt0 (by decide) (xt_gm 615 (by rfl)) (xt_gm 426 (by rfl)) (xt_gm 427 (by rfl)) (xt_gm 346 (by rfl)) ⟨_, rfl, rfl⟩
set_option maxRecDepth 100000 in
theorem xt_me109 : xt_mtq ((8, 223), (0, 117)) := xt_mt0 (by decide) (xt_gm 616 (by rfl)) (xt_gm 447 (by rfl)) (xt_gm 448 (by rfl)) (xt_gm 343 (by rfl)) ⟨_, rfl, rfl⟩
set_option maxRecDepth 100000 in
theorem xt_me110 : xt_mtq ((9, 3), (1, 0)) := xt_mt1 (xt_gm 617 (by rfl)) (xt_gm 338 (by rfl)) (xt_gx 0 (by rfl))
set_option maxRecDepth 100000 in
theorem xt_me111 : xt_mtq ((9, 33), (7, 59)) := xt_mt7 (Or.inr rfl) (by decide) rfl rfl (xt_gm 618 (by rfl)) (xt_gm 415 (by rfl)) (Or.inl (xt_gm 619 (by rfl)))
set_option maxRecDepth 100000 in
theorem xt_me112 : xt_mtq ((9, 46), (0, 60)) := xt_mt0 (by decide) (xt_gm 620 (by rfl)) (xt_gm 621 (by rfl)) (xt_gm 622 (by rfl)) (xt_gm 415 (by rfl)) ⟨_, rfl, rfl⟩
set_option maxRecDepth 100000 in
theorem xt_me113 : xt_mtq ((9, 49), (0, 103)) := xt_mt0 (by decide) (xt_gm 623 (by rfl)) (xt_gm 624 (by rfl)) (xt_gm 625 (by rfl)) (xt_gm 354 (by rfl)) ⟨_, rfl, rfl⟩
set_option maxRecDepth 100000 in
theorem xt_me114 : xt_mtq ((9, 57), (0, 110)) := xt_mt0 (by decide) (xt_gm 626 (by rfl)) (xt_gm 627 (by rfl)) (xt_gm 628 (by rfl)) (xt_gm 354 (by rfl)) ⟨_, rfl, rfl⟩
set_option maxRecDepth 100000 in
theorem xt_me115 : xt_mtq ((9, 61), (0, 111)) := xt_mt0 (by decide) (xt_gm 629 (by rfl)) (xt_gm 630 (by rfl)) (xt_gm 631 (by rfl)) (xt_gm 354 (by rfl)) ⟨_, rfl, rfl⟩
set_option maxRecDepth 100000 in
theorem xt_me116 : xt_mtq ((9, 64), (0, 112)) := xt_mt0 (by decide) (xt_gm 632 (by rfl)) (xt_gm 633 (by rfl)) (xt_gm 634 (by rfl)) (xt_gm 354 (by rfl)) ⟨_, rfl, rfl⟩
set_option maxRecDepth 100000 in
theorem xt_me117 : xt_mtq ((9, 67), (0, 113)) := xt_mt0 (by decide) (xt_gm 635 (by rfl)) (xt_gm 636 (by rfl)) (xt_gm 637 (by rfl)) (xt_gm 354 (by rfl)) ⟨_, rfl, rfl⟩
set_option maxRecDepth 100000 in
theorem xt_me118 : xt_mtq ((9, 70), (0, 98)) := xt_mt0 (by decide) (xt_gm 638 (by rfl)) (xt_gm 450 (by rfl)) (xt_gm 451 (by rfl)) (xt_gm 354 (by rfl)) ⟨_, rfl, rfl⟩
set_option maxRecDepth 100000 in
theorem xt_me119 : xt_mtq ((9, 74), (0, 63)) := xt_mt0 (by decide) (xt_gm 639 (by rfl)) (xt_gm 640 (by rfl)) (xt_gm 641 (by rfl)) (xt_gm 415 (by rfl)) ⟨_, rfl, rfl⟩
set_option maxRecDepth 100000 in
theorem xt_me120 : xt_mtq ((9, 77), (0, 64)) := xt_mt0 (by decide) (xt_gm 642 (by rfl)) (xt_gm 643 (by rfl)) (xt_gm 644 (by rfl)) (xt_gm 415 (by rfl)) ⟨_, rfl, rfl⟩
set_option maxRecDepth 100000 in
theorem xt_me121 : xt_mtq ((9, 88), (0, 107)) := xt_mt0 (by decide) (xt_gm 645 (by rfl)) (xt_gm 646 (by rfl)) (xt_gm 647 (by rfl)) (xt_gm 354 (by rfl)) ⟨_, rfl, rfl⟩
set_option maxRecDepth 100000 in
theorem xt_me122 : xt_mtq ((9, 91), (0, 108)) := xt_mt0 (by decide) (xt_gm 648 (by rfl)) (xt_gm 649 (by rfl)) (xt_gm 650 (by rfl)) (xt_gm 354 (by rfl)) ⟨_, rfl, rfl⟩
set_option maxRecDepth 100000 in
theorem xt_me123 : xt_mtq ((9, 100), (0, 105)) := xt_mt0 (by decide) (xt_gm 651 (by rfl)) (xt_gm 652 (by rfl)) (xt_gm 653 (by rfl)) (xt_gm 354 (by rfl)) ⟨_, rfl, rfl⟩
set_option maxRecDepth 100000 in
theorem xt_me124 : xt_mtq ((9, 103), (0, 109)) := xt_mt0 (by decide) (xt_gm 654 (by rfl)) (xt_gm 655 (by rfl)) (xt_gm 656 (by rfl)) (xt_gm 354 (by rfl)) ⟨_, rfl, rfl⟩
set_option maxRecDepth 100000 in
theorem xt_me125 : xt_mtq ((9, 106), (0, 65)) := xt_mt0 (by decide) (xt_gm 657 (by rfl)) (xt_gm 658 (by rfl)) (xt_gm 659 (by rfl)) (xt_gm 415 (by rfl)) ⟨_, rfl, rfl⟩
set_option maxRecDepth 100000 in
theorem xt_me126 : xt_mtq ((9, 109), (0, 66)) := xt_mt0 (by decide) (xt_gm 660 (by rfl)) (xt_gm 661 (by rfl)) (xt_gm 662 (by rfl)) (xt_gm 415 (by rfl)) ⟨_, rfl, rfl⟩
set_option maxRecDepth 100000 in
theorem xt_me127 : xt_mtq ((9, 119), (0, 67)) := xt_mt0 (by decide) (xt_gm 663 (by rfl)) (xt_gm 510 (by rfl)) (xt_gm 511 (by rfl)) (xt_gm 415 (by rfl)) ⟨_, rfl, rfl⟩
set_option maxRecDepth 100000 in
theorem xt_me128 : xt_mtq ((9, 123), (0, 34)) := xt_mt0 (by decide) (xt_gm 664 (by rfl)) (xt_gm 665 (by rfl)) (xt_gm 666 (by rfl)) (xt_gm 340 (by rfl)) ⟨_, rfl, rfl⟩
set_option maxRecDepth 100000 in
theorem xt_me129 : xt_mtq ((9, 129), (0, 104)) := xt_mt0 (by decide) (xt_gm 667 (by rfl)) (xt_gm 668 (by rfl)) (xt_gm 669 (by rfl)) (xt_gm 354 (by rfl)) ⟨_, rfl, rfl⟩
set_option maxRecDepth 100000 in
theorem xt_me130 : xt_mtq ((9, 132), (0, 62)) := xt_mt0 (by decide) (xt_gm 670 (by rfl)) (xt_gm 671 (by rfl)) (xt_gm 672 (by rfl)) (xt_gm 415 (by rfl)) ⟨_, rfl, rfl⟩
set_option maxRecDepth 100000 in
theorem xt_me131 : xt_mtq ((9, 135), (0, 117)) := xt_mt0 (by decide) (xt_gm 673 (by rfl)) (xt_gm 447 (by rfl)) (xt_gm 448 (by rfl)) (xt_gm 343 (by rfl)) ⟨_, rfl, rfl⟩
set_option maxRecDepth 100000 in
theorem xt_me132 : xt_mtq ((9, 144), (0, 106)) := xt_mt0 (by decide) (xt_gm 674 (by rfl)) (xt_gm 675 (by rfl)) (xt_gm 676 (by rfl)) (xt_gm 354 (by rfl)) ⟨_, rfl, rfl⟩
set_option maxRecDepth 100000 in
theorem xt_me133 : xt_mtq ((9, 148), (0, 61)) := xt_mt0 (by decide) (xt_gm 677 (by rfl)) (xt_gm 516 (by rfl)) (xt_gm 517 (by rfl)) (xt_gm 415 (by rfl)) ⟨_, rfl, rfl⟩
set_option maxRecDepth 100000 in
theorem xt_me134 : xt_mtq ((10, 1), (1, 0)) := xt_mt1 (xt_gm 678 (by rfl)) (xt_gm 338 (by rfl)) (xt_gx 0 (by rfl))
set_option maxRecDepth 100000 in
theorem xt_me135 : xt_mtq ((11, 1), (1, 0)) := xt_mt1 (xt_gm 679 (by rfl)) (xt_gm 338 (by rfl)) (xt_gx 0 (by rfl))
set_option maxRecDepth 100000 in
theorem xt_me136 : xt_mtq ((11, 15), (5, 73)) := xt_mt7 (Or.inl rfl) (by decide) rfl rfl (xt_gm 680 (by rfl)) (xt_gm 408 (by rfl)) (Or.inr ⟨_, List.mem_of_getElem? (i := 3) (by rfl)⟩)
set_option maxRecDepth 100000 in
theorem xt_me137 : xt_mtq ((11, 48), (0, 117)) := xt_mt0 (by decide) (xt_gm 681 (by rfl)) (xt_gm 447 (by rfl)) (xt_gm 448 (by rfl)) (xt_gm 343 (by rfl)) ⟨_, rfl, rfl⟩
set_option maxRecDepth 100000 in
theorem xt_me138 : xt_mtq ((11, 56), (0, 74)) := xt_mt0 (by decide) (xt_gm 682 (by rfl)) (xt_gm 493 (by rfl)) (xt_gm 494 (by rfl)) (xt_gm 408 (by rfl)) ⟨_, rfl, rfl⟩
set_option maxRecDepth 100000 in
theorem xt_me139 : xt_mtq ((11, 60), (0, 119)) := xt_mt0 (by decide) (xt_gm 683 (by rfl)) (xt_gm 429 (by rfl)) (xt_gm 430 (by rfl)) (xt_gm 343 (by rfl)) ⟨_, rfl, rfl⟩
set_option maxRecDepth 100000 in
theorem xt_me140 : xt_mtq ((12, 1), (1, 0)) := xt_mt1 (xt_gm 684 (by rfl)) (xt_gm 338 (by rfl)) (xt_gx 0 (by rfl))
set_option maxRecDepth 100000 in
theorem xt_me141 : xt_mtq ((12, 171), (0, 122)) := xt_mt0 (by decide) (xt_gm 685 (by rfl)) (xt_gm 686 (by rfl)) (xt_gm 687 (by rfl)) (xt_gm 688 (by rfl)) ⟨_, rfl, rfl⟩
set_option maxRecDepth 100000 in
theorem xt_me142 : xt_mtq ((12, 175), (6, 123)) := xt_mt6 (by decide) (xt_gm 689 (by rfl)) (xt_gm 690 (by rfl)) (xt_gm 688 (by rfl))
set_option maxRecDepth 100000 in
theorem xt_me143 : xt_mtq ((12, 178), (6, 124)) := xt_mt6 (by decide) (xt_gm 691 (by rfl)) (xt_gm 692 (by rfl)) (xt_gm 688 (by rfl))
set_option maxRecDepth 100000 in
theorem xt_me144 : xt_mtq ((12, 185), (6, 131)) := xt_mt6 (by decide) (xt_gm 693 (by rfl)) (xt_gm 694 (by rfl)) (xt_gm 688 (by rfl))
set_option maxRecDepth 100000 in
theorem xt_me145 : xt_mtq ((12, 192), (6, 134)) := xt_mt6 (by decide) (xt_gm 695 (by rfl)) (xt_gm 696 (by rfl)) (xt_gm 688 (by rfl))
set_option maxRecDepth 100000 in
theorem xt_me146 : xt_mtq ((12, 195), (0, 136)) := xt_mt0 (by decide) (xt_gm 697 (by rfl)) (xt_gm 698 (by rfl)) (xt_gm 699 (by rfl)) (xt_gm 688 (by rfl)) ⟨_, rfl, rfl⟩
set_option maxRecDepth 100000 in
theorem xt_me147 : xt_mtq ((12, 199), (0, 137)) := xt_mt0 (by decide) (xt_gm 700 (by rfl)) (xt_gm 701 (by rfl)) (xt_gm 702 (by rfl)) (xt_gm 688 (by rfl)) ⟨_, rfl, rfl⟩
set_option maxRecDepth 100000 in
theorem xt_me148 : xt_mtq ((12, 203), (6, 133)) := xt_mt6 (by decide) (xt_gm 703 (by rfl)) (xt_gm 704 (by rfl)) (xt_gm 688 (by rfl))
set_option maxRecDepth 100000 in
theorem xt_me149 : xt_mtq ((12, 206), (0, 140)) := xt_mt0 (by decide) (xt_gm 705 (by rfl)) (xt_gm 706 (by rfl)) (xt_gm 707 (by rfl)) (xt_gm 688 (by rfl)) ⟨_, rfl, rfl⟩
set_option maxRecDepth 100000 in
theorem xt_me150 : xt_mtq ((12, 209), (0, 146)) := xt_mt0 (by decide) (xt_gm 708 (by rfl)) (xt_gm 709 (by rfl)) (xt_gm 710 (by rfl)) (xt_gm 688 (by rfl)) ⟨_, rfl, rfl⟩
set_option maxRecDepth 100000 in
theorem xt_me151 : xt_mtq ((12, 213), (0, 163)) := xt_mt0 (by decide) (xt_gm 711 (by rfl)) (xt_gm 712 (by rfl)) (xt_gm 713 (by rfl)) (xt_gm 688 (by rfl)) ⟨_, rfl, rfl⟩
set_option maxRecDepth 100000 in
theorem xt_me152 : xt_mtq ((12, 216), (0, 164)) := xt_mt0 (by decide) (xt_gm 714 (by rfl)) (xt_gm 715 (by rfl)) (xt_gm 716 (by rfl)) (xt_gm 688 (by rfl)) ⟨_, rfl, rfl⟩
set_option maxRecDepth 100000 in
theorem xt_me153 : xt_mtq ((12, 223), (0, 142)) := xt_mt0 (by decide) (xt_gm 717 (by rfl)) (xt_gm 718 (by rfl)) (xt_gm 719 (by rfl)) (xt_gm 688 (by rfl)) ⟨_, rfl, rfl⟩
set_option maxRecDepth 100000 in
theorem xt_me154 : xt_mtq ((12, 227), (0, 144)) := xt_mt0 (by decide) (xt_gm 720 (by rfl)) (xt_gm 721 (by rfl)) (xt_gm 722 (by rfl)) (xt_gm 688 (by rfl)) ⟨_, rfl, rfl⟩
set_option maxRecDepth 100000 in
theorem xt_me155 : xt_mtq ((12, 230), (0, 147)) := xt_mt0 (by decide) (xt_gm 723 (by rfl)) (xt_gm 724 (by rfl)) (xt_gm 725 (by rfl)) (xt_gm 688 (by rfl)) ⟨_, rfl, rfl⟩
set_option maxRecDepth 100000 in
theorem xt_me156 : xt_mtq ((12, 233), (0, 148)) := xt_mt0 (by decide) (xt_gm 726 (by rfl)) (xt_gm 727 (by rfl)) (xt_gm 728 (by rfl)) (xt_gm 688 (by rfl)) ⟨_, rfl, rfl⟩
set_option maxRecDepth 100000 in
theorem xt_me157 : xt_mtq ((12, 237), (0, 135)) := xt_mt0 (by decide) (xt_gm 729 (by rfl)) (xt_gm 730 (by rfl)) (xt_gm 731 (by rfl)) (xt_gm 688 (by rfl)) ⟨_, rfl, rfl⟩
set_option maxRecDepth 100000 in
theorem xt_me158 : xt_mtq ((12, 240), (0, 152)) := xt_mt0 (by decide) (xt_gm 732 (by rfl)) (xt_gm 733 (by rfl)) (xt_gm 734 (by rfl)) (xt_gm 688 (by rfl)) ⟨_, rfl, rfl⟩
set_option maxRecDepth 100000 in
theorem xt_me159 : xt_mtq ((12, 243), (0, 145)) := xt_mt0 (by decide) (xt_gm 735 (by rfl)) (xt_gm 736 (by rfl)) (xt_gm 737 (by rfl)) (xt_gm 688 (by rfl)) ⟨_, rfl, rfl⟩
set_option maxRecDepth 100000 in
theorem xt_me160 : xt_mtq ((12, 247), (0, 143)) := xt_mt0 (by decide) (xt_gm 738 (by rfl)) (xt_gm 739 (by rfl)) (xt_gm 740 (by rfl)) (xt_gm 688 (by rfl)) ⟨_, rfl, rfl⟩
set_option maxRecDepth 100000 in
theorem xt_me161 : xt_mtq ((12, 250), (0, 151)) := xt_mt0 (by decide) (xt_gm 741 (by rfl)) (xt_gm 742 (by rfl)) (xt_gm 743 (by rfl)) (xt_gm 688 (by rfl)) ⟨_, rfl, rfl⟩
set_option maxRecDepth 100000 in
theorem xt_me162 : xt_mtq ((12, 257), (0, 149)) := xt_mt0 (by decide) (xt_gm 744 (by rfl)) (xt_gm 745 (by rfl)) (xt_gm 746 (by rfl)) (xt_gm 688 (by rfl)) ⟨_, rfl, rfl⟩
set_option maxRecDepth 100000 in
theorem xt_me163 : xt_mtq ((12, 260), (0, 150)) := xt_mt0 (by decide) (xt_gm 747 (by rfl)) (xt_gm 748 (by rfl)) (xt_gm 749 (by rfl)) (xt_gm 688 (by rfl)) ⟨_, rfl, rfl⟩
set_option maxRecDepth 100000 in
theorem xt_me164 : xt_mtq ((12, 266), (0, 157)) := xt_mt0 (by decide) (xt_gm 750 (by rfl)) (xt_gm 751 (by rfl)) (xt_gm 752 (by rfl)) (xt_gm 688 (by rfl)) ⟨_, rfl, rfl⟩
set_option maxRecDepth 100000 in
theorem xt_me165 : xt_mtq ((12, 269), (0, 158)) := xt_mt0 (by decide) (xt_gm 753 (by rfl)) (xt_gm 754 (by rfl)) (xt_gm 755 (by rfl)) (xt_gm 688 (by rfl)) ⟨_, rfl, rfl⟩
set_option maxRecDepth 100000 in
theorem xt_me166 : xt_mtq ((12, 272), (0, 156)) := xt_mt0 (by decide) (xt_gm 756 (by rfl)) (xt_gm 757 (by rfl)) (xt_gm 758 (by rfl)) (xt_gm 688 (by rfl)) ⟨_, rfl, rfl⟩
set_option maxRecDepth 100000 in
theorem xt_me167 : xt_mtq ((12, 275), (0, 159)) := xt_mt0 (by decide) (xt_gm 759 (by rfl)) (xt_gm 760 (by rfl)) (xt_gm 761 (by rfl)) (xt_gm 688 (by rfl)) ⟨_, rfl, rfl⟩
set_option maxRecDepth 100000 in
theorem xt_me168 : xt_mtq ((12, 278), (0, 165)) := xt_mt0 (by decide) (xt_gm 762 (by rfl)) (xt_gm 763 (by rfl)) (xt_gm 764 (by rfl)) (xt_gm 688 (by rfl)) ⟨_, rfl, rfl⟩
set_option maxRecDepth 100000 in
theorem xt_me169 : xt_mtq ((12, 281), (0, 166)) := xt_mt0 (by decide) (xt_gm 765 (by rfl)) (xt_gm 766 (by rfl)) (xt_gm 767 (by rfl)) (xt_gm 688 (by rfl)) ⟨_, rfl, rfl⟩
set_option maxRecDepth 100000 in
theorem xt_me170 : xt_mtq ((12, 285), (0, 160)) := xt_mt0 (by decide) (xt_gm 768 (by rfl)) (xt_gm 769 (by rfl)) (xt_gm 770 (by rfl)) (xt_gm 688 (by rfl)) ⟨_, rfl, rfl⟩
set_option maxRecDepth 100000 in
theorem xt_me171 : xt_mtq ((12, 288), (0, 161)) := xt_mt0 (by decide) (xt_gm 771 (by rfl)) (xt_gm 772 (by rfl)) (xt_gm 773 (by rfl)) (xt_gm 688 (by rfl)) ⟨_, rfl, rfl⟩
set_option maxRecDepth 100000 in
theorem xt_me172 : xt_mtq ((12, 291), (0, 167)) := xt_mt0 (by decide) (xt_gm 774 (by rfl)) (xt_gm 775 (by rfl)) (xt_gm 776 (by rfl)) (xt_gm 688 (by rfl)) ⟨_, rfl, rfl⟩
set_option maxRecDepth 100000 in
theorem xt_me173 : xt_mtq ((12, 294), (0, 168)) := xt_mt0 (by decide) (xt_gm 777 (by rfl)) (xt_gm 778 (by rfl)) (xt_gm 779 (by rfl)) (xt_gm 688 (by rfl)) ⟨_, rfl, rfl⟩
set_option maxRecDepth 100000 in
theorem xt_me174 : xt_mtq ((12, 297), (0, 169)) := xt_mt0 (by decide) (xt_gm 780 (by rfl)) (xt_gm 781 (by rfl)) (xt_gm 782 (by rfl)) (xt_gm 688 (by rfl)) ⟨_, rfl, rfl⟩
set_option maxRecDepth 100000 in
theorem xt_me175 : xt_mtq ((12, 300), (0, 170)) := xt_mt0 (by decide) (xt_gm 783 (by rfl)) (xt_gm 784 (by rfl)) (xt_gm 785 (by rfl)) (xt_gm 688 (by rfl)) ⟨_, rfl, rfl⟩
set_option maxRecDepth 100000 in
theorem xt_me176 : xt_mtq ((14, 9), (6, 175)) := xt_mt6 (by decide) (xt_gm 786 (by rfl)) (xt_gm 787 (by rfl)) (xt_gm 788 (by rfl))
set_option maxRecDepth 100000 in
theorem xt_me177 : xt_mtq ((14, 15), (7, 0)) := xt_mt7 (Or.inr rfl) (by decide) rfl rfl (xt_gm 789 (by rfl)) (xt_gm 392 (by rfl)) (Or.inl (xt_gm 790 (by rfl)))
set_option maxRecDepth 100000 in
theorem xt_me178 : xt_mtq ((14, 20), (7, 121)) := xt_mt7 (Or.inr rfl) (by decide) rfl rfl (xt_gm 791 (by rfl)) (xt_gm 688 (by rfl)) (Or.inl (xt_gm 792 (by rfl)))
set_option maxRecDepth 100000 in
theorem xt_me179 : xt_mtq ((14, 21), (0, 1)) := xt_mt0 (by decide) (xt_gm 793 (by rfl)) (xt_gm 794 (by rfl)) (xt_gm 795 (by rfl)) (xt_gm 392 (by rfl)) ⟨_, rfl, rfl⟩
set_option maxRecDepth 100000 in
theorem xt_me180 : xt_mtq ((14, 25), (0, 125)) := xt_mt0 (by decide) (xt_gm 796 (by rfl)) (xt_gm 797 (by rfl)) (xt_gm 798 (by rfl)) (xt_gm 688 (by rfl)) ⟨_, rfl, rfl⟩
set_option maxRecDepth 100000 in
theorem xt_me181 : xt_mtq ((14, 26), (0, 2)) := xt_mt0 (by decide) (xt_gm 799 (by rfl)) (xt_gm 800 (by rfl)) (xt_gm 801 (by rfl)) (xt_gm 392 (by rfl)) ⟨_, rfl, rfl⟩
set_option maxRecDepth 100000 in
theorem xt_me182 : xt_mtq ((14, 30), (0, 126)) := xt_mt0 (by decide) (xt_gm 802 (by rfl)) (xt_gm 803 (by rfl)) (xt_gm 804 (by rfl)) (xt_gm 688 (by rfl)) ⟨_, rfl, rfl⟩
set_option maxRecDepth 100000 in
theorem xt_me183 : xt_mtq ((14, 31), (0, 3)) := xt_mt0 (by decide) (xt_gm 805 (by rfl)) (xt_gm 806 (by rfl)) (xt_gm 807 (by rfl)) (xt_gm 392 (by rfl)) ⟨_, rfl, rfl⟩
set_option maxRecDepth 100000 in
theorem xt_me184 : xt_mtq ((14, 35), (0, 127)) := xt_mt0 (by decide) (xt_gm 808 (by rfl)) (xt_gm 809 (by rfl)) (xt_gm 810 (by rfl)) (xt_gm 688 (by rfl)) ⟨_, rfl, rfl⟩
set_option maxRecDepth 100000 in
theorem xt_me185 : xt_mtq ((14, 36), (0, 4)) := xt_mt0 (by decide) (xt_gm 811 (by rfl)) (xt_gm 812 (by rfl)) (xt_gm 813 (by rfl)) (xt_gm 392 (by rfl)) ⟨_, rfl, rfl⟩
set_option maxRecDepth 100000 in
theorem xt_me186 : xt_mtq ((14, 40), (0, 128)) := xt_mt0 (by decide) (xt_gm 814 (by rfl)) (xt_gm 815 (by rfl)) (xt_gm 816 (by rfl)) (xt_gm 688 (by rfl)) ⟨_, rfl, rfl⟩
set_option maxRecDepth 100000 in
theorem xt_me187 : xt_mtq ((14, 41), (0, 5)) := xt_mt0 (by decide) (xt_gm 817 (by rfl)) (xt_gm 818 (by rfl)) (xt_gm 819 (by rfl)) (xt_gm 392 (by rfl)) ⟨_, rfl, rfl⟩
set_option maxRecDepth 100000 in
theorem xt_me188 : xt_mtq ((14, 44), (0, 129)) := xt_mt0 (by decide) (xt_gm 820 (by rfl)) (xt_gm 821 (by rfl)) (xt_gm 822 (by rfl)) (xt_gm 688 (by rfl)) ⟨_, rfl, rfl⟩
set_option maxRecDepth 100000 in
theorem xt_me189 : xt_mtq ((14, 45), (0, 6)) := xt_mt0 (by decide) (xt_gm 823 (by rfl)) (xt_gm 824 (by rfl)) (xt_gm 825 (by rfl)) (xt_gm 392 (by rfl)) ⟨_, rfl, rfl⟩
set_option maxRecDepth 100000 in
theorem xt_me190 : xt_mtq ((14, 48), (0, 130)) := xt_mt0 (by decide) (xt_gm 826 (by rfl)) (xt_gm 827 (by rfl)) (xt_gm 828 (by rfl)) (xt_gm 688 (by rfl)) ⟨_, rfl, rfl⟩
set_option maxRecDepth 100000 in
theorem xt_me191 : xt_mtq ((14, 49), (0, 7)) := xt_mt0 (by decide) (xt_gm 829 (by rfl)) (xt_gm 830 (by rfl)) (xt_gm 831 (by rfl)) (xt_gm 392 (by rfl)) ⟨_, rfl, rfl⟩
set_option maxRecDepth 100000 in
theorem xt_me192 : xt_mtq ((14, 52), (0, 132)) := xt_mt0 (by decide) (xt_gm 832 (by rfl)) (xt_gm 833 (by rfl)) (xt_gm 834 (by rfl)) (xt_gm 688 (by rfl)) ⟨_, rfl, rfl⟩
set_option maxRecDepth 100000 in
theorem xt_me193 : xt_mtq ((14, 53), (0, 8)) := xt_mt0 (by decide) (xt_gm 835 (by rfl)) (xt_gm 836 (by rfl)) (xt_gm 837 (by rfl)) (xt_gm 392 (by rfl)) ⟨_, rfl, rfl⟩
set_option maxRecDepth 100000 in
theorem xt_me194 : xt_mtq ((14, 57), (0, 162)) := xt_mt0 (by decide) (xt_gm 838 (by rfl)) (xt_gm 839 (by rfl)) (xt_gm 840 (by rfl)) (xt_gm 688 (by rfl)) ⟨_, rfl, rfl⟩
set_option maxRecDepth 100000 in
theorem xt_me195 : xt_mtq ((14, 58), (0, 9)) := xt_mt0 (by decide) (xt_gm 841 (by rfl)) (xt_gm 842 (by rfl)) (xt_gm 843 (by rfl)) (xt_gm 392 (by rfl)) ⟨_, rfl, rfl⟩
set_option maxRecDepth 100000 in
theorem xt_me196 : xt_mtq ((14, 61), (0, 139)) := xt_mt0 (by decide) (xt_gm 844 (by rfl)) (xt_gm 845 (by rfl)) (xt_gm 846 (by rfl)) (xt_gm 688 (by rfl)) ⟨_, rfl, rfl⟩
set_option maxRecDepth 100000 in
theorem xt_me197 : xt_mtq ((14, 62), (0, 10)) := xt_mt0 (by decide) (xt_gm 847 (by rfl)) (xt_gm 848 (by rfl)) (xt_gm 849 (by rfl)) (xt_gm 392 (by rfl)) ⟨_, rfl, rfl⟩
set_option maxRecDepth 100000 in
theorem xt_me198 : xt_mtq ((14, 65), (0, 138)) := xt_mt0 (by decide) (xt_gm 850 (by rfl)) (xt_gm 851 (by rfl)) (xt_gm 852 (by rfl)) (xt_gm 688 (by rfl)) ⟨_, rfl, rfl⟩
set_option maxRecDepth 100000 in
theorem xt_me199 : xt_mtq ((14, 66), (0, 11)) := xt_mt0 (by decide) (xt_gm 853 (by rfl)) (xt_gm 854 (by rfl)) (xt_gm 855 (by rfl)) (xt_gm 392 (by rfl)) ⟨_, rfl, rfl⟩
set_option maxRecDepth 100000 in
theorem xt_me200 : xt_mtq ((14, 70), (0, 171)) := xt_mt0 (by decide) (xt_gm 856 (by rfl)) (xt_gm 857 (by rfl)) (xt_gm 858 (by rfl)) (xt_gm 688 (by rfl)) ⟨_, rfl, rfl⟩
set_option maxRecDepth 100000 in
theorem xt_me201 : xt_mtq ((14, 71), (0, 12)) := xt_mt0 (by decide) (xt_gm 859 (by rfl)) (xt_gm 860 (by rfl)) (xt_gm 861 (by rfl)) (xt_gm 392 (by rfl)) ⟨_, rfl, rfl⟩
set_option maxRecDepth 100000 in
theorem xt_me202 : xt_mtq ((14, 74), (0, 153)) := xt_mt0 (by decide) (xt_gm 862 (by rfl)) (xt_gm 863 (by rfl)) (xt_gm 864 (by rfl)) (xt_gm 688 (by rfl)) ⟨_, rfl, rfl⟩
set_option maxRecDepth 100000 in
theorem xt_me203 : xt_mtq ((14, 75), (0, 13)) := xt_mt0 (by decide) (xt_gm 865 (by rfl)) (xt_gm 866 (by rfl)) (xt_gm 867 (by rfl)) (xt_gm 392 (by rfl)) ⟨_, rfl, rfl⟩
set_option maxRecDepth 100000 in
theorem xt_me204 : xt_mtq ((14, 79), (0, 141)) := xt_mt0 (by decide) (xt_gm 868 (by rfl)) (xt_gm 869 (by rfl)) (xt_gm 870 (by rfl)) (xt_gm 688 (by rfl)) ⟨_, rfl, rfl⟩
set_option maxRecDepth 100000 in
theorem xt_me205 : xt_mtq ((14, 80), (0, 14)) := xt_mt0 (by decide) (xt_gm 871 (by rfl)) (xt_gm 872 (by rfl)) (xt_gm 873 (by rfl)) (xt_gm 392 (by rfl)) ⟨_, rfl, rfl⟩
set_option maxRecDepth 100000 in
theorem xt_me206 : xt_mtq ((14, 83), (0, 172)) := xt_mt0 (by decide) (xt_gm 874 (by rfl)) (xt_gm 875 (by rfl)) (xt_gm 876 (by rfl)) (xt_gm 688 (by rfl)) ⟨_, rfl, rfl⟩
set_option maxRecDepth 100000 in
theorem xt_me207 : xt_mtq ((14, 84), (0, 15)) := xt_mt0 (by decide) (xt_gm 877 (by rfl)) (xt_gm 878 (by rfl)) (xt_gm 879 (by rfl)) (xt_gm 392 (by rfl)) ⟨_, rfl, rfl⟩
set_option maxRecDepth 100000 in
theorem xt_me208 : xt_mtq ((14, 87), (0, 173)) := xt_mt0 (by decide) (xt_gm 880 (by rfl)) (xt_gm 881 (by rfl)) (xt_gm 882 (by rfl)) (xt_gm 688 (by rfl)) ⟨_, rfl, rfl⟩
set_option maxRecDepth 100000 in
theorem xt_me209 : xt_mtq ((14, 88), (0, 16)) := xt_mt0 (by decide) (xt_gm 883 (by rfl)) (xt_gm 884 (by rfl)) (xt_gm 885 (by rfl)) (xt_gm 392 (by rfl)) ⟨_, rfl, rfl⟩
set_option maxRecDepth 100000 in
theorem xt_me210 : xt_mtq ((14, 91), (0, 154)) := xt_mt0 (by decide) (xt_gm 886 (by rfl)) (xt_gm 887 (by rfl)) (xt_gm 888 (by rfl)) (xt_gm 688 (by rfl)) ⟨_, rfl, rfl⟩
set_option maxRecDepth 100000 in
theorem xt_me211 : xt_mtq ((14, 92), (0, 17)) := xt_mt0 (by decide) (xt_gm 889 (by rfl)) (xt_gm 890 (by rfl)) (xt_gm 891 (by rfl)) (xt_gm 392 (by rfl)) ⟨_, rfl, rfl⟩
set_option maxRecDepth 100000 in
theorem xt_me212 : xt_mtq ((14, 95), (0, 155)) := xt_mt0 (by decide) (xt_gm 892 (by rfl)) (xt_gm 893 (by rfl)) (xt_gm 894 (by rfl)) (xt_gm 688 (by rfl)) ⟨_, rfl, rfl⟩
set_option maxRecDepth 100000 in
theorem xt_mta : ∀ e ∈ xt_mt, xt_mtq e := List.forall_mem_cons.mpr ⟨xt_me0, List.forall_mem_cons.mpr ⟨xt_me1, List.forall_mem_cons.mpr ⟨xt_me2, List.forall_mem_cons.mpr ⟨xt_me3, List.forall_mem_cons.mpr ⟨xt_me4, List.forall_mem_cons.mpr ⟨xt_me5, List.forall_mem_cons.mpr ⟨xt_me6, List.forall_mem_cons.mpr ⟨xt_me7, List.forall_mem_cons.mpr ⟨xt_me8, List.forall_mem_cons.mpr ⟨xt_me9, List.forall_mem_cons.mpr ⟨xt_me10, List.forall_mem_cons.mpr ⟨xt_me11, List.forall_mem_cons.mpr ⟨xt_me12, List.forall_mem_cons.mpr ⟨xt_me13, List.forall_mem_cons.mpr ⟨xt_me14, List.forall_mem_cons.mpr ⟨xt_me15, List.forall_mem_cons.mpr ⟨xt_me16, List.forall_mem_cons.mpr ⟨xt_me17, List.forall_mem_cons.mpr ⟨xt_me18, List.forall_mem_cons.mpr ⟨xt_me19, List.forall_mem_cons.mpr ⟨xt_me20, List.forall_mem_cons.mpr ⟨xt_me21, List.forall_mem_cons.mpr ⟨xt_me22, List.forall_mem_cons.mpr ⟨xt_me23, List.forall_mem_cons.mpr ⟨xt_me24, List.forall_mem_cons.mpr ⟨xt_me25, List.forall_mem_cons.mpr ⟨xt_me26, List.forall_mem_cons.mpr ⟨xt_me27, List.forall_mem_cons.mpr ⟨xt_me28, List.forall_mem_cons.mpr ⟨xt_me29, List.forall_mem_cons.mpr ⟨xt_me30, List.forall_mem_cons.mpr ⟨xt_me31, List.forall_mem_cons.mpr ⟨xt_me32, List.forall_mem_cons.mpr ⟨xt_me33, List.forall_mem_cons.mpr ⟨xt_me34, List.forall_mem_cons.mpr ⟨xt_me35, List.forall_mem_cons.mpr ⟨xt_me36, List.forall_mem_cons.mpr ⟨xt_me37, List.forall_mem_cons.mpr ⟨xt_me38, List.forall_mem_cons.mpr ⟨xt_me39, List.forall_mem_cons.mpr ⟨xt_me40, List.forall_mem_cons.mpr ⟨xt_me41, List.forall_mem_cons.mpr ⟨xt_me42, List.forall_mem_cons.mpr ⟨xt_me43, List.forall_mem_cons.mpr ⟨xt_me44, List.forall_mem_cons.mpr ⟨xt_me45, List.forall_mem_cons.mpr ⟨xt_me46, List.forall_mem_cons.mpr ⟨xt_me47, List.forall_mem_cons.mpr ⟨xt_me48, List.forall_mem_cons.mpr ⟨xt_me49, List.forall_mem_cons.mpr ⟨xt_me50, List.forall_mem_cons.mpr ⟨xt_me51, List.forall_mem_cons.mpr ⟨xt_me52, List.forall_mem_cons.mpr ⟨xt_me53, List.forall_mem_cons.mpr ⟨xt_me54, List.forall_mem_cons.mpr ⟨xt_me55, List.forall_mem_cons.mpr ⟨xt_me56, List.forall_mem_cons.mpr ⟨xt_me57, List.forall_mem_cons.mpr ⟨xt_me58, List.forall_mem_cons.mpr ⟨xt_me59, List.forall_mem_cons.mpr ⟨xt_me60, List.forall_mem_cons.mpr ⟨xt_me61, List.forall_mem_cons.mpr ⟨xt_me62, List.forall_mem_cons.mpr ⟨xt_me63, List.forall_mem_cons.mpr ⟨xt_me64, List.forall_mem_cons.mpr ⟨xt_me65, List.forall_mem_cons.mpr ⟨xt_me66, List.forall_mem_cons.mpr ⟨xt_me67, List.forall_mem_cons.mpr ⟨xt_me68, List.forall_mem_cons.mpr ⟨xt_me69, List.forall_mem_cons.mpr ⟨xt_me70, List.forall_mem_cons.mpr ⟨xt_me71, List.forall_mem_cons.mpr ⟨xt_me72, List.forall_mem_cons.mpr ⟨xt_me73, List.forall_mem_cons.mpr ⟨xt_me74, List.forall_mem_cons.mpr ⟨xt_me75, List.forall_mem_cons.mpr ⟨xt_me76, List.forall_mem_cons.mpr ⟨xt_me77, List.forall_mem_cons.mpr ⟨xt_me78, List.forall_mem_cons.mpr ⟨xt_me79, List.forall_mem_cons.mpr ⟨xt_me80, List.forall_mem_cons.mpr ⟨xt_me81, List.forall_mem_cons.mpr ⟨xt_me82, List.forall_mem_cons.mpr ⟨xt_me83, List.forall_mem_cons.mpr ⟨xt_me84, List.forall_mem_cons.mpr ⟨xt_me85, List.forall_mem_cons.mpr ⟨xt_me86, List.forall_mem_cons.mpr ⟨xt_me87, List.forall_mem_cons.mpr ⟨xt_me88, List.forall_mem_cons.mpr ⟨xt_me89, List.forall_mem_cons.mpr ⟨xt_me90, List.forall_mem_cons.mpr ⟨xt_me91, List.forall_mem_cons.mpr ⟨xt_me92, List.forall_mem_cons.mpr ⟨xt_me93, List.forall_mem_cons.mpr ⟨xt_me94, List.forall_mem_cons.mpr ⟨xt_me95, List.forall_mem_cons.mpr ⟨xt_me96, List.forall_mem_cons.mpr ⟨xt_me97, List.forall_mem_cons.mpr ⟨xt_me98, List.forall_mem_cons.mpr ⟨xt_me99, List.forall_mem_cons.mpr ⟨xt_me100, List.forall_mem_cons.mpr ⟨xt_me101, List.forall_mem_cons.mpr ⟨xt_me102, List.forall_mem_cons.mpr ⟨xt_me103, List.forall_mem_cons.mpr ⟨xt_me104, List.forall_mem_cons.mpr ⟨xt_me105, List.forall_mem_cons.mpr ⟨xt_me106, List.forall_mem_cons.mpr ⟨xt_me107, List.forall_mem_cons.mpr ⟨xt_me108, List.forall_mem_cons.mpr ⟨xt_me109, List.forall_mem_cons.mpr ⟨xt_me110, List.forall_mem_cons.mpr ⟨xt_me111, List.forall_mem_cons.mpr ⟨xt_me112, List.forall_mem_cons.mpr ⟨xt_me113, List.forall_mem_cons.mpr ⟨xt_me114, List.forall_mem_cons.mpr ⟨xt_me115, List.forall_mem_cons.mpr ⟨xt_me116, List.forall_mem_cons.mpr ⟨xt_me117, List.forall_mem_cons.mpr ⟨xt_me118, List.forall_mem_cons.mpr ⟨xt_me119, List.forall_mem_cons.mpr ⟨xt_me120, List.forall_mem_cons.mpr ⟨xt_me121, List.forall_mem_cons.mpr ⟨xt_me122, List.forall_mem_cons.mpr ⟨xt_me123, List.forall_mem_cons.mpr ⟨xt_me124, List.forall_mem_cons.mpr ⟨xt_me125, List.forall_mem_cons.mpr ⟨xt_me126, List.forall_mem_cons.mpr ⟨xt_me127, List.forall_mem_cons.mpr ⟨xt_me128, List.forall_mem_cons.mpr ⟨xt_me129, List.forall_mem_cons.mpr ⟨xt_me130, List.forall_mem_cons.mpr ⟨xt_me131, List.forall_mem_cons.mpr ⟨xt_me132, List.forall_mem_cons.mpr ⟨xt_me133, List.forall_mem_cons.mpr ⟨xt_me134, List.forall_mem_cons.mpr ⟨xt_me135, List.forall_mem_cons.mpr ⟨xt_me136, List.forall_mem_cons.mpr ⟨xt_me137, List.forall_mem_cons.mpr ⟨xt_me138, List.forall_mem_cons.mpr ⟨xt_me139, List.forall_mem_cons.mpr ⟨xt_me140, List.forall_mem_cons.mpr ⟨xt_me141, List.forall_mem_cons.mpr ⟨xt_me142, List.forall_mem_cons.mpr ⟨xt_me143, List.forall_mem_cons.mpr ⟨xt_me144, List.forall_mem_cons.mpr ⟨xt_me145, List.forall_mem_cons.mpr ⟨xt_me146, List.forall_mem_cons.mpr ⟨xt_me147, List.forall_mem_cons.mpr ⟨xt_me148, List.forall_mem_cons.mpr ⟨xt_me149, List.forall_mem_cons.mpr ⟨xt_me150, List.forall_mem_cons.mpr ⟨xt_me151, List.forall_mem_cons.mpr ⟨xt_me152, List.forall_mem_cons.mpr ⟨xt_me153, List.forall_mem_cons.mpr ⟨xt_me154, List.forall_mem_cons.mpr ⟨xt_me155, List.forall_mem_cons.mpr ⟨xt_me156, List.forall_mem_cons.mpr ⟨xt_me157, List.forall_mem_cons.mpr ⟨xt_me158, List.forall_mem_cons.mpr ⟨xt_me159, List.forall_mem_cons.mpr ⟨xt_me160, List.forall_mem_cons.mpr ⟨xt_me161, List.forall_mem_cons.mpr ⟨xt_me162, List.forall_mem_cons.mpr ⟨xt_me163, List.forall_mem_cons.mpr ⟨xt_me164, List.forall_mem_cons.mpr ⟨xt_me165, List.forall_mem_cons.mpr ⟨xt_me166, List.forall_mem_cons.mpr ⟨xt_me167, List.forall_mem_cons.mpr ⟨xt_me168, List.forall_mem_cons.mpr ⟨xt_me169, List.forall_mem_cons.mpr ⟨xt_me170, List.forall_mem_cons.mpr ⟨xt_me171, List.forall_mem_cons.mpr ⟨xt_me172, List.forall_mem_cons.mpr ⟨xt_me173, List.forall_mem_cons.mpr ⟨xt_me174, List.forall_mem_cons.mpr ⟨xt_me175, List.forall_mem_cons.mpr ⟨xt_me176, List.forall_mem_cons.mpr ⟨xt_me177, List.forall_mem_cons.mpr ⟨xt_me178, List.forall_mem_cons.mpr ⟨xt_me179, List.forall_mem_cons.mpr ⟨xt_me180, List.forall_mem_cons.mpr ⟨xt_me181, List.forall_mem_cons.mpr ⟨xt_me182, List.forall_mem_cons.mpr ⟨xt_me183, List.forall_mem_cons.mpr ⟨xt_me184, List.forall_mem_cons.mpr ⟨xt_me185, List.forall_mem_cons.mpr ⟨xt_me186, List.forall_mem_cons.mpr ⟨xt_me187, List.forall_mem_cons.mpr ⟨xt_me188, List.forall_mem_cons.mpr ⟨xt_me189, List.forall_mem_cons.mpr ⟨xt_me190, List.forall_mem_cons.mpr ⟨xt_me191, List.forall_mem_cons.mpr ⟨xt_me192, List.forall_mem_cons.mpr ⟨xt_me193, List.forall_mem_cons.mpr ⟨xt_me194, List.forall_mem_cons.mpr ⟨xt_me195, List.forall_mem_cons.mpr ⟨xt_me196, List.forall_mem_cons.mpr ⟨xt_me197, List.forall_mem_cons.mpr ⟨xt_me198, List.forall_mem_cons.mpr ⟨xt_me199, List.forall_mem_cons.mpr ⟨xt_me200, List.forall_mem_cons.mpr ⟨xt_me201, List.forall_mem_cons.mpr ⟨xt_me202, List.forall_mem_cons.mpr ⟨xt_me203, List.forall_mem_cons.mpr ⟨xt_me204, List.forall_mem_cons.mpr ⟨xt_me205, List.forall_mem_cons.mpr ⟨xt_me206, List.forall_mem_cons.mpr ⟨xt_me207, List.forall_mem_cons.mpr ⟨xt_me208, List.forall_mem_cons.mpr ⟨xt_me209, List.forall_mem_cons.mpr ⟨xt_me210, List.forall_mem_cons.mpr ⟨xt_me211, List.forall_mem_cons.mpr ⟨xt_me212, fun _ h => absurd h List.not_mem_nil⟩⟩⟩⟩⟩⟩⟩⟩⟩⟩⟩⟩⟩⟩⟩⟩⟩⟩⟩⟩⟩⟩⟩⟩⟩⟩⟩⟩⟩⟩⟩⟩⟩⟩⟩⟩⟩⟩⟩⟩⟩⟩⟩⟩⟩⟩⟩⟩⟩⟩⟩⟩⟩⟩⟩⟩⟩⟩⟩⟩⟩⟩⟩⟩⟩⟩⟩⟩⟩⟩⟩⟩⟩⟩⟩⟩⟩⟩⟩⟩⟩⟩⟩⟩⟩⟩⟩⟩⟩⟩⟩⟩⟩⟩⟩⟩⟩⟩⟩⟩⟩⟩⟩⟩⟩⟩⟩⟩⟩⟩⟩⟩⟩⟩⟩⟩⟩⟩⟩⟩⟩⟩⟩⟩⟩⟩⟩⟩⟩⟩⟩⟩⟩⟩⟩⟩⟩⟩⟩⟩⟩⟩⟩⟩⟩⟩⟩⟩⟩⟩⟩⟩⟩⟩⟩⟩⟩⟩⟩⟩⟩⟩⟩⟩⟩⟩⟩⟩⟩⟩⟩⟩⟩⟩⟩⟩⟩⟩⟩⟩⟩⟩⟩⟩⟩⟩⟩⟩⟩⟩⟩⟩⟩⟩⟩⟩⟩⟩⟩⟩⟩⟩⟩⟩⟩⟩⟩⟩⟩⟩⟩⟩⟩
theorem xt_mt_ok {y n a b : Nat} (h : xt_mt.lookup (xt_oc y, n) = some (a, b)) : xt_mtq ((xt_oc y, n), (a, b)) := xt_mta _ (xt_lk h)
