/-! Literal addresses, entries of methods. -/
theorem tg_0 : vtag 0 = 0 := by decide +kernel
theorem tg_1 : vtag 1 = 103 := by decide +kernel
theorem ln_1 : vlen 1 = 4 := by decide +kernel
theorem tg_2 : vtag 2 = 1 := by decide +kernel
theorem tg_3 : vtag 3 = 104 := by decide +kernel
theorem ln_3 : vlen 3 = 40 := by decide +kernel
theorem tg_4 : vtag 4 = 2 := by decide +kernel
theorem tg_44 : vtag 44 = 3 := by decide +kernel
theorem tg_45 : vtag 45 = 100 := by decide +kernel
theorem ln_45 : vlen 45 = 6 := by decide +kernel
theorem tg_46 : vtag 46 = 100 := by decide +kernel
theorem ln_46 : vlen 46 = 6 := by decide +kernel
theorem tg_47 : vtag 47 = 4 := by decide +kernel
theorem tg_49 : vtag 49 = 5 := by decide +kernel
theorem tg_50 : vtag 50 = 105 := by decide +kernel
theorem ln_50 : vlen 50 = 6 := by decide +kernel
theorem tg_51 : vtag 51 = 6 := by decide +kernel
theorem tg_57 : vtag 57 = 106 := by decide +kernel
theorem ln_57 : vlen 57 = 8 := by decide +kernel
theorem tg_58 : vtag 58 = 7 := by decide +kernel
theorem tg_59 : vtag 59 = 4 := by decide +kernel
theorem tg_61 : vtag 61 = 8 := by decide +kernel
theorem tg_62 : vtag 62 = 103 := by decide +kernel
theorem ln_62 : vlen 62 = 40 := by decide +kernel
theorem tg_143 : vtag 143 = 9 := by decide +kernel
theorem tg_144 : vtag 144 = 4 := by decide +kernel
theorem tg_146 : vtag 146 = 100 := by decide +kernel
theorem ln_146 : vlen 146 = 6 := by decide +kernel
theorem tg_147 : vtag 147 = 102 := by decide +kernel
theorem ln_147 : vlen 147 = 6 := by decide +kernel
theorem tg_148 : vtag 148 = 100 := by decide +kernel
theorem ln_148 : vlen 148 = 6 := by decide +kernel
theorem tg_149 : vtag 149 = 10 := by decide +kernel
theorem tg_150 : vtag 150 = 100 := by decide +kernel
theorem ln_150 : vlen 150 = 6 := by decide +kernel
theorem tg_151 : vtag 151 = 100 := by decide +kernel
theorem ln_151 : vlen 151 = 6 := by decide +kernel
theorem tg_152 : vtag 152 = 4 := by decide +kernel
theorem tg_154 : vtag 154 = 4 := by decide +kernel
theorem tg_156 : vtag 156 = 107 := by decide +kernel
theorem ln_156 : vlen 156 = 4 := by decide +kernel
theorem tg_157 : vtag 157 = 107 := by decide +kernel
theorem ln_157 : vlen 157 = 4 := by decide +kernel
theorem tg_158 : vtag 158 = 100 := by decide +kernel
theorem ln_158 : vlen 158 = 4 := by decide +kernel
theorem tg_159 : vtag 159 = 4 := by decide +kernel
theorem tg_161 : vtag 161 = 8 := by decide +kernel
theorem tg_162 : vtag 162 = 103 := by decide +kernel
theorem ln_162 : vlen 162 = 40 := by decide +kernel
theorem tg_275 : vtag 275 = 8 := by decide +kernel
theorem tg_276 : vtag 276 = 103 := by decide +kernel
theorem ln_276 : vlen 276 = 12 := by decide +kernel
theorem tg_301 : vtag 301 = 8 := by decide +kernel
theorem tg_302 : vtag 302 = 103 := by decide +kernel
theorem ln_302 : vlen 302 = 12 := by decide +kernel
theorem tg_327 : vtag 327 = 8 := by decide +kernel
theorem tg_328 : vtag 328 = 103 := by decide +kernel
theorem ln_328 : vlen 328 = 12 := by decide +kernel
theorem tg_353 : vtag 353 = 8 := by decide +kernel
theorem tg_354 : vtag 354 = 103 := by decide +kernel
theorem ln_354 : vlen 354 = 12 := by decide +kernel
theorem tg_379 : vtag 379 = 8 := by decide +kernel
theorem tg_380 : vtag 380 = 103 := by decide +kernel
theorem ln_380 : vlen 380 = 12 := by decide +kernel
theorem tg_405 : vtag 405 = 8 := by decide +kernel
theorem tg_406 : vtag 406 = 103 := by decide +kernel
theorem ln_406 : vlen 406 = 12 := by decide +kernel
theorem tg_431 : vtag 431 = 8 := by decide +kernel
theorem tg_432 : vtag 432 = 103 := by decide +kernel
theorem ln_432 : vlen 432 = 12 := by decide +kernel
theorem tg_457 : vtag 457 = 8 := by decide +kernel
theorem tg_458 : vtag 458 = 103 := by decide +kernel
theorem ln_458 : vlen 458 = 12 := by decide +kernel
theorem tg_483 : vtag 483 = 12 := by decide +kernel
theorem tg_484 : vtag 484 = 101 := by decide +kernel
theorem ln_484 : vlen 484 = 19320 := by decide +kernel
theorem tg_485 : vtag 485 = 100 := by decide +kernel
theorem ln_485 : vlen 485 = 40 := by decide +kernel
theorem tg_486 : vtag 486 = 100 := by decide +kernel
theorem ln_486 : vlen 486 = 40 := by decide +kernel
theorem tg_487 : vtag 487 = 100 := by decide +kernel
theorem ln_487 : vlen 487 = 40 := by decide +kernel
theorem tg_488 : vtag 488 = 100 := by decide +kernel
theorem ln_488 : vlen 488 = 40 := by decide +kernel
theorem tg_489 : vtag 489 = 100 := by decide +kernel
theorem ln_489 : vlen 489 = 40 := by decide +kernel
theorem tg_490 : vtag 490 = 100 := by decide +kernel
theorem ln_490 : vlen 490 = 40 := by decide +kernel
theorem tg_491 : vtag 491 = 100 := by decide +kernel
theorem ln_491 : vlen 491 = 40 := by decide +kernel
theorem tg_492 : vtag 492 = 102 := by decide +kernel
theorem ln_492 : vlen 492 = 40 := by decide +kernel
theorem tg_493 : vtag 493 = 100 := by decide +kernel
theorem ln_493 : vlen 493 = 6 := by decide +kernel
theorem tg_494 : vtag 494 = 100 := by decide +kernel
theorem ln_494 : vlen 494 = 6 := by decide +kernel
theorem tg_495 : vtag 495 = 100 := by decide +kernel
theorem ln_495 : vlen 495 = 6 := by decide +kernel
theorem tg_496 : vtag 496 = 100 := by decide +kernel
theorem ln_496 : vlen 496 = 8 := by decide +kernel
theorem tg_497 : vtag 497 = 100 := by decide +kernel
theorem ln_497 : vlen 497 = 8 := by decide +kernel
theorem tg_498 : vtag 498 = 100 := by decide +kernel
theorem ln_498 : vlen 498 = 8 := by decide +kernel
theorem tg_499 : vtag 499 = 100 := by decide +kernel
theorem ln_499 : vlen 499 = 8 := by decide +kernel
theorem tg_500 : vtag 500 = 100 := by decide +kernel
theorem ln_500 : vlen 500 = 8 := by decide +kernel
theorem tg_501 : vtag 501 = 100 := by decide +kernel
theorem ln_501 : vlen 501 = 32 := by decide +kernel
theorem tg_502 : vtag 502 = 100 := by decide +kernel
theorem ln_502 : vlen 502 = 32 := by decide +kernel
theorem tg_503 : vtag 503 = 100 := by decide +kernel
theorem ln_503 : vlen 503 = 4 := by decide +kernel
theorem tg_504 : vtag 504 = 100 := by decide +kernel
theorem ln_504 : vlen 504 = 4 := by decide +kernel
theorem tg_505 : vtag 505 = 102 := by decide +kernel
theorem ln_505 : vlen 505 = 48 := by decide +kernel
theorem tg_506 : vtag 506 = 100 := by decide +kernel
theorem ln_506 : vlen 506 = 6 := by decide +kernel
theorem tg_507 : vtag 507 = 100 := by decide +kernel
theorem ln_507 : vlen 507 = 8 := by decide +kernel
theorem tg_508 : vtag 508 = 100 := by decide +kernel
theorem ln_508 : vlen 508 = 8 := by decide +kernel
theorem tg_509 : vtag 509 = 100 := by decide +kernel
theorem ln_509 : vlen 509 = 8 := by decide +kernel
theorem tg_510 : vtag 510 = 100 := by decide +kernel
theorem ln_510 : vlen 510 = 8 := by decide +kernel
theorem tg_511 : vtag 511 = 100 := by decide +kernel
theorem ln_511 : vlen 511 = 8 := by decide +kernel
theorem tg_512 : vtag 512 = 100 := by decide +kernel
theorem ln_512 : vlen 512 = 36 := by decide +kernel
theorem tg_513 : vtag 513 = 100 := by decide +kernel
theorem ln_513 : vlen 513 = 36 := by decide +kernel
theorem tg_514 : vtag 514 = 100 := by decide +kernel
theorem ln_514 : vlen 514 = 6 := by decide +kernel
theorem tg_515 : vtag 515 = 100 := by decide +kernel
theorem ln_515 : vlen 515 = 6 := by decide +kernel
theorem tg_516 : vtag 516 = 100 := by decide +kernel
theorem ln_516 : vlen 516 = 6 := by decide +kernel
theorem tf_0_0 (t : T) : tref t 0 0 = 1 := id rfl
theorem tf_0_1 (t : T) : tref t 0 1 = 2 := id rfl
theorem tf_0_2 (t : T) : tref t 0 2 = 44 := id rfl
theorem tf_0_3 (t : T) : tref t 0 3 = 49 := id rfl
theorem tf_0_4 (t : T) : tref t 0 4 = 57 := id rfl
theorem tf_0_5 (t : T) : tref t 0 5 = 58 := id rfl
theorem tf_0_6 (t : T) : tref t 0 6 = 143 := id rfl
theorem tf_0_7 (t : T) : tref t 0 7 = 149 := id rfl
theorem tf_0_8 (t : T) : tref t 0 8 = 156 := id rfl
theorem tf_0_9 (t : T) : tref t 0 9 = 157 := id rfl
theorem tf_0_10 (t : T) : tref t 0 10 = 158 := id rfl
theorem tf_0_11 (t : T) : tref t 0 11 = 159 := id rfl
theorem tf_0_12 (t : T) : tref t 0 12 = t.2 0 12 := id rfl
theorem tm_0_12 : tmut 0 12 = true := id rfl
theorem tf_2_0 (t : T) : tref t 2 0 = 3 := id rfl
theorem tf_44_0 (t : T) : tref t 44 0 = 3 := id rfl
theorem tf_44_1 (t : T) : tref t 44 1 = 45 := id rfl
theorem tf_44_2 (t : T) : tref t 44 2 = 46 := id rfl
theorem tf_44_3 (t : T) : tref t 44 3 = t.2 44 3 := id rfl
theorem tm_44_3 : tmut 44 3 = true := id rfl
theorem tf_49_0 (t : T) : tref t 49 0 = 44 := id rfl
theorem tf_49_1 (t : T) : tref t 49 1 = 3 := id rfl
theorem tf_49_2 (t : T) : tref t 49 2 = 50 := id rfl
theorem tf_58_0 (t : T) : tref t 58 0 = 44 := id rfl
theorem tf_58_1 (t : T) : tref t 58 1 = 49 := id rfl
theorem tf_58_2 (t : T) : tref t 58 2 = 59 := id rfl
theorem tf_58_3 (t : T) : tref t 58 3 = t.2 58 3 := id rfl
theorem tm_58_3 : tmut 58 3 = true := id rfl
theorem tf_143_0 (t : T) : tref t 143 0 = 144 := id rfl
theorem tf_143_1 (t : T) : tref t 143 1 = 146 := id rfl
theorem tf_143_2 (t : T) : tref t 143 2 = 147 := id rfl
theorem tf_143_3 (t : T) : tref t 143 3 = 148 := id rfl
theorem tf_149_0 (t : T) : tref t 149 0 = 150 := id rfl
theorem tf_149_1 (t : T) : tref t 149 1 = 151 := id rfl
theorem tf_149_2 (t : T) : tref t 149 2 = t.2 149 2 := id rfl
theorem tm_149_2 : tmut 149 2 = true := id rfl
theorem tf_149_3 (t : T) : tref t 149 3 = t.2 149 3 := id rfl
theorem tm_149_3 : tmut 149 3 = true := id rfl
theorem tf_483_0 (t : T) : tref t 483 0 = 484 := id rfl
theorem tf_483_2 (t : T) : tref t 483 2 = 485 := id rfl
theorem tf_483_3 (t : T) : tref t 483 3 = 486 := id rfl
theorem tf_483_4 (t : T) : tref t 483 4 = 487 := id rfl
theorem tf_483_5 (t : T) : tref t 483 5 = 488 := id rfl
theorem tf_483_6 (t : T) : tref t 483 6 = 489 := id rfl
theorem tf_483_7 (t : T) : tref t 483 7 = 490 := id rfl
theorem tf_483_8 (t : T) : tref t 483 8 = 491 := id rfl
theorem tf_483_9 (t : T) : tref t 483 9 = 492 := id rfl
theorem tf_483_11 (t : T) : tref t 483 11 = 493 := id rfl
theorem tf_483_12 (t : T) : tref t 483 12 = 494 := id rfl
theorem tf_483_13 (t : T) : tref t 483 13 = 495 := id rfl
theorem tf_483_15 (t : T) : tref t 483 15 = 496 := id rfl
theorem tf_483_16 (t : T) : tref t 483 16 = 497 := id rfl
theorem tf_483_17 (t : T) : tref t 483 17 = 498 := id rfl
theorem tf_483_18 (t : T) : tref t 483 18 = 499 := id rfl
theorem tf_483_19 (t : T) : tref t 483 19 = 500 := id rfl
theorem tf_483_20 (t : T) : tref t 483 20 = 501 := id rfl
theorem tf_483_21 (t : T) : tref t 483 21 = 502 := id rfl
theorem tf_483_23 (t : T) : tref t 483 23 = 503 := id rfl
theorem tf_483_24 (t : T) : tref t 483 24 = 504 := id rfl
theorem tf_483_25 (t : T) : tref t 483 25 = 505 := id rfl
theorem tf_483_27 (t : T) : tref t 483 27 = 506 := id rfl
theorem tf_483_28 (t : T) : tref t 483 28 = 507 := id rfl
theorem tf_483_29 (t : T) : tref t 483 29 = 508 := id rfl
theorem tf_483_30 (t : T) : tref t 483 30 = 509 := id rfl
theorem tf_483_31 (t : T) : tref t 483 31 = 510 := id rfl
theorem tf_483_32 (t : T) : tref t 483 32 = 511 := id rfl
theorem tf_483_33 (t : T) : tref t 483 33 = 512 := id rfl
theorem tf_483_34 (t : T) : tref t 483 34 = 513 := id rfl
theorem tf_483_35 (t : T) : tref t 483 35 = 514 := id rfl
theorem tf_483_36 (t : T) : tref t 483 36 = 515 := id rfl
theorem tf_483_37 (t : T) : tref t 483 37 = 516 := id rfl
theorem tf_1 (t : T) (k : Nat) : tref t 1 k = 243 + 2 * k := id rfl
theorem tf_3 (t : T) (k : Nat) : tref t 3 k = 4 + k := id rfl
theorem tf_50 (t : T) (k : Nat) : tref t 50 k = 51 + k := id rfl
theorem tf_57 (t : T) (k : Nat) : tref t 57 k = 251 + 3 * k := id rfl
theorem tf_156 (t : T) (k : Nat) : tref t 156 k = 275 + 52 * k := id rfl
theorem tf_157 (t : T) (k : Nat) : tref t 157 k = 301 + 52 * k := id rfl
theorem ze_0 (a0 : Value) : zent 0 [a0] = [a0, .long 0] := rfl
theorem ze_1 (a0 a1 a2 : Value) : zent 1 [a0, a1, a2] = [a0, a1, a2] := rfl
theorem ze_2 (a0 a1 a2 a3 : Value) : zent 2 [a0, a1, a2, a3] = [a0, a1, a2, a3] := rfl
theorem ze_3 (a0 a1 a2 a3 a4 a5 : Value) : zent 3 [a0, a1, a2, a3, a4, a5] = [a0, a1, a2, a3, a4, a5] := rfl
theorem ze_4 (a0 a1 a2 a3 a4 : Value) : zent 4 [a0, a1, a2, a3, a4] = [a0, a1, a2, a3, a4] := rfl
theorem ze_5 (a0 a1 : Value) : zent 5 [a0, a1] = [a0, a1] := rfl
theorem ze_6 (a0 a1 a2 a3 a4 a5 : Value) : zent 6 [a0, a1, a2, a3, a4, a5] = [a0, a1, a2, a3, a4, a5] := rfl
theorem ze_7 (a0 a1 : Value) : zent 7 [a0, a1] = [a0, a1] := rfl
theorem ze_8 (a0 a1 a2 a3 a4 : Value) : zent 8 [a0, a1, a2, a3, a4] = [a0, a1, a2, a3, a4, .long 0, .long 0] := rfl
theorem ze_9 (a0 a1 : Value) : zent 9 [a0, a1] = [a0, a1] := rfl
theorem ze_10 (a0 a1 a2 : Value) : zent 10 [a0, a1, a2] = [a0, a1, a2] := rfl
theorem ze_11 (a0 a1 a2 a3 : Value) : zent 11 [a0, a1, a2, a3] = [a0, a1, a2, a3, .long 0] := rfl
theorem ze_12 (a0 a1 : Value) : zent 12 [a0, a1] = [a0, a1] := rfl
theorem ze_13 (a0 a1 a2 a3 a4 : Value) : zent 13 [a0, a1, a2, a3, a4] = [a0, a1, a2, a3, a4] := rfl
theorem ze_14 (a0 a1 a2 a3 : Value) : zent 14 [a0, a1, a2, a3] = [a0, a1, a2, a3] := rfl
theorem ze_15 (a0 a1 a2 : Value) : zent 15 [a0, a1, a2] = [a0, a1, a2, .long 0] := rfl
theorem ze_16 (a0 a1 a2 : Value) : zent 16 [a0, a1, a2] = [a0, a1, a2] := rfl
theorem ze_17 (a0 a1 a2 : Value) : zent 17 [a0, a1, a2] = [a0, a1, a2] := rfl
theorem ze_18 (a0 : Value) : zent 18 [a0] = [a0, .long 0, .long 0] := rfl
theorem ze_19 (a0 a1 : Value) : zent 19 [a0, a1] = [a0, a1] := rfl
theorem ze_20 (a0 a1 a2 a3 : Value) : zent 20 [a0, a1, a2, a3] = [a0, a1, a2, a3] := rfl
theorem ze_21 (a0 a1 a2 : Value) : zent 21 [a0, a1, a2] = [a0, a1, a2, .long 0, .long 0, .long 0] := rfl
theorem ze_22 (a0 a1 : Value) : zent 22 [a0, a1] = [a0, a1] := rfl
theorem ze_23 (a0 a1 : Value) : zent 23 [a0, a1] = [a0, a1] := rfl
theorem ze_24 (a0 : Value) : zent 24 [a0] = [a0] := rfl
theorem ze_25 (a0 a1 a2 a3 a4 : Value) : zent 25 [a0, a1, a2, a3, a4] = [a0, a1, a2, a3, a4, .long 0] := rfl
theorem ze_26 (a0 a1 a2 a3 : Value) : zent 26 [a0, a1, a2, a3] = [a0, a1, a2, a3] := rfl
theorem ze_27 (a0 : Value) : zent 27 [a0] = [a0, .long 0] := rfl
theorem ze_28 (a0 : Value) : zent 28 [a0] = [a0, .long 0] := rfl
theorem ze_29 (a0 a1 : Value) : zent 29 [a0, a1] = [a0, a1, .long 0, .long 0, .long 0] := rfl
theorem ze_30 (a0 a1 : Value) : zent 30 [a0, a1] = [a0, a1, .long 0, .long 0] := rfl
theorem ze_31 (a0 : Value) : zent 31 [a0] = [a0, .long 0, .long 0] := rfl
theorem ze_32 (a0 : Value) : zent 32 [a0] = [a0] := rfl
theorem ze_33 (a0 : Value) : zent 33 [a0] = [a0] := rfl
theorem ze_34 (a0 a1 : Value) : zent 34 [a0, a1] = [a0, a1] := rfl
theorem ze_35 (a0 a1 : Value) : zent 35 [a0, a1] = [a0, a1] := rfl
theorem ze_36 (a0 : Value) : zent 36 [a0] = [a0] := rfl
theorem ze_37 (a0 a1 a2 : Value) : zent 37 [a0, a1, a2] = [a0, a1, a2] := rfl
theorem ze_38 (a0 a1 a2 : Value) : zent 38 [a0, a1, a2] = [a0, a1, a2] := rfl
theorem ze_39 (a0 a1 a2 a3 : Value) : zent 39 [a0, a1, a2, a3] = [a0, a1, a2, a3] := rfl
theorem ze_40 (a0 a1 : Value) : zent 40 [a0, a1] = [a0, a1] := rfl
theorem ze_41 (a0 a1 a2 : Value) : zent 41 [a0, a1, a2] = [a0, a1, a2] := rfl
theorem ze_42 (a0 a1 a2 : Value) : zent 42 [a0, a1, a2] = [a0, a1, a2] := rfl
theorem ze_43 (a0 a1 a2 a3 a4 : Value) : zent 43 [a0, a1, a2, a3, a4] = [a0, a1, a2, a3, a4] := rfl
theorem ze_44 (a0 a1 a2 : Value) : zent 44 [a0, a1, a2] = [a0, a1, a2, .long 0] := rfl
theorem ze_45 (a0 a1 a2 : Value) : zent 45 [a0, a1, a2] = [a0, a1, a2, .long 0, .long 0] := rfl
theorem ze_46 (a0 a1 a2 : Value) : zent 46 [a0, a1, a2] = [a0, a1, a2, .long 0, .long 0] := rfl
theorem ze_47 (a0 : Value) : zent 47 [a0] = [a0] := rfl
theorem ze_48 (a0 a1 a2 : Value) : zent 48 [a0, a1, a2] = [a0, a1, a2] := rfl
theorem ze_49 (a0 a1 a2 : Value) : zent 49 [a0, a1, a2] = [a0, a1, a2, .long 0] := rfl
theorem ze_50 (a0 a1 a2 a3 : Value) : zent 50 [a0, a1, a2, a3] = [a0, a1, a2, a3] := rfl
theorem ze_51 (a0 a1 a2 a3 a4 : Value) : zent 51 [a0, a1, a2, a3, a4] = [a0, a1, a2, a3, a4] := rfl
theorem ze_52 (a0 a1 a2 a3 a4 a5 : Value) : zent 52 [a0, a1, a2, a3, a4, a5] = [a0, a1, a2, a3, a4, a5] := rfl
theorem ze_53 (a0 a1 a2 a3 a4 : Value) : zent 53 [a0, a1, a2, a3, a4] = [a0, a1, a2, a3, a4] := rfl
theorem ze_54 (a0 a1 : Value) : zent 54 [a0, a1] = [a0, a1] := rfl
theorem ze_55 (a0 a1 : Value) : zent 55 [a0, a1] = [a0, a1] := rfl
theorem ze_56 (a0 : Value) : zent 56 [a0] = [a0] := rfl
theorem ze_57 (a0 a1 a2 a3 a4 a5 : Value) : zent 57 [a0, a1, a2, a3, a4, a5] = [a0, a1, a2, a3, a4, a5] := rfl
theorem ze_58 (a0 a1 a2 a3 : Value) : zent 58 [a0, a1, a2, a3] = [a0, a1, a2, a3] := rfl
theorem ze_59 (a0 a1 a2 a3 a4 a5 : Value) : zent 59 [a0, a1, a2, a3, a4, a5] = [a0, a1, a2, a3, a4, a5] := rfl
theorem ze_60 (a0 a1 a2 a3 a4 a5 : Value) : zent 60 [a0, a1, a2, a3, a4, a5] = [a0, a1, a2, a3, a4, a5, .long 0] := rfl
theorem ze_61 (a0 a1 : Value) : zent 61 [a0, a1] = [a0, a1] := rfl
theorem ze_62 (a0 a1 a2 : Value) : zent 62 [a0, a1, a2] = [a0, a1, a2, .long 0] := rfl
theorem ze_63 (a0 a1 : Value) : zent 63 [a0, a1] = [a0, a1, .long 0, .long 0, .long 0, .long 0] := rfl
theorem ze_64 (a0 a1 a2 : Value) : zent 64 [a0, a1, a2] = [a0, a1, a2] := rfl
theorem ze_65 (a0 a1 a2 : Value) : zent 65 [a0, a1, a2] = [a0, a1, a2, .long 0, .long 0, .long 0, .long 0, .long 0, .long 0] := rfl
theorem ze_66 (a0 a1 a2 a3 a4 a5 : Value) : zent 66 [a0, a1, a2, a3, a4, a5] = [a0, a1, a2, a3, a4, a5, .long 0] := rfl
theorem ze_67 (a0 a1 a2 a3 a4 a5 : Value) : zent 67 [a0, a1, a2, a3, a4, a5] = [a0, a1, a2, a3, a4, a5, .long 0] := rfl
theorem ze_68 (a0 a1 a2 a3 a4 : Value) : zent 68 [a0, a1, a2, a3, a4] = [a0, a1, a2, a3, a4, .long 0] := rfl
theorem ze_69 (a0 a1 a2 a3 a4 : Value) : zent 69 [a0, a1, a2, a3, a4] = [a0, a1, a2, a3, a4, .long 0, .long 0] := rfl
theorem ze_70 (a0 a1 : Value) : zent 70 [a0, a1] = [a0, a1] := rfl
theorem ze_71 (a0 a1 : Value) : zent 71 [a0, a1] = [a0, a1, .long 0, .long 0, .long 0, .long 0, .long 0, .long 0] := rfl
theorem ze_72 (a0 a1 a2 a3 a4 : Value) : zent 72 [a0, a1, a2, a3, a4] = [a0, a1, a2, a3, a4, .long 0, .long 0, .long 0] := rfl
theorem ze_73 (a0 a1 : Value) : zent 73 [a0, a1] = [a0, a1] := rfl
theorem ze_74 (a0 a1 : Value) : zent 74 [a0, a1] = [a0, a1] := rfl
theorem ze_75 (a0 a1 a2 a3 : Value) : zent 75 [a0, a1, a2, a3] = [a0, a1, a2, a3, .long 0, .long 0, .long 0, .long 0] := rfl
theorem ze_76 (a0 a1 a2 : Value) : zent 76 [a0, a1, a2] = [a0, a1, a2, .long 0, .long 0] := rfl
theorem ze_77 (a0 a1 a2 : Value) : zent 77 [a0, a1, a2] = [a0, a1, a2, .long 0, .long 0, .long 0] := rfl
theorem ze_78 (a0 a1 a2 a3 : Value) : zent 78 [a0, a1, a2, a3] = [a0, a1, a2, a3, .long 0, .long 0, .long 0] := rfl
theorem ze_79 (a0 a1 a2 a3 : Value) : zent 79 [a0, a1, a2, a3] = [a0, a1, a2, a3, .long 0, .long 0] := rfl
theorem ze_80 (a0 a1 a2 a3 : Value) : zent 80 [a0, a1, a2, a3] = [a0, a1, a2, a3, .long 0] := rfl
theorem ze_81 (a0 a1 a2 : Value) : zent 81 [a0, a1, a2] = [a0, a1, a2, .long 0, .long 0, .long 0, .long 0, .long 0, .long 0] := rfl
theorem ze_82 (a0 a1 a2 a3 a4 : Value) : zent 82 [a0, a1, a2, a3, a4] = [a0, a1, a2, a3, a4, .long 0, .long 0, .long 0] := rfl
theorem ze_83 (a0 a1 : Value) : zent 83 [a0, a1] = [a0, a1, .long 0, .long 0, .long 0, .long 0] := rfl
theorem ze_84 (a0 a1 a2 a3 : Value) : zent 84 [a0, a1, a2, a3] = [a0, a1, a2, a3] := rfl
theorem ze_85 (a0 a1 : Value) : zent 85 [a0, a1] = [a0, a1] := rfl
theorem ze_86 (a0 a1 a2 a3 a4 : Value) : zent 86 [a0, a1, a2, a3, a4] = [a0, a1, a2, a3, a4, .long 0, .long 0] := rfl
theorem ze_87 (a0 a1 a2 a3 : Value) : zent 87 [a0, a1, a2, a3] = [a0, a1, a2, a3] := rfl
theorem ze_88 (a0 a1 : Value) : zent 88 [a0, a1] = [a0, a1, .long 0, .long 0] := rfl
theorem ze_89 (a0 a1 a2 : Value) : zent 89 [a0, a1, a2] = [a0, a1, a2, .long 0, .long 0, .long 0, .long 0, .long 0, .long 0, .long 0] := rfl
theorem ze_90 (a0 a1 a2 : Value) : zent 90 [a0, a1, a2] = [a0, a1, a2, .long 0, .long 0, .long 0, .long 0] := rfl
theorem ze_91 (a0 a1 a2 : Value) : zent 91 [a0, a1, a2] = [a0, a1, a2, .long 0, .long 0] := rfl
theorem ze_92 (a0 a1 a2 : Value) : zent 92 [a0, a1, a2] = [a0, a1, a2] := rfl
theorem ze_93 (a0 : Value) : zent 93 [a0] = [a0] := rfl
theorem ze_94 (a0 a1 a2 a3 : Value) : zent 94 [a0, a1, a2, a3] = [a0, a1, a2, a3, .long 0] := rfl
theorem ze_95 (a0 : Value) : zent 95 [a0] = [a0, .long 0, .long 0] := rfl
theorem ze_96 (a0 : Value) : zent 96 [a0] = [a0, .long 0, .long 0] := rfl
theorem ze_97 (a0 a1 a2 : Value) : zent 97 [a0, a1, a2] = [a0, a1, a2, .long 0, .long 0, .long 0] := rfl
theorem ze_98 (a0 a1 a2 : Value) : zent 98 [a0, a1, a2] = [a0, a1, a2, .long 0, .long 0, .long 0, .long 0, .long 0] := rfl
theorem ze_99 (a0 : Value) : zent 99 [a0] = [a0, .long 0, .long 0] := rfl
theorem ze_100 (a0 : Value) : zent 100 [a0] = [a0, .long 0, .long 0] := rfl
theorem ze_101 (a0 a1 : Value) : zent 101 [a0, a1] = [a0, a1] := rfl
theorem ze_102 (a0 a1 a2 a3 : Value) : zent 102 [a0, a1, a2, a3] = [a0, a1, a2, a3] := rfl
theorem ze_103 (a0 a1 a2 : Value) : zent 103 [a0, a1, a2] = [a0, a1, a2, .long 0, .long 0, .long 0] := rfl
theorem ze_104 (a0 a1 : Value) : zent 104 [a0, a1] = [a0, a1, .long 0] := rfl
theorem ze_105 (a0 a1 : Value) : zent 105 [a0, a1] = [a0, a1] := rfl
theorem ze_106 (a0 a1 : Value) : zent 106 [a0, a1] = [a0, a1, .long 0] := rfl
theorem ze_107 (a0 a1 : Value) : zent 107 [a0, a1] = [a0, a1, .long 0] := rfl
theorem ze_108 (a0 a1 a2 : Value) : zent 108 [a0, a1, a2] = [a0, a1, a2, .long 0] := rfl
theorem ze_109 (a0 : Value) : zent 109 [a0] = [a0, .long 0, .long 0] := rfl
theorem ze_110 (a0 a1 : Value) : zent 110 [a0, a1] = [a0, a1, .long 0] := rfl
theorem ze_111 (a0 : Value) : zent 111 [a0] = [a0] := rfl
theorem ze_112 (a0 : Value) : zent 112 [a0] = [a0, .long 0, .long 0] := rfl
theorem ze_113 (a0 a1 a2 a3 a4 : Value) : zent 113 [a0, a1, a2, a3, a4] = [a0, a1, a2, a3, a4] := rfl
theorem ze_114 (a0 a1 a2 : Value) : zent 114 [a0, a1, a2] = [a0, a1, a2] := rfl
theorem ze_115 (a0 : Value) : zent 115 [a0] = [a0] := rfl
theorem ze_116 (a0 a1 a2 : Value) : zent 116 [a0, a1, a2] = [a0, a1, a2] := rfl
theorem ze_117 (a0 a1 a2 : Value) : zent 117 [a0, a1, a2] = [a0, a1, a2, .long 0, .long 0] := rfl
theorem ze_118 (a0 a1 a2 : Value) : zent 118 [a0, a1, a2] = [a0, a1, a2, .long 0] := rfl
theorem ze_119 (a0 a1 a2 : Value) : zent 119 [a0, a1, a2] = [a0, a1, a2] := rfl
theorem ze_120 (a0 a1 a2 a3 a4 a5 : Value) : zent 120 [a0, a1, a2, a3, a4, a5] = [a0, a1, a2, a3, a4, a5, .long 0] := rfl
theorem ze_121 (a0 a1 : Value) : zent 121 [a0, a1] = [a0, a1] := rfl
theorem ze_122 (a0 a1 a2 a3 a4 : Value) : zent 122 [a0, a1, a2, a3, a4] = [a0, a1, a2, a3, a4] := rfl
theorem ze_123 (a0 a1 : Value) : zent 123 [a0, a1] = [a0, a1, .long 0, .long 0] := rfl
theorem ze_124 (a0 a1 : Value) : zent 124 [a0, a1] = [a0, a1, .long 0, .long 0, .long 0] := rfl
theorem ze_125 (a0 a1 : Value) : zent 125 [a0, a1] = [a0, a1, .long 0, .long 0, .long 0] := rfl
theorem ze_126 (a0 a1 : Value) : zent 126 [a0, a1] = [a0, a1, .long 0, .long 0, .long 0, .long 0, .long 0, .long 0, .long 0] := rfl
theorem ze_127 (a0 a1 a2 a3 : Value) : zent 127 [a0, a1, a2, a3] = [a0, a1, a2, a3, .long 0] := rfl
theorem ze_128 (a0 a1 : Value) : zent 128 [a0, a1] = [a0, a1, .long 0, .long 0] := rfl
theorem ze_129 (a0 : Value) : zent 129 [a0] = [a0] := rfl
theorem ze_130 (a0 a1 : Value) : zent 130 [a0, a1] = [a0, a1] := rfl
theorem ze_131 (a0 a1 : Value) : zent 131 [a0, a1] = [a0, a1] := rfl
theorem ze_132 (a0 : Value) : zent 132 [a0] = [a0] := rfl
theorem ze_133 (a0 : Value) : zent 133 [a0] = [a0, .long 0] := rfl
theorem ze_134 (a0 a1 a2 : Value) : zent 134 [a0, a1, a2] = [a0, a1, a2] := rfl
theorem ze_135 (a0 a1 a2 a3 a4 a5 : Value) : zent 135 [a0, a1, a2, a3, a4, a5] = [a0, a1, a2, a3, a4, a5] := rfl
theorem ze_136 (a0 a1 : Value) : zent 136 [a0, a1] = [a0, a1] := rfl
theorem ze_137 (a0 a1 a2 a3 a4 a5 : Value) : zent 137 [a0, a1, a2, a3, a4, a5] = [a0, a1, a2, a3, a4, a5, .long 0] := rfl
theorem ze_138 (a0 : Value) : zent 138 [a0] = [a0] := rfl
theorem ze_139 (a0 a1 : Value) : zent 139 [a0, a1] = [a0, a1, .long 0, .long 0] := rfl
theorem ze_140 (a0 : Value) : zent 140 [a0] = [a0] := rfl
theorem ze_141 (a0 a1 : Value) : zent 141 [a0, a1] = [a0, a1, .long 0, .long 0, .long 0] := rfl
theorem ze_142 (a0 a1 : Value) : zent 142 [a0, a1] = [a0, a1, .long 0, .long 0, .long 0] := rfl
theorem ze_143 (a0 a1 : Value) : zent 143 [a0, a1] = [a0, a1, .long 0] := rfl
theorem ze_144 (a0 a1 a2 : Value) : zent 144 [a0, a1, a2] = [a0, a1, a2, .long 0, .long 0] := rfl
theorem ze_145 (a0 a1 a2 a3 : Value) : zent 145 [a0, a1, a2, a3] = [a0, a1, a2, a3, .long 0, .long 0, .long 0] := rfl
theorem ze_146 (a0 a1 a2 : Value) : zent 146 [a0, a1, a2] = [a0, a1, a2] := rfl
theorem ze_147 (a0 a1 a2 : Value) : zent 147 [a0, a1, a2] = [a0, a1, a2, .long 0, .long 0, .long 0] := rfl
theorem ze_148 (a0 a1 : Value) : zent 148 [a0, a1] = [a0, a1, .long 0, .long 0, .long 0, .long 0, .long 0] := rfl
theorem ze_149 (a0 a1 : Value) : zent 149 [a0, a1] = [a0, a1, .long 0] := rfl
theorem ze_150 (a0 a1 a2 : Value) : zent 150 [a0, a1, a2] = [a0, a1, a2] := rfl
theorem ze_151 (a0 a1 a2 a3 a4 : Value) : zent 151 [a0, a1, a2, a3, a4] = [a0, a1, a2, a3, a4, .long 0, .long 0, .long 0] := rfl
theorem ze_152 (a0 a1 a2 : Value) : zent 152 [a0, a1, a2] = [a0, a1, a2, .long 0, .long 0, .long 0, .long 0, .long 0, .long 0] := rfl
theorem ze_153 (a0 : Value) : zent 153 [a0] = [a0] := rfl
theorem ze_154 (a0 a1 a2 : Value) : zent 154 [a0, a1, a2] = [a0, a1, a2, .long 0] := rfl
theorem ze_155 (a0 a1 a2 a3 : Value) : zent 155 [a0, a1, a2, a3] = [a0, a1, a2, a3] := rfl
theorem ze_156 (a0 a1 : Value) : zent 156 [a0, a1] = [a0, a1, .long 0, .long 0, .long 0, .long 0] := rfl
theorem ze_157 (a0 a1 a2 : Value) : zent 157 [a0, a1, a2] = [a0, a1, a2, .long 0, .long 0, .long 0, .long 0, .long 0, .long 0, .long 0] := rfl
theorem ze_158 (a0 a1 a2 : Value) : zent 158 [a0, a1, a2] = [a0, a1, a2] := rfl
theorem ze_159 (a0 a1 a2 a3 : Value) : zent 159 [a0, a1, a2, a3] = [a0, a1, a2, a3] := rfl
theorem ze_160 (a0 : Value) : zent 160 [a0] = [a0] := rfl
theorem ze_161 (a0 a1 a2 : Value) : zent 161 [a0, a1, a2] = [a0, a1, a2] := rfl
theorem ze_162 (a0 a1 a2 a3 : Value) : zent 162 [a0, a1, a2, a3] = [a0, a1, a2, a3] := rfl
theorem ze_163 (a0 a1 a2 a3 a4 : Value) : zent 163 [a0, a1, a2, a3, a4] = [a0, a1, a2, a3, a4] := rfl
theorem ze_164 (a0 a1 a2 : Value) : zent 164 [a0, a1, a2] = [a0, a1, a2] := rfl
theorem ze_165 (a0 a1 : Value) : zent 165 [a0, a1] = [a0, a1] := rfl
theorem ze_166 (a0 a1 a2 : Value) : zent 166 [a0, a1, a2] = [a0, a1, a2] := rfl
theorem ze_167 (a0 a1 : Value) : zent 167 [a0, a1] = [a0, a1] := rfl
theorem ze_168 (a0 a1 : Value) : zent 168 [a0, a1] = [a0, a1] := rfl
theorem ze_169 (a0 a1 : Value) : zent 169 [a0, a1] = [a0, a1, .long 0, .long 0] := rfl
theorem ze_170 (a0 a1 : Value) : zent 170 [a0, a1] = [a0, a1, .long 0, .long 0, .long 0] := rfl
theorem ze_171 (a0 : Value) : zent 171 [a0] = [a0, .long 0] := rfl
theorem ze_172 (a0 a1 : Value) : zent 172 [a0, a1] = [a0, a1, .long 0, .long 0] := rfl
theorem ze_173 (a0 a1 a2 a3 : Value) : zent 173 [a0, a1, a2, a3] = [a0, a1, a2, a3, .long 0] := rfl
theorem ze_174 (a0 a1 a2 : Value) : zent 174 [a0, a1, a2] = [a0, a1, a2] := rfl
