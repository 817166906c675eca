theorem bne_law1_0 : decs cL_law [(403, .iconst 1, 1), (404, .iadd, 1), (405, .iaload, 1), (406, .aload_n 0, 1), (407, .iload_n 3, 1), (408, .iconst 2, 1), (409, .iadd, 1), (410, .iaload, 1), (411, .aload_n 0, 1), (412, .iload_n 3, 1), (413, .iconst 3, 1), (414, .iadd, 1), (415, .iaload, 1), (416, .i2l, 1), (417, .bipush 32, 2), (419, .lshl, 1), (420, .aload_n 0, 1), (421, .iload_n 3, 1), (422, .iconst 4, 1), (423, .iadd, 1), (424, .iaload, 1), (425, .i2l, 1), (426, .ldc2_w 45, 3), (429, .land, 1)] = true := by decide +kernel
theorem dL_law_403 : decode cL_law 403 = .ok (.iconst 1, 1) := decs_at bne_law1_0 0 (x := (403, .iconst 1, 1)) rfl
theorem dL_law_404 : decode cL_law 404 = .ok (.iadd, 1) := decs_at bne_law1_0 1 (x := (404, .iadd, 1)) rfl
theorem dL_law_405 : decode cL_law 405 = .ok (.iaload, 1) := decs_at bne_law1_0 2 (x := (405, .iaload, 1)) rfl
theorem dL_law_406 : decode cL_law 406 = .ok (.aload_n 0, 1) := decs_at bne_law1_0 3 (x := (406, .aload_n 0, 1)) rfl
theorem dL_law_407 : decode cL_law 407 = .ok (.iload_n 3, 1) := decs_at bne_law1_0 4 (x := (407, .iload_n 3, 1)) rfl
theorem dL_law_408 : decode cL_law 408 = .ok (.iconst 2, 1) := decs_at bne_law1_0 5 (x := (408, .iconst 2, 1)) rfl
theorem dL_law_409 : decode cL_law 409 = .ok (.iadd, 1) := decs_at bne_law1_0 6 (x := (409, .iadd, 1)) rfl
theorem dL_law_410 : decode cL_law 410 = .ok (.iaload, 1) := decs_at bne_law1_0 7 (x := (410, .iaload, 1)) rfl
theorem dL_law_411 : decode cL_law 411 = .ok (.aload_n 0, 1) := decs_at bne_law1_0 8 (x := (411, .aload_n 0, 1)) rfl
theorem dL_law_412 : decode cL_law 412 = .ok (.iload_n 3, 1) := decs_at bne_law1_0 9 (x := (412, .iload_n 3, 1)) rfl
theorem dL_law_413 : decode cL_law 413 = .ok (.iconst 3, 1) := decs_at bne_law1_0 10 (x := (413, .iconst 3, 1)) rfl
theorem dL_law_414 : decode cL_law 414 = .ok (.iadd, 1) := decs_at bne_law1_0 11 (x := (414, .iadd, 1)) rfl
theorem dL_law_415 : decode cL_law 415 = .ok (.iaload, 1) := decs_at bne_law1_0 12 (x := (415, .iaload, 1)) rfl
theorem dL_law_416 : decode cL_law 416 = .ok (.i2l, 1) := decs_at bne_law1_0 13 (x := (416, .i2l, 1)) rfl
theorem dL_law_417 : decode cL_law 417 = .ok (.bipush 32, 2) := decs_at bne_law1_0 14 (x := (417, .bipush 32, 2)) rfl
theorem dL_law_419 : decode cL_law 419 = .ok (.lshl, 1) := decs_at bne_law1_0 15 (x := (419, .lshl, 1)) rfl
theorem dL_law_420 : decode cL_law 420 = .ok (.aload_n 0, 1) := decs_at bne_law1_0 16 (x := (420, .aload_n 0, 1)) rfl
theorem dL_law_421 : decode cL_law 421 = .ok (.iload_n 3, 1) := decs_at bne_law1_0 17 (x := (421, .iload_n 3, 1)) rfl
theorem dL_law_422 : decode cL_law 422 = .ok (.iconst 4, 1) := decs_at bne_law1_0 18 (x := (422, .iconst 4, 1)) rfl
theorem dL_law_423 : decode cL_law 423 = .ok (.iadd, 1) := decs_at bne_law1_0 19 (x := (423, .iadd, 1)) rfl
theorem dL_law_424 : decode cL_law 424 = .ok (.iaload, 1) := decs_at bne_law1_0 20 (x := (424, .iaload, 1)) rfl
theorem dL_law_425 : decode cL_law 425 = .ok (.i2l, 1) := decs_at bne_law1_0 21 (x := (425, .i2l, 1)) rfl
theorem dL_law_426 : decode cL_law 426 = .ok (.ldc2_w 45, 3) := decs_at bne_law1_0 22 (x := (426, .ldc2_w 45, 3)) rfl
theorem dL_law_429 : decode cL_law 429 = .ok (.land, 1) := decs_at bne_law1_0 23 (x := (429, .land, 1)) rfl
theorem bne_law1_1 : decs cL_law [(430, .lor, 1), (431, .invokevirtual 51, 3), (434, .pop, 1), (435, .goto 541, 3), (438, .aload_n 1, 1), (439, .aload_n 0, 1), (440, .iload_n 3, 1), (441, .iconst 1, 1), (442, .iadd, 1), (443, .iaload, 1), (444, .aload_n 0, 1), (445, .iload_n 3, 1), (446, .iconst 2, 1), (447, .iadd, 1), (448, .iaload, 1), (449, .aload_n 0, 1), (450, .iload_n 3, 1), (451, .iconst 3, 1), (452, .iadd, 1), (453, .iaload, 1), (454, .invokevirtual 52, 3), (457, .pop, 1), (458, .aload_n 2, 1), (459, .aload_n 0, 1)] = true := by decide +kernel
theorem dL_law_430 : decode cL_law 430 = .ok (.lor, 1) := decs_at bne_law1_1 0 (x := (430, .lor, 1)) rfl
theorem dL_law_431 : decode cL_law 431 = .ok (.invokevirtual 51, 3) := decs_at bne_law1_1 1 (x := (431, .invokevirtual 51, 3)) rfl
theorem dL_law_434 : decode cL_law 434 = .ok (.pop, 1) := decs_at bne_law1_1 2 (x := (434, .pop, 1)) rfl
theorem dL_law_435 : decode cL_law 435 = .ok (.goto 541, 3) := decs_at bne_law1_1 3 (x := (435, .goto 541, 3)) rfl
theorem dL_law_438 : decode cL_law 438 = .ok (.aload_n 1, 1) := decs_at bne_law1_1 4 (x := (438, .aload_n 1, 1)) rfl
theorem dL_law_439 : decode cL_law 439 = .ok (.aload_n 0, 1) := decs_at bne_law1_1 5 (x := (439, .aload_n 0, 1)) rfl
theorem dL_law_440 : decode cL_law 440 = .ok (.iload_n 3, 1) := decs_at bne_law1_1 6 (x := (440, .iload_n 3, 1)) rfl
theorem dL_law_441 : decode cL_law 441 = .ok (.iconst 1, 1) := decs_at bne_law1_1 7 (x := (441, .iconst 1, 1)) rfl
theorem dL_law_442 : decode cL_law 442 = .ok (.iadd, 1) := decs_at bne_law1_1 8 (x := (442, .iadd, 1)) rfl
theorem dL_law_443 : decode cL_law 443 = .ok (.iaload, 1) := decs_at bne_law1_1 9 (x := (443, .iaload, 1)) rfl
theorem dL_law_444 : decode cL_law 444 = .ok (.aload_n 0, 1) := decs_at bne_law1_1 10 (x := (444, .aload_n 0, 1)) rfl
theorem dL_law_445 : decode cL_law 445 = .ok (.iload_n 3, 1) := decs_at bne_law1_1 11 (x := (445, .iload_n 3, 1)) rfl
theorem dL_law_446 : decode cL_law 446 = .ok (.iconst 2, 1) := decs_at bne_law1_1 12 (x := (446, .iconst 2, 1)) rfl
theorem dL_law_447 : decode cL_law 447 = .ok (.iadd, 1) := decs_at bne_law1_1 13 (x := (447, .iadd, 1)) rfl
theorem dL_law_448 : decode cL_law 448 = .ok (.iaload, 1) := decs_at bne_law1_1 14 (x := (448, .iaload, 1)) rfl
theorem dL_law_449 : decode cL_law 449 = .ok (.aload_n 0, 1) := decs_at bne_law1_1 15 (x := (449, .aload_n 0, 1)) rfl
theorem dL_law_450 : decode cL_law 450 = .ok (.iload_n 3, 1) := decs_at bne_law1_1 16 (x := (450, .iload_n 3, 1)) rfl
theorem dL_law_451 : decode cL_law 451 = .ok (.iconst 3, 1) := decs_at bne_law1_1 17 (x := (451, .iconst 3, 1)) rfl
theorem dL_law_452 : decode cL_law 452 = .ok (.iadd, 1) := decs_at bne_law1_1 18 (x := (452, .iadd, 1)) rfl
theorem dL_law_453 : decode cL_law 453 = .ok (.iaload, 1) := decs_at bne_law1_1 19 (x := (453, .iaload, 1)) rfl
theorem dL_law_454 : decode cL_law 454 = .ok (.invokevirtual 52, 3) := decs_at bne_law1_1 20 (x := (454, .invokevirtual 52, 3)) rfl
theorem dL_law_457 : decode cL_law 457 = .ok (.pop, 1) := decs_at bne_law1_1 21 (x := (457, .pop, 1)) rfl
theorem dL_law_458 : decode cL_law 458 = .ok (.aload_n 2, 1) := decs_at bne_law1_1 22 (x := (458, .aload_n 2, 1)) rfl
theorem dL_law_459 : decode cL_law 459 = .ok (.aload_n 0, 1) := decs_at bne_law1_1 23 (x := (459, .aload_n 0, 1)) rfl
theorem bne_law1_2 : decs cL_law [(460, .iload_n 3, 1), (461, .iconst 1, 1), (462, .iadd, 1), (463, .iaload, 1), (464, .aload_n 0, 1), (465, .iload_n 3, 1), (466, .iconst 2, 1), (467, .iadd, 1), (468, .iaload, 1), (469, .aload_n 0, 1), (470, .iload_n 3, 1), (471, .iconst 3, 1), (472, .iadd, 1), (473, .iaload, 1), (474, .invokevirtual 55, 3), (477, .pop, 1), (478, .goto 498, 3), (481, .aload_n 1, 1), (482, .aload_n 0, 1), (483, .iload_n 3, 1), (484, .iconst 1, 1), (485, .iadd, 1), (486, .iaload, 1), (487, .aload_n 0, 1)] = true := by decide +kernel
theorem dL_law_460 : decode cL_law 460 = .ok (.iload_n 3, 1) := decs_at bne_law1_2 0 (x := (460, .iload_n 3, 1)) rfl
theorem dL_law_461 : decode cL_law 461 = .ok (.iconst 1, 1) := decs_at bne_law1_2 1 (x := (461, .iconst 1, 1)) rfl
theorem dL_law_462 : decode cL_law 462 = .ok (.iadd, 1) := decs_at bne_law1_2 2 (x := (462, .iadd, 1)) rfl
theorem dL_law_463 : decode cL_law 463 = .ok (.iaload, 1) := decs_at bne_law1_2 3 (x := (463, .iaload, 1)) rfl
theorem dL_law_464 : decode cL_law 464 = .ok (.aload_n 0, 1) := decs_at bne_law1_2 4 (x := (464, .aload_n 0, 1)) rfl
theorem dL_law_465 : decode cL_law 465 = .ok (.iload_n 3, 1) := decs_at bne_law1_2 5 (x := (465, .iload_n 3, 1)) rfl
theorem dL_law_466 : decode cL_law 466 = .ok (.iconst 2, 1) := decs_at bne_law1_2 6 (x := (466, .iconst 2, 1)) rfl
theorem dL_law_467 : decode cL_law 467 = .ok (.iadd, 1) := decs_at bne_law1_2 7 (x := (467, .iadd, 1)) rfl
theorem dL_law_468 : decode cL_law 468 = .ok (.iaload, 1) := decs_at bne_law1_2 8 (x := (468, .iaload, 1)) rfl
theorem dL_law_469 : decode cL_law 469 = .ok (.aload_n 0, 1) := decs_at bne_law1_2 9 (x := (469, .aload_n 0, 1)) rfl
theorem dL_law_470 : decode cL_law 470 = .ok (.iload_n 3, 1) := decs_at bne_law1_2 10 (x := (470, .iload_n 3, 1)) rfl
theorem dL_law_471 : decode cL_law 471 = .ok (.iconst 3, 1) := decs_at bne_law1_2 11 (x := (471, .iconst 3, 1)) rfl
theorem dL_law_472 : decode cL_law 472 = .ok (.iadd, 1) := decs_at bne_law1_2 12 (x := (472, .iadd, 1)) rfl
theorem dL_law_473 : decode cL_law 473 = .ok (.iaload, 1) := decs_at bne_law1_2 13 (x := (473, .iaload, 1)) rfl
theorem dL_law_474 : decode cL_law 474 = .ok (.invokevirtual 55, 3) := decs_at bne_law1_2 14 (x := (474, .invokevirtual 55, 3)) rfl
theorem dL_law_477 : decode cL_law 477 = .ok (.pop, 1) := decs_at bne_law1_2 15 (x := (477, .pop, 1)) rfl
theorem dL_law_478 : decode cL_law 478 = .ok (.goto 498, 3) := decs_at bne_law1_2 16 (x := (478, .goto 498, 3)) rfl
theorem dL_law_481 : decode cL_law 481 = .ok (.aload_n 1, 1) := decs_at bne_law1_2 17 (x := (481, .aload_n 1, 1)) rfl
theorem dL_law_482 : decode cL_law 482 = .ok (.aload_n 0, 1) := decs_at bne_law1_2 18 (x := (482, .aload_n 0, 1)) rfl
theorem dL_law_483 : decode cL_law 483 = .ok (.iload_n 3, 1) := decs_at bne_law1_2 19 (x := (483, .iload_n 3, 1)) rfl
theorem dL_law_484 : decode cL_law 484 = .ok (.iconst 1, 1) := decs_at bne_law1_2 20 (x := (484, .iconst 1, 1)) rfl
theorem dL_law_485 : decode cL_law 485 = .ok (.iadd, 1) := decs_at bne_law1_2 21 (x := (485, .iadd, 1)) rfl
theorem dL_law_486 : decode cL_law 486 = .ok (.iaload, 1) := decs_at bne_law1_2 22 (x := (486, .iaload, 1)) rfl
theorem dL_law_487 : decode cL_law 487 = .ok (.aload_n 0, 1) := decs_at bne_law1_2 23 (x := (487, .aload_n 0, 1)) rfl
theorem bne_law1_3 : decs cL_law [(488, .iload_n 3, 1), (489, .iconst 2, 1), (490, .iadd, 1), (491, .iaload, 1), (492, .aload_n 0, 1), (493, .iload_n 3, 1), (494, .iconst 3, 1), (495, .iadd, 1), (496, .iaload, 1), (497, .invokevirtual 56, 3), (500, .pop, 1), (501, .aload_n 2, 1), (502, .aload_n 0, 1), (503, .iload_n 3, 1), (504, .iconst 1, 1), (505, .iadd, 1), (506, .iaload, 1), (507, .aload_n 0, 1), (508, .iload_n 3, 1), (509, .iconst 2, 1), (510, .iadd, 1), (511, .iaload, 1), (512, .aload_n 0, 1), (513, .iload_n 3, 1)] = true := by decide +kernel
theorem dL_law_488 : decode cL_law 488 = .ok (.iload_n 3, 1) := decs_at bne_law1_3 0 (x := (488, .iload_n 3, 1)) rfl
theorem dL_law_489 : decode cL_law 489 = .ok (.iconst 2, 1) := decs_at bne_law1_3 1 (x := (489, .iconst 2, 1)) rfl
theorem dL_law_490 : decode cL_law 490 = .ok (.iadd, 1) := decs_at bne_law1_3 2 (x := (490, .iadd, 1)) rfl
theorem dL_law_491 : decode cL_law 491 = .ok (.iaload, 1) := decs_at bne_law1_3 3 (x := (491, .iaload, 1)) rfl
theorem dL_law_492 : decode cL_law 492 = .ok (.aload_n 0, 1) := decs_at bne_law1_3 4 (x := (492, .aload_n 0, 1)) rfl
theorem dL_law_493 : decode cL_law 493 = .ok (.iload_n 3, 1) := decs_at bne_law1_3 5 (x := (493, .iload_n 3, 1)) rfl
theorem dL_law_494 : decode cL_law 494 = .ok (.iconst 3, 1) := decs_at bne_law1_3 6 (x := (494, .iconst 3, 1)) rfl
theorem dL_law_495 : decode cL_law 495 = .ok (.iadd, 1) := decs_at bne_law1_3 7 (x := (495, .iadd, 1)) rfl
theorem dL_law_496 : decode cL_law 496 = .ok (.iaload, 1) := decs_at bne_law1_3 8 (x := (496, .iaload, 1)) rfl
theorem dL_law_497 : decode cL_law 497 = .ok (.invokevirtual 56, 3) := decs_at bne_law1_3 9 (x := (497, .invokevirtual 56, 3)) rfl
theorem dL_law_500 : decode cL_law 500 = .ok (.pop, 1) := decs_at bne_law1_3 10 (x := (500, .pop, 1)) rfl
theorem dL_law_501 : decode cL_law 501 = .ok (.aload_n 2, 1) := decs_at bne_law1_3 11 (x := (501, .aload_n 2, 1)) rfl
theorem dL_law_502 : decode cL_law 502 = .ok (.aload_n 0, 1) := decs_at bne_law1_3 12 (x := (502, .aload_n 0, 1)) rfl
theorem dL_law_503 : decode cL_law 503 = .ok (.iload_n 3, 1) := decs_at bne_law1_3 13 (x := (503, .iload_n 3, 1)) rfl
theorem dL_law_504 : decode cL_law 504 = .ok (.iconst 1, 1) := decs_at bne_law1_3 14 (x := (504, .iconst 1, 1)) rfl
theorem dL_law_505 : decode cL_law 505 = .ok (.iadd, 1) := decs_at bne_law1_3 15 (x := (505, .iadd, 1)) rfl
theorem dL_law_506 : decode cL_law 506 = .ok (.iaload, 1) := decs_at bne_law1_3 16 (x := (506, .iaload, 1)) rfl
theorem dL_law_507 : decode cL_law 507 = .ok (.aload_n 0, 1) := decs_at bne_law1_3 17 (x := (507, .aload_n 0, 1)) rfl
theorem dL_law_508 : decode cL_law 508 = .ok (.iload_n 3, 1) := decs_at bne_law1_3 18 (x := (508, .iload_n 3, 1)) rfl
theorem dL_law_509 : decode cL_law 509 = .ok (.iconst 2, 1) := decs_at bne_law1_3 19 (x := (509, .iconst 2, 1)) rfl
theorem dL_law_510 : decode cL_law 510 = .ok (.iadd, 1) := decs_at bne_law1_3 20 (x := (510, .iadd, 1)) rfl
theorem dL_law_511 : decode cL_law 511 = .ok (.iaload, 1) := decs_at bne_law1_3 21 (x := (511, .iaload, 1)) rfl
theorem dL_law_512 : decode cL_law 512 = .ok (.aload_n 0, 1) := decs_at bne_law1_3 22 (x := (512, .aload_n 0, 1)) rfl
theorem dL_law_513 : decode cL_law 513 = .ok (.iload_n 3, 1) := decs_at bne_law1_3 23 (x := (513, .iload_n 3, 1)) rfl
theorem bne_law1_4 : decs cL_law [(514, .iconst 3, 1), (515, .iadd, 1), (516, .iaload, 1), (517, .invokevirtual 59, 3), (520, .pop, 1), (521, .goto 455, 3), (524, .aload_n 1, 1), (525, .aload_n 0, 1), (526, .iload_n 3, 1), (527, .iconst 1, 1), (528, .iadd, 1), (529, .iaload, 1), (530, .aload_n 0, 1), (531, .iload_n 3, 1), (532, .iconst 2, 1), (533, .iadd, 1), (534, .iaload, 1), (535, .invokevirtual 60, 3), (538, .pop, 1), (539, .aload_n 2, 1), (540, .aload_n 0, 1), (541, .iload_n 3, 1), (542, .iconst 1, 1), (543, .iadd, 1)] = true := by decide +kernel
theorem dL_law_514 : decode cL_law 514 = .ok (.iconst 3, 1) := decs_at bne_law1_4 0 (x := (514, .iconst 3, 1)) rfl
theorem dL_law_515 : decode cL_law 515 = .ok (.iadd, 1) := decs_at bne_law1_4 1 (x := (515, .iadd, 1)) rfl
theorem dL_law_516 : decode cL_law 516 = .ok (.iaload, 1) := decs_at bne_law1_4 2 (x := (516, .iaload, 1)) rfl
theorem dL_law_517 : decode cL_law 517 = .ok (.invokevirtual 59, 3) := decs_at bne_law1_4 3 (x := (517, .invokevirtual 59, 3)) rfl
theorem dL_law_520 : decode cL_law 520 = .ok (.pop, 1) := decs_at bne_law1_4 4 (x := (520, .pop, 1)) rfl
theorem dL_law_521 : decode cL_law 521 = .ok (.goto 455, 3) := decs_at bne_law1_4 5 (x := (521, .goto 455, 3)) rfl
theorem dL_law_524 : decode cL_law 524 = .ok (.aload_n 1, 1) := decs_at bne_law1_4 6 (x := (524, .aload_n 1, 1)) rfl
theorem dL_law_525 : decode cL_law 525 = .ok (.aload_n 0, 1) := decs_at bne_law1_4 7 (x := (525, .aload_n 0, 1)) rfl
theorem dL_law_526 : decode cL_law 526 = .ok (.iload_n 3, 1) := decs_at bne_law1_4 8 (x := (526, .iload_n 3, 1)) rfl
theorem dL_law_527 : decode cL_law 527 = .ok (.iconst 1, 1) := decs_at bne_law1_4 9 (x := (527, .iconst 1, 1)) rfl
theorem dL_law_528 : decode cL_law 528 = .ok (.iadd, 1) := decs_at bne_law1_4 10 (x := (528, .iadd, 1)) rfl
theorem dL_law_529 : decode cL_law 529 = .ok (.iaload, 1) := decs_at bne_law1_4 11 (x := (529, .iaload, 1)) rfl
theorem dL_law_530 : decode cL_law 530 = .ok (.aload_n 0, 1) := decs_at bne_law1_4 12 (x := (530, .aload_n 0, 1)) rfl
theorem dL_law_531 : decode cL_law 531 = .ok (.iload_n 3, 1) := decs_at bne_law1_4 13 (x := (531, .iload_n 3, 1)) rfl
theorem dL_law_532 : decode cL_law 532 = .ok (.iconst 2, 1) := decs_at bne_law1_4 14 (x := (532, .iconst 2, 1)) rfl
theorem dL_law_533 : decode cL_law 533 = .ok (.iadd, 1) := decs_at bne_law1_4 15 (x := (533, .iadd, 1)) rfl
theorem dL_law_534 : decode cL_law 534 = .ok (.iaload, 1) := decs_at bne_law1_4 16 (x := (534, .iaload, 1)) rfl
theorem dL_law_535 : decode cL_law 535 = .ok (.invokevirtual 60, 3) := decs_at bne_law1_4 17 (x := (535, .invokevirtual 60, 3)) rfl
theorem dL_law_538 : decode cL_law 538 = .ok (.pop, 1) := decs_at bne_law1_4 18 (x := (538, .pop, 1)) rfl
theorem dL_law_539 : decode cL_law 539 = .ok (.aload_n 2, 1) := decs_at bne_law1_4 19 (x := (539, .aload_n 2, 1)) rfl
theorem dL_law_540 : decode cL_law 540 = .ok (.aload_n 0, 1) := decs_at bne_law1_4 20 (x := (540, .aload_n 0, 1)) rfl
theorem dL_law_541 : decode cL_law 541 = .ok (.iload_n 3, 1) := decs_at bne_law1_4 21 (x := (541, .iload_n 3, 1)) rfl
theorem dL_law_542 : decode cL_law 542 = .ok (.iconst 1, 1) := decs_at bne_law1_4 22 (x := (542, .iconst 1, 1)) rfl
theorem dL_law_543 : decode cL_law 543 = .ok (.iadd, 1) := decs_at bne_law1_4 23 (x := (543, .iadd, 1)) rfl
theorem bne_law1_5 : decs cL_law [(544, .iaload, 1), (545, .aload_n 0, 1), (546, .iload_n 3, 1), (547, .iconst 2, 1), (548, .iadd, 1), (549, .iaload, 1), (550, .invokevirtual 63, 3), (553, .pop, 1), (554, .goto 422, 3), (557, .aload_n 1, 1), (558, .aload_n 0, 1), (559, .iload_n 3, 1), (560, .iconst 1, 1), (561, .iadd, 1), (562, .iaload, 1), (563, .aload_n 0, 1), (564, .iload_n 3, 1), (565, .iconst 2, 1), (566, .iadd, 1), (567, .iaload, 1), (568, .aload_n 0, 1), (569, .iload_n 3, 1), (570, .iconst 3, 1), (571, .iadd, 1)] = true := by decide +kernel
theorem dL_law_544 : decode cL_law 544 = .ok (.iaload, 1) := decs_at bne_law1_5 0 (x := (544, .iaload, 1)) rfl
theorem dL_law_545 : decode cL_law 545 = .ok (.aload_n 0, 1) := decs_at bne_law1_5 1 (x := (545, .aload_n 0, 1)) rfl
theorem dL_law_546 : decode cL_law 546 = .ok (.iload_n 3, 1) := decs_at bne_law1_5 2 (x := (546, .iload_n 3, 1)) rfl
theorem dL_law_547 : decode cL_law 547 = .ok (.iconst 2, 1) := decs_at bne_law1_5 3 (x := (547, .iconst 2, 1)) rfl
theorem dL_law_548 : decode cL_law 548 = .ok (.iadd, 1) := decs_at bne_law1_5 4 (x := (548, .iadd, 1)) rfl
theorem dL_law_549 : decode cL_law 549 = .ok (.iaload, 1) := decs_at bne_law1_5 5 (x := (549, .iaload, 1)) rfl
theorem dL_law_550 : decode cL_law 550 = .ok (.invokevirtual 63, 3) := decs_at bne_law1_5 6 (x := (550, .invokevirtual 63, 3)) rfl
theorem dL_law_553 : decode cL_law 553 = .ok (.pop, 1) := decs_at bne_law1_5 7 (x := (553, .pop, 1)) rfl
theorem dL_law_554 : decode cL_law 554 = .ok (.goto 422, 3) := decs_at bne_law1_5 8 (x := (554, .goto 422, 3)) rfl
theorem dL_law_557 : decode cL_law 557 = .ok (.aload_n 1, 1) := decs_at bne_law1_5 9 (x := (557, .aload_n 1, 1)) rfl
theorem dL_law_558 : decode cL_law 558 = .ok (.aload_n 0, 1) := decs_at bne_law1_5 10 (x := (558, .aload_n 0, 1)) rfl
theorem dL_law_559 : decode cL_law 559 = .ok (.iload_n 3, 1) := decs_at bne_law1_5 11 (x := (559, .iload_n 3, 1)) rfl
theorem dL_law_560 : decode cL_law 560 = .ok (.iconst 1, 1) := decs_at bne_law1_5 12 (x := (560, .iconst 1, 1)) rfl
theorem dL_law_561 : decode cL_law 561 = .ok (.iadd, 1) := decs_at bne_law1_5 13 (x := (561, .iadd, 1)) rfl
theorem dL_law_562 : decode cL_law 562 = .ok (.iaload, 1) := decs_at bne_law1_5 14 (x := (562, .iaload, 1)) rfl
theorem dL_law_563 : decode cL_law 563 = .ok (.aload_n 0, 1) := decs_at bne_law1_5 15 (x := (563, .aload_n 0, 1)) rfl
theorem dL_law_564 : decode cL_law 564 = .ok (.iload_n 3, 1) := decs_at bne_law1_5 16 (x := (564, .iload_n 3, 1)) rfl
theorem dL_law_565 : decode cL_law 565 = .ok (.iconst 2, 1) := decs_at bne_law1_5 17 (x := (565, .iconst 2, 1)) rfl
theorem dL_law_566 : decode cL_law 566 = .ok (.iadd, 1) := decs_at bne_law1_5 18 (x := (566, .iadd, 1)) rfl
theorem dL_law_567 : decode cL_law 567 = .ok (.iaload, 1) := decs_at bne_law1_5 19 (x := (567, .iaload, 1)) rfl
theorem dL_law_568 : decode cL_law 568 = .ok (.aload_n 0, 1) := decs_at bne_law1_5 20 (x := (568, .aload_n 0, 1)) rfl
theorem dL_law_569 : decode cL_law 569 = .ok (.iload_n 3, 1) := decs_at bne_law1_5 21 (x := (569, .iload_n 3, 1)) rfl
theorem dL_law_570 : decode cL_law 570 = .ok (.iconst 3, 1) := decs_at bne_law1_5 22 (x := (570, .iconst 3, 1)) rfl
theorem dL_law_571 : decode cL_law 571 = .ok (.iadd, 1) := decs_at bne_law1_5 23 (x := (571, .iadd, 1)) rfl
theorem bne_law1_6 : decs cL_law [(572, .iaload, 1), (573, .invokevirtual 64, 3), (576, .pop, 1), (577, .aload_n 2, 1), (578, .aload_n 0, 1), (579, .iload_n 3, 1), (580, .iconst 1, 1), (581, .iadd, 1), (582, .iaload, 1), (583, .aload_n 0, 1), (584, .iload_n 3, 1), (585, .iconst 2, 1), (586, .iadd, 1), (587, .iaload, 1), (588, .aload_n 0, 1), (589, .iload_n 3, 1), (590, .iconst 3, 1), (591, .iadd, 1), (592, .iaload, 1), (593, .invokevirtual 67, 3), (596, .pop, 1), (597, .goto 379, 3), (600, .aload_n 1, 1), (601, .aload_n 0, 1)] = true := by decide +kernel
theorem dL_law_572 : decode cL_law 572 = .ok (.iaload, 1) := decs_at bne_law1_6 0 (x := (572, .iaload, 1)) rfl
theorem dL_law_573 : decode cL_law 573 = .ok (.invokevirtual 64, 3) := decs_at bne_law1_6 1 (x := (573, .invokevirtual 64, 3)) rfl
theorem dL_law_576 : decode cL_law 576 = .ok (.pop, 1) := decs_at bne_law1_6 2 (x := (576, .pop, 1)) rfl
theorem dL_law_577 : decode cL_law 577 = .ok (.aload_n 2, 1) := decs_at bne_law1_6 3 (x := (577, .aload_n 2, 1)) rfl
theorem dL_law_578 : decode cL_law 578 = .ok (.aload_n 0, 1) := decs_at bne_law1_6 4 (x := (578, .aload_n 0, 1)) rfl
theorem dL_law_579 : decode cL_law 579 = .ok (.iload_n 3, 1) := decs_at bne_law1_6 5 (x := (579, .iload_n 3, 1)) rfl
theorem dL_law_580 : decode cL_law 580 = .ok (.iconst 1, 1) := decs_at bne_law1_6 6 (x := (580, .iconst 1, 1)) rfl
theorem dL_law_581 : decode cL_law 581 = .ok (.iadd, 1) := decs_at bne_law1_6 7 (x := (581, .iadd, 1)) rfl
theorem dL_law_582 : decode cL_law 582 = .ok (.iaload, 1) := decs_at bne_law1_6 8 (x := (582, .iaload, 1)) rfl
theorem dL_law_583 : decode cL_law 583 = .ok (.aload_n 0, 1) := decs_at bne_law1_6 9 (x := (583, .aload_n 0, 1)) rfl
theorem dL_law_584 : decode cL_law 584 = .ok (.iload_n 3, 1) := decs_at bne_law1_6 10 (x := (584, .iload_n 3, 1)) rfl
theorem dL_law_585 : decode cL_law 585 = .ok (.iconst 2, 1) := decs_at bne_law1_6 11 (x := (585, .iconst 2, 1)) rfl
theorem dL_law_586 : decode cL_law 586 = .ok (.iadd, 1) := decs_at bne_law1_6 12 (x := (586, .iadd, 1)) rfl
theorem dL_law_587 : decode cL_law 587 = .ok (.iaload, 1) := decs_at bne_law1_6 13 (x := (587, .iaload, 1)) rfl
theorem dL_law_588 : decode cL_law 588 = .ok (.aload_n 0, 1) := decs_at bne_law1_6 14 (x := (588, .aload_n 0, 1)) rfl
theorem dL_law_589 : decode cL_law 589 = .ok (.iload_n 3, 1) := decs_at bne_law1_6 15 (x := (589, .iload_n 3, 1)) rfl
theorem dL_law_590 : decode cL_law 590 = .ok (.iconst 3, 1) := decs_at bne_law1_6 16 (x := (590, .iconst 3, 1)) rfl
theorem dL_law_591 : decode cL_law 591 = .ok (.iadd, 1) := decs_at bne_law1_6 17 (x := (591, .iadd, 1)) rfl
theorem dL_law_592 : decode cL_law 592 = .ok (.iaload, 1) := decs_at bne_law1_6 18 (x := (592, .iaload, 1)) rfl
theorem dL_law_593 : decode cL_law 593 = .ok (.invokevirtual 67, 3) := decs_at bne_law1_6 19 (x := (593, .invokevirtual 67, 3)) rfl
theorem dL_law_596 : decode cL_law 596 = .ok (.pop, 1) := decs_at bne_law1_6 20 (x := (596, .pop, 1)) rfl
theorem dL_law_597 : decode cL_law 597 = .ok (.goto 379, 3) := decs_at bne_law1_6 21 (x := (597, .goto 379, 3)) rfl
theorem dL_law_600 : decode cL_law 600 = .ok (.aload_n 1, 1) := decs_at bne_law1_6 22 (x := (600, .aload_n 1, 1)) rfl
theorem dL_law_601 : decode cL_law 601 = .ok (.aload_n 0, 1) := decs_at bne_law1_6 23 (x := (601, .aload_n 0, 1)) rfl
theorem bne_law1_7 : decs cL_law [(602, .iload_n 3, 1), (603, .iconst 1, 1), (604, .iadd, 1), (605, .iaload, 1), (606, .invokevirtual 68, 3), (609, .pop, 1), (610, .aload_n 2, 1), (611, .aload_n 0, 1), (612, .iload_n 3, 1), (613, .iconst 1, 1), (614, .iadd, 1), (615, .iaload, 1), (616, .invokevirtual 71, 3), (619, .pop, 1), (620, .goto 356, 3), (623, .aload_n 1, 1), (624, .aload_n 0, 1), (625, .iload_n 3, 1), (626, .iconst 1, 1), (627, .iadd, 1), (628, .iaload, 1), (629, .aload_n 0, 1), (630, .iload_n 3, 1), (631, .iconst 2, 1)] = true := by decide +kernel
theorem dL_law_602 : decode cL_law 602 = .ok (.iload_n 3, 1) := decs_at bne_law1_7 0 (x := (602, .iload_n 3, 1)) rfl
theorem dL_law_603 : decode cL_law 603 = .ok (.iconst 1, 1) := decs_at bne_law1_7 1 (x := (603, .iconst 1, 1)) rfl
theorem dL_law_604 : decode cL_law 604 = .ok (.iadd, 1) := decs_at bne_law1_7 2 (x := (604, .iadd, 1)) rfl
theorem dL_law_605 : decode cL_law 605 = .ok (.iaload, 1) := decs_at bne_law1_7 3 (x := (605, .iaload, 1)) rfl
theorem dL_law_606 : decode cL_law 606 = .ok (.invokevirtual 68, 3) := decs_at bne_law1_7 4 (x := (606, .invokevirtual 68, 3)) rfl
theorem dL_law_609 : decode cL_law 609 = .ok (.pop, 1) := decs_at bne_law1_7 5 (x := (609, .pop, 1)) rfl
theorem dL_law_610 : decode cL_law 610 = .ok (.aload_n 2, 1) := decs_at bne_law1_7 6 (x := (610, .aload_n 2, 1)) rfl
theorem dL_law_611 : decode cL_law 611 = .ok (.aload_n 0, 1) := decs_at bne_law1_7 7 (x := (611, .aload_n 0, 1)) rfl
theorem dL_law_612 : decode cL_law 612 = .ok (.iload_n 3, 1) := decs_at bne_law1_7 8 (x := (612, .iload_n 3, 1)) rfl
theorem dL_law_613 : decode cL_law 613 = .ok (.iconst 1, 1) := decs_at bne_law1_7 9 (x := (613, .iconst 1, 1)) rfl
theorem dL_law_614 : decode cL_law 614 = .ok (.iadd, 1) := decs_at bne_law1_7 10 (x := (614, .iadd, 1)) rfl
theorem dL_law_615 : decode cL_law 615 = .ok (.iaload, 1) := decs_at bne_law1_7 11 (x := (615, .iaload, 1)) rfl
theorem dL_law_616 : decode cL_law 616 = .ok (.invokevirtual 71, 3) := decs_at bne_law1_7 12 (x := (616, .invokevirtual 71, 3)) rfl
theorem dL_law_619 : decode cL_law 619 = .ok (.pop, 1) := decs_at bne_law1_7 13 (x := (619, .pop, 1)) rfl
theorem dL_law_620 : decode cL_law 620 = .ok (.goto 356, 3) := decs_at bne_law1_7 14 (x := (620, .goto 356, 3)) rfl
theorem dL_law_623 : decode cL_law 623 = .ok (.aload_n 1, 1) := decs_at bne_law1_7 15 (x := (623, .aload_n 1, 1)) rfl
theorem dL_law_624 : decode cL_law 624 = .ok (.aload_n 0, 1) := decs_at bne_law1_7 16 (x := (624, .aload_n 0, 1)) rfl
theorem dL_law_625 : decode cL_law 625 = .ok (.iload_n 3, 1) := decs_at bne_law1_7 17 (x := (625, .iload_n 3, 1)) rfl
theorem dL_law_626 : decode cL_law 626 = .ok (.iconst 1, 1) := decs_at bne_law1_7 18 (x := (626, .iconst 1, 1)) rfl
theorem dL_law_627 : decode cL_law 627 = .ok (.iadd, 1) := decs_at bne_law1_7 19 (x := (627, .iadd, 1)) rfl
theorem dL_law_628 : decode cL_law 628 = .ok (.iaload, 1) := decs_at bne_law1_7 20 (x := (628, .iaload, 1)) rfl
theorem dL_law_629 : decode cL_law 629 = .ok (.aload_n 0, 1) := decs_at bne_law1_7 21 (x := (629, .aload_n 0, 1)) rfl
theorem dL_law_630 : decode cL_law 630 = .ok (.iload_n 3, 1) := decs_at bne_law1_7 22 (x := (630, .iload_n 3, 1)) rfl
theorem dL_law_631 : decode cL_law 631 = .ok (.iconst 2, 1) := decs_at bne_law1_7 23 (x := (631, .iconst 2, 1)) rfl
theorem bne_law1_8 : decs cL_law [(632, .iadd, 1), (633, .iaload, 1), (634, .invokevirtual 72, 3), (637, .pop2, 1), (638, .aload_n 2, 1), (639, .aload_n 0, 1), (640, .iload_n 3, 1), (641, .iconst 1, 1), (642, .iadd, 1), (643, .iaload, 1), (644, .aload_n 0, 1), (645, .iload_n 3, 1), (646, .iconst 2, 1), (647, .iadd, 1), (648, .iaload, 1), (649, .invokevirtual 75, 3), (652, .pop2, 1), (653, .goto 323, 3), (656, .aload_n 1, 1), (657, .aload_n 0, 1), (658, .iload_n 3, 1), (659, .iconst 1, 1), (660, .iadd, 1), (661, .iaload, 1)] = true := by decide +kernel
theorem dL_law_632 : decode cL_law 632 = .ok (.iadd, 1) := decs_at bne_law1_8 0 (x := (632, .iadd, 1)) rfl
theorem dL_law_633 : decode cL_law 633 = .ok (.iaload, 1) := decs_at bne_law1_8 1 (x := (633, .iaload, 1)) rfl
theorem dL_law_634 : decode cL_law 634 = .ok (.invokevirtual 72, 3) := decs_at bne_law1_8 2 (x := (634, .invokevirtual 72, 3)) rfl
theorem dL_law_637 : decode cL_law 637 = .ok (.pop2, 1) := decs_at bne_law1_8 3 (x := (637, .pop2, 1)) rfl
theorem dL_law_638 : decode cL_law 638 = .ok (.aload_n 2, 1) := decs_at bne_law1_8 4 (x := (638, .aload_n 2, 1)) rfl
theorem dL_law_639 : decode cL_law 639 = .ok (.aload_n 0, 1) := decs_at bne_law1_8 5 (x := (639, .aload_n 0, 1)) rfl
theorem dL_law_640 : decode cL_law 640 = .ok (.iload_n 3, 1) := decs_at bne_law1_8 6 (x := (640, .iload_n 3, 1)) rfl
theorem dL_law_641 : decode cL_law 641 = .ok (.iconst 1, 1) := decs_at bne_law1_8 7 (x := (641, .iconst 1, 1)) rfl
theorem dL_law_642 : decode cL_law 642 = .ok (.iadd, 1) := decs_at bne_law1_8 8 (x := (642, .iadd, 1)) rfl
theorem dL_law_643 : decode cL_law 643 = .ok (.iaload, 1) := decs_at bne_law1_8 9 (x := (643, .iaload, 1)) rfl
theorem dL_law_644 : decode cL_law 644 = .ok (.aload_n 0, 1) := decs_at bne_law1_8 10 (x := (644, .aload_n 0, 1)) rfl
theorem dL_law_645 : decode cL_law 645 = .ok (.iload_n 3, 1) := decs_at bne_law1_8 11 (x := (645, .iload_n 3, 1)) rfl
theorem dL_law_646 : decode cL_law 646 = .ok (.iconst 2, 1) := decs_at bne_law1_8 12 (x := (646, .iconst 2, 1)) rfl
theorem dL_law_647 : decode cL_law 647 = .ok (.iadd, 1) := decs_at bne_law1_8 13 (x := (647, .iadd, 1)) rfl
theorem dL_law_648 : decode cL_law 648 = .ok (.iaload, 1) := decs_at bne_law1_8 14 (x := (648, .iaload, 1)) rfl
theorem dL_law_649 : decode cL_law 649 = .ok (.invokevirtual 75, 3) := decs_at bne_law1_8 15 (x := (649, .invokevirtual 75, 3)) rfl
theorem dL_law_652 : decode cL_law 652 = .ok (.pop2, 1) := decs_at bne_law1_8 16 (x := (652, .pop2, 1)) rfl
theorem dL_law_653 : decode cL_law 653 = .ok (.goto 323, 3) := decs_at bne_law1_8 17 (x := (653, .goto 323, 3)) rfl
theorem dL_law_656 : decode cL_law 656 = .ok (.aload_n 1, 1) := decs_at bne_law1_8 18 (x := (656, .aload_n 1, 1)) rfl
theorem dL_law_657 : decode cL_law 657 = .ok (.aload_n 0, 1) := decs_at bne_law1_8 19 (x := (657, .aload_n 0, 1)) rfl
theorem dL_law_658 : decode cL_law 658 = .ok (.iload_n 3, 1) := decs_at bne_law1_8 20 (x := (658, .iload_n 3, 1)) rfl
theorem dL_law_659 : decode cL_law 659 = .ok (.iconst 1, 1) := decs_at bne_law1_8 21 (x := (659, .iconst 1, 1)) rfl
theorem dL_law_660 : decode cL_law 660 = .ok (.iadd, 1) := decs_at bne_law1_8 22 (x := (660, .iadd, 1)) rfl
theorem dL_law_661 : decode cL_law 661 = .ok (.iaload, 1) := decs_at bne_law1_8 23 (x := (661, .iaload, 1)) rfl

theorem bne_law1_9 : decs cL_law [(662, .aload_n 0, 1), (663, .iload_n 3, 1), (664, .iconst 2, 1), (665, .iadd, 1), (666, .iaload, 1), (667, .invokevirtual 76, 3), (670, .pop, 1), (671, .aload_n 2, 1), (672, .aload_n 0, 1), (673, .iload_n 3, 1), (674, .iconst 1, 1), (675, .iadd, 1), (676, .iaload, 1), (677, .aload_n 0, 1), (678, .iload_n 3, 1), (679, .iconst 2, 1), (680, .iadd, 1), (681, .iaload, 1)] = true := by decide +kernel
theorem dL_law_662 : decode cL_law 662 = .ok (.aload_n 0, 1) := decs_at bne_law1_9 0 (x := (662, .aload_n 0, 1)) rfl
theorem dL_law_663 : decode cL_law 663 = .ok (.iload_n 3, 1) := decs_at bne_law1_9 1 (x := (663, .iload_n 3, 1)) rfl
theorem dL_law_664 : decode cL_law 664 = .ok (.iconst 2, 1) := decs_at bne_law1_9 2 (x := (664, .iconst 2, 1)) rfl
theorem dL_law_665 : decode cL_law 665 = .ok (.iadd, 1) := decs_at bne_law1_9 3 (x := (665, .iadd, 1)) rfl
theorem dL_law_666 : decode cL_law 666 = .ok (.iaload, 1) := decs_at bne_law1_9 4 (x := (666, .iaload, 1)) rfl
theorem dL_law_667 : decode cL_law 667 = .ok (.invokevirtual 76, 3) := decs_at bne_law1_9 5 (x := (667, .invokevirtual 76, 3)) rfl
theorem dL_law_670 : decode cL_law 670 = .ok (.pop, 1) := decs_at bne_law1_9 6 (x := (670, .pop, 1)) rfl
theorem dL_law_671 : decode cL_law 671 = .ok (.aload_n 2, 1) := decs_at bne_law1_9 7 (x := (671, .aload_n 2, 1)) rfl
theorem dL_law_672 : decode cL_law 672 = .ok (.aload_n 0, 1) := decs_at bne_law1_9 8 (x := (672, .aload_n 0, 1)) rfl
theorem dL_law_673 : decode cL_law 673 = .ok (.iload_n 3, 1) := decs_at bne_law1_9 9 (x := (673, .iload_n 3, 1)) rfl
theorem dL_law_674 : decode cL_law 674 = .ok (.iconst 1, 1) := decs_at bne_law1_9 10 (x := (674, .iconst 1, 1)) rfl
theorem dL_law_675 : decode cL_law 675 = .ok (.iadd, 1) := decs_at bne_law1_9 11 (x := (675, .iadd, 1)) rfl
theorem dL_law_676 : decode cL_law 676 = .ok (.iaload, 1) := decs_at bne_law1_9 12 (x := (676, .iaload, 1)) rfl
theorem dL_law_677 : decode cL_law 677 = .ok (.aload_n 0, 1) := decs_at bne_law1_9 13 (x := (677, .aload_n 0, 1)) rfl
theorem dL_law_678 : decode cL_law 678 = .ok (.iload_n 3, 1) := decs_at bne_law1_9 14 (x := (678, .iload_n 3, 1)) rfl
theorem dL_law_679 : decode cL_law 679 = .ok (.iconst 2, 1) := decs_at bne_law1_9 15 (x := (679, .iconst 2, 1)) rfl
theorem dL_law_680 : decode cL_law 680 = .ok (.iadd, 1) := decs_at bne_law1_9 16 (x := (680, .iadd, 1)) rfl
theorem dL_law_681 : decode cL_law 681 = .ok (.iaload, 1) := decs_at bne_law1_9 17 (x := (681, .iaload, 1)) rfl