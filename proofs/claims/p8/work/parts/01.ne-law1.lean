theorem bne_law1_0 : decs cL_law [(403, .iload_n 3, 1), (404, .iconst 1, 1), (405, .iadd, 1), (406, .iaload, 1), (407, .aload_n 0, 1), (408, .iload_n 3, 1), (409, .iconst 2, 1), (410, .iadd, 1), (411, .iaload, 1), (412, .aload_n 0, 1), (413, .iload_n 3, 1), (414, .iconst 3, 1), (415, .iadd, 1), (416, .iaload, 1), (417, .i2l, 1), (418, .bipush 32, 2), (420, .lshl, 1), (421, .aload_n 0, 1), (422, .iload_n 3, 1), (423, .iconst 4, 1), (424, .iadd, 1), (425, .iaload, 1), (426, .i2l, 1), (427, .ldc2_w 45, 3)] = true := by decide +kernel
theorem dL_law_403 : decode cL_law 403 = .ok (.iload_n 3, 1) := decs_at bne_law1_0 0 (x := (403, .iload_n 3, 1)) rfl
theorem dL_law_404 : decode cL_law 404 = .ok (.iconst 1, 1) := decs_at bne_law1_0 1 (x := (404, .iconst 1, 1)) rfl
theorem dL_law_405 : decode cL_law 405 = .ok (.iadd, 1) := decs_at bne_law1_0 2 (x := (405, .iadd, 1)) rfl
theorem dL_law_406 : decode cL_law 406 = .ok (.iaload, 1) := decs_at bne_law1_0 3 (x := (406, .iaload, 1)) rfl
theorem dL_law_407 : decode cL_law 407 = .ok (.aload_n 0, 1) := decs_at bne_law1_0 4 (x := (407, .aload_n 0, 1)) rfl
theorem dL_law_408 : decode cL_law 408 = .ok (.iload_n 3, 1) := decs_at bne_law1_0 5 (x := (408, .iload_n 3, 1)) rfl
theorem dL_law_409 : decode cL_law 409 = .ok (.iconst 2, 1) := decs_at bne_law1_0 6 (x := (409, .iconst 2, 1)) rfl
theorem dL_law_410 : decode cL_law 410 = .ok (.iadd, 1) := decs_at bne_law1_0 7 (x := (410, .iadd, 1)) rfl
theorem dL_law_411 : decode cL_law 411 = .ok (.iaload, 1) := decs_at bne_law1_0 8 (x := (411, .iaload, 1)) rfl
theorem dL_law_412 : decode cL_law 412 = .ok (.aload_n 0, 1) := decs_at bne_law1_0 9 (x := (412, .aload_n 0, 1)) rfl
theorem dL_law_413 : decode cL_law 413 = .ok (.iload_n 3, 1) := decs_at bne_law1_0 10 (x := (413, .iload_n 3, 1)) rfl
theorem dL_law_414 : decode cL_law 414 = .ok (.iconst 3, 1) := decs_at bne_law1_0 11 (x := (414, .iconst 3, 1)) rfl
theorem dL_law_415 : decode cL_law 415 = .ok (.iadd, 1) := decs_at bne_law1_0 12 (x := (415, .iadd, 1)) rfl
theorem dL_law_416 : decode cL_law 416 = .ok (.iaload, 1) := decs_at bne_law1_0 13 (x := (416, .iaload, 1)) rfl
theorem dL_law_417 : decode cL_law 417 = .ok (.i2l, 1) := decs_at bne_law1_0 14 (x := (417, .i2l, 1)) rfl
theorem dL_law_418 : decode cL_law 418 = .ok (.bipush 32, 2) := decs_at bne_law1_0 15 (x := (418, .bipush 32, 2)) rfl
theorem dL_law_420 : decode cL_law 420 = .ok (.lshl, 1) := decs_at bne_law1_0 16 (x := (420, .lshl, 1)) rfl
theorem dL_law_421 : decode cL_law 421 = .ok (.aload_n 0, 1) := decs_at bne_law1_0 17 (x := (421, .aload_n 0, 1)) rfl
theorem dL_law_422 : decode cL_law 422 = .ok (.iload_n 3, 1) := decs_at bne_law1_0 18 (x := (422, .iload_n 3, 1)) rfl
theorem dL_law_423 : decode cL_law 423 = .ok (.iconst 4, 1) := decs_at bne_law1_0 19 (x := (423, .iconst 4, 1)) rfl
theorem dL_law_424 : decode cL_law 424 = .ok (.iadd, 1) := decs_at bne_law1_0 20 (x := (424, .iadd, 1)) rfl
theorem dL_law_425 : decode cL_law 425 = .ok (.iaload, 1) := decs_at bne_law1_0 21 (x := (425, .iaload, 1)) rfl
theorem dL_law_426 : decode cL_law 426 = .ok (.i2l, 1) := decs_at bne_law1_0 22 (x := (426, .i2l, 1)) rfl
theorem dL_law_427 : decode cL_law 427 = .ok (.ldc2_w 45, 3) := decs_at bne_law1_0 23 (x := (427, .ldc2_w 45, 3)) rfl
theorem bne_law1_1 : decs cL_law [(430, .land, 1), (431, .lor, 1), (432, .invokevirtual 51, 3), (435, .pop, 1), (436, .goto 541, 3), (439, .aload_n 1, 1), (440, .aload_n 0, 1), (441, .iload_n 3, 1), (442, .iconst 1, 1), (443, .iadd, 1), (444, .iaload, 1), (445, .aload_n 0, 1), (446, .iload_n 3, 1), (447, .iconst 2, 1), (448, .iadd, 1), (449, .iaload, 1), (450, .aload_n 0, 1), (451, .iload_n 3, 1), (452, .iconst 3, 1), (453, .iadd, 1), (454, .iaload, 1), (455, .invokevirtual 52, 3), (458, .pop, 1), (459, .aload_n 2, 1)] = true := by decide +kernel
theorem dL_law_430 : decode cL_law 430 = .ok (.land, 1) := decs_at bne_law1_1 0 (x := (430, .land, 1)) rfl
theorem dL_law_431 : decode cL_law 431 = .ok (.lor, 1) := decs_at bne_law1_1 1 (x := (431, .lor, 1)) rfl
theorem dL_law_432 : decode cL_law 432 = .ok (.invokevirtual 51, 3) := decs_at bne_law1_1 2 (x := (432, .invokevirtual 51, 3)) rfl
theorem dL_law_435 : decode cL_law 435 = .ok (.pop, 1) := decs_at bne_law1_1 3 (x := (435, .pop, 1)) rfl
theorem dL_law_436 : decode cL_law 436 = .ok (.goto 541, 3) := decs_at bne_law1_1 4 (x := (436, .goto 541, 3)) rfl
theorem dL_law_439 : decode cL_law 439 = .ok (.aload_n 1, 1) := decs_at bne_law1_1 5 (x := (439, .aload_n 1, 1)) rfl
theorem dL_law_440 : decode cL_law 440 = .ok (.aload_n 0, 1) := decs_at bne_law1_1 6 (x := (440, .aload_n 0, 1)) rfl
theorem dL_law_441 : decode cL_law 441 = .ok (.iload_n 3, 1) := decs_at bne_law1_1 7 (x := (441, .iload_n 3, 1)) rfl
theorem dL_law_442 : decode cL_law 442 = .ok (.iconst 1, 1) := decs_at bne_law1_1 8 (x := (442, .iconst 1, 1)) rfl
theorem dL_law_443 : decode cL_law 443 = .ok (.iadd, 1) := decs_at bne_law1_1 9 (x := (443, .iadd, 1)) rfl
theorem dL_law_444 : decode cL_law 444 = .ok (.iaload, 1) := decs_at bne_law1_1 10 (x := (444, .iaload, 1)) rfl
theorem dL_law_445 : decode cL_law 445 = .ok (.aload_n 0, 1) := decs_at bne_law1_1 11 (x := (445, .aload_n 0, 1)) rfl
theorem dL_law_446 : decode cL_law 446 = .ok (.iload_n 3, 1) := decs_at bne_law1_1 12 (x := (446, .iload_n 3, 1)) rfl
theorem dL_law_447 : decode cL_law 447 = .ok (.iconst 2, 1) := decs_at bne_law1_1 13 (x := (447, .iconst 2, 1)) rfl
theorem dL_law_448 : decode cL_law 448 = .ok (.iadd, 1) := decs_at bne_law1_1 14 (x := (448, .iadd, 1)) rfl
theorem dL_law_449 : decode cL_law 449 = .ok (.iaload, 1) := decs_at bne_law1_1 15 (x := (449, .iaload, 1)) rfl
theorem dL_law_450 : decode cL_law 450 = .ok (.aload_n 0, 1) := decs_at bne_law1_1 16 (x := (450, .aload_n 0, 1)) rfl
theorem dL_law_451 : decode cL_law 451 = .ok (.iload_n 3, 1) := decs_at bne_law1_1 17 (x := (451, .iload_n 3, 1)) rfl
theorem dL_law_452 : decode cL_law 452 = .ok (.iconst 3, 1) := decs_at bne_law1_1 18 (x := (452, .iconst 3, 1)) rfl
theorem dL_law_453 : decode cL_law 453 = .ok (.iadd, 1) := decs_at bne_law1_1 19 (x := (453, .iadd, 1)) rfl
theorem dL_law_454 : decode cL_law 454 = .ok (.iaload, 1) := decs_at bne_law1_1 20 (x := (454, .iaload, 1)) rfl
theorem dL_law_455 : decode cL_law 455 = .ok (.invokevirtual 52, 3) := decs_at bne_law1_1 21 (x := (455, .invokevirtual 52, 3)) rfl
theorem dL_law_458 : decode cL_law 458 = .ok (.pop, 1) := decs_at bne_law1_1 22 (x := (458, .pop, 1)) rfl
theorem dL_law_459 : decode cL_law 459 = .ok (.aload_n 2, 1) := decs_at bne_law1_1 23 (x := (459, .aload_n 2, 1)) rfl
theorem bne_law1_2 : decs cL_law [(460, .aload_n 0, 1), (461, .iload_n 3, 1), (462, .iconst 1, 1), (463, .iadd, 1), (464, .iaload, 1), (465, .aload_n 0, 1), (466, .iload_n 3, 1), (467, .iconst 2, 1), (468, .iadd, 1), (469, .iaload, 1), (470, .aload_n 0, 1), (471, .iload_n 3, 1), (472, .iconst 3, 1), (473, .iadd, 1), (474, .iaload, 1), (475, .invokevirtual 55, 3), (478, .pop, 1), (479, .goto 498, 3), (482, .aload_n 1, 1), (483, .aload_n 0, 1), (484, .iload_n 3, 1), (485, .iconst 1, 1), (486, .iadd, 1), (487, .iaload, 1)] = true := by decide +kernel
theorem dL_law_460 : decode cL_law 460 = .ok (.aload_n 0, 1) := decs_at bne_law1_2 0 (x := (460, .aload_n 0, 1)) rfl
theorem dL_law_461 : decode cL_law 461 = .ok (.iload_n 3, 1) := decs_at bne_law1_2 1 (x := (461, .iload_n 3, 1)) rfl
theorem dL_law_462 : decode cL_law 462 = .ok (.iconst 1, 1) := decs_at bne_law1_2 2 (x := (462, .iconst 1, 1)) rfl
theorem dL_law_463 : decode cL_law 463 = .ok (.iadd, 1) := decs_at bne_law1_2 3 (x := (463, .iadd, 1)) rfl
theorem dL_law_464 : decode cL_law 464 = .ok (.iaload, 1) := decs_at bne_law1_2 4 (x := (464, .iaload, 1)) rfl
theorem dL_law_465 : decode cL_law 465 = .ok (.aload_n 0, 1) := decs_at bne_law1_2 5 (x := (465, .aload_n 0, 1)) rfl
theorem dL_law_466 : decode cL_law 466 = .ok (.iload_n 3, 1) := decs_at bne_law1_2 6 (x := (466, .iload_n 3, 1)) rfl
theorem dL_law_467 : decode cL_law 467 = .ok (.iconst 2, 1) := decs_at bne_law1_2 7 (x := (467, .iconst 2, 1)) rfl
theorem dL_law_468 : decode cL_law 468 = .ok (.iadd, 1) := decs_at bne_law1_2 8 (x := (468, .iadd, 1)) rfl
theorem dL_law_469 : decode cL_law 469 = .ok (.iaload, 1) := decs_at bne_law1_2 9 (x := (469, .iaload, 1)) rfl
theorem dL_law_470 : decode cL_law 470 = .ok (.aload_n 0, 1) := decs_at bne_law1_2 10 (x := (470, .aload_n 0, 1)) rfl
theorem dL_law_471 : decode cL_law 471 = .ok (.iload_n 3, 1) := decs_at bne_law1_2 11 (x := (471, .iload_n 3, 1)) rfl
theorem dL_law_472 : decode cL_law 472 = .ok (.iconst 3, 1) := decs_at bne_law1_2 12 (x := (472, .iconst 3, 1)) rfl
theorem dL_law_473 : decode cL_law 473 = .ok (.iadd, 1) := decs_at bne_law1_2 13 (x := (473, .iadd, 1)) rfl
theorem dL_law_474 : decode cL_law 474 = .ok (.iaload, 1) := decs_at bne_law1_2 14 (x := (474, .iaload, 1)) rfl
theorem dL_law_475 : decode cL_law 475 = .ok (.invokevirtual 55, 3) := decs_at bne_law1_2 15 (x := (475, .invokevirtual 55, 3)) rfl
theorem dL_law_478 : decode cL_law 478 = .ok (.pop, 1) := decs_at bne_law1_2 16 (x := (478, .pop, 1)) rfl
theorem dL_law_479 : decode cL_law 479 = .ok (.goto 498, 3) := decs_at bne_law1_2 17 (x := (479, .goto 498, 3)) rfl
theorem dL_law_482 : decode cL_law 482 = .ok (.aload_n 1, 1) := decs_at bne_law1_2 18 (x := (482, .aload_n 1, 1)) rfl
theorem dL_law_483 : decode cL_law 483 = .ok (.aload_n 0, 1) := decs_at bne_law1_2 19 (x := (483, .aload_n 0, 1)) rfl
theorem dL_law_484 : decode cL_law 484 = .ok (.iload_n 3, 1) := decs_at bne_law1_2 20 (x := (484, .iload_n 3, 1)) rfl
theorem dL_law_485 : decode cL_law 485 = .ok (.iconst 1, 1) := decs_at bne_law1_2 21 (x := (485, .iconst 1, 1)) rfl
theorem dL_law_486 : decode cL_law 486 = .ok (.iadd, 1) := decs_at bne_law1_2 22 (x := (486, .iadd, 1)) rfl
theorem dL_law_487 : decode cL_law 487 = .ok (.iaload, 1) := decs_at bne_law1_2 23 (x := (487, .iaload, 1)) rfl
theorem bne_law1_3 : decs cL_law [(488, .aload_n 0, 1), (489, .iload_n 3, 1), (490, .iconst 2, 1), (491, .iadd, 1), (492, .iaload, 1), (493, .aload_n 0, 1), (494, .iload_n 3, 1), (495, .iconst 3, 1), (496, .iadd, 1), (497, .iaload, 1), (498, .invokevirtual 56, 3), (501, .pop, 1), (502, .aload_n 2, 1), (503, .aload_n 0, 1), (504, .iload_n 3, 1), (505, .iconst 1, 1), (506, .iadd, 1), (507, .iaload, 1), (508, .aload_n 0, 1), (509, .iload_n 3, 1), (510, .iconst 2, 1), (511, .iadd, 1), (512, .iaload, 1), (513, .aload_n 0, 1)] = true := by decide +kernel
theorem dL_law_488 : decode cL_law 488 = .ok (.aload_n 0, 1) := decs_at bne_law1_3 0 (x := (488, .aload_n 0, 1)) rfl
theorem dL_law_489 : decode cL_law 489 = .ok (.iload_n 3, 1) := decs_at bne_law1_3 1 (x := (489, .iload_n 3, 1)) rfl
theorem dL_law_490 : decode cL_law 490 = .ok (.iconst 2, 1) := decs_at bne_law1_3 2 (x := (490, .iconst 2, 1)) rfl
theorem dL_law_491 : decode cL_law 491 = .ok (.iadd, 1) := decs_at bne_law1_3 3 (x := (491, .iadd, 1)) rfl
theorem dL_law_492 : decode cL_law 492 = .ok (.iaload, 1) := decs_at bne_law1_3 4 (x := (492, .iaload, 1)) rfl
theorem dL_law_493 : decode cL_law 493 = .ok (.aload_n 0, 1) := decs_at bne_law1_3 5 (x := (493, .aload_n 0, 1)) rfl
theorem dL_law_494 : decode cL_law 494 = .ok (.iload_n 3, 1) := decs_at bne_law1_3 6 (x := (494, .iload_n 3, 1)) rfl
theorem dL_law_495 : decode cL_law 495 = .ok (.iconst 3, 1) := decs_at bne_law1_3 7 (x := (495, .iconst 3, 1)) rfl
theorem dL_law_496 : decode cL_law 496 = .ok (.iadd, 1) := decs_at bne_law1_3 8 (x := (496, .iadd, 1)) rfl
theorem dL_law_497 : decode cL_law 497 = .ok (.iaload, 1) := decs_at bne_law1_3 9 (x := (497, .iaload, 1)) rfl
theorem dL_law_498 : decode cL_law 498 = .ok (.invokevirtual 56, 3) := decs_at bne_law1_3 10 (x := (498, .invokevirtual 56, 3)) rfl
theorem dL_law_501 : decode cL_law 501 = .ok (.pop, 1) := decs_at bne_law1_3 11 (x := (501, .pop, 1)) rfl
theorem dL_law_502 : decode cL_law 502 = .ok (.aload_n 2, 1) := decs_at bne_law1_3 12 (x := (502, .aload_n 2, 1)) rfl
theorem dL_law_503 : decode cL_law 503 = .ok (.aload_n 0, 1) := decs_at bne_law1_3 13 (x := (503, .aload_n 0, 1)) rfl
theorem dL_law_504 : decode cL_law 504 = .ok (.iload_n 3, 1) := decs_at bne_law1_3 14 (x := (504, .iload_n 3, 1)) rfl
theorem dL_law_505 : decode cL_law 505 = .ok (.iconst 1, 1) := decs_at bne_law1_3 15 (x := (505, .iconst 1, 1)) rfl
theorem dL_law_506 : decode cL_law 506 = .ok (.iadd, 1) := decs_at bne_law1_3 16 (x := (506, .iadd, 1)) rfl
theorem dL_law_507 : decode cL_law 507 = .ok (.iaload, 1) := decs_at bne_law1_3 17 (x := (507, .iaload, 1)) rfl
theorem dL_law_508 : decode cL_law 508 = .ok (.aload_n 0, 1) := decs_at bne_law1_3 18 (x := (508, .aload_n 0, 1)) rfl
theorem dL_law_509 : decode cL_law 509 = .ok (.iload_n 3, 1) := decs_at bne_law1_3 19 (x := (509, .iload_n 3, 1)) rfl
theorem dL_law_510 : decode cL_law 510 = .ok (.iconst 2, 1) := decs_at bne_law1_3 20 (x := (510, .iconst 2, 1)) rfl
theorem dL_law_511 : decode cL_law 511 = .ok (.iadd, 1) := decs_at bne_law1_3 21 (x := (511, .iadd, 1)) rfl
theorem dL_law_512 : decode cL_law 512 = .ok (.iaload, 1) := decs_at bne_law1_3 22 (x := (512, .iaload, 1)) rfl
theorem dL_law_513 : decode cL_law 513 = .ok (.aload_n 0, 1) := decs_at bne_law1_3 23 (x := (513, .aload_n 0, 1)) rfl
theorem bne_law1_4 : decs cL_law [(514, .iload_n 3, 1), (515, .iconst 3, 1), (516, .iadd, 1), (517, .iaload, 1), (518, .invokevirtual 59, 3), (521, .pop, 1), (522, .goto 455, 3), (525, .aload_n 1, 1), (526, .aload_n 0, 1), (527, .iload_n 3, 1), (528, .iconst 1, 1), (529, .iadd, 1), (530, .iaload, 1), (531, .aload_n 0, 1), (532, .iload_n 3, 1), (533, .iconst 2, 1), (534, .iadd, 1), (535, .iaload, 1), (536, .invokevirtual 60, 3), (539, .pop, 1), (540, .aload_n 2, 1), (541, .aload_n 0, 1), (542, .iload_n 3, 1), (543, .iconst 1, 1)] = true := by decide +kernel
theorem dL_law_514 : decode cL_law 514 = .ok (.iload_n 3, 1) := decs_at bne_law1_4 0 (x := (514, .iload_n 3, 1)) rfl
theorem dL_law_515 : decode cL_law 515 = .ok (.iconst 3, 1) := decs_at bne_law1_4 1 (x := (515, .iconst 3, 1)) rfl
theorem dL_law_516 : decode cL_law 516 = .ok (.iadd, 1) := decs_at bne_law1_4 2 (x := (516, .iadd, 1)) rfl
theorem dL_law_517 : decode cL_law 517 = .ok (.iaload, 1) := decs_at bne_law1_4 3 (x := (517, .iaload, 1)) rfl
theorem dL_law_518 : decode cL_law 518 = .ok (.invokevirtual 59, 3) := decs_at bne_law1_4 4 (x := (518, .invokevirtual 59, 3)) rfl
theorem dL_law_521 : decode cL_law 521 = .ok (.pop, 1) := decs_at bne_law1_4 5 (x := (521, .pop, 1)) rfl
theorem dL_law_522 : decode cL_law 522 = .ok (.goto 455, 3) := decs_at bne_law1_4 6 (x := (522, .goto 455, 3)) rfl
theorem dL_law_525 : decode cL_law 525 = .ok (.aload_n 1, 1) := decs_at bne_law1_4 7 (x := (525, .aload_n 1, 1)) rfl
theorem dL_law_526 : decode cL_law 526 = .ok (.aload_n 0, 1) := decs_at bne_law1_4 8 (x := (526, .aload_n 0, 1)) rfl
theorem dL_law_527 : decode cL_law 527 = .ok (.iload_n 3, 1) := decs_at bne_law1_4 9 (x := (527, .iload_n 3, 1)) rfl
theorem dL_law_528 : decode cL_law 528 = .ok (.iconst 1, 1) := decs_at bne_law1_4 10 (x := (528, .iconst 1, 1)) rfl
theorem dL_law_529 : decode cL_law 529 = .ok (.iadd, 1) := decs_at bne_law1_4 11 (x := (529, .iadd, 1)) rfl
theorem dL_law_530 : decode cL_law 530 = .ok (.iaload, 1) := decs_at bne_law1_4 12 (x := (530, .iaload, 1)) rfl
theorem dL_law_531 : decode cL_law 531 = .ok (.aload_n 0, 1) := decs_at bne_law1_4 13 (x := (531, .aload_n 0, 1)) rfl
theorem dL_law_532 : decode cL_law 532 = .ok (.iload_n 3, 1) := decs_at bne_law1_4 14 (x := (532, .iload_n 3, 1)) rfl
theorem dL_law_533 : decode cL_law 533 = .ok (.iconst 2, 1) := decs_at bne_law1_4 15 (x := (533, .iconst 2, 1)) rfl
theorem dL_law_534 : decode cL_law 534 = .ok (.iadd, 1) := decs_at bne_law1_4 16 (x := (534, .iadd, 1)) rfl
theorem dL_law_535 : decode cL_law 535 = .ok (.iaload, 1) := decs_at bne_law1_4 17 (x := (535, .iaload, 1)) rfl
theorem dL_law_536 : decode cL_law 536 = .ok (.invokevirtual 60, 3) := decs_at bne_law1_4 18 (x := (536, .invokevirtual 60, 3)) rfl
theorem dL_law_539 : decode cL_law 539 = .ok (.pop, 1) := decs_at bne_law1_4 19 (x := (539, .pop, 1)) rfl
theorem dL_law_540 : decode cL_law 540 = .ok (.aload_n 2, 1) := decs_at bne_law1_4 20 (x := (540, .aload_n 2, 1)) rfl
theorem dL_law_541 : decode cL_law 541 = .ok (.aload_n 0, 1) := decs_at bne_law1_4 21 (x := (541, .aload_n 0, 1)) rfl
theorem dL_law_542 : decode cL_law 542 = .ok (.iload_n 3, 1) := decs_at bne_law1_4 22 (x := (542, .iload_n 3, 1)) rfl
theorem dL_law_543 : decode cL_law 543 = .ok (.iconst 1, 1) := decs_at bne_law1_4 23 (x := (543, .iconst 1, 1)) rfl
theorem bne_law1_5 : decs cL_law [(544, .iadd, 1), (545, .iaload, 1), (546, .aload_n 0, 1), (547, .iload_n 3, 1), (548, .iconst 2, 1), (549, .iadd, 1), (550, .iaload, 1), (551, .invokevirtual 63, 3), (554, .pop, 1), (555, .goto 422, 3), (558, .aload_n 1, 1), (559, .aload_n 0, 1), (560, .iload_n 3, 1), (561, .iconst 1, 1), (562, .iadd, 1), (563, .iaload, 1), (564, .aload_n 0, 1), (565, .iload_n 3, 1), (566, .iconst 2, 1), (567, .iadd, 1), (568, .iaload, 1), (569, .aload_n 0, 1), (570, .iload_n 3, 1), (571, .iconst 3, 1)] = true := by decide +kernel
theorem dL_law_544 : decode cL_law 544 = .ok (.iadd, 1) := decs_at bne_law1_5 0 (x := (544, .iadd, 1)) rfl
theorem dL_law_545 : decode cL_law 545 = .ok (.iaload, 1) := decs_at bne_law1_5 1 (x := (545, .iaload, 1)) rfl
theorem dL_law_546 : decode cL_law 546 = .ok (.aload_n 0, 1) := decs_at bne_law1_5 2 (x := (546, .aload_n 0, 1)) rfl
theorem dL_law_547 : decode cL_law 547 = .ok (.iload_n 3, 1) := decs_at bne_law1_5 3 (x := (547, .iload_n 3, 1)) rfl
theorem dL_law_548 : decode cL_law 548 = .ok (.iconst 2, 1) := decs_at bne_law1_5 4 (x := (548, .iconst 2, 1)) rfl
theorem dL_law_549 : decode cL_law 549 = .ok (.iadd, 1) := decs_at bne_law1_5 5 (x := (549, .iadd, 1)) rfl
theorem dL_law_550 : decode cL_law 550 = .ok (.iaload, 1) := decs_at bne_law1_5 6 (x := (550, .iaload, 1)) rfl
theorem dL_law_551 : decode cL_law 551 = .ok (.invokevirtual 63, 3) := decs_at bne_law1_5 7 (x := (551, .invokevirtual 63, 3)) rfl
theorem dL_law_554 : decode cL_law 554 = .ok (.pop, 1) := decs_at bne_law1_5 8 (x := (554, .pop, 1)) rfl
theorem dL_law_555 : decode cL_law 555 = .ok (.goto 422, 3) := decs_at bne_law1_5 9 (x := (555, .goto 422, 3)) rfl
theorem dL_law_558 : decode cL_law 558 = .ok (.aload_n 1, 1) := decs_at bne_law1_5 10 (x := (558, .aload_n 1, 1)) rfl
theorem dL_law_559 : decode cL_law 559 = .ok (.aload_n 0, 1) := decs_at bne_law1_5 11 (x := (559, .aload_n 0, 1)) rfl
theorem dL_law_560 : decode cL_law 560 = .ok (.iload_n 3, 1) := decs_at bne_law1_5 12 (x := (560, .iload_n 3, 1)) rfl
theorem dL_law_561 : decode cL_law 561 = .ok (.iconst 1, 1) := decs_at bne_law1_5 13 (x := (561, .iconst 1, 1)) rfl
theorem dL_law_562 : decode cL_law 562 = .ok (.iadd, 1) := decs_at bne_law1_5 14 (x := (562, .iadd, 1)) rfl
theorem dL_law_563 : decode cL_law 563 = .ok (.iaload, 1) := decs_at bne_law1_5 15 (x := (563, .iaload, 1)) rfl
theorem dL_law_564 : decode cL_law 564 = .ok (.aload_n 0, 1) := decs_at bne_law1_5 16 (x := (564, .aload_n 0, 1)) rfl
theorem dL_law_565 : decode cL_law 565 = .ok (.iload_n 3, 1) := decs_at bne_law1_5 17 (x := (565, .iload_n 3, 1)) rfl
theorem dL_law_566 : decode cL_law 566 = .ok (.iconst 2, 1) := decs_at bne_law1_5 18 (x := (566, .iconst 2, 1)) rfl
theorem dL_law_567 : decode cL_law 567 = .ok (.iadd, 1) := decs_at bne_law1_5 19 (x := (567, .iadd, 1)) rfl
theorem dL_law_568 : decode cL_law 568 = .ok (.iaload, 1) := decs_at bne_law1_5 20 (x := (568, .iaload, 1)) rfl
theorem dL_law_569 : decode cL_law 569 = .ok (.aload_n 0, 1) := decs_at bne_law1_5 21 (x := (569, .aload_n 0, 1)) rfl
theorem dL_law_570 : decode cL_law 570 = .ok (.iload_n 3, 1) := decs_at bne_law1_5 22 (x := (570, .iload_n 3, 1)) rfl
theorem dL_law_571 : decode cL_law 571 = .ok (.iconst 3, 1) := decs_at bne_law1_5 23 (x := (571, .iconst 3, 1)) rfl
theorem bne_law1_6 : decs cL_law [(572, .iadd, 1), (573, .iaload, 1), (574, .invokevirtual 64, 3), (577, .pop, 1), (578, .aload_n 2, 1), (579, .aload_n 0, 1), (580, .iload_n 3, 1), (581, .iconst 1, 1), (582, .iadd, 1), (583, .iaload, 1), (584, .aload_n 0, 1), (585, .iload_n 3, 1), (586, .iconst 2, 1), (587, .iadd, 1), (588, .iaload, 1), (589, .aload_n 0, 1), (590, .iload_n 3, 1), (591, .iconst 3, 1), (592, .iadd, 1), (593, .iaload, 1), (594, .invokevirtual 67, 3), (597, .pop, 1), (598, .goto 379, 3), (601, .aload_n 1, 1)] = true := by decide +kernel
theorem dL_law_572 : decode cL_law 572 = .ok (.iadd, 1) := decs_at bne_law1_6 0 (x := (572, .iadd, 1)) rfl
theorem dL_law_573 : decode cL_law 573 = .ok (.iaload, 1) := decs_at bne_law1_6 1 (x := (573, .iaload, 1)) rfl
theorem dL_law_574 : decode cL_law 574 = .ok (.invokevirtual 64, 3) := decs_at bne_law1_6 2 (x := (574, .invokevirtual 64, 3)) rfl
theorem dL_law_577 : decode cL_law 577 = .ok (.pop, 1) := decs_at bne_law1_6 3 (x := (577, .pop, 1)) rfl
theorem dL_law_578 : decode cL_law 578 = .ok (.aload_n 2, 1) := decs_at bne_law1_6 4 (x := (578, .aload_n 2, 1)) rfl
theorem dL_law_579 : decode cL_law 579 = .ok (.aload_n 0, 1) := decs_at bne_law1_6 5 (x := (579, .aload_n 0, 1)) rfl
theorem dL_law_580 : decode cL_law 580 = .ok (.iload_n 3, 1) := decs_at bne_law1_6 6 (x := (580, .iload_n 3, 1)) rfl
theorem dL_law_581 : decode cL_law 581 = .ok (.iconst 1, 1) := decs_at bne_law1_6 7 (x := (581, .iconst 1, 1)) rfl
theorem dL_law_582 : decode cL_law 582 = .ok (.iadd, 1) := decs_at bne_law1_6 8 (x := (582, .iadd, 1)) rfl
theorem dL_law_583 : decode cL_law 583 = .ok (.iaload, 1) := decs_at bne_law1_6 9 (x := (583, .iaload, 1)) rfl
theorem dL_law_584 : decode cL_law 584 = .ok (.aload_n 0, 1) := decs_at bne_law1_6 10 (x := (584, .aload_n 0, 1)) rfl
theorem dL_law_585 : decode cL_law 585 = .ok (.iload_n 3, 1) := decs_at bne_law1_6 11 (x := (585, .iload_n 3, 1)) rfl
theorem dL_law_586 : decode cL_law 586 = .ok (.iconst 2, 1) := decs_at bne_law1_6 12 (x := (586, .iconst 2, 1)) rfl
theorem dL_law_587 : decode cL_law 587 = .ok (.iadd, 1) := decs_at bne_law1_6 13 (x := (587, .iadd, 1)) rfl
theorem dL_law_588 : decode cL_law 588 = .ok (.iaload, 1) := decs_at bne_law1_6 14 (x := (588, .iaload, 1)) rfl
theorem dL_law_589 : decode cL_law 589 = .ok (.aload_n 0, 1) := decs_at bne_law1_6 15 (x := (589, .aload_n 0, 1)) rfl
theorem dL_law_590 : decode cL_law 590 = .ok (.iload_n 3, 1) := decs_at bne_law1_6 16 (x := (590, .iload_n 3, 1)) rfl
theorem dL_law_591 : decode cL_law 591 = .ok (.iconst 3, 1) := decs_at bne_law1_6 17 (x := (591, .iconst 3, 1)) rfl
theorem dL_law_592 : decode cL_law 592 = .ok (.iadd, 1) := decs_at bne_law1_6 18 (x := (592, .iadd, 1)) rfl
theorem dL_law_593 : decode cL_law 593 = .ok (.iaload, 1) := decs_at bne_law1_6 19 (x := (593, .iaload, 1)) rfl
theorem dL_law_594 : decode cL_law 594 = .ok (.invokevirtual 67, 3) := decs_at bne_law1_6 20 (x := (594, .invokevirtual 67, 3)) rfl
theorem dL_law_597 : decode cL_law 597 = .ok (.pop, 1) := decs_at bne_law1_6 21 (x := (597, .pop, 1)) rfl
theorem dL_law_598 : decode cL_law 598 = .ok (.goto 379, 3) := decs_at bne_law1_6 22 (x := (598, .goto 379, 3)) rfl
theorem dL_law_601 : decode cL_law 601 = .ok (.aload_n 1, 1) := decs_at bne_law1_6 23 (x := (601, .aload_n 1, 1)) rfl
theorem bne_law1_7 : decs cL_law [(602, .aload_n 0, 1), (603, .iload_n 3, 1), (604, .iconst 1, 1), (605, .iadd, 1), (606, .iaload, 1), (607, .invokevirtual 68, 3), (610, .pop, 1), (611, .aload_n 2, 1), (612, .aload_n 0, 1), (613, .iload_n 3, 1), (614, .iconst 1, 1), (615, .iadd, 1), (616, .iaload, 1), (617, .invokevirtual 71, 3), (620, .pop, 1), (621, .goto 356, 3), (624, .aload_n 1, 1), (625, .aload_n 0, 1), (626, .iload_n 3, 1), (627, .iconst 1, 1), (628, .iadd, 1), (629, .iaload, 1), (630, .aload_n 0, 1), (631, .iload_n 3, 1)] = true := by decide +kernel
theorem dL_law_602 : decode cL_law 602 = .ok (.aload_n 0, 1) := decs_at bne_law1_7 0 (x := (602, .aload_n 0, 1)) rfl
theorem dL_law_603 : decode cL_law 603 = .ok (.iload_n 3, 1) := decs_at bne_law1_7 1 (x := (603, .iload_n 3, 1)) rfl
theorem dL_law_604 : decode cL_law 604 = .ok (.iconst 1, 1) := decs_at bne_law1_7 2 (x := (604, .iconst 1, 1)) rfl
theorem dL_law_605 : decode cL_law 605 = .ok (.iadd, 1) := decs_at bne_law1_7 3 (x := (605, .iadd, 1)) rfl
theorem dL_law_606 : decode cL_law 606 = .ok (.iaload, 1) := decs_at bne_law1_7 4 (x := (606, .iaload, 1)) rfl
theorem dL_law_607 : decode cL_law 607 = .ok (.invokevirtual 68, 3) := decs_at bne_law1_7 5 (x := (607, .invokevirtual 68, 3)) rfl
theorem dL_law_610 : decode cL_law 610 = .ok (.pop, 1) := decs_at bne_law1_7 6 (x := (610, .pop, 1)) rfl
theorem dL_law_611 : decode cL_law 611 = .ok (.aload_n 2, 1) := decs_at bne_law1_7 7 (x := (611, .aload_n 2, 1)) rfl
theorem dL_law_612 : decode cL_law 612 = .ok (.aload_n 0, 1) := decs_at bne_law1_7 8 (x := (612, .aload_n 0, 1)) rfl
theorem dL_law_613 : decode cL_law 613 = .ok (.iload_n 3, 1) := decs_at bne_law1_7 9 (x := (613, .iload_n 3, 1)) rfl
theorem dL_law_614 : decode cL_law 614 = .ok (.iconst 1, 1) := decs_at bne_law1_7 10 (x := (614, .iconst 1, 1)) rfl
theorem dL_law_615 : decode cL_law 615 = .ok (.iadd, 1) := decs_at bne_law1_7 11 (x := (615, .iadd, 1)) rfl
theorem dL_law_616 : decode cL_law 616 = .ok (.iaload, 1) := decs_at bne_law1_7 12 (x := (616, .iaload, 1)) rfl
theorem dL_law_617 : decode cL_law 617 = .ok (.invokevirtual 71, 3) := decs_at bne_law1_7 13 (x := (617, .invokevirtual 71, 3)) rfl
theorem dL_law_620 : decode cL_law 620 = .ok (.pop, 1) := decs_at bne_law1_7 14 (x := (620, .pop, 1)) rfl
theorem dL_law_621 : decode cL_law 621 = .ok (.goto 356, 3) := decs_at bne_law1_7 15 (x := (621, .goto 356, 3)) rfl
theorem dL_law_624 : decode cL_law 624 = .ok (.aload_n 1, 1) := decs_at bne_law1_7 16 (x := (624, .aload_n 1, 1)) rfl
theorem dL_law_625 : decode cL_law 625 = .ok (.aload_n 0, 1) := decs_at bne_law1_7 17 (x := (625, .aload_n 0, 1)) rfl
theorem dL_law_626 : decode cL_law 626 = .ok (.iload_n 3, 1) := decs_at bne_law1_7 18 (x := (626, .iload_n 3, 1)) rfl
theorem dL_law_627 : decode cL_law 627 = .ok (.iconst 1, 1) := decs_at bne_law1_7 19 (x := (627, .iconst 1, 1)) rfl
theorem dL_law_628 : decode cL_law 628 = .ok (.iadd, 1) := decs_at bne_law1_7 20 (x := (628, .iadd, 1)) rfl
theorem dL_law_629 : decode cL_law 629 = .ok (.iaload, 1) := decs_at bne_law1_7 21 (x := (629, .iaload, 1)) rfl
theorem dL_law_630 : decode cL_law 630 = .ok (.aload_n 0, 1) := decs_at bne_law1_7 22 (x := (630, .aload_n 0, 1)) rfl
theorem dL_law_631 : decode cL_law 631 = .ok (.iload_n 3, 1) := decs_at bne_law1_7 23 (x := (631, .iload_n 3, 1)) rfl
theorem bne_law1_8 : decs cL_law [(632, .iconst 2, 1), (633, .iadd, 1), (634, .iaload, 1), (635, .invokevirtual 72, 3), (638, .pop2, 1), (639, .aload_n 2, 1), (640, .aload_n 0, 1), (641, .iload_n 3, 1), (642, .iconst 1, 1), (643, .iadd, 1), (644, .iaload, 1), (645, .aload_n 0, 1), (646, .iload_n 3, 1), (647, .iconst 2, 1), (648, .iadd, 1), (649, .iaload, 1), (650, .invokevirtual 75, 3), (653, .pop2, 1), (654, .goto 323, 3), (657, .aload_n 1, 1), (658, .aload_n 0, 1), (659, .iload_n 3, 1), (660, .iconst 1, 1), (661, .iadd, 1)] = true := by decide +kernel
theorem dL_law_632 : decode cL_law 632 = .ok (.iconst 2, 1) := decs_at bne_law1_8 0 (x := (632, .iconst 2, 1)) rfl
theorem dL_law_633 : decode cL_law 633 = .ok (.iadd, 1) := decs_at bne_law1_8 1 (x := (633, .iadd, 1)) rfl
theorem dL_law_634 : decode cL_law 634 = .ok (.iaload, 1) := decs_at bne_law1_8 2 (x := (634, .iaload, 1)) rfl
theorem dL_law_635 : decode cL_law 635 = .ok (.invokevirtual 72, 3) := decs_at bne_law1_8 3 (x := (635, .invokevirtual 72, 3)) rfl
theorem dL_law_638 : decode cL_law 638 = .ok (.pop2, 1) := decs_at bne_law1_8 4 (x := (638, .pop2, 1)) rfl
theorem dL_law_639 : decode cL_law 639 = .ok (.aload_n 2, 1) := decs_at bne_law1_8 5 (x := (639, .aload_n 2, 1)) rfl
theorem dL_law_640 : decode cL_law 640 = .ok (.aload_n 0, 1) := decs_at bne_law1_8 6 (x := (640, .aload_n 0, 1)) rfl
theorem dL_law_641 : decode cL_law 641 = .ok (.iload_n 3, 1) := decs_at bne_law1_8 7 (x := (641, .iload_n 3, 1)) rfl
theorem dL_law_642 : decode cL_law 642 = .ok (.iconst 1, 1) := decs_at bne_law1_8 8 (x := (642, .iconst 1, 1)) rfl
theorem dL_law_643 : decode cL_law 643 = .ok (.iadd, 1) := decs_at bne_law1_8 9 (x := (643, .iadd, 1)) rfl
theorem dL_law_644 : decode cL_law 644 = .ok (.iaload, 1) := decs_at bne_law1_8 10 (x := (644, .iaload, 1)) rfl
theorem dL_law_645 : decode cL_law 645 = .ok (.aload_n 0, 1) := decs_at bne_law1_8 11 (x := (645, .aload_n 0, 1)) rfl
theorem dL_law_646 : decode cL_law 646 = .ok (.iload_n 3, 1) := decs_at bne_law1_8 12 (x := (646, .iload_n 3, 1)) rfl
theorem dL_law_647 : decode cL_law 647 = .ok (.iconst 2, 1) := decs_at bne_law1_8 13 (x := (647, .iconst 2, 1)) rfl
theorem dL_law_648 : decode cL_law 648 = .ok (.iadd, 1) := decs_at bne_law1_8 14 (x := (648, .iadd, 1)) rfl
theorem dL_law_649 : decode cL_law 649 = .ok (.iaload, 1) := decs_at bne_law1_8 15 (x := (649, .iaload, 1)) rfl
theorem dL_law_650 : decode cL_law 650 = .ok (.invokevirtual 75, 3) := decs_at bne_law1_8 16 (x := (650, .invokevirtual 75, 3)) rfl
theorem dL_law_653 : decode cL_law 653 = .ok (.pop2, 1) := decs_at bne_law1_8 17 (x := (653, .pop2, 1)) rfl
theorem dL_law_654 : decode cL_law 654 = .ok (.goto 323, 3) := decs_at bne_law1_8 18 (x := (654, .goto 323, 3)) rfl
theorem dL_law_657 : decode cL_law 657 = .ok (.aload_n 1, 1) := decs_at bne_law1_8 19 (x := (657, .aload_n 1, 1)) rfl
theorem dL_law_658 : decode cL_law 658 = .ok (.aload_n 0, 1) := decs_at bne_law1_8 20 (x := (658, .aload_n 0, 1)) rfl
theorem dL_law_659 : decode cL_law 659 = .ok (.iload_n 3, 1) := decs_at bne_law1_8 21 (x := (659, .iload_n 3, 1)) rfl
theorem dL_law_660 : decode cL_law 660 = .ok (.iconst 1, 1) := decs_at bne_law1_8 22 (x := (660, .iconst 1, 1)) rfl
theorem dL_law_661 : decode cL_law 661 = .ok (.iadd, 1) := decs_at bne_law1_8 23 (x := (661, .iadd, 1)) rfl

theorem bne_law1_9 : decs cL_law [(662, .iaload, 1), (663, .aload_n 0, 1), (664, .iload_n 3, 1), (665, .iconst 2, 1), (666, .iadd, 1), (667, .iaload, 1), (668, .invokevirtual 76, 3), (671, .pop, 1), (672, .aload_n 2, 1), (673, .aload_n 0, 1), (674, .iload_n 3, 1), (675, .iconst 1, 1), (676, .iadd, 1), (677, .iaload, 1), (678, .aload_n 0, 1), (679, .iload_n 3, 1), (680, .iconst 2, 1), (681, .iadd, 1)] = true := by decide +kernel
theorem dL_law_662 : decode cL_law 662 = .ok (.iaload, 1) := decs_at bne_law1_9 0 (x := (662, .iaload, 1)) rfl
theorem dL_law_663 : decode cL_law 663 = .ok (.aload_n 0, 1) := decs_at bne_law1_9 1 (x := (663, .aload_n 0, 1)) rfl
theorem dL_law_664 : decode cL_law 664 = .ok (.iload_n 3, 1) := decs_at bne_law1_9 2 (x := (664, .iload_n 3, 1)) rfl
theorem dL_law_665 : decode cL_law 665 = .ok (.iconst 2, 1) := decs_at bne_law1_9 3 (x := (665, .iconst 2, 1)) rfl
theorem dL_law_666 : decode cL_law 666 = .ok (.iadd, 1) := decs_at bne_law1_9 4 (x := (666, .iadd, 1)) rfl
theorem dL_law_667 : decode cL_law 667 = .ok (.iaload, 1) := decs_at bne_law1_9 5 (x := (667, .iaload, 1)) rfl
theorem dL_law_668 : decode cL_law 668 = .ok (.invokevirtual 76, 3) := decs_at bne_law1_9 6 (x := (668, .invokevirtual 76, 3)) rfl
theorem dL_law_671 : decode cL_law 671 = .ok (.pop, 1) := decs_at bne_law1_9 7 (x := (671, .pop, 1)) rfl
theorem dL_law_672 : decode cL_law 672 = .ok (.aload_n 2, 1) := decs_at bne_law1_9 8 (x := (672, .aload_n 2, 1)) rfl
theorem dL_law_673 : decode cL_law 673 = .ok (.aload_n 0, 1) := decs_at bne_law1_9 9 (x := (673, .aload_n 0, 1)) rfl
theorem dL_law_674 : decode cL_law 674 = .ok (.iload_n 3, 1) := decs_at bne_law1_9 10 (x := (674, .iload_n 3, 1)) rfl
theorem dL_law_675 : decode cL_law 675 = .ok (.iconst 1, 1) := decs_at bne_law1_9 11 (x := (675, .iconst 1, 1)) rfl
theorem dL_law_676 : decode cL_law 676 = .ok (.iadd, 1) := decs_at bne_law1_9 12 (x := (676, .iadd, 1)) rfl
theorem dL_law_677 : decode cL_law 677 = .ok (.iaload, 1) := decs_at bne_law1_9 13 (x := (677, .iaload, 1)) rfl
theorem dL_law_678 : decode cL_law 678 = .ok (.aload_n 0, 1) := decs_at bne_law1_9 14 (x := (678, .aload_n 0, 1)) rfl
theorem dL_law_679 : decode cL_law 679 = .ok (.iload_n 3, 1) := decs_at bne_law1_9 15 (x := (679, .iload_n 3, 1)) rfl
theorem dL_law_680 : decode cL_law 680 = .ok (.iconst 2, 1) := decs_at bne_law1_9 16 (x := (680, .iconst 2, 1)) rfl
theorem dL_law_681 : decode cL_law 681 = .ok (.iadd, 1) := decs_at bne_law1_9 17 (x := (681, .iadd, 1)) rfl