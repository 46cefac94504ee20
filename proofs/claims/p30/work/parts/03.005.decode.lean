theorem dL_law_432 : decode cL_law 432 = .ok (.invokevirtual 43, 3) := dc_at daL_law_8 16 rfl
theorem dL_law_435 : decode cL_law 435 = .ok (.pop, 1) := dc_at daL_law_8 17 rfl
theorem dL_law_436 : decode cL_law 436 = .ok (.goto 1018, 3) := dc_at daL_law_8 18 rfl
theorem dL_law_439 : decode cL_law 439 = .ok (.aload_n 1, 1) := dc_at daL_law_8 19 rfl
theorem dL_law_440 : decode cL_law 440 = .ok (.aload_n 0, 1) := dc_at daL_law_8 20 rfl
theorem dL_law_441 : decode cL_law 441 = .ok (.iload_n 3, 1) := dc_at daL_law_8 21 rfl
theorem dL_law_442 : decode cL_law 442 = .ok (.iconst 1, 1) := dc_at daL_law_8 22 rfl
theorem dL_law_443 : decode cL_law 443 = .ok (.iadd, 1) := dc_at daL_law_8 23 rfl
def dlL_law_9 : List (Nat × Jvm.ClassFile.Instr × Nat) := [(444, .iaload, 1), (445, .invokevirtual 44, 3), (448, .pop, 1), (449, .aload_n 2, 1), (450, .aload_n 0, 1), (451, .iload_n 3, 1), (452, .iconst 1, 1), (453, .iadd, 1), (454, .iaload, 1), (455, .invokevirtual 47, 3), (458, .pop, 1), (459, .goto 995, 3), (462, .aload_n 1, 1), (463, .aload_n 0, 1), (464, .iload_n 3, 1), (465, .iconst 1, 1), (466, .iadd, 1), (467, .iaload, 1), (468, .aload_n 0, 1), (469, .iload_n 3, 1), (470, .iconst 2, 1), (471, .iadd, 1), (472, .iaload, 1), (473, .invokevirtual 48, 3)]
theorem daL_law_9 : dlL_law_9.all (dcK cL_law) = true := by decide +kernel
theorem dL_law_444 : decode cL_law 444 = .ok (.iaload, 1) := dc_at daL_law_9 0 rfl
theorem dL_law_445 : decode cL_law 445 = .ok (.invokevirtual 44, 3) := dc_at daL_law_9 1 rfl
theorem dL_law_448 : decode cL_law 448 = .ok (.pop, 1) := dc_at daL_law_9 2 rfl
theorem dL_law_449 : decode cL_law 449 = .ok (.aload_n 2, 1) := dc_at daL_law_9 3 rfl
theorem dL_law_450 : decode cL_law 450 = .ok (.aload_n 0, 1) := dc_at daL_law_9 4 rfl
theorem dL_law_451 : decode cL_law 451 = .ok (.iload_n 3, 1) := dc_at daL_law_9 5 rfl
theorem dL_law_452 : decode cL_law 452 = .ok (.iconst 1, 1) := dc_at daL_law_9 6 rfl
theorem dL_law_453 : decode cL_law 453 = .ok (.iadd, 1) := dc_at daL_law_9 7 rfl
theorem dL_law_454 : decode cL_law 454 = .ok (.iaload, 1) := dc_at daL_law_9 8 rfl
theorem dL_law_455 : decode cL_law 455 = .ok (.invokevirtual 47, 3) := dc_at daL_law_9 9 rfl
theorem dL_law_458 : decode cL_law 458 = .ok (.pop, 1) := dc_at daL_law_9 10 rfl
theorem dL_law_459 : decode cL_law 459 = .ok (.goto 995, 3) := dc_at daL_law_9 11 rfl
theorem dL_law_462 : decode cL_law 462 = .ok (.aload_n 1, 1) := dc_at daL_law_9 12 rfl
theorem dL_law_463 : decode cL_law 463 = .ok (.aload_n 0, 1) := dc_at daL_law_9 13 rfl
theorem dL_law_464 : decode cL_law 464 = .ok (.iload_n 3, 1) := dc_at daL_law_9 14 rfl
theorem dL_law_465 : decode cL_law 465 = .ok (.iconst 1, 1) := dc_at daL_law_9 15 rfl
theorem dL_law_466 : decode cL_law 466 = .ok (.iadd, 1) := dc_at daL_law_9 16 rfl
theorem dL_law_467 : decode cL_law 467 = .ok (.iaload, 1) := dc_at daL_law_9 17 rfl
theorem dL_law_468 : decode cL_law 468 = .ok (.aload_n 0, 1) := dc_at daL_law_9 18 rfl
theorem dL_law_469 : decode cL_law 469 = .ok (.iload_n 3, 1) := dc_at daL_law_9 19 rfl
theorem dL_law_470 : decode cL_law 470 = .ok (.iconst 2, 1) := dc_at daL_law_9 20 rfl
theorem dL_law_471 : decode cL_law 471 = .ok (.iadd, 1) := dc_at daL_law_9 21 rfl
theorem dL_law_472 : decode cL_law 472 = .ok (.iaload, 1) := dc_at daL_law_9 22 rfl
theorem dL_law_473 : decode cL_law 473 = .ok (.invokevirtual 48, 3) := dc_at daL_law_9 23 rfl
def dlL_law_10 : List (Nat × Jvm.ClassFile.Instr × Nat) := [(476, .pop, 1), (477, .aload_n 2, 1), (478, .aload_n 0, 1), (479, .iload_n 3, 1), (480, .iconst 1, 1), (481, .iadd, 1), (482, .iaload, 1), (483, .aload_n 0, 1), (484, .iload_n 3, 1), (485, .iconst 2, 1), (486, .iadd, 1), (487, .iaload, 1), (488, .invokevirtual 51, 3), (491, .pop, 1), (492, .goto 962, 3), (495, .aload_n 1, 1), (496, .aload_n 0, 1), (497, .iload_n 3, 1), (498, .iconst 1, 1), (499, .iadd, 1), (500, .iaload, 1), (501, .aload_n 0, 1), (502, .iload_n 3, 1), (503, .iconst 2, 1)]
theorem daL_law_10 : dlL_law_10.all (dcK cL_law) = true := by decide +kernel
theorem dL_law_476 : decode cL_law 476 = .ok (.pop, 1) := dc_at daL_law_10 0 rfl
theorem dL_law_477 : decode cL_law 477 = .ok (.aload_n 2, 1) := dc_at daL_law_10 1 rfl
theorem dL_law_478 : decode cL_law 478 = .ok (.aload_n 0, 1) := dc_at daL_law_10 2 rfl
theorem dL_law_479 : decode cL_law 479 = .ok (.iload_n 3, 1) := dc_at daL_law_10 3 rfl
theorem dL_law_480 : decode cL_law 480 = .ok (.iconst 1, 1) := dc_at daL_law_10 4 rfl
theorem dL_law_481 : decode cL_law 481 = .ok (.iadd, 1) := dc_at daL_law_10 5 rfl
theorem dL_law_482 : decode cL_law 482 = .ok (.iaload, 1) := dc_at daL_law_10 6 rfl
theorem dL_law_483 : decode cL_law 483 = .ok (.aload_n 0, 1) := dc_at daL_law_10 7 rfl
theorem dL_law_484 : decode cL_law 484 = .ok (.iload_n 3, 1) := dc_at daL_law_10 8 rfl
theorem dL_law_485 : decode cL_law 485 = .ok (.iconst 2, 1) := dc_at daL_law_10 9 rfl
theorem dL_law_486 : decode cL_law 486 = .ok (.iadd, 1) := dc_at daL_law_10 10 rfl
theorem dL_law_487 : decode cL_law 487 = .ok (.iaload, 1) := dc_at daL_law_10 11 rfl
theorem dL_law_488 : decode cL_law 488 = .ok (.invokevirtual 51, 3) := dc_at daL_law_10 12 rfl
theorem dL_law_491 : decode cL_law 491 = .ok (.pop, 1) := dc_at daL_law_10 13 rfl
theorem dL_law_492 : decode cL_law 492 = .ok (.goto 962, 3) := dc_at daL_law_10 14 rfl
theorem dL_law_495 : decode cL_law 495 = .ok (.aload_n 1, 1) := dc_at daL_law_10 15 rfl
theorem dL_law_496 : decode cL_law 496 = .ok (.aload_n 0, 1) := dc_at daL_law_10 16 rfl
theorem dL_law_497 : decode cL_law 497 = .ok (.iload_n 3, 1) := dc_at daL_law_10 17 rfl
theorem dL_law_498 : decode cL_law 498 = .ok (.iconst 1, 1) := dc_at daL_law_10 18 rfl
theorem dL_law_499 : decode cL_law 499 = .ok (.iadd, 1) := dc_at daL_law_10 19 rfl
theorem dL_law_500 : decode cL_law 500 = .ok (.iaload, 1) := dc_at daL_law_10 20 rfl
theorem dL_law_501 : decode cL_law 501 = .ok (.aload_n 0, 1) := dc_at daL_law_10 21 rfl
theorem dL_law_502 : decode cL_law 502 = .ok (.iload_n 3, 1) := dc_at daL_law_10 22 rfl
theorem dL_law_503 : decode cL_law 503 = .ok (.iconst 2, 1) := dc_at daL_law_10 23 rfl
def dlL_law_11 : List (Nat × Jvm.ClassFile.Instr × Nat) := [(504, .iadd, 1), (505, .iaload, 1), (506, .ifCond .eq 7, 3), (509, .iconst 1, 1), (510, .goto 4, 3), (513, .iconst 0, 1), (514, .invokevirtual 52, 3), (517, .pop, 1), (518, .aload_n 2, 1), (519, .aload_n 0, 1), (520, .iload_n 3, 1), (521, .iconst 1, 1), (522, .iadd, 1), (523, .iaload, 1), (524, .aload_n 0, 1), (525, .iload_n 3, 1), (526, .iconst 2, 1), (527, .iadd, 1), (528, .iaload, 1), (529, .ifCond .eq 7, 3), (532, .iconst 1, 1), (533, .goto 4, 3), (536, .iconst 0, 1), (537, .invokevirtual 56, 3)]
theorem daL_law_11 : dlL_law_11.all (dcK cL_law) = true := by decide +kernel
theorem dL_law_504 : decode cL_law 504 = .ok (.iadd, 1) := dc_at daL_law_11 0 rfl
theorem dL_law_505 : decode cL_law 505 = .ok (.iaload, 1) := dc_at daL_law_11 1 rfl
theorem dL_law_506 : decode cL_law 506 = .ok (.ifCond .eq 7, 3) := dc_at daL_law_11 2 rfl
theorem dL_law_509 : decode cL_law 509 = .ok (.iconst 1, 1) := dc_at daL_law_11 3 rfl
theorem dL_law_510 : decode cL_law 510 = .ok (.goto 4, 3) := dc_at daL_law_11 4 rfl
theorem dL_law_513 : decode cL_law 513 = .ok (.iconst 0, 1) := dc_at daL_law_11 5 rfl
theorem dL_law_514 : decode cL_law 514 = .ok (.invokevirtual 52, 3) := dc_at daL_law_11 6 rfl
theorem dL_law_517 : decode cL_law 517 = .ok (.pop, 1) := dc_at daL_law_11 7 rfl
theorem dL_law_518 : decode cL_law 518 = .ok (.aload_n 2, 1) := dc_at daL_law_11 8 rfl
theorem dL_law_519 : decode cL_law 519 = .ok (.aload_n 0, 1) := dc_at daL_law_11 9 rfl
theorem dL_law_520 : decode cL_law 520 = .ok (.iload_n 3, 1) := dc_at daL_law_11 10 rfl
theorem dL_law_521 : decode cL_law 521 = .ok (.iconst 1, 1) := dc_at daL_law_11 11 rfl
theorem dL_law_522 : decode cL_law 522 = .ok (.iadd, 1) := dc_at daL_law_11 12 rfl
theorem dL_law_523 : decode cL_law 523 = .ok (.iaload, 1) := dc_at daL_law_11 13 rfl
theorem dL_law_524 : decode cL_law 524 = .ok (.aload_n 0, 1) := dc_at daL_law_11 14 rfl
theorem dL_law_525 : decode cL_law 525 = .ok (.iload_n 3, 1) := dc_at daL_law_11 15 rfl
theorem dL_law_526 : decode cL_law 526 = .ok (.iconst 2, 1) := dc_at daL_law_11 16 rfl
theorem dL_law_527 : decode cL_law 527 = .ok (.iadd, 1) := dc_at daL_law_11 17 rfl
theorem dL_law_528 : decode cL_law 528 = .ok (.iaload, 1) := dc_at daL_law_11 18 rfl
theorem dL_law_529 : decode cL_law 529 = .ok (.ifCond .eq 7, 3) := dc_at daL_law_11 19 rfl
theorem dL_law_532 : decode cL_law 532 = .ok (.iconst 1, 1) := dc_at daL_law_11 20 rfl
theorem dL_law_533 : decode cL_law 533 = .ok (.goto 4, 3) := dc_at daL_law_11 21 rfl
theorem dL_law_536 : decode cL_law 536 = .ok (.iconst 0, 1) := dc_at daL_law_11 22 rfl
theorem dL_law_537 : decode cL_law 537 = .ok (.invokevirtual 56, 3) := dc_at daL_law_11 23 rfl
def dlL_law_12 : List (Nat × Jvm.ClassFile.Instr × Nat) := [(540, .pop, 1), (541, .goto 913, 3), (544, .aload_n 1, 1), (545, .aload_n 0, 1), (546, .iload_n 3, 1), (547, .iconst 1, 1), (548, .iadd, 1), (549, .iaload, 1), (550, .invokevirtual 57, 3), (553, .pop, 1), (554, .aload_n 2, 1), (555, .aload_n 0, 1), (556, .iload_n 3, 1), (557, .iconst 1, 1), (558, .iadd, 1), (559, .iaload, 1), (560, .invokevirtual 60, 3), (563, .pop, 1), (564, .goto 890, 3), (567, .aload_n 1, 1), (568, .aload_n 0, 1), (569, .iload_n 3, 1), (570, .iconst 1, 1), (571, .iadd, 1)]
theorem daL_law_12 : dlL_law_12.all (dcK cL_law) = true := by decide +kernel
theorem dL_law_540 : decode cL_law 540 = .ok (.pop, 1) := dc_at daL_law_12 0 rfl
theorem dL_law_541 : decode cL_law 541 = .ok (.goto 913, 3) := dc_at daL_law_12 1 rfl
theorem dL_law_544 : decode cL_law 544 = .ok (.aload_n 1, 1) := dc_at daL_law_12 2 rfl
theorem dL_law_545 : decode cL_law 545 = .ok (.aload_n 0, 1) := dc_at daL_law_12 3 rfl
theorem dL_law_546 : decode cL_law 546 = .ok (.iload_n 3, 1) := dc_at daL_law_12 4 rfl
theorem dL_law_547 : decode cL_law 547 = .ok (.iconst 1, 1) := dc_at daL_law_12 5 rfl
theorem dL_law_548 : decode cL_law 548 = .ok (.iadd, 1) := dc_at daL_law_12 6 rfl
theorem dL_law_549 : decode cL_law 549 = .ok (.iaload, 1) := dc_at daL_law_12 7 rfl
theorem dL_law_550 : decode cL_law 550 = .ok (.invokevirtual 57, 3) := dc_at daL_law_12 8 rfl
theorem dL_law_553 : decode cL_law 553 = .ok (.pop, 1) := dc_at daL_law_12 9 rfl
theorem dL_law_554 : decode cL_law 554 = .ok (.aload_n 2, 1) := dc_at daL_law_12 10 rfl
theorem dL_law_555 : decode cL_law 555 = .ok (.aload_n 0, 1) := dc_at daL_law_12 11 rfl
theorem dL_law_556 : decode cL_law 556 = .ok (.iload_n 3, 1) := dc_at daL_law_12 12 rfl
theorem dL_law_557 : decode cL_law 557 = .ok (.iconst 1, 1) := dc_at daL_law_12 13 rfl
theorem dL_law_558 : decode cL_law 558 = .ok (.iadd, 1) := dc_at daL_law_12 14 rfl
theorem dL_law_559 : decode cL_law 559 = .ok (.iaload, 1) := dc_at daL_law_12 15 rfl
theorem dL_law_560 : decode cL_law 560 = .ok (.invokevirtual 60, 3) := dc_at daL_law_12 16 rfl
theorem dL_law_563 : decode cL_law 563 = .ok (.pop, 1) := dc_at daL_law_12 17 rfl
theorem dL_law_564 : decode cL_law 564 = .ok (.goto 890, 3) := dc_at daL_law_12 18 rfl
theorem dL_law_567 : decode cL_law 567 = .ok (.aload_n 1, 1) := dc_at daL_law_12 19 rfl
theorem dL_law_568 : decode cL_law 568 = .ok (.aload_n 0, 1) := dc_at daL_law_12 20 rfl
theorem dL_law_569 : decode cL_law 569 = .ok (.iload_n 3, 1) := dc_at daL_law_12 21 rfl
theorem dL_law_570 : decode cL_law 570 = .ok (.iconst 1, 1) := dc_at daL_law_12 22 rfl
theorem dL_law_571 : decode cL_law 571 = .ok (.iadd, 1) := dc_at daL_law_12 23 rfl
def dlL_law_13 : List (Nat × Jvm.ClassFile.Instr × Nat) := [(572, .iaload, 1), (573, .invokevirtual 61, 3), (576, .pop, 1), (577, .aload_n 2, 1), (578, .aload_n 0, 1), (579, .iload_n 3, 1), (580, .iconst 1, 1), (581, .iadd, 1), (582, .iaload, 1), (583, .invokevirtual 64, 3), (586, .pop, 1), (587, .goto 867, 3), (590, .aload_n 1, 1), (591, .aload_n 0, 1), (592, .iload_n 3, 1), (593, .iconst 1, 1), (594, .iadd, 1), (595, .iaload, 1), (596, .invokevirtual 65, 3), (599, .pop, 1), (600, .aload_n 2, 1), (601, .aload_n 0, 1), (602, .iload_n 3, 1), (603, .iconst 1, 1)]
theorem daL_law_13 : dlL_law_13.all (dcK cL_law) = true := by decide +kernel
theorem dL_law_572 : decode cL_law 572 = .ok (.iaload, 1) := dc_at daL_law_13 0 rfl
theorem dL_law_573 : decode cL_law 573 = .ok (.invokevirtual 61, 3) := dc_at daL_law_13 1 rfl
theorem dL_law_576 : decode cL_law 576 = .ok (.pop, 1) := dc_at daL_law_13 2 rfl
theorem dL_law_577 : decode cL_law 577 = .ok (.aload_n 2, 1) := dc_at daL_law_13 3 rfl
theorem dL_law_578 : decode cL_law 578 = .ok (.aload_n 0, 1) := dc_at daL_law_13 4 rfl
theorem dL_law_579 : decode cL_law 579 = .ok (.iload_n 3, 1) := dc_at daL_law_13 5 rfl
theorem dL_law_580 : decode cL_law 580 = .ok (.iconst 1, 1) := dc_at daL_law_13 6 rfl
theorem dL_law_581 : decode cL_law 581 = .ok (.iadd, 1) := dc_at daL_law_13 7 rfl
theorem dL_law_582 : decode cL_law 582 = .ok (.iaload, 1) := dc_at daL_law_13 8 rfl
theorem dL_law_583 : decode cL_law 583 = .ok (.invokevirtual 64, 3) := dc_at daL_law_13 9 rfl
theorem dL_law_586 : decode cL_law 586 = .ok (.pop, 1) := dc_at daL_law_13 10 rfl
theorem dL_law_587 : decode cL_law 587 = .ok (.goto 867, 3) := dc_at daL_law_13 11 rfl
theorem dL_law_590 : decode cL_law 590 = .ok (.aload_n 1, 1) := dc_at daL_law_13 12 rfl
theorem dL_law_591 : decode cL_law 591 = .ok (.aload_n 0, 1) := dc_at daL_law_13 13 rfl
theorem dL_law_592 : decode cL_law 592 = .ok (.iload_n 3, 1) := dc_at daL_law_13 14 rfl
theorem dL_law_593 : decode cL_law 593 = .ok (.iconst 1, 1) := dc_at daL_law_13 15 rfl
theorem dL_law_594 : decode cL_law 594 = .ok (.iadd, 1) := dc_at daL_law_13 16 rfl
theorem dL_law_595 : decode cL_law 595 = .ok (.iaload, 1) := dc_at daL_law_13 17 rfl
theorem dL_law_596 : decode cL_law 596 = .ok (.invokevirtual 65, 3) := dc_at daL_law_13 18 rfl
theorem dL_law_599 : decode cL_law 599 = .ok (.pop, 1) := dc_at daL_law_13 19 rfl
theorem dL_law_600 : decode cL_law 600 = .ok (.aload_n 2, 1) := dc_at daL_law_13 20 rfl
theorem dL_law_601 : decode cL_law 601 = .ok (.aload_n 0, 1) := dc_at daL_law_13 21 rfl
theorem dL_law_602 : decode cL_law 602 = .ok (.iload_n 3, 1) := dc_at daL_law_13 22 rfl
theorem dL_law_603 : decode cL_law 603 = .ok (.iconst 1, 1) := dc_at daL_law_13 23 rfl
def dlL_law_14 : List (Nat × Jvm.ClassFile.Instr × Nat) := [(604, .iadd, 1), (605, .iaload, 1), (606, .invokevirtual 68, 3), (609, .pop, 1), (610, .goto 844, 3), (613, .aload_n 1, 1), (614, .aload_n 0, 1), (615, .iload_n 3, 1), (616, .iconst 1, 1), (617, .iadd, 1), (618, .iaload, 1), (619, .aload_n 0, 1), (620, .iload_n 3, 1), (621, .iconst 2, 1), (622, .iadd, 1), (623, .iaload, 1), (624, .invokevirtual 69, 3), (627, .pop, 1), (628, .aload_n 2, 1), (629, .aload_n 0, 1), (630, .iload_n 3, 1), (631, .iconst 1, 1), (632, .iadd, 1), (633, .iaload, 1)]
theorem daL_law_14 : dlL_law_14.all (dcK cL_law) = true := by decide +kernel
theorem dL_law_604 : decode cL_law 604 = .ok (.iadd, 1) := dc_at daL_law_14 0 rfl
theorem dL_law_605 : decode cL_law 605 = .ok (.iaload, 1) := dc_at daL_law_14 1 rfl
theorem dL_law_606 : decode cL_law 606 = .ok (.invokevirtual 68, 3) := dc_at daL_law_14 2 rfl
theorem dL_law_609 : decode cL_law 609 = .ok (.pop, 1) := dc_at daL_law_14 3 rfl
theorem dL_law_610 : decode cL_law 610 = .ok (.goto 844, 3) := dc_at daL_law_14 4 rfl
theorem dL_law_613 : decode cL_law 613 = .ok (.aload_n 1, 1) := dc_at daL_law_14 5 rfl
theorem dL_law_614 : decode cL_law 614 = .ok (.aload_n 0, 1) := dc_at daL_law_14 6 rfl
theorem dL_law_615 : decode cL_law 615 = .ok (.iload_n 3, 1) := dc_at daL_law_14 7 rfl
theorem dL_law_616 : decode cL_law 616 = .ok (.iconst 1, 1) := dc_at daL_law_14 8 rfl
theorem dL_law_617 : decode cL_law 617 = .ok (.iadd, 1) := dc_at daL_law_14 9 rfl
theorem dL_law_618 : decode cL_law 618 = .ok (.iaload, 1) := dc_at daL_law_14 10 rfl
theorem dL_law_619 : decode cL_law 619 = .ok (.aload_n 0, 1) := dc_at daL_law_14 11 rfl
theorem dL_law_620 : decode cL_law 620 = .ok (.iload_n 3, 1) := dc_at daL_law_14 12 rfl
theorem dL_law_621 : decode cL_law 621 = .ok (.iconst 2, 1) := dc_at daL_law_14 13 rfl
theorem dL_law_622 : decode cL_law 622 = .ok (.iadd, 1) := dc_at daL_law_14 14 rfl
theorem dL_law_623 : decode cL_law 623 = .ok (.iaload, 1) := dc_at daL_law_14 15 rfl
theorem dL_law_624 : decode cL_law 624 = .ok (.invokevirtual 69, 3) := dc_at daL_law_14 16 rfl
theorem dL_law_627 : decode cL_law 627 = .ok (.pop, 1) := dc_at daL_law_14 17 rfl
theorem dL_law_628 : decode cL_law 628 = .ok (.aload_n 2, 1) := dc_at daL_law_14 18 rfl
theorem dL_law_629 : decode cL_law 629 = .ok (.aload_n 0, 1) := dc_at daL_law_14 19 rfl
theorem dL_law_630 : decode cL_law 630 = .ok (.iload_n 3, 1) := dc_at daL_law_14 20 rfl
theorem dL_law_631 : decode cL_law 631 = .ok (.iconst 1, 1) := dc_at daL_law_14 21 rfl
theorem dL_law_632 : decode cL_law 632 = .ok (.iadd, 1) := dc_at daL_law_14 22 rfl
theorem dL_law_633 : decode cL_law 633 = .ok (.iaload, 1) := dc_at daL_law_14 23 rfl
def dlL_law_15 : List (Nat × Jvm.ClassFile.Instr × Nat) := [(634, .aload_n 0, 1), (635, .iload_n 3, 1), (636, .iconst 2, 1), (637, .iadd, 1), (638, .iaload, 1), (639, .invokevirtual 72, 3), (642, .pop, 1), (643, .goto 811, 3), (646, .aload_n 1, 1), (647, .aload_n 0, 1), (648, .iload_n 3, 1), (649, .iconst 1, 1), (650, .iadd, 1), (651, .iaload, 1), (652, .invokevirtual 73, 3), (655, .pop, 1), (656, .aload_n 2, 1), (657, .aload_n 0, 1), (658, .iload_n 3, 1), (659, .iconst 1, 1), (660, .iadd, 1), (661, .iaload, 1), (662, .invokevirtual 76, 3), (665, .pop, 1)]
theorem daL_law_15 : dlL_law_15.all (dcK cL_law) = true := by decide +kernel
theorem dL_law_634 : decode cL_law 634 = .ok (.aload_n 0, 1) := dc_at daL_law_15 0 rfl
theorem dL_law_635 : decode cL_law 635 = .ok (.iload_n 3, 1) := dc_at daL_law_15 1 rfl
theorem dL_law_636 : decode cL_law 636 = .ok (.iconst 2, 1) := dc_at daL_law_15 2 rfl
theorem dL_law_637 : decode cL_law 637 = .ok (.iadd, 1) := dc_at daL_law_15 3 rfl
theorem dL_law_638 : decode cL_law 638 = .ok (.iaload, 1) := dc_at daL_law_15 4 rfl
theorem dL_law_639 : decode cL_law 639 = .ok (.invokevirtual 72, 3) := dc_at daL_law_15 5 rfl
theorem dL_law_642 : decode cL_law 642 = .ok (.pop, 1) := dc_at daL_law_15 6 rfl
theorem dL_law_643 : decode cL_law 643 = .ok (.goto 811, 3) := dc_at daL_law_15 7 rfl
theorem dL_law_646 : decode cL_law 646 = .ok (.aload_n 1, 1) := dc_at daL_law_15 8 rfl
theorem dL_law_647 : decode cL_law 647 = .ok (.aload_n 0, 1) := dc_at daL_law_15 9 rfl
theorem dL_law_648 : decode cL_law 648 = .ok (.iload_n 3, 1) := dc_at daL_law_15 10 rfl
theorem dL_law_649 : decode cL_law 649 = .ok (.iconst 1, 1) := dc_at daL_law_15 11 rfl
theorem dL_law_650 : decode cL_law 650 = .ok (.iadd, 1) := dc_at daL_law_15 12 rfl
theorem dL_law_651 : decode cL_law 651 = .ok (.iaload, 1) := dc_at daL_law_15 13 rfl
theorem dL_law_652 : decode cL_law 652 = .ok (.invokevirtual 73, 3) := dc_at daL_law_15 14 rfl
theorem dL_law_655 : decode cL_law 655 = .ok (.pop, 1) := dc_at daL_law_15 15 rfl
theorem dL_law_656 : decode cL_law 656 = .ok (.aload_n 2, 1) := dc_at daL_law_15 16 rfl
theorem dL_law_657 : decode cL_law 657 = .ok (.aload_n 0, 1) := dc_at daL_law_15 17 rfl
theorem dL_law_658 : decode cL_law 658 = .ok (.iload_n 3, 1) := dc_at daL_law_15 18 rfl
theorem dL_law_659 : decode cL_law 659 = .ok (.iconst 1, 1) := dc_at daL_law_15 19 rfl
theorem dL_law_660 : decode cL_law 660 = .ok (.iadd, 1) := dc_at daL_law_15 20 rfl
theorem dL_law_661 : decode cL_law 661 = .ok (.iaload, 1) := dc_at daL_law_15 21 rfl
theorem dL_law_662 : decode cL_law 662 = .ok (.invokevirtual 76, 3) := dc_at daL_law_15 22 rfl
theorem dL_law_665 : decode cL_law 665 = .ok (.pop, 1) := dc_at daL_law_15 23 rfl
def dlL_law_16 : List (Nat × Jvm.ClassFile.Instr × Nat) := [(666, .goto 788, 3), (669, .aload_n 1, 1), (670, .aload_n 0, 1), (671, .iload_n 3, 1), (672, .iconst 1, 1), (673, .iadd, 1), (674, .iaload, 1), (675, .invokevirtual 77, 3), (678, .pop, 1), (679, .aload_n 2, 1), (680, .aload_n 0, 1), (681, .iload_n 3, 1), (682, .iconst 1, 1), (683, .iadd, 1), (684, .iaload, 1), (685, .invokevirtual 80, 3), (688, .pop, 1), (689, .goto 765, 3), (692, .aload_n 1, 1), (693, .aload_n 0, 1), (694, .iload_n 3, 1), (695, .iconst 1, 1), (696, .iadd, 1), (697, .iaload, 1)]
theorem daL_law_16 : dlL_law_16.all (dcK cL_law) = true := by decide +kernel
theorem dL_law_666 : decode cL_law 666 = .ok (.goto 788, 3) := dc_at daL_law_16 0 rfl
theorem dL_law_669 : decode cL_law 669 = .ok (.aload_n 1, 1) := dc_at daL_law_16 1 rfl
theorem dL_law_670 : decode cL_law 670 = .ok (.aload_n 0, 1) := dc_at daL_law_16 2 rfl
theorem dL_law_671 : decode cL_law 671 = .ok (.iload_n 3, 1) := dc_at daL_law_16 3 rfl
theorem dL_law_672 : decode cL_law 672 = .ok (.iconst 1, 1) := dc_at daL_law_16 4 rfl
theorem dL_law_673 : decode cL_law 673 = .ok (.iadd, 1) := dc_at daL_law_16 5 rfl
theorem dL_law_674 : decode cL_law 674 = .ok (.iaload, 1) := dc_at daL_law_16 6 rfl
theorem dL_law_675 : decode cL_law 675 = .ok (.invokevirtual 77, 3) := dc_at daL_law_16 7 rfl
theorem dL_law_678 : decode cL_law 678 = .ok (.pop, 1) := dc_at daL_law_16 8 rfl
theorem dL_law_679 : decode cL_law 679 = .ok (.aload_n 2, 1) := dc_at daL_law_16 9 rfl
theorem dL_law_680 : decode cL_law 680 = .ok (.aload_n 0, 1) := dc_at daL_law_16 10 rfl
theorem dL_law_681 : decode cL_law 681 = .ok (.iload_n 3, 1) := dc_at daL_law_16 11 rfl
theorem dL_law_682 : decode cL_law 682 = .ok (.iconst 1, 1) := dc_at daL_law_16 12 rfl
theorem dL_law_683 : decode cL_law 683 = .ok (.iadd, 1) := dc_at daL_law_16 13 rfl
theorem dL_law_684 : decode cL_law 684 = .ok (.iaload, 1) := dc_at daL_law_16 14 rfl
theorem dL_law_685 : decode cL_law 685 = .ok (.invokevirtual 80, 3) := dc_at daL_law_16 15 rfl
theorem dL_law_688 : decode cL_law 688 = .ok (.pop, 1) := dc_at daL_law_16 16 rfl
theorem dL_law_689 : decode cL_law 689 = .ok (.goto 765, 3) := dc_at daL_law_16 17 rfl
theorem dL_law_692 : decode cL_law 692 = .ok (.aload_n 1, 1) := dc_at daL_law_16 18 rfl
theorem dL_law_693 : decode cL_law 693 = .ok (.aload_n 0, 1) := dc_at daL_law_16 19 rfl
theorem dL_law_694 : decode cL_law 694 = .ok (.iload_n 3, 1) := dc_at daL_law_16 20 rfl
theorem dL_law_695 : decode cL_law 695 = .ok (.iconst 1, 1) := dc_at daL_law_16 21 rfl
theorem dL_law_696 : decode cL_law 696 = .ok (.iadd, 1) := dc_at daL_law_16 22 rfl
theorem dL_law_697 : decode cL_law 697 = .ok (.iaload, 1) := dc_at daL_law_16 23 rfl
def dlL_law_17 : List (Nat × Jvm.ClassFile.Instr × Nat) := [(698, .aload_n 0, 1), (699, .iload_n 3, 1), (700, .iconst 2, 1), (701, .iadd, 1), (702, .iaload, 1), (703, .invokevirtual 81, 3), (706, .pop, 1), (707, .aload_n 2, 1), (708, .aload_n 0, 1), (709, .iload_n 3, 1), (710, .iconst 1, 1), (711, .iadd, 1), (712, .iaload, 1), (713, .aload_n 0, 1), (714, .iload_n 3, 1), (715, .iconst 2, 1), (716, .iadd, 1), (717, .iaload, 1), (718, .invokevirtual 84, 3), (721, .pop, 1), (722, .goto 732, 3), (725, .aload_n 1, 1), (726, .aload_n 0, 1), (727, .iload_n 3, 1)]
theorem daL_law_17 : dlL_law_17.all (dcK cL_law) = true := by decide +kernel
theorem dL_law_698 : decode cL_law 698 = .ok (.aload_n 0, 1) := dc_at daL_law_17 0 rfl
theorem dL_law_699 : decode cL_law 699 = .ok (.iload_n 3, 1) := dc_at daL_law_17 1 rfl
theorem dL_law_700 : decode cL_law 700 = .ok (.iconst 2, 1) := dc_at daL_law_17 2 rfl
theorem dL_law_701 : decode cL_law 701 = .ok (.iadd, 1) := dc_at daL_law_17 3 rfl
theorem dL_law_702 : decode cL_law 702 = .ok (.iaload, 1) := dc_at daL_law_17 4 rfl
theorem dL_law_703 : decode cL_law 703 = .ok (.invokevirtual 81, 3) := dc_at daL_law_17 5 rfl
theorem dL_law_706 : decode cL_law 706 = .ok (.pop, 1) := dc_at daL_law_17 6 rfl
theorem dL_law_707 : decode cL_law 707 = .ok (.aload_n 2, 1) := dc_at daL_law_17 7 rfl
theorem dL_law_708 : decode cL_law 708 = .ok (.aload_n 0, 1) := dc_at daL_law_17 8 rfl
theorem dL_law_709 : decode cL_law 709 = .ok (.iload_n 3, 1) := dc_at daL_law_17 9 rfl
theorem dL_law_710 : decode cL_law 710 = .ok (.iconst 1, 1) := dc_at daL_law_17 10 rfl
theorem dL_law_711 : decode cL_law 711 = .ok (.iadd, 1) := dc_at daL_law_17 11 rfl
theorem dL_law_712 : decode cL_law 712 = .ok (.iaload, 1) := dc_at daL_law_17 12 rfl
theorem dL_law_713 : decode cL_law 713 = .ok (.aload_n 0, 1) := dc_at daL_law_17 13 rfl
theorem dL_law_714 : decode cL_law 714 = .ok (.iload_n 3, 1) := dc_at daL_law_17 14 rfl
theorem dL_law_715 : decode cL_law 715 = .ok (.iconst 2, 1) := dc_at daL_law_17 15 rfl
theorem dL_law_716 : decode cL_law 716 = .ok (.iadd, 1) := dc_at daL_law_17 16 rfl
theorem dL_law_717 : decode cL_law 717 = .ok (.iaload, 1) := dc_at daL_law_17 17 rfl
theorem dL_law_718 : decode cL_law 718 = .ok (.invokevirtual 84, 3) := dc_at daL_law_17 18 rfl
theorem dL_law_721 : decode cL_law 721 = .ok (.pop, 1) := dc_at daL_law_17 19 rfl
theorem dL_law_722 : decode cL_law 722 = .ok (.goto 732, 3) := dc_at daL_law_17 20 rfl
theorem dL_law_725 : decode cL_law 725 = .ok (.aload_n 1, 1) := dc_at daL_law_17 21 rfl
theorem dL_law_726 : decode cL_law 726 = .ok (.aload_n 0, 1) := dc_at daL_law_17 22 rfl
theorem dL_law_727 : decode cL_law 727 = .ok (.iload_n 3, 1) := dc_at daL_law_17 23 rfl
def dlL_law_18 : List (Nat × Jvm.ClassFile.Instr × Nat) := [(728, .iconst 1, 1), (729, .iadd, 1), (730, .iaload, 1), (731, .aload_n 0, 1), (732, .iload_n 3, 1), (733, .iconst 2, 1), (734, .iadd, 1), (735, .iaload, 1), (736, .aload_n 0, 1), (737, .iload_n 3, 1), (738, .iconst 3, 1), (739, .iadd, 1), (740, .iaload, 1), (741, .invokevirtual 85, 3), (744, .pop, 1), (745, .aload_n 2, 1), (746, .aload_n 0, 1), (747, .iload_n 3, 1), (748, .iconst 1, 1), (749, .iadd, 1), (750, .iaload, 1), (751, .aload_n 0, 1), (752, .iload_n 3, 1), (753, .iconst 2, 1)]
theorem daL_law_18 : dlL_law_18.all (dcK cL_law) = true := by decide +kernel
theorem dL_law_728 : decode cL_law 728 = .ok (.iconst 1, 1) := dc_at daL_law_18 0 rfl
theorem dL_law_729 : decode cL_law 729 = .ok (.iadd, 1) := dc_at daL_law_18 1 rfl
theorem dL_law_730 : decode cL_law 730 = .ok (.iaload, 1) := dc_at daL_law_18 2 rfl
theorem dL_law_731 : decode cL_law 731 = .ok (.aload_n 0, 1) := dc_at daL_law_18 3 rfl
theorem dL_law_732 : decode cL_law 732 = .ok (.iload_n 3, 1) := dc_at daL_law_18 4 rfl
theorem dL_law_733 : decode cL_law 733 = .ok (.iconst 2, 1) := dc_at daL_law_18 5 rfl
theorem dL_law_734 : decode cL_law 734 = .ok (.iadd, 1) := dc_at daL_law_18 6 rfl
theorem dL_law_735 : decode cL_law 735 = .ok (.iaload, 1) := dc_at daL_law_18 7 rfl
theorem dL_law_736 : decode cL_law 736 = .ok (.aload_n 0, 1) := dc_at daL_law_18 8 rfl
theorem dL_law_737 : decode cL_law 737 = .ok (.iload_n 3, 1) := dc_at daL_law_18 9 rfl
theorem dL_law_738 : decode cL_law 738 = .ok (.iconst 3, 1) := dc_at daL_law_18 10 rfl
theorem dL_law_739 : decode cL_law 739 = .ok (.iadd, 1) := dc_at daL_law_18 11 rfl
theorem dL_law_740 : decode cL_law 740 = .ok (.iaload, 1) := dc_at daL_law_18 12 rfl
theorem dL_law_741 : decode cL_law 741 = .ok (.invokevirtual 85, 3) := dc_at daL_law_18 13 rfl
theorem dL_law_744 : decode cL_law 744 = .ok (.pop, 1) := dc_at daL_law_18 14 rfl
theorem dL_law_745 : decode cL_law 745 = .ok (.aload_n 2, 1) := dc_at daL_law_18 15 rfl
theorem dL_law_746 : decode cL_law 746 = .ok (.aload_n 0, 1) := dc_at daL_law_18 16 rfl
theorem dL_law_747 : decode cL_law 747 = .ok (.iload_n 3, 1) := dc_at daL_law_18 17 rfl
theorem dL_law_748 : decode cL_law 748 = .ok (.iconst 1, 1) := dc_at daL_law_18 18 rfl
theorem dL_law_749 : decode cL_law 749 = .ok (.iadd, 1) := dc_at daL_law_18 19 rfl
theorem dL_law_750 : decode cL_law 750 = .ok (.iaload, 1) := dc_at daL_law_18 20 rfl
theorem dL_law_751 : decode cL_law 751 = .ok (.aload_n 0, 1) := dc_at daL_law_18 21 rfl
theorem dL_law_752 : decode cL_law 752 = .ok (.iload_n 3, 1) := dc_at daL_law_18 22 rfl
theorem dL_law_753 : decode cL_law 753 = .ok (.iconst 2, 1) := dc_at daL_law_18 23 rfl
def dlL_law_19 : List (Nat × Jvm.ClassFile.Instr × Nat) := [(754, .iadd, 1), (755, .iaload, 1), (756, .aload_n 0, 1), (757, .iload_n 3, 1), (758, .iconst 3, 1), (759, .iadd, 1), (760, .iaload, 1), (761, .invokevirtual 89, 3), (764, .pop, 1), (765, .goto 689, 3), (768, .aload_n 1, 1), (769, .aload_n 0, 1), (770, .iload_n 3, 1), (771, .iconst 1, 1), (772, .iadd, 1), (773, .iaload, 1), (774, .aload_n 0, 1), (775, .iload_n 3, 1), (776, .iconst 2, 1), (777, .iadd, 1), (778, .iaload, 1), (779, .invokevirtual 90, 3), (782, .pop, 1), (783, .aload_n 2, 1)]
theorem daL_law_19 : dlL_law_19.all (dcK cL_law) = true := by decide +kernel
theorem dL_law_754 : decode cL_law 754 = .ok (.iadd, 1) := dc_at daL_law_19 0 rfl
theorem dL_law_755 : decode cL_law 755 = .ok (.iaload, 1) := dc_at daL_law_19 1 rfl
theorem dL_law_756 : decode cL_law 756 = .ok (.aload_n 0, 1) := dc_at daL_law_19 2 rfl
theorem dL_law_757 : decode cL_law 757 = .ok (.iload_n 3, 1) := dc_at daL_law_19 3 rfl
theorem dL_law_758 : decode cL_law 758 = .ok (.iconst 3, 1) := dc_at daL_law_19 4 rfl
theorem dL_law_759 : decode cL_law 759 = .ok (.iadd, 1) := dc_at daL_law_19 5 rfl
theorem dL_law_760 : decode cL_law 760 = .ok (.iaload, 1) := dc_at daL_law_19 6 rfl
theorem dL_law_761 : decode cL_law 761 = .ok (.invokevirtual 89, 3) := dc_at daL_law_19 7 rfl
theorem dL_law_764 : decode cL_law 764 = .ok (.pop, 1) := dc_at daL_law_19 8 rfl
theorem dL_law_765 : decode cL_law 765 = .ok (.goto 689, 3) := dc_at daL_law_19 9 rfl
theorem dL_law_768 : decode cL_law 768 = .ok (.aload_n 1, 1) := dc_at daL_law_19 10 rfl
theorem dL_law_769 : decode cL_law 769 = .ok (.aload_n 0, 1) := dc_at daL_law_19 11 rfl
theorem dL_law_770 : decode cL_law 770 = .ok (.iload_n 3, 1) := dc_at daL_law_19 12 rfl
theorem dL_law_771 : decode cL_law 771 = .ok (.iconst 1, 1) := dc_at daL_law_19 13 rfl
theorem dL_law_772 : decode cL_law 772 = .ok (.iadd, 1) := dc_at daL_law_19 14 rfl
theorem dL_law_773 : decode cL_law 773 = .ok (.iaload, 1) := dc_at daL_law_19 15 rfl
theorem dL_law_774 : decode cL_law 774 = .ok (.aload_n 0, 1) := dc_at daL_law_19 16 rfl
theorem dL_law_775 : decode cL_law 775 = .ok (.iload_n 3, 1) := dc_at daL_law_19 17 rfl
theorem dL_law_776 : decode cL_law 776 = .ok (.iconst 2, 1) := dc_at daL_law_19 18 rfl
theorem dL_law_777 : decode cL_law 777 = .ok (.iadd, 1) := dc_at daL_law_19 19 rfl
theorem dL_law_778 : decode cL_law 778 = .ok (.iaload, 1) := dc_at daL_law_19 20 rfl
theorem dL_law_779 : decode cL_law 779 = .ok (.invokevirtual 90, 3) := dc_at daL_law_19 21 rfl
theorem dL_law_782 : decode cL_law 782 = .ok (.pop, 1) := dc_at daL_law_19 22 rfl
theorem dL_law_783 : decode cL_law 783 = .ok (.aload_n 2, 1) := dc_at daL_law_19 23 rfl
def dlL_law_20 : List (Nat × Jvm.ClassFile.Instr × Nat) := [(784, .aload_n 0, 1), (785, .iload_n 3, 1), (786, .iconst 1, 1), (787, .iadd, 1), (788, .iaload, 1), (789, .aload_n 0, 1), (790, .iload_n 3, 1), (791, .iconst 2, 1), (792, .iadd, 1), (793, .iaload, 1), (794, .invokevirtual 93, 3), (797, .pop, 1), (798, .goto 656, 3), (801, .aload_n 1, 1), (802, .aload_n 0, 1), (803, .iload_n 3, 1), (804, .iconst 1, 1), (805, .iadd, 1), (806, .iaload, 1), (807, .aload_n 0, 1), (808, .iload_n 3, 1), (809, .iconst 2, 1), (810, .iadd, 1), (811, .iaload, 1)]
theorem daL_law_20 : dlL_law_20.all (dcK cL_law) = true := by decide +kernel
theorem dL_law_784 : decode cL_law 784 = .ok (.aload_n 0, 1) := dc_at daL_law_20 0 rfl
theorem dL_law_785 : decode cL_law 785 = .ok (.iload_n 3, 1) := dc_at daL_law_20 1 rfl
theorem dL_law_786 : decode cL_law 786 = .ok (.iconst 1, 1) := dc_at daL_law_20 2 rfl
theorem dL_law_787 : decode cL_law 787 = .ok (.iadd, 1) := dc_at daL_law_20 3 rfl
theorem dL_law_788 : decode cL_law 788 = .ok (.iaload, 1) := dc_at daL_law_20 4 rfl
theorem dL_law_789 : decode cL_law 789 = .ok (.aload_n 0, 1) := dc_at daL_law_20 5 rfl
theorem dL_law_790 : decode cL_law 790 = .ok (.iload_n 3, 1) := dc_at daL_law_20 6 rfl
theorem dL_law_791 : decode cL_law 791 = .ok (.iconst 2, 1) := dc_at daL_law_20 7 rfl
theorem dL_law_792 : decode cL_law 792 = .ok (.iadd, 1) := dc_at daL_law_20 8 rfl
theorem dL_law_793 : decode cL_law 793 = .ok (.iaload, 1) := dc_at daL_law_20 9 rfl
theorem dL_law_794 : decode cL_law 794 = .ok (.invokevirtual 93, 3) := dc_at daL_law_20 10 rfl
theorem dL_law_797 : decode cL_law 797 = .ok (.pop, 1) := dc_at daL_law_20 11 rfl
theorem dL_law_798 : decode cL_law 798 = .ok (.goto 656, 3) := dc_at daL_law_20 12 rfl
theorem dL_law_801 : decode cL_law 801 = .ok (.aload_n 1, 1) := dc_at daL_law_20 13 rfl
theorem dL_law_802 : decode cL_law 802 = .ok (.aload_n 0, 1) := dc_at daL_law_20 14 rfl
theorem dL_law_803 : decode cL_law 803 = .ok (.iload_n 3, 1) := dc_at daL_law_20 15 rfl
theorem dL_law_804 : decode cL_law 804 = .ok (.iconst 1, 1) := dc_at daL_law_20 16 rfl
theorem dL_law_805 : decode cL_law 805 = .ok (.iadd, 1) := dc_at daL_law_20 17 rfl
theorem dL_law_806 : decode cL_law 806 = .ok (.iaload, 1) := dc_at daL_law_20 18 rfl
theorem dL_law_807 : decode cL_law 807 = .ok (.aload_n 0, 1) := dc_at daL_law_20 19 rfl
theorem dL_law_808 : decode cL_law 808 = .ok (.iload_n 3, 1) := dc_at daL_law_20 20 rfl
theorem dL_law_809 : decode cL_law 809 = .ok (.iconst 2, 1) := dc_at daL_law_20 21 rfl
theorem dL_law_810 : decode cL_law 810 = .ok (.iadd, 1) := dc_at daL_law_20 22 rfl
theorem dL_law_811 : decode cL_law 811 = .ok (.iaload, 1) := dc_at daL_law_20 23 rfl
def dlL_law_21 : List (Nat × Jvm.ClassFile.Instr × Nat) := [(812, .invokevirtual 94, 3), (815, .pop, 1), (816, .aload_n 2, 1), (817, .aload_n 0, 1), (818, .iload_n 3, 1), (819, .iconst 1, 1), (820, .iadd, 1), (821, .iaload, 1), (822, .aload_n 0, 1), (823, .iload_n 3, 1), (824, .iconst 2, 1), (825, .iadd, 1), (826, .iaload, 1), (827, .invokevirtual 97, 3), (830, .pop, 1), (831, .goto 623, 3), (834, .aload_n 1, 1), (835, .aload_n 0, 1), (836, .iload_n 3, 1), (837, .iconst 1, 1), (838, .iadd, 1), (839, .iaload, 1), (840, .aload_n 0, 1), (841, .iload_n 3, 1)]
theorem daL_law_21 : dlL_law_21.all (dcK cL_law) = true := by decide +kernel
theorem dL_law_812 : decode cL_law 812 = .ok (.invokevirtual 94, 3) := dc_at daL_law_21 0 rfl
theorem dL_law_815 : decode cL_law 815 = .ok (.pop, 1) := dc_at daL_law_21 1 rfl
theorem dL_law_816 : decode cL_law 816 = .ok (.aload_n 2, 1) := dc_at daL_law_21 2 rfl
theorem dL_law_817 : decode cL_law 817 = .ok (.aload_n 0, 1) := dc_at daL_law_21 3 rfl
theorem dL_law_818 : decode cL_law 818 = .ok (.iload_n 3, 1) := dc_at daL_law_21 4 rfl
theorem dL_law_819 : decode cL_law 819 = .ok (.iconst 1, 1) := dc_at daL_law_21 5 rfl
theorem dL_law_820 : decode cL_law 820 = .ok (.iadd, 1) := dc_at daL_law_21 6 rfl
theorem dL_law_821 : decode cL_law 821 = .ok (.iaload, 1) := dc_at daL_law_21 7 rfl
theorem dL_law_822 : decode cL_law 822 = .ok (.aload_n 0, 1) := dc_at daL_law_21 8 rfl
theorem dL_law_823 : decode cL_law 823 = .ok (.iload_n 3, 1) := dc_at daL_law_21 9 rfl
theorem dL_law_824 : decode cL_law 824 = .ok (.iconst 2, 1) := dc_at daL_law_21 10 rfl
theorem dL_law_825 : decode cL_law 825 = .ok (.iadd, 1) := dc_at daL_law_21 11 rfl
theorem dL_law_826 : decode cL_law 826 = .ok (.iaload, 1) := dc_at daL_law_21 12 rfl
theorem dL_law_827 : decode cL_law 827 = .ok (.invokevirtual 97, 3) := dc_at daL_law_21 13 rfl
theorem dL_law_830 : decode cL_law 830 = .ok (.pop, 1) := dc_at daL_law_21 14 rfl
theorem dL_law_831 : decode cL_law 831 = .ok (.goto 623, 3) := dc_at daL_law_21 15 rfl
theorem dL_law_834 : decode cL_law 834 = .ok (.aload_n 1, 1) := dc_at daL_law_21 16 rfl
theorem dL_law_835 : decode cL_law 835 = .ok (.aload_n 0, 1) := dc_at daL_law_21 17 rfl
theorem dL_law_836 : decode cL_law 836 = .ok (.iload_n 3, 1) := dc_at daL_law_21 18 rfl
theorem dL_law_837 : decode cL_law 837 = .ok (.iconst 1, 1) := dc_at daL_law_21 19 rfl
theorem dL_law_838 : decode cL_law 838 = .ok (.iadd, 1) := dc_at daL_law_21 20 rfl
theorem dL_law_839 : decode cL_law 839 = .ok (.iaload, 1) := dc_at daL_law_21 21 rfl
theorem dL_law_840 : decode cL_law 840 = .ok (.aload_n 0, 1) := dc_at daL_law_21 22 rfl
theorem dL_law_841 : decode cL_law 841 = .ok (.iload_n 3, 1) := dc_at daL_law_21 23 rfl
def dlL_law_22 : List (Nat × Jvm.ClassFile.Instr × Nat) := [(842, .iconst 2, 1), (843, .iadd, 1), (844, .iaload, 1), (845, .invokevirtual 98, 3), (848, .pop, 1), (849, .aload_n 2, 1), (850, .aload_n 0, 1), (851, .iload_n 3, 1), (852, .iconst 1, 1), (853, .iadd, 1), (854, .iaload, 1), (855, .aload_n 0, 1), (856, .iload_n 3, 1), (857, .iconst 2, 1), (858, .iadd, 1), (859, .iaload, 1), (860, .invokevirtual 101, 3), (863, .pop, 1), (864, .goto 590, 3), (867, .aload_n 1, 1), (868, .aload_n 0, 1), (869, .iload_n 3, 1), (870, .iconst 1, 1), (871, .iadd, 1)]
theorem daL_law_22 : dlL_law_22.all (dcK cL_law) = true := by decide +kernel
theorem dL_law_842 : decode cL_law 842 = .ok (.iconst 2, 1) := dc_at daL_law_22 0 rfl
theorem dL_law_843 : decode cL_law 843 = .ok (.iadd, 1) := dc_at daL_law_22 1 rfl
theorem dL_law_844 : decode cL_law 844 = .ok (.iaload, 1) := dc_at daL_law_22 2 rfl
theorem dL_law_845 : decode cL_law 845 = .ok (.invokevirtual 98, 3) := dc_at daL_law_22 3 rfl
theorem dL_law_848 : decode cL_law 848 = .ok (.pop, 1) := dc_at daL_law_22 4 rfl
theorem dL_law_849 : decode cL_law 849 = .ok (.aload_n 2, 1) := dc_at daL_law_22 5 rfl
theorem dL_law_850 : decode cL_law 850 = .ok (.aload_n 0, 1) := dc_at daL_law_22 6 rfl
theorem dL_law_851 : decode cL_law 851 = .ok (.iload_n 3, 1) := dc_at daL_law_22 7 rfl
theorem dL_law_852 : decode cL_law 852 = .ok (.iconst 1, 1) := dc_at daL_law_22 8 rfl
theorem dL_law_853 : decode cL_law 853 = .ok (.iadd, 1) := dc_at daL_law_22 9 rfl
theorem dL_law_854 : decode cL_law 854 = .ok (.iaload, 1) := dc_at daL_law_22 10 rfl
theorem dL_law_855 : decode cL_law 855 = .ok (.aload_n 0, 1) := dc_at daL_law_22 11 rfl
theorem dL_law_856 : decode cL_law 856 = .ok (.iload_n 3, 1) := dc_at daL_law_22 12 rfl
theorem dL_law_857 : decode cL_law 857 = .ok (.iconst 2, 1) := dc_at daL_law_22 13 rfl
theorem dL_law_858 : decode cL_law 858 = .ok (.iadd, 1) := dc_at daL_law_22 14 rfl
theorem dL_law_859 : decode cL_law 859 = .ok (.iaload, 1) := dc_at daL_law_22 15 rfl
theorem dL_law_860 : decode cL_law 860 = .ok (.invokevirtual 101, 3) := dc_at daL_law_22 16 rfl
theorem dL_law_863 : decode cL_law 863 = .ok (.pop, 1) := dc_at daL_law_22 17 rfl
theorem dL_law_864 : decode cL_law 864 = .ok (.goto 590, 3) := dc_at daL_law_22 18 rfl
theorem dL_law_867 : decode cL_law 867 = .ok (.aload_n 1, 1) := dc_at daL_law_22 19 rfl
theorem dL_law_868 : decode cL_law 868 = .ok (.aload_n 0, 1) := dc_at daL_law_22 20 rfl
theorem dL_law_869 : decode cL_law 869 = .ok (.iload_n 3, 1) := dc_at daL_law_22 21 rfl
theorem dL_law_870 : decode cL_law 870 = .ok (.iconst 1, 1) := dc_at daL_law_22 22 rfl
theorem dL_law_871 : decode cL_law 871 = .ok (.iadd, 1) := dc_at daL_law_22 23 rfl
def dlL_law_23 : List (Nat × Jvm.ClassFile.Instr × Nat) := [(872, .iaload, 1), (873, .aload_n 0, 1), (874, .iload_n 3, 1), (875, .iconst 2, 1), (876, .iadd, 1), (877, .iaload, 1), (878, .aload_n 0, 1), (879, .iload_n 3, 1), (880, .iconst 3, 1), (881, .iadd, 1), (882, .iaload, 1), (883, .invokevirtual 102, 3), (886, .pop, 1), (887, .aload_n 2, 1), (888, .aload_n 0, 1), (889, .iload_n 3, 1), (890, .iconst 1, 1), (891, .iadd, 1), (892, .iaload, 1), (893, .aload_n 0, 1), (894, .iload_n 3, 1), (895, .iconst 2, 1), (896, .iadd, 1), (897, .iaload, 1)]
theorem daL_law_23 : dlL_law_23.all (dcK cL_law) = true := by decide +kernel
theorem dL_law_872 : decode cL_law 872 = .ok (.iaload, 1) := dc_at daL_law_23 0 rfl
theorem dL_law_873 : decode cL_law 873 = .ok (.aload_n 0, 1) := dc_at daL_law_23 1 rfl
theorem dL_law_874 : decode cL_law 874 = .ok (.iload_n 3, 1) := dc_at daL_law_23 2 rfl
theorem dL_law_875 : decode cL_law 875 = .ok (.iconst 2, 1) := dc_at daL_law_23 3 rfl
theorem dL_law_876 : decode cL_law 876 = .ok (.iadd, 1) := dc_at daL_law_23 4 rfl
theorem dL_law_877 : decode cL_law 877 = .ok (.iaload, 1) := dc_at daL_law_23 5 rfl
theorem dL_law_878 : decode cL_law 878 = .ok (.aload_n 0, 1) := dc_at daL_law_23 6 rfl
theorem dL_law_879 : decode cL_law 879 = .ok (.iload_n 3, 1) := dc_at daL_law_23 7 rfl
theorem dL_law_880 : decode cL_law 880 = .ok (.iconst 3, 1) := dc_at daL_law_23 8 rfl
theorem dL_law_881 : decode cL_law 881 = .ok (.iadd, 1) := dc_at daL_law_23 9 rfl
theorem dL_law_882 : decode cL_law 882 = .ok (.iaload, 1) := dc_at daL_law_23 10 rfl
theorem dL_law_883 : decode cL_law 883 = .ok (.invokevirtual 102, 3) := dc_at daL_law_23 11 rfl
theorem dL_law_886 : decode cL_law 886 = .ok (.pop, 1) := dc_at daL_law_23 12 rfl
theorem dL_law_887 : decode cL_law 887 = .ok (.aload_n 2, 1) := dc_at daL_law_23 13 rfl
theorem dL_law_888 : decode cL_law 888 = .ok (.aload_n 0, 1) := dc_at daL_law_23 14 rfl
theorem dL_law_889 : decode cL_law 889 = .ok (.iload_n 3, 1) := dc_at daL_law_23 15 rfl
theorem dL_law_890 : decode cL_law 890 = .ok (.iconst 1, 1) := dc_at daL_law_23 16 rfl
theorem dL_law_891 : decode cL_law 891 = .ok (.iadd, 1) := dc_at daL_law_23 17 rfl
theorem dL_law_892 : decode cL_law 892 = .ok (.iaload, 1) := dc_at daL_law_23 18 rfl
theorem dL_law_893 : decode cL_law 893 = .ok (.aload_n 0, 1) := dc_at daL_law_23 19 rfl
theorem dL_law_894 : decode cL_law 894 = .ok (.iload_n 3, 1) := dc_at daL_law_23 20 rfl
theorem dL_law_895 : decode cL_law 895 = .ok (.iconst 2, 1) := dc_at daL_law_23 21 rfl
theorem dL_law_896 : decode cL_law 896 = .ok (.iadd, 1) := dc_at daL_law_23 22 rfl
theorem dL_law_897 : decode cL_law 897 = .ok (.iaload, 1) := dc_at daL_law_23 23 rfl
def dlL_law_24 : List (Nat × Jvm.ClassFile.Instr × Nat) := [(898, .aload_n 0, 1), (899, .iload_n 3, 1), (900, .iconst 3, 1), (901, .iadd, 1), (902, .iaload, 1), (903, .invokevirtual 105, 3), (906, .pop, 1), (907, .goto 547, 3), (910, .aload_n 1, 1), (911, .aload_n 0, 1), (912, .iload_n 3, 1), (913, .iconst 1, 1), (914, .iadd, 1), (915, .iaload, 1), (916, .aload_n 0, 1), (917, .iload_n 3, 1), (918, .iconst 2, 1), (919, .iadd, 1), (920, .iaload, 1), (921, .invokevirtual 106, 3), (924, .pop, 1), (925, .aload_n 2, 1), (926, .aload_n 0, 1), (927, .iload_n 3, 1)]
theorem daL_law_24 : dlL_law_24.all (dcK cL_law) = true := by decide +kernel
theorem dL_law_898 : decode cL_law 898 = .ok (.aload_n 0, 1) := dc_at daL_law_24 0 rfl
theorem dL_law_899 : decode cL_law 899 = .ok (.iload_n 3, 1) := dc_at daL_law_24 1 rfl
theorem dL_law_900 : decode cL_law 900 = .ok (.iconst 3, 1) := dc_at daL_law_24 2 rfl
theorem dL_law_901 : decode cL_law 901 = .ok (.iadd, 1) := dc_at daL_law_24 3 rfl
theorem dL_law_902 : decode cL_law 902 = .ok (.iaload, 1) := dc_at daL_law_24 4 rfl
theorem dL_law_903 : decode cL_law 903 = .ok (.invokevirtual 105, 3) := dc_at daL_law_24 5 rfl
theorem dL_law_906 : decode cL_law 906 = .ok (.pop, 1) := dc_at daL_law_24 6 rfl
theorem dL_law_907 : decode cL_law 907 = .ok (.goto 547, 3) := dc_at daL_law_24 7 rfl
theorem dL_law_910 : decode cL_law 910 = .ok (.aload_n 1, 1) := dc_at daL_law_24 8 rfl
theorem dL_law_911 : decode cL_law 911 = .ok (.aload_n 0, 1) := dc_at daL_law_24 9 rfl
theorem dL_law_912 : decode cL_law 912 = .ok (.iload_n 3, 1) := dc_at daL_law_24 10 rfl
theorem dL_law_913 : decode cL_law 913 = .ok (.iconst 1, 1) := dc_at daL_law_24 11 rfl
theorem dL_law_914 : decode cL_law 914 = .ok (.iadd, 1) := dc_at daL_law_24 12 rfl
theorem dL_law_915 : decode cL_law 915 = .ok (.iaload, 1) := dc_at daL_law_24 13 rfl
theorem dL_law_916 : decode cL_law 916 = .ok (.aload_n 0, 1) := dc_at daL_law_24 14 rfl
theorem dL_law_917 : decode cL_law 917 = .ok (.iload_n 3, 1) := dc_at daL_law_24 15 rfl
theorem dL_law_918 : decode cL_law 918 = .ok (.iconst 2, 1) := dc_at daL_law_24 16 rfl
theorem dL_law_919 : decode cL_law 919 = .ok (.iadd, 1) := dc_at daL_law_24 17 rfl
theorem dL_law_920 : decode cL_law 920 = .ok (.iaload, 1) := dc_at daL_law_24 18 rfl
theorem dL_law_921 : decode cL_law 921 = .ok (.invokevirtual 106, 3) := dc_at daL_law_24 19 rfl
theorem dL_law_924 : decode cL_law 924 = .ok (.pop, 1) := dc_at daL_law_24 20 rfl
theorem dL_law_925 : decode cL_law 925 = .ok (.aload_n 2, 1) := dc_at daL_law_24 21 rfl
theorem dL_law_926 : decode cL_law 926 = .ok (.aload_n 0, 1) := dc_at daL_law_24 22 rfl
theorem dL_law_927 : decode cL_law 927 = .ok (.iload_n 3, 1) := dc_at daL_law_24 23 rfl
def dlL_law_25 : List (Nat × Jvm.ClassFile.Instr × Nat) := [(928, .iconst 1, 1), (929, .iadd, 1), (930, .iaload, 1), (931, .aload_n 0, 1), (932, .iload_n 3, 1), (933, .iconst 2, 1), (934, .iadd, 1), (935, .iaload, 1), (936, .invokevirtual 109, 3), (939, .pop, 1), (940, .goto 514, 3), (943, .aload_n 1, 1), (944, .aload_n 0, 1), (945, .iload_n 3, 1), (946, .iconst 1, 1), (947, .iadd, 1), (948, .iaload, 1), (949, .aload_n 0, 1), (950, .iload_n 3, 1), (951, .iconst 2, 1), (952, .iadd, 1), (953, .iaload, 1), (954, .invokevirtual 110, 3), (957, .pop, 1)]
theorem daL_law_25 : dlL_law_25.all (dcK cL_law) = true := by decide +kernel
theorem dL_law_928 : decode cL_law 928 = .ok (.iconst 1, 1) := dc_at daL_law_25 0 rfl
theorem dL_law_929 : decode cL_law 929 = .ok (.iadd, 1) := dc_at daL_law_25 1 rfl
theorem dL_law_930 : decode cL_law 930 = .ok (.iaload, 1) := dc_at daL_law_25 2 rfl
theorem dL_law_931 : decode cL_law 931 = .ok (.aload_n 0, 1) := dc_at daL_law_25 3 rfl
theorem dL_law_932 : decode cL_law 932 = .ok (.iload_n 3, 1) := dc_at daL_law_25 4 rfl
theorem dL_law_933 : decode cL_law 933 = .ok (.iconst 2, 1) := dc_at daL_law_25 5 rfl
theorem dL_law_934 : decode cL_law 934 = .ok (.iadd, 1) := dc_at daL_law_25 6 rfl
theorem dL_law_935 : decode cL_law 935 = .ok (.iaload, 1) := dc_at daL_law_25 7 rfl
theorem dL_law_936 : decode cL_law 936 = .ok (.invokevirtual 109, 3) := dc_at daL_law_25 8 rfl
theorem dL_law_939 : decode cL_law 939 = .ok (.pop, 1) := dc_at daL_law_25 9 rfl
theorem dL_law_940 : decode cL_law 940 = .ok (.goto 514, 3) := dc_at daL_law_25 10 rfl
theorem dL_law_943 : decode cL_law 943 = .ok (.aload_n 1, 1) := dc_at daL_law_25 11 rfl
theorem dL_law_944 : decode cL_law 944 = .ok (.aload_n 0, 1) := dc_at daL_law_25 12 rfl
theorem dL_law_945 : decode cL_law 945 = .ok (.iload_n 3, 1) := dc_at daL_law_25 13 rfl
theorem dL_law_946 : decode cL_law 946 = .ok (.iconst 1, 1) := dc_at daL_law_25 14 rfl
theorem dL_law_947 : decode cL_law 947 = .ok (.iadd, 1) := dc_at daL_law_25 15 rfl
theorem dL_law_948 : decode cL_law 948 = .ok (.iaload, 1) := dc_at daL_law_25 16 rfl
theorem dL_law_949 : decode cL_law 949 = .ok (.aload_n 0, 1) := dc_at daL_law_25 17 rfl
theorem dL_law_950 : decode cL_law 950 = .ok (.iload_n 3, 1) := dc_at daL_law_25 18 rfl
theorem dL_law_951 : decode cL_law 951 = .ok (.iconst 2, 1) := dc_at daL_law_25 19 rfl
theorem dL_law_952 : decode cL_law 952 = .ok (.iadd, 1) := dc_at daL_law_25 20 rfl
theorem dL_law_953 : decode cL_law 953 = .ok (.iaload, 1) := dc_at daL_law_25 21 rfl
theorem dL_law_954 : decode cL_law 954 = .ok (.invokevirtual 110, 3) := dc_at daL_law_25 22 rfl
theorem dL_law_957 : decode cL_law 957 = .ok (.pop, 1) := dc_at daL_law_25 23 rfl
def dlL_law_26 : List (Nat × Jvm.ClassFile.Instr × Nat) := [(958, .aload_n 2, 1), (959, .aload_n 0, 1), (960, .iload_n 3, 1), (961, .iconst 1, 1), (962, .iadd, 1), (963, .iaload, 1), (964, .aload_n 0, 1), (965, .iload_n 3, 1), (966, .iconst 2, 1), (967, .iadd, 1), (968, .iaload, 1), (969, .invokevirtual 113, 3), (972, .pop, 1), (973, .goto 481, 3), (976, .aload_n 1, 1), (977, .aload_n 0, 1), (978, .iload_n 3, 1), (979, .iconst 1, 1), (980, .iadd, 1), (981, .iaload, 1), (982, .aload_n 0, 1), (983, .iload_n 3, 1), (984, .iconst 2, 1), (985, .iadd, 1)]
theorem daL_law_26 : dlL_law_26.all (dcK cL_law) = true := by decide +kernel
theorem dL_law_958 : decode cL_law 958 = .ok (.aload_n 2, 1) := dc_at daL_law_26 0 rfl
theorem dL_law_959 : decode cL_law 959 = .ok (.aload_n 0, 1) := dc_at daL_law_26 1 rfl
theorem dL_law_960 : decode cL_law 960 = .ok (.iload_n 3, 1) := dc_at daL_law_26 2 rfl
theorem dL_law_961 : decode cL_law 961 = .ok (.iconst 1, 1) := dc_at daL_law_26 3 rfl
theorem dL_law_962 : decode cL_law 962 = .ok (.iadd, 1) := dc_at daL_law_26 4 rfl
theorem dL_law_963 : decode cL_law 963 = .ok (.iaload, 1) := dc_at daL_law_26 5 rfl
theorem dL_law_964 : decode cL_law 964 = .ok (.aload_n 0, 1) := dc_at daL_law_26 6 rfl
theorem dL_law_965 : decode cL_law 965 = .ok (.iload_n 3, 1) := dc_at daL_law_26 7 rfl
theorem dL_law_966 : decode cL_law 966 = .ok (.iconst 2, 1) := dc_at daL_law_26 8 rfl
theorem dL_law_967 : decode cL_law 967 = .ok (.iadd, 1) := dc_at daL_law_26 9 rfl
theorem dL_law_968 : decode cL_law 968 = .ok (.iaload, 1) := dc_at daL_law_26 10 rfl
theorem dL_law_969 : decode cL_law 969 = .ok (.invokevirtual 113, 3) := dc_at daL_law_26 11 rfl
theorem dL_law_972 : decode cL_law 972 = .ok (.pop, 1) := dc_at daL_law_26 12 rfl
theorem dL_law_973 : decode cL_law 973 = .ok (.goto 481, 3) := dc_at daL_law_26 13 rfl
theorem dL_law_976 : decode cL_law 976 = .ok (.aload_n 1, 1) := dc_at daL_law_26 14 rfl
theorem dL_law_977 : decode cL_law 977 = .ok (.aload_n 0, 1) := dc_at daL_law_26 15 rfl
theorem dL_law_978 : decode cL_law 978 = .ok (.iload_n 3, 1) := dc_at daL_law_26 16 rfl
theorem dL_law_979 : decode cL_law 979 = .ok (.iconst 1, 1) := dc_at daL_law_26 17 rfl
theorem dL_law_980 : decode cL_law 980 = .ok (.iadd, 1) := dc_at daL_law_26 18 rfl
theorem dL_law_981 : decode cL_law 981 = .ok (.iaload, 1) := dc_at daL_law_26 19 rfl
theorem dL_law_982 : decode cL_law 982 = .ok (.aload_n 0, 1) := dc_at daL_law_26 20 rfl
theorem dL_law_983 : decode cL_law 983 = .ok (.iload_n 3, 1) := dc_at daL_law_26 21 rfl
theorem dL_law_984 : decode cL_law 984 = .ok (.iconst 2, 1) := dc_at daL_law_26 22 rfl
theorem dL_law_985 : decode cL_law 985 = .ok (.iadd, 1) := dc_at daL_law_26 23 rfl
def dlL_law_27 : List (Nat × Jvm.ClassFile.Instr × Nat) := [(986, .iaload, 1), (987, .invokevirtual 114, 3), (990, .pop, 1), (991, .aload_n 2, 1), (992, .aload_n 0, 1), (993, .iload_n 3, 1), (994, .iconst 1, 1), (995, .iadd, 1), (996, .iaload, 1), (997, .aload_n 0, 1), (998, .iload_n 3, 1), (999, .iconst 2, 1), (1000, .iadd, 1), (1001, .iaload, 1), (1002, .invokevirtual 117, 3), (1005, .pop, 1), (1006, .goto 448, 3), (1009, .aload_n 1, 1), (1010, .aload_n 0, 1), (1011, .iload_n 3, 1), (1012, .iconst 1, 1), (1013, .iadd, 1), (1014, .iaload, 1), (1015, .invokevirtual 118, 3)]
theorem daL_law_27 : dlL_law_27.all (dcK cL_law) = true := by decide +kernel
theorem dL_law_986 : decode cL_law 986 = .ok (.iaload, 1) := dc_at daL_law_27 0 rfl
theorem dL_law_987 : decode cL_law 987 = .ok (.invokevirtual 114, 3) := dc_at daL_law_27 1 rfl
theorem dL_law_990 : decode cL_law 990 = .ok (.pop, 1) := dc_at daL_law_27 2 rfl
theorem dL_law_991 : decode cL_law 991 = .ok (.aload_n 2, 1) := dc_at daL_law_27 3 rfl
theorem dL_law_992 : decode cL_law 992 = .ok (.aload_n 0, 1) := dc_at daL_law_27 4 rfl
theorem dL_law_993 : decode cL_law 993 = .ok (.iload_n 3, 1) := dc_at daL_law_27 5 rfl
theorem dL_law_994 : decode cL_law 994 = .ok (.iconst 1, 1) := dc_at daL_law_27 6 rfl
theorem dL_law_995 : decode cL_law 995 = .ok (.iadd, 1) := dc_at daL_law_27 7 rfl
theorem dL_law_996 : decode cL_law 996 = .ok (.iaload, 1) := dc_at daL_law_27 8 rfl
theorem dL_law_997 : decode cL_law 997 = .ok (.aload_n 0, 1) := dc_at daL_law_27 9 rfl
theorem dL_law_998 : decode cL_law 998 = .ok (.iload_n 3, 1) := dc_at daL_law_27 10 rfl
theorem dL_law_999 : decode cL_law 999 = .ok (.iconst 2, 1) := dc_at daL_law_27 11 rfl
theorem dL_law_1000 : decode cL_law 1000 = .ok (.iadd, 1) := dc_at daL_law_27 12 rfl
theorem dL_law_1001 : decode cL_law 1001 = .ok (.iaload, 1) := dc_at daL_law_27 13 rfl
theorem dL_law_1002 : decode cL_law 1002 = .ok (.invokevirtual 117, 3) := dc_at daL_law_27 14 rfl
theorem dL_law_1005 : decode cL_law 1005 = .ok (.pop, 1) := dc_at daL_law_27 15 rfl
theorem dL_law_1006 : decode cL_law 1006 = .ok (.goto 448, 3) := dc_at daL_law_27 16 rfl
theorem dL_law_1009 : decode cL_law 1009 = .ok (.aload_n 1, 1) := dc_at daL_law_27 17 rfl
theorem dL_law_1010 : decode cL_law 1010 = .ok (.aload_n 0, 1) := dc_at daL_law_27 18 rfl
theorem dL_law_1011 : decode cL_law 1011 = .ok (.iload_n 3, 1) := dc_at daL_law_27 19 rfl
theorem dL_law_1012 : decode cL_law 1012 = .ok (.iconst 1, 1) := dc_at daL_law_27 20 rfl
theorem dL_law_1013 : decode cL_law 1013 = .ok (.iadd, 1) := dc_at daL_law_27 21 rfl
theorem dL_law_1014 : decode cL_law 1014 = .ok (.iaload, 1) := dc_at daL_law_27 22 rfl
theorem dL_law_1015 : decode cL_law 1015 = .ok (.invokevirtual 118, 3) := dc_at daL_law_27 23 rfl
def dlL_law_28 : List (Nat × Jvm.ClassFile.Instr × Nat) := [(1018, .pop, 1), (1019, .aload_n 2, 1), (1020, .aload_n 0, 1), (1021, .iload_n 3, 1), (1022, .iconst 1, 1), (1023, .iadd, 1), (1024, .iaload, 1), (1025, .invokevirtual 121, 3), (1028, .pop, 1), (1029, .goto 425, 3), (1032, .aload_n 1, 1), (1033, .invokevirtual 122, 3), (1036, .pop, 1), (1037, .aload_n 2, 1), (1038, .invokevirtual 126, 3), (1041, .pop, 1), (1042, .goto 412, 3), (1045, .aload_n 1, 1), (1046, .aload_n 0, 1), (1047, .iload_n 3, 1), (1048, .iconst 1, 1), (1049, .iadd, 1), (1050, .iaload, 1), (1051, .invokevirtual 127, 3)]
theorem daL_law_28 : dlL_law_28.all (dcK cL_law) = true := by decide +kernel
theorem dL_law_1018 : decode cL_law 1018 = .ok (.pop, 1) := dc_at daL_law_28 0 rfl
theorem dL_law_1019 : decode cL_law 1019 = .ok (.aload_n 2, 1) := dc_at daL_law_28 1 rfl
theorem dL_law_1020 : decode cL_law 1020 = .ok (.aload_n 0, 1) := dc_at daL_law_28 2 rfl
theorem dL_law_1021 : decode cL_law 1021 = .ok (.iload_n 3, 1) := dc_at daL_law_28 3 rfl
theorem dL_law_1022 : decode cL_law 1022 = .ok (.iconst 1, 1) := dc_at daL_law_28 4 rfl
theorem dL_law_1023 : decode cL_law 1023 = .ok (.iadd, 1) := dc_at daL_law_28 5 rfl
theorem dL_law_1024 : decode cL_law 1024 = .ok (.iaload, 1) := dc_at daL_law_28 6 rfl
theorem dL_law_1025 : decode cL_law 1025 = .ok (.invokevirtual 121, 3) := dc_at daL_law_28 7 rfl
theorem dL_law_1028 : decode cL_law 1028 = .ok (.pop, 1) := dc_at daL_law_28 8 rfl
theorem dL_law_1029 : decode cL_law 1029 = .ok (.goto 425, 3) := dc_at daL_law_28 9 rfl
theorem dL_law_1032 : decode cL_law 1032 = .ok (.aload_n 1, 1) := dc_at daL_law_28 10 rfl
theorem dL_law_1033 : decode cL_law 1033 = .ok (.invokevirtual 122, 3) := dc_at daL_law_28 11 rfl
theorem dL_law_1036 : decode cL_law 1036 = .ok (.pop, 1) := dc_at daL_law_28 12 rfl
theorem dL_law_1037 : decode cL_law 1037 = .ok (.aload_n 2, 1) := dc_at daL_law_28 13 rfl
theorem dL_law_1038 : decode cL_law 1038 = .ok (.invokevirtual 126, 3) := dc_at daL_law_28 14 rfl
theorem dL_law_1041 : decode cL_law 1041 = .ok (.pop, 1) := dc_at daL_law_28 15 rfl
theorem dL_law_1042 : decode cL_law 1042 = .ok (.goto 412, 3) := dc_at daL_law_28 16 rfl
theorem dL_law_1045 : decode cL_law 1045 = .ok (.aload_n 1, 1) := dc_at daL_law_28 17 rfl
theorem dL_law_1046 : decode cL_law 1046 = .ok (.aload_n 0, 1) := dc_at daL_law_28 18 rfl
theorem dL_law_1047 : decode cL_law 1047 = .ok (.iload_n 3, 1) := dc_at daL_law_28 19 rfl
theorem dL_law_1048 : decode cL_law 1048 = .ok (.iconst 1, 1) := dc_at daL_law_28 20 rfl
theorem dL_law_1049 : decode cL_law 1049 = .ok (.iadd, 1) := dc_at daL_law_28 21 rfl
theorem dL_law_1050 : decode cL_law 1050 = .ok (.iaload, 1) := dc_at daL_law_28 22 rfl
theorem dL_law_1051 : decode cL_law 1051 = .ok (.invokevirtual 127, 3) := dc_at daL_law_28 23 rfl
def dlL_law_29 : List (Nat × Jvm.ClassFile.Instr × Nat) := [(1054, .pop, 1), (1055, .aload_n 2, 1), (1056, .aload_n 0, 1), (1057, .iload_n 3, 1), (1058, .iconst 1, 1), (1059, .iadd, 1), (1060, .iaload, 1), (1061, .invokevirtual 130, 3), (1064, .pop, 1), (1065, .goto 389, 3), (1068, .aload_n 1, 1), (1069, .aload_n 0, 1), (1070, .iload_n 3, 1), (1071, .iconst 1, 1), (1072, .iadd, 1), (1073, .iaload, 1), (1074, .invokevirtual 131, 3), (1077, .aload_n 2, 1), (1078, .aload_n 0, 1), (1079, .iload_n 3, 1), (1080, .iconst 1, 1), (1081, .iadd, 1), (1082, .iaload, 1), (1083, .invokevirtual 134, 3)]
theorem daL_law_29 : dlL_law_29.all (dcK cL_law) = true := by decide +kernel
theorem dL_law_1054 : decode cL_law 1054 = .ok (.pop, 1) := dc_at daL_law_29 0 rfl
theorem dL_law_1055 : decode cL_law 1055 = .ok (.aload_n 2, 1) := dc_at daL_law_29 1 rfl
theorem dL_law_1056 : decode cL_law 1056 = .ok (.aload_n 0, 1) := dc_at daL_law_29 2 rfl
theorem dL_law_1057 : decode cL_law 1057 = .ok (.iload_n 3, 1) := dc_at daL_law_29 3 rfl
theorem dL_law_1058 : decode cL_law 1058 = .ok (.iconst 1, 1) := dc_at daL_law_29 4 rfl
theorem dL_law_1059 : decode cL_law 1059 = .ok (.iadd, 1) := dc_at daL_law_29 5 rfl
theorem dL_law_1060 : decode cL_law 1060 = .ok (.iaload, 1) := dc_at daL_law_29 6 rfl
theorem dL_law_1061 : decode cL_law 1061 = .ok (.invokevirtual 130, 3) := dc_at daL_law_29 7 rfl
theorem dL_law_1064 : decode cL_law 1064 = .ok (.pop, 1) := dc_at daL_law_29 8 rfl
theorem dL_law_1065 : decode cL_law 1065 = .ok (.goto 389, 3) := dc_at daL_law_29 9 rfl
theorem dL_law_1068 : decode cL_law 1068 = .ok (.aload_n 1, 1) := dc_at daL_law_29 10 rfl
theorem dL_law_1069 : decode cL_law 1069 = .ok (.aload_n 0, 1) := dc_at daL_law_29 11 rfl
theorem dL_law_1070 : decode cL_law 1070 = .ok (.iload_n 3, 1) := dc_at daL_law_29 12 rfl
theorem dL_law_1071 : decode cL_law 1071 = .ok (.iconst 1, 1) := dc_at daL_law_29 13 rfl
theorem dL_law_1072 : decode cL_law 1072 = .ok (.iadd, 1) := dc_at daL_law_29 14 rfl
theorem dL_law_1073 : decode cL_law 1073 = .ok (.iaload, 1) := dc_at daL_law_29 15 rfl
theorem dL_law_1074 : decode cL_law 1074 = .ok (.invokevirtual 131, 3) := dc_at daL_law_29 16 rfl
theorem dL_law_1077 : decode cL_law 1077 = .ok (.aload_n 2, 1) := dc_at daL_law_29 17 rfl
theorem dL_law_1078 : decode cL_law 1078 = .ok (.aload_n 0, 1) := dc_at daL_law_29 18 rfl
theorem dL_law_1079 : decode cL_law 1079 = .ok (.iload_n 3, 1) := dc_at daL_law_29 19 rfl
theorem dL_law_1080 : decode cL_law 1080 = .ok (.iconst 1, 1) := dc_at daL_law_29 20 rfl
theorem dL_law_1081 : decode cL_law 1081 = .ok (.iadd, 1) := dc_at daL_law_29 21 rfl
theorem dL_law_1082 : decode cL_law 1082 = .ok (.iaload, 1) := dc_at daL_law_29 22 rfl
theorem dL_law_1083 : decode cL_law 1083 = .ok (.invokevirtual 134, 3) := dc_at daL_law_29 23 rfl
def dlL_law_30 : List (Nat × Jvm.ClassFile.Instr × Nat) := [(1086, .if_icmp .eq 368, 3), (1089, .iconst 0, 1), (1090, .ireturn, 1), (1091, .aload_n 1, 1), (1092, .aload_n 0, 1), (1093, .iload_n 3, 1), (1094, .iconst 1, 1), (1095, .iadd, 1), (1096, .iaload, 1), (1097, .invokevirtual 135, 3), (1100, .pop, 1), (1101, .aload_n 2, 1), (1102, .aload_n 0, 1), (1103, .iload_n 3, 1), (1104, .iconst 1, 1), (1105, .iadd, 1), (1106, .iaload, 1), (1107, .invokevirtual 138, 3), (1110, .pop, 1), (1111, .goto 343, 3), (1114, .aload_n 1, 1), (1115, .aload_n 0, 1), (1116, .iload_n 3, 1), (1117, .iconst 1, 1)]
theorem daL_law_30 : dlL_law_30.all (dcK cL_law) = true := by decide +kernel
theorem dL_law_1086 : decode cL_law 1086 = .ok (.if_icmp .eq 368, 3) := dc_at daL_law_30 0 rfl
theorem dL_law_1089 : decode cL_law 1089 = .ok (.iconst 0, 1) := dc_at daL_law_30 1 rfl
theorem dL_law_1090 : decode cL_law 1090 = .ok (.ireturn, 1) := dc_at daL_law_30 2 rfl
theorem dL_law_1091 : decode cL_law 1091 = .ok (.aload_n 1, 1) := dc_at daL_law_30 3 rfl
theorem dL_law_1092 : decode cL_law 1092 = .ok (.aload_n 0, 1) := dc_at daL_law_30 4 rfl
theorem dL_law_1093 : decode cL_law 1093 = .ok (.iload_n 3, 1) := dc_at daL_law_30 5 rfl
theorem dL_law_1094 : decode cL_law 1094 = .ok (.iconst 1, 1) := dc_at daL_law_30 6 rfl
theorem dL_law_1095 : decode cL_law 1095 = .ok (.iadd, 1) := dc_at daL_law_30 7 rfl
theorem dL_law_1096 : decode cL_law 1096 = .ok (.iaload, 1) := dc_at daL_law_30 8 rfl
theorem dL_law_1097 : decode cL_law 1097 = .ok (.invokevirtual 135, 3) := dc_at daL_law_30 9 rfl
theorem dL_law_1100 : decode cL_law 1100 = .ok (.pop, 1) := dc_at daL_law_30 10 rfl
theorem dL_law_1101 : decode cL_law 1101 = .ok (.aload_n 2, 1) := dc_at daL_law_30 11 rfl
theorem dL_law_1102 : decode cL_law 1102 = .ok (.aload_n 0, 1) := dc_at daL_law_30 12 rfl
theorem dL_law_1103 : decode cL_law 1103 = .ok (.iload_n 3, 1) := dc_at daL_law_30 13 rfl
theorem dL_law_1104 : decode cL_law 1104 = .ok (.iconst 1, 1) := dc_at daL_law_30 14 rfl
theorem dL_law_1105 : decode cL_law 1105 = .ok (.iadd, 1) := dc_at daL_law_30 15 rfl
theorem dL_law_1106 : decode cL_law 1106 = .ok (.iaload, 1) := dc_at daL_law_30 16 rfl
theorem dL_law_1107 : decode cL_law 1107 = .ok (.invokevirtual 138, 3) := dc_at daL_law_30 17 rfl
theorem dL_law_1110 : decode cL_law 1110 = .ok (.pop, 1) := dc_at daL_law_30 18 rfl
theorem dL_law_1111 : decode cL_law 1111 = .ok (.goto 343, 3) := dc_at daL_law_30 19 rfl
theorem dL_law_1114 : decode cL_law 1114 = .ok (.aload_n 1, 1) := dc_at daL_law_30 20 rfl
theorem dL_law_1115 : decode cL_law 1115 = .ok (.aload_n 0, 1) := dc_at daL_law_30 21 rfl
theorem dL_law_1116 : decode cL_law 1116 = .ok (.iload_n 3, 1) := dc_at daL_law_30 22 rfl
theorem dL_law_1117 : decode cL_law 1117 = .ok (.iconst 1, 1) := dc_at daL_law_30 23 rfl
def dlL_law_31 : List (Nat × Jvm.ClassFile.Instr × Nat) := [(1118, .iadd, 1), (1119, .iaload, 1), (1120, .aload_n 0, 1), (1121, .iload_n 3, 1), (1122, .iconst 2, 1), (1123, .iadd, 1), (1124, .iaload, 1), (1125, .invokevirtual 139, 3), (1128, .pop, 1), (1129, .aload_n 2, 1), (1130, .aload_n 0, 1), (1131, .iload_n 3, 1), (1132, .iconst 1, 1), (1133, .iadd, 1), (1134, .iaload, 1), (1135, .aload_n 0, 1), (1136, .iload_n 3, 1), (1137, .iconst 2, 1), (1138, .iadd, 1), (1139, .iaload, 1), (1140, .invokevirtual 142, 3), (1143, .pop, 1), (1144, .goto 310, 3), (1147, .aload_n 1, 1)]
theorem daL_law_31 : dlL_law_31.all (dcK cL_law) = true := by decide +kernel
theorem dL_law_1118 : decode cL_law 1118 = .ok (.iadd, 1) := dc_at daL_law_31 0 rfl
theorem dL_law_1119 : decode cL_law 1119 = .ok (.iaload, 1) := dc_at daL_law_31 1 rfl
theorem dL_law_1120 : decode cL_law 1120 = .ok (.aload_n 0, 1) := dc_at daL_law_31 2 rfl
theorem dL_law_1121 : decode cL_law 1121 = .ok (.iload_n 3, 1) := dc_at daL_law_31 3 rfl
theorem dL_law_1122 : decode cL_law 1122 = .ok (.iconst 2, 1) := dc_at daL_law_31 4 rfl
theorem dL_law_1123 : decode cL_law 1123 = .ok (.iadd, 1) := dc_at daL_law_31 5 rfl
theorem dL_law_1124 : decode cL_law 1124 = .ok (.iaload, 1) := dc_at daL_law_31 6 rfl
theorem dL_law_1125 : decode cL_law 1125 = .ok (.invokevirtual 139, 3) := dc_at daL_law_31 7 rfl
theorem dL_law_1128 : decode cL_law 1128 = .ok (.pop, 1) := dc_at daL_law_31 8 rfl
theorem dL_law_1129 : decode cL_law 1129 = .ok (.aload_n 2, 1) := dc_at daL_law_31 9 rfl
theorem dL_law_1130 : decode cL_law 1130 = .ok (.aload_n 0, 1) := dc_at daL_law_31 10 rfl
theorem dL_law_1131 : decode cL_law 1131 = .ok (.iload_n 3, 1) := dc_at daL_law_31 11 rfl
theorem dL_law_1132 : decode cL_law 1132 = .ok (.iconst 1, 1) := dc_at daL_law_31 12 rfl
theorem dL_law_1133 : decode cL_law 1133 = .ok (.iadd, 1) := dc_at daL_law_31 13 rfl
theorem dL_law_1134 : decode cL_law 1134 = .ok (.iaload, 1) := dc_at daL_law_31 14 rfl
theorem dL_law_1135 : decode cL_law 1135 = .ok (.aload_n 0, 1) := dc_at daL_law_31 15 rfl
theorem dL_law_1136 : decode cL_law 1136 = .ok (.iload_n 3, 1) := dc_at daL_law_31 16 rfl
theorem dL_law_1137 : decode cL_law 1137 = .ok (.iconst 2, 1) := dc_at daL_law_31 17 rfl
theorem dL_law_1138 : decode cL_law 1138 = .ok (.iadd, 1) := dc_at daL_law_31 18 rfl
theorem dL_law_1139 : decode cL_law 1139 = .ok (.iaload, 1) := dc_at daL_law_31 19 rfl
theorem dL_law_1140 : decode cL_law 1140 = .ok (.invokevirtual 142, 3) := dc_at daL_law_31 20 rfl
theorem dL_law_1143 : decode cL_law 1143 = .ok (.pop, 1) := dc_at daL_law_31 21 rfl
theorem dL_law_1144 : decode cL_law 1144 = .ok (.goto 310, 3) := dc_at daL_law_31 22 rfl
theorem dL_law_1147 : decode cL_law 1147 = .ok (.aload_n 1, 1) := dc_at daL_law_31 23 rfl
def dlL_law_32 : List (Nat × Jvm.ClassFile.Instr × Nat) := [(1148, .aload_n 0, 1), (1149, .iload_n 3, 1), (1150, .iconst 1, 1), (1151, .iadd, 1), (1152, .iaload, 1), (1153, .aload_n 0, 1), (1154, .iload_n 3, 1), (1155, .iconst 2, 1), (1156, .iadd, 1), (1157, .iaload, 1), (1158, .invokevirtual 143, 3), (1161, .pop, 1), (1162, .aload_n 2, 1), (1163, .aload_n 0, 1), (1164, .iload_n 3, 1), (1165, .iconst 1, 1), (1166, .iadd, 1), (1167, .iaload, 1), (1168, .aload_n 0, 1), (1169, .iload_n 3, 1), (1170, .iconst 2, 1), (1171, .iadd, 1), (1172, .iaload, 1), (1173, .invokevirtual 146, 3)]
theorem daL_law_32 : dlL_law_32.all (dcK cL_law) = true := by decide +kernel
theorem dL_law_1148 : decode cL_law 1148 = .ok (.aload_n 0, 1) := dc_at daL_law_32 0 rfl
theorem dL_law_1149 : decode cL_law 1149 = .ok (.iload_n 3, 1) := dc_at daL_law_32 1 rfl
theorem dL_law_1150 : decode cL_law 1150 = .ok (.iconst 1, 1) := dc_at daL_law_32 2 rfl
theorem dL_law_1151 : decode cL_law 1151 = .ok (.iadd, 1) := dc_at daL_law_32 3 rfl
theorem dL_law_1152 : decode cL_law 1152 = .ok (.iaload, 1) := dc_at daL_law_32 4 rfl
theorem dL_law_1153 : decode cL_law 1153 = .ok (.aload_n 0, 1) := dc_at daL_law_32 5 rfl
theorem dL_law_1154 : decode cL_law 1154 = .ok (.iload_n 3, 1) := dc_at daL_law_32 6 rfl
theorem dL_law_1155 : decode cL_law 1155 = .ok (.iconst 2, 1) := dc_at daL_law_32 7 rfl
theorem dL_law_1156 : decode cL_law 1156 = .ok (.iadd, 1) := dc_at daL_law_32 8 rfl
theorem dL_law_1157 : decode cL_law 1157 = .ok (.iaload, 1) := dc_at daL_law_32 9 rfl
theorem dL_law_1158 : decode cL_law 1158 = .ok (.invokevirtual 143, 3) := dc_at daL_law_32 10 rfl
theorem dL_law_1161 : decode cL_law 1161 = .ok (.pop, 1) := dc_at daL_law_32 11 rfl
theorem dL_law_1162 : decode cL_law 1162 = .ok (.aload_n 2, 1) := dc_at daL_law_32 12 rfl
theorem dL_law_1163 : decode cL_law 1163 = .ok (.aload_n 0, 1) := dc_at daL_law_32 13 rfl
theorem dL_law_1164 : decode cL_law 1164 = .ok (.iload_n 3, 1) := dc_at daL_law_32 14 rfl
theorem dL_law_1165 : decode cL_law 1165 = .ok (.iconst 1, 1) := dc_at daL_law_32 15 rfl
theorem dL_law_1166 : decode cL_law 1166 = .ok (.iadd, 1) := dc_at daL_law_32 16 rfl
theorem dL_law_1167 : decode cL_law 1167 = .ok (.iaload, 1) := dc_at daL_law_32 17 rfl
theorem dL_law_1168 : decode cL_law 1168 = .ok (.aload_n 0, 1) := dc_at daL_law_32 18 rfl
theorem dL_law_1169 : decode cL_law 1169 = .ok (.iload_n 3, 1) := dc_at daL_law_32 19 rfl
theorem dL_law_1170 : decode cL_law 1170 = .ok (.iconst 2, 1) := dc_at daL_law_32 20 rfl
theorem dL_law_1171 : decode cL_law 1171 = .ok (.iadd, 1) := dc_at daL_law_32 21 rfl
theorem dL_law_1172 : decode cL_law 1172 = .ok (.iaload, 1) := dc_at daL_law_32 22 rfl
theorem dL_law_1173 : decode cL_law 1173 = .ok (.invokevirtual 146, 3) := dc_at daL_law_32 23 rfl
def dlL_law_33 : List (Nat × Jvm.ClassFile.Instr × Nat) := [(1176, .pop, 1), (1177, .goto 277, 3), (1180, .aload_n 1, 1), (1181, .aload_n 0, 1), (1182, .iload_n 3, 1), (1183, .iconst 1, 1), (1184, .iadd, 1), (1185, .iaload, 1), (1186, .aload_n 0, 1), (1187, .iload_n 3, 1), (1188, .iconst 2, 1), (1189, .iadd, 1), (1190, .iaload, 1), (1191, .invokevirtual 147, 3), (1194, .pop, 1), (1195, .aload_n 2, 1), (1196, .aload_n 0, 1), (1197, .iload_n 3, 1), (1198, .iconst 1, 1), (1199, .iadd, 1), (1200, .iaload, 1), (1201, .aload_n 0, 1), (1202, .iload_n 3, 1), (1203, .iconst 2, 1)]
theorem daL_law_33 : dlL_law_33.all (dcK cL_law) = true := by decide +kernel
theorem dL_law_1176 : decode cL_law 1176 = .ok (.pop, 1) := dc_at daL_law_33 0 rfl
theorem dL_law_1177 : decode cL_law 1177 = .ok (.goto 277, 3) := dc_at daL_law_33 1 rfl
theorem dL_law_1180 : decode cL_law 1180 = .ok (.aload_n 1, 1) := dc_at daL_law_33 2 rfl
theorem dL_law_1181 : decode cL_law 1181 = .ok (.aload_n 0, 1) := dc_at daL_law_33 3 rfl
theorem dL_law_1182 : decode cL_law 1182 = .ok (.iload_n 3, 1) := dc_at daL_law_33 4 rfl
theorem dL_law_1183 : decode cL_law 1183 = .ok (.iconst 1, 1) := dc_at daL_law_33 5 rfl
theorem dL_law_1184 : decode cL_law 1184 = .ok (.iadd, 1) := dc_at daL_law_33 6 rfl
theorem dL_law_1185 : decode cL_law 1185 = .ok (.iaload, 1) := dc_at daL_law_33 7 rfl
theorem dL_law_1186 : decode cL_law 1186 = .ok (.aload_n 0, 1) := dc_at daL_law_33 8 rfl
theorem dL_law_1187 : decode cL_law 1187 = .ok (.iload_n 3, 1) := dc_at daL_law_33 9 rfl
theorem dL_law_1188 : decode cL_law 1188 = .ok (.iconst 2, 1) := dc_at daL_law_33 10 rfl
theorem dL_law_1189 : decode cL_law 1189 = .ok (.iadd, 1) := dc_at daL_law_33 11 rfl
theorem dL_law_1190 : decode cL_law 1190 = .ok (.iaload, 1) := dc_at daL_law_33 12 rfl
theorem dL_law_1191 : decode cL_law 1191 = .ok (.invokevirtual 147, 3) := dc_at daL_law_33 13 rfl
theorem dL_law_1194 : decode cL_law 1194 = .ok (.pop, 1) := dc_at daL_law_33 14 rfl
theorem dL_law_1195 : decode cL_law 1195 = .ok (.aload_n 2, 1) := dc_at daL_law_33 15 rfl
theorem dL_law_1196 : decode cL_law 1196 = .ok (.aload_n 0, 1) := dc_at daL_law_33 16 rfl
theorem dL_law_1197 : decode cL_law 1197 = .ok (.iload_n 3, 1) := dc_at daL_law_33 17 rfl
theorem dL_law_1198 : decode cL_law 1198 = .ok (.iconst 1, 1) := dc_at daL_law_33 18 rfl
theorem dL_law_1199 : decode cL_law 1199 = .ok (.iadd, 1) := dc_at daL_law_33 19 rfl
theorem dL_law_1200 : decode cL_law 1200 = .ok (.iaload, 1) := dc_at daL_law_33 20 rfl
theorem dL_law_1201 : decode cL_law 1201 = .ok (.aload_n 0, 1) := dc_at daL_law_33 21 rfl
theorem dL_law_1202 : decode cL_law 1202 = .ok (.iload_n 3, 1) := dc_at daL_law_33 22 rfl
theorem dL_law_1203 : decode cL_law 1203 = .ok (.iconst 2, 1) := dc_at daL_law_33 23 rfl
def dlL_law_34 : List (Nat × Jvm.ClassFile.Instr × Nat) := [(1204, .iadd, 1), (1205, .iaload, 1), (1206, .invokevirtual 150, 3), (1209, .pop, 1), (1210, .goto 244, 3), (1213, .aload_n 1, 1), (1214, .aload_n 0, 1), (1215, .iload_n 3, 1), (1216, .iconst 1, 1), (1217, .iadd, 1), (1218, .iaload, 1), (1219, .aload_n 0, 1), (1220, .iload_n 3, 1), (1221, .iconst 2, 1), (1222, .iadd, 1), (1223, .iaload, 1), (1224, .invokevirtual 151, 3), (1227, .pop, 1), (1228, .aload_n 2, 1), (1229, .aload_n 0, 1), (1230, .iload_n 3, 1), (1231, .iconst 1, 1), (1232, .iadd, 1), (1233, .iaload, 1)]
theorem daL_law_34 : dlL_law_34.all (dcK cL_law) = true := by decide +kernel
theorem dL_law_1204 : decode cL_law 1204 = .ok (.iadd, 1) := dc_at daL_law_34 0 rfl
theorem dL_law_1205 : decode cL_law 1205 = .ok (.iaload, 1) := dc_at daL_law_34 1 rfl
theorem dL_law_1206 : decode cL_law 1206 = .ok (.invokevirtual 150, 3) := dc_at daL_law_34 2 rfl
theorem dL_law_1209 : decode cL_law 1209 = .ok (.pop, 1) := dc_at daL_law_34 3 rfl
theorem dL_law_1210 : decode cL_law 1210 = .ok (.goto 244, 3) := dc_at daL_law_34 4 rfl
theorem dL_law_1213 : decode cL_law 1213 = .ok (.aload_n 1, 1) := dc_at daL_law_34 5 rfl
theorem dL_law_1214 : decode cL_law 1214 = .ok (.aload_n 0, 1) := dc_at daL_law_34 6 rfl
theorem dL_law_1215 : decode cL_law 1215 = .ok (.iload_n 3, 1) := dc_at daL_law_34 7 rfl
theorem dL_law_1216 : decode cL_law 1216 = .ok (.iconst 1, 1) := dc_at daL_law_34 8 rfl
theorem dL_law_1217 : decode cL_law 1217 = .ok (.iadd, 1) := dc_at daL_law_34 9 rfl
theorem dL_law_1218 : decode cL_law 1218 = .ok (.iaload, 1) := dc_at daL_law_34 10 rfl
theorem dL_law_1219 : decode cL_law 1219 = .ok (.aload_n 0, 1) := dc_at daL_law_34 11 rfl
theorem dL_law_1220 : decode cL_law 1220 = .ok (.iload_n 3, 1) := dc_at daL_law_34 12 rfl
theorem dL_law_1221 : decode cL_law 1221 = .ok (.iconst 2, 1) := dc_at daL_law_34 13 rfl
theorem dL_law_1222 : decode cL_law 1222 = .ok (.iadd, 1) := dc_at daL_law_34 14 rfl
theorem dL_law_1223 : decode cL_law 1223 = .ok (.iaload, 1) := dc_at daL_law_34 15 rfl
theorem dL_law_1224 : decode cL_law 1224 = .ok (.invokevirtual 151, 3) := dc_at daL_law_34 16 rfl
theorem dL_law_1227 : decode cL_law 1227 = .ok (.pop, 1) := dc_at daL_law_34 17 rfl
theorem dL_law_1228 : decode cL_law 1228 = .ok (.aload_n 2, 1) := dc_at daL_law_34 18 rfl
theorem dL_law_1229 : decode cL_law 1229 = .ok (.aload_n 0, 1) := dc_at daL_law_34 19 rfl
theorem dL_law_1230 : decode cL_law 1230 = .ok (.iload_n 3, 1) := dc_at daL_law_34 20 rfl
theorem dL_law_1231 : decode cL_law 1231 = .ok (.iconst 1, 1) := dc_at daL_law_34 21 rfl
theorem dL_law_1232 : decode cL_law 1232 = .ok (.iadd, 1) := dc_at daL_law_34 22 rfl
theorem dL_law_1233 : decode cL_law 1233 = .ok (.iaload, 1) := dc_at daL_law_34 23 rfl
def dlL_law_35 : List (Nat × Jvm.ClassFile.Instr × Nat) := [(1234, .aload_n 0, 1), (1235, .iload_n 3, 1), (1236, .iconst 2, 1), (1237, .iadd, 1), (1238, .iaload, 1), (1239, .invokevirtual 154, 3), (1242, .pop, 1), (1243, .goto 211, 3), (1246, .aload_n 1, 1), (1247, .aload_n 0, 1), (1248, .iload_n 3, 1), (1249, .iconst 1, 1), (1250, .iadd, 1), (1251, .iaload, 1), (1252, .aload_n 0, 1), (1253, .iload_n 3, 1), (1254, .iconst 2, 1), (1255, .iadd, 1), (1256, .iaload, 1), (1257, .aload_n 0, 1), (1258, .iload_n 3, 1), (1259, .iconst 3, 1), (1260, .iadd, 1), (1261, .iaload, 1)]
theorem daL_law_35 : dlL_law_35.all (dcK cL_law) = true := by decide +kernel
theorem dL_law_1234 : decode cL_law 1234 = .ok (.aload_n 0, 1) := dc_at daL_law_35 0 rfl
theorem dL_law_1235 : decode cL_law 1235 = .ok (.iload_n 3, 1) := dc_at daL_law_35 1 rfl
theorem dL_law_1236 : decode cL_law 1236 = .ok (.iconst 2, 1) := dc_at daL_law_35 2 rfl
theorem dL_law_1237 : decode cL_law 1237 = .ok (.iadd, 1) := dc_at daL_law_35 3 rfl
theorem dL_law_1238 : decode cL_law 1238 = .ok (.iaload, 1) := dc_at daL_law_35 4 rfl
theorem dL_law_1239 : decode cL_law 1239 = .ok (.invokevirtual 154, 3) := dc_at daL_law_35 5 rfl
theorem dL_law_1242 : decode cL_law 1242 = .ok (.pop, 1) := dc_at daL_law_35 6 rfl
theorem dL_law_1243 : decode cL_law 1243 = .ok (.goto 211, 3) := dc_at daL_law_35 7 rfl
theorem dL_law_1246 : decode cL_law 1246 = .ok (.aload_n 1, 1) := dc_at daL_law_35 8 rfl
theorem dL_law_1247 : decode cL_law 1247 = .ok (.aload_n 0, 1) := dc_at daL_law_35 9 rfl
theorem dL_law_1248 : decode cL_law 1248 = .ok (.iload_n 3, 1) := dc_at daL_law_35 10 rfl
theorem dL_law_1249 : decode cL_law 1249 = .ok (.iconst 1, 1) := dc_at daL_law_35 11 rfl
theorem dL_law_1250 : decode cL_law 1250 = .ok (.iadd, 1) := dc_at daL_law_35 12 rfl
theorem dL_law_1251 : decode cL_law 1251 = .ok (.iaload, 1) := dc_at daL_law_35 13 rfl
theorem dL_law_1252 : decode cL_law 1252 = .ok (.aload_n 0, 1) := dc_at daL_law_35 14 rfl
theorem dL_law_1253 : decode cL_law 1253 = .ok (.iload_n 3, 1) := dc_at daL_law_35 15 rfl
theorem dL_law_1254 : decode cL_law 1254 = .ok (.iconst 2, 1) := dc_at daL_law_35 16 rfl
theorem dL_law_1255 : decode cL_law 1255 = .ok (.iadd, 1) := dc_at daL_law_35 17 rfl
theorem dL_law_1256 : decode cL_law 1256 = .ok (.iaload, 1) := dc_at daL_law_35 18 rfl
theorem dL_law_1257 : decode cL_law 1257 = .ok (.aload_n 0, 1) := dc_at daL_law_35 19 rfl
theorem dL_law_1258 : decode cL_law 1258 = .ok (.iload_n 3, 1) := dc_at daL_law_35 20 rfl
theorem dL_law_1259 : decode cL_law 1259 = .ok (.iconst 3, 1) := dc_at daL_law_35 21 rfl
theorem dL_law_1260 : decode cL_law 1260 = .ok (.iadd, 1) := dc_at daL_law_35 22 rfl
theorem dL_law_1261 : decode cL_law 1261 = .ok (.iaload, 1) := dc_at daL_law_35 23 rfl
def dlL_law_36 : List (Nat × Jvm.ClassFile.Instr × Nat) := [(1262, .invokevirtual 155, 3), (1265, .pop, 1), (1266, .aload_n 2, 1), (1267, .aload_n 0, 1), (1268, .iload_n 3, 1), (1269, .iconst 1, 1), (1270, .iadd, 1), (1271, .iaload, 1), (1272, .aload_n 0, 1), (1273, .iload_n 3, 1), (1274, .iconst 2, 1), (1275, .iadd, 1), (1276, .iaload, 1), (1277, .aload_n 0, 1), (1278, .iload_n 3, 1), (1279, .iconst 3, 1), (1280, .iadd, 1), (1281, .iaload, 1), (1282, .invokevirtual 158, 3), (1285, .pop, 1), (1286, .goto 168, 3), (1289, .aload_n 1, 1), (1290, .aload_n 0, 1), (1291, .iload_n 3, 1)]
theorem daL_law_36 : dlL_law_36.all (dcK cL_law) = true := by decide +kernel
theorem dL_law_1262 : decode cL_law 1262 = .ok (.invokevirtual 155, 3) := dc_at daL_law_36 0 rfl
theorem dL_law_1265 : decode cL_law 1265 = .ok (.pop, 1) := dc_at daL_law_36 1 rfl
theorem dL_law_1266 : decode cL_law 1266 = .ok (.aload_n 2, 1) := dc_at daL_law_36 2 rfl
theorem dL_law_1267 : decode cL_law 1267 = .ok (.aload_n 0, 1) := dc_at daL_law_36 3 rfl
theorem dL_law_1268 : decode cL_law 1268 = .ok (.iload_n 3, 1) := dc_at daL_law_36 4 rfl
theorem dL_law_1269 : decode cL_law 1269 = .ok (.iconst 1, 1) := dc_at daL_law_36 5 rfl
theorem dL_law_1270 : decode cL_law 1270 = .ok (.iadd, 1) := dc_at daL_law_36 6 rfl
theorem dL_law_1271 : decode cL_law 1271 = .ok (.iaload, 1) := dc_at daL_law_36 7 rfl
theorem dL_law_1272 : decode cL_law 1272 = .ok (.aload_n 0, 1) := dc_at daL_law_36 8 rfl
theorem dL_law_1273 : decode cL_law 1273 = .ok (.iload_n 3, 1) := dc_at daL_law_36 9 rfl
theorem dL_law_1274 : decode cL_law 1274 = .ok (.iconst 2, 1) := dc_at daL_law_36 10 rfl
theorem dL_law_1275 : decode cL_law 1275 = .ok (.iadd, 1) := dc_at daL_law_36 11 rfl
theorem dL_law_1276 : decode cL_law 1276 = .ok (.iaload, 1) := dc_at daL_law_36 12 rfl
theorem dL_law_1277 : decode cL_law 1277 = .ok (.aload_n 0, 1) := dc_at daL_law_36 13 rfl
theorem dL_law_1278 : decode cL_law 1278 = .ok (.iload_n 3, 1) := dc_at daL_law_36 14 rfl
theorem dL_law_1279 : decode cL_law 1279 = .ok (.iconst 3, 1) := dc_at daL_law_36 15 rfl
theorem dL_law_1280 : decode cL_law 1280 = .ok (.iadd, 1) := dc_at daL_law_36 16 rfl
theorem dL_law_1281 : decode cL_law 1281 = .ok (.iaload, 1) := dc_at daL_law_36 17 rfl
theorem dL_law_1282 : decode cL_law 1282 = .ok (.invokevirtual 158, 3) := dc_at daL_law_36 18 rfl
theorem dL_law_1285 : decode cL_law 1285 = .ok (.pop, 1) := dc_at daL_law_36 19 rfl
theorem dL_law_1286 : decode cL_law 1286 = .ok (.goto 168, 3) := dc_at daL_law_36 20 rfl
theorem dL_law_1289 : decode cL_law 1289 = .ok (.aload_n 1, 1) := dc_at daL_law_36 21 rfl
theorem dL_law_1290 : decode cL_law 1290 = .ok (.aload_n 0, 1) := dc_at daL_law_36 22 rfl
theorem dL_law_1291 : decode cL_law 1291 = .ok (.iload_n 3, 1) := dc_at daL_law_36 23 rfl
def dlL_law_37 : List (Nat × Jvm.ClassFile.Instr × Nat) := [(1292, .iconst 1, 1), (1293, .iadd, 1), (1294, .iaload, 1), (1295, .aload_n 0, 1), (1296, .iload_n 3, 1), (1297, .iconst 2, 1), (1298, .iadd, 1), (1299, .iaload, 1), (1300, .aload_n 0, 1), (1301, .iload_n 3, 1), (1302, .iconst 3, 1), (1303, .iadd, 1), (1304, .iaload, 1), (1305, .i2l, 1), (1306, .bipush 32, 2), (1308, .lshl, 1), (1309, .aload_n 0, 1), (1310, .iload_n 3, 1), (1311, .iconst 4, 1), (1312, .iadd, 1), (1313, .iaload, 1), (1314, .i2l, 1), (1315, .ldc2_w 159, 3), (1318, .land, 1)]
theorem daL_law_37 : dlL_law_37.all (dcK cL_law) = true := by decide +kernel
theorem dL_law_1292 : decode cL_law 1292 = .ok (.iconst 1, 1) := dc_at daL_law_37 0 rfl
theorem dL_law_1293 : decode cL_law 1293 = .ok (.iadd, 1) := dc_at daL_law_37 1 rfl
theorem dL_law_1294 : decode cL_law 1294 = .ok (.iaload, 1) := dc_at daL_law_37 2 rfl
theorem dL_law_1295 : decode cL_law 1295 = .ok (.aload_n 0, 1) := dc_at daL_law_37 3 rfl
theorem dL_law_1296 : decode cL_law 1296 = .ok (.iload_n 3, 1) := dc_at daL_law_37 4 rfl
theorem dL_law_1297 : decode cL_law 1297 = .ok (.iconst 2, 1) := dc_at daL_law_37 5 rfl
theorem dL_law_1298 : decode cL_law 1298 = .ok (.iadd, 1) := dc_at daL_law_37 6 rfl
theorem dL_law_1299 : decode cL_law 1299 = .ok (.iaload, 1) := dc_at daL_law_37 7 rfl
theorem dL_law_1300 : decode cL_law 1300 = .ok (.aload_n 0, 1) := dc_at daL_law_37 8 rfl
theorem dL_law_1301 : decode cL_law 1301 = .ok (.iload_n 3, 1) := dc_at daL_law_37 9 rfl
theorem dL_law_1302 : decode cL_law 1302 = .ok (.iconst 3, 1) := dc_at daL_law_37 10 rfl
theorem dL_law_1303 : decode cL_law 1303 = .ok (.iadd, 1) := dc_at daL_law_37 11 rfl
theorem dL_law_1304 : decode cL_law 1304 = .ok (.iaload, 1) := dc_at daL_law_37 12 rfl
theorem dL_law_1305 : decode cL_law 1305 = .ok (.i2l, 1) := dc_at daL_law_37 13 rfl
theorem dL_law_1306 : decode cL_law 1306 = .ok (.bipush 32, 2) := dc_at daL_law_37 14 rfl
theorem dL_law_1308 : decode cL_law 1308 = .ok (.lshl, 1) := dc_at daL_law_37 15 rfl
theorem dL_law_1309 : decode cL_law 1309 = .ok (.aload_n 0, 1) := dc_at daL_law_37 16 rfl
theorem dL_law_1310 : decode cL_law 1310 = .ok (.iload_n 3, 1) := dc_at daL_law_37 17 rfl
theorem dL_law_1311 : decode cL_law 1311 = .ok (.iconst 4, 1) := dc_at daL_law_37 18 rfl
theorem dL_law_1312 : decode cL_law 1312 = .ok (.iadd, 1) := dc_at daL_law_37 19 rfl
theorem dL_law_1313 : decode cL_law 1313 = .ok (.iaload, 1) := dc_at daL_law_37 20 rfl
theorem dL_law_1314 : decode cL_law 1314 = .ok (.i2l, 1) := dc_at daL_law_37 21 rfl
theorem dL_law_1315 : decode cL_law 1315 = .ok (.ldc2_w 159, 3) := dc_at daL_law_37 22 rfl
theorem dL_law_1318 : decode cL_law 1318 = .ok (.land, 1) := dc_at daL_law_37 23 rfl
def dlL_law_38 : List (Nat × Jvm.ClassFile.Instr × Nat) := [(1319, .lor, 1), (1320, .invokevirtual 161, 3), (1323, .pop2, 1), (1324, .aload_n 2, 1), (1325, .aload_n 0, 1), (1326, .iload_n 3, 1), (1327, .iconst 1, 1), (1328, .iadd, 1), (1329, .iaload, 1), (1330, .aload_n 0, 1), (1331, .iload_n 3, 1), (1332, .iconst 2, 1), (1333, .iadd, 1), (1334, .iaload, 1), (1335, .aload_n 0, 1), (1336, .iload_n 3, 1), (1337, .iconst 3, 1), (1338, .iadd, 1), (1339, .iaload, 1), (1340, .i2l, 1), (1341, .bipush 32, 2), (1343, .lshl, 1), (1344, .aload_n 0, 1), (1345, .iload_n 3, 1)]
theorem daL_law_38 : dlL_law_38.all (dcK cL_law) = true := by decide +kernel
theorem dL_law_1319 : decode cL_law 1319 = .ok (.lor, 1) := dc_at daL_law_38 0 rfl
theorem dL_law_1320 : decode cL_law 1320 = .ok (.invokevirtual 161, 3) := dc_at daL_law_38 1 rfl
theorem dL_law_1323 : decode cL_law 1323 = .ok (.pop2, 1) := dc_at daL_law_38 2 rfl
theorem dL_law_1324 : decode cL_law 1324 = .ok (.aload_n 2, 1) := dc_at daL_law_38 3 rfl
theorem dL_law_1325 : decode cL_law 1325 = .ok (.aload_n 0, 1) := dc_at daL_law_38 4 rfl
theorem dL_law_1326 : decode cL_law 1326 = .ok (.iload_n 3, 1) := dc_at daL_law_38 5 rfl
theorem dL_law_1327 : decode cL_law 1327 = .ok (.iconst 1, 1) := dc_at daL_law_38 6 rfl
theorem dL_law_1328 : decode cL_law 1328 = .ok (.iadd, 1) := dc_at daL_law_38 7 rfl
theorem dL_law_1329 : decode cL_law 1329 = .ok (.iaload, 1) := dc_at daL_law_38 8 rfl
theorem dL_law_1330 : decode cL_law 1330 = .ok (.aload_n 0, 1) := dc_at daL_law_38 9 rfl
theorem dL_law_1331 : decode cL_law 1331 = .ok (.iload_n 3, 1) := dc_at daL_law_38 10 rfl
theorem dL_law_1332 : decode cL_law 1332 = .ok (.iconst 2, 1) := dc_at daL_law_38 11 rfl
theorem dL_law_1333 : decode cL_law 1333 = .ok (.iadd, 1) := dc_at daL_law_38 12 rfl
theorem dL_law_1334 : decode cL_law 1334 = .ok (.iaload, 1) := dc_at daL_law_38 13 rfl
theorem dL_law_1335 : decode cL_law 1335 = .ok (.aload_n 0, 1) := dc_at daL_law_38 14 rfl
theorem dL_law_1336 : decode cL_law 1336 = .ok (.iload_n 3, 1) := dc_at daL_law_38 15 rfl
theorem dL_law_1337 : decode cL_law 1337 = .ok (.iconst 3, 1) := dc_at daL_law_38 16 rfl
theorem dL_law_1338 : decode cL_law 1338 = .ok (.iadd, 1) := dc_at daL_law_38 17 rfl
theorem dL_law_1339 : decode cL_law 1339 = .ok (.iaload, 1) := dc_at daL_law_38 18 rfl
theorem dL_law_1340 : decode cL_law 1340 = .ok (.i2l, 1) := dc_at daL_law_38 19 rfl
theorem dL_law_1341 : decode cL_law 1341 = .ok (.bipush 32, 2) := dc_at daL_law_38 20 rfl
theorem dL_law_1343 : decode cL_law 1343 = .ok (.lshl, 1) := dc_at daL_law_38 21 rfl
theorem dL_law_1344 : decode cL_law 1344 = .ok (.aload_n 0, 1) := dc_at daL_law_38 22 rfl
theorem dL_law_1345 : decode cL_law 1345 = .ok (.iload_n 3, 1) := dc_at daL_law_38 23 rfl
def dlL_law_39 : List (Nat × Jvm.ClassFile.Instr × Nat) := [(1346, .iconst 4, 1), (1347, .iadd, 1), (1348, .iaload, 1), (1349, .i2l, 1), (1350, .ldc2_w 159, 3), (1353, .land, 1), (1354, .lor, 1), (1355, .invokevirtual 165, 3), (1358, .pop2, 1), (1359, .goto 95, 3), (1362, .aload_n 1, 1), (1363, .aload_n 0, 1), (1364, .iload_n 3, 1), (1365, .iconst 1, 1), (1366, .iadd, 1), (1367, .iaload, 1), (1368, .invokevirtual 166, 3), (1371, .pop, 1), (1372, .aload_n 2, 1), (1373, .aload_n 0, 1), (1374, .iload_n 3, 1), (1375, .iconst 1, 1), (1376, .iadd, 1), (1377, .iaload, 1)]
theorem daL_law_39 : dlL_law_39.all (dcK cL_law) = true := by decide +kernel
theorem dL_law_1346 : decode cL_law 1346 = .ok (.iconst 4, 1) := dc_at daL_law_39 0 rfl
theorem dL_law_1347 : decode cL_law 1347 = .ok (.iadd, 1) := dc_at daL_law_39 1 rfl
theorem dL_law_1348 : decode cL_law 1348 = .ok (.iaload, 1) := dc_at daL_law_39 2 rfl
theorem dL_law_1349 : decode cL_law 1349 = .ok (.i2l, 1) := dc_at daL_law_39 3 rfl
theorem dL_law_1350 : decode cL_law 1350 = .ok (.ldc2_w 159, 3) := dc_at daL_law_39 4 rfl
theorem dL_law_1353 : decode cL_law 1353 = .ok (.land, 1) := dc_at daL_law_39 5 rfl
theorem dL_law_1354 : decode cL_law 1354 = .ok (.lor, 1) := dc_at daL_law_39 6 rfl
theorem dL_law_1355 : decode cL_law 1355 = .ok (.invokevirtual 165, 3) := dc_at daL_law_39 7 rfl
theorem dL_law_1358 : decode cL_law 1358 = .ok (.pop2, 1) := dc_at daL_law_39 8 rfl
theorem dL_law_1359 : decode cL_law 1359 = .ok (.goto 95, 3) := dc_at daL_law_39 9 rfl
theorem dL_law_1362 : decode cL_law 1362 = .ok (.aload_n 1, 1) := dc_at daL_law_39 10 rfl
theorem dL_law_1363 : decode cL_law 1363 = .ok (.aload_n 0, 1) := dc_at daL_law_39 11 rfl
theorem dL_law_1364 : decode cL_law 1364 = .ok (.iload_n 3, 1) := dc_at daL_law_39 12 rfl
theorem dL_law_1365 : decode cL_law 1365 = .ok (.iconst 1, 1) := dc_at daL_law_39 13 rfl
theorem dL_law_1366 : decode cL_law 1366 = .ok (.iadd, 1) := dc_at daL_law_39 14 rfl
theorem dL_law_1367 : decode cL_law 1367 = .ok (.iaload, 1) := dc_at daL_law_39 15 rfl
theorem dL_law_1368 : decode cL_law 1368 = .ok (.invokevirtual 166, 3) := dc_at daL_law_39 16 rfl
theorem dL_law_1371 : decode cL_law 1371 = .ok (.pop, 1) := dc_at daL_law_39 17 rfl
theorem dL_law_1372 : decode cL_law 1372 = .ok (.aload_n 2, 1) := dc_at daL_law_39 18 rfl
theorem dL_law_1373 : decode cL_law 1373 = .ok (.aload_n 0, 1) := dc_at daL_law_39 19 rfl
theorem dL_law_1374 : decode cL_law 1374 = .ok (.iload_n 3, 1) := dc_at daL_law_39 20 rfl
theorem dL_law_1375 : decode cL_law 1375 = .ok (.iconst 1, 1) := dc_at daL_law_39 21 rfl
theorem dL_law_1376 : decode cL_law 1376 = .ok (.iadd, 1) := dc_at daL_law_39 22 rfl
theorem dL_law_1377 : decode cL_law 1377 = .ok (.iaload, 1) := dc_at daL_law_39 23 rfl
def dlL_law_40 : List (Nat × Jvm.ClassFile.Instr × Nat) := [(1378, .invokevirtual 169, 3), (1381, .pop, 1), (1382, .goto 72, 3), (1385, .aload_n 1, 1), (1386, .aload_n 0, 1), (1387, .iload_n 3, 1), (1388, .iconst 1, 1), (1389, .iadd, 1), (1390, .iaload, 1), (1391, .invokevirtual 170, 3), (1394, .pop, 1), (1395, .aload_n 2, 1), (1396, .aload_n 0, 1), (1397, .iload_n 3, 1), (1398, .iconst 1, 1), (1399, .iadd, 1), (1400, .iaload, 1), (1401, .invokevirtual 173, 3), (1404, .pop, 1), (1405, .goto 49, 3), (1408, .aload_n 1, 1), (1409, .aload_n 0, 1), (1410, .iload_n 3, 1), (1411, .iconst 1, 1)]
theorem daL_law_40 : dlL_law_40.all (dcK cL_law) = true := by decide +kernel
theorem dL_law_1378 : decode cL_law 1378 = .ok (.invokevirtual 169, 3) := dc_at daL_law_40 0 rfl
theorem dL_law_1381 : decode cL_law 1381 = .ok (.pop, 1) := dc_at daL_law_40 1 rfl
theorem dL_law_1382 : decode cL_law 1382 = .ok (.goto 72, 3) := dc_at daL_law_40 2 rfl
theorem dL_law_1385 : decode cL_law 1385 = .ok (.aload_n 1, 1) := dc_at daL_law_40 3 rfl
theorem dL_law_1386 : decode cL_law 1386 = .ok (.aload_n 0, 1) := dc_at daL_law_40 4 rfl
theorem dL_law_1387 : decode cL_law 1387 = .ok (.iload_n 3, 1) := dc_at daL_law_40 5 rfl
theorem dL_law_1388 : decode cL_law 1388 = .ok (.iconst 1, 1) := dc_at daL_law_40 6 rfl
theorem dL_law_1389 : decode cL_law 1389 = .ok (.iadd, 1) := dc_at daL_law_40 7 rfl
theorem dL_law_1390 : decode cL_law 1390 = .ok (.iaload, 1) := dc_at daL_law_40 8 rfl
theorem dL_law_1391 : decode cL_law 1391 = .ok (.invokevirtual 170, 3) := dc_at daL_law_40 9 rfl
theorem dL_law_1394 : decode cL_law 1394 = .ok (.pop, 1) := dc_at daL_law_40 10 rfl
theorem dL_law_1395 : decode cL_law 1395 = .ok (.aload_n 2, 1) := dc_at daL_law_40 11 rfl
theorem dL_law_1396 : decode cL_law 1396 = .ok (.aload_n 0, 1) := dc_at daL_law_40 12 rfl
theorem dL_law_1397 : decode cL_law 1397 = .ok (.iload_n 3, 1) := dc_at daL_law_40 13 rfl
theorem dL_law_1398 : decode cL_law 1398 = .ok (.iconst 1, 1) := dc_at daL_law_40 14 rfl
theorem dL_law_1399 : decode cL_law 1399 = .ok (.iadd, 1) := dc_at daL_law_40 15 rfl
theorem dL_law_1400 : decode cL_law 1400 = .ok (.iaload, 1) := dc_at daL_law_40 16 rfl
theorem dL_law_1401 : decode cL_law 1401 = .ok (.invokevirtual 173, 3) := dc_at daL_law_40 17 rfl
theorem dL_law_1404 : decode cL_law 1404 = .ok (.pop, 1) := dc_at daL_law_40 18 rfl
theorem dL_law_1405 : decode cL_law 1405 = .ok (.goto 49, 3) := dc_at daL_law_40 19 rfl
theorem dL_law_1408 : decode cL_law 1408 = .ok (.aload_n 1, 1) := dc_at daL_law_40 20 rfl
theorem dL_law_1409 : decode cL_law 1409 = .ok (.aload_n 0, 1) := dc_at daL_law_40 21 rfl
theorem dL_law_1410 : decode cL_law 1410 = .ok (.iload_n 3, 1) := dc_at daL_law_40 22 rfl
theorem dL_law_1411 : decode cL_law 1411 = .ok (.iconst 1, 1) := dc_at daL_law_40 23 rfl
def dlL_law_41 : List (Nat × Jvm.ClassFile.Instr × Nat) := [(1412, .iadd, 1), (1413, .iaload, 1), (1414, .invokevirtual 174, 3), (1417, .pop, 1), (1418, .aload_n 2, 1), (1419, .aload_n 0, 1), (1420, .iload_n 3, 1), (1421, .iconst 1, 1), (1422, .iadd, 1), (1423, .iaload, 1), (1424, .invokevirtual 177, 3), (1427, .pop, 1), (1428, .goto 26, 3), (1431, .aload_n 1, 1), (1432, .aload_n 0, 1), (1433, .iload_n 3, 1), (1434, .iconst 1, 1), (1435, .iadd, 1), (1436, .iaload, 1), (1437, .invokevirtual 178, 3), (1440, .pop, 1), (1441, .aload_n 2, 1), (1442, .aload_n 0, 1), (1443, .iload_n 3, 1)]
theorem daL_law_41 : dlL_law_41.all (dcK cL_law) = true := by decide +kernel
theorem dL_law_1412 : decode cL_law 1412 = .ok (.iadd, 1) := dc_at daL_law_41 0 rfl
theorem dL_law_1413 : decode cL_law 1413 = .ok (.iaload, 1) := dc_at daL_law_41 1 rfl
theorem dL_law_1414 : decode cL_law 1414 = .ok (.invokevirtual 174, 3) := dc_at daL_law_41 2 rfl
theorem dL_law_1417 : decode cL_law 1417 = .ok (.pop, 1) := dc_at daL_law_41 3 rfl
theorem dL_law_1418 : decode cL_law 1418 = .ok (.aload_n 2, 1) := dc_at daL_law_41 4 rfl
theorem dL_law_1419 : decode cL_law 1419 = .ok (.aload_n 0, 1) := dc_at daL_law_41 5 rfl
theorem dL_law_1420 : decode cL_law 1420 = .ok (.iload_n 3, 1) := dc_at daL_law_41 6 rfl
theorem dL_law_1421 : decode cL_law 1421 = .ok (.iconst 1, 1) := dc_at daL_law_41 7 rfl
theorem dL_law_1422 : decode cL_law 1422 = .ok (.iadd, 1) := dc_at daL_law_41 8 rfl
theorem dL_law_1423 : decode cL_law 1423 = .ok (.iaload, 1) := dc_at daL_law_41 9 rfl
theorem dL_law_1424 : decode cL_law 1424 = .ok (.invokevirtual 177, 3) := dc_at daL_law_41 10 rfl
theorem dL_law_1427 : decode cL_law 1427 = .ok (.pop, 1) := dc_at daL_law_41 11 rfl
theorem dL_law_1428 : decode cL_law 1428 = .ok (.goto 26, 3) := dc_at daL_law_41 12 rfl
theorem dL_law_1431 : decode cL_law 1431 = .ok (.aload_n 1, 1) := dc_at daL_law_41 13 rfl
theorem dL_law_1432 : decode cL_law 1432 = .ok (.aload_n 0, 1) := dc_at daL_law_41 14 rfl
theorem dL_law_1433 : decode cL_law 1433 = .ok (.iload_n 3, 1) := dc_at daL_law_41 15 rfl
theorem dL_law_1434 : decode cL_law 1434 = .ok (.iconst 1, 1) := dc_at daL_law_41 16 rfl
theorem dL_law_1435 : decode cL_law 1435 = .ok (.iadd, 1) := dc_at daL_law_41 17 rfl
theorem dL_law_1436 : decode cL_law 1436 = .ok (.iaload, 1) := dc_at daL_law_41 18 rfl
theorem dL_law_1437 : decode cL_law 1437 = .ok (.invokevirtual 178, 3) := dc_at daL_law_41 19 rfl
theorem dL_law_1440 : decode cL_law 1440 = .ok (.pop, 1) := dc_at daL_law_41 20 rfl
theorem dL_law_1441 : decode cL_law 1441 = .ok (.aload_n 2, 1) := dc_at daL_law_41 21 rfl
theorem dL_law_1442 : decode cL_law 1442 = .ok (.aload_n 0, 1) := dc_at daL_law_41 22 rfl
theorem dL_law_1443 : decode cL_law 1443 = .ok (.iload_n 3, 1) := dc_at daL_law_41 23 rfl
def dlL_law_42 : List (Nat × Jvm.ClassFile.Instr × Nat) := [(1444, .iconst 1, 1), (1445, .iadd, 1), (1446, .iaload, 1), (1447, .invokevirtual 181, 3), (1450, .pop, 1), (1451, .goto 3, 3), (1454, .iinc 3 6, 3), (1457, .goto (-1439), 3), (1460, .iconst 1, 1), (1461, .ireturn, 1)]
theorem daL_law_42 : dlL_law_42.all (dcK cL_law) = true := by decide +kernel
theorem dL_law_1444 : decode cL_law 1444 = .ok (.iconst 1, 1) := dc_at daL_law_42 0 rfl
theorem dL_law_1445 : decode cL_law 1445 = .ok (.iadd, 1) := dc_at daL_law_42 1 rfl
theorem dL_law_1446 : decode cL_law 1446 = .ok (.iaload, 1) := dc_at daL_law_42 2 rfl
theorem dL_law_1447 : decode cL_law 1447 = .ok (.invokevirtual 181, 3) := dc_at daL_law_42 3 rfl
theorem dL_law_1450 : decode cL_law 1450 = .ok (.pop, 1) := dc_at daL_law_42 4 rfl
theorem dL_law_1451 : decode cL_law 1451 = .ok (.goto 3, 3) := dc_at daL_law_42 5 rfl
theorem dL_law_1454 : decode cL_law 1454 = .ok (.iinc 3 6, 3) := dc_at daL_law_42 6 rfl
theorem dL_law_1457 : decode cL_law 1457 = .ok (.goto (-1439), 3) := dc_at daL_law_42 7 rfl
theorem dL_law_1460 : decode cL_law 1460 = .ok (.iconst 1, 1) := dc_at daL_law_42 8 rfl
theorem dL_law_1461 : decode cL_law 1461 = .ok (.ireturn, 1) := dc_at daL_law_42 9 rfl
