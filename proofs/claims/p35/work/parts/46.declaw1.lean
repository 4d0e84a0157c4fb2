def dlb_2l : List (Nat × Instr × Nat) := [(406, .iload 13, 2), (408, .bipush 10, 2), (410, .irem, 1), (411, .ifCond .ne 9, 3), (414, .sipush 1000, 3), (417, .goto 8, 3), (420, .iload 13, 2), (422, .bipush 90, 2), (424, .irem, 1), (425, .iload 12, 2), (427, .invokestatic 146, 3), (430, .istore 15, 2), (432, .goto 413, 3), (435, .iload 9, 2), (437, .bipush 9, 2), (439, .if_icmp .ge 35, 3), (442, .aload_n 1, 1), (443, .iload 11, 2), (445, .iload 13, 2), (447, .bipush 10, 2), (449, .irem, 1), (450, .ifCond .ne 9, 3), (453, .sipush 1000, 3), (456, .goto 8, 3), (459, .iload 13, 2), (461, .bipush 60, 2), (463, .irem, 1), (464, .iload 12, 2), (466, .invokestatic 148, 3), (469, .istore 15, 2), (471, .goto 374, 3), (474, .iload 9, 2), (476, .bipush 12, 2), (478, .if_icmp .ge 154, 3), (481, .iload 13, 2), (483, .bipush 7, 2), (485, .irem, 1), (486, .ifCond .ne 8, 3), (489, .bipush 97, 2), (491, .goto 75, 3), (494, .iload 13, 2), (496, .bipush 7, 2), (498, .irem, 1), (499, .iconst 1, 1), (500, .if_icmp .ne 8, 3), (503, .bipush 99, 2), (505, .goto 61, 3), (508, .iload 13, 2), (510, .bipush 7, 2), (512, .irem, 1), (513, .iconst 2, 1), (514, .if_icmp .ne 8, 3), (517, .bipush 102, 2), (519, .goto 47, 3), (522, .iload 13, 2), (524, .bipush 7, 2), (526, .irem, 1), (527, .iconst 3, 1), (528, .if_icmp .ne 8, 3), (531, .bipush 114, 2), (533, .goto 33, 3), (536, .iload 13, 2), (538, .bipush 7, 2), (540, .irem, 1), (541, .iconst 4, 1), (542, .if_icmp .ne 8, 3), (545, .bipush 116, 2), (547, .goto 19, 3), (550, .iload 13, 2), (552, .bipush 7, 2), (554, .irem, 1), (555, .iconst 5, 1), (556, .if_icmp .ne 8, 3), (559, .bipush 112, 2), (561, .goto 5, 3), (564, .bipush 109, 2), (566, .istore 16, 2), (568, .iload 13, 2), (570, .bipush 101, 2), (572, .irem, 1), (573, .istore 17, 2), (575, .aload_n 1, 1), (576, .iload 16, 2), (578, .iload 12, 2), (580, .invokestatic 150, 3), (583, .istore 18, 2), (585, .aload_n 1, 1), (586, .iload 16, 2), (588, .iload 17, 2), (590, .iload 12, 2), (592, .invokestatic 153, 3), (595, .istore 15, 2), (597, .iload 15, 2), (599, .ifCond .lt 23, 3), (602, .iload 15, 2), (604, .iload 18, 2), (606, .if_icmp .ne 20, 3), (609, .aload_n 1, 1), (610, .iload 16, 2), (612, .iload 12, 2), (614, .invokestatic 150, 3), (617, .iload 17, 2), (619, .if_icmp .ne 7, 3), (622, .iconst 1, 1), (623, .goto 4, 3), (626, .iconst 0, 1), (627, .istore 4, 2)]
theorem dlb_2 : dcl (fun k => decode cL_law k) dlb_2l = true := by decide +kernel
theorem dL_law_406 : decode cL_law 406 = .ok (.iload 13, 2) := dcl_at (f := fun k => decode cL_law k) dlb_2 0 rfl
theorem dL_law_408 : decode cL_law 408 = .ok (.bipush 10, 2) := dcl_at (f := fun k => decode cL_law k) dlb_2 1 rfl
theorem dL_law_410 : decode cL_law 410 = .ok (.irem, 1) := dcl_at (f := fun k => decode cL_law k) dlb_2 2 rfl
theorem dL_law_411 : decode cL_law 411 = .ok (.ifCond .ne 9, 3) := dcl_at (f := fun k => decode cL_law k) dlb_2 3 rfl
theorem dL_law_414 : decode cL_law 414 = .ok (.sipush 1000, 3) := dcl_at (f := fun k => decode cL_law k) dlb_2 4 rfl
theorem dL_law_417 : decode cL_law 417 = .ok (.goto 8, 3) := dcl_at (f := fun k => decode cL_law k) dlb_2 5 rfl
theorem dL_law_420 : decode cL_law 420 = .ok (.iload 13, 2) := dcl_at (f := fun k => decode cL_law k) dlb_2 6 rfl
theorem dL_law_422 : decode cL_law 422 = .ok (.bipush 90, 2) := dcl_at (f := fun k => decode cL_law k) dlb_2 7 rfl
theorem dL_law_424 : decode cL_law 424 = .ok (.irem, 1) := dcl_at (f := fun k => decode cL_law k) dlb_2 8 rfl
theorem dL_law_425 : decode cL_law 425 = .ok (.iload 12, 2) := dcl_at (f := fun k => decode cL_law k) dlb_2 9 rfl
theorem dL_law_427 : decode cL_law 427 = .ok (.invokestatic 146, 3) := dcl_at (f := fun k => decode cL_law k) dlb_2 10 rfl
theorem dL_law_430 : decode cL_law 430 = .ok (.istore 15, 2) := dcl_at (f := fun k => decode cL_law k) dlb_2 11 rfl
theorem dL_law_432 : decode cL_law 432 = .ok (.goto 413, 3) := dcl_at (f := fun k => decode cL_law k) dlb_2 12 rfl
theorem dL_law_435 : decode cL_law 435 = .ok (.iload 9, 2) := dcl_at (f := fun k => decode cL_law k) dlb_2 13 rfl
theorem dL_law_437 : decode cL_law 437 = .ok (.bipush 9, 2) := dcl_at (f := fun k => decode cL_law k) dlb_2 14 rfl
theorem dL_law_439 : decode cL_law 439 = .ok (.if_icmp .ge 35, 3) := dcl_at (f := fun k => decode cL_law k) dlb_2 15 rfl
theorem dL_law_442 : decode cL_law 442 = .ok (.aload_n 1, 1) := dcl_at (f := fun k => decode cL_law k) dlb_2 16 rfl
theorem dL_law_443 : decode cL_law 443 = .ok (.iload 11, 2) := dcl_at (f := fun k => decode cL_law k) dlb_2 17 rfl
theorem dL_law_445 : decode cL_law 445 = .ok (.iload 13, 2) := dcl_at (f := fun k => decode cL_law k) dlb_2 18 rfl
theorem dL_law_447 : decode cL_law 447 = .ok (.bipush 10, 2) := dcl_at (f := fun k => decode cL_law k) dlb_2 19 rfl
theorem dL_law_449 : decode cL_law 449 = .ok (.irem, 1) := dcl_at (f := fun k => decode cL_law k) dlb_2 20 rfl
theorem dL_law_450 : decode cL_law 450 = .ok (.ifCond .ne 9, 3) := dcl_at (f := fun k => decode cL_law k) dlb_2 21 rfl
theorem dL_law_453 : decode cL_law 453 = .ok (.sipush 1000, 3) := dcl_at (f := fun k => decode cL_law k) dlb_2 22 rfl
theorem dL_law_456 : decode cL_law 456 = .ok (.goto 8, 3) := dcl_at (f := fun k => decode cL_law k) dlb_2 23 rfl
theorem dL_law_459 : decode cL_law 459 = .ok (.iload 13, 2) := dcl_at (f := fun k => decode cL_law k) dlb_2 24 rfl
theorem dL_law_461 : decode cL_law 461 = .ok (.bipush 60, 2) := dcl_at (f := fun k => decode cL_law k) dlb_2 25 rfl
theorem dL_law_463 : decode cL_law 463 = .ok (.irem, 1) := dcl_at (f := fun k => decode cL_law k) dlb_2 26 rfl
theorem dL_law_464 : decode cL_law 464 = .ok (.iload 12, 2) := dcl_at (f := fun k => decode cL_law k) dlb_2 27 rfl
theorem dL_law_466 : decode cL_law 466 = .ok (.invokestatic 148, 3) := dcl_at (f := fun k => decode cL_law k) dlb_2 28 rfl
theorem dL_law_469 : decode cL_law 469 = .ok (.istore 15, 2) := dcl_at (f := fun k => decode cL_law k) dlb_2 29 rfl
theorem dL_law_471 : decode cL_law 471 = .ok (.goto 374, 3) := dcl_at (f := fun k => decode cL_law k) dlb_2 30 rfl
theorem dL_law_474 : decode cL_law 474 = .ok (.iload 9, 2) := dcl_at (f := fun k => decode cL_law k) dlb_2 31 rfl
theorem dL_law_476 : decode cL_law 476 = .ok (.bipush 12, 2) := dcl_at (f := fun k => decode cL_law k) dlb_2 32 rfl
theorem dL_law_478 : decode cL_law 478 = .ok (.if_icmp .ge 154, 3) := dcl_at (f := fun k => decode cL_law k) dlb_2 33 rfl
theorem dL_law_481 : decode cL_law 481 = .ok (.iload 13, 2) := dcl_at (f := fun k => decode cL_law k) dlb_2 34 rfl
theorem dL_law_483 : decode cL_law 483 = .ok (.bipush 7, 2) := dcl_at (f := fun k => decode cL_law k) dlb_2 35 rfl
theorem dL_law_485 : decode cL_law 485 = .ok (.irem, 1) := dcl_at (f := fun k => decode cL_law k) dlb_2 36 rfl
theorem dL_law_486 : decode cL_law 486 = .ok (.ifCond .ne 8, 3) := dcl_at (f := fun k => decode cL_law k) dlb_2 37 rfl
theorem dL_law_489 : decode cL_law 489 = .ok (.bipush 97, 2) := dcl_at (f := fun k => decode cL_law k) dlb_2 38 rfl
theorem dL_law_491 : decode cL_law 491 = .ok (.goto 75, 3) := dcl_at (f := fun k => decode cL_law k) dlb_2 39 rfl
theorem dL_law_494 : decode cL_law 494 = .ok (.iload 13, 2) := dcl_at (f := fun k => decode cL_law k) dlb_2 40 rfl
theorem dL_law_496 : decode cL_law 496 = .ok (.bipush 7, 2) := dcl_at (f := fun k => decode cL_law k) dlb_2 41 rfl
theorem dL_law_498 : decode cL_law 498 = .ok (.irem, 1) := dcl_at (f := fun k => decode cL_law k) dlb_2 42 rfl
theorem dL_law_499 : decode cL_law 499 = .ok (.iconst 1, 1) := dcl_at (f := fun k => decode cL_law k) dlb_2 43 rfl
theorem dL_law_500 : decode cL_law 500 = .ok (.if_icmp .ne 8, 3) := dcl_at (f := fun k => decode cL_law k) dlb_2 44 rfl
theorem dL_law_503 : decode cL_law 503 = .ok (.bipush 99, 2) := dcl_at (f := fun k => decode cL_law k) dlb_2 45 rfl
theorem dL_law_505 : decode cL_law 505 = .ok (.goto 61, 3) := dcl_at (f := fun k => decode cL_law k) dlb_2 46 rfl
theorem dL_law_508 : decode cL_law 508 = .ok (.iload 13, 2) := dcl_at (f := fun k => decode cL_law k) dlb_2 47 rfl
theorem dL_law_510 : decode cL_law 510 = .ok (.bipush 7, 2) := dcl_at (f := fun k => decode cL_law k) dlb_2 48 rfl
theorem dL_law_512 : decode cL_law 512 = .ok (.irem, 1) := dcl_at (f := fun k => decode cL_law k) dlb_2 49 rfl
theorem dL_law_513 : decode cL_law 513 = .ok (.iconst 2, 1) := dcl_at (f := fun k => decode cL_law k) dlb_2 50 rfl
theorem dL_law_514 : decode cL_law 514 = .ok (.if_icmp .ne 8, 3) := dcl_at (f := fun k => decode cL_law k) dlb_2 51 rfl
theorem dL_law_517 : decode cL_law 517 = .ok (.bipush 102, 2) := dcl_at (f := fun k => decode cL_law k) dlb_2 52 rfl
theorem dL_law_519 : decode cL_law 519 = .ok (.goto 47, 3) := dcl_at (f := fun k => decode cL_law k) dlb_2 53 rfl
theorem dL_law_522 : decode cL_law 522 = .ok (.iload 13, 2) := dcl_at (f := fun k => decode cL_law k) dlb_2 54 rfl
theorem dL_law_524 : decode cL_law 524 = .ok (.bipush 7, 2) := dcl_at (f := fun k => decode cL_law k) dlb_2 55 rfl
theorem dL_law_526 : decode cL_law 526 = .ok (.irem, 1) := dcl_at (f := fun k => decode cL_law k) dlb_2 56 rfl
theorem dL_law_527 : decode cL_law 527 = .ok (.iconst 3, 1) := dcl_at (f := fun k => decode cL_law k) dlb_2 57 rfl
theorem dL_law_528 : decode cL_law 528 = .ok (.if_icmp .ne 8, 3) := dcl_at (f := fun k => decode cL_law k) dlb_2 58 rfl
theorem dL_law_531 : decode cL_law 531 = .ok (.bipush 114, 2) := dcl_at (f := fun k => decode cL_law k) dlb_2 59 rfl
theorem dL_law_533 : decode cL_law 533 = .ok (.goto 33, 3) := dcl_at (f := fun k => decode cL_law k) dlb_2 60 rfl
theorem dL_law_536 : decode cL_law 536 = .ok (.iload 13, 2) := dcl_at (f := fun k => decode cL_law k) dlb_2 61 rfl
theorem dL_law_538 : decode cL_law 538 = .ok (.bipush 7, 2) := dcl_at (f := fun k => decode cL_law k) dlb_2 62 rfl
theorem dL_law_540 : decode cL_law 540 = .ok (.irem, 1) := dcl_at (f := fun k => decode cL_law k) dlb_2 63 rfl
theorem dL_law_541 : decode cL_law 541 = .ok (.iconst 4, 1) := dcl_at (f := fun k => decode cL_law k) dlb_2 64 rfl
theorem dL_law_542 : decode cL_law 542 = .ok (.if_icmp .ne 8, 3) := dcl_at (f := fun k => decode cL_law k) dlb_2 65 rfl
theorem dL_law_545 : decode cL_law 545 = .ok (.bipush 116, 2) := dcl_at (f := fun k => decode cL_law k) dlb_2 66 rfl
theorem dL_law_547 : decode cL_law 547 = .ok (.goto 19, 3) := dcl_at (f := fun k => decode cL_law k) dlb_2 67 rfl
theorem dL_law_550 : decode cL_law 550 = .ok (.iload 13, 2) := dcl_at (f := fun k => decode cL_law k) dlb_2 68 rfl
theorem dL_law_552 : decode cL_law 552 = .ok (.bipush 7, 2) := dcl_at (f := fun k => decode cL_law k) dlb_2 69 rfl
theorem dL_law_554 : decode cL_law 554 = .ok (.irem, 1) := dcl_at (f := fun k => decode cL_law k) dlb_2 70 rfl
theorem dL_law_555 : decode cL_law 555 = .ok (.iconst 5, 1) := dcl_at (f := fun k => decode cL_law k) dlb_2 71 rfl
theorem dL_law_556 : decode cL_law 556 = .ok (.if_icmp .ne 8, 3) := dcl_at (f := fun k => decode cL_law k) dlb_2 72 rfl
theorem dL_law_559 : decode cL_law 559 = .ok (.bipush 112, 2) := dcl_at (f := fun k => decode cL_law k) dlb_2 73 rfl
theorem dL_law_561 : decode cL_law 561 = .ok (.goto 5, 3) := dcl_at (f := fun k => decode cL_law k) dlb_2 74 rfl
theorem dL_law_564 : decode cL_law 564 = .ok (.bipush 109, 2) := dcl_at (f := fun k => decode cL_law k) dlb_2 75 rfl
theorem dL_law_566 : decode cL_law 566 = .ok (.istore 16, 2) := dcl_at (f := fun k => decode cL_law k) dlb_2 76 rfl
theorem dL_law_568 : decode cL_law 568 = .ok (.iload 13, 2) := dcl_at (f := fun k => decode cL_law k) dlb_2 77 rfl
theorem dL_law_570 : decode cL_law 570 = .ok (.bipush 101, 2) := dcl_at (f := fun k => decode cL_law k) dlb_2 78 rfl
theorem dL_law_572 : decode cL_law 572 = .ok (.irem, 1) := dcl_at (f := fun k => decode cL_law k) dlb_2 79 rfl
theorem dL_law_573 : decode cL_law 573 = .ok (.istore 17, 2) := dcl_at (f := fun k => decode cL_law k) dlb_2 80 rfl
theorem dL_law_575 : decode cL_law 575 = .ok (.aload_n 1, 1) := dcl_at (f := fun k => decode cL_law k) dlb_2 81 rfl
theorem dL_law_576 : decode cL_law 576 = .ok (.iload 16, 2) := dcl_at (f := fun k => decode cL_law k) dlb_2 82 rfl
theorem dL_law_578 : decode cL_law 578 = .ok (.iload 12, 2) := dcl_at (f := fun k => decode cL_law k) dlb_2 83 rfl
theorem dL_law_580 : decode cL_law 580 = .ok (.invokestatic 150, 3) := dcl_at (f := fun k => decode cL_law k) dlb_2 84 rfl
theorem dL_law_583 : decode cL_law 583 = .ok (.istore 18, 2) := dcl_at (f := fun k => decode cL_law k) dlb_2 85 rfl
theorem dL_law_585 : decode cL_law 585 = .ok (.aload_n 1, 1) := dcl_at (f := fun k => decode cL_law k) dlb_2 86 rfl
theorem dL_law_586 : decode cL_law 586 = .ok (.iload 16, 2) := dcl_at (f := fun k => decode cL_law k) dlb_2 87 rfl
theorem dL_law_588 : decode cL_law 588 = .ok (.iload 17, 2) := dcl_at (f := fun k => decode cL_law k) dlb_2 88 rfl
theorem dL_law_590 : decode cL_law 590 = .ok (.iload 12, 2) := dcl_at (f := fun k => decode cL_law k) dlb_2 89 rfl
theorem dL_law_592 : decode cL_law 592 = .ok (.invokestatic 153, 3) := dcl_at (f := fun k => decode cL_law k) dlb_2 90 rfl
theorem dL_law_595 : decode cL_law 595 = .ok (.istore 15, 2) := dcl_at (f := fun k => decode cL_law k) dlb_2 91 rfl
theorem dL_law_597 : decode cL_law 597 = .ok (.iload 15, 2) := dcl_at (f := fun k => decode cL_law k) dlb_2 92 rfl
theorem dL_law_599 : decode cL_law 599 = .ok (.ifCond .lt 23, 3) := dcl_at (f := fun k => decode cL_law k) dlb_2 93 rfl
theorem dL_law_602 : decode cL_law 602 = .ok (.iload 15, 2) := dcl_at (f := fun k => decode cL_law k) dlb_2 94 rfl
theorem dL_law_604 : decode cL_law 604 = .ok (.iload 18, 2) := dcl_at (f := fun k => decode cL_law k) dlb_2 95 rfl
theorem dL_law_606 : decode cL_law 606 = .ok (.if_icmp .ne 20, 3) := dcl_at (f := fun k => decode cL_law k) dlb_2 96 rfl
theorem dL_law_609 : decode cL_law 609 = .ok (.aload_n 1, 1) := dcl_at (f := fun k => decode cL_law k) dlb_2 97 rfl
theorem dL_law_610 : decode cL_law 610 = .ok (.iload 16, 2) := dcl_at (f := fun k => decode cL_law k) dlb_2 98 rfl
theorem dL_law_612 : decode cL_law 612 = .ok (.iload 12, 2) := dcl_at (f := fun k => decode cL_law k) dlb_2 99 rfl
theorem dL_law_614 : decode cL_law 614 = .ok (.invokestatic 150, 3) := dcl_at (f := fun k => decode cL_law k) dlb_2 100 rfl
theorem dL_law_617 : decode cL_law 617 = .ok (.iload 17, 2) := dcl_at (f := fun k => decode cL_law k) dlb_2 101 rfl
theorem dL_law_619 : decode cL_law 619 = .ok (.if_icmp .ne 7, 3) := dcl_at (f := fun k => decode cL_law k) dlb_2 102 rfl
theorem dL_law_622 : decode cL_law 622 = .ok (.iconst 1, 1) := dcl_at (f := fun k => decode cL_law k) dlb_2 103 rfl
theorem dL_law_623 : decode cL_law 623 = .ok (.goto 4, 3) := dcl_at (f := fun k => decode cL_law k) dlb_2 104 rfl
theorem dL_law_626 : decode cL_law 626 = .ok (.iconst 0, 1) := dcl_at (f := fun k => decode cL_law k) dlb_2 105 rfl
theorem dL_law_627 : decode cL_law 627 = .ok (.istore 4, 2) := dcl_at (f := fun k => decode cL_law k) dlb_2 106 rfl
def dlb_3l : List (Nat × Instr × Nat) := [(629, .goto 216, 3), (632, .iload 9, 2), (634, .bipush 12, 2), (636, .if_icmp .ne 51, 3), (639, .aload_n 1, 1), (640, .iload 10, 2), (642, .iload 13, 2), (644, .iconst 3, 1), (645, .irem, 1), (646, .ifCond .ne 7, 3), (649, .iconst 0, 1), (650, .goto 5, 3), (653, .iload 12, 2), (655, .invokestatic 156, 3), (658, .istore 15, 2), (660, .iload 15, 2), (662, .iconst (-1), 1), (663, .if_icmp .lt 14, 3), (666, .aload_n 1, 1), (667, .invokevirtual 140, 3), (670, .iload 14, 2), (672, .iconst 1, 1), (673, .isub, 1), (674, .if_icmp .ne 7, 3), (677, .iconst 1, 1), (678, .goto 4, 3), (681, .iconst 0, 1), (682, .istore 4, 2), (684, .goto 161, 3), (687, .iload 9, 2), (689, .bipush 13, 2), (691, .if_icmp .ne 39, 3), (694, .aload_n 1, 1), (695, .iload 10, 2), (697, .iload 12, 2), (699, .invokestatic 158, 3), (702, .istore 15, 2), (704, .iload 15, 2), (706, .ifCond .lt 14, 3), (709, .aload_n 1, 1), (710, .invokevirtual 140, 3), (713, .iload 14, 2), (715, .iconst 1, 1), (716, .isub, 1), (717, .if_icmp .ne 7, 3), (720, .iconst 1, 1), (721, .goto 4, 3), (724, .iconst 0, 1), (725, .istore 4, 2), (727, .goto 118, 3), (730, .iload 9, 2), (732, .bipush 14, 2), (734, .if_icmp .ne 39, 3), (737, .aload_n 1, 1), (738, .bipush 109, 2), (740, .iload 12, 2), (742, .invokestatic 160, 3), (745, .istore 15, 2), (747, .iload 15, 2), (749, .ifCond .lt 14, 3), (752, .aload_n 1, 1), (753, .invokevirtual 140, 3), (756, .iload 14, 2), (758, .iconst 1, 1), (759, .isub, 1), (760, .if_icmp .ne 7, 3), (763, .iconst 1, 1), (764, .goto 4, 3), (767, .iconst 0, 1), (768, .istore 4, 2), (770, .goto 75, 3), (773, .iload 13, 2), (775, .iconst 2, 1), (776, .irem, 1), (777, .ifCond .ne 68, 3), (780, .aload_n 1, 1), (781, .invokevirtual 162, 3), (784, .istore 16, 2), (786, .aload_n 1, 1), (787, .invokevirtual 165, 3), (790, .lstore 17, 2), (792, .aload_n 1, 1), (793, .iload_n 3, 1), (794, .invokestatic 169, 3), (797, .istore 19, 2), (799, .aload_n 1, 1), (800, .invokestatic 172, 3), (803, .istore 15, 2), (805, .iload 15, 2), (807, .ifCond .ge 18, 3), (810, .iload 16, 2), (812, .bipush 12, 2), (814, .if_icmp .ne 7, 3), (817, .iconst 1, 1), (818, .goto 25, 3), (821, .iconst 0, 1), (822, .goto 21, 3), (825, .aload_n 1, 1), (826, .iload_n 3, 1), (827, .iload 16, 2), (829, .iload 15, 2), (831, .aload_n 1, 1), (832, .invokevirtual 165, 3), (835, .lload 17, 2), (837, .lsub, 1), (838, .iload 19, 2), (840, .invokestatic 174, 3)]
theorem dlb_3 : dcl (fun k => decode cL_law k) dlb_3l = true := by decide +kernel
theorem dL_law_629 : decode cL_law 629 = .ok (.goto 216, 3) := dcl_at (f := fun k => decode cL_law k) dlb_3 0 rfl
theorem dL_law_632 : decode cL_law 632 = .ok (.iload 9, 2) := dcl_at (f := fun k => decode cL_law k) dlb_3 1 rfl
theorem dL_law_634 : decode cL_law 634 = .ok (.bipush 12, 2) := dcl_at (f := fun k => decode cL_law k) dlb_3 2 rfl
theorem dL_law_636 : decode cL_law 636 = .ok (.if_icmp .ne 51, 3) := dcl_at (f := fun k => decode cL_law k) dlb_3 3 rfl
theorem dL_law_639 : decode cL_law 639 = .ok (.aload_n 1, 1) := dcl_at (f := fun k => decode cL_law k) dlb_3 4 rfl
theorem dL_law_640 : decode cL_law 640 = .ok (.iload 10, 2) := dcl_at (f := fun k => decode cL_law k) dlb_3 5 rfl
theorem dL_law_642 : decode cL_law 642 = .ok (.iload 13, 2) := dcl_at (f := fun k => decode cL_law k) dlb_3 6 rfl
theorem dL_law_644 : decode cL_law 644 = .ok (.iconst 3, 1) := dcl_at (f := fun k => decode cL_law k) dlb_3 7 rfl
theorem dL_law_645 : decode cL_law 645 = .ok (.irem, 1) := dcl_at (f := fun k => decode cL_law k) dlb_3 8 rfl
theorem dL_law_646 : decode cL_law 646 = .ok (.ifCond .ne 7, 3) := dcl_at (f := fun k => decode cL_law k) dlb_3 9 rfl
theorem dL_law_649 : decode cL_law 649 = .ok (.iconst 0, 1) := dcl_at (f := fun k => decode cL_law k) dlb_3 10 rfl
theorem dL_law_650 : decode cL_law 650 = .ok (.goto 5, 3) := dcl_at (f := fun k => decode cL_law k) dlb_3 11 rfl
theorem dL_law_653 : decode cL_law 653 = .ok (.iload 12, 2) := dcl_at (f := fun k => decode cL_law k) dlb_3 12 rfl
theorem dL_law_655 : decode cL_law 655 = .ok (.invokestatic 156, 3) := dcl_at (f := fun k => decode cL_law k) dlb_3 13 rfl
theorem dL_law_658 : decode cL_law 658 = .ok (.istore 15, 2) := dcl_at (f := fun k => decode cL_law k) dlb_3 14 rfl
theorem dL_law_660 : decode cL_law 660 = .ok (.iload 15, 2) := dcl_at (f := fun k => decode cL_law k) dlb_3 15 rfl
theorem dL_law_662 : decode cL_law 662 = .ok (.iconst (-1), 1) := dcl_at (f := fun k => decode cL_law k) dlb_3 16 rfl
theorem dL_law_663 : decode cL_law 663 = .ok (.if_icmp .lt 14, 3) := dcl_at (f := fun k => decode cL_law k) dlb_3 17 rfl
theorem dL_law_666 : decode cL_law 666 = .ok (.aload_n 1, 1) := dcl_at (f := fun k => decode cL_law k) dlb_3 18 rfl
theorem dL_law_667 : decode cL_law 667 = .ok (.invokevirtual 140, 3) := dcl_at (f := fun k => decode cL_law k) dlb_3 19 rfl
theorem dL_law_670 : decode cL_law 670 = .ok (.iload 14, 2) := dcl_at (f := fun k => decode cL_law k) dlb_3 20 rfl
theorem dL_law_672 : decode cL_law 672 = .ok (.iconst 1, 1) := dcl_at (f := fun k => decode cL_law k) dlb_3 21 rfl
theorem dL_law_673 : decode cL_law 673 = .ok (.isub, 1) := dcl_at (f := fun k => decode cL_law k) dlb_3 22 rfl
theorem dL_law_674 : decode cL_law 674 = .ok (.if_icmp .ne 7, 3) := dcl_at (f := fun k => decode cL_law k) dlb_3 23 rfl
theorem dL_law_677 : decode cL_law 677 = .ok (.iconst 1, 1) := dcl_at (f := fun k => decode cL_law k) dlb_3 24 rfl
theorem dL_law_678 : decode cL_law 678 = .ok (.goto 4, 3) := dcl_at (f := fun k => decode cL_law k) dlb_3 25 rfl
theorem dL_law_681 : decode cL_law 681 = .ok (.iconst 0, 1) := dcl_at (f := fun k => decode cL_law k) dlb_3 26 rfl
theorem dL_law_682 : decode cL_law 682 = .ok (.istore 4, 2) := dcl_at (f := fun k => decode cL_law k) dlb_3 27 rfl
theorem dL_law_684 : decode cL_law 684 = .ok (.goto 161, 3) := dcl_at (f := fun k => decode cL_law k) dlb_3 28 rfl
theorem dL_law_687 : decode cL_law 687 = .ok (.iload 9, 2) := dcl_at (f := fun k => decode cL_law k) dlb_3 29 rfl
theorem dL_law_689 : decode cL_law 689 = .ok (.bipush 13, 2) := dcl_at (f := fun k => decode cL_law k) dlb_3 30 rfl
theorem dL_law_691 : decode cL_law 691 = .ok (.if_icmp .ne 39, 3) := dcl_at (f := fun k => decode cL_law k) dlb_3 31 rfl
theorem dL_law_694 : decode cL_law 694 = .ok (.aload_n 1, 1) := dcl_at (f := fun k => decode cL_law k) dlb_3 32 rfl
theorem dL_law_695 : decode cL_law 695 = .ok (.iload 10, 2) := dcl_at (f := fun k => decode cL_law k) dlb_3 33 rfl
theorem dL_law_697 : decode cL_law 697 = .ok (.iload 12, 2) := dcl_at (f := fun k => decode cL_law k) dlb_3 34 rfl
theorem dL_law_699 : decode cL_law 699 = .ok (.invokestatic 158, 3) := dcl_at (f := fun k => decode cL_law k) dlb_3 35 rfl
theorem dL_law_702 : decode cL_law 702 = .ok (.istore 15, 2) := dcl_at (f := fun k => decode cL_law k) dlb_3 36 rfl
theorem dL_law_704 : decode cL_law 704 = .ok (.iload 15, 2) := dcl_at (f := fun k => decode cL_law k) dlb_3 37 rfl
theorem dL_law_706 : decode cL_law 706 = .ok (.ifCond .lt 14, 3) := dcl_at (f := fun k => decode cL_law k) dlb_3 38 rfl
theorem dL_law_709 : decode cL_law 709 = .ok (.aload_n 1, 1) := dcl_at (f := fun k => decode cL_law k) dlb_3 39 rfl
theorem dL_law_710 : decode cL_law 710 = .ok (.invokevirtual 140, 3) := dcl_at (f := fun k => decode cL_law k) dlb_3 40 rfl
theorem dL_law_713 : decode cL_law 713 = .ok (.iload 14, 2) := dcl_at (f := fun k => decode cL_law k) dlb_3 41 rfl
theorem dL_law_715 : decode cL_law 715 = .ok (.iconst 1, 1) := dcl_at (f := fun k => decode cL_law k) dlb_3 42 rfl
theorem dL_law_716 : decode cL_law 716 = .ok (.isub, 1) := dcl_at (f := fun k => decode cL_law k) dlb_3 43 rfl
theorem dL_law_717 : decode cL_law 717 = .ok (.if_icmp .ne 7, 3) := dcl_at (f := fun k => decode cL_law k) dlb_3 44 rfl
theorem dL_law_720 : decode cL_law 720 = .ok (.iconst 1, 1) := dcl_at (f := fun k => decode cL_law k) dlb_3 45 rfl
theorem dL_law_721 : decode cL_law 721 = .ok (.goto 4, 3) := dcl_at (f := fun k => decode cL_law k) dlb_3 46 rfl
theorem dL_law_724 : decode cL_law 724 = .ok (.iconst 0, 1) := dcl_at (f := fun k => decode cL_law k) dlb_3 47 rfl
theorem dL_law_725 : decode cL_law 725 = .ok (.istore 4, 2) := dcl_at (f := fun k => decode cL_law k) dlb_3 48 rfl
theorem dL_law_727 : decode cL_law 727 = .ok (.goto 118, 3) := dcl_at (f := fun k => decode cL_law k) dlb_3 49 rfl
theorem dL_law_730 : decode cL_law 730 = .ok (.iload 9, 2) := dcl_at (f := fun k => decode cL_law k) dlb_3 50 rfl
theorem dL_law_732 : decode cL_law 732 = .ok (.bipush 14, 2) := dcl_at (f := fun k => decode cL_law k) dlb_3 51 rfl
theorem dL_law_734 : decode cL_law 734 = .ok (.if_icmp .ne 39, 3) := dcl_at (f := fun k => decode cL_law k) dlb_3 52 rfl
theorem dL_law_737 : decode cL_law 737 = .ok (.aload_n 1, 1) := dcl_at (f := fun k => decode cL_law k) dlb_3 53 rfl
theorem dL_law_738 : decode cL_law 738 = .ok (.bipush 109, 2) := dcl_at (f := fun k => decode cL_law k) dlb_3 54 rfl
theorem dL_law_740 : decode cL_law 740 = .ok (.iload 12, 2) := dcl_at (f := fun k => decode cL_law k) dlb_3 55 rfl
theorem dL_law_742 : decode cL_law 742 = .ok (.invokestatic 160, 3) := dcl_at (f := fun k => decode cL_law k) dlb_3 56 rfl
theorem dL_law_745 : decode cL_law 745 = .ok (.istore 15, 2) := dcl_at (f := fun k => decode cL_law k) dlb_3 57 rfl
theorem dL_law_747 : decode cL_law 747 = .ok (.iload 15, 2) := dcl_at (f := fun k => decode cL_law k) dlb_3 58 rfl
theorem dL_law_749 : decode cL_law 749 = .ok (.ifCond .lt 14, 3) := dcl_at (f := fun k => decode cL_law k) dlb_3 59 rfl
theorem dL_law_752 : decode cL_law 752 = .ok (.aload_n 1, 1) := dcl_at (f := fun k => decode cL_law k) dlb_3 60 rfl
theorem dL_law_753 : decode cL_law 753 = .ok (.invokevirtual 140, 3) := dcl_at (f := fun k => decode cL_law k) dlb_3 61 rfl
theorem dL_law_756 : decode cL_law 756 = .ok (.iload 14, 2) := dcl_at (f := fun k => decode cL_law k) dlb_3 62 rfl
theorem dL_law_758 : decode cL_law 758 = .ok (.iconst 1, 1) := dcl_at (f := fun k => decode cL_law k) dlb_3 63 rfl
theorem dL_law_759 : decode cL_law 759 = .ok (.isub, 1) := dcl_at (f := fun k => decode cL_law k) dlb_3 64 rfl
theorem dL_law_760 : decode cL_law 760 = .ok (.if_icmp .ne 7, 3) := dcl_at (f := fun k => decode cL_law k) dlb_3 65 rfl
theorem dL_law_763 : decode cL_law 763 = .ok (.iconst 1, 1) := dcl_at (f := fun k => decode cL_law k) dlb_3 66 rfl
theorem dL_law_764 : decode cL_law 764 = .ok (.goto 4, 3) := dcl_at (f := fun k => decode cL_law k) dlb_3 67 rfl
theorem dL_law_767 : decode cL_law 767 = .ok (.iconst 0, 1) := dcl_at (f := fun k => decode cL_law k) dlb_3 68 rfl
theorem dL_law_768 : decode cL_law 768 = .ok (.istore 4, 2) := dcl_at (f := fun k => decode cL_law k) dlb_3 69 rfl
theorem dL_law_770 : decode cL_law 770 = .ok (.goto 75, 3) := dcl_at (f := fun k => decode cL_law k) dlb_3 70 rfl
theorem dL_law_773 : decode cL_law 773 = .ok (.iload 13, 2) := dcl_at (f := fun k => decode cL_law k) dlb_3 71 rfl
theorem dL_law_775 : decode cL_law 775 = .ok (.iconst 2, 1) := dcl_at (f := fun k => decode cL_law k) dlb_3 72 rfl
theorem dL_law_776 : decode cL_law 776 = .ok (.irem, 1) := dcl_at (f := fun k => decode cL_law k) dlb_3 73 rfl
theorem dL_law_777 : decode cL_law 777 = .ok (.ifCond .ne 68, 3) := dcl_at (f := fun k => decode cL_law k) dlb_3 74 rfl
theorem dL_law_780 : decode cL_law 780 = .ok (.aload_n 1, 1) := dcl_at (f := fun k => decode cL_law k) dlb_3 75 rfl
theorem dL_law_781 : decode cL_law 781 = .ok (.invokevirtual 162, 3) := dcl_at (f := fun k => decode cL_law k) dlb_3 76 rfl
theorem dL_law_784 : decode cL_law 784 = .ok (.istore 16, 2) := dcl_at (f := fun k => decode cL_law k) dlb_3 77 rfl
theorem dL_law_786 : decode cL_law 786 = .ok (.aload_n 1, 1) := dcl_at (f := fun k => decode cL_law k) dlb_3 78 rfl
theorem dL_law_787 : decode cL_law 787 = .ok (.invokevirtual 165, 3) := dcl_at (f := fun k => decode cL_law k) dlb_3 79 rfl
theorem dL_law_790 : decode cL_law 790 = .ok (.lstore 17, 2) := dcl_at (f := fun k => decode cL_law k) dlb_3 80 rfl
theorem dL_law_792 : decode cL_law 792 = .ok (.aload_n 1, 1) := dcl_at (f := fun k => decode cL_law k) dlb_3 81 rfl
theorem dL_law_793 : decode cL_law 793 = .ok (.iload_n 3, 1) := dcl_at (f := fun k => decode cL_law k) dlb_3 82 rfl
theorem dL_law_794 : decode cL_law 794 = .ok (.invokestatic 169, 3) := dcl_at (f := fun k => decode cL_law k) dlb_3 83 rfl
theorem dL_law_797 : decode cL_law 797 = .ok (.istore 19, 2) := dcl_at (f := fun k => decode cL_law k) dlb_3 84 rfl
theorem dL_law_799 : decode cL_law 799 = .ok (.aload_n 1, 1) := dcl_at (f := fun k => decode cL_law k) dlb_3 85 rfl
theorem dL_law_800 : decode cL_law 800 = .ok (.invokestatic 172, 3) := dcl_at (f := fun k => decode cL_law k) dlb_3 86 rfl
theorem dL_law_803 : decode cL_law 803 = .ok (.istore 15, 2) := dcl_at (f := fun k => decode cL_law k) dlb_3 87 rfl
theorem dL_law_805 : decode cL_law 805 = .ok (.iload 15, 2) := dcl_at (f := fun k => decode cL_law k) dlb_3 88 rfl
theorem dL_law_807 : decode cL_law 807 = .ok (.ifCond .ge 18, 3) := dcl_at (f := fun k => decode cL_law k) dlb_3 89 rfl
theorem dL_law_810 : decode cL_law 810 = .ok (.iload 16, 2) := dcl_at (f := fun k => decode cL_law k) dlb_3 90 rfl
theorem dL_law_812 : decode cL_law 812 = .ok (.bipush 12, 2) := dcl_at (f := fun k => decode cL_law k) dlb_3 91 rfl
theorem dL_law_814 : decode cL_law 814 = .ok (.if_icmp .ne 7, 3) := dcl_at (f := fun k => decode cL_law k) dlb_3 92 rfl
theorem dL_law_817 : decode cL_law 817 = .ok (.iconst 1, 1) := dcl_at (f := fun k => decode cL_law k) dlb_3 93 rfl
theorem dL_law_818 : decode cL_law 818 = .ok (.goto 25, 3) := dcl_at (f := fun k => decode cL_law k) dlb_3 94 rfl
theorem dL_law_821 : decode cL_law 821 = .ok (.iconst 0, 1) := dcl_at (f := fun k => decode cL_law k) dlb_3 95 rfl
theorem dL_law_822 : decode cL_law 822 = .ok (.goto 21, 3) := dcl_at (f := fun k => decode cL_law k) dlb_3 96 rfl
theorem dL_law_825 : decode cL_law 825 = .ok (.aload_n 1, 1) := dcl_at (f := fun k => decode cL_law k) dlb_3 97 rfl
theorem dL_law_826 : decode cL_law 826 = .ok (.iload_n 3, 1) := dcl_at (f := fun k => decode cL_law k) dlb_3 98 rfl
theorem dL_law_827 : decode cL_law 827 = .ok (.iload 16, 2) := dcl_at (f := fun k => decode cL_law k) dlb_3 99 rfl
theorem dL_law_829 : decode cL_law 829 = .ok (.iload 15, 2) := dcl_at (f := fun k => decode cL_law k) dlb_3 100 rfl
theorem dL_law_831 : decode cL_law 831 = .ok (.aload_n 1, 1) := dcl_at (f := fun k => decode cL_law k) dlb_3 101 rfl
theorem dL_law_832 : decode cL_law 832 = .ok (.invokevirtual 165, 3) := dcl_at (f := fun k => decode cL_law k) dlb_3 102 rfl
theorem dL_law_835 : decode cL_law 835 = .ok (.lload 17, 2) := dcl_at (f := fun k => decode cL_law k) dlb_3 103 rfl
theorem dL_law_837 : decode cL_law 837 = .ok (.lsub, 1) := dcl_at (f := fun k => decode cL_law k) dlb_3 104 rfl
theorem dL_law_838 : decode cL_law 838 = .ok (.iload 19, 2) := dcl_at (f := fun k => decode cL_law k) dlb_3 105 rfl
theorem dL_law_840 : decode cL_law 840 = .ok (.invokestatic 174, 3) := dcl_at (f := fun k => decode cL_law k) dlb_3 106 rfl
