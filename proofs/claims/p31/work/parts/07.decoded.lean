theorem dL_act_122 : decode cL_act 122 = .ok (.goto 11, 3) := by decide +kernel
theorem dL_act_125 : decode cL_act 125 = .ok (.iload_n 1, 1) := by decide +kernel
theorem dL_act_126 : decode cL_act 126 = .ok (.bipush 8, 2) := by decide +kernel
theorem dL_act_128 : decode cL_act 128 = .ok (.ishr, 1) := by decide +kernel
theorem dL_act_129 : decode cL_act 129 = .ok (.iconst 4, 1) := by decide +kernel
theorem dL_act_130 : decode cL_act 130 = .ok (.invokestatic 105, 3) := by decide +kernel
theorem dL_act_133 : decode cL_act 133 = .ok (.istore 6, 2) := by decide +kernel
theorem dL_act_135 : decode cL_act 135 = .ok (.iload_n 2, 1) := by decide +kernel
theorem dL_act_136 : decode cL_act 136 = .ok (.ifCond .eq 10, 3) := by decide +kernel
theorem dL_act_139 : decode cL_act 139 = .ok (.iload_n 1, 1) := by decide +kernel
theorem dL_act_140 : decode cL_act 140 = .ok (.bipush 9, 2) := by decide +kernel
theorem dL_act_142 : decode cL_act 142 = .ok (.ishr, 1) := by decide +kernel
theorem dL_act_143 : decode cL_act 143 = .ok (.goto 12, 3) := by decide +kernel
theorem dL_act_146 : decode cL_act 146 = .ok (.iload_n 1, 1) := by decide +kernel
theorem dL_act_147 : decode cL_act 147 = .ok (.bipush 9, 2) := by decide +kernel
theorem dL_act_149 : decode cL_act 149 = .ok (.ishr, 1) := by decide +kernel
theorem dL_act_150 : decode cL_act 150 = .ok (.bipush 60, 2) := by decide +kernel
theorem dL_act_152 : decode cL_act 152 = .ok (.invokestatic 105, 3) := by decide +kernel
theorem dL_act_155 : decode cL_act 155 = .ok (.istore 7, 2) := by decide +kernel
theorem dL_act_157 : decode cL_act 157 = .ok (.iload_n 2, 1) := by decide +kernel
theorem dL_act_158 : decode cL_act 158 = .ok (.ifCond .eq 17, 3) := by decide +kernel
theorem dL_act_161 : decode cL_act 161 = .ok (.iload_n 1, 1) := by decide +kernel
theorem dL_act_162 : decode cL_act 162 = .ok (.bipush 11, 2) := by decide +kernel
theorem dL_act_164 : decode cL_act 164 = .ok (.ishr, 1) := by decide +kernel
theorem dL_act_165 : decode cL_act 165 = .ok (.bipush 10, 2) := by decide +kernel
theorem dL_act_167 : decode cL_act 167 = .ok (.invokestatic 105, 3) := by decide +kernel
theorem dL_act_170 : decode cL_act 170 = .ok (.iconst 2, 1) := by decide +kernel
theorem dL_act_171 : decode cL_act 171 = .ok (.isub, 1) := by decide +kernel
theorem dL_act_172 : decode cL_act 172 = .ok (.goto 11, 3) := by decide +kernel
theorem dL_act_175 : decode cL_act 175 = .ok (.iload_n 1, 1) := by decide +kernel
theorem dL_act_176 : decode cL_act 176 = .ok (.bipush 11, 2) := by decide +kernel
theorem dL_act_178 : decode cL_act 178 = .ok (.ishr, 1) := by decide +kernel
theorem dL_act_179 : decode cL_act 179 = .ok (.iconst 3, 1) := by decide +kernel
theorem dL_act_180 : decode cL_act 180 = .ok (.invokestatic 105, 3) := by decide +kernel
theorem dL_act_183 : decode cL_act 183 = .ok (.istore 8, 2) := by decide +kernel
theorem dL_act_185 : decode cL_act 185 = .ok (.iload_n 2, 1) := by decide +kernel
theorem dL_act_186 : decode cL_act 186 = .ok (.ifCond .eq 10, 3) := by decide +kernel
theorem dL_act_189 : decode cL_act 189 = .ok (.iload_n 1, 1) := by decide +kernel
theorem dL_act_190 : decode cL_act 190 = .ok (.bipush 6, 2) := by decide +kernel
theorem dL_act_192 : decode cL_act 192 = .ok (.ishr, 1) := by decide +kernel
theorem dL_act_193 : decode cL_act 193 = .ok (.goto 17, 3) := by decide +kernel
theorem dL_act_196 : decode cL_act 196 = .ok (.bipush 40, 2) := by decide +kernel
theorem dL_act_198 : decode cL_act 198 = .ok (.bipush 20, 2) := by decide +kernel
theorem dL_act_200 : decode cL_act 200 = .ok (.iload_n 1, 1) := by decide +kernel
theorem dL_act_201 : decode cL_act 201 = .ok (.bipush 6, 2) := by decide +kernel
theorem dL_act_203 : decode cL_act 203 = .ok (.ishr, 1) := by decide +kernel
theorem dL_act_204 : decode cL_act 204 = .ok (.iconst 5, 1) := by decide +kernel
theorem dL_act_205 : decode cL_act 205 = .ok (.invokestatic 105, 3) := by decide +kernel
theorem dL_act_208 : decode cL_act 208 = .ok (.imul, 1) := by decide +kernel
theorem dL_act_209 : decode cL_act 209 = .ok (.iadd, 1) := by decide +kernel
theorem dL_act_210 : decode cL_act 210 = .ok (.istore 9, 2) := by decide +kernel
theorem dL_act_212 : decode cL_act 212 = .ok (.iload_n 1, 1) := by decide +kernel
theorem dL_act_213 : decode cL_act 213 = .ok (.bipush 15, 2) := by decide +kernel
theorem dL_act_215 : decode cL_act 215 = .ok (.ishr, 1) := by decide +kernel
theorem dL_act_216 : decode cL_act 216 = .ok (.iconst 1, 1) := by decide +kernel
theorem dL_act_217 : decode cL_act 217 = .ok (.iand, 1) := by decide +kernel
theorem dL_act_218 : decode cL_act 218 = .ok (.iconst 1, 1) := by decide +kernel
theorem dL_act_219 : decode cL_act 219 = .ok (.if_icmp .ne 7, 3) := by decide +kernel
theorem dL_act_222 : decode cL_act 222 = .ok (.iconst 1, 1) := by decide +kernel
theorem dL_act_223 : decode cL_act 223 = .ok (.goto 4, 3) := by decide +kernel
theorem dL_act_226 : decode cL_act 226 = .ok (.iconst 0, 1) := by decide +kernel
theorem dL_act_227 : decode cL_act 227 = .ok (.istore 10, 2) := by decide +kernel
theorem dL_act_229 : decode cL_act 229 = .ok (.iload_n 1, 1) := by decide +kernel
theorem dL_act_230 : decode cL_act 230 = .ok (.bipush 42, 2) := by decide +kernel
theorem dL_act_232 : decode cL_act 232 = .ok (.invokestatic 105, 3) := by decide +kernel
theorem dL_act_235 : decode cL_act 235 = .ok (.tableswitch 803 0 40 #[177, 202, 246, 264, 302, 310, 334, 334, 334, 334, 358, 358, 358, 358, 358, 417, 417, 439, 439, 439, 439, 439, 469, 469, 469, 469, 469, 469, 480, 486, 510, 518, 568, 592, 644, 677, 721, 732, 756, 756, 796], 177) := by decide +kernel
theorem dL_act_412 : decode cL_act 412 = .ok (.aload_n 0, 1) := by decide +kernel
theorem dL_act_413 : decode cL_act 413 = .ok (.iload_n 2, 1) := by decide +kernel
theorem dL_act_414 : decode cL_act 414 = .ok (.ifCond .eq 8, 3) := by decide +kernel
theorem dL_act_417 : decode cL_act 417 = .ok (.iload 7, 2) := by decide +kernel
theorem dL_act_419 : decode cL_act 419 = .ok (.goto 14, 3) := by decide +kernel
theorem dL_act_422 : decode cL_act 422 = .ok (.iconst 2, 1) := by decide +kernel
theorem dL_act_423 : decode cL_act 423 = .ok (.iload_n 1, 1) := by decide +kernel
theorem dL_act_424 : decode cL_act 424 = .ok (.bipush 9, 2) := by decide +kernel
theorem dL_act_426 : decode cL_act 426 = .ok (.ishr, 1) := by decide +kernel
theorem dL_act_427 : decode cL_act 427 = .ok (.bipush 50, 2) := by decide +kernel
theorem dL_act_429 : decode cL_act 429 = .ok (.invokestatic 105, 3) := by decide +kernel
theorem dL_act_432 : decode cL_act 432 = .ok (.imul, 1) := by decide +kernel
theorem dL_act_433 : decode cL_act 433 = .ok (.invokestatic 110, 3) := by decide +kernel
theorem dL_act_436 : decode cL_act 436 = .ok (.ireturn, 1) := by decide +kernel
theorem dL_act_437 : decode cL_act 437 = .ok (.aload_n 0, 1) := by decide +kernel
theorem dL_act_438 : decode cL_act 438 = .ok (.iload_n 2, 1) := by decide +kernel
theorem dL_act_439 : decode cL_act 439 = .ok (.ifCond .eq 8, 3) := by decide +kernel
theorem dL_act_442 : decode cL_act 442 = .ok (.iload 7, 2) := by decide +kernel
theorem dL_act_444 : decode cL_act 444 = .ok (.goto 14, 3) := by decide +kernel
theorem dL_act_447 : decode cL_act 447 = .ok (.iconst 1, 1) := by decide +kernel
theorem dL_act_448 : decode cL_act 448 = .ok (.iload_n 1, 1) := by decide +kernel
theorem dL_act_449 : decode cL_act 449 = .ok (.bipush 9, 2) := by decide +kernel
theorem dL_act_451 : decode cL_act 451 = .ok (.ishr, 1) := by decide +kernel
theorem dL_act_452 : decode cL_act 452 = .ok (.bipush 30, 2) := by decide +kernel
theorem dL_act_454 : decode cL_act 454 = .ok (.invokestatic 105, 3) := by decide +kernel
theorem dL_act_457 : decode cL_act 457 = .ok (.iadd, 1) := by decide +kernel
theorem dL_act_458 : decode cL_act 458 = .ok (.iload_n 2, 1) := by decide +kernel
theorem dL_act_459 : decode cL_act 459 = .ok (.ifCond .eq 8, 3) := by decide +kernel
theorem dL_act_462 : decode cL_act 462 = .ok (.iload 8, 2) := by decide +kernel
theorem dL_act_464 : decode cL_act 464 = .ok (.goto 13, 3) := by decide +kernel
theorem dL_act_467 : decode cL_act 467 = .ok (.iconst 1, 1) := by decide +kernel
theorem dL_act_468 : decode cL_act 468 = .ok (.iload_n 1, 1) := by decide +kernel
theorem dL_act_469 : decode cL_act 469 = .ok (.iconst 3, 1) := by decide +kernel
theorem dL_act_470 : decode cL_act 470 = .ok (.ishr, 1) := by decide +kernel
theorem dL_act_471 : decode cL_act 471 = .ok (.bipush 6, 2) := by decide +kernel
theorem dL_act_473 : decode cL_act 473 = .ok (.invokestatic 105, 3) := by decide +kernel
theorem dL_act_476 : decode cL_act 476 = .ok (.iadd, 1) := by decide +kernel
theorem dL_act_477 : decode cL_act 477 = .ok (.invokestatic 113, 3) := by decide +kernel
theorem dL_act_480 : decode cL_act 480 = .ok (.ireturn, 1) := by decide +kernel
theorem dL_act_481 : decode cL_act 481 = .ok (.aload_n 0, 1) := by decide +kernel
theorem dL_act_482 : decode cL_act 482 = .ok (.iload_n 2, 1) := by decide +kernel
theorem dL_act_483 : decode cL_act 483 = .ok (.ifCond .eq 8, 3) := by decide +kernel
theorem dL_act_486 : decode cL_act 486 = .ok (.iload 7, 2) := by decide +kernel
theorem dL_act_488 : decode cL_act 488 = .ok (.goto 7, 3) := by decide +kernel
theorem dL_act_491 : decode cL_act 491 = .ok (.iconst 1, 1) := by decide +kernel
theorem dL_act_492 : decode cL_act 492 = .ok (.iload 7, 2) := by decide +kernel
theorem dL_act_494 : decode cL_act 494 = .ok (.iadd, 1) := by decide +kernel
theorem dL_act_495 : decode cL_act 495 = .ok (.invokestatic 116, 3) := by decide +kernel
theorem dL_act_498 : decode cL_act 498 = .ok (.ireturn, 1) := by decide +kernel
theorem dL_act_499 : decode cL_act 499 = .ok (.aload_n 0, 1) := by decide +kernel
theorem dL_act_500 : decode cL_act 500 = .ok (.iload_n 3, 1) := by decide +kernel
theorem dL_act_501 : decode cL_act 501 = .ok (.iload_n 2, 1) := by decide +kernel
theorem dL_act_502 : decode cL_act 502 = .ok (.ifCond .eq 8, 3) := by decide +kernel
theorem dL_act_505 : decode cL_act 505 = .ok (.iload 7, 2) := by decide +kernel
theorem dL_act_507 : decode cL_act 507 = .ok (.goto 7, 3) := by decide +kernel
theorem dL_act_510 : decode cL_act 510 = .ok (.iconst 1, 1) := by decide +kernel
theorem dL_act_511 : decode cL_act 511 = .ok (.iload 7, 2) := by decide +kernel
theorem dL_act_513 : decode cL_act 513 = .ok (.iadd, 1) := by decide +kernel
theorem dL_act_514 : decode cL_act 514 = .ok (.iload_n 2, 1) := by decide +kernel
theorem dL_act_515 : decode cL_act 515 = .ok (.ifCond .eq 8, 3) := by decide +kernel
theorem dL_act_518 : decode cL_act 518 = .ok (.iload 8, 2) := by decide +kernel
theorem dL_act_520 : decode cL_act 520 = .ok (.goto 13, 3) := by decide +kernel
theorem dL_act_523 : decode cL_act 523 = .ok (.iconst 1, 1) := by decide +kernel
theorem dL_act_524 : decode cL_act 524 = .ok (.iload_n 1, 1) := by decide +kernel
theorem dL_act_525 : decode cL_act 525 = .ok (.iconst 3, 1) := by decide +kernel
theorem dL_act_526 : decode cL_act 526 = .ok (.ishr, 1) := by decide +kernel
theorem dL_act_527 : decode cL_act 527 = .ok (.bipush 8, 2) := by decide +kernel
theorem dL_act_529 : decode cL_act 529 = .ok (.invokestatic 105, 3) := by decide +kernel
theorem dL_act_532 : decode cL_act 532 = .ok (.iadd, 1) := by decide +kernel
theorem dL_act_533 : decode cL_act 533 = .ok (.invokestatic 118, 3) := by decide +kernel
theorem dL_act_536 : decode cL_act 536 = .ok (.ireturn, 1) := by decide +kernel
theorem dL_act_537 : decode cL_act 537 = .ok (.aload_n 0, 1) := by decide +kernel
theorem dL_act_538 : decode cL_act 538 = .ok (.iload_n 3, 1) := by decide +kernel
theorem dL_act_539 : decode cL_act 539 = .ok (.iload 10, 2) := by decide +kernel
theorem dL_act_541 : decode cL_act 541 = .ok (.invokestatic 121, 3) := by decide +kernel
theorem dL_act_544 : decode cL_act 544 = .ok (.ireturn, 1) := by decide +kernel
theorem dL_act_545 : decode cL_act 545 = .ok (.aload_n 0, 1) := by decide +kernel
theorem dL_act_546 : decode cL_act 546 = .ok (.iload_n 3, 1) := by decide +kernel
theorem dL_act_547 : decode cL_act 547 = .ok (.iload_n 2, 1) := by decide +kernel
theorem dL_act_548 : decode cL_act 548 = .ok (.ifCond .eq 8, 3) := by decide +kernel
theorem dL_act_551 : decode cL_act 551 = .ok (.iload 7, 2) := by decide +kernel
theorem dL_act_553 : decode cL_act 553 = .ok (.goto 12, 3) := by decide +kernel
theorem dL_act_556 : decode cL_act 556 = .ok (.iload_n 1, 1) := by decide +kernel
theorem dL_act_557 : decode cL_act 557 = .ok (.bipush 9, 2) := by decide +kernel
theorem dL_act_559 : decode cL_act 559 = .ok (.ishr, 1) := by decide +kernel
theorem dL_act_560 : decode cL_act 560 = .ok (.bipush 9, 2) := by decide +kernel
theorem dL_act_562 : decode cL_act 562 = .ok (.invokestatic 105, 3) := by decide +kernel
theorem dL_act_565 : decode cL_act 565 = .ok (.invokestatic 124, 3) := by decide +kernel
theorem dL_act_568 : decode cL_act 568 = .ok (.ireturn, 1) := by decide +kernel
theorem dL_act_569 : decode cL_act 569 = .ok (.aload_n 0, 1) := by decide +kernel
theorem dL_act_570 : decode cL_act 570 = .ok (.iload_n 2, 1) := by decide +kernel
theorem dL_act_571 : decode cL_act 571 = .ok (.ifCond .eq 8, 3) := by decide +kernel
theorem dL_act_574 : decode cL_act 574 = .ok (.iload 7, 2) := by decide +kernel
theorem dL_act_576 : decode cL_act 576 = .ok (.goto 13, 3) := by decide +kernel
theorem dL_act_579 : decode cL_act 579 = .ok (.iconst 1, 1) := by decide +kernel
theorem dL_act_580 : decode cL_act 580 = .ok (.iload_n 1, 1) := by decide +kernel
theorem dL_act_581 : decode cL_act 581 = .ok (.bipush 9, 2) := by decide +kernel
theorem dL_act_583 : decode cL_act 583 = .ok (.ishr, 1) := by decide +kernel
theorem dL_act_584 : decode cL_act 584 = .ok (.iconst 3, 1) := by decide +kernel
theorem dL_act_585 : decode cL_act 585 = .ok (.invokestatic 105, 3) := by decide +kernel
theorem dL_act_588 : decode cL_act 588 = .ok (.iadd, 1) := by decide +kernel
theorem dL_act_589 : decode cL_act 589 = .ok (.invokestatic 126, 3) := by decide +kernel
theorem dL_act_592 : decode cL_act 592 = .ok (.ireturn, 1) := by decide +kernel
theorem dL_act_593 : decode cL_act 593 = .ok (.aload_n 0, 1) := by decide +kernel
theorem dL_act_594 : decode cL_act 594 = .ok (.iload_n 2, 1) := by decide +kernel
theorem dL_act_595 : decode cL_act 595 = .ok (.ifCond .eq 7, 3) := by decide +kernel
theorem dL_act_598 : decode cL_act 598 = .ok (.iload_n 3, 1) := by decide +kernel
theorem dL_act_599 : decode cL_act 599 = .ok (.goto 14, 3) := by decide +kernel
theorem dL_act_602 : decode cL_act 602 = .ok (.bipush 8, 2) := by decide +kernel
theorem dL_act_604 : decode cL_act 604 = .ok (.iload_n 1, 1) := by decide +kernel
theorem dL_act_605 : decode cL_act 605 = .ok (.iconst 4, 1) := by decide +kernel
theorem dL_act_606 : decode cL_act 606 = .ok (.ishr, 1) := by decide +kernel
theorem dL_act_607 : decode cL_act 607 = .ok (.bipush 24, 2) := by decide +kernel
theorem dL_act_609 : decode cL_act 609 = .ok (.invokestatic 105, 3) := by decide +kernel
theorem dL_act_612 : decode cL_act 612 = .ok (.iadd, 1) := by decide +kernel
theorem dL_act_613 : decode cL_act 613 = .ok (.iload_n 2, 1) := by decide +kernel
theorem dL_act_614 : decode cL_act 614 = .ok (.ifCond .eq 8, 3) := by decide +kernel
theorem dL_act_617 : decode cL_act 617 = .ok (.iload 7, 2) := by decide +kernel
theorem dL_act_619 : decode cL_act 619 = .ok (.goto 10, 3) := by decide +kernel
theorem dL_act_622 : decode cL_act 622 = .ok (.bipush 25, 2) := by decide +kernel
theorem dL_act_624 : decode cL_act 624 = .ok (.iload 7, 2) := by decide +kernel
theorem dL_act_626 : decode cL_act 626 = .ok (.iconst 2, 1) := by decide +kernel
theorem dL_act_627 : decode cL_act 627 = .ok (.idiv, 1) := by decide +kernel
theorem dL_act_628 : decode cL_act 628 = .ok (.iadd, 1) := by decide +kernel
theorem dL_act_629 : decode cL_act 629 = .ok (.iload 8, 2) := by decide +kernel
theorem dL_act_631 : decode cL_act 631 = .ok (.iload_n 2, 1) := by decide +kernel
theorem dL_act_632 : decode cL_act 632 = .ok (.ifCond .eq 8, 3) := by decide +kernel
theorem dL_act_635 : decode cL_act 635 = .ok (.iload 7, 2) := by decide +kernel
theorem dL_act_637 : decode cL_act 637 = .ok (.goto 11, 3) := by decide +kernel
theorem dL_act_640 : decode cL_act 640 = .ok (.iload_n 1, 1) := by decide +kernel
theorem dL_act_641 : decode cL_act 641 = .ok (.bipush 13, 2) := by decide +kernel
theorem dL_act_643 : decode cL_act 643 = .ok (.ishr, 1) := by decide +kernel
theorem dL_act_644 : decode cL_act 644 = .ok (.iconst 3, 1) := by decide +kernel
theorem dL_act_645 : decode cL_act 645 = .ok (.invokestatic 105, 3) := by decide +kernel
theorem dL_act_648 : decode cL_act 648 = .ok (.invokestatic 128, 3) := by decide +kernel
theorem dL_act_651 : decode cL_act 651 = .ok (.ireturn, 1) := by decide +kernel
theorem dL_act_652 : decode cL_act 652 = .ok (.aload_n 0, 1) := by decide +kernel
theorem dL_act_653 : decode cL_act 653 = .ok (.iload_n 3, 1) := by decide +kernel
theorem dL_act_654 : decode cL_act 654 = .ok (.iload 9, 2) := by decide +kernel
theorem dL_act_656 : decode cL_act 656 = .ok (.iload_n 2, 1) := by decide +kernel
theorem dL_act_657 : decode cL_act 657 = .ok (.ifCond .eq 8, 3) := by decide +kernel
theorem dL_act_660 : decode cL_act 660 = .ok (.iload 7, 2) := by decide +kernel
theorem dL_act_662 : decode cL_act 662 = .ok (.goto 8, 3) := by decide +kernel
theorem dL_act_665 : decode cL_act 665 = .ok (.bipush 20, 2) := by decide +kernel
theorem dL_act_667 : decode cL_act 667 = .ok (.iload 7, 2) := by decide +kernel
theorem dL_act_669 : decode cL_act 669 = .ok (.iadd, 1) := by decide +kernel
theorem dL_act_670 : decode cL_act 670 = .ok (.invokestatic 131, 3) := by decide +kernel
theorem dL_act_673 : decode cL_act 673 = .ok (.ireturn, 1) := by decide +kernel
theorem dL_act_674 : decode cL_act 674 = .ok (.aload_n 0, 1) := by decide +kernel
theorem dL_act_675 : decode cL_act 675 = .ok (.iload 5, 2) := by decide +kernel
theorem dL_act_677 : decode cL_act 677 = .ok (.iload 6, 2) := by decide +kernel
theorem dL_act_679 : decode cL_act 679 = .ok (.iload 9, 2) := by decide +kernel
theorem dL_act_681 : decode cL_act 681 = .ok (.iload_n 2, 1) := by decide +kernel
theorem dL_act_682 : decode cL_act 682 = .ok (.ifCond .eq 8, 3) := by decide +kernel
theorem dL_act_685 : decode cL_act 685 = .ok (.iload 8, 2) := by decide +kernel
theorem dL_act_687 : decode cL_act 687 = .ok (.goto 13, 3) := by decide +kernel
theorem dL_act_690 : decode cL_act 690 = .ok (.iconst 2, 1) := by decide +kernel
theorem dL_act_691 : decode cL_act 691 = .ok (.iload_n 1, 1) := by decide +kernel
theorem dL_act_692 : decode cL_act 692 = .ok (.bipush 11, 2) := by decide +kernel
theorem dL_act_694 : decode cL_act 694 = .ok (.ishr, 1) := by decide +kernel
theorem dL_act_695 : decode cL_act 695 = .ok (.iconst 2, 1) := by decide +kernel
theorem dL_act_696 : decode cL_act 696 = .ok (.invokestatic 105, 3) := by decide +kernel
theorem dL_act_699 : decode cL_act 699 = .ok (.isub, 1) := by decide +kernel
theorem dL_act_700 : decode cL_act 700 = .ok (.invokestatic 133, 3) := by decide +kernel
theorem dL_act_703 : decode cL_act 703 = .ok (.ireturn, 1) := by decide +kernel
theorem dL_act_704 : decode cL_act 704 = .ok (.aload_n 0, 1) := by decide +kernel
theorem dL_act_705 : decode cL_act 705 = .ok (.iload 5, 2) := by decide +kernel
theorem dL_act_707 : decode cL_act 707 = .ok (.iload 6, 2) := by decide +kernel
theorem dL_act_709 : decode cL_act 709 = .ok (.iload 9, 2) := by decide +kernel
theorem dL_act_711 : decode cL_act 711 = .ok (.invokestatic 135, 3) := by decide +kernel
theorem dL_act_714 : decode cL_act 714 = .ok (.ireturn, 1) := by decide +kernel
theorem dL_act_715 : decode cL_act 715 = .ok (.aload_n 0, 1) := by decide +kernel
theorem dL_act_716 : decode cL_act 716 = .ok (.iload_n 3, 1) := by decide +kernel
theorem dL_act_717 : decode cL_act 717 = .ok (.invokestatic 137, 3) := by decide +kernel
theorem dL_act_720 : decode cL_act 720 = .ok (.ireturn, 1) := by decide +kernel
theorem dL_act_721 : decode cL_act 721 = .ok (.aload_n 0, 1) := by decide +kernel
theorem dL_act_722 : decode cL_act 722 = .ok (.iload_n 3, 1) := by decide +kernel
theorem dL_act_723 : decode cL_act 723 = .ok (.iload_n 2, 1) := by decide +kernel
theorem dL_act_724 : decode cL_act 724 = .ok (.ifCond .eq 8, 3) := by decide +kernel
theorem dL_act_727 : decode cL_act 727 = .ok (.iload 7, 2) := by decide +kernel
theorem dL_act_729 : decode cL_act 729 = .ok (.goto 12, 3) := by decide +kernel
theorem dL_act_732 : decode cL_act 732 = .ok (.iload_n 1, 1) := by decide +kernel
theorem dL_act_733 : decode cL_act 733 = .ok (.bipush 9, 2) := by decide +kernel
theorem dL_act_735 : decode cL_act 735 = .ok (.ishr, 1) := by decide +kernel
theorem dL_act_736 : decode cL_act 736 = .ok (.bipush 25, 2) := by decide +kernel
theorem dL_act_738 : decode cL_act 738 = .ok (.invokestatic 105, 3) := by decide +kernel
theorem dL_act_741 : decode cL_act 741 = .ok (.invokestatic 139, 3) := by decide +kernel
theorem dL_act_744 : decode cL_act 744 = .ok (.ireturn, 1) := by decide +kernel
theorem dL_act_745 : decode cL_act 745 = .ok (.aload_n 0, 1) := by decide +kernel
theorem dL_act_746 : decode cL_act 746 = .ok (.iload_n 3, 1) := by decide +kernel
theorem dL_act_747 : decode cL_act 747 = .ok (.iload 8, 2) := by decide +kernel
theorem dL_act_749 : decode cL_act 749 = .ok (.invokestatic 141, 3) := by decide +kernel
theorem dL_act_752 : decode cL_act 752 = .ok (.ireturn, 1) := by decide +kernel
theorem dL_act_753 : decode cL_act 753 = .ok (.aload_n 0, 1) := by decide +kernel
theorem dL_act_754 : decode cL_act 754 = .ok (.iload_n 3, 1) := by decide +kernel
theorem dL_act_755 : decode cL_act 755 = .ok (.iload 10, 2) := by decide +kernel
theorem dL_act_757 : decode cL_act 757 = .ok (.iload_n 2, 1) := by decide +kernel
theorem dL_act_758 : decode cL_act 758 = .ok (.ifCond .eq 8, 3) := by decide +kernel
theorem dL_act_761 : decode cL_act 761 = .ok (.iload 8, 2) := by decide +kernel
theorem dL_act_763 : decode cL_act 763 = .ok (.goto 14, 3) := by decide +kernel
theorem dL_act_766 : decode cL_act 766 = .ok (.iconst 1, 1) := by decide +kernel
theorem dL_act_767 : decode cL_act 767 = .ok (.iload_n 1, 1) := by decide +kernel
theorem dL_act_768 : decode cL_act 768 = .ok (.bipush 11, 2) := by decide +kernel
theorem dL_act_770 : decode cL_act 770 = .ok (.ishr, 1) := by decide +kernel
theorem dL_act_771 : decode cL_act 771 = .ok (.bipush 9, 2) := by decide +kernel
theorem dL_act_773 : decode cL_act 773 = .ok (.invokestatic 105, 3) := by decide +kernel
theorem dL_act_776 : decode cL_act 776 = .ok (.iadd, 1) := by decide +kernel
theorem dL_act_777 : decode cL_act 777 = .ok (.iload 9, 2) := by decide +kernel
theorem dL_act_779 : decode cL_act 779 = .ok (.iload_n 2, 1) := by decide +kernel
theorem dL_act_780 : decode cL_act 780 = .ok (.ifCond .eq 8, 3) := by decide +kernel
theorem dL_act_783 : decode cL_act 783 = .ok (.iload 7, 2) := by decide +kernel
theorem dL_act_785 : decode cL_act 785 = .ok (.goto 14, 3) := by decide +kernel
theorem dL_act_788 : decode cL_act 788 = .ok (.iconst 1, 1) := by decide +kernel
theorem dL_act_789 : decode cL_act 789 = .ok (.iload_n 1, 1) := by decide +kernel
theorem dL_act_790 : decode cL_act 790 = .ok (.bipush 9, 2) := by decide +kernel
theorem dL_act_792 : decode cL_act 792 = .ok (.ishr, 1) := by decide +kernel
theorem dL_act_793 : decode cL_act 793 = .ok (.bipush 10, 2) := by decide +kernel
theorem dL_act_795 : decode cL_act 795 = .ok (.invokestatic 105, 3) := by decide +kernel
theorem dL_act_798 : decode cL_act 798 = .ok (.iadd, 1) := by decide +kernel
theorem dL_act_799 : decode cL_act 799 = .ok (.invokestatic 143, 3) := by decide +kernel
theorem dL_act_802 : decode cL_act 802 = .ok (.ireturn, 1) := by decide +kernel
theorem dL_act_803 : decode cL_act 803 = .ok (.aload_n 0, 1) := by decide +kernel
theorem dL_act_804 : decode cL_act 804 = .ok (.iload_n 3, 1) := by decide +kernel
theorem dL_act_805 : decode cL_act 805 = .ok (.iload 4, 2) := by decide +kernel
theorem dL_act_807 : decode cL_act 807 = .ok (.iload 9, 2) := by decide +kernel
theorem dL_act_809 : decode cL_act 809 = .ok (.iload_n 2, 1) := by decide +kernel
theorem dL_act_810 : decode cL_act 810 = .ok (.ifCond .eq 8, 3) := by decide +kernel
theorem dL_act_813 : decode cL_act 813 = .ok (.iload 7, 2) := by decide +kernel
theorem dL_act_815 : decode cL_act 815 = .ok (.goto 8, 3) := by decide +kernel
theorem dL_act_818 : decode cL_act 818 = .ok (.bipush 20, 2) := by decide +kernel
theorem dL_act_820 : decode cL_act 820 = .ok (.iload 7, 2) := by decide +kernel
theorem dL_act_822 : decode cL_act 822 = .ok (.iadd, 1) := by decide +kernel
theorem dL_act_823 : decode cL_act 823 = .ok (.invokestatic 146, 3) := by decide +kernel
theorem dL_act_826 : decode cL_act 826 = .ok (.ireturn, 1) := by decide +kernel
theorem dL_act_827 : decode cL_act 827 = .ok (.aload_n 0, 1) := by decide +kernel
theorem dL_act_828 : decode cL_act 828 = .ok (.iload_n 3, 1) := by decide +kernel
theorem dL_act_829 : decode cL_act 829 = .ok (.iload 4, 2) := by decide +kernel
theorem dL_act_831 : decode cL_act 831 = .ok (.iload 9, 2) := by decide +kernel
theorem dL_act_833 : decode cL_act 833 = .ok (.iload_n 2, 1) := by decide +kernel
theorem dL_act_834 : decode cL_act 834 = .ok (.ifCond .eq 8, 3) := by decide +kernel
theorem dL_act_837 : decode cL_act 837 = .ok (.iload 7, 2) := by decide +kernel
theorem dL_act_839 : decode cL_act 839 = .ok (.goto 8, 3) := by decide +kernel
theorem dL_act_842 : decode cL_act 842 = .ok (.bipush 20, 2) := by decide +kernel
theorem dL_act_844 : decode cL_act 844 = .ok (.iload 7, 2) := by decide +kernel
theorem dL_act_846 : decode cL_act 846 = .ok (.iadd, 1) := by decide +kernel
theorem dL_act_847 : decode cL_act 847 = .ok (.iload_n 2, 1) := by decide +kernel
theorem dL_act_848 : decode cL_act 848 = .ok (.ifCond .eq 8, 3) := by decide +kernel
theorem dL_act_851 : decode cL_act 851 = .ok (.iload 8, 2) := by decide +kernel
theorem dL_act_853 : decode cL_act 853 = .ok (.goto 4, 3) := by decide +kernel
theorem dL_act_856 : decode cL_act 856 = .ok (.iconst 0, 1) := by decide +kernel
theorem dL_act_857 : decode cL_act 857 = .ok (.iload_n 2, 1) := by decide +kernel
theorem dL_act_858 : decode cL_act 858 = .ok (.ifCond .eq 8, 3) := by decide +kernel
theorem dL_act_861 : decode cL_act 861 = .ok (.iload 8, 2) := by decide +kernel
theorem dL_act_863 : decode cL_act 863 = .ok (.goto 12, 3) := by decide +kernel
theorem dL_act_866 : decode cL_act 866 = .ok (.iload_n 1, 1) := by decide +kernel
theorem dL_act_867 : decode cL_act 867 = .ok (.bipush 9, 2) := by decide +kernel
theorem dL_act_869 : decode cL_act 869 = .ok (.ishr, 1) := by decide +kernel
theorem dL_act_870 : decode cL_act 870 = .ok (.bipush 6, 2) := by decide +kernel
theorem dL_act_872 : decode cL_act 872 = .ok (.invokestatic 105, 3) := by decide +kernel
theorem dL_act_875 : decode cL_act 875 = .ok (.invokestatic 148, 3) := by decide +kernel
theorem dL_act_878 : decode cL_act 878 = .ok (.ireturn, 1) := by decide +kernel
theorem dL_act_879 : decode cL_act 879 = .ok (.aload_n 0, 1) := by decide +kernel
theorem dL_act_880 : decode cL_act 880 = .ok (.iload_n 3, 1) := by decide +kernel
theorem dL_act_881 : decode cL_act 881 = .ok (.iload 4, 2) := by decide +kernel
theorem dL_act_883 : decode cL_act 883 = .ok (.iload 9, 2) := by decide +kernel
theorem dL_act_885 : decode cL_act 885 = .ok (.iload_n 2, 1) := by decide +kernel
theorem dL_act_886 : decode cL_act 886 = .ok (.ifCond .eq 8, 3) := by decide +kernel
theorem dL_act_889 : decode cL_act 889 = .ok (.iload 8, 2) := by decide +kernel
theorem dL_act_891 : decode cL_act 891 = .ok (.goto 5, 3) := by decide +kernel
theorem dL_act_894 : decode cL_act 894 = .ok (.bipush 60, 2) := by decide +kernel
theorem dL_act_896 : decode cL_act 896 = .ok (.iload_n 2, 1) := by decide +kernel
theorem dL_act_897 : decode cL_act 897 = .ok (.ifCond .eq 7, 3) := by decide +kernel
theorem dL_act_900 : decode cL_act 900 = .ok (.iload_n 1, 1) := by decide +kernel
theorem dL_act_901 : decode cL_act 901 = .ok (.goto 7, 3) := by decide +kernel
theorem dL_act_904 : decode cL_act 904 = .ok (.iconst 5, 1) := by decide +kernel
theorem dL_act_905 : decode cL_act 905 = .ok (.iload 7, 2) := by decide +kernel
theorem dL_act_907 : decode cL_act 907 = .ok (.imul, 1) := by decide +kernel
theorem dL_act_908 : decode cL_act 908 = .ok (.invokestatic 151, 3) := by decide +kernel
theorem dL_act_911 : decode cL_act 911 = .ok (.ireturn, 1) := by decide +kernel
theorem dL_act_912 : decode cL_act 912 = .ok (.iload_n 1, 1) := by decide +kernel
theorem dL_act_913 : decode cL_act 913 = .ok (.bipush 12, 2) := by decide +kernel
theorem dL_act_915 : decode cL_act 915 = .ok (.ishr, 1) := by decide +kernel
theorem dL_act_916 : decode cL_act 916 = .ok (.iconst 5, 1) := by decide +kernel
theorem dL_act_917 : decode cL_act 917 = .ok (.invokestatic 105, 3) := by decide +kernel
theorem dL_act_920 : decode cL_act 920 = .ok (.ifCond .ne 26, 3) := by decide +kernel
theorem dL_act_923 : decode cL_act 923 = .ok (.aload_n 0, 1) := by decide +kernel
theorem dL_act_924 : decode cL_act 924 = .ok (.iload_n 3, 1) := by decide +kernel
theorem dL_act_925 : decode cL_act 925 = .ok (.iload 4, 2) := by decide +kernel
theorem dL_act_927 : decode cL_act 927 = .ok (.iload_n 2, 1) := by decide +kernel
theorem dL_act_928 : decode cL_act 928 = .ok (.ifCond .eq 8, 3) := by decide +kernel
theorem dL_act_931 : decode cL_act 931 = .ok (.iload 7, 2) := by decide +kernel
theorem dL_act_933 : decode cL_act 933 = .ok (.goto 5, 3) := by decide +kernel
theorem dL_act_936 : decode cL_act 936 = .ok (.bipush 40, 2) := by decide +kernel
theorem dL_act_938 : decode cL_act 938 = .ok (.iload 10, 2) := by decide +kernel
theorem dL_act_940 : decode cL_act 940 = .ok (.invokestatic 154, 3) := by decide +kernel
theorem dL_act_943 : decode cL_act 943 = .ok (.goto 12, 3) := by decide +kernel
theorem dL_act_946 : decode cL_act 946 = .ok (.aload_n 0, 1) := by decide +kernel
theorem dL_act_947 : decode cL_act 947 = .ok (.iload_n 3, 1) := by decide +kernel
theorem dL_act_948 : decode cL_act 948 = .ok (.iload 10, 2) := by decide +kernel
theorem dL_act_950 : decode cL_act 950 = .ok (.iload 9, 2) := by decide +kernel
theorem dL_act_952 : decode cL_act 952 = .ok (.invokestatic 157, 3) := by decide +kernel
theorem dL_act_955 : decode cL_act 955 = .ok (.ireturn, 1) := by decide +kernel
theorem dL_act_956 : decode cL_act 956 = .ok (.aload_n 0, 1) := by decide +kernel
theorem dL_act_957 : decode cL_act 957 = .ok (.iload 5, 2) := by decide +kernel
theorem dL_act_959 : decode cL_act 959 = .ok (.iload 6, 2) := by decide +kernel
theorem dL_act_961 : decode cL_act 961 = .ok (.iload 9, 2) := by decide +kernel
theorem dL_act_963 : decode cL_act 963 = .ok (.invokestatic 160, 3) := by decide +kernel
theorem dL_act_966 : decode cL_act 966 = .ok (.ireturn, 1) := by decide +kernel
theorem dL_act_967 : decode cL_act 967 = .ok (.aload_n 0, 1) := by decide +kernel
theorem dL_act_968 : decode cL_act 968 = .ok (.iload 8, 2) := by decide +kernel
theorem dL_act_970 : decode cL_act 970 = .ok (.iload_n 2, 1) := by decide +kernel
theorem dL_act_971 : decode cL_act 971 = .ok (.ifCond .eq 8, 3) := by decide +kernel
theorem dL_act_974 : decode cL_act 974 = .ok (.iload 7, 2) := by decide +kernel
theorem dL_act_976 : decode cL_act 976 = .ok (.goto 11, 3) := by decide +kernel
theorem dL_act_979 : decode cL_act 979 = .ok (.iload_n 1, 1) := by decide +kernel
theorem dL_act_980 : decode cL_act 980 = .ok (.bipush 9, 2) := by decide +kernel
theorem dL_act_982 : decode cL_act 982 = .ok (.ishr, 1) := by decide +kernel
theorem dL_act_983 : decode cL_act 983 = .ok (.iconst 5, 1) := by decide +kernel
theorem dL_act_984 : decode cL_act 984 = .ok (.invokestatic 105, 3) := by decide +kernel
theorem dL_act_987 : decode cL_act 987 = .ok (.invokestatic 162, 3) := by decide +kernel
theorem dL_act_990 : decode cL_act 990 = .ok (.ireturn, 1) := by decide +kernel
theorem dL_act_991 : decode cL_act 991 = .ok (.aload_n 0, 1) := by decide +kernel
theorem dL_act_992 : decode cL_act 992 = .ok (.iload_n 2, 1) := by decide +kernel
theorem dL_act_993 : decode cL_act 993 = .ok (.ifCond .eq 8, 3) := by decide +kernel
theorem dL_act_996 : decode cL_act 996 = .ok (.iload 7, 2) := by decide +kernel
theorem dL_act_998 : decode cL_act 998 = .ok (.goto 12, 3) := by decide +kernel
theorem dL_act_1001 : decode cL_act 1001 = .ok (.iload_n 1, 1) := by decide +kernel
theorem dL_act_1002 : decode cL_act 1002 = .ok (.bipush 9, 2) := by decide +kernel
theorem dL_act_1004 : decode cL_act 1004 = .ok (.ishr, 1) := by decide +kernel
theorem dL_act_1005 : decode cL_act 1005 = .ok (.bipush 8, 2) := by decide +kernel
theorem dL_act_1007 : decode cL_act 1007 = .ok (.invokestatic 105, 3) := by decide +kernel
theorem dL_act_1010 : decode cL_act 1010 = .ok (.iload_n 2, 1) := by decide +kernel
theorem dL_act_1011 : decode cL_act 1011 = .ok (.ifCond .eq 8, 3) := by decide +kernel
theorem dL_act_1014 : decode cL_act 1014 = .ok (.iload 8, 2) := by decide +kernel
theorem dL_act_1016 : decode cL_act 1016 = .ok (.goto 11, 3) := by decide +kernel
theorem dL_act_1019 : decode cL_act 1019 = .ok (.iload_n 1, 1) := by decide +kernel
theorem dL_act_1020 : decode cL_act 1020 = .ok (.iconst 3, 1) := by decide +kernel
theorem dL_act_1021 : decode cL_act 1021 = .ok (.ishr, 1) := by decide +kernel
theorem dL_act_1022 : decode cL_act 1022 = .ok (.bipush 6, 2) := by decide +kernel
theorem dL_act_1024 : decode cL_act 1024 = .ok (.invokestatic 105, 3) := by decide +kernel
theorem dL_act_1027 : decode cL_act 1027 = .ok (.invokestatic 164, 3) := by decide +kernel
theorem dL_act_1030 : decode cL_act 1030 = .ok (.ireturn, 1) := by decide +kernel
theorem dL_act_1031 : decode cL_act 1031 = .ok (.aload_n 0, 1) := by decide +kernel
theorem dL_act_1032 : decode cL_act 1032 = .ok (.iload 5, 2) := by decide +kernel
theorem dL_act_1034 : decode cL_act 1034 = .ok (.invokestatic 166, 3) := by decide +kernel
theorem dL_act_1037 : decode cL_act 1037 = .ok (.ireturn, 1) := by decide +kernel
theorem dL_act_1038 : decode cL_act 1038 = .ok (.iload_n 1, 1) := by decide +kernel
theorem dL_act_1039 : decode cL_act 1039 = .ok (.bipush 12, 2) := by decide +kernel
theorem dL_act_1041 : decode cL_act 1041 = .ok (.ishr, 1) := by decide +kernel
theorem dL_act_1042 : decode cL_act 1042 = .ok (.iconst 3, 1) := by decide +kernel
theorem dL_act_1043 : decode cL_act 1043 = .ok (.invokestatic 105, 3) := by decide +kernel
theorem dL_act_1046 : decode cL_act 1046 = .ok (.ifCond .ne 12, 3) := by decide +kernel
theorem dL_act_1049 : decode cL_act 1049 = .ok (.aload_n 0, 1) := by decide +kernel
theorem dL_act_1050 : decode cL_act 1050 = .ok (.iload 10, 2) := by decide +kernel
theorem dL_act_1052 : decode cL_act 1052 = .ok (.invokevirtual 168, 3) := by decide +kernel
theorem dL_act_1055 : decode cL_act 1055 = .ok (.goto 24, 3) := by decide +kernel
theorem dL_act_1058 : decode cL_act 1058 = .ok (.aload_n 0, 1) := by decide +kernel
theorem dL_act_1059 : decode cL_act 1059 = .ok (.iload_n 2, 1) := by decide +kernel
theorem dL_act_1060 : decode cL_act 1060 = .ok (.ifCond .eq 8, 3) := by decide +kernel
theorem dL_act_1063 : decode cL_act 1063 = .ok (.iload 7, 2) := by decide +kernel
theorem dL_act_1065 : decode cL_act 1065 = .ok (.goto 11, 3) := by decide +kernel
theorem dL_act_1068 : decode cL_act 1068 = .ok (.iload_n 1, 1) := by decide +kernel
theorem dL_act_1069 : decode cL_act 1069 = .ok (.bipush 9, 2) := by decide +kernel
theorem dL_act_1071 : decode cL_act 1071 = .ok (.ishr, 1) := by decide +kernel
theorem dL_act_1072 : decode cL_act 1072 = .ok (.iconst 5, 1) := by decide +kernel
theorem dL_act_1073 : decode cL_act 1073 = .ok (.invokestatic 105, 3) := by decide +kernel
theorem dL_act_1076 : decode cL_act 1076 = .ok (.invokestatic 172, 3) := by decide +kernel
theorem dL_act_1079 : decode cL_act 1079 = .ok (.ireturn, 1) := by decide +kernel
theorem dL_areAlike_0 : decode cL_areAlike 0 = .ok (.aload_n 0, 1) := by decide +kernel
theorem dL_areAlike_1 : decode cL_areAlike 1 = .ok (.invokevirtual 174, 3) := by decide +kernel
theorem dL_areAlike_4 : decode cL_areAlike 4 = .ok (.aload_n 1, 1) := by decide +kernel
theorem dL_areAlike_5 : decode cL_areAlike 5 = .ok (.invokevirtual 174, 3) := by decide +kernel
theorem dL_areAlike_8 : decode cL_areAlike 8 = .ok (.if_icmp .ne 33, 3) := by decide +kernel
theorem dL_areAlike_11 : decode cL_areAlike 11 = .ok (.aload_n 0, 1) := by decide +kernel
theorem dL_areAlike_12 : decode cL_areAlike 12 = .ok (.iconst 1, 1) := by decide +kernel
theorem dL_areAlike_13 : decode cL_areAlike 13 = .ok (.invokevirtual 168, 3) := by decide +kernel
theorem dL_areAlike_16 : decode cL_areAlike 16 = .ok (.aload_n 1, 1) := by decide +kernel
theorem dL_areAlike_17 : decode cL_areAlike 17 = .ok (.iconst 1, 1) := by decide +kernel
theorem dL_areAlike_18 : decode cL_areAlike 18 = .ok (.invokevirtual 168, 3) := by decide +kernel
theorem dL_areAlike_21 : decode cL_areAlike 21 = .ok (.if_icmp .ne 20, 3) := by decide +kernel
theorem dL_areAlike_24 : decode cL_areAlike 24 = .ok (.aload_n 0, 1) := by decide +kernel
theorem dL_areAlike_25 : decode cL_areAlike 25 = .ok (.iconst 0, 1) := by decide +kernel
theorem dL_areAlike_26 : decode cL_areAlike 26 = .ok (.invokevirtual 168, 3) := by decide +kernel
theorem dL_areAlike_29 : decode cL_areAlike 29 = .ok (.aload_n 1, 1) := by decide +kernel
theorem dL_areAlike_30 : decode cL_areAlike 30 = .ok (.iconst 0, 1) := by decide +kernel
theorem dL_areAlike_31 : decode cL_areAlike 31 = .ok (.invokevirtual 168, 3) := by decide +kernel
theorem dL_areAlike_34 : decode cL_areAlike 34 = .ok (.if_icmp .ne 7, 3) := by decide +kernel
theorem dL_areAlike_37 : decode cL_areAlike 37 = .ok (.iconst 1, 1) := by decide +kernel
theorem dL_areAlike_38 : decode cL_areAlike 38 = .ok (.goto 4, 3) := by decide +kernel
theorem dL_areAlike_41 : decode cL_areAlike 41 = .ok (.iconst 0, 1) := by decide +kernel
theorem dL_areAlike_42 : decode cL_areAlike 42 = .ok (.istore_n 3, 1) := by decide +kernel
theorem dL_areAlike_43 : decode cL_areAlike 43 = .ok (.iconst 0, 1) := by decide +kernel
theorem dL_areAlike_44 : decode cL_areAlike 44 = .ok (.istore 4, 2) := by decide +kernel
theorem dL_areAlike_46 : decode cL_areAlike 46 = .ok (.iload 4, 2) := by decide +kernel
theorem dL_areAlike_48 : decode cL_areAlike 48 = .ok (.iconst 5, 1) := by decide +kernel
theorem dL_areAlike_49 : decode cL_areAlike 49 = .ok (.if_icmp .ge 175, 3) := by decide +kernel
theorem dL_areAlike_52 : decode cL_areAlike 52 = .ok (.iload_n 3, 1) := by decide +kernel
theorem dL_areAlike_53 : decode cL_areAlike 53 = .ok (.ifCond .eq 171, 3) := by decide +kernel
theorem dL_areAlike_56 : decode cL_areAlike 56 = .ok (.iload_n 2, 1) := by decide +kernel
theorem dL_areAlike_57 : decode cL_areAlike 57 = .ok (.bipush 7, 2) := by decide +kernel
theorem dL_areAlike_59 : decode cL_areAlike 59 = .ok (.iload 4, 2) := by decide +kernel
theorem dL_areAlike_61 : decode cL_areAlike 61 = .ok (.imul, 1) := by decide +kernel
theorem dL_areAlike_62 : decode cL_areAlike 62 = .ok (.iadd, 1) := by decide +kernel
theorem dL_areAlike_63 : decode cL_areAlike 63 = .ok (.bipush 48, 2) := by decide +kernel
theorem dL_areAlike_65 : decode cL_areAlike 65 = .ok (.invokestatic 105, 3) := by decide +kernel
theorem dL_areAlike_68 : decode cL_areAlike 68 = .ok (.istore 5, 2) := by decide +kernel
theorem dL_areAlike_70 : decode cL_areAlike 70 = .ok (.aload_n 0, 1) := by decide +kernel
theorem dL_areAlike_71 : decode cL_areAlike 71 = .ok (.iload 4, 2) := by decide +kernel
theorem dL_areAlike_73 : decode cL_areAlike 73 = .ok (.invokestatic 172, 3) := by decide +kernel
theorem dL_areAlike_76 : decode cL_areAlike 76 = .ok (.aload_n 1, 1) := by decide +kernel
theorem dL_areAlike_77 : decode cL_areAlike 77 = .ok (.iload 4, 2) := by decide +kernel
theorem dL_areAlike_79 : decode cL_areAlike 79 = .ok (.invokestatic 172, 3) := by decide +kernel
theorem dL_areAlike_82 : decode cL_areAlike 82 = .ok (.if_icmp .ne 134, 3) := by decide +kernel
theorem dL_areAlike_85 : decode cL_areAlike 85 = .ok (.aload_n 0, 1) := by decide +kernel
theorem dL_areAlike_86 : decode cL_areAlike 86 = .ok (.iload 5, 2) := by decide +kernel
theorem dL_areAlike_88 : decode cL_areAlike 88 = .ok (.iload_n 2, 1) := by decide +kernel
theorem dL_areAlike_89 : decode cL_areAlike 89 = .ok (.iconst 3, 1) := by decide +kernel
theorem dL_areAlike_90 : decode cL_areAlike 90 = .ok (.invokestatic 105, 3) := by decide +kernel
theorem dL_areAlike_93 : decode cL_areAlike 93 = .ok (.invokestatic 141, 3) := by decide +kernel
theorem dL_areAlike_96 : decode cL_areAlike 96 = .ok (.aload_n 1, 1) := by decide +kernel
theorem dL_areAlike_97 : decode cL_areAlike 97 = .ok (.iload 5, 2) := by decide +kernel
theorem dL_areAlike_99 : decode cL_areAlike 99 = .ok (.iload_n 2, 1) := by decide +kernel
theorem dL_areAlike_100 : decode cL_areAlike 100 = .ok (.iconst 3, 1) := by decide +kernel
theorem dL_areAlike_101 : decode cL_areAlike 101 = .ok (.invokestatic 105, 3) := by decide +kernel
theorem dL_areAlike_104 : decode cL_areAlike 104 = .ok (.invokestatic 141, 3) := by decide +kernel
theorem dL_areAlike_107 : decode cL_areAlike 107 = .ok (.if_icmp .ne 109, 3) := by decide +kernel
theorem dL_areAlike_110 : decode cL_areAlike 110 = .ok (.aload_n 0, 1) := by decide +kernel
theorem dL_areAlike_111 : decode cL_areAlike 111 = .ok (.iload 4, 2) := by decide +kernel
theorem dL_areAlike_113 : decode cL_areAlike 113 = .ok (.invokestatic 166, 3) := by decide +kernel
theorem dL_areAlike_116 : decode cL_areAlike 116 = .ok (.aload_n 1, 1) := by decide +kernel
theorem dL_areAlike_117 : decode cL_areAlike 117 = .ok (.iload 4, 2) := by decide +kernel
theorem dL_areAlike_119 : decode cL_areAlike 119 = .ok (.invokestatic 166, 3) := by decide +kernel
theorem dL_areAlike_122 : decode cL_areAlike 122 = .ok (.if_icmp .ne 94, 3) := by decide +kernel
theorem dL_areAlike_125 : decode cL_areAlike 125 = .ok (.aload_n 0, 1) := by decide +kernel
theorem dL_areAlike_126 : decode cL_areAlike 126 = .ok (.iload 4, 2) := by decide +kernel
theorem dL_areAlike_128 : decode cL_areAlike 128 = .ok (.iload_n 2, 1) := by decide +kernel
theorem dL_areAlike_129 : decode cL_areAlike 129 = .ok (.bipush 6, 2) := by decide +kernel
theorem dL_areAlike_131 : decode cL_areAlike 131 = .ok (.invokestatic 105, 3) := by decide +kernel
theorem dL_areAlike_134 : decode cL_areAlike 134 = .ok (.invokestatic 164, 3) := by decide +kernel
theorem dL_areAlike_137 : decode cL_areAlike 137 = .ok (.aload_n 1, 1) := by decide +kernel
theorem dL_areAlike_138 : decode cL_areAlike 138 = .ok (.iload 4, 2) := by decide +kernel
theorem dL_areAlike_140 : decode cL_areAlike 140 = .ok (.iload_n 2, 1) := by decide +kernel
theorem dL_areAlike_141 : decode cL_areAlike 141 = .ok (.bipush 6, 2) := by decide +kernel
theorem dL_areAlike_143 : decode cL_areAlike 143 = .ok (.invokestatic 105, 3) := by decide +kernel
theorem dL_areAlike_146 : decode cL_areAlike 146 = .ok (.invokestatic 164, 3) := by decide +kernel
theorem dL_areAlike_149 : decode cL_areAlike 149 = .ok (.if_icmp .ne 67, 3) := by decide +kernel
theorem dL_areAlike_152 : decode cL_areAlike 152 = .ok (.aload_n 0, 1) := by decide +kernel
theorem dL_areAlike_153 : decode cL_areAlike 153 = .ok (.iload 4, 2) := by decide +kernel
theorem dL_areAlike_155 : decode cL_areAlike 155 = .ok (.iload_n 2, 1) := by decide +kernel
theorem dL_areAlike_156 : decode cL_areAlike 156 = .ok (.iconst 5, 1) := by decide +kernel
theorem dL_areAlike_157 : decode cL_areAlike 157 = .ok (.invokestatic 105, 3) := by decide +kernel
theorem dL_areAlike_160 : decode cL_areAlike 160 = .ok (.invokestatic 162, 3) := by decide +kernel
theorem dL_areAlike_163 : decode cL_areAlike 163 = .ok (.aload_n 1, 1) := by decide +kernel
theorem dL_areAlike_164 : decode cL_areAlike 164 = .ok (.iload 4, 2) := by decide +kernel
theorem dL_areAlike_166 : decode cL_areAlike 166 = .ok (.iload_n 2, 1) := by decide +kernel
theorem dL_areAlike_167 : decode cL_areAlike 167 = .ok (.iconst 5, 1) := by decide +kernel
theorem dL_areAlike_168 : decode cL_areAlike 168 = .ok (.invokestatic 105, 3) := by decide +kernel
theorem dL_areAlike_171 : decode cL_areAlike 171 = .ok (.invokestatic 162, 3) := by decide +kernel
theorem dL_areAlike_174 : decode cL_areAlike 174 = .ok (.if_icmp .ne 42, 3) := by decide +kernel
theorem dL_areAlike_177 : decode cL_areAlike 177 = .ok (.aload_n 0, 1) := by decide +kernel
theorem dL_areAlike_178 : decode cL_areAlike 178 = .ok (.iload 5, 2) := by decide +kernel
theorem dL_areAlike_180 : decode cL_areAlike 180 = .ok (.iload_n 2, 1) := by decide +kernel
theorem dL_areAlike_181 : decode cL_areAlike 181 = .ok (.bipush 48, 2) := by decide +kernel
theorem dL_areAlike_183 : decode cL_areAlike 183 = .ok (.invokestatic 105, 3) := by decide +kernel
theorem dL_areAlike_186 : decode cL_areAlike 186 = .ok (.bipush 60, 2) := by decide +kernel
theorem dL_areAlike_188 : decode cL_areAlike 188 = .ok (.bipush 50, 2) := by decide +kernel
theorem dL_areAlike_190 : decode cL_areAlike 190 = .ok (.invokestatic 146, 3) := by decide +kernel
theorem dL_areAlike_193 : decode cL_areAlike 193 = .ok (.aload_n 1, 1) := by decide +kernel
theorem dL_areAlike_194 : decode cL_areAlike 194 = .ok (.iload 5, 2) := by decide +kernel
theorem dL_areAlike_196 : decode cL_areAlike 196 = .ok (.iload_n 2, 1) := by decide +kernel
theorem dL_areAlike_197 : decode cL_areAlike 197 = .ok (.bipush 48, 2) := by decide +kernel
theorem dL_areAlike_199 : decode cL_areAlike 199 = .ok (.invokestatic 105, 3) := by decide +kernel
theorem dL_areAlike_202 : decode cL_areAlike 202 = .ok (.bipush 60, 2) := by decide +kernel
theorem dL_areAlike_204 : decode cL_areAlike 204 = .ok (.bipush 50, 2) := by decide +kernel
theorem dL_areAlike_206 : decode cL_areAlike 206 = .ok (.invokestatic 146, 3) := by decide +kernel
theorem dL_areAlike_209 : decode cL_areAlike 209 = .ok (.if_icmp .ne 7, 3) := by decide +kernel
theorem dL_areAlike_212 : decode cL_areAlike 212 = .ok (.iconst 1, 1) := by decide +kernel
theorem dL_areAlike_213 : decode cL_areAlike 213 = .ok (.goto 4, 3) := by decide +kernel
theorem dL_areAlike_216 : decode cL_areAlike 216 = .ok (.iconst 0, 1) := by decide +kernel
theorem dL_areAlike_217 : decode cL_areAlike 217 = .ok (.istore_n 3, 1) := by decide +kernel
theorem dL_areAlike_218 : decode cL_areAlike 218 = .ok (.iinc 4 1, 3) := by decide +kernel
theorem dL_areAlike_221 : decode cL_areAlike 221 = .ok (.goto (-175), 3) := by decide +kernel
theorem dL_areAlike_224 : decode cL_areAlike 224 = .ok (.iload_n 3, 1) := by decide +kernel
theorem dL_areAlike_225 : decode cL_areAlike 225 = .ok (.ireturn, 1) := by decide +kernel
theorem dL_isSo_0 : decode cL_isSo 0 = .ok (.aload_n 0, 1) := by decide +kernel
theorem dL_isSo_1 : decode cL_isSo 1 = .ok (.iconst 1, 1) := by decide +kernel
theorem dL_isSo_2 : decode cL_isSo 2 = .ok (.invokevirtual 168, 3) := by decide +kernel
theorem dL_isSo_5 : decode cL_isSo 5 = .ok (.aload_n 0, 1) := by decide +kernel
theorem dL_isSo_6 : decode cL_isSo 6 = .ok (.iconst 0, 1) := by decide +kernel
theorem dL_isSo_7 : decode cL_isSo 7 = .ok (.invokevirtual 168, 3) := by decide +kernel
theorem dL_isSo_10 : decode cL_isSo 10 = .ok (.if_icmp .gt 17, 3) := by decide +kernel
theorem dL_isSo_13 : decode cL_isSo 13 = .ok (.aload_n 0, 1) := by decide +kernel
theorem dL_isSo_14 : decode cL_isSo 14 = .ok (.iconst 4, 1) := by decide +kernel
theorem dL_isSo_15 : decode cL_isSo 15 = .ok (.invokevirtual 102, 3) := by decide +kernel
theorem dL_isSo_18 : decode cL_isSo 18 = .ok (.iconst 2, 1) := by decide +kernel
theorem dL_isSo_19 : decode cL_isSo 19 = .ok (.irem, 1) := by decide +kernel
theorem dL_isSo_20 : decode cL_isSo 20 = .ok (.ifCond .ne 7, 3) := by decide +kernel
theorem dL_isSo_23 : decode cL_isSo 23 = .ok (.iconst 1, 1) := by decide +kernel
theorem dL_isSo_24 : decode cL_isSo 24 = .ok (.goto 4, 3) := by decide +kernel
theorem dL_isSo_27 : decode cL_isSo 27 = .ok (.iconst 0, 1) := by decide +kernel
theorem dL_isSo_28 : decode cL_isSo 28 = .ok (.istore_n 2, 1) := by decide +kernel
theorem dL_isSo_29 : decode cL_isSo 29 = .ok (.iconst 0, 1) := by decide +kernel
theorem dL_isSo_30 : decode cL_isSo 30 = .ok (.istore_n 3, 1) := by decide +kernel
theorem dL_isSo_31 : decode cL_isSo 31 = .ok (.iload_n 3, 1) := by decide +kernel
theorem dL_isSo_32 : decode cL_isSo 32 = .ok (.bipush 80, 2) := by decide +kernel
theorem dL_isSo_34 : decode cL_isSo 34 = .ok (.if_icmp .ge 132, 3) := by decide +kernel
theorem dL_isSo_37 : decode cL_isSo 37 = .ok (.iload_n 2, 1) := by decide +kernel
theorem dL_isSo_38 : decode cL_isSo 38 = .ok (.ifCond .eq 128, 3) := by decide +kernel
theorem dL_isSo_41 : decode cL_isSo 41 = .ok (.aload_n 0, 1) := by decide +kernel
theorem dL_isSo_42 : decode cL_isSo 42 = .ok (.iload_n 3, 1) := by decide +kernel
theorem dL_isSo_43 : decode cL_isSo 43 = .ok (.iconst 4, 1) := by decide +kernel
theorem dL_isSo_44 : decode cL_isSo 44 = .ok (.invokestatic 164, 3) := by decide +kernel
theorem dL_isSo_47 : decode cL_isSo 47 = .ok (.istore 4, 2) := by decide +kernel
theorem dL_isSo_49 : decode cL_isSo 49 = .ok (.iload 4, 2) := by decide +kernel
theorem dL_isSo_51 : decode cL_isSo 51 = .ok (.ifCond .lt 78, 3) := by decide +kernel
theorem dL_isSo_54 : decode cL_isSo 54 = .ok (.aload_n 0, 1) := by decide +kernel
theorem dL_isSo_55 : decode cL_isSo 55 = .ok (.iload 4, 2) := by decide +kernel
theorem dL_isSo_57 : decode cL_isSo 57 = .ok (.iconst 4, 1) := by decide +kernel
theorem dL_isSo_58 : decode cL_isSo 58 = .ok (.invokevirtual 96, 3) := by decide +kernel
theorem dL_isSo_61 : decode cL_isSo 61 = .ok (.iload_n 3, 1) := by decide +kernel
theorem dL_isSo_62 : decode cL_isSo 62 = .ok (.if_icmp .ne 71, 3) := by decide +kernel
theorem dL_isSo_65 : decode cL_isSo 65 = .ok (.aload_n 0, 1) := by decide +kernel
theorem dL_isSo_66 : decode cL_isSo 66 = .ok (.iload 4, 2) := by decide +kernel
theorem dL_isSo_68 : decode cL_isSo 68 = .ok (.iconst 0, 1) := by decide +kernel
theorem dL_isSo_69 : decode cL_isSo 69 = .ok (.invokevirtual 96, 3) := by decide +kernel
theorem dL_isSo_72 : decode cL_isSo 72 = .ok (.aload_n 0, 1) := by decide +kernel
theorem dL_isSo_73 : decode cL_isSo 73 = .ok (.iload_n 3, 1) := by decide +kernel
theorem dL_isSo_74 : decode cL_isSo 74 = .ok (.iconst 1, 1) := by decide +kernel
theorem dL_isSo_75 : decode cL_isSo 75 = .ok (.invokevirtual 96, 3) := by decide +kernel
theorem dL_isSo_78 : decode cL_isSo 78 = .ok (.if_icmp .ne 55, 3) := by decide +kernel
theorem dL_isSo_81 : decode cL_isSo 81 = .ok (.aload_n 0, 1) := by decide +kernel
theorem dL_isSo_82 : decode cL_isSo 82 = .ok (.iload 4, 2) := by decide +kernel
theorem dL_isSo_84 : decode cL_isSo 84 = .ok (.iconst 1, 1) := by decide +kernel
theorem dL_isSo_85 : decode cL_isSo 85 = .ok (.invokevirtual 96, 3) := by decide +kernel
theorem dL_isSo_88 : decode cL_isSo 88 = .ok (.aload_n 0, 1) := by decide +kernel
theorem dL_isSo_89 : decode cL_isSo 89 = .ok (.iload_n 3, 1) := by decide +kernel
theorem dL_isSo_90 : decode cL_isSo 90 = .ok (.iconst 0, 1) := by decide +kernel
theorem dL_isSo_91 : decode cL_isSo 91 = .ok (.invokevirtual 96, 3) := by decide +kernel
theorem dL_isSo_94 : decode cL_isSo 94 = .ok (.if_icmp .ne 39, 3) := by decide +kernel
theorem dL_isSo_97 : decode cL_isSo 97 = .ok (.aload_n 0, 1) := by decide +kernel
theorem dL_isSo_98 : decode cL_isSo 98 = .ok (.iload 4, 2) := by decide +kernel
theorem dL_isSo_100 : decode cL_isSo 100 = .ok (.iconst 2, 1) := by decide +kernel
theorem dL_isSo_101 : decode cL_isSo 101 = .ok (.invokevirtual 96, 3) := by decide +kernel
theorem dL_isSo_104 : decode cL_isSo 104 = .ok (.aload_n 0, 1) := by decide +kernel
theorem dL_isSo_105 : decode cL_isSo 105 = .ok (.iload_n 3, 1) := by decide +kernel
theorem dL_isSo_106 : decode cL_isSo 106 = .ok (.iconst 2, 1) := by decide +kernel
theorem dL_isSo_107 : decode cL_isSo 107 = .ok (.invokevirtual 96, 3) := by decide +kernel
theorem dL_isSo_110 : decode cL_isSo 110 = .ok (.if_icmp .ne 23, 3) := by decide +kernel
theorem dL_isSo_113 : decode cL_isSo 113 = .ok (.aload_n 0, 1) := by decide +kernel
theorem dL_isSo_114 : decode cL_isSo 114 = .ok (.iload 4, 2) := by decide +kernel
theorem dL_isSo_116 : decode cL_isSo 116 = .ok (.iconst 5, 1) := by decide +kernel
theorem dL_isSo_117 : decode cL_isSo 117 = .ok (.invokevirtual 96, 3) := by decide +kernel
theorem dL_isSo_120 : decode cL_isSo 120 = .ok (.aload_n 0, 1) := by decide +kernel
theorem dL_isSo_121 : decode cL_isSo 121 = .ok (.iload_n 3, 1) := by decide +kernel
theorem dL_isSo_122 : decode cL_isSo 122 = .ok (.iconst 5, 1) := by decide +kernel
theorem dL_isSo_123 : decode cL_isSo 123 = .ok (.invokevirtual 96, 3) := by decide +kernel
theorem dL_isSo_126 : decode cL_isSo 126 = .ok (.if_icmp .ne 7, 3) := by decide +kernel
theorem dL_isSo_129 : decode cL_isSo 129 = .ok (.iconst 1, 1) := by decide +kernel
theorem dL_isSo_130 : decode cL_isSo 130 = .ok (.goto 4, 3) := by decide +kernel
theorem dL_isSo_133 : decode cL_isSo 133 = .ok (.iconst 0, 1) := by decide +kernel
theorem dL_isSo_134 : decode cL_isSo 134 = .ok (.istore_n 2, 1) := by decide +kernel
theorem dL_isSo_135 : decode cL_isSo 135 = .ok (.iload_n 2, 1) := by decide +kernel
theorem dL_isSo_136 : decode cL_isSo 136 = .ok (.ifCond .eq 22, 3) := by decide +kernel
theorem dL_isSo_139 : decode cL_isSo 139 = .ok (.iload 4, 2) := by decide +kernel
theorem dL_isSo_141 : decode cL_isSo 141 = .ok (.iconst (-1), 1) := by decide +kernel
theorem dL_isSo_142 : decode cL_isSo 142 = .ok (.if_icmp .ne 12, 3) := by decide +kernel
theorem dL_isSo_145 : decode cL_isSo 145 = .ok (.aload_n 0, 1) := by decide +kernel
theorem dL_isSo_146 : decode cL_isSo 146 = .ok (.iload_n 3, 1) := by decide +kernel
theorem dL_isSo_147 : decode cL_isSo 147 = .ok (.iconst 5, 1) := by decide +kernel
theorem dL_isSo_148 : decode cL_isSo 148 = .ok (.invokevirtual 96, 3) := by decide +kernel
theorem dL_isSo_151 : decode cL_isSo 151 = .ok (.ifCond .ne 7, 3) := by decide +kernel
theorem dL_isSo_154 : decode cL_isSo 154 = .ok (.iconst 1, 1) := by decide +kernel
theorem dL_isSo_155 : decode cL_isSo 155 = .ok (.goto 4, 3) := by decide +kernel
theorem dL_isSo_158 : decode cL_isSo 158 = .ok (.iconst 0, 1) := by decide +kernel
theorem dL_isSo_159 : decode cL_isSo 159 = .ok (.istore_n 2, 1) := by decide +kernel
theorem dL_isSo_160 : decode cL_isSo 160 = .ok (.iinc 3 1, 3) := by decide +kernel
theorem dL_isSo_163 : decode cL_isSo 163 = .ok (.goto (-132), 3) := by decide +kernel
theorem dL_isSo_166 : decode cL_isSo 166 = .ok (.iconst 0, 1) := by decide +kernel
theorem dL_isSo_167 : decode cL_isSo 167 = .ok (.istore_n 3, 1) := by decide +kernel
theorem dL_isSo_168 : decode cL_isSo 168 = .ok (.iload_n 3, 1) := by decide +kernel
theorem dL_isSo_169 : decode cL_isSo 169 = .ok (.iconst 4, 1) := by decide +kernel
theorem dL_isSo_170 : decode cL_isSo 170 = .ok (.if_icmp .ge 332, 3) := by decide +kernel
theorem dL_isSo_173 : decode cL_isSo 173 = .ok (.iload_n 2, 1) := by decide +kernel
theorem dL_isSo_174 : decode cL_isSo 174 = .ok (.ifCond .eq 328, 3) := by decide +kernel
theorem dL_isSo_177 : decode cL_isSo 177 = .ok (.iload_n 1, 1) := by decide +kernel
theorem dL_isSo_178 : decode cL_isSo 178 = .ok (.bipush 11, 2) := by decide +kernel
theorem dL_isSo_180 : decode cL_isSo 180 = .ok (.iload_n 3, 1) := by decide +kernel
theorem dL_isSo_181 : decode cL_isSo 181 = .ok (.imul, 1) := by decide +kernel
theorem dL_isSo_182 : decode cL_isSo 182 = .ok (.iadd, 1) := by decide +kernel
theorem dL_isSo_183 : decode cL_isSo 183 = .ok (.bipush 48, 2) := by decide +kernel
theorem dL_isSo_185 : decode cL_isSo 185 = .ok (.invokestatic 105, 3) := by decide +kernel
theorem dL_isSo_188 : decode cL_isSo 188 = .ok (.istore 4, 2) := by decide +kernel
theorem dL_isSo_190 : decode cL_isSo 190 = .ok (.iload 4, 2) := by decide +kernel
theorem dL_isSo_192 : decode cL_isSo 192 = .ok (.iload_n 1, 1) := by decide +kernel
theorem dL_isSo_193 : decode cL_isSo 193 = .ok (.iload_n 3, 1) := by decide +kernel
theorem dL_isSo_194 : decode cL_isSo 194 = .ok (.ishr, 1) := by decide +kernel
theorem dL_isSo_195 : decode cL_isSo 195 = .ok (.bipush 12, 2) := by decide +kernel
theorem dL_isSo_197 : decode cL_isSo 197 = .ok (.invokestatic 105, 3) := by decide +kernel
theorem dL_isSo_200 : decode cL_isSo 200 = .ok (.iadd, 1) := by decide +kernel
theorem dL_isSo_201 : decode cL_isSo 201 = .ok (.bipush 48, 2) := by decide +kernel
theorem dL_isSo_203 : decode cL_isSo 203 = .ok (.irem, 1) := by decide +kernel
theorem dL_isSo_204 : decode cL_isSo 204 = .ok (.istore 5, 2) := by decide +kernel
theorem dL_isSo_206 : decode cL_isSo 206 = .ok (.aload_n 0, 1) := by decide +kernel
theorem dL_isSo_207 : decode cL_isSo 207 = .ok (.iload 4, 2) := by decide +kernel
theorem dL_isSo_209 : decode cL_isSo 209 = .ok (.iload 5, 2) := by decide +kernel
theorem dL_isSo_211 : decode cL_isSo 211 = .ok (.bipush 60, 2) := by decide +kernel
theorem dL_isSo_213 : decode cL_isSo 213 = .ok (.bipush 60, 2) := by decide +kernel
theorem dL_isSo_215 : decode cL_isSo 215 = .ok (.invokevirtual 71, 3) := by decide +kernel
theorem dL_isSo_218 : decode cL_isSo 218 = .ok (.istore 6, 2) := by decide +kernel
theorem dL_isSo_220 : decode cL_isSo 220 = .ok (.iconst 0, 1) := by decide +kernel
theorem dL_isSo_221 : decode cL_isSo 221 = .ok (.istore 7, 2) := by decide +kernel
theorem dL_isSo_223 : decode cL_isSo 223 = .ok (.iload 7, 2) := by decide +kernel
theorem dL_isSo_225 : decode cL_isSo 225 = .ok (.iload 6, 2) := by decide +kernel
theorem dL_isSo_227 : decode cL_isSo 227 = .ok (.if_icmp .ge 185, 3) := by decide +kernel
theorem dL_isSo_230 : decode cL_isSo 230 = .ok (.iload 7, 2) := by decide +kernel
theorem dL_isSo_232 : decode cL_isSo 232 = .ok (.iconst 4, 1) := by decide +kernel
theorem dL_isSo_233 : decode cL_isSo 233 = .ok (.if_icmp .ge 179, 3) := by decide +kernel
theorem dL_isSo_236 : decode cL_isSo 236 = .ok (.iload_n 2, 1) := by decide +kernel
theorem dL_isSo_237 : decode cL_isSo 237 = .ok (.ifCond .eq 175, 3) := by decide +kernel
theorem dL_isSo_240 : decode cL_isSo 240 = .ok (.aload_n 0, 1) := by decide +kernel
theorem dL_isSo_241 : decode cL_isSo 241 = .ok (.iload 4, 2) := by decide +kernel
theorem dL_isSo_243 : decode cL_isSo 243 = .ok (.iload 5, 2) := by decide +kernel
theorem dL_isSo_245 : decode cL_isSo 245 = .ok (.bipush 60, 2) := by decide +kernel
theorem dL_isSo_247 : decode cL_isSo 247 = .ok (.bipush 60, 2) := by decide +kernel
theorem dL_isSo_249 : decode cL_isSo 249 = .ok (.iload 7, 2) := by decide +kernel
theorem dL_isSo_251 : decode cL_isSo 251 = .ok (.iconst 0, 1) := by decide +kernel
theorem dL_isSo_252 : decode cL_isSo 252 = .ok (.invokevirtual 74, 3) := by decide +kernel
theorem dL_isSo_255 : decode cL_isSo 255 = .ok (.ifCond .ne 7, 3) := by decide +kernel
theorem dL_isSo_258 : decode cL_isSo 258 = .ok (.iconst 1, 1) := by decide +kernel
theorem dL_isSo_259 : decode cL_isSo 259 = .ok (.goto 4, 3) := by decide +kernel
theorem dL_isSo_262 : decode cL_isSo 262 = .ok (.iconst 0, 1) := by decide +kernel
theorem dL_isSo_263 : decode cL_isSo 263 = .ok (.istore 8, 2) := by decide +kernel
theorem dL_isSo_265 : decode cL_isSo 265 = .ok (.aload_n 0, 1) := by decide +kernel
theorem dL_isSo_266 : decode cL_isSo 266 = .ok (.iload 4, 2) := by decide +kernel
theorem dL_isSo_268 : decode cL_isSo 268 = .ok (.iload 5, 2) := by decide +kernel
theorem dL_isSo_270 : decode cL_isSo 270 = .ok (.bipush 60, 2) := by decide +kernel
theorem dL_isSo_272 : decode cL_isSo 272 = .ok (.bipush 60, 2) := by decide +kernel
theorem dL_isSo_274 : decode cL_isSo 274 = .ok (.iload 7, 2) := by decide +kernel
theorem dL_isSo_276 : decode cL_isSo 276 = .ok (.iconst 1, 1) := by decide +kernel
theorem dL_isSo_277 : decode cL_isSo 277 = .ok (.invokevirtual 74, 3) := by decide +kernel
theorem dL_isSo_280 : decode cL_isSo 280 = .ok (.istore 9, 2) := by decide +kernel
theorem dL_isSo_282 : decode cL_isSo 282 = .ok (.aload_n 0, 1) := by decide +kernel
theorem dL_isSo_283 : decode cL_isSo 283 = .ok (.iload 4, 2) := by decide +kernel
theorem dL_isSo_285 : decode cL_isSo 285 = .ok (.iload 5, 2) := by decide +kernel
theorem dL_isSo_287 : decode cL_isSo 287 = .ok (.bipush 60, 2) := by decide +kernel
theorem dL_isSo_289 : decode cL_isSo 289 = .ok (.bipush 60, 2) := by decide +kernel
theorem dL_isSo_291 : decode cL_isSo 291 = .ok (.iload 7, 2) := by decide +kernel
theorem dL_isSo_293 : decode cL_isSo 293 = .ok (.iconst 2, 1) := by decide +kernel
theorem dL_isSo_294 : decode cL_isSo 294 = .ok (.invokevirtual 74, 3) := by decide +kernel
theorem dL_isSo_297 : decode cL_isSo 297 = .ok (.istore 10, 2) := by decide +kernel
theorem dL_isSo_299 : decode cL_isSo 299 = .ok (.aload_n 0, 1) := by decide +kernel
theorem dL_isSo_300 : decode cL_isSo 300 = .ok (.iload 4, 2) := by decide +kernel
theorem dL_isSo_302 : decode cL_isSo 302 = .ok (.iload 8, 2) := by decide +kernel
theorem dL_isSo_304 : decode cL_isSo 304 = .ok (.iload 9, 2) := by decide +kernel
theorem dL_isSo_306 : decode cL_isSo 306 = .ok (.bipush 60, 2) := by decide +kernel
theorem dL_isSo_308 : decode cL_isSo 308 = .ok (.iload 10, 2) := by decide +kernel
theorem dL_isSo_310 : decode cL_isSo 310 = .ok (.invokevirtual 67, 3) := by decide +kernel
theorem dL_isSo_313 : decode cL_isSo 313 = .ok (.iload 5, 2) := by decide +kernel
theorem dL_isSo_315 : decode cL_isSo 315 = .ok (.if_icmp .ne 89, 3) := by decide +kernel
theorem dL_isSo_318 : decode cL_isSo 318 = .ok (.aload_n 0, 1) := by decide +kernel
theorem dL_isSo_319 : decode cL_isSo 319 = .ok (.iload 4, 2) := by decide +kernel
theorem dL_isSo_321 : decode cL_isSo 321 = .ok (.iload 8, 2) := by decide +kernel
theorem dL_isSo_323 : decode cL_isSo 323 = .ok (.iload 9, 2) := by decide +kernel
theorem dL_isSo_325 : decode cL_isSo 325 = .ok (.bipush 60, 2) := by decide +kernel
theorem dL_isSo_327 : decode cL_isSo 327 = .ok (.iload 10, 2) := by decide +kernel
theorem dL_isSo_329 : decode cL_isSo 329 = .ok (.invokevirtual 178, 3) := by decide +kernel
theorem dL_isSo_332 : decode cL_isSo 332 = .ok (.iload 5, 2) := by decide +kernel
theorem dL_isSo_334 : decode cL_isSo 334 = .ok (.if_icmp .ne 70, 3) := by decide +kernel
theorem dL_isSo_337 : decode cL_isSo 337 = .ok (.aload_n 0, 1) := by decide +kernel
theorem dL_isSo_338 : decode cL_isSo 338 = .ok (.iload 4, 2) := by decide +kernel
theorem dL_isSo_340 : decode cL_isSo 340 = .ok (.iload 5, 2) := by decide +kernel
theorem dL_isSo_342 : decode cL_isSo 342 = .ok (.bipush 60, 2) := by decide +kernel
theorem dL_isSo_344 : decode cL_isSo 344 = .ok (.bipush 60, 2) := by decide +kernel
theorem dL_isSo_346 : decode cL_isSo 346 = .ok (.iload 7, 2) := by decide +kernel
theorem dL_isSo_348 : decode cL_isSo 348 = .ok (.iconst 3, 1) := by decide +kernel
theorem dL_isSo_349 : decode cL_isSo 349 = .ok (.invokevirtual 74, 3) := by decide +kernel
theorem dL_isSo_352 : decode cL_isSo 352 = .ok (.iload 10, 2) := by decide +kernel
theorem dL_isSo_354 : decode cL_isSo 354 = .ok (.if_icmp .gt 50, 3) := by decide +kernel
theorem dL_isSo_357 : decode cL_isSo 357 = .ok (.aload_n 0, 1) := by decide +kernel
theorem dL_isSo_358 : decode cL_isSo 358 = .ok (.iload 4, 2) := by decide +kernel
theorem dL_isSo_360 : decode cL_isSo 360 = .ok (.iload 5, 2) := by decide +kernel
theorem dL_isSo_362 : decode cL_isSo 362 = .ok (.bipush 60, 2) := by decide +kernel
theorem dL_isSo_364 : decode cL_isSo 364 = .ok (.bipush 60, 2) := by decide +kernel
theorem dL_isSo_366 : decode cL_isSo 366 = .ok (.iload 7, 2) := by decide +kernel
theorem dL_isSo_368 : decode cL_isSo 368 = .ok (.iconst 4, 1) := by decide +kernel
theorem dL_isSo_369 : decode cL_isSo 369 = .ok (.invokevirtual 74, 3) := by decide +kernel
theorem dL_isSo_372 : decode cL_isSo 372 = .ok (.ifCond .lt 32, 3) := by decide +kernel
theorem dL_isSo_375 : decode cL_isSo 375 = .ok (.aload_n 0, 1) := by decide +kernel
theorem dL_isSo_376 : decode cL_isSo 376 = .ok (.iload 4, 2) := by decide +kernel
theorem dL_isSo_378 : decode cL_isSo 378 = .ok (.iload 5, 2) := by decide +kernel
theorem dL_isSo_380 : decode cL_isSo 380 = .ok (.bipush 60, 2) := by decide +kernel
theorem dL_isSo_382 : decode cL_isSo 382 = .ok (.bipush 60, 2) := by decide +kernel
theorem dL_isSo_384 : decode cL_isSo 384 = .ok (.iload 7, 2) := by decide +kernel
theorem dL_isSo_386 : decode cL_isSo 386 = .ok (.iconst 4, 1) := by decide +kernel
theorem dL_isSo_387 : decode cL_isSo 387 = .ok (.invokevirtual 74, 3) := by decide +kernel
theorem dL_isSo_390 : decode cL_isSo 390 = .ok (.bipush 60, 2) := by decide +kernel
theorem dL_isSo_392 : decode cL_isSo 392 = .ok (.iconst 2, 1) := by decide +kernel
theorem dL_isSo_393 : decode cL_isSo 393 = .ok (.iload 10, 2) := by decide +kernel
theorem dL_isSo_395 : decode cL_isSo 395 = .ok (.imul, 1) := by decide +kernel
theorem dL_isSo_396 : decode cL_isSo 396 = .ok (.isub, 1) := by decide +kernel
theorem dL_isSo_397 : decode cL_isSo 397 = .ok (.if_icmp .gt 7, 3) := by decide +kernel
theorem dL_isSo_400 : decode cL_isSo 400 = .ok (.iconst 1, 1) := by decide +kernel
theorem dL_isSo_401 : decode cL_isSo 401 = .ok (.goto 4, 3) := by decide +kernel
theorem dL_isSo_404 : decode cL_isSo 404 = .ok (.iconst 0, 1) := by decide +kernel
theorem dL_isSo_405 : decode cL_isSo 405 = .ok (.istore_n 2, 1) := by decide +kernel
theorem dL_isSo_406 : decode cL_isSo 406 = .ok (.iinc 7 1, 3) := by decide +kernel
theorem dL_isSo_409 : decode cL_isSo 409 = .ok (.goto (-186), 3) := by decide +kernel
theorem dL_isSo_412 : decode cL_isSo 412 = .ok (.iload_n 2, 1) := by decide +kernel
theorem dL_isSo_413 : decode cL_isSo 413 = .ok (.ifCond .eq 81, 3) := by decide +kernel
theorem dL_isSo_416 : decode cL_isSo 416 = .ok (.aload_n 0, 1) := by decide +kernel
theorem dL_isSo_417 : decode cL_isSo 417 = .ok (.iload 4, 2) := by decide +kernel
theorem dL_isSo_419 : decode cL_isSo 419 = .ok (.iload 5, 2) := by decide +kernel
theorem dL_isSo_421 : decode cL_isSo 421 = .ok (.bipush 60, 2) := by decide +kernel
theorem dL_isSo_423 : decode cL_isSo 423 = .ok (.bipush 60, 2) := by decide +kernel
theorem dL_isSo_425 : decode cL_isSo 425 = .ok (.iload 6, 2) := by decide +kernel
theorem dL_isSo_427 : decode cL_isSo 427 = .ok (.iconst 0, 1) := by decide +kernel
theorem dL_isSo_428 : decode cL_isSo 428 = .ok (.invokestatic 148, 3) := by decide +kernel
theorem dL_isSo_431 : decode cL_isSo 431 = .ok (.ldc 16, 2) := by decide +kernel
theorem dL_isSo_433 : decode cL_isSo 433 = .ok (.if_icmp .ne 61, 3) := by decide +kernel
theorem dL_isSo_436 : decode cL_isSo 436 = .ok (.aload_n 0, 1) := by decide +kernel
theorem dL_isSo_437 : decode cL_isSo 437 = .ok (.iload 4, 2) := by decide +kernel
theorem dL_isSo_439 : decode cL_isSo 439 = .ok (.iload 5, 2) := by decide +kernel
theorem dL_isSo_441 : decode cL_isSo 441 = .ok (.bipush 60, 2) := by decide +kernel
theorem dL_isSo_443 : decode cL_isSo 443 = .ok (.bipush 60, 2) := by decide +kernel
theorem dL_isSo_445 : decode cL_isSo 445 = .ok (.bipush 100, 2) := by decide +kernel
theorem dL_isSo_447 : decode cL_isSo 447 = .ok (.invokevirtual 78, 3) := by decide +kernel
theorem dL_isSo_450 : decode cL_isSo 450 = .ok (.iload 6, 2) := by decide +kernel
theorem dL_isSo_452 : decode cL_isSo 452 = .ok (.if_icmp .ge 42, 3) := by decide +kernel
theorem dL_isSo_455 : decode cL_isSo 455 = .ok (.iload 6, 2) := by decide +kernel
theorem dL_isSo_457 : decode cL_isSo 457 = .ok (.ifCond .ne 7, 3) := by decide +kernel
theorem dL_isSo_460 : decode cL_isSo 460 = .ok (.iconst 1, 1) := by decide +kernel
theorem dL_isSo_461 : decode cL_isSo 461 = .ok (.goto 4, 3) := by decide +kernel
theorem dL_isSo_464 : decode cL_isSo 464 = .ok (.iconst 0, 1) := by decide +kernel
theorem dL_isSo_465 : decode cL_isSo 465 = .ok (.aload_n 0, 1) := by decide +kernel
theorem dL_isSo_466 : decode cL_isSo 466 = .ok (.iload 4, 2) := by decide +kernel
theorem dL_isSo_468 : decode cL_isSo 468 = .ok (.iload 5, 2) := by decide +kernel
theorem dL_isSo_470 : decode cL_isSo 470 = .ok (.bipush 60, 2) := by decide +kernel
theorem dL_isSo_472 : decode cL_isSo 472 = .ok (.bipush 60, 2) := by decide +kernel
theorem dL_isSo_474 : decode cL_isSo 474 = .ok (.iconst 0, 1) := by decide +kernel
theorem dL_isSo_475 : decode cL_isSo 475 = .ok (.invokevirtual 78, 3) := by decide +kernel
theorem dL_isSo_478 : decode cL_isSo 478 = .ok (.iconst (-1), 1) := by decide +kernel
theorem dL_isSo_479 : decode cL_isSo 479 = .ok (.if_icmp .ne 7, 3) := by decide +kernel
theorem dL_isSo_482 : decode cL_isSo 482 = .ok (.iconst 1, 1) := by decide +kernel
theorem dL_isSo_483 : decode cL_isSo 483 = .ok (.goto 4, 3) := by decide +kernel
theorem dL_isSo_486 : decode cL_isSo 486 = .ok (.iconst 0, 1) := by decide +kernel
theorem dL_isSo_487 : decode cL_isSo 487 = .ok (.if_icmp .ne 7, 3) := by decide +kernel
theorem dL_isSo_490 : decode cL_isSo 490 = .ok (.iconst 1, 1) := by decide +kernel
theorem dL_isSo_491 : decode cL_isSo 491 = .ok (.goto 4, 3) := by decide +kernel
theorem dL_isSo_494 : decode cL_isSo 494 = .ok (.iconst 0, 1) := by decide +kernel
theorem dL_isSo_495 : decode cL_isSo 495 = .ok (.istore_n 2, 1) := by decide +kernel
theorem dL_isSo_496 : decode cL_isSo 496 = .ok (.iinc 3 1, 3) := by decide +kernel
theorem dL_isSo_499 : decode cL_isSo 499 = .ok (.goto (-331), 3) := by decide +kernel
theorem dL_isSo_502 : decode cL_isSo 502 = .ok (.iload_n 2, 1) := by decide +kernel
theorem dL_isSo_503 : decode cL_isSo 503 = .ok (.ifCond .eq 31, 3) := by decide +kernel
theorem dL_isSo_506 : decode cL_isSo 506 = .ok (.aload_n 0, 1) := by decide +kernel
theorem dL_isSo_507 : decode cL_isSo 507 = .ok (.bipush 48, 2) := by decide +kernel
theorem dL_isSo_509 : decode cL_isSo 509 = .ok (.iconst 0, 1) := by decide +kernel
theorem dL_isSo_510 : decode cL_isSo 510 = .ok (.invokestatic 141, 3) := by decide +kernel
theorem dL_isSo_513 : decode cL_isSo 513 = .ok (.ldc 16, 2) := by decide +kernel
theorem dL_isSo_515 : decode cL_isSo 515 = .ok (.if_icmp .ne 19, 3) := by decide +kernel
theorem dL_isSo_518 : decode cL_isSo 518 = .ok (.aload_n 0, 1) := by decide +kernel
theorem dL_isSo_519 : decode cL_isSo 519 = .ok (.bipush 80, 2) := by decide +kernel
theorem dL_isSo_521 : decode cL_isSo 521 = .ok (.iconst 0, 1) := by decide +kernel
theorem dL_isSo_522 : decode cL_isSo 522 = .ok (.invokestatic 164, 3) := by decide +kernel
theorem dL_isSo_525 : decode cL_isSo 525 = .ok (.ldc 16, 2) := by decide +kernel
theorem dL_isSo_527 : decode cL_isSo 527 = .ok (.if_icmp .ne 7, 3) := by decide +kernel
theorem dL_isSo_530 : decode cL_isSo 530 = .ok (.iconst 1, 1) := by decide +kernel
theorem dL_isSo_531 : decode cL_isSo 531 = .ok (.goto 4, 3) := by decide +kernel
theorem dL_isSo_534 : decode cL_isSo 534 = .ok (.iconst 0, 1) := by decide +kernel
theorem dL_isSo_535 : decode cL_isSo 535 = .ok (.ireturn, 1) := by decide +kernel
theorem dL_law_0 : decode cL_law 0 = .ok (.new 9, 3) := by decide +kernel
theorem dL_law_3 : decode cL_law 3 = .ok (.dup, 1) := by decide +kernel
theorem dL_law_4 : decode cL_law 4 = .ok (.invokespecial 181, 3) := by decide +kernel
theorem dL_law_7 : decode cL_law 7 = .ok (.astore_n 1, 1) := by decide +kernel
theorem dL_law_8 : decode cL_law 8 = .ok (.new 9, 3) := by decide +kernel
theorem dL_law_11 : decode cL_law 11 = .ok (.dup, 1) := by decide +kernel
theorem dL_law_12 : decode cL_law 12 = .ok (.invokespecial 181, 3) := by decide +kernel
theorem dL_law_15 : decode cL_law 15 = .ok (.astore_n 2, 1) := by decide +kernel
theorem dL_law_16 : decode cL_law 16 = .ok (.iconst 0, 1) := by decide +kernel
theorem dL_law_17 : decode cL_law 17 = .ok (.istore_n 3, 1) := by decide +kernel
theorem dL_law_18 : decode cL_law 18 = .ok (.iload_n 3, 1) := by decide +kernel
theorem dL_law_19 : decode cL_law 19 = .ok (.bipush 100, 2) := by decide +kernel
theorem dL_law_21 : decode cL_law 21 = .ok (.if_icmp .ge 65, 3) := by decide +kernel
theorem dL_law_24 : decode cL_law 24 = .ok (.aload_n 0, 1) := by decide +kernel
theorem dL_law_25 : decode cL_law 25 = .ok (.iload_n 3, 1) := by decide +kernel
theorem dL_law_26 : decode cL_law 26 = .ok (.invokestatic 182, 3) := by decide +kernel
theorem dL_law_29 : decode cL_law 29 = .ok (.istore 4, 2) := by decide +kernel
theorem dL_law_31 : decode cL_law 31 = .ok (.aload_n 1, 1) := by decide +kernel
theorem dL_law_32 : decode cL_law 32 = .ok (.iload 4, 2) := by decide +kernel
theorem dL_law_34 : decode cL_law 34 = .ok (.invokestatic 186, 3) := by decide +kernel
theorem dL_law_37 : decode cL_law 37 = .ok (.istore 5, 2) := by decide +kernel
theorem dL_law_39 : decode cL_law 39 = .ok (.iload 5, 2) := by decide +kernel
theorem dL_law_41 : decode cL_law 41 = .ok (.ldc 16, 2) := by decide +kernel
theorem dL_law_43 : decode cL_law 43 = .ok (.if_icmp .eq 14, 3) := by decide +kernel
theorem dL_law_46 : decode cL_law 46 = .ok (.aload_n 2, 1) := by decide +kernel
theorem dL_law_47 : decode cL_law 47 = .ok (.iload 4, 2) := by decide +kernel
theorem dL_law_49 : decode cL_law 49 = .ok (.invokestatic 186, 3) := by decide +kernel
theorem dL_law_52 : decode cL_law 52 = .ok (.iload 5, 2) := by decide +kernel
theorem dL_law_54 : decode cL_law 54 = .ok (.if_icmp .ne 24, 3) := by decide +kernel
theorem dL_law_57 : decode cL_law 57 = .ok (.iload_n 3, 1) := by decide +kernel
theorem dL_law_58 : decode cL_law 58 = .ok (.bipush 33, 2) := by decide +kernel
theorem dL_law_60 : decode cL_law 60 = .ok (.irem, 1) := by decide +kernel
theorem dL_law_61 : decode cL_law 61 = .ok (.bipush 32, 2) := by decide +kernel
theorem dL_law_63 : decode cL_law 63 = .ok (.if_icmp .ne 17, 3) := by decide +kernel
theorem dL_law_66 : decode cL_law 66 = .ok (.aload_n 1, 1) := by decide +kernel
theorem dL_law_67 : decode cL_law 67 = .ok (.aload_n 2, 1) := by decide +kernel
theorem dL_law_68 : decode cL_law 68 = .ok (.iload 4, 2) := by decide +kernel
theorem dL_law_70 : decode cL_law 70 = .ok (.iconst 3, 1) := by decide +kernel
theorem dL_law_71 : decode cL_law 71 = .ok (.ishr, 1) := by decide +kernel
theorem dL_law_72 : decode cL_law 72 = .ok (.invokestatic 189, 3) := by decide +kernel
theorem dL_law_75 : decode cL_law 75 = .ok (.ifCond .ne 5, 3) := by decide +kernel
theorem dL_law_78 : decode cL_law 78 = .ok (.iconst 0, 1) := by decide +kernel
theorem dL_law_79 : decode cL_law 79 = .ok (.ireturn, 1) := by decide +kernel
theorem dL_law_80 : decode cL_law 80 = .ok (.iinc 3 1, 3) := by decide +kernel
theorem dL_law_83 : decode cL_law 83 = .ok (.goto (-65), 3) := by decide +kernel
theorem dL_law_86 : decode cL_law 86 = .ok (.aload_n 1, 1) := by decide +kernel
theorem dL_law_87 : decode cL_law 87 = .ok (.aload_n 0, 1) := by decide +kernel
theorem dL_law_88 : decode cL_law 88 = .ok (.bipush 100, 2) := by decide +kernel
theorem dL_law_90 : decode cL_law 90 = .ok (.invokestatic 182, 3) := by decide +kernel
theorem dL_law_93 : decode cL_law 93 = .ok (.invokestatic 193, 3) := by decide +kernel
theorem dL_law_96 : decode cL_law 96 = .ok (.ireturn, 1) := by decide +kernel
