theorem dL_law_435 : decode cL_law 435 = .ok (.aload_n 1, 1) := by decide +kernel
theorem dL_law_436 : decode cL_law 436 = .ok (.aload_n 0, 1) := by decide +kernel
theorem dL_law_437 : decode cL_law 437 = .ok (.iload_n 3, 1) := by decide +kernel
theorem dL_law_438 : decode cL_law 438 = .ok (.iconst 1, 1) := by decide +kernel
theorem dL_law_439 : decode cL_law 439 = .ok (.iadd, 1) := by decide +kernel
theorem dL_law_440 : decode cL_law 440 = .ok (.iaload, 1) := by decide +kernel
theorem dL_law_441 : decode cL_law 441 = .ok (.aload_n 0, 1) := by decide +kernel
theorem dL_law_442 : decode cL_law 442 = .ok (.iload_n 3, 1) := by decide +kernel
theorem dL_law_443 : decode cL_law 443 = .ok (.iconst 2, 1) := by decide +kernel
theorem dL_law_444 : decode cL_law 444 = .ok (.iadd, 1) := by decide +kernel
theorem dL_law_445 : decode cL_law 445 = .ok (.iaload, 1) := by decide +kernel
theorem dL_law_446 : decode cL_law 446 = .ok (.aload_n 0, 1) := by decide +kernel
theorem dL_law_447 : decode cL_law 447 = .ok (.iload_n 3, 1) := by decide +kernel
theorem dL_law_448 : decode cL_law 448 = .ok (.iconst 3, 1) := by decide +kernel
theorem dL_law_449 : decode cL_law 449 = .ok (.iadd, 1) := by decide +kernel
theorem dL_law_450 : decode cL_law 450 = .ok (.iaload, 1) := by decide +kernel
theorem dL_law_451 : decode cL_law 451 = .ok (.invokevirtual 62, 3) := by decide +kernel
theorem dL_law_454 : decode cL_law 454 = .ok (.aload_n 2, 1) := by decide +kernel
theorem dL_law_455 : decode cL_law 455 = .ok (.aload_n 0, 1) := by decide +kernel
theorem dL_law_456 : decode cL_law 456 = .ok (.iload_n 3, 1) := by decide +kernel
theorem dL_law_457 : decode cL_law 457 = .ok (.iconst 1, 1) := by decide +kernel
theorem dL_law_458 : decode cL_law 458 = .ok (.iadd, 1) := by decide +kernel
theorem dL_law_459 : decode cL_law 459 = .ok (.iaload, 1) := by decide +kernel
theorem dL_law_460 : decode cL_law 460 = .ok (.aload_n 0, 1) := by decide +kernel
theorem dL_law_461 : decode cL_law 461 = .ok (.iload_n 3, 1) := by decide +kernel
theorem dL_law_462 : decode cL_law 462 = .ok (.iconst 2, 1) := by decide +kernel
theorem dL_law_463 : decode cL_law 463 = .ok (.iadd, 1) := by decide +kernel
theorem dL_law_464 : decode cL_law 464 = .ok (.iaload, 1) := by decide +kernel
theorem dL_law_465 : decode cL_law 465 = .ok (.aload_n 0, 1) := by decide +kernel
theorem dL_law_466 : decode cL_law 466 = .ok (.iload_n 3, 1) := by decide +kernel
theorem dL_law_467 : decode cL_law 467 = .ok (.iconst 3, 1) := by decide +kernel
theorem dL_law_468 : decode cL_law 468 = .ok (.iadd, 1) := by decide +kernel
theorem dL_law_469 : decode cL_law 469 = .ok (.iaload, 1) := by decide +kernel
theorem dL_law_470 : decode cL_law 470 = .ok (.invokevirtual 66, 3) := by decide +kernel
theorem dL_law_473 : decode cL_law 473 = .ok (.if_icmp .eq 474, 3) := by decide +kernel
theorem dL_law_478 : decode cL_law 478 = .ok (.aload_n 1, 1) := by decide +kernel
theorem dL_law_479 : decode cL_law 479 = .ok (.aload_n 0, 1) := by decide +kernel
theorem dL_law_480 : decode cL_law 480 = .ok (.iload_n 3, 1) := by decide +kernel
theorem dL_law_481 : decode cL_law 481 = .ok (.iconst 1, 1) := by decide +kernel
theorem dL_law_482 : decode cL_law 482 = .ok (.iadd, 1) := by decide +kernel
theorem dL_law_483 : decode cL_law 483 = .ok (.iaload, 1) := by decide +kernel
theorem dL_law_484 : decode cL_law 484 = .ok (.aload_n 0, 1) := by decide +kernel
theorem dL_law_485 : decode cL_law 485 = .ok (.iload_n 3, 1) := by decide +kernel
theorem dL_law_486 : decode cL_law 486 = .ok (.iconst 2, 1) := by decide +kernel
theorem dL_law_487 : decode cL_law 487 = .ok (.iadd, 1) := by decide +kernel
theorem dL_law_488 : decode cL_law 488 = .ok (.iaload, 1) := by decide +kernel
theorem dL_law_489 : decode cL_law 489 = .ok (.aload_n 0, 1) := by decide +kernel
theorem dL_law_490 : decode cL_law 490 = .ok (.iload_n 3, 1) := by decide +kernel
theorem dL_law_491 : decode cL_law 491 = .ok (.iconst 3, 1) := by decide +kernel
theorem dL_law_492 : decode cL_law 492 = .ok (.iadd, 1) := by decide +kernel
theorem dL_law_493 : decode cL_law 493 = .ok (.iaload, 1) := by decide +kernel
theorem dL_law_494 : decode cL_law 494 = .ok (.aload_n 0, 1) := by decide +kernel
theorem dL_law_495 : decode cL_law 495 = .ok (.iload_n 3, 1) := by decide +kernel
theorem dL_law_496 : decode cL_law 496 = .ok (.iconst 4, 1) := by decide +kernel
theorem dL_law_497 : decode cL_law 497 = .ok (.iadd, 1) := by decide +kernel
theorem dL_law_498 : decode cL_law 498 = .ok (.iaload, 1) := by decide +kernel
theorem dL_law_499 : decode cL_law 499 = .ok (.invokevirtual 67, 3) := by decide +kernel
theorem dL_law_502 : decode cL_law 502 = .ok (.aload_n 2, 1) := by decide +kernel
theorem dL_law_503 : decode cL_law 503 = .ok (.aload_n 0, 1) := by decide +kernel
theorem dL_law_504 : decode cL_law 504 = .ok (.iload_n 3, 1) := by decide +kernel
theorem dL_law_505 : decode cL_law 505 = .ok (.iconst 1, 1) := by decide +kernel
theorem dL_law_506 : decode cL_law 506 = .ok (.iadd, 1) := by decide +kernel
theorem dL_law_507 : decode cL_law 507 = .ok (.iaload, 1) := by decide +kernel
theorem dL_law_508 : decode cL_law 508 = .ok (.aload_n 0, 1) := by decide +kernel
theorem dL_law_509 : decode cL_law 509 = .ok (.iload_n 3, 1) := by decide +kernel
theorem dL_law_510 : decode cL_law 510 = .ok (.iconst 2, 1) := by decide +kernel
theorem dL_law_511 : decode cL_law 511 = .ok (.iadd, 1) := by decide +kernel
theorem dL_law_512 : decode cL_law 512 = .ok (.iaload, 1) := by decide +kernel
theorem dL_law_513 : decode cL_law 513 = .ok (.aload_n 0, 1) := by decide +kernel
theorem dL_law_514 : decode cL_law 514 = .ok (.iload_n 3, 1) := by decide +kernel
theorem dL_law_515 : decode cL_law 515 = .ok (.iconst 3, 1) := by decide +kernel
theorem dL_law_516 : decode cL_law 516 = .ok (.iadd, 1) := by decide +kernel
theorem dL_law_517 : decode cL_law 517 = .ok (.iaload, 1) := by decide +kernel
theorem dL_law_518 : decode cL_law 518 = .ok (.aload_n 0, 1) := by decide +kernel
theorem dL_law_519 : decode cL_law 519 = .ok (.iload_n 3, 1) := by decide +kernel
theorem dL_law_520 : decode cL_law 520 = .ok (.iconst 4, 1) := by decide +kernel
theorem dL_law_521 : decode cL_law 521 = .ok (.iadd, 1) := by decide +kernel
theorem dL_law_522 : decode cL_law 522 = .ok (.iaload, 1) := by decide +kernel
theorem dL_law_523 : decode cL_law 523 = .ok (.invokevirtual 71, 3) := by decide +kernel
theorem dL_law_526 : decode cL_law 526 = .ok (.if_icmp .eq 421, 3) := by decide +kernel
theorem dL_law_531 : decode cL_law 531 = .ok (.aload_n 1, 1) := by decide +kernel
theorem dL_law_532 : decode cL_law 532 = .ok (.aload_n 0, 1) := by decide +kernel
theorem dL_law_533 : decode cL_law 533 = .ok (.iload_n 3, 1) := by decide +kernel
theorem dL_law_534 : decode cL_law 534 = .ok (.iconst 1, 1) := by decide +kernel
theorem dL_law_535 : decode cL_law 535 = .ok (.iadd, 1) := by decide +kernel
theorem dL_law_536 : decode cL_law 536 = .ok (.iaload, 1) := by decide +kernel
theorem dL_law_537 : decode cL_law 537 = .ok (.aload_n 0, 1) := by decide +kernel
theorem dL_law_538 : decode cL_law 538 = .ok (.iload_n 3, 1) := by decide +kernel
theorem dL_law_539 : decode cL_law 539 = .ok (.iconst 2, 1) := by decide +kernel
theorem dL_law_540 : decode cL_law 540 = .ok (.iadd, 1) := by decide +kernel
theorem dL_law_541 : decode cL_law 541 = .ok (.iaload, 1) := by decide +kernel
theorem dL_law_542 : decode cL_law 542 = .ok (.aload_n 0, 1) := by decide +kernel
theorem dL_law_543 : decode cL_law 543 = .ok (.iload_n 3, 1) := by decide +kernel
theorem dL_law_544 : decode cL_law 544 = .ok (.iconst 3, 1) := by decide +kernel
theorem dL_law_545 : decode cL_law 545 = .ok (.iadd, 1) := by decide +kernel
theorem dL_law_546 : decode cL_law 546 = .ok (.iaload, 1) := by decide +kernel
theorem dL_law_547 : decode cL_law 547 = .ok (.aload_n 0, 1) := by decide +kernel
theorem dL_law_548 : decode cL_law 548 = .ok (.iload_n 3, 1) := by decide +kernel
theorem dL_law_549 : decode cL_law 549 = .ok (.iconst 4, 1) := by decide +kernel
theorem dL_law_550 : decode cL_law 550 = .ok (.iadd, 1) := by decide +kernel
theorem dL_law_551 : decode cL_law 551 = .ok (.iaload, 1) := by decide +kernel
theorem dL_law_552 : decode cL_law 552 = .ok (.aload_n 0, 1) := by decide +kernel
theorem dL_law_553 : decode cL_law 553 = .ok (.iload_n 3, 1) := by decide +kernel
theorem dL_law_554 : decode cL_law 554 = .ok (.iconst 5, 1) := by decide +kernel
theorem dL_law_555 : decode cL_law 555 = .ok (.iadd, 1) := by decide +kernel
theorem dL_law_556 : decode cL_law 556 = .ok (.iaload, 1) := by decide +kernel
theorem dL_law_557 : decode cL_law 557 = .ok (.invokevirtual 72, 3) := by decide +kernel
theorem dL_law_560 : decode cL_law 560 = .ok (.aload_n 2, 1) := by decide +kernel
theorem dL_law_561 : decode cL_law 561 = .ok (.aload_n 0, 1) := by decide +kernel
theorem dL_law_562 : decode cL_law 562 = .ok (.iload_n 3, 1) := by decide +kernel
theorem dL_law_563 : decode cL_law 563 = .ok (.iconst 1, 1) := by decide +kernel
theorem dL_law_564 : decode cL_law 564 = .ok (.iadd, 1) := by decide +kernel
theorem dL_law_565 : decode cL_law 565 = .ok (.iaload, 1) := by decide +kernel
theorem dL_law_566 : decode cL_law 566 = .ok (.aload_n 0, 1) := by decide +kernel
theorem dL_law_567 : decode cL_law 567 = .ok (.iload_n 3, 1) := by decide +kernel
theorem dL_law_568 : decode cL_law 568 = .ok (.iconst 2, 1) := by decide +kernel
theorem dL_law_569 : decode cL_law 569 = .ok (.iadd, 1) := by decide +kernel
theorem dL_law_570 : decode cL_law 570 = .ok (.iaload, 1) := by decide +kernel
theorem dL_law_571 : decode cL_law 571 = .ok (.aload_n 0, 1) := by decide +kernel
theorem dL_law_572 : decode cL_law 572 = .ok (.iload_n 3, 1) := by decide +kernel
theorem dL_law_573 : decode cL_law 573 = .ok (.iconst 3, 1) := by decide +kernel
theorem dL_law_574 : decode cL_law 574 = .ok (.iadd, 1) := by decide +kernel
theorem dL_law_575 : decode cL_law 575 = .ok (.iaload, 1) := by decide +kernel
theorem dL_law_576 : decode cL_law 576 = .ok (.aload_n 0, 1) := by decide +kernel
theorem dL_law_577 : decode cL_law 577 = .ok (.iload_n 3, 1) := by decide +kernel
theorem dL_law_578 : decode cL_law 578 = .ok (.iconst 4, 1) := by decide +kernel
theorem dL_law_579 : decode cL_law 579 = .ok (.iadd, 1) := by decide +kernel
theorem dL_law_580 : decode cL_law 580 = .ok (.iaload, 1) := by decide +kernel
theorem dL_law_581 : decode cL_law 581 = .ok (.aload_n 0, 1) := by decide +kernel
theorem dL_law_582 : decode cL_law 582 = .ok (.iload_n 3, 1) := by decide +kernel
theorem dL_law_583 : decode cL_law 583 = .ok (.iconst 5, 1) := by decide +kernel
theorem dL_law_584 : decode cL_law 584 = .ok (.iadd, 1) := by decide +kernel
theorem dL_law_585 : decode cL_law 585 = .ok (.iaload, 1) := by decide +kernel
theorem dL_law_586 : decode cL_law 586 = .ok (.invokevirtual 75, 3) := by decide +kernel
theorem dL_law_589 : decode cL_law 589 = .ok (.if_icmp .eq 358, 3) := by decide +kernel
theorem dL_law_594 : decode cL_law 594 = .ok (.aload_n 1, 1) := by decide +kernel
theorem dL_law_595 : decode cL_law 595 = .ok (.aload_n 0, 1) := by decide +kernel
theorem dL_law_596 : decode cL_law 596 = .ok (.iload_n 3, 1) := by decide +kernel
theorem dL_law_597 : decode cL_law 597 = .ok (.iconst 1, 1) := by decide +kernel
theorem dL_law_598 : decode cL_law 598 = .ok (.iadd, 1) := by decide +kernel
theorem dL_law_599 : decode cL_law 599 = .ok (.iaload, 1) := by decide +kernel
theorem dL_law_600 : decode cL_law 600 = .ok (.aload_n 0, 1) := by decide +kernel
theorem dL_law_601 : decode cL_law 601 = .ok (.iload_n 3, 1) := by decide +kernel
theorem dL_law_602 : decode cL_law 602 = .ok (.iconst 2, 1) := by decide +kernel
theorem dL_law_603 : decode cL_law 603 = .ok (.iadd, 1) := by decide +kernel
theorem dL_law_604 : decode cL_law 604 = .ok (.iaload, 1) := by decide +kernel
theorem dL_law_605 : decode cL_law 605 = .ok (.invokevirtual 76, 3) := by decide +kernel
theorem dL_law_608 : decode cL_law 608 = .ok (.aload_n 2, 1) := by decide +kernel
theorem dL_law_609 : decode cL_law 609 = .ok (.aload_n 0, 1) := by decide +kernel
theorem dL_law_610 : decode cL_law 610 = .ok (.iload_n 3, 1) := by decide +kernel
theorem dL_law_611 : decode cL_law 611 = .ok (.iconst 1, 1) := by decide +kernel
theorem dL_law_612 : decode cL_law 612 = .ok (.iadd, 1) := by decide +kernel
theorem dL_law_613 : decode cL_law 613 = .ok (.iaload, 1) := by decide +kernel
theorem dL_law_614 : decode cL_law 614 = .ok (.aload_n 0, 1) := by decide +kernel
theorem dL_law_615 : decode cL_law 615 = .ok (.iload_n 3, 1) := by decide +kernel
theorem dL_law_616 : decode cL_law 616 = .ok (.iconst 2, 1) := by decide +kernel
theorem dL_law_617 : decode cL_law 617 = .ok (.iadd, 1) := by decide +kernel
theorem dL_law_618 : decode cL_law 618 = .ok (.iaload, 1) := by decide +kernel
theorem dL_law_619 : decode cL_law 619 = .ok (.invokevirtual 79, 3) := by decide +kernel
theorem dL_law_622 : decode cL_law 622 = .ok (.if_icmp .eq 325, 3) := by decide +kernel
theorem dL_law_627 : decode cL_law 627 = .ok (.aload_n 1, 1) := by decide +kernel
theorem dL_law_628 : decode cL_law 628 = .ok (.aload_n 0, 1) := by decide +kernel
theorem dL_law_629 : decode cL_law 629 = .ok (.iload_n 3, 1) := by decide +kernel
theorem dL_law_630 : decode cL_law 630 = .ok (.iconst 1, 1) := by decide +kernel
theorem dL_law_631 : decode cL_law 631 = .ok (.iadd, 1) := by decide +kernel
theorem dL_law_632 : decode cL_law 632 = .ok (.iaload, 1) := by decide +kernel
theorem dL_law_633 : decode cL_law 633 = .ok (.aload_n 0, 1) := by decide +kernel
theorem dL_law_634 : decode cL_law 634 = .ok (.iload_n 3, 1) := by decide +kernel
theorem dL_law_635 : decode cL_law 635 = .ok (.iconst 2, 1) := by decide +kernel
theorem dL_law_636 : decode cL_law 636 = .ok (.iadd, 1) := by decide +kernel
theorem dL_law_637 : decode cL_law 637 = .ok (.iaload, 1) := by decide +kernel
theorem dL_law_638 : decode cL_law 638 = .ok (.aload_n 0, 1) := by decide +kernel
theorem dL_law_639 : decode cL_law 639 = .ok (.iload_n 3, 1) := by decide +kernel
theorem dL_law_640 : decode cL_law 640 = .ok (.iconst 3, 1) := by decide +kernel
theorem dL_law_641 : decode cL_law 641 = .ok (.iadd, 1) := by decide +kernel
theorem dL_law_642 : decode cL_law 642 = .ok (.iaload, 1) := by decide +kernel
theorem dL_law_643 : decode cL_law 643 = .ok (.invokevirtual 80, 3) := by decide +kernel
theorem dL_law_646 : decode cL_law 646 = .ok (.aload_n 2, 1) := by decide +kernel
theorem dL_law_647 : decode cL_law 647 = .ok (.aload_n 0, 1) := by decide +kernel
theorem dL_law_648 : decode cL_law 648 = .ok (.iload_n 3, 1) := by decide +kernel
theorem dL_law_649 : decode cL_law 649 = .ok (.iconst 1, 1) := by decide +kernel
theorem dL_law_650 : decode cL_law 650 = .ok (.iadd, 1) := by decide +kernel
theorem dL_law_651 : decode cL_law 651 = .ok (.iaload, 1) := by decide +kernel
theorem dL_law_652 : decode cL_law 652 = .ok (.aload_n 0, 1) := by decide +kernel
theorem dL_law_653 : decode cL_law 653 = .ok (.iload_n 3, 1) := by decide +kernel
theorem dL_law_654 : decode cL_law 654 = .ok (.iconst 2, 1) := by decide +kernel
theorem dL_law_655 : decode cL_law 655 = .ok (.iadd, 1) := by decide +kernel
theorem dL_law_656 : decode cL_law 656 = .ok (.iaload, 1) := by decide +kernel
theorem dL_law_657 : decode cL_law 657 = .ok (.aload_n 0, 1) := by decide +kernel
theorem dL_law_658 : decode cL_law 658 = .ok (.iload_n 3, 1) := by decide +kernel
theorem dL_law_659 : decode cL_law 659 = .ok (.iconst 3, 1) := by decide +kernel
theorem dL_law_660 : decode cL_law 660 = .ok (.iadd, 1) := by decide +kernel
theorem dL_law_661 : decode cL_law 661 = .ok (.iaload, 1) := by decide +kernel
theorem dL_law_662 : decode cL_law 662 = .ok (.invokevirtual 83, 3) := by decide +kernel
theorem dL_law_665 : decode cL_law 665 = .ok (.if_icmp .eq 282, 3) := by decide +kernel
set_option maxRecDepth 100000 in
set_option maxHeartbeats 4000000 in
theorem ggL_law_X10_cycle : GoodIn wsL_law wsX10_cycle := goodIn_r _ [811, 31, 42, 672, 673, 674, 30, 675, 509, 400, 401, 402, 403, 64, 759, 760, 761, 41, 762, 763, 112, 113, 764, 765, 719, 720, 721, 111, 722, 17, 18, 19, 723, 418, 419, 420, 724, 443, 444, 93, 445, 386, 106, 725, 694, 695, 696, 107, 726, 727, 728, 729, 105, 450, 451, 452, 453, 446, 447, 448, 449, 454, 455, 456, 457, 458, 459, 460, 461, 462, 463, 464, 465, 766, 767, 768, 769, 770, 771, 772, 773, 774, 775, 776, 777, 778, 114, 115, 116, 812, 737, 738, 739, 730, 731, 467, 468, 469, 813, 814, 815, 816, 1100, 1101, 1102, 1103, 1104, 1105, 1106, 1107, 1182, 1183, 1184, 1185, 1186, 1187, 1188, 1189, 1157, 1158, 1159, 1160, 1202, 1203, 1204, 1205] (by with_unfolding_all rfl) (by decide +kernel)
set_option maxRecDepth 20000 in
theorem gL_law_X10_cycle : GoodIn wsL_law (wsV RL 62 RX10 yX10_cycle wsX10_cycle) := goodIn_app (goodIn_of _ (by decide +kernel)) ggL_law_X10_cycle
set_option maxRecDepth 100000 in
set_option maxHeartbeats 4000000 in
theorem ggL_law_X11_cycle : GoodIn wsL_law wsX11_cycle := goodIn_r _ [820, 783, 139, 156, 784, 785, 786, 5, 787, 680, 681, 682, 683, 539, 197, 198, 199, 627, 628, 629, 630, 631, 632, 633, 788, 789, 790, 791, 745, 747, 748, 749, 750, 153, 746, 706, 707, 708, 709, 710, 711, 712, 713, 792, 793, 794, 795, 154, 155, 166, 157, 796, 797, 798, 799, 800, 801, 802, 803, 804, 805, 806, 807, 1108, 1109, 1110, 1111, 1112, 1113, 1114, 1115, 1116, 1117, 1118, 1119, 1120, 1121, 1122, 1123, 1124, 1125, 1126, 1127, 1128, 1129, 1130, 1131, 1132, 1133, 1134, 1135, 1136, 1137, 1138, 1139, 1140, 1141, 1142, 1143, 1144, 1145, 1146, 1147, 1148, 1149, 1150, 1151, 1152, 1153, 1154] (by with_unfolding_all rfl) (by decide +kernel)
set_option maxRecDepth 20000 in
theorem gL_law_X11_cycle : GoodIn wsL_law (wsV RL 66 RX11 yX11_cycle wsX11_cycle) := goodIn_app (goodIn_of _ (by decide +kernel)) ggL_law_X11_cycle
set_option maxRecDepth 100000 in
set_option maxHeartbeats 4000000 in
theorem ggL_law_X10_cycleOf : GoodIn wsL_law wsX10_cycleOf := goodIn_r _ [824, 31, 42, 672, 673, 674, 30, 675, 509, 400, 401, 402, 403, 64, 759, 760, 761, 41, 762, 763, 112, 113, 764, 765, 719, 720, 721, 111, 722, 17, 18, 19, 723, 418, 419, 420, 724, 443, 444, 93, 445, 386, 106, 725, 694, 695, 696, 107, 726, 727, 728, 729, 105, 450, 451, 452, 453, 446, 447, 448, 449, 454, 455, 456, 457, 458, 459, 460, 461, 462, 463, 464, 465, 766, 767, 768, 769, 770, 771, 772, 773, 774, 775, 776, 777, 778, 114, 115, 116, 688, 689, 690, 691, 1100, 1101, 1102, 1103, 1104, 1105, 1106, 1107, 1182, 1183, 1184, 1185, 1186, 1187, 1188, 1189, 1157, 1158, 1159, 1160, 1202, 1203, 1204, 1205] (by with_unfolding_all rfl) (by decide +kernel)
set_option maxRecDepth 20000 in
theorem gL_law_X10_cycleOf : GoodIn wsL_law (wsV RL 67 RX10 yX10_cycleOf wsX10_cycleOf) := goodIn_app (goodIn_of _ (by decide +kernel)) ggL_law_X10_cycleOf
set_option maxRecDepth 100000 in
set_option maxHeartbeats 4000000 in
theorem ggL_law_X11_cycleOf : GoodIn wsL_law wsX11_cycleOf := goodIn_r _ [828, 156, 784, 785, 786, 5, 787, 680, 681, 682, 683, 539, 197, 198, 199, 627, 628, 629, 630, 139, 631, 632, 633, 788, 789, 790, 791, 745, 747, 748, 749, 750, 153, 746, 706, 707, 708, 709, 710, 711, 712, 713, 792, 793, 794, 795, 154, 155, 166, 157, 783, 796, 797, 798, 799, 800, 801, 802, 803, 804, 805, 806, 807, 702, 703, 704, 705, 1108, 1109, 1110, 1111, 1112, 1113, 1114, 1115, 1116, 1117, 1118, 1119, 1120, 1121, 1122, 1123, 1124, 1125, 1126, 1127, 1128, 1129, 1130, 1131, 1132, 1133, 1134, 1135, 1136, 1137, 1138, 1139, 1140, 1141, 1142, 1143, 1144, 1145, 1146, 1147, 1148, 1149, 1150, 1151, 1152, 1153, 1154] (by with_unfolding_all rfl) (by decide +kernel)
set_option maxRecDepth 20000 in
theorem gL_law_X11_cycleOf : GoodIn wsL_law (wsV RL 71 RX11 yX11_cycleOf wsX11_cycleOf) := goodIn_app (goodIn_of _ (by decide +kernel)) ggL_law_X11_cycleOf
set_option maxRecDepth 100000 in
set_option maxHeartbeats 4000000 in
theorem ggL_law_X10_caught : GoodIn wsL_law wsX10_caught := goodIn_r _ [832, 31, 42, 672, 673, 674, 30, 675, 509, 400, 401, 402, 403, 64, 759, 760, 761, 41, 762, 763, 112, 113, 764, 765, 719, 720, 721, 111, 722, 17, 18, 19, 723, 418, 419, 420, 724, 443, 444, 93, 445, 386, 106, 725, 694, 695, 696, 107, 726, 727, 728, 729, 105, 450, 451, 452, 453, 446, 447, 448, 449, 454, 455, 456, 457, 458, 459, 460, 461, 462, 463, 464, 465, 766, 767, 768, 769, 770, 771, 772, 773, 774, 775, 776, 777, 778, 114, 115, 116, 833, 688, 689, 690, 691, 693, 834, 835, 836, 837, 838, 839, 840, 841, 842, 692, 731, 467, 468, 469, 813, 814, 815, 816, 1100, 1101, 1102, 1103, 1104, 1105, 1106, 1107, 1182, 1183, 1184, 1185, 1186, 1187, 1188, 1189, 1157, 1158, 1159, 1160, 1202, 1203, 1204, 1205] (by with_unfolding_all rfl) (by decide +kernel)
set_option maxRecDepth 20000 in
theorem gL_law_X10_caught : GoodIn wsL_law (wsV RL 72 RX10 yX10_caught wsX10_caught) := goodIn_app (goodIn_of _ (by decide +kernel)) ggL_law_X10_caught
set_option maxRecDepth 100000 in
set_option maxHeartbeats 4000000 in
theorem ggL_law_X11_caught : GoodIn wsL_law wsX11_caught := goodIn_r _ [846, 139, 155, 784, 785, 786, 5, 787, 680, 681, 682, 683, 539, 197, 198, 199, 627, 628, 629, 630, 631, 632, 633, 788, 789, 790, 791, 745, 747, 748, 749, 750, 153, 746, 706, 707, 708, 709, 710, 711, 712, 713, 792, 793, 794, 795, 154, 156, 166, 157, 783, 796, 797, 798, 799, 800, 801, 802, 803, 804, 805, 806, 807, 702, 703, 704, 705, 847, 848, 849, 850, 851, 852, 853, 854, 1108, 1109, 1110, 1111, 1112, 1113, 1114, 1115, 1116, 1117, 1118, 1119, 1120, 1121, 1122, 1123, 1124, 1125, 1126, 1127, 1128, 1129, 1130, 1131, 1132, 1133, 1134, 1135, 1136, 1137, 1138, 1139, 1140, 1141, 1142, 1143, 1144, 1145, 1146, 1147, 1148, 1149, 1150, 1151, 1152, 1153, 1154] (by with_unfolding_all rfl) (by decide +kernel)
set_option maxRecDepth 20000 in
theorem gL_law_X11_caught : GoodIn wsL_law (wsV RL 75 RX11 yX11_caught wsX11_caught) := goodIn_app (goodIn_of _ (by decide +kernel)) ggL_law_X11_caught
set_option maxRecDepth 100000 in
set_option maxHeartbeats 4000000 in
theorem ggL_law_X10_state : GoodIn wsL_law wsX10_state := goodIn_r _ [858, 31, 672, 673, 674, 30, 675, 509, 400, 401, 402, 403, 64, 859, 860, 861, 2, 862, 42, 740, 480, 481, 93, 482, 105, 386, 107, 106, 718, 719, 720, 41, 721, 111, 722, 17, 18, 19, 723, 418, 419, 420, 724, 443, 444, 445, 725, 694, 695, 696, 726, 727, 728, 729, 450, 451, 452, 453, 446, 447, 448, 449, 454, 455, 456, 457, 458, 459, 460, 461, 462, 463, 464, 465, 863, 864, 45, 865, 866, 867, 689, 690, 691, 868, 1100, 1101, 1102, 1103, 1104, 1105, 1106, 1107, 1202, 1203, 1204, 1205, 1157, 1158, 1159, 1160, 1182, 1183, 1184, 1185, 1186, 1187, 1188, 1189] (by with_unfolding_all rfl) (by decide +kernel)
set_option maxRecDepth 20000 in
theorem gL_law_X10_state : GoodIn wsL_law (wsV RL 76 RX10 yX10_state wsX10_state) := goodIn_app (goodIn_of _ (by decide +kernel)) ggL_law_X10_state
set_option maxRecDepth 100000 in
set_option maxHeartbeats 4000000 in
theorem ggL_law_X11_state : GoodIn wsL_law wsX11_state := goodIn_r _ [872, 139, 680, 681, 682, 5, 683, 539, 197, 198, 199, 627, 628, 629, 630, 631, 632, 633, 873, 874, 875, 876, 788, 789, 790, 791, 745, 747, 748, 749, 750, 153, 746, 706, 707, 708, 709, 710, 711, 712, 713, 751, 752, 753, 754, 166, 877, 878, 879, 880, 605, 606, 607, 1108, 1109, 1110, 1111, 1112, 1113, 1114, 1115, 1116, 1117, 1118, 1119, 1120, 1121, 1122, 1123, 1124, 1125, 1126, 1127, 1128, 1129, 1130, 1131, 1132, 1133, 1134, 1135, 1136, 1137, 1138, 1139, 1140, 1141, 1142, 1143, 1144, 1145, 1146, 1147, 1148, 1149, 1150, 1151, 1152, 1153, 1154] (by with_unfolding_all rfl) (by decide +kernel)
set_option maxRecDepth 20000 in
theorem gL_law_X11_state : GoodIn wsL_law (wsV RL 79 RX11 yX11_state wsX11_state) := goodIn_app (goodIn_of _ (by decide +kernel)) ggL_law_X11_state
set_option maxRecDepth 20000 in
theorem ggL_law_X10_way : GoodIn wsL_law wsX10_way := goodIn_r _ [884, 46, 885, 886, 887, 45, 888, 120, 889, 890, 891, 892, 893, 894, 895, 896, 897, 898, 899, 122, 121, 900, 418, 419, 420, 901, 902, 903, 904, 905, 906, 907, 123, 1100, 1101, 1102, 1103, 1104, 1105, 1106, 1107, 1190, 1191, 1192, 1193] (by decide +kernel) (by decide +kernel)
set_option maxRecDepth 20000 in
theorem gL_law_X10_way : GoodIn wsL_law (wsV RL 80 RX10 yX10_way wsX10_way) := goodIn_app (goodIn_of _ (by decide +kernel)) ggL_law_X10_way
set_option maxRecDepth 100000 in
set_option maxHeartbeats 4000000 in
theorem ggL_law_X11_way : GoodIn wsL_law wsX11_way := goodIn_r _ [911, 158, 197, 198, 5, 199, 912, 913, 914, 915, 159, 916, 917, 918, 919, 920, 921, 922, 1108, 1109, 1110, 1111, 1112, 1113, 1114, 1115, 1116, 1117, 1118, 1119, 1120, 1121, 1122, 1123, 1124, 1125, 1126, 1127, 1128, 1129, 1130, 1131, 1132, 1133, 1134, 1135, 1136, 1137, 1138, 1139, 1140, 1141, 1142, 1143, 1144, 1145, 1146, 1147, 1148, 1149, 1150, 1151, 1152, 1153, 1154] (by with_unfolding_all rfl) (by decide +kernel)
set_option maxRecDepth 20000 in
theorem gL_law_X11_way : GoodIn wsL_law (wsV RL 83 RX11 yX11_way wsX11_way) := goodIn_app (goodIn_of _ (by decide +kernel)) ggL_law_X11_way
set_option maxRecDepth 100000 in
set_option maxHeartbeats 4000000 in
theorem law_c9 {p : Program} {l : Launch} {e : Env} {s : State} {m : MethodId} {below : List Frame} {meth : Method} {c : Code} {b : Nat} {xs : Nat → Int32} {A : Nat → Prop} {D : va_G} {cI cR cM : ClassId} {jn : Nat} {hh mm : Nat} {uh um : Nat → Nat} {H : Heap} {locs : List Loc} {ls : Array Slot} (C : LC p s m meth c b 7 xs A D cI cR cM) (hP : va_P D vwCl [(hh, .inr (10, [.int (nI jn), .ref (uh 0), .ref (uh 1), .ref (uh 2), .ref (uh 3), .ref (uh 4), .ref (uh 5), .ref (uh 6)])), (uh 1, .inr (0, [.ref (uh 8), .ref (uh 9), .int 0, .int 0])), (uh 8, .inl (cR, 488, .inr (.inr (.inr (.inr (fun _ => none)))))), (mm, .inr (11, [.int (nI jn), .ref (um 0), .ref (um 1), .int 0, .int 0, .ref (um 2), .int 0, .int (-1), .int (-1), .int 0, .int 0, .int 0, .int 0, .int 0, .ref (um 3), .ref (um 4), .ref (um 5), .ref (um 6), .ref (um 7), .int 0, .int 0, .int 0, .ref (um 8), .ref (um 9), .ref (um 10), .int 0, .int 0, .ref (um 11), .int 0, .int 0, .ref (um 12), .ref (um 13), .ref (um 14), .ref (um 15), .ref (um 16), .int 0, .ref (um 17), .ref (um 18), .ref (um 19), .ref (um 20), .ref (um 21), .ref (um 22), .int 0, .int 0, .int 0, .ref (um 23), .ref (um 24)]))] H) (hD : va_D A [(hh, .inr (10, [.int (nI jn), .ref (uh 0), .ref (uh 1), .ref (uh 2), .ref (uh 3), .ref (uh 4), .ref (uh 5), .ref (uh 6)])), (uh 1, .inr (0, [.ref (uh 8), .ref (uh 9), .int 0, .int 0])), (uh 8, .inl (cR, 488, .inr (.inr (.inr (.inr (fun _ => none)))))), (mm, .inr (11, [.int (nI jn), .ref (um 0), .ref (um 1), .int 0, .int 0, .ref (um 2), .int 0, .int (-1), .int (-1), .int 0, .int 0, .int 0, .int 0, .int 0, .ref (um 3), .ref (um 4), .ref (um 5), .ref (um 6), .ref (um 7), .int 0, .int 0, .int 0, .ref (um 8), .ref (um 9), .ref (um 10), .int 0, .int 0, .ref (um 11), .int 0, .int 0, .ref (um 12), .ref (um 13), .ref (um 14), .ref (um 15), .ref (um 16), .int 0, .ref (um 17), .ref (um 18), .ref (um 19), .ref (um 20), .ref (um 21), .ref (um 22), .int 0, .int 0, .int 0, .ref (um 23), .ref (um 24)]))]) (hS : va_S A s.heap H locs) (hl : lv_has ls 4 [(0, .ref b), (1, .ref hh), (2, .ref mm), (3, .int 1)]) : W p l e room_1 s m #[Value.ref b] below meth c H locs 92 95787 (lw_Z below #[Value.ref b] s) (F0 m 435 ls []) := by
  have C0 := C
  obtain ⟨hx, hb, hr, hml, hown, hts, hX, hbl, hlocks, hK, hA, hA2⟩ := C
  have hbA : ¬ A b := fun q => absurd (hA2 b q) (Nat.not_le.mpr hbl)
  refine lv_aload_n hx hb dL_law_435 rfl (lv_at hl 1 rfl) ?_
  refine lv_aload_n hx hb dL_law_436 rfl (lv_at hl 0 rfl) ?_
  refine lv_iload_n hx hb dL_law_437 rfl (lv_at hl 3 rfl) ?_
  refine lv_iconst (v := 1) hx hb dL_law_438 (by decide) ?_
  refine lv_iadd hx hb dL_law_439 ?_
  refine lv_eqi (y := 2) (by decide) ?_
  refine va_sld hx hb hX hbl hbA hS (vp_in_nI (n := 2) (by decide) (by decide)) dL_law_440 ?_
  refine lv_eqi (y := xs 2) rfl ?_
  refine lv_aload_n hx hb dL_law_441 rfl (lv_at hl 0 rfl) ?_
  refine lv_iload_n hx hb dL_law_442 rfl (lv_at hl 3 rfl) ?_
  refine lv_iconst (v := 2) hx hb dL_law_443 (by decide) ?_
  refine lv_iadd hx hb dL_law_444 ?_
  refine lv_eqi (y := 3) (by decide) ?_
  refine va_sld hx hb hX hbl hbA hS (vp_in_nI (n := 3) (by decide) (by decide)) dL_law_445 ?_
  refine lv_eqi (y := xs 3) rfl ?_
  refine lv_aload_n hx hb dL_law_446 rfl (lv_at hl 0 rfl) ?_
  refine lv_iload_n hx hb dL_law_447 rfl (lv_at hl 3 rfl) ?_
  refine lv_iconst (v := 3) hx hb dL_law_448 (by decide) ?_
  refine lv_iadd hx hb dL_law_449 ?_
  refine lv_eqi (y := 4) (by decide) ?_
  refine va_sld hx hb hX hbl hbA hS (vp_in_nI (n := 4) (by decide) (by decide)) dL_law_450 ?_
  refine lv_eqi (y := xs 4) rfl ?_
  have hPc := hP.sub (ws' := [(hh, .inr (10, [.int (nI jn), .ref (uh 0), .ref (uh 1), .ref (uh 2), .ref (uh 3), .ref (uh 4), .ref (uh 5), .ref (uh 6)])), (uh 1, .inr (0, [.ref (uh 8), .ref (uh 9), .int 0, .int 0])), (uh 8, .inl (cR, 488, .inr (.inr (.inr (.inr (fun _ => none))))))]) [0, 1, 2] rfl
  have hDc := hD.sub (ws' := [(hh, .inr (10, [.int (nI jn), .ref (uh 0), .ref (uh 1), .ref (uh 2), .ref (uh 3), .ref (uh 4), .ref (uh 5), .ref (uh 6)])), (uh 1, .inr (0, [.ref (uh 8), .ref (uh 9), .int 0, .int 0])), (uh 8, .inl (cR, 488, .inr (.inr (.inr (.inr (fun _ => none))))))]) [0, 1, 2] (by decide) rfl
  refine ro (va_runV (As := [.int (xs 2), .int (xs 3), .int (xs 4)]) (rest := []) ⟨hx, hb, hml, hown, hts⟩ (c_cycle l D cI cR cM _ (xs 2) (xs 3) (xs 4) hh (.int (nI jn)) (.ref (uh 0)) (.ref (uh 2)) (.ref (uh 3)) (.ref (uh 4)) (.ref (uh 5)) (.ref (uh 6)) (uh 1) (uh 8) (uh 9)) (cwV 3 hts gL_law_X10_cycle rfl rfl rfl (by decide +kernel) ⟨Nat.le_of_ble_eq_true rfl, Nat.le_of_ble_eq_true rfl⟩) (pre_V hK hPc hDc 0 10 rfl rfl) rfl rfl hl.1 rfl (lv_room (Nat.le_of_ble_eq_true rfl)) dL_law_451 ⟨Nat.le_of_ble_eq_true rfl, Nat.le_of_ble_eq_true rfl⟩) hS hA hP (fun H locs hP hS => ?_)
  refine lv_aload_n hx hb dL_law_454 rfl (lv_at hl 2 rfl) ?_
  refine lv_aload_n hx hb dL_law_455 rfl (lv_at hl 0 rfl) ?_
  refine lv_iload_n hx hb dL_law_456 rfl (lv_at hl 3 rfl) ?_
  refine lv_iconst (v := 1) hx hb dL_law_457 (by decide) ?_
  refine lv_iadd hx hb dL_law_458 ?_
  refine lv_eqi (y := 2) (by decide) ?_
  refine va_sld hx hb hX hbl hbA hS (vp_in_nI (n := 2) (by decide) (by decide)) dL_law_459 ?_
  refine lv_eqi (y := xs 2) rfl ?_
  refine lv_aload_n hx hb dL_law_460 rfl (lv_at hl 0 rfl) ?_
  refine lv_iload_n hx hb dL_law_461 rfl (lv_at hl 3 rfl) ?_
  refine lv_iconst (v := 2) hx hb dL_law_462 (by decide) ?_
  refine lv_iadd hx hb dL_law_463 ?_
  refine lv_eqi (y := 3) (by decide) ?_
  refine va_sld hx hb hX hbl hbA hS (vp_in_nI (n := 3) (by decide) (by decide)) dL_law_464 ?_
  refine lv_eqi (y := xs 3) rfl ?_
  refine lv_aload_n hx hb dL_law_465 rfl (lv_at hl 0 rfl) ?_
  refine lv_iload_n hx hb dL_law_466 rfl (lv_at hl 3 rfl) ?_
  refine lv_iconst (v := 3) hx hb dL_law_467 (by decide) ?_
  refine lv_iadd hx hb dL_law_468 ?_
  refine lv_eqi (y := 4) (by decide) ?_
  refine va_sld hx hb hX hbl hbA hS (vp_in_nI (n := 4) (by decide) (by decide)) dL_law_469 ?_
  refine lv_eqi (y := xs 4) rfl ?_
  have hPc := hP.sub (ws' := [(mm, .inr (11, [.int (nI jn), .ref (um 0), .ref (um 1), .int 0, .int 0, .ref (um 2), .int 0, .int (-1), .int (-1), .int 0, .int 0, .int 0, .int 0, .int 0, .ref (um 3), .ref (um 4), .ref (um 5), .ref (um 6), .ref (um 7), .int 0, .int 0, .int 0, .ref (um 8), .ref (um 9), .ref (um 10), .int 0, .int 0, .ref (um 11), .int 0, .int 0, .ref (um 12), .ref (um 13), .ref (um 14), .ref (um 15), .ref (um 16), .int 0, .ref (um 17), .ref (um 18), .ref (um 19), .ref (um 20), .ref (um 21), .ref (um 22), .int 0, .int 0, .int 0, .ref (um 23), .ref (um 24)]))]) [3] rfl
  have hDc := hD.sub (ws' := [(mm, .inr (11, [.int (nI jn), .ref (um 0), .ref (um 1), .int 0, .int 0, .ref (um 2), .int 0, .int (-1), .int (-1), .int 0, .int 0, .int 0, .int 0, .int 0, .ref (um 3), .ref (um 4), .ref (um 5), .ref (um 6), .ref (um 7), .int 0, .int 0, .int 0, .ref (um 8), .ref (um 9), .ref (um 10), .int 0, .int 0, .ref (um 11), .int 0, .int 0, .ref (um 12), .ref (um 13), .ref (um 14), .ref (um 15), .ref (um 16), .int 0, .ref (um 17), .ref (um 18), .ref (um 19), .ref (um 20), .ref (um 21), .ref (um 22), .int 0, .int 0, .int 0, .ref (um 23), .ref (um 24)]))]) [3] (by decide) rfl
  refine ro (va_runV (As := [.int (xs 2), .int (xs 3), .int (xs 4)]) (rest := [.int (-1)]) ⟨hx, hb, hml, hown, hts⟩ (c_mcycle l D cI cR cM _ (xs 2) (xs 3) (xs 4) mm [.int (nI jn), .ref (um 0), .ref (um 1), .int 0, .int 0, .ref (um 2), .int 0, .int (-1), .int (-1), .int 0, .int 0, .int 0, .int 0, .int 0, .ref (um 3), .ref (um 4), .ref (um 5), .ref (um 6), .ref (um 7), .int 0, .int 0, .int 0, .ref (um 8), .ref (um 9), .ref (um 10), .int 0, .int 0, .ref (um 11), .int 0, .int 0, .ref (um 12), .ref (um 13), .ref (um 14), .ref (um 15), .ref (um 16), .int 0, .ref (um 17), .ref (um 18), .ref (um 19), .ref (um 20), .ref (um 21), .ref (um 22), .int 0, .int 0, .int 0, .ref (um 23), .ref (um 24)] rfl) (cwV 3 hts gL_law_X11_cycle rfl rfl rfl (by decide +kernel) ⟨Nat.le_of_ble_eq_true rfl, Nat.le_of_ble_eq_true rfl⟩) (pre_V hK hPc hDc 0 11 rfl rfl) rfl rfl hl.1 rfl (lv_room (Nat.le_of_ble_eq_true rfl)) dL_law_470 ⟨Nat.le_of_ble_eq_true rfl, Nat.le_of_ble_eq_true rfl⟩) hS hA hP (fun H locs hP hS => ?_)
  refine lv_icmp_eq (tgt := 947) hx hb dL_law_473 (by decide) (fun c473 => ?_) (fun c473 => absurd (rfl) c473)
  exact law_end C0 _ _ _ hS (lv_sub hl [0, 3] rfl)
set_option maxRecDepth 100000 in
set_option maxHeartbeats 4000000 in
theorem law_c10 {p : Program} {l : Launch} {e : Env} {s : State} {m : MethodId} {below : List Frame} {meth : Method} {c : Code} {b : Nat} {xs : Nat → Int32} {A : Nat → Prop} {D : va_G} {cI cR cM : ClassId} {jn : Nat} {hh mm : Nat} {uh um : Nat → Nat} {H : Heap} {locs : List Loc} {ls : Array Slot} (C : LC p s m meth c b 7 xs A D cI cR cM) (hP : va_P D vwCl [(hh, .inr (10, [.int (nI jn), .ref (uh 0), .ref (uh 1), .ref (uh 2), .ref (uh 3), .ref (uh 4), .ref (uh 5), .ref (uh 6)])), (uh 1, .inr (0, [.ref (uh 8), .ref (uh 9), .int 0, .int 0])), (uh 8, .inl (cR, 488, .inr (.inr (.inr (.inr (fun _ => none)))))), (mm, .inr (11, [.int (nI jn), .ref (um 0), .ref (um 1), .int 0, .int 0, .ref (um 2), .int 0, .int (-1), .int (-1), .int 0, .int 0, .int 0, .int 0, .int 0, .ref (um 3), .ref (um 4), .ref (um 5), .ref (um 6), .ref (um 7), .int 0, .int 0, .int 0, .ref (um 8), .ref (um 9), .ref (um 10), .int 0, .int 0, .ref (um 11), .int 0, .int 0, .ref (um 12), .ref (um 13), .ref (um 14), .ref (um 15), .ref (um 16), .int 0, .ref (um 17), .ref (um 18), .ref (um 19), .ref (um 20), .ref (um 21), .ref (um 22), .int 0, .int 0, .int 0, .ref (um 23), .ref (um 24)]))] H) (hD : va_D A [(hh, .inr (10, [.int (nI jn), .ref (uh 0), .ref (uh 1), .ref (uh 2), .ref (uh 3), .ref (uh 4), .ref (uh 5), .ref (uh 6)])), (uh 1, .inr (0, [.ref (uh 8), .ref (uh 9), .int 0, .int 0])), (uh 8, .inl (cR, 488, .inr (.inr (.inr (.inr (fun _ => none)))))), (mm, .inr (11, [.int (nI jn), .ref (um 0), .ref (um 1), .int 0, .int 0, .ref (um 2), .int 0, .int (-1), .int (-1), .int 0, .int 0, .int 0, .int 0, .int 0, .ref (um 3), .ref (um 4), .ref (um 5), .ref (um 6), .ref (um 7), .int 0, .int 0, .int 0, .ref (um 8), .ref (um 9), .ref (um 10), .int 0, .int 0, .ref (um 11), .int 0, .int 0, .ref (um 12), .ref (um 13), .ref (um 14), .ref (um 15), .ref (um 16), .int 0, .ref (um 17), .ref (um 18), .ref (um 19), .ref (um 20), .ref (um 21), .ref (um 22), .int 0, .int 0, .int 0, .ref (um 23), .ref (um 24)]))]) (hS : va_S A s.heap H locs) (hl : lv_has ls 4 [(0, .ref b), (1, .ref hh), (2, .ref mm), (3, .int 1)]) : W p l e room_1 s m #[Value.ref b] below meth c H locs 92 95787 (lw_Z below #[Value.ref b] s) (F0 m 478 ls []) := by
  have C0 := C
  obtain ⟨hx, hb, hr, hml, hown, hts, hX, hbl, hlocks, hK, hA, hA2⟩ := C
  have hbA : ¬ A b := fun q => absurd (hA2 b q) (Nat.not_le.mpr hbl)
  refine lv_aload_n hx hb dL_law_478 rfl (lv_at hl 1 rfl) ?_
  refine lv_aload_n hx hb dL_law_479 rfl (lv_at hl 0 rfl) ?_
  refine lv_iload_n hx hb dL_law_480 rfl (lv_at hl 3 rfl) ?_
  refine lv_iconst (v := 1) hx hb dL_law_481 (by decide) ?_
  refine lv_iadd hx hb dL_law_482 ?_
  refine lv_eqi (y := 2) (by decide) ?_
  refine va_sld hx hb hX hbl hbA hS (vp_in_nI (n := 2) (by decide) (by decide)) dL_law_483 ?_
  refine lv_eqi (y := xs 2) rfl ?_
  refine lv_aload_n hx hb dL_law_484 rfl (lv_at hl 0 rfl) ?_
  refine lv_iload_n hx hb dL_law_485 rfl (lv_at hl 3 rfl) ?_
  refine lv_iconst (v := 2) hx hb dL_law_486 (by decide) ?_
  refine lv_iadd hx hb dL_law_487 ?_
  refine lv_eqi (y := 3) (by decide) ?_
  refine va_sld hx hb hX hbl hbA hS (vp_in_nI (n := 3) (by decide) (by decide)) dL_law_488 ?_
  refine lv_eqi (y := xs 3) rfl ?_
  refine lv_aload_n hx hb dL_law_489 rfl (lv_at hl 0 rfl) ?_
  refine lv_iload_n hx hb dL_law_490 rfl (lv_at hl 3 rfl) ?_
  refine lv_iconst (v := 3) hx hb dL_law_491 (by decide) ?_
  refine lv_iadd hx hb dL_law_492 ?_
  refine lv_eqi (y := 4) (by decide) ?_
  refine va_sld hx hb hX hbl hbA hS (vp_in_nI (n := 4) (by decide) (by decide)) dL_law_493 ?_
  refine lv_eqi (y := xs 4) rfl ?_
  refine lv_aload_n hx hb dL_law_494 rfl (lv_at hl 0 rfl) ?_
  refine lv_iload_n hx hb dL_law_495 rfl (lv_at hl 3 rfl) ?_
  refine lv_iconst (v := 4) hx hb dL_law_496 (by decide) ?_
  refine lv_iadd hx hb dL_law_497 ?_
  refine lv_eqi (y := 5) (by decide) ?_
  refine va_sld hx hb hX hbl hbA hS (vp_in_nI (n := 5) (by decide) (by decide)) dL_law_498 ?_
  refine lv_eqi (y := xs 5) rfl ?_
  have hPc := hP.sub (ws' := [(hh, .inr (10, [.int (nI jn), .ref (uh 0), .ref (uh 1), .ref (uh 2), .ref (uh 3), .ref (uh 4), .ref (uh 5), .ref (uh 6)])), (uh 1, .inr (0, [.ref (uh 8), .ref (uh 9), .int 0, .int 0])), (uh 8, .inl (cR, 488, .inr (.inr (.inr (.inr (fun _ => none))))))]) [0, 1, 2] rfl
  have hDc := hD.sub (ws' := [(hh, .inr (10, [.int (nI jn), .ref (uh 0), .ref (uh 1), .ref (uh 2), .ref (uh 3), .ref (uh 4), .ref (uh 5), .ref (uh 6)])), (uh 1, .inr (0, [.ref (uh 8), .ref (uh 9), .int 0, .int 0])), (uh 8, .inl (cR, 488, .inr (.inr (.inr (.inr (fun _ => none))))))]) [0, 1, 2] (by decide) rfl
  refine ro (va_runV (As := [.int (xs 2), .int (xs 3), .int (xs 4), .int (xs 5)]) (rest := []) ⟨hx, hb, hml, hown, hts⟩ (c_cycleOf l D cI cR cM _ (xs 2) (xs 3) (xs 4) (xs 5) hh (.int (nI jn)) (.ref (uh 0)) (.ref (uh 2)) (.ref (uh 3)) (.ref (uh 4)) (.ref (uh 5)) (.ref (uh 6)) (uh 1) (uh 8) (uh 9)) (cwV 4 hts gL_law_X10_cycleOf rfl rfl rfl (by decide +kernel) ⟨Nat.le_of_ble_eq_true rfl, Nat.le_of_ble_eq_true rfl⟩) (pre_V hK hPc hDc 0 10 rfl rfl) rfl rfl hl.1 rfl (lv_room (Nat.le_of_ble_eq_true rfl)) dL_law_499 ⟨Nat.le_of_ble_eq_true rfl, Nat.le_of_ble_eq_true rfl⟩) hS hA hP (fun H locs hP hS => ?_)
  refine lv_aload_n hx hb dL_law_502 rfl (lv_at hl 2 rfl) ?_
  refine lv_aload_n hx hb dL_law_503 rfl (lv_at hl 0 rfl) ?_
  refine lv_iload_n hx hb dL_law_504 rfl (lv_at hl 3 rfl) ?_
  refine lv_iconst (v := 1) hx hb dL_law_505 (by decide) ?_
  refine lv_iadd hx hb dL_law_506 ?_
  refine lv_eqi (y := 2) (by decide) ?_
  refine va_sld hx hb hX hbl hbA hS (vp_in_nI (n := 2) (by decide) (by decide)) dL_law_507 ?_
  refine lv_eqi (y := xs 2) rfl ?_
  refine lv_aload_n hx hb dL_law_508 rfl (lv_at hl 0 rfl) ?_
  refine lv_iload_n hx hb dL_law_509 rfl (lv_at hl 3 rfl) ?_
  refine lv_iconst (v := 2) hx hb dL_law_510 (by decide) ?_
  refine lv_iadd hx hb dL_law_511 ?_
  refine lv_eqi (y := 3) (by decide) ?_
  refine va_sld hx hb hX hbl hbA hS (vp_in_nI (n := 3) (by decide) (by decide)) dL_law_512 ?_
  refine lv_eqi (y := xs 3) rfl ?_
  refine lv_aload_n hx hb dL_law_513 rfl (lv_at hl 0 rfl) ?_
  refine lv_iload_n hx hb dL_law_514 rfl (lv_at hl 3 rfl) ?_
  refine lv_iconst (v := 3) hx hb dL_law_515 (by decide) ?_
  refine lv_iadd hx hb dL_law_516 ?_
  refine lv_eqi (y := 4) (by decide) ?_
  refine va_sld hx hb hX hbl hbA hS (vp_in_nI (n := 4) (by decide) (by decide)) dL_law_517 ?_
  refine lv_eqi (y := xs 4) rfl ?_
  refine lv_aload_n hx hb dL_law_518 rfl (lv_at hl 0 rfl) ?_
  refine lv_iload_n hx hb dL_law_519 rfl (lv_at hl 3 rfl) ?_
  refine lv_iconst (v := 4) hx hb dL_law_520 (by decide) ?_
  refine lv_iadd hx hb dL_law_521 ?_
  refine lv_eqi (y := 5) (by decide) ?_
  refine va_sld hx hb hX hbl hbA hS (vp_in_nI (n := 5) (by decide) (by decide)) dL_law_522 ?_
  refine lv_eqi (y := xs 5) rfl ?_
  have hPc := hP.sub (ws' := [(mm, .inr (11, [.int (nI jn), .ref (um 0), .ref (um 1), .int 0, .int 0, .ref (um 2), .int 0, .int (-1), .int (-1), .int 0, .int 0, .int 0, .int 0, .int 0, .ref (um 3), .ref (um 4), .ref (um 5), .ref (um 6), .ref (um 7), .int 0, .int 0, .int 0, .ref (um 8), .ref (um 9), .ref (um 10), .int 0, .int 0, .ref (um 11), .int 0, .int 0, .ref (um 12), .ref (um 13), .ref (um 14), .ref (um 15), .ref (um 16), .int 0, .ref (um 17), .ref (um 18), .ref (um 19), .ref (um 20), .ref (um 21), .ref (um 22), .int 0, .int 0, .int 0, .ref (um 23), .ref (um 24)]))]) [3] rfl
  have hDc := hD.sub (ws' := [(mm, .inr (11, [.int (nI jn), .ref (um 0), .ref (um 1), .int 0, .int 0, .ref (um 2), .int 0, .int (-1), .int (-1), .int 0, .int 0, .int 0, .int 0, .int 0, .ref (um 3), .ref (um 4), .ref (um 5), .ref (um 6), .ref (um 7), .int 0, .int 0, .int 0, .ref (um 8), .ref (um 9), .ref (um 10), .int 0, .int 0, .ref (um 11), .int 0, .int 0, .ref (um 12), .ref (um 13), .ref (um 14), .ref (um 15), .ref (um 16), .int 0, .ref (um 17), .ref (um 18), .ref (um 19), .ref (um 20), .ref (um 21), .ref (um 22), .int 0, .int 0, .int 0, .ref (um 23), .ref (um 24)]))]) [3] (by decide) rfl
  refine ro (va_runV (As := [.int (xs 2), .int (xs 3), .int (xs 4), .int (xs 5)]) (rest := [.int (-1)]) ⟨hx, hb, hml, hown, hts⟩ (c_mcycleOf l D cI cR cM _ (xs 2) (xs 3) (xs 4) (xs 5) mm [.int (nI jn), .ref (um 0), .ref (um 1), .int 0, .int 0, .ref (um 2), .int 0, .int (-1), .int (-1), .int 0, .int 0, .int 0, .int 0, .int 0, .ref (um 3), .ref (um 4), .ref (um 5), .ref (um 6), .ref (um 7), .int 0, .int 0, .int 0, .ref (um 8), .ref (um 9), .ref (um 10), .int 0, .int 0, .ref (um 11), .int 0, .int 0, .ref (um 12), .ref (um 13), .ref (um 14), .ref (um 15), .ref (um 16), .int 0, .ref (um 17), .ref (um 18), .ref (um 19), .ref (um 20), .ref (um 21), .ref (um 22), .int 0, .int 0, .int 0, .ref (um 23), .ref (um 24)] rfl) (cwV 4 hts gL_law_X11_cycleOf rfl rfl rfl (by decide +kernel) ⟨Nat.le_of_ble_eq_true rfl, Nat.le_of_ble_eq_true rfl⟩) (pre_V hK hPc hDc 0 11 rfl rfl) rfl rfl hl.1 rfl (lv_room (Nat.le_of_ble_eq_true rfl)) dL_law_523 ⟨Nat.le_of_ble_eq_true rfl, Nat.le_of_ble_eq_true rfl⟩) hS hA hP (fun H locs hP hS => ?_)
  refine lv_icmp_eq (tgt := 947) hx hb dL_law_526 (by decide) (fun c526 => ?_) (fun c526 => absurd (rfl) c526)
  exact law_end C0 _ _ _ hS (lv_sub hl [0, 3] rfl)
set_option maxRecDepth 100000 in
set_option maxHeartbeats 4000000 in
theorem law_c11 {p : Program} {l : Launch} {e : Env} {s : State} {m : MethodId} {below : List Frame} {meth : Method} {c : Code} {b : Nat} {xs : Nat → Int32} {A : Nat → Prop} {D : va_G} {cI cR cM : ClassId} {jn : Nat} {hh mm : Nat} {uh um : Nat → Nat} {H : Heap} {locs : List Loc} {ls : Array Slot} (C : LC p s m meth c b 7 xs A D cI cR cM) (hP : va_P D vwCl [(hh, .inr (10, [.int (nI jn), .ref (uh 0), .ref (uh 1), .ref (uh 2), .ref (uh 3), .ref (uh 4), .ref (uh 5), .ref (uh 6)])), (uh 1, .inr (0, [.ref (uh 8), .ref (uh 9), .int 0, .int 0])), (uh 8, .inl (cR, 488, .inr (.inr (.inr (.inr (fun _ => none)))))), (mm, .inr (11, [.int (nI jn), .ref (um 0), .ref (um 1), .int 0, .int 0, .ref (um 2), .int 0, .int (-1), .int (-1), .int 0, .int 0, .int 0, .int 0, .int 0, .ref (um 3), .ref (um 4), .ref (um 5), .ref (um 6), .ref (um 7), .int 0, .int 0, .int 0, .ref (um 8), .ref (um 9), .ref (um 10), .int 0, .int 0, .ref (um 11), .int 0, .int 0, .ref (um 12), .ref (um 13), .ref (um 14), .ref (um 15), .ref (um 16), .int 0, .ref (um 17), .ref (um 18), .ref (um 19), .ref (um 20), .ref (um 21), .ref (um 22), .int 0, .int 0, .int 0, .ref (um 23), .ref (um 24)]))] H) (hD : va_D A [(hh, .inr (10, [.int (nI jn), .ref (uh 0), .ref (uh 1), .ref (uh 2), .ref (uh 3), .ref (uh 4), .ref (uh 5), .ref (uh 6)])), (uh 1, .inr (0, [.ref (uh 8), .ref (uh 9), .int 0, .int 0])), (uh 8, .inl (cR, 488, .inr (.inr (.inr (.inr (fun _ => none)))))), (mm, .inr (11, [.int (nI jn), .ref (um 0), .ref (um 1), .int 0, .int 0, .ref (um 2), .int 0, .int (-1), .int (-1), .int 0, .int 0, .int 0, .int 0, .int 0, .ref (um 3), .ref (um 4), .ref (um 5), .ref (um 6), .ref (um 7), .int 0, .int 0, .int 0, .ref (um 8), .ref (um 9), .ref (um 10), .int 0, .int 0, .ref (um 11), .int 0, .int 0, .ref (um 12), .ref (um 13), .ref (um 14), .ref (um 15), .ref (um 16), .int 0, .ref (um 17), .ref (um 18), .ref (um 19), .ref (um 20), .ref (um 21), .ref (um 22), .int 0, .int 0, .int 0, .ref (um 23), .ref (um 24)]))]) (hS : va_S A s.heap H locs) (hl : lv_has ls 4 [(0, .ref b), (1, .ref hh), (2, .ref mm), (3, .int 1)]) : W p l e room_1 s m #[Value.ref b] below meth c H locs 92 95787 (lw_Z below #[Value.ref b] s) (F0 m 531 ls []) := by
  have C0 := C
  obtain ⟨hx, hb, hr, hml, hown, hts, hX, hbl, hlocks, hK, hA, hA2⟩ := C
  have hbA : ¬ A b := fun q => absurd (hA2 b q) (Nat.not_le.mpr hbl)
  refine lv_aload_n hx hb dL_law_531 rfl (lv_at hl 1 rfl) ?_
  refine lv_aload_n hx hb dL_law_532 rfl (lv_at hl 0 rfl) ?_
  refine lv_iload_n hx hb dL_law_533 rfl (lv_at hl 3 rfl) ?_
  refine lv_iconst (v := 1) hx hb dL_law_534 (by decide) ?_
  refine lv_iadd hx hb dL_law_535 ?_
  refine lv_eqi (y := 2) (by decide) ?_
  refine va_sld hx hb hX hbl hbA hS (vp_in_nI (n := 2) (by decide) (by decide)) dL_law_536 ?_
  refine lv_eqi (y := xs 2) rfl ?_
  refine lv_aload_n hx hb dL_law_537 rfl (lv_at hl 0 rfl) ?_
  refine lv_iload_n hx hb dL_law_538 rfl (lv_at hl 3 rfl) ?_
  refine lv_iconst (v := 2) hx hb dL_law_539 (by decide) ?_
  refine lv_iadd hx hb dL_law_540 ?_
  refine lv_eqi (y := 3) (by decide) ?_
  refine va_sld hx hb hX hbl hbA hS (vp_in_nI (n := 3) (by decide) (by decide)) dL_law_541 ?_
  refine lv_eqi (y := xs 3) rfl ?_
  refine lv_aload_n hx hb dL_law_542 rfl (lv_at hl 0 rfl) ?_
  refine lv_iload_n hx hb dL_law_543 rfl (lv_at hl 3 rfl) ?_
  refine lv_iconst (v := 3) hx hb dL_law_544 (by decide) ?_
  refine lv_iadd hx hb dL_law_545 ?_
  refine lv_eqi (y := 4) (by decide) ?_
  refine va_sld hx hb hX hbl hbA hS (vp_in_nI (n := 4) (by decide) (by decide)) dL_law_546 ?_
  refine lv_eqi (y := xs 4) rfl ?_
  refine lv_aload_n hx hb dL_law_547 rfl (lv_at hl 0 rfl) ?_
  refine lv_iload_n hx hb dL_law_548 rfl (lv_at hl 3 rfl) ?_
  refine lv_iconst (v := 4) hx hb dL_law_549 (by decide) ?_
  refine lv_iadd hx hb dL_law_550 ?_
  refine lv_eqi (y := 5) (by decide) ?_
  refine va_sld hx hb hX hbl hbA hS (vp_in_nI (n := 5) (by decide) (by decide)) dL_law_551 ?_
  refine lv_eqi (y := xs 5) rfl ?_
  refine lv_aload_n hx hb dL_law_552 rfl (lv_at hl 0 rfl) ?_
  refine lv_iload_n hx hb dL_law_553 rfl (lv_at hl 3 rfl) ?_
  refine lv_iconst (v := 5) hx hb dL_law_554 (by decide) ?_
  refine lv_iadd hx hb dL_law_555 ?_
  refine lv_eqi (y := 6) (by decide) ?_
  refine va_sld hx hb hX hbl hbA hS (vp_in_nI (n := 6) (by decide) (by decide)) dL_law_556 ?_
  refine lv_eqi (y := xs 6) rfl ?_
  have hPc := hP.sub (ws' := [(hh, .inr (10, [.int (nI jn), .ref (uh 0), .ref (uh 1), .ref (uh 2), .ref (uh 3), .ref (uh 4), .ref (uh 5), .ref (uh 6)])), (uh 1, .inr (0, [.ref (uh 8), .ref (uh 9), .int 0, .int 0])), (uh 8, .inl (cR, 488, .inr (.inr (.inr (.inr (fun _ => none))))))]) [0, 1, 2] rfl
  have hDc := hD.sub (ws' := [(hh, .inr (10, [.int (nI jn), .ref (uh 0), .ref (uh 1), .ref (uh 2), .ref (uh 3), .ref (uh 4), .ref (uh 5), .ref (uh 6)])), (uh 1, .inr (0, [.ref (uh 8), .ref (uh 9), .int 0, .int 0])), (uh 8, .inl (cR, 488, .inr (.inr (.inr (.inr (fun _ => none))))))]) [0, 1, 2] (by decide) rfl
  refine ro (va_runV (As := [.int (xs 2), .int (xs 3), .int (xs 4), .int (xs 5), .int (xs 6)]) (rest := []) ⟨hx, hb, hml, hown, hts⟩ (c_caught l D cI cR cM _ (xs 2) (xs 3) (xs 4) (xs 5) (xs 6) hh (.int (nI jn)) (.ref (uh 0)) (.ref (uh 2)) (.ref (uh 3)) (.ref (uh 4)) (.ref (uh 5)) (.ref (uh 6)) (uh 1) (uh 8) (uh 9)) (cwV 5 hts gL_law_X10_caught rfl rfl rfl (by decide +kernel) ⟨Nat.le_of_ble_eq_true rfl, Nat.le_of_ble_eq_true rfl⟩) (pre_V hK hPc hDc 0 10 rfl rfl) rfl rfl hl.1 rfl (lv_room (Nat.le_of_ble_eq_true rfl)) dL_law_557 ⟨Nat.le_of_ble_eq_true rfl, Nat.le_of_ble_eq_true rfl⟩) hS hA hP (fun H locs hP hS => ?_)
  refine lv_aload_n hx hb dL_law_560 rfl (lv_at hl 2 rfl) ?_
  refine lv_aload_n hx hb dL_law_561 rfl (lv_at hl 0 rfl) ?_
  refine lv_iload_n hx hb dL_law_562 rfl (lv_at hl 3 rfl) ?_
  refine lv_iconst (v := 1) hx hb dL_law_563 (by decide) ?_
  refine lv_iadd hx hb dL_law_564 ?_
  refine lv_eqi (y := 2) (by decide) ?_
  refine va_sld hx hb hX hbl hbA hS (vp_in_nI (n := 2) (by decide) (by decide)) dL_law_565 ?_
  refine lv_eqi (y := xs 2) rfl ?_
  refine lv_aload_n hx hb dL_law_566 rfl (lv_at hl 0 rfl) ?_
  refine lv_iload_n hx hb dL_law_567 rfl (lv_at hl 3 rfl) ?_
  refine lv_iconst (v := 2) hx hb dL_law_568 (by decide) ?_
  refine lv_iadd hx hb dL_law_569 ?_
  refine lv_eqi (y := 3) (by decide) ?_
  refine va_sld hx hb hX hbl hbA hS (vp_in_nI (n := 3) (by decide) (by decide)) dL_law_570 ?_
  refine lv_eqi (y := xs 3) rfl ?_
  refine lv_aload_n hx hb dL_law_571 rfl (lv_at hl 0 rfl) ?_
  refine lv_iload_n hx hb dL_law_572 rfl (lv_at hl 3 rfl) ?_
  refine lv_iconst (v := 3) hx hb dL_law_573 (by decide) ?_
  refine lv_iadd hx hb dL_law_574 ?_
  refine lv_eqi (y := 4) (by decide) ?_
  refine va_sld hx hb hX hbl hbA hS (vp_in_nI (n := 4) (by decide) (by decide)) dL_law_575 ?_
  refine lv_eqi (y := xs 4) rfl ?_
  refine lv_aload_n hx hb dL_law_576 rfl (lv_at hl 0 rfl) ?_
  refine lv_iload_n hx hb dL_law_577 rfl (lv_at hl 3 rfl) ?_
  refine lv_iconst (v := 4) hx hb dL_law_578 (by decide) ?_
  refine lv_iadd hx hb dL_law_579 ?_
  refine lv_eqi (y := 5) (by decide) ?_
  refine va_sld hx hb hX hbl hbA hS (vp_in_nI (n := 5) (by decide) (by decide)) dL_law_580 ?_
  refine lv_eqi (y := xs 5) rfl ?_
  refine lv_aload_n hx hb dL_law_581 rfl (lv_at hl 0 rfl) ?_
  refine lv_iload_n hx hb dL_law_582 rfl (lv_at hl 3 rfl) ?_
  refine lv_iconst (v := 5) hx hb dL_law_583 (by decide) ?_
  refine lv_iadd hx hb dL_law_584 ?_
  refine lv_eqi (y := 6) (by decide) ?_
  refine va_sld hx hb hX hbl hbA hS (vp_in_nI (n := 6) (by decide) (by decide)) dL_law_585 ?_
  refine lv_eqi (y := xs 6) rfl ?_
  have hPc := hP.sub (ws' := [(mm, .inr (11, [.int (nI jn), .ref (um 0), .ref (um 1), .int 0, .int 0, .ref (um 2), .int 0, .int (-1), .int (-1), .int 0, .int 0, .int 0, .int 0, .int 0, .ref (um 3), .ref (um 4), .ref (um 5), .ref (um 6), .ref (um 7), .int 0, .int 0, .int 0, .ref (um 8), .ref (um 9), .ref (um 10), .int 0, .int 0, .ref (um 11), .int 0, .int 0, .ref (um 12), .ref (um 13), .ref (um 14), .ref (um 15), .ref (um 16), .int 0, .ref (um 17), .ref (um 18), .ref (um 19), .ref (um 20), .ref (um 21), .ref (um 22), .int 0, .int 0, .int 0, .ref (um 23), .ref (um 24)]))]) [3] rfl
  have hDc := hD.sub (ws' := [(mm, .inr (11, [.int (nI jn), .ref (um 0), .ref (um 1), .int 0, .int 0, .ref (um 2), .int 0, .int (-1), .int (-1), .int 0, .int 0, .int 0, .int 0, .int 0, .ref (um 3), .ref (um 4), .ref (um 5), .ref (um 6), .ref (um 7), .int 0, .int 0, .int 0, .ref (um 8), .ref (um 9), .ref (um 10), .int 0, .int 0, .ref (um 11), .int 0, .int 0, .ref (um 12), .ref (um 13), .ref (um 14), .ref (um 15), .ref (um 16), .int 0, .ref (um 17), .ref (um 18), .ref (um 19), .ref (um 20), .ref (um 21), .ref (um 22), .int 0, .int 0, .int 0, .ref (um 23), .ref (um 24)]))]) [3] (by decide) rfl
  refine ro (va_runV (As := [.int (xs 2), .int (xs 3), .int (xs 4), .int (xs 5), .int (xs 6)]) (rest := [.int (-1)]) ⟨hx, hb, hml, hown, hts⟩ (c_mcaught l D cI cR cM _ (xs 2) (xs 3) (xs 4) (xs 5) (xs 6) mm [.int (nI jn), .ref (um 0), .ref (um 1), .int 0, .int 0, .ref (um 2), .int 0, .int (-1), .int (-1), .int 0, .int 0, .int 0, .int 0, .int 0, .ref (um 3), .ref (um 4), .ref (um 5), .ref (um 6), .ref (um 7), .int 0, .int 0, .int 0, .ref (um 8), .ref (um 9), .ref (um 10), .int 0, .int 0, .ref (um 11), .int 0, .int 0, .ref (um 12), .ref (um 13), .ref (um 14), .ref (um 15), .ref (um 16), .int 0, .ref (um 17), .ref (um 18), .ref (um 19), .ref (um 20), .ref (um 21), .ref (um 22), .int 0, .int 0, .int 0, .ref (um 23), .ref (um 24)] rfl) (cwV 5 hts gL_law_X11_caught rfl rfl rfl (by decide +kernel) ⟨Nat.le_of_ble_eq_true rfl, Nat.le_of_ble_eq_true rfl⟩) (pre_V hK hPc hDc 0 11 rfl rfl) rfl rfl hl.1 rfl (lv_room (Nat.le_of_ble_eq_true rfl)) dL_law_586 ⟨Nat.le_of_ble_eq_true rfl, Nat.le_of_ble_eq_true rfl⟩) hS hA hP (fun H locs hP hS => ?_)
  refine lv_icmp_eq (tgt := 947) hx hb dL_law_589 (by decide) (fun c589 => ?_) (fun c589 => absurd (rfl) c589)
  exact law_end C0 _ _ _ hS (lv_sub hl [0, 3] rfl)
set_option maxRecDepth 100000 in
set_option maxHeartbeats 4000000 in
theorem law_c12 {p : Program} {l : Launch} {e : Env} {s : State} {m : MethodId} {below : List Frame} {meth : Method} {c : Code} {b : Nat} {xs : Nat → Int32} {A : Nat → Prop} {D : va_G} {cI cR cM : ClassId} {jn : Nat} {hh mm : Nat} {uh um : Nat → Nat} {H : Heap} {locs : List Loc} {ls : Array Slot} (C : LC p s m meth c b 7 xs A D cI cR cM) (hP : va_P D vwCl [(hh, .inr (10, [.int (nI jn), .ref (uh 0), .ref (uh 1), .ref (uh 2), .ref (uh 3), .ref (uh 4), .ref (uh 5), .ref (uh 6)])), (uh 1, .inr (0, [.ref (uh 8), .ref (uh 9), .int 0, .int 0])), (uh 8, .inl (cR, 488, .inr (.inr (.inr (.inr (fun _ => none)))))), (mm, .inr (11, [.int (nI jn), .ref (um 0), .ref (um 1), .int 0, .int 0, .ref (um 2), .int 0, .int (-1), .int (-1), .int 0, .int 0, .int 0, .int 0, .int 0, .ref (um 3), .ref (um 4), .ref (um 5), .ref (um 6), .ref (um 7), .int 0, .int 0, .int 0, .ref (um 8), .ref (um 9), .ref (um 10), .int 0, .int 0, .ref (um 11), .int 0, .int 0, .ref (um 12), .ref (um 13), .ref (um 14), .ref (um 15), .ref (um 16), .int 0, .ref (um 17), .ref (um 18), .ref (um 19), .ref (um 20), .ref (um 21), .ref (um 22), .int 0, .int 0, .int 0, .ref (um 23), .ref (um 24)]))] H) (hD : va_D A [(hh, .inr (10, [.int (nI jn), .ref (uh 0), .ref (uh 1), .ref (uh 2), .ref (uh 3), .ref (uh 4), .ref (uh 5), .ref (uh 6)])), (uh 1, .inr (0, [.ref (uh 8), .ref (uh 9), .int 0, .int 0])), (uh 8, .inl (cR, 488, .inr (.inr (.inr (.inr (fun _ => none)))))), (mm, .inr (11, [.int (nI jn), .ref (um 0), .ref (um 1), .int 0, .int 0, .ref (um 2), .int 0, .int (-1), .int (-1), .int 0, .int 0, .int 0, .int 0, .int 0, .ref (um 3), .ref (um 4), .ref (um 5), .ref (um 6), .ref (um 7), .int 0, .int 0, .int 0, .ref (um 8), .ref (um 9), .ref (um 10), .int 0, .int 0, .ref (um 11), .int 0, .int 0, .ref (um 12), .ref (um 13), .ref (um 14), .ref (um 15), .ref (um 16), .int 0, .ref (um 17), .ref (um 18), .ref (um 19), .ref (um 20), .ref (um 21), .ref (um 22), .int 0, .int 0, .int 0, .ref (um 23), .ref (um 24)]))]) (hS : va_S A s.heap H locs) (hl : lv_has ls 4 [(0, .ref b), (1, .ref hh), (2, .ref mm), (3, .int 1)]) : W p l e room_1 s m #[Value.ref b] below meth c H locs 92 95787 (lw_Z below #[Value.ref b] s) (F0 m 594 ls []) := by
  have C0 := C
  obtain ⟨hx, hb, hr, hml, hown, hts, hX, hbl, hlocks, hK, hA, hA2⟩ := C
  have hbA : ¬ A b := fun q => absurd (hA2 b q) (Nat.not_le.mpr hbl)
  refine lv_aload_n hx hb dL_law_594 rfl (lv_at hl 1 rfl) ?_
  refine lv_aload_n hx hb dL_law_595 rfl (lv_at hl 0 rfl) ?_
  refine lv_iload_n hx hb dL_law_596 rfl (lv_at hl 3 rfl) ?_
  refine lv_iconst (v := 1) hx hb dL_law_597 (by decide) ?_
  refine lv_iadd hx hb dL_law_598 ?_
  refine lv_eqi (y := 2) (by decide) ?_
  refine va_sld hx hb hX hbl hbA hS (vp_in_nI (n := 2) (by decide) (by decide)) dL_law_599 ?_
  refine lv_eqi (y := xs 2) rfl ?_
  refine lv_aload_n hx hb dL_law_600 rfl (lv_at hl 0 rfl) ?_
  refine lv_iload_n hx hb dL_law_601 rfl (lv_at hl 3 rfl) ?_
  refine lv_iconst (v := 2) hx hb dL_law_602 (by decide) ?_
  refine lv_iadd hx hb dL_law_603 ?_
  refine lv_eqi (y := 3) (by decide) ?_
  refine va_sld hx hb hX hbl hbA hS (vp_in_nI (n := 3) (by decide) (by decide)) dL_law_604 ?_
  refine lv_eqi (y := xs 3) rfl ?_
  have hPc := hP.sub (ws' := [(hh, .inr (10, [.int (nI jn), .ref (uh 0), .ref (uh 1), .ref (uh 2), .ref (uh 3), .ref (uh 4), .ref (uh 5), .ref (uh 6)])), (uh 1, .inr (0, [.ref (uh 8), .ref (uh 9), .int 0, .int 0])), (uh 8, .inl (cR, 488, .inr (.inr (.inr (.inr (fun _ => none))))))]) [0, 1, 2] rfl
  have hDc := hD.sub (ws' := [(hh, .inr (10, [.int (nI jn), .ref (uh 0), .ref (uh 1), .ref (uh 2), .ref (uh 3), .ref (uh 4), .ref (uh 5), .ref (uh 6)])), (uh 1, .inr (0, [.ref (uh 8), .ref (uh 9), .int 0, .int 0])), (uh 8, .inl (cR, 488, .inr (.inr (.inr (.inr (fun _ => none))))))]) [0, 1, 2] (by decide) rfl
  refine ro (va_runV (As := [.int (xs 2), .int (xs 3)]) (rest := []) ⟨hx, hb, hml, hown, hts⟩ (c_state l D cI cR cM _ (xs 2) (xs 3) hh (.int (nI jn)) (.ref (uh 0)) (.ref (uh 2)) (.ref (uh 3)) (.ref (uh 4)) (.ref (uh 5)) (.ref (uh 6)) (uh 1) (uh 8) (uh 9)) (cwV 2 hts gL_law_X10_state rfl rfl rfl (by decide +kernel) ⟨Nat.le_of_ble_eq_true rfl, Nat.le_of_ble_eq_true rfl⟩) (pre_V hK hPc hDc 0 10 rfl rfl) rfl rfl hl.1 rfl (lv_room (Nat.le_of_ble_eq_true rfl)) dL_law_605 ⟨Nat.le_of_ble_eq_true rfl, Nat.le_of_ble_eq_true rfl⟩) hS hA hP (fun H locs hP hS => ?_)
  refine lv_aload_n hx hb dL_law_608 rfl (lv_at hl 2 rfl) ?_
  refine lv_aload_n hx hb dL_law_609 rfl (lv_at hl 0 rfl) ?_
  refine lv_iload_n hx hb dL_law_610 rfl (lv_at hl 3 rfl) ?_
  refine lv_iconst (v := 1) hx hb dL_law_611 (by decide) ?_
  refine lv_iadd hx hb dL_law_612 ?_
  refine lv_eqi (y := 2) (by decide) ?_
  refine va_sld hx hb hX hbl hbA hS (vp_in_nI (n := 2) (by decide) (by decide)) dL_law_613 ?_
  refine lv_eqi (y := xs 2) rfl ?_
  refine lv_aload_n hx hb dL_law_614 rfl (lv_at hl 0 rfl) ?_
  refine lv_iload_n hx hb dL_law_615 rfl (lv_at hl 3 rfl) ?_
  refine lv_iconst (v := 2) hx hb dL_law_616 (by decide) ?_
  refine lv_iadd hx hb dL_law_617 ?_
  refine lv_eqi (y := 3) (by decide) ?_
  refine va_sld hx hb hX hbl hbA hS (vp_in_nI (n := 3) (by decide) (by decide)) dL_law_618 ?_
  refine lv_eqi (y := xs 3) rfl ?_
  have hPc := hP.sub (ws' := [(mm, .inr (11, [.int (nI jn), .ref (um 0), .ref (um 1), .int 0, .int 0, .ref (um 2), .int 0, .int (-1), .int (-1), .int 0, .int 0, .int 0, .int 0, .int 0, .ref (um 3), .ref (um 4), .ref (um 5), .ref (um 6), .ref (um 7), .int 0, .int 0, .int 0, .ref (um 8), .ref (um 9), .ref (um 10), .int 0, .int 0, .ref (um 11), .int 0, .int 0, .ref (um 12), .ref (um 13), .ref (um 14), .ref (um 15), .ref (um 16), .int 0, .ref (um 17), .ref (um 18), .ref (um 19), .ref (um 20), .ref (um 21), .ref (um 22), .int 0, .int 0, .int 0, .ref (um 23), .ref (um 24)]))]) [3] rfl
  have hDc := hD.sub (ws' := [(mm, .inr (11, [.int (nI jn), .ref (um 0), .ref (um 1), .int 0, .int 0, .ref (um 2), .int 0, .int (-1), .int (-1), .int 0, .int 0, .int 0, .int 0, .int 0, .ref (um 3), .ref (um 4), .ref (um 5), .ref (um 6), .ref (um 7), .int 0, .int 0, .int 0, .ref (um 8), .ref (um 9), .ref (um 10), .int 0, .int 0, .ref (um 11), .int 0, .int 0, .ref (um 12), .ref (um 13), .ref (um 14), .ref (um 15), .ref (um 16), .int 0, .ref (um 17), .ref (um 18), .ref (um 19), .ref (um 20), .ref (um 21), .ref (um 22), .int 0, .int 0, .int 0, .ref (um 23), .ref (um 24)]))]) [3] (by decide) rfl
  refine ro (va_runV (As := [.int (xs 2), .int (xs 3)]) (rest := [.int (-1)]) ⟨hx, hb, hml, hown, hts⟩ (c_mstate l D cI cR cM _ (xs 2) (xs 3) mm [.int (nI jn), .ref (um 0), .ref (um 1), .int 0, .int 0, .ref (um 2), .int 0, .int (-1), .int (-1), .int 0, .int 0, .int 0, .int 0, .int 0, .ref (um 3), .ref (um 4), .ref (um 5), .ref (um 6), .ref (um 7), .int 0, .int 0, .int 0, .ref (um 8), .ref (um 9), .ref (um 10), .int 0, .int 0, .ref (um 11), .int 0, .int 0, .ref (um 12), .ref (um 13), .ref (um 14), .ref (um 15), .ref (um 16), .int 0, .ref (um 17), .ref (um 18), .ref (um 19), .ref (um 20), .ref (um 21), .ref (um 22), .int 0, .int 0, .int 0, .ref (um 23), .ref (um 24)] rfl) (cwV 2 hts gL_law_X11_state rfl rfl rfl (by decide +kernel) ⟨Nat.le_of_ble_eq_true rfl, Nat.le_of_ble_eq_true rfl⟩) (pre_V hK hPc hDc 0 11 rfl rfl) rfl rfl hl.1 rfl (lv_room (Nat.le_of_ble_eq_true rfl)) dL_law_619 ⟨Nat.le_of_ble_eq_true rfl, Nat.le_of_ble_eq_true rfl⟩) hS hA hP (fun H locs hP hS => ?_)
  refine lv_icmp_eq (tgt := 947) hx hb dL_law_622 (by decide) (fun c622 => ?_) (fun c622 => absurd (rfl) c622)
  exact law_end C0 _ _ _ hS (lv_sub hl [0, 3] rfl)
set_option maxRecDepth 100000 in
set_option maxHeartbeats 4000000 in
theorem law_c13 {p : Program} {l : Launch} {e : Env} {s : State} {m : MethodId} {below : List Frame} {meth : Method} {c : Code} {b : Nat} {xs : Nat → Int32} {A : Nat → Prop} {D : va_G} {cI cR cM : ClassId} {jn : Nat} {hh mm : Nat} {uh um : Nat → Nat} {H : Heap} {locs : List Loc} {ls : Array Slot} (C : LC p s m meth c b 7 xs A D cI cR cM) (hP : va_P D vwCl [(hh, .inr (10, [.int (nI jn), .ref (uh 0), .ref (uh 1), .ref (uh 2), .ref (uh 3), .ref (uh 4), .ref (uh 5), .ref (uh 6)])), (uh 4, .inr (9, [.ref (uh 43), .ref (uh 44), .ref (uh 45), .ref (uh 46)])), (uh 43, .inl (cI, 512, .inl (fun _ => 0))), (uh 44, .inl (cI, 512, .inl (fun _ => 0))), (uh 45, .inl (cI, 512, .inl (fun _ => 0))), (uh 46, .inl (cI, 512, .inl (fun _ => 0))), (mm, .inr (11, [.int (nI jn), .ref (um 0), .ref (um 1), .int 0, .int 0, .ref (um 2), .int 0, .int (-1), .int (-1), .int 0, .int 0, .int 0, .int 0, .int 0, .ref (um 3), .ref (um 4), .ref (um 5), .ref (um 6), .ref (um 7), .int 0, .int 0, .int 0, .ref (um 8), .ref (um 9), .ref (um 10), .int 0, .int 0, .ref (um 11), .int 0, .int 0, .ref (um 12), .ref (um 13), .ref (um 14), .ref (um 15), .ref (um 16), .int 0, .ref (um 17), .ref (um 18), .ref (um 19), .ref (um 20), .ref (um 21), .ref (um 22), .int 0, .int 0, .int 0, .ref (um 23), .ref (um 24)])), (um 17, .inl (cI, 512, .inl (fun _ => 0))), (um 18, .inl (cI, 512, .inl (fun _ => 0)))] H) (hD : va_D A [(hh, .inr (10, [.int (nI jn), .ref (uh 0), .ref (uh 1), .ref (uh 2), .ref (uh 3), .ref (uh 4), .ref (uh 5), .ref (uh 6)])), (uh 4, .inr (9, [.ref (uh 43), .ref (uh 44), .ref (uh 45), .ref (uh 46)])), (uh 43, .inl (cI, 512, .inl (fun _ => 0))), (uh 44, .inl (cI, 512, .inl (fun _ => 0))), (uh 45, .inl (cI, 512, .inl (fun _ => 0))), (uh 46, .inl (cI, 512, .inl (fun _ => 0))), (mm, .inr (11, [.int (nI jn), .ref (um 0), .ref (um 1), .int 0, .int 0, .ref (um 2), .int 0, .int (-1), .int (-1), .int 0, .int 0, .int 0, .int 0, .int 0, .ref (um 3), .ref (um 4), .ref (um 5), .ref (um 6), .ref (um 7), .int 0, .int 0, .int 0, .ref (um 8), .ref (um 9), .ref (um 10), .int 0, .int 0, .ref (um 11), .int 0, .int 0, .ref (um 12), .ref (um 13), .ref (um 14), .ref (um 15), .ref (um 16), .int 0, .ref (um 17), .ref (um 18), .ref (um 19), .ref (um 20), .ref (um 21), .ref (um 22), .int 0, .int 0, .int 0, .ref (um 23), .ref (um 24)])), (um 17, .inl (cI, 512, .inl (fun _ => 0))), (um 18, .inl (cI, 512, .inl (fun _ => 0)))]) (hS : va_S A s.heap H locs) (hl : lv_has ls 4 [(0, .ref b), (1, .ref hh), (2, .ref mm), (3, .int 1)]) : W p l e room_1 s m #[Value.ref b] below meth c H locs 92 95787 (lw_Z below #[Value.ref b] s) (F0 m 627 ls []) := by
  have C0 := C
  obtain ⟨hx, hb, hr, hml, hown, hts, hX, hbl, hlocks, hK, hA, hA2⟩ := C
  have hbA : ¬ A b := fun q => absurd (hA2 b q) (Nat.not_le.mpr hbl)
  refine lv_aload_n hx hb dL_law_627 rfl (lv_at hl 1 rfl) ?_
  refine lv_aload_n hx hb dL_law_628 rfl (lv_at hl 0 rfl) ?_
  refine lv_iload_n hx hb dL_law_629 rfl (lv_at hl 3 rfl) ?_
  refine lv_iconst (v := 1) hx hb dL_law_630 (by decide) ?_
  refine lv_iadd hx hb dL_law_631 ?_
  refine lv_eqi (y := 2) (by decide) ?_
  refine va_sld hx hb hX hbl hbA hS (vp_in_nI (n := 2) (by decide) (by decide)) dL_law_632 ?_
  refine lv_eqi (y := xs 2) rfl ?_
  refine lv_aload_n hx hb dL_law_633 rfl (lv_at hl 0 rfl) ?_
  refine lv_iload_n hx hb dL_law_634 rfl (lv_at hl 3 rfl) ?_
  refine lv_iconst (v := 2) hx hb dL_law_635 (by decide) ?_
  refine lv_iadd hx hb dL_law_636 ?_
  refine lv_eqi (y := 3) (by decide) ?_
  refine va_sld hx hb hX hbl hbA hS (vp_in_nI (n := 3) (by decide) (by decide)) dL_law_637 ?_
  refine lv_eqi (y := xs 3) rfl ?_
  refine lv_aload_n hx hb dL_law_638 rfl (lv_at hl 0 rfl) ?_
  refine lv_iload_n hx hb dL_law_639 rfl (lv_at hl 3 rfl) ?_
  refine lv_iconst (v := 3) hx hb dL_law_640 (by decide) ?_
  refine lv_iadd hx hb dL_law_641 ?_
  refine lv_eqi (y := 4) (by decide) ?_
  refine va_sld hx hb hX hbl hbA hS (vp_in_nI (n := 4) (by decide) (by decide)) dL_law_642 ?_
  refine lv_eqi (y := xs 4) rfl ?_
  have hPc := hP.sub (ws' := [(hh, .inr (10, [.int (nI jn), .ref (uh 0), .ref (uh 1), .ref (uh 2), .ref (uh 3), .ref (uh 4), .ref (uh 5), .ref (uh 6)])), (uh 4, .inr (9, [.ref (uh 43), .ref (uh 44), .ref (uh 45), .ref (uh 46)])), (uh 43, .inl (cI, 512, .inl (fun _ => 0))), (uh 44, .inl (cI, 512, .inl (fun _ => 0))), (uh 45, .inl (cI, 512, .inl (fun _ => 0))), (uh 46, .inl (cI, 512, .inl (fun _ => 0)))]) [0, 1, 2, 3, 4, 5] rfl
  have hDc := hD.sub (ws' := [(hh, .inr (10, [.int (nI jn), .ref (uh 0), .ref (uh 1), .ref (uh 2), .ref (uh 3), .ref (uh 4), .ref (uh 5), .ref (uh 6)])), (uh 4, .inr (9, [.ref (uh 43), .ref (uh 44), .ref (uh 45), .ref (uh 46)])), (uh 43, .inl (cI, 512, .inl (fun _ => 0))), (uh 44, .inl (cI, 512, .inl (fun _ => 0))), (uh 45, .inl (cI, 512, .inl (fun _ => 0))), (uh 46, .inl (cI, 512, .inl (fun _ => 0)))]) [0, 1, 2, 3, 4, 5] (by decide) rfl
  refine call_g (wr := [(mm, .inr (11, [.int (nI jn), .ref (um 0), .ref (um 1), .int 0, .int 0, .ref (um 2), .int 0, .int (-1), .int (-1), .int 0, .int 0, .int 0, .int 0, .int 0, .ref (um 3), .ref (um 4), .ref (um 5), .ref (um 6), .ref (um 7), .int 0, .int 0, .int 0, .ref (um 8), .ref (um 9), .ref (um 10), .int 0, .int 0, .ref (um 11), .int 0, .int 0, .ref (um 12), .ref (um 13), .ref (um 14), .ref (um 15), .ref (um 16), .int 0, .ref (um 17), .ref (um 18), .ref (um 19), .ref (um 20), .ref (um 21), .ref (um 22), .int 0, .int 0, .int 0, .ref (um 23), .ref (um 24)])), (um 17, .inl (cI, 512, .inl (fun _ => 0))), (um 18, .inl (cI, 512, .inl (fun _ => 0)))]) (va_runV (As := [.int (xs 2), .int (xs 3), .int (xs 4)]) (rest := []) ⟨hx, hb, hml, hown, hts⟩ (c_way l D cI cR cM _ (xs 2) (xs 3) (xs 4) hh (.int (nI jn)) (.ref (uh 0)) (.ref (uh 1)) (.ref (uh 2)) (.ref (uh 3)) (.ref (uh 5)) (.ref (uh 6)) (uh 4) (uh 43) (uh 44) (uh 45) (uh 46) (fun _ => 0) (fun _ => 0) (fun _ => 0) (fun _ => 0)) (cwV 3 hts gL_law_X10_way rfl rfl rfl (by decide +kernel) ⟨Nat.le_of_ble_eq_true rfl, Nat.le_of_ble_eq_true rfl⟩) (pre_V hK hPc hDc 0 10 rfl rfl) rfl rfl hl.1 rfl (lv_room (Nat.le_of_ble_eq_true rfl)) dL_law_643 ⟨Nat.le_of_ble_eq_true rfl, Nat.le_of_ble_eq_true rfl⟩) hP hD hS hA [0, 1, 2, 3, 4, 5] [6, 7, 8] rfl rfl (by decide) (by decide) (fun u1 H locs hw hP hD hS => ?_)
  obtain ⟨r1, v1, v2, v3, v4⟩ := u1
  have hw1 : WA (xs 2) (xs 3) (xs 4) r1 := hw
  have hP := hP.sub (ws' := [(mm, .inr (11, [.int (nI jn), .ref (um 0), .ref (um 1), .int 0, .int 0, .ref (um 2), .int 0, .int (-1), .int (-1), .int 0, .int 0, .int 0, .int 0, .int 0, .ref (um 3), .ref (um 4), .ref (um 5), .ref (um 6), .ref (um 7), .int 0, .int 0, .int 0, .ref (um 8), .ref (um 9), .ref (um 10), .int 0, .int 0, .ref (um 11), .int 0, .int 0, .ref (um 12), .ref (um 13), .ref (um 14), .ref (um 15), .ref (um 16), .int 0, .ref (um 17), .ref (um 18), .ref (um 19), .ref (um 20), .ref (um 21), .ref (um 22), .int 0, .int 0, .int 0, .ref (um 23), .ref (um 24)])), (um 17, .inl (cI, 512, .inl (fun _ => 0))), (um 18, .inl (cI, 512, .inl (fun _ => 0)))]) [0, 1, 2] rfl
  have hD := hD.sub (ws' := [(mm, .inr (11, [.int (nI jn), .ref (um 0), .ref (um 1), .int 0, .int 0, .ref (um 2), .int 0, .int (-1), .int (-1), .int 0, .int 0, .int 0, .int 0, .int 0, .ref (um 3), .ref (um 4), .ref (um 5), .ref (um 6), .ref (um 7), .int 0, .int 0, .int 0, .ref (um 8), .ref (um 9), .ref (um 10), .int 0, .int 0, .ref (um 11), .int 0, .int 0, .ref (um 12), .ref (um 13), .ref (um 14), .ref (um 15), .ref (um 16), .int 0, .ref (um 17), .ref (um 18), .ref (um 19), .ref (um 20), .ref (um 21), .ref (um 22), .int 0, .int 0, .int 0, .ref (um 23), .ref (um 24)])), (um 17, .inl (cI, 512, .inl (fun _ => 0))), (um 18, .inl (cI, 512, .inl (fun _ => 0)))]) [0, 1, 2] (by decide) rfl
  have hP : va_P D vwCl [(mm, .inr (11, [.int (nI jn), .ref (um 0), .ref (um 1), .int 0, .int 0, .ref (um 2), .int 0, .int (-1), .int (-1), .int 0, .int 0, .int 0, .int 0, .int 0, .ref (um 3), .ref (um 4), .ref (um 5), .ref (um 6), .ref (um 7), .int 0, .int 0, .int 0, .ref (um 8), .ref (um 9), .ref (um 10), .int 0, .int 0, .ref (um 11), .int 0, .int 0, .ref (um 12), .ref (um 13), .ref (um 14), .ref (um 15), .ref (um 16), .int 0, .ref (um 17), .ref (um 18), .ref (um 19), .ref (um 20), .ref (um 21), .ref (um 22), .int 0, .int 0, .int 0, .ref (um 23), .ref (um 24)])), (um 17, .inl (cI, 512, .inl (fun _ => 0))), (um 18, .inl (cI, 512, .inl (fun _ => 0)))] H := hP
  have hD : va_D A [(mm, .inr (11, [.int (nI jn), .ref (um 0), .ref (um 1), .int 0, .int 0, .ref (um 2), .int 0, .int (-1), .int (-1), .int 0, .int 0, .int 0, .int 0, .int 0, .ref (um 3), .ref (um 4), .ref (um 5), .ref (um 6), .ref (um 7), .int 0, .int 0, .int 0, .ref (um 8), .ref (um 9), .ref (um 10), .int 0, .int 0, .ref (um 11), .int 0, .int 0, .ref (um 12), .ref (um 13), .ref (um 14), .ref (um 15), .ref (um 16), .int 0, .ref (um 17), .ref (um 18), .ref (um 19), .ref (um 20), .ref (um 21), .ref (um 22), .int 0, .int 0, .int 0, .ref (um 23), .ref (um 24)])), (um 17, .inl (cI, 512, .inl (fun _ => 0))), (um 18, .inl (cI, 512, .inl (fun _ => 0)))] := hD
  refine lv_aload_n hx hb dL_law_646 rfl (lv_at hl 2 rfl) ?_
  refine lv_aload_n hx hb dL_law_647 rfl (lv_at hl 0 rfl) ?_
  refine lv_iload_n hx hb dL_law_648 rfl (lv_at hl 3 rfl) ?_
  refine lv_iconst (v := 1) hx hb dL_law_649 (by decide) ?_
  refine lv_iadd hx hb dL_law_650 ?_
  refine lv_eqi (y := 2) (by decide) ?_
  refine va_sld hx hb hX hbl hbA hS (vp_in_nI (n := 2) (by decide) (by decide)) dL_law_651 ?_
  refine lv_eqi (y := xs 2) rfl ?_
  refine lv_aload_n hx hb dL_law_652 rfl (lv_at hl 0 rfl) ?_
  refine lv_iload_n hx hb dL_law_653 rfl (lv_at hl 3 rfl) ?_
  refine lv_iconst (v := 2) hx hb dL_law_654 (by decide) ?_
  refine lv_iadd hx hb dL_law_655 ?_
  refine lv_eqi (y := 3) (by decide) ?_
  refine va_sld hx hb hX hbl hbA hS (vp_in_nI (n := 3) (by decide) (by decide)) dL_law_656 ?_
  refine lv_eqi (y := xs 3) rfl ?_
  refine lv_aload_n hx hb dL_law_657 rfl (lv_at hl 0 rfl) ?_
  refine lv_iload_n hx hb dL_law_658 rfl (lv_at hl 3 rfl) ?_
  refine lv_iconst (v := 3) hx hb dL_law_659 (by decide) ?_
  refine lv_iadd hx hb dL_law_660 ?_
  refine lv_eqi (y := 4) (by decide) ?_
  refine va_sld hx hb hX hbl hbA hS (vp_in_nI (n := 4) (by decide) (by decide)) dL_law_661 ?_
  refine lv_eqi (y := xs 4) rfl ?_
  have hPc := hP.sub (ws' := [(mm, .inr (11, [.int (nI jn), .ref (um 0), .ref (um 1), .int 0, .int 0, .ref (um 2), .int 0, .int (-1), .int (-1), .int 0, .int 0, .int 0, .int 0, .int 0, .ref (um 3), .ref (um 4), .ref (um 5), .ref (um 6), .ref (um 7), .int 0, .int 0, .int 0, .ref (um 8), .ref (um 9), .ref (um 10), .int 0, .int 0, .ref (um 11), .int 0, .int 0, .ref (um 12), .ref (um 13), .ref (um 14), .ref (um 15), .ref (um 16), .int 0, .ref (um 17), .ref (um 18), .ref (um 19), .ref (um 20), .ref (um 21), .ref (um 22), .int 0, .int 0, .int 0, .ref (um 23), .ref (um 24)])), (um 17, .inl (cI, 512, .inl (fun _ => 0))), (um 18, .inl (cI, 512, .inl (fun _ => 0)))]) [0, 1, 2] rfl
  have hDc := hD.sub (ws' := [(mm, .inr (11, [.int (nI jn), .ref (um 0), .ref (um 1), .int 0, .int 0, .ref (um 2), .int 0, .int (-1), .int (-1), .int 0, .int 0, .int 0, .int 0, .int 0, .ref (um 3), .ref (um 4), .ref (um 5), .ref (um 6), .ref (um 7), .int 0, .int 0, .int 0, .ref (um 8), .ref (um 9), .ref (um 10), .int 0, .int 0, .ref (um 11), .int 0, .int 0, .ref (um 12), .ref (um 13), .ref (um 14), .ref (um 15), .ref (um 16), .int 0, .ref (um 17), .ref (um 18), .ref (um 19), .ref (um 20), .ref (um 21), .ref (um 22), .int 0, .int 0, .int 0, .ref (um 23), .ref (um 24)])), (um 17, .inl (cI, 512, .inl (fun _ => 0))), (um 18, .inl (cI, 512, .inl (fun _ => 0)))]) [0, 1, 2] (by decide) rfl
  refine call_g (wr := []) (va_runV (As := [.int (xs 2), .int (xs 3), .int (xs 4)]) (rest := [.int r1]) ⟨hx, hb, hml, hown, hts⟩ (c_mway l D cI cR cM _ (xs 2) (xs 3) (xs 4) mm [.int (nI jn), .ref (um 0), .ref (um 1), .int 0, .int 0, .ref (um 2), .int 0, .int (-1), .int (-1), .int 0, .int 0, .int 0, .int 0, .int 0, .ref (um 3), .ref (um 4), .ref (um 5), .ref (um 6), .ref (um 7), .int 0, .int 0, .int 0, .ref (um 8), .ref (um 9), .ref (um 10), .int 0, .int 0, .ref (um 11), .int 0, .int 0, .ref (um 12), .ref (um 13), .ref (um 14), .ref (um 15), .ref (um 16), .int 0, .ref (um 17), .ref (um 18), .ref (um 19), .ref (um 20), .ref (um 21), .ref (um 22), .int 0, .int 0, .int 0, .ref (um 23), .ref (um 24)] (um 17) (um 18) rfl rfl (fun _ => 0) (fun _ => 0) (fun _ _ => rfl)) (cwV 3 hts gL_law_X11_way rfl rfl rfl (by decide +kernel) ⟨Nat.le_of_ble_eq_true rfl, Nat.le_of_ble_eq_true rfl⟩) (pre_V hK hPc hDc 0 11 rfl rfl) rfl rfl hl.1 rfl (lv_room (Nat.le_of_ble_eq_true rfl)) dL_law_662 ⟨Nat.le_of_ble_eq_true rfl, Nat.le_of_ble_eq_true rfl⟩) hP hD hS hA [0, 1, 2] [] rfl rfl (by decide) (by decide) (fun u2 H locs hw hP hD hS => ?_)
  obtain ⟨r2, v5, v6⟩ := u2
  have hw2 : WA (xs 2) (xs 3) (xs 4) r2 := hw.1
  have hP := hP.sub (ws' := []) [] rfl
  have hD := hD.sub (ws' := []) [] (by decide) rfl
  have hP : va_P D vwCl [] H := hP
  have hD : va_D A [] := hD
  refine lv_icmp_eq (tgt := 947) hx hb dL_law_665 (by decide) (fun c665 => ?_) (fun c665 => absurd (WA.uniq hw1 hw2) c665)
  exact law_end C0 _ _ _ hS (lv_sub hl [0, 3] rfl)
