theorem dL_refuses_517 : decode cL_refuses 517 = .ok (.if_icmp .ne 87, 3) := by decide +kernel
theorem dL_refuses_520 : decode cL_refuses 520 = .ok (.aload_n 0, 1) := by decide +kernel
theorem dL_refuses_521 : decode cL_refuses 521 = .ok (.iload 5, 2) := by decide +kernel
theorem dL_refuses_523 : decode cL_refuses 523 = .ok (.iconst 0, 1) := by decide +kernel
theorem dL_refuses_524 : decode cL_refuses 524 = .ok (.invokestatic 109, 3) := by decide +kernel
theorem dL_refuses_527 : decode cL_refuses 527 = .ok (.ldc 15, 2) := by decide +kernel
theorem dL_refuses_529 : decode cL_refuses 529 = .ok (.if_icmp .ne 75, 3) := by decide +kernel
theorem dL_refuses_532 : decode cL_refuses 532 = .ok (.aload_n 0, 1) := by decide +kernel
theorem dL_refuses_533 : decode cL_refuses 533 = .ok (.iload 5, 2) := by decide +kernel
theorem dL_refuses_535 : decode cL_refuses 535 = .ok (.invokestatic 135, 3) := by decide +kernel
theorem dL_refuses_538 : decode cL_refuses 538 = .ok (.ldc 152, 2) := by decide +kernel
theorem dL_refuses_540 : decode cL_refuses 540 = .ok (.if_icmp .ne 8, 3) := by decide +kernel
theorem dL_refuses_543 : decode cL_refuses 543 = .ok (.iload 6, 2) := by decide +kernel
theorem dL_refuses_545 : decode cL_refuses 545 = .ok (.ifCond .eq 25, 3) := by decide +kernel
theorem dL_refuses_548 : decode cL_refuses 548 = .ok (.aload_n 0, 1) := by decide +kernel
theorem dL_refuses_549 : decode cL_refuses 549 = .ok (.iload 5, 2) := by decide +kernel
theorem dL_refuses_551 : decode cL_refuses 551 = .ok (.aload_n 0, 1) := by decide +kernel
theorem dL_refuses_552 : decode cL_refuses 552 = .ok (.iload 5, 2) := by decide +kernel
theorem dL_refuses_554 : decode cL_refuses 554 = .ok (.invokestatic 135, 3) := by decide +kernel
theorem dL_refuses_557 : decode cL_refuses 557 = .ok (.iload 6, 2) := by decide +kernel
theorem dL_refuses_559 : decode cL_refuses 559 = .ok (.isub, 1) := by decide +kernel
theorem dL_refuses_560 : decode cL_refuses 560 = .ok (.iconst 1, 1) := by decide +kernel
theorem dL_refuses_561 : decode cL_refuses 561 = .ok (.iadd, 1) := by decide +kernel
theorem dL_refuses_562 : decode cL_refuses 562 = .ok (.invokestatic 109, 3) := by decide +kernel
theorem dL_refuses_565 : decode cL_refuses 565 = .ok (.ldc 18, 2) := by decide +kernel
theorem dL_refuses_567 : decode cL_refuses 567 = .ok (.if_icmp .ne 37, 3) := by decide +kernel
theorem dL_refuses_570 : decode cL_refuses 570 = .ok (.aload_n 0, 1) := by decide +kernel
theorem dL_refuses_571 : decode cL_refuses 571 = .ok (.iload 5, 2) := by decide +kernel
theorem dL_refuses_573 : decode cL_refuses 573 = .ok (.invokestatic 139, 3) := by decide +kernel
theorem dL_refuses_576 : decode cL_refuses 576 = .ok (.ldc 152, 2) := by decide +kernel
theorem dL_refuses_578 : decode cL_refuses 578 = .ok (.if_icmp .eq 22, 3) := by decide +kernel
theorem dL_refuses_581 : decode cL_refuses 581 = .ok (.aload_n 0, 1) := by decide +kernel
theorem dL_refuses_582 : decode cL_refuses 582 = .ok (.iload 5, 2) := by decide +kernel
theorem dL_refuses_584 : decode cL_refuses 584 = .ok (.aload_n 0, 1) := by decide +kernel
theorem dL_refuses_585 : decode cL_refuses 585 = .ok (.iload 5, 2) := by decide +kernel
theorem dL_refuses_587 : decode cL_refuses 587 = .ok (.invokestatic 139, 3) := by decide +kernel
theorem dL_refuses_590 : decode cL_refuses 590 = .ok (.iconst 1, 1) := by decide +kernel
theorem dL_refuses_591 : decode cL_refuses 591 = .ok (.iadd, 1) := by decide +kernel
theorem dL_refuses_592 : decode cL_refuses 592 = .ok (.invokestatic 112, 3) := by decide +kernel
theorem dL_refuses_595 : decode cL_refuses 595 = .ok (.ldc 18, 2) := by decide +kernel
theorem dL_refuses_597 : decode cL_refuses 597 = .ok (.if_icmp .ne 7, 3) := by decide +kernel
theorem dL_refuses_600 : decode cL_refuses 600 = .ok (.iconst 1, 1) := by decide +kernel
theorem dL_refuses_601 : decode cL_refuses 601 = .ok (.goto 4, 3) := by decide +kernel
theorem dL_refuses_604 : decode cL_refuses 604 = .ok (.iconst 0, 1) := by decide +kernel
theorem dL_refuses_605 : decode cL_refuses 605 = .ok (.istore 4, 2) := by decide +kernel
theorem dL_refuses_607 : decode cL_refuses 607 = .ok (.iconst 0, 1) := by decide +kernel
theorem dL_refuses_608 : decode cL_refuses 608 = .ok (.istore 5, 2) := by decide +kernel
theorem dL_refuses_610 : decode cL_refuses 610 = .ok (.iload 5, 2) := by decide +kernel
theorem dL_refuses_612 : decode cL_refuses 612 = .ok (.aload_n 0, 1) := by decide +kernel
theorem dL_refuses_613 : decode cL_refuses 613 = .ok (.invokevirtual 89, 3) := by decide +kernel
theorem dL_refuses_616 : decode cL_refuses 616 = .ok (.if_icmp .ge 90, 3) := by decide +kernel
theorem dL_refuses_619 : decode cL_refuses 619 = .ok (.iload 4, 2) := by decide +kernel
theorem dL_refuses_621 : decode cL_refuses 621 = .ok (.ifCond .eq 85, 3) := by decide +kernel
theorem dL_refuses_624 : decode cL_refuses 624 = .ok (.aload_n 0, 1) := by decide +kernel
theorem dL_refuses_625 : decode cL_refuses 625 = .ok (.iload 5, 2) := by decide +kernel
theorem dL_refuses_627 : decode cL_refuses 627 = .ok (.invokestatic 127, 3) := by decide +kernel
theorem dL_refuses_630 : decode cL_refuses 630 = .ok (.istore 6, 2) := by decide +kernel
theorem dL_refuses_632 : decode cL_refuses 632 = .ok (.iload 6, 2) := by decide +kernel
theorem dL_refuses_634 : decode cL_refuses 634 = .ok (.iconst 1, 1) := by decide +kernel
theorem dL_refuses_635 : decode cL_refuses 635 = .ok (.if_icmp .eq 14, 3) := by decide +kernel
theorem dL_refuses_638 : decode cL_refuses 638 = .ok (.aload_n 0, 1) := by decide +kernel
theorem dL_refuses_639 : decode cL_refuses 639 = .ok (.iload 5, 2) := by decide +kernel
theorem dL_refuses_641 : decode cL_refuses 641 = .ok (.invokestatic 124, 3) := by decide +kernel
theorem dL_refuses_644 : decode cL_refuses 644 = .ok (.ldc 18, 2) := by decide +kernel
theorem dL_refuses_646 : decode cL_refuses 646 = .ok (.if_icmp .ne 51, 3) := by decide +kernel
theorem dL_refuses_649 : decode cL_refuses 649 = .ok (.iload 6, 2) := by decide +kernel
theorem dL_refuses_651 : decode cL_refuses 651 = .ok (.ifCond .eq 14, 3) := by decide +kernel
theorem dL_refuses_654 : decode cL_refuses 654 = .ok (.aload_n 0, 1) := by decide +kernel
theorem dL_refuses_655 : decode cL_refuses 655 = .ok (.iload 5, 2) := by decide +kernel
theorem dL_refuses_657 : decode cL_refuses 657 = .ok (.invokestatic 121, 3) := by decide +kernel
theorem dL_refuses_660 : decode cL_refuses 660 = .ok (.ldc 18, 2) := by decide +kernel
theorem dL_refuses_662 : decode cL_refuses 662 = .ok (.if_icmp .ne 35, 3) := by decide +kernel
theorem dL_refuses_665 : decode cL_refuses 665 = .ok (.iload 5, 2) := by decide +kernel
theorem dL_refuses_667 : decode cL_refuses 667 = .ok (.ifCond .eq 26, 3) := by decide +kernel
theorem dL_refuses_670 : decode cL_refuses 670 = .ok (.aload_n 0, 1) := by decide +kernel
theorem dL_refuses_671 : decode cL_refuses 671 = .ok (.iload 5, 2) := by decide +kernel
theorem dL_refuses_673 : decode cL_refuses 673 = .ok (.iconst 1, 1) := by decide +kernel
theorem dL_refuses_674 : decode cL_refuses 674 = .ok (.isub, 1) := by decide +kernel
theorem dL_refuses_675 : decode cL_refuses 675 = .ok (.invokestatic 127, 3) := by decide +kernel
theorem dL_refuses_678 : decode cL_refuses 678 = .ok (.iconst 2, 1) := by decide +kernel
theorem dL_refuses_679 : decode cL_refuses 679 = .ok (.if_icmp .eq 14, 3) := by decide +kernel
theorem dL_refuses_682 : decode cL_refuses 682 = .ok (.aload_n 0, 1) := by decide +kernel
theorem dL_refuses_683 : decode cL_refuses 683 = .ok (.iload 5, 2) := by decide +kernel
theorem dL_refuses_685 : decode cL_refuses 685 = .ok (.invokestatic 121, 3) := by decide +kernel
theorem dL_refuses_688 : decode cL_refuses 688 = .ok (.ldc 18, 2) := by decide +kernel
theorem dL_refuses_690 : decode cL_refuses 690 = .ok (.if_icmp .ne 7, 3) := by decide +kernel
theorem dL_refuses_693 : decode cL_refuses 693 = .ok (.iconst 1, 1) := by decide +kernel
theorem dL_refuses_694 : decode cL_refuses 694 = .ok (.goto 4, 3) := by decide +kernel
theorem dL_refuses_697 : decode cL_refuses 697 = .ok (.iconst 0, 1) := by decide +kernel
theorem dL_refuses_698 : decode cL_refuses 698 = .ok (.istore 4, 2) := by decide +kernel
theorem dL_refuses_700 : decode cL_refuses 700 = .ok (.iinc 5 1, 3) := by decide +kernel
theorem dL_refuses_703 : decode cL_refuses 703 = .ok (.goto (-93), 3) := by decide +kernel
theorem dL_refuses_706 : decode cL_refuses 706 = .ok (.iload 4, 2) := by decide +kernel
theorem dL_refuses_708 : decode cL_refuses 708 = .ok (.ireturn, 1) := by decide +kernel
set_option maxRecDepth 20000 in
theorem ggL_alike_X0_lines : GoodIn wsL_alike wsX0_lines := goodIn_r _ [5, 6, 80, 81, 82, 83, 84, 85, 86, 87, 88, 89, 90, 91, 92, 93, 94] (by decide +kernel) (by decide +kernel)
set_option maxRecDepth 20000 in
theorem gL_alike_X0_lines : GoodIn wsL_alike (wsV RL 86 RX0 yX0_lines wsX0_lines) := goodIn_app (goodIn_of _ (by decide +kernel)) ggL_alike_X0_lines
set_option maxRecDepth 20000 in
theorem ggL_alike_L_work : GoodIn wsL_alike wsL_work := goodIn_ca (goodIn_r _ [10, 11, 12, 13, 14, 15, 4, 16, 17, 18, 19, 20, 21, 22, 23, 6, 80, 81, 82, 83, 84, 85, 86, 87, 88, 89, 90, 91, 92, 93, 94] (by decide +kernel) (by decide +kernel)) (goodIn_sub (fun _ h => List.mem_cons_of_mem _ (List.mem_append_right _ h)) (by decide +kernel))
set_option maxRecDepth 20000 in
theorem gL_alike_L_work : GoodIn wsL_alike (va_wsS RL 137 yL_work wsL_work) := goodIn_app (goodIn_of _ (by decide +kernel)) ggL_alike_L_work
set_option maxRecDepth 20000 in
theorem ggL_alike_L_goods : GoodIn wsL_alike wsL_goods := goodIn_ca (goodIn_r _ [26, 11, 12, 27, 28, 29, 4, 30, 31, 17, 18, 19, 20, 21, 22, 23, 6, 80, 81, 82, 83, 84, 85, 86, 87, 88, 89, 90, 91, 92, 93, 94] (by decide +kernel) (by decide +kernel)) (goodIn_sub (fun _ h => List.mem_cons_of_mem _ (List.mem_append_right _ h)) (by decide +kernel))
set_option maxRecDepth 20000 in
theorem gL_alike_L_goods : GoodIn wsL_alike (va_wsS RL 139 yL_goods wsL_goods) := goodIn_app (goodIn_of _ (by decide +kernel)) ggL_alike_L_goods
set_option maxRecDepth 20000 in
theorem ggL_alike_L_billed : GoodIn wsL_alike wsL_billed := goodIn_ca (goodIn_r _ [34, 11, 12, 35, 36, 37, 4, 38, 39, 18, 19, 20, 21, 22, 23, 6, 80, 81, 82, 83, 84, 85, 86, 87, 88, 89, 90, 91, 92, 93, 94] (by decide +kernel) (by decide +kernel)) (goodIn_sub (fun _ h => List.mem_cons_of_mem _ (List.mem_append_right _ h)) (by decide +kernel))
set_option maxRecDepth 20000 in
theorem gL_alike_L_billed : GoodIn wsL_alike (va_wsS RL 141 yL_billed wsL_billed) := goodIn_app (goodIn_of _ (by decide +kernel)) ggL_alike_L_billed
set_option maxRecDepth 20000 in
theorem ggL_alike_L_held : GoodIn wsL_alike wsL_held := goodIn_ca (goodIn_r _ [42, 11, 12, 43, 44, 45, 4, 46, 47, 18, 19, 20, 21, 22, 23, 6, 80, 81, 82, 83, 84, 85, 86, 87, 88, 89, 90, 91, 92, 93, 94] (by decide +kernel) (by decide +kernel)) (goodIn_sub (fun _ h => List.mem_cons_of_mem _ (List.mem_append_right _ h)) (by decide +kernel))
set_option maxRecDepth 20000 in
theorem gL_alike_L_held : GoodIn wsL_alike (va_wsS RL 143 yL_held wsL_held) := goodIn_app (goodIn_of _ (by decide +kernel)) ggL_alike_L_held
set_option maxRecDepth 20000 in
theorem ggL_alike_X0_contractSum : GoodIn wsL_alike wsX0_contractSum := goodIn_r _ [51, 52, 6, 53, 54, 4, 55, 80, 81, 82, 83, 84, 85, 86, 87, 88, 89, 90, 91, 92, 93, 94] (by decide +kernel) (by decide +kernel)
set_option maxRecDepth 20000 in
theorem gL_alike_X0_contractSum : GoodIn wsL_alike (wsV RL 153 RX0 yX0_contractSum wsX0_contractSum) := goodIn_app (goodIn_of _ (by decide +kernel)) ggL_alike_X0_contractSum
set_option maxRecDepth 20000 in
theorem ggL_alike_X0_progress : GoodIn wsL_alike wsX0_progress := goodIn_r _ [59, 17, 6, 53, 54, 4, 55, 60, 49, 50, 51, 52, 61, 62, 63, 64, 65, 66, 67, 80, 81, 82, 83, 84, 85, 86, 87, 88, 89, 90, 91, 92, 93, 94] (by decide +kernel) (by decide +kernel)
set_option maxRecDepth 20000 in
theorem gL_alike_X0_progress : GoodIn wsL_alike (wsV RL 156 RX0 yX0_progress wsX0_progress) := goodIn_app (goodIn_of _ (by decide +kernel)) ggL_alike_X0_progress
set_option maxRecDepth 20000 in
theorem ggL_alike_X0_rate : GoodIn wsL_alike wsX0_rate := goodIn_r _ [71, 72, 73, 74, 75, 57, 58, 4, 59, 17, 6, 53, 54, 55, 60, 49, 50, 51, 52, 61, 62, 63, 64, 65, 66, 67, 80, 81, 82, 83, 84, 85, 86, 87, 88, 89, 90, 91, 92, 93, 94] (by decide +kernel) (by decide +kernel)
set_option maxRecDepth 20000 in
theorem gL_alike_X0_rate : GoodIn wsL_alike (wsV RL 159 RX0 yX0_rate wsX0_rate) := goodIn_app (goodIn_of _ (by decide +kernel)) ggL_alike_X0_rate
set_option maxRecDepth 20000 in
theorem ggL_alike_X0_steps : GoodIn wsL_alike wsX0_steps := goodIn_r _ [79, 72, 80, 81, 82, 83, 84, 85, 86, 87, 88, 89, 90, 91, 92, 93, 94] (by decide +kernel) (by decide +kernel)
set_option maxRecDepth 20000 in
theorem gL_alike_X0_steps : GoodIn wsL_alike (wsV RL 162 RX0 yX0_steps wsX0_steps) := goodIn_app (goodIn_of _ (by decide +kernel)) ggL_alike_X0_steps
theorem dL_alike_0 : decode cL_alike 0 = .ok (.iconst 0, 1) := by decide +kernel
theorem dL_alike_1 : decode cL_alike 1 = .ok (.istore_n 2, 1) := by decide +kernel
theorem dL_alike_2 : decode cL_alike 2 = .ok (.iconst 0, 1) := by decide +kernel
theorem dL_alike_3 : decode cL_alike 3 = .ok (.istore_n 3, 1) := by decide +kernel
theorem dL_alike_4 : decode cL_alike 4 = .ok (.iconst 0, 1) := by decide +kernel
theorem dL_alike_5 : decode cL_alike 5 = .ok (.istore 4, 2) := by decide +kernel
theorem dL_alike_7 : decode cL_alike 7 = .ok (.iconst 0, 1) := by decide +kernel
theorem dL_alike_8 : decode cL_alike 8 = .ok (.istore 5, 2) := by decide +kernel
theorem dL_alike_10 : decode cL_alike 10 = .ok (.iconst 0, 1) := by decide +kernel
theorem dL_alike_11 : decode cL_alike 11 = .ok (.istore 6, 2) := by decide +kernel
theorem dL_alike_13 : decode cL_alike 13 = .ok (.iload 6, 2) := by decide +kernel
theorem dL_alike_15 : decode cL_alike 15 = .ok (.aload_n 0, 1) := by decide +kernel
theorem dL_alike_16 : decode cL_alike 16 = .ok (.invokevirtual 86, 3) := by decide +kernel
theorem dL_alike_19 : decode cL_alike 19 = .ok (.if_icmp .ge 49, 3) := by decide +kernel
theorem dL_alike_22 : decode cL_alike 22 = .ok (.iload_n 2, 1) := by decide +kernel
theorem dL_alike_23 : decode cL_alike 23 = .ok (.aload_n 0, 1) := by decide +kernel
theorem dL_alike_24 : decode cL_alike 24 = .ok (.iload 6, 2) := by decide +kernel
theorem dL_alike_26 : decode cL_alike 26 = .ok (.invokestatic 137, 3) := by decide +kernel
theorem dL_alike_29 : decode cL_alike 29 = .ok (.iadd, 1) := by decide +kernel
theorem dL_alike_30 : decode cL_alike 30 = .ok (.istore_n 2, 1) := by decide +kernel
theorem dL_alike_31 : decode cL_alike 31 = .ok (.iload_n 3, 1) := by decide +kernel
theorem dL_alike_32 : decode cL_alike 32 = .ok (.aload_n 0, 1) := by decide +kernel
theorem dL_alike_33 : decode cL_alike 33 = .ok (.iload 6, 2) := by decide +kernel
theorem dL_alike_35 : decode cL_alike 35 = .ok (.invokestatic 139, 3) := by decide +kernel
theorem dL_alike_38 : decode cL_alike 38 = .ok (.iadd, 1) := by decide +kernel
theorem dL_alike_39 : decode cL_alike 39 = .ok (.istore_n 3, 1) := by decide +kernel
theorem dL_alike_40 : decode cL_alike 40 = .ok (.iload 4, 2) := by decide +kernel
theorem dL_alike_42 : decode cL_alike 42 = .ok (.aload_n 0, 1) := by decide +kernel
theorem dL_alike_43 : decode cL_alike 43 = .ok (.iload 6, 2) := by decide +kernel
theorem dL_alike_45 : decode cL_alike 45 = .ok (.invokestatic 141, 3) := by decide +kernel
theorem dL_alike_48 : decode cL_alike 48 = .ok (.iadd, 1) := by decide +kernel
theorem dL_alike_49 : decode cL_alike 49 = .ok (.istore 4, 2) := by decide +kernel
theorem dL_alike_51 : decode cL_alike 51 = .ok (.iload 5, 2) := by decide +kernel
theorem dL_alike_53 : decode cL_alike 53 = .ok (.aload_n 0, 1) := by decide +kernel
theorem dL_alike_54 : decode cL_alike 54 = .ok (.iload 6, 2) := by decide +kernel
theorem dL_alike_56 : decode cL_alike 56 = .ok (.invokestatic 143, 3) := by decide +kernel
theorem dL_alike_59 : decode cL_alike 59 = .ok (.iadd, 1) := by decide +kernel
theorem dL_alike_60 : decode cL_alike 60 = .ok (.istore 5, 2) := by decide +kernel
theorem dL_alike_62 : decode cL_alike 62 = .ok (.iinc 6 1, 3) := by decide +kernel
theorem dL_alike_65 : decode cL_alike 65 = .ok (.goto (-52), 3) := by decide +kernel
theorem dL_alike_68 : decode cL_alike 68 = .ok (.iconst 0, 1) := by decide +kernel
theorem dL_alike_69 : decode cL_alike 69 = .ok (.istore 6, 2) := by decide +kernel
theorem dL_alike_71 : decode cL_alike 71 = .ok (.iload 6, 2) := by decide +kernel
theorem dL_alike_73 : decode cL_alike 73 = .ok (.aload_n 1, 1) := by decide +kernel
theorem dL_alike_74 : decode cL_alike 74 = .ok (.invokevirtual 86, 3) := by decide +kernel
theorem dL_alike_77 : decode cL_alike 77 = .ok (.if_icmp .ge 49, 3) := by decide +kernel
theorem dL_alike_80 : decode cL_alike 80 = .ok (.iload_n 2, 1) := by decide +kernel
theorem dL_alike_81 : decode cL_alike 81 = .ok (.aload_n 1, 1) := by decide +kernel
theorem dL_alike_82 : decode cL_alike 82 = .ok (.iload 6, 2) := by decide +kernel
theorem dL_alike_84 : decode cL_alike 84 = .ok (.invokestatic 137, 3) := by decide +kernel
theorem dL_alike_87 : decode cL_alike 87 = .ok (.isub, 1) := by decide +kernel
theorem dL_alike_88 : decode cL_alike 88 = .ok (.istore_n 2, 1) := by decide +kernel
theorem dL_alike_89 : decode cL_alike 89 = .ok (.iload_n 3, 1) := by decide +kernel
theorem dL_alike_90 : decode cL_alike 90 = .ok (.aload_n 1, 1) := by decide +kernel
theorem dL_alike_91 : decode cL_alike 91 = .ok (.iload 6, 2) := by decide +kernel
theorem dL_alike_93 : decode cL_alike 93 = .ok (.invokestatic 139, 3) := by decide +kernel
theorem dL_alike_96 : decode cL_alike 96 = .ok (.isub, 1) := by decide +kernel
theorem dL_alike_97 : decode cL_alike 97 = .ok (.istore_n 3, 1) := by decide +kernel
theorem dL_alike_98 : decode cL_alike 98 = .ok (.iload 4, 2) := by decide +kernel
theorem dL_alike_100 : decode cL_alike 100 = .ok (.aload_n 1, 1) := by decide +kernel
theorem dL_alike_101 : decode cL_alike 101 = .ok (.iload 6, 2) := by decide +kernel
theorem dL_alike_103 : decode cL_alike 103 = .ok (.invokestatic 141, 3) := by decide +kernel
theorem dL_alike_106 : decode cL_alike 106 = .ok (.isub, 1) := by decide +kernel
theorem dL_alike_107 : decode cL_alike 107 = .ok (.istore 4, 2) := by decide +kernel
theorem dL_alike_109 : decode cL_alike 109 = .ok (.iload 5, 2) := by decide +kernel
theorem dL_alike_111 : decode cL_alike 111 = .ok (.aload_n 1, 1) := by decide +kernel
theorem dL_alike_112 : decode cL_alike 112 = .ok (.iload 6, 2) := by decide +kernel
theorem dL_alike_114 : decode cL_alike 114 = .ok (.invokestatic 143, 3) := by decide +kernel
theorem dL_alike_117 : decode cL_alike 117 = .ok (.isub, 1) := by decide +kernel
theorem dL_alike_118 : decode cL_alike 118 = .ok (.istore 5, 2) := by decide +kernel
theorem dL_alike_120 : decode cL_alike 120 = .ok (.iinc 6 1, 3) := by decide +kernel
theorem dL_alike_123 : decode cL_alike 123 = .ok (.goto (-52), 3) := by decide +kernel
theorem dL_alike_126 : decode cL_alike 126 = .ok (.iload_n 2, 1) := by decide +kernel
theorem dL_alike_127 : decode cL_alike 127 = .ok (.ifCond .ne 65, 3) := by decide +kernel
theorem dL_alike_130 : decode cL_alike 130 = .ok (.iload_n 3, 1) := by decide +kernel
theorem dL_alike_131 : decode cL_alike 131 = .ok (.ifCond .ne 61, 3) := by decide +kernel
theorem dL_alike_134 : decode cL_alike 134 = .ok (.iload 4, 2) := by decide +kernel
theorem dL_alike_136 : decode cL_alike 136 = .ok (.ifCond .ne 56, 3) := by decide +kernel
theorem dL_alike_139 : decode cL_alike 139 = .ok (.iload 5, 2) := by decide +kernel
theorem dL_alike_141 : decode cL_alike 141 = .ok (.ifCond .ne 51, 3) := by decide +kernel
theorem dL_alike_144 : decode cL_alike 144 = .ok (.aload_n 0, 1) := by decide +kernel
theorem dL_alike_145 : decode cL_alike 145 = .ok (.invokevirtual 153, 3) := by decide +kernel
theorem dL_alike_148 : decode cL_alike 148 = .ok (.aload_n 1, 1) := by decide +kernel
theorem dL_alike_149 : decode cL_alike 149 = .ok (.invokevirtual 153, 3) := by decide +kernel
theorem dL_alike_152 : decode cL_alike 152 = .ok (.if_icmp .ne 40, 3) := by decide +kernel
theorem dL_alike_155 : decode cL_alike 155 = .ok (.aload_n 0, 1) := by decide +kernel
theorem dL_alike_156 : decode cL_alike 156 = .ok (.invokevirtual 156, 3) := by decide +kernel
theorem dL_alike_159 : decode cL_alike 159 = .ok (.aload_n 1, 1) := by decide +kernel
theorem dL_alike_160 : decode cL_alike 160 = .ok (.invokevirtual 156, 3) := by decide +kernel
theorem dL_alike_163 : decode cL_alike 163 = .ok (.if_icmp .ne 29, 3) := by decide +kernel
theorem dL_alike_166 : decode cL_alike 166 = .ok (.aload_n 0, 1) := by decide +kernel
theorem dL_alike_167 : decode cL_alike 167 = .ok (.invokevirtual 159, 3) := by decide +kernel
theorem dL_alike_170 : decode cL_alike 170 = .ok (.aload_n 1, 1) := by decide +kernel
theorem dL_alike_171 : decode cL_alike 171 = .ok (.invokevirtual 159, 3) := by decide +kernel
theorem dL_alike_174 : decode cL_alike 174 = .ok (.if_icmp .ne 18, 3) := by decide +kernel
theorem dL_alike_177 : decode cL_alike 177 = .ok (.aload_n 0, 1) := by decide +kernel
theorem dL_alike_178 : decode cL_alike 178 = .ok (.invokevirtual 162, 3) := by decide +kernel
theorem dL_alike_181 : decode cL_alike 181 = .ok (.aload_n 1, 1) := by decide +kernel
theorem dL_alike_182 : decode cL_alike 182 = .ok (.invokevirtual 162, 3) := by decide +kernel
theorem dL_alike_185 : decode cL_alike 185 = .ok (.if_icmp .ne 7, 3) := by decide +kernel
theorem dL_alike_188 : decode cL_alike 188 = .ok (.iconst 1, 1) := by decide +kernel
theorem dL_alike_189 : decode cL_alike 189 = .ok (.goto 4, 3) := by decide +kernel
theorem dL_alike_192 : decode cL_alike 192 = .ok (.iconst 0, 1) := by decide +kernel
theorem dL_alike_193 : decode cL_alike 193 = .ok (.ireturn, 1) := by decide +kernel
set_option maxRecDepth 20000 in
theorem ggL_holds_X0_lines : GoodIn wsL_holds wsX0_lines := goodIn_r _ [6, 7, 149, 150, 151, 152, 153, 154, 155, 156, 157, 158, 159, 160, 161, 162, 163] (by decide +kernel) (by decide +kernel)
set_option maxRecDepth 20000 in
theorem gL_holds_X0_lines : GoodIn wsL_holds (wsV RL 86 RX0 yX0_lines wsX0_lines) := goodIn_app (goodIn_of _ (by decide +kernel)) ggL_holds_X0_lines
set_option maxRecDepth 20000 in
theorem ggL_holds_L_work : GoodIn wsL_holds wsL_work := goodIn_ca (goodIn_r _ [11, 12, 13, 14, 15, 16, 5, 17, 18, 19, 20, 21, 22, 23, 24, 7, 149, 150, 151, 152, 153, 154, 155, 156, 157, 158, 159, 160, 161, 162, 163] (by decide +kernel) (by decide +kernel)) (goodIn_sub (fun _ h => List.mem_cons_of_mem _ (List.mem_append_right _ h)) (by decide +kernel))
set_option maxRecDepth 20000 in
theorem gL_holds_L_work : GoodIn wsL_holds (va_wsS RL 137 yL_work wsL_work) := goodIn_app (goodIn_of _ (by decide +kernel)) ggL_holds_L_work
set_option maxRecDepth 20000 in
theorem ggL_holds_L_goods : GoodIn wsL_holds wsL_goods := goodIn_ca (goodIn_r _ [27, 12, 13, 28, 29, 30, 5, 31, 32, 18, 19, 20, 21, 22, 23, 24, 7, 149, 150, 151, 152, 153, 154, 155, 156, 157, 158, 159, 160, 161, 162, 163] (by decide +kernel) (by decide +kernel)) (goodIn_sub (fun _ h => List.mem_cons_of_mem _ (List.mem_append_right _ h)) (by decide +kernel))
set_option maxRecDepth 20000 in
theorem gL_holds_L_goods : GoodIn wsL_holds (va_wsS RL 139 yL_goods wsL_goods) := goodIn_app (goodIn_of _ (by decide +kernel)) ggL_holds_L_goods
set_option maxRecDepth 20000 in
theorem ggL_holds_L_value : GoodIn wsL_holds wsL_value := goodIn_ca (goodIn_r _ [35, 12, 13, 36, 37, 38, 5, 39, 40, 19, 20, 21, 22, 23, 24, 7, 149, 150, 151, 152, 153, 154, 155, 156, 157, 158, 159, 160, 161, 162, 163] (by decide +kernel) (by decide +kernel)) (goodIn_sub (fun _ h => List.mem_cons_of_mem _ (List.mem_append_right _ h)) (by decide +kernel))
set_option maxRecDepth 20000 in
theorem gL_holds_L_value : GoodIn wsL_holds (va_wsS RL 135 yL_value wsL_value) := goodIn_app (goodIn_of _ (by decide +kernel)) ggL_holds_L_value
set_option maxRecDepth 20000 in
theorem ggL_holds_L_billed : GoodIn wsL_holds wsL_billed := goodIn_ca (goodIn_r _ [43, 12, 13, 44, 45, 46, 5, 47, 48, 19, 20, 21, 22, 23, 24, 7, 149, 150, 151, 152, 153, 154, 155, 156, 157, 158, 159, 160, 161, 162, 163] (by decide +kernel) (by decide +kernel)) (goodIn_sub (fun _ h => List.mem_cons_of_mem _ (List.mem_append_right _ h)) (by decide +kernel))
set_option maxRecDepth 20000 in
theorem gL_holds_L_billed : GoodIn wsL_holds (va_wsS RL 141 yL_billed wsL_billed) := goodIn_app (goodIn_of _ (by decide +kernel)) ggL_holds_L_billed
set_option maxRecDepth 20000 in
theorem ggL_holds_L_held : GoodIn wsL_holds wsL_held := goodIn_ca (goodIn_r _ [51, 12, 13, 52, 53, 54, 5, 55, 56, 19, 20, 21, 22, 23, 24, 7, 149, 150, 151, 152, 153, 154, 155, 156, 157, 158, 159, 160, 161, 162, 163] (by decide +kernel) (by decide +kernel)) (goodIn_sub (fun _ h => List.mem_cons_of_mem _ (List.mem_append_right _ h)) (by decide +kernel))
set_option maxRecDepth 20000 in
theorem gL_holds_L_held : GoodIn wsL_holds (va_wsS RL 143 yL_held wsL_held) := goodIn_app (goodIn_of _ (by decide +kernel)) ggL_holds_L_held
set_option maxRecDepth 20000 in
theorem ggL_holds_X0_applications : GoodIn wsL_holds wsX0_applications := goodIn_r _ [60, 61, 149, 150, 151, 152, 153, 154, 155, 156, 157, 158, 159, 160, 161, 162, 163] (by decide +kernel) (by decide +kernel)
set_option maxRecDepth 20000 in
theorem gL_holds_X0_applications : GoodIn wsL_holds (wsV RL 89 RX0 yX0_applications wsX0_applications) := goodIn_app (goodIn_of _ (by decide +kernel)) ggL_holds_X0_applications
set_option maxRecDepth 20000 in
theorem ggL_holds_L_state : GoodIn wsL_holds wsL_state := goodIn_ca (goodIn_r _ [64, 12, 13, 65, 66, 67, 5, 68, 69, 70, 71, 72, 73, 23, 24, 61, 149, 150, 151, 152, 153, 154, 155, 156, 157, 158, 159, 160, 161, 162, 163] (by decide +kernel) (by decide +kernel)) (goodIn_sub (fun _ h => List.mem_cons_of_mem _ (List.mem_append_right _ h)) (by decide +kernel))
set_option maxRecDepth 20000 in
theorem gL_holds_L_state : GoodIn wsL_holds (va_wsS RL 127 yL_state wsL_state) := goodIn_app (goodIn_of _ (by decide +kernel)) ggL_holds_L_state
set_option maxRecDepth 20000 in
theorem ggL_holds_L_amount : GoodIn wsL_holds wsL_amount := goodIn_ca (goodIn_r _ [76, 12, 13, 77, 78, 79, 5, 80, 81, 70, 71, 72, 73, 23, 24, 61, 149, 150, 151, 152, 153, 154, 155, 156, 157, 158, 159, 160, 161, 162, 163] (by decide +kernel) (by decide +kernel)) (goodIn_sub (fun _ h => List.mem_cons_of_mem _ (List.mem_append_right _ h)) (by decide +kernel))
set_option maxRecDepth 20000 in
theorem gL_holds_L_amount : GoodIn wsL_holds (va_wsS RL 129 yL_amount wsL_amount) := goodIn_app (goodIn_of _ (by decide +kernel)) ggL_holds_L_amount
set_option maxRecDepth 20000 in
theorem ggL_holds_L_billedBehind : GoodIn wsL_holds wsL_billedBehind := goodIn_ca (goodIn_r _ [84, 12, 13, 85, 86, 87, 5, 88, 89, 70, 71, 72, 73, 23, 24, 61, 149, 150, 151, 152, 153, 154, 155, 156, 157, 158, 159, 160, 161, 162, 163] (by decide +kernel) (by decide +kernel)) (goodIn_sub (fun _ h => List.mem_cons_of_mem _ (List.mem_append_right _ h)) (by decide +kernel))
set_option maxRecDepth 20000 in
theorem gL_holds_L_billedBehind : GoodIn wsL_holds (va_wsS RL 131 yL_billedBehind wsL_billedBehind) := goodIn_app (goodIn_of _ (by decide +kernel)) ggL_holds_L_billedBehind
set_option maxRecDepth 20000 in
theorem ggL_holds_L_heldBehind : GoodIn wsL_holds wsL_heldBehind := goodIn_ca (goodIn_r _ [92, 12, 13, 93, 94, 95, 5, 96, 97, 70, 71, 72, 73, 23, 24, 61, 149, 150, 151, 152, 153, 154, 155, 156, 157, 158, 159, 160, 161, 162, 163] (by decide +kernel) (by decide +kernel)) (goodIn_sub (fun _ h => List.mem_cons_of_mem _ (List.mem_append_right _ h)) (by decide +kernel))
set_option maxRecDepth 20000 in
theorem gL_holds_L_heldBehind : GoodIn wsL_holds (va_wsS RL 133 yL_heldBehind wsL_heldBehind) := goodIn_app (goodIn_of _ (by decide +kernel)) ggL_holds_L_heldBehind
set_option maxRecDepth 20000 in
theorem ggL_holds_L_byShare : GoodIn wsL_holds wsL_byShare := goodIn_ca (goodIn_r _ [100, 12, 13, 101, 102, 103, 5, 104, 7, 19, 20, 21, 22, 23, 24, 105, 106, 107, 108, 109, 110, 111, 112, 18, 113, 114, 115, 116, 40, 117, 118, 119, 120, 149, 150, 151, 152, 153, 154, 155, 156, 157, 158, 159, 160, 161, 162, 163] (by decide +kernel) (by decide +kernel)) (goodIn_sub (fun _ h => List.mem_cons_of_mem _ (List.mem_append_right _ h)) (by decide +kernel))
set_option maxRecDepth 20000 in
theorem gL_holds_L_byShare : GoodIn wsL_holds (va_wsS RL 145 yL_byShare wsL_byShare) := goodIn_app (goodIn_of _ (by decide +kernel)) ggL_holds_L_byShare
set_option maxRecDepth 20000 in
theorem ggL_holds_X0_contractSum : GoodIn wsL_holds wsX0_contractSum := goodIn_r _ [124, 40, 7, 125, 126, 5, 127, 149, 150, 151, 152, 153, 154, 155, 156, 157, 158, 159, 160, 161, 162, 163] (by decide +kernel) (by decide +kernel)
set_option maxRecDepth 20000 in
theorem gL_holds_X0_contractSum : GoodIn wsL_holds (wsV RL 153 RX0 yX0_contractSum wsX0_contractSum) := goodIn_app (goodIn_of _ (by decide +kernel)) ggL_holds_X0_contractSum
set_option maxRecDepth 20000 in
theorem ggL_holds_X0_paid : GoodIn wsL_holds wsX0_paid := goodIn_r _ [131, 61, 69, 81, 149, 150, 151, 152, 153, 154, 155, 156, 157, 158, 159, 160, 161, 162, 163] (by decide +kernel) (by decide +kernel)
set_option maxRecDepth 20000 in
theorem gL_holds_X0_paid : GoodIn wsL_holds (wsV RL 165 RX0 yX0_paid wsX0_paid) := goodIn_app (goodIn_of _ (by decide +kernel)) ggL_holds_X0_paid
set_option maxRecDepth 20000 in
theorem ggL_holds_X0_toCome : GoodIn wsL_holds wsX0_toCome := goodIn_r _ [135, 136, 122, 123, 5, 124, 40, 7, 125, 126, 127, 137, 129, 130, 131, 61, 69, 81, 149, 150, 151, 152, 153, 154, 155, 156, 157, 158, 159, 160, 161, 162, 163] (by decide +kernel) (by decide +kernel)
set_option maxRecDepth 20000 in
theorem gL_holds_X0_toCome : GoodIn wsL_holds (wsV RL 168 RX0 yX0_toCome wsX0_toCome) := goodIn_app (goodIn_of _ (by decide +kernel)) ggL_holds_X0_toCome
set_option maxRecDepth 20000 in
theorem ggL_holds_X0_progress : GoodIn wsL_holds wsX0_progress := goodIn_r _ [141, 18, 7, 125, 126, 5, 127, 136, 122, 123, 124, 40, 142, 143, 144, 145, 146, 147, 148, 149, 150, 151, 152, 153, 154, 155, 156, 157, 158, 159, 160, 161, 162, 163] (by decide +kernel) (by decide +kernel)
set_option maxRecDepth 20000 in
theorem gL_holds_X0_progress : GoodIn wsL_holds (wsV RL 156 RX0 yX0_progress wsX0_progress) := goodIn_app (goodIn_of _ (by decide +kernel)) ggL_holds_X0_progress
theorem dL_holds_0 : decode cL_holds 0 = .ok (.iconst 0, 1) := by decide +kernel
theorem dL_holds_1 : decode cL_holds 1 = .ok (.istore_n 1, 1) := by decide +kernel
theorem dL_holds_2 : decode cL_holds 2 = .ok (.lconst 0, 1) := by decide +kernel
theorem dL_holds_3 : decode cL_holds 3 = .ok (.lstore_n 2, 1) := by decide +kernel
theorem dL_holds_4 : decode cL_holds 4 = .ok (.iconst 0, 1) := by decide +kernel
theorem dL_holds_5 : decode cL_holds 5 = .ok (.istore 4, 2) := by decide +kernel
theorem dL_holds_7 : decode cL_holds 7 = .ok (.iconst 0, 1) := by decide +kernel
theorem dL_holds_8 : decode cL_holds 8 = .ok (.istore 5, 2) := by decide +kernel
theorem dL_holds_10 : decode cL_holds 10 = .ok (.iconst 2, 1) := by decide +kernel
theorem dL_holds_11 : decode cL_holds 11 = .ok (.istore 6, 2) := by decide +kernel
theorem dL_holds_13 : decode cL_holds 13 = .ok (.iconst 1, 1) := by decide +kernel
theorem dL_holds_14 : decode cL_holds 14 = .ok (.istore 7, 2) := by decide +kernel
theorem dL_holds_16 : decode cL_holds 16 = .ok (.iconst 0, 1) := by decide +kernel
theorem dL_holds_17 : decode cL_holds 17 = .ok (.istore 8, 2) := by decide +kernel
theorem dL_holds_19 : decode cL_holds 19 = .ok (.iload 8, 2) := by decide +kernel
theorem dL_holds_21 : decode cL_holds 21 = .ok (.aload_n 0, 1) := by decide +kernel
theorem dL_holds_22 : decode cL_holds 22 = .ok (.invokevirtual 86, 3) := by decide +kernel
theorem dL_holds_25 : decode cL_holds 25 = .ok (.if_icmp .ge 113, 3) := by decide +kernel
theorem dL_holds_28 : decode cL_holds 28 = .ok (.iload 7, 2) := by decide +kernel
theorem dL_holds_30 : decode cL_holds 30 = .ok (.ifCond .eq 108, 3) := by decide +kernel
theorem dL_holds_33 : decode cL_holds 33 = .ok (.aload_n 0, 1) := by decide +kernel
theorem dL_holds_34 : decode cL_holds 34 = .ok (.iload 8, 2) := by decide +kernel
theorem dL_holds_36 : decode cL_holds 36 = .ok (.invokestatic 137, 3) := by decide +kernel
theorem dL_holds_39 : decode cL_holds 39 = .ok (.aload_n 0, 1) := by decide +kernel
theorem dL_holds_40 : decode cL_holds 40 = .ok (.iload 8, 2) := by decide +kernel
theorem dL_holds_42 : decode cL_holds 42 = .ok (.invokestatic 139, 3) := by decide +kernel
theorem dL_holds_45 : decode cL_holds 45 = .ok (.iadd, 1) := by decide +kernel
theorem dL_holds_46 : decode cL_holds 46 = .ok (.istore 9, 2) := by decide +kernel
theorem dL_holds_48 : decode cL_holds 48 = .ok (.iload_n 1, 1) := by decide +kernel
theorem dL_holds_49 : decode cL_holds 49 = .ok (.aload_n 0, 1) := by decide +kernel
theorem dL_holds_50 : decode cL_holds 50 = .ok (.iload 8, 2) := by decide +kernel
theorem dL_holds_52 : decode cL_holds 52 = .ok (.invokestatic 135, 3) := by decide +kernel
