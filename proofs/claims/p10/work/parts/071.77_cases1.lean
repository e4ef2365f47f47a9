theorem dL_law_531 : decode cL_law 531 = .ok (.aload_n 1, 1) := by decide +kernel
theorem dL_law_532 : decode cL_law 532 = .ok (.aload_n 0, 1) := by decide +kernel
theorem dL_law_533 : decode cL_law 533 = .ok (.iload_n 3, 1) := by decide +kernel
theorem dL_law_534 : decode cL_law 534 = .ok (.iconst 1, 1) := by decide +kernel
theorem dL_law_535 : decode cL_law 535 = .ok (.iadd, 1) := by decide +kernel
theorem dL_law_536 : decode cL_law 536 = .ok (.iaload, 1) := by decide +kernel
theorem dL_law_537 : decode cL_law 537 = .ok (.aload_n 0, 1) := by decide +kernel
theorem dL_law_538 : decode cL_law 538 = .ok (.iload_n 3, 1) := by decide +kernel
theorem dL_law_539 : decode cL_law 539 = .ok (.iconst 2, 1) := by decide +kernel
theorem dL_law_540 : decode cL_law 540 = .ok (.iadd, 1) := by decide +kernel
theorem dL_law_541 : decode cL_law 541 = .ok (.iaload, 1) := by decide +kernel
theorem dL_law_542 : decode cL_law 542 = .ok (.invokevirtual 53, 3) := by decide +kernel
theorem dL_law_545 : decode cL_law 545 = .ok (.pop, 1) := by decide +kernel
theorem dL_law_546 : decode cL_law 546 = .ok (.aload_n 2, 1) := by decide +kernel
theorem dL_law_547 : decode cL_law 547 = .ok (.aload_n 0, 1) := by decide +kernel
theorem dL_law_548 : decode cL_law 548 = .ok (.iload_n 3, 1) := by decide +kernel
theorem dL_law_549 : decode cL_law 549 = .ok (.iconst 1, 1) := by decide +kernel
theorem dL_law_550 : decode cL_law 550 = .ok (.iadd, 1) := by decide +kernel
theorem dL_law_551 : decode cL_law 551 = .ok (.iaload, 1) := by decide +kernel
theorem dL_law_552 : decode cL_law 552 = .ok (.aload_n 0, 1) := by decide +kernel
theorem dL_law_553 : decode cL_law 553 = .ok (.iload_n 3, 1) := by decide +kernel
theorem dL_law_554 : decode cL_law 554 = .ok (.iconst 2, 1) := by decide +kernel
theorem dL_law_555 : decode cL_law 555 = .ok (.iadd, 1) := by decide +kernel
theorem dL_law_556 : decode cL_law 556 = .ok (.iaload, 1) := by decide +kernel
theorem dL_law_557 : decode cL_law 557 = .ok (.invokevirtual 56, 3) := by decide +kernel
theorem dL_law_560 : decode cL_law 560 = .ok (.pop, 1) := by decide +kernel
theorem dL_law_561 : decode cL_law 561 = .ok (.goto 1495, 3) := by decide +kernel
theorem dL_law_564 : decode cL_law 564 = .ok (.aload_n 1, 1) := by decide +kernel
theorem dL_law_565 : decode cL_law 565 = .ok (.aload_n 0, 1) := by decide +kernel
theorem dL_law_566 : decode cL_law 566 = .ok (.iload_n 3, 1) := by decide +kernel
theorem dL_law_567 : decode cL_law 567 = .ok (.iconst 1, 1) := by decide +kernel
theorem dL_law_568 : decode cL_law 568 = .ok (.iadd, 1) := by decide +kernel
theorem dL_law_569 : decode cL_law 569 = .ok (.iaload, 1) := by decide +kernel
theorem dL_law_570 : decode cL_law 570 = .ok (.invokevirtual 57, 3) := by decide +kernel
theorem dL_law_573 : decode cL_law 573 = .ok (.pop, 1) := by decide +kernel
theorem dL_law_574 : decode cL_law 574 = .ok (.aload_n 2, 1) := by decide +kernel
theorem dL_law_575 : decode cL_law 575 = .ok (.aload_n 0, 1) := by decide +kernel
theorem dL_law_576 : decode cL_law 576 = .ok (.iload_n 3, 1) := by decide +kernel
theorem dL_law_577 : decode cL_law 577 = .ok (.iconst 1, 1) := by decide +kernel
theorem dL_law_578 : decode cL_law 578 = .ok (.iadd, 1) := by decide +kernel
theorem dL_law_579 : decode cL_law 579 = .ok (.iaload, 1) := by decide +kernel
theorem dL_law_580 : decode cL_law 580 = .ok (.invokevirtual 60, 3) := by decide +kernel
theorem dL_law_583 : decode cL_law 583 = .ok (.pop, 1) := by decide +kernel
theorem dL_law_584 : decode cL_law 584 = .ok (.goto 1472, 3) := by decide +kernel
theorem dL_law_587 : decode cL_law 587 = .ok (.aload_n 1, 1) := by decide +kernel
theorem dL_law_588 : decode cL_law 588 = .ok (.aload_n 0, 1) := by decide +kernel
theorem dL_law_589 : decode cL_law 589 = .ok (.iload_n 3, 1) := by decide +kernel
theorem dL_law_590 : decode cL_law 590 = .ok (.iconst 1, 1) := by decide +kernel
theorem dL_law_591 : decode cL_law 591 = .ok (.iadd, 1) := by decide +kernel
theorem dL_law_592 : decode cL_law 592 = .ok (.iaload, 1) := by decide +kernel
theorem dL_law_593 : decode cL_law 593 = .ok (.aload_n 0, 1) := by decide +kernel
theorem dL_law_594 : decode cL_law 594 = .ok (.iload_n 3, 1) := by decide +kernel
theorem dL_law_595 : decode cL_law 595 = .ok (.iconst 2, 1) := by decide +kernel
theorem dL_law_596 : decode cL_law 596 = .ok (.iadd, 1) := by decide +kernel
theorem dL_law_597 : decode cL_law 597 = .ok (.iaload, 1) := by decide +kernel
theorem dL_law_598 : decode cL_law 598 = .ok (.invokevirtual 61, 3) := by decide +kernel
theorem dL_law_601 : decode cL_law 601 = .ok (.pop, 1) := by decide +kernel
theorem dL_law_602 : decode cL_law 602 = .ok (.aload_n 2, 1) := by decide +kernel
theorem dL_law_603 : decode cL_law 603 = .ok (.aload_n 0, 1) := by decide +kernel
theorem dL_law_604 : decode cL_law 604 = .ok (.iload_n 3, 1) := by decide +kernel
theorem dL_law_605 : decode cL_law 605 = .ok (.iconst 1, 1) := by decide +kernel
theorem dL_law_606 : decode cL_law 606 = .ok (.iadd, 1) := by decide +kernel
theorem dL_law_607 : decode cL_law 607 = .ok (.iaload, 1) := by decide +kernel
theorem dL_law_608 : decode cL_law 608 = .ok (.aload_n 0, 1) := by decide +kernel
theorem dL_law_609 : decode cL_law 609 = .ok (.iload_n 3, 1) := by decide +kernel
theorem dL_law_610 : decode cL_law 610 = .ok (.iconst 2, 1) := by decide +kernel
theorem dL_law_611 : decode cL_law 611 = .ok (.iadd, 1) := by decide +kernel
theorem dL_law_612 : decode cL_law 612 = .ok (.iaload, 1) := by decide +kernel
theorem dL_law_613 : decode cL_law 613 = .ok (.invokevirtual 64, 3) := by decide +kernel
theorem dL_law_616 : decode cL_law 616 = .ok (.pop, 1) := by decide +kernel
theorem dL_law_617 : decode cL_law 617 = .ok (.goto 1439, 3) := by decide +kernel
theorem dL_law_620 : decode cL_law 620 = .ok (.aload_n 1, 1) := by decide +kernel
theorem dL_law_621 : decode cL_law 621 = .ok (.aload_n 0, 1) := by decide +kernel
theorem dL_law_622 : decode cL_law 622 = .ok (.iload_n 3, 1) := by decide +kernel
theorem dL_law_623 : decode cL_law 623 = .ok (.iconst 1, 1) := by decide +kernel
theorem dL_law_624 : decode cL_law 624 = .ok (.iadd, 1) := by decide +kernel
theorem dL_law_625 : decode cL_law 625 = .ok (.iaload, 1) := by decide +kernel
theorem dL_law_626 : decode cL_law 626 = .ok (.aload_n 0, 1) := by decide +kernel
theorem dL_law_627 : decode cL_law 627 = .ok (.iload_n 3, 1) := by decide +kernel
theorem dL_law_628 : decode cL_law 628 = .ok (.iconst 2, 1) := by decide +kernel
theorem dL_law_629 : decode cL_law 629 = .ok (.iadd, 1) := by decide +kernel
theorem dL_law_630 : decode cL_law 630 = .ok (.iaload, 1) := by decide +kernel
theorem dL_law_631 : decode cL_law 631 = .ok (.invokevirtual 65, 3) := by decide +kernel
theorem dL_law_634 : decode cL_law 634 = .ok (.pop, 1) := by decide +kernel
theorem dL_law_635 : decode cL_law 635 = .ok (.aload_n 2, 1) := by decide +kernel
theorem dL_law_636 : decode cL_law 636 = .ok (.aload_n 0, 1) := by decide +kernel
theorem dL_law_637 : decode cL_law 637 = .ok (.iload_n 3, 1) := by decide +kernel
theorem dL_law_638 : decode cL_law 638 = .ok (.iconst 1, 1) := by decide +kernel
theorem dL_law_639 : decode cL_law 639 = .ok (.iadd, 1) := by decide +kernel
theorem dL_law_640 : decode cL_law 640 = .ok (.iaload, 1) := by decide +kernel
theorem dL_law_641 : decode cL_law 641 = .ok (.aload_n 0, 1) := by decide +kernel
theorem dL_law_642 : decode cL_law 642 = .ok (.iload_n 3, 1) := by decide +kernel
theorem dL_law_643 : decode cL_law 643 = .ok (.iconst 2, 1) := by decide +kernel
theorem dL_law_644 : decode cL_law 644 = .ok (.iadd, 1) := by decide +kernel
theorem dL_law_645 : decode cL_law 645 = .ok (.iaload, 1) := by decide +kernel
theorem dL_law_646 : decode cL_law 646 = .ok (.invokevirtual 68, 3) := by decide +kernel
theorem dL_law_649 : decode cL_law 649 = .ok (.pop, 1) := by decide +kernel
theorem dL_law_650 : decode cL_law 650 = .ok (.goto 1406, 3) := by decide +kernel
theorem dL_law_653 : decode cL_law 653 = .ok (.aload_n 1, 1) := by decide +kernel
theorem dL_law_654 : decode cL_law 654 = .ok (.aload_n 0, 1) := by decide +kernel
theorem dL_law_655 : decode cL_law 655 = .ok (.iload_n 3, 1) := by decide +kernel
theorem dL_law_656 : decode cL_law 656 = .ok (.iconst 1, 1) := by decide +kernel
theorem dL_law_657 : decode cL_law 657 = .ok (.iadd, 1) := by decide +kernel
theorem dL_law_658 : decode cL_law 658 = .ok (.iaload, 1) := by decide +kernel
theorem dL_law_659 : decode cL_law 659 = .ok (.aload_n 0, 1) := by decide +kernel
theorem dL_law_660 : decode cL_law 660 = .ok (.iload_n 3, 1) := by decide +kernel
theorem dL_law_661 : decode cL_law 661 = .ok (.iconst 2, 1) := by decide +kernel
theorem dL_law_662 : decode cL_law 662 = .ok (.iadd, 1) := by decide +kernel
theorem dL_law_663 : decode cL_law 663 = .ok (.iaload, 1) := by decide +kernel
theorem dL_law_664 : decode cL_law 664 = .ok (.invokevirtual 69, 3) := by decide +kernel
theorem dL_law_667 : decode cL_law 667 = .ok (.pop, 1) := by decide +kernel
theorem dL_law_668 : decode cL_law 668 = .ok (.aload_n 2, 1) := by decide +kernel
theorem dL_law_669 : decode cL_law 669 = .ok (.aload_n 0, 1) := by decide +kernel
theorem dL_law_670 : decode cL_law 670 = .ok (.iload_n 3, 1) := by decide +kernel
theorem dL_law_671 : decode cL_law 671 = .ok (.iconst 1, 1) := by decide +kernel
theorem dL_law_672 : decode cL_law 672 = .ok (.iadd, 1) := by decide +kernel
theorem dL_law_673 : decode cL_law 673 = .ok (.iaload, 1) := by decide +kernel
theorem dL_law_674 : decode cL_law 674 = .ok (.aload_n 0, 1) := by decide +kernel
theorem dL_law_675 : decode cL_law 675 = .ok (.iload_n 3, 1) := by decide +kernel
theorem dL_law_676 : decode cL_law 676 = .ok (.iconst 2, 1) := by decide +kernel
theorem dL_law_677 : decode cL_law 677 = .ok (.iadd, 1) := by decide +kernel
theorem dL_law_678 : decode cL_law 678 = .ok (.iaload, 1) := by decide +kernel
theorem dL_law_679 : decode cL_law 679 = .ok (.invokevirtual 72, 3) := by decide +kernel
theorem dL_law_682 : decode cL_law 682 = .ok (.pop, 1) := by decide +kernel
theorem dL_law_683 : decode cL_law 683 = .ok (.goto 1373, 3) := by decide +kernel
theorem dL_law_686 : decode cL_law 686 = .ok (.aload_n 1, 1) := by decide +kernel
theorem dL_law_687 : decode cL_law 687 = .ok (.aload_n 0, 1) := by decide +kernel
theorem dL_law_688 : decode cL_law 688 = .ok (.iload_n 3, 1) := by decide +kernel
theorem dL_law_689 : decode cL_law 689 = .ok (.iconst 1, 1) := by decide +kernel
theorem dL_law_690 : decode cL_law 690 = .ok (.iadd, 1) := by decide +kernel
theorem dL_law_691 : decode cL_law 691 = .ok (.iaload, 1) := by decide +kernel
theorem dL_law_692 : decode cL_law 692 = .ok (.invokevirtual 73, 3) := by decide +kernel
theorem dL_law_695 : decode cL_law 695 = .ok (.pop, 1) := by decide +kernel
theorem dL_law_696 : decode cL_law 696 = .ok (.aload_n 2, 1) := by decide +kernel
theorem dL_law_697 : decode cL_law 697 = .ok (.aload_n 0, 1) := by decide +kernel
theorem dL_law_698 : decode cL_law 698 = .ok (.iload_n 3, 1) := by decide +kernel
theorem dL_law_699 : decode cL_law 699 = .ok (.iconst 1, 1) := by decide +kernel
theorem dL_law_700 : decode cL_law 700 = .ok (.iadd, 1) := by decide +kernel
theorem dL_law_701 : decode cL_law 701 = .ok (.iaload, 1) := by decide +kernel
theorem dL_law_702 : decode cL_law 702 = .ok (.invokevirtual 76, 3) := by decide +kernel
theorem dL_law_705 : decode cL_law 705 = .ok (.pop, 1) := by decide +kernel
theorem dL_law_706 : decode cL_law 706 = .ok (.goto 1350, 3) := by decide +kernel
theorem dL_law_709 : decode cL_law 709 = .ok (.aload_n 1, 1) := by decide +kernel
theorem dL_law_710 : decode cL_law 710 = .ok (.aload_n 0, 1) := by decide +kernel
theorem dL_law_711 : decode cL_law 711 = .ok (.iload_n 3, 1) := by decide +kernel
theorem dL_law_712 : decode cL_law 712 = .ok (.iconst 1, 1) := by decide +kernel
theorem dL_law_713 : decode cL_law 713 = .ok (.iadd, 1) := by decide +kernel
theorem dL_law_714 : decode cL_law 714 = .ok (.iaload, 1) := by decide +kernel
theorem dL_law_715 : decode cL_law 715 = .ok (.aload_n 0, 1) := by decide +kernel
theorem dL_law_716 : decode cL_law 716 = .ok (.iload_n 3, 1) := by decide +kernel
theorem dL_law_717 : decode cL_law 717 = .ok (.iconst 2, 1) := by decide +kernel
theorem dL_law_718 : decode cL_law 718 = .ok (.iadd, 1) := by decide +kernel
theorem dL_law_719 : decode cL_law 719 = .ok (.iaload, 1) := by decide +kernel
theorem dL_law_720 : decode cL_law 720 = .ok (.invokevirtual 77, 3) := by decide +kernel
theorem dL_law_723 : decode cL_law 723 = .ok (.pop, 1) := by decide +kernel
theorem dL_law_724 : decode cL_law 724 = .ok (.aload_n 2, 1) := by decide +kernel
theorem dL_law_725 : decode cL_law 725 = .ok (.aload_n 0, 1) := by decide +kernel
theorem dL_law_726 : decode cL_law 726 = .ok (.iload_n 3, 1) := by decide +kernel
theorem dL_law_727 : decode cL_law 727 = .ok (.iconst 1, 1) := by decide +kernel
theorem dL_law_728 : decode cL_law 728 = .ok (.iadd, 1) := by decide +kernel
theorem dL_law_729 : decode cL_law 729 = .ok (.iaload, 1) := by decide +kernel
theorem dL_law_730 : decode cL_law 730 = .ok (.aload_n 0, 1) := by decide +kernel
theorem dL_law_731 : decode cL_law 731 = .ok (.iload_n 3, 1) := by decide +kernel
theorem dL_law_732 : decode cL_law 732 = .ok (.iconst 2, 1) := by decide +kernel
theorem dL_law_733 : decode cL_law 733 = .ok (.iadd, 1) := by decide +kernel
theorem dL_law_734 : decode cL_law 734 = .ok (.iaload, 1) := by decide +kernel
theorem dL_law_735 : decode cL_law 735 = .ok (.invokevirtual 80, 3) := by decide +kernel
theorem dL_law_738 : decode cL_law 738 = .ok (.pop, 1) := by decide +kernel
theorem dL_law_739 : decode cL_law 739 = .ok (.goto 1317, 3) := by decide +kernel
theorem dL_law_742 : decode cL_law 742 = .ok (.aload_n 1, 1) := by decide +kernel
theorem dL_law_743 : decode cL_law 743 = .ok (.aload_n 0, 1) := by decide +kernel
theorem dL_law_744 : decode cL_law 744 = .ok (.iload_n 3, 1) := by decide +kernel
theorem dL_law_745 : decode cL_law 745 = .ok (.iconst 1, 1) := by decide +kernel
theorem dL_law_746 : decode cL_law 746 = .ok (.iadd, 1) := by decide +kernel
theorem dL_law_747 : decode cL_law 747 = .ok (.iaload, 1) := by decide +kernel
theorem dL_law_748 : decode cL_law 748 = .ok (.aload_n 0, 1) := by decide +kernel
theorem dL_law_749 : decode cL_law 749 = .ok (.iload_n 3, 1) := by decide +kernel
theorem dL_law_750 : decode cL_law 750 = .ok (.iconst 2, 1) := by decide +kernel
theorem dL_law_751 : decode cL_law 751 = .ok (.iadd, 1) := by decide +kernel
theorem dL_law_752 : decode cL_law 752 = .ok (.iaload, 1) := by decide +kernel
theorem dL_law_753 : decode cL_law 753 = .ok (.aload_n 0, 1) := by decide +kernel
theorem dL_law_754 : decode cL_law 754 = .ok (.iload_n 3, 1) := by decide +kernel
theorem dL_law_755 : decode cL_law 755 = .ok (.iconst 3, 1) := by decide +kernel
theorem dL_law_756 : decode cL_law 756 = .ok (.iadd, 1) := by decide +kernel
theorem dL_law_757 : decode cL_law 757 = .ok (.iaload, 1) := by decide +kernel
theorem dL_law_758 : decode cL_law 758 = .ok (.invokevirtual 81, 3) := by decide +kernel
theorem dL_law_761 : decode cL_law 761 = .ok (.pop, 1) := by decide +kernel
theorem dL_law_762 : decode cL_law 762 = .ok (.aload_n 2, 1) := by decide +kernel
theorem dL_law_763 : decode cL_law 763 = .ok (.aload_n 0, 1) := by decide +kernel
theorem dL_law_764 : decode cL_law 764 = .ok (.iload_n 3, 1) := by decide +kernel
theorem dL_law_765 : decode cL_law 765 = .ok (.iconst 1, 1) := by decide +kernel
theorem dL_law_766 : decode cL_law 766 = .ok (.iadd, 1) := by decide +kernel
theorem dL_law_767 : decode cL_law 767 = .ok (.iaload, 1) := by decide +kernel
theorem dL_law_768 : decode cL_law 768 = .ok (.aload_n 0, 1) := by decide +kernel
theorem dL_law_769 : decode cL_law 769 = .ok (.iload_n 3, 1) := by decide +kernel
theorem dL_law_770 : decode cL_law 770 = .ok (.iconst 2, 1) := by decide +kernel
theorem dL_law_771 : decode cL_law 771 = .ok (.iadd, 1) := by decide +kernel
theorem dL_law_772 : decode cL_law 772 = .ok (.iaload, 1) := by decide +kernel
theorem dL_law_773 : decode cL_law 773 = .ok (.aload_n 0, 1) := by decide +kernel
theorem dL_law_774 : decode cL_law 774 = .ok (.iload_n 3, 1) := by decide +kernel
theorem dL_law_775 : decode cL_law 775 = .ok (.iconst 3, 1) := by decide +kernel
theorem dL_law_776 : decode cL_law 776 = .ok (.iadd, 1) := by decide +kernel
theorem dL_law_777 : decode cL_law 777 = .ok (.iaload, 1) := by decide +kernel
theorem dL_law_778 : decode cL_law 778 = .ok (.invokevirtual 85, 3) := by decide +kernel
theorem dL_law_781 : decode cL_law 781 = .ok (.pop, 1) := by decide +kernel
theorem dL_law_782 : decode cL_law 782 = .ok (.goto 1274, 3) := by decide +kernel
theorem dL_law_785 : decode cL_law 785 = .ok (.aload_n 1, 1) := by decide +kernel
theorem dL_law_786 : decode cL_law 786 = .ok (.aload_n 0, 1) := by decide +kernel
theorem dL_law_787 : decode cL_law 787 = .ok (.iload_n 3, 1) := by decide +kernel
theorem dL_law_788 : decode cL_law 788 = .ok (.iconst 1, 1) := by decide +kernel
theorem dL_law_789 : decode cL_law 789 = .ok (.iadd, 1) := by decide +kernel
theorem dL_law_790 : decode cL_law 790 = .ok (.iaload, 1) := by decide +kernel
theorem dL_law_791 : decode cL_law 791 = .ok (.invokevirtual 86, 3) := by decide +kernel
theorem dL_law_794 : decode cL_law 794 = .ok (.pop, 1) := by decide +kernel
theorem dL_law_795 : decode cL_law 795 = .ok (.aload_n 2, 1) := by decide +kernel
theorem dL_law_796 : decode cL_law 796 = .ok (.aload_n 0, 1) := by decide +kernel
theorem dL_law_797 : decode cL_law 797 = .ok (.iload_n 3, 1) := by decide +kernel
theorem dL_law_798 : decode cL_law 798 = .ok (.iconst 1, 1) := by decide +kernel
theorem dL_law_799 : decode cL_law 799 = .ok (.iadd, 1) := by decide +kernel
theorem dL_law_800 : decode cL_law 800 = .ok (.iaload, 1) := by decide +kernel
theorem dL_law_801 : decode cL_law 801 = .ok (.invokevirtual 89, 3) := by decide +kernel
theorem dL_law_804 : decode cL_law 804 = .ok (.pop, 1) := by decide +kernel
theorem dL_law_805 : decode cL_law 805 = .ok (.goto 1251, 3) := by decide +kernel
set_option maxHeartbeats 4000000 in
set_option maxRecDepth 100000 in
theorem law_c9 {p : Program} {l : Launch} {e : Env} {s : State} {m : MethodId} {below : List Frame} {meth : Method} {c : Code} {dC : Nat → ClassId} {dI : Nat → Nat → Nat} {b L : Nat} {xs : Nat → Int32} (hL : L ≤ 3072) (C0 : lw_At p s m meth c b L xs) (hz : nzA s) {sa sb sa2 sb2 : Nat → Nat} {zf : Value} (hTA : gz_ST RX6 stIA sa sb zf (fun q : Nat => s.heap.size ≤ q) s s.heap) (hTB : gz_ST RX12 stIB sa2 sb2 zf (fun q : Nat => s.heap.size ≤ q) s s.heap) {x0 hm n : Nat} (hn : 6 * n + 6 ≤ L) {H : Heap} {locs : List Loc} {ls : Array Slot} (hI : LInv dC dI s x0 hm H) (hS : va_S (fun q : Nat => s.heap.size ≤ q) s.heap H locs) (hl : lv_has ls 4 [(0, .ref b), (1, .ref x0), (2, .ref hm), (3, .int (nI (6 * n)))]) (next : ∀ (H : Heap) (locs : List Loc) (ls : Array Slot), LInv dC dI s x0 hm H → va_S (fun q : Nat => s.heap.size ≤ q) s.heap H locs → lv_has ls 4 [(0, .ref b), (1, .ref x0), (2, .ref hm), (3, .int (nI (6 * n)))] → W p l e room_1 s m #[Value.ref b] below meth c H locs (400 + (n + 1)) (40000 + 5 * (n + 1)) (lw_Z below #[Value.ref b] s) (F0 m 2056 ls [])) : W p l e room_1 s m #[Value.ref b] below meth c H locs (400 + n) (40000 + 5 * n) (lw_Z below #[Value.ref b] s) (F0 m 531 ls []) := by
  obtain ⟨hx, hb, hr, hml, hown0, hts, hX, hbl, hlocks, hgv⟩ := id C0
  have hown : s.vm.findClass RL = some m.cls := hown0
  have hA : ∀ q : Nat, s.heap.size ≤ q → (fun q : Nat => s.heap.size ≤ q) q := fun _ h => h
  have hbA : ¬ (fun q : Nat => s.heap.size ≤ q) b := Nat.not_le.mpr hbl
  obtain ⟨ax, kx, vx, fx, gx, rx, mi, mr, km, fm, rfl, hK, hXI, hMI, hlen, hP, hD⟩ := hI
  refine lv_aload_n hx hb dL_law_531 rfl (lv_at hl 1 rfl) ?_
  refine lv_aload_n hx hb dL_law_532 rfl (lv_at hl 0 rfl) ?_
  refine lv_iload_n hx hb dL_law_533 rfl (lv_at hl 3 rfl) ?_
  refine lv_iconst (v := 1) hx hb dL_law_534 (by decide) ?_
  refine lv_iadd hx hb dL_law_535 ?_
  refine gz_topi (y := nI (6 * n + 1)) (gz_ixn n 1 1 rfl) ?_
  refine va_sld hx hb hX hbl hbA hS (vp_in_nI (show 6 * n + 1 < L by omega) (by omega)) dL_law_536 ?_
  refine lv_topi (fun a1 ea1 => ?_)
  refine lv_aload_n hx hb dL_law_537 rfl (lv_at hl 0 rfl) ?_
  refine lv_iload_n hx hb dL_law_538 rfl (lv_at hl 3 rfl) ?_
  refine lv_iconst (v := 2) hx hb dL_law_539 (by decide) ?_
  refine lv_iadd hx hb dL_law_540 ?_
  refine gz_topi (y := nI (6 * n + 2)) (gz_ixn n 2 2 rfl) ?_
  refine va_sld hx hb hX hbl hbA hS (vp_in_nI (show 6 * n + 2 < L by omega) (by omega)) dL_law_541 ?_
  refine lv_topi (fun a2 ea2 => ?_)
  have hPx := gz_PL hP
  have hDx := gz_DL hD
  have hKx := gz_KL hK
  have hFx := gz_freeA hDx hS hA
  refine va_calli (va_runV (As := [.int a1, .int a2]) (rest := []) ⟨hx, hb, hml, hown, hts⟩ (uX11_judged l dC dI H.size ax kx vx fx gx rx hXI a1 a2) (cwV 2 hts (gz_lV lm_75 lm_76 lm_77 lm_4 lm_74 lwGA goodGA) rfl rfl rfl (by decide +kernel) ⟨Nat.le_of_ble_eq_true rfl, Nat.le_of_ble_eq_true rfl⟩) ⟨bl_I (bl_a bl_sz (bl_a bl_P (bl_a bl_K (bl_a bl_c bl_nz)))), xw_recv hKx hPx, fun U hU hW => ⟨rfl, by rw [hU], by rw [hU]; exact hPx, va_K.moved hW.alike hKx, hDx.weaken (fun _ _ _ _ => trivial), nzA_warm hW hz⟩⟩ rfl rfl hl.1 rfl (lv_room (Nat.le_of_ble_eq_true rfl)) dL_law_542 ⟨by show 400 + n + 0 ≤ 600000; omega, by show 40000 + 5 * n + 0 ≤ 7302250; omega⟩) hS (fun q _ h => hFx q h) hFx (fun rx9 u t H1 locs ht hvm hw hB hz1 hk1 hS => ?_)
  obtain ⟨ax2, kx2, vx2, fx2, gx2, rx2, hKK, h0, hXI2, hrelx, hP1, hD1⟩ := hB
  rw [ht] at hP1
  obtain ⟨hP, hD⟩ := gz_joinL hP hD hk1 hFx hP1 hD1
  have hK := va_K.app (hKK _ hKx) (gz_KR hK)
  have hwx := hw
  generalize H1 = H at hP hS ⊢
  refine lv_pop hx hb dL_law_545 rfl ?_
  refine lv_aload_n hx hb dL_law_546 rfl (lv_at hl 2 rfl) ?_
  refine lv_aload_n hx hb dL_law_547 rfl (lv_at hl 0 rfl) ?_
  refine lv_iload_n hx hb dL_law_548 rfl (lv_at hl 3 rfl) ?_
  refine lv_iconst (v := 1) hx hb dL_law_549 (by decide) ?_
  refine lv_iadd hx hb dL_law_550 ?_
  refine gz_topi (y := nI (6 * n + 1)) (gz_ixn n 1 1 rfl) ?_
  refine va_sld hx hb hX hbl hbA hS (vp_in_nI (show 6 * n + 1 < L by omega) (by omega)) dL_law_551 ?_
  refine lv_topi (fun a3 ea3 => ?_)
  refine lv_aload_n hx hb dL_law_552 rfl (lv_at hl 0 rfl) ?_
  refine lv_iload_n hx hb dL_law_553 rfl (lv_at hl 3 rfl) ?_
  refine lv_iconst (v := 2) hx hb dL_law_554 (by decide) ?_
  refine lv_iadd hx hb dL_law_555 ?_
  refine gz_topi (y := nI (6 * n + 2)) (gz_ixn n 2 2 rfl) ?_
  refine va_sld hx hb hX hbl hbA hS (vp_in_nI (show 6 * n + 2 < L by omega) (by omega)) dL_law_556 ?_
  refine lv_topi (fun a4 ea4 => ?_)
  have hPx := gz_PR hP
  have hDx := gz_DR hD
  have hKx := gz_KR hK
  have hFx := gz_freeA hDx hS hA
  refine va_calli (va_runV (As := [.int a3, .int a4]) (rest := []) ⟨hx, hb, hml, hown, hts⟩ (uX12_judged l dC dI H.size hm mi mr km fm hMI a3 a4) (cwV 2 hts (gz_lV lm_79 lm_80 lm_81 lm_9 lm_78 lwGB goodGB) rfl rfl rfl (by decide +kernel) ⟨Nat.le_of_ble_eq_true rfl, Nat.le_of_ble_eq_true rfl⟩) ⟨bl_I (bl_a bl_sz (bl_a bl_P (bl_a bl_K bl_c))), mw2_recv hKx hPx, fun U hU hW => ⟨rfl, by rw [hU], by rw [hU]; exact hPx, va_K.moved hW.alike hKx, hDx.weaken (fun _ _ _ _ => trivial)⟩⟩ rfl rfl hl.1 rfl (lv_room (Nat.le_of_ble_eq_true rfl)) dL_law_557 ⟨by show 400 + n + 0 ≤ 600000; omega, by show 40000 + 5 * n + 0 ≤ 7302250; omega⟩) hS (fun q _ h => hFx q h) hFx (fun rm9 u t H1 locs ht hvm hw hB hz1 hk1 hS => ?_)
  obtain ⟨mi2, fm2, hMI2, hrelm, hP1, hD1⟩ := hB
  rw [ht] at hP1
  obtain ⟨hP, hD⟩ := gz_joinR hP hD hk1 hFx hP1 hD1
  have hwm := hw
  generalize H1 = H at hP hS ⊢
  refine lv_pop hx hb dL_law_560 rfl ?_
  refine lv_goto (tgt := 2056) hx hb dL_law_561 (by decide) ?_
  have hN9 := pr_stay (g := gx2) hlen hrelx hrelm
  refine W.widen (k := 400 + (n + 1)) (n := 40000 + 5 * (n + 1)) (by omega) (by omega) ?_
  exact next _ _ _ ⟨ax2, kx2, vx2, fx2, gx2, rx2, mi2, mr, km, fm2, h0, hK, hXI2, hMI2, hN9, hP, hD⟩ hS hl
set_option maxHeartbeats 4000000 in
set_option maxRecDepth 100000 in
theorem law_c10 {p : Program} {l : Launch} {e : Env} {s : State} {m : MethodId} {below : List Frame} {meth : Method} {c : Code} {dC : Nat → ClassId} {dI : Nat → Nat → Nat} {b L : Nat} {xs : Nat → Int32} (hL : L ≤ 3072) (C0 : lw_At p s m meth c b L xs) (hz : nzA s) {sa sb sa2 sb2 : Nat → Nat} {zf : Value} (hTA : gz_ST RX6 stIA sa sb zf (fun q : Nat => s.heap.size ≤ q) s s.heap) (hTB : gz_ST RX12 stIB sa2 sb2 zf (fun q : Nat => s.heap.size ≤ q) s s.heap) {x0 hm n : Nat} (hn : 6 * n + 6 ≤ L) {H : Heap} {locs : List Loc} {ls : Array Slot} (hI : LInv dC dI s x0 hm H) (hS : va_S (fun q : Nat => s.heap.size ≤ q) s.heap H locs) (hl : lv_has ls 4 [(0, .ref b), (1, .ref x0), (2, .ref hm), (3, .int (nI (6 * n)))]) (next : ∀ (H : Heap) (locs : List Loc) (ls : Array Slot), LInv dC dI s x0 hm H → va_S (fun q : Nat => s.heap.size ≤ q) s.heap H locs → lv_has ls 4 [(0, .ref b), (1, .ref x0), (2, .ref hm), (3, .int (nI (6 * n)))] → W p l e room_1 s m #[Value.ref b] below meth c H locs (400 + (n + 1)) (40000 + 5 * (n + 1)) (lw_Z below #[Value.ref b] s) (F0 m 2056 ls [])) : W p l e room_1 s m #[Value.ref b] below meth c H locs (400 + n) (40000 + 5 * n) (lw_Z below #[Value.ref b] s) (F0 m 564 ls []) := by
  obtain ⟨hx, hb, hr, hml, hown0, hts, hX, hbl, hlocks, hgv⟩ := id C0
  have hown : s.vm.findClass RL = some m.cls := hown0
  have hA : ∀ q : Nat, s.heap.size ≤ q → (fun q : Nat => s.heap.size ≤ q) q := fun _ h => h
  have hbA : ¬ (fun q : Nat => s.heap.size ≤ q) b := Nat.not_le.mpr hbl
  obtain ⟨ax, kx, vx, fx, gx, rx, mi, mr, km, fm, rfl, hK, hXI, hMI, hlen, hP, hD⟩ := hI
  refine lv_aload_n hx hb dL_law_564 rfl (lv_at hl 1 rfl) ?_
  refine lv_aload_n hx hb dL_law_565 rfl (lv_at hl 0 rfl) ?_
  refine lv_iload_n hx hb dL_law_566 rfl (lv_at hl 3 rfl) ?_
  refine lv_iconst (v := 1) hx hb dL_law_567 (by decide) ?_
  refine lv_iadd hx hb dL_law_568 ?_
  refine gz_topi (y := nI (6 * n + 1)) (gz_ixn n 1 1 rfl) ?_
  refine va_sld hx hb hX hbl hbA hS (vp_in_nI (show 6 * n + 1 < L by omega) (by omega)) dL_law_569 ?_
  refine lv_topi (fun a1 ea1 => ?_)
  have hPx := gz_PL hP
  have hDx := gz_DL hD
  have hKx := gz_KL hK
  have hFx := gz_freeA hDx hS hA
  refine va_calli (va_runV (As := [.int a1]) (rest := []) ⟨hx, hb, hml, hown, hts⟩ (uX11_taken l dC dI H.size ax kx vx fx gx rx hXI a1) (cwV 1 hts (gz_lV lm_83 lm_84 lm_85 lm_4 lm_82 lwGA goodGA) rfl rfl rfl (by decide +kernel) ⟨Nat.le_of_ble_eq_true rfl, Nat.le_of_ble_eq_true rfl⟩) ⟨bl_I (bl_a bl_sz (bl_a bl_P (bl_a bl_K (bl_a bl_c bl_nz)))), xw_recv hKx hPx, fun U hU hW => ⟨rfl, by rw [hU], by rw [hU]; exact hPx, va_K.moved hW.alike hKx, hDx.weaken (fun _ _ _ _ => trivial), nzA_warm hW hz⟩⟩ rfl rfl hl.1 rfl (lv_room (Nat.le_of_ble_eq_true rfl)) dL_law_570 ⟨by show 400 + n + 0 ≤ 600000; omega, by show 40000 + 5 * n + 0 ≤ 7302250; omega⟩) hS (fun q _ h => hFx q h) hFx (fun rx9 u t H1 locs ht hvm hw hB hz1 hk1 hS => ?_)
  obtain ⟨ax2, kx2, vx2, fx2, gx2, rx2, hKK, h0, hXI2, hrelx, hP1, hD1⟩ := hB
  rw [ht] at hP1
  obtain ⟨hP, hD⟩ := gz_joinL hP hD hk1 hFx hP1 hD1
  have hK := va_K.app (hKK _ hKx) (gz_KR hK)
  have hwx := hw
  generalize H1 = H at hP hS ⊢
  refine lv_pop hx hb dL_law_573 rfl ?_
  refine lv_aload_n hx hb dL_law_574 rfl (lv_at hl 2 rfl) ?_
  refine lv_aload_n hx hb dL_law_575 rfl (lv_at hl 0 rfl) ?_
  refine lv_iload_n hx hb dL_law_576 rfl (lv_at hl 3 rfl) ?_
  refine lv_iconst (v := 1) hx hb dL_law_577 (by decide) ?_
  refine lv_iadd hx hb dL_law_578 ?_
  refine gz_topi (y := nI (6 * n + 1)) (gz_ixn n 1 1 rfl) ?_
  refine va_sld hx hb hX hbl hbA hS (vp_in_nI (show 6 * n + 1 < L by omega) (by omega)) dL_law_579 ?_
  refine lv_topi (fun a2 ea2 => ?_)
  have hPx := gz_PR hP
  have hDx := gz_DR hD
  have hKx := gz_KR hK
  have hFx := gz_freeA hDx hS hA
  refine va_calli (va_runV (As := [.int a2]) (rest := []) ⟨hx, hb, hml, hown, hts⟩ (uX12_taken l dC dI H.size hm mi mr km fm hMI a2) (cwV 1 hts (gz_lV lm_87 lm_88 lm_89 lm_9 lm_86 lwGB goodGB) rfl rfl rfl (by decide +kernel) ⟨Nat.le_of_ble_eq_true rfl, Nat.le_of_ble_eq_true rfl⟩) ⟨bl_I (bl_a bl_sz (bl_a bl_P (bl_a bl_K bl_c))), mw2_recv hKx hPx, fun U hU hW => ⟨rfl, by rw [hU], by rw [hU]; exact hPx, va_K.moved hW.alike hKx, hDx.weaken (fun _ _ _ _ => trivial)⟩⟩ rfl rfl hl.1 rfl (lv_room (Nat.le_of_ble_eq_true rfl)) dL_law_580 ⟨by show 400 + n + 0 ≤ 600000; omega, by show 40000 + 5 * n + 0 ≤ 7302250; omega⟩) hS (fun q _ h => hFx q h) hFx (fun rm9 u t H1 locs ht hvm hw hB hz1 hk1 hS => ?_)
  obtain ⟨mi2, fm2, hMI2, hrelm, hP1, hD1⟩ := hB
  rw [ht] at hP1
  obtain ⟨hP, hD⟩ := gz_joinR hP hD hk1 hFx hP1 hD1
  have hwm := hw
  generalize H1 = H at hP hS ⊢
  refine lv_pop hx hb dL_law_583 rfl ?_
  refine lv_goto (tgt := 2056) hx hb dL_law_584 (by decide) ?_
  have hN9 := pr_stay (g := gx2) hlen hrelx hrelm
  refine W.widen (k := 400 + (n + 1)) (n := 40000 + 5 * (n + 1)) (by omega) (by omega) ?_
  exact next _ _ _ ⟨ax2, kx2, vx2, fx2, gx2, rx2, mi2, mr, km, fm2, h0, hK, hXI2, hMI2, hN9, hP, hD⟩ hS hl
set_option maxHeartbeats 4000000 in
set_option maxRecDepth 100000 in
theorem law_c11 {p : Program} {l : Launch} {e : Env} {s : State} {m : MethodId} {below : List Frame} {meth : Method} {c : Code} {dC : Nat → ClassId} {dI : Nat → Nat → Nat} {b L : Nat} {xs : Nat → Int32} (hL : L ≤ 3072) (C0 : lw_At p s m meth c b L xs) (hz : nzA s) {sa sb sa2 sb2 : Nat → Nat} {zf : Value} (hTA : gz_ST RX6 stIA sa sb zf (fun q : Nat => s.heap.size ≤ q) s s.heap) (hTB : gz_ST RX12 stIB sa2 sb2 zf (fun q : Nat => s.heap.size ≤ q) s s.heap) {x0 hm n : Nat} (hn : 6 * n + 6 ≤ L) {H : Heap} {locs : List Loc} {ls : Array Slot} (hI : LInv dC dI s x0 hm H) (hS : va_S (fun q : Nat => s.heap.size ≤ q) s.heap H locs) (hl : lv_has ls 4 [(0, .ref b), (1, .ref x0), (2, .ref hm), (3, .int (nI (6 * n)))]) (next : ∀ (H : Heap) (locs : List Loc) (ls : Array Slot), LInv dC dI s x0 hm H → va_S (fun q : Nat => s.heap.size ≤ q) s.heap H locs → lv_has ls 4 [(0, .ref b), (1, .ref x0), (2, .ref hm), (3, .int (nI (6 * n)))] → W p l e room_1 s m #[Value.ref b] below meth c H locs (400 + (n + 1)) (40000 + 5 * (n + 1)) (lw_Z below #[Value.ref b] s) (F0 m 2056 ls [])) : W p l e room_1 s m #[Value.ref b] below meth c H locs (400 + n) (40000 + 5 * n) (lw_Z below #[Value.ref b] s) (F0 m 587 ls []) := by
  obtain ⟨hx, hb, hr, hml, hown0, hts, hX, hbl, hlocks, hgv⟩ := id C0
  have hown : s.vm.findClass RL = some m.cls := hown0
  have hA : ∀ q : Nat, s.heap.size ≤ q → (fun q : Nat => s.heap.size ≤ q) q := fun _ h => h
  have hbA : ¬ (fun q : Nat => s.heap.size ≤ q) b := Nat.not_le.mpr hbl
  obtain ⟨ax, kx, vx, fx, gx, rx, mi, mr, km, fm, rfl, hK, hXI, hMI, hlen, hP, hD⟩ := hI
  refine lv_aload_n hx hb dL_law_587 rfl (lv_at hl 1 rfl) ?_
  refine lv_aload_n hx hb dL_law_588 rfl (lv_at hl 0 rfl) ?_
  refine lv_iload_n hx hb dL_law_589 rfl (lv_at hl 3 rfl) ?_
  refine lv_iconst (v := 1) hx hb dL_law_590 (by decide) ?_
  refine lv_iadd hx hb dL_law_591 ?_
  refine gz_topi (y := nI (6 * n + 1)) (gz_ixn n 1 1 rfl) ?_
  refine va_sld hx hb hX hbl hbA hS (vp_in_nI (show 6 * n + 1 < L by omega) (by omega)) dL_law_592 ?_
  refine lv_topi (fun a1 ea1 => ?_)
  refine lv_aload_n hx hb dL_law_593 rfl (lv_at hl 0 rfl) ?_
  refine lv_iload_n hx hb dL_law_594 rfl (lv_at hl 3 rfl) ?_
  refine lv_iconst (v := 2) hx hb dL_law_595 (by decide) ?_
  refine lv_iadd hx hb dL_law_596 ?_
  refine gz_topi (y := nI (6 * n + 2)) (gz_ixn n 2 2 rfl) ?_
  refine va_sld hx hb hX hbl hbA hS (vp_in_nI (show 6 * n + 2 < L by omega) (by omega)) dL_law_597 ?_
  refine lv_topi (fun a2 ea2 => ?_)
  have hPx := gz_PL hP
  have hDx := gz_DL hD
  have hKx := gz_KL hK
  have hFx := gz_freeA hDx hS hA
  refine va_calli (va_runV (As := [.int a1, .int a2]) (rest := []) ⟨hx, hb, hml, hown, hts⟩ (uX11_order l dC dI H.size ax kx vx fx gx rx hXI a1 a2) (cwV 2 hts (gz_lV lm_91 lm_92 lm_93 lm_4 lm_90 lwGA goodGA) rfl rfl rfl (by decide +kernel) ⟨Nat.le_of_ble_eq_true rfl, Nat.le_of_ble_eq_true rfl⟩) ⟨bl_I (bl_a bl_sz (bl_a bl_P (bl_a bl_K (bl_a bl_c bl_nz)))), xw_recv hKx hPx, fun U hU hW => ⟨rfl, by rw [hU], by rw [hU]; exact hPx, va_K.moved hW.alike hKx, hDx.weaken (fun _ _ _ _ => trivial), nzA_warm hW hz⟩⟩ rfl rfl hl.1 rfl (lv_room (Nat.le_of_ble_eq_true rfl)) dL_law_598 ⟨by show 400 + n + 0 ≤ 600000; omega, by show 40000 + 5 * n + 0 ≤ 7302250; omega⟩) hS (fun q _ h => hFx q h) hFx (fun rx9 u t H1 locs ht hvm hw hB hz1 hk1 hS => ?_)
  obtain ⟨ax2, kx2, vx2, fx2, gx2, rx2, hKK, h0, hXI2, hrelx, hP1, hD1⟩ := hB
  rw [ht] at hP1
  obtain ⟨hP, hD⟩ := gz_joinL hP hD hk1 hFx hP1 hD1
  have hK := va_K.app (hKK _ hKx) (gz_KR hK)
  have hwx := hw
  generalize H1 = H at hP hS ⊢
  refine lv_pop hx hb dL_law_601 rfl ?_
  refine lv_aload_n hx hb dL_law_602 rfl (lv_at hl 2 rfl) ?_
  refine lv_aload_n hx hb dL_law_603 rfl (lv_at hl 0 rfl) ?_
  refine lv_iload_n hx hb dL_law_604 rfl (lv_at hl 3 rfl) ?_
  refine lv_iconst (v := 1) hx hb dL_law_605 (by decide) ?_
  refine lv_iadd hx hb dL_law_606 ?_
  refine gz_topi (y := nI (6 * n + 1)) (gz_ixn n 1 1 rfl) ?_
  refine va_sld hx hb hX hbl hbA hS (vp_in_nI (show 6 * n + 1 < L by omega) (by omega)) dL_law_607 ?_
  refine lv_topi (fun a3 ea3 => ?_)
  refine lv_aload_n hx hb dL_law_608 rfl (lv_at hl 0 rfl) ?_
  refine lv_iload_n hx hb dL_law_609 rfl (lv_at hl 3 rfl) ?_
  refine lv_iconst (v := 2) hx hb dL_law_610 (by decide) ?_
  refine lv_iadd hx hb dL_law_611 ?_
  refine gz_topi (y := nI (6 * n + 2)) (gz_ixn n 2 2 rfl) ?_
  refine va_sld hx hb hX hbl hbA hS (vp_in_nI (show 6 * n + 2 < L by omega) (by omega)) dL_law_612 ?_
  refine lv_topi (fun a4 ea4 => ?_)
  have hPx := gz_PR hP
  have hDx := gz_DR hD
  have hKx := gz_KR hK
  have hFx := gz_freeA hDx hS hA
  refine va_calli (va_runV (As := [.int a3, .int a4]) (rest := []) ⟨hx, hb, hml, hown, hts⟩ (uX12_order l dC dI H.size hm mi mr km fm hMI a3 a4) (cwV 2 hts (gz_lV lm_95 lm_96 lm_97 lm_9 lm_94 lwGB goodGB) rfl rfl rfl (by decide +kernel) ⟨Nat.le_of_ble_eq_true rfl, Nat.le_of_ble_eq_true rfl⟩) ⟨bl_I (bl_a bl_sz (bl_a bl_P (bl_a bl_K bl_c))), mw2_recv hKx hPx, fun U hU hW => ⟨rfl, by rw [hU], by rw [hU]; exact hPx, va_K.moved hW.alike hKx, hDx.weaken (fun _ _ _ _ => trivial)⟩⟩ rfl rfl hl.1 rfl (lv_room (Nat.le_of_ble_eq_true rfl)) dL_law_613 ⟨by show 400 + n + 0 ≤ 600000; omega, by show 40000 + 5 * n + 0 ≤ 7302250; omega⟩) hS (fun q _ h => hFx q h) hFx (fun rm9 u t H1 locs ht hvm hw hB hz1 hk1 hS => ?_)
  obtain ⟨mi2, fm2, hMI2, hrelm, hP1, hD1⟩ := hB
  rw [ht] at hP1
  obtain ⟨hP, hD⟩ := gz_joinR hP hD hk1 hFx hP1 hD1
  have hwm := hw
  generalize H1 = H at hP hS ⊢
  refine lv_pop hx hb dL_law_616 rfl ?_
  refine lv_goto (tgt := 2056) hx hb dL_law_617 (by decide) ?_
  have hN9 := pr_stay (g := gx2) hlen hrelx hrelm
  refine W.widen (k := 400 + (n + 1)) (n := 40000 + 5 * (n + 1)) (by omega) (by omega) ?_
  exact next _ _ _ ⟨ax2, kx2, vx2, fx2, gx2, rx2, mi2, mr, km, fm2, h0, hK, hXI2, hMI2, hN9, hP, hD⟩ hS hl
set_option maxHeartbeats 4000000 in
set_option maxRecDepth 100000 in
theorem law_c12 {p : Program} {l : Launch} {e : Env} {s : State} {m : MethodId} {below : List Frame} {meth : Method} {c : Code} {dC : Nat → ClassId} {dI : Nat → Nat → Nat} {b L : Nat} {xs : Nat → Int32} (hL : L ≤ 3072) (C0 : lw_At p s m meth c b L xs) (hz : nzA s) {sa sb sa2 sb2 : Nat → Nat} {zf : Value} (hTA : gz_ST RX6 stIA sa sb zf (fun q : Nat => s.heap.size ≤ q) s s.heap) (hTB : gz_ST RX12 stIB sa2 sb2 zf (fun q : Nat => s.heap.size ≤ q) s s.heap) {x0 hm n : Nat} (hn : 6 * n + 6 ≤ L) {H : Heap} {locs : List Loc} {ls : Array Slot} (hI : LInv dC dI s x0 hm H) (hS : va_S (fun q : Nat => s.heap.size ≤ q) s.heap H locs) (hl : lv_has ls 4 [(0, .ref b), (1, .ref x0), (2, .ref hm), (3, .int (nI (6 * n)))]) (next : ∀ (H : Heap) (locs : List Loc) (ls : Array Slot), LInv dC dI s x0 hm H → va_S (fun q : Nat => s.heap.size ≤ q) s.heap H locs → lv_has ls 4 [(0, .ref b), (1, .ref x0), (2, .ref hm), (3, .int (nI (6 * n)))] → W p l e room_1 s m #[Value.ref b] below meth c H locs (400 + (n + 1)) (40000 + 5 * (n + 1)) (lw_Z below #[Value.ref b] s) (F0 m 2056 ls [])) : W p l e room_1 s m #[Value.ref b] below meth c H locs (400 + n) (40000 + 5 * n) (lw_Z below #[Value.ref b] s) (F0 m 620 ls []) := by
  obtain ⟨hx, hb, hr, hml, hown0, hts, hX, hbl, hlocks, hgv⟩ := id C0
  have hown : s.vm.findClass RL = some m.cls := hown0
  have hA : ∀ q : Nat, s.heap.size ≤ q → (fun q : Nat => s.heap.size ≤ q) q := fun _ h => h
  have hbA : ¬ (fun q : Nat => s.heap.size ≤ q) b := Nat.not_le.mpr hbl
  obtain ⟨ax, kx, vx, fx, gx, rx, mi, mr, km, fm, rfl, hK, hXI, hMI, hlen, hP, hD⟩ := hI
  refine lv_aload_n hx hb dL_law_620 rfl (lv_at hl 1 rfl) ?_
  refine lv_aload_n hx hb dL_law_621 rfl (lv_at hl 0 rfl) ?_
  refine lv_iload_n hx hb dL_law_622 rfl (lv_at hl 3 rfl) ?_
  refine lv_iconst (v := 1) hx hb dL_law_623 (by decide) ?_
  refine lv_iadd hx hb dL_law_624 ?_
  refine gz_topi (y := nI (6 * n + 1)) (gz_ixn n 1 1 rfl) ?_
  refine va_sld hx hb hX hbl hbA hS (vp_in_nI (show 6 * n + 1 < L by omega) (by omega)) dL_law_625 ?_
  refine lv_topi (fun a1 ea1 => ?_)
  refine lv_aload_n hx hb dL_law_626 rfl (lv_at hl 0 rfl) ?_
  refine lv_iload_n hx hb dL_law_627 rfl (lv_at hl 3 rfl) ?_
  refine lv_iconst (v := 2) hx hb dL_law_628 (by decide) ?_
  refine lv_iadd hx hb dL_law_629 ?_
  refine gz_topi (y := nI (6 * n + 2)) (gz_ixn n 2 2 rfl) ?_
  refine va_sld hx hb hX hbl hbA hS (vp_in_nI (show 6 * n + 2 < L by omega) (by omega)) dL_law_630 ?_
  refine lv_topi (fun a2 ea2 => ?_)
  have hPx := gz_PL hP
  have hDx := gz_DL hD
  have hKx := gz_KL hK
  have hFx := gz_freeA hDx hS hA
  refine va_calli (va_runV (As := [.int a1, .int a2]) (rest := []) ⟨hx, hb, hml, hown, hts⟩ (uX11_against l dC dI H.size ax kx vx fx gx rx hXI a1 a2) (cwV 2 hts (gz_lV lm_99 lm_100 lm_101 lm_4 lm_98 lwGA goodGA) rfl rfl rfl (by decide +kernel) ⟨Nat.le_of_ble_eq_true rfl, Nat.le_of_ble_eq_true rfl⟩) ⟨bl_I (bl_a bl_sz (bl_a bl_P (bl_a bl_K (bl_a bl_c bl_nz)))), xw_recv hKx hPx, fun U hU hW => ⟨rfl, by rw [hU], by rw [hU]; exact hPx, va_K.moved hW.alike hKx, hDx.weaken (fun _ _ _ _ => trivial), nzA_warm hW hz⟩⟩ rfl rfl hl.1 rfl (lv_room (Nat.le_of_ble_eq_true rfl)) dL_law_631 ⟨by show 400 + n + 0 ≤ 600000; omega, by show 40000 + 5 * n + 0 ≤ 7302250; omega⟩) hS (fun q _ h => hFx q h) hFx (fun rx9 u t H1 locs ht hvm hw hB hz1 hk1 hS => ?_)
  obtain ⟨ax2, kx2, vx2, fx2, gx2, rx2, hKK, h0, hXI2, hrelx, hP1, hD1⟩ := hB
  rw [ht] at hP1
  obtain ⟨hP, hD⟩ := gz_joinL hP hD hk1 hFx hP1 hD1
  have hK := va_K.app (hKK _ hKx) (gz_KR hK)
  have hwx := hw
  generalize H1 = H at hP hS ⊢
  refine lv_pop hx hb dL_law_634 rfl ?_
  refine lv_aload_n hx hb dL_law_635 rfl (lv_at hl 2 rfl) ?_
  refine lv_aload_n hx hb dL_law_636 rfl (lv_at hl 0 rfl) ?_
  refine lv_iload_n hx hb dL_law_637 rfl (lv_at hl 3 rfl) ?_
  refine lv_iconst (v := 1) hx hb dL_law_638 (by decide) ?_
  refine lv_iadd hx hb dL_law_639 ?_
  refine gz_topi (y := nI (6 * n + 1)) (gz_ixn n 1 1 rfl) ?_
  refine va_sld hx hb hX hbl hbA hS (vp_in_nI (show 6 * n + 1 < L by omega) (by omega)) dL_law_640 ?_
  refine lv_topi (fun a3 ea3 => ?_)
  refine lv_aload_n hx hb dL_law_641 rfl (lv_at hl 0 rfl) ?_
  refine lv_iload_n hx hb dL_law_642 rfl (lv_at hl 3 rfl) ?_
  refine lv_iconst (v := 2) hx hb dL_law_643 (by decide) ?_
  refine lv_iadd hx hb dL_law_644 ?_
  refine gz_topi (y := nI (6 * n + 2)) (gz_ixn n 2 2 rfl) ?_
  refine va_sld hx hb hX hbl hbA hS (vp_in_nI (show 6 * n + 2 < L by omega) (by omega)) dL_law_645 ?_
  refine lv_topi (fun a4 ea4 => ?_)
  have hPx := gz_PR hP
  have hDx := gz_DR hD
  have hKx := gz_KR hK
  have hFx := gz_freeA hDx hS hA
  refine va_calli (va_runV (As := [.int a3, .int a4]) (rest := []) ⟨hx, hb, hml, hown, hts⟩ (uX12_against l dC dI H.size hm mi mr km fm hMI a3 a4) (cwV 2 hts (gz_lV lm_103 lm_104 lm_105 lm_9 lm_102 lwGB goodGB) rfl rfl rfl (by decide +kernel) ⟨Nat.le_of_ble_eq_true rfl, Nat.le_of_ble_eq_true rfl⟩) ⟨bl_I (bl_a bl_sz (bl_a bl_P (bl_a bl_K bl_c))), mw2_recv hKx hPx, fun U hU hW => ⟨rfl, by rw [hU], by rw [hU]; exact hPx, va_K.moved hW.alike hKx, hDx.weaken (fun _ _ _ _ => trivial)⟩⟩ rfl rfl hl.1 rfl (lv_room (Nat.le_of_ble_eq_true rfl)) dL_law_646 ⟨by show 400 + n + 0 ≤ 600000; omega, by show 40000 + 5 * n + 0 ≤ 7302250; omega⟩) hS (fun q _ h => hFx q h) hFx (fun rm9 u t H1 locs ht hvm hw hB hz1 hk1 hS => ?_)
  obtain ⟨mi2, fm2, hMI2, hrelm, hP1, hD1⟩ := hB
  rw [ht] at hP1
  obtain ⟨hP, hD⟩ := gz_joinR hP hD hk1 hFx hP1 hD1
  have hwm := hw
  generalize H1 = H at hP hS ⊢
  refine lv_pop hx hb dL_law_649 rfl ?_
  refine lv_goto (tgt := 2056) hx hb dL_law_650 (by decide) ?_
  have hN9 := pr_stay (g := gx2) hlen hrelx hrelm
  refine W.widen (k := 400 + (n + 1)) (n := 40000 + 5 * (n + 1)) (by omega) (by omega) ?_
  exact next _ _ _ ⟨ax2, kx2, vx2, fx2, gx2, rx2, mi2, mr, km, fm2, h0, hK, hXI2, hMI2, hN9, hP, hD⟩ hS hl
set_option maxHeartbeats 4000000 in
set_option maxRecDepth 100000 in
theorem law_c13 {p : Program} {l : Launch} {e : Env} {s : State} {m : MethodId} {below : List Frame} {meth : Method} {c : Code} {dC : Nat → ClassId} {dI : Nat → Nat → Nat} {b L : Nat} {xs : Nat → Int32} (hL : L ≤ 3072) (C0 : lw_At p s m meth c b L xs) (hz : nzA s) {sa sb sa2 sb2 : Nat → Nat} {zf : Value} (hTA : gz_ST RX6 stIA sa sb zf (fun q : Nat => s.heap.size ≤ q) s s.heap) (hTB : gz_ST RX12 stIB sa2 sb2 zf (fun q : Nat => s.heap.size ≤ q) s s.heap) {x0 hm n : Nat} (hn : 6 * n + 6 ≤ L) {H : Heap} {locs : List Loc} {ls : Array Slot} (hI : LInv dC dI s x0 hm H) (hS : va_S (fun q : Nat => s.heap.size ≤ q) s.heap H locs) (hl : lv_has ls 4 [(0, .ref b), (1, .ref x0), (2, .ref hm), (3, .int (nI (6 * n)))]) (next : ∀ (H : Heap) (locs : List Loc) (ls : Array Slot), LInv dC dI s x0 hm H → va_S (fun q : Nat => s.heap.size ≤ q) s.heap H locs → lv_has ls 4 [(0, .ref b), (1, .ref x0), (2, .ref hm), (3, .int (nI (6 * n)))] → W p l e room_1 s m #[Value.ref b] below meth c H locs (400 + (n + 1)) (40000 + 5 * (n + 1)) (lw_Z below #[Value.ref b] s) (F0 m 2056 ls [])) : W p l e room_1 s m #[Value.ref b] below meth c H locs (400 + n) (40000 + 5 * n) (lw_Z below #[Value.ref b] s) (F0 m 653 ls []) := by
  obtain ⟨hx, hb, hr, hml, hown0, hts, hX, hbl, hlocks, hgv⟩ := id C0
  have hown : s.vm.findClass RL = some m.cls := hown0
  have hA : ∀ q : Nat, s.heap.size ≤ q → (fun q : Nat => s.heap.size ≤ q) q := fun _ h => h
  have hbA : ¬ (fun q : Nat => s.heap.size ≤ q) b := Nat.not_le.mpr hbl
  obtain ⟨ax, kx, vx, fx, gx, rx, mi, mr, km, fm, rfl, hK, hXI, hMI, hlen, hP, hD⟩ := hI
  refine lv_aload_n hx hb dL_law_653 rfl (lv_at hl 1 rfl) ?_
  refine lv_aload_n hx hb dL_law_654 rfl (lv_at hl 0 rfl) ?_
  refine lv_iload_n hx hb dL_law_655 rfl (lv_at hl 3 rfl) ?_
  refine lv_iconst (v := 1) hx hb dL_law_656 (by decide) ?_
  refine lv_iadd hx hb dL_law_657 ?_
  refine gz_topi (y := nI (6 * n + 1)) (gz_ixn n 1 1 rfl) ?_
  refine va_sld hx hb hX hbl hbA hS (vp_in_nI (show 6 * n + 1 < L by omega) (by omega)) dL_law_658 ?_
  refine lv_topi (fun a1 ea1 => ?_)
  refine lv_aload_n hx hb dL_law_659 rfl (lv_at hl 0 rfl) ?_
  refine lv_iload_n hx hb dL_law_660 rfl (lv_at hl 3 rfl) ?_
  refine lv_iconst (v := 2) hx hb dL_law_661 (by decide) ?_
  refine lv_iadd hx hb dL_law_662 ?_
  refine gz_topi (y := nI (6 * n + 2)) (gz_ixn n 2 2 rfl) ?_
  refine va_sld hx hb hX hbl hbA hS (vp_in_nI (show 6 * n + 2 < L by omega) (by omega)) dL_law_663 ?_
  refine lv_topi (fun a2 ea2 => ?_)
  have hPx := gz_PL hP
  have hDx := gz_DL hD
  have hKx := gz_KL hK
  have hFx := gz_freeA hDx hS hA
  refine va_calli (va_runV (As := [.int a1, .int a2]) (rest := []) ⟨hx, hb, hml, hown, hts⟩ (uX11_blind l dC dI H.size ax kx vx fx gx rx hXI a1 a2) (cwV 2 hts (gz_lV lm_107 lm_108 lm_109 lm_4 lm_106 lwGA goodGA) rfl rfl rfl (by decide +kernel) ⟨Nat.le_of_ble_eq_true rfl, Nat.le_of_ble_eq_true rfl⟩) ⟨bl_I (bl_a bl_sz (bl_a bl_P (bl_a bl_K (bl_a bl_c bl_nz)))), xw_recv hKx hPx, fun U hU hW => ⟨rfl, by rw [hU], by rw [hU]; exact hPx, va_K.moved hW.alike hKx, hDx.weaken (fun _ _ _ _ => trivial), nzA_warm hW hz⟩⟩ rfl rfl hl.1 rfl (lv_room (Nat.le_of_ble_eq_true rfl)) dL_law_664 ⟨by show 400 + n + 0 ≤ 600000; omega, by show 40000 + 5 * n + 0 ≤ 7302250; omega⟩) hS (fun q _ h => hFx q h) hFx (fun rx9 u t H1 locs ht hvm hw hB hz1 hk1 hS => ?_)
  obtain ⟨ax2, kx2, vx2, fx2, gx2, rx2, hKK, h0, hXI2, hrelx, hP1, hD1⟩ := hB
  rw [ht] at hP1
  subst hw
  have hw : True := trivial
  obtain ⟨hP, hD⟩ := gz_joinL hP hD hk1 hFx hP1 hD1
  have hK := va_K.app (hKK _ hKx) (gz_KR hK)
  have hwx := hw
  generalize H1 = H at hP hS ⊢
  refine lv_pop hx hb dL_law_667 rfl ?_
  refine lv_aload_n hx hb dL_law_668 rfl (lv_at hl 2 rfl) ?_
  refine lv_aload_n hx hb dL_law_669 rfl (lv_at hl 0 rfl) ?_
  refine lv_iload_n hx hb dL_law_670 rfl (lv_at hl 3 rfl) ?_
  refine lv_iconst (v := 1) hx hb dL_law_671 (by decide) ?_
  refine lv_iadd hx hb dL_law_672 ?_
  refine gz_topi (y := nI (6 * n + 1)) (gz_ixn n 1 1 rfl) ?_
  refine va_sld hx hb hX hbl hbA hS (vp_in_nI (show 6 * n + 1 < L by omega) (by omega)) dL_law_673 ?_
  refine lv_topi (fun a3 ea3 => ?_)
  refine lv_aload_n hx hb dL_law_674 rfl (lv_at hl 0 rfl) ?_
  refine lv_iload_n hx hb dL_law_675 rfl (lv_at hl 3 rfl) ?_
  refine lv_iconst (v := 2) hx hb dL_law_676 (by decide) ?_
  refine lv_iadd hx hb dL_law_677 ?_
  refine gz_topi (y := nI (6 * n + 2)) (gz_ixn n 2 2 rfl) ?_
  refine va_sld hx hb hX hbl hbA hS (vp_in_nI (show 6 * n + 2 < L by omega) (by omega)) dL_law_678 ?_
  refine lv_topi (fun a4 ea4 => ?_)
  have hPx := gz_PR hP
  have hDx := gz_DR hD
  have hKx := gz_KR hK
  have hFx := gz_freeA hDx hS hA
  refine va_calli (va_runV (As := [.int a3, .int a4]) (rest := []) ⟨hx, hb, hml, hown, hts⟩ (uX12_blind l dC dI H.size hm mi mr km fm hMI a3 a4) (cwV 2 hts (gz_lV lm_111 lm_112 lm_113 lm_9 lm_110 lwGB goodGB) rfl rfl rfl (by decide +kernel) ⟨Nat.le_of_ble_eq_true rfl, Nat.le_of_ble_eq_true rfl⟩) ⟨bl_I (bl_a bl_sz (bl_a bl_P (bl_a bl_K bl_c))), mw2_recv hKx hPx, fun U hU hW => ⟨rfl, by rw [hU], by rw [hU]; exact hPx, va_K.moved hW.alike hKx, hDx.weaken (fun _ _ _ _ => trivial)⟩⟩ rfl rfl hl.1 rfl (lv_room (Nat.le_of_ble_eq_true rfl)) dL_law_679 ⟨by show 400 + n + 0 ≤ 600000; omega, by show 40000 + 5 * n + 0 ≤ 7302250; omega⟩) hS (fun q _ h => hFx q h) hFx (fun rm9 u t H1 locs ht hvm hw hB hz1 hk1 hS => ?_)
  obtain ⟨mi2, fm2, hMI2, hrelm, hP1, hD1⟩ := hB
  rw [ht] at hP1
  subst hw
  have hw : True := trivial
  obtain ⟨hP, hD⟩ := gz_joinR hP hD hk1 hFx hP1 hD1
  have hwm := hw
  generalize H1 = H at hP hS ⊢
  refine lv_pop hx hb dL_law_682 rfl ?_
  refine lv_goto (tgt := 2056) hx hb dL_law_683 (by decide) ?_
  have e90 : a3 = a1 := ea3.trans ea1.symm
  have e91 : a4 = a2 := ea4.trans ea2.symm
  rw [e90, e91] at hrelm
  have hN9 := pr_blind hXI hMI hlen hrelx hrelm
  refine W.widen (k := 400 + (n + 1)) (n := 40000 + 5 * (n + 1)) (by omega) (by omega) ?_
  exact next _ _ _ ⟨ax2, kx2, vx2, fx2, gx2, rx2, mi2, mr, km, fm2, h0, hK, hXI2, hMI2, hN9.1, hP, hD⟩ hS hl
set_option maxHeartbeats 4000000 in
set_option maxRecDepth 100000 in
theorem law_c14 {p : Program} {l : Launch} {e : Env} {s : State} {m : MethodId} {below : List Frame} {meth : Method} {c : Code} {dC : Nat → ClassId} {dI : Nat → Nat → Nat} {b L : Nat} {xs : Nat → Int32} (hL : L ≤ 3072) (C0 : lw_At p s m meth c b L xs) (hz : nzA s) {sa sb sa2 sb2 : Nat → Nat} {zf : Value} (hTA : gz_ST RX6 stIA sa sb zf (fun q : Nat => s.heap.size ≤ q) s s.heap) (hTB : gz_ST RX12 stIB sa2 sb2 zf (fun q : Nat => s.heap.size ≤ q) s s.heap) {x0 hm n : Nat} (hn : 6 * n + 6 ≤ L) {H : Heap} {locs : List Loc} {ls : Array Slot} (hI : LInv dC dI s x0 hm H) (hS : va_S (fun q : Nat => s.heap.size ≤ q) s.heap H locs) (hl : lv_has ls 4 [(0, .ref b), (1, .ref x0), (2, .ref hm), (3, .int (nI (6 * n)))]) (next : ∀ (H : Heap) (locs : List Loc) (ls : Array Slot), LInv dC dI s x0 hm H → va_S (fun q : Nat => s.heap.size ≤ q) s.heap H locs → lv_has ls 4 [(0, .ref b), (1, .ref x0), (2, .ref hm), (3, .int (nI (6 * n)))] → W p l e room_1 s m #[Value.ref b] below meth c H locs (400 + (n + 1)) (40000 + 5 * (n + 1)) (lw_Z below #[Value.ref b] s) (F0 m 2056 ls [])) : W p l e room_1 s m #[Value.ref b] below meth c H locs (400 + n) (40000 + 5 * n) (lw_Z below #[Value.ref b] s) (F0 m 686 ls []) := by
  obtain ⟨hx, hb, hr, hml, hown0, hts, hX, hbl, hlocks, hgv⟩ := id C0
  have hown : s.vm.findClass RL = some m.cls := hown0
  have hA : ∀ q : Nat, s.heap.size ≤ q → (fun q : Nat => s.heap.size ≤ q) q := fun _ h => h
  have hbA : ¬ (fun q : Nat => s.heap.size ≤ q) b := Nat.not_le.mpr hbl
  obtain ⟨ax, kx, vx, fx, gx, rx, mi, mr, km, fm, rfl, hK, hXI, hMI, hlen, hP, hD⟩ := hI
  refine lv_aload_n hx hb dL_law_686 rfl (lv_at hl 1 rfl) ?_
  refine lv_aload_n hx hb dL_law_687 rfl (lv_at hl 0 rfl) ?_
  refine lv_iload_n hx hb dL_law_688 rfl (lv_at hl 3 rfl) ?_
  refine lv_iconst (v := 1) hx hb dL_law_689 (by decide) ?_
  refine lv_iadd hx hb dL_law_690 ?_
  refine gz_topi (y := nI (6 * n + 1)) (gz_ixn n 1 1 rfl) ?_
  refine va_sld hx hb hX hbl hbA hS (vp_in_nI (show 6 * n + 1 < L by omega) (by omega)) dL_law_691 ?_
  refine lv_topi (fun a1 ea1 => ?_)
  have hPx := gz_PL hP
  have hDx := gz_DL hD
  have hKx := gz_KL hK
  have hFx := gz_freeA hDx hS hA
  refine va_calli (va_runV (As := [.int a1]) (rest := []) ⟨hx, hb, hml, hown, hts⟩ (uX11_ways l dC dI H.size ax kx vx fx gx rx hXI a1) (cwV 1 hts (gz_lV lm_115 lm_116 lm_117 lm_4 lm_114 lwGA goodGA) rfl rfl rfl (by decide +kernel) ⟨Nat.le_of_ble_eq_true rfl, Nat.le_of_ble_eq_true rfl⟩) ⟨bl_I (bl_a bl_sz (bl_a bl_P (bl_a bl_K (bl_a bl_c bl_nz)))), xw_recv hKx hPx, fun U hU hW => ⟨rfl, by rw [hU], by rw [hU]; exact hPx, va_K.moved hW.alike hKx, hDx.weaken (fun _ _ _ _ => trivial), nzA_warm hW hz⟩⟩ rfl rfl hl.1 rfl (lv_room (Nat.le_of_ble_eq_true rfl)) dL_law_692 ⟨by show 400 + n + 0 ≤ 600000; omega, by show 40000 + 5 * n + 0 ≤ 7302250; omega⟩) hS (fun q _ h => hFx q h) hFx (fun rx9 u t H1 locs ht hvm hw hB hz1 hk1 hS => ?_)
  obtain ⟨ax2, kx2, vx2, fx2, gx2, rx2, hKK, h0, hXI2, hrelx, hP1, hD1⟩ := hB
  rw [ht] at hP1
  obtain ⟨hP, hD⟩ := gz_joinL hP hD hk1 hFx hP1 hD1
  have hK := va_K.app (hKK _ hKx) (gz_KR hK)
  have hwx := hw
  generalize H1 = H at hP hS ⊢
  refine lv_pop hx hb dL_law_695 rfl ?_
  refine lv_aload_n hx hb dL_law_696 rfl (lv_at hl 2 rfl) ?_
  refine lv_aload_n hx hb dL_law_697 rfl (lv_at hl 0 rfl) ?_
  refine lv_iload_n hx hb dL_law_698 rfl (lv_at hl 3 rfl) ?_
  refine lv_iconst (v := 1) hx hb dL_law_699 (by decide) ?_
  refine lv_iadd hx hb dL_law_700 ?_
  refine gz_topi (y := nI (6 * n + 1)) (gz_ixn n 1 1 rfl) ?_
  refine va_sld hx hb hX hbl hbA hS (vp_in_nI (show 6 * n + 1 < L by omega) (by omega)) dL_law_701 ?_
  refine lv_topi (fun a2 ea2 => ?_)
  have hPx := gz_PR hP
  have hDx := gz_DR hD
  have hKx := gz_KR hK
  have hFx := gz_freeA hDx hS hA
  refine va_calli (va_runV (As := [.int a2]) (rest := []) ⟨hx, hb, hml, hown, hts⟩ (uX12_ways l dC dI H.size hm mi mr km fm hMI a2) (cwV 1 hts (gz_lV lm_119 lm_120 lm_121 lm_9 lm_118 lwGB goodGB) rfl rfl rfl (by decide +kernel) ⟨Nat.le_of_ble_eq_true rfl, Nat.le_of_ble_eq_true rfl⟩) ⟨bl_I (bl_a bl_sz (bl_a bl_P (bl_a bl_K bl_c))), mw2_recv hKx hPx, fun U hU hW => ⟨rfl, by rw [hU], by rw [hU]; exact hPx, va_K.moved hW.alike hKx, hDx.weaken (fun _ _ _ _ => trivial)⟩⟩ rfl rfl hl.1 rfl (lv_room (Nat.le_of_ble_eq_true rfl)) dL_law_702 ⟨by show 400 + n + 0 ≤ 600000; omega, by show 40000 + 5 * n + 0 ≤ 7302250; omega⟩) hS (fun q _ h => hFx q h) hFx (fun rm9 u t H1 locs ht hvm hw hB hz1 hk1 hS => ?_)
  obtain ⟨mi2, fm2, hMI2, hrelm, hP1, hD1⟩ := hB
  rw [ht] at hP1
  obtain ⟨hP, hD⟩ := gz_joinR hP hD hk1 hFx hP1 hD1
  have hwm := hw
  generalize H1 = H at hP hS ⊢
  refine lv_pop hx hb dL_law_705 rfl ?_
  refine lv_goto (tgt := 2056) hx hb dL_law_706 (by decide) ?_
  have hN9 := pr_stay (g := gx2) hlen hrelx hrelm
  refine W.widen (k := 400 + (n + 1)) (n := 40000 + 5 * (n + 1)) (by omega) (by omega) ?_
  exact next _ _ _ ⟨ax2, kx2, vx2, fx2, gx2, rx2, mi2, mr, km, fm2, h0, hK, hXI2, hMI2, hN9, hP, hD⟩ hS hl
set_option maxHeartbeats 4000000 in
set_option maxRecDepth 100000 in
theorem law_c15 {p : Program} {l : Launch} {e : Env} {s : State} {m : MethodId} {below : List Frame} {meth : Method} {c : Code} {dC : Nat → ClassId} {dI : Nat → Nat → Nat} {b L : Nat} {xs : Nat → Int32} (hL : L ≤ 3072) (C0 : lw_At p s m meth c b L xs) (hz : nzA s) {sa sb sa2 sb2 : Nat → Nat} {zf : Value} (hTA : gz_ST RX6 stIA sa sb zf (fun q : Nat => s.heap.size ≤ q) s s.heap) (hTB : gz_ST RX12 stIB sa2 sb2 zf (fun q : Nat => s.heap.size ≤ q) s s.heap) {x0 hm n : Nat} (hn : 6 * n + 6 ≤ L) {H : Heap} {locs : List Loc} {ls : Array Slot} (hI : LInv dC dI s x0 hm H) (hS : va_S (fun q : Nat => s.heap.size ≤ q) s.heap H locs) (hl : lv_has ls 4 [(0, .ref b), (1, .ref x0), (2, .ref hm), (3, .int (nI (6 * n)))]) (next : ∀ (H : Heap) (locs : List Loc) (ls : Array Slot), LInv dC dI s x0 hm H → va_S (fun q : Nat => s.heap.size ≤ q) s.heap H locs → lv_has ls 4 [(0, .ref b), (1, .ref x0), (2, .ref hm), (3, .int (nI (6 * n)))] → W p l e room_1 s m #[Value.ref b] below meth c H locs (400 + (n + 1)) (40000 + 5 * (n + 1)) (lw_Z below #[Value.ref b] s) (F0 m 2056 ls [])) : W p l e room_1 s m #[Value.ref b] below meth c H locs (400 + n) (40000 + 5 * n) (lw_Z below #[Value.ref b] s) (F0 m 709 ls []) := by
  obtain ⟨hx, hb, hr, hml, hown0, hts, hX, hbl, hlocks, hgv⟩ := id C0
  have hown : s.vm.findClass RL = some m.cls := hown0
  have hA : ∀ q : Nat, s.heap.size ≤ q → (fun q : Nat => s.heap.size ≤ q) q := fun _ h => h
  have hbA : ¬ (fun q : Nat => s.heap.size ≤ q) b := Nat.not_le.mpr hbl
  obtain ⟨ax, kx, vx, fx, gx, rx, mi, mr, km, fm, rfl, hK, hXI, hMI, hlen, hP, hD⟩ := hI
  refine lv_aload_n hx hb dL_law_709 rfl (lv_at hl 1 rfl) ?_
  refine lv_aload_n hx hb dL_law_710 rfl (lv_at hl 0 rfl) ?_
  refine lv_iload_n hx hb dL_law_711 rfl (lv_at hl 3 rfl) ?_
  refine lv_iconst (v := 1) hx hb dL_law_712 (by decide) ?_
  refine lv_iadd hx hb dL_law_713 ?_
  refine gz_topi (y := nI (6 * n + 1)) (gz_ixn n 1 1 rfl) ?_
  refine va_sld hx hb hX hbl hbA hS (vp_in_nI (show 6 * n + 1 < L by omega) (by omega)) dL_law_714 ?_
  refine lv_topi (fun a1 ea1 => ?_)
  refine lv_aload_n hx hb dL_law_715 rfl (lv_at hl 0 rfl) ?_
  refine lv_iload_n hx hb dL_law_716 rfl (lv_at hl 3 rfl) ?_
  refine lv_iconst (v := 2) hx hb dL_law_717 (by decide) ?_
  refine lv_iadd hx hb dL_law_718 ?_
  refine gz_topi (y := nI (6 * n + 2)) (gz_ixn n 2 2 rfl) ?_
  refine va_sld hx hb hX hbl hbA hS (vp_in_nI (show 6 * n + 2 < L by omega) (by omega)) dL_law_719 ?_
  refine lv_topi (fun a2 ea2 => ?_)
  have hPx := gz_PL hP
  have hDx := gz_DL hD
  have hKx := gz_KL hK
  have hFx := gz_freeA hDx hS hA
  refine va_calli (va_runV (As := [.int a1, .int a2]) (rest := []) ⟨hx, hb, hml, hown, hts⟩ (uX11_begin l dC dI H.size ax kx vx fx gx rx hXI a1 a2) (cwV 2 hts (gz_lV lm_123 lm_124 lm_125 lm_4 lm_122 lwGA goodGA) rfl rfl rfl (by decide +kernel) ⟨Nat.le_of_ble_eq_true rfl, Nat.le_of_ble_eq_true rfl⟩) ⟨bl_I (bl_a bl_sz (bl_a bl_P (bl_a bl_K (bl_a bl_c bl_nz)))), xw_recv hKx hPx, fun U hU hW => ⟨rfl, by rw [hU], by rw [hU]; exact hPx, va_K.moved hW.alike hKx, hDx.weaken (fun _ _ _ _ => trivial), nzA_warm hW hz⟩⟩ rfl rfl hl.1 rfl (lv_room (Nat.le_of_ble_eq_true rfl)) dL_law_720 ⟨by show 400 + n + 0 ≤ 600000; omega, by show 40000 + 5 * n + 0 ≤ 7302250; omega⟩) hS (fun q _ h => hFx q h) hFx (fun rx9 u t H1 locs ht hvm hw hB hz1 hk1 hS => ?_)
  obtain ⟨ax2, kx2, vx2, fx2, gx2, rx2, hKK, h0, hXI2, hrelx, hP1, hD1⟩ := hB
  rw [ht] at hP1
  obtain ⟨hP, hD⟩ := gz_joinL hP hD hk1 hFx hP1 hD1
  have hK := va_K.app (hKK _ hKx) (gz_KR hK)
  have hwx := hw
  generalize H1 = H at hP hS ⊢
  refine lv_pop hx hb dL_law_723 rfl ?_
  refine lv_aload_n hx hb dL_law_724 rfl (lv_at hl 2 rfl) ?_
  refine lv_aload_n hx hb dL_law_725 rfl (lv_at hl 0 rfl) ?_
  refine lv_iload_n hx hb dL_law_726 rfl (lv_at hl 3 rfl) ?_
  refine lv_iconst (v := 1) hx hb dL_law_727 (by decide) ?_
  refine lv_iadd hx hb dL_law_728 ?_
  refine gz_topi (y := nI (6 * n + 1)) (gz_ixn n 1 1 rfl) ?_
  refine va_sld hx hb hX hbl hbA hS (vp_in_nI (show 6 * n + 1 < L by omega) (by omega)) dL_law_729 ?_
  refine lv_topi (fun a3 ea3 => ?_)
  refine lv_aload_n hx hb dL_law_730 rfl (lv_at hl 0 rfl) ?_
  refine lv_iload_n hx hb dL_law_731 rfl (lv_at hl 3 rfl) ?_
  refine lv_iconst (v := 2) hx hb dL_law_732 (by decide) ?_
  refine lv_iadd hx hb dL_law_733 ?_
  refine gz_topi (y := nI (6 * n + 2)) (gz_ixn n 2 2 rfl) ?_
  refine va_sld hx hb hX hbl hbA hS (vp_in_nI (show 6 * n + 2 < L by omega) (by omega)) dL_law_734 ?_
  refine lv_topi (fun a4 ea4 => ?_)
  have hPx := gz_PR hP
  have hDx := gz_DR hD
  have hKx := gz_KR hK
  have hFx := gz_freeA hDx hS hA
  refine va_calli (va_runV (As := [.int a3, .int a4]) (rest := []) ⟨hx, hb, hml, hown, hts⟩ (uX12_begin l dC dI H.size hm mi mr km fm hMI a3 a4) (cwV 2 hts (gz_lV lm_127 lm_128 lm_129 lm_9 lm_126 lwGB goodGB) rfl rfl rfl (by decide +kernel) ⟨Nat.le_of_ble_eq_true rfl, Nat.le_of_ble_eq_true rfl⟩) ⟨bl_I (bl_a bl_sz (bl_a bl_P (bl_a bl_K bl_c))), mw2_recv hKx hPx, fun U hU hW => ⟨rfl, by rw [hU], by rw [hU]; exact hPx, va_K.moved hW.alike hKx, hDx.weaken (fun _ _ _ _ => trivial)⟩⟩ rfl rfl hl.1 rfl (lv_room (Nat.le_of_ble_eq_true rfl)) dL_law_735 ⟨by show 400 + n + 0 ≤ 600000; omega, by show 40000 + 5 * n + 0 ≤ 7302250; omega⟩) hS (fun q _ h => hFx q h) hFx (fun rm9 u t H1 locs ht hvm hw hB hz1 hk1 hS => ?_)
  obtain ⟨mi2, fm2, hMI2, hrelm, hP1, hD1⟩ := hB
  rw [ht] at hP1
  obtain ⟨hP, hD⟩ := gz_joinR hP hD hk1 hFx hP1 hD1
  have hwm := hw
  generalize H1 = H at hP hS ⊢
  refine lv_pop hx hb dL_law_738 rfl ?_
  refine lv_goto (tgt := 2056) hx hb dL_law_739 (by decide) ?_
  have hN9 := pr_stay (g := gx2) hlen hrelx hrelm
  refine W.widen (k := 400 + (n + 1)) (n := 40000 + 5 * (n + 1)) (by omega) (by omega) ?_
  exact next _ _ _ ⟨ax2, kx2, vx2, fx2, gx2, rx2, mi2, mr, km, fm2, h0, hK, hXI2, hMI2, hN9, hP, hD⟩ hS hl
set_option maxHeartbeats 4000000 in
set_option maxRecDepth 100000 in
theorem law_c16 {p : Program} {l : Launch} {e : Env} {s : State} {m : MethodId} {below : List Frame} {meth : Method} {c : Code} {dC : Nat → ClassId} {dI : Nat → Nat → Nat} {b L : Nat} {xs : Nat → Int32} (hL : L ≤ 3072) (C0 : lw_At p s m meth c b L xs) (hz : nzA s) {sa sb sa2 sb2 : Nat → Nat} {zf : Value} (hTA : gz_ST RX6 stIA sa sb zf (fun q : Nat => s.heap.size ≤ q) s s.heap) (hTB : gz_ST RX12 stIB sa2 sb2 zf (fun q : Nat => s.heap.size ≤ q) s s.heap) {x0 hm n : Nat} (hn : 6 * n + 6 ≤ L) {H : Heap} {locs : List Loc} {ls : Array Slot} (hI : LInv dC dI s x0 hm H) (hS : va_S (fun q : Nat => s.heap.size ≤ q) s.heap H locs) (hl : lv_has ls 4 [(0, .ref b), (1, .ref x0), (2, .ref hm), (3, .int (nI (6 * n)))]) (next : ∀ (H : Heap) (locs : List Loc) (ls : Array Slot), LInv dC dI s x0 hm H → va_S (fun q : Nat => s.heap.size ≤ q) s.heap H locs → lv_has ls 4 [(0, .ref b), (1, .ref x0), (2, .ref hm), (3, .int (nI (6 * n)))] → W p l e room_1 s m #[Value.ref b] below meth c H locs (400 + (n + 1)) (40000 + 5 * (n + 1)) (lw_Z below #[Value.ref b] s) (F0 m 2056 ls [])) : W p l e room_1 s m #[Value.ref b] below meth c H locs (400 + n) (40000 + 5 * n) (lw_Z below #[Value.ref b] s) (F0 m 742 ls []) := by
  obtain ⟨hx, hb, hr, hml, hown0, hts, hX, hbl, hlocks, hgv⟩ := id C0
  have hown : s.vm.findClass RL = some m.cls := hown0
  have hA : ∀ q : Nat, s.heap.size ≤ q → (fun q : Nat => s.heap.size ≤ q) q := fun _ h => h
  have hbA : ¬ (fun q : Nat => s.heap.size ≤ q) b := Nat.not_le.mpr hbl
  obtain ⟨ax, kx, vx, fx, gx, rx, mi, mr, km, fm, rfl, hK, hXI, hMI, hlen, hP, hD⟩ := hI
  refine lv_aload_n hx hb dL_law_742 rfl (lv_at hl 1 rfl) ?_
  refine lv_aload_n hx hb dL_law_743 rfl (lv_at hl 0 rfl) ?_
  refine lv_iload_n hx hb dL_law_744 rfl (lv_at hl 3 rfl) ?_
  refine lv_iconst (v := 1) hx hb dL_law_745 (by decide) ?_
  refine lv_iadd hx hb dL_law_746 ?_
  refine gz_topi (y := nI (6 * n + 1)) (gz_ixn n 1 1 rfl) ?_
  refine va_sld hx hb hX hbl hbA hS (vp_in_nI (show 6 * n + 1 < L by omega) (by omega)) dL_law_747 ?_
  refine lv_topi (fun a1 ea1 => ?_)
  refine lv_aload_n hx hb dL_law_748 rfl (lv_at hl 0 rfl) ?_
  refine lv_iload_n hx hb dL_law_749 rfl (lv_at hl 3 rfl) ?_
  refine lv_iconst (v := 2) hx hb dL_law_750 (by decide) ?_
  refine lv_iadd hx hb dL_law_751 ?_
  refine gz_topi (y := nI (6 * n + 2)) (gz_ixn n 2 2 rfl) ?_
  refine va_sld hx hb hX hbl hbA hS (vp_in_nI (show 6 * n + 2 < L by omega) (by omega)) dL_law_752 ?_
  refine lv_topi (fun a2 ea2 => ?_)
  refine lv_aload_n hx hb dL_law_753 rfl (lv_at hl 0 rfl) ?_
  refine lv_iload_n hx hb dL_law_754 rfl (lv_at hl 3 rfl) ?_
  refine lv_iconst (v := 3) hx hb dL_law_755 (by decide) ?_
  refine lv_iadd hx hb dL_law_756 ?_
  refine gz_topi (y := nI (6 * n + 3)) (gz_ixn n 3 3 rfl) ?_
  refine va_sld hx hb hX hbl hbA hS (vp_in_nI (show 6 * n + 3 < L by omega) (by omega)) dL_law_757 ?_
  refine lv_topi (fun a3 ea3 => ?_)
  have hPx := gz_PL hP
  have hDx := gz_DL hD
  have hKx := gz_KL hK
  have hFx := gz_freeA hDx hS hA
  refine va_calli (va_runV (As := [.int a1, .int a2, .int a3]) (rest := []) ⟨hx, hb, hml, hown, hts⟩ (uX11_span l dC dI H.size ax kx vx fx gx rx hXI a1 a2 a3) (cwV 3 hts (gz_lV lm_131 lm_132 lm_133 lm_4 lm_130 lwGA goodGA) rfl rfl rfl (by decide +kernel) ⟨Nat.le_of_ble_eq_true rfl, Nat.le_of_ble_eq_true rfl⟩) ⟨bl_I (bl_a bl_sz (bl_a bl_P (bl_a bl_K (bl_a bl_c bl_nz)))), xw_recv hKx hPx, fun U hU hW => ⟨rfl, by rw [hU], by rw [hU]; exact hPx, va_K.moved hW.alike hKx, hDx.weaken (fun _ _ _ _ => trivial), nzA_warm hW hz⟩⟩ rfl rfl hl.1 rfl (lv_room (Nat.le_of_ble_eq_true rfl)) dL_law_758 ⟨by show 400 + n + 0 ≤ 600000; omega, by show 40000 + 5 * n + 0 ≤ 7302250; omega⟩) hS (fun q _ h => hFx q h) hFx (fun rx9 u t H1 locs ht hvm hw hB hz1 hk1 hS => ?_)
  obtain ⟨ax2, kx2, vx2, fx2, gx2, rx2, hKK, h0, hXI2, hrelx, hP1, hD1⟩ := hB
  rw [ht] at hP1
  obtain ⟨hP, hD⟩ := gz_joinL hP hD hk1 hFx hP1 hD1
  have hK := va_K.app (hKK _ hKx) (gz_KR hK)
  have hwx := hw
  generalize H1 = H at hP hS ⊢
  refine lv_pop hx hb dL_law_761 rfl ?_
  refine lv_aload_n hx hb dL_law_762 rfl (lv_at hl 2 rfl) ?_
  refine lv_aload_n hx hb dL_law_763 rfl (lv_at hl 0 rfl) ?_
  refine lv_iload_n hx hb dL_law_764 rfl (lv_at hl 3 rfl) ?_
  refine lv_iconst (v := 1) hx hb dL_law_765 (by decide) ?_
  refine lv_iadd hx hb dL_law_766 ?_
  refine gz_topi (y := nI (6 * n + 1)) (gz_ixn n 1 1 rfl) ?_
  refine va_sld hx hb hX hbl hbA hS (vp_in_nI (show 6 * n + 1 < L by omega) (by omega)) dL_law_767 ?_
  refine lv_topi (fun a4 ea4 => ?_)
  refine lv_aload_n hx hb dL_law_768 rfl (lv_at hl 0 rfl) ?_
  refine lv_iload_n hx hb dL_law_769 rfl (lv_at hl 3 rfl) ?_
  refine lv_iconst (v := 2) hx hb dL_law_770 (by decide) ?_
  refine lv_iadd hx hb dL_law_771 ?_
  refine gz_topi (y := nI (6 * n + 2)) (gz_ixn n 2 2 rfl) ?_
  refine va_sld hx hb hX hbl hbA hS (vp_in_nI (show 6 * n + 2 < L by omega) (by omega)) dL_law_772 ?_
  refine lv_topi (fun a5 ea5 => ?_)
  refine lv_aload_n hx hb dL_law_773 rfl (lv_at hl 0 rfl) ?_
  refine lv_iload_n hx hb dL_law_774 rfl (lv_at hl 3 rfl) ?_
  refine lv_iconst (v := 3) hx hb dL_law_775 (by decide) ?_
  refine lv_iadd hx hb dL_law_776 ?_
  refine gz_topi (y := nI (6 * n + 3)) (gz_ixn n 3 3 rfl) ?_
  refine va_sld hx hb hX hbl hbA hS (vp_in_nI (show 6 * n + 3 < L by omega) (by omega)) dL_law_777 ?_
  refine lv_topi (fun a6 ea6 => ?_)
  have hPx := gz_PR hP
  have hDx := gz_DR hD
  have hKx := gz_KR hK
  have hFx := gz_freeA hDx hS hA
  refine va_calli (va_runV (As := [.int a4, .int a5, .int a6]) (rest := []) ⟨hx, hb, hml, hown, hts⟩ (uX12_span l dC dI H.size hm mi mr km fm hMI a4 a5 a6) (cwV 3 hts (gz_lV lm_135 lm_136 lm_137 lm_9 lm_134 lwGB goodGB) rfl rfl rfl (by decide +kernel) ⟨Nat.le_of_ble_eq_true rfl, Nat.le_of_ble_eq_true rfl⟩) ⟨bl_I (bl_a bl_sz (bl_a bl_P (bl_a bl_K bl_c))), mw2_recv hKx hPx, fun U hU hW => ⟨rfl, by rw [hU], by rw [hU]; exact hPx, va_K.moved hW.alike hKx, hDx.weaken (fun _ _ _ _ => trivial)⟩⟩ rfl rfl hl.1 rfl (lv_room (Nat.le_of_ble_eq_true rfl)) dL_law_778 ⟨by show 400 + n + 0 ≤ 600000; omega, by show 40000 + 5 * n + 0 ≤ 7302250; omega⟩) hS (fun q _ h => hFx q h) hFx (fun rm9 u t H1 locs ht hvm hw hB hz1 hk1 hS => ?_)
  obtain ⟨mi2, fm2, hMI2, hrelm, hP1, hD1⟩ := hB
  rw [ht] at hP1
  obtain ⟨hP, hD⟩ := gz_joinR hP hD hk1 hFx hP1 hD1
  have hwm := hw
  generalize H1 = H at hP hS ⊢
  refine lv_pop hx hb dL_law_781 rfl ?_
  refine lv_goto (tgt := 2056) hx hb dL_law_782 (by decide) ?_
  have hN9 := pr_stay (g := gx2) hlen hrelx hrelm
  refine W.widen (k := 400 + (n + 1)) (n := 40000 + 5 * (n + 1)) (by omega) (by omega) ?_
  exact next _ _ _ ⟨ax2, kx2, vx2, fx2, gx2, rx2, mi2, mr, km, fm2, h0, hK, hXI2, hMI2, hN9, hP, hD⟩ hS hl
set_option maxHeartbeats 4000000 in
set_option maxRecDepth 100000 in
theorem law_c17 {p : Program} {l : Launch} {e : Env} {s : State} {m : MethodId} {below : List Frame} {meth : Method} {c : Code} {dC : Nat → ClassId} {dI : Nat → Nat → Nat} {b L : Nat} {xs : Nat → Int32} (hL : L ≤ 3072) (C0 : lw_At p s m meth c b L xs) (hz : nzA s) {sa sb sa2 sb2 : Nat → Nat} {zf : Value} (hTA : gz_ST RX6 stIA sa sb zf (fun q : Nat => s.heap.size ≤ q) s s.heap) (hTB : gz_ST RX12 stIB sa2 sb2 zf (fun q : Nat => s.heap.size ≤ q) s s.heap) {x0 hm n : Nat} (hn : 6 * n + 6 ≤ L) {H : Heap} {locs : List Loc} {ls : Array Slot} (hI : LInv dC dI s x0 hm H) (hS : va_S (fun q : Nat => s.heap.size ≤ q) s.heap H locs) (hl : lv_has ls 4 [(0, .ref b), (1, .ref x0), (2, .ref hm), (3, .int (nI (6 * n)))]) (next : ∀ (H : Heap) (locs : List Loc) (ls : Array Slot), LInv dC dI s x0 hm H → va_S (fun q : Nat => s.heap.size ≤ q) s.heap H locs → lv_has ls 4 [(0, .ref b), (1, .ref x0), (2, .ref hm), (3, .int (nI (6 * n)))] → W p l e room_1 s m #[Value.ref b] below meth c H locs (400 + (n + 1)) (40000 + 5 * (n + 1)) (lw_Z below #[Value.ref b] s) (F0 m 2056 ls [])) : W p l e room_1 s m #[Value.ref b] below meth c H locs (400 + n) (40000 + 5 * n) (lw_Z below #[Value.ref b] s) (F0 m 785 ls []) := by
  obtain ⟨hx, hb, hr, hml, hown0, hts, hX, hbl, hlocks, hgv⟩ := id C0
  have hown : s.vm.findClass RL = some m.cls := hown0
  have hA : ∀ q : Nat, s.heap.size ≤ q → (fun q : Nat => s.heap.size ≤ q) q := fun _ h => h
  have hbA : ¬ (fun q : Nat => s.heap.size ≤ q) b := Nat.not_le.mpr hbl
  obtain ⟨ax, kx, vx, fx, gx, rx, mi, mr, km, fm, rfl, hK, hXI, hMI, hlen, hP, hD⟩ := hI
  refine lv_aload_n hx hb dL_law_785 rfl (lv_at hl 1 rfl) ?_
  refine lv_aload_n hx hb dL_law_786 rfl (lv_at hl 0 rfl) ?_
  refine lv_iload_n hx hb dL_law_787 rfl (lv_at hl 3 rfl) ?_
  refine lv_iconst (v := 1) hx hb dL_law_788 (by decide) ?_
  refine lv_iadd hx hb dL_law_789 ?_
  refine gz_topi (y := nI (6 * n + 1)) (gz_ixn n 1 1 rfl) ?_
  refine va_sld hx hb hX hbl hbA hS (vp_in_nI (show 6 * n + 1 < L by omega) (by omega)) dL_law_790 ?_
  refine lv_topi (fun a1 ea1 => ?_)
  have hPx := gz_PL hP
  have hDx := gz_DL hD
  have hKx := gz_KL hK
  have hFx := gz_freeA hDx hS hA
  refine va_calli (va_runV (As := [.int a1]) (rest := []) ⟨hx, hb, hml, hown, hts⟩ (uX11_sure l dC dI H.size ax kx vx fx gx rx hXI a1) (cwV 1 hts (gz_lV lm_139 lm_140 lm_141 lm_4 lm_138 lwGA goodGA) rfl rfl rfl (by decide +kernel) ⟨Nat.le_of_ble_eq_true rfl, Nat.le_of_ble_eq_true rfl⟩) ⟨bl_I (bl_a bl_sz (bl_a bl_P (bl_a bl_K (bl_a bl_c bl_nz)))), xw_recv hKx hPx, fun U hU hW => ⟨rfl, by rw [hU], by rw [hU]; exact hPx, va_K.moved hW.alike hKx, hDx.weaken (fun _ _ _ _ => trivial), nzA_warm hW hz⟩⟩ rfl rfl hl.1 rfl (lv_room (Nat.le_of_ble_eq_true rfl)) dL_law_791 ⟨by show 400 + n + 0 ≤ 600000; omega, by show 40000 + 5 * n + 0 ≤ 7302250; omega⟩) hS (fun q _ h => hFx q h) hFx (fun rx9 u t H1 locs ht hvm hw hB hz1 hk1 hS => ?_)
  obtain ⟨ax2, kx2, vx2, fx2, gx2, rx2, hKK, h0, hXI2, hrelx, hP1, hD1⟩ := hB
  rw [ht] at hP1
  obtain ⟨hP, hD⟩ := gz_joinL hP hD hk1 hFx hP1 hD1
  have hK := va_K.app (hKK _ hKx) (gz_KR hK)
  have hwx := hw
  generalize H1 = H at hP hS ⊢
  refine lv_pop hx hb dL_law_794 rfl ?_
  refine lv_aload_n hx hb dL_law_795 rfl (lv_at hl 2 rfl) ?_
  refine lv_aload_n hx hb dL_law_796 rfl (lv_at hl 0 rfl) ?_
  refine lv_iload_n hx hb dL_law_797 rfl (lv_at hl 3 rfl) ?_
  refine lv_iconst (v := 1) hx hb dL_law_798 (by decide) ?_
  refine lv_iadd hx hb dL_law_799 ?_
  refine gz_topi (y := nI (6 * n + 1)) (gz_ixn n 1 1 rfl) ?_
  refine va_sld hx hb hX hbl hbA hS (vp_in_nI (show 6 * n + 1 < L by omega) (by omega)) dL_law_800 ?_
  refine lv_topi (fun a2 ea2 => ?_)
  have hPx := gz_PR hP
  have hDx := gz_DR hD
  have hKx := gz_KR hK
  have hFx := gz_freeA hDx hS hA
  refine va_calli (va_runV (As := [.int a2]) (rest := []) ⟨hx, hb, hml, hown, hts⟩ (uX12_sure l dC dI H.size hm mi mr km fm hMI a2) (cwV 1 hts (gz_lV lm_143 lm_144 lm_145 lm_9 lm_142 lwGB goodGB) rfl rfl rfl (by decide +kernel) ⟨Nat.le_of_ble_eq_true rfl, Nat.le_of_ble_eq_true rfl⟩) ⟨bl_I (bl_a bl_sz (bl_a bl_P (bl_a bl_K bl_c))), mw2_recv hKx hPx, fun U hU hW => ⟨rfl, by rw [hU], by rw [hU]; exact hPx, va_K.moved hW.alike hKx, hDx.weaken (fun _ _ _ _ => trivial)⟩⟩ rfl rfl hl.1 rfl (lv_room (Nat.le_of_ble_eq_true rfl)) dL_law_801 ⟨by show 400 + n + 0 ≤ 600000; omega, by show 40000 + 5 * n + 0 ≤ 7302250; omega⟩) hS (fun q _ h => hFx q h) hFx (fun rm9 u t H1 locs ht hvm hw hB hz1 hk1 hS => ?_)
  obtain ⟨mi2, fm2, hMI2, hrelm, hP1, hD1⟩ := hB
  rw [ht] at hP1
  obtain ⟨hP, hD⟩ := gz_joinR hP hD hk1 hFx hP1 hD1
  have hwm := hw
  generalize H1 = H at hP hS ⊢
  refine lv_pop hx hb dL_law_804 rfl ?_
  refine lv_goto (tgt := 2056) hx hb dL_law_805 (by decide) ?_
  have hN9 := pr_stay (g := gx2) hlen hrelx hrelm
  refine W.widen (k := 400 + (n + 1)) (n := 40000 + 5 * (n + 1)) (by omega) (by omega) ?_
  exact next _ _ _ ⟨ax2, kx2, vx2, fx2, gx2, rx2, mi2, mr, km, fm2, h0, hK, hXI2, hMI2, hN9, hP, hD⟩ hS hl
