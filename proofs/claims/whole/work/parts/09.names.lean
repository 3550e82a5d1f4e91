theorem dX12_step_597 : decode cX12_step 597 = .ok (.aload_n 0, 1) := by decide +kernel
theorem dX12_step_598 : decode cX12_step 598 = .ok (.iload_n 2, 1) := by decide +kernel
theorem dX12_step_599 : decode cX12_step 599 = .ok (.aload_n 0, 1) := by decide +kernel
theorem dX12_step_600 : decode cX12_step 600 = .ok (.getfield 114, 3) := by decide +kernel
theorem dX12_step_603 : decode cX12_step 603 = .ok (.aload_n 0, 1) := by decide +kernel
theorem dX12_step_604 : decode cX12_step 604 = .ok (.getfield 303, 3) := by decide +kernel
theorem dX12_step_607 : decode cX12_step 607 = .ok (.iconst 1, 1) := by decide +kernel
theorem dX12_step_608 : decode cX12_step 608 = .ok (.isub, 1) := by decide +kernel
theorem dX12_step_609 : decode cX12_step 609 = .ok (.iaload, 1) := by decide +kernel
theorem dX12_step_610 : decode cX12_step 610 = .ok (.iconst 0, 1) := by decide +kernel
theorem dX12_step_611 : decode cX12_step 611 = .ok (.invokevirtual 323, 3) := by decide +kernel
theorem dX12_step_614 : decode cX12_step 614 = .ok (.iastore, 1) := by decide +kernel
theorem dX12_step_615 : decode cX12_step 615 = .ok (.iconst 0, 1) := by decide +kernel
theorem dX12_step_616 : decode cX12_step 616 = .ok (.ireturn, 1) := by decide +kernel
theorem dX12_step_617 : decode cX12_step 617 = .ok (.aload_n 0, 1) := by decide +kernel
theorem dX12_step_618 : decode cX12_step 618 = .ok (.dup, 1) := by decide +kernel
theorem dX12_step_619 : decode cX12_step 619 = .ok (.getfield 303, 3) := by decide +kernel
theorem dX12_step_622 : decode cX12_step 622 = .ok (.iconst 1, 1) := by decide +kernel
theorem dX12_step_623 : decode cX12_step 623 = .ok (.isub, 1) := by decide +kernel
theorem dX12_step_624 : decode cX12_step 624 = .ok (.putfield 303, 3) := by decide +kernel
theorem dX12_step_627 : decode cX12_step 627 = .ok (.iconst 0, 1) := by decide +kernel
theorem dX12_step_628 : decode cX12_step 628 = .ok (.ireturn, 1) := by decide +kernel
theorem dX12_step_629 : decode cX12_step 629 = .ok (.aload_n 0, 1) := by decide +kernel
theorem dX12_step_630 : decode cX12_step 630 = .ok (.iload_n 1, 1) := by decide +kernel
theorem dX12_step_631 : decode cX12_step 631 = .ok (.iload 5, 2) := by decide +kernel
theorem dX12_step_633 : decode cX12_step 633 = .ok (.invokevirtual 358, 3) := by decide +kernel
theorem dX12_step_636 : decode cX12_step 636 = .ok (.iconst 0, 1) := by decide +kernel
theorem dX12_step_637 : decode cX12_step 637 = .ok (.ireturn, 1) := by decide +kernel
theorem dX12_step_638 : decode cX12_step 638 = .ok (.aload_n 0, 1) := by decide +kernel
theorem dX12_step_639 : decode cX12_step 639 = .ok (.invokevirtual 331, 3) := by decide +kernel
theorem dX12_step_642 : decode cX12_step 642 = .ok (.lconst 0, 1) := by decide +kernel
theorem dX12_step_643 : decode cX12_step 643 = .ok (.lcmp, 1) := by decide +kernel
theorem dX12_step_644 : decode cX12_step 644 = .ok (.ifCond .eq 10, 3) := by decide +kernel
theorem dX12_step_647 : decode cX12_step 647 = .ok (.aload_n 0, 1) := by decide +kernel
theorem dX12_step_648 : decode cX12_step 648 = .ok (.iload_n 1, 1) := by decide +kernel
theorem dX12_step_649 : decode cX12_step 649 = .ok (.iload 5, 2) := by decide +kernel
theorem dX12_step_651 : decode cX12_step 651 = .ok (.invokevirtual 358, 3) := by decide +kernel
theorem dX12_step_654 : decode cX12_step 654 = .ok (.iconst 0, 1) := by decide +kernel
theorem dX12_step_655 : decode cX12_step 655 = .ok (.ireturn, 1) := by decide +kernel
theorem dX12_step_656 : decode cX12_step 656 = .ok (.aload_n 0, 1) := by decide +kernel
theorem dX12_step_657 : decode cX12_step 657 = .ok (.invokevirtual 320, 3) := by decide +kernel
theorem dX12_step_660 : decode cX12_step 660 = .ok (.iconst 0, 1) := by decide +kernel
theorem dX12_step_661 : decode cX12_step 661 = .ok (.ireturn, 1) := by decide +kernel
theorem dX12_step_662 : decode cX12_step 662 = .ok (.aload_n 0, 1) := by decide +kernel
theorem dX12_step_663 : decode cX12_step 663 = .ok (.bipush 16, 2) := by decide +kernel
theorem dX12_step_665 : decode cX12_step 665 = .ok (.iload_n 2, 1) := by decide +kernel
theorem dX12_step_666 : decode cX12_step 666 = .ok (.bipush 8, 2) := by decide +kernel
theorem dX12_step_668 : decode cX12_step 668 = .ok (.idiv, 1) := by decide +kernel
theorem dX12_step_669 : decode cX12_step 669 = .ok (.imul, 1) := by decide +kernel
theorem dX12_step_670 : decode cX12_step 670 = .ok (.iload 5, 2) := by decide +kernel
theorem dX12_step_672 : decode cX12_step 672 = .ok (.iadd, 1) := by decide +kernel
theorem dX12_step_673 : decode cX12_step 673 = .ok (.invokevirtual 189, 3) := by decide +kernel
theorem dX12_step_676 : decode cX12_step 676 = .ok (.istore 20, 2) := by decide +kernel
theorem dX12_step_678 : decode cX12_step 678 = .ok (.iload 20, 2) := by decide +kernel
theorem dX12_step_680 : decode cX12_step 680 = .ok (.ifCond .ge 8, 3) := by decide +kernel
theorem dX12_step_683 : decode cX12_step 683 = .ok (.bipush 7, 2) := by decide +kernel
theorem dX12_step_685 : decode cX12_step 685 = .ok (.goto 9, 3) := by decide +kernel
theorem dX12_step_688 : decode cX12_step 688 = .ok (.aload_n 0, 1) := by decide +kernel
theorem dX12_step_689 : decode cX12_step 689 = .ok (.iload 20, 2) := by decide +kernel
theorem dX12_step_691 : decode cX12_step 691 = .ok (.invokevirtual 361, 3) := by decide +kernel
theorem dX12_step_694 : decode cX12_step 694 = .ok (.ireturn, 1) := by decide +kernel
theorem dX12_step_695 : decode cX12_step 695 = .ok (.aload_n 0, 1) := by decide +kernel
theorem dX12_step_696 : decode cX12_step 696 = .ok (.invokevirtual 331, 3) := by decide +kernel
theorem dX12_step_699 : decode cX12_step 699 = .ok (.lstore 21, 2) := by decide +kernel
theorem dX12_step_701 : decode cX12_step 701 = .ok (.lload 21, 2) := by decide +kernel
theorem dX12_step_703 : decode cX12_step 703 = .ok (.lconst 1, 1) := by decide +kernel
theorem dX12_step_704 : decode cX12_step 704 = .ok (.lcmp, 1) := by decide +kernel
theorem dX12_step_705 : decode cX12_step 705 = .ok (.ifCond .lt 14, 3) := by decide +kernel
theorem dX12_step_708 : decode cX12_step 708 = .ok (.lload 21, 2) := by decide +kernel
theorem dX12_step_710 : decode cX12_step 710 = .ok (.aload_n 0, 1) := by decide +kernel
theorem dX12_step_711 : decode cX12_step 711 = .ok (.getfield 251, 3) := by decide +kernel
theorem dX12_step_714 : decode cX12_step 714 = .ok (.i2l, 1) := by decide +kernel
theorem dX12_step_715 : decode cX12_step 715 = .ok (.lcmp, 1) := by decide +kernel
theorem dX12_step_716 : decode cX12_step 716 = .ok (.ifCond .le 5, 3) := by decide +kernel
theorem dX12_step_719 : decode cX12_step 719 = .ok (.iconst 4, 1) := by decide +kernel
theorem dX12_step_720 : decode cX12_step 720 = .ok (.ireturn, 1) := by decide +kernel
theorem dX12_step_721 : decode cX12_step 721 = .ok (.aload_n 0, 1) := by decide +kernel
theorem dX12_step_722 : decode cX12_step 722 = .ok (.getfield 70, 3) := by decide +kernel
theorem dX12_step_725 : decode cX12_step 725 = .ok (.lload 21, 2) := by decide +kernel
theorem dX12_step_727 : decode cX12_step 727 = .ok (.l2i, 1) := by decide +kernel
theorem dX12_step_728 : decode cX12_step 728 = .ok (.iconst 1, 1) := by decide +kernel
theorem dX12_step_729 : decode cX12_step 729 = .ok (.isub, 1) := by decide +kernel
theorem dX12_step_730 : decode cX12_step 730 = .ok (.iaload, 1) := by decide +kernel
theorem dX12_step_731 : decode cX12_step 731 = .ok (.istore 20, 2) := by decide +kernel
theorem dX12_step_733 : decode cX12_step 733 = .ok (.aload_n 0, 1) := by decide +kernel
theorem dX12_step_734 : decode cX12_step 734 = .ok (.iload 20, 2) := by decide +kernel
theorem dX12_step_736 : decode cX12_step 736 = .ok (.invokevirtual 156, 3) := by decide +kernel
theorem dX12_step_739 : decode cX12_step 739 = .ok (.iload 5, 2) := by decide +kernel
theorem dX12_step_741 : decode cX12_step 741 = .ok (.if_icmp .eq 7, 3) := by decide +kernel
theorem dX12_step_744 : decode cX12_step 744 = .ok (.iconst 5, 1) := by decide +kernel
theorem dX12_step_745 : decode cX12_step 745 = .ok (.goto 9, 3) := by decide +kernel
theorem dX12_step_748 : decode cX12_step 748 = .ok (.aload_n 0, 1) := by decide +kernel
theorem dX12_step_749 : decode cX12_step 749 = .ok (.iload 20, 2) := by decide +kernel
theorem dX12_step_751 : decode cX12_step 751 = .ok (.invokevirtual 361, 3) := by decide +kernel
theorem dX12_step_754 : decode cX12_step 754 = .ok (.ireturn, 1) := by decide +kernel
theorem dX12_step_755 : decode cX12_step 755 = .ok (.aload_n 0, 1) := by decide +kernel
theorem dX12_step_756 : decode cX12_step 756 = .ok (.aload_n 0, 1) := by decide +kernel
theorem dX12_step_757 : decode cX12_step 757 = .ok (.bipush 16, 2) := by decide +kernel
theorem dX12_step_759 : decode cX12_step 759 = .ok (.iload_n 2, 1) := by decide +kernel
theorem dX12_step_760 : decode cX12_step 760 = .ok (.bipush 8, 2) := by decide +kernel
theorem dX12_step_762 : decode cX12_step 762 = .ok (.idiv, 1) := by decide +kernel
theorem dX12_step_763 : decode cX12_step 763 = .ok (.imul, 1) := by decide +kernel
theorem dX12_step_764 : decode cX12_step 764 = .ok (.iload 5, 2) := by decide +kernel
theorem dX12_step_766 : decode cX12_step 766 = .ok (.iadd, 1) := by decide +kernel
theorem dX12_step_767 : decode cX12_step 767 = .ok (.invokevirtual 297, 3) := by decide +kernel
theorem dX12_step_770 : decode cX12_step 770 = .ok (.i2l, 1) := by decide +kernel
theorem dX12_step_771 : decode cX12_step 771 = .ok (.invokevirtual 343, 3) := by decide +kernel
theorem dX12_step_774 : decode cX12_step 774 = .ok (.iconst 0, 1) := by decide +kernel
theorem dX12_step_775 : decode cX12_step 775 = .ok (.ireturn, 1) := by decide +kernel
theorem dX12_step_776 : decode cX12_step 776 = .ok (.aload_n 0, 1) := by decide +kernel
theorem dX12_step_777 : decode cX12_step 777 = .ok (.bipush 16, 2) := by decide +kernel
theorem dX12_step_779 : decode cX12_step 779 = .ok (.iload_n 2, 1) := by decide +kernel
theorem dX12_step_780 : decode cX12_step 780 = .ok (.bipush 8, 2) := by decide +kernel
theorem dX12_step_782 : decode cX12_step 782 = .ok (.idiv, 1) := by decide +kernel
theorem dX12_step_783 : decode cX12_step 783 = .ok (.imul, 1) := by decide +kernel
theorem dX12_step_784 : decode cX12_step 784 = .ok (.iload 5, 2) := by decide +kernel
theorem dX12_step_786 : decode cX12_step 786 = .ok (.iadd, 1) := by decide +kernel
theorem dX12_step_787 : decode cX12_step 787 = .ok (.invokevirtual 189, 3) := by decide +kernel
theorem dX12_step_790 : decode cX12_step 790 = .ok (.istore 20, 2) := by decide +kernel
theorem dX12_step_792 : decode cX12_step 792 = .ok (.aload_n 0, 1) := by decide +kernel
theorem dX12_step_793 : decode cX12_step 793 = .ok (.iload 20, 2) := by decide +kernel
theorem dX12_step_795 : decode cX12_step 795 = .ok (.ifCond .ge 7, 3) := by decide +kernel
theorem dX12_step_798 : decode cX12_step 798 = .ok (.lconst 0, 1) := by decide +kernel
theorem dX12_step_799 : decode cX12_step 799 = .ok (.goto 10, 3) := by decide +kernel
theorem dX12_step_802 : decode cX12_step 802 = .ok (.aload_n 0, 1) := by decide +kernel
theorem dX12_step_803 : decode cX12_step 803 = .ok (.iload 20, 2) := by decide +kernel
theorem dX12_step_805 : decode cX12_step 805 = .ok (.invokevirtual 257, 3) := by decide +kernel
theorem dX12_step_808 : decode cX12_step 808 = .ok (.i2l, 1) := by decide +kernel
theorem dX12_step_809 : decode cX12_step 809 = .ok (.invokevirtual 343, 3) := by decide +kernel
theorem dX12_step_812 : decode cX12_step 812 = .ok (.iconst 0, 1) := by decide +kernel
theorem dX12_step_813 : decode cX12_step 813 = .ok (.ireturn, 1) := by decide +kernel
theorem dX12_step_814 : decode cX12_step 814 = .ok (.aload_n 0, 1) := by decide +kernel
theorem dX12_step_815 : decode cX12_step 815 = .ok (.ldc2_w 318, 3) := by decide +kernel
theorem dX12_step_818 : decode cX12_step 818 = .ok (.invokevirtual 343, 3) := by decide +kernel
theorem dX12_step_821 : decode cX12_step 821 = .ok (.iconst 0, 1) := by decide +kernel
theorem dX12_step_822 : decode cX12_step 822 = .ok (.ireturn, 1) := by decide +kernel
theorem dX12_run_0 : decode cX12_run 0 = .ok (.aload_n 0, 1) := by decide +kernel
theorem dX12_run_1 : decode cX12_run 1 = .ok (.aload_n 0, 1) := by decide +kernel
theorem dX12_run_2 : decode cX12_run 2 = .ok (.iload_n 1, 1) := by decide +kernel
theorem dX12_run_3 : decode cX12_run 3 = .ok (.iload_n 2, 1) := by decide +kernel
theorem dX12_run_4 : decode cX12_run 4 = .ok (.invokevirtual 138, 3) := by decide +kernel
theorem dX12_run_7 : decode cX12_run 7 = .ok (.ifCond .eq 15, 3) := by decide +kernel
theorem dX12_run_10 : decode cX12_run 10 = .ok (.iload 7, 2) := by decide +kernel
theorem dX12_run_12 : decode cX12_run 12 = .ok (.iconst 0, 1) := by decide +kernel
theorem dX12_run_13 : decode cX12_run 13 = .ok (.sipush 2000, 3) := by decide +kernel
theorem dX12_run_16 : decode cX12_run 16 = .ok (.invokestatic 126, 3) := by decide +kernel
theorem dX12_run_19 : decode cX12_run 19 = .ok (.ifCond .ne 7, 3) := by decide +kernel
theorem dX12_run_22 : decode cX12_run 22 = .ok (.iconst 1, 1) := by decide +kernel
theorem dX12_run_23 : decode cX12_run 23 = .ok (.goto 15, 3) := by decide +kernel
theorem dX12_run_26 : decode cX12_run 26 = .ok (.aload_n 0, 1) := by decide +kernel
theorem dX12_run_27 : decode cX12_run 27 = .ok (.getfield 134, 3) := by decide +kernel
theorem dX12_run_30 : decode cX12_run 30 = .ok (.ifCond .ne 7, 3) := by decide +kernel
theorem dX12_run_33 : decode cX12_run 33 = .ok (.iconst 2, 1) := by decide +kernel
theorem dX12_run_34 : decode cX12_run 34 = .ok (.goto 4, 3) := by decide +kernel
theorem dX12_run_37 : decode cX12_run 37 = .ok (.iconst 0, 1) := by decide +kernel
theorem dX12_run_38 : decode cX12_run 38 = .ok (.putfield 120, 3) := by decide +kernel
theorem dX12_run_41 : decode cX12_run 41 = .ok (.aload_n 0, 1) := by decide +kernel
theorem dX12_run_42 : decode cX12_run 42 = .ok (.getfield 120, 3) := by decide +kernel
theorem dX12_run_45 : decode cX12_run 45 = .ok (.ifCond .le 5, 3) := by decide +kernel
theorem dX12_run_48 : decode cX12_run 48 = .ok (.iconst 0, 1) := by decide +kernel
theorem dX12_run_49 : decode cX12_run 49 = .ok (.ireturn, 1) := by decide +kernel
theorem dX12_run_50 : decode cX12_run 50 = .ok (.iconst 0, 1) := by decide +kernel
theorem dX12_run_51 : decode cX12_run 51 = .ok (.istore 8, 2) := by decide +kernel
theorem dX12_run_53 : decode cX12_run 53 = .ok (.iload 8, 2) := by decide +kernel
theorem dX12_run_55 : decode cX12_run 55 = .ok (.sipush 1024, 3) := by decide +kernel
theorem dX12_run_58 : decode cX12_run 58 = .ok (.if_icmp .ge 17, 3) := by decide +kernel
theorem dX12_run_61 : decode cX12_run 61 = .ok (.aload_n 0, 1) := by decide +kernel
theorem dX12_run_62 : decode cX12_run 62 = .ok (.getfield 76, 3) := by decide +kernel
theorem dX12_run_65 : decode cX12_run 65 = .ok (.iload 8, 2) := by decide +kernel
theorem dX12_run_67 : decode cX12_run 67 = .ok (.iconst 0, 1) := by decide +kernel
theorem dX12_run_68 : decode cX12_run 68 = .ok (.bastore, 1) := by decide +kernel
theorem dX12_run_69 : decode cX12_run 69 = .ok (.iinc 8 1, 3) := by decide +kernel
theorem dX12_run_72 : decode cX12_run 72 = .ok (.goto (-19), 3) := by decide +kernel
theorem dX12_run_75 : decode cX12_run 75 = .ok (.iconst 0, 1) := by decide +kernel
theorem dX12_run_76 : decode cX12_run 76 = .ok (.istore 8, 2) := by decide +kernel
theorem dX12_run_78 : decode cX12_run 78 = .ok (.iload 8, 2) := by decide +kernel
theorem dX12_run_80 : decode cX12_run 80 = .ok (.bipush 24, 2) := by decide +kernel
theorem dX12_run_82 : decode cX12_run 82 = .ok (.if_icmp .ge 80, 3) := by decide +kernel
theorem dX12_run_85 : decode cX12_run 85 = .ok (.iload 8, 2) := by decide +kernel
theorem dX12_run_87 : decode cX12_run 87 = .ok (.iconst 4, 1) := by decide +kernel
theorem dX12_run_88 : decode cX12_run 88 = .ok (.irem, 1) := by decide +kernel
theorem dX12_run_89 : decode cX12_run 89 = .ok (.aload_n 0, 1) := by decide +kernel
theorem dX12_run_90 : decode cX12_run 90 = .ok (.getfield 13, 3) := by decide +kernel
theorem dX12_run_93 : decode cX12_run 93 = .ok (.iload 8, 2) := by decide +kernel
theorem dX12_run_95 : decode cX12_run 95 = .ok (.iconst 4, 1) := by decide +kernel
theorem dX12_run_96 : decode cX12_run 96 = .ok (.idiv, 1) := by decide +kernel
theorem dX12_run_97 : decode cX12_run 97 = .ok (.iaload, 1) := by decide +kernel
theorem dX12_run_98 : decode cX12_run 98 = .ok (.if_icmp .lt 6, 3) := by decide +kernel
theorem dX12_run_101 : decode cX12_run 101 = .ok (.goto 55, 3) := by decide +kernel
theorem dX12_run_104 : decode cX12_run 104 = .ok (.aload_n 0, 1) := by decide +kernel
theorem dX12_run_105 : decode cX12_run 105 = .ok (.iload 8, 2) := by decide +kernel
theorem dX12_run_107 : decode cX12_run 107 = .ok (.invokevirtual 149, 3) := by decide +kernel
theorem dX12_run_110 : decode cX12_run 110 = .ok (.istore 9, 2) := by decide +kernel
theorem dX12_run_112 : decode cX12_run 112 = .ok (.iconst 0, 1) := by decide +kernel
theorem dX12_run_113 : decode cX12_run 113 = .ok (.istore 10, 2) := by decide +kernel
theorem dX12_run_115 : decode cX12_run 115 = .ok (.iload 10, 2) := by decide +kernel
theorem dX12_run_117 : decode cX12_run 117 = .ok (.aload_n 0, 1) := by decide +kernel
theorem dX12_run_118 : decode cX12_run 118 = .ok (.getfield 37, 3) := by decide +kernel
theorem dX12_run_121 : decode cX12_run 121 = .ok (.iload 8, 2) := by decide +kernel
theorem dX12_run_123 : decode cX12_run 123 = .ok (.iaload, 1) := by decide +kernel
theorem dX12_run_124 : decode cX12_run 124 = .ok (.if_icmp .ge 32, 3) := by decide +kernel
theorem dX12_run_127 : decode cX12_run 127 = .ok (.aload_n 0, 1) := by decide +kernel
theorem dX12_run_128 : decode cX12_run 128 = .ok (.getfield 76, 3) := by decide +kernel
theorem dX12_run_131 : decode cX12_run 131 = .ok (.iload 9, 2) := by decide +kernel
theorem dX12_run_133 : decode cX12_run 133 = .ok (.iload 10, 2) := by decide +kernel
theorem dX12_run_135 : decode cX12_run 135 = .ok (.iadd, 1) := by decide +kernel
theorem dX12_run_136 : decode cX12_run 136 = .ok (.aload_n 0, 1) := by decide +kernel
theorem dX12_run_137 : decode cX12_run 137 = .ok (.getfield 43, 3) := by decide +kernel
theorem dX12_run_140 : decode cX12_run 140 = .ok (.bipush 64, 2) := by decide +kernel
theorem dX12_run_142 : decode cX12_run 142 = .ok (.iload 8, 2) := by decide +kernel
theorem dX12_run_144 : decode cX12_run 144 = .ok (.imul, 1) := by decide +kernel
theorem dX12_run_145 : decode cX12_run 145 = .ok (.iload 10, 2) := by decide +kernel
theorem dX12_run_147 : decode cX12_run 147 = .ok (.iadd, 1) := by decide +kernel
theorem dX12_run_148 : decode cX12_run 148 = .ok (.baload, 1) := by decide +kernel
theorem dX12_run_149 : decode cX12_run 149 = .ok (.bastore, 1) := by decide +kernel
theorem dX12_run_150 : decode cX12_run 150 = .ok (.iinc 10 1, 3) := by decide +kernel
theorem dX12_run_153 : decode cX12_run 153 = .ok (.goto (-38), 3) := by decide +kernel
theorem dX12_run_156 : decode cX12_run 156 = .ok (.iinc 8 1, 3) := by decide +kernel
theorem dX12_run_159 : decode cX12_run 159 = .ok (.goto (-81), 3) := by decide +kernel
theorem dX12_run_162 : decode cX12_run 162 = .ok (.aload_n 0, 1) := by decide +kernel
theorem dX12_run_163 : decode cX12_run 163 = .ok (.iconst 0, 1) := by decide +kernel
theorem dX12_run_164 : decode cX12_run 164 = .ok (.putfield 364, 3) := by decide +kernel
theorem dX12_run_167 : decode cX12_run 167 = .ok (.aload_n 0, 1) := by decide +kernel
theorem dX12_run_168 : decode cX12_run 168 = .ok (.iconst 0, 1) := by decide +kernel
theorem dX12_run_169 : decode cX12_run 169 = .ok (.putfield 309, 3) := by decide +kernel
theorem dX12_run_172 : decode cX12_run 172 = .ok (.aload_n 0, 1) := by decide +kernel
theorem dX12_run_173 : decode cX12_run 173 = .ok (.iconst 0, 1) := by decide +kernel
theorem dX12_run_174 : decode cX12_run 174 = .ok (.putfield 306, 3) := by decide +kernel
theorem dX12_run_177 : decode cX12_run 177 = .ok (.aload_n 0, 1) := by decide +kernel
theorem dX12_run_178 : decode cX12_run 178 = .ok (.iconst 0, 1) := by decide +kernel
theorem dX12_run_179 : decode cX12_run 179 = .ok (.putfield 303, 3) := by decide +kernel
theorem dX12_run_182 : decode cX12_run 182 = .ok (.aload_n 0, 1) := by decide +kernel
theorem dX12_run_183 : decode cX12_run 183 = .ok (.iconst 0, 1) := by decide +kernel
theorem dX12_run_184 : decode cX12_run 184 = .ok (.putfield 300, 3) := by decide +kernel
theorem dX12_run_187 : decode cX12_run 187 = .ok (.aload_n 0, 1) := by decide +kernel
theorem dX12_run_188 : decode cX12_run 188 = .ok (.lconst 0, 1) := by decide +kernel
theorem dX12_run_189 : decode cX12_run 189 = .ok (.putfield 367, 3) := by decide +kernel
theorem dX12_run_192 : decode cX12_run 192 = .ok (.bipush 8, 2) := by decide +kernel
theorem dX12_run_194 : decode cX12_run 194 = .ok (.iload_n 1, 1) := by decide +kernel
theorem dX12_run_195 : decode cX12_run 195 = .ok (.imul, 1) := by decide +kernel
theorem dX12_run_196 : decode cX12_run 196 = .ok (.iload_n 2, 1) := by decide +kernel
theorem dX12_run_197 : decode cX12_run 197 = .ok (.iadd, 1) := by decide +kernel
theorem dX12_run_198 : decode cX12_run 198 = .ok (.istore 8, 2) := by decide +kernel
theorem dX12_run_200 : decode cX12_run 200 = .ok (.iconst 0, 1) := by decide +kernel
theorem dX12_run_201 : decode cX12_run 201 = .ok (.istore 9, 2) := by decide +kernel
theorem dX12_run_203 : decode cX12_run 203 = .ok (.iload 9, 2) := by decide +kernel
theorem dX12_run_205 : decode cX12_run 205 = .ok (.aload_n 0, 1) := by decide +kernel
theorem dX12_run_206 : decode cX12_run 206 = .ok (.getfield 19, 3) := by decide +kernel
theorem dX12_run_209 : decode cX12_run 209 = .ok (.iload 8, 2) := by decide +kernel
theorem dX12_run_211 : decode cX12_run 211 = .ok (.iaload, 1) := by decide +kernel
theorem dX12_run_212 : decode cX12_run 212 = .ok (.if_icmp .ge 34, 3) := by decide +kernel
theorem dX12_run_215 : decode cX12_run 215 = .ok (.aload_n 0, 1) := by decide +kernel
theorem dX12_run_216 : decode cX12_run 216 = .ok (.iload 9, 2) := by decide +kernel
theorem dX12_run_218 : decode cX12_run 218 = .ok (.ifCond .ne 7, 3) := by decide +kernel
theorem dX12_run_221 : decode cX12_run 221 = .ok (.lload_n 3, 1) := by decide +kernel
theorem dX12_run_222 : decode cX12_run 222 = .ok (.goto 15, 3) := by decide +kernel
theorem dX12_run_225 : decode cX12_run 225 = .ok (.iload 9, 2) := by decide +kernel
theorem dX12_run_227 : decode cX12_run 227 = .ok (.iconst 1, 1) := by decide +kernel
theorem dX12_run_228 : decode cX12_run 228 = .ok (.if_icmp .ne 8, 3) := by decide +kernel
theorem dX12_run_231 : decode cX12_run 231 = .ok (.lload 5, 2) := by decide +kernel
theorem dX12_run_233 : decode cX12_run 233 = .ok (.goto 4, 3) := by decide +kernel
theorem dX12_run_236 : decode cX12_run 236 = .ok (.lconst 0, 1) := by decide +kernel
theorem dX12_run_237 : decode cX12_run 237 = .ok (.invokevirtual 343, 3) := by decide +kernel
theorem dX12_run_240 : decode cX12_run 240 = .ok (.iinc 9 1, 3) := by decide +kernel
theorem dX12_run_243 : decode cX12_run 243 = .ok (.goto (-40), 3) := by decide +kernel
theorem dX12_run_246 : decode cX12_run 246 = .ok (.aload_n 0, 1) := by decide +kernel
theorem dX12_run_247 : decode cX12_run 247 = .ok (.iload 8, 2) := by decide +kernel
theorem dX12_run_249 : decode cX12_run 249 = .ok (.invokevirtual 315, 3) := by decide +kernel
theorem dX12_run_252 : decode cX12_run 252 = .ok (.iconst 0, 1) := by decide +kernel
theorem dX12_run_253 : decode cX12_run 253 = .ok (.istore 9, 2) := by decide +kernel
theorem dX12_run_255 : decode cX12_run 255 = .ok (.aload_n 0, 1) := by decide +kernel
theorem dX12_run_256 : decode cX12_run 256 = .ok (.getfield 306, 3) := by decide +kernel
theorem dX12_run_259 : decode cX12_run 259 = .ok (.ifCond .le 81, 3) := by decide +kernel
theorem dX12_run_262 : decode cX12_run 262 = .ok (.iload 9, 2) := by decide +kernel
theorem dX12_run_264 : decode cX12_run 264 = .ok (.ifCond .ne 76, 3) := by decide +kernel
theorem dX12_run_267 : decode cX12_run 267 = .ok (.aload_n 0, 1) := by decide +kernel
theorem dX12_run_268 : decode cX12_run 268 = .ok (.getfield 306, 3) := by decide +kernel
theorem dX12_run_271 : decode cX12_run 271 = .ok (.iconst 1, 1) := by decide +kernel
theorem dX12_run_272 : decode cX12_run 272 = .ok (.isub, 1) := by decide +kernel
theorem dX12_run_273 : decode cX12_run 273 = .ok (.istore 10, 2) := by decide +kernel
theorem dX12_run_275 : decode cX12_run 275 = .ok (.aload_n 0, 1) := by decide +kernel
theorem dX12_run_276 : decode cX12_run 276 = .ok (.getfield 98, 3) := by decide +kernel
theorem dX12_run_279 : decode cX12_run 279 = .ok (.iload 10, 2) := by decide +kernel
theorem dX12_run_281 : decode cX12_run 281 = .ok (.iaload, 1) := by decide +kernel
theorem dX12_run_282 : decode cX12_run 282 = .ok (.aload_n 0, 1) := by decide +kernel
theorem dX12_run_283 : decode cX12_run 283 = .ok (.getfield 28, 3) := by decide +kernel
theorem dX12_run_286 : decode cX12_run 286 = .ok (.aload_n 0, 1) := by decide +kernel
theorem dX12_run_287 : decode cX12_run 287 = .ok (.getfield 95, 3) := by decide +kernel
theorem dX12_run_290 : decode cX12_run 290 = .ok (.iload 10, 2) := by decide +kernel
theorem dX12_run_292 : decode cX12_run 292 = .ok (.iaload, 1) := by decide +kernel
theorem dX12_run_293 : decode cX12_run 293 = .ok (.iaload, 1) := by decide +kernel
theorem dX12_run_294 : decode cX12_run 294 = .ok (.if_icmp .lt 10, 3) := by decide +kernel
theorem dX12_run_297 : decode cX12_run 297 = .ok (.aload_n 0, 1) := by decide +kernel
theorem dX12_run_298 : decode cX12_run 298 = .ok (.invokevirtual 320, 3) := by decide +kernel
theorem dX12_run_301 : decode cX12_run 301 = .ok (.goto 36, 3) := by decide +kernel
theorem dX12_run_304 : decode cX12_run 304 = .ok (.aload_n 0, 1) := by decide +kernel
theorem dX12_run_305 : decode cX12_run 305 = .ok (.getfield 364, 3) := by decide +kernel
theorem dX12_run_308 : decode cX12_run 308 = .ok (.iload 7, 2) := by decide +kernel
theorem dX12_run_310 : decode cX12_run 310 = .ok (.if_icmp .ne 9, 3) := by decide +kernel
theorem dX12_run_313 : decode cX12_run 313 = .ok (.iconst 1, 1) := by decide +kernel
theorem dX12_run_314 : decode cX12_run 314 = .ok (.istore 9, 2) := by decide +kernel
theorem dX12_run_316 : decode cX12_run 316 = .ok (.goto 21, 3) := by decide +kernel
theorem dX12_run_319 : decode cX12_run 319 = .ok (.aload_n 0, 1) := by decide +kernel
theorem dX12_run_320 : decode cX12_run 320 = .ok (.dup, 1) := by decide +kernel
theorem dX12_run_321 : decode cX12_run 321 = .ok (.getfield 364, 3) := by decide +kernel
theorem dX12_run_324 : decode cX12_run 324 = .ok (.iconst 1, 1) := by decide +kernel
theorem dX12_run_325 : decode cX12_run 325 = .ok (.iadd, 1) := by decide +kernel
theorem dX12_run_326 : decode cX12_run 326 = .ok (.putfield 364, 3) := by decide +kernel
theorem dX12_run_329 : decode cX12_run 329 = .ok (.aload_n 0, 1) := by decide +kernel
theorem dX12_run_330 : decode cX12_run 330 = .ok (.iload 10, 2) := by decide +kernel
theorem dX12_run_332 : decode cX12_run 332 = .ok (.invokevirtual 371, 3) := by decide +kernel
theorem dX12_run_335 : decode cX12_run 335 = .ok (.istore 9, 2) := by decide +kernel
theorem dX12_run_337 : decode cX12_run 337 = .ok (.goto (-82), 3) := by decide +kernel
theorem dX12_run_340 : decode cX12_run 340 = .ok (.iload 9, 2) := by decide +kernel
theorem dX12_run_342 : decode cX12_run 342 = .ok (.ifCond .ne 24, 3) := by decide +kernel
theorem dX12_run_345 : decode cX12_run 345 = .ok (.aload_n 0, 1) := by decide +kernel
theorem dX12_run_346 : decode cX12_run 346 = .ok (.getfield 22, 3) := by decide +kernel
theorem dX12_run_349 : decode cX12_run 349 = .ok (.iload 8, 2) := by decide +kernel
theorem dX12_run_351 : decode cX12_run 351 = .ok (.iaload, 1) := by decide +kernel
theorem dX12_run_352 : decode cX12_run 352 = .ok (.iconst 1, 1) := by decide +kernel
theorem dX12_run_353 : decode cX12_run 353 = .ok (.if_icmp .ne 13, 3) := by decide +kernel
theorem dX12_run_356 : decode cX12_run 356 = .ok (.aload_n 0, 1) := by decide +kernel
theorem dX12_run_357 : decode cX12_run 357 = .ok (.aload_n 0, 1) := by decide +kernel
theorem dX12_run_358 : decode cX12_run 358 = .ok (.getfield 111, 3) := by decide +kernel
theorem dX12_run_361 : decode cX12_run 361 = .ok (.iconst 0, 1) := by decide +kernel
theorem dX12_run_362 : decode cX12_run 362 = .ok (.laload, 1) := by decide +kernel
theorem dX12_run_363 : decode cX12_run 363 = .ok (.putfield 367, 3) := by decide +kernel
theorem dX12_run_366 : decode cX12_run 366 = .ok (.iload 9, 2) := by decide +kernel
theorem dX12_run_368 : decode cX12_run 368 = .ok (.ireturn, 1) := by decide +kernel
theorem dX12_told_0 : decode cX12_told 0 = .ok (.aload_n 0, 1) := by decide +kernel
theorem dX12_told_1 : decode cX12_told 1 = .ok (.iload_n 1, 1) := by decide +kernel
theorem dX12_told_2 : decode cX12_told 2 = .ok (.iconst 0, 1) := by decide +kernel
theorem dX12_told_3 : decode cX12_told 3 = .ok (.iconst 2, 1) := by decide +kernel
theorem dX12_told_4 : decode cX12_told 4 = .ok (.invokestatic 126, 3) := by decide +kernel
theorem dX12_told_7 : decode cX12_told 7 = .ok (.ifCond .eq 7, 3) := by decide +kernel
theorem dX12_told_10 : decode cX12_told 10 = .ok (.iconst 0, 1) := by decide +kernel
theorem dX12_told_11 : decode cX12_told 11 = .ok (.goto 4, 3) := by decide +kernel
theorem dX12_told_14 : decode cX12_told 14 = .ok (.iconst 1, 1) := by decide +kernel
theorem dX12_told_15 : decode cX12_told 15 = .ok (.putfield 120, 3) := by decide +kernel
theorem dX12_told_18 : decode cX12_told 18 = .ok (.aload_n 0, 1) := by decide +kernel
theorem dX12_told_19 : decode cX12_told 19 = .ok (.getfield 120, 3) := by decide +kernel
theorem dX12_told_22 : decode cX12_told 22 = .ok (.ifCond .le 5, 3) := by decide +kernel
theorem dX12_told_25 : decode cX12_told 25 = .ok (.lconst 0, 1) := by decide +kernel
theorem dX12_told_26 : decode cX12_told 26 = .ok (.lreturn, 1) := by decide +kernel
theorem dX12_told_27 : decode cX12_told 27 = .ok (.iload_n 1, 1) := by decide +kernel
theorem dX12_told_28 : decode cX12_told 28 = .ok (.ifCond .ne 10, 3) := by decide +kernel
theorem dX12_told_31 : decode cX12_told 31 = .ok (.aload_n 0, 1) := by decide +kernel
theorem dX12_told_32 : decode cX12_told 32 = .ok (.getfield 367, 3) := by decide +kernel
theorem dX12_told_35 : decode cX12_told 35 = .ok (.goto 21, 3) := by decide +kernel
theorem dX12_told_38 : decode cX12_told 38 = .ok (.iload_n 1, 1) := by decide +kernel
theorem dX12_told_39 : decode cX12_told 39 = .ok (.iconst 1, 1) := by decide +kernel
theorem dX12_told_40 : decode cX12_told 40 = .ok (.if_icmp .ne 11, 3) := by decide +kernel
theorem dX12_told_43 : decode cX12_told 43 = .ok (.aload_n 0, 1) := by decide +kernel
theorem dX12_told_44 : decode cX12_told 44 = .ok (.getfield 364, 3) := by decide +kernel
theorem dX12_told_47 : decode cX12_told 47 = .ok (.i2l, 1) := by decide +kernel
theorem dX12_told_48 : decode cX12_told 48 = .ok (.goto 8, 3) := by decide +kernel
theorem dX12_told_51 : decode cX12_told 51 = .ok (.aload_n 0, 1) := by decide +kernel
theorem dX12_told_52 : decode cX12_told 52 = .ok (.getfield 309, 3) := by decide +kernel
theorem dX12_told_55 : decode cX12_told 55 = .ok (.i2l, 1) := by decide +kernel
theorem dX12_told_56 : decode cX12_told 56 = .ok (.lreturn, 1) := by decide +kernel
theorem dX12_memory_0 : decode cX12_memory 0 = .ok (.aload_n 0, 1) := by decide +kernel
theorem dX12_memory_1 : decode cX12_memory 1 = .ok (.iload_n 1, 1) := by decide +kernel
theorem dX12_memory_2 : decode cX12_memory 2 = .ok (.iconst 0, 1) := by decide +kernel
theorem dX12_memory_3 : decode cX12_memory 3 = .ok (.sipush 1023, 3) := by decide +kernel
theorem dX12_memory_6 : decode cX12_memory 6 = .ok (.invokestatic 126, 3) := by decide +kernel
theorem dX12_memory_9 : decode cX12_memory 9 = .ok (.ifCond .eq 7, 3) := by decide +kernel
theorem dX12_memory_12 : decode cX12_memory 12 = .ok (.iconst 0, 1) := by decide +kernel
theorem dX12_memory_13 : decode cX12_memory 13 = .ok (.goto 4, 3) := by decide +kernel
theorem dX12_memory_16 : decode cX12_memory 16 = .ok (.iconst 1, 1) := by decide +kernel
theorem dX12_memory_17 : decode cX12_memory 17 = .ok (.putfield 120, 3) := by decide +kernel
theorem dX12_memory_20 : decode cX12_memory 20 = .ok (.aload_n 0, 1) := by decide +kernel
theorem dX12_memory_21 : decode cX12_memory 21 = .ok (.getfield 120, 3) := by decide +kernel
theorem dX12_memory_24 : decode cX12_memory 24 = .ok (.ifCond .le 7, 3) := by decide +kernel
theorem dX12_memory_27 : decode cX12_memory 27 = .ok (.iconst 0, 1) := by decide +kernel
theorem dX12_memory_28 : decode cX12_memory 28 = .ok (.goto 13, 3) := by decide +kernel
theorem dX12_memory_31 : decode cX12_memory 31 = .ok (.aload_n 0, 1) := by decide +kernel
theorem dX12_memory_32 : decode cX12_memory 32 = .ok (.getfield 76, 3) := by decide +kernel
theorem dX12_memory_35 : decode cX12_memory 35 = .ok (.iload_n 1, 1) := by decide +kernel
theorem dX12_memory_36 : decode cX12_memory 36 = .ok (.baload, 1) := by decide +kernel
theorem dX12_memory_37 : decode cX12_memory 37 = .ok (.sipush 255, 3) := by decide +kernel
theorem dX12_memory_40 : decode cX12_memory 40 = .ok (.iand, 1) := by decide +kernel
theorem dX12_memory_41 : decode cX12_memory 41 = .ok (.ireturn, 1) := by decide +kernel
theorem dJ13_compare_74951_0 : decode cJ13_compare_74951 0 = .ok (.lload_n 0, 1) := by decide +kernel
theorem dJ13_compare_74951_1 : decode cJ13_compare_74951 1 = .ok (.lload_n 2, 1) := by decide +kernel
theorem dJ13_compare_74951_2 : decode cJ13_compare_74951 2 = .ok (.lcmp, 1) := by decide +kernel
theorem dJ13_compare_74951_3 : decode cJ13_compare_74951 3 = .ok (.ifCond .ge 7, 3) := by decide +kernel
theorem dJ13_compare_74951_6 : decode cJ13_compare_74951 6 = .ok (.iconst (-1), 1) := by decide +kernel
theorem dJ13_compare_74951_7 : decode cJ13_compare_74951 7 = .ok (.goto 14, 3) := by decide +kernel
theorem dJ13_compare_74951_10 : decode cJ13_compare_74951 10 = .ok (.lload_n 0, 1) := by decide +kernel
theorem dJ13_compare_74951_11 : decode cJ13_compare_74951 11 = .ok (.lload_n 2, 1) := by decide +kernel
theorem dJ13_compare_74951_12 : decode cJ13_compare_74951 12 = .ok (.lcmp, 1) := by decide +kernel
theorem dJ13_compare_74951_13 : decode cJ13_compare_74951 13 = .ok (.ifCond .ne 7, 3) := by decide +kernel
theorem dJ13_compare_74951_16 : decode cJ13_compare_74951 16 = .ok (.iconst 0, 1) := by decide +kernel
theorem dJ13_compare_74951_17 : decode cJ13_compare_74951 17 = .ok (.goto 4, 3) := by decide +kernel
theorem dJ13_compare_74951_20 : decode cJ13_compare_74951 20 = .ok (.iconst 1, 1) := by decide +kernel
theorem dJ13_compare_74951_21 : decode cJ13_compare_74951 21 = .ok (.ireturn, 1) := by decide +kernel
theorem dJ13_compareUnsigned_74951_0 : decode cJ13_compareUnsigned_74951 0 = .ok (.lload_n 0, 1) := by decide +kernel
theorem dJ13_compareUnsigned_74951_1 : decode cJ13_compareUnsigned_74951 1 = .ok (.ldc2_w 168, 3) := by decide +kernel
theorem dJ13_compareUnsigned_74951_4 : decode cJ13_compareUnsigned_74951 4 = .ok (.ladd, 1) := by decide +kernel
theorem dJ13_compareUnsigned_74951_5 : decode cJ13_compareUnsigned_74951 5 = .ok (.lload_n 2, 1) := by decide +kernel
theorem dJ13_compareUnsigned_74951_6 : decode cJ13_compareUnsigned_74951 6 = .ok (.ldc2_w 168, 3) := by decide +kernel
theorem dJ13_compareUnsigned_74951_9 : decode cJ13_compareUnsigned_74951 9 = .ok (.ladd, 1) := by decide +kernel
theorem dJ13_compareUnsigned_74951_10 : decode cJ13_compareUnsigned_74951 10 = .ok (.invokestatic 302, 3) := by decide +kernel
theorem dJ13_compareUnsigned_74951_13 : decode cJ13_compareUnsigned_74951 13 = .ok (.ireturn, 1) := by decide +kernel
theorem dJ9_max_7cf53_0 : decode cJ9_max_7cf53 0 = .ok (.iload_n 0, 1) := by decide +kernel
theorem dJ9_max_7cf53_1 : decode cJ9_max_7cf53 1 = .ok (.iload_n 1, 1) := by decide +kernel
theorem dJ9_max_7cf53_2 : decode cJ9_max_7cf53 2 = .ok (.if_icmp .lt 7, 3) := by decide +kernel
theorem dJ9_max_7cf53_5 : decode cJ9_max_7cf53 5 = .ok (.iload_n 0, 1) := by decide +kernel
theorem dJ9_max_7cf53_6 : decode cJ9_max_7cf53 6 = .ok (.goto 4, 3) := by decide +kernel
theorem dJ9_max_7cf53_9 : decode cJ9_max_7cf53 9 = .ok (.iload_n 1, 1) := by decide +kernel
theorem dJ9_max_7cf53_10 : decode cJ9_max_7cf53 10 = .ok (.ireturn, 1) := by decide +kernel
theorem dJ9_min_7cf53_0 : decode cJ9_min_7cf53 0 = .ok (.iload_n 0, 1) := by decide +kernel
theorem dJ9_min_7cf53_1 : decode cJ9_min_7cf53 1 = .ok (.iload_n 1, 1) := by decide +kernel
theorem dJ9_min_7cf53_2 : decode cJ9_min_7cf53 2 = .ok (.if_icmp .gt 7, 3) := by decide +kernel
theorem dJ9_min_7cf53_5 : decode cJ9_min_7cf53 5 = .ok (.iload_n 0, 1) := by decide +kernel
theorem dJ9_min_7cf53_6 : decode cJ9_min_7cf53 6 = .ok (.goto 4, 3) := by decide +kernel
theorem dJ9_min_7cf53_9 : decode cJ9_min_7cf53 9 = .ok (.iload_n 1, 1) := by decide +kernel
theorem dJ9_min_7cf53_10 : decode cJ9_min_7cf53 10 = .ok (.ireturn, 1) := by decide +kernel
theorem dJxa1e45_init_da8c8_0 : decode cJxa1e45_init_da8c8 0 = .ok (.aload_n 0, 1) := by decide +kernel
theorem dJxa1e45_init_da8c8_1 : decode cJxa1e45_init_da8c8 1 = .ok (.invokespecial 1, 3) := by decide +kernel
theorem dJxa1e45_init_da8c8_4 : decode cJxa1e45_init_da8c8 4 = .ok (.return_, 1) := by decide +kernel
theorem dJxc12de_init_da8c8_0 : decode cJxc12de_init_da8c8 0 = .ok (.aload_n 0, 1) := by decide +kernel
theorem dJxc12de_init_da8c8_1 : decode cJxc12de_init_da8c8 1 = .ok (.invokespecial 1, 3) := by decide +kernel
theorem dJxc12de_init_da8c8_4 : decode cJxc12de_init_da8c8 4 = .ok (.aload_n 0, 1) := by decide +kernel
theorem dJxc12de_init_da8c8_5 : decode cJxc12de_init_da8c8 5 = .ok (.iconst 0, 1) := by decide +kernel
theorem dJxc12de_init_da8c8_6 : decode cJxc12de_init_da8c8 6 = .ok (.putfield 7, 3) := by decide +kernel
theorem dJxc12de_init_da8c8_9 : decode cJxc12de_init_da8c8 9 = .ok (.return_, 1) := by decide +kernel
theorem dJx4a65c_init_da8c8_0 : decode cJx4a65c_init_da8c8 0 = .ok (.aload_n 0, 1) := by decide +kernel
theorem dJx4a65c_init_da8c8_1 : decode cJx4a65c_init_da8c8 1 = .ok (.invokespecial 1, 3) := by decide +kernel
theorem dJx4a65c_init_da8c8_4 : decode cJx4a65c_init_da8c8 4 = .ok (.aload_n 0, 1) := by decide +kernel
theorem dJx4a65c_init_da8c8_5 : decode cJx4a65c_init_da8c8 5 = .ok (.getstatic 39, 3) := by decide +kernel
theorem dJx4a65c_init_da8c8_8 : decode cJx4a65c_init_da8c8 8 = .ok (.putfield 9, 3) := by decide +kernel
theorem dJx4a65c_init_da8c8_11 : decode cJx4a65c_init_da8c8 11 = .ok (.return_, 1) := by decide +kernel
theorem dJx4a65c_grow_92f84_0 : decode cJx4a65c_grow_92f84 0 = .ok (.aload_n 0, 1) := by decide +kernel
theorem dJx4a65c_grow_92f84_1 : decode cJx4a65c_grow_92f84 1 = .ok (.getfield 9, 3) := by decide +kernel
theorem dJx4a65c_grow_92f84_4 : decode cJx4a65c_grow_92f84 4 = .ok (.arraylength, 1) := by decide +kernel
theorem dJx4a65c_grow_92f84_5 : decode cJx4a65c_grow_92f84 5 = .ok (.istore_n 2, 1) := by decide +kernel
theorem dJx4a65c_grow_92f84_6 : decode cJx4a65c_grow_92f84 6 = .ok (.iload_n 2, 1) := by decide +kernel
theorem dJx4a65c_grow_92f84_7 : decode cJx4a65c_grow_92f84 7 = .ok (.ifCond .gt 13, 3) := by decide +kernel
theorem dJx4a65c_grow_92f84_10 : decode cJx4a65c_grow_92f84 10 = .ok (.aload_n 0, 1) := by decide +kernel
theorem dJx4a65c_grow_92f84_11 : decode cJx4a65c_grow_92f84 11 = .ok (.getfield 9, 3) := by decide +kernel
theorem dJx4a65c_grow_92f84_14 : decode cJx4a65c_grow_92f84 14 = .ok (.getstatic 39, 3) := by decide +kernel
theorem dJx4a65c_grow_92f84_17 : decode cJx4a65c_grow_92f84 17 = .ok (.if_acmp .eq 28, 3) := by decide +kernel
theorem dJx4a65c_grow_92f84_20 : decode cJx4a65c_grow_92f84 20 = .ok (.iload_n 2, 1) := by decide +kernel
theorem dJx4a65c_grow_92f84_21 : decode cJx4a65c_grow_92f84 21 = .ok (.iload_n 1, 1) := by decide +kernel
theorem dJx4a65c_grow_92f84_22 : decode cJx4a65c_grow_92f84 22 = .ok (.iload_n 2, 1) := by decide +kernel
theorem dJx4a65c_grow_92f84_23 : decode cJx4a65c_grow_92f84 23 = .ok (.isub, 1) := by decide +kernel
theorem dJx4a65c_grow_92f84_24 : decode cJx4a65c_grow_92f84 24 = .ok (.iload_n 2, 1) := by decide +kernel
theorem dJx4a65c_grow_92f84_25 : decode cJx4a65c_grow_92f84 25 = .ok (.iconst 1, 1) := by decide +kernel
theorem dJx4a65c_grow_92f84_26 : decode cJx4a65c_grow_92f84 26 = .ok (.ishr, 1) := by decide +kernel
theorem dJx4a65c_grow_92f84_27 : decode cJx4a65c_grow_92f84 27 = .ok (.invokestatic 73, 3) := by decide +kernel
theorem dJx4a65c_grow_92f84_30 : decode cJx4a65c_grow_92f84 30 = .ok (.istore_n 3, 1) := by decide +kernel
theorem dJx4a65c_grow_92f84_31 : decode cJx4a65c_grow_92f84 31 = .ok (.aload_n 0, 1) := by decide +kernel
theorem dJx4a65c_grow_92f84_32 : decode cJx4a65c_grow_92f84 32 = .ok (.aload_n 0, 1) := by decide +kernel
theorem dJx4a65c_grow_92f84_33 : decode cJx4a65c_grow_92f84 33 = .ok (.getfield 9, 3) := by decide +kernel
theorem dJx4a65c_grow_92f84_36 : decode cJx4a65c_grow_92f84 36 = .ok (.iload_n 3, 1) := by decide +kernel
theorem dJx4a65c_grow_92f84_37 : decode cJx4a65c_grow_92f84 37 = .ok (.invokestatic 66, 3) := by decide +kernel
theorem dJx4a65c_grow_92f84_40 : decode cJx4a65c_grow_92f84 40 = .ok (.dup_x1, 1) := by decide +kernel
theorem dJx4a65c_grow_92f84_41 : decode cJx4a65c_grow_92f84 41 = .ok (.putfield 9, 3) := by decide +kernel
theorem dJx4a65c_grow_92f84_44 : decode cJx4a65c_grow_92f84 44 = .ok (.areturn, 1) := by decide +kernel
theorem dJx4a65c_grow_92f84_45 : decode cJx4a65c_grow_92f84 45 = .ok (.aload_n 0, 1) := by decide +kernel
theorem dJx4a65c_grow_92f84_46 : decode cJx4a65c_grow_92f84 46 = .ok (.bipush 10, 2) := by decide +kernel
theorem dJx4a65c_grow_92f84_48 : decode cJx4a65c_grow_92f84 48 = .ok (.iload_n 1, 1) := by decide +kernel
theorem dJx4a65c_grow_92f84_49 : decode cJx4a65c_grow_92f84 49 = .ok (.invokestatic 79, 3) := by decide +kernel
theorem dJx4a65c_grow_92f84_52 : decode cJx4a65c_grow_92f84 52 = .ok (.anewarray 7, 3) := by decide +kernel
theorem dJx4a65c_grow_92f84_55 : decode cJx4a65c_grow_92f84 55 = .ok (.dup_x1, 1) := by decide +kernel
theorem dJx4a65c_grow_92f84_56 : decode cJx4a65c_grow_92f84 56 = .ok (.putfield 9, 3) := by decide +kernel
theorem dJx4a65c_grow_92f84_59 : decode cJx4a65c_grow_92f84 59 = .ok (.areturn, 1) := by decide +kernel
theorem dJx4a65c_grow_d5877_0 : decode cJx4a65c_grow_d5877 0 = .ok (.aload_n 0, 1) := by decide +kernel
theorem dJx4a65c_grow_d5877_1 : decode cJx4a65c_grow_d5877 1 = .ok (.aload_n 0, 1) := by decide +kernel
theorem dJx4a65c_grow_d5877_2 : decode cJx4a65c_grow_d5877 2 = .ok (.getfield 48, 3) := by decide +kernel
theorem dJx4a65c_grow_d5877_5 : decode cJx4a65c_grow_d5877 5 = .ok (.iconst 1, 1) := by decide +kernel
theorem dJx4a65c_grow_d5877_6 : decode cJx4a65c_grow_d5877 6 = .ok (.iadd, 1) := by decide +kernel
theorem dJx4a65c_grow_d5877_7 : decode cJx4a65c_grow_d5877 7 = .ok (.invokevirtual 69, 3) := by decide +kernel
theorem dJx4a65c_grow_d5877_10 : decode cJx4a65c_grow_d5877 10 = .ok (.areturn, 1) := by decide +kernel
theorem dJx4a65c_size_8abf5_0 : decode cJx4a65c_size_8abf5 0 = .ok (.aload_n 0, 1) := by decide +kernel
theorem dJx4a65c_size_8abf5_1 : decode cJx4a65c_size_8abf5 1 = .ok (.getfield 48, 3) := by decide +kernel
theorem dJx4a65c_size_8abf5_4 : decode cJx4a65c_size_8abf5 4 = .ok (.ireturn, 1) := by decide +kernel
theorem dJx4a65c_isEmpty_aae02_0 : decode cJx4a65c_isEmpty_aae02 0 = .ok (.aload_n 0, 1) := by decide +kernel
theorem dJx4a65c_isEmpty_aae02_1 : decode cJx4a65c_isEmpty_aae02 1 = .ok (.getfield 48, 3) := by decide +kernel
theorem dJx4a65c_isEmpty_aae02_4 : decode cJx4a65c_isEmpty_aae02 4 = .ok (.ifCond .ne 7, 3) := by decide +kernel
theorem dJx4a65c_isEmpty_aae02_7 : decode cJx4a65c_isEmpty_aae02 7 = .ok (.iconst 1, 1) := by decide +kernel
theorem dJx4a65c_isEmpty_aae02_8 : decode cJx4a65c_isEmpty_aae02 8 = .ok (.goto 4, 3) := by decide +kernel
theorem dJx4a65c_isEmpty_aae02_11 : decode cJx4a65c_isEmpty_aae02 11 = .ok (.iconst 0, 1) := by decide +kernel
theorem dJx4a65c_isEmpty_aae02_12 : decode cJx4a65c_isEmpty_aae02 12 = .ok (.ireturn, 1) := by decide +kernel
theorem dJx4a65c_elementData_915e3_0 : decode cJx4a65c_elementData_915e3 0 = .ok (.aload_n 0, 1) := by decide +kernel
theorem dJx4a65c_elementData_915e3_1 : decode cJx4a65c_elementData_915e3 1 = .ok (.getfield 9, 3) := by decide +kernel
theorem dJx4a65c_elementData_915e3_4 : decode cJx4a65c_elementData_915e3 4 = .ok (.iload_n 1, 1) := by decide +kernel
theorem dJx4a65c_elementData_915e3_5 : decode cJx4a65c_elementData_915e3 5 = .ok (.aaload, 1) := by decide +kernel
theorem dJx4a65c_elementData_915e3_6 : decode cJx4a65c_elementData_915e3 6 = .ok (.areturn, 1) := by decide +kernel
theorem dJx4a65c_get_915e3_0 : decode cJx4a65c_get_915e3 0 = .ok (.iload_n 1, 1) := by decide +kernel
theorem dJx4a65c_get_915e3_1 : decode cJx4a65c_get_915e3 1 = .ok (.aload_n 0, 1) := by decide +kernel
theorem dJx4a65c_get_915e3_2 : decode cJx4a65c_get_915e3 2 = .ok (.getfield 48, 3) := by decide +kernel
theorem dJx4a65c_get_915e3_5 : decode cJx4a65c_get_915e3 5 = .ok (.invokestatic 118, 3) := by decide +kernel
theorem dJx4a65c_get_915e3_8 : decode cJx4a65c_get_915e3 8 = .ok (.pop, 1) := by decide +kernel
theorem dJx4a65c_get_915e3_9 : decode cJx4a65c_get_915e3 9 = .ok (.aload_n 0, 1) := by decide +kernel
theorem dJx4a65c_get_915e3_10 : decode cJx4a65c_get_915e3 10 = .ok (.iload_n 1, 1) := by decide +kernel
theorem dJx4a65c_get_915e3_11 : decode cJx4a65c_get_915e3 11 = .ok (.invokevirtual 123, 3) := by decide +kernel
theorem dJx4a65c_get_915e3_14 : decode cJx4a65c_get_915e3 14 = .ok (.areturn, 1) := by decide +kernel
theorem dJx4a65c_add_72be8_0 : decode cJx4a65c_add_72be8 0 = .ok (.iload_n 3, 1) := by decide +kernel
theorem dJx4a65c_add_72be8_1 : decode cJx4a65c_add_72be8 1 = .ok (.aload_n 2, 1) := by decide +kernel
theorem dJx4a65c_add_72be8_2 : decode cJx4a65c_add_72be8 2 = .ok (.arraylength, 1) := by decide +kernel
theorem dJx4a65c_add_72be8_3 : decode cJx4a65c_add_72be8 3 = .ok (.if_icmp .ne 8, 3) := by decide +kernel
theorem dJx4a65c_add_72be8_6 : decode cJx4a65c_add_72be8 6 = .ok (.aload_n 0, 1) := by decide +kernel
theorem dJx4a65c_add_72be8_7 : decode cJx4a65c_add_72be8 7 = .ok (.invokevirtual 129, 3) := by decide +kernel
theorem dJx4a65c_add_72be8_10 : decode cJx4a65c_add_72be8 10 = .ok (.astore_n 2, 1) := by decide +kernel
theorem dJx4a65c_add_72be8_11 : decode cJx4a65c_add_72be8 11 = .ok (.aload_n 2, 1) := by decide +kernel
theorem dJx4a65c_add_72be8_12 : decode cJx4a65c_add_72be8 12 = .ok (.iload_n 3, 1) := by decide +kernel
theorem dJx4a65c_add_72be8_13 : decode cJx4a65c_add_72be8 13 = .ok (.aload_n 1, 1) := by decide +kernel
theorem dJx4a65c_add_72be8_14 : decode cJx4a65c_add_72be8 14 = .ok (.aastore, 1) := by decide +kernel
theorem dJx4a65c_add_72be8_15 : decode cJx4a65c_add_72be8 15 = .ok (.aload_n 0, 1) := by decide +kernel
theorem dJx4a65c_add_72be8_16 : decode cJx4a65c_add_72be8 16 = .ok (.iload_n 3, 1) := by decide +kernel
theorem dJx4a65c_add_72be8_17 : decode cJx4a65c_add_72be8 17 = .ok (.iconst 1, 1) := by decide +kernel
theorem dJx4a65c_add_72be8_18 : decode cJx4a65c_add_72be8 18 = .ok (.iadd, 1) := by decide +kernel
theorem dJx4a65c_add_72be8_19 : decode cJx4a65c_add_72be8 19 = .ok (.putfield 48, 3) := by decide +kernel
theorem dJx4a65c_add_72be8_22 : decode cJx4a65c_add_72be8 22 = .ok (.return_, 1) := by decide +kernel
theorem dJx4a65c_add_9ea2d_0 : decode cJx4a65c_add_9ea2d 0 = .ok (.aload_n 0, 1) := by decide +kernel
theorem dJx4a65c_add_9ea2d_1 : decode cJx4a65c_add_9ea2d 1 = .ok (.dup, 1) := by decide +kernel
theorem dJx4a65c_add_9ea2d_2 : decode cJx4a65c_add_9ea2d 2 = .ok (.getfield 63, 3) := by decide +kernel
theorem dJx4a65c_add_9ea2d_5 : decode cJx4a65c_add_9ea2d 5 = .ok (.iconst 1, 1) := by decide +kernel
theorem dJx4a65c_add_9ea2d_6 : decode cJx4a65c_add_9ea2d 6 = .ok (.iadd, 1) := by decide +kernel
theorem dJx4a65c_add_9ea2d_7 : decode cJx4a65c_add_9ea2d 7 = .ok (.putfield 63, 3) := by decide +kernel
theorem dJx4a65c_add_9ea2d_10 : decode cJx4a65c_add_9ea2d 10 = .ok (.aload_n 0, 1) := by decide +kernel
theorem dJx4a65c_add_9ea2d_11 : decode cJx4a65c_add_9ea2d 11 = .ok (.aload_n 1, 1) := by decide +kernel
theorem dJx4a65c_add_9ea2d_12 : decode cJx4a65c_add_9ea2d 12 = .ok (.aload_n 0, 1) := by decide +kernel
theorem dJx4a65c_add_9ea2d_13 : decode cJx4a65c_add_9ea2d 13 = .ok (.getfield 9, 3) := by decide +kernel
theorem dJx4a65c_add_9ea2d_16 : decode cJx4a65c_add_9ea2d 16 = .ok (.aload_n 0, 1) := by decide +kernel
theorem dJx4a65c_add_9ea2d_17 : decode cJx4a65c_add_9ea2d 17 = .ok (.getfield 48, 3) := by decide +kernel
theorem dJx4a65c_add_9ea2d_20 : decode cJx4a65c_add_9ea2d 20 = .ok (.invokevirtual 131, 3) := by decide +kernel
theorem dJx4a65c_add_9ea2d_23 : decode cJx4a65c_add_9ea2d 23 = .ok (.iconst 1, 1) := by decide +kernel
theorem dJx4a65c_add_9ea2d_24 : decode cJx4a65c_add_9ea2d 24 = .ok (.ireturn, 1) := by decide +kernel
theorem dJx4a65c_clear_da8c8_0 : decode cJx4a65c_clear_da8c8 0 = .ok (.aload_n 0, 1) := by decide +kernel
theorem dJx4a65c_clear_da8c8_1 : decode cJx4a65c_clear_da8c8 1 = .ok (.dup, 1) := by decide +kernel
theorem dJx4a65c_clear_da8c8_2 : decode cJx4a65c_clear_da8c8 2 = .ok (.getfield 63, 3) := by decide +kernel
theorem dJx4a65c_clear_da8c8_5 : decode cJx4a65c_clear_da8c8 5 = .ok (.iconst 1, 1) := by decide +kernel
theorem dJx4a65c_clear_da8c8_6 : decode cJx4a65c_clear_da8c8 6 = .ok (.iadd, 1) := by decide +kernel
theorem dJx4a65c_clear_da8c8_7 : decode cJx4a65c_clear_da8c8 7 = .ok (.putfield 63, 3) := by decide +kernel
theorem dJx4a65c_clear_da8c8_10 : decode cJx4a65c_clear_da8c8 10 = .ok (.aload_n 0, 1) := by decide +kernel
theorem dJx4a65c_clear_da8c8_11 : decode cJx4a65c_clear_da8c8 11 = .ok (.getfield 9, 3) := by decide +kernel
theorem dJx4a65c_clear_da8c8_14 : decode cJx4a65c_clear_da8c8 14 = .ok (.astore_n 1, 1) := by decide +kernel
theorem dJx4a65c_clear_da8c8_15 : decode cJx4a65c_clear_da8c8 15 = .ok (.aload_n 0, 1) := by decide +kernel
theorem dJx4a65c_clear_da8c8_16 : decode cJx4a65c_clear_da8c8 16 = .ok (.getfield 48, 3) := by decide +kernel
theorem dJx4a65c_clear_da8c8_19 : decode cJx4a65c_clear_da8c8 19 = .ok (.istore_n 2, 1) := by decide +kernel
theorem dJx4a65c_clear_da8c8_20 : decode cJx4a65c_clear_da8c8 20 = .ok (.aload_n 0, 1) := by decide +kernel
theorem dJx4a65c_clear_da8c8_21 : decode cJx4a65c_clear_da8c8 21 = .ok (.iconst 0, 1) := by decide +kernel
theorem dJx4a65c_clear_da8c8_22 : decode cJx4a65c_clear_da8c8 22 = .ok (.dup_x1, 1) := by decide +kernel
theorem dJx4a65c_clear_da8c8_23 : decode cJx4a65c_clear_da8c8 23 = .ok (.putfield 48, 3) := by decide +kernel
theorem dJx4a65c_clear_da8c8_26 : decode cJx4a65c_clear_da8c8 26 = .ok (.istore_n 3, 1) := by decide +kernel
theorem dJx4a65c_clear_da8c8_27 : decode cJx4a65c_clear_da8c8 27 = .ok (.iload_n 3, 1) := by decide +kernel
theorem dJx4a65c_clear_da8c8_28 : decode cJx4a65c_clear_da8c8 28 = .ok (.iload_n 2, 1) := by decide +kernel
theorem dJx4a65c_clear_da8c8_29 : decode cJx4a65c_clear_da8c8 29 = .ok (.if_icmp .ge 13, 3) := by decide +kernel
theorem dJx4a65c_clear_da8c8_32 : decode cJx4a65c_clear_da8c8 32 = .ok (.aload_n 1, 1) := by decide +kernel
theorem dJx4a65c_clear_da8c8_33 : decode cJx4a65c_clear_da8c8 33 = .ok (.iload_n 3, 1) := by decide +kernel
theorem dJx4a65c_clear_da8c8_34 : decode cJx4a65c_clear_da8c8 34 = .ok (.aconst_null, 1) := by decide +kernel
theorem dJx4a65c_clear_da8c8_35 : decode cJx4a65c_clear_da8c8 35 = .ok (.aastore, 1) := by decide +kernel
theorem dJx4a65c_clear_da8c8_36 : decode cJx4a65c_clear_da8c8 36 = .ok (.iinc 3 1, 3) := by decide +kernel
theorem dJx4a65c_clear_da8c8_39 : decode cJx4a65c_clear_da8c8 39 = .ok (.goto (-12), 3) := by decide +kernel
theorem dJx4a65c_clear_da8c8_42 : decode cJx4a65c_clear_da8c8 42 = .ok (.return_, 1) := by decide +kernel
theorem dJ7_fill_53178_0 : decode cJ7_fill_53178 0 = .ok (.iconst 0, 1) := by decide +kernel
theorem dJ7_fill_53178_1 : decode cJ7_fill_53178 1 = .ok (.istore_n 2, 1) := by decide +kernel
theorem dJ7_fill_53178_2 : decode cJ7_fill_53178 2 = .ok (.aload_n 0, 1) := by decide +kernel
theorem dJ7_fill_53178_3 : decode cJ7_fill_53178 3 = .ok (.arraylength, 1) := by decide +kernel
theorem dJ7_fill_53178_4 : decode cJ7_fill_53178 4 = .ok (.istore_n 3, 1) := by decide +kernel
theorem dJ7_fill_53178_5 : decode cJ7_fill_53178 5 = .ok (.iload_n 2, 1) := by decide +kernel
theorem dJ7_fill_53178_6 : decode cJ7_fill_53178 6 = .ok (.iload_n 3, 1) := by decide +kernel
theorem dJ7_fill_53178_7 : decode cJ7_fill_53178 7 = .ok (.if_icmp .ge 13, 3) := by decide +kernel
theorem dJ7_fill_53178_10 : decode cJ7_fill_53178 10 = .ok (.aload_n 0, 1) := by decide +kernel
theorem dJ7_fill_53178_11 : decode cJ7_fill_53178 11 = .ok (.iload_n 2, 1) := by decide +kernel
theorem dJ7_fill_53178_12 : decode cJ7_fill_53178 12 = .ok (.iload_n 1, 1) := by decide +kernel
theorem dJ7_fill_53178_13 : decode cJ7_fill_53178 13 = .ok (.iastore, 1) := by decide +kernel
theorem dJ7_fill_53178_14 : decode cJ7_fill_53178 14 = .ok (.iinc 2 1, 3) := by decide +kernel
theorem dJ7_fill_53178_17 : decode cJ7_fill_53178 17 = .ok (.goto (-12), 3) := by decide +kernel
theorem dJ7_fill_53178_20 : decode cJ7_fill_53178 20 = .ok (.return_, 1) := by decide +kernel
theorem dJ7_fill_031fb_0 : decode cJ7_fill_031fb 0 = .ok (.iconst 0, 1) := by decide +kernel
theorem dJ7_fill_031fb_1 : decode cJ7_fill_031fb 1 = .ok (.istore_n 2, 1) := by decide +kernel
theorem dJ7_fill_031fb_2 : decode cJ7_fill_031fb 2 = .ok (.aload_n 0, 1) := by decide +kernel
theorem dJ7_fill_031fb_3 : decode cJ7_fill_031fb 3 = .ok (.arraylength, 1) := by decide +kernel
theorem dJ7_fill_031fb_4 : decode cJ7_fill_031fb 4 = .ok (.istore_n 3, 1) := by decide +kernel
theorem dJ7_fill_031fb_5 : decode cJ7_fill_031fb 5 = .ok (.iload_n 2, 1) := by decide +kernel
theorem dJ7_fill_031fb_6 : decode cJ7_fill_031fb 6 = .ok (.iload_n 3, 1) := by decide +kernel
theorem dJ7_fill_031fb_7 : decode cJ7_fill_031fb 7 = .ok (.if_icmp .ge 13, 3) := by decide +kernel
theorem dJ7_fill_031fb_10 : decode cJ7_fill_031fb 10 = .ok (.aload_n 0, 1) := by decide +kernel
theorem dJ7_fill_031fb_11 : decode cJ7_fill_031fb 11 = .ok (.iload_n 2, 1) := by decide +kernel
theorem dJ7_fill_031fb_12 : decode cJ7_fill_031fb 12 = .ok (.iload_n 1, 1) := by decide +kernel
theorem dJ7_fill_031fb_13 : decode cJ7_fill_031fb 13 = .ok (.bastore, 1) := by decide +kernel
theorem dJ7_fill_031fb_14 : decode cJ7_fill_031fb 14 = .ok (.iinc 2 1, 3) := by decide +kernel
theorem dJ7_fill_031fb_17 : decode cJ7_fill_031fb 17 = .ok (.goto (-12), 3) := by decide +kernel
theorem dJ7_fill_031fb_20 : decode cJ7_fill_031fb 20 = .ok (.return_, 1) := by decide +kernel
theorem dJ7_copyOf_1904c_0 : decode cJ7_copyOf_1904c 0 = .ok (.aload_n 0, 1) := by decide +kernel
theorem dJ7_copyOf_1904c_1 : decode cJ7_copyOf_1904c 1 = .ok (.iload_n 1, 1) := by decide +kernel
theorem dJ7_copyOf_1904c_2 : decode cJ7_copyOf_1904c 2 = .ok (.aload_n 0, 1) := by decide +kernel
theorem dJ7_copyOf_1904c_3 : decode cJ7_copyOf_1904c 3 = .ok (.invokevirtual 86, 3) := by decide +kernel
theorem dJ7_copyOf_1904c_6 : decode cJ7_copyOf_1904c 6 = .ok (.invokestatic 300, 3) := by decide +kernel
theorem dJ7_copyOf_1904c_9 : decode cJ7_copyOf_1904c 9 = .ok (.areturn, 1) := by decide +kernel
theorem dJ7_copyOf_6403c_0 : decode cJ7_copyOf_6403c 0 = .ok (.aload_n 2, 1) := by decide +kernel
theorem dJ7_copyOf_6403c_1 : decode cJ7_copyOf_6403c 1 = .ok (.ldc 110, 2) := by decide +kernel
theorem dJ7_copyOf_6403c_3 : decode cJ7_copyOf_6403c 3 = .ok (.if_acmp .ne 10, 3) := by decide +kernel
theorem dJ7_copyOf_6403c_6 : decode cJ7_copyOf_6403c 6 = .ok (.iload_n 1, 1) := by decide +kernel
theorem dJ7_copyOf_6403c_7 : decode cJ7_copyOf_6403c 7 = .ok (.anewarray 2, 3) := by decide +kernel
theorem dJ7_copyOf_6403c_10 : decode cJ7_copyOf_6403c 10 = .ok (.goto 14, 3) := by decide +kernel
theorem dJ7_copyOf_6403c_13 : decode cJ7_copyOf_6403c 13 = .ok (.aload_n 2, 1) := by decide +kernel
theorem dJ7_copyOf_6403c_14 : decode cJ7_copyOf_6403c 14 = .ok (.invokevirtual 90, 3) := by decide +kernel
theorem dJ7_copyOf_6403c_17 : decode cJ7_copyOf_6403c 17 = .ok (.iload_n 1, 1) := by decide +kernel
theorem dJ7_copyOf_6403c_18 : decode cJ7_copyOf_6403c 18 = .ok (.invokestatic 95, 3) := by decide +kernel
theorem dJ7_copyOf_6403c_21 : decode cJ7_copyOf_6403c 21 = .ok (.checkcast 110, 3) := by decide +kernel
theorem dJ7_copyOf_6403c_24 : decode cJ7_copyOf_6403c 24 = .ok (.astore_n 3, 1) := by decide +kernel
theorem dJ7_copyOf_6403c_25 : decode cJ7_copyOf_6403c 25 = .ok (.aload_n 0, 1) := by decide +kernel
theorem dJ7_copyOf_6403c_26 : decode cJ7_copyOf_6403c 26 = .ok (.iconst 0, 1) := by decide +kernel
theorem dJ7_copyOf_6403c_27 : decode cJ7_copyOf_6403c 27 = .ok (.aload_n 3, 1) := by decide +kernel
theorem dJ7_copyOf_6403c_28 : decode cJ7_copyOf_6403c 28 = .ok (.iconst 0, 1) := by decide +kernel
theorem dJ7_copyOf_6403c_29 : decode cJ7_copyOf_6403c 29 = .ok (.aload_n 0, 1) := by decide +kernel
theorem dJ7_copyOf_6403c_30 : decode cJ7_copyOf_6403c 30 = .ok (.arraylength, 1) := by decide +kernel
theorem dJ7_copyOf_6403c_31 : decode cJ7_copyOf_6403c 31 = .ok (.iload_n 1, 1) := by decide +kernel
theorem dJ7_copyOf_6403c_32 : decode cJ7_copyOf_6403c 32 = .ok (.invokestatic 304, 3) := by decide +kernel
theorem dJ7_copyOf_6403c_35 : decode cJ7_copyOf_6403c 35 = .ok (.invokestatic 150, 3) := by decide +kernel
theorem dJ7_copyOf_6403c_38 : decode cJ7_copyOf_6403c 38 = .ok (.aload_n 3, 1) := by decide +kernel
theorem dJ7_copyOf_6403c_39 : decode cJ7_copyOf_6403c 39 = .ok (.areturn, 1) := by decide +kernel
theorem dJ7_copyOf_9075b_0 : decode cJ7_copyOf_9075b 0 = .ok (.iload_n 1, 1) := by decide +kernel
theorem dJ7_copyOf_9075b_1 : decode cJ7_copyOf_9075b 1 = .ok (.aload_n 0, 1) := by decide +kernel
theorem dJ7_copyOf_9075b_2 : decode cJ7_copyOf_9075b 2 = .ok (.arraylength, 1) := by decide +kernel
theorem dJ7_copyOf_9075b_3 : decode cJ7_copyOf_9075b 3 = .ok (.if_icmp .ne 11, 3) := by decide +kernel
theorem dJ7_copyOf_9075b_6 : decode cJ7_copyOf_9075b 6 = .ok (.aload_n 0, 1) := by decide +kernel
theorem dJ7_copyOf_9075b_7 : decode cJ7_copyOf_9075b 7 = .ok (.invokevirtual 310, 3) := by decide +kernel
theorem dJ7_copyOf_9075b_10 : decode cJ7_copyOf_9075b 10 = .ok (.checkcast 311, 3) := by decide +kernel
theorem dJ7_copyOf_9075b_13 : decode cJ7_copyOf_9075b 13 = .ok (.areturn, 1) := by decide +kernel
theorem dJ7_copyOf_9075b_14 : decode cJ7_copyOf_9075b 14 = .ok (.iload_n 1, 1) := by decide +kernel
theorem dJ7_copyOf_9075b_15 : decode cJ7_copyOf_9075b 15 = .ok (.newarray .byte, 2) := by decide +kernel
theorem dJ7_copyOf_9075b_17 : decode cJ7_copyOf_9075b 17 = .ok (.astore_n 2, 1) := by decide +kernel
theorem dJ7_copyOf_9075b_18 : decode cJ7_copyOf_9075b 18 = .ok (.aload_n 0, 1) := by decide +kernel
theorem dJ7_copyOf_9075b_19 : decode cJ7_copyOf_9075b 19 = .ok (.iconst 0, 1) := by decide +kernel
theorem dJ7_copyOf_9075b_20 : decode cJ7_copyOf_9075b 20 = .ok (.aload_n 2, 1) := by decide +kernel
theorem dJ7_copyOf_9075b_21 : decode cJ7_copyOf_9075b 21 = .ok (.iconst 0, 1) := by decide +kernel
theorem dJ7_copyOf_9075b_22 : decode cJ7_copyOf_9075b 22 = .ok (.aload_n 0, 1) := by decide +kernel
theorem dJ7_copyOf_9075b_23 : decode cJ7_copyOf_9075b 23 = .ok (.arraylength, 1) := by decide +kernel
theorem dJ7_copyOf_9075b_24 : decode cJ7_copyOf_9075b 24 = .ok (.iload_n 1, 1) := by decide +kernel
theorem dJ7_copyOf_9075b_25 : decode cJ7_copyOf_9075b 25 = .ok (.invokestatic 304, 3) := by decide +kernel
theorem dJ7_copyOf_9075b_28 : decode cJ7_copyOf_9075b 28 = .ok (.invokestatic 150, 3) := by decide +kernel
theorem dJ7_copyOf_9075b_31 : decode cJ7_copyOf_9075b 31 = .ok (.aload_n 2, 1) := by decide +kernel
theorem dJ7_copyOf_9075b_32 : decode cJ7_copyOf_9075b 32 = .ok (.areturn, 1) := by decide +kernel
theorem dJ15_checkIndex_7cf53_0 : decode cJ15_checkIndex_7cf53 0 = .ok (.iload_n 0, 1) := by decide +kernel
theorem dJ15_checkIndex_7cf53_1 : decode cJ15_checkIndex_7cf53 1 = .ok (.iload_n 1, 1) := by decide +kernel
theorem dJ15_checkIndex_7cf53_2 : decode cJ15_checkIndex_7cf53 2 = .ok (.aconst_null, 1) := by decide +kernel
theorem dJ15_checkIndex_7cf53_3 : decode cJ15_checkIndex_7cf53 3 = .ok (.invokestatic 105, 3) := by decide +kernel
theorem dJ15_checkIndex_7cf53_6 : decode cJ15_checkIndex_7cf53 6 = .ok (.ireturn, 1) := by decide +kernel
theorem dJ8_newLength_cabcc_0 : decode cJ8_newLength_cabcc 0 = .ok (.iload_n 0, 1) := by decide +kernel
theorem dJ8_newLength_cabcc_1 : decode cJ8_newLength_cabcc 1 = .ok (.iload_n 1, 1) := by decide +kernel
theorem dJ8_newLength_cabcc_2 : decode cJ8_newLength_cabcc 2 = .ok (.iload_n 2, 1) := by decide +kernel
theorem dJ8_newLength_cabcc_3 : decode cJ8_newLength_cabcc 3 = .ok (.invokestatic 194, 3) := by decide +kernel
theorem dJ8_newLength_cabcc_6 : decode cJ8_newLength_cabcc 6 = .ok (.iadd, 1) := by decide +kernel
theorem dJ8_newLength_cabcc_7 : decode cJ8_newLength_cabcc 7 = .ok (.istore_n 3, 1) := by decide +kernel
theorem dJ8_newLength_cabcc_8 : decode cJ8_newLength_cabcc 8 = .ok (.iconst 0, 1) := by decide +kernel
theorem dJ8_newLength_cabcc_9 : decode cJ8_newLength_cabcc 9 = .ok (.iload_n 3, 1) := by decide +kernel
theorem dJ8_newLength_cabcc_10 : decode cJ8_newLength_cabcc 10 = .ok (.if_icmp .ge 11, 3) := by decide +kernel
theorem dJ8_newLength_cabcc_13 : decode cJ8_newLength_cabcc 13 = .ok (.iload_n 3, 1) := by decide +kernel
theorem dJ8_newLength_cabcc_14 : decode cJ8_newLength_cabcc 14 = .ok (.ldc 200, 2) := by decide +kernel
theorem dJ8_newLength_cabcc_16 : decode cJ8_newLength_cabcc 16 = .ok (.if_icmp .gt 5, 3) := by decide +kernel
theorem dJ8_newLength_cabcc_19 : decode cJ8_newLength_cabcc 19 = .ok (.iload_n 3, 1) := by decide +kernel
theorem dJ8_newLength_cabcc_20 : decode cJ8_newLength_cabcc 20 = .ok (.ireturn, 1) := by decide +kernel
theorem dJ8_newLength_cabcc_21 : decode cJ8_newLength_cabcc 21 = .ok (.iload_n 0, 1) := by decide +kernel
theorem dJ8_newLength_cabcc_22 : decode cJ8_newLength_cabcc 22 = .ok (.iload_n 1, 1) := by decide +kernel
theorem dJ8_newLength_cabcc_23 : decode cJ8_newLength_cabcc 23 = .ok (.invokestatic 201, 3) := by decide +kernel
theorem dJ8_newLength_cabcc_26 : decode cJ8_newLength_cabcc 26 = .ok (.ireturn, 1) := by decide +kernel
theorem dJ8_hugeLength_7cf53_0 : decode cJ8_hugeLength_7cf53 0 = .ok (.iload_n 0, 1) := by decide +kernel
theorem dJ8_hugeLength_7cf53_1 : decode cJ8_hugeLength_7cf53 1 = .ok (.iload_n 1, 1) := by decide +kernel
theorem dJ8_hugeLength_7cf53_2 : decode cJ8_hugeLength_7cf53 2 = .ok (.iadd, 1) := by decide +kernel
theorem dJ8_hugeLength_7cf53_3 : decode cJ8_hugeLength_7cf53 3 = .ok (.istore_n 2, 1) := by decide +kernel
theorem dJ8_hugeLength_7cf53_4 : decode cJ8_hugeLength_7cf53 4 = .ok (.iload_n 2, 1) := by decide +kernel
theorem dJ8_hugeLength_7cf53_5 : decode cJ8_hugeLength_7cf53 5 = .ok (.ifCond .ge 44, 3) := by decide +kernel
theorem dJ8_hugeLength_7cf53_8 : decode cJ8_hugeLength_7cf53 8 = .ok (.new 204, 3) := by decide +kernel
theorem dJ8_hugeLength_7cf53_11 : decode cJ8_hugeLength_7cf53 11 = .ok (.dup, 1) := by decide +kernel
theorem dJ8_hugeLength_7cf53_12 : decode cJ8_hugeLength_7cf53 12 = .ok (.new 89, 3) := by decide +kernel
theorem dJ8_hugeLength_7cf53_15 : decode cJ8_hugeLength_7cf53 15 = .ok (.dup, 1) := by decide +kernel
theorem dJ8_hugeLength_7cf53_16 : decode cJ8_hugeLength_7cf53 16 = .ok (.invokespecial 91, 3) := by decide +kernel
theorem dJ8_hugeLength_7cf53_19 : decode cJ8_hugeLength_7cf53 19 = .ok (.ldc 206, 2) := by decide +kernel
theorem dJ8_hugeLength_7cf53_21 : decode cJ8_hugeLength_7cf53 21 = .ok (.invokevirtual 94, 3) := by decide +kernel
theorem dJ8_hugeLength_7cf53_24 : decode cJ8_hugeLength_7cf53 24 = .ok (.iload_n 0, 1) := by decide +kernel
theorem dJ8_hugeLength_7cf53_25 : decode cJ8_hugeLength_7cf53 25 = .ok (.invokevirtual 98, 3) := by decide +kernel
theorem dJ8_hugeLength_7cf53_28 : decode cJ8_hugeLength_7cf53 28 = .ok (.ldc 208, 2) := by decide +kernel
theorem dJ8_hugeLength_7cf53_30 : decode cJ8_hugeLength_7cf53 30 = .ok (.invokevirtual 94, 3) := by decide +kernel
theorem dJ8_hugeLength_7cf53_33 : decode cJ8_hugeLength_7cf53 33 = .ok (.iload_n 1, 1) := by decide +kernel
theorem dJ8_hugeLength_7cf53_34 : decode cJ8_hugeLength_7cf53 34 = .ok (.invokevirtual 98, 3) := by decide +kernel
theorem dJ8_hugeLength_7cf53_37 : decode cJ8_hugeLength_7cf53 37 = .ok (.ldc 210, 2) := by decide +kernel
theorem dJ8_hugeLength_7cf53_39 : decode cJ8_hugeLength_7cf53 39 = .ok (.invokevirtual 94, 3) := by decide +kernel
theorem dJ8_hugeLength_7cf53_42 : decode cJ8_hugeLength_7cf53 42 = .ok (.invokevirtual 101, 3) := by decide +kernel
theorem dJ8_hugeLength_7cf53_45 : decode cJ8_hugeLength_7cf53 45 = .ok (.invokespecial 212, 3) := by decide +kernel
theorem dJ8_hugeLength_7cf53_48 : decode cJ8_hugeLength_7cf53 48 = .ok (.athrow, 1) := by decide +kernel
theorem dJ8_hugeLength_7cf53_49 : decode cJ8_hugeLength_7cf53 49 = .ok (.iload_n 2, 1) := by decide +kernel
theorem dJ8_hugeLength_7cf53_50 : decode cJ8_hugeLength_7cf53 50 = .ok (.ldc 200, 2) := by decide +kernel
theorem dJ8_hugeLength_7cf53_52 : decode cJ8_hugeLength_7cf53 52 = .ok (.if_icmp .gt 6, 3) := by decide +kernel
theorem dJ8_hugeLength_7cf53_55 : decode cJ8_hugeLength_7cf53 55 = .ok (.ldc 200, 2) := by decide +kernel
theorem dJ8_hugeLength_7cf53_57 : decode cJ8_hugeLength_7cf53 57 = .ok (.ireturn, 1) := by decide +kernel
theorem dJ8_hugeLength_7cf53_58 : decode cJ8_hugeLength_7cf53 58 = .ok (.iload_n 2, 1) := by decide +kernel
theorem dJ8_hugeLength_7cf53_59 : decode cJ8_hugeLength_7cf53 59 = .ok (.ireturn, 1) := by decide +kernel
theorem dJ3_checkIndex_8e157_0 : decode cJ3_checkIndex_8e157 0 = .ok (.iload_n 0, 1) := by decide +kernel
theorem dJ3_checkIndex_8e157_1 : decode cJ3_checkIndex_8e157 1 = .ok (.ifCond .lt 8, 3) := by decide +kernel
theorem dJ3_checkIndex_8e157_4 : decode cJ3_checkIndex_8e157 4 = .ok (.iload_n 0, 1) := by decide +kernel
theorem dJ3_checkIndex_8e157_5 : decode cJ3_checkIndex_8e157 5 = .ok (.iload_n 1, 1) := by decide +kernel
theorem dJ3_checkIndex_8e157_6 : decode cJ3_checkIndex_8e157 6 = .ok (.if_icmp .lt 10, 3) := by decide +kernel
theorem dJ3_checkIndex_8e157_9 : decode cJ3_checkIndex_8e157 9 = .ok (.aload_n 2, 1) := by decide +kernel
theorem dJ3_checkIndex_8e157_10 : decode cJ3_checkIndex_8e157 10 = .ok (.iload_n 0, 1) := by decide +kernel
theorem dJ3_checkIndex_8e157_11 : decode cJ3_checkIndex_8e157 11 = .ok (.iload_n 1, 1) := by decide +kernel
theorem dJ3_checkIndex_8e157_12 : decode cJ3_checkIndex_8e157 12 = .ok (.invokestatic 95, 3) := by decide +kernel
theorem dJ3_checkIndex_8e157_15 : decode cJ3_checkIndex_8e157 15 = .ok (.athrow, 1) := by decide +kernel
theorem dJ3_checkIndex_8e157_16 : decode cJ3_checkIndex_8e157 16 = .ok (.iload_n 0, 1) := by decide +kernel
theorem dJ3_checkIndex_8e157_17 : decode cJ3_checkIndex_8e157 17 = .ok (.ireturn, 1) := by decide +kernel
theorem dL_object_0 : decode cL_object 0 = .ok (.aload_n 1, 1) := by decide +kernel
theorem dL_object_1 : decode cL_object 1 = .ok (.iconst 0, 1) := by decide +kernel
theorem dL_object_2 : decode cL_object 2 = .ok (.aload_n 0, 1) := by decide +kernel
theorem dL_object_3 : decode cL_object 3 = .ok (.invokevirtual 7, 3) := by decide +kernel
theorem dL_object_6 : decode cL_object 6 = .ok (.i2l, 1) := by decide +kernel
theorem dL_object_7 : decode cL_object 7 = .ok (.lastore, 1) := by decide +kernel
theorem dL_object_8 : decode cL_object 8 = .ok (.goto 6, 3) := by decide +kernel
theorem dL_object_11 : decode cL_object 11 = .ok (.astore_n 2, 1) := by decide +kernel
theorem dL_object_12 : decode cL_object 12 = .ok (.iconst 1, 1) := by decide +kernel
theorem dL_object_13 : decode cL_object 13 = .ok (.ireturn, 1) := by decide +kernel
theorem dL_object_14 : decode cL_object 14 = .ok (.iconst 0, 1) := by decide +kernel
theorem dL_object_15 : decode cL_object 15 = .ok (.ireturn, 1) := by decide +kernel
theorem dL_function_0 : decode cL_function 0 = .ok (.aload 5, 2) := by decide +kernel
theorem dL_function_2 : decode cL_function 2 = .ok (.iconst 0, 1) := by decide +kernel
theorem dL_function_3 : decode cL_function 3 = .ok (.aload_n 0, 1) := by decide +kernel
theorem dL_function_4 : decode cL_function 4 = .ok (.iload_n 1, 1) := by decide +kernel
theorem dL_function_5 : decode cL_function 5 = .ok (.iload_n 2, 1) := by decide +kernel
theorem dL_function_6 : decode cL_function 6 = .ok (.iload_n 3, 1) := by decide +kernel
theorem dL_function_7 : decode cL_function 7 = .ok (.iload 4, 2) := by decide +kernel
theorem dL_function_9 : decode cL_function 9 = .ok (.invokevirtual 15, 3) := by decide +kernel
theorem dL_function_12 : decode cL_function 12 = .ok (.i2l, 1) := by decide +kernel
theorem dL_function_13 : decode cL_function 13 = .ok (.lastore, 1) := by decide +kernel
theorem dL_function_14 : decode cL_function 14 = .ok (.goto 11, 3) := by decide +kernel
theorem dL_function_17 : decode cL_function 17 = .ok (.astore 6, 2) := by decide +kernel
theorem dL_function_19 : decode cL_function 19 = .ok (.iconst 1, 1) := by decide +kernel
theorem dL_function_20 : decode cL_function 20 = .ok (.ireturn, 1) := by decide +kernel
theorem dL_function_21 : decode cL_function 21 = .ok (.astore 6, 2) := by decide +kernel
theorem dL_function_23 : decode cL_function 23 = .ok (.iconst 2, 1) := by decide +kernel
theorem dL_function_24 : decode cL_function 24 = .ok (.ireturn, 1) := by decide +kernel
theorem dL_function_25 : decode cL_function 25 = .ok (.iconst 0, 1) := by decide +kernel
theorem dL_function_26 : decode cL_function 26 = .ok (.ireturn, 1) := by decide +kernel
theorem dL_code_0 : decode cL_code 0 = .ok (.aload 5, 2) := by decide +kernel
theorem dL_code_2 : decode cL_code 2 = .ok (.iconst 0, 1) := by decide +kernel
theorem dL_code_3 : decode cL_code 3 = .ok (.aload_n 0, 1) := by decide +kernel
theorem dL_code_4 : decode cL_code 4 = .ok (.iload_n 1, 1) := by decide +kernel
theorem dL_code_5 : decode cL_code 5 = .ok (.iload_n 2, 1) := by decide +kernel
theorem dL_code_6 : decode cL_code 6 = .ok (.iload_n 3, 1) := by decide +kernel
theorem dL_code_7 : decode cL_code 7 = .ok (.iload 4, 2) := by decide +kernel
theorem dL_code_9 : decode cL_code 9 = .ok (.invokevirtual 21, 3) := by decide +kernel
theorem dL_code_12 : decode cL_code 12 = .ok (.i2l, 1) := by decide +kernel
theorem dL_code_13 : decode cL_code 13 = .ok (.lastore, 1) := by decide +kernel
theorem dL_code_14 : decode cL_code 14 = .ok (.goto 11, 3) := by decide +kernel
theorem dL_code_17 : decode cL_code 17 = .ok (.astore 6, 2) := by decide +kernel
theorem dL_code_19 : decode cL_code 19 = .ok (.iconst 1, 1) := by decide +kernel
theorem dL_code_20 : decode cL_code 20 = .ok (.ireturn, 1) := by decide +kernel
theorem dL_code_21 : decode cL_code 21 = .ok (.astore 6, 2) := by decide +kernel
theorem dL_code_23 : decode cL_code 23 = .ok (.iconst 2, 1) := by decide +kernel
theorem dL_code_24 : decode cL_code 24 = .ok (.ireturn, 1) := by decide +kernel
theorem dL_code_25 : decode cL_code 25 = .ok (.iconst 0, 1) := by decide +kernel
theorem dL_code_26 : decode cL_code 26 = .ok (.ireturn, 1) := by decide +kernel
theorem dL_segment_0 : decode cL_segment 0 = .ok (.aload 4, 2) := by decide +kernel
theorem dL_segment_2 : decode cL_segment 2 = .ok (.iconst 0, 1) := by decide +kernel
theorem dL_segment_3 : decode cL_segment 3 = .ok (.aload_n 0, 1) := by decide +kernel
theorem dL_segment_4 : decode cL_segment 4 = .ok (.iload_n 1, 1) := by decide +kernel
theorem dL_segment_5 : decode cL_segment 5 = .ok (.iload_n 2, 1) := by decide +kernel
theorem dL_segment_6 : decode cL_segment 6 = .ok (.iload_n 3, 1) := by decide +kernel
theorem dL_segment_7 : decode cL_segment 7 = .ok (.invokevirtual 24, 3) := by decide +kernel
theorem dL_segment_10 : decode cL_segment 10 = .ok (.i2l, 1) := by decide +kernel
theorem dL_segment_11 : decode cL_segment 11 = .ok (.lastore, 1) := by decide +kernel
theorem dL_segment_12 : decode cL_segment 12 = .ok (.goto 11, 3) := by decide +kernel
theorem dL_segment_15 : decode cL_segment 15 = .ok (.astore 5, 2) := by decide +kernel
theorem dL_segment_17 : decode cL_segment 17 = .ok (.iconst 1, 1) := by decide +kernel
theorem dL_segment_18 : decode cL_segment 18 = .ok (.ireturn, 1) := by decide +kernel
theorem dL_segment_19 : decode cL_segment 19 = .ok (.astore 5, 2) := by decide +kernel
theorem dL_segment_21 : decode cL_segment 21 = .ok (.iconst 2, 1) := by decide +kernel
theorem dL_segment_22 : decode cL_segment 22 = .ok (.ireturn, 1) := by decide +kernel
theorem dL_segment_23 : decode cL_segment 23 = .ok (.iconst 0, 1) := by decide +kernel
theorem dL_segment_24 : decode cL_segment 24 = .ok (.ireturn, 1) := by decide +kernel
theorem dL_fill_0 : decode cL_fill 0 = .ok (.aload_n 0, 1) := by decide +kernel
theorem dL_fill_1 : decode cL_fill 1 = .ok (.iload_n 1, 1) := by decide +kernel
theorem dL_fill_2 : decode cL_fill 2 = .ok (.iload_n 2, 1) := by decide +kernel
theorem dL_fill_3 : decode cL_fill 3 = .ok (.iload_n 3, 1) := by decide +kernel
theorem dL_fill_4 : decode cL_fill 4 = .ok (.lload 4, 2) := by decide +kernel
theorem dL_fill_6 : decode cL_fill 6 = .ok (.invokevirtual 28, 3) := by decide +kernel
theorem dL_fill_9 : decode cL_fill 9 = .ok (.goto 7, 3) := by decide +kernel
theorem dL_fill_12 : decode cL_fill 12 = .ok (.astore 6, 2) := by decide +kernel
theorem dL_fill_14 : decode cL_fill 14 = .ok (.iconst 1, 1) := by decide +kernel
theorem dL_fill_15 : decode cL_fill 15 = .ok (.ireturn, 1) := by decide +kernel
theorem dL_fill_16 : decode cL_fill 16 = .ok (.iconst 0, 1) := by decide +kernel
theorem dL_fill_17 : decode cL_fill 17 = .ok (.ireturn, 1) := by decide +kernel
theorem dL_symbol_0 : decode cL_symbol 0 = .ok (.aload 7, 2) := by decide +kernel
theorem dL_symbol_2 : decode cL_symbol 2 = .ok (.iconst 0, 1) := by decide +kernel
theorem dL_symbol_3 : decode cL_symbol 3 = .ok (.aload_n 0, 1) := by decide +kernel
theorem dL_symbol_4 : decode cL_symbol 4 = .ok (.iload_n 1, 1) := by decide +kernel
theorem dL_symbol_5 : decode cL_symbol 5 = .ok (.iload_n 2, 1) := by decide +kernel
theorem dL_symbol_6 : decode cL_symbol 6 = .ok (.iload_n 3, 1) := by decide +kernel
theorem dL_symbol_7 : decode cL_symbol 7 = .ok (.iload 4, 2) := by decide +kernel
theorem dL_symbol_9 : decode cL_symbol 9 = .ok (.iload 5, 2) := by decide +kernel
theorem dL_symbol_11 : decode cL_symbol 11 = .ok (.iload 6, 2) := by decide +kernel
theorem dL_symbol_13 : decode cL_symbol 13 = .ok (.invokevirtual 32, 3) := by decide +kernel
theorem dL_symbol_16 : decode cL_symbol 16 = .ok (.i2l, 1) := by decide +kernel
theorem dL_symbol_17 : decode cL_symbol 17 = .ok (.lastore, 1) := by decide +kernel
theorem dL_symbol_18 : decode cL_symbol 18 = .ok (.goto 11, 3) := by decide +kernel
theorem dL_symbol_21 : decode cL_symbol 21 = .ok (.astore 8, 2) := by decide +kernel
theorem dL_symbol_23 : decode cL_symbol 23 = .ok (.iconst 1, 1) := by decide +kernel
theorem dL_symbol_24 : decode cL_symbol 24 = .ok (.ireturn, 1) := by decide +kernel
theorem dL_symbol_25 : decode cL_symbol 25 = .ok (.astore 8, 2) := by decide +kernel
theorem dL_symbol_27 : decode cL_symbol 27 = .ok (.iconst 2, 1) := by decide +kernel
theorem dL_symbol_28 : decode cL_symbol 28 = .ok (.ireturn, 1) := by decide +kernel
theorem dL_symbol_29 : decode cL_symbol 29 = .ok (.iconst 0, 1) := by decide +kernel
theorem dL_symbol_30 : decode cL_symbol 30 = .ok (.ireturn, 1) := by decide +kernel
theorem dL_link_0 : decode cL_link 0 = .ok (.aload_n 1, 1) := by decide +kernel
theorem dL_link_1 : decode cL_link 1 = .ok (.iconst 0, 1) := by decide +kernel
theorem dL_link_2 : decode cL_link 2 = .ok (.aload_n 0, 1) := by decide +kernel
theorem dL_link_3 : decode cL_link 3 = .ok (.invokevirtual 36, 3) := by decide +kernel
theorem dL_link_6 : decode cL_link 6 = .ok (.i2l, 1) := by decide +kernel
theorem dL_link_7 : decode cL_link 7 = .ok (.lastore, 1) := by decide +kernel
theorem dL_link_8 : decode cL_link 8 = .ok (.goto 6, 3) := by decide +kernel
theorem dL_link_11 : decode cL_link 11 = .ok (.astore_n 2, 1) := by decide +kernel
theorem dL_link_12 : decode cL_link 12 = .ok (.iconst 1, 1) := by decide +kernel
theorem dL_link_13 : decode cL_link 13 = .ok (.ireturn, 1) := by decide +kernel
theorem dL_link_14 : decode cL_link 14 = .ok (.iconst 0, 1) := by decide +kernel
theorem dL_link_15 : decode cL_link 15 = .ok (.ireturn, 1) := by decide +kernel
theorem dL_count_0 : decode cL_count 0 = .ok (.aload_n 2, 1) := by decide +kernel
theorem dL_count_1 : decode cL_count 1 = .ok (.iconst 0, 1) := by decide +kernel
theorem dL_count_2 : decode cL_count 2 = .ok (.aload_n 0, 1) := by decide +kernel
theorem dL_count_3 : decode cL_count 3 = .ok (.iload_n 1, 1) := by decide +kernel
theorem dL_count_4 : decode cL_count 4 = .ok (.invokevirtual 39, 3) := by decide +kernel
theorem dL_count_7 : decode cL_count 7 = .ok (.i2l, 1) := by decide +kernel
theorem dL_count_8 : decode cL_count 8 = .ok (.lastore, 1) := by decide +kernel
theorem dL_count_9 : decode cL_count 9 = .ok (.goto 9, 3) := by decide +kernel
theorem dL_count_12 : decode cL_count 12 = .ok (.astore_n 3, 1) := by decide +kernel
theorem dL_count_13 : decode cL_count 13 = .ok (.iconst 1, 1) := by decide +kernel
theorem dL_count_14 : decode cL_count 14 = .ok (.ireturn, 1) := by decide +kernel
theorem dL_count_15 : decode cL_count 15 = .ok (.astore_n 3, 1) := by decide +kernel
theorem dL_count_16 : decode cL_count 16 = .ok (.iconst 2, 1) := by decide +kernel
theorem dL_count_17 : decode cL_count 17 = .ok (.ireturn, 1) := by decide +kernel
theorem dL_count_18 : decode cL_count 18 = .ok (.iconst 0, 1) := by decide +kernel
theorem dL_count_19 : decode cL_count 19 = .ok (.ireturn, 1) := by decide +kernel
theorem dL_byteAt_0 : decode cL_byteAt 0 = .ok (.aload_n 2, 1) := by decide +kernel
theorem dL_byteAt_1 : decode cL_byteAt 1 = .ok (.iconst 0, 1) := by decide +kernel
theorem dL_byteAt_2 : decode cL_byteAt 2 = .ok (.aload_n 0, 1) := by decide +kernel
theorem dL_byteAt_3 : decode cL_byteAt 3 = .ok (.iload_n 1, 1) := by decide +kernel
theorem dL_byteAt_4 : decode cL_byteAt 4 = .ok (.invokevirtual 43, 3) := by decide +kernel
theorem dL_byteAt_7 : decode cL_byteAt 7 = .ok (.i2l, 1) := by decide +kernel
theorem dL_byteAt_8 : decode cL_byteAt 8 = .ok (.lastore, 1) := by decide +kernel
theorem dL_byteAt_9 : decode cL_byteAt 9 = .ok (.goto 9, 3) := by decide +kernel
theorem dL_byteAt_12 : decode cL_byteAt 12 = .ok (.astore_n 3, 1) := by decide +kernel
theorem dL_byteAt_13 : decode cL_byteAt 13 = .ok (.iconst 1, 1) := by decide +kernel
theorem dL_byteAt_14 : decode cL_byteAt 14 = .ok (.ireturn, 1) := by decide +kernel
theorem dL_byteAt_15 : decode cL_byteAt 15 = .ok (.astore_n 3, 1) := by decide +kernel
theorem dL_byteAt_16 : decode cL_byteAt 16 = .ok (.iconst 2, 1) := by decide +kernel
theorem dL_byteAt_17 : decode cL_byteAt 17 = .ok (.ireturn, 1) := by decide +kernel
theorem dL_byteAt_18 : decode cL_byteAt 18 = .ok (.iconst 0, 1) := by decide +kernel
theorem dL_byteAt_19 : decode cL_byteAt 19 = .ok (.ireturn, 1) := by decide +kernel
theorem dL_meant_0 : decode cL_meant 0 = .ok (.aload 4, 2) := by decide +kernel
theorem dL_meant_2 : decode cL_meant 2 = .ok (.iconst 0, 1) := by decide +kernel
theorem dL_meant_3 : decode cL_meant 3 = .ok (.aload_n 0, 1) := by decide +kernel
theorem dL_meant_4 : decode cL_meant 4 = .ok (.iload_n 1, 1) := by decide +kernel
theorem dL_meant_5 : decode cL_meant 5 = .ok (.iload_n 2, 1) := by decide +kernel
theorem dL_meant_6 : decode cL_meant 6 = .ok (.iload_n 3, 1) := by decide +kernel
theorem dL_meant_7 : decode cL_meant 7 = .ok (.invokevirtual 46, 3) := by decide +kernel
theorem dL_meant_10 : decode cL_meant 10 = .ok (.i2l, 1) := by decide +kernel
theorem dL_meant_11 : decode cL_meant 11 = .ok (.lastore, 1) := by decide +kernel
theorem dL_meant_12 : decode cL_meant 12 = .ok (.goto 11, 3) := by decide +kernel
theorem dL_meant_15 : decode cL_meant 15 = .ok (.astore 5, 2) := by decide +kernel
theorem dL_meant_17 : decode cL_meant 17 = .ok (.iconst 1, 1) := by decide +kernel
theorem dL_meant_18 : decode cL_meant 18 = .ok (.ireturn, 1) := by decide +kernel
theorem dL_meant_19 : decode cL_meant 19 = .ok (.astore 5, 2) := by decide +kernel
theorem dL_meant_21 : decode cL_meant 21 = .ok (.iconst 2, 1) := by decide +kernel
theorem dL_meant_22 : decode cL_meant 22 = .ok (.ireturn, 1) := by decide +kernel
theorem dL_meant_23 : decode cL_meant 23 = .ok (.iconst 0, 1) := by decide +kernel
theorem dL_meant_24 : decode cL_meant 24 = .ok (.ireturn, 1) := by decide +kernel
theorem dL_run_0 : decode cL_run 0 = .ok (.aload 8, 2) := by decide +kernel
theorem dL_run_2 : decode cL_run 2 = .ok (.iconst 0, 1) := by decide +kernel
theorem dL_run_3 : decode cL_run 3 = .ok (.aload_n 0, 1) := by decide +kernel
theorem dL_run_4 : decode cL_run 4 = .ok (.iload_n 1, 1) := by decide +kernel
theorem dL_run_5 : decode cL_run 5 = .ok (.iload_n 2, 1) := by decide +kernel
theorem dL_run_6 : decode cL_run 6 = .ok (.lload_n 3, 1) := by decide +kernel
theorem dL_run_7 : decode cL_run 7 = .ok (.lload 5, 2) := by decide +kernel
theorem dL_run_9 : decode cL_run 9 = .ok (.iload 7, 2) := by decide +kernel
theorem dL_run_11 : decode cL_run 11 = .ok (.invokevirtual 49, 3) := by decide +kernel
theorem dL_run_14 : decode cL_run 14 = .ok (.i2l, 1) := by decide +kernel
theorem dL_run_15 : decode cL_run 15 = .ok (.lastore, 1) := by decide +kernel
theorem dL_run_16 : decode cL_run 16 = .ok (.goto 11, 3) := by decide +kernel
theorem dL_run_19 : decode cL_run 19 = .ok (.astore 9, 2) := by decide +kernel
theorem dL_run_21 : decode cL_run 21 = .ok (.iconst 1, 1) := by decide +kernel
theorem dL_run_22 : decode cL_run 22 = .ok (.ireturn, 1) := by decide +kernel
theorem dL_run_23 : decode cL_run 23 = .ok (.astore 9, 2) := by decide +kernel
theorem dL_run_25 : decode cL_run 25 = .ok (.iconst 2, 1) := by decide +kernel
theorem dL_run_26 : decode cL_run 26 = .ok (.ireturn, 1) := by decide +kernel
theorem dL_run_27 : decode cL_run 27 = .ok (.iconst 0, 1) := by decide +kernel
theorem dL_run_28 : decode cL_run 28 = .ok (.ireturn, 1) := by decide +kernel
theorem dL_told_0 : decode cL_told 0 = .ok (.aload_n 2, 1) := by decide +kernel
theorem dL_told_1 : decode cL_told 1 = .ok (.iconst 0, 1) := by decide +kernel
theorem dL_told_2 : decode cL_told 2 = .ok (.aload_n 0, 1) := by decide +kernel
theorem dL_told_3 : decode cL_told 3 = .ok (.iload_n 1, 1) := by decide +kernel
theorem dL_told_4 : decode cL_told 4 = .ok (.invokevirtual 53, 3) := by decide +kernel
theorem dL_told_7 : decode cL_told 7 = .ok (.lastore, 1) := by decide +kernel
theorem dL_told_8 : decode cL_told 8 = .ok (.goto 6, 3) := by decide +kernel
theorem dL_told_11 : decode cL_told 11 = .ok (.astore_n 3, 1) := by decide +kernel
theorem dL_told_12 : decode cL_told 12 = .ok (.iconst 1, 1) := by decide +kernel
theorem dL_told_13 : decode cL_told 13 = .ok (.ireturn, 1) := by decide +kernel
theorem dL_told_14 : decode cL_told 14 = .ok (.iconst 0, 1) := by decide +kernel
theorem dL_told_15 : decode cL_told 15 = .ok (.ireturn, 1) := by decide +kernel
theorem dL_memory_0 : decode cL_memory 0 = .ok (.aload_n 2, 1) := by decide +kernel
theorem dL_memory_1 : decode cL_memory 1 = .ok (.iconst 0, 1) := by decide +kernel
theorem dL_memory_2 : decode cL_memory 2 = .ok (.aload_n 0, 1) := by decide +kernel
theorem dL_memory_3 : decode cL_memory 3 = .ok (.iload_n 1, 1) := by decide +kernel
theorem dL_memory_4 : decode cL_memory 4 = .ok (.invokevirtual 57, 3) := by decide +kernel
theorem dL_memory_7 : decode cL_memory 7 = .ok (.i2l, 1) := by decide +kernel
theorem dL_memory_8 : decode cL_memory 8 = .ok (.lastore, 1) := by decide +kernel
theorem dL_memory_9 : decode cL_memory 9 = .ok (.goto 6, 3) := by decide +kernel
theorem dL_memory_12 : decode cL_memory 12 = .ok (.astore_n 3, 1) := by decide +kernel
theorem dL_memory_13 : decode cL_memory 13 = .ok (.iconst 1, 1) := by decide +kernel
theorem dL_memory_14 : decode cL_memory 14 = .ok (.ireturn, 1) := by decide +kernel
theorem dL_memory_15 : decode cL_memory 15 = .ok (.iconst 0, 1) := by decide +kernel
theorem dL_memory_16 : decode cL_memory 16 = .ok (.ireturn, 1) := by decide +kernel
theorem dL_law_0 : decode cL_law 0 = .ok (.new 8, 3) := by decide +kernel
theorem dL_law_3 : decode cL_law 3 = .ok (.dup, 1) := by decide +kernel
theorem dL_law_4 : decode cL_law 4 = .ok (.invokespecial 60, 3) := by decide +kernel
theorem dL_law_7 : decode cL_law 7 = .ok (.astore_n 1, 1) := by decide +kernel
theorem dL_law_8 : decode cL_law 8 = .ok (.new 61, 3) := by decide +kernel
theorem dL_law_11 : decode cL_law 11 = .ok (.dup, 1) := by decide +kernel
theorem dL_law_12 : decode cL_law 12 = .ok (.invokespecial 63, 3) := by decide +kernel
theorem dL_law_15 : decode cL_law 15 = .ok (.astore_n 2, 1) := by decide +kernel
theorem dL_law_16 : decode cL_law 16 = .ok (.iconst 1, 1) := by decide +kernel
theorem dL_law_17 : decode cL_law 17 = .ok (.newarray .long, 2) := by decide +kernel
theorem dL_law_19 : decode cL_law 19 = .ok (.astore_n 3, 1) := by decide +kernel
theorem dL_law_20 : decode cL_law 20 = .ok (.iconst 0, 1) := by decide +kernel
theorem dL_law_21 : decode cL_law 21 = .ok (.istore 4, 2) := by decide +kernel
theorem dL_law_23 : decode cL_law 23 = .ok (.iload 4, 2) := by decide +kernel
theorem dL_law_25 : decode cL_law 25 = .ok (.aload_n 0, 1) := by decide +kernel
theorem dL_law_26 : decode cL_law 26 = .ok (.arraylength, 1) := by decide +kernel
theorem dL_law_27 : decode cL_law 27 = .ok (.bipush 8, 2) := by decide +kernel
theorem dL_law_29 : decode cL_law 29 = .ok (.isub, 1) := by decide +kernel
theorem dL_law_30 : decode cL_law 30 = .ok (.if_icmp .gt 1150, 3) := by decide +kernel
theorem dL_law_33 : decode cL_law 33 = .ok (.aload_n 0, 1) := by decide +kernel
theorem dL_law_34 : decode cL_law 34 = .ok (.iload 4, 2) := by decide +kernel
theorem dL_law_36 : decode cL_law 36 = .ok (.iaload, 1) := by decide +kernel
theorem dL_law_37 : decode cL_law 37 = .ok (.bipush 15, 2) := by decide +kernel
theorem dL_law_39 : decode cL_law 39 = .ok (.iand, 1) := by decide +kernel
theorem dL_law_40 : decode cL_law 40 = .ok (.tableswitch 1134 0 13 #[72, 116, 208, 300, 380, 484, 602, 646, 659, 715, 771, 851, 1023, 1078], 72) := by decide +kernel
theorem dL_law_112 : decode cL_law 112 = .ok (.aload_n 1, 1) := by decide +kernel
theorem dL_law_113 : decode cL_law 113 = .ok (.aload_n 3, 1) := by decide +kernel
theorem dL_law_114 : decode cL_law 114 = .ok (.invokestatic 64, 3) := by decide +kernel
theorem dL_law_117 : decode cL_law 117 = .ok (.istore 5, 2) := by decide +kernel
theorem dL_law_119 : decode cL_law 119 = .ok (.aload_n 2, 1) := by decide +kernel
theorem dL_law_120 : decode cL_law 120 = .ok (.invokevirtual 69, 3) := by decide +kernel
theorem dL_law_123 : decode cL_law 123 = .ok (.istore 6, 2) := by decide +kernel
theorem dL_law_125 : decode cL_law 125 = .ok (.aload_n 2, 1) := by decide +kernel
theorem dL_law_126 : decode cL_law 126 = .ok (.invokevirtual 70, 3) := by decide +kernel
theorem dL_law_129 : decode cL_law 129 = .ok (.iload 5, 2) := by decide +kernel
theorem dL_law_131 : decode cL_law 131 = .ok (.if_icmp .eq 5, 3) := by decide +kernel
theorem dL_law_134 : decode cL_law 134 = .ok (.iconst 0, 1) := by decide +kernel
theorem dL_law_135 : decode cL_law 135 = .ok (.ireturn, 1) := by decide +kernel
theorem dL_law_136 : decode cL_law 136 = .ok (.iload 5, 2) := by decide +kernel
theorem dL_law_138 : decode cL_law 138 = .ok (.ifCond .ne 15, 3) := by decide +kernel
theorem dL_law_141 : decode cL_law 141 = .ok (.aload_n 3, 1) := by decide +kernel
theorem dL_law_142 : decode cL_law 142 = .ok (.iconst 0, 1) := by decide +kernel
theorem dL_law_143 : decode cL_law 143 = .ok (.laload, 1) := by decide +kernel
theorem dL_law_144 : decode cL_law 144 = .ok (.iload 6, 2) := by decide +kernel
theorem dL_law_146 : decode cL_law 146 = .ok (.i2l, 1) := by decide +kernel
theorem dL_law_147 : decode cL_law 147 = .ok (.lcmp, 1) := by decide +kernel
theorem dL_law_148 : decode cL_law 148 = .ok (.ifCond .eq 5, 3) := by decide +kernel
theorem dL_law_151 : decode cL_law 151 = .ok (.iconst 0, 1) := by decide +kernel
theorem dL_law_152 : decode cL_law 152 = .ok (.ireturn, 1) := by decide +kernel
theorem dL_law_153 : decode cL_law 153 = .ok (.goto 1021, 3) := by decide +kernel
theorem dL_law_156 : decode cL_law 156 = .ok (.aload_n 1, 1) := by decide +kernel
theorem dL_law_157 : decode cL_law 157 = .ok (.aload_n 0, 1) := by decide +kernel
theorem dL_law_158 : decode cL_law 158 = .ok (.iload 4, 2) := by decide +kernel
theorem dL_law_160 : decode cL_law 160 = .ok (.iconst 1, 1) := by decide +kernel
theorem dL_law_161 : decode cL_law 161 = .ok (.iadd, 1) := by decide +kernel
theorem dL_law_162 : decode cL_law 162 = .ok (.iaload, 1) := by decide +kernel
theorem dL_law_163 : decode cL_law 163 = .ok (.aload_n 0, 1) := by decide +kernel
theorem dL_law_164 : decode cL_law 164 = .ok (.iload 4, 2) := by decide +kernel
theorem dL_law_166 : decode cL_law 166 = .ok (.iconst 2, 1) := by decide +kernel
theorem dL_law_167 : decode cL_law 167 = .ok (.iadd, 1) := by decide +kernel
theorem dL_law_168 : decode cL_law 168 = .ok (.iaload, 1) := by decide +kernel
theorem dL_law_169 : decode cL_law 169 = .ok (.aload_n 0, 1) := by decide +kernel
theorem dL_law_170 : decode cL_law 170 = .ok (.iload 4, 2) := by decide +kernel
theorem dL_law_172 : decode cL_law 172 = .ok (.iconst 3, 1) := by decide +kernel
theorem dL_law_173 : decode cL_law 173 = .ok (.iadd, 1) := by decide +kernel
theorem dL_law_174 : decode cL_law 174 = .ok (.iaload, 1) := by decide +kernel
theorem dL_law_175 : decode cL_law 175 = .ok (.aload_n 0, 1) := by decide +kernel
theorem dL_law_176 : decode cL_law 176 = .ok (.iload 4, 2) := by decide +kernel
theorem dL_law_178 : decode cL_law 178 = .ok (.iconst 4, 1) := by decide +kernel
theorem dL_law_179 : decode cL_law 179 = .ok (.iadd, 1) := by decide +kernel
theorem dL_law_180 : decode cL_law 180 = .ok (.iaload, 1) := by decide +kernel
theorem dL_law_181 : decode cL_law 181 = .ok (.aload_n 3, 1) := by decide +kernel
theorem dL_law_182 : decode cL_law 182 = .ok (.invokestatic 73, 3) := by decide +kernel
theorem dL_law_185 : decode cL_law 185 = .ok (.istore 5, 2) := by decide +kernel
theorem dL_law_187 : decode cL_law 187 = .ok (.aload_n 2, 1) := by decide +kernel
theorem dL_law_188 : decode cL_law 188 = .ok (.aload_n 0, 1) := by decide +kernel
theorem dL_law_189 : decode cL_law 189 = .ok (.iload 4, 2) := by decide +kernel
theorem dL_law_191 : decode cL_law 191 = .ok (.iconst 1, 1) := by decide +kernel
theorem dL_law_192 : decode cL_law 192 = .ok (.iadd, 1) := by decide +kernel
theorem dL_law_193 : decode cL_law 193 = .ok (.iaload, 1) := by decide +kernel
theorem dL_law_194 : decode cL_law 194 = .ok (.aload_n 0, 1) := by decide +kernel
theorem dL_law_195 : decode cL_law 195 = .ok (.iload 4, 2) := by decide +kernel
theorem dL_law_197 : decode cL_law 197 = .ok (.iconst 2, 1) := by decide +kernel
theorem dL_law_198 : decode cL_law 198 = .ok (.iadd, 1) := by decide +kernel
theorem dL_law_199 : decode cL_law 199 = .ok (.iaload, 1) := by decide +kernel
theorem dL_law_200 : decode cL_law 200 = .ok (.aload_n 0, 1) := by decide +kernel
theorem dL_law_201 : decode cL_law 201 = .ok (.iload 4, 2) := by decide +kernel
theorem dL_law_203 : decode cL_law 203 = .ok (.iconst 3, 1) := by decide +kernel
theorem dL_law_204 : decode cL_law 204 = .ok (.iadd, 1) := by decide +kernel
theorem dL_law_205 : decode cL_law 205 = .ok (.iaload, 1) := by decide +kernel
theorem dL_law_206 : decode cL_law 206 = .ok (.aload_n 0, 1) := by decide +kernel
theorem dL_law_207 : decode cL_law 207 = .ok (.iload 4, 2) := by decide +kernel
theorem dL_law_209 : decode cL_law 209 = .ok (.iconst 4, 1) := by decide +kernel
theorem dL_law_210 : decode cL_law 210 = .ok (.iadd, 1) := by decide +kernel
theorem dL_law_211 : decode cL_law 211 = .ok (.iaload, 1) := by decide +kernel
theorem dL_law_212 : decode cL_law 212 = .ok (.invokevirtual 76, 3) := by decide +kernel
theorem dL_law_215 : decode cL_law 215 = .ok (.istore 6, 2) := by decide +kernel
theorem dL_law_217 : decode cL_law 217 = .ok (.aload_n 2, 1) := by decide +kernel
theorem dL_law_218 : decode cL_law 218 = .ok (.invokevirtual 70, 3) := by decide +kernel
theorem dL_law_221 : decode cL_law 221 = .ok (.iload 5, 2) := by decide +kernel
theorem dL_law_223 : decode cL_law 223 = .ok (.if_icmp .eq 5, 3) := by decide +kernel
theorem dL_law_226 : decode cL_law 226 = .ok (.iconst 0, 1) := by decide +kernel
theorem dL_law_227 : decode cL_law 227 = .ok (.ireturn, 1) := by decide +kernel
theorem dL_law_228 : decode cL_law 228 = .ok (.iload 5, 2) := by decide +kernel
theorem dL_law_230 : decode cL_law 230 = .ok (.ifCond .ne 15, 3) := by decide +kernel
theorem dL_law_233 : decode cL_law 233 = .ok (.aload_n 3, 1) := by decide +kernel
theorem dL_law_234 : decode cL_law 234 = .ok (.iconst 0, 1) := by decide +kernel
theorem dL_law_235 : decode cL_law 235 = .ok (.laload, 1) := by decide +kernel
theorem dL_law_236 : decode cL_law 236 = .ok (.iload 6, 2) := by decide +kernel
theorem dL_law_238 : decode cL_law 238 = .ok (.i2l, 1) := by decide +kernel
theorem dL_law_239 : decode cL_law 239 = .ok (.lcmp, 1) := by decide +kernel
theorem dL_law_240 : decode cL_law 240 = .ok (.ifCond .eq 5, 3) := by decide +kernel
theorem dL_law_243 : decode cL_law 243 = .ok (.iconst 0, 1) := by decide +kernel
theorem dL_law_244 : decode cL_law 244 = .ok (.ireturn, 1) := by decide +kernel
theorem dL_law_245 : decode cL_law 245 = .ok (.goto 929, 3) := by decide +kernel
theorem dL_law_248 : decode cL_law 248 = .ok (.aload_n 1, 1) := by decide +kernel
theorem dL_law_249 : decode cL_law 249 = .ok (.aload_n 0, 1) := by decide +kernel
theorem dL_law_250 : decode cL_law 250 = .ok (.iload 4, 2) := by decide +kernel
theorem dL_law_252 : decode cL_law 252 = .ok (.iconst 1, 1) := by decide +kernel
theorem dL_law_253 : decode cL_law 253 = .ok (.iadd, 1) := by decide +kernel
theorem dL_law_254 : decode cL_law 254 = .ok (.iaload, 1) := by decide +kernel
theorem dL_law_255 : decode cL_law 255 = .ok (.aload_n 0, 1) := by decide +kernel
theorem dL_law_256 : decode cL_law 256 = .ok (.iload 4, 2) := by decide +kernel
theorem dL_law_258 : decode cL_law 258 = .ok (.iconst 2, 1) := by decide +kernel
theorem dL_law_259 : decode cL_law 259 = .ok (.iadd, 1) := by decide +kernel
theorem dL_law_260 : decode cL_law 260 = .ok (.iaload, 1) := by decide +kernel
theorem dL_law_261 : decode cL_law 261 = .ok (.aload_n 0, 1) := by decide +kernel
theorem dL_law_262 : decode cL_law 262 = .ok (.iload 4, 2) := by decide +kernel
theorem dL_law_264 : decode cL_law 264 = .ok (.iconst 3, 1) := by decide +kernel
theorem dL_law_265 : decode cL_law 265 = .ok (.iadd, 1) := by decide +kernel
theorem dL_law_266 : decode cL_law 266 = .ok (.iaload, 1) := by decide +kernel
theorem dL_law_267 : decode cL_law 267 = .ok (.aload_n 0, 1) := by decide +kernel
theorem dL_law_268 : decode cL_law 268 = .ok (.iload 4, 2) := by decide +kernel
theorem dL_law_270 : decode cL_law 270 = .ok (.iconst 4, 1) := by decide +kernel
theorem dL_law_271 : decode cL_law 271 = .ok (.iadd, 1) := by decide +kernel
theorem dL_law_272 : decode cL_law 272 = .ok (.iaload, 1) := by decide +kernel
theorem dL_law_273 : decode cL_law 273 = .ok (.aload_n 3, 1) := by decide +kernel
theorem dL_law_274 : decode cL_law 274 = .ok (.invokestatic 77, 3) := by decide +kernel
theorem dL_law_277 : decode cL_law 277 = .ok (.istore 5, 2) := by decide +kernel
theorem dL_law_279 : decode cL_law 279 = .ok (.aload_n 2, 1) := by decide +kernel
theorem dL_law_280 : decode cL_law 280 = .ok (.aload_n 0, 1) := by decide +kernel
theorem dL_law_281 : decode cL_law 281 = .ok (.iload 4, 2) := by decide +kernel
theorem dL_law_283 : decode cL_law 283 = .ok (.iconst 1, 1) := by decide +kernel
theorem dL_law_284 : decode cL_law 284 = .ok (.iadd, 1) := by decide +kernel
theorem dL_law_285 : decode cL_law 285 = .ok (.iaload, 1) := by decide +kernel
theorem dL_law_286 : decode cL_law 286 = .ok (.aload_n 0, 1) := by decide +kernel
theorem dL_law_287 : decode cL_law 287 = .ok (.iload 4, 2) := by decide +kernel
theorem dL_law_289 : decode cL_law 289 = .ok (.iconst 2, 1) := by decide +kernel
theorem dL_law_290 : decode cL_law 290 = .ok (.iadd, 1) := by decide +kernel
theorem dL_law_291 : decode cL_law 291 = .ok (.iaload, 1) := by decide +kernel
theorem dL_law_292 : decode cL_law 292 = .ok (.aload_n 0, 1) := by decide +kernel
theorem dL_law_293 : decode cL_law 293 = .ok (.iload 4, 2) := by decide +kernel
theorem dL_law_295 : decode cL_law 295 = .ok (.iconst 3, 1) := by decide +kernel
theorem dL_law_296 : decode cL_law 296 = .ok (.iadd, 1) := by decide +kernel
theorem dL_law_297 : decode cL_law 297 = .ok (.iaload, 1) := by decide +kernel
theorem dL_law_298 : decode cL_law 298 = .ok (.aload_n 0, 1) := by decide +kernel
theorem dL_law_299 : decode cL_law 299 = .ok (.iload 4, 2) := by decide +kernel
theorem dL_law_301 : decode cL_law 301 = .ok (.iconst 4, 1) := by decide +kernel
theorem dL_law_302 : decode cL_law 302 = .ok (.iadd, 1) := by decide +kernel
theorem dL_law_303 : decode cL_law 303 = .ok (.iaload, 1) := by decide +kernel
theorem dL_law_304 : decode cL_law 304 = .ok (.invokevirtual 79, 3) := by decide +kernel
theorem dL_law_307 : decode cL_law 307 = .ok (.istore 6, 2) := by decide +kernel
theorem dL_law_309 : decode cL_law 309 = .ok (.aload_n 2, 1) := by decide +kernel
theorem dL_law_310 : decode cL_law 310 = .ok (.invokevirtual 70, 3) := by decide +kernel
theorem dL_law_313 : decode cL_law 313 = .ok (.iload 5, 2) := by decide +kernel
theorem dL_law_315 : decode cL_law 315 = .ok (.if_icmp .eq 5, 3) := by decide +kernel
theorem dL_law_318 : decode cL_law 318 = .ok (.iconst 0, 1) := by decide +kernel
theorem dL_law_319 : decode cL_law 319 = .ok (.ireturn, 1) := by decide +kernel
theorem dL_law_320 : decode cL_law 320 = .ok (.iload 5, 2) := by decide +kernel
theorem dL_law_322 : decode cL_law 322 = .ok (.ifCond .ne 15, 3) := by decide +kernel
theorem dL_law_325 : decode cL_law 325 = .ok (.aload_n 3, 1) := by decide +kernel
theorem dL_law_326 : decode cL_law 326 = .ok (.iconst 0, 1) := by decide +kernel
theorem dL_law_327 : decode cL_law 327 = .ok (.laload, 1) := by decide +kernel
theorem dL_law_328 : decode cL_law 328 = .ok (.iload 6, 2) := by decide +kernel
theorem dL_law_330 : decode cL_law 330 = .ok (.i2l, 1) := by decide +kernel
theorem dL_law_331 : decode cL_law 331 = .ok (.lcmp, 1) := by decide +kernel
theorem dL_law_332 : decode cL_law 332 = .ok (.ifCond .eq 5, 3) := by decide +kernel
theorem dL_law_335 : decode cL_law 335 = .ok (.iconst 0, 1) := by decide +kernel
theorem dL_law_336 : decode cL_law 336 = .ok (.ireturn, 1) := by decide +kernel
theorem dL_law_337 : decode cL_law 337 = .ok (.goto 837, 3) := by decide +kernel
theorem dL_law_340 : decode cL_law 340 = .ok (.aload_n 1, 1) := by decide +kernel
theorem dL_law_341 : decode cL_law 341 = .ok (.aload_n 0, 1) := by decide +kernel
theorem dL_law_342 : decode cL_law 342 = .ok (.iload 4, 2) := by decide +kernel
theorem dL_law_344 : decode cL_law 344 = .ok (.iconst 1, 1) := by decide +kernel
theorem dL_law_345 : decode cL_law 345 = .ok (.iadd, 1) := by decide +kernel
theorem dL_law_346 : decode cL_law 346 = .ok (.iaload, 1) := by decide +kernel
theorem dL_law_347 : decode cL_law 347 = .ok (.aload_n 0, 1) := by decide +kernel
theorem dL_law_348 : decode cL_law 348 = .ok (.iload 4, 2) := by decide +kernel
theorem dL_law_350 : decode cL_law 350 = .ok (.iconst 2, 1) := by decide +kernel
theorem dL_law_351 : decode cL_law 351 = .ok (.iadd, 1) := by decide +kernel
theorem dL_law_352 : decode cL_law 352 = .ok (.iaload, 1) := by decide +kernel
theorem dL_law_353 : decode cL_law 353 = .ok (.aload_n 0, 1) := by decide +kernel
theorem dL_law_354 : decode cL_law 354 = .ok (.iload 4, 2) := by decide +kernel
theorem dL_law_356 : decode cL_law 356 = .ok (.iconst 3, 1) := by decide +kernel
theorem dL_law_357 : decode cL_law 357 = .ok (.iadd, 1) := by decide +kernel
theorem dL_law_358 : decode cL_law 358 = .ok (.iaload, 1) := by decide +kernel
theorem dL_law_359 : decode cL_law 359 = .ok (.aload_n 3, 1) := by decide +kernel
theorem dL_law_360 : decode cL_law 360 = .ok (.invokestatic 80, 3) := by decide +kernel
theorem dL_law_363 : decode cL_law 363 = .ok (.istore 5, 2) := by decide +kernel
theorem dL_law_365 : decode cL_law 365 = .ok (.aload_n 2, 1) := by decide +kernel
theorem dL_law_366 : decode cL_law 366 = .ok (.aload_n 0, 1) := by decide +kernel
theorem dL_law_367 : decode cL_law 367 = .ok (.iload 4, 2) := by decide +kernel
theorem dL_law_369 : decode cL_law 369 = .ok (.iconst 1, 1) := by decide +kernel
theorem dL_law_370 : decode cL_law 370 = .ok (.iadd, 1) := by decide +kernel
theorem dL_law_371 : decode cL_law 371 = .ok (.iaload, 1) := by decide +kernel
theorem dL_law_372 : decode cL_law 372 = .ok (.aload_n 0, 1) := by decide +kernel
theorem dL_law_373 : decode cL_law 373 = .ok (.iload 4, 2) := by decide +kernel
theorem dL_law_375 : decode cL_law 375 = .ok (.iconst 2, 1) := by decide +kernel
theorem dL_law_376 : decode cL_law 376 = .ok (.iadd, 1) := by decide +kernel
theorem dL_law_377 : decode cL_law 377 = .ok (.iaload, 1) := by decide +kernel
theorem dL_law_378 : decode cL_law 378 = .ok (.aload_n 0, 1) := by decide +kernel
theorem dL_law_379 : decode cL_law 379 = .ok (.iload 4, 2) := by decide +kernel
theorem dL_law_381 : decode cL_law 381 = .ok (.iconst 3, 1) := by decide +kernel
theorem dL_law_382 : decode cL_law 382 = .ok (.iadd, 1) := by decide +kernel
theorem dL_law_383 : decode cL_law 383 = .ok (.iaload, 1) := by decide +kernel
theorem dL_law_384 : decode cL_law 384 = .ok (.invokevirtual 83, 3) := by decide +kernel
theorem dL_law_387 : decode cL_law 387 = .ok (.istore 6, 2) := by decide +kernel
theorem dL_law_389 : decode cL_law 389 = .ok (.aload_n 2, 1) := by decide +kernel
theorem dL_law_390 : decode cL_law 390 = .ok (.invokevirtual 70, 3) := by decide +kernel
theorem dL_law_393 : decode cL_law 393 = .ok (.iload 5, 2) := by decide +kernel
theorem dL_law_395 : decode cL_law 395 = .ok (.if_icmp .eq 5, 3) := by decide +kernel
theorem dL_law_398 : decode cL_law 398 = .ok (.iconst 0, 1) := by decide +kernel
theorem dL_law_399 : decode cL_law 399 = .ok (.ireturn, 1) := by decide +kernel
theorem dL_law_400 : decode cL_law 400 = .ok (.iload 5, 2) := by decide +kernel
theorem dL_law_402 : decode cL_law 402 = .ok (.ifCond .ne 15, 3) := by decide +kernel
theorem dL_law_405 : decode cL_law 405 = .ok (.aload_n 3, 1) := by decide +kernel
theorem dL_law_406 : decode cL_law 406 = .ok (.iconst 0, 1) := by decide +kernel
theorem dL_law_407 : decode cL_law 407 = .ok (.laload, 1) := by decide +kernel
theorem dL_law_408 : decode cL_law 408 = .ok (.iload 6, 2) := by decide +kernel
theorem dL_law_410 : decode cL_law 410 = .ok (.i2l, 1) := by decide +kernel
theorem dL_law_411 : decode cL_law 411 = .ok (.lcmp, 1) := by decide +kernel
theorem dL_law_412 : decode cL_law 412 = .ok (.ifCond .eq 5, 3) := by decide +kernel
theorem dL_law_415 : decode cL_law 415 = .ok (.iconst 0, 1) := by decide +kernel
theorem dL_law_416 : decode cL_law 416 = .ok (.ireturn, 1) := by decide +kernel
theorem dL_law_417 : decode cL_law 417 = .ok (.goto 757, 3) := by decide +kernel
theorem dL_law_420 : decode cL_law 420 = .ok (.aload_n 1, 1) := by decide +kernel
theorem dL_law_421 : decode cL_law 421 = .ok (.aload_n 0, 1) := by decide +kernel
theorem dL_law_422 : decode cL_law 422 = .ok (.iload 4, 2) := by decide +kernel
theorem dL_law_424 : decode cL_law 424 = .ok (.iconst 1, 1) := by decide +kernel
theorem dL_law_425 : decode cL_law 425 = .ok (.iadd, 1) := by decide +kernel
theorem dL_law_426 : decode cL_law 426 = .ok (.iaload, 1) := by decide +kernel
theorem dL_law_427 : decode cL_law 427 = .ok (.aload_n 0, 1) := by decide +kernel
theorem dL_law_428 : decode cL_law 428 = .ok (.iload 4, 2) := by decide +kernel
theorem dL_law_430 : decode cL_law 430 = .ok (.iconst 2, 1) := by decide +kernel
theorem dL_law_431 : decode cL_law 431 = .ok (.iadd, 1) := by decide +kernel
theorem dL_law_432 : decode cL_law 432 = .ok (.iaload, 1) := by decide +kernel
theorem dL_law_433 : decode cL_law 433 = .ok (.aload_n 0, 1) := by decide +kernel
theorem dL_law_434 : decode cL_law 434 = .ok (.iload 4, 2) := by decide +kernel
theorem dL_law_436 : decode cL_law 436 = .ok (.iconst 3, 1) := by decide +kernel
theorem dL_law_437 : decode cL_law 437 = .ok (.iadd, 1) := by decide +kernel
theorem dL_law_438 : decode cL_law 438 = .ok (.iaload, 1) := by decide +kernel
theorem dL_law_439 : decode cL_law 439 = .ok (.aload_n 0, 1) := by decide +kernel
theorem dL_law_440 : decode cL_law 440 = .ok (.iload 4, 2) := by decide +kernel
theorem dL_law_442 : decode cL_law 442 = .ok (.iconst 4, 1) := by decide +kernel
theorem dL_law_443 : decode cL_law 443 = .ok (.iadd, 1) := by decide +kernel
theorem dL_law_444 : decode cL_law 444 = .ok (.iaload, 1) := by decide +kernel
theorem dL_law_445 : decode cL_law 445 = .ok (.i2l, 1) := by decide +kernel
theorem dL_law_446 : decode cL_law 446 = .ok (.bipush 32, 2) := by decide +kernel
theorem dL_law_448 : decode cL_law 448 = .ok (.lshl, 1) := by decide +kernel
theorem dL_law_449 : decode cL_law 449 = .ok (.aload_n 0, 1) := by decide +kernel
theorem dL_law_450 : decode cL_law 450 = .ok (.iload 4, 2) := by decide +kernel
theorem dL_law_452 : decode cL_law 452 = .ok (.iconst 5, 1) := by decide +kernel
theorem dL_law_453 : decode cL_law 453 = .ok (.iadd, 1) := by decide +kernel
theorem dL_law_454 : decode cL_law 454 = .ok (.iaload, 1) := by decide +kernel
theorem dL_law_455 : decode cL_law 455 = .ok (.i2l, 1) := by decide +kernel
theorem dL_law_456 : decode cL_law 456 = .ok (.ldc2_w 84, 3) := by decide +kernel
theorem dL_law_459 : decode cL_law 459 = .ok (.land, 1) := by decide +kernel
theorem dL_law_460 : decode cL_law 460 = .ok (.lor, 1) := by decide +kernel
theorem dL_law_461 : decode cL_law 461 = .ok (.invokestatic 86, 3) := by decide +kernel
theorem dL_law_464 : decode cL_law 464 = .ok (.istore 5, 2) := by decide +kernel
theorem dL_law_466 : decode cL_law 466 = .ok (.aload_n 2, 1) := by decide +kernel
theorem dL_law_467 : decode cL_law 467 = .ok (.aload_n 0, 1) := by decide +kernel
theorem dL_law_468 : decode cL_law 468 = .ok (.iload 4, 2) := by decide +kernel
theorem dL_law_470 : decode cL_law 470 = .ok (.iconst 1, 1) := by decide +kernel
theorem dL_law_471 : decode cL_law 471 = .ok (.iadd, 1) := by decide +kernel
theorem dL_law_472 : decode cL_law 472 = .ok (.iaload, 1) := by decide +kernel
theorem dL_law_473 : decode cL_law 473 = .ok (.aload_n 0, 1) := by decide +kernel
theorem dL_law_474 : decode cL_law 474 = .ok (.iload 4, 2) := by decide +kernel
theorem dL_law_476 : decode cL_law 476 = .ok (.iconst 2, 1) := by decide +kernel
theorem dL_law_477 : decode cL_law 477 = .ok (.iadd, 1) := by decide +kernel
theorem dL_law_478 : decode cL_law 478 = .ok (.iaload, 1) := by decide +kernel
theorem dL_law_479 : decode cL_law 479 = .ok (.aload_n 0, 1) := by decide +kernel
theorem dL_law_480 : decode cL_law 480 = .ok (.iload 4, 2) := by decide +kernel
theorem dL_law_482 : decode cL_law 482 = .ok (.iconst 3, 1) := by decide +kernel
theorem dL_law_483 : decode cL_law 483 = .ok (.iadd, 1) := by decide +kernel
theorem dL_law_484 : decode cL_law 484 = .ok (.iaload, 1) := by decide +kernel
theorem dL_law_485 : decode cL_law 485 = .ok (.aload_n 0, 1) := by decide +kernel
theorem dL_law_486 : decode cL_law 486 = .ok (.iload 4, 2) := by decide +kernel
theorem dL_law_488 : decode cL_law 488 = .ok (.iconst 4, 1) := by decide +kernel
theorem dL_law_489 : decode cL_law 489 = .ok (.iadd, 1) := by decide +kernel
theorem dL_law_490 : decode cL_law 490 = .ok (.iaload, 1) := by decide +kernel
theorem dL_law_491 : decode cL_law 491 = .ok (.i2l, 1) := by decide +kernel
theorem dL_law_492 : decode cL_law 492 = .ok (.bipush 32, 2) := by decide +kernel
theorem dL_law_494 : decode cL_law 494 = .ok (.lshl, 1) := by decide +kernel
theorem dL_law_495 : decode cL_law 495 = .ok (.aload_n 0, 1) := by decide +kernel
theorem dL_law_496 : decode cL_law 496 = .ok (.iload 4, 2) := by decide +kernel
theorem dL_law_498 : decode cL_law 498 = .ok (.iconst 5, 1) := by decide +kernel
theorem dL_law_499 : decode cL_law 499 = .ok (.iadd, 1) := by decide +kernel
theorem dL_law_500 : decode cL_law 500 = .ok (.iaload, 1) := by decide +kernel
theorem dL_law_501 : decode cL_law 501 = .ok (.i2l, 1) := by decide +kernel
theorem dL_law_502 : decode cL_law 502 = .ok (.ldc2_w 84, 3) := by decide +kernel
theorem dL_law_505 : decode cL_law 505 = .ok (.land, 1) := by decide +kernel
theorem dL_law_506 : decode cL_law 506 = .ok (.lor, 1) := by decide +kernel
theorem dL_law_507 : decode cL_law 507 = .ok (.invokevirtual 89, 3) := by decide +kernel
theorem dL_law_510 : decode cL_law 510 = .ok (.aload_n 2, 1) := by decide +kernel
theorem dL_law_511 : decode cL_law 511 = .ok (.invokevirtual 70, 3) := by decide +kernel
theorem dL_law_514 : decode cL_law 514 = .ok (.iload 5, 2) := by decide +kernel
theorem dL_law_516 : decode cL_law 516 = .ok (.if_icmp .eq 5, 3) := by decide +kernel
theorem dL_law_519 : decode cL_law 519 = .ok (.iconst 0, 1) := by decide +kernel
theorem dL_law_520 : decode cL_law 520 = .ok (.ireturn, 1) := by decide +kernel
theorem dL_law_521 : decode cL_law 521 = .ok (.goto 653, 3) := by decide +kernel
theorem dL_law_524 : decode cL_law 524 = .ok (.aload_n 1, 1) := by decide +kernel
theorem dL_law_525 : decode cL_law 525 = .ok (.aload_n 0, 1) := by decide +kernel
theorem dL_law_526 : decode cL_law 526 = .ok (.iload 4, 2) := by decide +kernel
theorem dL_law_528 : decode cL_law 528 = .ok (.iconst 1, 1) := by decide +kernel
theorem dL_law_529 : decode cL_law 529 = .ok (.iadd, 1) := by decide +kernel
theorem dL_law_530 : decode cL_law 530 = .ok (.iaload, 1) := by decide +kernel
theorem dL_law_531 : decode cL_law 531 = .ok (.aload_n 0, 1) := by decide +kernel
theorem dL_law_532 : decode cL_law 532 = .ok (.iload 4, 2) := by decide +kernel
theorem dL_law_534 : decode cL_law 534 = .ok (.iconst 2, 1) := by decide +kernel
theorem dL_law_535 : decode cL_law 535 = .ok (.iadd, 1) := by decide +kernel
theorem dL_law_536 : decode cL_law 536 = .ok (.iaload, 1) := by decide +kernel
theorem dL_law_537 : decode cL_law 537 = .ok (.aload_n 0, 1) := by decide +kernel
theorem dL_law_538 : decode cL_law 538 = .ok (.iload 4, 2) := by decide +kernel
theorem dL_law_540 : decode cL_law 540 = .ok (.iconst 3, 1) := by decide +kernel
theorem dL_law_541 : decode cL_law 541 = .ok (.iadd, 1) := by decide +kernel
theorem dL_law_542 : decode cL_law 542 = .ok (.iaload, 1) := by decide +kernel
theorem dL_law_543 : decode cL_law 543 = .ok (.aload_n 0, 1) := by decide +kernel
theorem dL_law_544 : decode cL_law 544 = .ok (.iload 4, 2) := by decide +kernel
theorem dL_law_546 : decode cL_law 546 = .ok (.iconst 4, 1) := by decide +kernel
theorem dL_law_547 : decode cL_law 547 = .ok (.iadd, 1) := by decide +kernel
theorem dL_law_548 : decode cL_law 548 = .ok (.iaload, 1) := by decide +kernel
theorem dL_law_549 : decode cL_law 549 = .ok (.aload_n 0, 1) := by decide +kernel
theorem dL_law_550 : decode cL_law 550 = .ok (.iload 4, 2) := by decide +kernel
theorem dL_law_552 : decode cL_law 552 = .ok (.iconst 5, 1) := by decide +kernel
theorem dL_law_553 : decode cL_law 553 = .ok (.iadd, 1) := by decide +kernel
theorem dL_law_554 : decode cL_law 554 = .ok (.iaload, 1) := by decide +kernel
theorem dL_law_555 : decode cL_law 555 = .ok (.aload_n 0, 1) := by decide +kernel
theorem dL_law_556 : decode cL_law 556 = .ok (.iload 4, 2) := by decide +kernel
theorem dL_law_558 : decode cL_law 558 = .ok (.bipush 6, 2) := by decide +kernel
theorem dL_law_560 : decode cL_law 560 = .ok (.iadd, 1) := by decide +kernel
theorem dL_law_561 : decode cL_law 561 = .ok (.iaload, 1) := by decide +kernel
theorem dL_law_562 : decode cL_law 562 = .ok (.aload_n 3, 1) := by decide +kernel
theorem dL_law_563 : decode cL_law 563 = .ok (.invokestatic 90, 3) := by decide +kernel
theorem dL_law_566 : decode cL_law 566 = .ok (.istore 5, 2) := by decide +kernel
theorem dL_law_568 : decode cL_law 568 = .ok (.aload_n 2, 1) := by decide +kernel
theorem dL_law_569 : decode cL_law 569 = .ok (.aload_n 0, 1) := by decide +kernel
theorem dL_law_570 : decode cL_law 570 = .ok (.iload 4, 2) := by decide +kernel
theorem dL_law_572 : decode cL_law 572 = .ok (.iconst 1, 1) := by decide +kernel
theorem dL_law_573 : decode cL_law 573 = .ok (.iadd, 1) := by decide +kernel
theorem dL_law_574 : decode cL_law 574 = .ok (.iaload, 1) := by decide +kernel
theorem dL_law_575 : decode cL_law 575 = .ok (.aload_n 0, 1) := by decide +kernel
theorem dL_law_576 : decode cL_law 576 = .ok (.iload 4, 2) := by decide +kernel
theorem dL_law_578 : decode cL_law 578 = .ok (.iconst 2, 1) := by decide +kernel
theorem dL_law_579 : decode cL_law 579 = .ok (.iadd, 1) := by decide +kernel
theorem dL_law_580 : decode cL_law 580 = .ok (.iaload, 1) := by decide +kernel
theorem dL_law_581 : decode cL_law 581 = .ok (.aload_n 0, 1) := by decide +kernel
theorem dL_law_582 : decode cL_law 582 = .ok (.iload 4, 2) := by decide +kernel
theorem dL_law_584 : decode cL_law 584 = .ok (.iconst 3, 1) := by decide +kernel
theorem dL_law_585 : decode cL_law 585 = .ok (.iadd, 1) := by decide +kernel
theorem dL_law_586 : decode cL_law 586 = .ok (.iaload, 1) := by decide +kernel
theorem dL_law_587 : decode cL_law 587 = .ok (.aload_n 0, 1) := by decide +kernel
theorem dL_law_588 : decode cL_law 588 = .ok (.iload 4, 2) := by decide +kernel
theorem dL_law_590 : decode cL_law 590 = .ok (.iconst 4, 1) := by decide +kernel
theorem dL_law_591 : decode cL_law 591 = .ok (.iadd, 1) := by decide +kernel
theorem dL_law_592 : decode cL_law 592 = .ok (.iaload, 1) := by decide +kernel
theorem dL_law_593 : decode cL_law 593 = .ok (.aload_n 0, 1) := by decide +kernel
theorem dL_law_594 : decode cL_law 594 = .ok (.iload 4, 2) := by decide +kernel
theorem dL_law_596 : decode cL_law 596 = .ok (.iconst 5, 1) := by decide +kernel
theorem dL_law_597 : decode cL_law 597 = .ok (.iadd, 1) := by decide +kernel
theorem dL_law_598 : decode cL_law 598 = .ok (.iaload, 1) := by decide +kernel
theorem dL_law_599 : decode cL_law 599 = .ok (.aload_n 0, 1) := by decide +kernel
theorem dL_law_600 : decode cL_law 600 = .ok (.iload 4, 2) := by decide +kernel
theorem dL_law_602 : decode cL_law 602 = .ok (.bipush 6, 2) := by decide +kernel
theorem dL_law_604 : decode cL_law 604 = .ok (.iadd, 1) := by decide +kernel
theorem dL_law_605 : decode cL_law 605 = .ok (.iaload, 1) := by decide +kernel
theorem dL_law_606 : decode cL_law 606 = .ok (.invokevirtual 93, 3) := by decide +kernel
theorem dL_law_609 : decode cL_law 609 = .ok (.istore 6, 2) := by decide +kernel
theorem dL_law_611 : decode cL_law 611 = .ok (.aload_n 2, 1) := by decide +kernel
theorem dL_law_612 : decode cL_law 612 = .ok (.invokevirtual 70, 3) := by decide +kernel
theorem dL_law_615 : decode cL_law 615 = .ok (.iload 5, 2) := by decide +kernel
theorem dL_law_617 : decode cL_law 617 = .ok (.if_icmp .eq 5, 3) := by decide +kernel
theorem dL_law_620 : decode cL_law 620 = .ok (.iconst 0, 1) := by decide +kernel
theorem dL_law_621 : decode cL_law 621 = .ok (.ireturn, 1) := by decide +kernel
theorem dL_law_622 : decode cL_law 622 = .ok (.iload 5, 2) := by decide +kernel
theorem dL_law_624 : decode cL_law 624 = .ok (.ifCond .ne 15, 3) := by decide +kernel
theorem dL_law_627 : decode cL_law 627 = .ok (.aload_n 3, 1) := by decide +kernel
theorem dL_law_628 : decode cL_law 628 = .ok (.iconst 0, 1) := by decide +kernel
theorem dL_law_629 : decode cL_law 629 = .ok (.laload, 1) := by decide +kernel
theorem dL_law_630 : decode cL_law 630 = .ok (.iload 6, 2) := by decide +kernel
theorem dL_law_632 : decode cL_law 632 = .ok (.i2l, 1) := by decide +kernel
theorem dL_law_633 : decode cL_law 633 = .ok (.lcmp, 1) := by decide +kernel
theorem dL_law_634 : decode cL_law 634 = .ok (.ifCond .eq 5, 3) := by decide +kernel
theorem dL_law_637 : decode cL_law 637 = .ok (.iconst 0, 1) := by decide +kernel
theorem dL_law_638 : decode cL_law 638 = .ok (.ireturn, 1) := by decide +kernel
theorem dL_law_639 : decode cL_law 639 = .ok (.goto 535, 3) := by decide +kernel
theorem dL_law_642 : decode cL_law 642 = .ok (.aload_n 1, 1) := by decide +kernel
theorem dL_law_643 : decode cL_law 643 = .ok (.aload_n 3, 1) := by decide +kernel
theorem dL_law_644 : decode cL_law 644 = .ok (.invokestatic 94, 3) := by decide +kernel
theorem dL_law_647 : decode cL_law 647 = .ok (.istore 5, 2) := by decide +kernel
theorem dL_law_649 : decode cL_law 649 = .ok (.aload_n 2, 1) := by decide +kernel
theorem dL_law_650 : decode cL_law 650 = .ok (.invokevirtual 96, 3) := by decide +kernel
theorem dL_law_653 : decode cL_law 653 = .ok (.istore 6, 2) := by decide +kernel
theorem dL_law_655 : decode cL_law 655 = .ok (.aload_n 2, 1) := by decide +kernel
theorem dL_law_656 : decode cL_law 656 = .ok (.invokevirtual 70, 3) := by decide +kernel
theorem dL_law_659 : decode cL_law 659 = .ok (.iload 5, 2) := by decide +kernel
theorem dL_law_661 : decode cL_law 661 = .ok (.if_icmp .eq 5, 3) := by decide +kernel
theorem dL_law_664 : decode cL_law 664 = .ok (.iconst 0, 1) := by decide +kernel
theorem dL_law_665 : decode cL_law 665 = .ok (.ireturn, 1) := by decide +kernel
theorem dL_law_666 : decode cL_law 666 = .ok (.iload 5, 2) := by decide +kernel
theorem dL_law_668 : decode cL_law 668 = .ok (.ifCond .ne 15, 3) := by decide +kernel
theorem dL_law_671 : decode cL_law 671 = .ok (.aload_n 3, 1) := by decide +kernel
theorem dL_law_672 : decode cL_law 672 = .ok (.iconst 0, 1) := by decide +kernel
theorem dL_law_673 : decode cL_law 673 = .ok (.laload, 1) := by decide +kernel
theorem dL_law_674 : decode cL_law 674 = .ok (.iload 6, 2) := by decide +kernel
theorem dL_law_676 : decode cL_law 676 = .ok (.i2l, 1) := by decide +kernel
theorem dL_law_677 : decode cL_law 677 = .ok (.lcmp, 1) := by decide +kernel
theorem dL_law_678 : decode cL_law 678 = .ok (.ifCond .eq 5, 3) := by decide +kernel
theorem dL_law_681 : decode cL_law 681 = .ok (.iconst 0, 1) := by decide +kernel
theorem dL_law_682 : decode cL_law 682 = .ok (.ireturn, 1) := by decide +kernel
theorem dL_law_683 : decode cL_law 683 = .ok (.goto 491, 3) := by decide +kernel
theorem dL_law_686 : decode cL_law 686 = .ok (.aload_n 1, 1) := by decide +kernel
theorem dL_law_687 : decode cL_law 687 = .ok (.invokevirtual 97, 3) := by decide +kernel
theorem dL_law_690 : decode cL_law 690 = .ok (.aload_n 2, 1) := by decide +kernel
theorem dL_law_691 : decode cL_law 691 = .ok (.invokevirtual 100, 3) := by decide +kernel
theorem dL_law_694 : decode cL_law 694 = .ok (.if_icmp .eq 480, 3) := by decide +kernel
theorem dL_law_697 : decode cL_law 697 = .ok (.iconst 0, 1) := by decide +kernel
theorem dL_law_698 : decode cL_law 698 = .ok (.ireturn, 1) := by decide +kernel
theorem dL_law_699 : decode cL_law 699 = .ok (.aload_n 1, 1) := by decide +kernel
theorem dL_law_700 : decode cL_law 700 = .ok (.aload_n 0, 1) := by decide +kernel
theorem dL_law_701 : decode cL_law 701 = .ok (.iload 4, 2) := by decide +kernel
theorem dL_law_703 : decode cL_law 703 = .ok (.iconst 1, 1) := by decide +kernel
theorem dL_law_704 : decode cL_law 704 = .ok (.iadd, 1) := by decide +kernel
theorem dL_law_705 : decode cL_law 705 = .ok (.iaload, 1) := by decide +kernel
theorem dL_law_706 : decode cL_law 706 = .ok (.aload_n 3, 1) := by decide +kernel
theorem dL_law_707 : decode cL_law 707 = .ok (.invokestatic 101, 3) := by decide +kernel
theorem dL_law_710 : decode cL_law 710 = .ok (.istore 5, 2) := by decide +kernel
theorem dL_law_712 : decode cL_law 712 = .ok (.aload_n 2, 1) := by decide +kernel
theorem dL_law_713 : decode cL_law 713 = .ok (.aload_n 0, 1) := by decide +kernel
theorem dL_law_714 : decode cL_law 714 = .ok (.iload 4, 2) := by decide +kernel
theorem dL_law_716 : decode cL_law 716 = .ok (.iconst 1, 1) := by decide +kernel
theorem dL_law_717 : decode cL_law 717 = .ok (.iadd, 1) := by decide +kernel
theorem dL_law_718 : decode cL_law 718 = .ok (.iaload, 1) := by decide +kernel
theorem dL_law_719 : decode cL_law 719 = .ok (.invokevirtual 104, 3) := by decide +kernel
theorem dL_law_722 : decode cL_law 722 = .ok (.istore 6, 2) := by decide +kernel
theorem dL_law_724 : decode cL_law 724 = .ok (.aload_n 2, 1) := by decide +kernel
theorem dL_law_725 : decode cL_law 725 = .ok (.invokevirtual 70, 3) := by decide +kernel
theorem dL_law_728 : decode cL_law 728 = .ok (.iload 5, 2) := by decide +kernel
theorem dL_law_730 : decode cL_law 730 = .ok (.if_icmp .eq 5, 3) := by decide +kernel
theorem dL_law_733 : decode cL_law 733 = .ok (.iconst 0, 1) := by decide +kernel
theorem dL_law_734 : decode cL_law 734 = .ok (.ireturn, 1) := by decide +kernel
theorem dL_law_735 : decode cL_law 735 = .ok (.iload 5, 2) := by decide +kernel
theorem dL_law_737 : decode cL_law 737 = .ok (.ifCond .ne 15, 3) := by decide +kernel
theorem dL_law_740 : decode cL_law 740 = .ok (.aload_n 3, 1) := by decide +kernel
theorem dL_law_741 : decode cL_law 741 = .ok (.iconst 0, 1) := by decide +kernel
theorem dL_law_742 : decode cL_law 742 = .ok (.laload, 1) := by decide +kernel
theorem dL_law_743 : decode cL_law 743 = .ok (.iload 6, 2) := by decide +kernel
theorem dL_law_745 : decode cL_law 745 = .ok (.i2l, 1) := by decide +kernel
theorem dL_law_746 : decode cL_law 746 = .ok (.lcmp, 1) := by decide +kernel
theorem dL_law_747 : decode cL_law 747 = .ok (.ifCond .eq 5, 3) := by decide +kernel
theorem dL_law_750 : decode cL_law 750 = .ok (.iconst 0, 1) := by decide +kernel
theorem dL_law_751 : decode cL_law 751 = .ok (.ireturn, 1) := by decide +kernel
theorem dL_law_752 : decode cL_law 752 = .ok (.goto 422, 3) := by decide +kernel
theorem dL_law_755 : decode cL_law 755 = .ok (.aload_n 1, 1) := by decide +kernel
theorem dL_law_756 : decode cL_law 756 = .ok (.aload_n 0, 1) := by decide +kernel
theorem dL_law_757 : decode cL_law 757 = .ok (.iload 4, 2) := by decide +kernel
theorem dL_law_759 : decode cL_law 759 = .ok (.iconst 1, 1) := by decide +kernel
theorem dL_law_760 : decode cL_law 760 = .ok (.iadd, 1) := by decide +kernel
theorem dL_law_761 : decode cL_law 761 = .ok (.iaload, 1) := by decide +kernel
theorem dL_law_762 : decode cL_law 762 = .ok (.aload_n 3, 1) := by decide +kernel
theorem dL_law_763 : decode cL_law 763 = .ok (.invokestatic 105, 3) := by decide +kernel
theorem dL_law_766 : decode cL_law 766 = .ok (.istore 5, 2) := by decide +kernel
theorem dL_law_768 : decode cL_law 768 = .ok (.aload_n 2, 1) := by decide +kernel
theorem dL_law_769 : decode cL_law 769 = .ok (.aload_n 0, 1) := by decide +kernel
theorem dL_law_770 : decode cL_law 770 = .ok (.iload 4, 2) := by decide +kernel
theorem dL_law_772 : decode cL_law 772 = .ok (.iconst 1, 1) := by decide +kernel
theorem dL_law_773 : decode cL_law 773 = .ok (.iadd, 1) := by decide +kernel
theorem dL_law_774 : decode cL_law 774 = .ok (.iaload, 1) := by decide +kernel
theorem dL_law_775 : decode cL_law 775 = .ok (.invokevirtual 107, 3) := by decide +kernel
theorem dL_law_778 : decode cL_law 778 = .ok (.istore 6, 2) := by decide +kernel
theorem dL_law_780 : decode cL_law 780 = .ok (.aload_n 2, 1) := by decide +kernel
theorem dL_law_781 : decode cL_law 781 = .ok (.invokevirtual 70, 3) := by decide +kernel
theorem dL_law_784 : decode cL_law 784 = .ok (.iload 5, 2) := by decide +kernel
theorem dL_law_786 : decode cL_law 786 = .ok (.if_icmp .eq 5, 3) := by decide +kernel
theorem dL_law_789 : decode cL_law 789 = .ok (.iconst 0, 1) := by decide +kernel
theorem dL_law_790 : decode cL_law 790 = .ok (.ireturn, 1) := by decide +kernel
theorem dL_law_791 : decode cL_law 791 = .ok (.iload 5, 2) := by decide +kernel
theorem dL_law_793 : decode cL_law 793 = .ok (.ifCond .ne 15, 3) := by decide +kernel
theorem dL_law_796 : decode cL_law 796 = .ok (.aload_n 3, 1) := by decide +kernel
theorem dL_law_797 : decode cL_law 797 = .ok (.iconst 0, 1) := by decide +kernel
theorem dL_law_798 : decode cL_law 798 = .ok (.laload, 1) := by decide +kernel
theorem dL_law_799 : decode cL_law 799 = .ok (.iload 6, 2) := by decide +kernel
theorem dL_law_801 : decode cL_law 801 = .ok (.i2l, 1) := by decide +kernel
theorem dL_law_802 : decode cL_law 802 = .ok (.lcmp, 1) := by decide +kernel
theorem dL_law_803 : decode cL_law 803 = .ok (.ifCond .eq 5, 3) := by decide +kernel
theorem dL_law_806 : decode cL_law 806 = .ok (.iconst 0, 1) := by decide +kernel
theorem dL_law_807 : decode cL_law 807 = .ok (.ireturn, 1) := by decide +kernel
theorem dL_law_808 : decode cL_law 808 = .ok (.goto 366, 3) := by decide +kernel
theorem dL_law_811 : decode cL_law 811 = .ok (.aload_n 1, 1) := by decide +kernel
theorem dL_law_812 : decode cL_law 812 = .ok (.aload_n 0, 1) := by decide +kernel
theorem dL_law_813 : decode cL_law 813 = .ok (.iload 4, 2) := by decide +kernel
theorem dL_law_815 : decode cL_law 815 = .ok (.iconst 1, 1) := by decide +kernel
theorem dL_law_816 : decode cL_law 816 = .ok (.iadd, 1) := by decide +kernel
theorem dL_law_817 : decode cL_law 817 = .ok (.iaload, 1) := by decide +kernel
theorem dL_law_818 : decode cL_law 818 = .ok (.aload_n 0, 1) := by decide +kernel
theorem dL_law_819 : decode cL_law 819 = .ok (.iload 4, 2) := by decide +kernel
theorem dL_law_821 : decode cL_law 821 = .ok (.iconst 2, 1) := by decide +kernel
theorem dL_law_822 : decode cL_law 822 = .ok (.iadd, 1) := by decide +kernel
theorem dL_law_823 : decode cL_law 823 = .ok (.iaload, 1) := by decide +kernel
theorem dL_law_824 : decode cL_law 824 = .ok (.aload_n 0, 1) := by decide +kernel
theorem dL_law_825 : decode cL_law 825 = .ok (.iload 4, 2) := by decide +kernel
theorem dL_law_827 : decode cL_law 827 = .ok (.iconst 3, 1) := by decide +kernel
theorem dL_law_828 : decode cL_law 828 = .ok (.iadd, 1) := by decide +kernel
theorem dL_law_829 : decode cL_law 829 = .ok (.iaload, 1) := by decide +kernel
theorem dL_law_830 : decode cL_law 830 = .ok (.aload_n 3, 1) := by decide +kernel
theorem dL_law_831 : decode cL_law 831 = .ok (.invokestatic 108, 3) := by decide +kernel
theorem dL_law_834 : decode cL_law 834 = .ok (.istore 5, 2) := by decide +kernel
theorem dL_law_836 : decode cL_law 836 = .ok (.aload_n 2, 1) := by decide +kernel
theorem dL_law_837 : decode cL_law 837 = .ok (.aload_n 0, 1) := by decide +kernel
theorem dL_law_838 : decode cL_law 838 = .ok (.iload 4, 2) := by decide +kernel
theorem dL_law_840 : decode cL_law 840 = .ok (.iconst 1, 1) := by decide +kernel
theorem dL_law_841 : decode cL_law 841 = .ok (.iadd, 1) := by decide +kernel
theorem dL_law_842 : decode cL_law 842 = .ok (.iaload, 1) := by decide +kernel
theorem dL_law_843 : decode cL_law 843 = .ok (.aload_n 0, 1) := by decide +kernel
theorem dL_law_844 : decode cL_law 844 = .ok (.iload 4, 2) := by decide +kernel
theorem dL_law_846 : decode cL_law 846 = .ok (.iconst 2, 1) := by decide +kernel
theorem dL_law_847 : decode cL_law 847 = .ok (.iadd, 1) := by decide +kernel
theorem dL_law_848 : decode cL_law 848 = .ok (.iaload, 1) := by decide +kernel
theorem dL_law_849 : decode cL_law 849 = .ok (.aload_n 0, 1) := by decide +kernel
theorem dL_law_850 : decode cL_law 850 = .ok (.iload 4, 2) := by decide +kernel
theorem dL_law_852 : decode cL_law 852 = .ok (.iconst 3, 1) := by decide +kernel
theorem dL_law_853 : decode cL_law 853 = .ok (.iadd, 1) := by decide +kernel
theorem dL_law_854 : decode cL_law 854 = .ok (.iaload, 1) := by decide +kernel
theorem dL_law_855 : decode cL_law 855 = .ok (.invokevirtual 110, 3) := by decide +kernel
theorem dL_law_858 : decode cL_law 858 = .ok (.istore 6, 2) := by decide +kernel
theorem dL_law_860 : decode cL_law 860 = .ok (.aload_n 2, 1) := by decide +kernel
theorem dL_law_861 : decode cL_law 861 = .ok (.invokevirtual 70, 3) := by decide +kernel
theorem dL_law_864 : decode cL_law 864 = .ok (.iload 5, 2) := by decide +kernel
theorem dL_law_866 : decode cL_law 866 = .ok (.if_icmp .eq 5, 3) := by decide +kernel
theorem dL_law_869 : decode cL_law 869 = .ok (.iconst 0, 1) := by decide +kernel
theorem dL_law_870 : decode cL_law 870 = .ok (.ireturn, 1) := by decide +kernel
theorem dL_law_871 : decode cL_law 871 = .ok (.iload 5, 2) := by decide +kernel
theorem dL_law_873 : decode cL_law 873 = .ok (.ifCond .ne 15, 3) := by decide +kernel
theorem dL_law_876 : decode cL_law 876 = .ok (.aload_n 3, 1) := by decide +kernel
theorem dL_law_877 : decode cL_law 877 = .ok (.iconst 0, 1) := by decide +kernel
theorem dL_law_878 : decode cL_law 878 = .ok (.laload, 1) := by decide +kernel
theorem dL_law_879 : decode cL_law 879 = .ok (.iload 6, 2) := by decide +kernel
theorem dL_law_881 : decode cL_law 881 = .ok (.i2l, 1) := by decide +kernel
theorem dL_law_882 : decode cL_law 882 = .ok (.lcmp, 1) := by decide +kernel
theorem dL_law_883 : decode cL_law 883 = .ok (.ifCond .eq 5, 3) := by decide +kernel
theorem dL_law_886 : decode cL_law 886 = .ok (.iconst 0, 1) := by decide +kernel
theorem dL_law_887 : decode cL_law 887 = .ok (.ireturn, 1) := by decide +kernel
theorem dL_law_888 : decode cL_law 888 = .ok (.goto 286, 3) := by decide +kernel
theorem dL_law_891 : decode cL_law 891 = .ok (.aload_n 1, 1) := by decide +kernel
theorem dL_law_892 : decode cL_law 892 = .ok (.aload_n 0, 1) := by decide +kernel
theorem dL_law_893 : decode cL_law 893 = .ok (.iload 4, 2) := by decide +kernel
theorem dL_law_895 : decode cL_law 895 = .ok (.iconst 1, 1) := by decide +kernel
theorem dL_law_896 : decode cL_law 896 = .ok (.iadd, 1) := by decide +kernel
theorem dL_law_897 : decode cL_law 897 = .ok (.iaload, 1) := by decide +kernel
theorem dL_law_898 : decode cL_law 898 = .ok (.aload_n 0, 1) := by decide +kernel
theorem dL_law_899 : decode cL_law 899 = .ok (.iload 4, 2) := by decide +kernel
theorem dL_law_901 : decode cL_law 901 = .ok (.iconst 2, 1) := by decide +kernel
theorem dL_law_902 : decode cL_law 902 = .ok (.iadd, 1) := by decide +kernel
theorem dL_law_903 : decode cL_law 903 = .ok (.iaload, 1) := by decide +kernel
theorem dL_law_904 : decode cL_law 904 = .ok (.aload_n 0, 1) := by decide +kernel
theorem dL_law_905 : decode cL_law 905 = .ok (.iload 4, 2) := by decide +kernel
theorem dL_law_907 : decode cL_law 907 = .ok (.iconst 3, 1) := by decide +kernel
theorem dL_law_908 : decode cL_law 908 = .ok (.iadd, 1) := by decide +kernel
theorem dL_law_909 : decode cL_law 909 = .ok (.iaload, 1) := by decide +kernel
theorem dL_law_910 : decode cL_law 910 = .ok (.i2l, 1) := by decide +kernel
theorem dL_law_911 : decode cL_law 911 = .ok (.bipush 32, 2) := by decide +kernel
theorem dL_law_913 : decode cL_law 913 = .ok (.lshl, 1) := by decide +kernel
theorem dL_law_914 : decode cL_law 914 = .ok (.aload_n 0, 1) := by decide +kernel
theorem dL_law_915 : decode cL_law 915 = .ok (.iload 4, 2) := by decide +kernel
theorem dL_law_917 : decode cL_law 917 = .ok (.iconst 4, 1) := by decide +kernel
theorem dL_law_918 : decode cL_law 918 = .ok (.iadd, 1) := by decide +kernel
theorem dL_law_919 : decode cL_law 919 = .ok (.iaload, 1) := by decide +kernel
theorem dL_law_920 : decode cL_law 920 = .ok (.i2l, 1) := by decide +kernel
theorem dL_law_921 : decode cL_law 921 = .ok (.ldc2_w 84, 3) := by decide +kernel
theorem dL_law_924 : decode cL_law 924 = .ok (.land, 1) := by decide +kernel
theorem dL_law_925 : decode cL_law 925 = .ok (.lor, 1) := by decide +kernel
theorem dL_law_926 : decode cL_law 926 = .ok (.aload_n 0, 1) := by decide +kernel
theorem dL_law_927 : decode cL_law 927 = .ok (.iload 4, 2) := by decide +kernel
theorem dL_law_929 : decode cL_law 929 = .ok (.iconst 5, 1) := by decide +kernel
theorem dL_law_930 : decode cL_law 930 = .ok (.iadd, 1) := by decide +kernel
theorem dL_law_931 : decode cL_law 931 = .ok (.iaload, 1) := by decide +kernel
theorem dL_law_932 : decode cL_law 932 = .ok (.i2l, 1) := by decide +kernel
