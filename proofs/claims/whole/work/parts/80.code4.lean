theorem d_Law_law_634 : decode code 634 = .ok (.ireturn, 1) := by decide +kernel
theorem d_Law_law_635 : decode code 635 = .ok (.aload_n 1, 1) := by decide +kernel
theorem d_Law_law_636 : decode code 636 = .ok (.invokevirtual 74, 3) := by decide +kernel
theorem d_Law_law_639 : decode code 639 = .ok (.aload_n 2, 1) := by decide +kernel
theorem d_Law_law_640 : decode code 640 = .ok (.invokevirtual 77, 3) := by decide +kernel
theorem d_Law_law_643 : decode code 643 = .ok (.if_icmp .eq 97, 3) := by decide +kernel
theorem d_Law_law_646 : decode code 646 = .ok (.iconst 0, 1) := by decide +kernel
theorem d_Law_law_647 : decode code 647 = .ok (.ireturn, 1) := by decide +kernel
theorem d_Law_law_648 : decode code 648 = .ok (.aload_n 1, 1) := by decide +kernel
theorem d_Law_law_649 : decode code 649 = .ok (.aload_n 0, 1) := by decide +kernel
theorem d_Law_law_650 : decode code 650 = .ok (.iload_n 3, 1) := by decide +kernel
theorem d_Law_law_651 : decode code 651 = .ok (.iconst 1, 1) := by decide +kernel
theorem d_Law_law_652 : decode code 652 = .ok (.iadd, 1) := by decide +kernel
theorem d_Law_law_653 : decode code 653 = .ok (.iaload, 1) := by decide +kernel
theorem d_Law_law_654 : decode code 654 = .ok (.invokevirtual 78, 3) := by decide +kernel
theorem d_Law_law_657 : decode code 657 = .ok (.aload_n 2, 1) := by decide +kernel
theorem d_Law_law_658 : decode code 658 = .ok (.aload_n 0, 1) := by decide +kernel
theorem d_Law_law_659 : decode code 659 = .ok (.iload_n 3, 1) := by decide +kernel
theorem d_Law_law_660 : decode code 660 = .ok (.iconst 1, 1) := by decide +kernel
theorem d_Law_law_661 : decode code 661 = .ok (.iadd, 1) := by decide +kernel
theorem d_Law_law_662 : decode code 662 = .ok (.iaload, 1) := by decide +kernel
theorem d_Law_law_663 : decode code 663 = .ok (.invokevirtual 82, 3) := by decide +kernel
theorem d_Law_law_666 : decode code 666 = .ok (.if_icmp .eq 74, 3) := by decide +kernel
theorem d_Law_law_669 : decode code 669 = .ok (.iconst 0, 1) := by decide +kernel
theorem d_Law_law_670 : decode code 670 = .ok (.ireturn, 1) := by decide +kernel
theorem d_Law_law_671 : decode code 671 = .ok (.aload_n 1, 1) := by decide +kernel
theorem d_Law_law_672 : decode code 672 = .ok (.aload_n 0, 1) := by decide +kernel
theorem d_Law_law_673 : decode code 673 = .ok (.iload_n 3, 1) := by decide +kernel
theorem d_Law_law_674 : decode code 674 = .ok (.iconst 1, 1) := by decide +kernel
theorem d_Law_law_675 : decode code 675 = .ok (.iadd, 1) := by decide +kernel
theorem d_Law_law_676 : decode code 676 = .ok (.iaload, 1) := by decide +kernel
theorem d_Law_law_677 : decode code 677 = .ok (.aload_n 0, 1) := by decide +kernel
theorem d_Law_law_678 : decode code 678 = .ok (.iload_n 3, 1) := by decide +kernel
theorem d_Law_law_679 : decode code 679 = .ok (.iconst 2, 1) := by decide +kernel
theorem d_Law_law_680 : decode code 680 = .ok (.iadd, 1) := by decide +kernel
theorem d_Law_law_681 : decode code 681 = .ok (.iaload, 1) := by decide +kernel
theorem d_Law_law_682 : decode code 682 = .ok (.aload_n 0, 1) := by decide +kernel
theorem d_Law_law_683 : decode code 683 = .ok (.iload_n 3, 1) := by decide +kernel
theorem d_Law_law_684 : decode code 684 = .ok (.iconst 3, 1) := by decide +kernel
theorem d_Law_law_685 : decode code 685 = .ok (.iadd, 1) := by decide +kernel
theorem d_Law_law_686 : decode code 686 = .ok (.iaload, 1) := by decide +kernel
theorem d_Law_law_687 : decode code 687 = .ok (.invokevirtual 83, 3) := by decide +kernel
theorem d_Law_law_690 : decode code 690 = .ok (.aload_n 2, 1) := by decide +kernel
theorem d_Law_law_691 : decode code 691 = .ok (.aload_n 0, 1) := by decide +kernel
theorem d_Law_law_692 : decode code 692 = .ok (.iload_n 3, 1) := by decide +kernel
theorem d_Law_law_693 : decode code 693 = .ok (.iconst 1, 1) := by decide +kernel
theorem d_Law_law_694 : decode code 694 = .ok (.iadd, 1) := by decide +kernel
theorem d_Law_law_695 : decode code 695 = .ok (.iaload, 1) := by decide +kernel
theorem d_Law_law_696 : decode code 696 = .ok (.aload_n 0, 1) := by decide +kernel
theorem d_Law_law_697 : decode code 697 = .ok (.iload_n 3, 1) := by decide +kernel
theorem d_Law_law_698 : decode code 698 = .ok (.iconst 2, 1) := by decide +kernel
theorem d_Law_law_699 : decode code 699 = .ok (.iadd, 1) := by decide +kernel
theorem d_Law_law_700 : decode code 700 = .ok (.iaload, 1) := by decide +kernel
theorem d_Law_law_701 : decode code 701 = .ok (.aload_n 0, 1) := by decide +kernel
theorem d_Law_law_702 : decode code 702 = .ok (.iload_n 3, 1) := by decide +kernel
theorem d_Law_law_703 : decode code 703 = .ok (.iconst 3, 1) := by decide +kernel
theorem d_Law_law_704 : decode code 704 = .ok (.iadd, 1) := by decide +kernel
theorem d_Law_law_705 : decode code 705 = .ok (.iaload, 1) := by decide +kernel
theorem d_Law_law_706 : decode code 706 = .ok (.invokevirtual 87, 3) := by decide +kernel
theorem d_Law_law_709 : decode code 709 = .ok (.if_icmp .eq 31, 3) := by decide +kernel
theorem d_Law_law_712 : decode code 712 = .ok (.iconst 0, 1) := by decide +kernel
theorem d_Law_law_713 : decode code 713 = .ok (.ireturn, 1) := by decide +kernel
theorem d_Law_law_714 : decode code 714 = .ok (.aload_n 1, 1) := by decide +kernel
theorem d_Law_law_715 : decode code 715 = .ok (.invokevirtual 88, 3) := by decide +kernel
theorem d_Law_law_718 : decode code 718 = .ok (.aload_n 2, 1) := by decide +kernel
theorem d_Law_law_719 : decode code 719 = .ok (.invokevirtual 91, 3) := by decide +kernel
theorem d_Law_law_722 : decode code 722 = .ok (.if_icmp .eq 18, 3) := by decide +kernel
theorem d_Law_law_725 : decode code 725 = .ok (.iconst 0, 1) := by decide +kernel
theorem d_Law_law_726 : decode code 726 = .ok (.ireturn, 1) := by decide +kernel
theorem d_Law_law_727 : decode code 727 = .ok (.aload_n 1, 1) := by decide +kernel
theorem d_Law_law_728 : decode code 728 = .ok (.invokevirtual 92, 3) := by decide +kernel
theorem d_Law_law_731 : decode code 731 = .ok (.aload_n 2, 1) := by decide +kernel
theorem d_Law_law_732 : decode code 732 = .ok (.invokevirtual 96, 3) := by decide +kernel
theorem d_Law_law_735 : decode code 735 = .ok (.if_icmp .eq 5, 3) := by decide +kernel
theorem d_Law_law_738 : decode code 738 = .ok (.iconst 0, 1) := by decide +kernel
theorem d_Law_law_739 : decode code 739 = .ok (.ireturn, 1) := by decide +kernel
theorem d_Law_law_740 : decode code 740 = .ok (.iinc 3 6, 3) := by decide +kernel
theorem d_Law_law_743 : decode code 743 = .ok (.goto (-725), 3) := by decide +kernel
theorem d_Law_law_746 : decode code 746 = .ok (.iconst 1, 1) := by decide +kernel
theorem d_Law_law_747 : decode code 747 = .ok (.ireturn, 1) := by decide +kernel
