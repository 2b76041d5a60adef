theorem dL_refuses_633 : decode cL_refuses 633 = .ok (.goto 5, 3) := by decide +kernel
theorem dL_refuses_636 : decode cL_refuses 636 = .ok (.iload 8, 2) := by decide +kernel
theorem dL_refuses_638 : decode cL_refuses 638 = .ok (.iconst 0, 1) := by decide +kernel
theorem dL_refuses_639 : decode cL_refuses 639 = .ok (.iconst 0, 1) := by decide +kernel
theorem dL_refuses_640 : decode cL_refuses 640 = .ok (.invokestatic 80, 3) := by decide +kernel
theorem dL_refuses_643 : decode cL_refuses 643 = .ok (.bipush (-71), 2) := by decide +kernel
theorem dL_refuses_645 : decode cL_refuses 645 = .ok (.if_icmp .ne 195, 3) := by decide +kernel
theorem dL_refuses_648 : decode cL_refuses 648 = .ok (.aload_n 0, 1) := by decide +kernel
theorem dL_refuses_649 : decode cL_refuses 649 = .ok (.bipush 10, 2) := by decide +kernel
theorem dL_refuses_651 : decode cL_refuses 651 = .ok (.iconst 0, 1) := by decide +kernel
theorem dL_refuses_652 : decode cL_refuses 652 = .ok (.iload 7, 2) := by decide +kernel
theorem dL_refuses_654 : decode cL_refuses 654 = .ok (.iconst 1, 1) := by decide +kernel
theorem dL_refuses_655 : decode cL_refuses 655 = .ok (.if_icmp .ne 8, 3) := by decide +kernel
theorem dL_refuses_658 : decode cL_refuses 658 = .ok (.bipush 64, 2) := by decide +kernel
theorem dL_refuses_660 : decode cL_refuses 660 = .ok (.goto 5, 3) := by decide +kernel
theorem dL_refuses_663 : decode cL_refuses 663 = .ok (.iload 8, 2) := by decide +kernel
theorem dL_refuses_665 : decode cL_refuses 665 = .ok (.iconst 0, 1) := by decide +kernel
theorem dL_refuses_666 : decode cL_refuses 666 = .ok (.iconst 0, 1) := by decide +kernel
theorem dL_refuses_667 : decode cL_refuses 667 = .ok (.invokestatic 80, 3) := by decide +kernel
theorem dL_refuses_670 : decode cL_refuses 670 = .ok (.bipush (-71), 2) := by decide +kernel
theorem dL_refuses_672 : decode cL_refuses 672 = .ok (.if_icmp .ne 168, 3) := by decide +kernel
theorem dL_refuses_675 : decode cL_refuses 675 = .ok (.aload_n 0, 1) := by decide +kernel
theorem dL_refuses_676 : decode cL_refuses 676 = .ok (.bipush 13, 2) := by decide +kernel
theorem dL_refuses_678 : decode cL_refuses 678 = .ok (.iload 11, 2) := by decide +kernel
theorem dL_refuses_680 : decode cL_refuses 680 = .ok (.iconst (-1), 1) := by decide +kernel
theorem dL_refuses_681 : decode cL_refuses 681 = .ok (.iconst 0, 1) := by decide +kernel
theorem dL_refuses_682 : decode cL_refuses 682 = .ok (.iconst 0, 1) := by decide +kernel
theorem dL_refuses_683 : decode cL_refuses 683 = .ok (.invokestatic 80, 3) := by decide +kernel
theorem dL_refuses_686 : decode cL_refuses 686 = .ok (.bipush (-71), 2) := by decide +kernel
theorem dL_refuses_688 : decode cL_refuses 688 = .ok (.if_icmp .ne 152, 3) := by decide +kernel
theorem dL_refuses_691 : decode cL_refuses 691 = .ok (.aload_n 0, 1) := by decide +kernel
theorem dL_refuses_692 : decode cL_refuses 692 = .ok (.bipush 13, 2) := by decide +kernel
theorem dL_refuses_694 : decode cL_refuses 694 = .ok (.iconst 0, 1) := by decide +kernel
theorem dL_refuses_695 : decode cL_refuses 695 = .ok (.iload 13, 2) := by decide +kernel
theorem dL_refuses_697 : decode cL_refuses 697 = .ok (.sipush 363, 3) := by decide +kernel
theorem dL_refuses_700 : decode cL_refuses 700 = .ok (.iconst 0, 1) := by decide +kernel
theorem dL_refuses_701 : decode cL_refuses 701 = .ok (.invokestatic 80, 3) := by decide +kernel
theorem dL_refuses_704 : decode cL_refuses 704 = .ok (.bipush (-72), 2) := by decide +kernel
theorem dL_refuses_706 : decode cL_refuses 706 = .ok (.if_icmp .ne 134, 3) := by decide +kernel
theorem dL_refuses_709 : decode cL_refuses 709 = .ok (.aload_n 0, 1) := by decide +kernel
theorem dL_refuses_710 : decode cL_refuses 710 = .ok (.bipush 13, 2) := by decide +kernel
theorem dL_refuses_712 : decode cL_refuses 712 = .ok (.iconst 0, 1) := by decide +kernel
theorem dL_refuses_713 : decode cL_refuses 713 = .ok (.iconst 5, 1) := by decide +kernel
theorem dL_refuses_714 : decode cL_refuses 714 = .ok (.iload 7, 2) := by decide +kernel
theorem dL_refuses_716 : decode cL_refuses 716 = .ok (.ifCond .ne 7, 3) := by decide +kernel
theorem dL_refuses_719 : decode cL_refuses 719 = .ok (.iconst 4, 1) := by decide +kernel
theorem dL_refuses_720 : decode cL_refuses 720 = .ok (.goto 5, 3) := by decide +kernel
theorem dL_refuses_723 : decode cL_refuses 723 = .ok (.iload 13, 2) := by decide +kernel
theorem dL_refuses_725 : decode cL_refuses 725 = .ok (.iconst 0, 1) := by decide +kernel
theorem dL_refuses_726 : decode cL_refuses 726 = .ok (.invokestatic 80, 3) := by decide +kernel
theorem dL_refuses_729 : decode cL_refuses 729 = .ok (.bipush (-72), 2) := by decide +kernel
theorem dL_refuses_731 : decode cL_refuses 731 = .ok (.if_icmp .ne 109, 3) := by decide +kernel
theorem dL_refuses_734 : decode cL_refuses 734 = .ok (.aload_n 0, 1) := by decide +kernel
theorem dL_refuses_735 : decode cL_refuses 735 = .ok (.bipush 14, 2) := by decide +kernel
theorem dL_refuses_737 : decode cL_refuses 737 = .ok (.iload 10, 2) := by decide +kernel
theorem dL_refuses_739 : decode cL_refuses 739 = .ok (.iconst 0, 1) := by decide +kernel
theorem dL_refuses_740 : decode cL_refuses 740 = .ok (.iconst 0, 1) := by decide +kernel
theorem dL_refuses_741 : decode cL_refuses 741 = .ok (.iconst 0, 1) := by decide +kernel
theorem dL_refuses_742 : decode cL_refuses 742 = .ok (.invokestatic 80, 3) := by decide +kernel
theorem dL_refuses_745 : decode cL_refuses 745 = .ok (.bipush (-71), 2) := by decide +kernel
theorem dL_refuses_747 : decode cL_refuses 747 = .ok (.if_icmp .ne 93, 3) := by decide +kernel
theorem dL_refuses_750 : decode cL_refuses 750 = .ok (.aload_n 0, 1) := by decide +kernel
theorem dL_refuses_751 : decode cL_refuses 751 = .ok (.bipush 15, 2) := by decide +kernel
theorem dL_refuses_753 : decode cL_refuses 753 = .ok (.iload 11, 2) := by decide +kernel
theorem dL_refuses_755 : decode cL_refuses 755 = .ok (.iconst (-1), 1) := by decide +kernel
theorem dL_refuses_756 : decode cL_refuses 756 = .ok (.iconst 0, 1) := by decide +kernel
theorem dL_refuses_757 : decode cL_refuses 757 = .ok (.iconst 0, 1) := by decide +kernel
theorem dL_refuses_758 : decode cL_refuses 758 = .ok (.invokestatic 80, 3) := by decide +kernel
theorem dL_refuses_761 : decode cL_refuses 761 = .ok (.bipush (-71), 2) := by decide +kernel
theorem dL_refuses_763 : decode cL_refuses 763 = .ok (.if_icmp .ne 77, 3) := by decide +kernel
theorem dL_refuses_766 : decode cL_refuses 766 = .ok (.aload_n 0, 1) := by decide +kernel
theorem dL_refuses_767 : decode cL_refuses 767 = .ok (.bipush 15, 2) := by decide +kernel
theorem dL_refuses_769 : decode cL_refuses 769 = .ok (.iconst 0, 1) := by decide +kernel
theorem dL_refuses_770 : decode cL_refuses 770 = .ok (.iload 7, 2) := by decide +kernel
theorem dL_refuses_772 : decode cL_refuses 772 = .ok (.iconst 1, 1) := by decide +kernel
theorem dL_refuses_773 : decode cL_refuses 773 = .ok (.if_icmp .ne 8, 3) := by decide +kernel
theorem dL_refuses_776 : decode cL_refuses 776 = .ok (.bipush 52, 2) := by decide +kernel
theorem dL_refuses_778 : decode cL_refuses 778 = .ok (.goto 5, 3) := by decide +kernel
theorem dL_refuses_781 : decode cL_refuses 781 = .ok (.iload 8, 2) := by decide +kernel
theorem dL_refuses_783 : decode cL_refuses 783 = .ok (.iconst 0, 1) := by decide +kernel
theorem dL_refuses_784 : decode cL_refuses 784 = .ok (.iconst 0, 1) := by decide +kernel
theorem dL_refuses_785 : decode cL_refuses 785 = .ok (.invokestatic 80, 3) := by decide +kernel
theorem dL_refuses_788 : decode cL_refuses 788 = .ok (.bipush (-72), 2) := by decide +kernel
theorem dL_refuses_790 : decode cL_refuses 790 = .ok (.if_icmp .ne 50, 3) := by decide +kernel
theorem dL_refuses_793 : decode cL_refuses 793 = .ok (.aload_n 0, 1) := by decide +kernel
theorem dL_refuses_794 : decode cL_refuses 794 = .ok (.bipush 16, 2) := by decide +kernel
theorem dL_refuses_796 : decode cL_refuses 796 = .ok (.iload 11, 2) := by decide +kernel
theorem dL_refuses_798 : decode cL_refuses 798 = .ok (.iconst (-1), 1) := by decide +kernel
theorem dL_refuses_799 : decode cL_refuses 799 = .ok (.iconst 0, 1) := by decide +kernel
theorem dL_refuses_800 : decode cL_refuses 800 = .ok (.iconst 0, 1) := by decide +kernel
theorem dL_refuses_801 : decode cL_refuses 801 = .ok (.invokestatic 80, 3) := by decide +kernel
theorem dL_refuses_804 : decode cL_refuses 804 = .ok (.bipush (-71), 2) := by decide +kernel
theorem dL_refuses_806 : decode cL_refuses 806 = .ok (.if_icmp .ne 34, 3) := by decide +kernel
theorem dL_refuses_809 : decode cL_refuses 809 = .ok (.aload_n 0, 1) := by decide +kernel
theorem dL_refuses_810 : decode cL_refuses 810 = .ok (.bipush 16, 2) := by decide +kernel
theorem dL_refuses_812 : decode cL_refuses 812 = .ok (.iconst 0, 1) := by decide +kernel
theorem dL_refuses_813 : decode cL_refuses 813 = .ok (.iload 7, 2) := by decide +kernel
theorem dL_refuses_815 : decode cL_refuses 815 = .ok (.iconst 1, 1) := by decide +kernel
theorem dL_refuses_816 : decode cL_refuses 816 = .ok (.if_icmp .ne 8, 3) := by decide +kernel
theorem dL_refuses_819 : decode cL_refuses 819 = .ok (.bipush 13, 2) := by decide +kernel
theorem dL_refuses_821 : decode cL_refuses 821 = .ok (.goto 5, 3) := by decide +kernel
theorem dL_refuses_824 : decode cL_refuses 824 = .ok (.iload 8, 2) := by decide +kernel
theorem dL_refuses_826 : decode cL_refuses 826 = .ok (.iconst 0, 1) := by decide +kernel
theorem dL_refuses_827 : decode cL_refuses 827 = .ok (.iconst 0, 1) := by decide +kernel
theorem dL_refuses_828 : decode cL_refuses 828 = .ok (.invokestatic 80, 3) := by decide +kernel
theorem dL_refuses_831 : decode cL_refuses 831 = .ok (.bipush (-72), 2) := by decide +kernel
theorem dL_refuses_833 : decode cL_refuses 833 = .ok (.if_icmp .ne 7, 3) := by decide +kernel
theorem dL_refuses_836 : decode cL_refuses 836 = .ok (.iconst 1, 1) := by decide +kernel
theorem dL_refuses_837 : decode cL_refuses 837 = .ok (.goto 4, 3) := by decide +kernel
theorem dL_refuses_840 : decode cL_refuses 840 = .ok (.iconst 0, 1) := by decide +kernel
