theorem dL_pays_627 : decode cL_pays 627 = .ok (.bipush 100, 2) := by decide +kernel
theorem dL_pays_629 : decode cL_pays 629 = .ok (.iconst (-1), 1) := by decide +kernel
theorem dL_pays_630 : decode cL_pays 630 = .ok (.invokestatic 94, 3) := by decide +kernel
theorem dL_pays_633 : decode cL_pays 633 = .ok (.ifCond .eq 267, 3) := by decide +kernel
theorem dL_pays_636 : decode cL_pays 636 = .ok (.aload_n 0, 1) := by decide +kernel
theorem dL_pays_637 : decode cL_pays 637 = .ok (.iconst 2, 1) := by decide +kernel
theorem dL_pays_638 : decode cL_pays 638 = .ok (.bipush 32, 2) := by decide +kernel
theorem dL_pays_640 : decode cL_pays 640 = .ok (.sipush 150, 3) := by decide +kernel
theorem dL_pays_643 : decode cL_pays 643 = .ok (.bipush (-2), 2) := by decide +kernel
theorem dL_pays_645 : decode cL_pays 645 = .ok (.invokestatic 94, 3) := by decide +kernel
theorem dL_pays_648 : decode cL_pays 648 = .ok (.ifCond .eq 252, 3) := by decide +kernel
theorem dL_pays_651 : decode cL_pays 651 = .ok (.aload_n 0, 1) := by decide +kernel
theorem dL_pays_652 : decode cL_pays 652 = .ok (.iconst 2, 1) := by decide +kernel
theorem dL_pays_653 : decode cL_pays 653 = .ok (.bipush 39, 2) := by decide +kernel
theorem dL_pays_655 : decode cL_pays 655 = .ok (.sipush 150, 3) := by decide +kernel
theorem dL_pays_658 : decode cL_pays 658 = .ok (.bipush (-2), 2) := by decide +kernel
theorem dL_pays_660 : decode cL_pays 660 = .ok (.invokestatic 94, 3) := by decide +kernel
theorem dL_pays_663 : decode cL_pays 663 = .ok (.ifCond .eq 237, 3) := by decide +kernel
theorem dL_pays_666 : decode cL_pays 666 = .ok (.aload_n 0, 1) := by decide +kernel
theorem dL_pays_667 : decode cL_pays 667 = .ok (.iconst 2, 1) := by decide +kernel
theorem dL_pays_668 : decode cL_pays 668 = .ok (.bipush 40, 2) := by decide +kernel
theorem dL_pays_670 : decode cL_pays 670 = .ok (.sipush 200, 3) := by decide +kernel
theorem dL_pays_673 : decode cL_pays 673 = .ok (.bipush (-2), 2) := by decide +kernel
theorem dL_pays_675 : decode cL_pays 675 = .ok (.invokestatic 94, 3) := by decide +kernel
theorem dL_pays_678 : decode cL_pays 678 = .ok (.ifCond .eq 222, 3) := by decide +kernel
theorem dL_pays_681 : decode cL_pays 681 = .ok (.aload_n 0, 1) := by decide +kernel
theorem dL_pays_682 : decode cL_pays 682 = .ok (.iconst 2, 1) := by decide +kernel
theorem dL_pays_683 : decode cL_pays 683 = .ok (.invokevirtual 54, 3) := by decide +kernel
theorem dL_pays_686 : decode cL_pays 686 = .ok (.iconst 2, 1) := by decide +kernel
theorem dL_pays_687 : decode cL_pays 687 = .ok (.if_icmp .ne 213, 3) := by decide +kernel
theorem dL_pays_690 : decode cL_pays 690 = .ok (.aload_n 0, 1) := by decide +kernel
theorem dL_pays_691 : decode cL_pays 691 = .ok (.iconst 2, 1) := by decide +kernel
theorem dL_pays_692 : decode cL_pays 692 = .ok (.invokevirtual 57, 3) := by decide +kernel
theorem dL_pays_695 : decode cL_pays 695 = .ok (.sipush 29000, 3) := by decide +kernel
theorem dL_pays_698 : decode cL_pays 698 = .ok (.if_icmp .ne 202, 3) := by decide +kernel
theorem dL_pays_701 : decode cL_pays 701 = .ok (.aload_n 0, 1) := by decide +kernel
theorem dL_pays_702 : decode cL_pays 702 = .ok (.iconst 2, 1) := by decide +kernel
theorem dL_pays_703 : decode cL_pays 703 = .ok (.bipush 62, 2) := by decide +kernel
theorem dL_pays_705 : decode cL_pays 705 = .ok (.bipush 66, 2) := by decide +kernel
theorem dL_pays_707 : decode cL_pays 707 = .ok (.iconst 4, 1) := by decide +kernel
theorem dL_pays_708 : decode cL_pays 708 = .ok (.sipush 150, 3) := by decide +kernel
theorem dL_pays_711 : decode cL_pays 711 = .ok (.invokevirtual 7, 3) := by decide +kernel
theorem dL_pays_714 : decode cL_pays 714 = .ok (.iconst 4, 1) := by decide +kernel
theorem dL_pays_715 : decode cL_pays 715 = .ok (.if_icmp .ne 185, 3) := by decide +kernel
theorem dL_pays_718 : decode cL_pays 718 = .ok (.aload_n 0, 1) := by decide +kernel
theorem dL_pays_719 : decode cL_pays 719 = .ok (.iconst 2, 1) := by decide +kernel
theorem dL_pays_720 : decode cL_pays 720 = .ok (.bipush 31, 2) := by decide +kernel
theorem dL_pays_722 : decode cL_pays 722 = .ok (.bipush 100, 2) := by decide +kernel
theorem dL_pays_724 : decode cL_pays 724 = .ok (.iconst (-1), 1) := by decide +kernel
theorem dL_pays_725 : decode cL_pays 725 = .ok (.invokestatic 94, 3) := by decide +kernel
theorem dL_pays_728 : decode cL_pays 728 = .ok (.ifCond .eq 172, 3) := by decide +kernel
theorem dL_pays_731 : decode cL_pays 731 = .ok (.aload_n 0, 1) := by decide +kernel
theorem dL_pays_732 : decode cL_pays 732 = .ok (.iconst 2, 1) := by decide +kernel
theorem dL_pays_733 : decode cL_pays 733 = .ok (.bipush 32, 2) := by decide +kernel
theorem dL_pays_735 : decode cL_pays 735 = .ok (.sipush 150, 3) := by decide +kernel
theorem dL_pays_738 : decode cL_pays 738 = .ok (.iconst 4, 1) := by decide +kernel
theorem dL_pays_739 : decode cL_pays 739 = .ok (.invokestatic 94, 3) := by decide +kernel
theorem dL_pays_742 : decode cL_pays 742 = .ok (.ifCond .eq 158, 3) := by decide +kernel
theorem dL_pays_745 : decode cL_pays 745 = .ok (.aload_n 0, 1) := by decide +kernel
theorem dL_pays_746 : decode cL_pays 746 = .ok (.iconst 2, 1) := by decide +kernel
theorem dL_pays_747 : decode cL_pays 747 = .ok (.bipush 35, 2) := by decide +kernel
theorem dL_pays_749 : decode cL_pays 749 = .ok (.sipush 150, 3) := by decide +kernel
theorem dL_pays_752 : decode cL_pays 752 = .ok (.iconst 4, 1) := by decide +kernel
theorem dL_pays_753 : decode cL_pays 753 = .ok (.invokestatic 94, 3) := by decide +kernel
theorem dL_pays_756 : decode cL_pays 756 = .ok (.ifCond .eq 144, 3) := by decide +kernel
theorem dL_pays_759 : decode cL_pays 759 = .ok (.aload_n 0, 1) := by decide +kernel
theorem dL_pays_760 : decode cL_pays 760 = .ok (.iconst 2, 1) := by decide +kernel
theorem dL_pays_761 : decode cL_pays 761 = .ok (.bipush 36, 2) := by decide +kernel
theorem dL_pays_763 : decode cL_pays 763 = .ok (.sipush 150, 3) := by decide +kernel
theorem dL_pays_766 : decode cL_pays 766 = .ok (.bipush (-2), 2) := by decide +kernel
theorem dL_pays_768 : decode cL_pays 768 = .ok (.invokestatic 94, 3) := by decide +kernel
theorem dL_pays_771 : decode cL_pays 771 = .ok (.ifCond .eq 129, 3) := by decide +kernel
theorem dL_pays_774 : decode cL_pays 774 = .ok (.aload_n 0, 1) := by decide +kernel
theorem dL_pays_775 : decode cL_pays 775 = .ok (.iconst 2, 1) := by decide +kernel
theorem dL_pays_776 : decode cL_pays 776 = .ok (.invokevirtual 57, 3) := by decide +kernel
theorem dL_pays_779 : decode cL_pays 779 = .ok (.sipush 29000, 3) := by decide +kernel
theorem dL_pays_782 : decode cL_pays 782 = .ok (.if_icmp .ne 118, 3) := by decide +kernel
theorem dL_pays_785 : decode cL_pays 785 = .ok (.aload_n 0, 1) := by decide +kernel
theorem dL_pays_786 : decode cL_pays 786 = .ok (.iconst 4, 1) := by decide +kernel
theorem dL_pays_787 : decode cL_pays 787 = .ok (.invokevirtual 64, 3) := by decide +kernel
theorem dL_pays_790 : decode cL_pays 790 = .ok (.sipush 3000, 3) := by decide +kernel
theorem dL_pays_793 : decode cL_pays 793 = .ok (.if_icmp .ne 107, 3) := by decide +kernel
theorem dL_pays_796 : decode cL_pays 796 = .ok (.aload_n 0, 1) := by decide +kernel
theorem dL_pays_797 : decode cL_pays 797 = .ok (.bipush 127, 2) := by decide +kernel
theorem dL_pays_799 : decode cL_pays 799 = .ok (.bipush 30, 2) := by decide +kernel
theorem dL_pays_801 : decode cL_pays 801 = .ok (.bipush 31, 2) := by decide +kernel
theorem dL_pays_803 : decode cL_pays 803 = .ok (.iconst 4, 1) := by decide +kernel
theorem dL_pays_804 : decode cL_pays 804 = .ok (.bipush 100, 2) := by decide +kernel
theorem dL_pays_806 : decode cL_pays 806 = .ok (.invokevirtual 7, 3) := by decide +kernel
theorem dL_pays_809 : decode cL_pays 809 = .ok (.iconst 5, 1) := by decide +kernel
theorem dL_pays_810 : decode cL_pays 810 = .ok (.if_icmp .ne 90, 3) := by decide +kernel
theorem dL_pays_813 : decode cL_pays 813 = .ok (.aload_n 0, 1) := by decide +kernel
theorem dL_pays_814 : decode cL_pays 814 = .ok (.iconst 2, 1) := by decide +kernel
theorem dL_pays_815 : decode cL_pays 815 = .ok (.iconst 0, 1) := by decide +kernel
theorem dL_pays_816 : decode cL_pays 816 = .ok (.bipush 100, 2) := by decide +kernel
theorem dL_pays_818 : decode cL_pays 818 = .ok (.iconst 5, 1) := by decide +kernel
theorem dL_pays_819 : decode cL_pays 819 = .ok (.invokestatic 94, 3) := by decide +kernel
theorem dL_pays_822 : decode cL_pays 822 = .ok (.ifCond .eq 78, 3) := by decide +kernel
theorem dL_pays_825 : decode cL_pays 825 = .ok (.aload_n 0, 1) := by decide +kernel
theorem dL_pays_826 : decode cL_pays 826 = .ok (.iconst 5, 1) := by decide +kernel
theorem dL_pays_827 : decode cL_pays 827 = .ok (.invokevirtual 64, 3) := by decide +kernel
theorem dL_pays_830 : decode cL_pays 830 = .ok (.sipush 500, 3) := by decide +kernel
theorem dL_pays_833 : decode cL_pays 833 = .ok (.if_icmp .ne 67, 3) := by decide +kernel
theorem dL_pays_836 : decode cL_pays 836 = .ok (.aload_n 0, 1) := by decide +kernel
theorem dL_pays_837 : decode cL_pays 837 = .ok (.iconst 2, 1) := by decide +kernel
theorem dL_pays_838 : decode cL_pays 838 = .ok (.sipush 333, 3) := by decide +kernel
theorem dL_pays_841 : decode cL_pays 841 = .ok (.invokevirtual 17, 3) := by decide +kernel
theorem dL_pays_844 : decode cL_pays 844 = .ok (.sipush 500, 3) := by decide +kernel
theorem dL_pays_847 : decode cL_pays 847 = .ok (.if_icmp .ne 53, 3) := by decide +kernel
theorem dL_pays_850 : decode cL_pays 850 = .ok (.aload_n 0, 1) := by decide +kernel
