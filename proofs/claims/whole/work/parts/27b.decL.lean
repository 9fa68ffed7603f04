theorem d_LW_law_638 : decode (mB M_LW_law) 638 = .ok (.iconst 0, 1) := by decide +kernel
theorem d_LW_law_639 : decode (mB M_LW_law) 639 = .ok (.laload, 1) := by decide +kernel
theorem d_LW_law_640 : decode (mB M_LW_law) 640 = .ok (.iload 6, 2) := by decide +kernel
theorem d_LW_law_642 : decode (mB M_LW_law) 642 = .ok (.i2l, 1) := by decide +kernel
theorem d_LW_law_643 : decode (mB M_LW_law) 643 = .ok (.lcmp, 1) := by decide +kernel
theorem d_LW_law_644 : decode (mB M_LW_law) 644 = .ok (.ifCond .eq 5, 3) := by decide +kernel
theorem d_LW_law_647 : decode (mB M_LW_law) 647 = .ok (.iconst 0, 1) := by decide +kernel
theorem d_LW_law_648 : decode (mB M_LW_law) 648 = .ok (.ireturn, 1) := by decide +kernel
theorem d_LW_law_649 : decode (mB M_LW_law) 649 = .ok (.goto 1515, 3) := by decide +kernel
theorem d_LW_law_652 : decode (mB M_LW_law) 652 = .ok (.aload_n 1, 1) := by decide +kernel
theorem d_LW_law_653 : decode (mB M_LW_law) 653 = .ok (.aload_n 0, 1) := by decide +kernel
theorem d_LW_law_654 : decode (mB M_LW_law) 654 = .ok (.iload 4, 2) := by decide +kernel
theorem d_LW_law_656 : decode (mB M_LW_law) 656 = .ok (.iconst 1, 1) := by decide +kernel
theorem d_LW_law_657 : decode (mB M_LW_law) 657 = .ok (.iadd, 1) := by decide +kernel
theorem d_LW_law_658 : decode (mB M_LW_law) 658 = .ok (.iaload, 1) := by decide +kernel
theorem d_LW_law_659 : decode (mB M_LW_law) 659 = .ok (.aload_n 0, 1) := by decide +kernel
theorem d_LW_law_660 : decode (mB M_LW_law) 660 = .ok (.iload 4, 2) := by decide +kernel
theorem d_LW_law_662 : decode (mB M_LW_law) 662 = .ok (.iconst 2, 1) := by decide +kernel
theorem d_LW_law_663 : decode (mB M_LW_law) 663 = .ok (.iadd, 1) := by decide +kernel
theorem d_LW_law_664 : decode (mB M_LW_law) 664 = .ok (.iaload, 1) := by decide +kernel
theorem d_LW_law_665 : decode (mB M_LW_law) 665 = .ok (.aload_n 0, 1) := by decide +kernel
theorem d_LW_law_666 : decode (mB M_LW_law) 666 = .ok (.iload 4, 2) := by decide +kernel
theorem d_LW_law_668 : decode (mB M_LW_law) 668 = .ok (.iconst 3, 1) := by decide +kernel
theorem d_LW_law_669 : decode (mB M_LW_law) 669 = .ok (.iadd, 1) := by decide +kernel
theorem d_LW_law_670 : decode (mB M_LW_law) 670 = .ok (.iaload, 1) := by decide +kernel
theorem d_LW_law_671 : decode (mB M_LW_law) 671 = .ok (.invokestatic 150, 3) := by decide +kernel
theorem d_LW_law_674 : decode (mB M_LW_law) 674 = .ok (.istore 5, 2) := by decide +kernel
theorem d_LW_law_676 : decode (mB M_LW_law) 676 = .ok (.aload_n 2, 1) := by decide +kernel
theorem d_LW_law_677 : decode (mB M_LW_law) 677 = .ok (.aload_n 0, 1) := by decide +kernel
theorem d_LW_law_678 : decode (mB M_LW_law) 678 = .ok (.iload 4, 2) := by decide +kernel
theorem d_LW_law_680 : decode (mB M_LW_law) 680 = .ok (.iconst 1, 1) := by decide +kernel
theorem d_LW_law_681 : decode (mB M_LW_law) 681 = .ok (.iadd, 1) := by decide +kernel
theorem d_LW_law_682 : decode (mB M_LW_law) 682 = .ok (.iaload, 1) := by decide +kernel
theorem d_LW_law_683 : decode (mB M_LW_law) 683 = .ok (.aload_n 0, 1) := by decide +kernel
theorem d_LW_law_684 : decode (mB M_LW_law) 684 = .ok (.iload 4, 2) := by decide +kernel
theorem d_LW_law_686 : decode (mB M_LW_law) 686 = .ok (.iconst 2, 1) := by decide +kernel
theorem d_LW_law_687 : decode (mB M_LW_law) 687 = .ok (.iadd, 1) := by decide +kernel
theorem d_LW_law_688 : decode (mB M_LW_law) 688 = .ok (.iaload, 1) := by decide +kernel
theorem d_LW_law_689 : decode (mB M_LW_law) 689 = .ok (.aload_n 0, 1) := by decide +kernel
theorem d_LW_law_690 : decode (mB M_LW_law) 690 = .ok (.iload 4, 2) := by decide +kernel
theorem d_LW_law_692 : decode (mB M_LW_law) 692 = .ok (.iconst 3, 1) := by decide +kernel
theorem d_LW_law_693 : decode (mB M_LW_law) 693 = .ok (.iadd, 1) := by decide +kernel
theorem d_LW_law_694 : decode (mB M_LW_law) 694 = .ok (.iaload, 1) := by decide +kernel
theorem d_LW_law_695 : decode (mB M_LW_law) 695 = .ok (.invokevirtual 152, 3) := by decide +kernel
theorem d_LW_law_698 : decode (mB M_LW_law) 698 = .ok (.aload_n 2, 1) := by decide +kernel
theorem d_LW_law_699 : decode (mB M_LW_law) 699 = .ok (.invokevirtual 124, 3) := by decide +kernel
theorem d_LW_law_702 : decode (mB M_LW_law) 702 = .ok (.iload 5, 2) := by decide +kernel
theorem d_LW_law_704 : decode (mB M_LW_law) 704 = .ok (.if_icmp .eq 5, 3) := by decide +kernel
theorem d_LW_law_707 : decode (mB M_LW_law) 707 = .ok (.iconst 0, 1) := by decide +kernel
theorem d_LW_law_708 : decode (mB M_LW_law) 708 = .ok (.ireturn, 1) := by decide +kernel
theorem d_LW_law_709 : decode (mB M_LW_law) 709 = .ok (.goto 1455, 3) := by decide +kernel
theorem d_LW_law_712 : decode (mB M_LW_law) 712 = .ok (.aload_n 1, 1) := by decide +kernel
theorem d_LW_law_713 : decode (mB M_LW_law) 713 = .ok (.aload_n 0, 1) := by decide +kernel
theorem d_LW_law_714 : decode (mB M_LW_law) 714 = .ok (.iload 4, 2) := by decide +kernel
theorem d_LW_law_716 : decode (mB M_LW_law) 716 = .ok (.iconst 1, 1) := by decide +kernel
theorem d_LW_law_717 : decode (mB M_LW_law) 717 = .ok (.iadd, 1) := by decide +kernel
theorem d_LW_law_718 : decode (mB M_LW_law) 718 = .ok (.iaload, 1) := by decide +kernel
theorem d_LW_law_719 : decode (mB M_LW_law) 719 = .ok (.aload_n 0, 1) := by decide +kernel
theorem d_LW_law_720 : decode (mB M_LW_law) 720 = .ok (.iload 4, 2) := by decide +kernel
theorem d_LW_law_722 : decode (mB M_LW_law) 722 = .ok (.iconst 2, 1) := by decide +kernel
theorem d_LW_law_723 : decode (mB M_LW_law) 723 = .ok (.iadd, 1) := by decide +kernel
theorem d_LW_law_724 : decode (mB M_LW_law) 724 = .ok (.iaload, 1) := by decide +kernel
theorem d_LW_law_725 : decode (mB M_LW_law) 725 = .ok (.aload_n 3, 1) := by decide +kernel
theorem d_LW_law_726 : decode (mB M_LW_law) 726 = .ok (.invokestatic 153, 3) := by decide +kernel
theorem d_LW_law_729 : decode (mB M_LW_law) 729 = .ok (.istore 5, 2) := by decide +kernel
theorem d_LW_law_731 : decode (mB M_LW_law) 731 = .ok (.aload_n 2, 1) := by decide +kernel
theorem d_LW_law_732 : decode (mB M_LW_law) 732 = .ok (.aload_n 0, 1) := by decide +kernel
theorem d_LW_law_733 : decode (mB M_LW_law) 733 = .ok (.iload 4, 2) := by decide +kernel
theorem d_LW_law_735 : decode (mB M_LW_law) 735 = .ok (.iconst 1, 1) := by decide +kernel
theorem d_LW_law_736 : decode (mB M_LW_law) 736 = .ok (.iadd, 1) := by decide +kernel
theorem d_LW_law_737 : decode (mB M_LW_law) 737 = .ok (.iaload, 1) := by decide +kernel
theorem d_LW_law_738 : decode (mB M_LW_law) 738 = .ok (.aload_n 0, 1) := by decide +kernel
theorem d_LW_law_739 : decode (mB M_LW_law) 739 = .ok (.iload 4, 2) := by decide +kernel
theorem d_LW_law_741 : decode (mB M_LW_law) 741 = .ok (.iconst 2, 1) := by decide +kernel
theorem d_LW_law_742 : decode (mB M_LW_law) 742 = .ok (.iadd, 1) := by decide +kernel
theorem d_LW_law_743 : decode (mB M_LW_law) 743 = .ok (.iaload, 1) := by decide +kernel
theorem d_LW_law_744 : decode (mB M_LW_law) 744 = .ok (.invokevirtual 155, 3) := by decide +kernel
theorem d_LW_law_747 : decode (mB M_LW_law) 747 = .ok (.istore 6, 2) := by decide +kernel
theorem d_LW_law_749 : decode (mB M_LW_law) 749 = .ok (.aload_n 2, 1) := by decide +kernel
theorem d_LW_law_750 : decode (mB M_LW_law) 750 = .ok (.invokevirtual 124, 3) := by decide +kernel
theorem d_LW_law_753 : decode (mB M_LW_law) 753 = .ok (.iload 5, 2) := by decide +kernel
theorem d_LW_law_755 : decode (mB M_LW_law) 755 = .ok (.if_icmp .eq 5, 3) := by decide +kernel
theorem d_LW_law_758 : decode (mB M_LW_law) 758 = .ok (.iconst 0, 1) := by decide +kernel
theorem d_LW_law_759 : decode (mB M_LW_law) 759 = .ok (.ireturn, 1) := by decide +kernel
theorem d_LW_law_760 : decode (mB M_LW_law) 760 = .ok (.iload 5, 2) := by decide +kernel
theorem d_LW_law_762 : decode (mB M_LW_law) 762 = .ok (.ifCond .ne 15, 3) := by decide +kernel
theorem d_LW_law_765 : decode (mB M_LW_law) 765 = .ok (.aload_n 3, 1) := by decide +kernel
theorem d_LW_law_766 : decode (mB M_LW_law) 766 = .ok (.iconst 0, 1) := by decide +kernel
theorem d_LW_law_767 : decode (mB M_LW_law) 767 = .ok (.laload, 1) := by decide +kernel
theorem d_LW_law_768 : decode (mB M_LW_law) 768 = .ok (.iload 6, 2) := by decide +kernel
theorem d_LW_law_770 : decode (mB M_LW_law) 770 = .ok (.i2l, 1) := by decide +kernel
theorem d_LW_law_771 : decode (mB M_LW_law) 771 = .ok (.lcmp, 1) := by decide +kernel
theorem d_LW_law_772 : decode (mB M_LW_law) 772 = .ok (.ifCond .eq 5, 3) := by decide +kernel
theorem d_LW_law_775 : decode (mB M_LW_law) 775 = .ok (.iconst 0, 1) := by decide +kernel
theorem d_LW_law_776 : decode (mB M_LW_law) 776 = .ok (.ireturn, 1) := by decide +kernel
theorem d_LW_law_777 : decode (mB M_LW_law) 777 = .ok (.goto 1387, 3) := by decide +kernel
theorem d_LW_law_780 : decode (mB M_LW_law) 780 = .ok (.aload_n 1, 1) := by decide +kernel
theorem d_LW_law_781 : decode (mB M_LW_law) 781 = .ok (.aload_n 0, 1) := by decide +kernel
theorem d_LW_law_782 : decode (mB M_LW_law) 782 = .ok (.iload 4, 2) := by decide +kernel
theorem d_LW_law_784 : decode (mB M_LW_law) 784 = .ok (.iconst 1, 1) := by decide +kernel
theorem d_LW_law_785 : decode (mB M_LW_law) 785 = .ok (.iadd, 1) := by decide +kernel
theorem d_LW_law_786 : decode (mB M_LW_law) 786 = .ok (.iaload, 1) := by decide +kernel
theorem d_LW_law_787 : decode (mB M_LW_law) 787 = .ok (.aload_n 0, 1) := by decide +kernel
theorem d_LW_law_788 : decode (mB M_LW_law) 788 = .ok (.iload 4, 2) := by decide +kernel
theorem d_LW_law_790 : decode (mB M_LW_law) 790 = .ok (.iconst 2, 1) := by decide +kernel
theorem d_LW_law_791 : decode (mB M_LW_law) 791 = .ok (.iadd, 1) := by decide +kernel
theorem d_LW_law_792 : decode (mB M_LW_law) 792 = .ok (.iaload, 1) := by decide +kernel
theorem d_LW_law_793 : decode (mB M_LW_law) 793 = .ok (.aload_n 3, 1) := by decide +kernel
theorem d_LW_law_794 : decode (mB M_LW_law) 794 = .ok (.invokestatic 156, 3) := by decide +kernel
theorem d_LW_law_797 : decode (mB M_LW_law) 797 = .ok (.istore 5, 2) := by decide +kernel
theorem d_LW_law_799 : decode (mB M_LW_law) 799 = .ok (.aload_n 2, 1) := by decide +kernel
theorem d_LW_law_800 : decode (mB M_LW_law) 800 = .ok (.aload_n 0, 1) := by decide +kernel
theorem d_LW_law_801 : decode (mB M_LW_law) 801 = .ok (.iload 4, 2) := by decide +kernel
theorem d_LW_law_803 : decode (mB M_LW_law) 803 = .ok (.iconst 1, 1) := by decide +kernel
theorem d_LW_law_804 : decode (mB M_LW_law) 804 = .ok (.iadd, 1) := by decide +kernel
theorem d_LW_law_805 : decode (mB M_LW_law) 805 = .ok (.iaload, 1) := by decide +kernel
theorem d_LW_law_806 : decode (mB M_LW_law) 806 = .ok (.aload_n 0, 1) := by decide +kernel
theorem d_LW_law_807 : decode (mB M_LW_law) 807 = .ok (.iload 4, 2) := by decide +kernel
theorem d_LW_law_809 : decode (mB M_LW_law) 809 = .ok (.iconst 2, 1) := by decide +kernel
theorem d_LW_law_810 : decode (mB M_LW_law) 810 = .ok (.iadd, 1) := by decide +kernel
theorem d_LW_law_811 : decode (mB M_LW_law) 811 = .ok (.iaload, 1) := by decide +kernel
theorem d_LW_law_812 : decode (mB M_LW_law) 812 = .ok (.invokevirtual 158, 3) := by decide +kernel
theorem d_LW_law_815 : decode (mB M_LW_law) 815 = .ok (.istore 6, 2) := by decide +kernel
theorem d_LW_law_817 : decode (mB M_LW_law) 817 = .ok (.aload_n 2, 1) := by decide +kernel
theorem d_LW_law_818 : decode (mB M_LW_law) 818 = .ok (.invokevirtual 124, 3) := by decide +kernel
theorem d_LW_law_821 : decode (mB M_LW_law) 821 = .ok (.iload 5, 2) := by decide +kernel
theorem d_LW_law_823 : decode (mB M_LW_law) 823 = .ok (.if_icmp .eq 5, 3) := by decide +kernel
theorem d_LW_law_826 : decode (mB M_LW_law) 826 = .ok (.iconst 0, 1) := by decide +kernel
theorem d_LW_law_827 : decode (mB M_LW_law) 827 = .ok (.ireturn, 1) := by decide +kernel
theorem d_LW_law_828 : decode (mB M_LW_law) 828 = .ok (.iload 5, 2) := by decide +kernel
theorem d_LW_law_830 : decode (mB M_LW_law) 830 = .ok (.ifCond .ne 15, 3) := by decide +kernel
theorem d_LW_law_833 : decode (mB M_LW_law) 833 = .ok (.aload_n 3, 1) := by decide +kernel
theorem d_LW_law_834 : decode (mB M_LW_law) 834 = .ok (.iconst 0, 1) := by decide +kernel
theorem d_LW_law_835 : decode (mB M_LW_law) 835 = .ok (.laload, 1) := by decide +kernel
theorem d_LW_law_836 : decode (mB M_LW_law) 836 = .ok (.iload 6, 2) := by decide +kernel
theorem d_LW_law_838 : decode (mB M_LW_law) 838 = .ok (.i2l, 1) := by decide +kernel
theorem d_LW_law_839 : decode (mB M_LW_law) 839 = .ok (.lcmp, 1) := by decide +kernel
theorem d_LW_law_840 : decode (mB M_LW_law) 840 = .ok (.ifCond .eq 5, 3) := by decide +kernel
theorem d_LW_law_843 : decode (mB M_LW_law) 843 = .ok (.iconst 0, 1) := by decide +kernel
theorem d_LW_law_844 : decode (mB M_LW_law) 844 = .ok (.ireturn, 1) := by decide +kernel
theorem d_LW_law_845 : decode (mB M_LW_law) 845 = .ok (.goto 1319, 3) := by decide +kernel
theorem d_LW_law_848 : decode (mB M_LW_law) 848 = .ok (.aload_n 1, 1) := by decide +kernel
theorem d_LW_law_849 : decode (mB M_LW_law) 849 = .ok (.aload_n 0, 1) := by decide +kernel
theorem d_LW_law_850 : decode (mB M_LW_law) 850 = .ok (.iload 4, 2) := by decide +kernel
theorem d_LW_law_852 : decode (mB M_LW_law) 852 = .ok (.iconst 1, 1) := by decide +kernel
theorem d_LW_law_853 : decode (mB M_LW_law) 853 = .ok (.iadd, 1) := by decide +kernel
theorem d_LW_law_854 : decode (mB M_LW_law) 854 = .ok (.iaload, 1) := by decide +kernel
theorem d_LW_law_855 : decode (mB M_LW_law) 855 = .ok (.aload_n 0, 1) := by decide +kernel
theorem d_LW_law_856 : decode (mB M_LW_law) 856 = .ok (.iload 4, 2) := by decide +kernel
theorem d_LW_law_858 : decode (mB M_LW_law) 858 = .ok (.iconst 2, 1) := by decide +kernel
theorem d_LW_law_859 : decode (mB M_LW_law) 859 = .ok (.iadd, 1) := by decide +kernel
theorem d_LW_law_860 : decode (mB M_LW_law) 860 = .ok (.iaload, 1) := by decide +kernel
theorem d_LW_law_861 : decode (mB M_LW_law) 861 = .ok (.aload_n 0, 1) := by decide +kernel
theorem d_LW_law_862 : decode (mB M_LW_law) 862 = .ok (.iload 4, 2) := by decide +kernel
theorem d_LW_law_864 : decode (mB M_LW_law) 864 = .ok (.iconst 3, 1) := by decide +kernel
theorem d_LW_law_865 : decode (mB M_LW_law) 865 = .ok (.iadd, 1) := by decide +kernel
theorem d_LW_law_866 : decode (mB M_LW_law) 866 = .ok (.iaload, 1) := by decide +kernel
theorem d_LW_law_867 : decode (mB M_LW_law) 867 = .ok (.ifCond .eq 7, 3) := by decide +kernel
theorem d_LW_law_870 : decode (mB M_LW_law) 870 = .ok (.iconst 1, 1) := by decide +kernel
theorem d_LW_law_871 : decode (mB M_LW_law) 871 = .ok (.goto 4, 3) := by decide +kernel
theorem d_LW_law_874 : decode (mB M_LW_law) 874 = .ok (.iconst 0, 1) := by decide +kernel
theorem d_LW_law_875 : decode (mB M_LW_law) 875 = .ok (.invokestatic 159, 3) := by decide +kernel
theorem d_LW_law_878 : decode (mB M_LW_law) 878 = .ok (.istore 5, 2) := by decide +kernel
theorem d_LW_law_880 : decode (mB M_LW_law) 880 = .ok (.aload_n 2, 1) := by decide +kernel
theorem d_LW_law_881 : decode (mB M_LW_law) 881 = .ok (.aload_n 0, 1) := by decide +kernel
theorem d_LW_law_882 : decode (mB M_LW_law) 882 = .ok (.iload 4, 2) := by decide +kernel
theorem d_LW_law_884 : decode (mB M_LW_law) 884 = .ok (.iconst 1, 1) := by decide +kernel
theorem d_LW_law_885 : decode (mB M_LW_law) 885 = .ok (.iadd, 1) := by decide +kernel
theorem d_LW_law_886 : decode (mB M_LW_law) 886 = .ok (.iaload, 1) := by decide +kernel
theorem d_LW_law_887 : decode (mB M_LW_law) 887 = .ok (.aload_n 0, 1) := by decide +kernel
theorem d_LW_law_888 : decode (mB M_LW_law) 888 = .ok (.iload 4, 2) := by decide +kernel
theorem d_LW_law_890 : decode (mB M_LW_law) 890 = .ok (.iconst 2, 1) := by decide +kernel
theorem d_LW_law_891 : decode (mB M_LW_law) 891 = .ok (.iadd, 1) := by decide +kernel
theorem d_LW_law_892 : decode (mB M_LW_law) 892 = .ok (.iaload, 1) := by decide +kernel
theorem d_LW_law_893 : decode (mB M_LW_law) 893 = .ok (.aload_n 0, 1) := by decide +kernel
theorem d_LW_law_894 : decode (mB M_LW_law) 894 = .ok (.iload 4, 2) := by decide +kernel
theorem d_LW_law_896 : decode (mB M_LW_law) 896 = .ok (.iconst 3, 1) := by decide +kernel
theorem d_LW_law_897 : decode (mB M_LW_law) 897 = .ok (.iadd, 1) := by decide +kernel
theorem d_LW_law_898 : decode (mB M_LW_law) 898 = .ok (.iaload, 1) := by decide +kernel
theorem d_LW_law_899 : decode (mB M_LW_law) 899 = .ok (.ifCond .eq 7, 3) := by decide +kernel
theorem d_LW_law_902 : decode (mB M_LW_law) 902 = .ok (.iconst 1, 1) := by decide +kernel
theorem d_LW_law_903 : decode (mB M_LW_law) 903 = .ok (.goto 4, 3) := by decide +kernel
theorem d_LW_law_906 : decode (mB M_LW_law) 906 = .ok (.iconst 0, 1) := by decide +kernel
theorem d_LW_law_907 : decode (mB M_LW_law) 907 = .ok (.invokevirtual 162, 3) := by decide +kernel
theorem d_LW_law_910 : decode (mB M_LW_law) 910 = .ok (.aload_n 2, 1) := by decide +kernel
theorem d_LW_law_911 : decode (mB M_LW_law) 911 = .ok (.invokevirtual 124, 3) := by decide +kernel
theorem d_LW_law_914 : decode (mB M_LW_law) 914 = .ok (.iload 5, 2) := by decide +kernel
theorem d_LW_law_916 : decode (mB M_LW_law) 916 = .ok (.if_icmp .eq 5, 3) := by decide +kernel
theorem d_LW_law_919 : decode (mB M_LW_law) 919 = .ok (.iconst 0, 1) := by decide +kernel
theorem d_LW_law_920 : decode (mB M_LW_law) 920 = .ok (.ireturn, 1) := by decide +kernel
theorem d_LW_law_921 : decode (mB M_LW_law) 921 = .ok (.goto 1243, 3) := by decide +kernel
theorem d_LW_law_924 : decode (mB M_LW_law) 924 = .ok (.aload_n 1, 1) := by decide +kernel
theorem d_LW_law_925 : decode (mB M_LW_law) 925 = .ok (.aload_n 0, 1) := by decide +kernel
theorem d_LW_law_926 : decode (mB M_LW_law) 926 = .ok (.iload 4, 2) := by decide +kernel
theorem d_LW_law_928 : decode (mB M_LW_law) 928 = .ok (.iconst 1, 1) := by decide +kernel
theorem d_LW_law_929 : decode (mB M_LW_law) 929 = .ok (.iadd, 1) := by decide +kernel
theorem d_LW_law_930 : decode (mB M_LW_law) 930 = .ok (.iaload, 1) := by decide +kernel
theorem d_LW_law_931 : decode (mB M_LW_law) 931 = .ok (.aload_n 0, 1) := by decide +kernel
theorem d_LW_law_932 : decode (mB M_LW_law) 932 = .ok (.iload 4, 2) := by decide +kernel
theorem d_LW_law_934 : decode (mB M_LW_law) 934 = .ok (.iconst 2, 1) := by decide +kernel
theorem d_LW_law_935 : decode (mB M_LW_law) 935 = .ok (.iadd, 1) := by decide +kernel
theorem d_LW_law_936 : decode (mB M_LW_law) 936 = .ok (.iaload, 1) := by decide +kernel
theorem d_LW_law_937 : decode (mB M_LW_law) 937 = .ok (.aload_n 3, 1) := by decide +kernel
theorem d_LW_law_938 : decode (mB M_LW_law) 938 = .ok (.invokestatic 163, 3) := by decide +kernel
theorem d_LW_law_941 : decode (mB M_LW_law) 941 = .ok (.istore 5, 2) := by decide +kernel
theorem d_LW_law_943 : decode (mB M_LW_law) 943 = .ok (.aload_n 2, 1) := by decide +kernel
theorem d_LW_law_944 : decode (mB M_LW_law) 944 = .ok (.aload_n 0, 1) := by decide +kernel
theorem d_LW_law_945 : decode (mB M_LW_law) 945 = .ok (.iload 4, 2) := by decide +kernel
theorem d_LW_law_947 : decode (mB M_LW_law) 947 = .ok (.iconst 1, 1) := by decide +kernel
theorem d_LW_law_948 : decode (mB M_LW_law) 948 = .ok (.iadd, 1) := by decide +kernel
theorem d_LW_law_949 : decode (mB M_LW_law) 949 = .ok (.iaload, 1) := by decide +kernel
theorem d_LW_law_950 : decode (mB M_LW_law) 950 = .ok (.aload_n 0, 1) := by decide +kernel
theorem d_LW_law_951 : decode (mB M_LW_law) 951 = .ok (.iload 4, 2) := by decide +kernel
theorem d_LW_law_953 : decode (mB M_LW_law) 953 = .ok (.iconst 2, 1) := by decide +kernel
theorem d_LW_law_954 : decode (mB M_LW_law) 954 = .ok (.iadd, 1) := by decide +kernel
theorem d_LW_law_955 : decode (mB M_LW_law) 955 = .ok (.iaload, 1) := by decide +kernel
theorem d_LW_law_956 : decode (mB M_LW_law) 956 = .ok (.invokevirtual 165, 3) := by decide +kernel
theorem d_LW_law_959 : decode (mB M_LW_law) 959 = .ok (.istore 6, 2) := by decide +kernel
theorem d_LW_law_961 : decode (mB M_LW_law) 961 = .ok (.aload_n 2, 1) := by decide +kernel
theorem d_LW_law_962 : decode (mB M_LW_law) 962 = .ok (.invokevirtual 124, 3) := by decide +kernel
theorem d_LW_law_965 : decode (mB M_LW_law) 965 = .ok (.iload 5, 2) := by decide +kernel
theorem d_LW_law_967 : decode (mB M_LW_law) 967 = .ok (.if_icmp .eq 5, 3) := by decide +kernel
theorem d_LW_law_970 : decode (mB M_LW_law) 970 = .ok (.iconst 0, 1) := by decide +kernel
theorem d_LW_law_971 : decode (mB M_LW_law) 971 = .ok (.ireturn, 1) := by decide +kernel
theorem d_LW_law_972 : decode (mB M_LW_law) 972 = .ok (.iload 5, 2) := by decide +kernel
theorem d_LW_law_974 : decode (mB M_LW_law) 974 = .ok (.ifCond .ne 15, 3) := by decide +kernel
theorem d_LW_law_977 : decode (mB M_LW_law) 977 = .ok (.aload_n 3, 1) := by decide +kernel
theorem d_LW_law_978 : decode (mB M_LW_law) 978 = .ok (.iconst 0, 1) := by decide +kernel
theorem d_LW_law_979 : decode (mB M_LW_law) 979 = .ok (.laload, 1) := by decide +kernel
theorem d_LW_law_980 : decode (mB M_LW_law) 980 = .ok (.iload 6, 2) := by decide +kernel
theorem d_LW_law_982 : decode (mB M_LW_law) 982 = .ok (.i2l, 1) := by decide +kernel
theorem d_LW_law_983 : decode (mB M_LW_law) 983 = .ok (.lcmp, 1) := by decide +kernel
theorem d_LW_law_984 : decode (mB M_LW_law) 984 = .ok (.ifCond .eq 5, 3) := by decide +kernel
theorem d_LW_law_987 : decode (mB M_LW_law) 987 = .ok (.iconst 0, 1) := by decide +kernel
theorem d_LW_law_988 : decode (mB M_LW_law) 988 = .ok (.ireturn, 1) := by decide +kernel
theorem d_LW_law_989 : decode (mB M_LW_law) 989 = .ok (.goto 1175, 3) := by decide +kernel
theorem d_LW_law_992 : decode (mB M_LW_law) 992 = .ok (.aload_n 1, 1) := by decide +kernel
theorem d_LW_law_993 : decode (mB M_LW_law) 993 = .ok (.aload_n 0, 1) := by decide +kernel
theorem d_LW_law_994 : decode (mB M_LW_law) 994 = .ok (.iload 4, 2) := by decide +kernel
theorem d_LW_law_996 : decode (mB M_LW_law) 996 = .ok (.iconst 1, 1) := by decide +kernel
theorem d_LW_law_997 : decode (mB M_LW_law) 997 = .ok (.iadd, 1) := by decide +kernel
theorem d_LW_law_998 : decode (mB M_LW_law) 998 = .ok (.iaload, 1) := by decide +kernel
theorem d_LW_law_999 : decode (mB M_LW_law) 999 = .ok (.aload_n 3, 1) := by decide +kernel
theorem d_LW_law_1000 : decode (mB M_LW_law) 1000 = .ok (.invokestatic 166, 3) := by decide +kernel
theorem d_LW_law_1003 : decode (mB M_LW_law) 1003 = .ok (.istore 5, 2) := by decide +kernel
theorem d_LW_law_1005 : decode (mB M_LW_law) 1005 = .ok (.aload_n 2, 1) := by decide +kernel
theorem d_LW_law_1006 : decode (mB M_LW_law) 1006 = .ok (.aload_n 0, 1) := by decide +kernel
theorem d_LW_law_1007 : decode (mB M_LW_law) 1007 = .ok (.iload 4, 2) := by decide +kernel
theorem d_LW_law_1009 : decode (mB M_LW_law) 1009 = .ok (.iconst 1, 1) := by decide +kernel
theorem d_LW_law_1010 : decode (mB M_LW_law) 1010 = .ok (.iadd, 1) := by decide +kernel
theorem d_LW_law_1011 : decode (mB M_LW_law) 1011 = .ok (.iaload, 1) := by decide +kernel
theorem d_LW_law_1012 : decode (mB M_LW_law) 1012 = .ok (.invokevirtual 168, 3) := by decide +kernel
theorem d_LW_law_1015 : decode (mB M_LW_law) 1015 = .ok (.istore 6, 2) := by decide +kernel
theorem d_LW_law_1017 : decode (mB M_LW_law) 1017 = .ok (.aload_n 2, 1) := by decide +kernel
theorem d_LW_law_1018 : decode (mB M_LW_law) 1018 = .ok (.invokevirtual 124, 3) := by decide +kernel
theorem d_LW_law_1021 : decode (mB M_LW_law) 1021 = .ok (.iload 5, 2) := by decide +kernel
theorem d_LW_law_1023 : decode (mB M_LW_law) 1023 = .ok (.if_icmp .eq 5, 3) := by decide +kernel
theorem d_LW_law_1026 : decode (mB M_LW_law) 1026 = .ok (.iconst 0, 1) := by decide +kernel
theorem d_LW_law_1027 : decode (mB M_LW_law) 1027 = .ok (.ireturn, 1) := by decide +kernel
theorem d_LW_law_1028 : decode (mB M_LW_law) 1028 = .ok (.iload 5, 2) := by decide +kernel
theorem d_LW_law_1030 : decode (mB M_LW_law) 1030 = .ok (.ifCond .ne 15, 3) := by decide +kernel
theorem d_LW_law_1033 : decode (mB M_LW_law) 1033 = .ok (.aload_n 3, 1) := by decide +kernel
theorem d_LW_law_1034 : decode (mB M_LW_law) 1034 = .ok (.iconst 0, 1) := by decide +kernel
theorem d_LW_law_1035 : decode (mB M_LW_law) 1035 = .ok (.laload, 1) := by decide +kernel
theorem d_LW_law_1036 : decode (mB M_LW_law) 1036 = .ok (.iload 6, 2) := by decide +kernel
theorem d_LW_law_1038 : decode (mB M_LW_law) 1038 = .ok (.i2l, 1) := by decide +kernel
theorem d_LW_law_1039 : decode (mB M_LW_law) 1039 = .ok (.lcmp, 1) := by decide +kernel
theorem d_LW_law_1040 : decode (mB M_LW_law) 1040 = .ok (.ifCond .eq 5, 3) := by decide +kernel
theorem d_LW_law_1043 : decode (mB M_LW_law) 1043 = .ok (.iconst 0, 1) := by decide +kernel
theorem d_LW_law_1044 : decode (mB M_LW_law) 1044 = .ok (.ireturn, 1) := by decide +kernel
theorem d_LW_law_1045 : decode (mB M_LW_law) 1045 = .ok (.goto 1119, 3) := by decide +kernel
theorem d_LW_law_1048 : decode (mB M_LW_law) 1048 = .ok (.aload_n 1, 1) := by decide +kernel
theorem d_LW_law_1049 : decode (mB M_LW_law) 1049 = .ok (.aload_n 0, 1) := by decide +kernel
theorem d_LW_law_1050 : decode (mB M_LW_law) 1050 = .ok (.iload 4, 2) := by decide +kernel
theorem d_LW_law_1052 : decode (mB M_LW_law) 1052 = .ok (.iconst 1, 1) := by decide +kernel
theorem d_LW_law_1053 : decode (mB M_LW_law) 1053 = .ok (.iadd, 1) := by decide +kernel
theorem d_LW_law_1054 : decode (mB M_LW_law) 1054 = .ok (.iaload, 1) := by decide +kernel
theorem d_LW_law_1055 : decode (mB M_LW_law) 1055 = .ok (.aload_n 0, 1) := by decide +kernel
theorem d_LW_law_1056 : decode (mB M_LW_law) 1056 = .ok (.iload 4, 2) := by decide +kernel
theorem d_LW_law_1058 : decode (mB M_LW_law) 1058 = .ok (.iconst 2, 1) := by decide +kernel
theorem d_LW_law_1059 : decode (mB M_LW_law) 1059 = .ok (.iadd, 1) := by decide +kernel
theorem d_LW_law_1060 : decode (mB M_LW_law) 1060 = .ok (.iaload, 1) := by decide +kernel
theorem d_LW_law_1061 : decode (mB M_LW_law) 1061 = .ok (.aload_n 3, 1) := by decide +kernel
theorem d_LW_law_1062 : decode (mB M_LW_law) 1062 = .ok (.invokestatic 169, 3) := by decide +kernel
theorem d_LW_law_1065 : decode (mB M_LW_law) 1065 = .ok (.istore 5, 2) := by decide +kernel
theorem d_LW_law_1067 : decode (mB M_LW_law) 1067 = .ok (.aload_n 2, 1) := by decide +kernel
theorem d_LW_law_1068 : decode (mB M_LW_law) 1068 = .ok (.aload_n 0, 1) := by decide +kernel
theorem d_LW_law_1069 : decode (mB M_LW_law) 1069 = .ok (.iload 4, 2) := by decide +kernel
theorem d_LW_law_1071 : decode (mB M_LW_law) 1071 = .ok (.iconst 1, 1) := by decide +kernel
theorem d_LW_law_1072 : decode (mB M_LW_law) 1072 = .ok (.iadd, 1) := by decide +kernel
theorem d_LW_law_1073 : decode (mB M_LW_law) 1073 = .ok (.iaload, 1) := by decide +kernel
theorem d_LW_law_1074 : decode (mB M_LW_law) 1074 = .ok (.aload_n 0, 1) := by decide +kernel
theorem d_LW_law_1075 : decode (mB M_LW_law) 1075 = .ok (.iload 4, 2) := by decide +kernel
theorem d_LW_law_1077 : decode (mB M_LW_law) 1077 = .ok (.iconst 2, 1) := by decide +kernel
theorem d_LW_law_1078 : decode (mB M_LW_law) 1078 = .ok (.iadd, 1) := by decide +kernel
theorem d_LW_law_1079 : decode (mB M_LW_law) 1079 = .ok (.iaload, 1) := by decide +kernel
theorem d_LW_law_1080 : decode (mB M_LW_law) 1080 = .ok (.invokevirtual 171, 3) := by decide +kernel
theorem d_LW_law_1083 : decode (mB M_LW_law) 1083 = .ok (.istore 6, 2) := by decide +kernel
theorem d_LW_law_1085 : decode (mB M_LW_law) 1085 = .ok (.aload_n 2, 1) := by decide +kernel
theorem d_LW_law_1086 : decode (mB M_LW_law) 1086 = .ok (.invokevirtual 124, 3) := by decide +kernel
theorem d_LW_law_1089 : decode (mB M_LW_law) 1089 = .ok (.iload 5, 2) := by decide +kernel
theorem d_LW_law_1091 : decode (mB M_LW_law) 1091 = .ok (.if_icmp .eq 5, 3) := by decide +kernel
theorem d_LW_law_1094 : decode (mB M_LW_law) 1094 = .ok (.iconst 0, 1) := by decide +kernel
theorem d_LW_law_1095 : decode (mB M_LW_law) 1095 = .ok (.ireturn, 1) := by decide +kernel
theorem d_LW_law_1096 : decode (mB M_LW_law) 1096 = .ok (.iload 5, 2) := by decide +kernel
theorem d_LW_law_1098 : decode (mB M_LW_law) 1098 = .ok (.ifCond .ne 15, 3) := by decide +kernel
theorem d_LW_law_1101 : decode (mB M_LW_law) 1101 = .ok (.aload_n 3, 1) := by decide +kernel
theorem d_LW_law_1102 : decode (mB M_LW_law) 1102 = .ok (.iconst 0, 1) := by decide +kernel
theorem d_LW_law_1103 : decode (mB M_LW_law) 1103 = .ok (.laload, 1) := by decide +kernel
theorem d_LW_law_1104 : decode (mB M_LW_law) 1104 = .ok (.iload 6, 2) := by decide +kernel
theorem d_LW_law_1106 : decode (mB M_LW_law) 1106 = .ok (.i2l, 1) := by decide +kernel
theorem d_LW_law_1107 : decode (mB M_LW_law) 1107 = .ok (.lcmp, 1) := by decide +kernel
theorem d_LW_law_1108 : decode (mB M_LW_law) 1108 = .ok (.ifCond .eq 5, 3) := by decide +kernel
theorem d_LW_law_1111 : decode (mB M_LW_law) 1111 = .ok (.iconst 0, 1) := by decide +kernel
theorem d_LW_law_1112 : decode (mB M_LW_law) 1112 = .ok (.ireturn, 1) := by decide +kernel
theorem d_LW_law_1113 : decode (mB M_LW_law) 1113 = .ok (.goto 1051, 3) := by decide +kernel
theorem d_LW_law_1116 : decode (mB M_LW_law) 1116 = .ok (.aload_n 1, 1) := by decide +kernel
theorem d_LW_law_1117 : decode (mB M_LW_law) 1117 = .ok (.aload_n 0, 1) := by decide +kernel
theorem d_LW_law_1118 : decode (mB M_LW_law) 1118 = .ok (.iload 4, 2) := by decide +kernel
theorem d_LW_law_1120 : decode (mB M_LW_law) 1120 = .ok (.iconst 1, 1) := by decide +kernel
theorem d_LW_law_1121 : decode (mB M_LW_law) 1121 = .ok (.iadd, 1) := by decide +kernel
theorem d_LW_law_1122 : decode (mB M_LW_law) 1122 = .ok (.iaload, 1) := by decide +kernel
theorem d_LW_law_1123 : decode (mB M_LW_law) 1123 = .ok (.aload_n 0, 1) := by decide +kernel
theorem d_LW_law_1124 : decode (mB M_LW_law) 1124 = .ok (.iload 4, 2) := by decide +kernel
theorem d_LW_law_1126 : decode (mB M_LW_law) 1126 = .ok (.iconst 2, 1) := by decide +kernel
theorem d_LW_law_1127 : decode (mB M_LW_law) 1127 = .ok (.iadd, 1) := by decide +kernel
theorem d_LW_law_1128 : decode (mB M_LW_law) 1128 = .ok (.iaload, 1) := by decide +kernel
theorem d_LW_law_1129 : decode (mB M_LW_law) 1129 = .ok (.aload_n 0, 1) := by decide +kernel
theorem d_LW_law_1130 : decode (mB M_LW_law) 1130 = .ok (.iload 4, 2) := by decide +kernel
theorem d_LW_law_1132 : decode (mB M_LW_law) 1132 = .ok (.iconst 3, 1) := by decide +kernel
theorem d_LW_law_1133 : decode (mB M_LW_law) 1133 = .ok (.iadd, 1) := by decide +kernel
theorem d_LW_law_1134 : decode (mB M_LW_law) 1134 = .ok (.iaload, 1) := by decide +kernel
theorem d_LW_law_1135 : decode (mB M_LW_law) 1135 = .ok (.aload_n 3, 1) := by decide +kernel
theorem d_LW_law_1136 : decode (mB M_LW_law) 1136 = .ok (.invokestatic 172, 3) := by decide +kernel
theorem d_LW_law_1139 : decode (mB M_LW_law) 1139 = .ok (.istore 5, 2) := by decide +kernel
theorem d_LW_law_1141 : decode (mB M_LW_law) 1141 = .ok (.aload_n 2, 1) := by decide +kernel
theorem d_LW_law_1142 : decode (mB M_LW_law) 1142 = .ok (.aload_n 0, 1) := by decide +kernel
theorem d_LW_law_1143 : decode (mB M_LW_law) 1143 = .ok (.iload 4, 2) := by decide +kernel
