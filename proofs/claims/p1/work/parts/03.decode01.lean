theorem dL_law_655 : decode code 655 = .ok (.iadd, 1) := by decide +kernel
theorem dL_law_656 : decode code 656 = .ok (.iaload, 1) := by decide +kernel
theorem dL_law_657 : decode code 657 = .ok (.aload_n 0, 1) := by decide +kernel
theorem dL_law_658 : decode code 658 = .ok (.iload_n 3, 1) := by decide +kernel
theorem dL_law_659 : decode code 659 = .ok (.iconst 2, 1) := by decide +kernel
theorem dL_law_660 : decode code 660 = .ok (.iadd, 1) := by decide +kernel
theorem dL_law_661 : decode code 661 = .ok (.iaload, 1) := by decide +kernel
theorem dL_law_662 : decode code 662 = .ok (.invokevirtual 81, 3) := by decide +kernel
theorem dL_law_665 : decode code 665 = .ok (.if_icmp .eq 733, 3) := by decide +kernel
theorem dL_law_670 : decode code 670 = .ok (.aload_n 1, 1) := by decide +kernel
theorem dL_law_671 : decode code 671 = .ok (.aload_n 0, 1) := by decide +kernel
theorem dL_law_672 : decode code 672 = .ok (.iload_n 3, 1) := by decide +kernel
theorem dL_law_673 : decode code 673 = .ok (.iconst 1, 1) := by decide +kernel
theorem dL_law_674 : decode code 674 = .ok (.iadd, 1) := by decide +kernel
theorem dL_law_675 : decode code 675 = .ok (.iaload, 1) := by decide +kernel
theorem dL_law_676 : decode code 676 = .ok (.aload_n 0, 1) := by decide +kernel
theorem dL_law_677 : decode code 677 = .ok (.iload_n 3, 1) := by decide +kernel
theorem dL_law_678 : decode code 678 = .ok (.iconst 2, 1) := by decide +kernel
theorem dL_law_679 : decode code 679 = .ok (.iadd, 1) := by decide +kernel
theorem dL_law_680 : decode code 680 = .ok (.iaload, 1) := by decide +kernel
theorem dL_law_681 : decode code 681 = .ok (.invokevirtual 82, 3) := by decide +kernel
theorem dL_law_684 : decode code 684 = .ok (.aload_n 2, 1) := by decide +kernel
theorem dL_law_685 : decode code 685 = .ok (.aload_n 0, 1) := by decide +kernel
theorem dL_law_686 : decode code 686 = .ok (.iload_n 3, 1) := by decide +kernel
theorem dL_law_687 : decode code 687 = .ok (.iconst 1, 1) := by decide +kernel
theorem dL_law_688 : decode code 688 = .ok (.iadd, 1) := by decide +kernel
theorem dL_law_689 : decode code 689 = .ok (.iaload, 1) := by decide +kernel
theorem dL_law_690 : decode code 690 = .ok (.aload_n 0, 1) := by decide +kernel
theorem dL_law_691 : decode code 691 = .ok (.iload_n 3, 1) := by decide +kernel
theorem dL_law_692 : decode code 692 = .ok (.iconst 2, 1) := by decide +kernel
theorem dL_law_693 : decode code 693 = .ok (.iadd, 1) := by decide +kernel
theorem dL_law_694 : decode code 694 = .ok (.iaload, 1) := by decide +kernel
theorem dL_law_695 : decode code 695 = .ok (.invokevirtual 85, 3) := by decide +kernel
theorem dL_law_698 : decode code 698 = .ok (.if_icmp .eq 700, 3) := by decide +kernel
theorem dL_law_703 : decode code 703 = .ok (.aload_n 1, 1) := by decide +kernel
theorem dL_law_704 : decode code 704 = .ok (.aload_n 0, 1) := by decide +kernel
theorem dL_law_705 : decode code 705 = .ok (.iload_n 3, 1) := by decide +kernel
theorem dL_law_706 : decode code 706 = .ok (.iconst 1, 1) := by decide +kernel
theorem dL_law_707 : decode code 707 = .ok (.iadd, 1) := by decide +kernel
theorem dL_law_708 : decode code 708 = .ok (.iaload, 1) := by decide +kernel
theorem dL_law_709 : decode code 709 = .ok (.invokevirtual 86, 3) := by decide +kernel
theorem dL_law_712 : decode code 712 = .ok (.aload_n 2, 1) := by decide +kernel
theorem dL_law_713 : decode code 713 = .ok (.aload_n 0, 1) := by decide +kernel
theorem dL_law_714 : decode code 714 = .ok (.iload_n 3, 1) := by decide +kernel
theorem dL_law_715 : decode code 715 = .ok (.iconst 1, 1) := by decide +kernel
theorem dL_law_716 : decode code 716 = .ok (.iadd, 1) := by decide +kernel
theorem dL_law_717 : decode code 717 = .ok (.iaload, 1) := by decide +kernel
theorem dL_law_718 : decode code 718 = .ok (.invokevirtual 90, 3) := by decide +kernel
theorem dL_law_721 : decode code 721 = .ok (.lcmp, 1) := by decide +kernel
theorem dL_law_722 : decode code 722 = .ok (.ifCond .eq 676, 3) := by decide +kernel
theorem dL_law_727 : decode code 727 = .ok (.aload_n 1, 1) := by decide +kernel
theorem dL_law_728 : decode code 728 = .ok (.aload_n 0, 1) := by decide +kernel
theorem dL_law_729 : decode code 729 = .ok (.iload_n 3, 1) := by decide +kernel
theorem dL_law_730 : decode code 730 = .ok (.iconst 1, 1) := by decide +kernel
theorem dL_law_731 : decode code 731 = .ok (.iadd, 1) := by decide +kernel
theorem dL_law_732 : decode code 732 = .ok (.iaload, 1) := by decide +kernel
theorem dL_law_733 : decode code 733 = .ok (.aload_n 0, 1) := by decide +kernel
theorem dL_law_734 : decode code 734 = .ok (.iload_n 3, 1) := by decide +kernel
theorem dL_law_735 : decode code 735 = .ok (.iconst 2, 1) := by decide +kernel
theorem dL_law_736 : decode code 736 = .ok (.iadd, 1) := by decide +kernel
theorem dL_law_737 : decode code 737 = .ok (.iaload, 1) := by decide +kernel
theorem dL_law_738 : decode code 738 = .ok (.invokevirtual 91, 3) := by decide +kernel
theorem dL_law_741 : decode code 741 = .ok (.aload_n 2, 1) := by decide +kernel
theorem dL_law_742 : decode code 742 = .ok (.aload_n 0, 1) := by decide +kernel
theorem dL_law_743 : decode code 743 = .ok (.iload_n 3, 1) := by decide +kernel
theorem dL_law_744 : decode code 744 = .ok (.iconst 1, 1) := by decide +kernel
theorem dL_law_745 : decode code 745 = .ok (.iadd, 1) := by decide +kernel
theorem dL_law_746 : decode code 746 = .ok (.iaload, 1) := by decide +kernel
theorem dL_law_747 : decode code 747 = .ok (.aload_n 0, 1) := by decide +kernel
theorem dL_law_748 : decode code 748 = .ok (.iload_n 3, 1) := by decide +kernel
theorem dL_law_749 : decode code 749 = .ok (.iconst 2, 1) := by decide +kernel
theorem dL_law_750 : decode code 750 = .ok (.iadd, 1) := by decide +kernel
theorem dL_law_751 : decode code 751 = .ok (.iaload, 1) := by decide +kernel
theorem dL_law_752 : decode code 752 = .ok (.invokevirtual 95, 3) := by decide +kernel
theorem dL_law_755 : decode code 755 = .ok (.lcmp, 1) := by decide +kernel
theorem dL_law_756 : decode code 756 = .ok (.ifCond .eq 642, 3) := by decide +kernel
theorem dL_law_761 : decode code 761 = .ok (.aload_n 1, 1) := by decide +kernel
theorem dL_law_762 : decode code 762 = .ok (.aload_n 0, 1) := by decide +kernel
theorem dL_law_763 : decode code 763 = .ok (.iload_n 3, 1) := by decide +kernel
theorem dL_law_764 : decode code 764 = .ok (.iconst 1, 1) := by decide +kernel
theorem dL_law_765 : decode code 765 = .ok (.iadd, 1) := by decide +kernel
theorem dL_law_766 : decode code 766 = .ok (.iaload, 1) := by decide +kernel
theorem dL_law_767 : decode code 767 = .ok (.invokevirtual 96, 3) := by decide +kernel
theorem dL_law_770 : decode code 770 = .ok (.aload_n 2, 1) := by decide +kernel
theorem dL_law_771 : decode code 771 = .ok (.aload_n 0, 1) := by decide +kernel
theorem dL_law_772 : decode code 772 = .ok (.iload_n 3, 1) := by decide +kernel
theorem dL_law_773 : decode code 773 = .ok (.iconst 1, 1) := by decide +kernel
theorem dL_law_774 : decode code 774 = .ok (.iadd, 1) := by decide +kernel
theorem dL_law_775 : decode code 775 = .ok (.iaload, 1) := by decide +kernel
theorem dL_law_776 : decode code 776 = .ok (.invokevirtual 99, 3) := by decide +kernel
theorem dL_law_779 : decode code 779 = .ok (.if_icmp .eq 619, 3) := by decide +kernel
theorem dL_law_784 : decode code 784 = .ok (.aload_n 1, 1) := by decide +kernel
theorem dL_law_785 : decode code 785 = .ok (.aload_n 0, 1) := by decide +kernel
theorem dL_law_786 : decode code 786 = .ok (.iload_n 3, 1) := by decide +kernel
theorem dL_law_787 : decode code 787 = .ok (.iconst 1, 1) := by decide +kernel
theorem dL_law_788 : decode code 788 = .ok (.iadd, 1) := by decide +kernel
theorem dL_law_789 : decode code 789 = .ok (.iaload, 1) := by decide +kernel
theorem dL_law_790 : decode code 790 = .ok (.aload_n 0, 1) := by decide +kernel
theorem dL_law_791 : decode code 791 = .ok (.iload_n 3, 1) := by decide +kernel
theorem dL_law_792 : decode code 792 = .ok (.iconst 2, 1) := by decide +kernel
theorem dL_law_793 : decode code 793 = .ok (.iadd, 1) := by decide +kernel
theorem dL_law_794 : decode code 794 = .ok (.iaload, 1) := by decide +kernel
theorem dL_law_795 : decode code 795 = .ok (.invokevirtual 100, 3) := by decide +kernel
theorem dL_law_798 : decode code 798 = .ok (.aload_n 2, 1) := by decide +kernel
theorem dL_law_799 : decode code 799 = .ok (.aload_n 0, 1) := by decide +kernel
theorem dL_law_800 : decode code 800 = .ok (.iload_n 3, 1) := by decide +kernel
theorem dL_law_801 : decode code 801 = .ok (.iconst 1, 1) := by decide +kernel
theorem dL_law_802 : decode code 802 = .ok (.iadd, 1) := by decide +kernel
theorem dL_law_803 : decode code 803 = .ok (.iaload, 1) := by decide +kernel
theorem dL_law_804 : decode code 804 = .ok (.aload_n 0, 1) := by decide +kernel
theorem dL_law_805 : decode code 805 = .ok (.iload_n 3, 1) := by decide +kernel
theorem dL_law_806 : decode code 806 = .ok (.iconst 2, 1) := by decide +kernel
theorem dL_law_807 : decode code 807 = .ok (.iadd, 1) := by decide +kernel
theorem dL_law_808 : decode code 808 = .ok (.iaload, 1) := by decide +kernel
theorem dL_law_809 : decode code 809 = .ok (.invokevirtual 103, 3) := by decide +kernel
theorem dL_law_812 : decode code 812 = .ok (.if_icmp .eq 586, 3) := by decide +kernel
theorem dL_law_817 : decode code 817 = .ok (.aload_n 1, 1) := by decide +kernel
theorem dL_law_818 : decode code 818 = .ok (.aload_n 0, 1) := by decide +kernel
theorem dL_law_819 : decode code 819 = .ok (.iload_n 3, 1) := by decide +kernel
theorem dL_law_820 : decode code 820 = .ok (.iconst 1, 1) := by decide +kernel
theorem dL_law_821 : decode code 821 = .ok (.iadd, 1) := by decide +kernel
theorem dL_law_822 : decode code 822 = .ok (.iaload, 1) := by decide +kernel
theorem dL_law_823 : decode code 823 = .ok (.invokevirtual 104, 3) := by decide +kernel
theorem dL_law_826 : decode code 826 = .ok (.aload_n 2, 1) := by decide +kernel
theorem dL_law_827 : decode code 827 = .ok (.aload_n 0, 1) := by decide +kernel
theorem dL_law_828 : decode code 828 = .ok (.iload_n 3, 1) := by decide +kernel
theorem dL_law_829 : decode code 829 = .ok (.iconst 1, 1) := by decide +kernel
theorem dL_law_830 : decode code 830 = .ok (.iadd, 1) := by decide +kernel
theorem dL_law_831 : decode code 831 = .ok (.iaload, 1) := by decide +kernel
theorem dL_law_832 : decode code 832 = .ok (.invokevirtual 107, 3) := by decide +kernel
theorem dL_law_835 : decode code 835 = .ok (.if_icmp .eq 563, 3) := by decide +kernel
theorem dL_law_840 : decode code 840 = .ok (.aload_n 1, 1) := by decide +kernel
theorem dL_law_841 : decode code 841 = .ok (.aload_n 0, 1) := by decide +kernel
theorem dL_law_842 : decode code 842 = .ok (.iload_n 3, 1) := by decide +kernel
theorem dL_law_843 : decode code 843 = .ok (.iconst 1, 1) := by decide +kernel
theorem dL_law_844 : decode code 844 = .ok (.iadd, 1) := by decide +kernel
theorem dL_law_845 : decode code 845 = .ok (.iaload, 1) := by decide +kernel
theorem dL_law_846 : decode code 846 = .ok (.invokevirtual 108, 3) := by decide +kernel
theorem dL_law_849 : decode code 849 = .ok (.aload_n 2, 1) := by decide +kernel
theorem dL_law_850 : decode code 850 = .ok (.aload_n 0, 1) := by decide +kernel
theorem dL_law_851 : decode code 851 = .ok (.iload_n 3, 1) := by decide +kernel
theorem dL_law_852 : decode code 852 = .ok (.iconst 1, 1) := by decide +kernel
theorem dL_law_853 : decode code 853 = .ok (.iadd, 1) := by decide +kernel
theorem dL_law_854 : decode code 854 = .ok (.iaload, 1) := by decide +kernel
theorem dL_law_855 : decode code 855 = .ok (.invokevirtual 111, 3) := by decide +kernel
theorem dL_law_858 : decode code 858 = .ok (.if_icmp .eq 540, 3) := by decide +kernel
theorem dL_law_863 : decode code 863 = .ok (.aload_n 1, 1) := by decide +kernel
theorem dL_law_864 : decode code 864 = .ok (.invokevirtual 112, 3) := by decide +kernel
theorem dL_law_867 : decode code 867 = .ok (.aload_n 2, 1) := by decide +kernel
theorem dL_law_868 : decode code 868 = .ok (.invokevirtual 115, 3) := by decide +kernel
theorem dL_law_871 : decode code 871 = .ok (.if_icmp .eq 527, 3) := by decide +kernel
theorem dL_law_876 : decode code 876 = .ok (.aload_n 1, 1) := by decide +kernel
theorem dL_law_877 : decode code 877 = .ok (.aload_n 0, 1) := by decide +kernel
theorem dL_law_878 : decode code 878 = .ok (.iload_n 3, 1) := by decide +kernel
theorem dL_law_879 : decode code 879 = .ok (.iconst 1, 1) := by decide +kernel
theorem dL_law_880 : decode code 880 = .ok (.iadd, 1) := by decide +kernel
theorem dL_law_881 : decode code 881 = .ok (.iaload, 1) := by decide +kernel
theorem dL_law_882 : decode code 882 = .ok (.invokevirtual 116, 3) := by decide +kernel
theorem dL_law_885 : decode code 885 = .ok (.aload_n 2, 1) := by decide +kernel
theorem dL_law_886 : decode code 886 = .ok (.aload_n 0, 1) := by decide +kernel
theorem dL_law_887 : decode code 887 = .ok (.iload_n 3, 1) := by decide +kernel
theorem dL_law_888 : decode code 888 = .ok (.iconst 1, 1) := by decide +kernel
theorem dL_law_889 : decode code 889 = .ok (.iadd, 1) := by decide +kernel
theorem dL_law_890 : decode code 890 = .ok (.iaload, 1) := by decide +kernel
theorem dL_law_891 : decode code 891 = .ok (.invokevirtual 119, 3) := by decide +kernel
theorem dL_law_894 : decode code 894 = .ok (.if_icmp .eq 504, 3) := by decide +kernel
theorem dL_law_899 : decode code 899 = .ok (.aload_n 1, 1) := by decide +kernel
theorem dL_law_900 : decode code 900 = .ok (.aload_n 0, 1) := by decide +kernel
theorem dL_law_901 : decode code 901 = .ok (.iload_n 3, 1) := by decide +kernel
theorem dL_law_902 : decode code 902 = .ok (.iconst 1, 1) := by decide +kernel
theorem dL_law_903 : decode code 903 = .ok (.iadd, 1) := by decide +kernel
theorem dL_law_904 : decode code 904 = .ok (.iaload, 1) := by decide +kernel
theorem dL_law_905 : decode code 905 = .ok (.invokevirtual 120, 3) := by decide +kernel
theorem dL_law_908 : decode code 908 = .ok (.aload_n 2, 1) := by decide +kernel
theorem dL_law_909 : decode code 909 = .ok (.aload_n 0, 1) := by decide +kernel
theorem dL_law_910 : decode code 910 = .ok (.iload_n 3, 1) := by decide +kernel
theorem dL_law_911 : decode code 911 = .ok (.iconst 1, 1) := by decide +kernel
theorem dL_law_912 : decode code 912 = .ok (.iadd, 1) := by decide +kernel
theorem dL_law_913 : decode code 913 = .ok (.iaload, 1) := by decide +kernel
theorem dL_law_914 : decode code 914 = .ok (.invokevirtual 123, 3) := by decide +kernel
theorem dL_law_917 : decode code 917 = .ok (.if_icmp .eq 481, 3) := by decide +kernel
theorem dL_law_922 : decode code 922 = .ok (.aload_n 1, 1) := by decide +kernel
theorem dL_law_923 : decode code 923 = .ok (.aload_n 0, 1) := by decide +kernel
theorem dL_law_924 : decode code 924 = .ok (.iload_n 3, 1) := by decide +kernel
theorem dL_law_925 : decode code 925 = .ok (.iconst 1, 1) := by decide +kernel
theorem dL_law_926 : decode code 926 = .ok (.iadd, 1) := by decide +kernel
theorem dL_law_927 : decode code 927 = .ok (.iaload, 1) := by decide +kernel
theorem dL_law_928 : decode code 928 = .ok (.aload_n 0, 1) := by decide +kernel
theorem dL_law_929 : decode code 929 = .ok (.iload_n 3, 1) := by decide +kernel
theorem dL_law_930 : decode code 930 = .ok (.iconst 2, 1) := by decide +kernel
theorem dL_law_931 : decode code 931 = .ok (.iadd, 1) := by decide +kernel
theorem dL_law_932 : decode code 932 = .ok (.iaload, 1) := by decide +kernel
theorem dL_law_933 : decode code 933 = .ok (.invokevirtual 124, 3) := by decide +kernel
theorem dL_law_936 : decode code 936 = .ok (.aload_n 2, 1) := by decide +kernel
theorem dL_law_937 : decode code 937 = .ok (.aload_n 0, 1) := by decide +kernel
theorem dL_law_938 : decode code 938 = .ok (.iload_n 3, 1) := by decide +kernel
theorem dL_law_939 : decode code 939 = .ok (.iconst 1, 1) := by decide +kernel
theorem dL_law_940 : decode code 940 = .ok (.iadd, 1) := by decide +kernel
theorem dL_law_941 : decode code 941 = .ok (.iaload, 1) := by decide +kernel
theorem dL_law_942 : decode code 942 = .ok (.aload_n 0, 1) := by decide +kernel
theorem dL_law_943 : decode code 943 = .ok (.iload_n 3, 1) := by decide +kernel
theorem dL_law_944 : decode code 944 = .ok (.iconst 2, 1) := by decide +kernel
theorem dL_law_945 : decode code 945 = .ok (.iadd, 1) := by decide +kernel
theorem dL_law_946 : decode code 946 = .ok (.iaload, 1) := by decide +kernel
theorem dL_law_947 : decode code 947 = .ok (.invokevirtual 127, 3) := by decide +kernel
theorem dL_law_950 : decode code 950 = .ok (.if_icmp .eq 448, 3) := by decide +kernel
theorem dL_law_955 : decode code 955 = .ok (.aload_n 1, 1) := by decide +kernel
theorem dL_law_956 : decode code 956 = .ok (.aload_n 0, 1) := by decide +kernel
theorem dL_law_957 : decode code 957 = .ok (.iload_n 3, 1) := by decide +kernel
theorem dL_law_958 : decode code 958 = .ok (.iconst 1, 1) := by decide +kernel
theorem dL_law_959 : decode code 959 = .ok (.iadd, 1) := by decide +kernel
theorem dL_law_960 : decode code 960 = .ok (.iaload, 1) := by decide +kernel
theorem dL_law_961 : decode code 961 = .ok (.invokevirtual 128, 3) := by decide +kernel
theorem dL_law_964 : decode code 964 = .ok (.aload_n 2, 1) := by decide +kernel
theorem dL_law_965 : decode code 965 = .ok (.aload_n 0, 1) := by decide +kernel
theorem dL_law_966 : decode code 966 = .ok (.iload_n 3, 1) := by decide +kernel
theorem dL_law_967 : decode code 967 = .ok (.iconst 1, 1) := by decide +kernel
theorem dL_law_968 : decode code 968 = .ok (.iadd, 1) := by decide +kernel
theorem dL_law_969 : decode code 969 = .ok (.iaload, 1) := by decide +kernel
theorem dL_law_970 : decode code 970 = .ok (.invokevirtual 131, 3) := by decide +kernel
theorem dL_law_973 : decode code 973 = .ok (.if_icmp .eq 425, 3) := by decide +kernel
theorem dL_law_978 : decode code 978 = .ok (.aload_n 1, 1) := by decide +kernel
theorem dL_law_979 : decode code 979 = .ok (.aload_n 0, 1) := by decide +kernel
theorem dL_law_980 : decode code 980 = .ok (.iload_n 3, 1) := by decide +kernel
theorem dL_law_981 : decode code 981 = .ok (.iconst 1, 1) := by decide +kernel
theorem dL_law_982 : decode code 982 = .ok (.iadd, 1) := by decide +kernel
theorem dL_law_983 : decode code 983 = .ok (.iaload, 1) := by decide +kernel
theorem dL_law_984 : decode code 984 = .ok (.invokevirtual 132, 3) := by decide +kernel
theorem dL_law_987 : decode code 987 = .ok (.aload_n 2, 1) := by decide +kernel
theorem dL_law_988 : decode code 988 = .ok (.aload_n 0, 1) := by decide +kernel
theorem dL_law_989 : decode code 989 = .ok (.iload_n 3, 1) := by decide +kernel
theorem dL_law_990 : decode code 990 = .ok (.iconst 1, 1) := by decide +kernel
theorem dL_law_991 : decode code 991 = .ok (.iadd, 1) := by decide +kernel
theorem dL_law_992 : decode code 992 = .ok (.iaload, 1) := by decide +kernel
theorem dL_law_993 : decode code 993 = .ok (.invokevirtual 135, 3) := by decide +kernel
theorem dL_law_996 : decode code 996 = .ok (.if_icmp .eq 402, 3) := by decide +kernel
theorem dL_law_1001 : decode code 1001 = .ok (.aload_n 1, 1) := by decide +kernel
theorem dL_law_1002 : decode code 1002 = .ok (.aload_n 0, 1) := by decide +kernel
theorem dL_law_1003 : decode code 1003 = .ok (.iload_n 3, 1) := by decide +kernel
theorem dL_law_1004 : decode code 1004 = .ok (.iconst 1, 1) := by decide +kernel
theorem dL_law_1005 : decode code 1005 = .ok (.iadd, 1) := by decide +kernel
theorem dL_law_1006 : decode code 1006 = .ok (.iaload, 1) := by decide +kernel
theorem dL_law_1007 : decode code 1007 = .ok (.invokevirtual 136, 3) := by decide +kernel
theorem dL_law_1010 : decode code 1010 = .ok (.aload_n 2, 1) := by decide +kernel
theorem dL_law_1011 : decode code 1011 = .ok (.aload_n 0, 1) := by decide +kernel
theorem dL_law_1012 : decode code 1012 = .ok (.iload_n 3, 1) := by decide +kernel
theorem dL_law_1013 : decode code 1013 = .ok (.iconst 1, 1) := by decide +kernel
theorem dL_law_1014 : decode code 1014 = .ok (.iadd, 1) := by decide +kernel
theorem dL_law_1015 : decode code 1015 = .ok (.iaload, 1) := by decide +kernel
theorem dL_law_1016 : decode code 1016 = .ok (.invokevirtual 139, 3) := by decide +kernel
theorem dL_law_1019 : decode code 1019 = .ok (.if_icmp .eq 379, 3) := by decide +kernel
theorem dL_law_1024 : decode code 1024 = .ok (.aload_n 1, 1) := by decide +kernel
theorem dL_law_1025 : decode code 1025 = .ok (.aload_n 0, 1) := by decide +kernel
theorem dL_law_1026 : decode code 1026 = .ok (.iload_n 3, 1) := by decide +kernel
theorem dL_law_1027 : decode code 1027 = .ok (.iconst 1, 1) := by decide +kernel
theorem dL_law_1028 : decode code 1028 = .ok (.iadd, 1) := by decide +kernel
theorem dL_law_1029 : decode code 1029 = .ok (.iaload, 1) := by decide +kernel
theorem dL_law_1030 : decode code 1030 = .ok (.invokevirtual 140, 3) := by decide +kernel
theorem dL_law_1033 : decode code 1033 = .ok (.aload_n 2, 1) := by decide +kernel
theorem dL_law_1034 : decode code 1034 = .ok (.aload_n 0, 1) := by decide +kernel
theorem dL_law_1035 : decode code 1035 = .ok (.iload_n 3, 1) := by decide +kernel
theorem dL_law_1036 : decode code 1036 = .ok (.iconst 1, 1) := by decide +kernel
theorem dL_law_1037 : decode code 1037 = .ok (.iadd, 1) := by decide +kernel
theorem dL_law_1038 : decode code 1038 = .ok (.iaload, 1) := by decide +kernel
theorem dL_law_1039 : decode code 1039 = .ok (.invokevirtual 143, 3) := by decide +kernel
theorem dL_law_1042 : decode code 1042 = .ok (.if_icmp .eq 356, 3) := by decide +kernel
theorem dL_law_1047 : decode code 1047 = .ok (.aload_n 1, 1) := by decide +kernel
theorem dL_law_1048 : decode code 1048 = .ok (.aload_n 0, 1) := by decide +kernel
theorem dL_law_1049 : decode code 1049 = .ok (.iload_n 3, 1) := by decide +kernel
theorem dL_law_1050 : decode code 1050 = .ok (.iconst 1, 1) := by decide +kernel
theorem dL_law_1051 : decode code 1051 = .ok (.iadd, 1) := by decide +kernel
theorem dL_law_1052 : decode code 1052 = .ok (.iaload, 1) := by decide +kernel
theorem dL_law_1053 : decode code 1053 = .ok (.aload_n 0, 1) := by decide +kernel
theorem dL_law_1054 : decode code 1054 = .ok (.iload_n 3, 1) := by decide +kernel
theorem dL_law_1055 : decode code 1055 = .ok (.iconst 2, 1) := by decide +kernel
theorem dL_law_1056 : decode code 1056 = .ok (.iadd, 1) := by decide +kernel
theorem dL_law_1057 : decode code 1057 = .ok (.iaload, 1) := by decide +kernel
theorem dL_law_1058 : decode code 1058 = .ok (.aload_n 0, 1) := by decide +kernel
theorem dL_law_1059 : decode code 1059 = .ok (.iload_n 3, 1) := by decide +kernel
theorem dL_law_1060 : decode code 1060 = .ok (.iconst 3, 1) := by decide +kernel
theorem dL_law_1061 : decode code 1061 = .ok (.iadd, 1) := by decide +kernel
theorem dL_law_1062 : decode code 1062 = .ok (.iaload, 1) := by decide +kernel
theorem dL_law_1063 : decode code 1063 = .ok (.invokevirtual 144, 3) := by decide +kernel
theorem dL_law_1066 : decode code 1066 = .ok (.aload_n 2, 1) := by decide +kernel
theorem dL_law_1067 : decode code 1067 = .ok (.aload_n 0, 1) := by decide +kernel
theorem dL_law_1068 : decode code 1068 = .ok (.iload_n 3, 1) := by decide +kernel
theorem dL_law_1069 : decode code 1069 = .ok (.iconst 1, 1) := by decide +kernel
theorem dL_law_1070 : decode code 1070 = .ok (.iadd, 1) := by decide +kernel
theorem dL_law_1071 : decode code 1071 = .ok (.iaload, 1) := by decide +kernel
theorem dL_law_1072 : decode code 1072 = .ok (.aload_n 0, 1) := by decide +kernel
theorem dL_law_1073 : decode code 1073 = .ok (.iload_n 3, 1) := by decide +kernel
theorem dL_law_1074 : decode code 1074 = .ok (.iconst 2, 1) := by decide +kernel
theorem dL_law_1075 : decode code 1075 = .ok (.iadd, 1) := by decide +kernel
theorem dL_law_1076 : decode code 1076 = .ok (.iaload, 1) := by decide +kernel
theorem dL_law_1077 : decode code 1077 = .ok (.aload_n 0, 1) := by decide +kernel
theorem dL_law_1078 : decode code 1078 = .ok (.iload_n 3, 1) := by decide +kernel
theorem dL_law_1079 : decode code 1079 = .ok (.iconst 3, 1) := by decide +kernel
theorem dL_law_1080 : decode code 1080 = .ok (.iadd, 1) := by decide +kernel
theorem dL_law_1081 : decode code 1081 = .ok (.iaload, 1) := by decide +kernel
theorem dL_law_1082 : decode code 1082 = .ok (.invokevirtual 147, 3) := by decide +kernel
theorem dL_law_1085 : decode code 1085 = .ok (.if_icmp .eq 313, 3) := by decide +kernel
theorem dL_law_1090 : decode code 1090 = .ok (.aload_n 1, 1) := by decide +kernel
theorem dL_law_1091 : decode code 1091 = .ok (.aload_n 0, 1) := by decide +kernel
theorem dL_law_1092 : decode code 1092 = .ok (.iload_n 3, 1) := by decide +kernel
theorem dL_law_1093 : decode code 1093 = .ok (.iconst 1, 1) := by decide +kernel
theorem dL_law_1094 : decode code 1094 = .ok (.iadd, 1) := by decide +kernel
theorem dL_law_1095 : decode code 1095 = .ok (.iaload, 1) := by decide +kernel
theorem dL_law_1096 : decode code 1096 = .ok (.invokevirtual 148, 3) := by decide +kernel
theorem dL_law_1099 : decode code 1099 = .ok (.aload_n 2, 1) := by decide +kernel
theorem dL_law_1100 : decode code 1100 = .ok (.aload_n 0, 1) := by decide +kernel
theorem dL_law_1101 : decode code 1101 = .ok (.iload_n 3, 1) := by decide +kernel
theorem dL_law_1102 : decode code 1102 = .ok (.iconst 1, 1) := by decide +kernel
theorem dL_law_1103 : decode code 1103 = .ok (.iadd, 1) := by decide +kernel
theorem dL_law_1104 : decode code 1104 = .ok (.iaload, 1) := by decide +kernel
theorem dL_law_1105 : decode code 1105 = .ok (.invokevirtual 151, 3) := by decide +kernel
theorem dL_law_1108 : decode code 1108 = .ok (.if_icmp .eq 290, 3) := by decide +kernel
theorem dL_law_1113 : decode code 1113 = .ok (.aload_n 1, 1) := by decide +kernel
theorem dL_law_1114 : decode code 1114 = .ok (.aload_n 0, 1) := by decide +kernel
theorem dL_law_1115 : decode code 1115 = .ok (.iload_n 3, 1) := by decide +kernel
theorem dL_law_1116 : decode code 1116 = .ok (.iconst 1, 1) := by decide +kernel
theorem dL_law_1117 : decode code 1117 = .ok (.iadd, 1) := by decide +kernel
theorem dL_law_1118 : decode code 1118 = .ok (.iaload, 1) := by decide +kernel
theorem dL_law_1119 : decode code 1119 = .ok (.aload_n 0, 1) := by decide +kernel
theorem dL_law_1120 : decode code 1120 = .ok (.iload_n 3, 1) := by decide +kernel
theorem dL_law_1121 : decode code 1121 = .ok (.iconst 2, 1) := by decide +kernel
theorem dL_law_1122 : decode code 1122 = .ok (.iadd, 1) := by decide +kernel
theorem dL_law_1123 : decode code 1123 = .ok (.iaload, 1) := by decide +kernel
theorem dL_law_1124 : decode code 1124 = .ok (.invokevirtual 152, 3) := by decide +kernel
theorem dL_law_1127 : decode code 1127 = .ok (.aload_n 2, 1) := by decide +kernel
theorem dL_law_1128 : decode code 1128 = .ok (.aload_n 0, 1) := by decide +kernel
theorem dL_law_1129 : decode code 1129 = .ok (.iload_n 3, 1) := by decide +kernel
theorem dL_law_1130 : decode code 1130 = .ok (.iconst 1, 1) := by decide +kernel
theorem dL_law_1131 : decode code 1131 = .ok (.iadd, 1) := by decide +kernel
theorem dL_law_1132 : decode code 1132 = .ok (.iaload, 1) := by decide +kernel
theorem dL_law_1133 : decode code 1133 = .ok (.aload_n 0, 1) := by decide +kernel
theorem dL_law_1134 : decode code 1134 = .ok (.iload_n 3, 1) := by decide +kernel
theorem dL_law_1135 : decode code 1135 = .ok (.iconst 2, 1) := by decide +kernel
theorem dL_law_1136 : decode code 1136 = .ok (.iadd, 1) := by decide +kernel
theorem dL_law_1137 : decode code 1137 = .ok (.iaload, 1) := by decide +kernel
theorem dL_law_1138 : decode code 1138 = .ok (.invokevirtual 155, 3) := by decide +kernel
theorem dL_law_1141 : decode code 1141 = .ok (.if_icmp .eq 257, 3) := by decide +kernel
theorem dL_law_1146 : decode code 1146 = .ok (.aload_n 1, 1) := by decide +kernel
theorem dL_law_1147 : decode code 1147 = .ok (.aload_n 0, 1) := by decide +kernel
theorem dL_law_1148 : decode code 1148 = .ok (.iload_n 3, 1) := by decide +kernel
theorem dL_law_1149 : decode code 1149 = .ok (.iconst 1, 1) := by decide +kernel
theorem dL_law_1150 : decode code 1150 = .ok (.iadd, 1) := by decide +kernel
theorem dL_law_1151 : decode code 1151 = .ok (.iaload, 1) := by decide +kernel
theorem dL_law_1152 : decode code 1152 = .ok (.aload_n 0, 1) := by decide +kernel
theorem dL_law_1153 : decode code 1153 = .ok (.iload_n 3, 1) := by decide +kernel
theorem dL_law_1154 : decode code 1154 = .ok (.iconst 2, 1) := by decide +kernel
theorem dL_law_1155 : decode code 1155 = .ok (.iadd, 1) := by decide +kernel
theorem dL_law_1156 : decode code 1156 = .ok (.iaload, 1) := by decide +kernel
theorem dL_law_1157 : decode code 1157 = .ok (.invokevirtual 156, 3) := by decide +kernel
theorem dL_law_1160 : decode code 1160 = .ok (.aload_n 2, 1) := by decide +kernel
theorem dL_law_1161 : decode code 1161 = .ok (.aload_n 0, 1) := by decide +kernel
theorem dL_law_1162 : decode code 1162 = .ok (.iload_n 3, 1) := by decide +kernel
theorem dL_law_1163 : decode code 1163 = .ok (.iconst 1, 1) := by decide +kernel
theorem dL_law_1164 : decode code 1164 = .ok (.iadd, 1) := by decide +kernel
theorem dL_law_1165 : decode code 1165 = .ok (.iaload, 1) := by decide +kernel
theorem dL_law_1166 : decode code 1166 = .ok (.aload_n 0, 1) := by decide +kernel
theorem dL_law_1167 : decode code 1167 = .ok (.iload_n 3, 1) := by decide +kernel
theorem dL_law_1168 : decode code 1168 = .ok (.iconst 2, 1) := by decide +kernel
theorem dL_law_1169 : decode code 1169 = .ok (.iadd, 1) := by decide +kernel
theorem dL_law_1170 : decode code 1170 = .ok (.iaload, 1) := by decide +kernel
theorem dL_law_1171 : decode code 1171 = .ok (.invokevirtual 159, 3) := by decide +kernel
theorem dL_law_1174 : decode code 1174 = .ok (.if_icmp .eq 224, 3) := by decide +kernel
theorem dL_law_1179 : decode code 1179 = .ok (.aload_n 1, 1) := by decide +kernel
theorem dL_law_1180 : decode code 1180 = .ok (.aload_n 0, 1) := by decide +kernel
theorem dL_law_1181 : decode code 1181 = .ok (.iload_n 3, 1) := by decide +kernel
theorem dL_law_1182 : decode code 1182 = .ok (.iconst 1, 1) := by decide +kernel
theorem dL_law_1183 : decode code 1183 = .ok (.iadd, 1) := by decide +kernel
theorem dL_law_1184 : decode code 1184 = .ok (.iaload, 1) := by decide +kernel
theorem dL_law_1185 : decode code 1185 = .ok (.aload_n 0, 1) := by decide +kernel
theorem dL_law_1186 : decode code 1186 = .ok (.iload_n 3, 1) := by decide +kernel
theorem dL_law_1187 : decode code 1187 = .ok (.iconst 2, 1) := by decide +kernel
theorem dL_law_1188 : decode code 1188 = .ok (.iadd, 1) := by decide +kernel
theorem dL_law_1189 : decode code 1189 = .ok (.iaload, 1) := by decide +kernel
theorem dL_law_1190 : decode code 1190 = .ok (.aload_n 0, 1) := by decide +kernel
theorem dL_law_1191 : decode code 1191 = .ok (.iload_n 3, 1) := by decide +kernel
theorem dL_law_1192 : decode code 1192 = .ok (.iconst 3, 1) := by decide +kernel
theorem dL_law_1193 : decode code 1193 = .ok (.iadd, 1) := by decide +kernel
theorem dL_law_1194 : decode code 1194 = .ok (.iaload, 1) := by decide +kernel
theorem dL_law_1195 : decode code 1195 = .ok (.invokevirtual 160, 3) := by decide +kernel
theorem dL_law_1198 : decode code 1198 = .ok (.aload_n 2, 1) := by decide +kernel
theorem dL_law_1199 : decode code 1199 = .ok (.aload_n 0, 1) := by decide +kernel
theorem dL_law_1200 : decode code 1200 = .ok (.iload_n 3, 1) := by decide +kernel
theorem dL_law_1201 : decode code 1201 = .ok (.iconst 1, 1) := by decide +kernel
theorem dL_law_1202 : decode code 1202 = .ok (.iadd, 1) := by decide +kernel
theorem dL_law_1203 : decode code 1203 = .ok (.iaload, 1) := by decide +kernel
theorem dL_law_1204 : decode code 1204 = .ok (.aload_n 0, 1) := by decide +kernel
theorem dL_law_1205 : decode code 1205 = .ok (.iload_n 3, 1) := by decide +kernel
theorem dL_law_1206 : decode code 1206 = .ok (.iconst 2, 1) := by decide +kernel
theorem dL_law_1207 : decode code 1207 = .ok (.iadd, 1) := by decide +kernel
theorem dL_law_1208 : decode code 1208 = .ok (.iaload, 1) := by decide +kernel
theorem dL_law_1209 : decode code 1209 = .ok (.aload_n 0, 1) := by decide +kernel
theorem dL_law_1210 : decode code 1210 = .ok (.iload_n 3, 1) := by decide +kernel
theorem dL_law_1211 : decode code 1211 = .ok (.iconst 3, 1) := by decide +kernel
theorem dL_law_1212 : decode code 1212 = .ok (.iadd, 1) := by decide +kernel
theorem dL_law_1213 : decode code 1213 = .ok (.iaload, 1) := by decide +kernel
theorem dL_law_1214 : decode code 1214 = .ok (.invokevirtual 163, 3) := by decide +kernel
