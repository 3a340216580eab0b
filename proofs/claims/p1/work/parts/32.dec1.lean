/-! the law's instructions -/
theorem dl_641 : decode code 641 = .ok (.iload 4, 2) := by decide +kernel
theorem dl_643 : decode code 643 = .ok (.iconst 2, 1) := by decide +kernel
theorem dl_644 : decode code 644 = .ok (.iadd, 1) := by decide +kernel
theorem dl_645 : decode code 645 = .ok (.iaload, 1) := by decide +kernel
theorem dl_646 : decode code 646 = .ok (.aload_n 0, 1) := by decide +kernel
theorem dl_647 : decode code 647 = .ok (.iload 4, 2) := by decide +kernel
theorem dl_649 : decode code 649 = .ok (.iconst 3, 1) := by decide +kernel
theorem dl_650 : decode code 650 = .ok (.iadd, 1) := by decide +kernel
theorem dl_651 : decode code 651 = .ok (.iaload, 1) := by decide +kernel
theorem dl_652 : decode code 652 = .ok (.invokevirtual 70, 3) := by decide +kernel
theorem dl_655 : decode code 655 = .ok (.aload_n 2, 1) := by decide +kernel
theorem dl_656 : decode code 656 = .ok (.aload_n 0, 1) := by decide +kernel
theorem dl_657 : decode code 657 = .ok (.iload 4, 2) := by decide +kernel
theorem dl_659 : decode code 659 = .ok (.iconst 1, 1) := by decide +kernel
theorem dl_660 : decode code 660 = .ok (.iadd, 1) := by decide +kernel
theorem dl_661 : decode code 661 = .ok (.iaload, 1) := by decide +kernel
theorem dl_662 : decode code 662 = .ok (.aload_n 0, 1) := by decide +kernel
theorem dl_663 : decode code 663 = .ok (.iload 4, 2) := by decide +kernel
theorem dl_665 : decode code 665 = .ok (.iconst 2, 1) := by decide +kernel
theorem dl_666 : decode code 666 = .ok (.iadd, 1) := by decide +kernel
theorem dl_667 : decode code 667 = .ok (.iaload, 1) := by decide +kernel
theorem dl_668 : decode code 668 = .ok (.aload_n 0, 1) := by decide +kernel
theorem dl_669 : decode code 669 = .ok (.iload 4, 2) := by decide +kernel
theorem dl_671 : decode code 671 = .ok (.iconst 3, 1) := by decide +kernel
theorem dl_672 : decode code 672 = .ok (.iadd, 1) := by decide +kernel
theorem dl_673 : decode code 673 = .ok (.iaload, 1) := by decide +kernel
theorem dl_674 : decode code 674 = .ok (.invokevirtual 73, 3) := by decide +kernel
theorem dl_677 : decode code 677 = .ok (.if_icmp .eq 893, 3) := by decide +kernel
theorem dl_680 : decode code 680 = .ok (.iconst 0, 1) := by decide +kernel
theorem dl_681 : decode code 681 = .ok (.ireturn, 1) := by decide +kernel
theorem dl_682 : decode code 682 = .ok (.aload_n 1, 1) := by decide +kernel
theorem dl_683 : decode code 683 = .ok (.aload_n 0, 1) := by decide +kernel
theorem dl_684 : decode code 684 = .ok (.iload 4, 2) := by decide +kernel
theorem dl_686 : decode code 686 = .ok (.iconst 1, 1) := by decide +kernel
theorem dl_687 : decode code 687 = .ok (.iadd, 1) := by decide +kernel
theorem dl_688 : decode code 688 = .ok (.iaload, 1) := by decide +kernel
theorem dl_689 : decode code 689 = .ok (.aload_n 0, 1) := by decide +kernel
theorem dl_690 : decode code 690 = .ok (.iload 4, 2) := by decide +kernel
theorem dl_692 : decode code 692 = .ok (.iconst 2, 1) := by decide +kernel
theorem dl_693 : decode code 693 = .ok (.iadd, 1) := by decide +kernel
theorem dl_694 : decode code 694 = .ok (.iaload, 1) := by decide +kernel
theorem dl_695 : decode code 695 = .ok (.invokevirtual 74, 3) := by decide +kernel
theorem dl_698 : decode code 698 = .ok (.aload_n 2, 1) := by decide +kernel
theorem dl_699 : decode code 699 = .ok (.aload_n 0, 1) := by decide +kernel
theorem dl_700 : decode code 700 = .ok (.iload 4, 2) := by decide +kernel
theorem dl_702 : decode code 702 = .ok (.iconst 1, 1) := by decide +kernel
theorem dl_703 : decode code 703 = .ok (.iadd, 1) := by decide +kernel
theorem dl_704 : decode code 704 = .ok (.iaload, 1) := by decide +kernel
theorem dl_705 : decode code 705 = .ok (.aload_n 0, 1) := by decide +kernel
theorem dl_706 : decode code 706 = .ok (.iload 4, 2) := by decide +kernel
theorem dl_708 : decode code 708 = .ok (.iconst 2, 1) := by decide +kernel
theorem dl_709 : decode code 709 = .ok (.iadd, 1) := by decide +kernel
theorem dl_710 : decode code 710 = .ok (.iaload, 1) := by decide +kernel
theorem dl_711 : decode code 711 = .ok (.invokevirtual 77, 3) := by decide +kernel
theorem dl_714 : decode code 714 = .ok (.if_icmp .eq 856, 3) := by decide +kernel
theorem dl_717 : decode code 717 = .ok (.iconst 0, 1) := by decide +kernel
theorem dl_718 : decode code 718 = .ok (.ireturn, 1) := by decide +kernel
theorem dl_719 : decode code 719 = .ok (.aload_n 1, 1) := by decide +kernel
theorem dl_720 : decode code 720 = .ok (.aload_n 0, 1) := by decide +kernel
theorem dl_721 : decode code 721 = .ok (.iload 4, 2) := by decide +kernel
theorem dl_723 : decode code 723 = .ok (.iconst 1, 1) := by decide +kernel
theorem dl_724 : decode code 724 = .ok (.iadd, 1) := by decide +kernel
theorem dl_725 : decode code 725 = .ok (.iaload, 1) := by decide +kernel
theorem dl_726 : decode code 726 = .ok (.invokevirtual 78, 3) := by decide +kernel
theorem dl_729 : decode code 729 = .ok (.aload_n 2, 1) := by decide +kernel
theorem dl_730 : decode code 730 = .ok (.aload_n 0, 1) := by decide +kernel
theorem dl_731 : decode code 731 = .ok (.iload 4, 2) := by decide +kernel
theorem dl_733 : decode code 733 = .ok (.iconst 1, 1) := by decide +kernel
theorem dl_734 : decode code 734 = .ok (.iadd, 1) := by decide +kernel
theorem dl_735 : decode code 735 = .ok (.iaload, 1) := by decide +kernel
theorem dl_736 : decode code 736 = .ok (.invokevirtual 81, 3) := by decide +kernel
theorem dl_739 : decode code 739 = .ok (.if_icmp .eq 831, 3) := by decide +kernel
theorem dl_742 : decode code 742 = .ok (.iconst 0, 1) := by decide +kernel
theorem dl_743 : decode code 743 = .ok (.ireturn, 1) := by decide +kernel
theorem dl_744 : decode code 744 = .ok (.aload_n 1, 1) := by decide +kernel
theorem dl_745 : decode code 745 = .ok (.aload_n 0, 1) := by decide +kernel
theorem dl_746 : decode code 746 = .ok (.iload 4, 2) := by decide +kernel
theorem dl_748 : decode code 748 = .ok (.iconst 1, 1) := by decide +kernel
theorem dl_749 : decode code 749 = .ok (.iadd, 1) := by decide +kernel
theorem dl_750 : decode code 750 = .ok (.iaload, 1) := by decide +kernel
theorem dl_751 : decode code 751 = .ok (.aload_n 0, 1) := by decide +kernel
theorem dl_752 : decode code 752 = .ok (.iload 4, 2) := by decide +kernel
theorem dl_754 : decode code 754 = .ok (.iconst 2, 1) := by decide +kernel
theorem dl_755 : decode code 755 = .ok (.iadd, 1) := by decide +kernel
theorem dl_756 : decode code 756 = .ok (.iaload, 1) := by decide +kernel
theorem dl_757 : decode code 757 = .ok (.invokevirtual 82, 3) := by decide +kernel
theorem dl_760 : decode code 760 = .ok (.aload_n 2, 1) := by decide +kernel
theorem dl_761 : decode code 761 = .ok (.aload_n 0, 1) := by decide +kernel
theorem dl_762 : decode code 762 = .ok (.iload 4, 2) := by decide +kernel
theorem dl_764 : decode code 764 = .ok (.iconst 1, 1) := by decide +kernel
theorem dl_765 : decode code 765 = .ok (.iadd, 1) := by decide +kernel
theorem dl_766 : decode code 766 = .ok (.iaload, 1) := by decide +kernel
theorem dl_767 : decode code 767 = .ok (.aload_n 0, 1) := by decide +kernel
theorem dl_768 : decode code 768 = .ok (.iload 4, 2) := by decide +kernel
theorem dl_770 : decode code 770 = .ok (.iconst 2, 1) := by decide +kernel
theorem dl_771 : decode code 771 = .ok (.iadd, 1) := by decide +kernel
theorem dl_772 : decode code 772 = .ok (.iaload, 1) := by decide +kernel
theorem dl_773 : decode code 773 = .ok (.invokevirtual 85, 3) := by decide +kernel
theorem dl_776 : decode code 776 = .ok (.if_icmp .eq 794, 3) := by decide +kernel
theorem dl_779 : decode code 779 = .ok (.iconst 0, 1) := by decide +kernel
theorem dl_780 : decode code 780 = .ok (.ireturn, 1) := by decide +kernel
theorem dl_781 : decode code 781 = .ok (.aload_n 1, 1) := by decide +kernel
theorem dl_782 : decode code 782 = .ok (.aload_n 0, 1) := by decide +kernel
theorem dl_783 : decode code 783 = .ok (.iload 4, 2) := by decide +kernel
theorem dl_785 : decode code 785 = .ok (.iconst 1, 1) := by decide +kernel
theorem dl_786 : decode code 786 = .ok (.iadd, 1) := by decide +kernel
theorem dl_787 : decode code 787 = .ok (.iaload, 1) := by decide +kernel
theorem dl_788 : decode code 788 = .ok (.invokevirtual 86, 3) := by decide +kernel
theorem dl_791 : decode code 791 = .ok (.aload_n 2, 1) := by decide +kernel
theorem dl_792 : decode code 792 = .ok (.aload_n 0, 1) := by decide +kernel
theorem dl_793 : decode code 793 = .ok (.iload 4, 2) := by decide +kernel
theorem dl_795 : decode code 795 = .ok (.iconst 1, 1) := by decide +kernel
theorem dl_796 : decode code 796 = .ok (.iadd, 1) := by decide +kernel
theorem dl_797 : decode code 797 = .ok (.iaload, 1) := by decide +kernel
theorem dl_798 : decode code 798 = .ok (.invokevirtual 89, 3) := by decide +kernel
theorem dl_801 : decode code 801 = .ok (.if_icmp .eq 769, 3) := by decide +kernel
theorem dl_804 : decode code 804 = .ok (.iconst 0, 1) := by decide +kernel
theorem dl_805 : decode code 805 = .ok (.ireturn, 1) := by decide +kernel
theorem dl_806 : decode code 806 = .ok (.aload_n 1, 1) := by decide +kernel
theorem dl_807 : decode code 807 = .ok (.aload_n 0, 1) := by decide +kernel
theorem dl_808 : decode code 808 = .ok (.iload 4, 2) := by decide +kernel
theorem dl_810 : decode code 810 = .ok (.iconst 1, 1) := by decide +kernel
theorem dl_811 : decode code 811 = .ok (.iadd, 1) := by decide +kernel
theorem dl_812 : decode code 812 = .ok (.iaload, 1) := by decide +kernel
theorem dl_813 : decode code 813 = .ok (.invokevirtual 90, 3) := by decide +kernel
theorem dl_816 : decode code 816 = .ok (.aload_n 2, 1) := by decide +kernel
theorem dl_817 : decode code 817 = .ok (.aload_n 0, 1) := by decide +kernel
theorem dl_818 : decode code 818 = .ok (.iload 4, 2) := by decide +kernel
theorem dl_820 : decode code 820 = .ok (.iconst 1, 1) := by decide +kernel
theorem dl_821 : decode code 821 = .ok (.iadd, 1) := by decide +kernel
theorem dl_822 : decode code 822 = .ok (.iaload, 1) := by decide +kernel
theorem dl_823 : decode code 823 = .ok (.invokevirtual 93, 3) := by decide +kernel
theorem dl_826 : decode code 826 = .ok (.if_icmp .eq 744, 3) := by decide +kernel
theorem dl_829 : decode code 829 = .ok (.iconst 0, 1) := by decide +kernel
theorem dl_830 : decode code 830 = .ok (.ireturn, 1) := by decide +kernel
theorem dl_831 : decode code 831 = .ok (.aload_n 1, 1) := by decide +kernel
theorem dl_832 : decode code 832 = .ok (.aload_n 0, 1) := by decide +kernel
theorem dl_833 : decode code 833 = .ok (.iload 4, 2) := by decide +kernel
theorem dl_835 : decode code 835 = .ok (.iconst 1, 1) := by decide +kernel
theorem dl_836 : decode code 836 = .ok (.iadd, 1) := by decide +kernel
theorem dl_837 : decode code 837 = .ok (.iaload, 1) := by decide +kernel
theorem dl_838 : decode code 838 = .ok (.invokevirtual 94, 3) := by decide +kernel
theorem dl_841 : decode code 841 = .ok (.aload_n 2, 1) := by decide +kernel
theorem dl_842 : decode code 842 = .ok (.aload_n 0, 1) := by decide +kernel
theorem dl_843 : decode code 843 = .ok (.iload 4, 2) := by decide +kernel
theorem dl_845 : decode code 845 = .ok (.iconst 1, 1) := by decide +kernel
theorem dl_846 : decode code 846 = .ok (.iadd, 1) := by decide +kernel
theorem dl_847 : decode code 847 = .ok (.iaload, 1) := by decide +kernel
theorem dl_848 : decode code 848 = .ok (.invokevirtual 97, 3) := by decide +kernel
theorem dl_851 : decode code 851 = .ok (.if_icmp .eq 719, 3) := by decide +kernel
theorem dl_854 : decode code 854 = .ok (.iconst 0, 1) := by decide +kernel
theorem dl_855 : decode code 855 = .ok (.ireturn, 1) := by decide +kernel
theorem dl_856 : decode code 856 = .ok (.aload_n 1, 1) := by decide +kernel
theorem dl_857 : decode code 857 = .ok (.aload_n 0, 1) := by decide +kernel
theorem dl_858 : decode code 858 = .ok (.iload 4, 2) := by decide +kernel
theorem dl_860 : decode code 860 = .ok (.iconst 1, 1) := by decide +kernel
theorem dl_861 : decode code 861 = .ok (.iadd, 1) := by decide +kernel
theorem dl_862 : decode code 862 = .ok (.iaload, 1) := by decide +kernel
theorem dl_863 : decode code 863 = .ok (.aload_n 0, 1) := by decide +kernel
theorem dl_864 : decode code 864 = .ok (.iload 4, 2) := by decide +kernel
theorem dl_866 : decode code 866 = .ok (.iconst 2, 1) := by decide +kernel
theorem dl_867 : decode code 867 = .ok (.iadd, 1) := by decide +kernel
theorem dl_868 : decode code 868 = .ok (.iaload, 1) := by decide +kernel
theorem dl_869 : decode code 869 = .ok (.aload_n 0, 1) := by decide +kernel
theorem dl_870 : decode code 870 = .ok (.iload 4, 2) := by decide +kernel
theorem dl_872 : decode code 872 = .ok (.iconst 3, 1) := by decide +kernel
theorem dl_873 : decode code 873 = .ok (.iadd, 1) := by decide +kernel
theorem dl_874 : decode code 874 = .ok (.iaload, 1) := by decide +kernel
theorem dl_875 : decode code 875 = .ok (.invokevirtual 98, 3) := by decide +kernel
theorem dl_878 : decode code 878 = .ok (.aload_n 2, 1) := by decide +kernel
theorem dl_879 : decode code 879 = .ok (.aload_n 0, 1) := by decide +kernel
theorem dl_880 : decode code 880 = .ok (.iload 4, 2) := by decide +kernel
theorem dl_882 : decode code 882 = .ok (.iconst 1, 1) := by decide +kernel
theorem dl_883 : decode code 883 = .ok (.iadd, 1) := by decide +kernel
theorem dl_884 : decode code 884 = .ok (.iaload, 1) := by decide +kernel
theorem dl_885 : decode code 885 = .ok (.aload_n 0, 1) := by decide +kernel
theorem dl_886 : decode code 886 = .ok (.iload 4, 2) := by decide +kernel
theorem dl_888 : decode code 888 = .ok (.iconst 2, 1) := by decide +kernel
theorem dl_889 : decode code 889 = .ok (.iadd, 1) := by decide +kernel
theorem dl_890 : decode code 890 = .ok (.iaload, 1) := by decide +kernel
theorem dl_891 : decode code 891 = .ok (.aload_n 0, 1) := by decide +kernel
theorem dl_892 : decode code 892 = .ok (.iload 4, 2) := by decide +kernel
theorem dl_894 : decode code 894 = .ok (.iconst 3, 1) := by decide +kernel
theorem dl_895 : decode code 895 = .ok (.iadd, 1) := by decide +kernel
theorem dl_896 : decode code 896 = .ok (.iaload, 1) := by decide +kernel
theorem dl_897 : decode code 897 = .ok (.invokevirtual 101, 3) := by decide +kernel
theorem dl_900 : decode code 900 = .ok (.if_icmp .eq 670, 3) := by decide +kernel
theorem dl_903 : decode code 903 = .ok (.iconst 0, 1) := by decide +kernel
theorem dl_904 : decode code 904 = .ok (.ireturn, 1) := by decide +kernel
theorem dl_905 : decode code 905 = .ok (.aload_n 1, 1) := by decide +kernel
theorem dl_906 : decode code 906 = .ok (.aload_n 0, 1) := by decide +kernel
theorem dl_907 : decode code 907 = .ok (.iload 4, 2) := by decide +kernel
theorem dl_909 : decode code 909 = .ok (.iconst 1, 1) := by decide +kernel
theorem dl_910 : decode code 910 = .ok (.iadd, 1) := by decide +kernel
theorem dl_911 : decode code 911 = .ok (.iaload, 1) := by decide +kernel
theorem dl_912 : decode code 912 = .ok (.aload_n 0, 1) := by decide +kernel
theorem dl_913 : decode code 913 = .ok (.iload 4, 2) := by decide +kernel
theorem dl_915 : decode code 915 = .ok (.iconst 2, 1) := by decide +kernel
theorem dl_916 : decode code 916 = .ok (.iadd, 1) := by decide +kernel
theorem dl_917 : decode code 917 = .ok (.iaload, 1) := by decide +kernel
theorem dl_918 : decode code 918 = .ok (.aload_n 0, 1) := by decide +kernel
theorem dl_919 : decode code 919 = .ok (.iload 4, 2) := by decide +kernel
theorem dl_921 : decode code 921 = .ok (.iconst 3, 1) := by decide +kernel
theorem dl_922 : decode code 922 = .ok (.iadd, 1) := by decide +kernel
theorem dl_923 : decode code 923 = .ok (.iaload, 1) := by decide +kernel
theorem dl_924 : decode code 924 = .ok (.aload_n 0, 1) := by decide +kernel
theorem dl_925 : decode code 925 = .ok (.iload 4, 2) := by decide +kernel
theorem dl_927 : decode code 927 = .ok (.iconst 4, 1) := by decide +kernel
theorem dl_928 : decode code 928 = .ok (.iadd, 1) := by decide +kernel
theorem dl_929 : decode code 929 = .ok (.iaload, 1) := by decide +kernel
theorem dl_930 : decode code 930 = .ok (.invokevirtual 102, 3) := by decide +kernel
theorem dl_933 : decode code 933 = .ok (.aload_n 2, 1) := by decide +kernel
theorem dl_934 : decode code 934 = .ok (.aload_n 0, 1) := by decide +kernel
theorem dl_935 : decode code 935 = .ok (.iload 4, 2) := by decide +kernel
theorem dl_937 : decode code 937 = .ok (.iconst 1, 1) := by decide +kernel
theorem dl_938 : decode code 938 = .ok (.iadd, 1) := by decide +kernel
theorem dl_939 : decode code 939 = .ok (.iaload, 1) := by decide +kernel
theorem dl_940 : decode code 940 = .ok (.aload_n 0, 1) := by decide +kernel
theorem dl_941 : decode code 941 = .ok (.iload 4, 2) := by decide +kernel
theorem dl_943 : decode code 943 = .ok (.iconst 2, 1) := by decide +kernel
theorem dl_944 : decode code 944 = .ok (.iadd, 1) := by decide +kernel
theorem dl_945 : decode code 945 = .ok (.iaload, 1) := by decide +kernel
theorem dl_946 : decode code 946 = .ok (.aload_n 0, 1) := by decide +kernel
theorem dl_947 : decode code 947 = .ok (.iload 4, 2) := by decide +kernel
theorem dl_949 : decode code 949 = .ok (.iconst 3, 1) := by decide +kernel
theorem dl_950 : decode code 950 = .ok (.iadd, 1) := by decide +kernel
theorem dl_951 : decode code 951 = .ok (.iaload, 1) := by decide +kernel
theorem dl_952 : decode code 952 = .ok (.aload_n 0, 1) := by decide +kernel
theorem dl_953 : decode code 953 = .ok (.iload 4, 2) := by decide +kernel
theorem dl_955 : decode code 955 = .ok (.iconst 4, 1) := by decide +kernel
theorem dl_956 : decode code 956 = .ok (.iadd, 1) := by decide +kernel
theorem dl_957 : decode code 957 = .ok (.iaload, 1) := by decide +kernel
theorem dl_958 : decode code 958 = .ok (.invokevirtual 106, 3) := by decide +kernel
theorem dl_961 : decode code 961 = .ok (.if_icmp .eq 609, 3) := by decide +kernel
theorem dl_964 : decode code 964 = .ok (.iconst 0, 1) := by decide +kernel
theorem dl_965 : decode code 965 = .ok (.ireturn, 1) := by decide +kernel
theorem dl_966 : decode code 966 = .ok (.aload_n 1, 1) := by decide +kernel
theorem dl_967 : decode code 967 = .ok (.aload_n 0, 1) := by decide +kernel
theorem dl_968 : decode code 968 = .ok (.iload 4, 2) := by decide +kernel
theorem dl_970 : decode code 970 = .ok (.iconst 1, 1) := by decide +kernel
theorem dl_971 : decode code 971 = .ok (.iadd, 1) := by decide +kernel
theorem dl_972 : decode code 972 = .ok (.iaload, 1) := by decide +kernel
theorem dl_973 : decode code 973 = .ok (.invokevirtual 107, 3) := by decide +kernel
theorem dl_976 : decode code 976 = .ok (.aload_n 2, 1) := by decide +kernel
theorem dl_977 : decode code 977 = .ok (.aload_n 0, 1) := by decide +kernel
theorem dl_978 : decode code 978 = .ok (.iload 4, 2) := by decide +kernel
theorem dl_980 : decode code 980 = .ok (.iconst 1, 1) := by decide +kernel
theorem dl_981 : decode code 981 = .ok (.iadd, 1) := by decide +kernel
theorem dl_982 : decode code 982 = .ok (.iaload, 1) := by decide +kernel
theorem dl_983 : decode code 983 = .ok (.invokevirtual 110, 3) := by decide +kernel
theorem dl_986 : decode code 986 = .ok (.if_icmp .eq 584, 3) := by decide +kernel
theorem dl_989 : decode code 989 = .ok (.iconst 0, 1) := by decide +kernel
theorem dl_990 : decode code 990 = .ok (.ireturn, 1) := by decide +kernel
theorem dl_991 : decode code 991 = .ok (.aload_n 1, 1) := by decide +kernel
theorem dl_992 : decode code 992 = .ok (.aload_n 0, 1) := by decide +kernel
theorem dl_993 : decode code 993 = .ok (.iload 4, 2) := by decide +kernel
theorem dl_995 : decode code 995 = .ok (.iconst 1, 1) := by decide +kernel
theorem dl_996 : decode code 996 = .ok (.iadd, 1) := by decide +kernel
theorem dl_997 : decode code 997 = .ok (.iaload, 1) := by decide +kernel
theorem dl_998 : decode code 998 = .ok (.aload_n 0, 1) := by decide +kernel
theorem dl_999 : decode code 999 = .ok (.iload 4, 2) := by decide +kernel
theorem dl_1001 : decode code 1001 = .ok (.iconst 2, 1) := by decide +kernel
theorem dl_1002 : decode code 1002 = .ok (.iadd, 1) := by decide +kernel
theorem dl_1003 : decode code 1003 = .ok (.iaload, 1) := by decide +kernel
theorem dl_1004 : decode code 1004 = .ok (.invokevirtual 111, 3) := by decide +kernel
theorem dl_1007 : decode code 1007 = .ok (.aload_n 2, 1) := by decide +kernel
theorem dl_1008 : decode code 1008 = .ok (.aload_n 0, 1) := by decide +kernel
theorem dl_1009 : decode code 1009 = .ok (.iload 4, 2) := by decide +kernel
theorem dl_1011 : decode code 1011 = .ok (.iconst 1, 1) := by decide +kernel
theorem dl_1012 : decode code 1012 = .ok (.iadd, 1) := by decide +kernel
theorem dl_1013 : decode code 1013 = .ok (.iaload, 1) := by decide +kernel
theorem dl_1014 : decode code 1014 = .ok (.aload_n 0, 1) := by decide +kernel
theorem dl_1015 : decode code 1015 = .ok (.iload 4, 2) := by decide +kernel
theorem dl_1017 : decode code 1017 = .ok (.iconst 2, 1) := by decide +kernel
theorem dl_1018 : decode code 1018 = .ok (.iadd, 1) := by decide +kernel
theorem dl_1019 : decode code 1019 = .ok (.iaload, 1) := by decide +kernel
theorem dl_1020 : decode code 1020 = .ok (.invokevirtual 114, 3) := by decide +kernel
theorem dl_1023 : decode code 1023 = .ok (.if_icmp .eq 547, 3) := by decide +kernel
theorem dl_1026 : decode code 1026 = .ok (.iconst 0, 1) := by decide +kernel
theorem dl_1027 : decode code 1027 = .ok (.ireturn, 1) := by decide +kernel
theorem dl_1028 : decode code 1028 = .ok (.aload_n 1, 1) := by decide +kernel
theorem dl_1029 : decode code 1029 = .ok (.aload_n 0, 1) := by decide +kernel
theorem dl_1030 : decode code 1030 = .ok (.iload 4, 2) := by decide +kernel
theorem dl_1032 : decode code 1032 = .ok (.iconst 1, 1) := by decide +kernel
theorem dl_1033 : decode code 1033 = .ok (.iadd, 1) := by decide +kernel
theorem dl_1034 : decode code 1034 = .ok (.iaload, 1) := by decide +kernel
theorem dl_1035 : decode code 1035 = .ok (.aload_n 0, 1) := by decide +kernel
theorem dl_1036 : decode code 1036 = .ok (.iload 4, 2) := by decide +kernel
theorem dl_1038 : decode code 1038 = .ok (.iconst 2, 1) := by decide +kernel
theorem dl_1039 : decode code 1039 = .ok (.iadd, 1) := by decide +kernel
theorem dl_1040 : decode code 1040 = .ok (.iaload, 1) := by decide +kernel
theorem dl_1041 : decode code 1041 = .ok (.invokevirtual 115, 3) := by decide +kernel
theorem dl_1044 : decode code 1044 = .ok (.aload_n 2, 1) := by decide +kernel
theorem dl_1045 : decode code 1045 = .ok (.aload_n 0, 1) := by decide +kernel
theorem dl_1046 : decode code 1046 = .ok (.iload 4, 2) := by decide +kernel
theorem dl_1048 : decode code 1048 = .ok (.iconst 1, 1) := by decide +kernel
theorem dl_1049 : decode code 1049 = .ok (.iadd, 1) := by decide +kernel
theorem dl_1050 : decode code 1050 = .ok (.iaload, 1) := by decide +kernel
theorem dl_1051 : decode code 1051 = .ok (.aload_n 0, 1) := by decide +kernel
theorem dl_1052 : decode code 1052 = .ok (.iload 4, 2) := by decide +kernel
theorem dl_1054 : decode code 1054 = .ok (.iconst 2, 1) := by decide +kernel
theorem dl_1055 : decode code 1055 = .ok (.iadd, 1) := by decide +kernel
theorem dl_1056 : decode code 1056 = .ok (.iaload, 1) := by decide +kernel
theorem dl_1057 : decode code 1057 = .ok (.invokevirtual 118, 3) := by decide +kernel
theorem dl_1060 : decode code 1060 = .ok (.if_icmp .eq 510, 3) := by decide +kernel
theorem dl_1063 : decode code 1063 = .ok (.iconst 0, 1) := by decide +kernel
theorem dl_1064 : decode code 1064 = .ok (.ireturn, 1) := by decide +kernel
theorem dl_1065 : decode code 1065 = .ok (.aload_n 1, 1) := by decide +kernel
theorem dl_1066 : decode code 1066 = .ok (.aload_n 0, 1) := by decide +kernel
theorem dl_1067 : decode code 1067 = .ok (.iload 4, 2) := by decide +kernel
theorem dl_1069 : decode code 1069 = .ok (.iconst 1, 1) := by decide +kernel
theorem dl_1070 : decode code 1070 = .ok (.iadd, 1) := by decide +kernel
theorem dl_1071 : decode code 1071 = .ok (.iaload, 1) := by decide +kernel
theorem dl_1072 : decode code 1072 = .ok (.aload_n 0, 1) := by decide +kernel
theorem dl_1073 : decode code 1073 = .ok (.iload 4, 2) := by decide +kernel
theorem dl_1075 : decode code 1075 = .ok (.iconst 2, 1) := by decide +kernel
theorem dl_1076 : decode code 1076 = .ok (.iadd, 1) := by decide +kernel
theorem dl_1077 : decode code 1077 = .ok (.iaload, 1) := by decide +kernel
theorem dl_1078 : decode code 1078 = .ok (.invokevirtual 119, 3) := by decide +kernel
theorem dl_1081 : decode code 1081 = .ok (.aload_n 2, 1) := by decide +kernel
theorem dl_1082 : decode code 1082 = .ok (.aload_n 0, 1) := by decide +kernel
theorem dl_1083 : decode code 1083 = .ok (.iload 4, 2) := by decide +kernel
theorem dl_1085 : decode code 1085 = .ok (.iconst 1, 1) := by decide +kernel
theorem dl_1086 : decode code 1086 = .ok (.iadd, 1) := by decide +kernel
theorem dl_1087 : decode code 1087 = .ok (.iaload, 1) := by decide +kernel
theorem dl_1088 : decode code 1088 = .ok (.aload_n 0, 1) := by decide +kernel
theorem dl_1089 : decode code 1089 = .ok (.iload 4, 2) := by decide +kernel
theorem dl_1091 : decode code 1091 = .ok (.iconst 2, 1) := by decide +kernel
theorem dl_1092 : decode code 1092 = .ok (.iadd, 1) := by decide +kernel
theorem dl_1093 : decode code 1093 = .ok (.iaload, 1) := by decide +kernel
theorem dl_1094 : decode code 1094 = .ok (.invokevirtual 122, 3) := by decide +kernel
theorem dl_1097 : decode code 1097 = .ok (.if_icmp .eq 473, 3) := by decide +kernel
theorem dl_1100 : decode code 1100 = .ok (.iconst 0, 1) := by decide +kernel
theorem dl_1101 : decode code 1101 = .ok (.ireturn, 1) := by decide +kernel
theorem dl_1102 : decode code 1102 = .ok (.aload_n 1, 1) := by decide +kernel
theorem dl_1103 : decode code 1103 = .ok (.aload_n 0, 1) := by decide +kernel
theorem dl_1104 : decode code 1104 = .ok (.iload 4, 2) := by decide +kernel
theorem dl_1106 : decode code 1106 = .ok (.iconst 1, 1) := by decide +kernel
theorem dl_1107 : decode code 1107 = .ok (.iadd, 1) := by decide +kernel
theorem dl_1108 : decode code 1108 = .ok (.iaload, 1) := by decide +kernel
theorem dl_1109 : decode code 1109 = .ok (.aload_n 0, 1) := by decide +kernel
theorem dl_1110 : decode code 1110 = .ok (.iload 4, 2) := by decide +kernel
theorem dl_1112 : decode code 1112 = .ok (.iconst 2, 1) := by decide +kernel
theorem dl_1113 : decode code 1113 = .ok (.iadd, 1) := by decide +kernel
theorem dl_1114 : decode code 1114 = .ok (.iaload, 1) := by decide +kernel
theorem dl_1115 : decode code 1115 = .ok (.invokevirtual 123, 3) := by decide +kernel
theorem dl_1118 : decode code 1118 = .ok (.aload_n 2, 1) := by decide +kernel
theorem dl_1119 : decode code 1119 = .ok (.aload_n 0, 1) := by decide +kernel
theorem dl_1120 : decode code 1120 = .ok (.iload 4, 2) := by decide +kernel
theorem dl_1122 : decode code 1122 = .ok (.iconst 1, 1) := by decide +kernel
