/-! ===== the law: its cases ===== -/
theorem dL_664 : decode code 664 = .ok (.aload_n 1, 1) := by decide +kernel
theorem dL_665 : decode code 665 = .ok (.aload_n 0, 1) := by decide +kernel
theorem dL_666 : decode code 666 = .ok (.iload_n 3, 1) := by decide +kernel
theorem dL_667 : decode code 667 = .ok (.iconst 1, 1) := by decide +kernel
theorem dL_668 : decode code 668 = .ok (.iadd, 1) := by decide +kernel
theorem dL_669 : decode code 669 = .ok (.iaload, 1) := by decide +kernel
theorem dL_670 : decode code 670 = .ok (.invokevirtual 75, 3) := by decide +kernel
theorem dL_673 : decode code 673 = .ok (.aload_n 2, 1) := by decide +kernel
theorem dL_674 : decode code 674 = .ok (.aload_n 0, 1) := by decide +kernel
theorem dL_675 : decode code 675 = .ok (.iload_n 3, 1) := by decide +kernel
theorem dL_676 : decode code 676 = .ok (.iconst 1, 1) := by decide +kernel
theorem dL_677 : decode code 677 = .ok (.iadd, 1) := by decide +kernel
theorem dL_678 : decode code 678 = .ok (.iaload, 1) := by decide +kernel
theorem dL_679 : decode code 679 = .ok (.invokevirtual 78, 3) := by decide +kernel
theorem dL_682 : decode code 682 = .ok (.if_icmp .eq 743, 3) := by decide +kernel
theorem dL_687 : decode code 687 = .ok (.aload_n 1, 1) := by decide +kernel
theorem dL_688 : decode code 688 = .ok (.aload_n 0, 1) := by decide +kernel
theorem dL_689 : decode code 689 = .ok (.iload_n 3, 1) := by decide +kernel
theorem dL_690 : decode code 690 = .ok (.iconst 1, 1) := by decide +kernel
theorem dL_691 : decode code 691 = .ok (.iadd, 1) := by decide +kernel
theorem dL_692 : decode code 692 = .ok (.iaload, 1) := by decide +kernel
theorem dL_693 : decode code 693 = .ok (.aload_n 0, 1) := by decide +kernel
theorem dL_694 : decode code 694 = .ok (.iload_n 3, 1) := by decide +kernel
theorem dL_695 : decode code 695 = .ok (.iconst 2, 1) := by decide +kernel
theorem dL_696 : decode code 696 = .ok (.iadd, 1) := by decide +kernel
theorem dL_697 : decode code 697 = .ok (.iaload, 1) := by decide +kernel
theorem dL_698 : decode code 698 = .ok (.aload_n 0, 1) := by decide +kernel
theorem dL_699 : decode code 699 = .ok (.iload_n 3, 1) := by decide +kernel
theorem dL_700 : decode code 700 = .ok (.iconst 3, 1) := by decide +kernel
theorem dL_701 : decode code 701 = .ok (.iadd, 1) := by decide +kernel
theorem dL_702 : decode code 702 = .ok (.iaload, 1) := by decide +kernel
theorem dL_703 : decode code 703 = .ok (.invokevirtual 79, 3) := by decide +kernel
theorem dL_706 : decode code 706 = .ok (.aload_n 2, 1) := by decide +kernel
theorem dL_707 : decode code 707 = .ok (.aload_n 0, 1) := by decide +kernel
theorem dL_708 : decode code 708 = .ok (.iload_n 3, 1) := by decide +kernel
theorem dL_709 : decode code 709 = .ok (.iconst 1, 1) := by decide +kernel
theorem dL_710 : decode code 710 = .ok (.iadd, 1) := by decide +kernel
theorem dL_711 : decode code 711 = .ok (.iaload, 1) := by decide +kernel
theorem dL_712 : decode code 712 = .ok (.aload_n 0, 1) := by decide +kernel
theorem dL_713 : decode code 713 = .ok (.iload_n 3, 1) := by decide +kernel
theorem dL_714 : decode code 714 = .ok (.iconst 2, 1) := by decide +kernel
theorem dL_715 : decode code 715 = .ok (.iadd, 1) := by decide +kernel
theorem dL_716 : decode code 716 = .ok (.iaload, 1) := by decide +kernel
theorem dL_717 : decode code 717 = .ok (.aload_n 0, 1) := by decide +kernel
theorem dL_718 : decode code 718 = .ok (.iload_n 3, 1) := by decide +kernel
theorem dL_719 : decode code 719 = .ok (.iconst 3, 1) := by decide +kernel
theorem dL_720 : decode code 720 = .ok (.iadd, 1) := by decide +kernel
theorem dL_721 : decode code 721 = .ok (.iaload, 1) := by decide +kernel
theorem dL_722 : decode code 722 = .ok (.invokevirtual 83, 3) := by decide +kernel
theorem dL_725 : decode code 725 = .ok (.if_icmp .eq 700, 3) := by decide +kernel
theorem dL_730 : decode code 730 = .ok (.aload_n 1, 1) := by decide +kernel
theorem dL_731 : decode code 731 = .ok (.aload_n 0, 1) := by decide +kernel
theorem dL_732 : decode code 732 = .ok (.iload_n 3, 1) := by decide +kernel
theorem dL_733 : decode code 733 = .ok (.iconst 1, 1) := by decide +kernel
theorem dL_734 : decode code 734 = .ok (.iadd, 1) := by decide +kernel
theorem dL_735 : decode code 735 = .ok (.iaload, 1) := by decide +kernel
theorem dL_736 : decode code 736 = .ok (.aload_n 0, 1) := by decide +kernel
theorem dL_737 : decode code 737 = .ok (.iload_n 3, 1) := by decide +kernel
theorem dL_738 : decode code 738 = .ok (.iconst 2, 1) := by decide +kernel
theorem dL_739 : decode code 739 = .ok (.iadd, 1) := by decide +kernel
theorem dL_740 : decode code 740 = .ok (.iaload, 1) := by decide +kernel
theorem dL_741 : decode code 741 = .ok (.invokevirtual 84, 3) := by decide +kernel
theorem dL_744 : decode code 744 = .ok (.aload_n 2, 1) := by decide +kernel
theorem dL_745 : decode code 745 = .ok (.aload_n 0, 1) := by decide +kernel
theorem dL_746 : decode code 746 = .ok (.iload_n 3, 1) := by decide +kernel
theorem dL_747 : decode code 747 = .ok (.iconst 1, 1) := by decide +kernel
theorem dL_748 : decode code 748 = .ok (.iadd, 1) := by decide +kernel
theorem dL_749 : decode code 749 = .ok (.iaload, 1) := by decide +kernel
theorem dL_750 : decode code 750 = .ok (.aload_n 0, 1) := by decide +kernel
theorem dL_751 : decode code 751 = .ok (.iload_n 3, 1) := by decide +kernel
theorem dL_752 : decode code 752 = .ok (.iconst 2, 1) := by decide +kernel
theorem dL_753 : decode code 753 = .ok (.iadd, 1) := by decide +kernel
theorem dL_754 : decode code 754 = .ok (.iaload, 1) := by decide +kernel
theorem dL_755 : decode code 755 = .ok (.invokevirtual 87, 3) := by decide +kernel
theorem dL_758 : decode code 758 = .ok (.if_icmp .eq 667, 3) := by decide +kernel
theorem dL_763 : decode code 763 = .ok (.aload_n 1, 1) := by decide +kernel
theorem dL_764 : decode code 764 = .ok (.aload_n 0, 1) := by decide +kernel
theorem dL_765 : decode code 765 = .ok (.iload_n 3, 1) := by decide +kernel
theorem dL_766 : decode code 766 = .ok (.iconst 1, 1) := by decide +kernel
theorem dL_767 : decode code 767 = .ok (.iadd, 1) := by decide +kernel
theorem dL_768 : decode code 768 = .ok (.iaload, 1) := by decide +kernel
theorem dL_769 : decode code 769 = .ok (.invokevirtual 88, 3) := by decide +kernel
theorem dL_772 : decode code 772 = .ok (.aload_n 2, 1) := by decide +kernel
theorem dL_773 : decode code 773 = .ok (.aload_n 0, 1) := by decide +kernel
theorem dL_774 : decode code 774 = .ok (.iload_n 3, 1) := by decide +kernel
theorem dL_775 : decode code 775 = .ok (.iconst 1, 1) := by decide +kernel
theorem dL_776 : decode code 776 = .ok (.iadd, 1) := by decide +kernel
theorem dL_777 : decode code 777 = .ok (.iaload, 1) := by decide +kernel
theorem dL_778 : decode code 778 = .ok (.invokevirtual 91, 3) := by decide +kernel
theorem dL_781 : decode code 781 = .ok (.if_icmp .eq 644, 3) := by decide +kernel
theorem dL_786 : decode code 786 = .ok (.aload_n 1, 1) := by decide +kernel
theorem dL_787 : decode code 787 = .ok (.invokevirtual 92, 3) := by decide +kernel
theorem dL_790 : decode code 790 = .ok (.aload_n 2, 1) := by decide +kernel
theorem dL_791 : decode code 791 = .ok (.invokevirtual 96, 3) := by decide +kernel
theorem dL_794 : decode code 794 = .ok (.if_icmp .eq 631, 3) := by decide +kernel
theorem dL_799 : decode code 799 = .ok (.aload_n 1, 1) := by decide +kernel
theorem dL_800 : decode code 800 = .ok (.aload_n 0, 1) := by decide +kernel
theorem dL_801 : decode code 801 = .ok (.iload_n 3, 1) := by decide +kernel
theorem dL_802 : decode code 802 = .ok (.iconst 1, 1) := by decide +kernel
theorem dL_803 : decode code 803 = .ok (.iadd, 1) := by decide +kernel
theorem dL_804 : decode code 804 = .ok (.iaload, 1) := by decide +kernel
theorem dL_805 : decode code 805 = .ok (.aload_n 0, 1) := by decide +kernel
theorem dL_806 : decode code 806 = .ok (.iload_n 3, 1) := by decide +kernel
theorem dL_807 : decode code 807 = .ok (.iconst 2, 1) := by decide +kernel
theorem dL_808 : decode code 808 = .ok (.iadd, 1) := by decide +kernel
theorem dL_809 : decode code 809 = .ok (.iaload, 1) := by decide +kernel
theorem dL_810 : decode code 810 = .ok (.invokevirtual 97, 3) := by decide +kernel
theorem dL_813 : decode code 813 = .ok (.aload_n 2, 1) := by decide +kernel
theorem dL_814 : decode code 814 = .ok (.aload_n 0, 1) := by decide +kernel
theorem dL_815 : decode code 815 = .ok (.iload_n 3, 1) := by decide +kernel
theorem dL_816 : decode code 816 = .ok (.iconst 1, 1) := by decide +kernel
theorem dL_817 : decode code 817 = .ok (.iadd, 1) := by decide +kernel
theorem dL_818 : decode code 818 = .ok (.iaload, 1) := by decide +kernel
theorem dL_819 : decode code 819 = .ok (.aload_n 0, 1) := by decide +kernel
theorem dL_820 : decode code 820 = .ok (.iload_n 3, 1) := by decide +kernel
theorem dL_821 : decode code 821 = .ok (.iconst 2, 1) := by decide +kernel
theorem dL_822 : decode code 822 = .ok (.iadd, 1) := by decide +kernel
theorem dL_823 : decode code 823 = .ok (.iaload, 1) := by decide +kernel
theorem dL_824 : decode code 824 = .ok (.invokevirtual 100, 3) := by decide +kernel
theorem dL_827 : decode code 827 = .ok (.if_icmp .eq 598, 3) := by decide +kernel
theorem dL_832 : decode code 832 = .ok (.aload_n 1, 1) := by decide +kernel
theorem dL_833 : decode code 833 = .ok (.aload_n 0, 1) := by decide +kernel
theorem dL_834 : decode code 834 = .ok (.iload_n 3, 1) := by decide +kernel
theorem dL_835 : decode code 835 = .ok (.iconst 1, 1) := by decide +kernel
theorem dL_836 : decode code 836 = .ok (.iadd, 1) := by decide +kernel
theorem dL_837 : decode code 837 = .ok (.iaload, 1) := by decide +kernel
theorem dL_838 : decode code 838 = .ok (.aload_n 0, 1) := by decide +kernel
theorem dL_839 : decode code 839 = .ok (.iload_n 3, 1) := by decide +kernel
theorem dL_840 : decode code 840 = .ok (.iconst 2, 1) := by decide +kernel
theorem dL_841 : decode code 841 = .ok (.iadd, 1) := by decide +kernel
theorem dL_842 : decode code 842 = .ok (.iaload, 1) := by decide +kernel
theorem dL_843 : decode code 843 = .ok (.aload_n 0, 1) := by decide +kernel
theorem dL_844 : decode code 844 = .ok (.iload_n 3, 1) := by decide +kernel
theorem dL_845 : decode code 845 = .ok (.iconst 3, 1) := by decide +kernel
theorem dL_846 : decode code 846 = .ok (.iadd, 1) := by decide +kernel
theorem dL_847 : decode code 847 = .ok (.iaload, 1) := by decide +kernel
theorem dL_848 : decode code 848 = .ok (.invokevirtual 101, 3) := by decide +kernel
theorem dL_851 : decode code 851 = .ok (.aload_n 2, 1) := by decide +kernel
theorem dL_852 : decode code 852 = .ok (.aload_n 0, 1) := by decide +kernel
theorem dL_853 : decode code 853 = .ok (.iload_n 3, 1) := by decide +kernel
theorem dL_854 : decode code 854 = .ok (.iconst 1, 1) := by decide +kernel
theorem dL_855 : decode code 855 = .ok (.iadd, 1) := by decide +kernel
theorem dL_856 : decode code 856 = .ok (.iaload, 1) := by decide +kernel
theorem dL_857 : decode code 857 = .ok (.aload_n 0, 1) := by decide +kernel
theorem dL_858 : decode code 858 = .ok (.iload_n 3, 1) := by decide +kernel
theorem dL_859 : decode code 859 = .ok (.iconst 2, 1) := by decide +kernel
theorem dL_860 : decode code 860 = .ok (.iadd, 1) := by decide +kernel
theorem dL_861 : decode code 861 = .ok (.iaload, 1) := by decide +kernel
theorem dL_862 : decode code 862 = .ok (.aload_n 0, 1) := by decide +kernel
theorem dL_863 : decode code 863 = .ok (.iload_n 3, 1) := by decide +kernel
theorem dL_864 : decode code 864 = .ok (.iconst 3, 1) := by decide +kernel
theorem dL_865 : decode code 865 = .ok (.iadd, 1) := by decide +kernel
theorem dL_866 : decode code 866 = .ok (.iaload, 1) := by decide +kernel
theorem dL_867 : decode code 867 = .ok (.invokevirtual 104, 3) := by decide +kernel
theorem dL_870 : decode code 870 = .ok (.if_icmp .eq 555, 3) := by decide +kernel
theorem dL_875 : decode code 875 = .ok (.aload_n 1, 1) := by decide +kernel
theorem dL_876 : decode code 876 = .ok (.aload_n 0, 1) := by decide +kernel
theorem dL_877 : decode code 877 = .ok (.iload_n 3, 1) := by decide +kernel
theorem dL_878 : decode code 878 = .ok (.iconst 1, 1) := by decide +kernel
theorem dL_879 : decode code 879 = .ok (.iadd, 1) := by decide +kernel
theorem dL_880 : decode code 880 = .ok (.iaload, 1) := by decide +kernel
theorem dL_881 : decode code 881 = .ok (.aload_n 0, 1) := by decide +kernel
theorem dL_882 : decode code 882 = .ok (.iload_n 3, 1) := by decide +kernel
theorem dL_883 : decode code 883 = .ok (.iconst 2, 1) := by decide +kernel
theorem dL_884 : decode code 884 = .ok (.iadd, 1) := by decide +kernel
theorem dL_885 : decode code 885 = .ok (.iaload, 1) := by decide +kernel
theorem dL_886 : decode code 886 = .ok (.invokevirtual 105, 3) := by decide +kernel
theorem dL_889 : decode code 889 = .ok (.aload_n 2, 1) := by decide +kernel
theorem dL_890 : decode code 890 = .ok (.aload_n 0, 1) := by decide +kernel
theorem dL_891 : decode code 891 = .ok (.iload_n 3, 1) := by decide +kernel
theorem dL_892 : decode code 892 = .ok (.iconst 1, 1) := by decide +kernel
theorem dL_893 : decode code 893 = .ok (.iadd, 1) := by decide +kernel
theorem dL_894 : decode code 894 = .ok (.iaload, 1) := by decide +kernel
theorem dL_895 : decode code 895 = .ok (.aload_n 0, 1) := by decide +kernel
theorem dL_896 : decode code 896 = .ok (.iload_n 3, 1) := by decide +kernel
theorem dL_897 : decode code 897 = .ok (.iconst 2, 1) := by decide +kernel
theorem dL_898 : decode code 898 = .ok (.iadd, 1) := by decide +kernel
theorem dL_899 : decode code 899 = .ok (.iaload, 1) := by decide +kernel
theorem dL_900 : decode code 900 = .ok (.invokevirtual 108, 3) := by decide +kernel
theorem dL_903 : decode code 903 = .ok (.if_icmp .eq 522, 3) := by decide +kernel
theorem dL_908 : decode code 908 = .ok (.aload_n 1, 1) := by decide +kernel
theorem dL_909 : decode code 909 = .ok (.aload_n 0, 1) := by decide +kernel
theorem dL_910 : decode code 910 = .ok (.iload_n 3, 1) := by decide +kernel
theorem dL_911 : decode code 911 = .ok (.iconst 1, 1) := by decide +kernel
theorem dL_912 : decode code 912 = .ok (.iadd, 1) := by decide +kernel
theorem dL_913 : decode code 913 = .ok (.iaload, 1) := by decide +kernel
theorem dL_914 : decode code 914 = .ok (.invokevirtual 109, 3) := by decide +kernel
theorem dL_917 : decode code 917 = .ok (.aload_n 2, 1) := by decide +kernel
theorem dL_918 : decode code 918 = .ok (.aload_n 0, 1) := by decide +kernel
theorem dL_919 : decode code 919 = .ok (.iload_n 3, 1) := by decide +kernel
theorem dL_920 : decode code 920 = .ok (.iconst 1, 1) := by decide +kernel
theorem dL_921 : decode code 921 = .ok (.iadd, 1) := by decide +kernel
theorem dL_922 : decode code 922 = .ok (.iaload, 1) := by decide +kernel
theorem dL_923 : decode code 923 = .ok (.invokevirtual 112, 3) := by decide +kernel
theorem dL_926 : decode code 926 = .ok (.if_icmp .eq 499, 3) := by decide +kernel
theorem dL_931 : decode code 931 = .ok (.aload_n 1, 1) := by decide +kernel
theorem dL_932 : decode code 932 = .ok (.aload_n 0, 1) := by decide +kernel
theorem dL_933 : decode code 933 = .ok (.iload_n 3, 1) := by decide +kernel
theorem dL_934 : decode code 934 = .ok (.iconst 1, 1) := by decide +kernel
theorem dL_935 : decode code 935 = .ok (.iadd, 1) := by decide +kernel
theorem dL_936 : decode code 936 = .ok (.iaload, 1) := by decide +kernel
theorem dL_937 : decode code 937 = .ok (.invokevirtual 113, 3) := by decide +kernel
theorem dL_940 : decode code 940 = .ok (.aload_n 2, 1) := by decide +kernel
theorem dL_941 : decode code 941 = .ok (.aload_n 0, 1) := by decide +kernel
theorem dL_942 : decode code 942 = .ok (.iload_n 3, 1) := by decide +kernel
theorem dL_943 : decode code 943 = .ok (.iconst 1, 1) := by decide +kernel
theorem dL_944 : decode code 944 = .ok (.iadd, 1) := by decide +kernel
theorem dL_945 : decode code 945 = .ok (.iaload, 1) := by decide +kernel
theorem dL_946 : decode code 946 = .ok (.invokevirtual 116, 3) := by decide +kernel
theorem dL_949 : decode code 949 = .ok (.if_icmp .eq 476, 3) := by decide +kernel
theorem dL_954 : decode code 954 = .ok (.aload_n 1, 1) := by decide +kernel
theorem dL_955 : decode code 955 = .ok (.aload_n 0, 1) := by decide +kernel
theorem dL_956 : decode code 956 = .ok (.iload_n 3, 1) := by decide +kernel
theorem dL_957 : decode code 957 = .ok (.iconst 1, 1) := by decide +kernel
theorem dL_958 : decode code 958 = .ok (.iadd, 1) := by decide +kernel
theorem dL_959 : decode code 959 = .ok (.iaload, 1) := by decide +kernel
theorem dL_960 : decode code 960 = .ok (.aload_n 0, 1) := by decide +kernel
theorem dL_961 : decode code 961 = .ok (.iload_n 3, 1) := by decide +kernel
theorem dL_962 : decode code 962 = .ok (.iconst 2, 1) := by decide +kernel
theorem dL_963 : decode code 963 = .ok (.iadd, 1) := by decide +kernel
theorem dL_964 : decode code 964 = .ok (.iaload, 1) := by decide +kernel
theorem dL_965 : decode code 965 = .ok (.invokevirtual 117, 3) := by decide +kernel
theorem dL_968 : decode code 968 = .ok (.aload_n 2, 1) := by decide +kernel
theorem dL_969 : decode code 969 = .ok (.aload_n 0, 1) := by decide +kernel
theorem dL_970 : decode code 970 = .ok (.iload_n 3, 1) := by decide +kernel
theorem dL_971 : decode code 971 = .ok (.iconst 1, 1) := by decide +kernel
theorem dL_972 : decode code 972 = .ok (.iadd, 1) := by decide +kernel
theorem dL_973 : decode code 973 = .ok (.iaload, 1) := by decide +kernel
theorem dL_974 : decode code 974 = .ok (.aload_n 0, 1) := by decide +kernel
theorem dL_975 : decode code 975 = .ok (.iload_n 3, 1) := by decide +kernel
theorem dL_976 : decode code 976 = .ok (.iconst 2, 1) := by decide +kernel
theorem dL_977 : decode code 977 = .ok (.iadd, 1) := by decide +kernel
theorem dL_978 : decode code 978 = .ok (.iaload, 1) := by decide +kernel
theorem dL_979 : decode code 979 = .ok (.invokevirtual 120, 3) := by decide +kernel
theorem dL_982 : decode code 982 = .ok (.if_icmp .eq 443, 3) := by decide +kernel
theorem dL_987 : decode code 987 = .ok (.aload_n 1, 1) := by decide +kernel
theorem dL_988 : decode code 988 = .ok (.aload_n 0, 1) := by decide +kernel
theorem dL_989 : decode code 989 = .ok (.iload_n 3, 1) := by decide +kernel
theorem dL_990 : decode code 990 = .ok (.iconst 1, 1) := by decide +kernel
theorem dL_991 : decode code 991 = .ok (.iadd, 1) := by decide +kernel
theorem dL_992 : decode code 992 = .ok (.iaload, 1) := by decide +kernel
theorem dL_993 : decode code 993 = .ok (.invokevirtual 121, 3) := by decide +kernel
theorem dL_996 : decode code 996 = .ok (.aload_n 2, 1) := by decide +kernel
theorem dL_997 : decode code 997 = .ok (.aload_n 0, 1) := by decide +kernel
theorem dL_998 : decode code 998 = .ok (.iload_n 3, 1) := by decide +kernel
theorem dL_999 : decode code 999 = .ok (.iconst 1, 1) := by decide +kernel
theorem dL_1000 : decode code 1000 = .ok (.iadd, 1) := by decide +kernel
theorem dL_1001 : decode code 1001 = .ok (.iaload, 1) := by decide +kernel
theorem dL_1002 : decode code 1002 = .ok (.invokevirtual 124, 3) := by decide +kernel
theorem dL_1005 : decode code 1005 = .ok (.if_icmp .eq 420, 3) := by decide +kernel
theorem dL_1010 : decode code 1010 = .ok (.aload_n 1, 1) := by decide +kernel
theorem dL_1011 : decode code 1011 = .ok (.aload_n 0, 1) := by decide +kernel
theorem dL_1012 : decode code 1012 = .ok (.iload_n 3, 1) := by decide +kernel
theorem dL_1013 : decode code 1013 = .ok (.iconst 1, 1) := by decide +kernel
theorem dL_1014 : decode code 1014 = .ok (.iadd, 1) := by decide +kernel
theorem dL_1015 : decode code 1015 = .ok (.iaload, 1) := by decide +kernel
theorem dL_1016 : decode code 1016 = .ok (.aload_n 0, 1) := by decide +kernel
theorem dL_1017 : decode code 1017 = .ok (.iload_n 3, 1) := by decide +kernel
theorem dL_1018 : decode code 1018 = .ok (.iconst 2, 1) := by decide +kernel
theorem dL_1019 : decode code 1019 = .ok (.iadd, 1) := by decide +kernel
theorem dL_1020 : decode code 1020 = .ok (.iaload, 1) := by decide +kernel
theorem dL_1021 : decode code 1021 = .ok (.invokevirtual 125, 3) := by decide +kernel
theorem dL_1024 : decode code 1024 = .ok (.aload_n 2, 1) := by decide +kernel
theorem dL_1025 : decode code 1025 = .ok (.aload_n 0, 1) := by decide +kernel
theorem dL_1026 : decode code 1026 = .ok (.iload_n 3, 1) := by decide +kernel
theorem dL_1027 : decode code 1027 = .ok (.iconst 1, 1) := by decide +kernel
theorem dL_1028 : decode code 1028 = .ok (.iadd, 1) := by decide +kernel
theorem dL_1029 : decode code 1029 = .ok (.iaload, 1) := by decide +kernel
theorem dL_1030 : decode code 1030 = .ok (.aload_n 0, 1) := by decide +kernel
theorem dL_1031 : decode code 1031 = .ok (.iload_n 3, 1) := by decide +kernel
theorem dL_1032 : decode code 1032 = .ok (.iconst 2, 1) := by decide +kernel
theorem dL_1033 : decode code 1033 = .ok (.iadd, 1) := by decide +kernel
theorem dL_1034 : decode code 1034 = .ok (.iaload, 1) := by decide +kernel
theorem dL_1035 : decode code 1035 = .ok (.invokevirtual 128, 3) := by decide +kernel
theorem dL_1038 : decode code 1038 = .ok (.if_icmp .eq 387, 3) := by decide +kernel
theorem dL_1043 : decode code 1043 = .ok (.aload_n 1, 1) := by decide +kernel
theorem dL_1044 : decode code 1044 = .ok (.invokevirtual 129, 3) := by decide +kernel
theorem dL_1047 : decode code 1047 = .ok (.aload_n 2, 1) := by decide +kernel
theorem dL_1048 : decode code 1048 = .ok (.invokevirtual 132, 3) := by decide +kernel
theorem dL_1051 : decode code 1051 = .ok (.if_icmp .eq 374, 3) := by decide +kernel
section LAWC
variable {p : Program} {l : Launch} {e : Env} {s : State} {m : MethodId} {args : Array Value} {below : List Frame} {meth : Method} {c : Code} {H : Heap} {locs : List Loc} {cells slots : Nat} {Q : State → Prop}
variable {pc : Nat} {ls : Array Slot} {rest : List Value} {ws wr : va_W} {A : Nat → Prop} {g : Gw} {b L j : Nat} {xs : Nat → Int32} {σ : Hs}
theorem lw_case_14 (C : LC g p s m args c b L xs) (hL : L ≤ 3072) (hj : 6 * j + 6 ≤ L) (hR : RR j σ) (hP : va_P g.2.1 vwCl (wsW g σ) H) (hS : va_S (AA g s.heap.size) s.heap H locs) (hl : lv_has ls 4 (lvv g b j)) (kk : ∀ (σ2 : Hs) (H1 : Heap) (locs1 : List Loc), RR (j + 1) σ2 → va_P g.2.1 vwCl (wsW g σ2) H1 → va_S (AA g s.heap.size) s.heap H1 locs1 → W p l e room_1 s m args below meth c H1 locs1 104 3690 Q (F0 m 1425 ls [])) : W p l e room_1 s m args below meth c H locs 104 3690 Q (F0 m 664 ls []) := by
  obtain ⟨v, σ1, σ2, c1, c2, hR2⟩ := L_seed hR 0 (xs (6 * j + 1))
  obtain ⟨hx, hb, hml, hown, hts, -⟩ := id C
  refine lv_aload_n hx hb dL_664 rfl (lv_at hl 2 rfl) ?_
  refine lw_arg C hL hj hS hl (k := 1) (by omega) dL_665 dL_666 dL_667 rfl dL_668 dL_669 ?_
  refine lw_vcall C hP hS (mj := 72) (o := 0) (As := [.int (xs (6 * j + 1))]) c1 (by omega) (by decide +kernel) (by omega) (by decide +kernel) (show mn 72 = 1 from by decide +kernel) (gdW_in (i := 678) (by decide +kernel)) rfl hl.1 (Nat.le_of_ble_eq_true rfl) dL_670 rfl (fun H0 l0 hP hS => ?_)
  refine lv_aload_n hx hb dL_673 rfl (lv_at hl 1 rfl) ?_
  refine lw_arg C hL hj hS hl (k := 1) (by omega) dL_674 dL_675 dL_676 rfl dL_677 dL_678 ?_
  refine lw_vcall C hP hS (mj := 175) (o := 87) (As := [.int (xs (6 * j + 1))]) c2 (by omega) (by decide +kernel) (by omega) (by decide +kernel) (show mn 175 = 1 from by decide +kernel) (gdW_in (i := 1268) (by decide +kernel)) rfl hl.1 (Nat.le_of_ble_eq_true rfl) dL_679 rfl (fun H1 l1 hP hS => ?_)
  exact lv_icmp_eq (tgt := 1425) hx hb dL_682 (by decide) (fun _ => kk σ2 _ _ hR2 hP hS) (fun cn => absurd rfl cn)
theorem lw_case_15 (C : LC g p s m args c b L xs) (hL : L ≤ 3072) (hj : 6 * j + 6 ≤ L) (hR : RR j σ) (hP : va_P g.2.1 vwCl (wsW g σ) H) (hS : va_S (AA g s.heap.size) s.heap H locs) (hl : lv_has ls 4 (lvv g b j)) (kk : ∀ (σ2 : Hs) (H1 : Heap) (locs1 : List Loc), RR (j + 1) σ2 → va_P g.2.1 vwCl (wsW g σ2) H1 → va_S (AA g s.heap.size) s.heap H1 locs1 → W p l e room_1 s m args below meth c H1 locs1 104 3690 Q (F0 m 1425 ls [])) : W p l e room_1 s m args below meth c H locs 104 3690 Q (F0 m 687 ls []) := by
  obtain ⟨v, σ1, σ2, c1, c2, hR2⟩ := L_washing hR 0 (xs (6 * j + 1)) (xs (6 * j + 2)) (xs (6 * j + 3))
  obtain ⟨hx, hb, hml, hown, hts, -⟩ := id C
  refine lv_aload_n hx hb dL_687 rfl (lv_at hl 2 rfl) ?_
  refine lw_arg C hL hj hS hl (k := 1) (by omega) dL_688 dL_689 dL_690 rfl dL_691 dL_692 ?_
  refine lw_arg C hL hj hS hl (k := 2) (by omega) dL_693 dL_694 dL_695 rfl dL_696 dL_697 ?_
  refine lw_arg C hL hj hS hl (k := 3) (by omega) dL_698 dL_699 dL_700 rfl dL_701 dL_702 ?_
  refine lw_vcall C hP hS (mj := 73) (o := 0) (As := [.int (xs (6 * j + 1)), .int (xs (6 * j + 2)), .int (xs (6 * j + 3))]) c1 (by omega) (by decide +kernel) (by omega) (by decide +kernel) (show mn 73 = 3 from by decide +kernel) (gdW_in (i := 682) (by decide +kernel)) rfl hl.1 (Nat.le_of_ble_eq_true rfl) dL_703 rfl (fun H0 l0 hP hS => ?_)
  refine lv_aload_n hx hb dL_706 rfl (lv_at hl 1 rfl) ?_
  refine lw_arg C hL hj hS hl (k := 1) (by omega) dL_707 dL_708 dL_709 rfl dL_710 dL_711 ?_
  refine lw_arg C hL hj hS hl (k := 2) (by omega) dL_712 dL_713 dL_714 rfl dL_715 dL_716 ?_
  refine lw_arg C hL hj hS hl (k := 3) (by omega) dL_717 dL_718 dL_719 rfl dL_720 dL_721 ?_
  refine lw_vcall C hP hS (mj := 177) (o := 87) (As := [.int (xs (6 * j + 1)), .int (xs (6 * j + 2)), .int (xs (6 * j + 3))]) c2 (by omega) (by decide +kernel) (by omega) (by decide +kernel) (show mn 177 = 3 from by decide +kernel) (gdW_in (i := 1272) (by decide +kernel)) rfl hl.1 (Nat.le_of_ble_eq_true rfl) dL_722 rfl (fun H1 l1 hP hS => ?_)
  exact lv_icmp_eq (tgt := 1425) hx hb dL_725 (by decide) (fun _ => kk σ2 _ _ hR2 hP hS) (fun cn => absurd rfl cn)
theorem lw_case_16 (C : LC g p s m args c b L xs) (hL : L ≤ 3072) (hj : 6 * j + 6 ≤ L) (hR : RR j σ) (hP : va_P g.2.1 vwCl (wsW g σ) H) (hS : va_S (AA g s.heap.size) s.heap H locs) (hl : lv_has ls 4 (lvv g b j)) (kk : ∀ (σ2 : Hs) (H1 : Heap) (locs1 : List Loc), RR (j + 1) σ2 → va_P g.2.1 vwCl (wsW g σ2) H1 → va_S (AA g s.heap.size) s.heap H1 locs1 → W p l e room_1 s m args below meth c H1 locs1 104 3690 Q (F0 m 1425 ls [])) : W p l e room_1 s m args below meth c H locs 104 3690 Q (F0 m 730 ls []) := by
  obtain ⟨v, σ1, σ2, c1, c2, hR2⟩ := L_garden hR 0 (xs (6 * j + 1)) (xs (6 * j + 2))
  obtain ⟨hx, hb, hml, hown, hts, -⟩ := id C
  refine lv_aload_n hx hb dL_730 rfl (lv_at hl 2 rfl) ?_
  refine lw_arg C hL hj hS hl (k := 1) (by omega) dL_731 dL_732 dL_733 rfl dL_734 dL_735 ?_
  refine lw_arg C hL hj hS hl (k := 2) (by omega) dL_736 dL_737 dL_738 rfl dL_739 dL_740 ?_
  refine lw_vcall C hP hS (mj := 74) (o := 0) (As := [.int (xs (6 * j + 1)), .int (xs (6 * j + 2))]) c1 (by omega) (by decide +kernel) (by omega) (by decide +kernel) (show mn 74 = 2 from by decide +kernel) (gdW_in (i := 692) (by decide +kernel)) rfl hl.1 (Nat.le_of_ble_eq_true rfl) dL_741 rfl (fun H0 l0 hP hS => ?_)
  refine lv_aload_n hx hb dL_744 rfl (lv_at hl 1 rfl) ?_
  refine lw_arg C hL hj hS hl (k := 1) (by omega) dL_745 dL_746 dL_747 rfl dL_748 dL_749 ?_
  refine lw_arg C hL hj hS hl (k := 2) (by omega) dL_750 dL_751 dL_752 rfl dL_753 dL_754 ?_
  refine lw_vcall C hP hS (mj := 178) (o := 87) (As := [.int (xs (6 * j + 1)), .int (xs (6 * j + 2))]) c2 (by omega) (by decide +kernel) (by omega) (by decide +kernel) (show mn 178 = 2 from by decide +kernel) (gdW_in (i := 1279) (by decide +kernel)) rfl hl.1 (Nat.le_of_ble_eq_true rfl) dL_755 rfl (fun H1 l1 hP hS => ?_)
  exact lv_icmp_eq (tgt := 1425) hx hb dL_758 (by decide) (fun _ => kk σ2 _ _ hR2 hP hS) (fun cn => absurd rfl cn)
theorem lw_case_17 (C : LC g p s m args c b L xs) (hL : L ≤ 3072) (hj : 6 * j + 6 ≤ L) (hR : RR j σ) (hP : va_P g.2.1 vwCl (wsW g σ) H) (hS : va_S (AA g s.heap.size) s.heap H locs) (hl : lv_has ls 4 (lvv g b j)) (kk : ∀ (σ2 : Hs) (H1 : Heap) (locs1 : List Loc), RR (j + 1) σ2 → va_P g.2.1 vwCl (wsW g σ2) H1 → va_S (AA g s.heap.size) s.heap H1 locs1 → W p l e room_1 s m args below meth c H1 locs1 104 3690 Q (F0 m 1425 ls [])) : W p l e room_1 s m args below meth c H locs 104 3690 Q (F0 m 763 ls []) := by
  obtain ⟨v, σ1, σ2, c1, c2, hR2⟩ := L_heap hR 0 (xs (6 * j + 1))
  obtain ⟨hx, hb, hml, hown, hts, -⟩ := id C
  refine lv_aload_n hx hb dL_763 rfl (lv_at hl 2 rfl) ?_
  refine lw_arg C hL hj hS hl (k := 1) (by omega) dL_764 dL_765 dL_766 rfl dL_767 dL_768 ?_
  refine lw_vcall C hP hS (mj := 75) (o := 0) (As := [.int (xs (6 * j + 1))]) c1 (by omega) (by decide +kernel) (by omega) (by decide +kernel) (show mn 75 = 1 from by decide +kernel) (gdW_in (i := 700) (by decide +kernel)) rfl hl.1 (Nat.le_of_ble_eq_true rfl) dL_769 rfl (fun H0 l0 hP hS => ?_)
  refine lv_aload_n hx hb dL_772 rfl (lv_at hl 1 rfl) ?_
  refine lw_arg C hL hj hS hl (k := 1) (by omega) dL_773 dL_774 dL_775 rfl dL_776 dL_777 ?_
  refine lw_vcall C hP hS (mj := 180) (o := 87) (As := [.int (xs (6 * j + 1))]) c2 (by omega) (by decide +kernel) (by omega) (by decide +kernel) (show mn 180 = 1 from by decide +kernel) (gdW_in (i := 1283) (by decide +kernel)) rfl hl.1 (Nat.le_of_ble_eq_true rfl) dL_778 rfl (fun H1 l1 hP hS => ?_)
  exact lv_icmp_eq (tgt := 1425) hx hb dL_781 (by decide) (fun _ => kk σ2 _ _ hR2 hP hS) (fun cn => absurd rfl cn)
theorem lw_case_18 (C : LC g p s m args c b L xs) (hL : L ≤ 3072) (hj : 6 * j + 6 ≤ L) (hR : RR j σ) (hP : va_P g.2.1 vwCl (wsW g σ) H) (hS : va_S (AA g s.heap.size) s.heap H locs) (hl : lv_has ls 4 (lvv g b j)) (kk : ∀ (σ2 : Hs) (H1 : Heap) (locs1 : List Loc), RR (j + 1) σ2 → va_P g.2.1 vwCl (wsW g σ2) H1 → va_S (AA g s.heap.size) s.heap H1 locs1 → W p l e room_1 s m args below meth c H1 locs1 104 3690 Q (F0 m 1425 ls [])) : W p l e room_1 s m args below meth c H locs 104 3690 Q (F0 m 786 ls []) := by
  obtain ⟨v, σ1, σ2, c1, c2, hR2⟩ := L_may hR 0
  obtain ⟨hx, hb, hml, hown, hts, -⟩ := id C
  refine lv_aload_n hx hb dL_786 rfl (lv_at hl 2 rfl) ?_
  refine lw_vcall C hP hS (mj := 76) (o := 0) (As := []) c1 (by omega) (by decide +kernel) (by omega) (by decide +kernel) (show mn 76 = 0 from by decide +kernel) (gdW_in (i := 717) (by decide +kernel)) rfl hl.1 (Nat.le_of_ble_eq_true rfl) dL_787 rfl (fun H0 l0 hP hS => ?_)
  refine lv_aload_n hx hb dL_790 rfl (lv_at hl 1 rfl) ?_
  refine lw_vcall C hP hS (mj := 161) (o := 87) (As := []) c2 (by omega) (by decide +kernel) (by omega) (by decide +kernel) (show mn 161 = 0 from by decide +kernel) (gdW_in (i := 1201) (by decide +kernel)) rfl hl.1 (Nat.le_of_ble_eq_true rfl) dL_791 rfl (fun H1 l1 hP hS => ?_)
  exact lv_icmp_eq (tgt := 1425) hx hb dL_794 (by decide) (fun _ => kk σ2 _ _ hR2 hP hS) (fun cn => absurd rfl cn)
theorem lw_case_19 (C : LC g p s m args c b L xs) (hL : L ≤ 3072) (hj : 6 * j + 6 ≤ L) (hR : RR j σ) (hP : va_P g.2.1 vwCl (wsW g σ) H) (hS : va_S (AA g s.heap.size) s.heap H locs) (hl : lv_has ls 4 (lvv g b j)) (kk : ∀ (σ2 : Hs) (H1 : Heap) (locs1 : List Loc), RR (j + 1) σ2 → va_P g.2.1 vwCl (wsW g σ2) H1 → va_S (AA g s.heap.size) s.heap H1 locs1 → W p l e room_1 s m args below meth c H1 locs1 104 3690 Q (F0 m 1425 ls [])) : W p l e room_1 s m args below meth c H locs 104 3690 Q (F0 m 799 ls []) := by
  obtain ⟨v, σ1, σ2, c1, c2, hR2⟩ := L_then hR 0 (xs (6 * j + 1)) (xs (6 * j + 2))
  obtain ⟨hx, hb, hml, hown, hts, -⟩ := id C
  refine lv_aload_n hx hb dL_799 rfl (lv_at hl 2 rfl) ?_
  refine lw_arg C hL hj hS hl (k := 1) (by omega) dL_800 dL_801 dL_802 rfl dL_803 dL_804 ?_
  refine lw_arg C hL hj hS hl (k := 2) (by omega) dL_805 dL_806 dL_807 rfl dL_808 dL_809 ?_
  refine lw_vcall C hP hS (mj := 77) (o := 0) (As := [.int (xs (6 * j + 1)), .int (xs (6 * j + 2))]) c1 (by omega) (by decide +kernel) (by omega) (by decide +kernel) (show mn 77 = 2 from by decide +kernel) (gdW_in (i := 721) (by decide +kernel)) rfl hl.1 (Nat.le_of_ble_eq_true rfl) dL_810 rfl (fun H0 l0 hP hS => ?_)
  refine lv_aload_n hx hb dL_813 rfl (lv_at hl 1 rfl) ?_
  refine lw_arg C hL hj hS hl (k := 1) (by omega) dL_814 dL_815 dL_816 rfl dL_817 dL_818 ?_
  refine lw_arg C hL hj hS hl (k := 2) (by omega) dL_819 dL_820 dL_821 rfl dL_822 dL_823 ?_
  refine lw_vcall C hP hS (mj := 182) (o := 87) (As := [.int (xs (6 * j + 1)), .int (xs (6 * j + 2))]) c2 (by omega) (by decide +kernel) (by omega) (by decide +kernel) (show mn 182 = 2 from by decide +kernel) (gdW_in (i := 1291) (by decide +kernel)) rfl hl.1 (Nat.le_of_ble_eq_true rfl) dL_824 rfl (fun H1 l1 hP hS => ?_)
  exact lv_icmp_eq (tgt := 1425) hx hb dL_827 (by decide) (fun _ => kk σ2 _ _ hR2 hP hS) (fun cn => absurd rfl cn)
theorem lw_case_20 (C : LC g p s m args c b L xs) (hL : L ≤ 3072) (hj : 6 * j + 6 ≤ L) (hR : RR j σ) (hP : va_P g.2.1 vwCl (wsW g σ) H) (hS : va_S (AA g s.heap.size) s.heap H locs) (hl : lv_has ls 4 (lvv g b j)) (kk : ∀ (σ2 : Hs) (H1 : Heap) (locs1 : List Loc), RR (j + 1) σ2 → va_P g.2.1 vwCl (wsW g σ2) H1 → va_S (AA g s.heap.size) s.heap H1 locs1 → W p l e room_1 s m args below meth c H1 locs1 104 3690 Q (F0 m 1425 ls [])) : W p l e room_1 s m args below meth c H locs 104 3690 Q (F0 m 832 ls []) := by
  obtain ⟨v, σ1, σ2, c1, c2, hR2⟩ := L_gardenThen hR 0 (xs (6 * j + 1)) (xs (6 * j + 2)) (xs (6 * j + 3))
  obtain ⟨hx, hb, hml, hown, hts, -⟩ := id C
  refine lv_aload_n hx hb dL_832 rfl (lv_at hl 2 rfl) ?_
  refine lw_arg C hL hj hS hl (k := 1) (by omega) dL_833 dL_834 dL_835 rfl dL_836 dL_837 ?_
  refine lw_arg C hL hj hS hl (k := 2) (by omega) dL_838 dL_839 dL_840 rfl dL_841 dL_842 ?_
  refine lw_arg C hL hj hS hl (k := 3) (by omega) dL_843 dL_844 dL_845 rfl dL_846 dL_847 ?_
  refine lw_vcall C hP hS (mj := 78) (o := 0) (As := [.int (xs (6 * j + 1)), .int (xs (6 * j + 2)), .int (xs (6 * j + 3))]) c1 (by omega) (by decide +kernel) (by omega) (by decide +kernel) (show mn 78 = 3 from by decide +kernel) (gdW_in (i := 732) (by decide +kernel)) rfl hl.1 (Nat.le_of_ble_eq_true rfl) dL_848 rfl (fun H0 l0 hP hS => ?_)
  refine lv_aload_n hx hb dL_851 rfl (lv_at hl 1 rfl) ?_
  refine lw_arg C hL hj hS hl (k := 1) (by omega) dL_852 dL_853 dL_854 rfl dL_855 dL_856 ?_
  refine lw_arg C hL hj hS hl (k := 2) (by omega) dL_857 dL_858 dL_859 rfl dL_860 dL_861 ?_
  refine lw_arg C hL hj hS hl (k := 3) (by omega) dL_862 dL_863 dL_864 rfl dL_865 dL_866 ?_
  refine lw_vcall C hP hS (mj := 183) (o := 87) (As := [.int (xs (6 * j + 1)), .int (xs (6 * j + 2)), .int (xs (6 * j + 3))]) c2 (by omega) (by decide +kernel) (by omega) (by decide +kernel) (show mn 183 = 3 from by decide +kernel) (gdW_in (i := 1305) (by decide +kernel)) rfl hl.1 (Nat.le_of_ble_eq_true rfl) dL_867 rfl (fun H1 l1 hP hS => ?_)
  exact lv_icmp_eq (tgt := 1425) hx hb dL_870 (by decide) (fun _ => kk σ2 _ _ hR2 hP hS) (fun cn => absurd rfl cn)
theorem lw_case_21 (C : LC g p s m args c b L xs) (hL : L ≤ 3072) (hj : 6 * j + 6 ≤ L) (hR : RR j σ) (hP : va_P g.2.1 vwCl (wsW g σ) H) (hS : va_S (AA g s.heap.size) s.heap H locs) (hl : lv_has ls 4 (lvv g b j)) (kk : ∀ (σ2 : Hs) (H1 : Heap) (locs1 : List Loc), RR (j + 1) σ2 → va_P g.2.1 vwCl (wsW g σ2) H1 → va_S (AA g s.heap.size) s.heap H1 locs1 → W p l e room_1 s m args below meth c H1 locs1 104 3690 Q (F0 m 1425 ls [])) : W p l e room_1 s m args below meth c H locs 104 3690 Q (F0 m 875 ls []) := by
  obtain ⟨v, σ1, σ2, c1, c2, hR2⟩ := L_hour (show j ≤ 512 by omega) hR 0 (xs (6 * j + 1)) (xs (6 * j + 2))
  obtain ⟨hx, hb, hml, hown, hts, -⟩ := id C
  refine lv_aload_n hx hb dL_875 rfl (lv_at hl 2 rfl) ?_
  refine lw_arg C hL hj hS hl (k := 1) (by omega) dL_876 dL_877 dL_878 rfl dL_879 dL_880 ?_
  refine lw_arg C hL hj hS hl (k := 2) (by omega) dL_881 dL_882 dL_883 rfl dL_884 dL_885 ?_
  refine lw_vcall C hP hS (mj := 79) (o := 0) (As := [.int (xs (6 * j + 1)), .int (xs (6 * j + 2))]) c1 (by omega) (by decide +kernel) (by omega) (by decide +kernel) (show mn 79 = 2 from by decide +kernel) (gdW_in (i := 736) (by decide +kernel)) rfl hl.1 (Nat.le_of_ble_eq_true rfl) dL_886 rfl (fun H0 l0 hP hS => ?_)
  refine lv_aload_n hx hb dL_889 rfl (lv_at hl 1 rfl) ?_
  refine lw_arg C hL hj hS hl (k := 1) (by omega) dL_890 dL_891 dL_892 rfl dL_893 dL_894 ?_
  refine lw_arg C hL hj hS hl (k := 2) (by omega) dL_895 dL_896 dL_897 rfl dL_898 dL_899 ?_
  refine lw_vcall C hP hS (mj := 185) (o := 87) (As := [.int (xs (6 * j + 1)), .int (xs (6 * j + 2))]) c2 (by omega) (by decide +kernel) (by omega) (by decide +kernel) (show mn 185 = 2 from by decide +kernel) (gdW_in (i := 1309) (by decide +kernel)) rfl hl.1 (Nat.le_of_ble_eq_true rfl) dL_900 rfl (fun H1 l1 hP hS => ?_)
  exact lv_icmp_eq (tgt := 1425) hx hb dL_903 (by decide) (fun _ => kk σ2 _ _ hR2 hP hS) (fun cn => absurd rfl cn)
theorem lw_case_22 (C : LC g p s m args c b L xs) (hL : L ≤ 3072) (hj : 6 * j + 6 ≤ L) (hR : RR j σ) (hP : va_P g.2.1 vwCl (wsW g σ) H) (hS : va_S (AA g s.heap.size) s.heap H locs) (hl : lv_has ls 4 (lvv g b j)) (kk : ∀ (σ2 : Hs) (H1 : Heap) (locs1 : List Loc), RR (j + 1) σ2 → va_P g.2.1 vwCl (wsW g σ2) H1 → va_S (AA g s.heap.size) s.heap H1 locs1 → W p l e room_1 s m args below meth c H1 locs1 104 3690 Q (F0 m 1425 ls [])) : W p l e room_1 s m args below meth c H locs 104 3690 Q (F0 m 908 ls []) := by
  obtain ⟨v, σ1, σ2, c1, c2, hR2⟩ := L_spot hR 0 (xs (6 * j + 1))
  obtain ⟨hx, hb, hml, hown, hts, -⟩ := id C
  refine lv_aload_n hx hb dL_908 rfl (lv_at hl 2 rfl) ?_
  refine lw_arg C hL hj hS hl (k := 1) (by omega) dL_909 dL_910 dL_911 rfl dL_912 dL_913 ?_
  refine lw_vcall C hP hS (mj := 80) (o := 0) (As := [.int (xs (6 * j + 1))]) c1 (by omega) (by decide +kernel) (by omega) (by decide +kernel) (show mn 80 = 1 from by decide +kernel) (gdW_in (i := 751) (by decide +kernel)) rfl hl.1 (Nat.le_of_ble_eq_true rfl) dL_914 rfl (fun H0 l0 hP hS => ?_)
  refine lv_aload_n hx hb dL_917 rfl (lv_at hl 1 rfl) ?_
  refine lw_arg C hL hj hS hl (k := 1) (by omega) dL_918 dL_919 dL_920 rfl dL_921 dL_922 ?_
  refine lw_vcall C hP hS (mj := 186) (o := 87) (As := [.int (xs (6 * j + 1))]) c2 (by omega) (by decide +kernel) (by omega) (by decide +kernel) (show mn 186 = 1 from by decide +kernel) (gdW_in (i := 1317) (by decide +kernel)) rfl hl.1 (Nat.le_of_ble_eq_true rfl) dL_923 rfl (fun H1 l1 hP hS => ?_)
  exact lv_icmp_eq (tgt := 1425) hx hb dL_926 (by decide) (fun _ => kk σ2 _ _ hR2 hP hS) (fun cn => absurd rfl cn)
theorem lw_case_23 (C : LC g p s m args c b L xs) (hL : L ≤ 3072) (hj : 6 * j + 6 ≤ L) (hR : RR j σ) (hP : va_P g.2.1 vwCl (wsW g σ) H) (hS : va_S (AA g s.heap.size) s.heap H locs) (hl : lv_has ls 4 (lvv g b j)) (kk : ∀ (σ2 : Hs) (H1 : Heap) (locs1 : List Loc), RR (j + 1) σ2 → va_P g.2.1 vwCl (wsW g σ2) H1 → va_S (AA g s.heap.size) s.heap H1 locs1 → W p l e room_1 s m args below meth c H1 locs1 104 3690 Q (F0 m 1425 ls [])) : W p l e room_1 s m args below meth c H locs 104 3690 Q (F0 m 931 ls []) := by
  obtain ⟨v, σ1, σ2, c1, c2, hR2⟩ := L_out hR 0 (xs (6 * j + 1))
  obtain ⟨hx, hb, hml, hown, hts, -⟩ := id C
  refine lv_aload_n hx hb dL_931 rfl (lv_at hl 2 rfl) ?_
  refine lw_arg C hL hj hS hl (k := 1) (by omega) dL_932 dL_933 dL_934 rfl dL_935 dL_936 ?_
  refine lw_vcall C hP hS (mj := 81) (o := 0) (As := [.int (xs (6 * j + 1))]) c1 (by omega) (by decide +kernel) (by omega) (by decide +kernel) (show mn 81 = 1 from by decide +kernel) (gdW_in (i := 755) (by decide +kernel)) rfl hl.1 (Nat.le_of_ble_eq_true rfl) dL_937 rfl (fun H0 l0 hP hS => ?_)
  refine lv_aload_n hx hb dL_940 rfl (lv_at hl 1 rfl) ?_
  refine lw_arg C hL hj hS hl (k := 1) (by omega) dL_941 dL_942 dL_943 rfl dL_944 dL_945 ?_
  refine lw_vcall C hP hS (mj := 187) (o := 87) (As := [.int (xs (6 * j + 1))]) c2 (by omega) (by decide +kernel) (by omega) (by decide +kernel) (show mn 187 = 1 from by decide +kernel) (gdW_in (i := 1321) (by decide +kernel)) rfl hl.1 (Nat.le_of_ble_eq_true rfl) dL_946 rfl (fun H1 l1 hP hS => ?_)
  exact lv_icmp_eq (tgt := 1425) hx hb dL_949 (by decide) (fun _ => kk σ2 _ _ hR2 hP hS) (fun cn => absurd rfl cn)
theorem lw_case_24 (C : LC g p s m args c b L xs) (hL : L ≤ 3072) (hj : 6 * j + 6 ≤ L) (hR : RR j σ) (hP : va_P g.2.1 vwCl (wsW g σ) H) (hS : va_S (AA g s.heap.size) s.heap H locs) (hl : lv_has ls 4 (lvv g b j)) (kk : ∀ (σ2 : Hs) (H1 : Heap) (locs1 : List Loc), RR (j + 1) σ2 → va_P g.2.1 vwCl (wsW g σ2) H1 → va_S (AA g s.heap.size) s.heap H1 locs1 → W p l e room_1 s m args below meth c H1 locs1 104 3690 Q (F0 m 1425 ls [])) : W p l e room_1 s m args below meth c H locs 104 3690 Q (F0 m 954 ls []) := by
  obtain ⟨v, σ1, σ2, c1, c2, hR2⟩ := L_catches hR 0 (xs (6 * j + 1)) (xs (6 * j + 2))
  obtain ⟨hx, hb, hml, hown, hts, -⟩ := id C
  refine lv_aload_n hx hb dL_954 rfl (lv_at hl 2 rfl) ?_
  refine lw_arg C hL hj hS hl (k := 1) (by omega) dL_955 dL_956 dL_957 rfl dL_958 dL_959 ?_
  refine lw_arg C hL hj hS hl (k := 2) (by omega) dL_960 dL_961 dL_962 rfl dL_963 dL_964 ?_
  refine lw_vcall C hP hS (mj := 82) (o := 0) (As := [.int (xs (6 * j + 1)), .int (xs (6 * j + 2))]) c1 (by omega) (by decide +kernel) (by omega) (by decide +kernel) (show mn 82 = 2 from by decide +kernel) (gdW_in (i := 764) (by decide +kernel)) rfl hl.1 (Nat.le_of_ble_eq_true rfl) dL_965 rfl (fun H0 l0 hP hS => ?_)
  refine lv_aload_n hx hb dL_968 rfl (lv_at hl 1 rfl) ?_
  refine lw_arg C hL hj hS hl (k := 1) (by omega) dL_969 dL_970 dL_971 rfl dL_972 dL_973 ?_
  refine lw_arg C hL hj hS hl (k := 2) (by omega) dL_974 dL_975 dL_976 rfl dL_977 dL_978 ?_
  refine lw_vcall C hP hS (mj := 188) (o := 87) (As := [.int (xs (6 * j + 1)), .int (xs (6 * j + 2))]) c2 (by omega) (by decide +kernel) (by omega) (by decide +kernel) (show mn 188 = 2 from by decide +kernel) (gdW_in (i := 1325) (by decide +kernel)) rfl hl.1 (Nat.le_of_ble_eq_true rfl) dL_979 rfl (fun H1 l1 hP hS => ?_)
  exact lv_icmp_eq (tgt := 1425) hx hb dL_982 (by decide) (fun _ => kk σ2 _ _ hR2 hP hS) (fun cn => absurd rfl cn)
theorem lw_case_25 (C : LC g p s m args c b L xs) (hL : L ≤ 3072) (hj : 6 * j + 6 ≤ L) (hR : RR j σ) (hP : va_P g.2.1 vwCl (wsW g σ) H) (hS : va_S (AA g s.heap.size) s.heap H locs) (hl : lv_has ls 4 (lvv g b j)) (kk : ∀ (σ2 : Hs) (H1 : Heap) (locs1 : List Loc), RR (j + 1) σ2 → va_P g.2.1 vwCl (wsW g σ2) H1 → va_S (AA g s.heap.size) s.heap H1 locs1 → W p l e room_1 s m args below meth c H1 locs1 104 3690 Q (F0 m 1425 ls [])) : W p l e room_1 s m args below meth c H locs 104 3690 Q (F0 m 987 ls []) := by
  obtain ⟨v, σ1, σ2, c1, c2, hR2⟩ := L_reach hR 0 (xs (6 * j + 1))
  obtain ⟨hx, hb, hml, hown, hts, -⟩ := id C
  refine lv_aload_n hx hb dL_987 rfl (lv_at hl 2 rfl) ?_
  refine lw_arg C hL hj hS hl (k := 1) (by omega) dL_988 dL_989 dL_990 rfl dL_991 dL_992 ?_
  refine lw_vcall C hP hS (mj := 83) (o := 0) (As := [.int (xs (6 * j + 1))]) c1 (by omega) (by decide +kernel) (by omega) (by decide +kernel) (show mn 83 = 1 from by decide +kernel) (gdW_in (i := 768) (by decide +kernel)) rfl hl.1 (Nat.le_of_ble_eq_true rfl) dL_993 rfl (fun H0 l0 hP hS => ?_)
  refine lv_aload_n hx hb dL_996 rfl (lv_at hl 1 rfl) ?_
  refine lw_arg C hL hj hS hl (k := 1) (by omega) dL_997 dL_998 dL_999 rfl dL_1000 dL_1001 ?_
  refine lw_vcall C hP hS (mj := 189) (o := 87) (As := [.int (xs (6 * j + 1))]) c2 (by omega) (by decide +kernel) (by omega) (by decide +kernel) (show mn 189 = 1 from by decide +kernel) (gdW_in (i := 1329) (by decide +kernel)) rfl hl.1 (Nat.le_of_ble_eq_true rfl) dL_1002 rfl (fun H1 l1 hP hS => ?_)
  exact lv_icmp_eq (tgt := 1425) hx hb dL_1005 (by decide) (fun _ => kk σ2 _ _ hR2 hP hS) (fun cn => absurd rfl cn)
theorem lw_case_26 (C : LC g p s m args c b L xs) (hL : L ≤ 3072) (hj : 6 * j + 6 ≤ L) (hR : RR j σ) (hP : va_P g.2.1 vwCl (wsW g σ) H) (hS : va_S (AA g s.heap.size) s.heap H locs) (hl : lv_has ls 4 (lvv g b j)) (kk : ∀ (σ2 : Hs) (H1 : Heap) (locs1 : List Loc), RR (j + 1) σ2 → va_P g.2.1 vwCl (wsW g σ2) H1 → va_S (AA g s.heap.size) s.heap H1 locs1 → W p l e room_1 s m args below meth c H1 locs1 104 3690 Q (F0 m 1425 ls [])) : W p l e room_1 s m args below meth c H locs 104 3690 Q (F0 m 1010 ls []) := by
  obtain ⟨v, σ1, σ2, c1, c2, hR2⟩ := L_report hR 0 (xs (6 * j + 1)) (xs (6 * j + 2))
  obtain ⟨hx, hb, hml, hown, hts, -⟩ := id C
  refine lv_aload_n hx hb dL_1010 rfl (lv_at hl 2 rfl) ?_
  refine lw_arg C hL hj hS hl (k := 1) (by omega) dL_1011 dL_1012 dL_1013 rfl dL_1014 dL_1015 ?_
  refine lw_arg C hL hj hS hl (k := 2) (by omega) dL_1016 dL_1017 dL_1018 rfl dL_1019 dL_1020 ?_
  refine lw_vcall C hP hS (mj := 84) (o := 0) (As := [.int (xs (6 * j + 1)), .int (xs (6 * j + 2))]) c1 (by omega) (by decide +kernel) (by omega) (by decide +kernel) (show mn 84 = 2 from by decide +kernel) (gdW_in (i := 779) (by decide +kernel)) rfl hl.1 (Nat.le_of_ble_eq_true rfl) dL_1021 rfl (fun H0 l0 hP hS => ?_)
  refine lv_aload_n hx hb dL_1024 rfl (lv_at hl 1 rfl) ?_
  refine lw_arg C hL hj hS hl (k := 1) (by omega) dL_1025 dL_1026 dL_1027 rfl dL_1028 dL_1029 ?_
  refine lw_arg C hL hj hS hl (k := 2) (by omega) dL_1030 dL_1031 dL_1032 rfl dL_1033 dL_1034 ?_
  refine lw_vcall C hP hS (mj := 191) (o := 87) (As := [.int (xs (6 * j + 1)), .int (xs (6 * j + 2))]) c2 (by omega) (by decide +kernel) (by omega) (by decide +kernel) (show mn 191 = 2 from by decide +kernel) (gdW_in (i := 1336) (by decide +kernel)) rfl hl.1 (Nat.le_of_ble_eq_true rfl) dL_1035 rfl (fun H1 l1 hP hS => ?_)
  exact lv_icmp_eq (tgt := 1425) hx hb dL_1038 (by decide) (fun _ => kk σ2 _ _ hR2 hP hS) (fun cn => absurd rfl cn)
theorem lw_case_27 (C : LC g p s m args c b L xs) (hL : L ≤ 3072) (hj : 6 * j + 6 ≤ L) (hR : RR j σ) (hP : va_P g.2.1 vwCl (wsW g σ) H) (hS : va_S (AA g s.heap.size) s.heap H locs) (hl : lv_has ls 4 (lvv g b j)) (kk : ∀ (σ2 : Hs) (H1 : Heap) (locs1 : List Loc), RR (j + 1) σ2 → va_P g.2.1 vwCl (wsW g σ2) H1 → va_S (AA g s.heap.size) s.heap H1 locs1 → W p l e room_1 s m args below meth c H1 locs1 104 3690 Q (F0 m 1425 ls [])) : W p l e room_1 s m args below meth c H locs 104 3690 Q (F0 m 1043 ls []) := by
  obtain ⟨v, σ1, σ2, c1, c2, hR2⟩ := L_suspects hR 0
  obtain ⟨hx, hb, hml, hown, hts, -⟩ := id C
  refine lv_aload_n hx hb dL_1043 rfl (lv_at hl 2 rfl) ?_
  refine lw_vcall C hP hS (mj := 85) (o := 0) (As := []) c1 (by omega) (by decide +kernel) (by omega) (by decide +kernel) (show mn 85 = 0 from by decide +kernel) (gdW_in (i := 783) (by decide +kernel)) rfl hl.1 (Nat.le_of_ble_eq_true rfl) dL_1044 rfl (fun H0 l0 hP hS => ?_)
  refine lv_aload_n hx hb dL_1047 rfl (lv_at hl 1 rfl) ?_
  refine lw_vcall C hP hS (mj := 194) (o := 87) (As := []) c2 (by omega) (by decide +kernel) (by omega) (by decide +kernel) (show mn 194 = 0 from by decide +kernel) (gdW_in (i := 1340) (by decide +kernel)) rfl hl.1 (Nat.le_of_ble_eq_true rfl) dL_1048 rfl (fun H1 l1 hP hS => ?_)
  exact lv_icmp_eq (tgt := 1425) hx hb dL_1051 (by decide) (fun _ => kk σ2 _ _ hR2 hP hS) (fun cn => absurd rfl cn)
end LAWC
