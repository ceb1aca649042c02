theorem dc_W_law_749 : decode bc_W_law 749 = .ok (.iload_n 3, 1) := by decide +kernel
theorem dc_W_law_750 : decode bc_W_law 750 = .ok (.iconst 5, 1) := by decide +kernel
theorem dc_W_law_751 : decode bc_W_law 751 = .ok (.iadd, 1) := by decide +kernel
theorem dc_W_law_752 : decode bc_W_law 752 = .ok (.iaload, 1) := by decide +kernel
theorem dc_W_law_753 : decode bc_W_law 753 = .ok (.aload_n 0, 1) := by decide +kernel
theorem dc_W_law_754 : decode bc_W_law 754 = .ok (.iload_n 3, 1) := by decide +kernel
theorem dc_W_law_755 : decode bc_W_law 755 = .ok (.bipush 6, 2) := by decide +kernel
theorem dc_W_law_757 : decode bc_W_law 757 = .ok (.iadd, 1) := by decide +kernel
theorem dc_W_law_758 : decode bc_W_law 758 = .ok (.iaload, 1) := by decide +kernel
theorem dc_W_law_759 : decode bc_W_law 759 = .ok (.i2l, 1) := by decide +kernel
theorem dc_W_law_760 : decode bc_W_law 760 = .ok (.bipush 32, 2) := by decide +kernel
theorem dc_W_law_762 : decode bc_W_law 762 = .ok (.lshl, 1) := by decide +kernel
theorem dc_W_law_763 : decode bc_W_law 763 = .ok (.aload_n 0, 1) := by decide +kernel
theorem dc_W_law_764 : decode bc_W_law 764 = .ok (.iload_n 3, 1) := by decide +kernel
theorem dc_W_law_765 : decode bc_W_law 765 = .ok (.bipush 7, 2) := by decide +kernel
theorem dc_W_law_767 : decode bc_W_law 767 = .ok (.iadd, 1) := by decide +kernel
theorem dc_W_law_768 : decode bc_W_law 768 = .ok (.iaload, 1) := by decide +kernel
theorem dc_W_law_769 : decode bc_W_law 769 = .ok (.i2l, 1) := by decide +kernel
theorem dc_W_law_770 : decode bc_W_law 770 = .ok (.ldc2_w 13, 3) := by decide +kernel
theorem dc_W_law_773 : decode bc_W_law 773 = .ok (.land, 1) := by decide +kernel
theorem dc_W_law_774 : decode bc_W_law 774 = .ok (.lor, 1) := by decide +kernel
theorem dc_W_law_775 : decode bc_W_law 775 = .ok (.invokevirtual 68, 3) := by decide +kernel
theorem dc_W_law_778 : decode bc_W_law 778 = .ok (.if_icmp .eq 577, 3) := by decide +kernel
theorem dc_W_law_781 : decode bc_W_law 781 = .ok (.iconst 0, 1) := by decide +kernel
theorem dc_W_law_782 : decode bc_W_law 782 = .ok (.ireturn, 1) := by decide +kernel
theorem dc_W_law_783 : decode bc_W_law 783 = .ok (.aload_n 1, 1) := by decide +kernel
theorem dc_W_law_784 : decode bc_W_law 784 = .ok (.aload_n 0, 1) := by decide +kernel
theorem dc_W_law_785 : decode bc_W_law 785 = .ok (.iload_n 3, 1) := by decide +kernel
theorem dc_W_law_786 : decode bc_W_law 786 = .ok (.iconst 1, 1) := by decide +kernel
theorem dc_W_law_787 : decode bc_W_law 787 = .ok (.iadd, 1) := by decide +kernel
theorem dc_W_law_788 : decode bc_W_law 788 = .ok (.iaload, 1) := by decide +kernel
theorem dc_W_law_789 : decode bc_W_law 789 = .ok (.aload_n 0, 1) := by decide +kernel
theorem dc_W_law_790 : decode bc_W_law 790 = .ok (.iload_n 3, 1) := by decide +kernel
theorem dc_W_law_791 : decode bc_W_law 791 = .ok (.iconst 2, 1) := by decide +kernel
theorem dc_W_law_792 : decode bc_W_law 792 = .ok (.iadd, 1) := by decide +kernel
theorem dc_W_law_793 : decode bc_W_law 793 = .ok (.iaload, 1) := by decide +kernel
theorem dc_W_law_794 : decode bc_W_law 794 = .ok (.invokevirtual 69, 3) := by decide +kernel
theorem dc_W_law_797 : decode bc_W_law 797 = .ok (.aload_n 2, 1) := by decide +kernel
theorem dc_W_law_798 : decode bc_W_law 798 = .ok (.aload_n 0, 1) := by decide +kernel
theorem dc_W_law_799 : decode bc_W_law 799 = .ok (.iload_n 3, 1) := by decide +kernel
theorem dc_W_law_800 : decode bc_W_law 800 = .ok (.iconst 1, 1) := by decide +kernel
theorem dc_W_law_801 : decode bc_W_law 801 = .ok (.iadd, 1) := by decide +kernel
theorem dc_W_law_802 : decode bc_W_law 802 = .ok (.iaload, 1) := by decide +kernel
theorem dc_W_law_803 : decode bc_W_law 803 = .ok (.aload_n 0, 1) := by decide +kernel
theorem dc_W_law_804 : decode bc_W_law 804 = .ok (.iload_n 3, 1) := by decide +kernel
theorem dc_W_law_805 : decode bc_W_law 805 = .ok (.iconst 2, 1) := by decide +kernel
theorem dc_W_law_806 : decode bc_W_law 806 = .ok (.iadd, 1) := by decide +kernel
theorem dc_W_law_807 : decode bc_W_law 807 = .ok (.iaload, 1) := by decide +kernel
theorem dc_W_law_808 : decode bc_W_law 808 = .ok (.invokevirtual 72, 3) := by decide +kernel
theorem dc_W_law_811 : decode bc_W_law 811 = .ok (.lcmp, 1) := by decide +kernel
theorem dc_W_law_812 : decode bc_W_law 812 = .ok (.ifCond .eq 543, 3) := by decide +kernel
theorem dc_W_law_815 : decode bc_W_law 815 = .ok (.iconst 0, 1) := by decide +kernel
theorem dc_W_law_816 : decode bc_W_law 816 = .ok (.ireturn, 1) := by decide +kernel
theorem dc_W_law_817 : decode bc_W_law 817 = .ok (.aload_n 1, 1) := by decide +kernel
theorem dc_W_law_818 : decode bc_W_law 818 = .ok (.aload_n 0, 1) := by decide +kernel
theorem dc_W_law_819 : decode bc_W_law 819 = .ok (.iload_n 3, 1) := by decide +kernel
theorem dc_W_law_820 : decode bc_W_law 820 = .ok (.iconst 1, 1) := by decide +kernel
theorem dc_W_law_821 : decode bc_W_law 821 = .ok (.iadd, 1) := by decide +kernel
theorem dc_W_law_822 : decode bc_W_law 822 = .ok (.iaload, 1) := by decide +kernel
theorem dc_W_law_823 : decode bc_W_law 823 = .ok (.aload_n 0, 1) := by decide +kernel
theorem dc_W_law_824 : decode bc_W_law 824 = .ok (.iload_n 3, 1) := by decide +kernel
theorem dc_W_law_825 : decode bc_W_law 825 = .ok (.iconst 2, 1) := by decide +kernel
theorem dc_W_law_826 : decode bc_W_law 826 = .ok (.iadd, 1) := by decide +kernel
theorem dc_W_law_827 : decode bc_W_law 827 = .ok (.iaload, 1) := by decide +kernel
theorem dc_W_law_828 : decode bc_W_law 828 = .ok (.invokevirtual 73, 3) := by decide +kernel
theorem dc_W_law_831 : decode bc_W_law 831 = .ok (.aload_n 2, 1) := by decide +kernel
theorem dc_W_law_832 : decode bc_W_law 832 = .ok (.aload_n 0, 1) := by decide +kernel
theorem dc_W_law_833 : decode bc_W_law 833 = .ok (.iload_n 3, 1) := by decide +kernel
theorem dc_W_law_834 : decode bc_W_law 834 = .ok (.iconst 1, 1) := by decide +kernel
theorem dc_W_law_835 : decode bc_W_law 835 = .ok (.iadd, 1) := by decide +kernel
theorem dc_W_law_836 : decode bc_W_law 836 = .ok (.iaload, 1) := by decide +kernel
theorem dc_W_law_837 : decode bc_W_law 837 = .ok (.aload_n 0, 1) := by decide +kernel
theorem dc_W_law_838 : decode bc_W_law 838 = .ok (.iload_n 3, 1) := by decide +kernel
theorem dc_W_law_839 : decode bc_W_law 839 = .ok (.iconst 2, 1) := by decide +kernel
theorem dc_W_law_840 : decode bc_W_law 840 = .ok (.iadd, 1) := by decide +kernel
theorem dc_W_law_841 : decode bc_W_law 841 = .ok (.iaload, 1) := by decide +kernel
theorem dc_W_law_842 : decode bc_W_law 842 = .ok (.invokevirtual 76, 3) := by decide +kernel
theorem dc_W_law_845 : decode bc_W_law 845 = .ok (.lcmp, 1) := by decide +kernel
theorem dc_W_law_846 : decode bc_W_law 846 = .ok (.ifCond .eq 509, 3) := by decide +kernel
theorem dc_W_law_849 : decode bc_W_law 849 = .ok (.iconst 0, 1) := by decide +kernel
theorem dc_W_law_850 : decode bc_W_law 850 = .ok (.ireturn, 1) := by decide +kernel
theorem dc_W_law_851 : decode bc_W_law 851 = .ok (.aload_n 1, 1) := by decide +kernel
theorem dc_W_law_852 : decode bc_W_law 852 = .ok (.aload_n 0, 1) := by decide +kernel
theorem dc_W_law_853 : decode bc_W_law 853 = .ok (.iload_n 3, 1) := by decide +kernel
theorem dc_W_law_854 : decode bc_W_law 854 = .ok (.iconst 1, 1) := by decide +kernel
theorem dc_W_law_855 : decode bc_W_law 855 = .ok (.iadd, 1) := by decide +kernel
theorem dc_W_law_856 : decode bc_W_law 856 = .ok (.iaload, 1) := by decide +kernel
theorem dc_W_law_857 : decode bc_W_law 857 = .ok (.aload_n 0, 1) := by decide +kernel
theorem dc_W_law_858 : decode bc_W_law 858 = .ok (.iload_n 3, 1) := by decide +kernel
theorem dc_W_law_859 : decode bc_W_law 859 = .ok (.iconst 2, 1) := by decide +kernel
theorem dc_W_law_860 : decode bc_W_law 860 = .ok (.iadd, 1) := by decide +kernel
theorem dc_W_law_861 : decode bc_W_law 861 = .ok (.iaload, 1) := by decide +kernel
theorem dc_W_law_862 : decode bc_W_law 862 = .ok (.invokevirtual 77, 3) := by decide +kernel
theorem dc_W_law_865 : decode bc_W_law 865 = .ok (.aload_n 2, 1) := by decide +kernel
theorem dc_W_law_866 : decode bc_W_law 866 = .ok (.aload_n 0, 1) := by decide +kernel
theorem dc_W_law_867 : decode bc_W_law 867 = .ok (.iload_n 3, 1) := by decide +kernel
theorem dc_W_law_868 : decode bc_W_law 868 = .ok (.iconst 1, 1) := by decide +kernel
theorem dc_W_law_869 : decode bc_W_law 869 = .ok (.iadd, 1) := by decide +kernel
theorem dc_W_law_870 : decode bc_W_law 870 = .ok (.iaload, 1) := by decide +kernel
theorem dc_W_law_871 : decode bc_W_law 871 = .ok (.aload_n 0, 1) := by decide +kernel
theorem dc_W_law_872 : decode bc_W_law 872 = .ok (.iload_n 3, 1) := by decide +kernel
theorem dc_W_law_873 : decode bc_W_law 873 = .ok (.iconst 2, 1) := by decide +kernel
theorem dc_W_law_874 : decode bc_W_law 874 = .ok (.iadd, 1) := by decide +kernel
theorem dc_W_law_875 : decode bc_W_law 875 = .ok (.iaload, 1) := by decide +kernel
theorem dc_W_law_876 : decode bc_W_law 876 = .ok (.invokevirtual 80, 3) := by decide +kernel
theorem dc_W_law_879 : decode bc_W_law 879 = .ok (.if_icmp .eq 476, 3) := by decide +kernel
theorem dc_W_law_882 : decode bc_W_law 882 = .ok (.iconst 0, 1) := by decide +kernel
theorem dc_W_law_883 : decode bc_W_law 883 = .ok (.ireturn, 1) := by decide +kernel
theorem dc_W_law_884 : decode bc_W_law 884 = .ok (.aload_n 1, 1) := by decide +kernel
theorem dc_W_law_885 : decode bc_W_law 885 = .ok (.aload_n 0, 1) := by decide +kernel
theorem dc_W_law_886 : decode bc_W_law 886 = .ok (.iload_n 3, 1) := by decide +kernel
theorem dc_W_law_887 : decode bc_W_law 887 = .ok (.iconst 1, 1) := by decide +kernel
theorem dc_W_law_888 : decode bc_W_law 888 = .ok (.iadd, 1) := by decide +kernel
theorem dc_W_law_889 : decode bc_W_law 889 = .ok (.iaload, 1) := by decide +kernel
theorem dc_W_law_890 : decode bc_W_law 890 = .ok (.aload_n 0, 1) := by decide +kernel
theorem dc_W_law_891 : decode bc_W_law 891 = .ok (.iload_n 3, 1) := by decide +kernel
theorem dc_W_law_892 : decode bc_W_law 892 = .ok (.iconst 2, 1) := by decide +kernel
theorem dc_W_law_893 : decode bc_W_law 893 = .ok (.iadd, 1) := by decide +kernel
theorem dc_W_law_894 : decode bc_W_law 894 = .ok (.iaload, 1) := by decide +kernel
theorem dc_W_law_895 : decode bc_W_law 895 = .ok (.invokevirtual 81, 3) := by decide +kernel
theorem dc_W_law_898 : decode bc_W_law 898 = .ok (.aload_n 2, 1) := by decide +kernel
theorem dc_W_law_899 : decode bc_W_law 899 = .ok (.aload_n 0, 1) := by decide +kernel
theorem dc_W_law_900 : decode bc_W_law 900 = .ok (.iload_n 3, 1) := by decide +kernel
theorem dc_W_law_901 : decode bc_W_law 901 = .ok (.iconst 1, 1) := by decide +kernel
theorem dc_W_law_902 : decode bc_W_law 902 = .ok (.iadd, 1) := by decide +kernel
theorem dc_W_law_903 : decode bc_W_law 903 = .ok (.iaload, 1) := by decide +kernel
theorem dc_W_law_904 : decode bc_W_law 904 = .ok (.aload_n 0, 1) := by decide +kernel
theorem dc_W_law_905 : decode bc_W_law 905 = .ok (.iload_n 3, 1) := by decide +kernel
theorem dc_W_law_906 : decode bc_W_law 906 = .ok (.iconst 2, 1) := by decide +kernel
theorem dc_W_law_907 : decode bc_W_law 907 = .ok (.iadd, 1) := by decide +kernel
theorem dc_W_law_908 : decode bc_W_law 908 = .ok (.iaload, 1) := by decide +kernel
theorem dc_W_law_909 : decode bc_W_law 909 = .ok (.invokevirtual 84, 3) := by decide +kernel
theorem dc_W_law_912 : decode bc_W_law 912 = .ok (.if_icmp .eq 443, 3) := by decide +kernel
theorem dc_W_law_915 : decode bc_W_law 915 = .ok (.iconst 0, 1) := by decide +kernel
theorem dc_W_law_916 : decode bc_W_law 916 = .ok (.ireturn, 1) := by decide +kernel
theorem dc_W_law_917 : decode bc_W_law 917 = .ok (.aload_n 1, 1) := by decide +kernel
theorem dc_W_law_918 : decode bc_W_law 918 = .ok (.aload_n 0, 1) := by decide +kernel
theorem dc_W_law_919 : decode bc_W_law 919 = .ok (.iload_n 3, 1) := by decide +kernel
theorem dc_W_law_920 : decode bc_W_law 920 = .ok (.iconst 1, 1) := by decide +kernel
theorem dc_W_law_921 : decode bc_W_law 921 = .ok (.iadd, 1) := by decide +kernel
theorem dc_W_law_922 : decode bc_W_law 922 = .ok (.iaload, 1) := by decide +kernel
theorem dc_W_law_923 : decode bc_W_law 923 = .ok (.aload_n 0, 1) := by decide +kernel
theorem dc_W_law_924 : decode bc_W_law 924 = .ok (.iload_n 3, 1) := by decide +kernel
theorem dc_W_law_925 : decode bc_W_law 925 = .ok (.iconst 2, 1) := by decide +kernel
theorem dc_W_law_926 : decode bc_W_law 926 = .ok (.iadd, 1) := by decide +kernel
theorem dc_W_law_927 : decode bc_W_law 927 = .ok (.iaload, 1) := by decide +kernel
theorem dc_W_law_928 : decode bc_W_law 928 = .ok (.invokevirtual 85, 3) := by decide +kernel
theorem dc_W_law_931 : decode bc_W_law 931 = .ok (.aload_n 2, 1) := by decide +kernel
theorem dc_W_law_932 : decode bc_W_law 932 = .ok (.aload_n 0, 1) := by decide +kernel
theorem dc_W_law_933 : decode bc_W_law 933 = .ok (.iload_n 3, 1) := by decide +kernel
theorem dc_W_law_934 : decode bc_W_law 934 = .ok (.iconst 1, 1) := by decide +kernel
theorem dc_W_law_935 : decode bc_W_law 935 = .ok (.iadd, 1) := by decide +kernel
theorem dc_W_law_936 : decode bc_W_law 936 = .ok (.iaload, 1) := by decide +kernel
theorem dc_W_law_937 : decode bc_W_law 937 = .ok (.aload_n 0, 1) := by decide +kernel
theorem dc_W_law_938 : decode bc_W_law 938 = .ok (.iload_n 3, 1) := by decide +kernel
theorem dc_W_law_939 : decode bc_W_law 939 = .ok (.iconst 2, 1) := by decide +kernel
theorem dc_W_law_940 : decode bc_W_law 940 = .ok (.iadd, 1) := by decide +kernel
theorem dc_W_law_941 : decode bc_W_law 941 = .ok (.iaload, 1) := by decide +kernel
theorem dc_W_law_942 : decode bc_W_law 942 = .ok (.invokevirtual 88, 3) := by decide +kernel
theorem dc_W_law_945 : decode bc_W_law 945 = .ok (.lcmp, 1) := by decide +kernel
theorem dc_W_law_946 : decode bc_W_law 946 = .ok (.ifCond .eq 409, 3) := by decide +kernel
theorem dc_W_law_949 : decode bc_W_law 949 = .ok (.iconst 0, 1) := by decide +kernel
theorem dc_W_law_950 : decode bc_W_law 950 = .ok (.ireturn, 1) := by decide +kernel
theorem dc_W_law_951 : decode bc_W_law 951 = .ok (.aload_n 1, 1) := by decide +kernel
theorem dc_W_law_952 : decode bc_W_law 952 = .ok (.aload_n 0, 1) := by decide +kernel
theorem dc_W_law_953 : decode bc_W_law 953 = .ok (.iload_n 3, 1) := by decide +kernel
theorem dc_W_law_954 : decode bc_W_law 954 = .ok (.iconst 1, 1) := by decide +kernel
theorem dc_W_law_955 : decode bc_W_law 955 = .ok (.iadd, 1) := by decide +kernel
theorem dc_W_law_956 : decode bc_W_law 956 = .ok (.iaload, 1) := by decide +kernel
theorem dc_W_law_957 : decode bc_W_law 957 = .ok (.aload_n 0, 1) := by decide +kernel
theorem dc_W_law_958 : decode bc_W_law 958 = .ok (.iload_n 3, 1) := by decide +kernel
theorem dc_W_law_959 : decode bc_W_law 959 = .ok (.iconst 2, 1) := by decide +kernel
theorem dc_W_law_960 : decode bc_W_law 960 = .ok (.iadd, 1) := by decide +kernel
theorem dc_W_law_961 : decode bc_W_law 961 = .ok (.iaload, 1) := by decide +kernel
theorem dc_W_law_962 : decode bc_W_law 962 = .ok (.aload_n 0, 1) := by decide +kernel
theorem dc_W_law_963 : decode bc_W_law 963 = .ok (.iload_n 3, 1) := by decide +kernel
theorem dc_W_law_964 : decode bc_W_law 964 = .ok (.iconst 3, 1) := by decide +kernel
theorem dc_W_law_965 : decode bc_W_law 965 = .ok (.iadd, 1) := by decide +kernel
theorem dc_W_law_966 : decode bc_W_law 966 = .ok (.iaload, 1) := by decide +kernel
theorem dc_W_law_967 : decode bc_W_law 967 = .ok (.invokevirtual 89, 3) := by decide +kernel
theorem dc_W_law_970 : decode bc_W_law 970 = .ok (.aload_n 2, 1) := by decide +kernel
theorem dc_W_law_971 : decode bc_W_law 971 = .ok (.aload_n 0, 1) := by decide +kernel
theorem dc_W_law_972 : decode bc_W_law 972 = .ok (.iload_n 3, 1) := by decide +kernel
theorem dc_W_law_973 : decode bc_W_law 973 = .ok (.iconst 1, 1) := by decide +kernel
theorem dc_W_law_974 : decode bc_W_law 974 = .ok (.iadd, 1) := by decide +kernel
theorem dc_W_law_975 : decode bc_W_law 975 = .ok (.iaload, 1) := by decide +kernel
theorem dc_W_law_976 : decode bc_W_law 976 = .ok (.aload_n 0, 1) := by decide +kernel
theorem dc_W_law_977 : decode bc_W_law 977 = .ok (.iload_n 3, 1) := by decide +kernel
theorem dc_W_law_978 : decode bc_W_law 978 = .ok (.iconst 2, 1) := by decide +kernel
theorem dc_W_law_979 : decode bc_W_law 979 = .ok (.iadd, 1) := by decide +kernel
theorem dc_W_law_980 : decode bc_W_law 980 = .ok (.iaload, 1) := by decide +kernel
theorem dc_W_law_981 : decode bc_W_law 981 = .ok (.aload_n 0, 1) := by decide +kernel
theorem dc_W_law_982 : decode bc_W_law 982 = .ok (.iload_n 3, 1) := by decide +kernel
theorem dc_W_law_983 : decode bc_W_law 983 = .ok (.iconst 3, 1) := by decide +kernel
theorem dc_W_law_984 : decode bc_W_law 984 = .ok (.iadd, 1) := by decide +kernel
theorem dc_W_law_985 : decode bc_W_law 985 = .ok (.iaload, 1) := by decide +kernel
theorem dc_W_law_986 : decode bc_W_law 986 = .ok (.invokevirtual 93, 3) := by decide +kernel
theorem dc_W_law_989 : decode bc_W_law 989 = .ok (.if_icmp .eq 366, 3) := by decide +kernel
theorem dc_W_law_992 : decode bc_W_law 992 = .ok (.iconst 0, 1) := by decide +kernel
theorem dc_W_law_993 : decode bc_W_law 993 = .ok (.ireturn, 1) := by decide +kernel
theorem dc_W_law_994 : decode bc_W_law 994 = .ok (.aload_n 1, 1) := by decide +kernel
theorem dc_W_law_995 : decode bc_W_law 995 = .ok (.aload_n 0, 1) := by decide +kernel
theorem dc_W_law_996 : decode bc_W_law 996 = .ok (.iload_n 3, 1) := by decide +kernel
theorem dc_W_law_997 : decode bc_W_law 997 = .ok (.iconst 1, 1) := by decide +kernel
theorem dc_W_law_998 : decode bc_W_law 998 = .ok (.iadd, 1) := by decide +kernel
theorem dc_W_law_999 : decode bc_W_law 999 = .ok (.iaload, 1) := by decide +kernel
theorem dc_W_law_1000 : decode bc_W_law 1000 = .ok (.aload_n 0, 1) := by decide +kernel
theorem dc_W_law_1001 : decode bc_W_law 1001 = .ok (.iload_n 3, 1) := by decide +kernel
theorem dc_W_law_1002 : decode bc_W_law 1002 = .ok (.iconst 2, 1) := by decide +kernel
theorem dc_W_law_1003 : decode bc_W_law 1003 = .ok (.iadd, 1) := by decide +kernel
theorem dc_W_law_1004 : decode bc_W_law 1004 = .ok (.iaload, 1) := by decide +kernel
theorem dc_W_law_1005 : decode bc_W_law 1005 = .ok (.invokevirtual 94, 3) := by decide +kernel
theorem dc_W_law_1008 : decode bc_W_law 1008 = .ok (.aload_n 2, 1) := by decide +kernel
theorem dc_W_law_1009 : decode bc_W_law 1009 = .ok (.aload_n 0, 1) := by decide +kernel
theorem dc_W_law_1010 : decode bc_W_law 1010 = .ok (.iload_n 3, 1) := by decide +kernel
theorem dc_W_law_1011 : decode bc_W_law 1011 = .ok (.iconst 1, 1) := by decide +kernel
theorem dc_W_law_1012 : decode bc_W_law 1012 = .ok (.iadd, 1) := by decide +kernel
theorem dc_W_law_1013 : decode bc_W_law 1013 = .ok (.iaload, 1) := by decide +kernel
theorem dc_W_law_1014 : decode bc_W_law 1014 = .ok (.aload_n 0, 1) := by decide +kernel
theorem dc_W_law_1015 : decode bc_W_law 1015 = .ok (.iload_n 3, 1) := by decide +kernel
theorem dc_W_law_1016 : decode bc_W_law 1016 = .ok (.iconst 2, 1) := by decide +kernel
theorem dc_W_law_1017 : decode bc_W_law 1017 = .ok (.iadd, 1) := by decide +kernel
theorem dc_W_law_1018 : decode bc_W_law 1018 = .ok (.iaload, 1) := by decide +kernel
theorem dc_W_law_1019 : decode bc_W_law 1019 = .ok (.invokevirtual 97, 3) := by decide +kernel
theorem dc_W_law_1022 : decode bc_W_law 1022 = .ok (.lcmp, 1) := by decide +kernel
theorem dc_W_law_1023 : decode bc_W_law 1023 = .ok (.ifCond .eq 332, 3) := by decide +kernel
theorem dc_W_law_1026 : decode bc_W_law 1026 = .ok (.iconst 0, 1) := by decide +kernel
theorem dc_W_law_1027 : decode bc_W_law 1027 = .ok (.ireturn, 1) := by decide +kernel
theorem dc_W_law_1028 : decode bc_W_law 1028 = .ok (.aload_n 1, 1) := by decide +kernel
theorem dc_W_law_1029 : decode bc_W_law 1029 = .ok (.aload_n 0, 1) := by decide +kernel
theorem dc_W_law_1030 : decode bc_W_law 1030 = .ok (.iload_n 3, 1) := by decide +kernel
theorem dc_W_law_1031 : decode bc_W_law 1031 = .ok (.iconst 1, 1) := by decide +kernel
theorem dc_W_law_1032 : decode bc_W_law 1032 = .ok (.iadd, 1) := by decide +kernel
theorem dc_W_law_1033 : decode bc_W_law 1033 = .ok (.iaload, 1) := by decide +kernel
theorem dc_W_law_1034 : decode bc_W_law 1034 = .ok (.aload_n 0, 1) := by decide +kernel
theorem dc_W_law_1035 : decode bc_W_law 1035 = .ok (.iload_n 3, 1) := by decide +kernel
theorem dc_W_law_1036 : decode bc_W_law 1036 = .ok (.iconst 2, 1) := by decide +kernel
theorem dc_W_law_1037 : decode bc_W_law 1037 = .ok (.iadd, 1) := by decide +kernel
theorem dc_W_law_1038 : decode bc_W_law 1038 = .ok (.iaload, 1) := by decide +kernel
theorem dc_W_law_1039 : decode bc_W_law 1039 = .ok (.invokevirtual 98, 3) := by decide +kernel
theorem dc_W_law_1042 : decode bc_W_law 1042 = .ok (.aload_n 2, 1) := by decide +kernel
theorem dc_W_law_1043 : decode bc_W_law 1043 = .ok (.aload_n 0, 1) := by decide +kernel
theorem dc_W_law_1044 : decode bc_W_law 1044 = .ok (.iload_n 3, 1) := by decide +kernel
theorem dc_W_law_1045 : decode bc_W_law 1045 = .ok (.iconst 1, 1) := by decide +kernel
theorem dc_W_law_1046 : decode bc_W_law 1046 = .ok (.iadd, 1) := by decide +kernel
theorem dc_W_law_1047 : decode bc_W_law 1047 = .ok (.iaload, 1) := by decide +kernel
theorem dc_W_law_1048 : decode bc_W_law 1048 = .ok (.aload_n 0, 1) := by decide +kernel
theorem dc_W_law_1049 : decode bc_W_law 1049 = .ok (.iload_n 3, 1) := by decide +kernel
theorem dc_W_law_1050 : decode bc_W_law 1050 = .ok (.iconst 2, 1) := by decide +kernel
theorem dc_W_law_1051 : decode bc_W_law 1051 = .ok (.iadd, 1) := by decide +kernel
theorem dc_W_law_1052 : decode bc_W_law 1052 = .ok (.iaload, 1) := by decide +kernel
theorem dc_W_law_1053 : decode bc_W_law 1053 = .ok (.invokevirtual 101, 3) := by decide +kernel
theorem dc_W_law_1056 : decode bc_W_law 1056 = .ok (.if_icmp .eq 299, 3) := by decide +kernel
theorem dc_W_law_1059 : decode bc_W_law 1059 = .ok (.iconst 0, 1) := by decide +kernel
theorem dc_W_law_1060 : decode bc_W_law 1060 = .ok (.ireturn, 1) := by decide +kernel
theorem dc_W_law_1061 : decode bc_W_law 1061 = .ok (.aload_n 1, 1) := by decide +kernel
theorem dc_W_law_1062 : decode bc_W_law 1062 = .ok (.aload_n 0, 1) := by decide +kernel
theorem dc_W_law_1063 : decode bc_W_law 1063 = .ok (.iload_n 3, 1) := by decide +kernel
theorem dc_W_law_1064 : decode bc_W_law 1064 = .ok (.iconst 1, 1) := by decide +kernel
theorem dc_W_law_1065 : decode bc_W_law 1065 = .ok (.iadd, 1) := by decide +kernel
