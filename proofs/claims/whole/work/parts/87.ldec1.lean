theorem d_law_765 : decode code 765 = .ok (.iadd, 1) := by decide +kernel
theorem d_law_766 : decode code 766 = .ok (.iaload, 1) := by decide +kernel
theorem d_law_767 : decode code 767 = .ok (.invokevirtual 92, 3) := by decide +kernel
theorem d_law_770 : decode code 770 = .ok (.if_icmp .eq 589, 3) := by decide +kernel
theorem d_law_773 : decode code 773 = .ok (.iconst 0, 1) := by decide +kernel
theorem d_law_774 : decode code 774 = .ok (.ireturn, 1) := by decide +kernel
theorem d_law_775 : decode code 775 = .ok (.aload_n 1, 1) := by decide +kernel
theorem d_law_776 : decode code 776 = .ok (.aload_n 0, 1) := by decide +kernel
theorem d_law_777 : decode code 777 = .ok (.iload_n 3, 1) := by decide +kernel
theorem d_law_778 : decode code 778 = .ok (.iconst 1, 1) := by decide +kernel
theorem d_law_779 : decode code 779 = .ok (.iadd, 1) := by decide +kernel
theorem d_law_780 : decode code 780 = .ok (.iaload, 1) := by decide +kernel
theorem d_law_781 : decode code 781 = .ok (.invokevirtual 93, 3) := by decide +kernel
theorem d_law_784 : decode code 784 = .ok (.aload_n 2, 1) := by decide +kernel
theorem d_law_785 : decode code 785 = .ok (.aload_n 0, 1) := by decide +kernel
theorem d_law_786 : decode code 786 = .ok (.iload_n 3, 1) := by decide +kernel
theorem d_law_787 : decode code 787 = .ok (.iconst 1, 1) := by decide +kernel
theorem d_law_788 : decode code 788 = .ok (.iadd, 1) := by decide +kernel
theorem d_law_789 : decode code 789 = .ok (.iaload, 1) := by decide +kernel
theorem d_law_790 : decode code 790 = .ok (.invokevirtual 96, 3) := by decide +kernel
theorem d_law_793 : decode code 793 = .ok (.if_icmp .eq 566, 3) := by decide +kernel
theorem d_law_796 : decode code 796 = .ok (.iconst 0, 1) := by decide +kernel
theorem d_law_797 : decode code 797 = .ok (.ireturn, 1) := by decide +kernel
theorem d_law_798 : decode code 798 = .ok (.aload_n 1, 1) := by decide +kernel
theorem d_law_799 : decode code 799 = .ok (.aload_n 0, 1) := by decide +kernel
theorem d_law_800 : decode code 800 = .ok (.iload_n 3, 1) := by decide +kernel
theorem d_law_801 : decode code 801 = .ok (.iconst 1, 1) := by decide +kernel
theorem d_law_802 : decode code 802 = .ok (.iadd, 1) := by decide +kernel
theorem d_law_803 : decode code 803 = .ok (.iaload, 1) := by decide +kernel
theorem d_law_804 : decode code 804 = .ok (.aload_n 0, 1) := by decide +kernel
theorem d_law_805 : decode code 805 = .ok (.iload_n 3, 1) := by decide +kernel
theorem d_law_806 : decode code 806 = .ok (.iconst 2, 1) := by decide +kernel
theorem d_law_807 : decode code 807 = .ok (.iadd, 1) := by decide +kernel
theorem d_law_808 : decode code 808 = .ok (.iaload, 1) := by decide +kernel
theorem d_law_809 : decode code 809 = .ok (.invokevirtual 97, 3) := by decide +kernel
theorem d_law_812 : decode code 812 = .ok (.aload_n 2, 1) := by decide +kernel
theorem d_law_813 : decode code 813 = .ok (.aload_n 0, 1) := by decide +kernel
theorem d_law_814 : decode code 814 = .ok (.iload_n 3, 1) := by decide +kernel
theorem d_law_815 : decode code 815 = .ok (.iconst 1, 1) := by decide +kernel
theorem d_law_816 : decode code 816 = .ok (.iadd, 1) := by decide +kernel
theorem d_law_817 : decode code 817 = .ok (.iaload, 1) := by decide +kernel
theorem d_law_818 : decode code 818 = .ok (.aload_n 0, 1) := by decide +kernel
theorem d_law_819 : decode code 819 = .ok (.iload_n 3, 1) := by decide +kernel
theorem d_law_820 : decode code 820 = .ok (.iconst 2, 1) := by decide +kernel
theorem d_law_821 : decode code 821 = .ok (.iadd, 1) := by decide +kernel
theorem d_law_822 : decode code 822 = .ok (.iaload, 1) := by decide +kernel
theorem d_law_823 : decode code 823 = .ok (.invokevirtual 100, 3) := by decide +kernel
theorem d_law_826 : decode code 826 = .ok (.if_icmp .eq 533, 3) := by decide +kernel
theorem d_law_829 : decode code 829 = .ok (.iconst 0, 1) := by decide +kernel
theorem d_law_830 : decode code 830 = .ok (.ireturn, 1) := by decide +kernel
theorem d_law_831 : decode code 831 = .ok (.aload_n 1, 1) := by decide +kernel
theorem d_law_832 : decode code 832 = .ok (.aload_n 0, 1) := by decide +kernel
theorem d_law_833 : decode code 833 = .ok (.iload_n 3, 1) := by decide +kernel
theorem d_law_834 : decode code 834 = .ok (.iconst 1, 1) := by decide +kernel
theorem d_law_835 : decode code 835 = .ok (.iadd, 1) := by decide +kernel
theorem d_law_836 : decode code 836 = .ok (.iaload, 1) := by decide +kernel
theorem d_law_837 : decode code 837 = .ok (.aload_n 0, 1) := by decide +kernel
theorem d_law_838 : decode code 838 = .ok (.iload_n 3, 1) := by decide +kernel
theorem d_law_839 : decode code 839 = .ok (.iconst 2, 1) := by decide +kernel
theorem d_law_840 : decode code 840 = .ok (.iadd, 1) := by decide +kernel
theorem d_law_841 : decode code 841 = .ok (.iaload, 1) := by decide +kernel
theorem d_law_842 : decode code 842 = .ok (.invokevirtual 101, 3) := by decide +kernel
theorem d_law_845 : decode code 845 = .ok (.aload_n 2, 1) := by decide +kernel
theorem d_law_846 : decode code 846 = .ok (.aload_n 0, 1) := by decide +kernel
theorem d_law_847 : decode code 847 = .ok (.iload_n 3, 1) := by decide +kernel
theorem d_law_848 : decode code 848 = .ok (.iconst 1, 1) := by decide +kernel
theorem d_law_849 : decode code 849 = .ok (.iadd, 1) := by decide +kernel
theorem d_law_850 : decode code 850 = .ok (.iaload, 1) := by decide +kernel
theorem d_law_851 : decode code 851 = .ok (.aload_n 0, 1) := by decide +kernel
theorem d_law_852 : decode code 852 = .ok (.iload_n 3, 1) := by decide +kernel
theorem d_law_853 : decode code 853 = .ok (.iconst 2, 1) := by decide +kernel
theorem d_law_854 : decode code 854 = .ok (.iadd, 1) := by decide +kernel
theorem d_law_855 : decode code 855 = .ok (.iaload, 1) := by decide +kernel
theorem d_law_856 : decode code 856 = .ok (.invokevirtual 104, 3) := by decide +kernel
theorem d_law_859 : decode code 859 = .ok (.if_icmp .eq 500, 3) := by decide +kernel
theorem d_law_862 : decode code 862 = .ok (.iconst 0, 1) := by decide +kernel
theorem d_law_863 : decode code 863 = .ok (.ireturn, 1) := by decide +kernel
theorem d_law_864 : decode code 864 = .ok (.aload_n 1, 1) := by decide +kernel
theorem d_law_865 : decode code 865 = .ok (.aload_n 0, 1) := by decide +kernel
theorem d_law_866 : decode code 866 = .ok (.iload_n 3, 1) := by decide +kernel
theorem d_law_867 : decode code 867 = .ok (.iconst 1, 1) := by decide +kernel
theorem d_law_868 : decode code 868 = .ok (.iadd, 1) := by decide +kernel
theorem d_law_869 : decode code 869 = .ok (.iaload, 1) := by decide +kernel
theorem d_law_870 : decode code 870 = .ok (.invokevirtual 105, 3) := by decide +kernel
theorem d_law_873 : decode code 873 = .ok (.aload_n 2, 1) := by decide +kernel
theorem d_law_874 : decode code 874 = .ok (.aload_n 0, 1) := by decide +kernel
theorem d_law_875 : decode code 875 = .ok (.iload_n 3, 1) := by decide +kernel
theorem d_law_876 : decode code 876 = .ok (.iconst 1, 1) := by decide +kernel
theorem d_law_877 : decode code 877 = .ok (.iadd, 1) := by decide +kernel
theorem d_law_878 : decode code 878 = .ok (.iaload, 1) := by decide +kernel
theorem d_law_879 : decode code 879 = .ok (.invokevirtual 108, 3) := by decide +kernel
theorem d_law_882 : decode code 882 = .ok (.if_icmp .eq 477, 3) := by decide +kernel
theorem d_law_885 : decode code 885 = .ok (.iconst 0, 1) := by decide +kernel
theorem d_law_886 : decode code 886 = .ok (.ireturn, 1) := by decide +kernel
theorem d_law_887 : decode code 887 = .ok (.aload_n 1, 1) := by decide +kernel
theorem d_law_888 : decode code 888 = .ok (.aload_n 0, 1) := by decide +kernel
theorem d_law_889 : decode code 889 = .ok (.iload_n 3, 1) := by decide +kernel
theorem d_law_890 : decode code 890 = .ok (.iconst 1, 1) := by decide +kernel
theorem d_law_891 : decode code 891 = .ok (.iadd, 1) := by decide +kernel
theorem d_law_892 : decode code 892 = .ok (.iaload, 1) := by decide +kernel
theorem d_law_893 : decode code 893 = .ok (.aload_n 0, 1) := by decide +kernel
theorem d_law_894 : decode code 894 = .ok (.iload_n 3, 1) := by decide +kernel
theorem d_law_895 : decode code 895 = .ok (.iconst 2, 1) := by decide +kernel
theorem d_law_896 : decode code 896 = .ok (.iadd, 1) := by decide +kernel
theorem d_law_897 : decode code 897 = .ok (.iaload, 1) := by decide +kernel
theorem d_law_898 : decode code 898 = .ok (.aload_n 0, 1) := by decide +kernel
theorem d_law_899 : decode code 899 = .ok (.iload_n 3, 1) := by decide +kernel
theorem d_law_900 : decode code 900 = .ok (.iconst 3, 1) := by decide +kernel
theorem d_law_901 : decode code 901 = .ok (.iadd, 1) := by decide +kernel
theorem d_law_902 : decode code 902 = .ok (.iaload, 1) := by decide +kernel
theorem d_law_903 : decode code 903 = .ok (.invokevirtual 109, 3) := by decide +kernel
theorem d_law_906 : decode code 906 = .ok (.aload_n 2, 1) := by decide +kernel
theorem d_law_907 : decode code 907 = .ok (.aload_n 0, 1) := by decide +kernel
theorem d_law_908 : decode code 908 = .ok (.iload_n 3, 1) := by decide +kernel
theorem d_law_909 : decode code 909 = .ok (.iconst 1, 1) := by decide +kernel
theorem d_law_910 : decode code 910 = .ok (.iadd, 1) := by decide +kernel
theorem d_law_911 : decode code 911 = .ok (.iaload, 1) := by decide +kernel
theorem d_law_912 : decode code 912 = .ok (.aload_n 0, 1) := by decide +kernel
theorem d_law_913 : decode code 913 = .ok (.iload_n 3, 1) := by decide +kernel
theorem d_law_914 : decode code 914 = .ok (.iconst 2, 1) := by decide +kernel
theorem d_law_915 : decode code 915 = .ok (.iadd, 1) := by decide +kernel
theorem d_law_916 : decode code 916 = .ok (.iaload, 1) := by decide +kernel
theorem d_law_917 : decode code 917 = .ok (.aload_n 0, 1) := by decide +kernel
theorem d_law_918 : decode code 918 = .ok (.iload_n 3, 1) := by decide +kernel
theorem d_law_919 : decode code 919 = .ok (.iconst 3, 1) := by decide +kernel
theorem d_law_920 : decode code 920 = .ok (.iadd, 1) := by decide +kernel
theorem d_law_921 : decode code 921 = .ok (.iaload, 1) := by decide +kernel
theorem d_law_922 : decode code 922 = .ok (.invokevirtual 113, 3) := by decide +kernel
theorem d_law_925 : decode code 925 = .ok (.lcmp, 1) := by decide +kernel
theorem d_law_926 : decode code 926 = .ok (.ifCond .eq 433, 3) := by decide +kernel
theorem d_law_929 : decode code 929 = .ok (.iconst 0, 1) := by decide +kernel
theorem d_law_930 : decode code 930 = .ok (.ireturn, 1) := by decide +kernel
theorem d_law_931 : decode code 931 = .ok (.aload_n 1, 1) := by decide +kernel
theorem d_law_932 : decode code 932 = .ok (.aload_n 0, 1) := by decide +kernel
theorem d_law_933 : decode code 933 = .ok (.iload_n 3, 1) := by decide +kernel
theorem d_law_934 : decode code 934 = .ok (.iconst 1, 1) := by decide +kernel
theorem d_law_935 : decode code 935 = .ok (.iadd, 1) := by decide +kernel
theorem d_law_936 : decode code 936 = .ok (.iaload, 1) := by decide +kernel
theorem d_law_937 : decode code 937 = .ok (.invokevirtual 114, 3) := by decide +kernel
theorem d_law_940 : decode code 940 = .ok (.aload_n 2, 1) := by decide +kernel
theorem d_law_941 : decode code 941 = .ok (.aload_n 0, 1) := by decide +kernel
theorem d_law_942 : decode code 942 = .ok (.iload_n 3, 1) := by decide +kernel
theorem d_law_943 : decode code 943 = .ok (.iconst 1, 1) := by decide +kernel
theorem d_law_944 : decode code 944 = .ok (.iadd, 1) := by decide +kernel
theorem d_law_945 : decode code 945 = .ok (.iaload, 1) := by decide +kernel
theorem d_law_946 : decode code 946 = .ok (.invokevirtual 117, 3) := by decide +kernel
theorem d_law_949 : decode code 949 = .ok (.if_icmp .eq 410, 3) := by decide +kernel
theorem d_law_952 : decode code 952 = .ok (.iconst 0, 1) := by decide +kernel
theorem d_law_953 : decode code 953 = .ok (.ireturn, 1) := by decide +kernel
theorem d_law_954 : decode code 954 = .ok (.aload_n 1, 1) := by decide +kernel
theorem d_law_955 : decode code 955 = .ok (.aload_n 0, 1) := by decide +kernel
theorem d_law_956 : decode code 956 = .ok (.iload_n 3, 1) := by decide +kernel
theorem d_law_957 : decode code 957 = .ok (.iconst 1, 1) := by decide +kernel
theorem d_law_958 : decode code 958 = .ok (.iadd, 1) := by decide +kernel
theorem d_law_959 : decode code 959 = .ok (.iaload, 1) := by decide +kernel
theorem d_law_960 : decode code 960 = .ok (.aload_n 0, 1) := by decide +kernel
theorem d_law_961 : decode code 961 = .ok (.iload_n 3, 1) := by decide +kernel
theorem d_law_962 : decode code 962 = .ok (.iconst 2, 1) := by decide +kernel
theorem d_law_963 : decode code 963 = .ok (.iadd, 1) := by decide +kernel
theorem d_law_964 : decode code 964 = .ok (.iaload, 1) := by decide +kernel
theorem d_law_965 : decode code 965 = .ok (.invokevirtual 118, 3) := by decide +kernel
theorem d_law_968 : decode code 968 = .ok (.aload_n 2, 1) := by decide +kernel
theorem d_law_969 : decode code 969 = .ok (.aload_n 0, 1) := by decide +kernel
theorem d_law_970 : decode code 970 = .ok (.iload_n 3, 1) := by decide +kernel
theorem d_law_971 : decode code 971 = .ok (.iconst 1, 1) := by decide +kernel
theorem d_law_972 : decode code 972 = .ok (.iadd, 1) := by decide +kernel
theorem d_law_973 : decode code 973 = .ok (.iaload, 1) := by decide +kernel
theorem d_law_974 : decode code 974 = .ok (.aload_n 0, 1) := by decide +kernel
theorem d_law_975 : decode code 975 = .ok (.iload_n 3, 1) := by decide +kernel
theorem d_law_976 : decode code 976 = .ok (.iconst 2, 1) := by decide +kernel
theorem d_law_977 : decode code 977 = .ok (.iadd, 1) := by decide +kernel
theorem d_law_978 : decode code 978 = .ok (.iaload, 1) := by decide +kernel
theorem d_law_979 : decode code 979 = .ok (.invokevirtual 121, 3) := by decide +kernel
theorem d_law_982 : decode code 982 = .ok (.if_icmp .eq 377, 3) := by decide +kernel
theorem d_law_985 : decode code 985 = .ok (.iconst 0, 1) := by decide +kernel
theorem d_law_986 : decode code 986 = .ok (.ireturn, 1) := by decide +kernel
theorem d_law_987 : decode code 987 = .ok (.aload_n 1, 1) := by decide +kernel
theorem d_law_988 : decode code 988 = .ok (.invokevirtual 122, 3) := by decide +kernel
theorem d_law_991 : decode code 991 = .ok (.aload_n 2, 1) := by decide +kernel
theorem d_law_992 : decode code 992 = .ok (.invokevirtual 125, 3) := by decide +kernel
theorem d_law_995 : decode code 995 = .ok (.if_icmp .eq 364, 3) := by decide +kernel
theorem d_law_998 : decode code 998 = .ok (.iconst 0, 1) := by decide +kernel
theorem d_law_999 : decode code 999 = .ok (.ireturn, 1) := by decide +kernel
theorem d_law_1000 : decode code 1000 = .ok (.aload_n 1, 1) := by decide +kernel
theorem d_law_1001 : decode code 1001 = .ok (.invokevirtual 126, 3) := by decide +kernel
theorem d_law_1004 : decode code 1004 = .ok (.aload_n 2, 1) := by decide +kernel
theorem d_law_1005 : decode code 1005 = .ok (.invokevirtual 129, 3) := by decide +kernel
theorem d_law_1008 : decode code 1008 = .ok (.if_icmp .eq 351, 3) := by decide +kernel
theorem d_law_1011 : decode code 1011 = .ok (.iconst 0, 1) := by decide +kernel
theorem d_law_1012 : decode code 1012 = .ok (.ireturn, 1) := by decide +kernel
theorem d_law_1013 : decode code 1013 = .ok (.aload_n 1, 1) := by decide +kernel
theorem d_law_1014 : decode code 1014 = .ok (.aload_n 0, 1) := by decide +kernel
theorem d_law_1015 : decode code 1015 = .ok (.iload_n 3, 1) := by decide +kernel
theorem d_law_1016 : decode code 1016 = .ok (.iconst 1, 1) := by decide +kernel
theorem d_law_1017 : decode code 1017 = .ok (.iadd, 1) := by decide +kernel
theorem d_law_1018 : decode code 1018 = .ok (.iaload, 1) := by decide +kernel
theorem d_law_1019 : decode code 1019 = .ok (.aload_n 0, 1) := by decide +kernel
theorem d_law_1020 : decode code 1020 = .ok (.iload_n 3, 1) := by decide +kernel
theorem d_law_1021 : decode code 1021 = .ok (.iconst 2, 1) := by decide +kernel
theorem d_law_1022 : decode code 1022 = .ok (.iadd, 1) := by decide +kernel
theorem d_law_1023 : decode code 1023 = .ok (.iaload, 1) := by decide +kernel
theorem d_law_1024 : decode code 1024 = .ok (.invokevirtual 130, 3) := by decide +kernel
theorem d_law_1027 : decode code 1027 = .ok (.aload_n 2, 1) := by decide +kernel
theorem d_law_1028 : decode code 1028 = .ok (.aload_n 0, 1) := by decide +kernel
theorem d_law_1029 : decode code 1029 = .ok (.iload_n 3, 1) := by decide +kernel
theorem d_law_1030 : decode code 1030 = .ok (.iconst 1, 1) := by decide +kernel
theorem d_law_1031 : decode code 1031 = .ok (.iadd, 1) := by decide +kernel
theorem d_law_1032 : decode code 1032 = .ok (.iaload, 1) := by decide +kernel
theorem d_law_1033 : decode code 1033 = .ok (.aload_n 0, 1) := by decide +kernel
theorem d_law_1034 : decode code 1034 = .ok (.iload_n 3, 1) := by decide +kernel
theorem d_law_1035 : decode code 1035 = .ok (.iconst 2, 1) := by decide +kernel
theorem d_law_1036 : decode code 1036 = .ok (.iadd, 1) := by decide +kernel
theorem d_law_1037 : decode code 1037 = .ok (.iaload, 1) := by decide +kernel
theorem d_law_1038 : decode code 1038 = .ok (.invokevirtual 133, 3) := by decide +kernel
theorem d_law_1041 : decode code 1041 = .ok (.if_icmp .eq 318, 3) := by decide +kernel
theorem d_law_1044 : decode code 1044 = .ok (.iconst 0, 1) := by decide +kernel
theorem d_law_1045 : decode code 1045 = .ok (.ireturn, 1) := by decide +kernel
theorem d_law_1046 : decode code 1046 = .ok (.aload_n 1, 1) := by decide +kernel
theorem d_law_1047 : decode code 1047 = .ok (.aload_n 0, 1) := by decide +kernel
theorem d_law_1048 : decode code 1048 = .ok (.iload_n 3, 1) := by decide +kernel
theorem d_law_1049 : decode code 1049 = .ok (.iconst 1, 1) := by decide +kernel
theorem d_law_1050 : decode code 1050 = .ok (.iadd, 1) := by decide +kernel
theorem d_law_1051 : decode code 1051 = .ok (.iaload, 1) := by decide +kernel
theorem d_law_1052 : decode code 1052 = .ok (.aload_n 0, 1) := by decide +kernel
theorem d_law_1053 : decode code 1053 = .ok (.iload_n 3, 1) := by decide +kernel
theorem d_law_1054 : decode code 1054 = .ok (.iconst 2, 1) := by decide +kernel
theorem d_law_1055 : decode code 1055 = .ok (.iadd, 1) := by decide +kernel
theorem d_law_1056 : decode code 1056 = .ok (.iaload, 1) := by decide +kernel
theorem d_law_1057 : decode code 1057 = .ok (.invokevirtual 134, 3) := by decide +kernel
theorem d_law_1060 : decode code 1060 = .ok (.aload_n 2, 1) := by decide +kernel
theorem d_law_1061 : decode code 1061 = .ok (.aload_n 0, 1) := by decide +kernel
theorem d_law_1062 : decode code 1062 = .ok (.iload_n 3, 1) := by decide +kernel
theorem d_law_1063 : decode code 1063 = .ok (.iconst 1, 1) := by decide +kernel
theorem d_law_1064 : decode code 1064 = .ok (.iadd, 1) := by decide +kernel
theorem d_law_1065 : decode code 1065 = .ok (.iaload, 1) := by decide +kernel
theorem d_law_1066 : decode code 1066 = .ok (.aload_n 0, 1) := by decide +kernel
theorem d_law_1067 : decode code 1067 = .ok (.iload_n 3, 1) := by decide +kernel
theorem d_law_1068 : decode code 1068 = .ok (.iconst 2, 1) := by decide +kernel
theorem d_law_1069 : decode code 1069 = .ok (.iadd, 1) := by decide +kernel
theorem d_law_1070 : decode code 1070 = .ok (.iaload, 1) := by decide +kernel
theorem d_law_1071 : decode code 1071 = .ok (.invokevirtual 137, 3) := by decide +kernel
theorem d_law_1074 : decode code 1074 = .ok (.if_icmp .eq 285, 3) := by decide +kernel
theorem d_law_1077 : decode code 1077 = .ok (.iconst 0, 1) := by decide +kernel
theorem d_law_1078 : decode code 1078 = .ok (.ireturn, 1) := by decide +kernel
theorem d_law_1079 : decode code 1079 = .ok (.aload_n 1, 1) := by decide +kernel
theorem d_law_1080 : decode code 1080 = .ok (.aload_n 0, 1) := by decide +kernel
theorem d_law_1081 : decode code 1081 = .ok (.iload_n 3, 1) := by decide +kernel
theorem d_law_1082 : decode code 1082 = .ok (.iconst 1, 1) := by decide +kernel
theorem d_law_1083 : decode code 1083 = .ok (.iadd, 1) := by decide +kernel
theorem d_law_1084 : decode code 1084 = .ok (.iaload, 1) := by decide +kernel
theorem d_law_1085 : decode code 1085 = .ok (.aload_n 0, 1) := by decide +kernel
theorem d_law_1086 : decode code 1086 = .ok (.iload_n 3, 1) := by decide +kernel
theorem d_law_1087 : decode code 1087 = .ok (.iconst 2, 1) := by decide +kernel
theorem d_law_1088 : decode code 1088 = .ok (.iadd, 1) := by decide +kernel
theorem d_law_1089 : decode code 1089 = .ok (.iaload, 1) := by decide +kernel
theorem d_law_1090 : decode code 1090 = .ok (.aload_n 0, 1) := by decide +kernel
theorem d_law_1091 : decode code 1091 = .ok (.iload_n 3, 1) := by decide +kernel
theorem d_law_1092 : decode code 1092 = .ok (.iconst 3, 1) := by decide +kernel
theorem d_law_1093 : decode code 1093 = .ok (.iadd, 1) := by decide +kernel
theorem d_law_1094 : decode code 1094 = .ok (.iaload, 1) := by decide +kernel
theorem d_law_1095 : decode code 1095 = .ok (.invokevirtual 138, 3) := by decide +kernel
theorem d_law_1098 : decode code 1098 = .ok (.aload_n 2, 1) := by decide +kernel
theorem d_law_1099 : decode code 1099 = .ok (.aload_n 0, 1) := by decide +kernel
theorem d_law_1100 : decode code 1100 = .ok (.iload_n 3, 1) := by decide +kernel
theorem d_law_1101 : decode code 1101 = .ok (.iconst 1, 1) := by decide +kernel
theorem d_law_1102 : decode code 1102 = .ok (.iadd, 1) := by decide +kernel
theorem d_law_1103 : decode code 1103 = .ok (.iaload, 1) := by decide +kernel
theorem d_law_1104 : decode code 1104 = .ok (.aload_n 0, 1) := by decide +kernel
theorem d_law_1105 : decode code 1105 = .ok (.iload_n 3, 1) := by decide +kernel
theorem d_law_1106 : decode code 1106 = .ok (.iconst 2, 1) := by decide +kernel
theorem d_law_1107 : decode code 1107 = .ok (.iadd, 1) := by decide +kernel
theorem d_law_1108 : decode code 1108 = .ok (.iaload, 1) := by decide +kernel
theorem d_law_1109 : decode code 1109 = .ok (.aload_n 0, 1) := by decide +kernel
theorem d_law_1110 : decode code 1110 = .ok (.iload_n 3, 1) := by decide +kernel
theorem d_law_1111 : decode code 1111 = .ok (.iconst 3, 1) := by decide +kernel
theorem d_law_1112 : decode code 1112 = .ok (.iadd, 1) := by decide +kernel
theorem d_law_1113 : decode code 1113 = .ok (.iaload, 1) := by decide +kernel
theorem d_law_1114 : decode code 1114 = .ok (.invokevirtual 141, 3) := by decide +kernel
theorem d_law_1117 : decode code 1117 = .ok (.if_icmp .eq 242, 3) := by decide +kernel
theorem d_law_1120 : decode code 1120 = .ok (.iconst 0, 1) := by decide +kernel
theorem d_law_1121 : decode code 1121 = .ok (.ireturn, 1) := by decide +kernel
theorem d_law_1122 : decode code 1122 = .ok (.aload_n 1, 1) := by decide +kernel
theorem d_law_1123 : decode code 1123 = .ok (.aload_n 0, 1) := by decide +kernel
theorem d_law_1124 : decode code 1124 = .ok (.iload_n 3, 1) := by decide +kernel
theorem d_law_1125 : decode code 1125 = .ok (.iconst 1, 1) := by decide +kernel
theorem d_law_1126 : decode code 1126 = .ok (.iadd, 1) := by decide +kernel
theorem d_law_1127 : decode code 1127 = .ok (.iaload, 1) := by decide +kernel
theorem d_law_1128 : decode code 1128 = .ok (.aload_n 0, 1) := by decide +kernel
theorem d_law_1129 : decode code 1129 = .ok (.iload_n 3, 1) := by decide +kernel
theorem d_law_1130 : decode code 1130 = .ok (.iconst 2, 1) := by decide +kernel
theorem d_law_1131 : decode code 1131 = .ok (.iadd, 1) := by decide +kernel
theorem d_law_1132 : decode code 1132 = .ok (.iaload, 1) := by decide +kernel
theorem d_law_1133 : decode code 1133 = .ok (.aload_n 0, 1) := by decide +kernel
theorem d_law_1134 : decode code 1134 = .ok (.iload_n 3, 1) := by decide +kernel
theorem d_law_1135 : decode code 1135 = .ok (.iconst 3, 1) := by decide +kernel
theorem d_law_1136 : decode code 1136 = .ok (.iadd, 1) := by decide +kernel
theorem d_law_1137 : decode code 1137 = .ok (.iaload, 1) := by decide +kernel
theorem d_law_1138 : decode code 1138 = .ok (.invokevirtual 142, 3) := by decide +kernel
theorem d_law_1141 : decode code 1141 = .ok (.aload_n 2, 1) := by decide +kernel
theorem d_law_1142 : decode code 1142 = .ok (.aload_n 0, 1) := by decide +kernel
theorem d_law_1143 : decode code 1143 = .ok (.iload_n 3, 1) := by decide +kernel
theorem d_law_1144 : decode code 1144 = .ok (.iconst 1, 1) := by decide +kernel
theorem d_law_1145 : decode code 1145 = .ok (.iadd, 1) := by decide +kernel
theorem d_law_1146 : decode code 1146 = .ok (.iaload, 1) := by decide +kernel
theorem d_law_1147 : decode code 1147 = .ok (.aload_n 0, 1) := by decide +kernel
theorem d_law_1148 : decode code 1148 = .ok (.iload_n 3, 1) := by decide +kernel
theorem d_law_1149 : decode code 1149 = .ok (.iconst 2, 1) := by decide +kernel
theorem d_law_1150 : decode code 1150 = .ok (.iadd, 1) := by decide +kernel
theorem d_law_1151 : decode code 1151 = .ok (.iaload, 1) := by decide +kernel
theorem d_law_1152 : decode code 1152 = .ok (.aload_n 0, 1) := by decide +kernel
theorem d_law_1153 : decode code 1153 = .ok (.iload_n 3, 1) := by decide +kernel
theorem d_law_1154 : decode code 1154 = .ok (.iconst 3, 1) := by decide +kernel
theorem d_law_1155 : decode code 1155 = .ok (.iadd, 1) := by decide +kernel
theorem d_law_1156 : decode code 1156 = .ok (.iaload, 1) := by decide +kernel
theorem d_law_1157 : decode code 1157 = .ok (.invokevirtual 145, 3) := by decide +kernel
theorem d_law_1160 : decode code 1160 = .ok (.if_icmp .eq 199, 3) := by decide +kernel
theorem d_law_1163 : decode code 1163 = .ok (.iconst 0, 1) := by decide +kernel
theorem d_law_1164 : decode code 1164 = .ok (.ireturn, 1) := by decide +kernel
theorem d_law_1165 : decode code 1165 = .ok (.aload_n 1, 1) := by decide +kernel
theorem d_law_1166 : decode code 1166 = .ok (.aload_n 0, 1) := by decide +kernel
theorem d_law_1167 : decode code 1167 = .ok (.iload_n 3, 1) := by decide +kernel
theorem d_law_1168 : decode code 1168 = .ok (.iconst 1, 1) := by decide +kernel
theorem d_law_1169 : decode code 1169 = .ok (.iadd, 1) := by decide +kernel
theorem d_law_1170 : decode code 1170 = .ok (.iaload, 1) := by decide +kernel
theorem d_law_1171 : decode code 1171 = .ok (.aload_n 0, 1) := by decide +kernel
theorem d_law_1172 : decode code 1172 = .ok (.iload_n 3, 1) := by decide +kernel
theorem d_law_1173 : decode code 1173 = .ok (.iconst 2, 1) := by decide +kernel
theorem d_law_1174 : decode code 1174 = .ok (.iadd, 1) := by decide +kernel
theorem d_law_1175 : decode code 1175 = .ok (.iaload, 1) := by decide +kernel
theorem d_law_1176 : decode code 1176 = .ok (.aload_n 0, 1) := by decide +kernel
theorem d_law_1177 : decode code 1177 = .ok (.iload_n 3, 1) := by decide +kernel
theorem d_law_1178 : decode code 1178 = .ok (.iconst 3, 1) := by decide +kernel
theorem d_law_1179 : decode code 1179 = .ok (.iadd, 1) := by decide +kernel
theorem d_law_1180 : decode code 1180 = .ok (.iaload, 1) := by decide +kernel
theorem d_law_1181 : decode code 1181 = .ok (.aload_n 0, 1) := by decide +kernel
theorem d_law_1182 : decode code 1182 = .ok (.iload_n 3, 1) := by decide +kernel
theorem d_law_1183 : decode code 1183 = .ok (.iconst 4, 1) := by decide +kernel
theorem d_law_1184 : decode code 1184 = .ok (.iadd, 1) := by decide +kernel
theorem d_law_1185 : decode code 1185 = .ok (.iaload, 1) := by decide +kernel
theorem d_law_1186 : decode code 1186 = .ok (.aload_n 0, 1) := by decide +kernel
theorem d_law_1187 : decode code 1187 = .ok (.iload_n 3, 1) := by decide +kernel
theorem d_law_1188 : decode code 1188 = .ok (.iconst 5, 1) := by decide +kernel
theorem d_law_1189 : decode code 1189 = .ok (.iadd, 1) := by decide +kernel
theorem d_law_1190 : decode code 1190 = .ok (.iaload, 1) := by decide +kernel
theorem d_law_1191 : decode code 1191 = .ok (.invokevirtual 146, 3) := by decide +kernel
theorem d_law_1194 : decode code 1194 = .ok (.aload_n 2, 1) := by decide +kernel
theorem d_law_1195 : decode code 1195 = .ok (.aload_n 0, 1) := by decide +kernel
theorem d_law_1196 : decode code 1196 = .ok (.iload_n 3, 1) := by decide +kernel
theorem d_law_1197 : decode code 1197 = .ok (.iconst 1, 1) := by decide +kernel
theorem d_law_1198 : decode code 1198 = .ok (.iadd, 1) := by decide +kernel
theorem d_law_1199 : decode code 1199 = .ok (.iaload, 1) := by decide +kernel
theorem d_law_1200 : decode code 1200 = .ok (.aload_n 0, 1) := by decide +kernel
theorem d_law_1201 : decode code 1201 = .ok (.iload_n 3, 1) := by decide +kernel
theorem d_law_1202 : decode code 1202 = .ok (.iconst 2, 1) := by decide +kernel
theorem d_law_1203 : decode code 1203 = .ok (.iadd, 1) := by decide +kernel
theorem d_law_1204 : decode code 1204 = .ok (.iaload, 1) := by decide +kernel
theorem d_law_1205 : decode code 1205 = .ok (.aload_n 0, 1) := by decide +kernel
theorem d_law_1206 : decode code 1206 = .ok (.iload_n 3, 1) := by decide +kernel
theorem d_law_1207 : decode code 1207 = .ok (.iconst 3, 1) := by decide +kernel
theorem d_law_1208 : decode code 1208 = .ok (.iadd, 1) := by decide +kernel
theorem d_law_1209 : decode code 1209 = .ok (.iaload, 1) := by decide +kernel
theorem d_law_1210 : decode code 1210 = .ok (.aload_n 0, 1) := by decide +kernel
theorem d_law_1211 : decode code 1211 = .ok (.iload_n 3, 1) := by decide +kernel
theorem d_law_1212 : decode code 1212 = .ok (.iconst 4, 1) := by decide +kernel
theorem d_law_1213 : decode code 1213 = .ok (.iadd, 1) := by decide +kernel
theorem d_law_1214 : decode code 1214 = .ok (.iaload, 1) := by decide +kernel
theorem d_law_1215 : decode code 1215 = .ok (.aload_n 0, 1) := by decide +kernel
theorem d_law_1216 : decode code 1216 = .ok (.iload_n 3, 1) := by decide +kernel
theorem d_law_1217 : decode code 1217 = .ok (.iconst 5, 1) := by decide +kernel
theorem d_law_1218 : decode code 1218 = .ok (.iadd, 1) := by decide +kernel
theorem d_law_1219 : decode code 1219 = .ok (.iaload, 1) := by decide +kernel
theorem d_law_1220 : decode code 1220 = .ok (.invokevirtual 150, 3) := by decide +kernel
theorem d_law_1223 : decode code 1223 = .ok (.if_icmp .eq 136, 3) := by decide +kernel
theorem d_law_1226 : decode code 1226 = .ok (.iconst 0, 1) := by decide +kernel
theorem d_law_1227 : decode code 1227 = .ok (.ireturn, 1) := by decide +kernel
theorem d_law_1228 : decode code 1228 = .ok (.aload_n 1, 1) := by decide +kernel
theorem d_law_1229 : decode code 1229 = .ok (.aload_n 0, 1) := by decide +kernel
theorem d_law_1230 : decode code 1230 = .ok (.iload_n 3, 1) := by decide +kernel
theorem d_law_1231 : decode code 1231 = .ok (.iconst 1, 1) := by decide +kernel
theorem d_law_1232 : decode code 1232 = .ok (.iadd, 1) := by decide +kernel
theorem d_law_1233 : decode code 1233 = .ok (.iaload, 1) := by decide +kernel
theorem d_law_1234 : decode code 1234 = .ok (.invokevirtual 151, 3) := by decide +kernel
theorem d_law_1237 : decode code 1237 = .ok (.aload_n 2, 1) := by decide +kernel
theorem d_law_1238 : decode code 1238 = .ok (.aload_n 0, 1) := by decide +kernel
theorem d_law_1239 : decode code 1239 = .ok (.iload_n 3, 1) := by decide +kernel
theorem d_law_1240 : decode code 1240 = .ok (.iconst 1, 1) := by decide +kernel
theorem d_law_1241 : decode code 1241 = .ok (.iadd, 1) := by decide +kernel
theorem d_law_1242 : decode code 1242 = .ok (.iaload, 1) := by decide +kernel
theorem d_law_1243 : decode code 1243 = .ok (.invokevirtual 154, 3) := by decide +kernel
theorem d_law_1246 : decode code 1246 = .ok (.if_icmp .eq 113, 3) := by decide +kernel
theorem d_law_1249 : decode code 1249 = .ok (.iconst 0, 1) := by decide +kernel
theorem d_law_1250 : decode code 1250 = .ok (.ireturn, 1) := by decide +kernel
theorem d_law_1251 : decode code 1251 = .ok (.aload_n 1, 1) := by decide +kernel
theorem d_law_1252 : decode code 1252 = .ok (.aload_n 0, 1) := by decide +kernel
theorem d_law_1253 : decode code 1253 = .ok (.iload_n 3, 1) := by decide +kernel
theorem d_law_1254 : decode code 1254 = .ok (.iconst 1, 1) := by decide +kernel
theorem d_law_1255 : decode code 1255 = .ok (.iadd, 1) := by decide +kernel
theorem d_law_1256 : decode code 1256 = .ok (.iaload, 1) := by decide +kernel
theorem d_law_1257 : decode code 1257 = .ok (.invokevirtual 155, 3) := by decide +kernel
theorem d_law_1260 : decode code 1260 = .ok (.aload_n 2, 1) := by decide +kernel
theorem d_law_1261 : decode code 1261 = .ok (.aload_n 0, 1) := by decide +kernel
theorem d_law_1262 : decode code 1262 = .ok (.iload_n 3, 1) := by decide +kernel
theorem d_law_1263 : decode code 1263 = .ok (.iconst 1, 1) := by decide +kernel
theorem d_law_1264 : decode code 1264 = .ok (.iadd, 1) := by decide +kernel
theorem d_law_1265 : decode code 1265 = .ok (.iaload, 1) := by decide +kernel
theorem d_law_1266 : decode code 1266 = .ok (.invokevirtual 158, 3) := by decide +kernel
theorem d_law_1269 : decode code 1269 = .ok (.if_icmp .eq 90, 3) := by decide +kernel
theorem d_law_1272 : decode code 1272 = .ok (.iconst 0, 1) := by decide +kernel
theorem d_law_1273 : decode code 1273 = .ok (.ireturn, 1) := by decide +kernel
theorem d_law_1274 : decode code 1274 = .ok (.aload_n 1, 1) := by decide +kernel
theorem d_law_1275 : decode code 1275 = .ok (.invokevirtual 159, 3) := by decide +kernel
theorem d_law_1278 : decode code 1278 = .ok (.aload_n 2, 1) := by decide +kernel
theorem d_law_1279 : decode code 1279 = .ok (.invokevirtual 162, 3) := by decide +kernel
theorem d_law_1282 : decode code 1282 = .ok (.if_icmp .eq 77, 3) := by decide +kernel
theorem d_law_1285 : decode code 1285 = .ok (.iconst 0, 1) := by decide +kernel
theorem d_law_1286 : decode code 1286 = .ok (.ireturn, 1) := by decide +kernel
theorem d_law_1287 : decode code 1287 = .ok (.aload_n 1, 1) := by decide +kernel
theorem d_law_1288 : decode code 1288 = .ok (.invokevirtual 163, 3) := by decide +kernel
theorem d_law_1291 : decode code 1291 = .ok (.aload_n 2, 1) := by decide +kernel
theorem d_law_1292 : decode code 1292 = .ok (.invokevirtual 166, 3) := by decide +kernel
theorem d_law_1295 : decode code 1295 = .ok (.if_icmp .eq 64, 3) := by decide +kernel
theorem d_law_1298 : decode code 1298 = .ok (.iconst 0, 1) := by decide +kernel
theorem d_law_1299 : decode code 1299 = .ok (.ireturn, 1) := by decide +kernel
theorem d_law_1300 : decode code 1300 = .ok (.aload_n 1, 1) := by decide +kernel
theorem d_law_1301 : decode code 1301 = .ok (.invokevirtual 167, 3) := by decide +kernel
theorem d_law_1304 : decode code 1304 = .ok (.aload_n 2, 1) := by decide +kernel
theorem d_law_1305 : decode code 1305 = .ok (.invokevirtual 170, 3) := by decide +kernel
theorem d_law_1308 : decode code 1308 = .ok (.if_icmp .eq 51, 3) := by decide +kernel
theorem d_law_1311 : decode code 1311 = .ok (.iconst 0, 1) := by decide +kernel
theorem d_law_1312 : decode code 1312 = .ok (.ireturn, 1) := by decide +kernel
theorem d_law_1313 : decode code 1313 = .ok (.aload_n 1, 1) := by decide +kernel
theorem d_law_1314 : decode code 1314 = .ok (.aload_n 0, 1) := by decide +kernel
theorem d_law_1315 : decode code 1315 = .ok (.iload_n 3, 1) := by decide +kernel
theorem d_law_1316 : decode code 1316 = .ok (.iconst 1, 1) := by decide +kernel
theorem d_law_1317 : decode code 1317 = .ok (.iadd, 1) := by decide +kernel
theorem d_law_1318 : decode code 1318 = .ok (.iaload, 1) := by decide +kernel
theorem d_law_1319 : decode code 1319 = .ok (.invokevirtual 171, 3) := by decide +kernel
theorem d_law_1322 : decode code 1322 = .ok (.aload_n 2, 1) := by decide +kernel
theorem d_law_1323 : decode code 1323 = .ok (.aload_n 0, 1) := by decide +kernel
theorem d_law_1324 : decode code 1324 = .ok (.iload_n 3, 1) := by decide +kernel
theorem d_law_1325 : decode code 1325 = .ok (.iconst 1, 1) := by decide +kernel
theorem d_law_1326 : decode code 1326 = .ok (.iadd, 1) := by decide +kernel
theorem d_law_1327 : decode code 1327 = .ok (.iaload, 1) := by decide +kernel
theorem d_law_1328 : decode code 1328 = .ok (.invokevirtual 174, 3) := by decide +kernel
theorem d_law_1331 : decode code 1331 = .ok (.if_icmp .eq 28, 3) := by decide +kernel
theorem d_law_1334 : decode code 1334 = .ok (.iconst 0, 1) := by decide +kernel
theorem d_law_1335 : decode code 1335 = .ok (.ireturn, 1) := by decide +kernel
theorem d_law_1336 : decode code 1336 = .ok (.aload_n 1, 1) := by decide +kernel
theorem d_law_1337 : decode code 1337 = .ok (.aload_n 0, 1) := by decide +kernel
theorem d_law_1338 : decode code 1338 = .ok (.iload_n 3, 1) := by decide +kernel
theorem d_law_1339 : decode code 1339 = .ok (.iconst 1, 1) := by decide +kernel
theorem d_law_1340 : decode code 1340 = .ok (.iadd, 1) := by decide +kernel
theorem d_law_1341 : decode code 1341 = .ok (.iaload, 1) := by decide +kernel
theorem d_law_1342 : decode code 1342 = .ok (.invokevirtual 175, 3) := by decide +kernel
theorem d_law_1345 : decode code 1345 = .ok (.aload_n 2, 1) := by decide +kernel
theorem d_law_1346 : decode code 1346 = .ok (.aload_n 0, 1) := by decide +kernel
theorem d_law_1347 : decode code 1347 = .ok (.iload_n 3, 1) := by decide +kernel
theorem d_law_1348 : decode code 1348 = .ok (.iconst 1, 1) := by decide +kernel
theorem d_law_1349 : decode code 1349 = .ok (.iadd, 1) := by decide +kernel
theorem d_law_1350 : decode code 1350 = .ok (.iaload, 1) := by decide +kernel
theorem d_law_1351 : decode code 1351 = .ok (.invokevirtual 178, 3) := by decide +kernel
theorem d_law_1354 : decode code 1354 = .ok (.if_icmp .eq 5, 3) := by decide +kernel
theorem d_law_1357 : decode code 1357 = .ok (.iconst 0, 1) := by decide +kernel
theorem d_law_1358 : decode code 1358 = .ok (.ireturn, 1) := by decide +kernel
theorem d_law_1359 : decode code 1359 = .ok (.iinc 3 6, 3) := by decide +kernel
theorem d_law_1362 : decode code 1362 = .ok (.goto (-1344), 3) := by decide +kernel
theorem d_law_1365 : decode code 1365 = .ok (.iconst 1, 1) := by decide +kernel
theorem d_law_1366 : decode code 1366 = .ok (.ireturn, 1) := by decide +kernel
