theorem dL_b37 : (decode cL_law 858 = .ok (.invokevirtual 101, 3)) ∧ (decode cL_law 861 = .ok (.pop, 1)) ∧ (decode cL_law 862 = .ok (.goto 1103, 3)) ∧ (decode cL_law 865 = .ok (.aload_n 1, 1)) ∧ (decode cL_law 866 = .ok (.invokevirtual 102, 3)) ∧ (decode cL_law 869 = .ok (.pop, 1)) ∧ (decode cL_law 870 = .ok (.aload_n 2, 1)) ∧ (decode cL_law 871 = .ok (.invokevirtual 105, 3)) ∧ (decode cL_law 874 = .ok (.pop, 1)) ∧ (decode cL_law 875 = .ok (.goto 1090, 3)) ∧ (decode cL_law 878 = .ok (.aload_n 1, 1)) ∧ (decode cL_law 879 = .ok (.aload_n 0, 1)) := by decide +kernel
theorem dL_law_858 : decode cL_law 858 = .ok (.invokevirtual 101, 3) := dL_b37.1
theorem dL_law_861 : decode cL_law 861 = .ok (.pop, 1) := dL_b37.2.1
theorem dL_law_862 : decode cL_law 862 = .ok (.goto 1103, 3) := dL_b37.2.2.1
theorem dL_law_865 : decode cL_law 865 = .ok (.aload_n 1, 1) := dL_b37.2.2.2.1
theorem dL_law_866 : decode cL_law 866 = .ok (.invokevirtual 102, 3) := dL_b37.2.2.2.2.1
theorem dL_law_869 : decode cL_law 869 = .ok (.pop, 1) := dL_b37.2.2.2.2.2.1
theorem dL_law_870 : decode cL_law 870 = .ok (.aload_n 2, 1) := dL_b37.2.2.2.2.2.2.1
theorem dL_law_871 : decode cL_law 871 = .ok (.invokevirtual 105, 3) := dL_b37.2.2.2.2.2.2.2.1
theorem dL_law_874 : decode cL_law 874 = .ok (.pop, 1) := dL_b37.2.2.2.2.2.2.2.2.1
theorem dL_law_875 : decode cL_law 875 = .ok (.goto 1090, 3) := dL_b37.2.2.2.2.2.2.2.2.2.1
theorem dL_law_878 : decode cL_law 878 = .ok (.aload_n 1, 1) := dL_b37.2.2.2.2.2.2.2.2.2.2.1
theorem dL_law_879 : decode cL_law 879 = .ok (.aload_n 0, 1) := dL_b37.2.2.2.2.2.2.2.2.2.2.2
theorem dL_b38 : (decode cL_law 880 = .ok (.iload_n 3, 1)) ∧ (decode cL_law 881 = .ok (.iconst 1, 1)) ∧ (decode cL_law 882 = .ok (.iadd, 1)) ∧ (decode cL_law 883 = .ok (.iaload, 1)) ∧ (decode cL_law 884 = .ok (.invokevirtual 106, 3)) ∧ (decode cL_law 887 = .ok (.pop, 1)) ∧ (decode cL_law 888 = .ok (.aload_n 2, 1)) ∧ (decode cL_law 889 = .ok (.aload_n 0, 1)) ∧ (decode cL_law 890 = .ok (.iload_n 3, 1)) ∧ (decode cL_law 891 = .ok (.iconst 1, 1)) ∧ (decode cL_law 892 = .ok (.iadd, 1)) ∧ (decode cL_law 893 = .ok (.iaload, 1)) := by decide +kernel
theorem dL_law_880 : decode cL_law 880 = .ok (.iload_n 3, 1) := dL_b38.1
theorem dL_law_881 : decode cL_law 881 = .ok (.iconst 1, 1) := dL_b38.2.1
theorem dL_law_882 : decode cL_law 882 = .ok (.iadd, 1) := dL_b38.2.2.1
theorem dL_law_883 : decode cL_law 883 = .ok (.iaload, 1) := dL_b38.2.2.2.1
theorem dL_law_884 : decode cL_law 884 = .ok (.invokevirtual 106, 3) := dL_b38.2.2.2.2.1
theorem dL_law_887 : decode cL_law 887 = .ok (.pop, 1) := dL_b38.2.2.2.2.2.1
theorem dL_law_888 : decode cL_law 888 = .ok (.aload_n 2, 1) := dL_b38.2.2.2.2.2.2.1
theorem dL_law_889 : decode cL_law 889 = .ok (.aload_n 0, 1) := dL_b38.2.2.2.2.2.2.2.1
theorem dL_law_890 : decode cL_law 890 = .ok (.iload_n 3, 1) := dL_b38.2.2.2.2.2.2.2.2.1
theorem dL_law_891 : decode cL_law 891 = .ok (.iconst 1, 1) := dL_b38.2.2.2.2.2.2.2.2.2.1
theorem dL_law_892 : decode cL_law 892 = .ok (.iadd, 1) := dL_b38.2.2.2.2.2.2.2.2.2.2.1
theorem dL_law_893 : decode cL_law 893 = .ok (.iaload, 1) := dL_b38.2.2.2.2.2.2.2.2.2.2.2
theorem dL_b39 : (decode cL_law 894 = .ok (.invokevirtual 109, 3)) ∧ (decode cL_law 897 = .ok (.pop, 1)) ∧ (decode cL_law 898 = .ok (.goto 1067, 3)) ∧ (decode cL_law 901 = .ok (.aload_n 1, 1)) ∧ (decode cL_law 902 = .ok (.invokevirtual 110, 3)) ∧ (decode cL_law 905 = .ok (.pop, 1)) ∧ (decode cL_law 906 = .ok (.aload_n 2, 1)) ∧ (decode cL_law 907 = .ok (.invokevirtual 113, 3)) ∧ (decode cL_law 910 = .ok (.pop, 1)) ∧ (decode cL_law 911 = .ok (.goto 1054, 3)) ∧ (decode cL_law 914 = .ok (.aload_n 1, 1)) ∧ (decode cL_law 915 = .ok (.invokevirtual 114, 3)) := by decide +kernel
theorem dL_law_894 : decode cL_law 894 = .ok (.invokevirtual 109, 3) := dL_b39.1
theorem dL_law_897 : decode cL_law 897 = .ok (.pop, 1) := dL_b39.2.1
theorem dL_law_898 : decode cL_law 898 = .ok (.goto 1067, 3) := dL_b39.2.2.1
theorem dL_law_901 : decode cL_law 901 = .ok (.aload_n 1, 1) := dL_b39.2.2.2.1
theorem dL_law_902 : decode cL_law 902 = .ok (.invokevirtual 110, 3) := dL_b39.2.2.2.2.1
theorem dL_law_905 : decode cL_law 905 = .ok (.pop, 1) := dL_b39.2.2.2.2.2.1
theorem dL_law_906 : decode cL_law 906 = .ok (.aload_n 2, 1) := dL_b39.2.2.2.2.2.2.1
theorem dL_law_907 : decode cL_law 907 = .ok (.invokevirtual 113, 3) := dL_b39.2.2.2.2.2.2.2.1
theorem dL_law_910 : decode cL_law 910 = .ok (.pop, 1) := dL_b39.2.2.2.2.2.2.2.2.1
theorem dL_law_911 : decode cL_law 911 = .ok (.goto 1054, 3) := dL_b39.2.2.2.2.2.2.2.2.2.1
theorem dL_law_914 : decode cL_law 914 = .ok (.aload_n 1, 1) := dL_b39.2.2.2.2.2.2.2.2.2.2.1
theorem dL_law_915 : decode cL_law 915 = .ok (.invokevirtual 114, 3) := dL_b39.2.2.2.2.2.2.2.2.2.2.2
theorem dL_b40 : (decode cL_law 918 = .ok (.pop, 1)) ∧ (decode cL_law 919 = .ok (.aload_n 2, 1)) ∧ (decode cL_law 920 = .ok (.invokevirtual 117, 3)) ∧ (decode cL_law 923 = .ok (.pop, 1)) ∧ (decode cL_law 924 = .ok (.goto 1041, 3)) ∧ (decode cL_law 927 = .ok (.aload_n 1, 1)) ∧ (decode cL_law 928 = .ok (.invokevirtual 118, 3)) ∧ (decode cL_law 931 = .ok (.pop, 1)) ∧ (decode cL_law 932 = .ok (.aload_n 2, 1)) ∧ (decode cL_law 933 = .ok (.invokevirtual 121, 3)) ∧ (decode cL_law 936 = .ok (.pop, 1)) ∧ (decode cL_law 937 = .ok (.goto 1028, 3)) := by decide +kernel
theorem dL_law_918 : decode cL_law 918 = .ok (.pop, 1) := dL_b40.1
theorem dL_law_919 : decode cL_law 919 = .ok (.aload_n 2, 1) := dL_b40.2.1
theorem dL_law_920 : decode cL_law 920 = .ok (.invokevirtual 117, 3) := dL_b40.2.2.1
theorem dL_law_923 : decode cL_law 923 = .ok (.pop, 1) := dL_b40.2.2.2.1
theorem dL_law_924 : decode cL_law 924 = .ok (.goto 1041, 3) := dL_b40.2.2.2.2.1
theorem dL_law_927 : decode cL_law 927 = .ok (.aload_n 1, 1) := dL_b40.2.2.2.2.2.1
theorem dL_law_928 : decode cL_law 928 = .ok (.invokevirtual 118, 3) := dL_b40.2.2.2.2.2.2.1
theorem dL_law_931 : decode cL_law 931 = .ok (.pop, 1) := dL_b40.2.2.2.2.2.2.2.1
theorem dL_law_932 : decode cL_law 932 = .ok (.aload_n 2, 1) := dL_b40.2.2.2.2.2.2.2.2.1
theorem dL_law_933 : decode cL_law 933 = .ok (.invokevirtual 121, 3) := dL_b40.2.2.2.2.2.2.2.2.2.1
theorem dL_law_936 : decode cL_law 936 = .ok (.pop, 1) := dL_b40.2.2.2.2.2.2.2.2.2.2.1
theorem dL_law_937 : decode cL_law 937 = .ok (.goto 1028, 3) := dL_b40.2.2.2.2.2.2.2.2.2.2.2
theorem dL_b41 : (decode cL_law 940 = .ok (.aload_n 1, 1)) ∧ (decode cL_law 941 = .ok (.aload_n 0, 1)) ∧ (decode cL_law 942 = .ok (.iload_n 3, 1)) ∧ (decode cL_law 943 = .ok (.iconst 1, 1)) ∧ (decode cL_law 944 = .ok (.iadd, 1)) ∧ (decode cL_law 945 = .ok (.iaload, 1)) ∧ (decode cL_law 946 = .ok (.aload_n 0, 1)) ∧ (decode cL_law 947 = .ok (.iload_n 3, 1)) ∧ (decode cL_law 948 = .ok (.iconst 2, 1)) ∧ (decode cL_law 949 = .ok (.iadd, 1)) ∧ (decode cL_law 950 = .ok (.iaload, 1)) ∧ (decode cL_law 951 = .ok (.invokevirtual 122, 3)) := by decide +kernel
theorem dL_law_940 : decode cL_law 940 = .ok (.aload_n 1, 1) := dL_b41.1
theorem dL_law_941 : decode cL_law 941 = .ok (.aload_n 0, 1) := dL_b41.2.1
theorem dL_law_942 : decode cL_law 942 = .ok (.iload_n 3, 1) := dL_b41.2.2.1
theorem dL_law_943 : decode cL_law 943 = .ok (.iconst 1, 1) := dL_b41.2.2.2.1
theorem dL_law_944 : decode cL_law 944 = .ok (.iadd, 1) := dL_b41.2.2.2.2.1
theorem dL_law_945 : decode cL_law 945 = .ok (.iaload, 1) := dL_b41.2.2.2.2.2.1
theorem dL_law_946 : decode cL_law 946 = .ok (.aload_n 0, 1) := dL_b41.2.2.2.2.2.2.1
theorem dL_law_947 : decode cL_law 947 = .ok (.iload_n 3, 1) := dL_b41.2.2.2.2.2.2.2.1
theorem dL_law_948 : decode cL_law 948 = .ok (.iconst 2, 1) := dL_b41.2.2.2.2.2.2.2.2.1
theorem dL_law_949 : decode cL_law 949 = .ok (.iadd, 1) := dL_b41.2.2.2.2.2.2.2.2.2.1
theorem dL_law_950 : decode cL_law 950 = .ok (.iaload, 1) := dL_b41.2.2.2.2.2.2.2.2.2.2.1
theorem dL_law_951 : decode cL_law 951 = .ok (.invokevirtual 122, 3) := dL_b41.2.2.2.2.2.2.2.2.2.2.2
theorem dL_b42 : (decode cL_law 954 = .ok (.pop, 1)) ∧ (decode cL_law 955 = .ok (.aload_n 2, 1)) ∧ (decode cL_law 956 = .ok (.aload_n 0, 1)) ∧ (decode cL_law 957 = .ok (.iload_n 3, 1)) ∧ (decode cL_law 958 = .ok (.iconst 1, 1)) ∧ (decode cL_law 959 = .ok (.iadd, 1)) ∧ (decode cL_law 960 = .ok (.iaload, 1)) ∧ (decode cL_law 961 = .ok (.aload_n 0, 1)) ∧ (decode cL_law 962 = .ok (.iload_n 3, 1)) ∧ (decode cL_law 963 = .ok (.iconst 2, 1)) ∧ (decode cL_law 964 = .ok (.iadd, 1)) ∧ (decode cL_law 965 = .ok (.iaload, 1)) := by decide +kernel
theorem dL_law_954 : decode cL_law 954 = .ok (.pop, 1) := dL_b42.1
theorem dL_law_955 : decode cL_law 955 = .ok (.aload_n 2, 1) := dL_b42.2.1
theorem dL_law_956 : decode cL_law 956 = .ok (.aload_n 0, 1) := dL_b42.2.2.1
theorem dL_law_957 : decode cL_law 957 = .ok (.iload_n 3, 1) := dL_b42.2.2.2.1
theorem dL_law_958 : decode cL_law 958 = .ok (.iconst 1, 1) := dL_b42.2.2.2.2.1
theorem dL_law_959 : decode cL_law 959 = .ok (.iadd, 1) := dL_b42.2.2.2.2.2.1
theorem dL_law_960 : decode cL_law 960 = .ok (.iaload, 1) := dL_b42.2.2.2.2.2.2.1
theorem dL_law_961 : decode cL_law 961 = .ok (.aload_n 0, 1) := dL_b42.2.2.2.2.2.2.2.1
theorem dL_law_962 : decode cL_law 962 = .ok (.iload_n 3, 1) := dL_b42.2.2.2.2.2.2.2.2.1
theorem dL_law_963 : decode cL_law 963 = .ok (.iconst 2, 1) := dL_b42.2.2.2.2.2.2.2.2.2.1
theorem dL_law_964 : decode cL_law 964 = .ok (.iadd, 1) := dL_b42.2.2.2.2.2.2.2.2.2.2.1
theorem dL_law_965 : decode cL_law 965 = .ok (.iaload, 1) := dL_b42.2.2.2.2.2.2.2.2.2.2.2
theorem dL_b43 : (decode cL_law 966 = .ok (.invokevirtual 125, 3)) ∧ (decode cL_law 969 = .ok (.pop, 1)) ∧ (decode cL_law 970 = .ok (.goto 995, 3)) ∧ (decode cL_law 973 = .ok (.aload_n 1, 1)) ∧ (decode cL_law 974 = .ok (.aload_n 0, 1)) ∧ (decode cL_law 975 = .ok (.iload_n 3, 1)) ∧ (decode cL_law 976 = .ok (.iconst 1, 1)) ∧ (decode cL_law 977 = .ok (.iadd, 1)) ∧ (decode cL_law 978 = .ok (.iaload, 1)) ∧ (decode cL_law 979 = .ok (.invokevirtual 126, 3)) ∧ (decode cL_law 982 = .ok (.pop, 1)) ∧ (decode cL_law 983 = .ok (.aload_n 2, 1)) := by decide +kernel
theorem dL_law_966 : decode cL_law 966 = .ok (.invokevirtual 125, 3) := dL_b43.1
theorem dL_law_969 : decode cL_law 969 = .ok (.pop, 1) := dL_b43.2.1
theorem dL_law_970 : decode cL_law 970 = .ok (.goto 995, 3) := dL_b43.2.2.1
theorem dL_law_973 : decode cL_law 973 = .ok (.aload_n 1, 1) := dL_b43.2.2.2.1
theorem dL_law_974 : decode cL_law 974 = .ok (.aload_n 0, 1) := dL_b43.2.2.2.2.1
theorem dL_law_975 : decode cL_law 975 = .ok (.iload_n 3, 1) := dL_b43.2.2.2.2.2.1
theorem dL_law_976 : decode cL_law 976 = .ok (.iconst 1, 1) := dL_b43.2.2.2.2.2.2.1
theorem dL_law_977 : decode cL_law 977 = .ok (.iadd, 1) := dL_b43.2.2.2.2.2.2.2.1
theorem dL_law_978 : decode cL_law 978 = .ok (.iaload, 1) := dL_b43.2.2.2.2.2.2.2.2.1
theorem dL_law_979 : decode cL_law 979 = .ok (.invokevirtual 126, 3) := dL_b43.2.2.2.2.2.2.2.2.2.1
theorem dL_law_982 : decode cL_law 982 = .ok (.pop, 1) := dL_b43.2.2.2.2.2.2.2.2.2.2.1
theorem dL_law_983 : decode cL_law 983 = .ok (.aload_n 2, 1) := dL_b43.2.2.2.2.2.2.2.2.2.2.2
theorem dL_b44 : (decode cL_law 984 = .ok (.aload_n 0, 1)) ∧ (decode cL_law 985 = .ok (.iload_n 3, 1)) ∧ (decode cL_law 986 = .ok (.iconst 1, 1)) ∧ (decode cL_law 987 = .ok (.iadd, 1)) ∧ (decode cL_law 988 = .ok (.iaload, 1)) ∧ (decode cL_law 989 = .ok (.invokevirtual 129, 3)) ∧ (decode cL_law 992 = .ok (.pop, 1)) ∧ (decode cL_law 993 = .ok (.goto 972, 3)) ∧ (decode cL_law 996 = .ok (.aload_n 1, 1)) ∧ (decode cL_law 997 = .ok (.aload_n 0, 1)) ∧ (decode cL_law 998 = .ok (.iload_n 3, 1)) ∧ (decode cL_law 999 = .ok (.iconst 1, 1)) := by decide +kernel
theorem dL_law_984 : decode cL_law 984 = .ok (.aload_n 0, 1) := dL_b44.1
theorem dL_law_985 : decode cL_law 985 = .ok (.iload_n 3, 1) := dL_b44.2.1
theorem dL_law_986 : decode cL_law 986 = .ok (.iconst 1, 1) := dL_b44.2.2.1
theorem dL_law_987 : decode cL_law 987 = .ok (.iadd, 1) := dL_b44.2.2.2.1
theorem dL_law_988 : decode cL_law 988 = .ok (.iaload, 1) := dL_b44.2.2.2.2.1
theorem dL_law_989 : decode cL_law 989 = .ok (.invokevirtual 129, 3) := dL_b44.2.2.2.2.2.1
theorem dL_law_992 : decode cL_law 992 = .ok (.pop, 1) := dL_b44.2.2.2.2.2.2.1
theorem dL_law_993 : decode cL_law 993 = .ok (.goto 972, 3) := dL_b44.2.2.2.2.2.2.2.1
theorem dL_law_996 : decode cL_law 996 = .ok (.aload_n 1, 1) := dL_b44.2.2.2.2.2.2.2.2.1
theorem dL_law_997 : decode cL_law 997 = .ok (.aload_n 0, 1) := dL_b44.2.2.2.2.2.2.2.2.2.1
theorem dL_law_998 : decode cL_law 998 = .ok (.iload_n 3, 1) := dL_b44.2.2.2.2.2.2.2.2.2.2.1
theorem dL_law_999 : decode cL_law 999 = .ok (.iconst 1, 1) := dL_b44.2.2.2.2.2.2.2.2.2.2.2
theorem dL_b45 : (decode cL_law 1000 = .ok (.iadd, 1)) ∧ (decode cL_law 1001 = .ok (.iaload, 1)) ∧ (decode cL_law 1002 = .ok (.invokevirtual 130, 3)) ∧ (decode cL_law 1005 = .ok (.pop, 1)) ∧ (decode cL_law 1006 = .ok (.aload_n 2, 1)) ∧ (decode cL_law 1007 = .ok (.aload_n 0, 1)) ∧ (decode cL_law 1008 = .ok (.iload_n 3, 1)) ∧ (decode cL_law 1009 = .ok (.iconst 1, 1)) ∧ (decode cL_law 1010 = .ok (.iadd, 1)) ∧ (decode cL_law 1011 = .ok (.iaload, 1)) ∧ (decode cL_law 1012 = .ok (.invokevirtual 133, 3)) ∧ (decode cL_law 1015 = .ok (.pop, 1)) := by decide +kernel
theorem dL_law_1000 : decode cL_law 1000 = .ok (.iadd, 1) := dL_b45.1
theorem dL_law_1001 : decode cL_law 1001 = .ok (.iaload, 1) := dL_b45.2.1
theorem dL_law_1002 : decode cL_law 1002 = .ok (.invokevirtual 130, 3) := dL_b45.2.2.1
theorem dL_law_1005 : decode cL_law 1005 = .ok (.pop, 1) := dL_b45.2.2.2.1
theorem dL_law_1006 : decode cL_law 1006 = .ok (.aload_n 2, 1) := dL_b45.2.2.2.2.1
theorem dL_law_1007 : decode cL_law 1007 = .ok (.aload_n 0, 1) := dL_b45.2.2.2.2.2.1
theorem dL_law_1008 : decode cL_law 1008 = .ok (.iload_n 3, 1) := dL_b45.2.2.2.2.2.2.1
theorem dL_law_1009 : decode cL_law 1009 = .ok (.iconst 1, 1) := dL_b45.2.2.2.2.2.2.2.1
theorem dL_law_1010 : decode cL_law 1010 = .ok (.iadd, 1) := dL_b45.2.2.2.2.2.2.2.2.1
theorem dL_law_1011 : decode cL_law 1011 = .ok (.iaload, 1) := dL_b45.2.2.2.2.2.2.2.2.2.1
theorem dL_law_1012 : decode cL_law 1012 = .ok (.invokevirtual 133, 3) := dL_b45.2.2.2.2.2.2.2.2.2.2.1
theorem dL_law_1015 : decode cL_law 1015 = .ok (.pop, 1) := dL_b45.2.2.2.2.2.2.2.2.2.2.2
theorem dL_b46 : (decode cL_law 1016 = .ok (.goto 949, 3)) ∧ (decode cL_law 1019 = .ok (.aload_n 1, 1)) ∧ (decode cL_law 1020 = .ok (.invokevirtual 134, 3)) ∧ (decode cL_law 1023 = .ok (.pop, 1)) ∧ (decode cL_law 1024 = .ok (.aload_n 2, 1)) ∧ (decode cL_law 1025 = .ok (.invokevirtual 137, 3)) ∧ (decode cL_law 1028 = .ok (.pop, 1)) ∧ (decode cL_law 1029 = .ok (.goto 936, 3)) ∧ (decode cL_law 1032 = .ok (.aload_n 1, 1)) ∧ (decode cL_law 1033 = .ok (.aload_n 0, 1)) ∧ (decode cL_law 1034 = .ok (.iload_n 3, 1)) ∧ (decode cL_law 1035 = .ok (.iconst 1, 1)) := by decide +kernel
theorem dL_law_1016 : decode cL_law 1016 = .ok (.goto 949, 3) := dL_b46.1
theorem dL_law_1019 : decode cL_law 1019 = .ok (.aload_n 1, 1) := dL_b46.2.1
theorem dL_law_1020 : decode cL_law 1020 = .ok (.invokevirtual 134, 3) := dL_b46.2.2.1
theorem dL_law_1023 : decode cL_law 1023 = .ok (.pop, 1) := dL_b46.2.2.2.1
theorem dL_law_1024 : decode cL_law 1024 = .ok (.aload_n 2, 1) := dL_b46.2.2.2.2.1
theorem dL_law_1025 : decode cL_law 1025 = .ok (.invokevirtual 137, 3) := dL_b46.2.2.2.2.2.1
theorem dL_law_1028 : decode cL_law 1028 = .ok (.pop, 1) := dL_b46.2.2.2.2.2.2.1
theorem dL_law_1029 : decode cL_law 1029 = .ok (.goto 936, 3) := dL_b46.2.2.2.2.2.2.2.1
theorem dL_law_1032 : decode cL_law 1032 = .ok (.aload_n 1, 1) := dL_b46.2.2.2.2.2.2.2.2.1
theorem dL_law_1033 : decode cL_law 1033 = .ok (.aload_n 0, 1) := dL_b46.2.2.2.2.2.2.2.2.2.1
theorem dL_law_1034 : decode cL_law 1034 = .ok (.iload_n 3, 1) := dL_b46.2.2.2.2.2.2.2.2.2.2.1
theorem dL_law_1035 : decode cL_law 1035 = .ok (.iconst 1, 1) := dL_b46.2.2.2.2.2.2.2.2.2.2.2
theorem dL_b47 : (decode cL_law 1036 = .ok (.iadd, 1)) ∧ (decode cL_law 1037 = .ok (.iaload, 1)) ∧ (decode cL_law 1038 = .ok (.invokevirtual 138, 3)) ∧ (decode cL_law 1041 = .ok (.pop, 1)) ∧ (decode cL_law 1042 = .ok (.aload_n 2, 1)) ∧ (decode cL_law 1043 = .ok (.aload_n 0, 1)) ∧ (decode cL_law 1044 = .ok (.iload_n 3, 1)) ∧ (decode cL_law 1045 = .ok (.iconst 1, 1)) ∧ (decode cL_law 1046 = .ok (.iadd, 1)) ∧ (decode cL_law 1047 = .ok (.iaload, 1)) ∧ (decode cL_law 1048 = .ok (.invokevirtual 141, 3)) ∧ (decode cL_law 1051 = .ok (.pop, 1)) := by decide +kernel
theorem dL_law_1036 : decode cL_law 1036 = .ok (.iadd, 1) := dL_b47.1
theorem dL_law_1037 : decode cL_law 1037 = .ok (.iaload, 1) := dL_b47.2.1
theorem dL_law_1038 : decode cL_law 1038 = .ok (.invokevirtual 138, 3) := dL_b47.2.2.1
theorem dL_law_1041 : decode cL_law 1041 = .ok (.pop, 1) := dL_b47.2.2.2.1
theorem dL_law_1042 : decode cL_law 1042 = .ok (.aload_n 2, 1) := dL_b47.2.2.2.2.1
theorem dL_law_1043 : decode cL_law 1043 = .ok (.aload_n 0, 1) := dL_b47.2.2.2.2.2.1
theorem dL_law_1044 : decode cL_law 1044 = .ok (.iload_n 3, 1) := dL_b47.2.2.2.2.2.2.1
theorem dL_law_1045 : decode cL_law 1045 = .ok (.iconst 1, 1) := dL_b47.2.2.2.2.2.2.2.1
theorem dL_law_1046 : decode cL_law 1046 = .ok (.iadd, 1) := dL_b47.2.2.2.2.2.2.2.2.1
theorem dL_law_1047 : decode cL_law 1047 = .ok (.iaload, 1) := dL_b47.2.2.2.2.2.2.2.2.2.1
theorem dL_law_1048 : decode cL_law 1048 = .ok (.invokevirtual 141, 3) := dL_b47.2.2.2.2.2.2.2.2.2.2.1
theorem dL_law_1051 : decode cL_law 1051 = .ok (.pop, 1) := dL_b47.2.2.2.2.2.2.2.2.2.2.2
theorem dL_b48 : (decode cL_law 1052 = .ok (.goto 913, 3)) ∧ (decode cL_law 1055 = .ok (.aload_n 1, 1)) ∧ (decode cL_law 1056 = .ok (.invokevirtual 142, 3)) ∧ (decode cL_law 1059 = .ok (.pop, 1)) ∧ (decode cL_law 1060 = .ok (.aload_n 2, 1)) ∧ (decode cL_law 1061 = .ok (.invokevirtual 145, 3)) ∧ (decode cL_law 1064 = .ok (.pop, 1)) ∧ (decode cL_law 1065 = .ok (.goto 900, 3)) ∧ (decode cL_law 1068 = .ok (.aload_n 1, 1)) ∧ (decode cL_law 1069 = .ok (.aload_n 0, 1)) ∧ (decode cL_law 1070 = .ok (.iload_n 3, 1)) ∧ (decode cL_law 1071 = .ok (.iconst 1, 1)) := by decide +kernel
theorem dL_law_1052 : decode cL_law 1052 = .ok (.goto 913, 3) := dL_b48.1
theorem dL_law_1055 : decode cL_law 1055 = .ok (.aload_n 1, 1) := dL_b48.2.1
theorem dL_law_1056 : decode cL_law 1056 = .ok (.invokevirtual 142, 3) := dL_b48.2.2.1
theorem dL_law_1059 : decode cL_law 1059 = .ok (.pop, 1) := dL_b48.2.2.2.1
theorem dL_law_1060 : decode cL_law 1060 = .ok (.aload_n 2, 1) := dL_b48.2.2.2.2.1
theorem dL_law_1061 : decode cL_law 1061 = .ok (.invokevirtual 145, 3) := dL_b48.2.2.2.2.2.1
theorem dL_law_1064 : decode cL_law 1064 = .ok (.pop, 1) := dL_b48.2.2.2.2.2.2.1
theorem dL_law_1065 : decode cL_law 1065 = .ok (.goto 900, 3) := dL_b48.2.2.2.2.2.2.2.1
theorem dL_law_1068 : decode cL_law 1068 = .ok (.aload_n 1, 1) := dL_b48.2.2.2.2.2.2.2.2.1
theorem dL_law_1069 : decode cL_law 1069 = .ok (.aload_n 0, 1) := dL_b48.2.2.2.2.2.2.2.2.2.1
theorem dL_law_1070 : decode cL_law 1070 = .ok (.iload_n 3, 1) := dL_b48.2.2.2.2.2.2.2.2.2.2.1
theorem dL_law_1071 : decode cL_law 1071 = .ok (.iconst 1, 1) := dL_b48.2.2.2.2.2.2.2.2.2.2.2
theorem dL_b49 : (decode cL_law 1072 = .ok (.iadd, 1)) ∧ (decode cL_law 1073 = .ok (.iaload, 1)) ∧ (decode cL_law 1074 = .ok (.invokevirtual 146, 3)) ∧ (decode cL_law 1077 = .ok (.pop, 1)) ∧ (decode cL_law 1078 = .ok (.aload_n 2, 1)) ∧ (decode cL_law 1079 = .ok (.aload_n 0, 1)) ∧ (decode cL_law 1080 = .ok (.iload_n 3, 1)) ∧ (decode cL_law 1081 = .ok (.iconst 1, 1)) ∧ (decode cL_law 1082 = .ok (.iadd, 1)) ∧ (decode cL_law 1083 = .ok (.iaload, 1)) ∧ (decode cL_law 1084 = .ok (.invokevirtual 149, 3)) ∧ (decode cL_law 1087 = .ok (.pop, 1)) := by decide +kernel
theorem dL_law_1072 : decode cL_law 1072 = .ok (.iadd, 1) := dL_b49.1
theorem dL_law_1073 : decode cL_law 1073 = .ok (.iaload, 1) := dL_b49.2.1
theorem dL_law_1074 : decode cL_law 1074 = .ok (.invokevirtual 146, 3) := dL_b49.2.2.1
theorem dL_law_1077 : decode cL_law 1077 = .ok (.pop, 1) := dL_b49.2.2.2.1
theorem dL_law_1078 : decode cL_law 1078 = .ok (.aload_n 2, 1) := dL_b49.2.2.2.2.1
theorem dL_law_1079 : decode cL_law 1079 = .ok (.aload_n 0, 1) := dL_b49.2.2.2.2.2.1
theorem dL_law_1080 : decode cL_law 1080 = .ok (.iload_n 3, 1) := dL_b49.2.2.2.2.2.2.1
theorem dL_law_1081 : decode cL_law 1081 = .ok (.iconst 1, 1) := dL_b49.2.2.2.2.2.2.2.1
theorem dL_law_1082 : decode cL_law 1082 = .ok (.iadd, 1) := dL_b49.2.2.2.2.2.2.2.2.1
theorem dL_law_1083 : decode cL_law 1083 = .ok (.iaload, 1) := dL_b49.2.2.2.2.2.2.2.2.2.1
theorem dL_law_1084 : decode cL_law 1084 = .ok (.invokevirtual 149, 3) := dL_b49.2.2.2.2.2.2.2.2.2.2.1
theorem dL_law_1087 : decode cL_law 1087 = .ok (.pop, 1) := dL_b49.2.2.2.2.2.2.2.2.2.2.2
theorem dL_b50 : (decode cL_law 1088 = .ok (.goto 877, 3)) ∧ (decode cL_law 1091 = .ok (.aload_n 1, 1)) ∧ (decode cL_law 1092 = .ok (.aload_n 0, 1)) ∧ (decode cL_law 1093 = .ok (.iload_n 3, 1)) ∧ (decode cL_law 1094 = .ok (.iconst 1, 1)) ∧ (decode cL_law 1095 = .ok (.iadd, 1)) ∧ (decode cL_law 1096 = .ok (.iaload, 1)) ∧ (decode cL_law 1097 = .ok (.invokevirtual 150, 3)) ∧ (decode cL_law 1100 = .ok (.pop, 1)) ∧ (decode cL_law 1101 = .ok (.aload_n 2, 1)) ∧ (decode cL_law 1102 = .ok (.aload_n 0, 1)) ∧ (decode cL_law 1103 = .ok (.iload_n 3, 1)) := by decide +kernel
theorem dL_law_1088 : decode cL_law 1088 = .ok (.goto 877, 3) := dL_b50.1
theorem dL_law_1091 : decode cL_law 1091 = .ok (.aload_n 1, 1) := dL_b50.2.1
theorem dL_law_1092 : decode cL_law 1092 = .ok (.aload_n 0, 1) := dL_b50.2.2.1
theorem dL_law_1093 : decode cL_law 1093 = .ok (.iload_n 3, 1) := dL_b50.2.2.2.1
theorem dL_law_1094 : decode cL_law 1094 = .ok (.iconst 1, 1) := dL_b50.2.2.2.2.1
theorem dL_law_1095 : decode cL_law 1095 = .ok (.iadd, 1) := dL_b50.2.2.2.2.2.1
theorem dL_law_1096 : decode cL_law 1096 = .ok (.iaload, 1) := dL_b50.2.2.2.2.2.2.1
theorem dL_law_1097 : decode cL_law 1097 = .ok (.invokevirtual 150, 3) := dL_b50.2.2.2.2.2.2.2.1
theorem dL_law_1100 : decode cL_law 1100 = .ok (.pop, 1) := dL_b50.2.2.2.2.2.2.2.2.1
theorem dL_law_1101 : decode cL_law 1101 = .ok (.aload_n 2, 1) := dL_b50.2.2.2.2.2.2.2.2.2.1
theorem dL_law_1102 : decode cL_law 1102 = .ok (.aload_n 0, 1) := dL_b50.2.2.2.2.2.2.2.2.2.2.1
theorem dL_law_1103 : decode cL_law 1103 = .ok (.iload_n 3, 1) := dL_b50.2.2.2.2.2.2.2.2.2.2.2
theorem dL_b51 : (decode cL_law 1104 = .ok (.iconst 1, 1)) ∧ (decode cL_law 1105 = .ok (.iadd, 1)) ∧ (decode cL_law 1106 = .ok (.iaload, 1)) ∧ (decode cL_law 1107 = .ok (.invokevirtual 153, 3)) ∧ (decode cL_law 1110 = .ok (.pop, 1)) ∧ (decode cL_law 1111 = .ok (.goto 854, 3)) ∧ (decode cL_law 1114 = .ok (.aload_n 1, 1)) ∧ (decode cL_law 1115 = .ok (.aload_n 0, 1)) ∧ (decode cL_law 1116 = .ok (.iload_n 3, 1)) ∧ (decode cL_law 1117 = .ok (.iconst 1, 1)) ∧ (decode cL_law 1118 = .ok (.iadd, 1)) ∧ (decode cL_law 1119 = .ok (.iaload, 1)) := by decide +kernel
theorem dL_law_1104 : decode cL_law 1104 = .ok (.iconst 1, 1) := dL_b51.1
theorem dL_law_1105 : decode cL_law 1105 = .ok (.iadd, 1) := dL_b51.2.1
theorem dL_law_1106 : decode cL_law 1106 = .ok (.iaload, 1) := dL_b51.2.2.1
theorem dL_law_1107 : decode cL_law 1107 = .ok (.invokevirtual 153, 3) := dL_b51.2.2.2.1
theorem dL_law_1110 : decode cL_law 1110 = .ok (.pop, 1) := dL_b51.2.2.2.2.1
theorem dL_law_1111 : decode cL_law 1111 = .ok (.goto 854, 3) := dL_b51.2.2.2.2.2.1
theorem dL_law_1114 : decode cL_law 1114 = .ok (.aload_n 1, 1) := dL_b51.2.2.2.2.2.2.1
theorem dL_law_1115 : decode cL_law 1115 = .ok (.aload_n 0, 1) := dL_b51.2.2.2.2.2.2.2.1
theorem dL_law_1116 : decode cL_law 1116 = .ok (.iload_n 3, 1) := dL_b51.2.2.2.2.2.2.2.2.1
theorem dL_law_1117 : decode cL_law 1117 = .ok (.iconst 1, 1) := dL_b51.2.2.2.2.2.2.2.2.2.1
theorem dL_law_1118 : decode cL_law 1118 = .ok (.iadd, 1) := dL_b51.2.2.2.2.2.2.2.2.2.2.1
theorem dL_law_1119 : decode cL_law 1119 = .ok (.iaload, 1) := dL_b51.2.2.2.2.2.2.2.2.2.2.2
theorem dL_b52 : (decode cL_law 1120 = .ok (.invokevirtual 154, 3)) ∧ (decode cL_law 1123 = .ok (.pop, 1)) ∧ (decode cL_law 1124 = .ok (.aload_n 2, 1)) ∧ (decode cL_law 1125 = .ok (.aload_n 0, 1)) ∧ (decode cL_law 1126 = .ok (.iload_n 3, 1)) ∧ (decode cL_law 1127 = .ok (.iconst 1, 1)) ∧ (decode cL_law 1128 = .ok (.iadd, 1)) ∧ (decode cL_law 1129 = .ok (.iaload, 1)) ∧ (decode cL_law 1130 = .ok (.invokevirtual 157, 3)) ∧ (decode cL_law 1133 = .ok (.pop, 1)) ∧ (decode cL_law 1134 = .ok (.goto 831, 3)) ∧ (decode cL_law 1137 = .ok (.aload_n 1, 1)) := by decide +kernel
theorem dL_law_1120 : decode cL_law 1120 = .ok (.invokevirtual 154, 3) := dL_b52.1
theorem dL_law_1123 : decode cL_law 1123 = .ok (.pop, 1) := dL_b52.2.1
theorem dL_law_1124 : decode cL_law 1124 = .ok (.aload_n 2, 1) := dL_b52.2.2.1
theorem dL_law_1125 : decode cL_law 1125 = .ok (.aload_n 0, 1) := dL_b52.2.2.2.1
theorem dL_law_1126 : decode cL_law 1126 = .ok (.iload_n 3, 1) := dL_b52.2.2.2.2.1
theorem dL_law_1127 : decode cL_law 1127 = .ok (.iconst 1, 1) := dL_b52.2.2.2.2.2.1
theorem dL_law_1128 : decode cL_law 1128 = .ok (.iadd, 1) := dL_b52.2.2.2.2.2.2.1
theorem dL_law_1129 : decode cL_law 1129 = .ok (.iaload, 1) := dL_b52.2.2.2.2.2.2.2.1
theorem dL_law_1130 : decode cL_law 1130 = .ok (.invokevirtual 157, 3) := dL_b52.2.2.2.2.2.2.2.2.1
theorem dL_law_1133 : decode cL_law 1133 = .ok (.pop, 1) := dL_b52.2.2.2.2.2.2.2.2.2.1
theorem dL_law_1134 : decode cL_law 1134 = .ok (.goto 831, 3) := dL_b52.2.2.2.2.2.2.2.2.2.2.1
theorem dL_law_1137 : decode cL_law 1137 = .ok (.aload_n 1, 1) := dL_b52.2.2.2.2.2.2.2.2.2.2.2
theorem dL_b53 : (decode cL_law 1138 = .ok (.aload_n 0, 1)) ∧ (decode cL_law 1139 = .ok (.iload_n 3, 1)) ∧ (decode cL_law 1140 = .ok (.iconst 1, 1)) ∧ (decode cL_law 1141 = .ok (.iadd, 1)) ∧ (decode cL_law 1142 = .ok (.iaload, 1)) ∧ (decode cL_law 1143 = .ok (.aload_n 0, 1)) ∧ (decode cL_law 1144 = .ok (.iload_n 3, 1)) ∧ (decode cL_law 1145 = .ok (.iconst 2, 1)) ∧ (decode cL_law 1146 = .ok (.iadd, 1)) ∧ (decode cL_law 1147 = .ok (.iaload, 1)) ∧ (decode cL_law 1148 = .ok (.invokevirtual 158, 3)) ∧ (decode cL_law 1151 = .ok (.pop, 1)) := by decide +kernel
theorem dL_law_1138 : decode cL_law 1138 = .ok (.aload_n 0, 1) := dL_b53.1
theorem dL_law_1139 : decode cL_law 1139 = .ok (.iload_n 3, 1) := dL_b53.2.1
theorem dL_law_1140 : decode cL_law 1140 = .ok (.iconst 1, 1) := dL_b53.2.2.1
theorem dL_law_1141 : decode cL_law 1141 = .ok (.iadd, 1) := dL_b53.2.2.2.1
theorem dL_law_1142 : decode cL_law 1142 = .ok (.iaload, 1) := dL_b53.2.2.2.2.1
theorem dL_law_1143 : decode cL_law 1143 = .ok (.aload_n 0, 1) := dL_b53.2.2.2.2.2.1
theorem dL_law_1144 : decode cL_law 1144 = .ok (.iload_n 3, 1) := dL_b53.2.2.2.2.2.2.1
theorem dL_law_1145 : decode cL_law 1145 = .ok (.iconst 2, 1) := dL_b53.2.2.2.2.2.2.2.1
theorem dL_law_1146 : decode cL_law 1146 = .ok (.iadd, 1) := dL_b53.2.2.2.2.2.2.2.2.1
theorem dL_law_1147 : decode cL_law 1147 = .ok (.iaload, 1) := dL_b53.2.2.2.2.2.2.2.2.2.1
theorem dL_law_1148 : decode cL_law 1148 = .ok (.invokevirtual 158, 3) := dL_b53.2.2.2.2.2.2.2.2.2.2.1
theorem dL_law_1151 : decode cL_law 1151 = .ok (.pop, 1) := dL_b53.2.2.2.2.2.2.2.2.2.2.2
theorem dL_b54 : (decode cL_law 1152 = .ok (.aload_n 2, 1)) ∧ (decode cL_law 1153 = .ok (.aload_n 0, 1)) ∧ (decode cL_law 1154 = .ok (.iload_n 3, 1)) ∧ (decode cL_law 1155 = .ok (.iconst 1, 1)) ∧ (decode cL_law 1156 = .ok (.iadd, 1)) ∧ (decode cL_law 1157 = .ok (.iaload, 1)) ∧ (decode cL_law 1158 = .ok (.aload_n 0, 1)) ∧ (decode cL_law 1159 = .ok (.iload_n 3, 1)) ∧ (decode cL_law 1160 = .ok (.iconst 2, 1)) ∧ (decode cL_law 1161 = .ok (.iadd, 1)) ∧ (decode cL_law 1162 = .ok (.iaload, 1)) ∧ (decode cL_law 1163 = .ok (.invokevirtual 161, 3)) := by decide +kernel
theorem dL_law_1152 : decode cL_law 1152 = .ok (.aload_n 2, 1) := dL_b54.1
theorem dL_law_1153 : decode cL_law 1153 = .ok (.aload_n 0, 1) := dL_b54.2.1
theorem dL_law_1154 : decode cL_law 1154 = .ok (.iload_n 3, 1) := dL_b54.2.2.1
theorem dL_law_1155 : decode cL_law 1155 = .ok (.iconst 1, 1) := dL_b54.2.2.2.1
theorem dL_law_1156 : decode cL_law 1156 = .ok (.iadd, 1) := dL_b54.2.2.2.2.1
theorem dL_law_1157 : decode cL_law 1157 = .ok (.iaload, 1) := dL_b54.2.2.2.2.2.1
theorem dL_law_1158 : decode cL_law 1158 = .ok (.aload_n 0, 1) := dL_b54.2.2.2.2.2.2.1
theorem dL_law_1159 : decode cL_law 1159 = .ok (.iload_n 3, 1) := dL_b54.2.2.2.2.2.2.2.1
theorem dL_law_1160 : decode cL_law 1160 = .ok (.iconst 2, 1) := dL_b54.2.2.2.2.2.2.2.2.1
theorem dL_law_1161 : decode cL_law 1161 = .ok (.iadd, 1) := dL_b54.2.2.2.2.2.2.2.2.2.1
theorem dL_law_1162 : decode cL_law 1162 = .ok (.iaload, 1) := dL_b54.2.2.2.2.2.2.2.2.2.2.1
theorem dL_law_1163 : decode cL_law 1163 = .ok (.invokevirtual 161, 3) := dL_b54.2.2.2.2.2.2.2.2.2.2.2
theorem dL_b55 : (decode cL_law 1166 = .ok (.pop, 1)) ∧ (decode cL_law 1167 = .ok (.goto 798, 3)) ∧ (decode cL_law 1170 = .ok (.aload_n 1, 1)) ∧ (decode cL_law 1171 = .ok (.aload_n 0, 1)) ∧ (decode cL_law 1172 = .ok (.iload_n 3, 1)) ∧ (decode cL_law 1173 = .ok (.iconst 1, 1)) ∧ (decode cL_law 1174 = .ok (.iadd, 1)) ∧ (decode cL_law 1175 = .ok (.iaload, 1)) ∧ (decode cL_law 1176 = .ok (.aload_n 0, 1)) ∧ (decode cL_law 1177 = .ok (.iload_n 3, 1)) ∧ (decode cL_law 1178 = .ok (.iconst 2, 1)) ∧ (decode cL_law 1179 = .ok (.iadd, 1)) := by decide +kernel
theorem dL_law_1166 : decode cL_law 1166 = .ok (.pop, 1) := dL_b55.1
theorem dL_law_1167 : decode cL_law 1167 = .ok (.goto 798, 3) := dL_b55.2.1
theorem dL_law_1170 : decode cL_law 1170 = .ok (.aload_n 1, 1) := dL_b55.2.2.1
theorem dL_law_1171 : decode cL_law 1171 = .ok (.aload_n 0, 1) := dL_b55.2.2.2.1
theorem dL_law_1172 : decode cL_law 1172 = .ok (.iload_n 3, 1) := dL_b55.2.2.2.2.1
theorem dL_law_1173 : decode cL_law 1173 = .ok (.iconst 1, 1) := dL_b55.2.2.2.2.2.1
theorem dL_law_1174 : decode cL_law 1174 = .ok (.iadd, 1) := dL_b55.2.2.2.2.2.2.1
theorem dL_law_1175 : decode cL_law 1175 = .ok (.iaload, 1) := dL_b55.2.2.2.2.2.2.2.1
theorem dL_law_1176 : decode cL_law 1176 = .ok (.aload_n 0, 1) := dL_b55.2.2.2.2.2.2.2.2.1
theorem dL_law_1177 : decode cL_law 1177 = .ok (.iload_n 3, 1) := dL_b55.2.2.2.2.2.2.2.2.2.1
theorem dL_law_1178 : decode cL_law 1178 = .ok (.iconst 2, 1) := dL_b55.2.2.2.2.2.2.2.2.2.2.1
theorem dL_law_1179 : decode cL_law 1179 = .ok (.iadd, 1) := dL_b55.2.2.2.2.2.2.2.2.2.2.2
theorem dL_b56 : (decode cL_law 1180 = .ok (.iaload, 1)) ∧ (decode cL_law 1181 = .ok (.invokevirtual 162, 3)) ∧ (decode cL_law 1184 = .ok (.pop, 1)) ∧ (decode cL_law 1185 = .ok (.aload_n 2, 1)) ∧ (decode cL_law 1186 = .ok (.aload_n 0, 1)) ∧ (decode cL_law 1187 = .ok (.iload_n 3, 1)) ∧ (decode cL_law 1188 = .ok (.iconst 1, 1)) ∧ (decode cL_law 1189 = .ok (.iadd, 1)) ∧ (decode cL_law 1190 = .ok (.iaload, 1)) ∧ (decode cL_law 1191 = .ok (.aload_n 0, 1)) ∧ (decode cL_law 1192 = .ok (.iload_n 3, 1)) ∧ (decode cL_law 1193 = .ok (.iconst 2, 1)) := by decide +kernel
theorem dL_law_1180 : decode cL_law 1180 = .ok (.iaload, 1) := dL_b56.1
theorem dL_law_1181 : decode cL_law 1181 = .ok (.invokevirtual 162, 3) := dL_b56.2.1
theorem dL_law_1184 : decode cL_law 1184 = .ok (.pop, 1) := dL_b56.2.2.1
theorem dL_law_1185 : decode cL_law 1185 = .ok (.aload_n 2, 1) := dL_b56.2.2.2.1
theorem dL_law_1186 : decode cL_law 1186 = .ok (.aload_n 0, 1) := dL_b56.2.2.2.2.1
theorem dL_law_1187 : decode cL_law 1187 = .ok (.iload_n 3, 1) := dL_b56.2.2.2.2.2.1
theorem dL_law_1188 : decode cL_law 1188 = .ok (.iconst 1, 1) := dL_b56.2.2.2.2.2.2.1
theorem dL_law_1189 : decode cL_law 1189 = .ok (.iadd, 1) := dL_b56.2.2.2.2.2.2.2.1
theorem dL_law_1190 : decode cL_law 1190 = .ok (.iaload, 1) := dL_b56.2.2.2.2.2.2.2.2.1
theorem dL_law_1191 : decode cL_law 1191 = .ok (.aload_n 0, 1) := dL_b56.2.2.2.2.2.2.2.2.2.1
theorem dL_law_1192 : decode cL_law 1192 = .ok (.iload_n 3, 1) := dL_b56.2.2.2.2.2.2.2.2.2.2.1
theorem dL_law_1193 : decode cL_law 1193 = .ok (.iconst 2, 1) := dL_b56.2.2.2.2.2.2.2.2.2.2.2
theorem dL_b57 : (decode cL_law 1194 = .ok (.iadd, 1)) ∧ (decode cL_law 1195 = .ok (.iaload, 1)) ∧ (decode cL_law 1196 = .ok (.invokevirtual 165, 3)) ∧ (decode cL_law 1199 = .ok (.pop, 1)) ∧ (decode cL_law 1200 = .ok (.goto 765, 3)) ∧ (decode cL_law 1203 = .ok (.aload_n 1, 1)) ∧ (decode cL_law 1204 = .ok (.invokevirtual 166, 3)) ∧ (decode cL_law 1207 = .ok (.pop, 1)) ∧ (decode cL_law 1208 = .ok (.aload_n 2, 1)) ∧ (decode cL_law 1209 = .ok (.invokevirtual 169, 3)) ∧ (decode cL_law 1212 = .ok (.pop, 1)) ∧ (decode cL_law 1213 = .ok (.goto 752, 3)) := by decide +kernel
theorem dL_law_1194 : decode cL_law 1194 = .ok (.iadd, 1) := dL_b57.1
theorem dL_law_1195 : decode cL_law 1195 = .ok (.iaload, 1) := dL_b57.2.1
theorem dL_law_1196 : decode cL_law 1196 = .ok (.invokevirtual 165, 3) := dL_b57.2.2.1
theorem dL_law_1199 : decode cL_law 1199 = .ok (.pop, 1) := dL_b57.2.2.2.1
theorem dL_law_1200 : decode cL_law 1200 = .ok (.goto 765, 3) := dL_b57.2.2.2.2.1
theorem dL_law_1203 : decode cL_law 1203 = .ok (.aload_n 1, 1) := dL_b57.2.2.2.2.2.1
theorem dL_law_1204 : decode cL_law 1204 = .ok (.invokevirtual 166, 3) := dL_b57.2.2.2.2.2.2.1
theorem dL_law_1207 : decode cL_law 1207 = .ok (.pop, 1) := dL_b57.2.2.2.2.2.2.2.1
theorem dL_law_1208 : decode cL_law 1208 = .ok (.aload_n 2, 1) := dL_b57.2.2.2.2.2.2.2.2.1
theorem dL_law_1209 : decode cL_law 1209 = .ok (.invokevirtual 169, 3) := dL_b57.2.2.2.2.2.2.2.2.2.1
theorem dL_law_1212 : decode cL_law 1212 = .ok (.pop, 1) := dL_b57.2.2.2.2.2.2.2.2.2.2.1
theorem dL_law_1213 : decode cL_law 1213 = .ok (.goto 752, 3) := dL_b57.2.2.2.2.2.2.2.2.2.2.2
theorem dL_b58 : (decode cL_law 1216 = .ok (.aload_n 1, 1)) ∧ (decode cL_law 1217 = .ok (.aload_n 0, 1)) ∧ (decode cL_law 1218 = .ok (.iload_n 3, 1)) ∧ (decode cL_law 1219 = .ok (.iconst 1, 1)) ∧ (decode cL_law 1220 = .ok (.iadd, 1)) ∧ (decode cL_law 1221 = .ok (.iaload, 1)) ∧ (decode cL_law 1222 = .ok (.invokevirtual 170, 3)) ∧ (decode cL_law 1225 = .ok (.pop, 1)) ∧ (decode cL_law 1226 = .ok (.aload_n 2, 1)) ∧ (decode cL_law 1227 = .ok (.aload_n 0, 1)) ∧ (decode cL_law 1228 = .ok (.iload_n 3, 1)) ∧ (decode cL_law 1229 = .ok (.iconst 1, 1)) := by decide +kernel
theorem dL_law_1216 : decode cL_law 1216 = .ok (.aload_n 1, 1) := dL_b58.1
theorem dL_law_1217 : decode cL_law 1217 = .ok (.aload_n 0, 1) := dL_b58.2.1
theorem dL_law_1218 : decode cL_law 1218 = .ok (.iload_n 3, 1) := dL_b58.2.2.1
theorem dL_law_1219 : decode cL_law 1219 = .ok (.iconst 1, 1) := dL_b58.2.2.2.1
theorem dL_law_1220 : decode cL_law 1220 = .ok (.iadd, 1) := dL_b58.2.2.2.2.1
theorem dL_law_1221 : decode cL_law 1221 = .ok (.iaload, 1) := dL_b58.2.2.2.2.2.1
theorem dL_law_1222 : decode cL_law 1222 = .ok (.invokevirtual 170, 3) := dL_b58.2.2.2.2.2.2.1
theorem dL_law_1225 : decode cL_law 1225 = .ok (.pop, 1) := dL_b58.2.2.2.2.2.2.2.1
theorem dL_law_1226 : decode cL_law 1226 = .ok (.aload_n 2, 1) := dL_b58.2.2.2.2.2.2.2.2.1
theorem dL_law_1227 : decode cL_law 1227 = .ok (.aload_n 0, 1) := dL_b58.2.2.2.2.2.2.2.2.2.1
theorem dL_law_1228 : decode cL_law 1228 = .ok (.iload_n 3, 1) := dL_b58.2.2.2.2.2.2.2.2.2.2.1
theorem dL_law_1229 : decode cL_law 1229 = .ok (.iconst 1, 1) := dL_b58.2.2.2.2.2.2.2.2.2.2.2
theorem dL_b59 : (decode cL_law 1230 = .ok (.iadd, 1)) ∧ (decode cL_law 1231 = .ok (.iaload, 1)) ∧ (decode cL_law 1232 = .ok (.invokevirtual 173, 3)) ∧ (decode cL_law 1235 = .ok (.pop, 1)) ∧ (decode cL_law 1236 = .ok (.goto 729, 3)) ∧ (decode cL_law 1239 = .ok (.aload_n 1, 1)) ∧ (decode cL_law 1240 = .ok (.aload_n 0, 1)) ∧ (decode cL_law 1241 = .ok (.iload_n 3, 1)) ∧ (decode cL_law 1242 = .ok (.iconst 1, 1)) ∧ (decode cL_law 1243 = .ok (.iadd, 1)) ∧ (decode cL_law 1244 = .ok (.iaload, 1)) ∧ (decode cL_law 1245 = .ok (.invokevirtual 174, 3)) := by decide +kernel
theorem dL_law_1230 : decode cL_law 1230 = .ok (.iadd, 1) := dL_b59.1
theorem dL_law_1231 : decode cL_law 1231 = .ok (.iaload, 1) := dL_b59.2.1
theorem dL_law_1232 : decode cL_law 1232 = .ok (.invokevirtual 173, 3) := dL_b59.2.2.1
theorem dL_law_1235 : decode cL_law 1235 = .ok (.pop, 1) := dL_b59.2.2.2.1
theorem dL_law_1236 : decode cL_law 1236 = .ok (.goto 729, 3) := dL_b59.2.2.2.2.1
theorem dL_law_1239 : decode cL_law 1239 = .ok (.aload_n 1, 1) := dL_b59.2.2.2.2.2.1
theorem dL_law_1240 : decode cL_law 1240 = .ok (.aload_n 0, 1) := dL_b59.2.2.2.2.2.2.1
theorem dL_law_1241 : decode cL_law 1241 = .ok (.iload_n 3, 1) := dL_b59.2.2.2.2.2.2.2.1
theorem dL_law_1242 : decode cL_law 1242 = .ok (.iconst 1, 1) := dL_b59.2.2.2.2.2.2.2.2.1
theorem dL_law_1243 : decode cL_law 1243 = .ok (.iadd, 1) := dL_b59.2.2.2.2.2.2.2.2.2.1
theorem dL_law_1244 : decode cL_law 1244 = .ok (.iaload, 1) := dL_b59.2.2.2.2.2.2.2.2.2.2.1
theorem dL_law_1245 : decode cL_law 1245 = .ok (.invokevirtual 174, 3) := dL_b59.2.2.2.2.2.2.2.2.2.2.2
theorem dL_b60 : (decode cL_law 1248 = .ok (.pop, 1)) ∧ (decode cL_law 1249 = .ok (.aload_n 2, 1)) ∧ (decode cL_law 1250 = .ok (.aload_n 0, 1)) ∧ (decode cL_law 1251 = .ok (.iload_n 3, 1)) ∧ (decode cL_law 1252 = .ok (.iconst 1, 1)) ∧ (decode cL_law 1253 = .ok (.iadd, 1)) ∧ (decode cL_law 1254 = .ok (.iaload, 1)) ∧ (decode cL_law 1255 = .ok (.invokevirtual 177, 3)) ∧ (decode cL_law 1258 = .ok (.pop, 1)) ∧ (decode cL_law 1259 = .ok (.goto 706, 3)) ∧ (decode cL_law 1262 = .ok (.aload_n 1, 1)) ∧ (decode cL_law 1263 = .ok (.aload_n 0, 1)) := by decide +kernel
theorem dL_law_1248 : decode cL_law 1248 = .ok (.pop, 1) := dL_b60.1
theorem dL_law_1249 : decode cL_law 1249 = .ok (.aload_n 2, 1) := dL_b60.2.1
theorem dL_law_1250 : decode cL_law 1250 = .ok (.aload_n 0, 1) := dL_b60.2.2.1
theorem dL_law_1251 : decode cL_law 1251 = .ok (.iload_n 3, 1) := dL_b60.2.2.2.1
theorem dL_law_1252 : decode cL_law 1252 = .ok (.iconst 1, 1) := dL_b60.2.2.2.2.1
theorem dL_law_1253 : decode cL_law 1253 = .ok (.iadd, 1) := dL_b60.2.2.2.2.2.1
theorem dL_law_1254 : decode cL_law 1254 = .ok (.iaload, 1) := dL_b60.2.2.2.2.2.2.1
theorem dL_law_1255 : decode cL_law 1255 = .ok (.invokevirtual 177, 3) := dL_b60.2.2.2.2.2.2.2.1
theorem dL_law_1258 : decode cL_law 1258 = .ok (.pop, 1) := dL_b60.2.2.2.2.2.2.2.2.1
theorem dL_law_1259 : decode cL_law 1259 = .ok (.goto 706, 3) := dL_b60.2.2.2.2.2.2.2.2.2.1
theorem dL_law_1262 : decode cL_law 1262 = .ok (.aload_n 1, 1) := dL_b60.2.2.2.2.2.2.2.2.2.2.1
theorem dL_law_1263 : decode cL_law 1263 = .ok (.aload_n 0, 1) := dL_b60.2.2.2.2.2.2.2.2.2.2.2
theorem dL_b61 : (decode cL_law 1264 = .ok (.iload_n 3, 1)) ∧ (decode cL_law 1265 = .ok (.iconst 1, 1)) ∧ (decode cL_law 1266 = .ok (.iadd, 1)) ∧ (decode cL_law 1267 = .ok (.iaload, 1)) ∧ (decode cL_law 1268 = .ok (.aload_n 0, 1)) ∧ (decode cL_law 1269 = .ok (.iload_n 3, 1)) ∧ (decode cL_law 1270 = .ok (.iconst 2, 1)) ∧ (decode cL_law 1271 = .ok (.iadd, 1)) ∧ (decode cL_law 1272 = .ok (.iaload, 1)) ∧ (decode cL_law 1273 = .ok (.invokevirtual 178, 3)) ∧ (decode cL_law 1276 = .ok (.pop, 1)) ∧ (decode cL_law 1277 = .ok (.aload_n 2, 1)) := by decide +kernel
theorem dL_law_1264 : decode cL_law 1264 = .ok (.iload_n 3, 1) := dL_b61.1
theorem dL_law_1265 : decode cL_law 1265 = .ok (.iconst 1, 1) := dL_b61.2.1
theorem dL_law_1266 : decode cL_law 1266 = .ok (.iadd, 1) := dL_b61.2.2.1
theorem dL_law_1267 : decode cL_law 1267 = .ok (.iaload, 1) := dL_b61.2.2.2.1
theorem dL_law_1268 : decode cL_law 1268 = .ok (.aload_n 0, 1) := dL_b61.2.2.2.2.1
theorem dL_law_1269 : decode cL_law 1269 = .ok (.iload_n 3, 1) := dL_b61.2.2.2.2.2.1
theorem dL_law_1270 : decode cL_law 1270 = .ok (.iconst 2, 1) := dL_b61.2.2.2.2.2.2.1
theorem dL_law_1271 : decode cL_law 1271 = .ok (.iadd, 1) := dL_b61.2.2.2.2.2.2.2.1
theorem dL_law_1272 : decode cL_law 1272 = .ok (.iaload, 1) := dL_b61.2.2.2.2.2.2.2.2.1
theorem dL_law_1273 : decode cL_law 1273 = .ok (.invokevirtual 178, 3) := dL_b61.2.2.2.2.2.2.2.2.2.1
theorem dL_law_1276 : decode cL_law 1276 = .ok (.pop, 1) := dL_b61.2.2.2.2.2.2.2.2.2.2.1
theorem dL_law_1277 : decode cL_law 1277 = .ok (.aload_n 2, 1) := dL_b61.2.2.2.2.2.2.2.2.2.2.2
theorem dL_b62 : (decode cL_law 1278 = .ok (.aload_n 0, 1)) ∧ (decode cL_law 1279 = .ok (.iload_n 3, 1)) ∧ (decode cL_law 1280 = .ok (.iconst 1, 1)) ∧ (decode cL_law 1281 = .ok (.iadd, 1)) ∧ (decode cL_law 1282 = .ok (.iaload, 1)) ∧ (decode cL_law 1283 = .ok (.aload_n 0, 1)) ∧ (decode cL_law 1284 = .ok (.iload_n 3, 1)) ∧ (decode cL_law 1285 = .ok (.iconst 2, 1)) ∧ (decode cL_law 1286 = .ok (.iadd, 1)) ∧ (decode cL_law 1287 = .ok (.iaload, 1)) ∧ (decode cL_law 1288 = .ok (.invokevirtual 181, 3)) ∧ (decode cL_law 1291 = .ok (.pop, 1)) := by decide +kernel
theorem dL_law_1278 : decode cL_law 1278 = .ok (.aload_n 0, 1) := dL_b62.1
theorem dL_law_1279 : decode cL_law 1279 = .ok (.iload_n 3, 1) := dL_b62.2.1
theorem dL_law_1280 : decode cL_law 1280 = .ok (.iconst 1, 1) := dL_b62.2.2.1
theorem dL_law_1281 : decode cL_law 1281 = .ok (.iadd, 1) := dL_b62.2.2.2.1
theorem dL_law_1282 : decode cL_law 1282 = .ok (.iaload, 1) := dL_b62.2.2.2.2.1
theorem dL_law_1283 : decode cL_law 1283 = .ok (.aload_n 0, 1) := dL_b62.2.2.2.2.2.1
theorem dL_law_1284 : decode cL_law 1284 = .ok (.iload_n 3, 1) := dL_b62.2.2.2.2.2.2.1
theorem dL_law_1285 : decode cL_law 1285 = .ok (.iconst 2, 1) := dL_b62.2.2.2.2.2.2.2.1
theorem dL_law_1286 : decode cL_law 1286 = .ok (.iadd, 1) := dL_b62.2.2.2.2.2.2.2.2.1
theorem dL_law_1287 : decode cL_law 1287 = .ok (.iaload, 1) := dL_b62.2.2.2.2.2.2.2.2.2.1
theorem dL_law_1288 : decode cL_law 1288 = .ok (.invokevirtual 181, 3) := dL_b62.2.2.2.2.2.2.2.2.2.2.1
theorem dL_law_1291 : decode cL_law 1291 = .ok (.pop, 1) := dL_b62.2.2.2.2.2.2.2.2.2.2.2
theorem dL_b63 : (decode cL_law 1292 = .ok (.goto 673, 3)) ∧ (decode cL_law 1295 = .ok (.aload_n 1, 1)) ∧ (decode cL_law 1296 = .ok (.aload_n 0, 1)) ∧ (decode cL_law 1297 = .ok (.iload_n 3, 1)) ∧ (decode cL_law 1298 = .ok (.iconst 1, 1)) ∧ (decode cL_law 1299 = .ok (.iadd, 1)) ∧ (decode cL_law 1300 = .ok (.iaload, 1)) ∧ (decode cL_law 1301 = .ok (.aload_n 0, 1)) ∧ (decode cL_law 1302 = .ok (.iload_n 3, 1)) ∧ (decode cL_law 1303 = .ok (.iconst 2, 1)) ∧ (decode cL_law 1304 = .ok (.iadd, 1)) ∧ (decode cL_law 1305 = .ok (.iaload, 1)) := by decide +kernel
theorem dL_law_1292 : decode cL_law 1292 = .ok (.goto 673, 3) := dL_b63.1
theorem dL_law_1295 : decode cL_law 1295 = .ok (.aload_n 1, 1) := dL_b63.2.1
theorem dL_law_1296 : decode cL_law 1296 = .ok (.aload_n 0, 1) := dL_b63.2.2.1
theorem dL_law_1297 : decode cL_law 1297 = .ok (.iload_n 3, 1) := dL_b63.2.2.2.1
theorem dL_law_1298 : decode cL_law 1298 = .ok (.iconst 1, 1) := dL_b63.2.2.2.2.1
theorem dL_law_1299 : decode cL_law 1299 = .ok (.iadd, 1) := dL_b63.2.2.2.2.2.1
theorem dL_law_1300 : decode cL_law 1300 = .ok (.iaload, 1) := dL_b63.2.2.2.2.2.2.1
theorem dL_law_1301 : decode cL_law 1301 = .ok (.aload_n 0, 1) := dL_b63.2.2.2.2.2.2.2.1
theorem dL_law_1302 : decode cL_law 1302 = .ok (.iload_n 3, 1) := dL_b63.2.2.2.2.2.2.2.2.1
theorem dL_law_1303 : decode cL_law 1303 = .ok (.iconst 2, 1) := dL_b63.2.2.2.2.2.2.2.2.2.1
theorem dL_law_1304 : decode cL_law 1304 = .ok (.iadd, 1) := dL_b63.2.2.2.2.2.2.2.2.2.2.1
theorem dL_law_1305 : decode cL_law 1305 = .ok (.iaload, 1) := dL_b63.2.2.2.2.2.2.2.2.2.2.2
theorem dL_b64 : (decode cL_law 1306 = .ok (.aload_n 0, 1)) ∧ (decode cL_law 1307 = .ok (.iload_n 3, 1)) ∧ (decode cL_law 1308 = .ok (.iconst 3, 1)) ∧ (decode cL_law 1309 = .ok (.iadd, 1)) ∧ (decode cL_law 1310 = .ok (.iaload, 1)) ∧ (decode cL_law 1311 = .ok (.invokevirtual 182, 3)) ∧ (decode cL_law 1314 = .ok (.pop, 1)) ∧ (decode cL_law 1315 = .ok (.aload_n 2, 1)) ∧ (decode cL_law 1316 = .ok (.aload_n 0, 1)) ∧ (decode cL_law 1317 = .ok (.iload_n 3, 1)) ∧ (decode cL_law 1318 = .ok (.iconst 1, 1)) ∧ (decode cL_law 1319 = .ok (.iadd, 1)) := by decide +kernel
theorem dL_law_1306 : decode cL_law 1306 = .ok (.aload_n 0, 1) := dL_b64.1
theorem dL_law_1307 : decode cL_law 1307 = .ok (.iload_n 3, 1) := dL_b64.2.1
theorem dL_law_1308 : decode cL_law 1308 = .ok (.iconst 3, 1) := dL_b64.2.2.1
theorem dL_law_1309 : decode cL_law 1309 = .ok (.iadd, 1) := dL_b64.2.2.2.1
theorem dL_law_1310 : decode cL_law 1310 = .ok (.iaload, 1) := dL_b64.2.2.2.2.1
theorem dL_law_1311 : decode cL_law 1311 = .ok (.invokevirtual 182, 3) := dL_b64.2.2.2.2.2.1
theorem dL_law_1314 : decode cL_law 1314 = .ok (.pop, 1) := dL_b64.2.2.2.2.2.2.1
theorem dL_law_1315 : decode cL_law 1315 = .ok (.aload_n 2, 1) := dL_b64.2.2.2.2.2.2.2.1
theorem dL_law_1316 : decode cL_law 1316 = .ok (.aload_n 0, 1) := dL_b64.2.2.2.2.2.2.2.2.1
theorem dL_law_1317 : decode cL_law 1317 = .ok (.iload_n 3, 1) := dL_b64.2.2.2.2.2.2.2.2.2.1
theorem dL_law_1318 : decode cL_law 1318 = .ok (.iconst 1, 1) := dL_b64.2.2.2.2.2.2.2.2.2.2.1
theorem dL_law_1319 : decode cL_law 1319 = .ok (.iadd, 1) := dL_b64.2.2.2.2.2.2.2.2.2.2.2
theorem dL_b65 : (decode cL_law 1320 = .ok (.iaload, 1)) ∧ (decode cL_law 1321 = .ok (.aload_n 0, 1)) ∧ (decode cL_law 1322 = .ok (.iload_n 3, 1)) ∧ (decode cL_law 1323 = .ok (.iconst 2, 1)) ∧ (decode cL_law 1324 = .ok (.iadd, 1)) ∧ (decode cL_law 1325 = .ok (.iaload, 1)) ∧ (decode cL_law 1326 = .ok (.aload_n 0, 1)) ∧ (decode cL_law 1327 = .ok (.iload_n 3, 1)) ∧ (decode cL_law 1328 = .ok (.iconst 3, 1)) ∧ (decode cL_law 1329 = .ok (.iadd, 1)) ∧ (decode cL_law 1330 = .ok (.iaload, 1)) ∧ (decode cL_law 1331 = .ok (.invokevirtual 185, 3)) := by decide +kernel
theorem dL_law_1320 : decode cL_law 1320 = .ok (.iaload, 1) := dL_b65.1
theorem dL_law_1321 : decode cL_law 1321 = .ok (.aload_n 0, 1) := dL_b65.2.1
theorem dL_law_1322 : decode cL_law 1322 = .ok (.iload_n 3, 1) := dL_b65.2.2.1
theorem dL_law_1323 : decode cL_law 1323 = .ok (.iconst 2, 1) := dL_b65.2.2.2.1
theorem dL_law_1324 : decode cL_law 1324 = .ok (.iadd, 1) := dL_b65.2.2.2.2.1
theorem dL_law_1325 : decode cL_law 1325 = .ok (.iaload, 1) := dL_b65.2.2.2.2.2.1
theorem dL_law_1326 : decode cL_law 1326 = .ok (.aload_n 0, 1) := dL_b65.2.2.2.2.2.2.1
theorem dL_law_1327 : decode cL_law 1327 = .ok (.iload_n 3, 1) := dL_b65.2.2.2.2.2.2.2.1
theorem dL_law_1328 : decode cL_law 1328 = .ok (.iconst 3, 1) := dL_b65.2.2.2.2.2.2.2.2.1
theorem dL_law_1329 : decode cL_law 1329 = .ok (.iadd, 1) := dL_b65.2.2.2.2.2.2.2.2.2.1
theorem dL_law_1330 : decode cL_law 1330 = .ok (.iaload, 1) := dL_b65.2.2.2.2.2.2.2.2.2.2.1
theorem dL_law_1331 : decode cL_law 1331 = .ok (.invokevirtual 185, 3) := dL_b65.2.2.2.2.2.2.2.2.2.2.2
theorem dL_b66 : (decode cL_law 1334 = .ok (.pop, 1)) ∧ (decode cL_law 1335 = .ok (.goto 630, 3)) ∧ (decode cL_law 1338 = .ok (.aload_n 1, 1)) ∧ (decode cL_law 1339 = .ok (.aload_n 0, 1)) ∧ (decode cL_law 1340 = .ok (.iload_n 3, 1)) ∧ (decode cL_law 1341 = .ok (.iconst 1, 1)) ∧ (decode cL_law 1342 = .ok (.iadd, 1)) ∧ (decode cL_law 1343 = .ok (.iaload, 1)) ∧ (decode cL_law 1344 = .ok (.aload_n 0, 1)) ∧ (decode cL_law 1345 = .ok (.iload_n 3, 1)) ∧ (decode cL_law 1346 = .ok (.iconst 2, 1)) ∧ (decode cL_law 1347 = .ok (.iadd, 1)) := by decide +kernel
theorem dL_law_1334 : decode cL_law 1334 = .ok (.pop, 1) := dL_b66.1
theorem dL_law_1335 : decode cL_law 1335 = .ok (.goto 630, 3) := dL_b66.2.1
theorem dL_law_1338 : decode cL_law 1338 = .ok (.aload_n 1, 1) := dL_b66.2.2.1
theorem dL_law_1339 : decode cL_law 1339 = .ok (.aload_n 0, 1) := dL_b66.2.2.2.1
theorem dL_law_1340 : decode cL_law 1340 = .ok (.iload_n 3, 1) := dL_b66.2.2.2.2.1
theorem dL_law_1341 : decode cL_law 1341 = .ok (.iconst 1, 1) := dL_b66.2.2.2.2.2.1
theorem dL_law_1342 : decode cL_law 1342 = .ok (.iadd, 1) := dL_b66.2.2.2.2.2.2.1
theorem dL_law_1343 : decode cL_law 1343 = .ok (.iaload, 1) := dL_b66.2.2.2.2.2.2.2.1
theorem dL_law_1344 : decode cL_law 1344 = .ok (.aload_n 0, 1) := dL_b66.2.2.2.2.2.2.2.2.1
theorem dL_law_1345 : decode cL_law 1345 = .ok (.iload_n 3, 1) := dL_b66.2.2.2.2.2.2.2.2.2.1
theorem dL_law_1346 : decode cL_law 1346 = .ok (.iconst 2, 1) := dL_b66.2.2.2.2.2.2.2.2.2.2.1
theorem dL_law_1347 : decode cL_law 1347 = .ok (.iadd, 1) := dL_b66.2.2.2.2.2.2.2.2.2.2.2
theorem dL_b67 : (decode cL_law 1348 = .ok (.iaload, 1)) ∧ (decode cL_law 1349 = .ok (.invokevirtual 186, 3)) ∧ (decode cL_law 1352 = .ok (.pop, 1)) ∧ (decode cL_law 1353 = .ok (.aload_n 2, 1)) ∧ (decode cL_law 1354 = .ok (.aload_n 0, 1)) ∧ (decode cL_law 1355 = .ok (.iload_n 3, 1)) ∧ (decode cL_law 1356 = .ok (.iconst 1, 1)) ∧ (decode cL_law 1357 = .ok (.iadd, 1)) ∧ (decode cL_law 1358 = .ok (.iaload, 1)) ∧ (decode cL_law 1359 = .ok (.aload_n 0, 1)) ∧ (decode cL_law 1360 = .ok (.iload_n 3, 1)) ∧ (decode cL_law 1361 = .ok (.iconst 2, 1)) := by decide +kernel
theorem dL_law_1348 : decode cL_law 1348 = .ok (.iaload, 1) := dL_b67.1
theorem dL_law_1349 : decode cL_law 1349 = .ok (.invokevirtual 186, 3) := dL_b67.2.1
theorem dL_law_1352 : decode cL_law 1352 = .ok (.pop, 1) := dL_b67.2.2.1
theorem dL_law_1353 : decode cL_law 1353 = .ok (.aload_n 2, 1) := dL_b67.2.2.2.1
theorem dL_law_1354 : decode cL_law 1354 = .ok (.aload_n 0, 1) := dL_b67.2.2.2.2.1
theorem dL_law_1355 : decode cL_law 1355 = .ok (.iload_n 3, 1) := dL_b67.2.2.2.2.2.1
theorem dL_law_1356 : decode cL_law 1356 = .ok (.iconst 1, 1) := dL_b67.2.2.2.2.2.2.1
theorem dL_law_1357 : decode cL_law 1357 = .ok (.iadd, 1) := dL_b67.2.2.2.2.2.2.2.1
theorem dL_law_1358 : decode cL_law 1358 = .ok (.iaload, 1) := dL_b67.2.2.2.2.2.2.2.2.1
theorem dL_law_1359 : decode cL_law 1359 = .ok (.aload_n 0, 1) := dL_b67.2.2.2.2.2.2.2.2.2.1
theorem dL_law_1360 : decode cL_law 1360 = .ok (.iload_n 3, 1) := dL_b67.2.2.2.2.2.2.2.2.2.2.1
theorem dL_law_1361 : decode cL_law 1361 = .ok (.iconst 2, 1) := dL_b67.2.2.2.2.2.2.2.2.2.2.2
theorem dL_b68 : (decode cL_law 1362 = .ok (.iadd, 1)) ∧ (decode cL_law 1363 = .ok (.iaload, 1)) ∧ (decode cL_law 1364 = .ok (.invokevirtual 189, 3)) ∧ (decode cL_law 1367 = .ok (.pop, 1)) ∧ (decode cL_law 1368 = .ok (.goto 597, 3)) ∧ (decode cL_law 1371 = .ok (.aload_n 1, 1)) ∧ (decode cL_law 1372 = .ok (.invokevirtual 190, 3)) ∧ (decode cL_law 1375 = .ok (.pop, 1)) ∧ (decode cL_law 1376 = .ok (.aload_n 2, 1)) ∧ (decode cL_law 1377 = .ok (.invokevirtual 193, 3)) ∧ (decode cL_law 1380 = .ok (.pop, 1)) ∧ (decode cL_law 1381 = .ok (.goto 584, 3)) := by decide +kernel
theorem dL_law_1362 : decode cL_law 1362 = .ok (.iadd, 1) := dL_b68.1
theorem dL_law_1363 : decode cL_law 1363 = .ok (.iaload, 1) := dL_b68.2.1
theorem dL_law_1364 : decode cL_law 1364 = .ok (.invokevirtual 189, 3) := dL_b68.2.2.1
theorem dL_law_1367 : decode cL_law 1367 = .ok (.pop, 1) := dL_b68.2.2.2.1
theorem dL_law_1368 : decode cL_law 1368 = .ok (.goto 597, 3) := dL_b68.2.2.2.2.1
theorem dL_law_1371 : decode cL_law 1371 = .ok (.aload_n 1, 1) := dL_b68.2.2.2.2.2.1
theorem dL_law_1372 : decode cL_law 1372 = .ok (.invokevirtual 190, 3) := dL_b68.2.2.2.2.2.2.1
theorem dL_law_1375 : decode cL_law 1375 = .ok (.pop, 1) := dL_b68.2.2.2.2.2.2.2.1
theorem dL_law_1376 : decode cL_law 1376 = .ok (.aload_n 2, 1) := dL_b68.2.2.2.2.2.2.2.2.1
theorem dL_law_1377 : decode cL_law 1377 = .ok (.invokevirtual 193, 3) := dL_b68.2.2.2.2.2.2.2.2.2.1
theorem dL_law_1380 : decode cL_law 1380 = .ok (.pop, 1) := dL_b68.2.2.2.2.2.2.2.2.2.2.1
theorem dL_law_1381 : decode cL_law 1381 = .ok (.goto 584, 3) := dL_b68.2.2.2.2.2.2.2.2.2.2.2
theorem dL_b69 : (decode cL_law 1384 = .ok (.aload_n 1, 1)) ∧ (decode cL_law 1385 = .ok (.aload_n 0, 1)) ∧ (decode cL_law 1386 = .ok (.iload_n 3, 1)) ∧ (decode cL_law 1387 = .ok (.iconst 1, 1)) ∧ (decode cL_law 1388 = .ok (.iadd, 1)) ∧ (decode cL_law 1389 = .ok (.iaload, 1)) ∧ (decode cL_law 1390 = .ok (.invokevirtual 194, 3)) ∧ (decode cL_law 1393 = .ok (.pop, 1)) ∧ (decode cL_law 1394 = .ok (.aload_n 2, 1)) ∧ (decode cL_law 1395 = .ok (.aload_n 0, 1)) ∧ (decode cL_law 1396 = .ok (.iload_n 3, 1)) ∧ (decode cL_law 1397 = .ok (.iconst 1, 1)) := by decide +kernel
theorem dL_law_1384 : decode cL_law 1384 = .ok (.aload_n 1, 1) := dL_b69.1
theorem dL_law_1385 : decode cL_law 1385 = .ok (.aload_n 0, 1) := dL_b69.2.1
theorem dL_law_1386 : decode cL_law 1386 = .ok (.iload_n 3, 1) := dL_b69.2.2.1
theorem dL_law_1387 : decode cL_law 1387 = .ok (.iconst 1, 1) := dL_b69.2.2.2.1
theorem dL_law_1388 : decode cL_law 1388 = .ok (.iadd, 1) := dL_b69.2.2.2.2.1
theorem dL_law_1389 : decode cL_law 1389 = .ok (.iaload, 1) := dL_b69.2.2.2.2.2.1
theorem dL_law_1390 : decode cL_law 1390 = .ok (.invokevirtual 194, 3) := dL_b69.2.2.2.2.2.2.1
theorem dL_law_1393 : decode cL_law 1393 = .ok (.pop, 1) := dL_b69.2.2.2.2.2.2.2.1
theorem dL_law_1394 : decode cL_law 1394 = .ok (.aload_n 2, 1) := dL_b69.2.2.2.2.2.2.2.2.1
theorem dL_law_1395 : decode cL_law 1395 = .ok (.aload_n 0, 1) := dL_b69.2.2.2.2.2.2.2.2.2.1
theorem dL_law_1396 : decode cL_law 1396 = .ok (.iload_n 3, 1) := dL_b69.2.2.2.2.2.2.2.2.2.2.1
theorem dL_law_1397 : decode cL_law 1397 = .ok (.iconst 1, 1) := dL_b69.2.2.2.2.2.2.2.2.2.2.2
theorem dL_b70 : (decode cL_law 1398 = .ok (.iadd, 1)) ∧ (decode cL_law 1399 = .ok (.iaload, 1)) ∧ (decode cL_law 1400 = .ok (.invokevirtual 197, 3)) ∧ (decode cL_law 1403 = .ok (.pop, 1)) ∧ (decode cL_law 1404 = .ok (.goto 561, 3)) ∧ (decode cL_law 1407 = .ok (.aload_n 1, 1)) ∧ (decode cL_law 1408 = .ok (.aload_n 0, 1)) ∧ (decode cL_law 1409 = .ok (.iload_n 3, 1)) ∧ (decode cL_law 1410 = .ok (.iconst 1, 1)) ∧ (decode cL_law 1411 = .ok (.iadd, 1)) ∧ (decode cL_law 1412 = .ok (.iaload, 1)) ∧ (decode cL_law 1413 = .ok (.invokevirtual 198, 3)) := by decide +kernel
theorem dL_law_1398 : decode cL_law 1398 = .ok (.iadd, 1) := dL_b70.1
theorem dL_law_1399 : decode cL_law 1399 = .ok (.iaload, 1) := dL_b70.2.1
theorem dL_law_1400 : decode cL_law 1400 = .ok (.invokevirtual 197, 3) := dL_b70.2.2.1
theorem dL_law_1403 : decode cL_law 1403 = .ok (.pop, 1) := dL_b70.2.2.2.1
theorem dL_law_1404 : decode cL_law 1404 = .ok (.goto 561, 3) := dL_b70.2.2.2.2.1
theorem dL_law_1407 : decode cL_law 1407 = .ok (.aload_n 1, 1) := dL_b70.2.2.2.2.2.1
theorem dL_law_1408 : decode cL_law 1408 = .ok (.aload_n 0, 1) := dL_b70.2.2.2.2.2.2.1
theorem dL_law_1409 : decode cL_law 1409 = .ok (.iload_n 3, 1) := dL_b70.2.2.2.2.2.2.2.1
theorem dL_law_1410 : decode cL_law 1410 = .ok (.iconst 1, 1) := dL_b70.2.2.2.2.2.2.2.2.1
theorem dL_law_1411 : decode cL_law 1411 = .ok (.iadd, 1) := dL_b70.2.2.2.2.2.2.2.2.2.1
theorem dL_law_1412 : decode cL_law 1412 = .ok (.iaload, 1) := dL_b70.2.2.2.2.2.2.2.2.2.2.1
theorem dL_law_1413 : decode cL_law 1413 = .ok (.invokevirtual 198, 3) := dL_b70.2.2.2.2.2.2.2.2.2.2.2
theorem dL_b71 : (decode cL_law 1416 = .ok (.pop, 1)) ∧ (decode cL_law 1417 = .ok (.aload_n 2, 1)) ∧ (decode cL_law 1418 = .ok (.aload_n 0, 1)) ∧ (decode cL_law 1419 = .ok (.iload_n 3, 1)) ∧ (decode cL_law 1420 = .ok (.iconst 1, 1)) ∧ (decode cL_law 1421 = .ok (.iadd, 1)) ∧ (decode cL_law 1422 = .ok (.iaload, 1)) ∧ (decode cL_law 1423 = .ok (.invokevirtual 201, 3)) ∧ (decode cL_law 1426 = .ok (.pop, 1)) ∧ (decode cL_law 1427 = .ok (.goto 538, 3)) ∧ (decode cL_law 1430 = .ok (.aload_n 1, 1)) ∧ (decode cL_law 1431 = .ok (.aload_n 0, 1)) := by decide +kernel
theorem dL_law_1416 : decode cL_law 1416 = .ok (.pop, 1) := dL_b71.1
theorem dL_law_1417 : decode cL_law 1417 = .ok (.aload_n 2, 1) := dL_b71.2.1
theorem dL_law_1418 : decode cL_law 1418 = .ok (.aload_n 0, 1) := dL_b71.2.2.1
theorem dL_law_1419 : decode cL_law 1419 = .ok (.iload_n 3, 1) := dL_b71.2.2.2.1
theorem dL_law_1420 : decode cL_law 1420 = .ok (.iconst 1, 1) := dL_b71.2.2.2.2.1
theorem dL_law_1421 : decode cL_law 1421 = .ok (.iadd, 1) := dL_b71.2.2.2.2.2.1
theorem dL_law_1422 : decode cL_law 1422 = .ok (.iaload, 1) := dL_b71.2.2.2.2.2.2.1
theorem dL_law_1423 : decode cL_law 1423 = .ok (.invokevirtual 201, 3) := dL_b71.2.2.2.2.2.2.2.1
theorem dL_law_1426 : decode cL_law 1426 = .ok (.pop, 1) := dL_b71.2.2.2.2.2.2.2.2.1
theorem dL_law_1427 : decode cL_law 1427 = .ok (.goto 538, 3) := dL_b71.2.2.2.2.2.2.2.2.2.1
theorem dL_law_1430 : decode cL_law 1430 = .ok (.aload_n 1, 1) := dL_b71.2.2.2.2.2.2.2.2.2.2.1
theorem dL_law_1431 : decode cL_law 1431 = .ok (.aload_n 0, 1) := dL_b71.2.2.2.2.2.2.2.2.2.2.2
theorem dL_b72 : (decode cL_law 1432 = .ok (.iload_n 3, 1)) ∧ (decode cL_law 1433 = .ok (.iconst 1, 1)) ∧ (decode cL_law 1434 = .ok (.iadd, 1)) ∧ (decode cL_law 1435 = .ok (.iaload, 1)) ∧ (decode cL_law 1436 = .ok (.invokevirtual 202, 3)) ∧ (decode cL_law 1439 = .ok (.pop, 1)) ∧ (decode cL_law 1440 = .ok (.aload_n 2, 1)) ∧ (decode cL_law 1441 = .ok (.aload_n 0, 1)) ∧ (decode cL_law 1442 = .ok (.iload_n 3, 1)) ∧ (decode cL_law 1443 = .ok (.iconst 1, 1)) ∧ (decode cL_law 1444 = .ok (.iadd, 1)) ∧ (decode cL_law 1445 = .ok (.iaload, 1)) := by decide +kernel
theorem dL_law_1432 : decode cL_law 1432 = .ok (.iload_n 3, 1) := dL_b72.1
theorem dL_law_1433 : decode cL_law 1433 = .ok (.iconst 1, 1) := dL_b72.2.1
theorem dL_law_1434 : decode cL_law 1434 = .ok (.iadd, 1) := dL_b72.2.2.1
theorem dL_law_1435 : decode cL_law 1435 = .ok (.iaload, 1) := dL_b72.2.2.2.1
theorem dL_law_1436 : decode cL_law 1436 = .ok (.invokevirtual 202, 3) := dL_b72.2.2.2.2.1
theorem dL_law_1439 : decode cL_law 1439 = .ok (.pop, 1) := dL_b72.2.2.2.2.2.1
theorem dL_law_1440 : decode cL_law 1440 = .ok (.aload_n 2, 1) := dL_b72.2.2.2.2.2.2.1
theorem dL_law_1441 : decode cL_law 1441 = .ok (.aload_n 0, 1) := dL_b72.2.2.2.2.2.2.2.1
theorem dL_law_1442 : decode cL_law 1442 = .ok (.iload_n 3, 1) := dL_b72.2.2.2.2.2.2.2.2.1
theorem dL_law_1443 : decode cL_law 1443 = .ok (.iconst 1, 1) := dL_b72.2.2.2.2.2.2.2.2.2.1
theorem dL_law_1444 : decode cL_law 1444 = .ok (.iadd, 1) := dL_b72.2.2.2.2.2.2.2.2.2.2.1
theorem dL_law_1445 : decode cL_law 1445 = .ok (.iaload, 1) := dL_b72.2.2.2.2.2.2.2.2.2.2.2
theorem dL_b73 : (decode cL_law 1446 = .ok (.invokevirtual 205, 3)) ∧ (decode cL_law 1449 = .ok (.pop, 1)) ∧ (decode cL_law 1450 = .ok (.goto 515, 3)) ∧ (decode cL_law 1453 = .ok (.aload_n 1, 1)) ∧ (decode cL_law 1454 = .ok (.invokevirtual 206, 3)) ∧ (decode cL_law 1457 = .ok (.pop, 1)) ∧ (decode cL_law 1458 = .ok (.aload_n 2, 1)) ∧ (decode cL_law 1459 = .ok (.invokevirtual 209, 3)) ∧ (decode cL_law 1462 = .ok (.pop, 1)) ∧ (decode cL_law 1463 = .ok (.goto 502, 3)) ∧ (decode cL_law 1466 = .ok (.aload_n 1, 1)) ∧ (decode cL_law 1467 = .ok (.aload_n 0, 1)) := by decide +kernel
theorem dL_law_1446 : decode cL_law 1446 = .ok (.invokevirtual 205, 3) := dL_b73.1
theorem dL_law_1449 : decode cL_law 1449 = .ok (.pop, 1) := dL_b73.2.1
theorem dL_law_1450 : decode cL_law 1450 = .ok (.goto 515, 3) := dL_b73.2.2.1
theorem dL_law_1453 : decode cL_law 1453 = .ok (.aload_n 1, 1) := dL_b73.2.2.2.1
theorem dL_law_1454 : decode cL_law 1454 = .ok (.invokevirtual 206, 3) := dL_b73.2.2.2.2.1
theorem dL_law_1457 : decode cL_law 1457 = .ok (.pop, 1) := dL_b73.2.2.2.2.2.1
theorem dL_law_1458 : decode cL_law 1458 = .ok (.aload_n 2, 1) := dL_b73.2.2.2.2.2.2.1
theorem dL_law_1459 : decode cL_law 1459 = .ok (.invokevirtual 209, 3) := dL_b73.2.2.2.2.2.2.2.1
theorem dL_law_1462 : decode cL_law 1462 = .ok (.pop, 1) := dL_b73.2.2.2.2.2.2.2.2.1
theorem dL_law_1463 : decode cL_law 1463 = .ok (.goto 502, 3) := dL_b73.2.2.2.2.2.2.2.2.2.1
theorem dL_law_1466 : decode cL_law 1466 = .ok (.aload_n 1, 1) := dL_b73.2.2.2.2.2.2.2.2.2.2.1
theorem dL_law_1467 : decode cL_law 1467 = .ok (.aload_n 0, 1) := dL_b73.2.2.2.2.2.2.2.2.2.2.2
