theorem dL_changes_925 : decode cL_changes 925 = .ok (.iload 10, 2) := by decide +kernel
theorem dL_changes_927 : decode cL_changes 927 = .ok (.iload 11, 2) := by decide +kernel
theorem dL_changes_929 : decode cL_changes 929 = .ok (.iload 12, 2) := by decide +kernel
theorem dL_changes_931 : decode cL_changes 931 = .ok (.iconst 0, 1) := by decide +kernel
theorem dL_changes_932 : decode cL_changes 932 = .ok (.invokestatic 85, 3) := by decide +kernel
theorem dL_changes_935 : decode cL_changes 935 = .ok (.istore 13, 2) := by decide +kernel
theorem dL_changes_937 : decode cL_changes 937 = .ok (.iload 10, 2) := by decide +kernel
theorem dL_changes_939 : decode cL_changes 939 = .ok (.ifCond .lt 32, 3) := by decide +kernel
theorem dL_changes_942 : decode cL_changes 942 = .ok (.iload 10, 2) := by decide +kernel
theorem dL_changes_944 : decode cL_changes 944 = .ok (.iconst 3, 1) := by decide +kernel
theorem dL_changes_945 : decode cL_changes 945 = .ok (.if_icmp .gt 26, 3) := by decide +kernel
theorem dL_changes_948 : decode cL_changes 948 = .ok (.iload 11, 2) := by decide +kernel
theorem dL_changes_950 : decode cL_changes 950 = .ok (.ifCond .lt 21, 3) := by decide +kernel
theorem dL_changes_953 : decode cL_changes 953 = .ok (.iload 11, 2) := by decide +kernel
theorem dL_changes_955 : decode cL_changes 955 = .ok (.iconst 3, 1) := by decide +kernel
theorem dL_changes_956 : decode cL_changes 956 = .ok (.if_icmp .gt 15, 3) := by decide +kernel
theorem dL_changes_959 : decode cL_changes 959 = .ok (.iload 12, 2) := by decide +kernel
theorem dL_changes_961 : decode cL_changes 961 = .ok (.iconst (-1), 1) := by decide +kernel
theorem dL_changes_962 : decode cL_changes 962 = .ok (.if_icmp .lt 9, 3) := by decide +kernel
theorem dL_changes_965 : decode cL_changes 965 = .ok (.iload 12, 2) := by decide +kernel
theorem dL_changes_967 : decode cL_changes 967 = .ok (.iconst 3, 1) := by decide +kernel
theorem dL_changes_968 : decode cL_changes 968 = .ok (.if_icmp .le 25, 3) := by decide +kernel
theorem dL_changes_971 : decode cL_changes 971 = .ok (.iload 13, 2) := by decide +kernel
theorem dL_changes_973 : decode cL_changes 973 = .ok (.bipush (-112), 2) := by decide +kernel
theorem dL_changes_975 : decode cL_changes 975 = .ok (.if_icmp .ne 16, 3) := by decide +kernel
theorem dL_changes_978 : decode cL_changes 978 = .ok (.aload_n 0, 1) := by decide +kernel
theorem dL_changes_979 : decode cL_changes 979 = .ok (.invokestatic 88, 3) := by decide +kernel
theorem dL_changes_982 : decode cL_changes 982 = .ok (.lload_n 3, 1) := by decide +kernel
theorem dL_changes_983 : decode cL_changes 983 = .ok (.lcmp, 1) := by decide +kernel
theorem dL_changes_984 : decode cL_changes 984 = .ok (.ifCond .ne 7, 3) := by decide +kernel
theorem dL_changes_987 : decode cL_changes 987 = .ok (.iconst 1, 1) := by decide +kernel
theorem dL_changes_988 : decode cL_changes 988 = .ok (.goto 4, 3) := by decide +kernel
theorem dL_changes_991 : decode cL_changes 991 = .ok (.iconst 0, 1) := by decide +kernel
theorem dL_changes_992 : decode cL_changes 992 = .ok (.ireturn, 1) := by decide +kernel
theorem dL_changes_993 : decode cL_changes 993 = .ok (.iload 13, 2) := by decide +kernel
theorem dL_changes_995 : decode cL_changes 995 = .ok (.iconst (-1), 1) := by decide +kernel
theorem dL_changes_996 : decode cL_changes 996 = .ok (.if_icmp .lt 52, 3) := by decide +kernel
theorem dL_changes_999 : decode cL_changes 999 = .ok (.iload 13, 2) := by decide +kernel
theorem dL_changes_1001 : decode cL_changes 1001 = .ok (.iconst 4, 1) := by decide +kernel
theorem dL_changes_1002 : decode cL_changes 1002 = .ok (.if_icmp .ge 46, 3) := by decide +kernel
theorem dL_changes_1005 : decode cL_changes 1005 = .ok (.aload_n 0, 1) := by decide +kernel
theorem dL_changes_1006 : decode cL_changes 1006 = .ok (.iload 10, 2) := by decide +kernel
theorem dL_changes_1008 : decode cL_changes 1008 = .ok (.iload 11, 2) := by decide +kernel
theorem dL_changes_1010 : decode cL_changes 1010 = .ok (.iload 13, 2) := by decide +kernel
theorem dL_changes_1012 : decode cL_changes 1012 = .ok (.invokevirtual 38, 3) := by decide +kernel
theorem dL_changes_1015 : decode cL_changes 1015 = .ok (.iload 12, 2) := by decide +kernel
theorem dL_changes_1017 : decode cL_changes 1017 = .ok (.if_icmp .ne 31, 3) := by decide +kernel
theorem dL_changes_1020 : decode cL_changes 1020 = .ok (.aload_n 0, 1) := by decide +kernel
theorem dL_changes_1021 : decode cL_changes 1021 = .ok (.invokestatic 88, 3) := by decide +kernel
theorem dL_changes_1024 : decode cL_changes 1024 = .ok (.lload_n 3, 1) := by decide +kernel
theorem dL_changes_1025 : decode cL_changes 1025 = .ok (.lcmp, 1) := by decide +kernel
theorem dL_changes_1026 : decode cL_changes 1026 = .ok (.ifCond .ne 22, 3) := by decide +kernel
theorem dL_changes_1029 : decode cL_changes 1029 = .ok (.aload_n 0, 1) := by decide +kernel
theorem dL_changes_1030 : decode cL_changes 1030 = .ok (.iload 10, 2) := by decide +kernel
theorem dL_changes_1032 : decode cL_changes 1032 = .ok (.iload 11, 2) := by decide +kernel
theorem dL_changes_1034 : decode cL_changes 1034 = .ok (.iload 12, 2) := by decide +kernel
theorem dL_changes_1036 : decode cL_changes 1036 = .ok (.invokevirtual 38, 3) := by decide +kernel
theorem dL_changes_1039 : decode cL_changes 1039 = .ok (.iload 13, 2) := by decide +kernel
theorem dL_changes_1041 : decode cL_changes 1041 = .ok (.if_icmp .ne 7, 3) := by decide +kernel
theorem dL_changes_1044 : decode cL_changes 1044 = .ok (.iconst 1, 1) := by decide +kernel
theorem dL_changes_1045 : decode cL_changes 1045 = .ok (.goto 4, 3) := by decide +kernel
theorem dL_changes_1048 : decode cL_changes 1048 = .ok (.iconst 0, 1) := by decide +kernel
theorem dL_changes_1049 : decode cL_changes 1049 = .ok (.ireturn, 1) := by decide +kernel
theorem dL_changes_1050 : decode cL_changes 1050 = .ok (.iload_n 1, 1) := by decide +kernel
theorem dL_changes_1051 : decode cL_changes 1051 = .ok (.bipush 7, 2) := by decide +kernel
theorem dL_changes_1053 : decode cL_changes 1053 = .ok (.ishr, 1) := by decide +kernel
theorem dL_changes_1054 : decode cL_changes 1054 = .ok (.iconst 4, 1) := by decide +kernel
theorem dL_changes_1055 : decode cL_changes 1055 = .ok (.invokestatic 92, 3) := by decide +kernel
theorem dL_changes_1058 : decode cL_changes 1058 = .ok (.ifCond .le 11, 3) := by decide +kernel
theorem dL_changes_1061 : decode cL_changes 1061 = .ok (.iload_n 2, 1) := by decide +kernel
theorem dL_changes_1062 : decode cL_changes 1062 = .ok (.ifCond .ne 7, 3) := by decide +kernel
theorem dL_changes_1065 : decode cL_changes 1065 = .ok (.iconst (-1), 1) := by decide +kernel
theorem dL_changes_1066 : decode cL_changes 1066 = .ok (.goto 13, 3) := by decide +kernel
theorem dL_changes_1069 : decode cL_changes 1069 = .ok (.aload_n 0, 1) := by decide +kernel
theorem dL_changes_1070 : decode cL_changes 1070 = .ok (.iconst 2, 1) := by decide +kernel
theorem dL_changes_1071 : decode cL_changes 1071 = .ok (.iload 5, 2) := by decide +kernel
theorem dL_changes_1073 : decode cL_changes 1073 = .ok (.iconst 0, 1) := by decide +kernel
theorem dL_changes_1074 : decode cL_changes 1074 = .ok (.iconst 0, 1) := by decide +kernel
theorem dL_changes_1075 : decode cL_changes 1075 = .ok (.iconst 0, 1) := by decide +kernel
theorem dL_changes_1076 : decode cL_changes 1076 = .ok (.invokestatic 85, 3) := by decide +kernel
theorem dL_changes_1079 : decode cL_changes 1079 = .ok (.istore 10, 2) := by decide +kernel
theorem dL_changes_1081 : decode cL_changes 1081 = .ok (.iload 10, 2) := by decide +kernel
theorem dL_changes_1083 : decode cL_changes 1083 = .ok (.iconst (-1), 1) := by decide +kernel
theorem dL_changes_1084 : decode cL_changes 1084 = .ok (.if_icmp .eq 77, 3) := by decide +kernel
theorem dL_changes_1087 : decode cL_changes 1087 = .ok (.iload 6, 2) := by decide +kernel
theorem dL_changes_1089 : decode cL_changes 1089 = .ok (.ifCond .eq 22, 3) := by decide +kernel
theorem dL_changes_1092 : decode cL_changes 1092 = .ok (.iload 10, 2) := by decide +kernel
theorem dL_changes_1094 : decode cL_changes 1094 = .ok (.bipush (-111), 2) := by decide +kernel
theorem dL_changes_1096 : decode cL_changes 1096 = .ok (.if_icmp .ne 69, 3) := by decide +kernel
theorem dL_changes_1099 : decode cL_changes 1099 = .ok (.aload_n 0, 1) := by decide +kernel
theorem dL_changes_1100 : decode cL_changes 1100 = .ok (.invokestatic 88, 3) := by decide +kernel
theorem dL_changes_1103 : decode cL_changes 1103 = .ok (.lload_n 3, 1) := by decide +kernel
theorem dL_changes_1104 : decode cL_changes 1104 = .ok (.lcmp, 1) := by decide +kernel
theorem dL_changes_1105 : decode cL_changes 1105 = .ok (.ifCond .ne 60, 3) := by decide +kernel
theorem dL_changes_1108 : decode cL_changes 1108 = .ok (.goto 53, 3) := by decide +kernel
theorem dL_changes_1111 : decode cL_changes 1111 = .ok (.iload 10, 2) := by decide +kernel
theorem dL_changes_1113 : decode cL_changes 1113 = .ok (.iload 7, 2) := by decide +kernel
theorem dL_changes_1115 : decode cL_changes 1115 = .ok (.iload 8, 2) := by decide +kernel
theorem dL_changes_1117 : decode cL_changes 1117 = .ok (.iadd, 1) := by decide +kernel
theorem dL_changes_1118 : decode cL_changes 1118 = .ok (.if_icmp .ne 47, 3) := by decide +kernel
theorem dL_changes_1121 : decode cL_changes 1121 = .ok (.aload_n 0, 1) := by decide +kernel
theorem dL_changes_1122 : decode cL_changes 1122 = .ok (.iload 5, 2) := by decide +kernel
theorem dL_changes_1124 : decode cL_changes 1124 = .ok (.invokevirtual 42, 3) := by decide +kernel
theorem dL_changes_1127 : decode cL_changes 1127 = .ok (.ifCond .ne 38, 3) := by decide +kernel
theorem dL_changes_1130 : decode cL_changes 1130 = .ok (.aload_n 0, 1) := by decide +kernel
theorem dL_changes_1131 : decode cL_changes 1131 = .ok (.iload 5, 2) := by decide +kernel
theorem dL_changes_1133 : decode cL_changes 1133 = .ok (.invokevirtual 45, 3) := by decide +kernel
theorem dL_changes_1136 : decode cL_changes 1136 = .ok (.ifCond .ne 29, 3) := by decide +kernel
theorem dL_changes_1139 : decode cL_changes 1139 = .ok (.aload_n 0, 1) := by decide +kernel
theorem dL_changes_1140 : decode cL_changes 1140 = .ok (.iload 5, 2) := by decide +kernel
theorem dL_changes_1142 : decode cL_changes 1142 = .ok (.invokevirtual 48, 3) := by decide +kernel
theorem dL_changes_1145 : decode cL_changes 1145 = .ok (.ifCond .ne 20, 3) := by decide +kernel
theorem dL_changes_1148 : decode cL_changes 1148 = .ok (.aload_n 0, 1) := by decide +kernel
theorem dL_changes_1149 : decode cL_changes 1149 = .ok (.iconst 2, 1) := by decide +kernel
theorem dL_changes_1150 : decode cL_changes 1150 = .ok (.iload 5, 2) := by decide +kernel
theorem dL_changes_1152 : decode cL_changes 1152 = .ok (.iconst 0, 1) := by decide +kernel
theorem dL_changes_1153 : decode cL_changes 1153 = .ok (.iconst 0, 1) := by decide +kernel
theorem dL_changes_1154 : decode cL_changes 1154 = .ok (.iconst 0, 1) := by decide +kernel
theorem dL_changes_1155 : decode cL_changes 1155 = .ok (.invokestatic 85, 3) := by decide +kernel
theorem dL_changes_1158 : decode cL_changes 1158 = .ok (.ifCond .ne 7, 3) := by decide +kernel
theorem dL_changes_1161 : decode cL_changes 1161 = .ok (.iconst 1, 1) := by decide +kernel
theorem dL_changes_1162 : decode cL_changes 1162 = .ok (.goto 4, 3) := by decide +kernel
theorem dL_changes_1165 : decode cL_changes 1165 = .ok (.iconst 0, 1) := by decide +kernel
theorem dL_changes_1166 : decode cL_changes 1166 = .ok (.ireturn, 1) := by decide +kernel
