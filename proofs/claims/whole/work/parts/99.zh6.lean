/-! decode rows of the law -/
theorem dlaw_970 : decode code 970 = .ok (.aload_n 0, 1) := by decide +kernel
theorem dlaw_971 : decode code 971 = .ok (.iload_n 3, 1) := by decide +kernel
theorem dlaw_972 : decode code 972 = .ok (.iconst 1, 1) := by decide +kernel
theorem dlaw_973 : decode code 973 = .ok (.iadd, 1) := by decide +kernel
theorem dlaw_974 : decode code 974 = .ok (.iaload, 1) := by decide +kernel
theorem dlaw_975 : decode code 975 = .ok (.aload_n 0, 1) := by decide +kernel
theorem dlaw_976 : decode code 976 = .ok (.iload_n 3, 1) := by decide +kernel
theorem dlaw_977 : decode code 977 = .ok (.iconst 2, 1) := by decide +kernel
theorem dlaw_978 : decode code 978 = .ok (.iadd, 1) := by decide +kernel
theorem dlaw_979 : decode code 979 = .ok (.iaload, 1) := by decide +kernel
theorem dlaw_980 : decode code 980 = .ok (.aload_n 0, 1) := by decide +kernel
theorem dlaw_981 : decode code 981 = .ok (.iload_n 3, 1) := by decide +kernel
theorem dlaw_982 : decode code 982 = .ok (.iconst 3, 1) := by decide +kernel
theorem dlaw_983 : decode code 983 = .ok (.iadd, 1) := by decide +kernel
theorem dlaw_984 : decode code 984 = .ok (.iaload, 1) := by decide +kernel
theorem dlaw_985 : decode code 985 = .ok (.aload_n 0, 1) := by decide +kernel
theorem dlaw_986 : decode code 986 = .ok (.iload_n 3, 1) := by decide +kernel
theorem dlaw_987 : decode code 987 = .ok (.iconst 4, 1) := by decide +kernel
theorem dlaw_988 : decode code 988 = .ok (.iadd, 1) := by decide +kernel
theorem dlaw_989 : decode code 989 = .ok (.iaload, 1) := by decide +kernel
theorem dlaw_990 : decode code 990 = .ok (.invokevirtual 126, 3) := by decide +kernel
theorem dlaw_993 : decode code 993 = .ok (.aload_n 2, 1) := by decide +kernel
theorem dlaw_994 : decode code 994 = .ok (.aload_n 0, 1) := by decide +kernel
theorem dlaw_995 : decode code 995 = .ok (.iload_n 3, 1) := by decide +kernel
theorem dlaw_996 : decode code 996 = .ok (.iconst 1, 1) := by decide +kernel
theorem dlaw_997 : decode code 997 = .ok (.iadd, 1) := by decide +kernel
theorem dlaw_998 : decode code 998 = .ok (.iaload, 1) := by decide +kernel
theorem dlaw_999 : decode code 999 = .ok (.aload_n 0, 1) := by decide +kernel
theorem dlaw_1000 : decode code 1000 = .ok (.iload_n 3, 1) := by decide +kernel
theorem dlaw_1001 : decode code 1001 = .ok (.iconst 2, 1) := by decide +kernel
theorem dlaw_1002 : decode code 1002 = .ok (.iadd, 1) := by decide +kernel
theorem dlaw_1003 : decode code 1003 = .ok (.iaload, 1) := by decide +kernel
theorem dlaw_1004 : decode code 1004 = .ok (.aload_n 0, 1) := by decide +kernel
theorem dlaw_1005 : decode code 1005 = .ok (.iload_n 3, 1) := by decide +kernel
theorem dlaw_1006 : decode code 1006 = .ok (.iconst 3, 1) := by decide +kernel
theorem dlaw_1007 : decode code 1007 = .ok (.iadd, 1) := by decide +kernel
theorem dlaw_1008 : decode code 1008 = .ok (.iaload, 1) := by decide +kernel
theorem dlaw_1009 : decode code 1009 = .ok (.aload_n 0, 1) := by decide +kernel
theorem dlaw_1010 : decode code 1010 = .ok (.iload_n 3, 1) := by decide +kernel
theorem dlaw_1011 : decode code 1011 = .ok (.iconst 4, 1) := by decide +kernel
theorem dlaw_1012 : decode code 1012 = .ok (.iadd, 1) := by decide +kernel
theorem dlaw_1013 : decode code 1013 = .ok (.iaload, 1) := by decide +kernel
theorem dlaw_1014 : decode code 1014 = .ok (.invokevirtual 129, 3) := by decide +kernel
theorem dlaw_1017 : decode code 1017 = .ok (.if_icmp .eq 113, 3) := by decide +kernel
theorem dlaw_1020 : decode code 1020 = .ok (.iconst 0, 1) := by decide +kernel
theorem dlaw_1021 : decode code 1021 = .ok (.ireturn, 1) := by decide +kernel
theorem dlaw_1022 : decode code 1022 = .ok (.aload_n 1, 1) := by decide +kernel
theorem dlaw_1023 : decode code 1023 = .ok (.aload_n 0, 1) := by decide +kernel
theorem dlaw_1024 : decode code 1024 = .ok (.iload_n 3, 1) := by decide +kernel
theorem dlaw_1025 : decode code 1025 = .ok (.iconst 1, 1) := by decide +kernel
theorem dlaw_1026 : decode code 1026 = .ok (.iadd, 1) := by decide +kernel
theorem dlaw_1027 : decode code 1027 = .ok (.iaload, 1) := by decide +kernel
theorem dlaw_1028 : decode code 1028 = .ok (.aload_n 0, 1) := by decide +kernel
theorem dlaw_1029 : decode code 1029 = .ok (.iload_n 3, 1) := by decide +kernel
theorem dlaw_1030 : decode code 1030 = .ok (.iconst 2, 1) := by decide +kernel
theorem dlaw_1031 : decode code 1031 = .ok (.iadd, 1) := by decide +kernel
theorem dlaw_1032 : decode code 1032 = .ok (.iaload, 1) := by decide +kernel
theorem dlaw_1033 : decode code 1033 = .ok (.invokevirtual 130, 3) := by decide +kernel
theorem dlaw_1036 : decode code 1036 = .ok (.aload_n 2, 1) := by decide +kernel
theorem dlaw_1037 : decode code 1037 = .ok (.aload_n 0, 1) := by decide +kernel
theorem dlaw_1038 : decode code 1038 = .ok (.iload_n 3, 1) := by decide +kernel
theorem dlaw_1039 : decode code 1039 = .ok (.iconst 1, 1) := by decide +kernel
theorem dlaw_1040 : decode code 1040 = .ok (.iadd, 1) := by decide +kernel
theorem dlaw_1041 : decode code 1041 = .ok (.iaload, 1) := by decide +kernel
theorem dlaw_1042 : decode code 1042 = .ok (.aload_n 0, 1) := by decide +kernel
theorem dlaw_1043 : decode code 1043 = .ok (.iload_n 3, 1) := by decide +kernel
theorem dlaw_1044 : decode code 1044 = .ok (.iconst 2, 1) := by decide +kernel
theorem dlaw_1045 : decode code 1045 = .ok (.iadd, 1) := by decide +kernel
theorem dlaw_1046 : decode code 1046 = .ok (.iaload, 1) := by decide +kernel
theorem dlaw_1047 : decode code 1047 = .ok (.invokevirtual 133, 3) := by decide +kernel
theorem dlaw_1050 : decode code 1050 = .ok (.if_icmp .eq 80, 3) := by decide +kernel
theorem dlaw_1053 : decode code 1053 = .ok (.iconst 0, 1) := by decide +kernel
theorem dlaw_1054 : decode code 1054 = .ok (.ireturn, 1) := by decide +kernel
theorem dlaw_1055 : decode code 1055 = .ok (.aload_n 1, 1) := by decide +kernel
theorem dlaw_1056 : decode code 1056 = .ok (.invokevirtual 134, 3) := by decide +kernel
theorem dlaw_1059 : decode code 1059 = .ok (.aload_n 2, 1) := by decide +kernel
theorem dlaw_1060 : decode code 1060 = .ok (.invokevirtual 137, 3) := by decide +kernel
theorem dlaw_1063 : decode code 1063 = .ok (.if_icmp .eq 67, 3) := by decide +kernel
theorem dlaw_1066 : decode code 1066 = .ok (.iconst 0, 1) := by decide +kernel
theorem dlaw_1067 : decode code 1067 = .ok (.ireturn, 1) := by decide +kernel
theorem dlaw_1068 : decode code 1068 = .ok (.aload_n 1, 1) := by decide +kernel
theorem dlaw_1069 : decode code 1069 = .ok (.invokevirtual 138, 3) := by decide +kernel
theorem dlaw_1072 : decode code 1072 = .ok (.aload_n 2, 1) := by decide +kernel
theorem dlaw_1073 : decode code 1073 = .ok (.invokevirtual 141, 3) := by decide +kernel
theorem dlaw_1076 : decode code 1076 = .ok (.if_icmp .eq 54, 3) := by decide +kernel
theorem dlaw_1079 : decode code 1079 = .ok (.iconst 0, 1) := by decide +kernel
theorem dlaw_1080 : decode code 1080 = .ok (.ireturn, 1) := by decide +kernel
theorem dlaw_1081 : decode code 1081 = .ok (.aload_n 1, 1) := by decide +kernel
theorem dlaw_1082 : decode code 1082 = .ok (.invokevirtual 142, 3) := by decide +kernel
theorem dlaw_1085 : decode code 1085 = .ok (.aload_n 2, 1) := by decide +kernel
theorem dlaw_1086 : decode code 1086 = .ok (.invokevirtual 145, 3) := by decide +kernel
theorem dlaw_1089 : decode code 1089 = .ok (.if_icmp .eq 41, 3) := by decide +kernel
theorem dlaw_1092 : decode code 1092 = .ok (.iconst 0, 1) := by decide +kernel
theorem dlaw_1093 : decode code 1093 = .ok (.ireturn, 1) := by decide +kernel
theorem dlaw_1094 : decode code 1094 = .ok (.aload_n 1, 1) := by decide +kernel
theorem dlaw_1095 : decode code 1095 = .ok (.invokevirtual 146, 3) := by decide +kernel
theorem dlaw_1098 : decode code 1098 = .ok (.aload_n 2, 1) := by decide +kernel
theorem dlaw_1099 : decode code 1099 = .ok (.invokevirtual 149, 3) := by decide +kernel
theorem dlaw_1102 : decode code 1102 = .ok (.if_icmp .eq 28, 3) := by decide +kernel
theorem dlaw_1105 : decode code 1105 = .ok (.iconst 0, 1) := by decide +kernel
theorem dlaw_1106 : decode code 1106 = .ok (.ireturn, 1) := by decide +kernel
theorem dlaw_1107 : decode code 1107 = .ok (.aload_n 1, 1) := by decide +kernel
theorem dlaw_1108 : decode code 1108 = .ok (.aload_n 0, 1) := by decide +kernel
theorem dlaw_1109 : decode code 1109 = .ok (.iload_n 3, 1) := by decide +kernel
theorem dlaw_1110 : decode code 1110 = .ok (.iconst 1, 1) := by decide +kernel
theorem dlaw_1111 : decode code 1111 = .ok (.iadd, 1) := by decide +kernel
theorem dlaw_1112 : decode code 1112 = .ok (.iaload, 1) := by decide +kernel
theorem dlaw_1113 : decode code 1113 = .ok (.invokevirtual 150, 3) := by decide +kernel
theorem dlaw_1116 : decode code 1116 = .ok (.aload_n 2, 1) := by decide +kernel
theorem dlaw_1117 : decode code 1117 = .ok (.aload_n 0, 1) := by decide +kernel
theorem dlaw_1118 : decode code 1118 = .ok (.iload_n 3, 1) := by decide +kernel
theorem dlaw_1119 : decode code 1119 = .ok (.iconst 1, 1) := by decide +kernel
theorem dlaw_1120 : decode code 1120 = .ok (.iadd, 1) := by decide +kernel
theorem dlaw_1121 : decode code 1121 = .ok (.iaload, 1) := by decide +kernel
theorem dlaw_1122 : decode code 1122 = .ok (.invokevirtual 153, 3) := by decide +kernel
theorem dlaw_1125 : decode code 1125 = .ok (.if_icmp .eq 5, 3) := by decide +kernel
theorem dlaw_1128 : decode code 1128 = .ok (.iconst 0, 1) := by decide +kernel
theorem dlaw_1129 : decode code 1129 = .ok (.ireturn, 1) := by decide +kernel
theorem dlaw_1130 : decode code 1130 = .ok (.iinc 3 5, 3) := by decide +kernel
theorem dlaw_1133 : decode code 1133 = .ok (.goto (-1115), 3) := by decide +kernel
theorem dlaw_1136 : decode code 1136 = .ok (.iconst 1, 1) := by decide +kernel
theorem dlaw_1137 : decode code 1137 = .ok (.ireturn, 1) := by decide +kernel
