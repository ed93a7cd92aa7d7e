/-! the law, decoded (2) -/
theorem d_Law_law_826 : decode code 826 = .ok (.iload 16, 2) := by decide +kernel
theorem d_Law_law_828 : decode code 828 = .ok (.invokevirtual 62, 3) := by decide +kernel
theorem d_Law_law_831 : decode code 831 = .ok (.iload 17, 2) := by decide +kernel
theorem d_Law_law_833 : decode code 833 = .ok (.if_icmp .eq 5, 3) := by decide +kernel
theorem d_Law_law_836 : decode code 836 = .ok (.iconst 0, 1) := by decide +kernel
theorem d_Law_law_837 : decode code 837 = .ok (.ireturn, 1) := by decide +kernel
theorem d_Law_law_838 : decode code 838 = .ok (.iconst 2, 1) := by decide +kernel
theorem d_Law_law_839 : decode code 839 = .ok (.iload 12, 2) := by decide +kernel
theorem d_Law_law_841 : decode code 841 = .ok (.imul, 1) := by decide +kernel
theorem d_Law_law_842 : decode code 842 = .ok (.iload 17, 2) := by decide +kernel
theorem d_Law_law_844 : decode code 844 = .ok (.iadd, 1) := by decide +kernel
theorem d_Law_law_845 : decode code 845 = .ok (.istore 12, 2) := by decide +kernel
theorem d_Law_law_847 : decode code 847 = .ok (.iload 12, 2) := by decide +kernel
theorem d_Law_law_849 : decode code 849 = .ok (.bipush 15, 2) := by decide +kernel
theorem d_Law_law_851 : decode code 851 = .ok (.if_icmp .le 11, 3) := by decide +kernel
theorem d_Law_law_854 : decode code 854 = .ok (.iload 12, 2) := by decide +kernel
theorem d_Law_law_856 : decode code 856 = .ok (.bipush 19, 2) := by decide +kernel
theorem d_Law_law_858 : decode code 858 = .ok (.ixor, 1) := by decide +kernel
theorem d_Law_law_859 : decode code 859 = .ok (.goto 5, 3) := by decide +kernel
theorem d_Law_law_862 : decode code 862 = .ok (.iload 12, 2) := by decide +kernel
theorem d_Law_law_864 : decode code 864 = .ok (.istore 12, 2) := by decide +kernel
theorem d_Law_law_866 : decode code 866 = .ok (.iinc 16 1, 3) := by decide +kernel
theorem d_Law_law_869 : decode code 869 = .ok (.goto (-108), 3) := by decide +kernel
theorem d_Law_law_872 : decode code 872 = .ok (.iload 12, 2) := by decide +kernel
theorem d_Law_law_874 : decode code 874 = .ok (.ifCond .ne 53, 3) := by decide +kernel
theorem d_Law_law_877 : decode code 877 = .ok (.iload 13, 2) := by decide +kernel
theorem d_Law_law_879 : decode code 879 = .ok (.ifCond .lt 48, 3) := by decide +kernel
theorem d_Law_law_882 : decode code 882 = .ok (.iload 13, 2) := by decide +kernel
theorem d_Law_law_884 : decode code 884 = .ok (.bipush 15, 2) := by decide +kernel
theorem d_Law_law_886 : decode code 886 = .ok (.if_icmp .gt 41, 3) := by decide +kernel
theorem d_Law_law_889 : decode code 889 = .ok (.aload_n 1, 1) := by decide +kernel
theorem d_Law_law_890 : decode code 890 = .ok (.iload 10, 2) := by decide +kernel
theorem d_Law_law_892 : decode code 892 = .ok (.invokevirtual 235, 3) := by decide +kernel
theorem d_Law_law_895 : decode code 895 = .ok (.iload 13, 2) := by decide +kernel
theorem d_Law_law_897 : decode code 897 = .ok (.if_icmp .ne 30, 3) := by decide +kernel
theorem d_Law_law_900 : decode code 900 = .ok (.aload_n 1, 1) := by decide +kernel
theorem d_Law_law_901 : decode code 901 = .ok (.iload 10, 2) := by decide +kernel
theorem d_Law_law_903 : decode code 903 = .ok (.iload 10, 2) := by decide +kernel
theorem d_Law_law_905 : decode code 905 = .ok (.invokevirtual 238, 3) := by decide +kernel
theorem d_Law_law_908 : decode code 908 = .ok (.ifCond .eq 19, 3) := by decide +kernel
theorem d_Law_law_911 : decode code 911 = .ok (.aload_n 1, 1) := by decide +kernel
theorem d_Law_law_912 : decode code 912 = .ok (.iload 10, 2) := by decide +kernel
theorem d_Law_law_914 : decode code 914 = .ok (.iload 10, 2) := by decide +kernel
theorem d_Law_law_916 : decode code 916 = .ok (.invokevirtual 242, 3) := by decide +kernel
theorem d_Law_law_919 : decode code 919 = .ok (.aload 14, 2) := by decide +kernel
theorem d_Law_law_921 : decode code 921 = .ok (.invokevirtual 119, 3) := by decide +kernel
theorem d_Law_law_924 : decode code 924 = .ok (.if_icmp .eq 5, 3) := by decide +kernel
theorem d_Law_law_927 : decode code 927 = .ok (.iconst 0, 1) := by decide +kernel
theorem d_Law_law_928 : decode code 928 = .ok (.ireturn, 1) := by decide +kernel
theorem d_Law_law_929 : decode code 929 = .ok (.iconst 0, 1) := by decide +kernel
theorem d_Law_law_930 : decode code 930 = .ok (.istore 16, 2) := by decide +kernel
theorem d_Law_law_932 : decode code 932 = .ok (.iconst 0, 1) := by decide +kernel
theorem d_Law_law_933 : decode code 933 = .ok (.istore 17, 2) := by decide +kernel
theorem d_Law_law_935 : decode code 935 = .ok (.iload 17, 2) := by decide +kernel
theorem d_Law_law_937 : decode code 937 = .ok (.bipush 8, 2) := by decide +kernel
theorem d_Law_law_939 : decode code 939 = .ok (.if_icmp .ge 25, 3) := by decide +kernel
theorem d_Law_law_942 : decode code 942 = .ok (.iload 16, 2) := by decide +kernel
theorem d_Law_law_944 : decode code 944 = .ok (.aload_n 1, 1) := by decide +kernel
theorem d_Law_law_945 : decode code 945 = .ok (.iload 10, 2) := by decide +kernel
theorem d_Law_law_947 : decode code 947 = .ok (.iload 17, 2) := by decide +kernel
theorem d_Law_law_949 : decode code 949 = .ok (.invokestatic 75, 3) := by decide +kernel
theorem d_Law_law_952 : decode code 952 = .ok (.invokevirtual 245, 3) := by decide +kernel
theorem d_Law_law_955 : decode code 955 = .ok (.iadd, 1) := by decide +kernel
theorem d_Law_law_956 : decode code 956 = .ok (.istore 16, 2) := by decide +kernel
theorem d_Law_law_958 : decode code 958 = .ok (.iinc 17 1, 3) := by decide +kernel
theorem d_Law_law_961 : decode code 961 = .ok (.goto (-26), 3) := by decide +kernel
theorem d_Law_law_964 : decode code 964 = .ok (.iload 16, 2) := by decide +kernel
theorem d_Law_law_966 : decode code 966 = .ok (.aload 14, 2) := by decide +kernel
theorem d_Law_law_968 : decode code 968 = .ok (.invokevirtual 119, 3) := by decide +kernel
theorem d_Law_law_971 : decode code 971 = .ok (.if_icmp .eq 5, 3) := by decide +kernel
theorem d_Law_law_974 : decode code 974 = .ok (.iconst 0, 1) := by decide +kernel
theorem d_Law_law_975 : decode code 975 = .ok (.ireturn, 1) := by decide +kernel
theorem d_Law_law_976 : decode code 976 = .ok (.iload 9, 2) := by decide +kernel
theorem d_Law_law_978 : decode code 978 = .ok (.ifCond .ne 6, 3) := by decide +kernel
theorem d_Law_law_981 : decode code 981 = .ok (.goto 186, 3) := by decide +kernel
theorem d_Law_law_984 : decode code 984 = .ok (.aload_n 1, 1) := by decide +kernel
theorem d_Law_law_985 : decode code 985 = .ok (.iload 9, 2) := by decide +kernel
theorem d_Law_law_987 : decode code 987 = .ok (.iconst 1, 1) := by decide +kernel
theorem d_Law_law_988 : decode code 988 = .ok (.isub, 1) := by decide +kernel
theorem d_Law_law_989 : decode code 989 = .ok (.invokevirtual 55, 3) := by decide +kernel
theorem d_Law_law_992 : decode code 992 = .ok (.istore 17, 2) := by decide +kernel
theorem d_Law_law_994 : decode code 994 = .ok (.aload_n 1, 1) := by decide +kernel
theorem d_Law_law_995 : decode code 995 = .ok (.iload 17, 2) := by decide +kernel
theorem d_Law_law_997 : decode code 997 = .ok (.invokevirtual 230, 3) := by decide +kernel
theorem d_Law_law_1000 : decode code 1000 = .ok (.aload_n 1, 1) := by decide +kernel
theorem d_Law_law_1001 : decode code 1001 = .ok (.iload 10, 2) := by decide +kernel
theorem d_Law_law_1003 : decode code 1003 = .ok (.invokevirtual 230, 3) := by decide +kernel
theorem d_Law_law_1006 : decode code 1006 = .ok (.isub, 1) := by decide +kernel
theorem d_Law_law_1007 : decode code 1007 = .ok (.istore 18, 2) := by decide +kernel
theorem d_Law_law_1009 : decode code 1009 = .ok (.aload_n 1, 1) := by decide +kernel
theorem d_Law_law_1010 : decode code 1010 = .ok (.iload 10, 2) := by decide +kernel
theorem d_Law_law_1012 : decode code 1012 = .ok (.iload 17, 2) := by decide +kernel
theorem d_Law_law_1014 : decode code 1014 = .ok (.invokevirtual 242, 3) := by decide +kernel
theorem d_Law_law_1017 : decode code 1017 = .ok (.istore 19, 2) := by decide +kernel
theorem d_Law_law_1019 : decode code 1019 = .ok (.iload 18, 2) := by decide +kernel
theorem d_Law_law_1021 : decode code 1021 = .ok (.ifCond .lt 84, 3) := by decide +kernel
theorem d_Law_law_1024 : decode code 1024 = .ok (.iload 18, 2) := by decide +kernel
theorem d_Law_law_1026 : decode code 1026 = .ok (.ifCond .ne 10, 3) := by decide +kernel
theorem d_Law_law_1029 : decode code 1029 = .ok (.iload 17, 2) := by decide +kernel
theorem d_Law_law_1031 : decode code 1031 = .ok (.iload 10, 2) := by decide +kernel
theorem d_Law_law_1033 : decode code 1033 = .ok (.if_icmp .gt 72, 3) := by decide +kernel
theorem d_Law_law_1036 : decode code 1036 = .ok (.iload 19, 2) := by decide +kernel
theorem d_Law_law_1038 : decode code 1038 = .ok (.aload_n 1, 1) := by decide +kernel
theorem d_Law_law_1039 : decode code 1039 = .ok (.iload 17, 2) := by decide +kernel
theorem d_Law_law_1041 : decode code 1041 = .ok (.iload 10, 2) := by decide +kernel
theorem d_Law_law_1043 : decode code 1043 = .ok (.invokevirtual 242, 3) := by decide +kernel
theorem d_Law_law_1046 : decode code 1046 = .ok (.if_icmp .ne 59, 3) := by decide +kernel
theorem d_Law_law_1049 : decode code 1049 = .ok (.iload 19, 2) := by decide +kernel
theorem d_Law_law_1051 : decode code 1051 = .ok (.aload 14, 2) := by decide +kernel
theorem d_Law_law_1053 : decode code 1053 = .ok (.invokevirtual 119, 3) := by decide +kernel
theorem d_Law_law_1056 : decode code 1056 = .ok (.aload_n 1, 1) := by decide +kernel
theorem d_Law_law_1057 : decode code 1057 = .ok (.iload 17, 2) := by decide +kernel
theorem d_Law_law_1059 : decode code 1059 = .ok (.invokevirtual 215, 3) := by decide +kernel
theorem d_Law_law_1062 : decode code 1062 = .ok (.invokestatic 249, 3) := by decide +kernel
theorem d_Law_law_1065 : decode code 1065 = .ok (.if_icmp .gt 40, 3) := by decide +kernel
theorem d_Law_law_1068 : decode code 1068 = .ok (.aload_n 1, 1) := by decide +kernel
theorem d_Law_law_1069 : decode code 1069 = .ok (.iload 10, 2) := by decide +kernel
theorem d_Law_law_1071 : decode code 1071 = .ok (.iload 17, 2) := by decide +kernel
theorem d_Law_law_1073 : decode code 1073 = .ok (.invokevirtual 238, 3) := by decide +kernel
theorem d_Law_law_1076 : decode code 1076 = .ok (.iload 19, 2) := by decide +kernel
theorem d_Law_law_1078 : decode code 1078 = .ok (.aload 14, 2) := by decide +kernel
theorem d_Law_law_1080 : decode code 1080 = .ok (.invokevirtual 119, 3) := by decide +kernel
theorem d_Law_law_1083 : decode code 1083 = .ok (.if_icmp .ne 18, 3) := by decide +kernel
theorem d_Law_law_1086 : decode code 1086 = .ok (.iload 19, 2) := by decide +kernel
theorem d_Law_law_1088 : decode code 1088 = .ok (.aload_n 1, 1) := by decide +kernel
theorem d_Law_law_1089 : decode code 1089 = .ok (.iload 17, 2) := by decide +kernel
theorem d_Law_law_1091 : decode code 1091 = .ok (.invokevirtual 215, 3) := by decide +kernel
theorem d_Law_law_1094 : decode code 1094 = .ok (.if_icmp .ne 7, 3) := by decide +kernel
theorem d_Law_law_1097 : decode code 1097 = .ok (.iconst 1, 1) := by decide +kernel
theorem d_Law_law_1098 : decode code 1098 = .ok (.goto 4, 3) := by decide +kernel
theorem d_Law_law_1101 : decode code 1101 = .ok (.iconst 0, 1) := by decide +kernel
theorem d_Law_law_1102 : decode code 1102 = .ok (.if_icmp .eq 5, 3) := by decide +kernel
theorem d_Law_law_1105 : decode code 1105 = .ok (.iconst 0, 1) := by decide +kernel
theorem d_Law_law_1106 : decode code 1106 = .ok (.ireturn, 1) := by decide +kernel
theorem d_Law_law_1107 : decode code 1107 = .ok (.iconst 0, 1) := by decide +kernel
theorem d_Law_law_1108 : decode code 1108 = .ok (.istore 20, 2) := by decide +kernel
theorem d_Law_law_1110 : decode code 1110 = .ok (.iconst 0, 1) := by decide +kernel
theorem d_Law_law_1111 : decode code 1111 = .ok (.istore 21, 2) := by decide +kernel
theorem d_Law_law_1113 : decode code 1113 = .ok (.iload 21, 2) := by decide +kernel
theorem d_Law_law_1115 : decode code 1115 = .ok (.bipush 8, 2) := by decide +kernel
theorem d_Law_law_1117 : decode code 1117 = .ok (.if_icmp .ge 41, 3) := by decide +kernel
theorem d_Law_law_1120 : decode code 1120 = .ok (.iload 20, 2) := by decide +kernel
theorem d_Law_law_1122 : decode code 1122 = .ok (.aload_n 1, 1) := by decide +kernel
theorem d_Law_law_1123 : decode code 1123 = .ok (.iload 10, 2) := by decide +kernel
theorem d_Law_law_1125 : decode code 1125 = .ok (.iload 21, 2) := by decide +kernel
theorem d_Law_law_1127 : decode code 1127 = .ok (.invokestatic 75, 3) := by decide +kernel
theorem d_Law_law_1130 : decode code 1130 = .ok (.invokevirtual 245, 3) := by decide +kernel
theorem d_Law_law_1133 : decode code 1133 = .ok (.aload_n 1, 1) := by decide +kernel
theorem d_Law_law_1134 : decode code 1134 = .ok (.iload 17, 2) := by decide +kernel
theorem d_Law_law_1136 : decode code 1136 = .ok (.iload 21, 2) := by decide +kernel
theorem d_Law_law_1138 : decode code 1138 = .ok (.invokestatic 75, 3) := by decide +kernel
theorem d_Law_law_1141 : decode code 1141 = .ok (.invokevirtual 245, 3) := by decide +kernel
theorem d_Law_law_1144 : decode code 1144 = .ok (.invokestatic 249, 3) := by decide +kernel
theorem d_Law_law_1147 : decode code 1147 = .ok (.invokestatic 172, 3) := by decide +kernel
theorem d_Law_law_1150 : decode code 1150 = .ok (.istore 20, 2) := by decide +kernel
theorem d_Law_law_1152 : decode code 1152 = .ok (.iinc 21 1, 3) := by decide +kernel
theorem d_Law_law_1155 : decode code 1155 = .ok (.goto (-42), 3) := by decide +kernel
theorem d_Law_law_1158 : decode code 1158 = .ok (.iload 19, 2) := by decide +kernel
theorem d_Law_law_1160 : decode code 1160 = .ok (.iload 20, 2) := by decide +kernel
theorem d_Law_law_1162 : decode code 1162 = .ok (.if_icmp .ge 5, 3) := by decide +kernel
theorem d_Law_law_1165 : decode code 1165 = .ok (.iconst 0, 1) := by decide +kernel
theorem d_Law_law_1166 : decode code 1166 = .ok (.ireturn, 1) := by decide +kernel
theorem d_Law_law_1167 : decode code 1167 = .ok (.iinc 9 1, 3) := by decide +kernel
theorem d_Law_law_1170 : decode code 1170 = .ok (.goto (-633), 3) := by decide +kernel
theorem d_Law_law_1173 : decode code 1173 = .ok (.iconst 0, 1) := by decide +kernel
theorem d_Law_law_1174 : decode code 1174 = .ok (.istore 9, 2) := by decide +kernel
theorem d_Law_law_1176 : decode code 1176 = .ok (.aload_n 1, 1) := by decide +kernel
theorem d_Law_law_1177 : decode code 1177 = .ok (.invokevirtual 112, 3) := by decide +kernel
theorem d_Law_law_1180 : decode code 1180 = .ok (.bipush 7, 2) := by decide +kernel
theorem d_Law_law_1182 : decode code 1182 = .ok (.idiv, 1) := by decide +kernel
theorem d_Law_law_1183 : decode code 1183 = .ok (.istore 10, 2) := by decide +kernel
theorem d_Law_law_1185 : decode code 1185 = .ok (.iconst 0, 1) := by decide +kernel
theorem d_Law_law_1186 : decode code 1186 = .ok (.istore 11, 2) := by decide +kernel
theorem d_Law_law_1188 : decode code 1188 = .ok (.iload 11, 2) := by decide +kernel
theorem d_Law_law_1190 : decode code 1190 = .ok (.iload 10, 2) := by decide +kernel
theorem d_Law_law_1192 : decode code 1192 = .ok (.if_icmp .ge 252, 3) := by decide +kernel
theorem d_Law_law_1195 : decode code 1195 = .ok (.aload_n 1, 1) := by decide +kernel
theorem d_Law_law_1196 : decode code 1196 = .ok (.iload 11, 2) := by decide +kernel
theorem d_Law_law_1198 : decode code 1198 = .ok (.invokevirtual 68, 3) := by decide +kernel
theorem d_Law_law_1201 : decode code 1201 = .ok (.istore 12, 2) := by decide +kernel
theorem d_Law_law_1203 : decode code 1203 = .ok (.aload_n 1, 1) := by decide +kernel
theorem d_Law_law_1204 : decode code 1204 = .ok (.iload 11, 2) := by decide +kernel
theorem d_Law_law_1206 : decode code 1206 = .ok (.invokevirtual 252, 3) := by decide +kernel
theorem d_Law_law_1209 : decode code 1209 = .ok (.istore 13, 2) := by decide +kernel
theorem d_Law_law_1211 : decode code 1211 = .ok (.iconst 0, 1) := by decide +kernel
theorem d_Law_law_1212 : decode code 1212 = .ok (.istore 14, 2) := by decide +kernel
theorem d_Law_law_1214 : decode code 1214 = .ok (.iload 13, 2) := by decide +kernel
theorem d_Law_law_1216 : decode code 1216 = .ok (.iconst 3, 1) := by decide +kernel
theorem d_Law_law_1217 : decode code 1217 = .ok (.ishr, 1) := by decide +kernel
theorem d_Law_law_1218 : decode code 1218 = .ok (.iconst 1, 1) := by decide +kernel
theorem d_Law_law_1219 : decode code 1219 = .ok (.iand, 1) := by decide +kernel
theorem d_Law_law_1220 : decode code 1220 = .ok (.istore 15, 2) := by decide +kernel
theorem d_Law_law_1222 : decode code 1222 = .ok (.iload 13, 2) := by decide +kernel
theorem d_Law_law_1224 : decode code 1224 = .ok (.iconst 2, 1) := by decide +kernel
theorem d_Law_law_1225 : decode code 1225 = .ok (.ishr, 1) := by decide +kernel
theorem d_Law_law_1226 : decode code 1226 = .ok (.iconst 1, 1) := by decide +kernel
theorem d_Law_law_1227 : decode code 1227 = .ok (.iand, 1) := by decide +kernel
theorem d_Law_law_1228 : decode code 1228 = .ok (.istore 16, 2) := by decide +kernel
theorem d_Law_law_1230 : decode code 1230 = .ok (.iload 13, 2) := by decide +kernel
theorem d_Law_law_1232 : decode code 1232 = .ok (.iconst 1, 1) := by decide +kernel
theorem d_Law_law_1233 : decode code 1233 = .ok (.ishr, 1) := by decide +kernel
theorem d_Law_law_1234 : decode code 1234 = .ok (.iconst 1, 1) := by decide +kernel
theorem d_Law_law_1235 : decode code 1235 = .ok (.iand, 1) := by decide +kernel
