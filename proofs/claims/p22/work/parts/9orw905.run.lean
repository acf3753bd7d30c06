/-! the walk runs: 5 -/
set_option maxRecDepth 100000 in
theorem w_g995 : w_g (nat_lit 995) = true := by decide +kernel
theorem w_r996 : w_rg 996 := w_rg_s (n := 995) w_r995 w_g995
set_option maxRecDepth 100000 in
theorem w_g996 : w_g (nat_lit 996) = true := by decide +kernel
theorem w_r997 : w_rg 997 := w_rg_s (n := 996) w_r996 w_g996
set_option maxRecDepth 100000 in
theorem w_g997 : w_g (nat_lit 997) = true := by decide +kernel
theorem w_r998 : w_rg 998 := w_rg_s (n := 997) w_r997 w_g997
set_option maxRecDepth 100000 in
theorem w_g998 : w_g (nat_lit 998) = true := by decide +kernel
theorem w_r999 : w_rg 999 := w_rg_s (n := 998) w_r998 w_g998
set_option maxRecDepth 100000 in
theorem w_g999 : w_g (nat_lit 999) = true := by decide +kernel
theorem w_r1000 : w_rg 1000 := w_rg_s (n := 999) w_r999 w_g999
set_option maxRecDepth 100000 in
theorem w_g1000 : w_g (nat_lit 1000) = true := by decide +kernel
theorem w_r1001 : w_rg 1001 := w_rg_s (n := 1000) w_r1000 w_g1000
set_option maxRecDepth 100000 in
theorem w_g1001 : w_g (nat_lit 1001) = true := by decide +kernel
theorem w_r1002 : w_rg 1002 := w_rg_s (n := 1001) w_r1001 w_g1001
set_option maxRecDepth 100000 in
theorem w_g1002 : w_g (nat_lit 1002) = true := by decide +kernel
theorem w_r1003 : w_rg 1003 := w_rg_s (n := 1002) w_r1002 w_g1002
set_option maxRecDepth 100000 in
theorem w_g1003 : w_g (nat_lit 1003) = true := by decide +kernel
theorem w_r1004 : w_rg 1004 := w_rg_s (n := 1003) w_r1003 w_g1003
set_option maxRecDepth 100000 in
theorem w_g1004 : w_g (nat_lit 1004) = true := by decide +kernel
theorem w_r1005 : w_rg 1005 := w_rg_s (n := 1004) w_r1004 w_g1004
set_option maxRecDepth 100000 in
theorem w_g1005 : w_g (nat_lit 1005) = true := by decide +kernel
theorem w_r1006 : w_rg 1006 := w_rg_s (n := 1005) w_r1005 w_g1005
set_option maxRecDepth 100000 in
theorem w_g1006 : w_g (nat_lit 1006) = true := by decide +kernel
theorem w_r1007 : w_rg 1007 := w_rg_s (n := 1006) w_r1006 w_g1006
set_option maxRecDepth 100000 in
theorem w_g1007 : w_g (nat_lit 1007) = true := by decide +kernel
theorem w_r1008 : w_rg 1008 := w_rg_s (n := 1007) w_r1007 w_g1007
set_option maxRecDepth 100000 in
theorem w_g1008 : w_g (nat_lit 1008) = true := by decide +kernel
theorem w_r1009 : w_rg 1009 := w_rg_s (n := 1008) w_r1008 w_g1008
set_option maxRecDepth 100000 in
theorem w_g1009 : w_g (nat_lit 1009) = true := by decide +kernel
theorem w_r1010 : w_rg 1010 := w_rg_s (n := 1009) w_r1009 w_g1009
set_option maxRecDepth 100000 in
theorem w_g1010 : w_g (nat_lit 1010) = true := by decide +kernel
theorem w_r1011 : w_rg 1011 := w_rg_s (n := 1010) w_r1010 w_g1010
set_option maxRecDepth 100000 in
theorem w_g1011 : w_g (nat_lit 1011) = true := by decide +kernel
theorem w_r1012 : w_rg 1012 := w_rg_s (n := 1011) w_r1011 w_g1011
set_option maxRecDepth 100000 in
theorem w_g1012 : w_g (nat_lit 1012) = true := by decide +kernel
theorem w_r1013 : w_rg 1013 := w_rg_s (n := 1012) w_r1012 w_g1012
set_option maxRecDepth 100000 in
theorem w_g1013 : w_g (nat_lit 1013) = true := by decide +kernel
theorem w_r1014 : w_rg 1014 := w_rg_s (n := 1013) w_r1013 w_g1013
set_option maxRecDepth 100000 in
theorem w_g1014 : w_g (nat_lit 1014) = true := by decide +kernel
theorem w_r1015 : w_rg 1015 := w_rg_s (n := 1014) w_r1014 w_g1014
set_option maxRecDepth 100000 in
theorem w_g1015 : w_g (nat_lit 1015) = true := by decide +kernel
theorem w_r1016 : w_rg 1016 := w_rg_s (n := 1015) w_r1015 w_g1015
set_option maxRecDepth 100000 in
theorem w_g1016 : w_g (nat_lit 1016) = true := by decide +kernel
theorem w_r1017 : w_rg 1017 := w_rg_s (n := 1016) w_r1016 w_g1016
set_option maxRecDepth 100000 in
theorem w_g1017 : w_g (nat_lit 1017) = true := by decide +kernel
theorem w_r1018 : w_rg 1018 := w_rg_s (n := 1017) w_r1017 w_g1017
set_option maxRecDepth 100000 in
theorem w_g1018 : w_g (nat_lit 1018) = true := by decide +kernel
theorem w_r1019 : w_rg 1019 := w_rg_s (n := 1018) w_r1018 w_g1018
set_option maxRecDepth 100000 in
theorem w_g1019 : w_g (nat_lit 1019) = true := by decide +kernel
theorem w_r1020 : w_rg 1020 := w_rg_s (n := 1019) w_r1019 w_g1019
set_option maxRecDepth 100000 in
theorem w_g1020 : w_g (nat_lit 1020) = true := by decide +kernel
theorem w_r1021 : w_rg 1021 := w_rg_s (n := 1020) w_r1020 w_g1020
set_option maxRecDepth 100000 in
theorem w_g1021 : w_g (nat_lit 1021) = true := by decide +kernel
theorem w_r1022 : w_rg 1022 := w_rg_s (n := 1021) w_r1021 w_g1021
set_option maxRecDepth 100000 in
theorem w_g1022 : w_g (nat_lit 1022) = true := by decide +kernel
theorem w_r1023 : w_rg 1023 := w_rg_s (n := 1022) w_r1022 w_g1022
set_option maxRecDepth 100000 in
theorem w_g1023 : w_g (nat_lit 1023) = true := by decide +kernel
theorem w_r1024 : w_rg 1024 := w_rg_s (n := 1023) w_r1023 w_g1023
set_option maxRecDepth 100000 in
theorem w_g1024 : w_g (nat_lit 1024) = true := by decide +kernel
theorem w_r1025 : w_rg 1025 := w_rg_s (n := 1024) w_r1024 w_g1024
set_option maxRecDepth 100000 in
theorem w_g1025 : w_g (nat_lit 1025) = true := by decide +kernel
theorem w_r1026 : w_rg 1026 := w_rg_s (n := 1025) w_r1025 w_g1025
set_option maxRecDepth 100000 in
theorem w_g1026 : w_g (nat_lit 1026) = true := by decide +kernel
theorem w_r1027 : w_rg 1027 := w_rg_s (n := 1026) w_r1026 w_g1026
set_option maxRecDepth 100000 in
theorem w_g1027 : w_g (nat_lit 1027) = true := by decide +kernel
theorem w_r1028 : w_rg 1028 := w_rg_s (n := 1027) w_r1027 w_g1027
set_option maxRecDepth 100000 in
theorem w_g1028 : w_g (nat_lit 1028) = true := by decide +kernel
theorem w_r1029 : w_rg 1029 := w_rg_s (n := 1028) w_r1028 w_g1028
set_option maxRecDepth 100000 in
theorem w_g1029 : w_g (nat_lit 1029) = true := by decide +kernel
theorem w_r1030 : w_rg 1030 := w_rg_s (n := 1029) w_r1029 w_g1029
set_option maxRecDepth 100000 in
theorem w_g1030 : w_g (nat_lit 1030) = true := by decide +kernel
theorem w_r1031 : w_rg 1031 := w_rg_s (n := 1030) w_r1030 w_g1030
set_option maxRecDepth 100000 in
theorem w_g1031 : w_g (nat_lit 1031) = true := by decide +kernel
theorem w_r1032 : w_rg 1032 := w_rg_s (n := 1031) w_r1031 w_g1031
set_option maxRecDepth 100000 in
theorem w_g1032 : w_g (nat_lit 1032) = true := by decide +kernel
theorem w_r1033 : w_rg 1033 := w_rg_s (n := 1032) w_r1032 w_g1032
set_option maxRecDepth 100000 in
theorem w_g1033 : w_g (nat_lit 1033) = true := by decide +kernel
theorem w_r1034 : w_rg 1034 := w_rg_s (n := 1033) w_r1033 w_g1033
set_option maxRecDepth 100000 in
theorem w_g1034 : w_g (nat_lit 1034) = true := by decide +kernel
theorem w_r1035 : w_rg 1035 := w_rg_s (n := 1034) w_r1034 w_g1034
set_option maxRecDepth 100000 in
theorem w_g1035 : w_g (nat_lit 1035) = true := by decide +kernel
theorem w_r1036 : w_rg 1036 := w_rg_s (n := 1035) w_r1035 w_g1035
set_option maxRecDepth 100000 in
theorem w_g1036 : w_g (nat_lit 1036) = true := by decide +kernel
theorem w_r1037 : w_rg 1037 := w_rg_s (n := 1036) w_r1036 w_g1036
set_option maxRecDepth 100000 in
theorem w_g1037 : w_g (nat_lit 1037) = true := by decide +kernel
theorem w_r1038 : w_rg 1038 := w_rg_s (n := 1037) w_r1037 w_g1037
set_option maxRecDepth 100000 in
theorem w_g1038 : w_g (nat_lit 1038) = true := by decide +kernel
theorem w_r1039 : w_rg 1039 := w_rg_s (n := 1038) w_r1038 w_g1038
set_option maxRecDepth 100000 in
theorem w_g1039 : w_g (nat_lit 1039) = true := by decide +kernel
theorem w_r1040 : w_rg 1040 := w_rg_s (n := 1039) w_r1039 w_g1039
set_option maxRecDepth 100000 in
theorem w_g1040 : w_g (nat_lit 1040) = true := by decide +kernel
theorem w_r1041 : w_rg 1041 := w_rg_s (n := 1040) w_r1040 w_g1040
set_option maxRecDepth 100000 in
theorem w_g1041 : w_g (nat_lit 1041) = true := by decide +kernel
theorem w_r1042 : w_rg 1042 := w_rg_s (n := 1041) w_r1041 w_g1041
set_option maxRecDepth 100000 in
theorem w_g1042 : w_g (nat_lit 1042) = true := by decide +kernel
theorem w_r1043 : w_rg 1043 := w_rg_s (n := 1042) w_r1042 w_g1042
set_option maxRecDepth 100000 in
theorem w_g1043 : w_g (nat_lit 1043) = true := by decide +kernel
theorem w_r1044 : w_rg 1044 := w_rg_s (n := 1043) w_r1043 w_g1043
set_option maxRecDepth 100000 in
theorem w_g1044 : w_g (nat_lit 1044) = true := by decide +kernel
theorem w_r1045 : w_rg 1045 := w_rg_s (n := 1044) w_r1044 w_g1044
set_option maxRecDepth 100000 in
theorem w_g1045 : w_g (nat_lit 1045) = true := by decide +kernel
theorem w_r1046 : w_rg 1046 := w_rg_s (n := 1045) w_r1045 w_g1045
set_option maxRecDepth 100000 in
theorem w_g1046 : w_g (nat_lit 1046) = true := by decide +kernel
theorem w_r1047 : w_rg 1047 := w_rg_s (n := 1046) w_r1046 w_g1046
set_option maxRecDepth 100000 in
theorem w_g1047 : w_g (nat_lit 1047) = true := by decide +kernel
theorem w_r1048 : w_rg 1048 := w_rg_s (n := 1047) w_r1047 w_g1047
set_option maxRecDepth 100000 in
theorem w_g1048 : w_g (nat_lit 1048) = true := by decide +kernel
theorem w_r1049 : w_rg 1049 := w_rg_s (n := 1048) w_r1048 w_g1048
set_option maxRecDepth 100000 in
theorem w_g1049 : w_g (nat_lit 1049) = true := by decide +kernel
theorem w_r1050 : w_rg 1050 := w_rg_s (n := 1049) w_r1049 w_g1049
set_option maxRecDepth 100000 in
theorem w_g1050 : w_g (nat_lit 1050) = true := by decide +kernel
theorem w_r1051 : w_rg 1051 := w_rg_s (n := 1050) w_r1050 w_g1050
set_option maxRecDepth 100000 in
theorem w_g1051 : w_g (nat_lit 1051) = true := by decide +kernel
theorem w_r1052 : w_rg 1052 := w_rg_s (n := 1051) w_r1051 w_g1051
set_option maxRecDepth 100000 in
theorem w_g1052 : w_g (nat_lit 1052) = true := by decide +kernel
theorem w_r1053 : w_rg 1053 := w_rg_s (n := 1052) w_r1052 w_g1052
set_option maxRecDepth 100000 in
theorem w_g1053 : w_g (nat_lit 1053) = true := by decide +kernel
theorem w_r1054 : w_rg 1054 := w_rg_s (n := 1053) w_r1053 w_g1053
set_option maxRecDepth 100000 in
theorem w_g1054 : w_g (nat_lit 1054) = true := by decide +kernel
theorem w_r1055 : w_rg 1055 := w_rg_s (n := 1054) w_r1054 w_g1054
set_option maxRecDepth 100000 in
theorem w_g1055 : w_g (nat_lit 1055) = true := by decide +kernel
theorem w_r1056 : w_rg 1056 := w_rg_s (n := 1055) w_r1055 w_g1055
set_option maxRecDepth 100000 in
theorem w_g1056 : w_g (nat_lit 1056) = true := by decide +kernel
theorem w_r1057 : w_rg 1057 := w_rg_s (n := 1056) w_r1056 w_g1056
set_option maxRecDepth 100000 in
theorem w_g1057 : w_g (nat_lit 1057) = true := by decide +kernel
theorem w_r1058 : w_rg 1058 := w_rg_s (n := 1057) w_r1057 w_g1057
set_option maxRecDepth 100000 in
theorem w_g1058 : w_g (nat_lit 1058) = true := by decide +kernel
theorem w_r1059 : w_rg 1059 := w_rg_s (n := 1058) w_r1058 w_g1058
set_option maxRecDepth 100000 in
theorem w_g1059 : w_g (nat_lit 1059) = true := by decide +kernel
theorem w_r1060 : w_rg 1060 := w_rg_s (n := 1059) w_r1059 w_g1059
set_option maxRecDepth 100000 in
theorem w_g1060 : w_g (nat_lit 1060) = true := by decide +kernel
theorem w_r1061 : w_rg 1061 := w_rg_s (n := 1060) w_r1060 w_g1060
set_option maxRecDepth 100000 in
theorem w_g1061 : w_g (nat_lit 1061) = true := by decide +kernel
theorem w_r1062 : w_rg 1062 := w_rg_s (n := 1061) w_r1061 w_g1061
set_option maxRecDepth 100000 in
theorem w_g1062 : w_g (nat_lit 1062) = true := by decide +kernel
theorem w_r1063 : w_rg 1063 := w_rg_s (n := 1062) w_r1062 w_g1062
set_option maxRecDepth 100000 in
theorem w_g1063 : w_g (nat_lit 1063) = true := by decide +kernel
theorem w_r1064 : w_rg 1064 := w_rg_s (n := 1063) w_r1063 w_g1063
set_option maxRecDepth 100000 in
theorem w_g1064 : w_g (nat_lit 1064) = true := by decide +kernel
theorem w_r1065 : w_rg 1065 := w_rg_s (n := 1064) w_r1064 w_g1064
set_option maxRecDepth 100000 in
theorem w_g1065 : w_g (nat_lit 1065) = true := by decide +kernel
theorem w_r1066 : w_rg 1066 := w_rg_s (n := 1065) w_r1065 w_g1065
set_option maxRecDepth 100000 in
theorem w_g1066 : w_g (nat_lit 1066) = true := by decide +kernel
theorem w_r1067 : w_rg 1067 := w_rg_s (n := 1066) w_r1066 w_g1066
set_option maxRecDepth 100000 in
theorem w_g1067 : w_g (nat_lit 1067) = true := by decide +kernel
theorem w_r1068 : w_rg 1068 := w_rg_s (n := 1067) w_r1067 w_g1067
set_option maxRecDepth 100000 in
theorem w_g1068 : w_g (nat_lit 1068) = true := by decide +kernel
theorem w_r1069 : w_rg 1069 := w_rg_s (n := 1068) w_r1068 w_g1068
set_option maxRecDepth 100000 in
theorem w_g1069 : w_g (nat_lit 1069) = true := by decide +kernel
theorem w_r1070 : w_rg 1070 := w_rg_s (n := 1069) w_r1069 w_g1069
set_option maxRecDepth 100000 in
theorem w_g1070 : w_g (nat_lit 1070) = true := by decide +kernel
theorem w_r1071 : w_rg 1071 := w_rg_s (n := 1070) w_r1070 w_g1070
set_option maxRecDepth 100000 in
theorem w_g1071 : w_g (nat_lit 1071) = true := by decide +kernel
theorem w_r1072 : w_rg 1072 := w_rg_s (n := 1071) w_r1071 w_g1071
set_option maxRecDepth 100000 in
theorem w_g1072 : w_g (nat_lit 1072) = true := by decide +kernel
theorem w_r1073 : w_rg 1073 := w_rg_s (n := 1072) w_r1072 w_g1072
set_option maxRecDepth 100000 in
theorem w_g1073 : w_g (nat_lit 1073) = true := by decide +kernel
theorem w_r1074 : w_rg 1074 := w_rg_s (n := 1073) w_r1073 w_g1073
set_option maxRecDepth 100000 in
theorem w_g1074 : w_g (nat_lit 1074) = true := by decide +kernel
theorem w_r1075 : w_rg 1075 := w_rg_s (n := 1074) w_r1074 w_g1074
set_option maxRecDepth 100000 in
theorem w_g1075 : w_g (nat_lit 1075) = true := by decide +kernel
theorem w_r1076 : w_rg 1076 := w_rg_s (n := 1075) w_r1075 w_g1075
set_option maxRecDepth 100000 in
theorem w_g1076 : w_g (nat_lit 1076) = true := by decide +kernel
theorem w_r1077 : w_rg 1077 := w_rg_s (n := 1076) w_r1076 w_g1076
set_option maxRecDepth 100000 in
theorem w_g1077 : w_g (nat_lit 1077) = true := by decide +kernel
theorem w_r1078 : w_rg 1078 := w_rg_s (n := 1077) w_r1077 w_g1077
set_option maxRecDepth 100000 in
theorem w_g1078 : w_g (nat_lit 1078) = true := by decide +kernel
theorem w_r1079 : w_rg 1079 := w_rg_s (n := 1078) w_r1078 w_g1078
set_option maxRecDepth 100000 in
theorem w_g1079 : w_g (nat_lit 1079) = true := by decide +kernel
theorem w_r1080 : w_rg 1080 := w_rg_s (n := 1079) w_r1079 w_g1079
set_option maxRecDepth 100000 in
theorem w_g1080 : w_g (nat_lit 1080) = true := by decide +kernel
theorem w_r1081 : w_rg 1081 := w_rg_s (n := 1080) w_r1080 w_g1080
set_option maxRecDepth 100000 in
theorem w_g1081 : w_g (nat_lit 1081) = true := by decide +kernel
theorem w_r1082 : w_rg 1082 := w_rg_s (n := 1081) w_r1081 w_g1081
set_option maxRecDepth 100000 in
theorem w_g1082 : w_g (nat_lit 1082) = true := by decide +kernel
theorem w_r1083 : w_rg 1083 := w_rg_s (n := 1082) w_r1082 w_g1082
set_option maxRecDepth 100000 in
theorem w_g1083 : w_g (nat_lit 1083) = true := by decide +kernel
theorem w_r1084 : w_rg 1084 := w_rg_s (n := 1083) w_r1083 w_g1083
set_option maxRecDepth 100000 in
theorem w_g1084 : w_g (nat_lit 1084) = true := by decide +kernel
theorem w_r1085 : w_rg 1085 := w_rg_s (n := 1084) w_r1084 w_g1084
set_option maxRecDepth 100000 in
theorem w_g1085 : w_g (nat_lit 1085) = true := by decide +kernel
theorem w_r1086 : w_rg 1086 := w_rg_s (n := 1085) w_r1085 w_g1085
set_option maxRecDepth 100000 in
theorem w_g1086 : w_g (nat_lit 1086) = true := by decide +kernel
theorem w_r1087 : w_rg 1087 := w_rg_s (n := 1086) w_r1086 w_g1086
set_option maxRecDepth 100000 in
theorem w_g1087 : w_g (nat_lit 1087) = true := by decide +kernel
theorem w_r1088 : w_rg 1088 := w_rg_s (n := 1087) w_r1087 w_g1087
set_option maxRecDepth 100000 in
theorem w_g1088 : w_g (nat_lit 1088) = true := by decide +kernel
theorem w_r1089 : w_rg 1089 := w_rg_s (n := 1088) w_r1088 w_g1088
set_option maxRecDepth 100000 in
theorem w_g1089 : w_g (nat_lit 1089) = true := by decide +kernel
theorem w_r1090 : w_rg 1090 := w_rg_s (n := 1089) w_r1089 w_g1089
set_option maxRecDepth 100000 in
theorem w_g1090 : w_g (nat_lit 1090) = true := by decide +kernel
theorem w_r1091 : w_rg 1091 := w_rg_s (n := 1090) w_r1090 w_g1090
set_option maxRecDepth 100000 in
theorem w_g1091 : w_g (nat_lit 1091) = true := by decide +kernel
theorem w_r1092 : w_rg 1092 := w_rg_s (n := 1091) w_r1091 w_g1091
set_option maxRecDepth 100000 in
theorem w_g1092 : w_g (nat_lit 1092) = true := by decide +kernel
theorem w_r1093 : w_rg 1093 := w_rg_s (n := 1092) w_r1092 w_g1092
set_option maxRecDepth 100000 in
theorem w_g1093 : w_g (nat_lit 1093) = true := by decide +kernel
theorem w_r1094 : w_rg 1094 := w_rg_s (n := 1093) w_r1093 w_g1093
set_option maxRecDepth 100000 in
theorem w_g1094 : w_g (nat_lit 1094) = true := by decide +kernel
theorem w_r1095 : w_rg 1095 := w_rg_s (n := 1094) w_r1094 w_g1094
set_option maxRecDepth 100000 in
theorem w_g1095 : w_g (nat_lit 1095) = true := by decide +kernel
theorem w_r1096 : w_rg 1096 := w_rg_s (n := 1095) w_r1095 w_g1095
set_option maxRecDepth 100000 in
theorem w_g1096 : w_g (nat_lit 1096) = true := by decide +kernel
theorem w_r1097 : w_rg 1097 := w_rg_s (n := 1096) w_r1096 w_g1096
set_option maxRecDepth 100000 in
theorem w_g1097 : w_g (nat_lit 1097) = true := by decide +kernel
theorem w_r1098 : w_rg 1098 := w_rg_s (n := 1097) w_r1097 w_g1097
set_option maxRecDepth 100000 in
theorem w_g1098 : w_g (nat_lit 1098) = true := by decide +kernel
theorem w_r1099 : w_rg 1099 := w_rg_s (n := 1098) w_r1098 w_g1098
set_option maxRecDepth 100000 in
theorem w_g1099 : w_g (nat_lit 1099) = true := by decide +kernel
theorem w_r1100 : w_rg 1100 := w_rg_s (n := 1099) w_r1099 w_g1099
set_option maxRecDepth 100000 in
theorem w_g1100 : w_g (nat_lit 1100) = true := by decide +kernel
theorem w_r1101 : w_rg 1101 := w_rg_s (n := 1100) w_r1100 w_g1100
set_option maxRecDepth 100000 in
theorem w_g1101 : w_g (nat_lit 1101) = true := by decide +kernel
theorem w_r1102 : w_rg 1102 := w_rg_s (n := 1101) w_r1101 w_g1101
set_option maxRecDepth 100000 in
theorem w_g1102 : w_g (nat_lit 1102) = true := by decide +kernel
theorem w_r1103 : w_rg 1103 := w_rg_s (n := 1102) w_r1102 w_g1102
set_option maxRecDepth 100000 in
theorem w_g1103 : w_g (nat_lit 1103) = true := by decide +kernel
theorem w_r1104 : w_rg 1104 := w_rg_s (n := 1103) w_r1103 w_g1103
set_option maxRecDepth 100000 in
theorem w_g1104 : w_g (nat_lit 1104) = true := by decide +kernel
theorem w_r1105 : w_rg 1105 := w_rg_s (n := 1104) w_r1104 w_g1104
set_option maxRecDepth 100000 in
theorem w_g1105 : w_g (nat_lit 1105) = true := by decide +kernel
theorem w_r1106 : w_rg 1106 := w_rg_s (n := 1105) w_r1105 w_g1105
set_option maxRecDepth 100000 in
theorem w_g1106 : w_g (nat_lit 1106) = true := by decide +kernel
theorem w_r1107 : w_rg 1107 := w_rg_s (n := 1106) w_r1106 w_g1106
set_option maxRecDepth 100000 in
theorem w_g1107 : w_g (nat_lit 1107) = true := by decide +kernel
theorem w_r1108 : w_rg 1108 := w_rg_s (n := 1107) w_r1107 w_g1107
set_option maxRecDepth 100000 in
theorem w_g1108 : w_g (nat_lit 1108) = true := by decide +kernel
theorem w_r1109 : w_rg 1109 := w_rg_s (n := 1108) w_r1108 w_g1108
set_option maxRecDepth 100000 in
theorem w_g1109 : w_g (nat_lit 1109) = true := by decide +kernel
theorem w_r1110 : w_rg 1110 := w_rg_s (n := 1109) w_r1109 w_g1109
set_option maxRecDepth 100000 in
theorem w_g1110 : w_g (nat_lit 1110) = true := by decide +kernel
theorem w_r1111 : w_rg 1111 := w_rg_s (n := 1110) w_r1110 w_g1110
set_option maxRecDepth 100000 in
theorem w_g1111 : w_g (nat_lit 1111) = true := by decide +kernel
theorem w_r1112 : w_rg 1112 := w_rg_s (n := 1111) w_r1111 w_g1111
set_option maxRecDepth 100000 in
theorem w_g1112 : w_g (nat_lit 1112) = true := by decide +kernel
theorem w_r1113 : w_rg 1113 := w_rg_s (n := 1112) w_r1112 w_g1112
set_option maxRecDepth 100000 in
theorem w_g1113 : w_g (nat_lit 1113) = true := by decide +kernel
theorem w_r1114 : w_rg 1114 := w_rg_s (n := 1113) w_r1113 w_g1113
set_option maxRecDepth 100000 in
theorem w_g1114 : w_g (nat_lit 1114) = true := by decide +kernel
theorem w_r1115 : w_rg 1115 := w_rg_s (n := 1114) w_r1114 w_g1114
set_option maxRecDepth 100000 in
theorem w_g1115 : w_g (nat_lit 1115) = true := by decide +kernel
theorem w_r1116 : w_rg 1116 := w_rg_s (n := 1115) w_r1115 w_g1115
set_option maxRecDepth 100000 in
theorem w_g1116 : w_g (nat_lit 1116) = true := by decide +kernel
theorem w_r1117 : w_rg 1117 := w_rg_s (n := 1116) w_r1116 w_g1116
set_option maxRecDepth 100000 in
theorem w_g1117 : w_g (nat_lit 1117) = true := by decide +kernel
theorem w_r1118 : w_rg 1118 := w_rg_s (n := 1117) w_r1117 w_g1117
set_option maxRecDepth 100000 in
theorem w_g1118 : w_g (nat_lit 1118) = true := by decide +kernel
theorem w_r1119 : w_rg 1119 := w_rg_s (n := 1118) w_r1118 w_g1118
set_option maxRecDepth 100000 in
theorem w_g1119 : w_g (nat_lit 1119) = true := by decide +kernel
theorem w_r1120 : w_rg 1120 := w_rg_s (n := 1119) w_r1119 w_g1119
set_option maxRecDepth 100000 in
theorem w_g1120 : w_g (nat_lit 1120) = true := by decide +kernel
theorem w_r1121 : w_rg 1121 := w_rg_s (n := 1120) w_r1120 w_g1120
set_option maxRecDepth 100000 in
theorem w_g1121 : w_g (nat_lit 1121) = true := by decide +kernel
theorem w_r1122 : w_rg 1122 := w_rg_s (n := 1121) w_r1121 w_g1121
set_option maxRecDepth 100000 in
theorem w_g1122 : w_g (nat_lit 1122) = true := by decide +kernel
theorem w_r1123 : w_rg 1123 := w_rg_s (n := 1122) w_r1122 w_g1122
set_option maxRecDepth 100000 in
theorem w_g1123 : w_g (nat_lit 1123) = true := by decide +kernel
theorem w_r1124 : w_rg 1124 := w_rg_s (n := 1123) w_r1123 w_g1123
set_option maxRecDepth 100000 in
theorem w_g1124 : w_g (nat_lit 1124) = true := by decide +kernel
theorem w_r1125 : w_rg 1125 := w_rg_s (n := 1124) w_r1124 w_g1124
set_option maxRecDepth 100000 in
theorem w_g1125 : w_g (nat_lit 1125) = true := by decide +kernel
theorem w_r1126 : w_rg 1126 := w_rg_s (n := 1125) w_r1125 w_g1125
set_option maxRecDepth 100000 in
theorem w_g1126 : w_g (nat_lit 1126) = true := by decide +kernel
theorem w_r1127 : w_rg 1127 := w_rg_s (n := 1126) w_r1126 w_g1126
set_option maxRecDepth 100000 in
theorem w_g1127 : w_g (nat_lit 1127) = true := by decide +kernel
theorem w_r1128 : w_rg 1128 := w_rg_s (n := 1127) w_r1127 w_g1127
set_option maxRecDepth 100000 in
theorem w_g1128 : w_g (nat_lit 1128) = true := by decide +kernel
theorem w_r1129 : w_rg 1129 := w_rg_s (n := 1128) w_r1128 w_g1128
set_option maxRecDepth 100000 in
theorem w_g1129 : w_g (nat_lit 1129) = true := by decide +kernel
theorem w_r1130 : w_rg 1130 := w_rg_s (n := 1129) w_r1129 w_g1129
set_option maxRecDepth 100000 in
theorem w_g1130 : w_g (nat_lit 1130) = true := by decide +kernel
theorem w_r1131 : w_rg 1131 := w_rg_s (n := 1130) w_r1130 w_g1130
set_option maxRecDepth 100000 in
theorem w_g1131 : w_g (nat_lit 1131) = true := by decide +kernel
theorem w_r1132 : w_rg 1132 := w_rg_s (n := 1131) w_r1131 w_g1131
set_option maxRecDepth 100000 in
theorem w_g1132 : w_g (nat_lit 1132) = true := by decide +kernel
theorem w_r1133 : w_rg 1133 := w_rg_s (n := 1132) w_r1132 w_g1132
set_option maxRecDepth 100000 in
theorem w_g1133 : w_g (nat_lit 1133) = true := by decide +kernel
theorem w_r1134 : w_rg 1134 := w_rg_s (n := 1133) w_r1133 w_g1133
set_option maxRecDepth 100000 in
theorem w_g1134 : w_g (nat_lit 1134) = true := by decide +kernel
theorem w_r1135 : w_rg 1135 := w_rg_s (n := 1134) w_r1134 w_g1134
set_option maxRecDepth 100000 in
theorem w_g1135 : w_g (nat_lit 1135) = true := by decide +kernel
theorem w_r1136 : w_rg 1136 := w_rg_s (n := 1135) w_r1135 w_g1135
set_option maxRecDepth 100000 in
theorem w_g1136 : w_g (nat_lit 1136) = true := by decide +kernel
theorem w_r1137 : w_rg 1137 := w_rg_s (n := 1136) w_r1136 w_g1136
set_option maxRecDepth 100000 in
theorem w_g1137 : w_g (nat_lit 1137) = true := by decide +kernel
theorem w_r1138 : w_rg 1138 := w_rg_s (n := 1137) w_r1137 w_g1137
set_option maxRecDepth 100000 in
theorem w_g1138 : w_g (nat_lit 1138) = true := by decide +kernel
theorem w_r1139 : w_rg 1139 := w_rg_s (n := 1138) w_r1138 w_g1138
set_option maxRecDepth 100000 in
theorem w_g1139 : w_g (nat_lit 1139) = true := by decide +kernel
theorem w_r1140 : w_rg 1140 := w_rg_s (n := 1139) w_r1139 w_g1139
set_option maxRecDepth 100000 in
theorem w_g1140 : w_g (nat_lit 1140) = true := by decide +kernel
theorem w_r1141 : w_rg 1141 := w_rg_s (n := 1140) w_r1140 w_g1140
set_option maxRecDepth 100000 in
theorem w_g1141 : w_g (nat_lit 1141) = true := by decide +kernel
theorem w_r1142 : w_rg 1142 := w_rg_s (n := 1141) w_r1141 w_g1141
set_option maxRecDepth 100000 in
theorem w_g1142 : w_g (nat_lit 1142) = true := by decide +kernel
theorem w_r1143 : w_rg 1143 := w_rg_s (n := 1142) w_r1142 w_g1142
set_option maxRecDepth 100000 in
theorem w_g1143 : w_g (nat_lit 1143) = true := by decide +kernel
theorem w_r1144 : w_rg 1144 := w_rg_s (n := 1143) w_r1143 w_g1143
set_option maxRecDepth 100000 in
theorem w_g1144 : w_g (nat_lit 1144) = true := by decide +kernel
theorem w_r1145 : w_rg 1145 := w_rg_s (n := 1144) w_r1144 w_g1144
set_option maxRecDepth 100000 in
theorem w_g1145 : w_g (nat_lit 1145) = true := by decide +kernel
theorem w_r1146 : w_rg 1146 := w_rg_s (n := 1145) w_r1145 w_g1145
set_option maxRecDepth 100000 in
theorem w_g1146 : w_g (nat_lit 1146) = true := by decide +kernel
theorem w_r1147 : w_rg 1147 := w_rg_s (n := 1146) w_r1146 w_g1146
set_option maxRecDepth 100000 in
theorem w_g1147 : w_g (nat_lit 1147) = true := by decide +kernel
theorem w_r1148 : w_rg 1148 := w_rg_s (n := 1147) w_r1147 w_g1147
set_option maxRecDepth 100000 in
theorem w_g1148 : w_g (nat_lit 1148) = true := by decide +kernel
theorem w_r1149 : w_rg 1149 := w_rg_s (n := 1148) w_r1148 w_g1148
set_option maxRecDepth 100000 in
theorem w_g1149 : w_g (nat_lit 1149) = true := by decide +kernel
theorem w_r1150 : w_rg 1150 := w_rg_s (n := 1149) w_r1149 w_g1149
set_option maxRecDepth 100000 in
theorem w_g1150 : w_g (nat_lit 1150) = true := by decide +kernel
theorem w_r1151 : w_rg 1151 := w_rg_s (n := 1150) w_r1150 w_g1150
set_option maxRecDepth 100000 in
theorem w_g1151 : w_g (nat_lit 1151) = true := by decide +kernel
theorem w_r1152 : w_rg 1152 := w_rg_s (n := 1151) w_r1151 w_g1151
set_option maxRecDepth 100000 in
theorem w_g1152 : w_g (nat_lit 1152) = true := by decide +kernel
theorem w_r1153 : w_rg 1153 := w_rg_s (n := 1152) w_r1152 w_g1152
set_option maxRecDepth 100000 in
theorem w_g1153 : w_g (nat_lit 1153) = true := by decide +kernel
theorem w_r1154 : w_rg 1154 := w_rg_s (n := 1153) w_r1153 w_g1153
set_option maxRecDepth 100000 in
theorem w_g1154 : w_g (nat_lit 1154) = true := by decide +kernel
theorem w_r1155 : w_rg 1155 := w_rg_s (n := 1154) w_r1154 w_g1154
set_option maxRecDepth 100000 in
theorem w_g1155 : w_g (nat_lit 1155) = true := by decide +kernel
theorem w_r1156 : w_rg 1156 := w_rg_s (n := 1155) w_r1155 w_g1155
set_option maxRecDepth 100000 in
theorem w_g1156 : w_g (nat_lit 1156) = true := by decide +kernel
theorem w_r1157 : w_rg 1157 := w_rg_s (n := 1156) w_r1156 w_g1156
set_option maxRecDepth 100000 in
theorem w_g1157 : w_g (nat_lit 1157) = true := by decide +kernel
theorem w_r1158 : w_rg 1158 := w_rg_s (n := 1157) w_r1157 w_g1157
set_option maxRecDepth 100000 in
theorem w_g1158 : w_g (nat_lit 1158) = true := by decide +kernel
theorem w_r1159 : w_rg 1159 := w_rg_s (n := 1158) w_r1158 w_g1158
set_option maxRecDepth 100000 in
theorem w_g1159 : w_g (nat_lit 1159) = true := by decide +kernel
theorem w_r1160 : w_rg 1160 := w_rg_s (n := 1159) w_r1159 w_g1159
set_option maxRecDepth 100000 in
theorem w_g1160 : w_g (nat_lit 1160) = true := by decide +kernel
theorem w_r1161 : w_rg 1161 := w_rg_s (n := 1160) w_r1160 w_g1160
set_option maxRecDepth 100000 in
theorem w_g1161 : w_g (nat_lit 1161) = true := by decide +kernel
theorem w_r1162 : w_rg 1162 := w_rg_s (n := 1161) w_r1161 w_g1161
set_option maxRecDepth 100000 in
theorem w_g1162 : w_g (nat_lit 1162) = true := by decide +kernel
theorem w_r1163 : w_rg 1163 := w_rg_s (n := 1162) w_r1162 w_g1162
set_option maxRecDepth 100000 in
theorem w_g1163 : w_g (nat_lit 1163) = true := by decide +kernel
theorem w_r1164 : w_rg 1164 := w_rg_s (n := 1163) w_r1163 w_g1163
set_option maxRecDepth 100000 in
theorem w_g1164 : w_g (nat_lit 1164) = true := by decide +kernel
theorem w_r1165 : w_rg 1165 := w_rg_s (n := 1164) w_r1164 w_g1164
set_option maxRecDepth 100000 in
theorem w_g1165 : w_g (nat_lit 1165) = true := by decide +kernel
theorem w_r1166 : w_rg 1166 := w_rg_s (n := 1165) w_r1165 w_g1165
set_option maxRecDepth 100000 in
theorem w_g1166 : w_g (nat_lit 1166) = true := by decide +kernel
theorem w_r1167 : w_rg 1167 := w_rg_s (n := 1166) w_r1166 w_g1166
set_option maxRecDepth 100000 in
theorem w_g1167 : w_g (nat_lit 1167) = true := by decide +kernel
theorem w_r1168 : w_rg 1168 := w_rg_s (n := 1167) w_r1167 w_g1167
set_option maxRecDepth 100000 in
theorem w_g1168 : w_g (nat_lit 1168) = true := by decide +kernel
theorem w_r1169 : w_rg 1169 := w_rg_s (n := 1168) w_r1168 w_g1168
set_option maxRecDepth 100000 in
theorem w_g1169 : w_g (nat_lit 1169) = true := by decide +kernel
theorem w_r1170 : w_rg 1170 := w_rg_s (n := 1169) w_r1169 w_g1169
set_option maxRecDepth 100000 in
theorem w_g1170 : w_g (nat_lit 1170) = true := by decide +kernel
theorem w_r1171 : w_rg 1171 := w_rg_s (n := 1170) w_r1170 w_g1170
set_option maxRecDepth 100000 in
theorem w_g1171 : w_g (nat_lit 1171) = true := by decide +kernel
theorem w_r1172 : w_rg 1172 := w_rg_s (n := 1171) w_r1171 w_g1171
set_option maxRecDepth 100000 in
theorem w_g1172 : w_g (nat_lit 1172) = true := by decide +kernel
theorem w_r1173 : w_rg 1173 := w_rg_s (n := 1172) w_r1172 w_g1172
set_option maxRecDepth 100000 in
theorem w_g1173 : w_g (nat_lit 1173) = true := by decide +kernel
theorem w_r1174 : w_rg 1174 := w_rg_s (n := 1173) w_r1173 w_g1173
set_option maxRecDepth 100000 in
theorem w_g1174 : w_g (nat_lit 1174) = true := by decide +kernel
theorem w_r1175 : w_rg 1175 := w_rg_s (n := 1174) w_r1174 w_g1174
set_option maxRecDepth 100000 in
theorem w_g1175 : w_g (nat_lit 1175) = true := by decide +kernel
theorem w_r1176 : w_rg 1176 := w_rg_s (n := 1175) w_r1175 w_g1175
set_option maxRecDepth 100000 in
theorem w_g1176 : w_g (nat_lit 1176) = true := by decide +kernel
theorem w_r1177 : w_rg 1177 := w_rg_s (n := 1176) w_r1176 w_g1176
set_option maxRecDepth 100000 in
theorem w_g1177 : w_g (nat_lit 1177) = true := by decide +kernel
theorem w_r1178 : w_rg 1178 := w_rg_s (n := 1177) w_r1177 w_g1177
set_option maxRecDepth 100000 in
theorem w_g1178 : w_g (nat_lit 1178) = true := by decide +kernel
theorem w_r1179 : w_rg 1179 := w_rg_s (n := 1178) w_r1178 w_g1178
set_option maxRecDepth 100000 in
theorem w_g1179 : w_g (nat_lit 1179) = true := by decide +kernel
theorem w_r1180 : w_rg 1180 := w_rg_s (n := 1179) w_r1179 w_g1179
set_option maxRecDepth 100000 in
theorem w_g1180 : w_g (nat_lit 1180) = true := by decide +kernel
theorem w_r1181 : w_rg 1181 := w_rg_s (n := 1180) w_r1180 w_g1180
set_option maxRecDepth 100000 in
theorem w_g1181 : w_g (nat_lit 1181) = true := by decide +kernel
theorem w_r1182 : w_rg 1182 := w_rg_s (n := 1181) w_r1181 w_g1181
set_option maxRecDepth 100000 in
theorem w_g1182 : w_g (nat_lit 1182) = true := by decide +kernel
theorem w_r1183 : w_rg 1183 := w_rg_s (n := 1182) w_r1182 w_g1182
set_option maxRecDepth 100000 in
theorem w_g1183 : w_g (nat_lit 1183) = true := by decide +kernel
theorem w_r1184 : w_rg 1184 := w_rg_s (n := 1183) w_r1183 w_g1183
set_option maxRecDepth 100000 in
theorem w_g1184 : w_g (nat_lit 1184) = true := by decide +kernel
theorem w_r1185 : w_rg 1185 := w_rg_s (n := 1184) w_r1184 w_g1184
set_option maxRecDepth 100000 in
theorem w_g1185 : w_g (nat_lit 1185) = true := by decide +kernel
theorem w_r1186 : w_rg 1186 := w_rg_s (n := 1185) w_r1185 w_g1185
set_option maxRecDepth 100000 in
theorem w_g1186 : w_g (nat_lit 1186) = true := by decide +kernel
theorem w_r1187 : w_rg 1187 := w_rg_s (n := 1186) w_r1186 w_g1186
set_option maxRecDepth 100000 in
theorem w_g1187 : w_g (nat_lit 1187) = true := by decide +kernel
theorem w_r1188 : w_rg 1188 := w_rg_s (n := 1187) w_r1187 w_g1187
set_option maxRecDepth 100000 in
theorem w_g1188 : w_g (nat_lit 1188) = true := by decide +kernel
theorem w_r1189 : w_rg 1189 := w_rg_s (n := 1188) w_r1188 w_g1188
set_option maxRecDepth 100000 in
theorem w_g1189 : w_g (nat_lit 1189) = true := by decide +kernel
theorem w_r1190 : w_rg 1190 := w_rg_s (n := 1189) w_r1189 w_g1189
set_option maxRecDepth 100000 in
theorem w_g1190 : w_g (nat_lit 1190) = true := by decide +kernel
theorem w_r1191 : w_rg 1191 := w_rg_s (n := 1190) w_r1190 w_g1190
set_option maxRecDepth 100000 in
theorem w_g1191 : w_g (nat_lit 1191) = true := by decide +kernel
theorem w_r1192 : w_rg 1192 := w_rg_s (n := 1191) w_r1191 w_g1191
set_option maxRecDepth 100000 in
theorem w_g1192 : w_g (nat_lit 1192) = true := by decide +kernel
theorem w_r1193 : w_rg 1193 := w_rg_s (n := 1192) w_r1192 w_g1192
set_option maxRecDepth 100000 in
theorem w_g1193 : w_g (nat_lit 1193) = true := by decide +kernel
theorem w_r1194 : w_rg 1194 := w_rg_s (n := 1193) w_r1193 w_g1193
