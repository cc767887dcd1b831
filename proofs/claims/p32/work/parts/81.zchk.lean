theorem zpT996 : zcheck zpZ zpRS zpMT [zpC992, zpC993, zpC995] zpC996 zpP12 1 zpA996 [] 3000 = true := by decide +kernel
theorem zpT997 : zcheck zpZ zpRS zpMT [zpC991, zpC996] zpC997 zpP12 1 zpA997 [] 3000 = true := by decide +kernel
theorem zpT998 : zcheck zpZ zpRS zpMT [zpC897, zpC987, zpC989, zpC990, zpC997] zpC998 zpP12 1 zpA998 [] 3000 = true := by decide +kernel
theorem zpT999 : zcheck zpZ zpRS zpMT [zpC901] zpC999 zpP12 1 zpA999 [] 3000 = true := by decide +kernel
theorem zpT1000 : zcheck zpZ zpRS zpMT [] zpC1000 zpP12 0 zpA1000 [] 3000 = true := by decide +kernel
theorem zpT1001 : zcheck zpZ zpRS zpMT [] zpC1001 zpP12 0 zpA1001 [] 3000 = true := by decide +kernel
theorem zpT1002 : zcheck zpZ zpRS zpMT [zpC1001] zpC1002 zpP12 1 zpA1002 [] 3000 = true := by decide +kernel
theorem zpT1003 : zcheck zpZ zpRS zpMT [] zpC1003 zpP12 0 zpA1003 [] 3000 = true := by decide +kernel
theorem zpT1004 : zcheck zpZ zpRS zpMT [] zpC1004 zpP12 0 zpA1004 [] 3000 = true := by decide +kernel
theorem zpT1005 : zcheck zpZ zpRS zpMT [] zpC1005 zpP12 0 zpA1005 [] 3000 = true := by decide +kernel
theorem zpT1006 : zcheck zpZ zpRS zpMT [zpC1005] zpC1006 zpP12 1 zpA1006 [] 3000 = true := by decide +kernel
theorem zpT1007 : zcheck zpZ zpRS zpMT [zpC1004, zpC1006] zpC1007 zpP12 1 zpA1007 [] 3000 = true := by decide +kernel
theorem zpT1008 : zcheck zpZ zpRS zpMT [zpC1003, zpC1007] zpC1008 zpP12 1 zpA1008 [] 3000 = true := by decide +kernel
theorem zpT1009 : zcheck zpZ zpRS zpMT [zpC960, zpC1008] zpC1009 zpP12 1 zpA1009 [] 3000 = true := by decide +kernel
theorem zpT1010 : zcheck zpZ zpRS zpMT [zpC959, zpC1009] zpC1010 zpP12 1 zpA1010 [] 3000 = true := by decide +kernel
theorem zpT1011 : zcheck zpZ zpRS zpMT [zpC1000, zpC1002, zpC1010] zpC1011 zpP12 1 zpA1011 [] 3000 = true := by decide +kernel
theorem zpT1012 : zcheck zpZ zpRS zpMT [] zpC1012 zpP12 0 zpA1012 [] 3000 = true := by decide +kernel
theorem zpT1013 : zcheck zpZ zpRS zpMT [zpC913] zpC1013 zpP12 1 zpA1013 [] 3000 = true := by decide +kernel
theorem zpT1014 : zcheck zpZ zpRS zpMT [zpC919, zpC1013] zpC1014 zpP12 1 zpA1014 [] 3000 = true := by decide +kernel
theorem zpT1015 : zcheck zpZ zpRS zpMT [zpC1012, zpC1014] zpC1015 zpP12 1 zpA1015 [] 3000 = true := by decide +kernel
theorem zpT1016 : zcheck zpZ zpRS zpMT [] zpC1016 zpP12 0 zpA1016 [] 3000 = true := by decide +kernel
theorem zpT1017 : zcheck zpZ zpRS zpMT [zpC1016] zpC1017 zpP12 1 zpA1017 [] 3000 = true := by decide +kernel
theorem zpT1018 : zcheck zpZ zpRS zpMT [] zpC1018 zpP12 0 zpA1018 [] 3000 = true := by decide +kernel
theorem zpT1019 : zcheck zpZ zpRS zpMT [] zpC1019 zpP12 0 zpA1019 [] 3000 = true := by decide +kernel
theorem zpT1020 : zcheck zpZ zpRS zpMT [zpC1019] zpC1020 zpP12 1 zpA1020 [] 3000 = true := by decide +kernel
theorem zpT1021 : zcheck zpZ zpRS zpMT [] zpC1021 zpP12 0 zpA1021 [] 3000 = true := by decide +kernel
theorem zpT1022 : zcheck zpZ zpRS zpMT [] zpC1022 zpP12 0 zpA1022 [] 3000 = true := by decide +kernel
theorem zpT1023 : zcheck zpZ zpRS zpMT [] zpC1023 zpP12 0 zpA1023 [] 3000 = true := by decide +kernel
theorem zpT1024 : zcheck zpZ zpRS zpMT [] zpC1024 zpP12 0 zpA1024 [] 3000 = true := by decide +kernel
theorem zpT1025 : zcheck zpZ zpRS zpMT [] zpC1025 zpP12 0 zpA1025 [] 3000 = true := by decide +kernel
theorem zpT1026 : zcheck zpZ zpRS zpMT [zpC1025] zpC1026 zpP12 1 zpA1026 [] 3000 = true := by decide +kernel
theorem zpT1027 : zcheck zpZ zpRS zpMT [zpC1024, zpC1026] zpC1027 zpP12 1 zpA1027 [] 3000 = true := by decide +kernel
theorem zpT1028 : zcheck zpZ zpRS zpMT [zpC1023, zpC1027] zpC1028 zpP12 1 zpA1028 [] 3000 = true := by decide +kernel
theorem zpT1029 : zcheck zpZ zpRS zpMT [zpC1022, zpC1028] zpC1029 zpP12 1 zpA1029 [] 3000 = true := by decide +kernel
theorem zpT1030 : zcheck zpZ zpRS zpMT [zpC1021, zpC1029] zpC1030 zpP12 1 zpA1030 [] 3000 = true := by decide +kernel
theorem zpT1031 : zcheck zpZ zpRS zpMT [zpC1018, zpC1020, zpC1030] zpC1031 zpP12 1 zpA1031 [] 3000 = true := by decide +kernel
theorem zpT1032 : zcheck zpZ zpRS zpMT [zpC909, zpC1017, zpC1031] zpC1032 zpP12 1 zpA1032 [] 3000 = true := by decide +kernel
theorem zpT1033 : zcheck zpZ zpRS zpMT [zpC897, zpC999, zpC1011, zpC1015, zpC1032] zpC1033 zpP12 1 zpA1033 [] 3000 = true := by decide +kernel
theorem zpT1034 : zcheck zpZ zpRS zpMT [] zpC1034 zpP12 0 zpA1034 [] 3000 = true := by decide +kernel
theorem zpT1035 : zcheck zpZ zpRS zpMT [zpC936] zpC1035 zpP12 1 zpA1035 [] 3000 = true := by decide +kernel
theorem zpT1036 : zcheck zpZ zpRS zpMT [zpC913] zpC1036 zpP12 1 zpA1036 [] 3000 = true := by decide +kernel
theorem zpT1037 : zcheck zpZ zpRS zpMT [zpC1034, zpC1035, zpC1036] zpC1037 zpP12 1 zpA1037 [] 3000 = true := by decide +kernel
theorem zpT1038 : zcheck zpZ zpRS zpMT [zpC904] zpC1038 zpP12 1 zpA1038 [] 3000 = true := by decide +kernel
theorem zpT1039 : zcheck zpZ zpRS zpMT [zpC903, zpC1038] zpC1039 zpP12 1 zpA1039 [] 3000 = true := by decide +kernel
theorem zpT1040 : zcheck zpZ zpRS zpMT [zpC907] zpC1040 zpP12 1 zpA1040 [] 3000 = true := by decide +kernel
theorem zpT1041 : zcheck zpZ zpRS zpMT [] zpC1041 zpP12 0 zpA1041 [] 3000 = true := by decide +kernel
theorem zpT1042 : zcheck zpZ zpRS zpMT [zpC926] zpC1042 zpP12 1 zpA1042 [] 3000 = true := by decide +kernel
theorem zpT1043 : zcheck zpZ zpRS zpMT [zpC1005] zpC1043 zpP12 1 zpA1043 [] 3000 = true := by decide +kernel
theorem zpT1044 : zcheck zpZ zpRS zpMT [zpC1041, zpC1042, zpC1043] zpC1044 zpP12 1 zpA1044 [] 3000 = true := by decide +kernel
theorem zpT1045 : zcheck zpZ zpRS zpMT [zpC912, zpC1036] zpC1045 zpP12 1 zpA1045 [] 3000 = true := by decide +kernel
theorem zpT1046 : zcheck zpZ zpRS zpMT [zpC909, zpC1044, zpC1045] zpC1046 zpP12 1 zpA1046 [] 3000 = true := by decide +kernel
theorem zpT1047 : zcheck zpZ zpRS zpMT [zpC897, zpC1037, zpC1039, zpC1040, zpC1046] zpC1047 zpP12 1 zpA1047 [] 3000 = true := by decide +kernel
theorem zpT1048 : zcheck zpZ zpRS zpMT [zpC897] zpC1048 zpP12 1 zpA1048 [] 3000 = true := by decide +kernel
theorem zpT1049 : zcheck zpZ zpRS zpMT [zpC897, zpC902, zpC906, zpC908, zpC916] zpC1049 zpP12 1 zpA1049 [] 3000 = true := by decide +kernel
theorem zpT1050 : zcheck zpZ zpRS zpMT [zpC897, zpC918, zpC922, zpC925, zpC933] zpC1050 zpP12 1 zpA1050 [] 3000 = true := by decide +kernel
theorem zpT1051 : zcheck zpZ zpRS zpMT [zpC897, zpC938, zpC940, zpC941, zpC947] zpC1051 zpP12 1 zpA1051 [] 3000 = true := by decide +kernel
theorem zpT1052 : zcheck zpZ zpRS zpMT [zpC897, zpC949, zpC954, zpC956, zpC967] zpC1052 zpP12 1 zpA1052 [] 3000 = true := by decide +kernel
theorem zpT1053 : zcheck zpZ zpRS zpMT [zpC897, zpC969, zpC974, zpC978, zpC985] zpC1053 zpP12 1 zpA1053 [] 3000 = true := by decide +kernel
theorem zpT1054 : zcheck zpZ zpRS zpMT [zpC897, zpC987, zpC989, zpC990, zpC997] zpC1054 zpP12 1 zpA1054 [] 3000 = true := by decide +kernel
theorem zpT1055 : zcheck zpZ zpRS zpMT [zpC897, zpC999, zpC1011, zpC1015, zpC1032] zpC1055 zpP12 1 zpA1055 [] 3000 = true := by decide +kernel
theorem zpT1056 : zcheck zpZ zpRS zpMT [zpC897, zpC1037, zpC1039, zpC1040, zpC1046] zpC1056 zpP12 1 zpA1056 [] 3000 = true := by decide +kernel
theorem zpT1057 : zcheck zpZ zpRS zpMT [zpC897] zpC1057 zpP12 1 zpA1057 [] 3000 = true := by decide +kernel
theorem zpT1058 : zcheck zpZ zpRS zpMT [zpC897, zpC902, zpC906, zpC908, zpC916] zpC1058 zpP12 1 zpA1058 [] 3000 = true := by decide +kernel
theorem zpT1059 : zcheck zpZ zpRS zpMT [zpC897, zpC918, zpC922, zpC925, zpC933] zpC1059 zpP12 1 zpA1059 [] 3000 = true := by decide +kernel
theorem zpT1060 : zcheck zpZ zpRS zpMT [zpC897, zpC938, zpC940, zpC941, zpC947] zpC1060 zpP12 1 zpA1060 [] 3000 = true := by decide +kernel
theorem zpT1061 : zcheck zpZ zpRS zpMT [zpC897, zpC949, zpC954, zpC956, zpC967] zpC1061 zpP12 1 zpA1061 [] 3000 = true := by decide +kernel
theorem zpT1062 : zcheck zpZ zpRS zpMT [zpC897, zpC969, zpC974, zpC978, zpC985] zpC1062 zpP12 1 zpA1062 [] 3000 = true := by decide +kernel
theorem zpT1063 : zcheck zpZ zpRS zpMT [zpC897, zpC987, zpC989, zpC990, zpC997] zpC1063 zpP12 1 zpA1063 [] 3000 = true := by decide +kernel
theorem zpT1064 : zcheck zpZ zpRS zpMT [zpC897, zpC999, zpC1011, zpC1015, zpC1032] zpC1064 zpP12 1 zpA1064 [] 3000 = true := by decide +kernel
theorem zpT1065 : zcheck zpZ zpRS zpMT [zpC897, zpC1037, zpC1039, zpC1040, zpC1046] zpC1065 zpP12 1 zpA1065 [] 3000 = true := by decide +kernel
theorem zpT1066 : zcheck zpZ zpRS zpMT [zpC897] zpC1066 zpP12 1 zpA1066 [] 3000 = true := by decide +kernel
theorem zpT1067 : zcheck zpZ zpRS zpMT [zpC897, zpC902, zpC906, zpC908, zpC916] zpC1067 zpP12 1 zpA1067 [] 3000 = true := by decide +kernel
theorem zpT1068 : zcheck zpZ zpRS zpMT [zpC897, zpC918, zpC922, zpC925, zpC933] zpC1068 zpP12 1 zpA1068 [] 3000 = true := by decide +kernel
theorem zpT1069 : zcheck zpZ zpRS zpMT [zpC897, zpC938, zpC940, zpC941, zpC947] zpC1069 zpP12 1 zpA1069 [] 3000 = true := by decide +kernel
theorem zpT1070 : zcheck zpZ zpRS zpMT [zpC897, zpC949, zpC954, zpC956, zpC967] zpC1070 zpP12 1 zpA1070 [] 3000 = true := by decide +kernel
theorem zpT1071 : zcheck zpZ zpRS zpMT [zpC897, zpC969, zpC974, zpC978, zpC985] zpC1071 zpP12 1 zpA1071 [] 3000 = true := by decide +kernel
theorem zpT1072 : zcheck zpZ zpRS zpMT [zpC897, zpC987, zpC989, zpC990, zpC997] zpC1072 zpP12 1 zpA1072 [] 3000 = true := by decide +kernel
theorem zpT1073 : zcheck zpZ zpRS zpMT [zpC897, zpC999, zpC1011, zpC1015, zpC1032] zpC1073 zpP12 1 zpA1073 [] 3000 = true := by decide +kernel
theorem zpT1074 : zcheck zpZ zpRS zpMT [zpC897, zpC1037, zpC1039, zpC1040, zpC1046] zpC1074 zpP12 1 zpA1074 [] 3000 = true := by decide +kernel
theorem zpT1075 : zcheck zpZ zpRS zpMT [zpC897] zpC1075 zpP12 1 zpA1075 [] 3000 = true := by decide +kernel
theorem zpT1076 : zcheck zpZ zpRS zpMT [zpC897, zpC902, zpC906, zpC908, zpC916] zpC1076 zpP12 1 zpA1076 [] 3000 = true := by decide +kernel
theorem zpT1077 : zcheck zpZ zpRS zpMT [zpC897, zpC918, zpC922, zpC925, zpC933] zpC1077 zpP12 1 zpA1077 [] 3000 = true := by decide +kernel
theorem zpT1078 : zcheck zpZ zpRS zpMT [zpC897, zpC938, zpC940, zpC941, zpC947] zpC1078 zpP12 1 zpA1078 [] 3000 = true := by decide +kernel
theorem zpT1079 : zcheck zpZ zpRS zpMT [zpC897, zpC949, zpC954, zpC956, zpC967] zpC1079 zpP12 1 zpA1079 [] 3000 = true := by decide +kernel
theorem zpT1080 : zcheck zpZ zpRS zpMT [zpC897, zpC969, zpC974, zpC978, zpC985] zpC1080 zpP12 1 zpA1080 [] 3000 = true := by decide +kernel
theorem zpT1081 : zcheck zpZ zpRS zpMT [zpC897, zpC987, zpC989, zpC990, zpC997] zpC1081 zpP12 1 zpA1081 [] 3000 = true := by decide +kernel
theorem zpT1082 : zcheck zpZ zpRS zpMT [zpC897, zpC999, zpC1011, zpC1015, zpC1032] zpC1082 zpP12 1 zpA1082 [] 3000 = true := by decide +kernel
theorem zpT1083 : zcheck zpZ zpRS zpMT [zpC897, zpC1037, zpC1039, zpC1040, zpC1046] zpC1083 zpP12 1 zpA1083 [] 3000 = true := by decide +kernel
theorem zpT1084 : zcheck zpZ zpRS zpMT [zpC897] zpC1084 zpP12 1 zpA1084 [] 3000 = true := by decide +kernel
theorem zpT1085 : zcheck zpZ zpRS zpMT [zpC897, zpC902, zpC906, zpC908, zpC916] zpC1085 zpP12 1 zpA1085 [] 3000 = true := by decide +kernel
theorem zpT1086 : zcheck zpZ zpRS zpMT [zpC897, zpC918, zpC922, zpC925, zpC933] zpC1086 zpP12 1 zpA1086 [] 3000 = true := by decide +kernel
theorem zpT1087 : zcheck zpZ zpRS zpMT [zpC897, zpC938, zpC940, zpC941, zpC947] zpC1087 zpP12 1 zpA1087 [] 3000 = true := by decide +kernel
theorem zpT1088 : zcheck zpZ zpRS zpMT [zpC897, zpC949, zpC954, zpC956, zpC967] zpC1088 zpP12 1 zpA1088 [] 3000 = true := by decide +kernel
theorem zpT1089 : zcheck zpZ zpRS zpMT [zpC897, zpC969, zpC974, zpC978, zpC985] zpC1089 zpP12 1 zpA1089 [] 3000 = true := by decide +kernel
theorem zpT1090 : zcheck zpZ zpRS zpMT [zpC897, zpC987, zpC989, zpC990, zpC997] zpC1090 zpP12 1 zpA1090 [] 3000 = true := by decide +kernel
theorem zpT1091 : zcheck zpZ zpRS zpMT [zpC897, zpC999, zpC1011, zpC1015, zpC1032] zpC1091 zpP12 1 zpA1091 [] 3000 = true := by decide +kernel
theorem zpT1092 : zcheck zpZ zpRS zpMT [zpC897, zpC1037, zpC1039, zpC1040, zpC1046] zpC1092 zpP12 1 zpA1092 [] 3000 = true := by decide +kernel
theorem zpT1093 : zcheck zpZ zpRS zpMT [zpC897] zpC1093 zpP12 1 zpA1093 [] 3000 = true := by decide +kernel
theorem zpT1094 : zcheck zpZ zpRS zpMT [zpC897, zpC902, zpC906, zpC908, zpC916] zpC1094 zpP12 1 zpA1094 [] 3000 = true := by decide +kernel
theorem zpT1095 : zcheck zpZ zpRS zpMT [zpC897, zpC918, zpC922, zpC925, zpC933] zpC1095 zpP12 1 zpA1095 [] 3000 = true := by decide +kernel
theorem zpT1096 : zcheck zpZ zpRS zpMT [zpC897, zpC938, zpC940, zpC941, zpC947] zpC1096 zpP12 1 zpA1096 [] 3000 = true := by decide +kernel
theorem zpT1097 : zcheck zpZ zpRS zpMT [zpC897, zpC949, zpC954, zpC956, zpC967] zpC1097 zpP12 1 zpA1097 [] 3000 = true := by decide +kernel
theorem zpT1098 : zcheck zpZ zpRS zpMT [zpC897, zpC969, zpC974, zpC978, zpC985] zpC1098 zpP12 1 zpA1098 [] 3000 = true := by decide +kernel
theorem zpT1099 : zcheck zpZ zpRS zpMT [zpC897, zpC987, zpC989, zpC990, zpC997] zpC1099 zpP12 1 zpA1099 [] 3000 = true := by decide +kernel
theorem zpT1100 : zcheck zpZ zpRS zpMT [zpC897, zpC999, zpC1011, zpC1015, zpC1032] zpC1100 zpP12 1 zpA1100 [] 3000 = true := by decide +kernel
theorem zpT1101 : zcheck zpZ zpRS zpMT [zpC897, zpC1037, zpC1039, zpC1040, zpC1046] zpC1101 zpP12 1 zpA1101 [] 3000 = true := by decide +kernel
theorem zpT1102 : zcheck zpZ zpRS zpMT [zpC897] zpC1102 zpP12 1 zpA1102 [] 3000 = true := by decide +kernel
theorem zpT1103 : zcheck zpZ zpRS zpMT [zpC897, zpC902, zpC906, zpC908, zpC916] zpC1103 zpP12 1 zpA1103 [] 3000 = true := by decide +kernel
theorem zpT1104 : zcheck zpZ zpRS zpMT [zpC897, zpC918, zpC922, zpC925, zpC933] zpC1104 zpP12 1 zpA1104 [] 3000 = true := by decide +kernel
theorem zpT1105 : zcheck zpZ zpRS zpMT [zpC897, zpC938, zpC940, zpC941, zpC947] zpC1105 zpP12 1 zpA1105 [] 3000 = true := by decide +kernel
theorem zpT1106 : zcheck zpZ zpRS zpMT [zpC897, zpC949, zpC954, zpC956, zpC967] zpC1106 zpP12 1 zpA1106 [] 3000 = true := by decide +kernel
theorem zpT1107 : zcheck zpZ zpRS zpMT [zpC897, zpC969, zpC974, zpC978, zpC985] zpC1107 zpP12 1 zpA1107 [] 3000 = true := by decide +kernel
theorem zpT1108 : zcheck zpZ zpRS zpMT [zpC897, zpC987, zpC989, zpC990, zpC997] zpC1108 zpP12 1 zpA1108 [] 3000 = true := by decide +kernel
theorem zpT1109 : zcheck zpZ zpRS zpMT [zpC897, zpC999, zpC1011, zpC1015, zpC1032] zpC1109 zpP12 1 zpA1109 [] 3000 = true := by decide +kernel
theorem zpT1110 : zcheck zpZ zpRS zpMT [zpC897, zpC1037, zpC1039, zpC1040, zpC1046] zpC1110 zpP12 1 zpA1110 [] 3000 = true := by decide +kernel
theorem zpT1111 : zcheck zpZ zpRS zpMT [zpC897] zpC1111 zpP12 1 zpA1111 [] 3000 = true := by decide +kernel
theorem zpT1112 : zcheck zpZ zpRS zpMT [zpC897, zpC902, zpC906, zpC908, zpC916] zpC1112 zpP12 1 zpA1112 [] 3000 = true := by decide +kernel
theorem zpT1113 : zcheck zpZ zpRS zpMT [zpC897, zpC918, zpC922, zpC925, zpC933] zpC1113 zpP12 1 zpA1113 [] 3000 = true := by decide +kernel
theorem zpT1114 : zcheck zpZ zpRS zpMT [zpC897, zpC938, zpC940, zpC941, zpC947] zpC1114 zpP12 1 zpA1114 [] 3000 = true := by decide +kernel
theorem zpT1115 : zcheck zpZ zpRS zpMT [zpC897, zpC949, zpC954, zpC956, zpC967] zpC1115 zpP12 1 zpA1115 [] 3000 = true := by decide +kernel
theorem zpT1116 : zcheck zpZ zpRS zpMT [zpC897, zpC969, zpC974, zpC978, zpC985] zpC1116 zpP12 1 zpA1116 [] 3000 = true := by decide +kernel
theorem zpT1117 : zcheck zpZ zpRS zpMT [zpC897, zpC987, zpC989, zpC990, zpC997] zpC1117 zpP12 1 zpA1117 [] 3000 = true := by decide +kernel
theorem zpT1118 : zcheck zpZ zpRS zpMT [zpC897, zpC999, zpC1011, zpC1015, zpC1032] zpC1118 zpP12 1 zpA1118 [] 3000 = true := by decide +kernel
theorem zpT1119 : zcheck zpZ zpRS zpMT [zpC897, zpC1037, zpC1039, zpC1040, zpC1046] zpC1119 zpP12 1 zpA1119 [] 3000 = true := by decide +kernel
