theorem zpT1120 : zcheck zpZ zpRS zpMT [zpC897] zpC1120 zpP12 1 zpA1120 [] 3000 = true := by decide +kernel
theorem zpT1121 : zcheck zpZ zpRS zpMT [zpC897, zpC902, zpC906, zpC908, zpC916] zpC1121 zpP12 1 zpA1121 [] 3000 = true := by decide +kernel
theorem zpT1122 : zcheck zpZ zpRS zpMT [zpC897, zpC918, zpC922, zpC925, zpC933] zpC1122 zpP12 1 zpA1122 [] 3000 = true := by decide +kernel
theorem zpT1123 : zcheck zpZ zpRS zpMT [zpC897, zpC938, zpC940, zpC941, zpC947] zpC1123 zpP12 1 zpA1123 [] 3000 = true := by decide +kernel
theorem zpT1124 : zcheck zpZ zpRS zpMT [zpC897, zpC949, zpC954, zpC956, zpC967] zpC1124 zpP12 1 zpA1124 [] 3000 = true := by decide +kernel
theorem zpT1125 : zcheck zpZ zpRS zpMT [zpC897, zpC969, zpC974, zpC978, zpC985] zpC1125 zpP12 1 zpA1125 [] 3000 = true := by decide +kernel
theorem zpT1126 : zcheck zpZ zpRS zpMT [zpC897, zpC987, zpC989, zpC990, zpC997] zpC1126 zpP12 1 zpA1126 [] 3000 = true := by decide +kernel
theorem zpT1127 : zcheck zpZ zpRS zpMT [zpC897, zpC999, zpC1011, zpC1015, zpC1032] zpC1127 zpP12 1 zpA1127 [] 3000 = true := by decide +kernel
theorem zpT1128 : zcheck zpZ zpRS zpMT [zpC897, zpC1037, zpC1039, zpC1040, zpC1046] zpC1128 zpP12 1 zpA1128 [] 3000 = true := by decide +kernel
theorem zpT1129 : zcheck zpZ zpRS zpMT [zpC897] zpC1129 zpP12 1 zpA1129 [] 3000 = true := by decide +kernel
theorem zpT1130 : zcheck zpZ zpRS zpMT [zpC897, zpC902, zpC906, zpC908, zpC916] zpC1130 zpP12 1 zpA1130 [] 3000 = true := by decide +kernel
theorem zpT1131 : zcheck zpZ zpRS zpMT [zpC897, zpC918, zpC922, zpC925, zpC933] zpC1131 zpP12 1 zpA1131 [] 3000 = true := by decide +kernel
theorem zpT1132 : zcheck zpZ zpRS zpMT [zpC897, zpC938, zpC940, zpC941, zpC947] zpC1132 zpP12 1 zpA1132 [] 3000 = true := by decide +kernel
theorem zpT1133 : zcheck zpZ zpRS zpMT [zpC897, zpC949, zpC954, zpC956, zpC967] zpC1133 zpP12 1 zpA1133 [] 3000 = true := by decide +kernel
theorem zpT1134 : zcheck zpZ zpRS zpMT [zpC897, zpC969, zpC974, zpC978, zpC985] zpC1134 zpP12 1 zpA1134 [] 3000 = true := by decide +kernel
theorem zpT1135 : zcheck zpZ zpRS zpMT [zpC897, zpC987, zpC989, zpC990, zpC997] zpC1135 zpP12 1 zpA1135 [] 3000 = true := by decide +kernel
theorem zpT1136 : zcheck zpZ zpRS zpMT [zpC897, zpC999, zpC1011, zpC1015, zpC1032] zpC1136 zpP12 1 zpA1136 [] 3000 = true := by decide +kernel
theorem zpT1137 : zcheck zpZ zpRS zpMT [zpC897, zpC1037, zpC1039, zpC1040, zpC1046] zpC1137 zpP12 1 zpA1137 [] 3000 = true := by decide +kernel
theorem zpT1138 : zcheck zpZ zpRS zpMT [zpC897] zpC1138 zpP12 1 zpA1138 [] 3000 = true := by decide +kernel
theorem zpT1139 : zcheck zpZ zpRS zpMT [zpC897, zpC902, zpC906, zpC908, zpC916] zpC1139 zpP12 1 zpA1139 [] 3000 = true := by decide +kernel
theorem zpT1140 : zcheck zpZ zpRS zpMT [zpC897, zpC918, zpC922, zpC925, zpC933] zpC1140 zpP12 1 zpA1140 [] 3000 = true := by decide +kernel
theorem zpT1141 : zcheck zpZ zpRS zpMT [zpC897, zpC938, zpC940, zpC941, zpC947] zpC1141 zpP12 1 zpA1141 [] 3000 = true := by decide +kernel
theorem zpT1142 : zcheck zpZ zpRS zpMT [zpC897, zpC949, zpC954, zpC956, zpC967] zpC1142 zpP12 1 zpA1142 [] 3000 = true := by decide +kernel
theorem zpT1143 : zcheck zpZ zpRS zpMT [zpC897, zpC969, zpC974, zpC978, zpC985] zpC1143 zpP12 1 zpA1143 [] 3000 = true := by decide +kernel
theorem zpT1144 : zcheck zpZ zpRS zpMT [zpC897, zpC987, zpC989, zpC990, zpC997] zpC1144 zpP12 1 zpA1144 [] 3000 = true := by decide +kernel
theorem zpT1145 : zcheck zpZ zpRS zpMT [zpC897, zpC999, zpC1011, zpC1015, zpC1032] zpC1145 zpP12 1 zpA1145 [] 3000 = true := by decide +kernel
theorem zpT1146 : zcheck zpZ zpRS zpMT [zpC897, zpC1037, zpC1039, zpC1040, zpC1046] zpC1146 zpP12 1 zpA1146 [] 3000 = true := by decide +kernel
theorem zpT1147 : zcheck zpZ zpRS zpMT [zpC897] zpC1147 zpP12 1 zpA1147 [] 3000 = true := by decide +kernel
theorem zpT1148 : zcheck zpZ zpRS zpMT [zpC897, zpC902, zpC906, zpC908, zpC916] zpC1148 zpP12 1 zpA1148 [] 3000 = true := by decide +kernel
theorem zpT1149 : zcheck zpZ zpRS zpMT [zpC897, zpC918, zpC922, zpC925, zpC933] zpC1149 zpP12 1 zpA1149 [] 3000 = true := by decide +kernel
theorem zpT1150 : zcheck zpZ zpRS zpMT [zpC897, zpC938, zpC940, zpC941, zpC947] zpC1150 zpP12 1 zpA1150 [] 3000 = true := by decide +kernel
theorem zpT1151 : zcheck zpZ zpRS zpMT [zpC897, zpC949, zpC954, zpC956, zpC967] zpC1151 zpP12 1 zpA1151 [] 3000 = true := by decide +kernel
theorem zpT1152 : zcheck zpZ zpRS zpMT [zpC897, zpC969, zpC974, zpC978, zpC985] zpC1152 zpP12 1 zpA1152 [] 3000 = true := by decide +kernel
theorem zpT1153 : zcheck zpZ zpRS zpMT [zpC897, zpC987, zpC989, zpC990, zpC997] zpC1153 zpP12 1 zpA1153 [] 3000 = true := by decide +kernel
theorem zpT1154 : zcheck zpZ zpRS zpMT [zpC897, zpC999, zpC1011, zpC1015, zpC1032] zpC1154 zpP12 1 zpA1154 [] 3000 = true := by decide +kernel
theorem zpT1155 : zcheck zpZ zpRS zpMT [zpC897, zpC1037, zpC1039, zpC1040, zpC1046] zpC1155 zpP12 1 zpA1155 [] 3000 = true := by decide +kernel
theorem zpT1156 : zcheck zpZ zpRS zpMT [zpC897] zpC1156 zpP12 1 zpA1156 [] 3000 = true := by decide +kernel
theorem zpT1157 : zcheck zpZ zpRS zpMT [zpC897, zpC902, zpC906, zpC908, zpC916] zpC1157 zpP12 1 zpA1157 [] 3000 = true := by decide +kernel
theorem zpT1158 : zcheck zpZ zpRS zpMT [zpC897, zpC918, zpC922, zpC925, zpC933] zpC1158 zpP12 1 zpA1158 [] 3000 = true := by decide +kernel
theorem zpT1159 : zcheck zpZ zpRS zpMT [zpC897, zpC938, zpC940, zpC941, zpC947] zpC1159 zpP12 1 zpA1159 [] 3000 = true := by decide +kernel
theorem zpT1160 : zcheck zpZ zpRS zpMT [zpC897, zpC949, zpC954, zpC956, zpC967] zpC1160 zpP12 1 zpA1160 [] 3000 = true := by decide +kernel
theorem zpT1161 : zcheck zpZ zpRS zpMT [zpC897, zpC969, zpC974, zpC978, zpC985] zpC1161 zpP12 1 zpA1161 [] 3000 = true := by decide +kernel
theorem zpT1162 : zcheck zpZ zpRS zpMT [zpC897, zpC987, zpC989, zpC990, zpC997] zpC1162 zpP12 1 zpA1162 [] 3000 = true := by decide +kernel
theorem zpT1163 : zcheck zpZ zpRS zpMT [zpC897, zpC999, zpC1011, zpC1015, zpC1032] zpC1163 zpP12 1 zpA1163 [] 3000 = true := by decide +kernel
theorem zpT1164 : zcheck zpZ zpRS zpMT [zpC897, zpC1037, zpC1039, zpC1040, zpC1046] zpC1164 zpP12 1 zpA1164 [] 3000 = true := by decide +kernel
theorem zpT1165 : zcheck zpZ zpRS zpMT [zpC897] zpC1165 zpP12 1 zpA1165 [] 3000 = true := by decide +kernel
theorem zpT1166 : zcheck zpZ zpRS zpMT [zpC897, zpC902, zpC906, zpC908, zpC916] zpC1166 zpP12 1 zpA1166 [] 3000 = true := by decide +kernel
theorem zpT1167 : zcheck zpZ zpRS zpMT [zpC897, zpC918, zpC922, zpC925, zpC933] zpC1167 zpP12 1 zpA1167 [] 3000 = true := by decide +kernel
theorem zpT1168 : zcheck zpZ zpRS zpMT [zpC897, zpC938, zpC940, zpC941, zpC947] zpC1168 zpP12 1 zpA1168 [] 3000 = true := by decide +kernel
theorem zpT1169 : zcheck zpZ zpRS zpMT [zpC897, zpC949, zpC954, zpC956, zpC967] zpC1169 zpP12 1 zpA1169 [] 3000 = true := by decide +kernel
theorem zpT1170 : zcheck zpZ zpRS zpMT [zpC897, zpC969, zpC974, zpC978, zpC985] zpC1170 zpP12 1 zpA1170 [] 3000 = true := by decide +kernel
theorem zpT1171 : zcheck zpZ zpRS zpMT [zpC897, zpC987, zpC989, zpC990, zpC997] zpC1171 zpP12 1 zpA1171 [] 3000 = true := by decide +kernel
theorem zpT1172 : zcheck zpZ zpRS zpMT [zpC897, zpC999, zpC1011, zpC1015, zpC1032] zpC1172 zpP12 1 zpA1172 [] 3000 = true := by decide +kernel
theorem zpT1173 : zcheck zpZ zpRS zpMT [zpC897, zpC1037, zpC1039, zpC1040, zpC1046] zpC1173 zpP12 1 zpA1173 [] 3000 = true := by decide +kernel
theorem zpT1174 : zcheck zpZ zpRS zpMT [zpC897] zpC1174 zpP12 1 zpA1174 [] 3000 = true := by decide +kernel
theorem zpT1175 : zcheck zpZ zpRS zpMT [zpC897, zpC902, zpC906, zpC908, zpC916] zpC1175 zpP12 1 zpA1175 [] 3000 = true := by decide +kernel
theorem zpT1176 : zcheck zpZ zpRS zpMT [zpC897, zpC918, zpC922, zpC925, zpC933] zpC1176 zpP12 1 zpA1176 [] 3000 = true := by decide +kernel
theorem zpT1177 : zcheck zpZ zpRS zpMT [zpC897, zpC938, zpC940, zpC941, zpC947] zpC1177 zpP12 1 zpA1177 [] 3000 = true := by decide +kernel
theorem zpT1178 : zcheck zpZ zpRS zpMT [zpC897, zpC949, zpC954, zpC956, zpC967] zpC1178 zpP12 1 zpA1178 [] 3000 = true := by decide +kernel
theorem zpT1179 : zcheck zpZ zpRS zpMT [zpC897, zpC969, zpC974, zpC978, zpC985] zpC1179 zpP12 1 zpA1179 [] 3000 = true := by decide +kernel
theorem zpT1180 : zcheck zpZ zpRS zpMT [zpC897, zpC987, zpC989, zpC990, zpC997] zpC1180 zpP12 1 zpA1180 [] 3000 = true := by decide +kernel
theorem zpT1181 : zcheck zpZ zpRS zpMT [zpC897, zpC999, zpC1011, zpC1015, zpC1032] zpC1181 zpP12 1 zpA1181 [] 3000 = true := by decide +kernel
theorem zpT1182 : zcheck zpZ zpRS zpMT [zpC897, zpC1037, zpC1039, zpC1040, zpC1046] zpC1182 zpP12 1 zpA1182 [] 3000 = true := by decide +kernel
theorem zpT1183 : zcheck zpZ zpRS zpMT [zpC897] zpC1183 zpP12 1 zpA1183 [] 3000 = true := by decide +kernel
theorem zpT1184 : zcheck zpZ zpRS zpMT [zpC897, zpC902, zpC906, zpC908, zpC916] zpC1184 zpP12 1 zpA1184 [] 3000 = true := by decide +kernel
theorem zpT1185 : zcheck zpZ zpRS zpMT [zpC897, zpC918, zpC922, zpC925, zpC933] zpC1185 zpP12 1 zpA1185 [] 3000 = true := by decide +kernel
theorem zpT1186 : zcheck zpZ zpRS zpMT [zpC897, zpC938, zpC940, zpC941, zpC947] zpC1186 zpP12 1 zpA1186 [] 3000 = true := by decide +kernel
theorem zpT1187 : zcheck zpZ zpRS zpMT [zpC897, zpC949, zpC954, zpC956, zpC967] zpC1187 zpP12 1 zpA1187 [] 3000 = true := by decide +kernel
theorem zpT1188 : zcheck zpZ zpRS zpMT [zpC897, zpC969, zpC974, zpC978, zpC985] zpC1188 zpP12 1 zpA1188 [] 3000 = true := by decide +kernel
theorem zpT1189 : zcheck zpZ zpRS zpMT [zpC897, zpC987, zpC989, zpC990, zpC997] zpC1189 zpP12 1 zpA1189 [] 3000 = true := by decide +kernel
theorem zpT1190 : zcheck zpZ zpRS zpMT [zpC897, zpC999, zpC1011, zpC1015, zpC1032] zpC1190 zpP12 1 zpA1190 [] 3000 = true := by decide +kernel
theorem zpT1191 : zcheck zpZ zpRS zpMT [zpC897, zpC1037, zpC1039, zpC1040, zpC1046] zpC1191 zpP12 1 zpA1191 [] 3000 = true := by decide +kernel
theorem zpT1192 : zcheck zpZ zpRS zpMT [zpC897] zpC1192 zpP12 1 zpA1192 [] 3000 = true := by decide +kernel
theorem zpT1193 : zcheck zpZ zpRS zpMT [zpC897, zpC902, zpC906, zpC908, zpC916] zpC1193 zpP12 1 zpA1193 [] 3000 = true := by decide +kernel
theorem zpT1194 : zcheck zpZ zpRS zpMT [zpC897, zpC918, zpC922, zpC925, zpC933] zpC1194 zpP12 1 zpA1194 [] 3000 = true := by decide +kernel
theorem zpT1195 : zcheck zpZ zpRS zpMT [zpC897, zpC938, zpC940, zpC941, zpC947] zpC1195 zpP12 1 zpA1195 [] 3000 = true := by decide +kernel
theorem zpT1196 : zcheck zpZ zpRS zpMT [zpC897, zpC949, zpC954, zpC956, zpC967] zpC1196 zpP12 1 zpA1196 [] 3000 = true := by decide +kernel
theorem zpT1197 : zcheck zpZ zpRS zpMT [zpC897, zpC969, zpC974, zpC978, zpC985] zpC1197 zpP12 1 zpA1197 [] 3000 = true := by decide +kernel
theorem zpT1198 : zcheck zpZ zpRS zpMT [zpC897, zpC987, zpC989, zpC990, zpC997] zpC1198 zpP12 1 zpA1198 [] 3000 = true := by decide +kernel
theorem zpT1199 : zcheck zpZ zpRS zpMT [zpC897, zpC999, zpC1011, zpC1015, zpC1032] zpC1199 zpP12 1 zpA1199 [] 3000 = true := by decide +kernel
theorem zpT1200 : zcheck zpZ zpRS zpMT [zpC897, zpC1037, zpC1039, zpC1040, zpC1046] zpC1200 zpP12 1 zpA1200 [] 3000 = true := by decide +kernel
theorem zpT1201 : zcheck zpZ zpRS zpMT [zpC897] zpC1201 zpP12 1 zpA1201 [] 3000 = true := by decide +kernel
theorem zpT1202 : zcheck zpZ zpRS zpMT [zpC897, zpC902, zpC906, zpC908, zpC916] zpC1202 zpP12 1 zpA1202 [] 3000 = true := by decide +kernel
theorem zpT1203 : zcheck zpZ zpRS zpMT [zpC897, zpC918, zpC922, zpC925, zpC933] zpC1203 zpP12 1 zpA1203 [] 3000 = true := by decide +kernel
theorem zpT1204 : zcheck zpZ zpRS zpMT [zpC897, zpC938, zpC940, zpC941, zpC947] zpC1204 zpP12 1 zpA1204 [] 3000 = true := by decide +kernel
theorem zpT1205 : zcheck zpZ zpRS zpMT [zpC897, zpC949, zpC954, zpC956, zpC967] zpC1205 zpP12 1 zpA1205 [] 3000 = true := by decide +kernel
theorem zpT1206 : zcheck zpZ zpRS zpMT [zpC897, zpC969, zpC974, zpC978, zpC985] zpC1206 zpP12 1 zpA1206 [] 3000 = true := by decide +kernel
theorem zpT1207 : zcheck zpZ zpRS zpMT [zpC897, zpC987, zpC989, zpC990, zpC997] zpC1207 zpP12 1 zpA1207 [] 3000 = true := by decide +kernel
theorem zpT1208 : zcheck zpZ zpRS zpMT [zpC897, zpC999, zpC1011, zpC1015, zpC1032] zpC1208 zpP12 1 zpA1208 [] 3000 = true := by decide +kernel
theorem zpT1209 : zcheck zpZ zpRS zpMT [zpC897, zpC1037, zpC1039, zpC1040, zpC1046] zpC1209 zpP12 1 zpA1209 [] 3000 = true := by decide +kernel
theorem zpT1210 : zcheck zpZ zpRS zpMT [zpC897] zpC1210 zpP12 1 zpA1210 [] 3000 = true := by decide +kernel
theorem zpT1211 : zcheck zpZ zpRS zpMT [zpC897, zpC902, zpC906, zpC908, zpC916] zpC1211 zpP12 1 zpA1211 [] 3000 = true := by decide +kernel
theorem zpT1212 : zcheck zpZ zpRS zpMT [zpC897, zpC918, zpC922, zpC925, zpC933] zpC1212 zpP12 1 zpA1212 [] 3000 = true := by decide +kernel
theorem zpT1213 : zcheck zpZ zpRS zpMT [zpC897, zpC938, zpC940, zpC941, zpC947] zpC1213 zpP12 1 zpA1213 [] 3000 = true := by decide +kernel
theorem zpT1214 : zcheck zpZ zpRS zpMT [zpC897, zpC949, zpC954, zpC956, zpC967] zpC1214 zpP12 1 zpA1214 [] 3000 = true := by decide +kernel
theorem zpT1215 : zcheck zpZ zpRS zpMT [zpC897, zpC969, zpC974, zpC978, zpC985] zpC1215 zpP12 1 zpA1215 [] 3000 = true := by decide +kernel
