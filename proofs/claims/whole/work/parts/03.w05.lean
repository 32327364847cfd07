set_option maxRecDepth 20000 in
theorem tw_1133 : Cond.selects RX11 yX11_mean yX11_mean ∈ WT := wt_5 172 rfl rfl
set_option maxRecDepth 20000 in
theorem tw_1134 : Cond.code yX11_mean cX11_mean 7 (Option.some Jvm.ClassFile.FieldType.int) ∈ WT := wt_5 173 rfl rfl
set_option maxRecDepth 20000 in
theorem tw_1135 : Cond.methodLink RX11 168 yX11_drawnOne ∈ WT := wt_5 174 rfl rfl
set_option maxRecDepth 20000 in
theorem tw_1137 : Cond.instanceMethod yX11_drawnOne ∈ WT := wt_5 176 rfl rfl
set_option maxRecDepth 20000 in
theorem tw_1138 : Cond.code yX11_drawnOne cX11_drawnOne 3 (Option.some Jvm.ClassFile.FieldType.int) ∈ WT := wt_5 177 rfl rfl
set_option maxRecDepth 20000 in
theorem tw_1139 : Cond.methodLink RX11 164 yX11_draw ∈ WT := wt_5 178 rfl rfl
set_option maxRecDepth 20000 in
theorem tw_1141 : Cond.instanceMethod yX11_draw ∈ WT := wt_5 180 rfl rfl
set_option maxRecDepth 20000 in
theorem tw_1142 : Cond.code yX11_draw cX11_draw 1 (Option.some Jvm.ClassFile.FieldType.int) ∈ WT := wt_5 181 rfl rfl
set_option maxRecDepth 20000 in
theorem tw_1143 : Cond.constant RX11 163 (1103515245) ∈ WT := wt_5 182 rfl rfl
set_option maxRecDepth 20000 in
theorem tw_1144 : Cond.methodLink RX11 171 yJxf58ca_floatToIntBits_5c35a ∈ WT := wt_5 183 rfl rfl
set_option maxRecDepth 20000 in
theorem tw_1145 : Cond.static yJxf58ca_floatToIntBits_5c35a ∈ WT := wt_5 184 rfl rfl
set_option maxRecDepth 20000 in
theorem tw_1146 : Cond.code yJxf58ca_floatToIntBits_5c35a cJxf58ca_floatToIntBits_5c35a 1 (Option.some Jvm.ClassFile.FieldType.int) ∈ WT := wt_5 185 rfl rfl
set_option maxRecDepth 20000 in
theorem tw_1147 : Cond.methodLink RJxf58ca 59 yJxf58ca_isNaN_12338 ∈ WT := wt_5 186 rfl rfl
set_option maxRecDepth 20000 in
theorem tw_1148 : Cond.static yJxf58ca_isNaN_12338 ∈ WT := wt_5 187 rfl rfl
set_option maxRecDepth 20000 in
theorem tw_1149 : Cond.code yJxf58ca_isNaN_12338 cJxf58ca_isNaN_12338 1 (Option.some Jvm.ClassFile.FieldType.boolean) ∈ WT := wt_5 188 rfl rfl
set_option maxRecDepth 20000 in
theorem tw_1150 : Cond.methodLink RJxf58ca 74 ⟨"java/lang/Float", "floatToRawIntBits", "(F)I"⟩ ∈ WT := wt_5 189 rfl rfl
set_option maxRecDepth 20000 in
theorem tw_1151 : Cond.static ⟨"java/lang/Float", "floatToRawIntBits", "(F)I"⟩ ∈ WT := wt_5 190 rfl rfl
set_option maxRecDepth 20000 in
theorem tw_1152 : Cond.native ⟨"java/lang/Float", "floatToRawIntBits", "(F)I"⟩ ∈ WT := wt_5 191 rfl rfl
set_option maxRecDepth 20000 in
theorem tw_1153 : Cond.constant RJxf58ca 77 (2143289344) ∈ WT := wt_5 192 rfl rfl
set_option maxRecDepth 20000 in
theorem tw_1154 : Cond.methodLink RL 98 yX11_until ∈ WT := wt_5 193 rfl rfl
set_option maxRecDepth 20000 in
theorem tw_1155 : Cond.instanceMethod yX11_until ∈ WT := wt_5 194 rfl rfl
set_option maxRecDepth 20000 in
theorem tw_1156 : Cond.selects RX11 yX11_until yX11_until ∈ WT := wt_5 195 rfl rfl
set_option maxRecDepth 20000 in
theorem tw_1157 : Cond.code yX11_until cX11_until 5 (Option.some Jvm.ClassFile.FieldType.int) ∈ WT := wt_5 196 rfl rfl
set_option maxRecDepth 20000 in
theorem tw_1158 : Cond.methodLink RL 102 yX11_mark ∈ WT := wt_5 197 rfl rfl
set_option maxRecDepth 20000 in
theorem tw_1159 : Cond.instanceMethod yX11_mark ∈ WT := wt_5 198 rfl rfl
set_option maxRecDepth 20000 in
theorem tw_1160 : Cond.selects RX11 yX11_mark yX11_mark ∈ WT := wt_5 199 rfl rfl
set_option maxRecDepth 20000 in
theorem tw_1161 : Cond.code yX11_mark cX11_mark 2 (Option.some Jvm.ClassFile.FieldType.int) ∈ WT := wt_5 200 rfl rfl
set_option maxRecDepth 20000 in
theorem tw_1162 : Cond.methodLink RL 106 yX11_touched ∈ WT := wt_5 201 rfl rfl
set_option maxRecDepth 20000 in
theorem tw_1163 : Cond.instanceMethod yX11_touched ∈ WT := wt_5 202 rfl rfl
set_option maxRecDepth 20000 in
theorem tw_1164 : Cond.selects RX11 yX11_touched yX11_touched ∈ WT := wt_5 203 rfl rfl
set_option maxRecDepth 20000 in
theorem tw_1165 : Cond.code yX11_touched cX11_touched 3 (Option.some Jvm.ClassFile.FieldType.int) ∈ WT := wt_5 204 rfl rfl
set_option maxRecDepth 20000 in
theorem tw_1166 : Cond.methodLink RX11 180 yX11_touchedBy ∈ WT := wt_5 205 rfl rfl
set_option maxRecDepth 20000 in
theorem tw_1168 : Cond.instanceMethod yX11_touchedBy ∈ WT := wt_5 207 rfl rfl
set_option maxRecDepth 20000 in
theorem tw_1169 : Cond.code yX11_touchedBy cX11_touchedBy 3 (Option.some Jvm.ClassFile.FieldType.int) ∈ WT := wt_5 208 rfl rfl
set_option maxRecDepth 20000 in
theorem tw_1170 : Cond.methodLink RL 110 yX11_touches ∈ WT := wt_5 209 rfl rfl
set_option maxRecDepth 20000 in
theorem tw_1171 : Cond.instanceMethod yX11_touches ∈ WT := wt_5 210 rfl rfl
set_option maxRecDepth 20000 in
theorem tw_1172 : Cond.selects RX11 yX11_touches yX11_touches ∈ WT := wt_5 211 rfl rfl
set_option maxRecDepth 20000 in
theorem tw_1173 : Cond.code yX11_touches cX11_touches 11 (Option.some Jvm.ClassFile.FieldType.int) ∈ WT := wt_5 212 rfl rfl
set_option maxRecDepth 20000 in
theorem tw_1174 : Cond.methodLink RL 114 yX11_drawn ∈ WT := wt_5 213 rfl rfl
set_option maxRecDepth 20000 in
theorem tw_1175 : Cond.instanceMethod yX11_drawn ∈ WT := wt_5 214 rfl rfl
set_option maxRecDepth 20000 in
theorem tw_1176 : Cond.selects RX11 yX11_drawn yX11_drawn ∈ WT := wt_5 215 rfl rfl
set_option maxRecDepth 20000 in
theorem tw_1177 : Cond.code yX11_drawn cX11_drawn 5 (Option.some Jvm.ClassFile.FieldType.int) ∈ WT := wt_5 216 rfl rfl
set_option maxRecDepth 20000 in
theorem tw_1178 : Cond.methodLink RL 119 yX11_file ∈ WT := wt_5 217 rfl rfl
set_option maxRecDepth 20000 in
theorem tw_1179 : Cond.instanceMethod yX11_file ∈ WT := wt_5 218 rfl rfl
set_option maxRecDepth 20000 in
theorem tw_1180 : Cond.selects RX11 yX11_file yX11_file ∈ WT := wt_5 219 rfl rfl
set_option maxRecDepth 20000 in
theorem tw_1181 : Cond.code yX11_file cX11_file 4 (Option.some Jvm.ClassFile.FieldType.int) ∈ WT := wt_5 220 rfl rfl
set_option maxRecDepth 20000 in
theorem tw_1182 : Cond.methodLink RX11 186 yX11_filedAt ∈ WT := wt_5 221 rfl rfl
set_option maxRecDepth 20000 in
theorem tw_1184 : Cond.instanceMethod yX11_filedAt ∈ WT := wt_5 223 rfl rfl
set_option maxRecDepth 20000 in
theorem tw_1185 : Cond.code yX11_filedAt cX11_filedAt 5 (Option.some Jvm.ClassFile.FieldType.int) ∈ WT := wt_5 224 rfl rfl
set_option maxRecDepth 20000 in
theorem tw_1186 : Cond.methodLink RL 123 yX11_filed ∈ WT := wt_5 225 rfl rfl
set_option maxRecDepth 20000 in
theorem tw_1187 : Cond.instanceMethod yX11_filed ∈ WT := wt_5 226 rfl rfl
set_option maxRecDepth 20000 in
theorem tw_1188 : Cond.selects RX11 yX11_filed yX11_filed ∈ WT := wt_5 227 rfl rfl
set_option maxRecDepth 20000 in
theorem tw_1189 : Cond.code yX11_filed cX11_filed 4 (Option.some Jvm.ClassFile.FieldType.int) ∈ WT := wt_5 228 rfl rfl
set_option maxRecDepth 20000 in
theorem tw_1190 : Cond.methodLink RL 127 yX11_alike ∈ WT := wt_5 229 rfl rfl
set_option maxRecDepth 20000 in
theorem tw_1191 : Cond.instanceMethod yX11_alike ∈ WT := wt_5 230 rfl rfl
set_option maxRecDepth 20000 in
theorem tw_1192 : Cond.selects RX11 yX11_alike yX11_alike ∈ WT := wt_5 231 rfl rfl
set_option maxRecDepth 20000 in
theorem tw_1193 : Cond.code yX11_alike cX11_alike 7 (Option.some Jvm.ClassFile.FieldType.int) ∈ WT := wt_5 232 rfl rfl
set_option maxRecDepth 20000 in
theorem tw_1194 : Cond.methodLink RL 131 yX11_forget ∈ WT := wt_5 233 rfl rfl
set_option maxRecDepth 20000 in
theorem tw_1195 : Cond.instanceMethod yX11_forget ∈ WT := wt_5 234 rfl rfl
set_option maxRecDepth 20000 in
theorem tw_1196 : Cond.selects RX11 yX11_forget yX11_forget ∈ WT := wt_5 235 rfl rfl
set_option maxRecDepth 20000 in
theorem tw_1197 : Cond.code yX11_forget cX11_forget 2 (Option.some Jvm.ClassFile.FieldType.int) ∈ WT := wt_5 236 rfl rfl
set_option maxRecDepth 20000 in
theorem tw_1198 : Cond.methodLink RL 135 yX11_feed ∈ WT := wt_5 237 rfl rfl
set_option maxRecDepth 20000 in
theorem tw_1199 : Cond.instanceMethod yX11_feed ∈ WT := wt_5 238 rfl rfl
set_option maxRecDepth 20000 in
theorem tw_1200 : Cond.selects RX11 yX11_feed yX11_feed ∈ WT := wt_5 239 rfl rfl
set_option maxRecDepth 20000 in
theorem tw_1201 : Cond.code yX11_feed cX11_feed 4 (Option.some Jvm.ClassFile.FieldType.int) ∈ WT := wt_6 0 rfl rfl
set_option maxRecDepth 20000 in
theorem tw_1202 : Cond.methodLink RL 139 yX11_wipe ∈ WT := wt_6 1 rfl rfl
set_option maxRecDepth 20000 in
theorem tw_1203 : Cond.instanceMethod yX11_wipe ∈ WT := wt_6 2 rfl rfl
set_option maxRecDepth 20000 in
theorem tw_1204 : Cond.selects RX11 yX11_wipe yX11_wipe ∈ WT := wt_6 3 rfl rfl
set_option maxRecDepth 20000 in
theorem tw_1205 : Cond.code yX11_wipe cX11_wipe 2 (Option.some Jvm.ClassFile.FieldType.int) ∈ WT := wt_6 4 rfl rfl
set_option maxRecDepth 20000 in
theorem tw_1206 : Cond.methodLink RL 143 yX11_text ∈ WT := wt_6 5 rfl rfl
set_option maxRecDepth 20000 in
theorem tw_1207 : Cond.instanceMethod yX11_text ∈ WT := wt_6 6 rfl rfl
set_option maxRecDepth 20000 in
theorem tw_1208 : Cond.selects RX11 yX11_text yX11_text ∈ WT := wt_6 7 rfl rfl
set_option maxRecDepth 20000 in
theorem tw_1209 : Cond.code yX11_text cX11_text 3 (Option.some Jvm.ClassFile.FieldType.int) ∈ WT := wt_6 8 rfl rfl
set_option maxRecDepth 20000 in
theorem tw_1210 : Cond.methodLink RX11 265 yX11_isText ∈ WT := wt_6 9 rfl rfl
set_option maxRecDepth 20000 in
theorem tw_1212 : Cond.instanceMethod yX11_isText ∈ WT := wt_6 11 rfl rfl
set_option maxRecDepth 20000 in
theorem tw_1213 : Cond.code yX11_isText cX11_isText 1 (Option.some Jvm.ClassFile.FieldType.boolean) ∈ WT := wt_6 12 rfl rfl
set_option maxRecDepth 20000 in
theorem tw_1214 : Cond.methodLink RX11 218 yX11_goesOn ∈ WT := wt_6 13 rfl rfl
set_option maxRecDepth 20000 in
theorem tw_1216 : Cond.instanceMethod yX11_goesOn ∈ WT := wt_6 15 rfl rfl
set_option maxRecDepth 20000 in
theorem tw_1217 : Cond.code yX11_goesOn cX11_goesOn 1 (Option.none : Option Jvm.ClassFile.FieldType) ∈ WT := wt_6 16 rfl rfl
set_option maxRecDepth 20000 in
theorem tw_1218 : Cond.methodLink RX11 195 yX11_isAt ∈ WT := wt_6 17 rfl rfl
set_option maxRecDepth 20000 in
theorem tw_1220 : Cond.instanceMethod yX11_isAt ∈ WT := wt_6 19 rfl rfl
set_option maxRecDepth 20000 in
theorem tw_1221 : Cond.code yX11_isAt cX11_isAt 3 (Option.some Jvm.ClassFile.FieldType.boolean) ∈ WT := wt_6 20 rfl rfl
set_option maxRecDepth 20000 in
theorem tw_1222 : Cond.methodLink RX11 261 yX11_isLaw ∈ WT := wt_6 21 rfl rfl
set_option maxRecDepth 20000 in
theorem tw_1224 : Cond.instanceMethod yX11_isLaw ∈ WT := wt_6 23 rfl rfl
set_option maxRecDepth 20000 in
theorem tw_1225 : Cond.code yX11_isLaw cX11_isLaw 2 (Option.some Jvm.ClassFile.FieldType.boolean) ∈ WT := wt_6 24 rfl rfl
set_option maxRecDepth 20000 in
theorem tw_1227 : Cond.methodLink RX11 214 yX11_isWord ∈ WT := wt_6 26 rfl rfl
set_option maxRecDepth 20000 in
theorem tw_1229 : Cond.instanceMethod yX11_isWord ∈ WT := wt_6 28 rfl rfl
set_option maxRecDepth 20000 in
theorem tw_1230 : Cond.code yX11_isWord cX11_isWord 4 (Option.some Jvm.ClassFile.FieldType.boolean) ∈ WT := wt_6 29 rfl rfl
set_option maxRecDepth 20000 in
theorem tw_1231 : Cond.methodLink RX11 207 yJ0_length_8abf5 ∈ WT := wt_6 30 rfl rfl
set_option maxRecDepth 20000 in
theorem tw_1232 : Cond.methodLink RX11 210 yJ0_charAt_5068e ∈ WT := wt_6 31 rfl rfl
set_option maxRecDepth 20000 in
theorem tw_1233 : Cond.methodLink RX11 249 yX11_isTest ∈ WT := wt_6 32 rfl rfl
set_option maxRecDepth 20000 in
theorem tw_1235 : Cond.instanceMethod yX11_isTest ∈ WT := wt_6 34 rfl rfl
set_option maxRecDepth 20000 in
theorem tw_1236 : Cond.code yX11_isTest cX11_isTest 2 (Option.some Jvm.ClassFile.FieldType.boolean) ∈ WT := wt_6 35 rfl rfl
set_option maxRecDepth 20000 in
theorem tw_1238 : Cond.methodLink RX11 221 yX11_takes ∈ WT := wt_6 37 rfl rfl
set_option maxRecDepth 20000 in
theorem tw_1240 : Cond.instanceMethod yX11_takes ∈ WT := wt_6 39 rfl rfl
set_option maxRecDepth 20000 in
theorem tw_1241 : Cond.code yX11_takes cX11_takes 3 (Option.some Jvm.ClassFile.FieldType.boolean) ∈ WT := wt_6 40 rfl rfl
set_option maxRecDepth 20000 in
theorem tw_1243 : Cond.methodLink RX11 228 yX11_number ∈ WT := wt_6 42 rfl rfl
set_option maxRecDepth 20000 in
theorem tw_1245 : Cond.instanceMethod yX11_number ∈ WT := wt_6 44 rfl rfl
set_option maxRecDepth 20000 in
theorem tw_1246 : Cond.code yX11_number cX11_number 5 (Option.some Jvm.ClassFile.FieldType.boolean) ∈ WT := wt_6 45 rfl rfl
set_option maxRecDepth 20000 in
theorem tw_1247 : Cond.methodLink RX11 232 yX11_isTraitRead ∈ WT := wt_6 46 rfl rfl
set_option maxRecDepth 20000 in
theorem tw_1249 : Cond.instanceMethod yX11_isTraitRead ∈ WT := wt_6 48 rfl rfl
set_option maxRecDepth 20000 in
theorem tw_1250 : Cond.code yX11_isTraitRead cX11_isTraitRead 4 (Option.some Jvm.ClassFile.FieldType.boolean) ∈ WT := wt_6 49 rfl rfl
set_option maxRecDepth 20000 in
theorem tw_1253 : Cond.methodLink RX11 254 yX11_isGrant ∈ WT := wt_6 52 rfl rfl
set_option maxRecDepth 20000 in
theorem tw_1255 : Cond.instanceMethod yX11_isGrant ∈ WT := wt_6 54 rfl rfl
set_option maxRecDepth 20000 in
theorem tw_1256 : Cond.code yX11_isGrant cX11_isGrant 3 (Option.some Jvm.ClassFile.FieldType.boolean) ∈ WT := wt_6 55 rfl rfl
set_option maxRecDepth 20000 in
theorem tw_1265 : Cond.methodLink RL 147 yX11_seed ∈ WT := wt_6 64 rfl rfl
set_option maxRecDepth 20000 in
theorem tw_1266 : Cond.instanceMethod yX11_seed ∈ WT := wt_6 65 rfl rfl
set_option maxRecDepth 20000 in
theorem tw_1267 : Cond.selects RX11 yX11_seed yX11_seed ∈ WT := wt_6 66 rfl rfl
set_option maxRecDepth 20000 in
theorem tw_1268 : Cond.code yX11_seed cX11_seed 3 (Option.some Jvm.ClassFile.FieldType.int) ∈ WT := wt_6 67 rfl rfl
set_option maxRecDepth 20000 in
theorem tw_1269 : Cond.methodLink RL 151 yX11_sheet ∈ WT := wt_6 68 rfl rfl
set_option maxRecDepth 20000 in
theorem tw_1270 : Cond.instanceMethod yX11_sheet ∈ WT := wt_6 69 rfl rfl
set_option maxRecDepth 20000 in
theorem tw_1271 : Cond.selects RX11 yX11_sheet yX11_sheet ∈ WT := wt_6 70 rfl rfl
set_option maxRecDepth 20000 in
theorem tw_1272 : Cond.code yX11_sheet cX11_sheet 5 (Option.some Jvm.ClassFile.FieldType.int) ∈ WT := wt_6 71 rfl rfl
set_option maxRecDepth 20000 in
theorem tw_1273 : Cond.methodLink RX11 268 yX11_isSheet ∈ WT := wt_6 72 rfl rfl
set_option maxRecDepth 20000 in
theorem tw_1274 : Cond.static yX11_isSheet ∈ WT := wt_6 73 rfl rfl
set_option maxRecDepth 20000 in
theorem tw_1275 : Cond.code yX11_isSheet cX11_isSheet 1 (Option.some Jvm.ClassFile.FieldType.boolean) ∈ WT := wt_6 74 rfl rfl
set_option maxRecDepth 20000 in
theorem tw_1276 : Cond.methodLink RL 155 yX11_write ∈ WT := wt_6 75 rfl rfl
set_option maxRecDepth 20000 in
theorem tw_1277 : Cond.instanceMethod yX11_write ∈ WT := wt_6 76 rfl rfl
set_option maxRecDepth 20000 in
theorem tw_1278 : Cond.selects RX11 yX11_write yX11_write ∈ WT := wt_6 77 rfl rfl
set_option maxRecDepth 20000 in
theorem tw_1279 : Cond.code yX11_write cX11_write 5 (Option.some Jvm.ClassFile.FieldType.int) ∈ WT := wt_6 78 rfl rfl
set_option maxRecDepth 20000 in
theorem tw_1280 : Cond.methodLink RX11 271 yX11_wrongAt ∈ WT := wt_6 79 rfl rfl
set_option maxRecDepth 20000 in
theorem tw_1282 : Cond.instanceMethod yX11_wrongAt ∈ WT := wt_6 81 rfl rfl
set_option maxRecDepth 20000 in
theorem tw_1283 : Cond.code yX11_wrongAt cX11_wrongAt 3 (Option.some Jvm.ClassFile.FieldType.int) ∈ WT := wt_6 82 rfl rfl
set_option maxRecDepth 20000 in
theorem tw_1284 : Cond.methodLink RL 160 yX11_item ∈ WT := wt_6 83 rfl rfl
set_option maxRecDepth 20000 in
theorem tw_1285 : Cond.instanceMethod yX11_item ∈ WT := wt_6 84 rfl rfl
set_option maxRecDepth 20000 in
theorem tw_1286 : Cond.selects RX11 yX11_item yX11_item ∈ WT := wt_6 85 rfl rfl
set_option maxRecDepth 20000 in
theorem tw_1287 : Cond.code yX11_item cX11_item 4 (Option.some Jvm.ClassFile.FieldType.long) ∈ WT := wt_6 86 rfl rfl
set_option maxRecDepth 20000 in
theorem tw_1288 : Cond.constantLong RX11 274 (-4611686018427387904) ∈ WT := wt_6 87 rfl rfl
set_option maxRecDepth 20000 in
theorem tw_1289 : Jvm.Cond.constantDouble "StatuteBookModel" (276 : Nat) (4611686018427387904 : UInt64) ∈ WT := wt_6 88 rfl rfl
set_option maxRecDepth 20000 in
theorem tw_1290 : Cond.methodLink RL 164 yX11_copy ∈ WT := wt_6 89 rfl rfl
set_option maxRecDepth 20000 in
theorem tw_1291 : Cond.instanceMethod yX11_copy ∈ WT := wt_6 90 rfl rfl
set_option maxRecDepth 20000 in
theorem tw_1292 : Cond.selects RX11 yX11_copy yX11_copy ∈ WT := wt_6 91 rfl rfl
set_option maxRecDepth 20000 in
theorem tw_1293 : Cond.code yX11_copy cX11_copy 9 (Option.some Jvm.ClassFile.FieldType.int) ∈ WT := wt_6 92 rfl rfl
set_option maxRecDepth 20000 in
theorem tw_1294 : Cond.methodLink RL 168 yX11_lay ∈ WT := wt_6 93 rfl rfl
set_option maxRecDepth 20000 in
theorem tw_1295 : Cond.instanceMethod yX11_lay ∈ WT := wt_6 94 rfl rfl
set_option maxRecDepth 20000 in
theorem tw_1296 : Cond.selects RX11 yX11_lay yX11_lay ∈ WT := wt_6 95 rfl rfl
set_option maxRecDepth 20000 in
theorem tw_1297 : Cond.code yX11_lay cX11_lay 7 (Option.some Jvm.ClassFile.FieldType.int) ∈ WT := wt_6 96 rfl rfl
set_option maxRecDepth 20000 in
theorem tw_1298 : Cond.methodLink RL 172 yX11_image ∈ WT := wt_6 97 rfl rfl
set_option maxRecDepth 20000 in
theorem tw_1299 : Cond.instanceMethod yX11_image ∈ WT := wt_6 98 rfl rfl
set_option maxRecDepth 20000 in
theorem tw_1300 : Cond.selects RX11 yX11_image yX11_image ∈ WT := wt_6 99 rfl rfl
set_option maxRecDepth 20000 in
theorem tw_1301 : Cond.code yX11_image cX11_image 1 (Option.some Jvm.ClassFile.FieldType.int) ∈ WT := wt_6 100 rfl rfl
set_option maxRecDepth 20000 in
theorem tw_1302 : Cond.methodLink RX11 278 yX11_copies ∈ WT := wt_6 101 rfl rfl
set_option maxRecDepth 20000 in
theorem tw_1303 : Cond.static yX11_copies ∈ WT := wt_6 102 rfl rfl
set_option maxRecDepth 20000 in
theorem tw_1304 : Cond.code yX11_copies cX11_copies 3 (Option.none : Option Jvm.ClassFile.FieldType) ∈ WT := wt_6 103 rfl rfl
set_option maxRecDepth 20000 in
theorem tw_1305 : Cond.methodLink RL 176 yX11_back ∈ WT := wt_6 104 rfl rfl
set_option maxRecDepth 20000 in
theorem tw_1306 : Cond.instanceMethod yX11_back ∈ WT := wt_6 105 rfl rfl
set_option maxRecDepth 20000 in
theorem tw_1307 : Cond.selects RX11 yX11_back yX11_back ∈ WT := wt_6 106 rfl rfl
set_option maxRecDepth 20000 in
theorem tw_1308 : Cond.code yX11_back cX11_back 1 (Option.some Jvm.ClassFile.FieldType.int) ∈ WT := wt_6 107 rfl rfl
set_option maxRecDepth 20000 in
theorem tw_1309 : Cond.methodLink RL 180 yX11_count ∈ WT := wt_6 108 rfl rfl
set_option maxRecDepth 20000 in
theorem tw_1310 : Cond.instanceMethod yX11_count ∈ WT := wt_6 109 rfl rfl
set_option maxRecDepth 20000 in
theorem tw_1311 : Cond.selects RX11 yX11_count yX11_count ∈ WT := wt_6 110 rfl rfl
set_option maxRecDepth 20000 in
theorem tw_1312 : Cond.code yX11_count cX11_count 2 (Option.some Jvm.ClassFile.FieldType.int) ∈ WT := wt_6 111 rfl rfl
set_option maxRecDepth 20000 in
theorem tw_1313 : Cond.fieldLink RJ0 9 "java/lang/String" "value" "[B" ∈ WT := wt_6 112 rfl rfl
set_option maxRecDepth 20000 in
theorem tw_1314 : Cond.fieldLink RJ0 15 "java/lang/String" "coder" "B" ∈ WT := wt_6 113 rfl rfl
