set_option maxRecDepth 100000 in
theorem w1125 : Cond.fieldLink "SharingRoomModel" 170 "SharingRoomModel" "code" "I" ∈ jWS := jm 1125 rfl rfl
theorem fl_Mod_170_10 : jFl "SharingRoomModel" 170 10 0 := ⟨"SharingRoomModel", T_Mod, 48, "SharingRoomModel", rfl, by decide, in_Mod, w1125, Or.inl rfl⟩
theorem fp_Mod_170_10 (nm : String) : jFp "SharingRoomModel" nm 170 10 0 (.int) := ⟨fl_Mod_170_10, "SharingRoomModel", T_Mod, 48, ty_Mod, rfl, tk_Mod, nm_Mod, rfl, Or.inl rfl⟩
set_option maxRecDepth 100000 in
theorem w1126 : Cond.fieldLink "SharingRoomModel" 181 "SharingRoomModel" "field" "I" ∈ jWS := jm 1126 rfl rfl
theorem fl_Mod_181_10 : jFl "SharingRoomModel" 181 10 1 := ⟨"SharingRoomModel", T_Mod, 48, "SharingRoomModel", rfl, by decide, in_Mod, w1126, Or.inl rfl⟩
theorem fp_Mod_181_10 (nm : String) : jFp "SharingRoomModel" nm 181 10 1 (.int) := ⟨fl_Mod_181_10, "SharingRoomModel", T_Mod, 48, ty_Mod, rfl, tk_Mod, nm_Mod, rfl, Or.inl rfl⟩
set_option maxRecDepth 100000 in
theorem w1127 : Cond.fieldLink "SharingRoomModel" 184 "SharingRoomModel" "many" "I" ∈ jWS := jm 1127 rfl rfl
theorem fl_Mod_184_10 : jFl "SharingRoomModel" 184 10 2 := ⟨"SharingRoomModel", T_Mod, 48, "SharingRoomModel", rfl, by decide, in_Mod, w1127, Or.inl rfl⟩
theorem fp_Mod_184_10 (nm : String) : jFp "SharingRoomModel" nm 184 10 2 (.int) := ⟨fl_Mod_184_10, "SharingRoomModel", T_Mod, 48, ty_Mod, rfl, tk_Mod, nm_Mod, rfl, Or.inl rfl⟩
set_option maxRecDepth 100000 in
theorem w1287 : Cond.code ⟨"SharingRoomModel", "order", "(I)I"⟩ prog_14_method_5_code 1 (some FieldType.int) ∈ jWS := jm 1287 rfl rfl
set_option maxRecDepth 100000 in
theorem w75 : Cond.initialized "SharingRoomModel" ∈ jWS := jm 75 rfl rfl
theorem L0_Mod_order : jL0 y_Mod_order m_Mod_order 1 := ⟨w1287, w75, ⟨by decide +kernel, by decide +kernel⟩, by decide +kernel, by decide +kernel⟩
set_option maxRecDepth 100000 in
theorem w1285 : Cond.methodLink "SharingRoomModel" 174 ⟨"SharingRoomModel", "order", "(I)I"⟩ ∈ jWS := jm 1285 rfl rfl
set_option maxRecDepth 100000 in
theorem w1286 : Cond.static ⟨"SharingRoomModel", "order", "(I)I"⟩ ∈ jWS := jm 1286 rfl rfl
set_option maxRecDepth 100000 in
theorem w1284 : Cond.code ⟨"SharingRoomModel", "isElement", "(II)Z"⟩ prog_14_method_10_code 2 (some FieldType.boolean) ∈ jWS := jm 1284 rfl rfl
theorem L0_Mod_isElement : jL0 y_Mod_isElement m_Mod_isElement 2 := ⟨w1284, w75, ⟨by decide +kernel, by decide +kernel⟩, by decide +kernel, by decide +kernel⟩
set_option maxRecDepth 100000 in
theorem w1282 : Cond.methodLink "SharingRoomModel" 187 ⟨"SharingRoomModel", "isElement", "(II)Z"⟩ ∈ jWS := jm 1282 rfl rfl
set_option maxRecDepth 100000 in
theorem w1283 : Cond.static ⟨"SharingRoomModel", "isElement", "(II)Z"⟩ ∈ jWS := jm 1283 rfl rfl
set_option maxRecDepth 100000 in
theorem w1128 : Cond.fieldLink "SharingRoomModel" 7 "SharingRoomModel" "px" "[I" ∈ jWS := jm 1128 rfl rfl
theorem fl_Mod_7_10 : jFl "SharingRoomModel" 7 10 3 := ⟨"SharingRoomModel", T_Mod, 48, "SharingRoomModel", rfl, by decide, in_Mod, w1128, Or.inl rfl⟩
set_option maxRecDepth 100000 in
theorem w1129 : Cond.fieldLink "SharingRoomModel" 13 "SharingRoomModel" "py" "[I" ∈ jWS := jm 1129 rfl rfl
theorem fl_Mod_13_10 : jFl "SharingRoomModel" 13 10 4 := ⟨"SharingRoomModel", T_Mod, 48, "SharingRoomModel", rfl, by decide, in_Mod, w1129, Or.inl rfl⟩
set_option maxRecDepth 100000 in
theorem w1304 : Cond.code ⟨"SharingRoomModel", "times", "(III)I"⟩ prog_14_method_8_code 5 (some FieldType.int) ∈ jWS := jm 1304 rfl rfl
theorem L0_Mod_times : jL0 y_Mod_times m_Mod_times 3 := ⟨w1304, w75, ⟨by decide +kernel, by decide +kernel⟩, by decide +kernel, by decide +kernel⟩
set_option maxRecDepth 100000 in
theorem w1302 : Cond.methodLink "SharingRoomModel" 177 ⟨"SharingRoomModel", "times", "(III)I"⟩ ∈ jWS := jm 1302 rfl rfl
set_option maxRecDepth 100000 in
theorem w1303 : Cond.static ⟨"SharingRoomModel", "times", "(III)I"⟩ ∈ jWS := jm 1303 rfl rfl
set_option maxRecDepth 100000 in
theorem w1130 : Cond.fieldLink "SharingRoomModel" 16 "SharingRoomModel" "difference" "[I" ∈ jWS := jm 1130 rfl rfl
theorem fl_Mod_16_10 : jFl "SharingRoomModel" 16 10 5 := ⟨"SharingRoomModel", T_Mod, 48, "SharingRoomModel", rfl, by decide, in_Mod, w1130, Or.inl rfl⟩
set_option maxRecDepth 100000 in
theorem w1298 : Cond.code ⟨"SharingRoomModel", "less", "(III)I"⟩ prog_14_method_6_code 3 (some FieldType.int) ∈ jWS := jm 1298 rfl rfl
theorem L0_Mod_less : jL0 y_Mod_less m_Mod_less 3 := ⟨w1298, w75, ⟨by decide +kernel, by decide +kernel⟩, by decide +kernel, by decide +kernel⟩
set_option maxRecDepth 100000 in
theorem w1296 : Cond.methodLink "SharingRoomModel" 191 ⟨"SharingRoomModel", "less", "(III)I"⟩ ∈ jWS := jm 1296 rfl rfl
set_option maxRecDepth 100000 in
theorem w1297 : Cond.static ⟨"SharingRoomModel", "less", "(III)I"⟩ ∈ jWS := jm 1297 rfl rfl
set_option maxRecDepth 100000 in
theorem w1301 : Cond.code ⟨"SharingRoomModel", "over", "(III)I"⟩ prog_14_method_9_code 4 (some FieldType.int) ∈ jWS := jm 1301 rfl rfl
theorem L0_Mod_over : jL0 y_Mod_over m_Mod_over 3 := ⟨w1301, w75, ⟨by decide +kernel, by decide +kernel⟩, by decide +kernel, by decide +kernel⟩
set_option maxRecDepth 100000 in
theorem w1299 : Cond.methodLink "SharingRoomModel" 194 ⟨"SharingRoomModel", "over", "(III)I"⟩ ∈ jWS := jm 1299 rfl rfl
set_option maxRecDepth 100000 in
theorem w1300 : Cond.static ⟨"SharingRoomModel", "over", "(III)I"⟩ ∈ jWS := jm 1300 rfl rfl
set_option maxRecDepth 100000 in
theorem w1295 : Cond.code ⟨"SharingRoomModel", "divide", "()V"⟩ prog_14_method_13_code 3 none ∈ jWS := jm 1295 rfl rfl
theorem L0_Mod_divide : jL0 y_Mod_divide m_Mod_divide 0 := ⟨w1295, w75, ⟨by decide +kernel, by decide +kernel⟩, by decide +kernel, by decide +kernel⟩
set_option maxRecDepth 100000 in
theorem w1292 : Cond.methodLink "SharingRoomModel" 197 ⟨"SharingRoomModel", "divide", "()V"⟩ ∈ jWS := jm 1292 rfl rfl
set_option maxRecDepth 100000 in
theorem w1294 : Cond.instanceMethod ⟨"SharingRoomModel", "divide", "()V"⟩ ∈ jWS := jm 1294 rfl rfl
set_option maxRecDepth 100000 in
theorem w34 : Cond.selects "SharingRoomModel" ⟨"SharingRoomModel", "divide", "()V"⟩ ⟨"SharingRoomModel", "divide", "()V"⟩ ∈ jWS := jm 34 rfl rfl
set_option maxRecDepth 100000 in
theorem w1307 : Cond.code ⟨"SharingRoomModel", "plus", "(III)I"⟩ prog_14_method_7_code 3 (some FieldType.int) ∈ jWS := jm 1307 rfl rfl
theorem L0_Mod_plus : jL0 y_Mod_plus m_Mod_plus 3 := ⟨w1307, w75, ⟨by decide +kernel, by decide +kernel⟩, by decide +kernel, by decide +kernel⟩
set_option maxRecDepth 100000 in
theorem w1305 : Cond.methodLink "SharingRoomModel" 200 ⟨"SharingRoomModel", "plus", "(III)I"⟩ ∈ jWS := jm 1305 rfl rfl
set_option maxRecDepth 100000 in
theorem w1306 : Cond.static ⟨"SharingRoomModel", "plus", "(III)I"⟩ ∈ jWS := jm 1306 rfl rfl
set_option maxRecDepth 100000 in
theorem w1144 : Cond.fieldLink "SharingRoomModel" 28 "SharingRoomModel" "a" "[I" ∈ jWS := jm 1144 rfl rfl
theorem fl_Mod_28_10 : jFl "SharingRoomModel" 28 10 19 := ⟨"SharingRoomModel", T_Mod, 48, "SharingRoomModel", rfl, by decide, in_Mod, w1144, Or.inl rfl⟩
set_option maxRecDepth 100000 in
theorem w1145 : Cond.fieldLink "SharingRoomModel" 31 "SharingRoomModel" "b" "[I" ∈ jWS := jm 1145 rfl rfl
theorem fl_Mod_31_10 : jFl "SharingRoomModel" 31 10 20 := ⟨"SharingRoomModel", T_Mod, 48, "SharingRoomModel", rfl, by decide, in_Mod, w1145, Or.inl rfl⟩
set_option maxRecDepth 100000 in
theorem w1146 : Cond.fieldLink "SharingRoomModel" 34 "SharingRoomModel" "faults" "[I" ∈ jWS := jm 1146 rfl rfl
theorem fl_Mod_34_10 : jFl "SharingRoomModel" 34 10 21 := ⟨"SharingRoomModel", T_Mod, 48, "SharingRoomModel", rfl, by decide, in_Mod, w1146, Or.inl rfl⟩
set_option maxRecDepth 100000 in
theorem w1147 : Cond.fieldLink "SharingRoomModel" 37 "SharingRoomModel" "crashes" "[I" ∈ jWS := jm 1147 rfl rfl
theorem fl_Mod_37_10 : jFl "SharingRoomModel" 37 10 22 := ⟨"SharingRoomModel", T_Mod, 48, "SharingRoomModel", rfl, by decide, in_Mod, w1147, Or.inl rfl⟩
set_option maxRecDepth 100000 in
theorem w1134 : Cond.fieldLink "SharingRoomModel" 210 "SharingRoomModel" "group" "I" ∈ jWS := jm 1134 rfl rfl
theorem fl_Mod_210_10 : jFl "SharingRoomModel" 210 10 9 := ⟨"SharingRoomModel", T_Mod, 48, "SharingRoomModel", rfl, by decide, in_Mod, w1134, Or.inl rfl⟩
theorem fp_Mod_210_10 (nm : String) : jFp "SharingRoomModel" nm 210 10 9 (.int) := ⟨fl_Mod_210_10, "SharingRoomModel", T_Mod, 48, ty_Mod, rfl, tk_Mod, nm_Mod, rfl, Or.inl rfl⟩
set_option maxRecDepth 100000 in
theorem w1135 : Cond.fieldLink "SharingRoomModel" 213 "SharingRoomModel" "q" "I" ∈ jWS := jm 1135 rfl rfl
theorem fl_Mod_213_10 : jFl "SharingRoomModel" 213 10 10 := ⟨"SharingRoomModel", T_Mod, 48, "SharingRoomModel", rfl, by decide, in_Mod, w1135, Or.inl rfl⟩
theorem fp_Mod_213_10 (nm : String) : jFp "SharingRoomModel" nm 213 10 10 (.int) := ⟨fl_Mod_213_10, "SharingRoomModel", T_Mod, 48, ty_Mod, rfl, tk_Mod, nm_Mod, rfl, Or.inl rfl⟩
set_option maxRecDepth 100000 in
theorem w1136 : Cond.fieldLink "SharingRoomModel" 207 "SharingRoomModel" "n" "I" ∈ jWS := jm 1136 rfl rfl
theorem fl_Mod_207_10 : jFl "SharingRoomModel" 207 10 11 := ⟨"SharingRoomModel", T_Mod, 48, "SharingRoomModel", rfl, by decide, in_Mod, w1136, Or.inl rfl⟩
theorem fp_Mod_207_10 (nm : String) : jFp "SharingRoomModel" nm 207 10 11 (.int) := ⟨fl_Mod_207_10, "SharingRoomModel", T_Mod, 48, ty_Mod, rfl, tk_Mod, nm_Mod, rfl, Or.inl rfl⟩
set_option maxRecDepth 100000 in
theorem w1137 : Cond.fieldLink "SharingRoomModel" 216 "SharingRoomModel" "t" "I" ∈ jWS := jm 1137 rfl rfl
theorem fl_Mod_216_10 : jFl "SharingRoomModel" 216 10 12 := ⟨"SharingRoomModel", T_Mod, 48, "SharingRoomModel", rfl, by decide, in_Mod, w1137, Or.inl rfl⟩
theorem fp_Mod_216_10 (nm : String) : jFp "SharingRoomModel" nm 216 10 12 (.int) := ⟨fl_Mod_216_10, "SharingRoomModel", T_Mod, 48, ty_Mod, rfl, tk_Mod, nm_Mod, rfl, Or.inl rfl⟩
set_option maxRecDepth 100000 in
theorem w1138 : Cond.fieldLink "SharingRoomModel" 219 "SharingRoomModel" "first" "I" ∈ jWS := jm 1138 rfl rfl
theorem fl_Mod_219_10 : jFl "SharingRoomModel" 219 10 13 := ⟨"SharingRoomModel", T_Mod, 48, "SharingRoomModel", rfl, by decide, in_Mod, w1138, Or.inl rfl⟩
theorem fp_Mod_219_10 (nm : String) : jFp "SharingRoomModel" nm 219 10 13 (.int) := ⟨fl_Mod_219_10, "SharingRoomModel", T_Mod, 48, ty_Mod, rfl, tk_Mod, nm_Mod, rfl, Or.inl rfl⟩
set_option maxRecDepth 100000 in
theorem w1139 : Cond.fieldLink "SharingRoomModel" 222 "SharingRoomModel" "shown" "I" ∈ jWS := jm 1139 rfl rfl
theorem fl_Mod_222_10 : jFl "SharingRoomModel" 222 10 14 := ⟨"SharingRoomModel", T_Mod, 48, "SharingRoomModel", rfl, by decide, in_Mod, w1139, Or.inl rfl⟩
theorem fp_Mod_222_10 (nm : String) : jFp "SharingRoomModel" nm 222 10 14 (.int) := ⟨fl_Mod_222_10, "SharingRoomModel", T_Mod, 48, ty_Mod, rfl, tk_Mod, nm_Mod, rfl, Or.inl rfl⟩
set_option maxRecDepth 100000 in
theorem w1140 : Cond.fieldLink "SharingRoomModel" 203 "SharingRoomModel" "there" "Z" ∈ jWS := jm 1140 rfl rfl
theorem fl_Mod_203_10 : jFl "SharingRoomModel" 203 10 15 := ⟨"SharingRoomModel", T_Mod, 48, "SharingRoomModel", rfl, by decide, in_Mod, w1140, Or.inl rfl⟩
theorem fp_Mod_203_10 (nm : String) : jFp "SharingRoomModel" nm 203 10 15 (.boolean) := ⟨fl_Mod_203_10, "SharingRoomModel", T_Mod, 48, ty_Mod, rfl, tk_Mod, nm_Mod, rfl, Or.inl rfl⟩
set_option maxRecDepth 100000 in
theorem w1141 : Cond.fieldLink "SharingRoomModel" 225 "SharingRoomModel" "done" "Z" ∈ jWS := jm 1141 rfl rfl
theorem fl_Mod_225_10 : jFl "SharingRoomModel" 225 10 16 := ⟨"SharingRoomModel", T_Mod, 48, "SharingRoomModel", rfl, by decide, in_Mod, w1141, Or.inl rfl⟩
theorem fp_Mod_225_10 (nm : String) : jFp "SharingRoomModel" nm 225 10 16 (.boolean) := ⟨fl_Mod_225_10, "SharingRoomModel", T_Mod, 48, ty_Mod, rfl, tk_Mod, nm_Mod, rfl, Or.inl rfl⟩
set_option maxRecDepth 100000 in
theorem w1142 : Cond.fieldLink "SharingRoomModel" 228 "SharingRoomModel" "failed" "Z" ∈ jWS := jm 1142 rfl rfl
theorem fl_Mod_228_10 : jFl "SharingRoomModel" 228 10 17 := ⟨"SharingRoomModel", T_Mod, 48, "SharingRoomModel", rfl, by decide, in_Mod, w1142, Or.inl rfl⟩
theorem fp_Mod_228_10 (nm : String) : jFp "SharingRoomModel" nm 228 10 17 (.boolean) := ⟨fl_Mod_228_10, "SharingRoomModel", T_Mod, 48, ty_Mod, rfl, tk_Mod, nm_Mod, rfl, Or.inl rfl⟩
set_option maxRecDepth 100000 in
theorem w1143 : Cond.fieldLink "SharingRoomModel" 231 "SharingRoomModel" "round" "I" ∈ jWS := jm 1143 rfl rfl
theorem fl_Mod_231_10 : jFl "SharingRoomModel" 231 10 18 := ⟨"SharingRoomModel", T_Mod, 48, "SharingRoomModel", rfl, by decide, in_Mod, w1143, Or.inl rfl⟩
theorem fp_Mod_231_10 (nm : String) : jFp "SharingRoomModel" nm 231 10 18 (.int) := ⟨fl_Mod_231_10, "SharingRoomModel", T_Mod, 48, ty_Mod, rfl, tk_Mod, nm_Mod, rfl, Or.inl rfl⟩
set_option maxRecDepth 100000 in
theorem w1165 : Cond.fieldLink "SharingRoomModel" 234 "SharingRoomModel" "size" "I" ∈ jWS := jm 1165 rfl rfl
theorem fl_Mod_234_10 : jFl "SharingRoomModel" 234 10 40 := ⟨"SharingRoomModel", T_Mod, 48, "SharingRoomModel", rfl, by decide, in_Mod, w1165, Or.inl rfl⟩
theorem fp_Mod_234_10 (nm : String) : jFp "SharingRoomModel" nm 234 10 40 (.int) := ⟨fl_Mod_234_10, "SharingRoomModel", T_Mod, 48, ty_Mod, rfl, tk_Mod, nm_Mod, rfl, Or.inl rfl⟩
set_option maxRecDepth 100000 in
theorem w1148 : Cond.fieldLink "SharingRoomModel" 237 "SharingRoomModel" "dealt" "I" ∈ jWS := jm 1148 rfl rfl
theorem fl_Mod_237_10 : jFl "SharingRoomModel" 237 10 23 := ⟨"SharingRoomModel", T_Mod, 48, "SharingRoomModel", rfl, by decide, in_Mod, w1148, Or.inl rfl⟩
theorem fp_Mod_237_10 (nm : String) : jFp "SharingRoomModel" nm 237 10 23 (.int) := ⟨fl_Mod_237_10, "SharingRoomModel", T_Mod, 48, ty_Mod, rfl, tk_Mod, nm_Mod, rfl, Or.inl rfl⟩
set_option maxRecDepth 100000 in
theorem w1149 : Cond.fieldLink "SharingRoomModel" 240 "SharingRoomModel" "extracted" "I" ∈ jWS := jm 1149 rfl rfl
theorem fl_Mod_240_10 : jFl "SharingRoomModel" 240 10 24 := ⟨"SharingRoomModel", T_Mod, 48, "SharingRoomModel", rfl, by decide, in_Mod, w1149, Or.inl rfl⟩
theorem fp_Mod_240_10 (nm : String) : jFp "SharingRoomModel" nm 240 10 24 (.int) := ⟨fl_Mod_240_10, "SharingRoomModel", T_Mod, 48, ty_Mod, rfl, tk_Mod, nm_Mod, rfl, Or.inl rfl⟩
set_option maxRecDepth 100000 in
theorem w1150 : Cond.fieldLink "SharingRoomModel" 243 "SharingRoomModel" "qualified" "I" ∈ jWS := jm 1150 rfl rfl
theorem fl_Mod_243_10 : jFl "SharingRoomModel" 243 10 25 := ⟨"SharingRoomModel", T_Mod, 48, "SharingRoomModel", rfl, by decide, in_Mod, w1150, Or.inl rfl⟩
theorem fp_Mod_243_10 (nm : String) : jFp "SharingRoomModel" nm 243 10 25 (.int) := ⟨fl_Mod_243_10, "SharingRoomModel", T_Mod, 48, ty_Mod, rfl, tk_Mod, nm_Mod, rfl, Or.inl rfl⟩
set_option maxRecDepth 100000 in
theorem w1151 : Cond.fieldLink "SharingRoomModel" 246 "SharingRoomModel" "accused" "I" ∈ jWS := jm 1151 rfl rfl
theorem fl_Mod_246_10 : jFl "SharingRoomModel" 246 10 26 := ⟨"SharingRoomModel", T_Mod, 48, "SharingRoomModel", rfl, by decide, in_Mod, w1151, Or.inl rfl⟩
theorem fp_Mod_246_10 (nm : String) : jFp "SharingRoomModel" nm 246 10 26 (.int) := ⟨fl_Mod_246_10, "SharingRoomModel", T_Mod, 48, ty_Mod, rfl, tk_Mod, nm_Mod, rfl, Or.inl rfl⟩
set_option maxRecDepth 100000 in
theorem w1152 : Cond.fieldLink "SharingRoomModel" 249 "SharingRoomModel" "opened" "I" ∈ jWS := jm 1152 rfl rfl
theorem fl_Mod_249_10 : jFl "SharingRoomModel" 249 10 27 := ⟨"SharingRoomModel", T_Mod, 48, "SharingRoomModel", rfl, by decide, in_Mod, w1152, Or.inl rfl⟩
theorem fp_Mod_249_10 (nm : String) : jFp "SharingRoomModel" nm 249 10 27 (.int) := ⟨fl_Mod_249_10, "SharingRoomModel", T_Mod, 48, ty_Mod, rfl, tk_Mod, nm_Mod, rfl, Or.inl rfl⟩
set_option maxRecDepth 100000 in
theorem w1153 : Cond.fieldLink "SharingRoomModel" 40 "SharingRoomModel" "complaints" "[I" ∈ jWS := jm 1153 rfl rfl
theorem fl_Mod_40_10 : jFl "SharingRoomModel" 40 10 28 := ⟨"SharingRoomModel", T_Mod, 48, "SharingRoomModel", rfl, by decide, in_Mod, w1153, Or.inl rfl⟩
set_option maxRecDepth 100000 in
theorem w1154 : Cond.fieldLink "SharingRoomModel" 43 "SharingRoomModel" "answers" "[I" ∈ jWS := jm 1154 rfl rfl
theorem fl_Mod_43_10 : jFl "SharingRoomModel" 43 10 29 := ⟨"SharingRoomModel", T_Mod, 48, "SharingRoomModel", rfl, by decide, in_Mod, w1154, Or.inl rfl⟩
set_option maxRecDepth 100000 in
theorem w1319 : Cond.code ⟨"SharingRoomModel", "forget", "()V"⟩ prog_14_method_18_code 2 none ∈ jWS := jm 1319 rfl rfl
theorem L0_Mod_forget : jL0 y_Mod_forget m_Mod_forget 0 := ⟨w1319, w75, ⟨by decide +kernel, by decide +kernel⟩, by decide +kernel, by decide +kernel⟩
set_option maxRecDepth 100000 in
theorem w1316 : Cond.methodLink "SharingRoomModel" 252 ⟨"SharingRoomModel", "forget", "()V"⟩ ∈ jWS := jm 1316 rfl rfl
set_option maxRecDepth 100000 in
theorem w1318 : Cond.instanceMethod ⟨"SharingRoomModel", "forget", "()V"⟩ ∈ jWS := jm 1318 rfl rfl
set_option maxRecDepth 100000 in
theorem w35 : Cond.selects "SharingRoomModel" ⟨"SharingRoomModel", "forget", "()V"⟩ ⟨"SharingRoomModel", "forget", "()V"⟩ ∈ jWS := jm 35 rfl rfl
set_option maxRecDepth 100000 in
theorem w1327 : Cond.code ⟨"SharingRoomModel", "isParty", "(I)Z"⟩ prog_14_method_16_code 2 (some FieldType.boolean) ∈ jWS := jm 1327 rfl rfl
theorem L0_Mod_isParty : jL0 y_Mod_isParty m_Mod_isParty 1 := ⟨w1327, w75, ⟨by decide +kernel, by decide +kernel⟩, by decide +kernel, by decide +kernel⟩
set_option maxRecDepth 100000 in
theorem w1324 : Cond.methodLink "SharingRoomModel" 255 ⟨"SharingRoomModel", "isParty", "(I)Z"⟩ ∈ jWS := jm 1324 rfl rfl
set_option maxRecDepth 100000 in
theorem w1326 : Cond.instanceMethod ⟨"SharingRoomModel", "isParty", "(I)Z"⟩ ∈ jWS := jm 1326 rfl rfl
set_option maxRecDepth 100000 in
theorem w36 : Cond.selects "SharingRoomModel" ⟨"SharingRoomModel", "isParty", "(I)Z"⟩ ⟨"SharingRoomModel", "isParty", "(I)Z"⟩ ∈ jWS := jm 36 rfl rfl
set_option maxRecDepth 100000 in
theorem w1166 : Cond.fieldLink "SharingRoomModel" 73 "SharingRoomModel" "bytes" "[I" ∈ jWS := jm 1166 rfl rfl
theorem fl_Mod_73_10 : jFl "SharingRoomModel" 73 10 41 := ⟨"SharingRoomModel", T_Mod, 48, "SharingRoomModel", rfl, by decide, in_Mod, w1166, Or.inl rfl⟩
set_option maxRecDepth 100000 in
theorem w1132 : Cond.fieldLink "SharingRoomModel" 22 "SharingRoomModel" "curve" "[I" ∈ jWS := jm 1132 rfl rfl
theorem fl_Mod_22_10 : jFl "SharingRoomModel" 22 10 7 := ⟨"SharingRoomModel", T_Mod, 48, "SharingRoomModel", rfl, by decide, in_Mod, w1132, Or.inl rfl⟩
set_option maxRecDepth 100000 in
theorem w1131 : Cond.fieldLink "SharingRoomModel" 19 "SharingRoomModel" "squares" "[I" ∈ jWS := jm 1131 rfl rfl
theorem fl_Mod_19_10 : jFl "SharingRoomModel" 19 10 6 := ⟨"SharingRoomModel", T_Mod, 48, "SharingRoomModel", rfl, by decide, in_Mod, w1131, Or.inl rfl⟩
set_option maxRecDepth 100000 in
theorem w1355 : Cond.code ⟨"SharingRoomModel", "show", "(I)V"⟩ prog_14_method_32_code 2 none ∈ jWS := jm 1355 rfl rfl
theorem L0_Mod_show : jL0 y_Mod_show m_Mod_show 1 := ⟨w1355, w75, ⟨by decide +kernel, by decide +kernel⟩, by decide +kernel, by decide +kernel⟩
set_option maxRecDepth 100000 in
theorem w1352 : Cond.methodLink "SharingRoomModel" 266 ⟨"SharingRoomModel", "show", "(I)V"⟩ ∈ jWS := jm 1352 rfl rfl
set_option maxRecDepth 100000 in
theorem w1354 : Cond.instanceMethod ⟨"SharingRoomModel", "show", "(I)V"⟩ ∈ jWS := jm 1354 rfl rfl
set_option maxRecDepth 100000 in
theorem w40 : Cond.selects "SharingRoomModel" ⟨"SharingRoomModel", "show", "(I)V"⟩ ⟨"SharingRoomModel", "show", "(I)V"⟩ ∈ jWS := jm 40 rfl rfl
set_option maxRecDepth 100000 in
theorem w1375 : Cond.code ⟨"SharingRoomModel", "power", "(II)I"⟩ prog_14_method_24_code 5 (some FieldType.int) ∈ jWS := jm 1375 rfl rfl
theorem L0_Mod_power : jL0 y_Mod_power m_Mod_power 2 := ⟨w1375, w75, ⟨by decide +kernel, by decide +kernel⟩, by decide +kernel, by decide +kernel⟩
set_option maxRecDepth 100000 in
theorem w1372 : Cond.methodLink "SharingRoomModel" 259 ⟨"SharingRoomModel", "power", "(II)I"⟩ ∈ jWS := jm 1372 rfl rfl
set_option maxRecDepth 100000 in
theorem w1374 : Cond.instanceMethod ⟨"SharingRoomModel", "power", "(II)I"⟩ ∈ jWS := jm 1374 rfl rfl
set_option maxRecDepth 100000 in
theorem w45 : Cond.selects "SharingRoomModel" ⟨"SharingRoomModel", "power", "(II)I"⟩ ⟨"SharingRoomModel", "power", "(II)I"⟩ ∈ jWS := jm 45 rfl rfl
set_option maxRecDepth 100000 in
theorem w1347 : Cond.code ⟨"SharingRoomModel", "works", "(II)Z"⟩ prog_14_method_22_code 3 (some FieldType.boolean) ∈ jWS := jm 1347 rfl rfl
theorem L0_Mod_works : jL0 y_Mod_works m_Mod_works 2 := ⟨w1347, w75, ⟨by decide +kernel, by decide +kernel⟩, by decide +kernel, by decide +kernel⟩
set_option maxRecDepth 100000 in
theorem w1344 : Cond.methodLink "SharingRoomModel" 294 ⟨"SharingRoomModel", "works", "(II)Z"⟩ ∈ jWS := jm 1344 rfl rfl
set_option maxRecDepth 100000 in
theorem w1346 : Cond.instanceMethod ⟨"SharingRoomModel", "works", "(II)Z"⟩ ∈ jWS := jm 1346 rfl rfl
set_option maxRecDepth 100000 in
theorem w38 : Cond.selects "SharingRoomModel" ⟨"SharingRoomModel", "works", "(II)Z"⟩ ⟨"SharingRoomModel", "works", "(II)Z"⟩ ∈ jWS := jm 38 rfl rfl
set_option maxRecDepth 100000 in
theorem w1351 : Cond.code ⟨"SharingRoomModel", "is", "(II)Z"⟩ prog_14_method_23_code 3 (some FieldType.boolean) ∈ jWS := jm 1351 rfl rfl
theorem L0_Mod_is : jL0 y_Mod_is m_Mod_is 2 := ⟨w1351, w75, ⟨by decide +kernel, by decide +kernel⟩, by decide +kernel, by decide +kernel⟩
set_option maxRecDepth 100000 in
theorem w1348 : Cond.methodLink "SharingRoomModel" 297 ⟨"SharingRoomModel", "is", "(II)Z"⟩ ∈ jWS := jm 1348 rfl rfl
set_option maxRecDepth 100000 in
theorem w1350 : Cond.instanceMethod ⟨"SharingRoomModel", "is", "(II)Z"⟩ ∈ jWS := jm 1350 rfl rfl
set_option maxRecDepth 100000 in
theorem w39 : Cond.selects "SharingRoomModel" ⟨"SharingRoomModel", "is", "(II)Z"⟩ ⟨"SharingRoomModel", "is", "(II)Z"⟩ ∈ jWS := jm 39 rfl rfl
set_option maxRecDepth 100000 in
theorem w1159 : Cond.fieldLink "SharingRoomModel" 58 "SharingRoomModel" "c" "[I" ∈ jWS := jm 1159 rfl rfl
theorem fl_Mod_58_10 : jFl "SharingRoomModel" 58 10 34 := ⟨"SharingRoomModel", T_Mod, 48, "SharingRoomModel", rfl, by decide, in_Mod, w1159, Or.inl rfl⟩
set_option maxRecDepth 100000 in
theorem w1133 : Cond.fieldLink "SharingRoomModel" 25 "SharingRoomModel" "heights" "[I" ∈ jWS := jm 1133 rfl rfl
theorem fl_Mod_25_10 : jFl "SharingRoomModel" 25 10 8 := ⟨"SharingRoomModel", T_Mod, 48, "SharingRoomModel", rfl, by decide, in_Mod, w1133, Or.inl rfl⟩
set_option maxRecDepth 100000 in
theorem w1359 : Cond.code ⟨"SharingRoomModel", "element", "(I)I"⟩ prog_14_method_28_code 2 (some FieldType.int) ∈ jWS := jm 1359 rfl rfl
theorem L0_Mod_element : jL0 y_Mod_element m_Mod_element 1 := ⟨w1359, w75, ⟨by decide +kernel, by decide +kernel⟩, by decide +kernel, by decide +kernel⟩
set_option maxRecDepth 100000 in
theorem w1356 : Cond.methodLink "SharingRoomModel" 300 ⟨"SharingRoomModel", "element", "(I)I"⟩ ∈ jWS := jm 1356 rfl rfl
set_option maxRecDepth 100000 in
theorem w1358 : Cond.instanceMethod ⟨"SharingRoomModel", "element", "(I)I"⟩ ∈ jWS := jm 1358 rfl rfl
set_option maxRecDepth 100000 in
theorem w41 : Cond.selects "SharingRoomModel" ⟨"SharingRoomModel", "element", "(I)I"⟩ ⟨"SharingRoomModel", "element", "(I)I"⟩ ∈ jWS := jm 41 rfl rfl
set_option maxRecDepth 100000 in
theorem w1363 : Cond.code ⟨"SharingRoomModel", "showTwo", "(I)V"⟩ prog_14_method_33_code 2 none ∈ jWS := jm 1363 rfl rfl
theorem L0_Mod_showTwo : jL0 y_Mod_showTwo m_Mod_showTwo 1 := ⟨w1363, w75, ⟨by decide +kernel, by decide +kernel⟩, by decide +kernel, by decide +kernel⟩
set_option maxRecDepth 100000 in
theorem w1360 : Cond.methodLink "SharingRoomModel" 270 ⟨"SharingRoomModel", "showTwo", "(I)V"⟩ ∈ jWS := jm 1360 rfl rfl
set_option maxRecDepth 100000 in
theorem w1362 : Cond.instanceMethod ⟨"SharingRoomModel", "showTwo", "(I)V"⟩ ∈ jWS := jm 1362 rfl rfl
set_option maxRecDepth 100000 in
theorem w42 : Cond.selects "SharingRoomModel" ⟨"SharingRoomModel", "showTwo", "(I)V"⟩ ⟨"SharingRoomModel", "showTwo", "(I)V"⟩ ∈ jWS := jm 42 rfl rfl
set_option maxRecDepth 100000 in
theorem w1155 : Cond.fieldLink "SharingRoomModel" 46 "SharingRoomModel" "u" "[I" ∈ jWS := jm 1155 rfl rfl
theorem fl_Mod_46_10 : jFl "SharingRoomModel" 46 10 30 := ⟨"SharingRoomModel", T_Mod, 48, "SharingRoomModel", rfl, by decide, in_Mod, w1155, Or.inl rfl⟩
set_option maxRecDepth 100000 in
theorem w1367 : Cond.code ⟨"SharingRoomModel", "at", "(II)I"⟩ prog_14_method_29_code 3 (some FieldType.int) ∈ jWS := jm 1367 rfl rfl
theorem L0_Mod_at : jL0 y_Mod_at m_Mod_at 2 := ⟨w1367, w75, ⟨by decide +kernel, by decide +kernel⟩, by decide +kernel, by decide +kernel⟩
set_option maxRecDepth 100000 in
theorem w1364 : Cond.methodLink "SharingRoomModel" 303 ⟨"SharingRoomModel", "at", "(II)I"⟩ ∈ jWS := jm 1364 rfl rfl
set_option maxRecDepth 100000 in
theorem w1366 : Cond.instanceMethod ⟨"SharingRoomModel", "at", "(II)I"⟩ ∈ jWS := jm 1366 rfl rfl
set_option maxRecDepth 100000 in
theorem w43 : Cond.selects "SharingRoomModel" ⟨"SharingRoomModel", "at", "(II)I"⟩ ⟨"SharingRoomModel", "at", "(II)I"⟩ ∈ jWS := jm 43 rfl rfl
set_option maxRecDepth 100000 in
theorem w1371 : Cond.code ⟨"SharingRoomModel", "f", "(II)I"⟩ prog_14_method_25_code 5 (some FieldType.int) ∈ jWS := jm 1371 rfl rfl
theorem L0_Mod_f : jL0 y_Mod_f m_Mod_f 2 := ⟨w1371, w75, ⟨by decide +kernel, by decide +kernel⟩, by decide +kernel, by decide +kernel⟩
set_option maxRecDepth 100000 in
theorem w1368 : Cond.methodLink "SharingRoomModel" 306 ⟨"SharingRoomModel", "f", "(II)I"⟩ ∈ jWS := jm 1368 rfl rfl
set_option maxRecDepth 100000 in
theorem w1370 : Cond.instanceMethod ⟨"SharingRoomModel", "f", "(II)I"⟩ ∈ jWS := jm 1370 rfl rfl
set_option maxRecDepth 100000 in
theorem w44 : Cond.selects "SharingRoomModel" ⟨"SharingRoomModel", "f", "(II)I"⟩ ⟨"SharingRoomModel", "f", "(II)I"⟩ ∈ jWS := jm 44 rfl rfl
set_option maxRecDepth 100000 in
theorem w1156 : Cond.fieldLink "SharingRoomModel" 49 "SharingRoomModel" "v" "[I" ∈ jWS := jm 1156 rfl rfl
theorem fl_Mod_49_10 : jFl "SharingRoomModel" 49 10 31 := ⟨"SharingRoomModel", T_Mod, 48, "SharingRoomModel", rfl, by decide, in_Mod, w1156, Or.inl rfl⟩
set_option maxRecDepth 100000 in
theorem w1379 : Cond.code ⟨"SharingRoomModel", "blind", "(II)I"⟩ prog_14_method_26_code 5 (some FieldType.int) ∈ jWS := jm 1379 rfl rfl
theorem L0_Mod_blind : jL0 y_Mod_blind m_Mod_blind 2 := ⟨w1379, w75, ⟨by decide +kernel, by decide +kernel⟩, by decide +kernel, by decide +kernel⟩
set_option maxRecDepth 100000 in
theorem w1376 : Cond.methodLink "SharingRoomModel" 309 ⟨"SharingRoomModel", "blind", "(II)I"⟩ ∈ jWS := jm 1376 rfl rfl
set_option maxRecDepth 100000 in
theorem w1378 : Cond.instanceMethod ⟨"SharingRoomModel", "blind", "(II)I"⟩ ∈ jWS := jm 1378 rfl rfl
set_option maxRecDepth 100000 in
theorem w46 : Cond.selects "SharingRoomModel" ⟨"SharingRoomModel", "blind", "(II)I"⟩ ⟨"SharingRoomModel", "blind", "(II)I"⟩ ∈ jWS := jm 46 rfl rfl
set_option maxRecDepth 100000 in
theorem w1386 : Cond.code ⟨"SharingRoomModel", "in", "(II)Z"⟩ prog_14_method_30_code 2 (some FieldType.boolean) ∈ jWS := jm 1386 rfl rfl
theorem L0_Mod_in : jL0 y_Mod_in m_Mod_in 2 := ⟨w1386, w75, ⟨by decide +kernel, by decide +kernel⟩, by decide +kernel, by decide +kernel⟩
set_option maxRecDepth 100000 in
theorem w1384 : Cond.methodLink "SharingRoomModel" 263 ⟨"SharingRoomModel", "in", "(II)Z"⟩ ∈ jWS := jm 1384 rfl rfl
set_option maxRecDepth 100000 in
theorem w1385 : Cond.static ⟨"SharingRoomModel", "in", "(II)Z"⟩ ∈ jWS := jm 1385 rfl rfl
set_option maxRecDepth 100000 in
theorem w1390 : Cond.code ⟨"SharingRoomModel", "fits", "(IIII)Z"⟩ prog_14_method_27_code 7 (some FieldType.boolean) ∈ jWS := jm 1390 rfl rfl
theorem L0_Mod_fits : jL0 y_Mod_fits m_Mod_fits 4 := ⟨w1390, w75, ⟨by decide +kernel, by decide +kernel⟩, by decide +kernel, by decide +kernel⟩
set_option maxRecDepth 100000 in
theorem w1387 : Cond.methodLink "SharingRoomModel" 312 ⟨"SharingRoomModel", "fits", "(IIII)Z"⟩ ∈ jWS := jm 1387 rfl rfl
set_option maxRecDepth 100000 in
theorem w1389 : Cond.instanceMethod ⟨"SharingRoomModel", "fits", "(IIII)Z"⟩ ∈ jWS := jm 1389 rfl rfl
set_option maxRecDepth 100000 in
theorem w48 : Cond.selects "SharingRoomModel" ⟨"SharingRoomModel", "fits", "(IIII)Z"⟩ ⟨"SharingRoomModel", "fits", "(IIII)Z"⟩ ∈ jWS := jm 48 rfl rfl
set_option maxRecDepth 100000 in
theorem w1157 : Cond.fieldLink "SharingRoomModel" 52 "SharingRoomModel" "answerU" "[I" ∈ jWS := jm 1157 rfl rfl
theorem fl_Mod_52_10 : jFl "SharingRoomModel" 52 10 32 := ⟨"SharingRoomModel", T_Mod, 48, "SharingRoomModel", rfl, by decide, in_Mod, w1157, Or.inl rfl⟩
set_option maxRecDepth 100000 in
theorem w1158 : Cond.fieldLink "SharingRoomModel" 55 "SharingRoomModel" "answerV" "[I" ∈ jWS := jm 1158 rfl rfl
theorem fl_Mod_55_10 : jFl "SharingRoomModel" 55 10 33 := ⟨"SharingRoomModel", T_Mod, 48, "SharingRoomModel", rfl, by decide, in_Mod, w1158, Or.inl rfl⟩
set_option maxRecDepth 100000 in
theorem w1398 : Cond.code ⟨"SharingRoomModel", "showNumbers", "(IIIII)V"⟩ prog_14_method_34_code 6 none ∈ jWS := jm 1398 rfl rfl
theorem L0_Mod_showNumbers : jL0 y_Mod_showNumbers m_Mod_showNumbers 5 := ⟨w1398, w75, ⟨by decide +kernel, by decide +kernel⟩, by decide +kernel, by decide +kernel⟩
set_option maxRecDepth 100000 in
theorem w1395 : Cond.methodLink "SharingRoomModel" 316 ⟨"SharingRoomModel", "showNumbers", "(IIIII)V"⟩ ∈ jWS := jm 1395 rfl rfl
set_option maxRecDepth 100000 in
theorem w1397 : Cond.instanceMethod ⟨"SharingRoomModel", "showNumbers", "(IIIII)V"⟩ ∈ jWS := jm 1397 rfl rfl
set_option maxRecDepth 100000 in
theorem w50 : Cond.selects "SharingRoomModel" ⟨"SharingRoomModel", "showNumbers", "(IIIII)V"⟩ ⟨"SharingRoomModel", "showNumbers", "(IIIII)V"⟩ ∈ jWS := jm 50 rfl rfl
set_option maxRecDepth 100000 in
theorem w1405 : Cond.code ⟨"SharingRoomModel", "bits", "(I)I"⟩ prog_14_method_31_code 3 (some FieldType.int) ∈ jWS := jm 1405 rfl rfl
theorem L0_Mod_bits : jL0 y_Mod_bits m_Mod_bits 1 := ⟨w1405, w75, ⟨by decide +kernel, by decide +kernel⟩, by decide +kernel, by decide +kernel⟩
set_option maxRecDepth 100000 in
theorem w1403 : Cond.methodLink "SharingRoomModel" 320 ⟨"SharingRoomModel", "bits", "(I)I"⟩ ∈ jWS := jm 1403 rfl rfl
set_option maxRecDepth 100000 in
theorem w1404 : Cond.static ⟨"SharingRoomModel", "bits", "(I)I"⟩ ∈ jWS := jm 1404 rfl rfl
set_option maxRecDepth 100000 in
theorem w1161 : Cond.fieldLink "SharingRoomModel" 64 "SharingRoomModel" "shares" "[I" ∈ jWS := jm 1161 rfl rfl
theorem fl_Mod_64_10 : jFl "SharingRoomModel" 64 10 36 := ⟨"SharingRoomModel", T_Mod, 48, "SharingRoomModel", rfl, by decide, in_Mod, w1161, Or.inl rfl⟩
set_option maxRecDepth 100000 in
theorem w1162 : Cond.fieldLink "SharingRoomModel" 67 "SharingRoomModel" "blinds" "[I" ∈ jWS := jm 1162 rfl rfl
theorem fl_Mod_67_10 : jFl "SharingRoomModel" 67 10 37 := ⟨"SharingRoomModel", T_Mod, 48, "SharingRoomModel", rfl, by decide, in_Mod, w1162, Or.inl rfl⟩
set_option maxRecDepth 100000 in
theorem w1160 : Cond.fieldLink "SharingRoomModel" 61 "SharingRoomModel" "e" "[I" ∈ jWS := jm 1160 rfl rfl
theorem fl_Mod_61_10 : jFl "SharingRoomModel" 61 10 35 := ⟨"SharingRoomModel", T_Mod, 48, "SharingRoomModel", rfl, by decide, in_Mod, w1160, Or.inl rfl⟩
set_option maxRecDepth 100000 in
theorem w1425 : Cond.code ⟨"SharingRoomModel", "weight", "(II)I"⟩ prog_14_method_43_code 7 (some FieldType.int) ∈ jWS := jm 1425 rfl rfl
theorem L0_Mod_weight : jL0 y_Mod_weight m_Mod_weight 2 := ⟨w1425, w75, ⟨by decide +kernel, by decide +kernel⟩, by decide +kernel, by decide +kernel⟩
set_option maxRecDepth 100000 in
theorem w1422 : Cond.methodLink "SharingRoomModel" 329 ⟨"SharingRoomModel", "weight", "(II)I"⟩ ∈ jWS := jm 1422 rfl rfl
set_option maxRecDepth 100000 in
theorem w1424 : Cond.instanceMethod ⟨"SharingRoomModel", "weight", "(II)I"⟩ ∈ jWS := jm 1424 rfl rfl
set_option maxRecDepth 100000 in
theorem w56 : Cond.selects "SharingRoomModel" ⟨"SharingRoomModel", "weight", "(II)I"⟩ ⟨"SharingRoomModel", "weight", "(II)I"⟩ ∈ jWS := jm 56 rfl rfl
set_option maxRecDepth 100000 in
theorem w1163 : Cond.fieldLink "SharingRoomModel" 70 "SharingRoomModel" "fresh" "[I" ∈ jWS := jm 1163 rfl rfl
theorem fl_Mod_70_10 : jFl "SharingRoomModel" 70 10 38 := ⟨"SharingRoomModel", T_Mod, 48, "SharingRoomModel", rfl, by decide, in_Mod, w1163, Or.inl rfl⟩
set_option maxRecDepth 100000 in
theorem w1421 : Cond.code ⟨"SharingRoomModel", "atZero", "(I)I"⟩ prog_14_method_44_code 4 (some FieldType.int) ∈ jWS := jm 1421 rfl rfl
theorem L0_Mod_atZero : jL0 y_Mod_atZero m_Mod_atZero 1 := ⟨w1421, w75, ⟨by decide +kernel, by decide +kernel⟩, by decide +kernel, by decide +kernel⟩
set_option maxRecDepth 100000 in
theorem w1418 : Cond.methodLink "SharingRoomModel" 323 ⟨"SharingRoomModel", "atZero", "(I)I"⟩ ∈ jWS := jm 1418 rfl rfl
set_option maxRecDepth 100000 in
theorem w1420 : Cond.instanceMethod ⟨"SharingRoomModel", "atZero", "(I)I"⟩ ∈ jWS := jm 1420 rfl rfl
set_option maxRecDepth 100000 in
theorem w55 : Cond.selects "SharingRoomModel" ⟨"SharingRoomModel", "atZero", "(I)I"⟩ ⟨"SharingRoomModel", "atZero", "(I)I"⟩ ∈ jWS := jm 55 rfl rfl
set_option maxRecDepth 100000 in
theorem w1164 : Cond.fieldLink "SharingRoomModel" 326 "SharingRoomModel" "key" "I" ∈ jWS := jm 1164 rfl rfl
theorem fl_Mod_326_10 : jFl "SharingRoomModel" 326 10 39 := ⟨"SharingRoomModel", T_Mod, 48, "SharingRoomModel", rfl, by decide, in_Mod, w1164, Or.inl rfl⟩
theorem fp_Mod_326_10 (nm : String) : jFp "SharingRoomModel" nm 326 10 39 (.int) := ⟨fl_Mod_326_10, "SharingRoomModel", T_Mod, 48, ty_Mod, rfl, tk_Mod, nm_Mod, rfl, Or.inl rfl⟩
set_option maxRecDepth 100000 in
theorem w1417 : Cond.code ⟨"SharingRoomModel", "open", "()V"⟩ prog_14_method_42_code 6 none ∈ jWS := jm 1417 rfl rfl
theorem L0_Mod_open : jL0 y_Mod_open m_Mod_open 0 := ⟨w1417, w75, ⟨by decide +kernel, by decide +kernel⟩, by decide +kernel, by decide +kernel⟩
set_option maxRecDepth 100000 in
theorem w1414 : Cond.methodLink "SharingRoomModel" 291 ⟨"SharingRoomModel", "open", "()V"⟩ ∈ jWS := jm 1414 rfl rfl
set_option maxRecDepth 100000 in
theorem w1416 : Cond.instanceMethod ⟨"SharingRoomModel", "open", "()V"⟩ ∈ jWS := jm 1416 rfl rfl
set_option maxRecDepth 100000 in
theorem w54 : Cond.selects "SharingRoomModel" ⟨"SharingRoomModel", "open", "()V"⟩ ⟨"SharingRoomModel", "open", "()V"⟩ ∈ jWS := jm 54 rfl rfl
set_option maxRecDepth 100000 in
theorem w1413 : Cond.code ⟨"SharingRoomModel", "accuse", "()V"⟩ prog_14_method_41_code 7 none ∈ jWS := jm 1413 rfl rfl
theorem L0_Mod_accuse : jL0 y_Mod_accuse m_Mod_accuse 0 := ⟨w1413, w75, ⟨by decide +kernel, by decide +kernel⟩, by decide +kernel, by decide +kernel⟩
set_option maxRecDepth 100000 in
theorem w1410 : Cond.methodLink "SharingRoomModel" 288 ⟨"SharingRoomModel", "accuse", "()V"⟩ ∈ jWS := jm 1410 rfl rfl
set_option maxRecDepth 100000 in
theorem w1412 : Cond.instanceMethod ⟨"SharingRoomModel", "accuse", "()V"⟩ ∈ jWS := jm 1412 rfl rfl
set_option maxRecDepth 100000 in
theorem w53 : Cond.selects "SharingRoomModel" ⟨"SharingRoomModel", "accuse", "()V"⟩ ⟨"SharingRoomModel", "accuse", "()V"⟩ ∈ jWS := jm 53 rfl rfl
set_option maxRecDepth 100000 in
theorem w1409 : Cond.code ⟨"SharingRoomModel", "extract", "()V"⟩ prog_14_method_40_code 4 none ∈ jWS := jm 1409 rfl rfl
theorem L0_Mod_extract : jL0 y_Mod_extract m_Mod_extract 0 := ⟨w1409, w75, ⟨by decide +kernel, by decide +kernel⟩, by decide +kernel, by decide +kernel⟩
set_option maxRecDepth 100000 in
theorem w1406 : Cond.methodLink "SharingRoomModel" 285 ⟨"SharingRoomModel", "extract", "()V"⟩ ∈ jWS := jm 1406 rfl rfl
set_option maxRecDepth 100000 in
theorem w1408 : Cond.instanceMethod ⟨"SharingRoomModel", "extract", "()V"⟩ ∈ jWS := jm 1408 rfl rfl
set_option maxRecDepth 100000 in
theorem w52 : Cond.selects "SharingRoomModel" ⟨"SharingRoomModel", "extract", "()V"⟩ ⟨"SharingRoomModel", "extract", "()V"⟩ ∈ jWS := jm 52 rfl rfl
set_option maxRecDepth 100000 in
theorem w1402 : Cond.code ⟨"SharingRoomModel", "judge", "()V"⟩ prog_14_method_39_code 4 none ∈ jWS := jm 1402 rfl rfl
theorem L0_Mod_judge : jL0 y_Mod_judge m_Mod_judge 0 := ⟨w1402, w75, ⟨by decide +kernel, by decide +kernel⟩, by decide +kernel, by decide +kernel⟩
set_option maxRecDepth 100000 in
theorem w1399 : Cond.methodLink "SharingRoomModel" 282 ⟨"SharingRoomModel", "judge", "()V"⟩ ∈ jWS := jm 1399 rfl rfl
set_option maxRecDepth 100000 in
theorem w1401 : Cond.instanceMethod ⟨"SharingRoomModel", "judge", "()V"⟩ ∈ jWS := jm 1401 rfl rfl
set_option maxRecDepth 100000 in
theorem w51 : Cond.selects "SharingRoomModel" ⟨"SharingRoomModel", "judge", "()V"⟩ ⟨"SharingRoomModel", "judge", "()V"⟩ ∈ jWS := jm 51 rfl rfl
set_option maxRecDepth 100000 in
theorem w1394 : Cond.code ⟨"SharingRoomModel", "answer", "()V"⟩ prog_14_method_38_code 3 none ∈ jWS := jm 1394 rfl rfl
theorem L0_Mod_answer : jL0 y_Mod_answer m_Mod_answer 0 := ⟨w1394, w75, ⟨by decide +kernel, by decide +kernel⟩, by decide +kernel, by decide +kernel⟩
set_option maxRecDepth 100000 in
theorem w1391 : Cond.methodLink "SharingRoomModel" 279 ⟨"SharingRoomModel", "answer", "()V"⟩ ∈ jWS := jm 1391 rfl rfl
set_option maxRecDepth 100000 in
theorem w1393 : Cond.instanceMethod ⟨"SharingRoomModel", "answer", "()V"⟩ ∈ jWS := jm 1393 rfl rfl
set_option maxRecDepth 100000 in
theorem w49 : Cond.selects "SharingRoomModel" ⟨"SharingRoomModel", "answer", "()V"⟩ ⟨"SharingRoomModel", "answer", "()V"⟩ ∈ jWS := jm 49 rfl rfl
set_option maxRecDepth 100000 in
theorem w1383 : Cond.code ⟨"SharingRoomModel", "complain", "()V"⟩ prog_14_method_37_code 3 none ∈ jWS := jm 1383 rfl rfl
theorem L0_Mod_complain : jL0 y_Mod_complain m_Mod_complain 0 := ⟨w1383, w75, ⟨by decide +kernel, by decide +kernel⟩, by decide +kernel, by decide +kernel⟩
set_option maxRecDepth 100000 in
theorem w1380 : Cond.methodLink "SharingRoomModel" 276 ⟨"SharingRoomModel", "complain", "()V"⟩ ∈ jWS := jm 1380 rfl rfl
set_option maxRecDepth 100000 in
theorem w1382 : Cond.instanceMethod ⟨"SharingRoomModel", "complain", "()V"⟩ ∈ jWS := jm 1382 rfl rfl
set_option maxRecDepth 100000 in
theorem w47 : Cond.selects "SharingRoomModel" ⟨"SharingRoomModel", "complain", "()V"⟩ ⟨"SharingRoomModel", "complain", "()V"⟩ ∈ jWS := jm 47 rfl rfl
set_option maxRecDepth 100000 in
theorem w1343 : Cond.code ⟨"SharingRoomModel", "deal", "()V"⟩ prog_14_method_36_code 4 none ∈ jWS := jm 1343 rfl rfl
theorem L0_Mod_deal : jL0 y_Mod_deal m_Mod_deal 0 := ⟨w1343, w75, ⟨by decide +kernel, by decide +kernel⟩, by decide +kernel, by decide +kernel⟩
set_option maxRecDepth 100000 in
theorem w1340 : Cond.methodLink "SharingRoomModel" 273 ⟨"SharingRoomModel", "deal", "()V"⟩ ∈ jWS := jm 1340 rfl rfl
set_option maxRecDepth 100000 in
theorem w1342 : Cond.instanceMethod ⟨"SharingRoomModel", "deal", "()V"⟩ ∈ jWS := jm 1342 rfl rfl
set_option maxRecDepth 100000 in
theorem w37 : Cond.selects "SharingRoomModel" ⟨"SharingRoomModel", "deal", "()V"⟩ ⟨"SharingRoomModel", "deal", "()V"⟩ ∈ jWS := jm 37 rfl rfl
set_option maxRecDepth 100000 in
theorem w1437 : Cond.code ⟨"SharingRoomModel", "mask", "()I"⟩ prog_14_method_46_code 1 (some FieldType.int) ∈ jWS := jm 1437 rfl rfl
theorem L0_Mod_mask : jL0 y_Mod_mask m_Mod_mask 0 := ⟨w1437, w75, ⟨by decide +kernel, by decide +kernel⟩, by decide +kernel, by decide +kernel⟩
set_option maxRecDepth 100000 in
theorem w1434 : Cond.methodLink "SharingRoomModel" 332 ⟨"SharingRoomModel", "mask", "()I"⟩ ∈ jWS := jm 1434 rfl rfl
set_option maxRecDepth 100000 in
theorem w1436 : Cond.instanceMethod ⟨"SharingRoomModel", "mask", "()I"⟩ ∈ jWS := jm 1436 rfl rfl
set_option maxRecDepth 100000 in
theorem w57 : Cond.selects "SharingRoomModel" ⟨"SharingRoomModel", "mask", "()I"⟩ ⟨"SharingRoomModel", "mask", "()I"⟩ ∈ jWS := jm 57 rfl rfl
set_option maxRecDepth 100000 in
theorem w1172 : Cond.fieldLink "SharingRoomModel" 163 "SharingRoomModel" "turn" "[I" ∈ jWS := jm 1172 rfl rfl
theorem fl_Mod_163_10 : jFl "SharingRoomModel" 163 10 47 := ⟨"SharingRoomModel", T_Mod, 48, "SharingRoomModel", rfl, by decide, in_Mod, w1172, Or.inl rfl⟩
set_option maxRecDepth 100000 in
theorem w1480 : Cond.code ⟨"SharingRoomModel", "right", "(II)I"⟩ prog_14_method_55_code 2 (some FieldType.int) ∈ jWS := jm 1480 rfl rfl
theorem L0_Mod_right : jL0 y_Mod_right m_Mod_right 2 := ⟨w1480, w75, ⟨by decide +kernel, by decide +kernel⟩, by decide +kernel, by decide +kernel⟩
set_option maxRecDepth 100000 in
theorem w1478 : Cond.methodLink "SharingRoomModel" 339 ⟨"SharingRoomModel", "right", "(II)I"⟩ ∈ jWS := jm 1478 rfl rfl
set_option maxRecDepth 100000 in
theorem w1479 : Cond.static ⟨"SharingRoomModel", "right", "(II)I"⟩ ∈ jWS := jm 1479 rfl rfl
set_option maxRecDepth 100000 in
theorem w1168 : Cond.fieldLink "SharingRoomModel" 143 "SharingRoomModel" "k2" "[I" ∈ jWS := jm 1168 rfl rfl
theorem fl_Mod_143_10 : jFl "SharingRoomModel" 143 10 43 := ⟨"SharingRoomModel", T_Mod, 48, "SharingRoomModel", rfl, by decide, in_Mod, w1168, Or.inl rfl⟩
set_option maxRecDepth 100000 in
theorem w1167 : Cond.fieldLink "SharingRoomModel" 108 "SharingRoomModel" "k1" "[I" ∈ jWS := jm 1167 rfl rfl
theorem fl_Mod_108_10 : jFl "SharingRoomModel" 108 10 42 := ⟨"SharingRoomModel", T_Mod, 48, "SharingRoomModel", rfl, by decide, in_Mod, w1167, Or.inl rfl⟩
set_option maxRecDepth 100000 in
theorem w1171 : Cond.fieldLink "SharingRoomModel" 160 "SharingRoomModel" "word" "[I" ∈ jWS := jm 1171 rfl rfl
theorem fl_Mod_160_10 : jFl "SharingRoomModel" 160 10 46 := ⟨"SharingRoomModel", T_Mod, 48, "SharingRoomModel", rfl, by decide, in_Mod, w1171, Or.inl rfl⟩
set_option maxRecDepth 100000 in
theorem w1477 : Cond.code ⟨"SharingRoomModel", "padded", "(II)I"⟩ prog_14_method_56_code 3 (some FieldType.int) ∈ jWS := jm 1477 rfl rfl
theorem L0_Mod_padded : jL0 y_Mod_padded m_Mod_padded 2 := ⟨w1477, w75, ⟨by decide +kernel, by decide +kernel⟩, by decide +kernel, by decide +kernel⟩
set_option maxRecDepth 100000 in
theorem w1474 : Cond.methodLink "SharingRoomModel" 336 ⟨"SharingRoomModel", "padded", "(II)I"⟩ ∈ jWS := jm 1474 rfl rfl
set_option maxRecDepth 100000 in
theorem w1476 : Cond.instanceMethod ⟨"SharingRoomModel", "padded", "(II)I"⟩ ∈ jWS := jm 1476 rfl rfl
set_option maxRecDepth 100000 in
theorem w59 : Cond.selects "SharingRoomModel" ⟨"SharingRoomModel", "padded", "(II)I"⟩ ⟨"SharingRoomModel", "padded", "(II)I"⟩ ∈ jWS := jm 59 rfl rfl
set_option maxRecDepth 100000 in
theorem w1169 : Cond.fieldLink "SharingRoomModel" 146 "SharingRoomModel" "hash" "[I" ∈ jWS := jm 1169 rfl rfl
theorem fl_Mod_146_10 : jFl "SharingRoomModel" 146 10 44 := ⟨"SharingRoomModel", T_Mod, 48, "SharingRoomModel", rfl, by decide, in_Mod, w1169, Or.inl rfl⟩
set_option maxRecDepth 100000 in
theorem w1484 : Cond.code ⟨"SharingRoomModel", "mix", "(I)V"⟩ prog_14_method_58_code 7 none ∈ jWS := jm 1484 rfl rfl
theorem L0_Mod_mix : jL0 y_Mod_mix m_Mod_mix 1 := ⟨w1484, w75, ⟨by decide +kernel, by decide +kernel⟩, by decide +kernel, by decide +kernel⟩
set_option maxRecDepth 100000 in
theorem w1481 : Cond.methodLink "SharingRoomModel" 342 ⟨"SharingRoomModel", "mix", "(I)V"⟩ ∈ jWS := jm 1481 rfl rfl
set_option maxRecDepth 100000 in
theorem w1483 : Cond.instanceMethod ⟨"SharingRoomModel", "mix", "(I)V"⟩ ∈ jWS := jm 1483 rfl rfl
set_option maxRecDepth 100000 in
theorem w60 : Cond.selects "SharingRoomModel" ⟨"SharingRoomModel", "mix", "(I)V"⟩ ⟨"SharingRoomModel", "mix", "(I)V"⟩ ∈ jWS := jm 60 rfl rfl
set_option maxRecDepth 100000 in
theorem w1170 : Cond.fieldLink "SharingRoomModel" 157 "SharingRoomModel" "start" "[I" ∈ jWS := jm 1170 rfl rfl
theorem fl_Mod_157_10 : jFl "SharingRoomModel" 157 10 45 := ⟨"SharingRoomModel", T_Mod, 48, "SharingRoomModel", rfl, by decide, in_Mod, w1170, Or.inl rfl⟩
set_option maxRecDepth 100000 in
theorem w1473 : Cond.code ⟨"SharingRoomModel", "block", "(II)V"⟩ prog_14_method_57_code 6 none ∈ jWS := jm 1473 rfl rfl
theorem L0_Mod_block : jL0 y_Mod_block m_Mod_block 2 := ⟨w1473, w75, ⟨by decide +kernel, by decide +kernel⟩, by decide +kernel, by decide +kernel⟩
set_option maxRecDepth 100000 in
theorem w1470 : Cond.methodLink "SharingRoomModel" 345 ⟨"SharingRoomModel", "block", "(II)V"⟩ ∈ jWS := jm 1470 rfl rfl
set_option maxRecDepth 100000 in
theorem w1472 : Cond.instanceMethod ⟨"SharingRoomModel", "block", "(II)V"⟩ ∈ jWS := jm 1472 rfl rfl
set_option maxRecDepth 100000 in
theorem w58 : Cond.selects "SharingRoomModel" ⟨"SharingRoomModel", "block", "(II)V"⟩ ⟨"SharingRoomModel", "block", "(II)V"⟩ ∈ jWS := jm 58 rfl rfl
set_option maxRecDepth 100000 in
theorem w1492 : Cond.code ⟨"SharingRoomModel", "enough", "(I)Z"⟩ prog_14_method_60_code 2 (some FieldType.boolean) ∈ jWS := jm 1492 rfl rfl
theorem L0_Mod_enough : jL0 y_Mod_enough m_Mod_enough 1 := ⟨w1492, w75, ⟨by decide +kernel, by decide +kernel⟩, by decide +kernel, by decide +kernel⟩
set_option maxRecDepth 100000 in
theorem w1489 : Cond.methodLink "SharingRoomModel" 349 ⟨"SharingRoomModel", "enough", "(I)Z"⟩ ∈ jWS := jm 1489 rfl rfl
set_option maxRecDepth 100000 in
theorem w1491 : Cond.instanceMethod ⟨"SharingRoomModel", "enough", "(I)Z"⟩ ∈ jWS := jm 1491 rfl rfl
set_option maxRecDepth 100000 in
theorem w61 : Cond.selects "SharingRoomModel" ⟨"SharingRoomModel", "enough", "(I)Z"⟩ ⟨"SharingRoomModel", "enough", "(I)Z"⟩ ∈ jWS := jm 61 rfl rfl
