set_option maxRecDepth 100000 in
theorem w1049 : Cond.methodLink "SharingRoomModel" 1 ⟨"java/lang/Object", "<init>", "()V"⟩ ∈ jWS := jm 1049 rfl rfl
theorem fp_Mod_7_10 : jFp "SharingRoomModel" "<init>" 7 10 3 (.array .int) := ⟨fl_Mod_7_10, "SharingRoomModel", T_Mod, 48, ty_Mod, rfl, tk_Mod, nm_Mod, rfl, Or.inr ⟨rfl, rfl, rfl⟩⟩
theorem fp_Mod_13_10 : jFp "SharingRoomModel" "<init>" 13 10 4 (.array .int) := ⟨fl_Mod_13_10, "SharingRoomModel", T_Mod, 48, ty_Mod, rfl, tk_Mod, nm_Mod, rfl, Or.inr ⟨rfl, rfl, rfl⟩⟩
theorem fp_Mod_16_10 : jFp "SharingRoomModel" "<init>" 16 10 5 (.array .int) := ⟨fl_Mod_16_10, "SharingRoomModel", T_Mod, 48, ty_Mod, rfl, tk_Mod, nm_Mod, rfl, Or.inr ⟨rfl, rfl, rfl⟩⟩
theorem fp_Mod_19_10 : jFp "SharingRoomModel" "<init>" 19 10 6 (.array .int) := ⟨fl_Mod_19_10, "SharingRoomModel", T_Mod, 48, ty_Mod, rfl, tk_Mod, nm_Mod, rfl, Or.inr ⟨rfl, rfl, rfl⟩⟩
theorem fp_Mod_22_10 : jFp "SharingRoomModel" "<init>" 22 10 7 (.array .int) := ⟨fl_Mod_22_10, "SharingRoomModel", T_Mod, 48, ty_Mod, rfl, tk_Mod, nm_Mod, rfl, Or.inr ⟨rfl, rfl, rfl⟩⟩
theorem fp_Mod_25_10 : jFp "SharingRoomModel" "<init>" 25 10 8 (.array .int) := ⟨fl_Mod_25_10, "SharingRoomModel", T_Mod, 48, ty_Mod, rfl, tk_Mod, nm_Mod, rfl, Or.inr ⟨rfl, rfl, rfl⟩⟩
theorem fp_Mod_28_10 : jFp "SharingRoomModel" "<init>" 28 10 19 (.array .int) := ⟨fl_Mod_28_10, "SharingRoomModel", T_Mod, 48, ty_Mod, rfl, tk_Mod, nm_Mod, rfl, Or.inr ⟨rfl, rfl, rfl⟩⟩
theorem fp_Mod_31_10 : jFp "SharingRoomModel" "<init>" 31 10 20 (.array .int) := ⟨fl_Mod_31_10, "SharingRoomModel", T_Mod, 48, ty_Mod, rfl, tk_Mod, nm_Mod, rfl, Or.inr ⟨rfl, rfl, rfl⟩⟩
theorem fp_Mod_34_10 : jFp "SharingRoomModel" "<init>" 34 10 21 (.array .int) := ⟨fl_Mod_34_10, "SharingRoomModel", T_Mod, 48, ty_Mod, rfl, tk_Mod, nm_Mod, rfl, Or.inr ⟨rfl, rfl, rfl⟩⟩
theorem fp_Mod_37_10 : jFp "SharingRoomModel" "<init>" 37 10 22 (.array .int) := ⟨fl_Mod_37_10, "SharingRoomModel", T_Mod, 48, ty_Mod, rfl, tk_Mod, nm_Mod, rfl, Or.inr ⟨rfl, rfl, rfl⟩⟩
theorem fp_Mod_40_10 : jFp "SharingRoomModel" "<init>" 40 10 28 (.array .int) := ⟨fl_Mod_40_10, "SharingRoomModel", T_Mod, 48, ty_Mod, rfl, tk_Mod, nm_Mod, rfl, Or.inr ⟨rfl, rfl, rfl⟩⟩
theorem fp_Mod_43_10 : jFp "SharingRoomModel" "<init>" 43 10 29 (.array .int) := ⟨fl_Mod_43_10, "SharingRoomModel", T_Mod, 48, ty_Mod, rfl, tk_Mod, nm_Mod, rfl, Or.inr ⟨rfl, rfl, rfl⟩⟩
theorem fp_Mod_46_10 : jFp "SharingRoomModel" "<init>" 46 10 30 (.array .int) := ⟨fl_Mod_46_10, "SharingRoomModel", T_Mod, 48, ty_Mod, rfl, tk_Mod, nm_Mod, rfl, Or.inr ⟨rfl, rfl, rfl⟩⟩
theorem fp_Mod_49_10 : jFp "SharingRoomModel" "<init>" 49 10 31 (.array .int) := ⟨fl_Mod_49_10, "SharingRoomModel", T_Mod, 48, ty_Mod, rfl, tk_Mod, nm_Mod, rfl, Or.inr ⟨rfl, rfl, rfl⟩⟩
theorem fp_Mod_52_10 : jFp "SharingRoomModel" "<init>" 52 10 32 (.array .int) := ⟨fl_Mod_52_10, "SharingRoomModel", T_Mod, 48, ty_Mod, rfl, tk_Mod, nm_Mod, rfl, Or.inr ⟨rfl, rfl, rfl⟩⟩
theorem fp_Mod_55_10 : jFp "SharingRoomModel" "<init>" 55 10 33 (.array .int) := ⟨fl_Mod_55_10, "SharingRoomModel", T_Mod, 48, ty_Mod, rfl, tk_Mod, nm_Mod, rfl, Or.inr ⟨rfl, rfl, rfl⟩⟩
theorem fp_Mod_58_10 : jFp "SharingRoomModel" "<init>" 58 10 34 (.array .int) := ⟨fl_Mod_58_10, "SharingRoomModel", T_Mod, 48, ty_Mod, rfl, tk_Mod, nm_Mod, rfl, Or.inr ⟨rfl, rfl, rfl⟩⟩
theorem fp_Mod_61_10 : jFp "SharingRoomModel" "<init>" 61 10 35 (.array .int) := ⟨fl_Mod_61_10, "SharingRoomModel", T_Mod, 48, ty_Mod, rfl, tk_Mod, nm_Mod, rfl, Or.inr ⟨rfl, rfl, rfl⟩⟩
theorem fp_Mod_64_10 : jFp "SharingRoomModel" "<init>" 64 10 36 (.array .int) := ⟨fl_Mod_64_10, "SharingRoomModel", T_Mod, 48, ty_Mod, rfl, tk_Mod, nm_Mod, rfl, Or.inr ⟨rfl, rfl, rfl⟩⟩
theorem fp_Mod_67_10 : jFp "SharingRoomModel" "<init>" 67 10 37 (.array .int) := ⟨fl_Mod_67_10, "SharingRoomModel", T_Mod, 48, ty_Mod, rfl, tk_Mod, nm_Mod, rfl, Or.inr ⟨rfl, rfl, rfl⟩⟩
theorem fp_Mod_70_10 : jFp "SharingRoomModel" "<init>" 70 10 38 (.array .int) := ⟨fl_Mod_70_10, "SharingRoomModel", T_Mod, 48, ty_Mod, rfl, tk_Mod, nm_Mod, rfl, Or.inr ⟨rfl, rfl, rfl⟩⟩
theorem fp_Mod_73_10 : jFp "SharingRoomModel" "<init>" 73 10 41 (.array .int) := ⟨fl_Mod_73_10, "SharingRoomModel", T_Mod, 48, ty_Mod, rfl, tk_Mod, nm_Mod, rfl, Or.inr ⟨rfl, rfl, rfl⟩⟩
set_option maxRecDepth 100000 in
theorem w1050 : Cond.constant "SharingRoomModel" 76 (1116352408 : Int32) ∈ jWS := jm 1050 rfl rfl
set_option maxRecDepth 100000 in
theorem w1051 : Cond.constant "SharingRoomModel" 77 (1899447441 : Int32) ∈ jWS := jm 1051 rfl rfl
set_option maxRecDepth 100000 in
theorem w1052 : Cond.constant "SharingRoomModel" 78 (-1245643825 : Int32) ∈ jWS := jm 1052 rfl rfl
set_option maxRecDepth 100000 in
theorem w1053 : Cond.constant "SharingRoomModel" 79 (-373957723 : Int32) ∈ jWS := jm 1053 rfl rfl
set_option maxRecDepth 100000 in
theorem w1054 : Cond.constant "SharingRoomModel" 80 (961987163 : Int32) ∈ jWS := jm 1054 rfl rfl
set_option maxRecDepth 100000 in
theorem w1055 : Cond.constant "SharingRoomModel" 81 (1508970993 : Int32) ∈ jWS := jm 1055 rfl rfl
set_option maxRecDepth 100000 in
theorem w1056 : Cond.constant "SharingRoomModel" 82 (-1841331548 : Int32) ∈ jWS := jm 1056 rfl rfl
set_option maxRecDepth 100000 in
theorem w1057 : Cond.constant "SharingRoomModel" 83 (-1424204075 : Int32) ∈ jWS := jm 1057 rfl rfl
set_option maxRecDepth 100000 in
theorem w1058 : Cond.constant "SharingRoomModel" 84 (-670586216 : Int32) ∈ jWS := jm 1058 rfl rfl
set_option maxRecDepth 100000 in
theorem w1059 : Cond.constant "SharingRoomModel" 85 (310598401 : Int32) ∈ jWS := jm 1059 rfl rfl
set_option maxRecDepth 100000 in
theorem w1060 : Cond.constant "SharingRoomModel" 86 (607225278 : Int32) ∈ jWS := jm 1060 rfl rfl
set_option maxRecDepth 100000 in
theorem w1061 : Cond.constant "SharingRoomModel" 87 (1426881987 : Int32) ∈ jWS := jm 1061 rfl rfl
set_option maxRecDepth 100000 in
theorem w1062 : Cond.constant "SharingRoomModel" 88 (1925078388 : Int32) ∈ jWS := jm 1062 rfl rfl
set_option maxRecDepth 100000 in
theorem w1063 : Cond.constant "SharingRoomModel" 89 (-2132889090 : Int32) ∈ jWS := jm 1063 rfl rfl
set_option maxRecDepth 100000 in
theorem w1064 : Cond.constant "SharingRoomModel" 90 (-1680079193 : Int32) ∈ jWS := jm 1064 rfl rfl
set_option maxRecDepth 100000 in
theorem w1065 : Cond.constant "SharingRoomModel" 91 (-1046744716 : Int32) ∈ jWS := jm 1065 rfl rfl
set_option maxRecDepth 100000 in
theorem w1066 : Cond.constant "SharingRoomModel" 92 (-459576895 : Int32) ∈ jWS := jm 1066 rfl rfl
set_option maxRecDepth 100000 in
theorem w1067 : Cond.constant "SharingRoomModel" 93 (-272742522 : Int32) ∈ jWS := jm 1067 rfl rfl
set_option maxRecDepth 100000 in
theorem w1068 : Cond.constant "SharingRoomModel" 94 (264347078 : Int32) ∈ jWS := jm 1068 rfl rfl
set_option maxRecDepth 100000 in
theorem w1069 : Cond.constant "SharingRoomModel" 95 (604807628 : Int32) ∈ jWS := jm 1069 rfl rfl
set_option maxRecDepth 100000 in
theorem w1070 : Cond.constant "SharingRoomModel" 96 (770255983 : Int32) ∈ jWS := jm 1070 rfl rfl
set_option maxRecDepth 100000 in
theorem w1071 : Cond.constant "SharingRoomModel" 97 (1249150122 : Int32) ∈ jWS := jm 1071 rfl rfl
set_option maxRecDepth 100000 in
theorem w1072 : Cond.constant "SharingRoomModel" 98 (1555081692 : Int32) ∈ jWS := jm 1072 rfl rfl
set_option maxRecDepth 100000 in
theorem w1073 : Cond.constant "SharingRoomModel" 99 (1996064986 : Int32) ∈ jWS := jm 1073 rfl rfl
set_option maxRecDepth 100000 in
theorem w1074 : Cond.constant "SharingRoomModel" 100 (-1740746414 : Int32) ∈ jWS := jm 1074 rfl rfl
set_option maxRecDepth 100000 in
theorem w1075 : Cond.constant "SharingRoomModel" 101 (-1473132947 : Int32) ∈ jWS := jm 1075 rfl rfl
set_option maxRecDepth 100000 in
theorem w1076 : Cond.constant "SharingRoomModel" 102 (-1341970488 : Int32) ∈ jWS := jm 1076 rfl rfl
set_option maxRecDepth 100000 in
theorem w1077 : Cond.constant "SharingRoomModel" 103 (-1084653625 : Int32) ∈ jWS := jm 1077 rfl rfl
set_option maxRecDepth 100000 in
theorem w1078 : Cond.constant "SharingRoomModel" 104 (-958395405 : Int32) ∈ jWS := jm 1078 rfl rfl
set_option maxRecDepth 100000 in
theorem w1079 : Cond.constant "SharingRoomModel" 105 (-710438585 : Int32) ∈ jWS := jm 1079 rfl rfl
set_option maxRecDepth 100000 in
theorem w1080 : Cond.constant "SharingRoomModel" 106 (113926993 : Int32) ∈ jWS := jm 1080 rfl rfl
set_option maxRecDepth 100000 in
theorem w1081 : Cond.constant "SharingRoomModel" 107 (338241895 : Int32) ∈ jWS := jm 1081 rfl rfl
theorem fp_Mod_108_10 : jFp "SharingRoomModel" "<init>" 108 10 42 (.array .int) := ⟨fl_Mod_108_10, "SharingRoomModel", T_Mod, 48, ty_Mod, rfl, tk_Mod, nm_Mod, rfl, Or.inr ⟨rfl, rfl, rfl⟩⟩
set_option maxRecDepth 100000 in
theorem w1082 : Cond.constant "SharingRoomModel" 111 (666307205 : Int32) ∈ jWS := jm 1082 rfl rfl
set_option maxRecDepth 100000 in
theorem w1083 : Cond.constant "SharingRoomModel" 112 (773529912 : Int32) ∈ jWS := jm 1083 rfl rfl
set_option maxRecDepth 100000 in
theorem w1084 : Cond.constant "SharingRoomModel" 113 (1294757372 : Int32) ∈ jWS := jm 1084 rfl rfl
set_option maxRecDepth 100000 in
theorem w1085 : Cond.constant "SharingRoomModel" 114 (1396182291 : Int32) ∈ jWS := jm 1085 rfl rfl
set_option maxRecDepth 100000 in
theorem w1086 : Cond.constant "SharingRoomModel" 115 (1695183700 : Int32) ∈ jWS := jm 1086 rfl rfl
set_option maxRecDepth 100000 in
theorem w1087 : Cond.constant "SharingRoomModel" 116 (1986661051 : Int32) ∈ jWS := jm 1087 rfl rfl
set_option maxRecDepth 100000 in
theorem w1088 : Cond.constant "SharingRoomModel" 117 (-2117940946 : Int32) ∈ jWS := jm 1088 rfl rfl
set_option maxRecDepth 100000 in
theorem w1089 : Cond.constant "SharingRoomModel" 118 (-1838011259 : Int32) ∈ jWS := jm 1089 rfl rfl
set_option maxRecDepth 100000 in
theorem w1090 : Cond.constant "SharingRoomModel" 119 (-1564481375 : Int32) ∈ jWS := jm 1090 rfl rfl
set_option maxRecDepth 100000 in
theorem w1091 : Cond.constant "SharingRoomModel" 120 (-1474664885 : Int32) ∈ jWS := jm 1091 rfl rfl
set_option maxRecDepth 100000 in
theorem w1092 : Cond.constant "SharingRoomModel" 121 (-1035236496 : Int32) ∈ jWS := jm 1092 rfl rfl
set_option maxRecDepth 100000 in
theorem w1093 : Cond.constant "SharingRoomModel" 122 (-949202525 : Int32) ∈ jWS := jm 1093 rfl rfl
set_option maxRecDepth 100000 in
theorem w1094 : Cond.constant "SharingRoomModel" 123 (-778901479 : Int32) ∈ jWS := jm 1094 rfl rfl
set_option maxRecDepth 100000 in
theorem w1095 : Cond.constant "SharingRoomModel" 124 (-694614492 : Int32) ∈ jWS := jm 1095 rfl rfl
set_option maxRecDepth 100000 in
theorem w1096 : Cond.constant "SharingRoomModel" 125 (-200395387 : Int32) ∈ jWS := jm 1096 rfl rfl
set_option maxRecDepth 100000 in
theorem w1097 : Cond.constant "SharingRoomModel" 126 (275423344 : Int32) ∈ jWS := jm 1097 rfl rfl
set_option maxRecDepth 100000 in
theorem w1098 : Cond.constant "SharingRoomModel" 127 (430227734 : Int32) ∈ jWS := jm 1098 rfl rfl
set_option maxRecDepth 100000 in
theorem w1099 : Cond.constant "SharingRoomModel" 128 (506948616 : Int32) ∈ jWS := jm 1099 rfl rfl
set_option maxRecDepth 100000 in
theorem w1100 : Cond.constant "SharingRoomModel" 129 (659060556 : Int32) ∈ jWS := jm 1100 rfl rfl
set_option maxRecDepth 100000 in
theorem w1101 : Cond.constant "SharingRoomModel" 130 (883997877 : Int32) ∈ jWS := jm 1101 rfl rfl
set_option maxRecDepth 100000 in
theorem w1102 : Cond.constant "SharingRoomModel" 131 (958139571 : Int32) ∈ jWS := jm 1102 rfl rfl
set_option maxRecDepth 100000 in
theorem w1103 : Cond.constant "SharingRoomModel" 132 (1322822218 : Int32) ∈ jWS := jm 1103 rfl rfl
set_option maxRecDepth 100000 in
theorem w1104 : Cond.constant "SharingRoomModel" 133 (1537002063 : Int32) ∈ jWS := jm 1104 rfl rfl
set_option maxRecDepth 100000 in
theorem w1105 : Cond.constant "SharingRoomModel" 134 (1747873779 : Int32) ∈ jWS := jm 1105 rfl rfl
set_option maxRecDepth 100000 in
theorem w1106 : Cond.constant "SharingRoomModel" 135 (1955562222 : Int32) ∈ jWS := jm 1106 rfl rfl
set_option maxRecDepth 100000 in
theorem w1107 : Cond.constant "SharingRoomModel" 136 (2024104815 : Int32) ∈ jWS := jm 1107 rfl rfl
set_option maxRecDepth 100000 in
theorem w1108 : Cond.constant "SharingRoomModel" 137 (-2067236844 : Int32) ∈ jWS := jm 1108 rfl rfl
set_option maxRecDepth 100000 in
theorem w1109 : Cond.constant "SharingRoomModel" 138 (-1933114872 : Int32) ∈ jWS := jm 1109 rfl rfl
set_option maxRecDepth 100000 in
theorem w1110 : Cond.constant "SharingRoomModel" 139 (-1866530822 : Int32) ∈ jWS := jm 1110 rfl rfl
set_option maxRecDepth 100000 in
theorem w1111 : Cond.constant "SharingRoomModel" 140 (-1538233109 : Int32) ∈ jWS := jm 1111 rfl rfl
set_option maxRecDepth 100000 in
theorem w1112 : Cond.constant "SharingRoomModel" 141 (-1090935817 : Int32) ∈ jWS := jm 1112 rfl rfl
set_option maxRecDepth 100000 in
theorem w1113 : Cond.constant "SharingRoomModel" 142 (-965641998 : Int32) ∈ jWS := jm 1113 rfl rfl
theorem fp_Mod_143_10 : jFp "SharingRoomModel" "<init>" 143 10 43 (.array .int) := ⟨fl_Mod_143_10, "SharingRoomModel", T_Mod, 48, ty_Mod, rfl, tk_Mod, nm_Mod, rfl, Or.inr ⟨rfl, rfl, rfl⟩⟩
theorem fp_Mod_146_10 : jFp "SharingRoomModel" "<init>" 146 10 44 (.array .int) := ⟨fl_Mod_146_10, "SharingRoomModel", T_Mod, 48, ty_Mod, rfl, tk_Mod, nm_Mod, rfl, Or.inr ⟨rfl, rfl, rfl⟩⟩
set_option maxRecDepth 100000 in
theorem w1114 : Cond.constant "SharingRoomModel" 149 (1779033703 : Int32) ∈ jWS := jm 1114 rfl rfl
set_option maxRecDepth 100000 in
theorem w1115 : Cond.constant "SharingRoomModel" 150 (-1150833019 : Int32) ∈ jWS := jm 1115 rfl rfl
set_option maxRecDepth 100000 in
theorem w1116 : Cond.constant "SharingRoomModel" 151 (1013904242 : Int32) ∈ jWS := jm 1116 rfl rfl
set_option maxRecDepth 100000 in
theorem w1117 : Cond.constant "SharingRoomModel" 152 (-1521486534 : Int32) ∈ jWS := jm 1117 rfl rfl
set_option maxRecDepth 100000 in
theorem w1118 : Cond.constant "SharingRoomModel" 153 (1359893119 : Int32) ∈ jWS := jm 1118 rfl rfl
set_option maxRecDepth 100000 in
theorem w1119 : Cond.constant "SharingRoomModel" 154 (-1694144372 : Int32) ∈ jWS := jm 1119 rfl rfl
set_option maxRecDepth 100000 in
theorem w1120 : Cond.constant "SharingRoomModel" 155 (528734635 : Int32) ∈ jWS := jm 1120 rfl rfl
set_option maxRecDepth 100000 in
theorem w1121 : Cond.constant "SharingRoomModel" 156 (1541459225 : Int32) ∈ jWS := jm 1121 rfl rfl
theorem fp_Mod_157_10 : jFp "SharingRoomModel" "<init>" 157 10 45 (.array .int) := ⟨fl_Mod_157_10, "SharingRoomModel", T_Mod, 48, ty_Mod, rfl, tk_Mod, nm_Mod, rfl, Or.inr ⟨rfl, rfl, rfl⟩⟩
theorem fp_Mod_160_10 : jFp "SharingRoomModel" "<init>" 160 10 46 (.array .int) := ⟨fl_Mod_160_10, "SharingRoomModel", T_Mod, 48, ty_Mod, rfl, tk_Mod, nm_Mod, rfl, Or.inr ⟨rfl, rfl, rfl⟩⟩
theorem fp_Mod_163_10 : jFp "SharingRoomModel" "<init>" 163 10 47 (.array .int) := ⟨fl_Mod_163_10, "SharingRoomModel", T_Mod, 48, ty_Mod, rfl, tk_Mod, nm_Mod, rfl, Or.inr ⟨rfl, rfl, rfl⟩⟩
set_option maxRecDepth 100000 in
theorem w1124 : Cond.code ⟨"SharingRoomModel", "added", "(I)I"⟩ prog_14_method_4_code 8 (some FieldType.int) ∈ jWS := jm 1124 rfl rfl
theorem L0_Mod_added : jL0 y_Mod_added m_Mod_added 1 := ⟨w1124, w75, ⟨by decide +kernel, by decide +kernel⟩, by decide +kernel, by decide +kernel⟩
set_option maxRecDepth 100000 in
theorem w1122 : Cond.methodLink "SharingRoomModel" 166 ⟨"SharingRoomModel", "added", "(I)I"⟩ ∈ jWS := jm 1122 rfl rfl
set_option maxRecDepth 100000 in
theorem w1123 : Cond.static ⟨"SharingRoomModel", "added", "(I)I"⟩ ∈ jWS := jm 1123 rfl rfl
def sg0 : jS := fun K => if K = 42 then (upd (upd (upd (upd (upd (upd (upd (upd (upd (upd (upd (upd (upd (upd (upd (upd (upd (upd (upd (upd (upd (upd (upd (upd (upd (upd (upd (upd (upd (upd (upd (upd (fun _ => 0) (0 : Int32).toNatClampNeg 1116352408) (1 : Int32).toNatClampNeg 1899447441) (2 : Int32).toNatClampNeg (-1245643825)) (3 : Int32).toNatClampNeg (-373957723)) (4 : Int32).toNatClampNeg 961987163) (5 : Int32).toNatClampNeg 1508970993) (6 : Int32).toNatClampNeg (-1841331548)) (7 : Int32).toNatClampNeg (-1424204075)) (8 : Int32).toNatClampNeg (-670586216)) (9 : Int32).toNatClampNeg 310598401) (10 : Int32).toNatClampNeg 607225278) (11 : Int32).toNatClampNeg 1426881987) (12 : Int32).toNatClampNeg 1925078388) (13 : Int32).toNatClampNeg (-2132889090)) (14 : Int32).toNatClampNeg (-1680079193)) (15 : Int32).toNatClampNeg (-1046744716)) (16 : Int32).toNatClampNeg (-459576895)) (17 : Int32).toNatClampNeg (-272742522)) (18 : Int32).toNatClampNeg 264347078) (19 : Int32).toNatClampNeg 604807628) (20 : Int32).toNatClampNeg 770255983) (21 : Int32).toNatClampNeg 1249150122) (22 : Int32).toNatClampNeg 1555081692) (23 : Int32).toNatClampNeg 1996064986) (24 : Int32).toNatClampNeg (-1740746414)) (25 : Int32).toNatClampNeg (-1473132947)) (26 : Int32).toNatClampNeg (-1341970488)) (27 : Int32).toNatClampNeg (-1084653625)) (28 : Int32).toNatClampNeg (-958395405)) (29 : Int32).toNatClampNeg (-710438585)) (30 : Int32).toNatClampNeg 113926993) (31 : Int32).toNatClampNeg 338241895) else if K = 43 then (upd (upd (upd (upd (upd (upd (upd (upd (upd (upd (upd (upd (upd (upd (upd (upd (upd (upd (upd (upd (upd (upd (upd (upd (upd (upd (upd (upd (upd (upd (upd (upd (fun _ => 0) (0 : Int32).toNatClampNeg 666307205) (1 : Int32).toNatClampNeg 773529912) (2 : Int32).toNatClampNeg 1294757372) (3 : Int32).toNatClampNeg 1396182291) (4 : Int32).toNatClampNeg 1695183700) (5 : Int32).toNatClampNeg 1986661051) (6 : Int32).toNatClampNeg (-2117940946)) (7 : Int32).toNatClampNeg (-1838011259)) (8 : Int32).toNatClampNeg (-1564481375)) (9 : Int32).toNatClampNeg (-1474664885)) (10 : Int32).toNatClampNeg (-1035236496)) (11 : Int32).toNatClampNeg (-949202525)) (12 : Int32).toNatClampNeg (-778901479)) (13 : Int32).toNatClampNeg (-694614492)) (14 : Int32).toNatClampNeg (-200395387)) (15 : Int32).toNatClampNeg 275423344) (16 : Int32).toNatClampNeg 430227734) (17 : Int32).toNatClampNeg 506948616) (18 : Int32).toNatClampNeg 659060556) (19 : Int32).toNatClampNeg 883997877) (20 : Int32).toNatClampNeg 958139571) (21 : Int32).toNatClampNeg 1322822218) (22 : Int32).toNatClampNeg 1537002063) (23 : Int32).toNatClampNeg 1747873779) (24 : Int32).toNatClampNeg 1955562222) (25 : Int32).toNatClampNeg 2024104815) (26 : Int32).toNatClampNeg (-2067236844)) (27 : Int32).toNatClampNeg (-1933114872)) (28 : Int32).toNatClampNeg (-1866530822)) (29 : Int32).toNatClampNeg (-1538233109)) (30 : Int32).toNatClampNeg (-1090935817)) (31 : Int32).toNatClampNeg (-965641998)) else if K = 45 then (upd (upd (upd (upd (upd (upd (upd (upd (fun _ => 0) (0 : Int32).toNatClampNeg 1779033703) (1 : Int32).toNatClampNeg (-1150833019)) (2 : Int32).toNatClampNeg 1013904242) (3 : Int32).toNatClampNeg (-1521486534)) (4 : Int32).toNatClampNeg 1359893119) (5 : Int32).toNatClampNeg (-1694144372)) (6 : Int32).toNatClampNeg 528734635) (7 : Int32).toNatClampNeg 1541459225) else fun _ => 0
def L_Mod_init_753 : Nat → jS → Option (jS)
  | 0, _ => none
  | n + 1, s55 =>
    if jin 1 2 then
    if jin (s55 8 (1 : Int32).toNatClampNeg) 31 then
    if (s55 7 (s55 8 (1 : Int32).toNatClampNeg).toNatClampNeg) = 1362 then
      some s55
    else
      if jin 1 2 then
      if jin 1 2 then
      jlet (va_up s55 8 (upd (s55 8) (1 : Int32).toNatClampNeg ((s55 8 (1 : Int32).toNatClampNeg) + 1))) fun s60 =>
      L_Mod_init_753 n s60
      else none
      else none
    else none
    else none

def L_Mod_init_724 : Nat → jS → Option (jS)
  | 0, _ => none
  | n + 1, s45 =>
    if jin 0 2 then
    if jin (s45 8 (0 : Int32).toNatClampNeg) 1019 then
    if (s45 6 (s45 8 (0 : Int32).toNatClampNeg).toNatClampNeg) = 9 then
      some s45
    else
      if jin 0 2 then
      if jin 0 2 then
      jlet (va_up s45 8 (upd (s45 8) (0 : Int32).toNatClampNeg ((s45 8 (0 : Int32).toNatClampNeg) + 1))) fun s50 =>
      L_Mod_init_724 n s50
      else none
      else none
    else none
    else none

def L_Mod_init_695 : Nat → Int32 → jS → Option (Int32 × jS)
  | 0, _, _ => none
  | n + 1, x31, s32 =>
    if 31 ≤ x31 then
      some (x31, s32)
    else
      if jin (x31 - 1) 31 then
      Option.bind (f_Mod_added (s32 7 (x31 - 1).toNatClampNeg)) fun x35 =>
      if jin x31 31 then
      jlet (va_up s32 7 (upd (s32 7) x31.toNatClampNeg x35)) fun s37 =>
      jlet (x31 + 1) fun x40 =>
      L_Mod_init_695 n x40 s37
      else none
      else none

def L_Mod_init_647 : Nat → Int32 → Int32 → jS → Option (Int32 × Int32 × jS)
  | 0, _, _, _ => none
  | n + 1, x10, x11, s12 =>
    if 1019 ≤ x11 then
      some (x10, x11, s12)
    else
      if jin x11 1019 then
      jlet (va_up s12 6 (upd (s12 6) x11.toNatClampNeg x10)) fun s14 =>
      jlet (jrem (x10 * 4) 2039) fun x17 =>
      jlet (x11 + 1) fun x18 =>
      L_Mod_init_647 n x17 x18 s14
      else none

def f_Mod_init (s : jS) : Option (jS) :=
  Option.bind (L_Mod_init_647 jF 1 0 s) fun (x21, x22, s23) =>
  if jin 0 31 then
  jlet (va_up s23 7 (upd (s23 7) (0 : Int32).toNatClampNeg 4000)) fun s25 =>
  if jin 1 31 then
  jlet (va_up s25 7 (upd (s25 7) (1 : Int32).toNatClampNeg 140)) fun s28 =>
  Option.bind (L_Mod_init_695 jF 2 s28) fun (x42, s43) =>
  Option.bind (L_Mod_init_724 jF s43) fun s53 =>
  Option.bind (L_Mod_init_753 jF s53) fun s63 =>
  some s63
  else none
  else none

set_option maxRecDepth 20000 in
theorem lp_Mod_init_753 {ad : Nat → Nat} {G : jG} {P : jR → va_W → Prop} : ∀ (n : Nat) (s55 : jS) (r : jS), L_Mod_init_753 n s55 = some r → J G m_Mod_init 1 28 2823 P 783 [(0, .ref (ad 0))] [] (mkR ad G r) 28 2823 → J G m_Mod_init 1 28 2823 P 753 [(0, .ref (ad 0))] [] (mkR ad G s55) 28 2823 := by
  intro n
  induction n with
  | zero =>
    intro s55 r H
    cases (show none = some r from H)
  | succ n ih =>
    intro s55 r H kx
    have H : (
    if jin 1 2 then
    if jin (s55 8 (1 : Int32).toNatClampNeg) 31 then
    if (s55 7 (s55 8 (1 : Int32).toNatClampNeg).toNatClampNeg) = 1362 then
      some s55
    else
      if jin 1 2 then
      if jin 1 2 then
      jlet (va_up s55 8 (upd (s55 8) (1 : Int32).toNatClampNeg ((s55 8 (1 : Int32).toNatClampNeg) + 1))) fun s60 =>
      L_Mod_init_753 n s60
      else none
      else none
    else none
    else none) = some r := H
    refine j_aload_n (pc := 753) 0 (jd k_Mod_init_11 28 rfl) rfl ?_
    refine j_get (pc := 754) (fs := flR ad s55) (v := .ref (ad 5)) fl_Mod_22_10 0 (jd k_Mod_init_11 29 rfl) rfl rfl ?_
    refine j_aload_n (pc := 757) 0 (jd k_Mod_init_11 30 rfl) rfl ?_
    refine j_get (pc := 758) (fs := flR ad s55) (v := .ref (ad 6)) fl_Mod_25_10 0 (jd k_Mod_init_11 31 rfl) rfl rfl ?_
    refine j_iconst (pc := 761) (v := 1) (jd k_Mod_init_11 32 rfl) (by decide) ?_
    obtain ⟨h56, H⟩ := ochk H
    refine j_iald (pc := 762) (f := s55 8) 6 (jd k_Mod_init_11 33 rfl) rfl (jin.vp h56) ?_
    obtain ⟨h57, H⟩ := ochk H
    refine j_iald (pc := 763) (f := s55 7) 5 (jd k_Mod_init_11 34 rfl) rfl (jin.vp h57) ?_
    refine j_sipush (pc := 764) (v := 1362) (jd k_Mod_init_11 35 rfl) (by decide) ?_
    refine j_icmp_eq (pc := 767) (tgt := 783) (jd k_Mod_init_11 36 rfl) rfl (fun h58 => ?_) (fun h58 => ?_)
    · rw [if_pos h58] at H
      cases H
      exact kx
    · rw [if_neg h58] at H
      refine j_aload_n (pc := 770) 0 (jd k_Mod_init_11 37 rfl) rfl ?_
      refine j_get (pc := 771) (fs := flR ad s55) (v := .ref (ad 6)) fl_Mod_25_10 0 (jd k_Mod_init_11 38 rfl) rfl rfl ?_
      refine j_iconst (pc := 774) (v := 1) (jd k_Mod_init_11 39 rfl) (by decide) ?_
      refine j_dup2 (pc := 775) (jd k_Mod_init_12 0 rfl) rfl rfl ?_
      obtain ⟨h59, H⟩ := ochk H
      refine j_iald (pc := 776) (f := s55 8) 6 (jd k_Mod_init_12 1 rfl) rfl (jin.vp h59) ?_
      refine j_iconst (pc := 777) (v := 1) (jd k_Mod_init_12 2 rfl) (by decide) ?_
      refine j_iadd (pc := 778) (jd k_Mod_init_12 3 rfl) ?_
      obtain ⟨h62, H⟩ := ochk H
      obtain ⟨s60, e61, H⟩ := olet H
      refine j_iast (pc := 779) (f := s55 8) 6 (jd k_Mod_init_12 4 rfl) rfl (jin.vp h62) ((waR_8 ad G s55 _).trans (congrArg (mkR ad G) e61)) ?_
      refine j_goto (pc := 780) (tgt := 753) (jd k_Mod_init_12 5 rfl) rfl ?_
      exact ih s60 _ H kx

set_option maxRecDepth 20000 in
theorem lp_Mod_init_724 {ad : Nat → Nat} {G : jG} {P : jR → va_W → Prop} : ∀ (n : Nat) (s45 : jS) (r : jS), L_Mod_init_724 n s45 = some r → J G m_Mod_init 1 28 2823 P 753 [(0, .ref (ad 0))] [] (mkR ad G r) 28 2823 → J G m_Mod_init 1 28 2823 P 724 [(0, .ref (ad 0))] [] (mkR ad G s45) 28 2823 := by
  intro n
  induction n with
  | zero =>
    intro s45 r H
    cases (show none = some r from H)
  | succ n ih =>
    intro s45 r H kx
    have H : (
    if jin 0 2 then
    if jin (s45 8 (0 : Int32).toNatClampNeg) 1019 then
    if (s45 6 (s45 8 (0 : Int32).toNatClampNeg).toNatClampNeg) = 9 then
      some s45
    else
      if jin 0 2 then
      if jin 0 2 then
      jlet (va_up s45 8 (upd (s45 8) (0 : Int32).toNatClampNeg ((s45 8 (0 : Int32).toNatClampNeg) + 1))) fun s50 =>
      L_Mod_init_724 n s50
      else none
      else none
    else none
    else none) = some r := H
    refine j_aload_n (pc := 724) 0 (jd k_Mod_init_11 10 rfl) rfl ?_
    refine j_get (pc := 725) (fs := flR ad s45) (v := .ref (ad 4)) fl_Mod_19_10 0 (jd k_Mod_init_11 11 rfl) rfl rfl ?_
    refine j_aload_n (pc := 728) 0 (jd k_Mod_init_11 12 rfl) rfl ?_
    refine j_get (pc := 729) (fs := flR ad s45) (v := .ref (ad 6)) fl_Mod_25_10 0 (jd k_Mod_init_11 13 rfl) rfl rfl ?_
    refine j_iconst (pc := 732) (v := 0) (jd k_Mod_init_11 14 rfl) (by decide) ?_
    obtain ⟨h46, H⟩ := ochk H
    refine j_iald (pc := 733) (f := s45 8) 6 (jd k_Mod_init_11 15 rfl) rfl (jin.vp h46) ?_
    obtain ⟨h47, H⟩ := ochk H
    refine j_iald (pc := 734) (f := s45 6) 4 (jd k_Mod_init_11 16 rfl) rfl (jin.vp h47) ?_
    refine j_bipush (pc := 735) (v := 9) (jd k_Mod_init_11 17 rfl) (by decide) ?_
    refine j_icmp_eq (pc := 737) (tgt := 753) (jd k_Mod_init_11 18 rfl) rfl (fun h48 => ?_) (fun h48 => ?_)
    · rw [if_pos h48] at H
      cases H
      exact kx
    · rw [if_neg h48] at H
      refine j_aload_n (pc := 740) 0 (jd k_Mod_init_11 19 rfl) rfl ?_
      refine j_get (pc := 741) (fs := flR ad s45) (v := .ref (ad 6)) fl_Mod_25_10 0 (jd k_Mod_init_11 20 rfl) rfl rfl ?_
      refine j_iconst (pc := 744) (v := 0) (jd k_Mod_init_11 21 rfl) (by decide) ?_
      refine j_dup2 (pc := 745) (jd k_Mod_init_11 22 rfl) rfl rfl ?_
      obtain ⟨h49, H⟩ := ochk H
      refine j_iald (pc := 746) (f := s45 8) 6 (jd k_Mod_init_11 23 rfl) rfl (jin.vp h49) ?_
      refine j_iconst (pc := 747) (v := 1) (jd k_Mod_init_11 24 rfl) (by decide) ?_
      refine j_iadd (pc := 748) (jd k_Mod_init_11 25 rfl) ?_
      obtain ⟨h52, H⟩ := ochk H
      obtain ⟨s50, e51, H⟩ := olet H
      refine j_iast (pc := 749) (f := s45 8) 6 (jd k_Mod_init_11 26 rfl) rfl (jin.vp h52) ((waR_8 ad G s45 _).trans (congrArg (mkR ad G) e51)) ?_
      refine j_goto (pc := 750) (tgt := 724) (jd k_Mod_init_11 27 rfl) rfl ?_
      exact ih s50 _ H kx

set_option maxRecDepth 20000 in
theorem lp_Mod_init_695 {ad : Nat → Nat} {G : jG} {P : jR → va_W → Prop} : ∀ (n : Nat) (x31 : Int32) (s32 : jS) (r : Int32 × jS), L_Mod_init_695 n x31 s32 = some r → J G m_Mod_init 1 28 2823 P 724 [(0, .ref (ad 0)), (2, .int r.1)] [] (mkR ad G r.2) 28 2823 → J G m_Mod_init 1 28 2823 P 695 [(0, .ref (ad 0)), (2, .int x31)] [] (mkR ad G s32) 28 2823 := by
  intro n
  induction n with
  | zero =>
    intro x31 s32 r H
    cases (show none = some r from H)
  | succ n ih =>
    intro x31 s32 r H kx
    have H : (
    if 31 ≤ x31 then
      some (x31, s32)
    else
      if jin (x31 - 1) 31 then
      Option.bind (f_Mod_added (s32 7 (x31 - 1).toNatClampNeg)) fun x35 =>
      if jin x31 31 then
      jlet (va_up s32 7 (upd (s32 7) x31.toNatClampNeg x35)) fun s37 =>
      jlet (x31 + 1) fun x40 =>
      L_Mod_init_695 n x40 s37
      else none
      else none) = some r := H
    refine j_iload_n (pc := 695) 1 (jd k_Mod_init_10 34 rfl) rfl ?_
    refine j_bipush (pc := 696) (v := 31) (jd k_Mod_init_10 35 rfl) (by decide) ?_
    refine j_icmp_ge (pc := 698) (tgt := 724) (jd k_Mod_init_10 36 rfl) rfl (fun h33 => ?_) (fun h33 => ?_)
    · rw [if_pos h33] at H
      cases H
      exact kx
    · rw [if_neg h33] at H
      refine j_aload_n (pc := 701) 0 (jd k_Mod_init_10 37 rfl) rfl ?_
      refine j_get (pc := 702) (fs := flR ad s32) (v := .ref (ad 5)) fl_Mod_22_10 0 (jd k_Mod_init_10 38 rfl) rfl rfl ?_
      refine j_iload_n (pc := 705) 1 (jd k_Mod_init_10 39 rfl) rfl ?_
      refine j_aload_n (pc := 706) 0 (jd k_Mod_init_11 0 rfl) rfl ?_
      refine j_get (pc := 707) (fs := flR ad s32) (v := .ref (ad 5)) fl_Mod_22_10 0 (jd k_Mod_init_11 1 rfl) rfl rfl ?_
      refine j_iload_n (pc := 710) 1 (jd k_Mod_init_11 2 rfl) rfl ?_
      refine j_iconst (pc := 711) (v := 1) (jd k_Mod_init_11 3 rfl) (by decide) ?_
      refine j_isub (pc := 712) (jd k_Mod_init_11 4 rfl) ?_
      obtain ⟨h34, H⟩ := ochk H
      refine j_iald (pc := 713) (f := s32 7) 5 (jd k_Mod_init_11 5 rfl) rfl (jin.vp h34) ?_
      obtain ⟨x35, h36, H⟩ := obnd H
      refine jc_S (pc := 714) (st := [.int x31, .ref (ad 5)]) (c_Mod_added G _ (s32 7 (x31 - 1).toNatClampNeg) _ h36) L0_Mod_added w1122 w1123 (jd k_Mod_init_11 6 rfl) rfl (Nat.le_of_ble_eq_true rfl) (by decide) (Nat.le_refl _) (Nat.le_refl _) rfl rfl ?_
      obtain ⟨h39, H⟩ := ochk H
      obtain ⟨s37, e38, H⟩ := olet H
      refine j_iast (pc := 717) (f := s32 7) 5 (jd k_Mod_init_11 7 rfl) rfl (jin.vp h39) ((waR_7 ad G s32 _).trans (congrArg (mkR ad G) e38)) ?_
      obtain ⟨x40, e41, H⟩ := olet H
      refine j_iinc (pc := 718) (lv' := [(0, .ref (ad 0)), (2, .int x40)]) 1 (jd k_Mod_init_11 8 rfl) rfl e41 rfl (Nat.le_of_ble_eq_true rfl) rfl ?_
      refine j_goto (pc := 721) (tgt := 695) (jd k_Mod_init_11 9 rfl) rfl ?_
      exact ih x40 s37 _ H kx

set_option maxRecDepth 20000 in
theorem lp_Mod_init_647 {ad : Nat → Nat} {G : jG} {P : jR → va_W → Prop} : ∀ (n : Nat) (x10 : Int32) (x11 : Int32) (s12 : jS) (r : Int32 × Int32 × jS), L_Mod_init_647 n x10 x11 s12 = some r → J G m_Mod_init 1 28 2823 P 675 [(0, .ref (ad 0)), (1, .int r.1), (2, .int r.2.1)] [] (mkR ad G r.2.2) 28 2823 → J G m_Mod_init 1 28 2823 P 647 [(0, .ref (ad 0)), (1, .int x10), (2, .int x11)] [] (mkR ad G s12) 28 2823 := by
  intro n
  induction n with
  | zero =>
    intro x10 x11 s12 r H
    cases (show none = some r from H)
  | succ n ih =>
    intro x10 x11 s12 r H kx
    have H : (
    if 1019 ≤ x11 then
      some (x10, x11, s12)
    else
      if jin x11 1019 then
      jlet (va_up s12 6 (upd (s12 6) x11.toNatClampNeg x10)) fun s14 =>
      jlet (jrem (x10 * 4) 2039) fun x17 =>
      jlet (x11 + 1) fun x18 =>
      L_Mod_init_647 n x17 x18 s14
      else none) = some r := H
    refine j_iload_n (pc := 647) 2 (jd k_Mod_init_10 6 rfl) rfl ?_
    refine j_sipush (pc := 648) (v := 1019) (jd k_Mod_init_10 7 rfl) (by decide) ?_
    refine j_icmp_ge (pc := 651) (tgt := 675) (jd k_Mod_init_10 8 rfl) rfl (fun h13 => ?_) (fun h13 => ?_)
    · rw [if_pos h13] at H
      cases H
      exact kx
    · rw [if_neg h13] at H
      refine j_aload_n (pc := 654) 0 (jd k_Mod_init_10 9 rfl) rfl ?_
      refine j_get (pc := 655) (fs := flR ad s12) (v := .ref (ad 4)) fl_Mod_19_10 0 (jd k_Mod_init_10 10 rfl) rfl rfl ?_
      refine j_iload_n (pc := 658) 2 (jd k_Mod_init_10 11 rfl) rfl ?_
      refine j_iload_n (pc := 659) 1 (jd k_Mod_init_10 12 rfl) rfl ?_
      obtain ⟨h16, H⟩ := ochk H
      obtain ⟨s14, e15, H⟩ := olet H
      refine j_iast (pc := 660) (f := s12 6) 4 (jd k_Mod_init_10 13 rfl) rfl (jin.vp h16) ((waR_6 ad G s12 _).trans (congrArg (mkR ad G) e15)) ?_
      refine j_iload_n (pc := 661) 1 (jd k_Mod_init_10 14 rfl) rfl ?_
      refine j_iconst (pc := 662) (v := 4) (jd k_Mod_init_10 15 rfl) (by decide) ?_
      refine j_imul (pc := 663) (jd k_Mod_init_10 16 rfl) ?_
      refine j_sipush (pc := 664) (v := 2039) (jd k_Mod_init_10 17 rfl) (by decide) ?_
      refine j_irem (pc := 667) (jd k_Mod_init_10 18 rfl) (by decide) ?_
      obtain ⟨x17, e20, H⟩ := olet H
      refine j_topi e20 ?_
      refine j_istore_n (pc := 668) (lv' := [(0, .ref (ad 0)), (1, .int x17), (2, .int x11)]) (jd k_Mod_init_10 19 rfl) rfl (Nat.le_of_ble_eq_true rfl) rfl ?_
      obtain ⟨x18, e19, H⟩ := olet H
      refine j_iinc (pc := 669) (lv' := [(0, .ref (ad 0)), (1, .int x17), (2, .int x18)]) 2 (jd k_Mod_init_10 20 rfl) rfl e19 rfl (Nat.le_of_ble_eq_true rfl) rfl ?_
      refine j_goto (pc := 672) (tgt := 647) (jd k_Mod_init_10 21 rfl) rfl ?_
      exact ih x17 x18 s14 _ H kx

set_option maxRecDepth 20000 in
theorem w_Mod_init {G : jG} {P : jR → va_W → Prop} (ad : Nat → Nat) (s r : jS) (H : f_Mod_init s = some r) (K : J G m_Mod_init 1 28 2823 P 783 [(0, .ref (ad 0))] [] (mkR ad G r) 28 2823) : J G m_Mod_init 1 28 2823 P 643 [(0, .ref (ad 0))] [] (mkR ad G s) 28 2823 := by
  have H : (
  Option.bind (L_Mod_init_647 jF 1 0 s) fun (x21, x22, s23) =>
  if jin 0 31 then
  jlet (va_up s23 7 (upd (s23 7) (0 : Int32).toNatClampNeg 4000)) fun s25 =>
  if jin 1 31 then
  jlet (va_up s25 7 (upd (s25 7) (1 : Int32).toNatClampNeg 140)) fun s28 =>
  Option.bind (L_Mod_init_695 jF 2 s28) fun (x42, s43) =>
  Option.bind (L_Mod_init_724 jF s43) fun s53 =>
  Option.bind (L_Mod_init_753 jF s53) fun s63 =>
  some s63
  else none
  else none) = some r := H
  refine j_iconst (pc := 643) (v := 1) (jd k_Mod_init_10 2 rfl) (by decide) ?_
  refine j_istore_n (pc := 644) (lv' := [(0, .ref (ad 0)), (1, .int 1)]) (jd k_Mod_init_10 3 rfl) rfl (Nat.le_of_ble_eq_true rfl) rfl ?_
  refine j_iconst (pc := 645) (v := 0) (jd k_Mod_init_10 4 rfl) (by decide) ?_
  refine j_istore_n (pc := 646) (lv' := [(0, .ref (ad 0)), (1, .int 1), (2, .int 0)]) (jd k_Mod_init_10 5 rfl) rfl (Nat.le_of_ble_eq_true rfl) rfl ?_
  obtain ⟨⟨x21, x22, s23⟩, h24, H⟩ := obnd H
  try dsimp only at H
  refine lp_Mod_init_647  jF 1 0 s _ h24 ?_
  refine j_pick (lv' := [(0, .ref (ad 0))]) [0] rfl ?_
  refine j_aload_n (pc := 675) 0 (jd k_Mod_init_10 22 rfl) rfl ?_
  refine j_get (pc := 676) (fs := flR ad s23) (v := .ref (ad 5)) fl_Mod_22_10 0 (jd k_Mod_init_10 23 rfl) rfl rfl ?_
  refine j_iconst (pc := 679) (v := 0) (jd k_Mod_init_10 24 rfl) (by decide) ?_
  refine j_sipush (pc := 680) (v := 4000) (jd k_Mod_init_10 25 rfl) (by decide) ?_
  obtain ⟨h27, H⟩ := ochk H
  obtain ⟨s25, e26, H⟩ := olet H
  refine j_iast (pc := 683) (f := s23 7) 5 (jd k_Mod_init_10 26 rfl) rfl (jin.vp h27) ((waR_7 ad G s23 _).trans (congrArg (mkR ad G) e26)) ?_
  refine j_aload_n (pc := 684) 0 (jd k_Mod_init_10 27 rfl) rfl ?_
  refine j_get (pc := 685) (fs := flR ad s25) (v := .ref (ad 5)) fl_Mod_22_10 0 (jd k_Mod_init_10 28 rfl) rfl rfl ?_
  refine j_iconst (pc := 688) (v := 1) (jd k_Mod_init_10 29 rfl) (by decide) ?_
  refine j_sipush (pc := 689) (v := 140) (jd k_Mod_init_10 30 rfl) (by decide) ?_
  obtain ⟨h30, H⟩ := ochk H
  obtain ⟨s28, e29, H⟩ := olet H
  refine j_iast (pc := 692) (f := s25 7) 5 (jd k_Mod_init_10 31 rfl) rfl (jin.vp h30) ((waR_7 ad G s25 _).trans (congrArg (mkR ad G) e29)) ?_
  refine j_iconst (pc := 693) (v := 2) (jd k_Mod_init_10 32 rfl) (by decide) ?_
  refine j_istore_n (pc := 694) (lv' := [(0, .ref (ad 0)), (2, .int 2)]) (jd k_Mod_init_10 33 rfl) rfl (Nat.le_of_ble_eq_true rfl) rfl ?_
  obtain ⟨⟨x42, s43⟩, h44, H⟩ := obnd H
  try dsimp only at H
  refine lp_Mod_init_695  jF 2 s28 _ h44 ?_
  refine j_pick (lv' := [(0, .ref (ad 0))]) [0] rfl ?_
  obtain ⟨s53, h54, H⟩ := obnd H
  refine lp_Mod_init_724  jF s43 _ h54 ?_
  obtain ⟨s63, h64, H⟩ := obnd H
  refine lp_Mod_init_753  jF s53 _ h64 ?_
  cases H
  exact K

