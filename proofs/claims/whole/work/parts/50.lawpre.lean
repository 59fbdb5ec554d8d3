set_option maxRecDepth 100000 in
theorem w436 : Cond.methodLink "SharingRoomLaw" 78 ⟨"SharingRoomLaw", "field", "(LSharingRoom;I)I"⟩ ∈ jWS := jm 436 rfl rfl
set_option maxRecDepth 100000 in
theorem w437 : Cond.static ⟨"SharingRoomLaw", "field", "(LSharingRoom;I)I"⟩ ∈ jWS := jm 437 rfl rfl
set_option maxRecDepth 100000 in
theorem w438 : Cond.codeWith ⟨"SharingRoomLaw", "field", "(LSharingRoom;I)I"⟩ method_3_code 3 (some FieldType.int) [(0, 5, 8, 13)] ∈ jWS := jm 438 rfl rfl
set_option maxRecDepth 100000 in
theorem w62 : Cond.initialized "SharingRoomLaw" ∈ jWS := jm 62 rfl rfl
theorem LW_Law_field : jLW y_Law_field m_Law_field 2 := ⟨w438, w62, ⟨by decide +kernel, by decide +kernel⟩, by decide +kernel, by decide +kernel⟩
set_option maxRecDepth 100000 in
theorem w1274 : Cond.methodLink "SharingRoomLaw" 83 ⟨"SharingRoomModel", "field", "(I)V"⟩ ∈ jWS := jm 1274 rfl rfl
set_option maxRecDepth 100000 in
theorem w1275 : Cond.instanceMethod ⟨"SharingRoomModel", "field", "(I)V"⟩ ∈ jWS := jm 1275 rfl rfl
set_option maxRecDepth 100000 in
theorem w1276 : Cond.selects "SharingRoomModel" ⟨"SharingRoomModel", "field", "(I)V"⟩ ⟨"SharingRoomModel", "field", "(I)V"⟩ ∈ jWS := jm 1276 rfl rfl
set_option maxRecDepth 100000 in
theorem w1277 : Cond.code ⟨"SharingRoomModel", "field", "(I)V"⟩ prog_14_method_11_code 2 none ∈ jWS := jm 1277 rfl rfl
theorem L0_Mod_field : jL0 y_Mod_field m_Mod_field 1 := ⟨w1277, w75, ⟨by decide +kernel, by decide +kernel⟩, by decide +kernel, by decide +kernel⟩
set_option maxRecDepth 100000 in
theorem w1270 : Cond.methodLink "SharingRoomLaw" 84 ⟨"SharingRoomModel", "thrown", "()I"⟩ ∈ jWS := jm 1270 rfl rfl
set_option maxRecDepth 100000 in
theorem w1271 : Cond.instanceMethod ⟨"SharingRoomModel", "thrown", "()I"⟩ ∈ jWS := jm 1271 rfl rfl
set_option maxRecDepth 100000 in
theorem w1272 : Cond.selects "SharingRoomModel" ⟨"SharingRoomModel", "thrown", "()I"⟩ ⟨"SharingRoomModel", "thrown", "()I"⟩ ∈ jWS := jm 1272 rfl rfl
set_option maxRecDepth 100000 in
theorem w1273 : Cond.code ⟨"SharingRoomModel", "thrown", "()I"⟩ prog_14_method_2_code 1 (some FieldType.int) ∈ jWS := jm 1273 rfl rfl
theorem L0_Mod_thrown : jL0 y_Mod_thrown m_Mod_thrown 0 := ⟨w1273, w75, ⟨by decide +kernel, by decide +kernel⟩, by decide +kernel, by decide +kernel⟩
set_option maxRecDepth 100000 in
theorem w515 : Cond.methodLink "SharingRoomLaw" 87 ⟨"SharingRoomLaw", "point", "(LSharingRoom;II[J)I"⟩ ∈ jWS := jm 515 rfl rfl
set_option maxRecDepth 100000 in
theorem w516 : Cond.static ⟨"SharingRoomLaw", "point", "(LSharingRoom;II[J)I"⟩ ∈ jWS := jm 516 rfl rfl
set_option maxRecDepth 100000 in
theorem w517 : Cond.codeWith ⟨"SharingRoomLaw", "point", "(LSharingRoom;II[J)I"⟩ method_4_code 5 (some FieldType.int) [(0, 10, 13, 13), (0, 10, 17, 19)] ∈ jWS := jm 517 rfl rfl
theorem LW_Law_point : jLW y_Law_point m_Law_point 4 := ⟨w517, w62, ⟨by decide +kernel, by decide +kernel⟩, by decide +kernel, by decide +kernel⟩
set_option maxRecDepth 100000 in
theorem w1278 : Cond.methodLink "SharingRoomLaw" 90 ⟨"SharingRoomModel", "point", "(II)I"⟩ ∈ jWS := jm 1278 rfl rfl
set_option maxRecDepth 100000 in
theorem w1279 : Cond.instanceMethod ⟨"SharingRoomModel", "point", "(II)I"⟩ ∈ jWS := jm 1279 rfl rfl
set_option maxRecDepth 100000 in
theorem w1280 : Cond.selects "SharingRoomModel" ⟨"SharingRoomModel", "point", "(II)I"⟩ ⟨"SharingRoomModel", "point", "(II)I"⟩ ∈ jWS := jm 1280 rfl rfl
set_option maxRecDepth 100000 in
theorem w1281 : Cond.code ⟨"SharingRoomModel", "point", "(II)I"⟩ prog_14_method_12_code 4 (some FieldType.int) ∈ jWS := jm 1281 rfl rfl
theorem L0_Mod_point : jL0 y_Mod_point m_Mod_point 2 := ⟨w1281, w75, ⟨by decide +kernel, by decide +kernel⟩, by decide +kernel, by decide +kernel⟩
set_option maxRecDepth 100000 in
theorem w566 : Cond.methodLink "SharingRoomLaw" 91 ⟨"SharingRoomLaw", "combine", "(LSharingRoom;I[J)I"⟩ ∈ jWS := jm 566 rfl rfl
set_option maxRecDepth 100000 in
theorem w567 : Cond.static ⟨"SharingRoomLaw", "combine", "(LSharingRoom;I[J)I"⟩ ∈ jWS := jm 567 rfl rfl
set_option maxRecDepth 100000 in
theorem w568 : Cond.codeWith ⟨"SharingRoomLaw", "combine", "(LSharingRoom;I[J)I"⟩ method_5_code 4 (some FieldType.int) [(0, 9, 12, 13), (0, 9, 15, 19)] ∈ jWS := jm 568 rfl rfl
theorem LW_Law_combine : jLW y_Law_combine m_Law_combine 3 := ⟨w568, w62, ⟨by decide +kernel, by decide +kernel⟩, by decide +kernel, by decide +kernel⟩
set_option maxRecDepth 100000 in
theorem w1288 : Cond.methodLink "SharingRoomLaw" 94 ⟨"SharingRoomModel", "combine", "(I)I"⟩ ∈ jWS := jm 1288 rfl rfl
set_option maxRecDepth 100000 in
theorem w1289 : Cond.instanceMethod ⟨"SharingRoomModel", "combine", "(I)I"⟩ ∈ jWS := jm 1289 rfl rfl
set_option maxRecDepth 100000 in
theorem w1290 : Cond.selects "SharingRoomModel" ⟨"SharingRoomModel", "combine", "(I)I"⟩ ⟨"SharingRoomModel", "combine", "(I)I"⟩ ∈ jWS := jm 1290 rfl rfl
set_option maxRecDepth 100000 in
theorem w1291 : Cond.code ⟨"SharingRoomModel", "combine", "(I)I"⟩ prog_14_method_14_code 4 (some FieldType.int) ∈ jWS := jm 1291 rfl rfl
theorem L0_Mod_combine : jL0 y_Mod_combine m_Mod_combine 1 := ⟨w1291, w75, ⟨by decide +kernel, by decide +kernel⟩, by decide +kernel, by decide +kernel⟩
set_option maxRecDepth 100000 in
theorem w333 : Cond.methodLink "SharingRoomLaw" 95 ⟨"SharingRoom", "degree", "()I"⟩ ∈ jWS := jm 333 rfl rfl
set_option maxRecDepth 100000 in
theorem w334 : Cond.instanceMethod ⟨"SharingRoom", "degree", "()I"⟩ ∈ jWS := jm 334 rfl rfl
set_option maxRecDepth 100000 in
theorem w335 : Cond.selects "SharingRoom" ⟨"SharingRoom", "degree", "()I"⟩ ⟨"SharingRoom", "degree", "()I"⟩ ∈ jWS := jm 335 rfl rfl
set_option maxRecDepth 100000 in
theorem w336 : Cond.code ⟨"SharingRoom", "degree", "()I"⟩ prog_1_method_5_code 1 (some FieldType.int) ∈ jWS := jm 336 rfl rfl
theorem L0_SR_degree : jL0 y_SR_degree m_SR_degree 0 := ⟨w336, w63, ⟨by decide +kernel, by decide +kernel⟩, by decide +kernel, by decide +kernel⟩
set_option maxRecDepth 100000 in
theorem w1308 : Cond.methodLink "SharingRoomLaw" 98 ⟨"SharingRoomModel", "degree", "()I"⟩ ∈ jWS := jm 1308 rfl rfl
set_option maxRecDepth 100000 in
theorem w1309 : Cond.instanceMethod ⟨"SharingRoomModel", "degree", "()I"⟩ ∈ jWS := jm 1309 rfl rfl
set_option maxRecDepth 100000 in
theorem w1310 : Cond.selects "SharingRoomModel" ⟨"SharingRoomModel", "degree", "()I"⟩ ⟨"SharingRoomModel", "degree", "()I"⟩ ∈ jWS := jm 1310 rfl rfl
set_option maxRecDepth 100000 in
theorem w1311 : Cond.code ⟨"SharingRoomModel", "degree", "()I"⟩ prog_14_method_15_code 2 (some FieldType.int) ∈ jWS := jm 1311 rfl rfl
theorem L0_Mod_degree : jL0 y_Mod_degree m_Mod_degree 0 := ⟨w1311, w75, ⟨by decide +kernel, by decide +kernel⟩, by decide +kernel, by decide +kernel⟩
set_option maxRecDepth 100000 in
theorem w592 : Cond.methodLink "SharingRoomLaw" 99 ⟨"SharingRoomLaw", "begin", "(LSharingRoom;III)I"⟩ ∈ jWS := jm 592 rfl rfl
set_option maxRecDepth 100000 in
theorem w593 : Cond.static ⟨"SharingRoomLaw", "begin", "(LSharingRoom;III)I"⟩ ∈ jWS := jm 593 rfl rfl
set_option maxRecDepth 100000 in
theorem w594 : Cond.codeWith ⟨"SharingRoomLaw", "begin", "(LSharingRoom;III)I"⟩ method_6_code 5 (some FieldType.int) [(0, 7, 10, 13)] ∈ jWS := jm 594 rfl rfl
theorem LW_Law_begin : jLW y_Law_begin m_Law_begin 4 := ⟨w594, w62, ⟨by decide +kernel, by decide +kernel⟩, by decide +kernel, by decide +kernel⟩
set_option maxRecDepth 100000 in
theorem w1312 : Cond.methodLink "SharingRoomLaw" 102 ⟨"SharingRoomModel", "begin", "(III)V"⟩ ∈ jWS := jm 1312 rfl rfl
set_option maxRecDepth 100000 in
theorem w1313 : Cond.instanceMethod ⟨"SharingRoomModel", "begin", "(III)V"⟩ ∈ jWS := jm 1313 rfl rfl
set_option maxRecDepth 100000 in
theorem w1314 : Cond.selects "SharingRoomModel" ⟨"SharingRoomModel", "begin", "(III)V"⟩ ⟨"SharingRoomModel", "begin", "(III)V"⟩ ∈ jWS := jm 1314 rfl rfl
set_option maxRecDepth 100000 in
theorem w1315 : Cond.code ⟨"SharingRoomModel", "begin", "(III)V"⟩ prog_14_method_17_code 5 none ∈ jWS := jm 1315 rfl rfl
theorem L0_Mod_begin : jL0 y_Mod_begin m_Mod_begin 3 := ⟨w1315, w75, ⟨by decide +kernel, by decide +kernel⟩, by decide +kernel, by decide +kernel⟩
set_option maxRecDepth 100000 in
theorem w626 : Cond.methodLink "SharingRoomLaw" 103 ⟨"SharingRoomLaw", "give", "(LSharingRoom;IIII)I"⟩ ∈ jWS := jm 626 rfl rfl
set_option maxRecDepth 100000 in
theorem w627 : Cond.static ⟨"SharingRoomLaw", "give", "(LSharingRoom;IIII)I"⟩ ∈ jWS := jm 627 rfl rfl
set_option maxRecDepth 100000 in
theorem w628 : Cond.codeWith ⟨"SharingRoomLaw", "give", "(LSharingRoom;IIII)I"⟩ method_7_code 6 (some FieldType.int) [(0, 9, 12, 19), (0, 9, 16, 13)] ∈ jWS := jm 628 rfl rfl
theorem LW_Law_give : jLW y_Law_give m_Law_give 5 := ⟨w628, w62, ⟨by decide +kernel, by decide +kernel⟩, by decide +kernel, by decide +kernel⟩
set_option maxRecDepth 100000 in
theorem w1320 : Cond.methodLink "SharingRoomLaw" 106 ⟨"SharingRoomModel", "give", "(IIII)V"⟩ ∈ jWS := jm 1320 rfl rfl
set_option maxRecDepth 100000 in
theorem w1321 : Cond.instanceMethod ⟨"SharingRoomModel", "give", "(IIII)V"⟩ ∈ jWS := jm 1321 rfl rfl
set_option maxRecDepth 100000 in
theorem w1322 : Cond.selects "SharingRoomModel" ⟨"SharingRoomModel", "give", "(IIII)V"⟩ ⟨"SharingRoomModel", "give", "(IIII)V"⟩ ∈ jWS := jm 1322 rfl rfl
set_option maxRecDepth 100000 in
theorem w1323 : Cond.code ⟨"SharingRoomModel", "give", "(IIII)V"⟩ prog_14_method_19_code 6 none ∈ jWS := jm 1323 rfl rfl
theorem L0_Mod_give : jL0 y_Mod_give m_Mod_give 4 := ⟨w1323, w75, ⟨by decide +kernel, by decide +kernel⟩, by decide +kernel, by decide +kernel⟩
set_option maxRecDepth 100000 in
theorem w667 : Cond.methodLink "SharingRoomLaw" 107 ⟨"SharingRoomLaw", "fault", "(LSharingRoom;III)I"⟩ ∈ jWS := jm 667 rfl rfl
set_option maxRecDepth 100000 in
theorem w668 : Cond.static ⟨"SharingRoomLaw", "fault", "(LSharingRoom;III)I"⟩ ∈ jWS := jm 668 rfl rfl
set_option maxRecDepth 100000 in
theorem w669 : Cond.codeWith ⟨"SharingRoomLaw", "fault", "(LSharingRoom;III)I"⟩ method_8_code 5 (some FieldType.int) [(0, 7, 10, 19), (0, 7, 14, 13)] ∈ jWS := jm 669 rfl rfl
theorem LW_Law_fault : jLW y_Law_fault m_Law_fault 4 := ⟨w669, w62, ⟨by decide +kernel, by decide +kernel⟩, by decide +kernel, by decide +kernel⟩
set_option maxRecDepth 100000 in
theorem w1328 : Cond.methodLink "SharingRoomLaw" 109 ⟨"SharingRoomModel", "fault", "(III)V"⟩ ∈ jWS := jm 1328 rfl rfl
set_option maxRecDepth 100000 in
theorem w1329 : Cond.instanceMethod ⟨"SharingRoomModel", "fault", "(III)V"⟩ ∈ jWS := jm 1329 rfl rfl
set_option maxRecDepth 100000 in
theorem w1330 : Cond.selects "SharingRoomModel" ⟨"SharingRoomModel", "fault", "(III)V"⟩ ⟨"SharingRoomModel", "fault", "(III)V"⟩ ∈ jWS := jm 1330 rfl rfl
set_option maxRecDepth 100000 in
theorem w1331 : Cond.code ⟨"SharingRoomModel", "fault", "(III)V"⟩ prog_14_method_20_code 5 none ∈ jWS := jm 1331 rfl rfl
theorem L0_Mod_fault : jL0 y_Mod_fault m_Mod_fault 3 := ⟨w1331, w75, ⟨by decide +kernel, by decide +kernel⟩, by decide +kernel, by decide +kernel⟩
set_option maxRecDepth 100000 in
theorem w692 : Cond.methodLink "SharingRoomLaw" 110 ⟨"SharingRoomLaw", "crash", "(LSharingRoom;II)I"⟩ ∈ jWS := jm 692 rfl rfl
set_option maxRecDepth 100000 in
theorem w693 : Cond.static ⟨"SharingRoomLaw", "crash", "(LSharingRoom;II)I"⟩ ∈ jWS := jm 693 rfl rfl
set_option maxRecDepth 100000 in
theorem w694 : Cond.codeWith ⟨"SharingRoomLaw", "crash", "(LSharingRoom;II)I"⟩ method_9_code 4 (some FieldType.int) [(0, 6, 9, 19), (0, 6, 12, 13)] ∈ jWS := jm 694 rfl rfl
theorem LW_Law_crash : jLW y_Law_crash m_Law_crash 3 := ⟨w694, w62, ⟨by decide +kernel, by decide +kernel⟩, by decide +kernel, by decide +kernel⟩
set_option maxRecDepth 100000 in
theorem w1332 : Cond.methodLink "SharingRoomLaw" 113 ⟨"SharingRoomModel", "crash", "(II)V"⟩ ∈ jWS := jm 1332 rfl rfl
set_option maxRecDepth 100000 in
theorem w1333 : Cond.instanceMethod ⟨"SharingRoomModel", "crash", "(II)V"⟩ ∈ jWS := jm 1333 rfl rfl
set_option maxRecDepth 100000 in
theorem w1334 : Cond.selects "SharingRoomModel" ⟨"SharingRoomModel", "crash", "(II)V"⟩ ⟨"SharingRoomModel", "crash", "(II)V"⟩ ∈ jWS := jm 1334 rfl rfl
set_option maxRecDepth 100000 in
theorem w1335 : Cond.code ⟨"SharingRoomModel", "crash", "(II)V"⟩ prog_14_method_21_code 3 none ∈ jWS := jm 1335 rfl rfl
theorem L0_Mod_crash : jL0 y_Mod_crash m_Mod_crash 2 := ⟨w1335, w75, ⟨by decide +kernel, by decide +kernel⟩, by decide +kernel, by decide +kernel⟩
set_option maxRecDepth 100000 in
theorem w704 : Cond.methodLink "SharingRoomLaw" 114 ⟨"SharingRoomLaw", "next", "(LSharingRoom;[J)I"⟩ ∈ jWS := jm 704 rfl rfl
set_option maxRecDepth 100000 in
theorem w705 : Cond.static ⟨"SharingRoomLaw", "next", "(LSharingRoom;[J)I"⟩ ∈ jWS := jm 705 rfl rfl
set_option maxRecDepth 100000 in
theorem w706 : Cond.codeWith ⟨"SharingRoomLaw", "next", "(LSharingRoom;[J)I"⟩ method_10_code 3 (some FieldType.int) [(0, 8, 11, 19)] ∈ jWS := jm 706 rfl rfl
theorem LW_Law_next : jLW y_Law_next m_Law_next 2 := ⟨w706, w62, ⟨by decide +kernel, by decide +kernel⟩, by decide +kernel, by decide +kernel⟩
set_option maxRecDepth 100000 in
theorem w1336 : Cond.methodLink "SharingRoomLaw" 117 ⟨"SharingRoomModel", "next", "()I"⟩ ∈ jWS := jm 1336 rfl rfl
set_option maxRecDepth 100000 in
theorem w1337 : Cond.instanceMethod ⟨"SharingRoomModel", "next", "()I"⟩ ∈ jWS := jm 1337 rfl rfl
set_option maxRecDepth 100000 in
theorem w1338 : Cond.selects "SharingRoomModel" ⟨"SharingRoomModel", "next", "()I"⟩ ⟨"SharingRoomModel", "next", "()I"⟩ ∈ jWS := jm 1338 rfl rfl
set_option maxRecDepth 100000 in
theorem w1339 : Cond.code ⟨"SharingRoomModel", "next", "()I"⟩ prog_14_method_35_code 1 (some FieldType.int) ∈ jWS := jm 1339 rfl rfl
theorem L0_Mod_next : jL0 y_Mod_next m_Mod_next 0 := ⟨w1339, w75, ⟨by decide +kernel, by decide +kernel⟩, by decide +kernel, by decide +kernel⟩
set_option maxRecDepth 100000 in
theorem w369 : Cond.methodLink "SharingRoomLaw" 118 ⟨"SharingRoom", "state", "()I"⟩ ∈ jWS := jm 369 rfl rfl
set_option maxRecDepth 100000 in
theorem w370 : Cond.instanceMethod ⟨"SharingRoom", "state", "()I"⟩ ∈ jWS := jm 370 rfl rfl
set_option maxRecDepth 100000 in
theorem w371 : Cond.selects "SharingRoom" ⟨"SharingRoom", "state", "()I"⟩ ⟨"SharingRoom", "state", "()I"⟩ ∈ jWS := jm 371 rfl rfl
set_option maxRecDepth 100000 in
theorem w372 : Cond.code ⟨"SharingRoom", "state", "()I"⟩ prog_1_method_11_code 1 (some FieldType.int) ∈ jWS := jm 372 rfl rfl
theorem L0_SR_state : jL0 y_SR_state m_SR_state 0 := ⟨w372, w63, ⟨by decide +kernel, by decide +kernel⟩, by decide +kernel, by decide +kernel⟩
set_option maxRecDepth 100000 in
theorem w1426 : Cond.methodLink "SharingRoomLaw" 121 ⟨"SharingRoomModel", "state", "()I"⟩ ∈ jWS := jm 1426 rfl rfl
set_option maxRecDepth 100000 in
theorem w1427 : Cond.instanceMethod ⟨"SharingRoomModel", "state", "()I"⟩ ∈ jWS := jm 1427 rfl rfl
set_option maxRecDepth 100000 in
theorem w1428 : Cond.selects "SharingRoomModel" ⟨"SharingRoomModel", "state", "()I"⟩ ⟨"SharingRoomModel", "state", "()I"⟩ ∈ jWS := jm 1428 rfl rfl
set_option maxRecDepth 100000 in
theorem w1429 : Cond.code ⟨"SharingRoomModel", "state", "()I"⟩ prog_14_method_45_code 1 (some FieldType.int) ∈ jWS := jm 1429 rfl rfl
theorem L0_Mod_state : jL0 y_Mod_state m_Mod_state 0 := ⟨w1429, w75, ⟨by decide +kernel, by decide +kernel⟩, by decide +kernel, by decide +kernel⟩
set_option maxRecDepth 100000 in
theorem w377 : Cond.methodLink "SharingRoomLaw" 122 ⟨"SharingRoom", "parties", "(I)I"⟩ ∈ jWS := jm 377 rfl rfl
set_option maxRecDepth 100000 in
theorem w378 : Cond.instanceMethod ⟨"SharingRoom", "parties", "(I)I"⟩ ∈ jWS := jm 378 rfl rfl
set_option maxRecDepth 100000 in
theorem w379 : Cond.selects "SharingRoom" ⟨"SharingRoom", "parties", "(I)I"⟩ ⟨"SharingRoom", "parties", "(I)I"⟩ ∈ jWS := jm 379 rfl rfl
set_option maxRecDepth 100000 in
theorem w380 : Cond.code ⟨"SharingRoom", "parties", "(I)I"⟩ prog_1_method_12_code 2 (some FieldType.int) ∈ jWS := jm 380 rfl rfl
theorem L0_SR_parties : jL0 y_SR_parties m_SR_parties 1 := ⟨w380, w63, ⟨by decide +kernel, by decide +kernel⟩, by decide +kernel, by decide +kernel⟩
set_option maxRecDepth 100000 in
theorem w1430 : Cond.methodLink "SharingRoomLaw" 125 ⟨"SharingRoomModel", "parties", "(I)I"⟩ ∈ jWS := jm 1430 rfl rfl
set_option maxRecDepth 100000 in
theorem w1431 : Cond.instanceMethod ⟨"SharingRoomModel", "parties", "(I)I"⟩ ∈ jWS := jm 1431 rfl rfl
set_option maxRecDepth 100000 in
theorem w1432 : Cond.selects "SharingRoomModel" ⟨"SharingRoomModel", "parties", "(I)I"⟩ ⟨"SharingRoomModel", "parties", "(I)I"⟩ ∈ jWS := jm 1432 rfl rfl
set_option maxRecDepth 100000 in
theorem w1433 : Cond.code ⟨"SharingRoomModel", "parties", "(I)I"⟩ prog_14_method_47_code 4 (some FieldType.int) ∈ jWS := jm 1433 rfl rfl
theorem L0_Mod_parties : jL0 y_Mod_parties m_Mod_parties 1 := ⟨w1433, w75, ⟨by decide +kernel, by decide +kernel⟩, by decide +kernel, by decide +kernel⟩
set_option maxRecDepth 100000 in
theorem w869 : Cond.methodLink "SharingRoomLaw" 126 ⟨"SharingRoomLaw", "complaints", "(LSharingRoom;I[J)I"⟩ ∈ jWS := jm 869 rfl rfl
set_option maxRecDepth 100000 in
theorem w870 : Cond.static ⟨"SharingRoomLaw", "complaints", "(LSharingRoom;I[J)I"⟩ ∈ jWS := jm 870 rfl rfl
set_option maxRecDepth 100000 in
theorem w871 : Cond.codeWith ⟨"SharingRoomLaw", "complaints", "(LSharingRoom;I[J)I"⟩ method_11_code 4 (some FieldType.int) [(0, 9, 12, 13)] ∈ jWS := jm 871 rfl rfl
theorem LW_Law_complaints : jLW y_Law_complaints m_Law_complaints 3 := ⟨w871, w62, ⟨by decide +kernel, by decide +kernel⟩, by decide +kernel, by decide +kernel⟩
set_option maxRecDepth 100000 in
theorem w1438 : Cond.methodLink "SharingRoomLaw" 128 ⟨"SharingRoomModel", "complaints", "(I)I"⟩ ∈ jWS := jm 1438 rfl rfl
set_option maxRecDepth 100000 in
theorem w1439 : Cond.instanceMethod ⟨"SharingRoomModel", "complaints", "(I)I"⟩ ∈ jWS := jm 1439 rfl rfl
set_option maxRecDepth 100000 in
theorem w1440 : Cond.selects "SharingRoomModel" ⟨"SharingRoomModel", "complaints", "(I)I"⟩ ⟨"SharingRoomModel", "complaints", "(I)I"⟩ ∈ jWS := jm 1440 rfl rfl
set_option maxRecDepth 100000 in
theorem w1441 : Cond.code ⟨"SharingRoomModel", "complaints", "(I)I"⟩ prog_14_method_48_code 2 (some FieldType.int) ∈ jWS := jm 1441 rfl rfl
theorem L0_Mod_complaints : jL0 y_Mod_complaints m_Mod_complaints 1 := ⟨w1441, w75, ⟨by decide +kernel, by decide +kernel⟩, by decide +kernel, by decide +kernel⟩
set_option maxRecDepth 100000 in
theorem w880 : Cond.methodLink "SharingRoomLaw" 129 ⟨"SharingRoomLaw", "received", "(LSharingRoom;III[J)I"⟩ ∈ jWS := jm 880 rfl rfl
set_option maxRecDepth 100000 in
theorem w881 : Cond.static ⟨"SharingRoomLaw", "received", "(LSharingRoom;III[J)I"⟩ ∈ jWS := jm 881 rfl rfl
set_option maxRecDepth 100000 in
theorem w882 : Cond.codeWith ⟨"SharingRoomLaw", "received", "(LSharingRoom;III[J)I"⟩ method_12_code 6 (some FieldType.int) [(0, 12, 15, 13)] ∈ jWS := jm 882 rfl rfl
theorem LW_Law_received : jLW y_Law_received m_Law_received 5 := ⟨w882, w62, ⟨by decide +kernel, by decide +kernel⟩, by decide +kernel, by decide +kernel⟩
set_option maxRecDepth 100000 in
theorem w1442 : Cond.methodLink "SharingRoomLaw" 132 ⟨"SharingRoomModel", "received", "(III)I"⟩ ∈ jWS := jm 1442 rfl rfl
set_option maxRecDepth 100000 in
theorem w1443 : Cond.instanceMethod ⟨"SharingRoomModel", "received", "(III)I"⟩ ∈ jWS := jm 1443 rfl rfl
set_option maxRecDepth 100000 in
theorem w1444 : Cond.selects "SharingRoomModel" ⟨"SharingRoomModel", "received", "(III)I"⟩ ⟨"SharingRoomModel", "received", "(III)I"⟩ ∈ jWS := jm 1444 rfl rfl
set_option maxRecDepth 100000 in
theorem w1445 : Cond.code ⟨"SharingRoomModel", "received", "(III)I"⟩ prog_14_method_49_code 4 (some FieldType.int) ∈ jWS := jm 1445 rfl rfl
theorem L0_Mod_received : jL0 y_Mod_received m_Mod_received 3 := ⟨w1445, w75, ⟨by decide +kernel, by decide +kernel⟩, by decide +kernel, by decide +kernel⟩
set_option maxRecDepth 100000 in
theorem w891 : Cond.methodLink "SharingRoomLaw" 133 ⟨"SharingRoomLaw", "commitment", "(LSharingRoom;III[J)I"⟩ ∈ jWS := jm 891 rfl rfl
set_option maxRecDepth 100000 in
theorem w892 : Cond.static ⟨"SharingRoomLaw", "commitment", "(LSharingRoom;III[J)I"⟩ ∈ jWS := jm 892 rfl rfl
set_option maxRecDepth 100000 in
theorem w893 : Cond.codeWith ⟨"SharingRoomLaw", "commitment", "(LSharingRoom;III[J)I"⟩ method_13_code 6 (some FieldType.int) [(0, 12, 15, 13)] ∈ jWS := jm 893 rfl rfl
theorem LW_Law_commitment : jLW y_Law_commitment m_Law_commitment 5 := ⟨w893, w62, ⟨by decide +kernel, by decide +kernel⟩, by decide +kernel, by decide +kernel⟩
set_option maxRecDepth 100000 in
theorem w1446 : Cond.methodLink "SharingRoomLaw" 135 ⟨"SharingRoomModel", "commitment", "(III)I"⟩ ∈ jWS := jm 1446 rfl rfl
set_option maxRecDepth 100000 in
theorem w1447 : Cond.instanceMethod ⟨"SharingRoomModel", "commitment", "(III)I"⟩ ∈ jWS := jm 1447 rfl rfl
set_option maxRecDepth 100000 in
theorem w1448 : Cond.selects "SharingRoomModel" ⟨"SharingRoomModel", "commitment", "(III)I"⟩ ⟨"SharingRoomModel", "commitment", "(III)I"⟩ ∈ jWS := jm 1448 rfl rfl
set_option maxRecDepth 100000 in
theorem w1449 : Cond.code ⟨"SharingRoomModel", "commitment", "(III)I"⟩ prog_14_method_50_code 4 (some FieldType.int) ∈ jWS := jm 1449 rfl rfl
theorem L0_Mod_commitment : jL0 y_Mod_commitment m_Mod_commitment 3 := ⟨w1449, w75, ⟨by decide +kernel, by decide +kernel⟩, by decide +kernel, by decide +kernel⟩
set_option maxRecDepth 100000 in
theorem w902 : Cond.methodLink "SharingRoomLaw" 136 ⟨"SharingRoomLaw", "share", "(LSharingRoom;II[J)I"⟩ ∈ jWS := jm 902 rfl rfl
set_option maxRecDepth 100000 in
theorem w903 : Cond.static ⟨"SharingRoomLaw", "share", "(LSharingRoom;II[J)I"⟩ ∈ jWS := jm 903 rfl rfl
set_option maxRecDepth 100000 in
theorem w904 : Cond.codeWith ⟨"SharingRoomLaw", "share", "(LSharingRoom;II[J)I"⟩ method_14_code 5 (some FieldType.int) [(0, 10, 13, 13)] ∈ jWS := jm 904 rfl rfl
theorem LW_Law_share : jLW y_Law_share m_Law_share 4 := ⟨w904, w62, ⟨by decide +kernel, by decide +kernel⟩, by decide +kernel, by decide +kernel⟩
set_option maxRecDepth 100000 in
theorem w1450 : Cond.methodLink "SharingRoomLaw" 138 ⟨"SharingRoomModel", "share", "(II)I"⟩ ∈ jWS := jm 1450 rfl rfl
set_option maxRecDepth 100000 in
theorem w1451 : Cond.instanceMethod ⟨"SharingRoomModel", "share", "(II)I"⟩ ∈ jWS := jm 1451 rfl rfl
set_option maxRecDepth 100000 in
theorem w1452 : Cond.selects "SharingRoomModel" ⟨"SharingRoomModel", "share", "(II)I"⟩ ⟨"SharingRoomModel", "share", "(II)I"⟩ ∈ jWS := jm 1452 rfl rfl
set_option maxRecDepth 100000 in
theorem w1453 : Cond.code ⟨"SharingRoomModel", "share", "(II)I"⟩ prog_14_method_51_code 3 (some FieldType.int) ∈ jWS := jm 1453 rfl rfl
theorem L0_Mod_share : jL0 y_Mod_share m_Mod_share 2 := ⟨w1453, w75, ⟨by decide +kernel, by decide +kernel⟩, by decide +kernel, by decide +kernel⟩
set_option maxRecDepth 100000 in
theorem w416 : Cond.methodLink "SharingRoomLaw" 139 ⟨"SharingRoom", "board", "()I"⟩ ∈ jWS := jm 416 rfl rfl
set_option maxRecDepth 100000 in
theorem w417 : Cond.instanceMethod ⟨"SharingRoom", "board", "()I"⟩ ∈ jWS := jm 417 rfl rfl
set_option maxRecDepth 100000 in
theorem w418 : Cond.selects "SharingRoom" ⟨"SharingRoom", "board", "()I"⟩ ⟨"SharingRoom", "board", "()I"⟩ ∈ jWS := jm 418 rfl rfl
set_option maxRecDepth 100000 in
theorem w419 : Cond.code ⟨"SharingRoom", "board", "()I"⟩ prog_1_method_17_code 1 (some FieldType.int) ∈ jWS := jm 419 rfl rfl
theorem L0_SR_board : jL0 y_SR_board m_SR_board 0 := ⟨w419, w63, ⟨by decide +kernel, by decide +kernel⟩, by decide +kernel, by decide +kernel⟩
set_option maxRecDepth 100000 in
theorem w1454 : Cond.methodLink "SharingRoomLaw" 142 ⟨"SharingRoomModel", "board", "()I"⟩ ∈ jWS := jm 1454 rfl rfl
set_option maxRecDepth 100000 in
theorem w1455 : Cond.instanceMethod ⟨"SharingRoomModel", "board", "()I"⟩ ∈ jWS := jm 1455 rfl rfl
set_option maxRecDepth 100000 in
theorem w1456 : Cond.selects "SharingRoomModel" ⟨"SharingRoomModel", "board", "()I"⟩ ⟨"SharingRoomModel", "board", "()I"⟩ ∈ jWS := jm 1456 rfl rfl
set_option maxRecDepth 100000 in
theorem w1457 : Cond.code ⟨"SharingRoomModel", "board", "()I"⟩ prog_14_method_52_code 1 (some FieldType.int) ∈ jWS := jm 1457 rfl rfl
theorem L0_Mod_board : jL0 y_Mod_board m_Mod_board 0 := ⟨w1457, w75, ⟨by decide +kernel, by decide +kernel⟩, by decide +kernel, by decide +kernel⟩
set_option maxRecDepth 100000 in
theorem w913 : Cond.methodLink "SharingRoomLaw" 143 ⟨"SharingRoomLaw", "told", "(LSharingRoom;I[J)I"⟩ ∈ jWS := jm 913 rfl rfl
set_option maxRecDepth 100000 in
theorem w914 : Cond.static ⟨"SharingRoomLaw", "told", "(LSharingRoom;I[J)I"⟩ ∈ jWS := jm 914 rfl rfl
set_option maxRecDepth 100000 in
theorem w915 : Cond.codeWith ⟨"SharingRoomLaw", "told", "(LSharingRoom;I[J)I"⟩ method_15_code 4 (some FieldType.int) [(0, 9, 12, 60)] ∈ jWS := jm 915 rfl rfl
theorem LW_Law_told : jLW y_Law_told m_Law_told 3 := ⟨w915, w62, ⟨by decide +kernel, by decide +kernel⟩, by decide +kernel, by decide +kernel⟩
set_option maxRecDepth 100000 in
theorem w1458 : Cond.methodLink "SharingRoomLaw" 145 ⟨"SharingRoomModel", "told", "(I)I"⟩ ∈ jWS := jm 1458 rfl rfl
set_option maxRecDepth 100000 in
theorem w1459 : Cond.instanceMethod ⟨"SharingRoomModel", "told", "(I)I"⟩ ∈ jWS := jm 1459 rfl rfl
set_option maxRecDepth 100000 in
theorem w1460 : Cond.selects "SharingRoomModel" ⟨"SharingRoomModel", "told", "(I)I"⟩ ⟨"SharingRoomModel", "told", "(I)I"⟩ ∈ jWS := jm 1460 rfl rfl
set_option maxRecDepth 100000 in
theorem w1461 : Cond.code ⟨"SharingRoomModel", "told", "(I)I"⟩ prog_14_method_53_code 2 (some FieldType.int) ∈ jWS := jm 1461 rfl rfl
theorem L0_Mod_told : jL0 y_Mod_told m_Mod_told 1 := ⟨w1461, w75, ⟨by decide +kernel, by decide +kernel⟩, by decide +kernel, by decide +kernel⟩
set_option maxRecDepth 100000 in
theorem w941 : Cond.methodLink "SharingRoomLaw" 146 ⟨"SharingRoomLaw", "digest", "(LSharingRoom;I[J)I"⟩ ∈ jWS := jm 941 rfl rfl
set_option maxRecDepth 100000 in
theorem w942 : Cond.static ⟨"SharingRoomLaw", "digest", "(LSharingRoom;I[J)I"⟩ ∈ jWS := jm 942 rfl rfl
set_option maxRecDepth 100000 in
theorem w943 : Cond.codeWith ⟨"SharingRoomLaw", "digest", "(LSharingRoom;I[J)I"⟩ method_16_code 4 (some FieldType.int) [(0, 9, 12, 60)] ∈ jWS := jm 943 rfl rfl
theorem LW_Law_digest : jLW y_Law_digest m_Law_digest 3 := ⟨w943, w62, ⟨by decide +kernel, by decide +kernel⟩, by decide +kernel, by decide +kernel⟩
set_option maxRecDepth 100000 in
theorem w1466 : Cond.methodLink "SharingRoomLaw" 148 ⟨"SharingRoomModel", "digest", "(I)I"⟩ ∈ jWS := jm 1466 rfl rfl
set_option maxRecDepth 100000 in
theorem w1467 : Cond.instanceMethod ⟨"SharingRoomModel", "digest", "(I)I"⟩ ∈ jWS := jm 1467 rfl rfl
set_option maxRecDepth 100000 in
theorem w1468 : Cond.selects "SharingRoomModel" ⟨"SharingRoomModel", "digest", "(I)I"⟩ ⟨"SharingRoomModel", "digest", "(I)I"⟩ ∈ jWS := jm 1468 rfl rfl
set_option maxRecDepth 100000 in
theorem w1469 : Cond.code ⟨"SharingRoomModel", "digest", "(I)I"⟩ prog_14_method_59_code 4 (some FieldType.int) ∈ jWS := jm 1469 rfl rfl
theorem L0_Mod_digest : jL0 y_Mod_digest m_Mod_digest 1 := ⟨w1469, w75, ⟨by decide +kernel, by decide +kernel⟩, by decide +kernel, by decide +kernel⟩
set_option maxRecDepth 100000 in
theorem w428 : Cond.methodLink "SharingRoomLaw" 149 ⟨"SharingRoom", "key", "()I"⟩ ∈ jWS := jm 428 rfl rfl
set_option maxRecDepth 100000 in
theorem w429 : Cond.instanceMethod ⟨"SharingRoom", "key", "()I"⟩ ∈ jWS := jm 429 rfl rfl
set_option maxRecDepth 100000 in
theorem w430 : Cond.selects "SharingRoom" ⟨"SharingRoom", "key", "()I"⟩ ⟨"SharingRoom", "key", "()I"⟩ ∈ jWS := jm 430 rfl rfl
set_option maxRecDepth 100000 in
theorem w431 : Cond.code ⟨"SharingRoom", "key", "()I"⟩ prog_1_method_20_code 1 (some FieldType.int) ∈ jWS := jm 431 rfl rfl
theorem L0_SR_key : jL0 y_SR_key m_SR_key 0 := ⟨w431, w63, ⟨by decide +kernel, by decide +kernel⟩, by decide +kernel, by decide +kernel⟩
set_option maxRecDepth 100000 in
theorem w1462 : Cond.methodLink "SharingRoomLaw" 152 ⟨"SharingRoomModel", "key", "()I"⟩ ∈ jWS := jm 1462 rfl rfl
set_option maxRecDepth 100000 in
theorem w1463 : Cond.instanceMethod ⟨"SharingRoomModel", "key", "()I"⟩ ∈ jWS := jm 1463 rfl rfl
set_option maxRecDepth 100000 in
theorem w1464 : Cond.selects "SharingRoomModel" ⟨"SharingRoomModel", "key", "()I"⟩ ⟨"SharingRoomModel", "key", "()I"⟩ ∈ jWS := jm 1464 rfl rfl
set_option maxRecDepth 100000 in
theorem w1465 : Cond.code ⟨"SharingRoomModel", "key", "()I"⟩ prog_14_method_54_code 1 (some FieldType.int) ∈ jWS := jm 1465 rfl rfl
theorem L0_Mod_key : jL0 y_Mod_key m_Mod_key 0 := ⟨w1465, w75, ⟨by decide +kernel, by decide +kernel⟩, by decide +kernel, by decide +kernel⟩
set_option maxRecDepth 100000 in
theorem w976 : Cond.methodLink "SharingRoomLaw" 153 ⟨"SharingRoomLaw", "recover", "(LSharingRoom;I[J)I"⟩ ∈ jWS := jm 976 rfl rfl
set_option maxRecDepth 100000 in
theorem w977 : Cond.static ⟨"SharingRoomLaw", "recover", "(LSharingRoom;I[J)I"⟩ ∈ jWS := jm 977 rfl rfl
set_option maxRecDepth 100000 in
theorem w978 : Cond.codeWith ⟨"SharingRoomLaw", "recover", "(LSharingRoom;I[J)I"⟩ method_17_code 4 (some FieldType.int) [(0, 9, 12, 19), (0, 9, 15, 13)] ∈ jWS := jm 978 rfl rfl
theorem LW_Law_recover : jLW y_Law_recover m_Law_recover 3 := ⟨w978, w62, ⟨by decide +kernel, by decide +kernel⟩, by decide +kernel, by decide +kernel⟩
set_option maxRecDepth 100000 in
theorem w1485 : Cond.methodLink "SharingRoomLaw" 155 ⟨"SharingRoomModel", "recover", "(I)I"⟩ ∈ jWS := jm 1485 rfl rfl
set_option maxRecDepth 100000 in
theorem w1486 : Cond.instanceMethod ⟨"SharingRoomModel", "recover", "(I)I"⟩ ∈ jWS := jm 1486 rfl rfl
set_option maxRecDepth 100000 in
theorem w1487 : Cond.selects "SharingRoomModel" ⟨"SharingRoomModel", "recover", "(I)I"⟩ ⟨"SharingRoomModel", "recover", "(I)I"⟩ ∈ jWS := jm 1487 rfl rfl
set_option maxRecDepth 100000 in
theorem w1488 : Cond.code ⟨"SharingRoomModel", "recover", "(I)I"⟩ prog_14_method_61_code 3 (some FieldType.int) ∈ jWS := jm 1488 rfl rfl
theorem L0_Mod_recover : jL0 y_Mod_recover m_Mod_recover 1 := ⟨w1488, w75, ⟨by decide +kernel, by decide +kernel⟩, by decide +kernel, by decide +kernel⟩
set_option maxRecDepth 100000 in
theorem w1005 : Cond.methodLink "SharingRoomLaw" 156 ⟨"SharingRoomLaw", "refresh", "(LSharingRoom;)I"⟩ ∈ jWS := jm 1005 rfl rfl
set_option maxRecDepth 100000 in
theorem w1006 : Cond.static ⟨"SharingRoomLaw", "refresh", "(LSharingRoom;)I"⟩ ∈ jWS := jm 1006 rfl rfl
set_option maxRecDepth 100000 in
theorem w1007 : Cond.codeWith ⟨"SharingRoomLaw", "refresh", "(LSharingRoom;)I"⟩ method_18_code 2 (some FieldType.int) [(0, 4, 7, 19)] ∈ jWS := jm 1007 rfl rfl
theorem LW_Law_refresh : jLW y_Law_refresh m_Law_refresh 1 := ⟨w1007, w62, ⟨by decide +kernel, by decide +kernel⟩, by decide +kernel, by decide +kernel⟩
set_option maxRecDepth 100000 in
theorem w1493 : Cond.methodLink "SharingRoomLaw" 159 ⟨"SharingRoomModel", "refresh", "()V"⟩ ∈ jWS := jm 1493 rfl rfl
set_option maxRecDepth 100000 in
theorem w1494 : Cond.instanceMethod ⟨"SharingRoomModel", "refresh", "()V"⟩ ∈ jWS := jm 1494 rfl rfl
set_option maxRecDepth 100000 in
theorem w1495 : Cond.selects "SharingRoomModel" ⟨"SharingRoomModel", "refresh", "()V"⟩ ⟨"SharingRoomModel", "refresh", "()V"⟩ ∈ jWS := jm 1495 rfl rfl
set_option maxRecDepth 100000 in
theorem w1496 : Cond.code ⟨"SharingRoomModel", "refresh", "()V"⟩ prog_14_method_62_code 4 none ∈ jWS := jm 1496 rfl rfl
theorem L0_Mod_refresh : jL0 y_Mod_refresh m_Mod_refresh 0 := ⟨w1496, w75, ⟨by decide +kernel, by decide +kernel⟩, by decide +kernel, by decide +kernel⟩
set_option maxRecDepth 100000 in
theorem w1025 : Cond.methodLink "SharingRoomLaw" 160 ⟨"SharingRoomLaw", "handOn", "(LSharingRoom;III)I"⟩ ∈ jWS := jm 1025 rfl rfl
set_option maxRecDepth 100000 in
theorem w1026 : Cond.static ⟨"SharingRoomLaw", "handOn", "(LSharingRoom;III)I"⟩ ∈ jWS := jm 1026 rfl rfl
set_option maxRecDepth 100000 in
theorem w1027 : Cond.codeWith ⟨"SharingRoomLaw", "handOn", "(LSharingRoom;III)I"⟩ method_19_code 5 (some FieldType.int) [(0, 7, 10, 19), (0, 7, 14, 13)] ∈ jWS := jm 1027 rfl rfl
theorem LW_Law_handOn : jLW y_Law_handOn m_Law_handOn 4 := ⟨w1027, w62, ⟨by decide +kernel, by decide +kernel⟩, by decide +kernel, by decide +kernel⟩
set_option maxRecDepth 100000 in
theorem w1497 : Cond.methodLink "SharingRoomLaw" 162 ⟨"SharingRoomModel", "handOn", "(III)V"⟩ ∈ jWS := jm 1497 rfl rfl
set_option maxRecDepth 100000 in
theorem w1498 : Cond.instanceMethod ⟨"SharingRoomModel", "handOn", "(III)V"⟩ ∈ jWS := jm 1498 rfl rfl
set_option maxRecDepth 100000 in
theorem w1499 : Cond.selects "SharingRoomModel" ⟨"SharingRoomModel", "handOn", "(III)V"⟩ ⟨"SharingRoomModel", "handOn", "(III)V"⟩ ∈ jWS := jm 1499 rfl rfl
set_option maxRecDepth 100000 in
theorem w1500 : Cond.code ⟨"SharingRoomModel", "handOn", "(III)V"⟩ prog_14_method_63_code 9 none ∈ jWS := jm 1500 rfl rfl
theorem L0_Mod_handOn : jL0 y_Mod_handOn m_Mod_handOn 3 := ⟨w1500, w75, ⟨by decide +kernel, by decide +kernel⟩, by decide +kernel, by decide +kernel⟩
/-! ===== the law: its cases ===== -/
def lwW (ad ae : Nat → Nat) (G : jG) (s : jU) (o : Nat) (L : Nat → Int64) (sg : jS) : va_W := (mkC ad G s ++ [(o, .inl (G.1 2, 1, .inr (.inl L)))]) ++ mkR ae G sg
/-- the script has five ints at i -/
def lwIn (G : jG) (i : Int32) : Prop := ∀ j : Int32, j = 0 ∨ j = 1 ∨ j = 2 ∨ j = 3 ∨ j = 4 → vp_in (i + j) G.2.2.1
def lwx (G : jG) (i : Int32) (j : Int32) : Int32 := G.2.2.2 (i + j).toNatClampNeg
abbrev lw2 : List (String × Int32) := []
/-- both sides agree: no value, the state changes -/
def FaV (Rel : jU → jS → Prop) (cs : List (String × Int32)) (s : jU) (fc : Option (String ⊕ jU)) (fm : Option jS) : Prop := (∃ s2 g2, fc = some (.inr s2) ∧ fm = some g2 ∧ f_Mod_thrown g2 = some 0 ∧ Rel s2 g2) ∨ ∃ E c g2, (E, c) ∈ cs ∧ fc = some (.inl E) ∧ fm = some g2 ∧ f_Mod_thrown g2 = some c ∧ Rel s g2
/-- .. a value, the state changes -/
def FaI (Rel : jU → jS → Prop) (cs : List (String × Int32)) (s : jU) (fc : Option (String ⊕ (Int32 × jU))) (fm : Option (Int32 × jS)) : Prop := (∃ v s2 g2, fc = some (.inr (v, s2)) ∧ fm = some (v, g2) ∧ f_Mod_thrown g2 = some 0 ∧ Rel s2 g2) ∨ ∃ E c b g2, (E, c) ∈ cs ∧ fc = some (.inl E) ∧ fm = some (b, g2) ∧ f_Mod_thrown g2 = some c ∧ Rel s g2
/-- .. a value, the class is only read -/
def FaP (Rel : jU → jS → Prop) (cs : List (String × Int32)) (s : jU) (fc : Option (String ⊕ Int32)) (fm : Option (Int32 × jS)) : Prop := (∃ v g2, fc = some (.inr v) ∧ fm = some (v, g2) ∧ f_Mod_thrown g2 = some 0 ∧ Rel s g2) ∨ ∃ E c b g2, (E, c) ∈ cs ∧ fc = some (.inl E) ∧ fm = some (b, g2) ∧ f_Mod_thrown g2 = some c ∧ Rel s g2
/-- .. nothing is thrown -/
def FaQ (Rel : jU → jS → Prop) (s : jU) (fc : Option Int32) (fm : Option (Int32 × jS)) : Prop := ∃ v g2, fc = some v ∧ fm = some (v, g2) ∧ Rel s g2
def FaR (Rel : jU → jS → Prop) (fc : Option (Int32 × jU)) (fm : Option (Int32 × jS)) : Prop := ∃ v s2 g2, fc = some (v, s2) ∧ fm = some (v, g2) ∧ Rel s2 g2
theorem lg_cmp_self (x : Int64) : lg_cmp x x = 0 := by unfold lg_cmp; simp
theorem vp_updL_at (L : Nat → Int64) (x : Int64) : vp_updL L (0 : Int32).toNatClampNeg x (0 : Int32).toNatClampNeg = x := by simp [vp_updL]
theorem jq_SW {G : jG} {M : jM} {d mc ms : Nat} {P : jR → va_W → Prop} {pc : Nat} {lv : List (Nat × Value)} {st st2 : List Value} {ws : va_W} {k n : Nat} {ix nA d' mc' ms' : Nat} {y : MethodName} {M' : jM} {As stk : List Value} {R w w2 : va_W} {r : Option Value} (K : jConW G M' y d' mc' ms' As ws (jFrR R (jEq r w))) (L : jLW y M' nA) (hk : Cond.methodLink M.1 ix y ∈ jWS) (hi : Cond.static y ∈ jWS)
    (hd : decode M.2.1 pc = .ok (.invokestatic ix, 3)) (hn : As.length = nA) (hst : (st.map fun v => v.category).sum ≤ 8) (hdd : d' + 1 ≤ d) (hm : k + mc' ≤ mc) (hn2 : n + ms' ≤ ms) (hstk : stk = As.reverse ++ st) (hr : r.toList ++ st = st2) (hw : w ++ R = w2) (kk : J G M d mc ms P (pc + 3) lv st2 w2 (k + mc') (n + ms')) : J G M d mc ms P pc lv stk ws k n :=
  j_callSW K L hk hi hd hn hst hdd hm hn2 hstk (fun E w h => by obtain ⟨w0, -, h, -⟩ := h; cases h) (fun v ws' h => by
    obtain ⟨h1, h2⟩ := jFrR.eq h
    cases h1
    subst h2
    subst hr
    subst hw
    exact kk)
theorem jq_SW2 {G : jG} {M : jM} {d mc ms : Nat} {P : jR → va_W → Prop} {pc : Nat} {lv : List (Nat × Value)} {st st2 : List Value} {ws : va_W} {k n : Nat} {ix nA d' mc' ms' : Nat} {y : MethodName} {M' : jM} {As stk : List Value} {R R2 w w2 : va_W} {r : Option Value} (K : jConW G M' y d' mc' ms' As ws (jFrR R (jFrR R2 (jEq r w)))) (L : jLW y M' nA) (hk : Cond.methodLink M.1 ix y ∈ jWS) (hi : Cond.static y ∈ jWS)
    (hd : decode M.2.1 pc = .ok (.invokestatic ix, 3)) (hn : As.length = nA) (hst : (st.map fun v => v.category).sum ≤ 8) (hdd : d' + 1 ≤ d) (hm : k + mc' ≤ mc) (hn2 : n + ms' ≤ ms) (hstk : stk = As.reverse ++ st) (hr : r.toList ++ st = st2) (hw : (w ++ R2) ++ R = w2) (kk : J G M d mc ms P (pc + 3) lv st2 w2 (k + mc') (n + ms')) : J G M d mc ms P pc lv stk ws k n :=
  j_callSW K L hk hi hd hn hst hdd hm hn2 hstk (fun E w h => by obtain ⟨w0, -, w1, -, h, -⟩ := h; cases h) (fun v ws' h => by
    obtain ⟨h1, h2⟩ := jFrR.eq (by obtain ⟨w0, e0, h⟩ := h; exact ⟨w0, e0, jFrR.eq h⟩)
    cases h1
    subst h2
    subst hr
    subst hw
    exact kk)

